theorem dX12_laysMore_0 : decode cX12_laysMore 0 = .ok (.iconst 1, 1) := by decide +kernel
theorem dX12_laysMore_1 : decode cX12_laysMore 1 = .ok (.aload_n 0, 1) := by decide +kernel
theorem dX12_laysMore_2 : decode cX12_laysMore 2 = .ok (.getfield 13, 3) := by decide +kernel
theorem dX12_laysMore_5 : decode cX12_laysMore 5 = .ok (.iconst 1, 1) := by decide +kernel
theorem dX12_laysMore_6 : decode cX12_laysMore 6 = .ok (.iaload, 1) := by decide +kernel
theorem dX12_laysMore_7 : decode cX12_laysMore 7 = .ok (.ishl, 1) := by decide +kernel
theorem dX12_laysMore_8 : decode cX12_laysMore 8 = .ok (.iconst 1, 1) := by decide +kernel
theorem dX12_laysMore_9 : decode cX12_laysMore 9 = .ok (.isub, 1) := by decide +kernel
theorem dX12_laysMore_10 : decode cX12_laysMore 10 = .ok (.istore_n 3, 1) := by decide +kernel
theorem dX12_laysMore_11 : decode cX12_laysMore 11 = .ok (.iload_n 3, 1) := by decide +kernel
theorem dX12_laysMore_12 : decode cX12_laysMore 12 = .ok (.ifCond .le 190, 3) := by decide +kernel
theorem dX12_laysMore_15 : decode cX12_laysMore 15 = .ok (.iload_n 3, 1) := by decide +kernel
theorem dX12_laysMore_16 : decode cX12_laysMore 16 = .ok (.iload_n 1, 1) := by decide +kernel
theorem dX12_laysMore_17 : decode cX12_laysMore 17 = .ok (.iconst (-1), 1) := by decide +kernel
theorem dX12_laysMore_18 : decode cX12_laysMore 18 = .ok (.ixor, 1) := by decide +kernel
theorem dX12_laysMore_19 : decode cX12_laysMore 19 = .ok (.iand, 1) := by decide +kernel
theorem dX12_laysMore_20 : decode cX12_laysMore 20 = .ok (.ifCond .eq 6, 3) := by decide +kernel
theorem dX12_laysMore_23 : decode cX12_laysMore 23 = .ok (.goto 173, 3) := by decide +kernel
theorem dX12_laysMore_26 : decode cX12_laysMore 26 = .ok (.iconst 0, 1) := by decide +kernel
theorem dX12_laysMore_27 : decode cX12_laysMore 27 = .ok (.istore 4, 2) := by decide +kernel
theorem dX12_laysMore_29 : decode cX12_laysMore 29 = .ok (.iload 4, 2) := by decide +kernel
theorem dX12_laysMore_31 : decode cX12_laysMore 31 = .ok (.aload_n 0, 1) := by decide +kernel
theorem dX12_laysMore_32 : decode cX12_laysMore 32 = .ok (.getfield 13, 3) := by decide +kernel
theorem dX12_laysMore_35 : decode cX12_laysMore 35 = .ok (.iconst 1, 1) := by decide +kernel
theorem dX12_laysMore_36 : decode cX12_laysMore 36 = .ok (.iaload, 1) := by decide +kernel
theorem dX12_laysMore_37 : decode cX12_laysMore 37 = .ok (.if_icmp .ge 159, 3) := by decide +kernel
theorem dX12_laysMore_40 : decode cX12_laysMore 40 = .ok (.iload_n 3, 1) := by decide +kernel
theorem dX12_laysMore_41 : decode cX12_laysMore 41 = .ok (.i2l, 1) := by decide +kernel
theorem dX12_laysMore_42 : decode cX12_laysMore 42 = .ok (.iload 4, 2) := by decide +kernel
theorem dX12_laysMore_44 : decode cX12_laysMore 44 = .ok (.invokestatic 186, 3) := by decide +kernel
theorem dX12_laysMore_47 : decode cX12_laysMore 47 = .ok (.ifCond .ne 6, 3) := by decide +kernel
theorem dX12_laysMore_50 : decode cX12_laysMore 50 = .ok (.goto 140, 3) := by decide +kernel
theorem dX12_laysMore_53 : decode cX12_laysMore 53 = .ok (.aload_n 0, 1) := by decide +kernel
theorem dX12_laysMore_54 : decode cX12_laysMore 54 = .ok (.getfield 13, 3) := by decide +kernel
theorem dX12_laysMore_57 : decode cX12_laysMore 57 = .ok (.iconst 5, 1) := by decide +kernel
theorem dX12_laysMore_58 : decode cX12_laysMore 58 = .ok (.iaload, 1) := by decide +kernel
theorem dX12_laysMore_59 : decode cX12_laysMore 59 = .ok (.i2l, 1) := by decide +kernel
theorem dX12_laysMore_60 : decode cX12_laysMore 60 = .ok (.iload 4, 2) := by decide +kernel
theorem dX12_laysMore_62 : decode cX12_laysMore 62 = .ok (.invokestatic 186, 3) := by decide +kernel
theorem dX12_laysMore_65 : decode cX12_laysMore 65 = .ok (.ifCond .eq 15, 3) := by decide +kernel
theorem dX12_laysMore_68 : decode cX12_laysMore 68 = .ok (.iload_n 2, 1) := by decide +kernel
theorem dX12_laysMore_69 : decode cX12_laysMore 69 = .ok (.iload_n 3, 1) := by decide +kernel
theorem dX12_laysMore_70 : decode cX12_laysMore 70 = .ok (.iconst (-1), 1) := by decide +kernel
theorem dX12_laysMore_71 : decode cX12_laysMore 71 = .ok (.ixor, 1) := by decide +kernel
theorem dX12_laysMore_72 : decode cX12_laysMore 72 = .ok (.iand, 1) := by decide +kernel
theorem dX12_laysMore_73 : decode cX12_laysMore 73 = .ok (.ifCond .ne 7, 3) := by decide +kernel
theorem dX12_laysMore_76 : decode cX12_laysMore 76 = .ok (.iconst 0, 1) := by decide +kernel
theorem dX12_laysMore_77 : decode cX12_laysMore 77 = .ok (.goto 5, 3) := by decide +kernel
theorem dX12_laysMore_80 : decode cX12_laysMore 80 = .ok (.bipush 99, 2) := by decide +kernel
theorem dX12_laysMore_82 : decode cX12_laysMore 82 = .ok (.istore 5, 2) := by decide +kernel
theorem dX12_laysMore_84 : decode cX12_laysMore 84 = .ok (.aload_n 0, 1) := by decide +kernel
theorem dX12_laysMore_85 : decode cX12_laysMore 85 = .ok (.getfield 33, 3) := by decide +kernel
theorem dX12_laysMore_88 : decode cX12_laysMore 88 = .ok (.iload 4, 2) := by decide +kernel
theorem dX12_laysMore_90 : decode cX12_laysMore 90 = .ok (.iaload, 1) := by decide +kernel
theorem dX12_laysMore_91 : decode cX12_laysMore 91 = .ok (.iload_n 1, 1) := by decide +kernel
theorem dX12_laysMore_92 : decode cX12_laysMore 92 = .ok (.iand, 1) := by decide +kernel
theorem dX12_laysMore_93 : decode cX12_laysMore 93 = .ok (.iload_n 3, 1) := by decide +kernel
theorem dX12_laysMore_94 : decode cX12_laysMore 94 = .ok (.iconst (-1), 1) := by decide +kernel
theorem dX12_laysMore_95 : decode cX12_laysMore 95 = .ok (.ixor, 1) := by decide +kernel
theorem dX12_laysMore_96 : decode cX12_laysMore 96 = .ok (.iand, 1) := by decide +kernel
theorem dX12_laysMore_97 : decode cX12_laysMore 97 = .ok (.istore 6, 2) := by decide +kernel
theorem dX12_laysMore_99 : decode cX12_laysMore 99 = .ok (.iconst 0, 1) := by decide +kernel
theorem dX12_laysMore_100 : decode cX12_laysMore 100 = .ok (.istore 7, 2) := by decide +kernel
theorem dX12_laysMore_102 : decode cX12_laysMore 102 = .ok (.iload 7, 2) := by decide +kernel
theorem dX12_laysMore_104 : decode cX12_laysMore 104 = .ok (.aload_n 0, 1) := by decide +kernel
theorem dX12_laysMore_105 : decode cX12_laysMore 105 = .ok (.getfield 13, 3) := by decide +kernel
theorem dX12_laysMore_108 : decode cX12_laysMore 108 = .ok (.iconst 1, 1) := by decide +kernel
theorem dX12_laysMore_109 : decode cX12_laysMore 109 = .ok (.iaload, 1) := by decide +kernel
theorem dX12_laysMore_110 : decode cX12_laysMore 110 = .ok (.if_icmp .ge 65, 3) := by decide +kernel
theorem dX12_laysMore_113 : decode cX12_laysMore 113 = .ok (.iload 6, 2) := by decide +kernel
theorem dX12_laysMore_115 : decode cX12_laysMore 115 = .ok (.i2l, 1) := by decide +kernel
theorem dX12_laysMore_116 : decode cX12_laysMore 116 = .ok (.iload 7, 2) := by decide +kernel
theorem dX12_laysMore_118 : decode cX12_laysMore 118 = .ok (.invokestatic 186, 3) := by decide +kernel
theorem dX12_laysMore_121 : decode cX12_laysMore 121 = .ok (.ifCond .eq 48, 3) := by decide +kernel
theorem dX12_laysMore_124 : decode cX12_laysMore 124 = .ok (.aload_n 0, 1) := by decide +kernel
theorem dX12_laysMore_125 : decode cX12_laysMore 125 = .ok (.getfield 56, 3) := by decide +kernel
theorem dX12_laysMore_128 : decode cX12_laysMore 128 = .ok (.bipush 14, 2) := by decide +kernel
theorem dX12_laysMore_130 : decode cX12_laysMore 130 = .ok (.iload_n 3, 1) := by decide +kernel
theorem dX12_laysMore_131 : decode cX12_laysMore 131 = .ok (.iconst 1, 1) := by decide +kernel
theorem dX12_laysMore_132 : decode cX12_laysMore 132 = .ok (.iload 7, 2) := by decide +kernel
theorem dX12_laysMore_134 : decode cX12_laysMore 134 = .ok (.ishl, 1) := by decide +kernel
theorem dX12_laysMore_135 : decode cX12_laysMore 135 = .ok (.ior, 1) := by decide +kernel
theorem dX12_laysMore_136 : decode cX12_laysMore 136 = .ok (.imul, 1) := by decide +kernel
theorem dX12_laysMore_137 : decode cX12_laysMore 137 = .ok (.iload 7, 2) := by decide +kernel
theorem dX12_laysMore_139 : decode cX12_laysMore 139 = .ok (.iadd, 1) := by decide +kernel
theorem dX12_laysMore_140 : decode cX12_laysMore 140 = .ok (.baload, 1) := by decide +kernel
theorem dX12_laysMore_141 : decode cX12_laysMore 141 = .ok (.iconst 1, 1) := by decide +kernel
theorem dX12_laysMore_142 : decode cX12_laysMore 142 = .ok (.iadd, 1) := by decide +kernel
theorem dX12_laysMore_143 : decode cX12_laysMore 143 = .ok (.iload 5, 2) := by decide +kernel
theorem dX12_laysMore_145 : decode cX12_laysMore 145 = .ok (.if_icmp .ge 24, 3) := by decide +kernel
theorem dX12_laysMore_148 : decode cX12_laysMore 148 = .ok (.aload_n 0, 1) := by decide +kernel
theorem dX12_laysMore_149 : decode cX12_laysMore 149 = .ok (.getfield 56, 3) := by decide +kernel
theorem dX12_laysMore_152 : decode cX12_laysMore 152 = .ok (.bipush 14, 2) := by decide +kernel
theorem dX12_laysMore_154 : decode cX12_laysMore 154 = .ok (.iload_n 3, 1) := by decide +kernel
theorem dX12_laysMore_155 : decode cX12_laysMore 155 = .ok (.iconst 1, 1) := by decide +kernel
theorem dX12_laysMore_156 : decode cX12_laysMore 156 = .ok (.iload 7, 2) := by decide +kernel
theorem dX12_laysMore_158 : decode cX12_laysMore 158 = .ok (.ishl, 1) := by decide +kernel
theorem dX12_laysMore_159 : decode cX12_laysMore 159 = .ok (.ior, 1) := by decide +kernel
theorem dX12_laysMore_160 : decode cX12_laysMore 160 = .ok (.imul, 1) := by decide +kernel
theorem dX12_laysMore_161 : decode cX12_laysMore 161 = .ok (.iload 7, 2) := by decide +kernel
theorem dX12_laysMore_163 : decode cX12_laysMore 163 = .ok (.iadd, 1) := by decide +kernel
theorem dX12_laysMore_164 : decode cX12_laysMore 164 = .ok (.baload, 1) := by decide +kernel
theorem dX12_laysMore_165 : decode cX12_laysMore 165 = .ok (.iconst 1, 1) := by decide +kernel
theorem dX12_laysMore_166 : decode cX12_laysMore 166 = .ok (.iadd, 1) := by decide +kernel
theorem dX12_laysMore_167 : decode cX12_laysMore 167 = .ok (.istore 5, 2) := by decide +kernel
theorem dX12_laysMore_169 : decode cX12_laysMore 169 = .ok (.iinc 7 1, 3) := by decide +kernel
theorem dX12_laysMore_172 : decode cX12_laysMore 172 = .ok (.goto (-70), 3) := by decide +kernel
theorem dX12_laysMore_175 : decode cX12_laysMore 175 = .ok (.aload_n 0, 1) := by decide +kernel
theorem dX12_laysMore_176 : decode cX12_laysMore 176 = .ok (.getfield 56, 3) := by decide +kernel
theorem dX12_laysMore_179 : decode cX12_laysMore 179 = .ok (.bipush 14, 2) := by decide +kernel
theorem dX12_laysMore_181 : decode cX12_laysMore 181 = .ok (.iload_n 3, 1) := by decide +kernel
theorem dX12_laysMore_182 : decode cX12_laysMore 182 = .ok (.imul, 1) := by decide +kernel
theorem dX12_laysMore_183 : decode cX12_laysMore 183 = .ok (.iload 4, 2) := by decide +kernel
theorem dX12_laysMore_185 : decode cX12_laysMore 185 = .ok (.iadd, 1) := by decide +kernel
theorem dX12_laysMore_186 : decode cX12_laysMore 186 = .ok (.iload 5, 2) := by decide +kernel
theorem dX12_laysMore_188 : decode cX12_laysMore 188 = .ok (.i2b, 1) := by decide +kernel
theorem dX12_laysMore_189 : decode cX12_laysMore 189 = .ok (.bastore, 1) := by decide +kernel
theorem dX12_laysMore_190 : decode cX12_laysMore 190 = .ok (.iinc 4 1, 3) := by decide +kernel
theorem dX12_laysMore_193 : decode cX12_laysMore 193 = .ok (.goto (-164), 3) := by decide +kernel
theorem dX12_laysMore_196 : decode cX12_laysMore 196 = .ok (.iinc 3 (-1), 3) := by decide +kernel
theorem dX12_laysMore_199 : decode cX12_laysMore 199 = .ok (.goto (-188), 3) := by decide +kernel
theorem dX12_laysMore_202 : decode cX12_laysMore 202 = .ok (.return_, 1) := by decide +kernel
theorem dX12_laysWhose_0 : decode cX12_laysWhose 0 = .ok (.aload_n 0, 1) := by decide +kernel
theorem dX12_laysWhose_1 : decode cX12_laysWhose 1 = .ok (.iload_n 1, 1) := by decide +kernel
theorem dX12_laysWhose_2 : decode cX12_laysWhose 2 = .ok (.invokevirtual 257, 3) := by decide +kernel
theorem dX12_laysWhose_5 : decode cX12_laysWhose 5 = .ok (.iload_n 2, 1) := by decide +kernel
theorem dX12_laysWhose_6 : decode cX12_laysWhose 6 = .ok (.aload_n 0, 1) := by decide +kernel
theorem dX12_laysWhose_7 : decode cX12_laysWhose 7 = .ok (.invokevirtual 372, 3) := by decide +kernel
theorem dX12_laysWhose_10 : decode cX12_laysWhose 10 = .ok (.aload_n 0, 1) := by decide +kernel
theorem dX12_laysWhose_11 : decode cX12_laysWhose 11 = .ok (.invokevirtual 272, 3) := by decide +kernel
theorem dX12_laysWhose_14 : decode cX12_laysWhose 14 = .ok (.iand, 1) := by decide +kernel
theorem dX12_laysWhose_15 : decode cX12_laysWhose 15 = .ok (.ior, 1) := by decide +kernel
theorem dX12_laysWhose_16 : decode cX12_laysWhose 16 = .ok (.istore_n 3, 1) := by decide +kernel
theorem dX12_laysWhose_17 : decode cX12_laysWhose 17 = .ok (.aload_n 0, 1) := by decide +kernel
theorem dX12_laysWhose_18 : decode cX12_laysWhose 18 = .ok (.iload_n 3, 1) := by decide +kernel
theorem dX12_laysWhose_19 : decode cX12_laysWhose 19 = .ok (.iload_n 2, 1) := by decide +kernel
theorem dX12_laysWhose_20 : decode cX12_laysWhose 20 = .ok (.invokevirtual 375, 3) := by decide +kernel
theorem dX12_laysWhose_23 : decode cX12_laysWhose 23 = .ok (.iconst (-1), 1) := by decide +kernel
theorem dX12_laysWhose_24 : decode cX12_laysWhose 24 = .ok (.istore 4, 2) := by decide +kernel
theorem dX12_laysWhose_26 : decode cX12_laysWhose 26 = .ok (.iconst 0, 1) := by decide +kernel
theorem dX12_laysWhose_27 : decode cX12_laysWhose 27 = .ok (.istore 5, 2) := by decide +kernel
theorem dX12_laysWhose_29 : decode cX12_laysWhose 29 = .ok (.iload 5, 2) := by decide +kernel
theorem dX12_laysWhose_31 : decode cX12_laysWhose 31 = .ok (.aload_n 0, 1) := by decide +kernel
theorem dX12_laysWhose_32 : decode cX12_laysWhose 32 = .ok (.getfield 13, 3) := by decide +kernel
theorem dX12_laysWhose_35 : decode cX12_laysWhose 35 = .ok (.iconst 1, 1) := by decide +kernel
theorem dX12_laysWhose_36 : decode cX12_laysWhose 36 = .ok (.iaload, 1) := by decide +kernel
theorem dX12_laysWhose_37 : decode cX12_laysWhose 37 = .ok (.if_icmp .ge 74, 3) := by decide +kernel
theorem dX12_laysWhose_40 : decode cX12_laysWhose 40 = .ok (.iload_n 3, 1) := by decide +kernel
theorem dX12_laysWhose_41 : decode cX12_laysWhose 41 = .ok (.aload_n 0, 1) := by decide +kernel
theorem dX12_laysWhose_42 : decode cX12_laysWhose 42 = .ok (.getfield 13, 3) := by decide +kernel
theorem dX12_laysWhose_45 : decode cX12_laysWhose 45 = .ok (.iconst 4, 1) := by decide +kernel
theorem dX12_laysWhose_46 : decode cX12_laysWhose 46 = .ok (.iaload, 1) := by decide +kernel
theorem dX12_laysWhose_47 : decode cX12_laysWhose 47 = .ok (.iand, 1) := by decide +kernel
theorem dX12_laysWhose_48 : decode cX12_laysWhose 48 = .ok (.i2l, 1) := by decide +kernel
theorem dX12_laysWhose_49 : decode cX12_laysWhose 49 = .ok (.iload 5, 2) := by decide +kernel
theorem dX12_laysWhose_51 : decode cX12_laysWhose 51 = .ok (.invokestatic 186, 3) := by decide +kernel
theorem dX12_laysWhose_54 : decode cX12_laysWhose 54 = .ok (.ifCond .eq 51, 3) := by decide +kernel
theorem dX12_laysWhose_57 : decode cX12_laysWhose 57 = .ok (.aload_n 0, 1) := by decide +kernel
theorem dX12_laysWhose_58 : decode cX12_laysWhose 58 = .ok (.iconst 1, 1) := by decide +kernel
theorem dX12_laysWhose_59 : decode cX12_laysWhose 59 = .ok (.iload 5, 2) := by decide +kernel
theorem dX12_laysWhose_61 : decode cX12_laysWhose 61 = .ok (.ishl, 1) := by decide +kernel
theorem dX12_laysWhose_62 : decode cX12_laysWhose 62 = .ok (.iload 5, 2) := by decide +kernel
theorem dX12_laysWhose_64 : decode cX12_laysWhose 64 = .ok (.invokevirtual 378, 3) := by decide +kernel
theorem dX12_laysWhose_67 : decode cX12_laysWhose 67 = .ok (.bipush 99, 2) := by decide +kernel
theorem dX12_laysWhose_69 : decode cX12_laysWhose 69 = .ok (.if_icmp .ge 36, 3) := by decide +kernel
theorem dX12_laysWhose_72 : decode cX12_laysWhose 72 = .ok (.iload 4, 2) := by decide +kernel
theorem dX12_laysWhose_74 : decode cX12_laysWhose 74 = .ok (.iconst (-1), 1) := by decide +kernel
theorem dX12_laysWhose_75 : decode cX12_laysWhose 75 = .ok (.if_icmp .eq 26, 3) := by decide +kernel
theorem dX12_laysWhose_78 : decode cX12_laysWhose 78 = .ok (.aload_n 0, 1) := by decide +kernel
theorem dX12_laysWhose_79 : decode cX12_laysWhose 79 = .ok (.iconst 1, 1) := by decide +kernel
theorem dX12_laysWhose_80 : decode cX12_laysWhose 80 = .ok (.iload 5, 2) := by decide +kernel
theorem dX12_laysWhose_82 : decode cX12_laysWhose 82 = .ok (.ishl, 1) := by decide +kernel
theorem dX12_laysWhose_83 : decode cX12_laysWhose 83 = .ok (.iload 5, 2) := by decide +kernel
theorem dX12_laysWhose_85 : decode cX12_laysWhose 85 = .ok (.invokevirtual 378, 3) := by decide +kernel
theorem dX12_laysWhose_88 : decode cX12_laysWhose 88 = .ok (.aload_n 0, 1) := by decide +kernel
theorem dX12_laysWhose_89 : decode cX12_laysWhose 89 = .ok (.iconst 1, 1) := by decide +kernel
theorem dX12_laysWhose_90 : decode cX12_laysWhose 90 = .ok (.iload 4, 2) := by decide +kernel
theorem dX12_laysWhose_92 : decode cX12_laysWhose 92 = .ok (.ishl, 1) := by decide +kernel
theorem dX12_laysWhose_93 : decode cX12_laysWhose 93 = .ok (.iload 4, 2) := by decide +kernel
theorem dX12_laysWhose_95 : decode cX12_laysWhose 95 = .ok (.invokevirtual 378, 3) := by decide +kernel
theorem dX12_laysWhose_98 : decode cX12_laysWhose 98 = .ok (.if_icmp .ge 7, 3) := by decide +kernel
theorem dX12_laysWhose_101 : decode cX12_laysWhose 101 = .ok (.iload 5, 2) := by decide +kernel
theorem dX12_laysWhose_103 : decode cX12_laysWhose 103 = .ok (.istore 4, 2) := by decide +kernel
theorem dX12_laysWhose_105 : decode cX12_laysWhose 105 = .ok (.iinc 5 1, 3) := by decide +kernel
theorem dX12_laysWhose_108 : decode cX12_laysWhose 108 = .ok (.goto (-79), 3) := by decide +kernel
theorem dX12_laysWhose_111 : decode cX12_laysWhose 111 = .ok (.iload 4, 2) := by decide +kernel
theorem dX12_laysWhose_113 : decode cX12_laysWhose 113 = .ok (.ireturn, 1) := by decide +kernel
theorem dX12_moreBy_0 : decode cX12_moreBy 0 = .ok (.aload_n 0, 1) := by decide +kernel
theorem dX12_moreBy_1 : decode cX12_moreBy 1 = .ok (.getfield 56, 3) := by decide +kernel
theorem dX12_moreBy_4 : decode cX12_moreBy 4 = .ok (.bipush 14, 2) := by decide +kernel
theorem dX12_moreBy_6 : decode cX12_moreBy 6 = .ok (.iload_n 1, 1) := by decide +kernel
theorem dX12_moreBy_7 : decode cX12_moreBy 7 = .ok (.imul, 1) := by decide +kernel
theorem dX12_moreBy_8 : decode cX12_moreBy 8 = .ok (.iload_n 2, 1) := by decide +kernel
theorem dX12_moreBy_9 : decode cX12_moreBy 9 = .ok (.iadd, 1) := by decide +kernel
theorem dX12_moreBy_10 : decode cX12_moreBy 10 = .ok (.baload, 1) := by decide +kernel
theorem dX12_moreBy_11 : decode cX12_moreBy 11 = .ok (.ireturn, 1) := by decide +kernel
theorem dX12_whose_0 : decode cX12_whose 0 = .ok (.aload_n 0, 1) := by decide +kernel
theorem dX12_whose_1 : decode cX12_whose 1 = .ok (.iconst 0, 1) := by decide +kernel
theorem dX12_whose_2 : decode cX12_whose 2 = .ok (.putfield 1, 3) := by decide +kernel
theorem dX12_whose_5 : decode cX12_whose 5 = .ok (.aload_n 0, 1) := by decide +kernel
theorem dX12_whose_6 : decode cX12_whose 6 = .ok (.iload_n 1, 1) := by decide +kernel
theorem dX12_whose_7 : decode cX12_whose 7 = .ok (.invokevirtual 381, 3) := by decide +kernel
theorem dX12_whose_10 : decode cX12_whose 10 = .ok (.ifCond .ne 6, 3) := by decide +kernel
theorem dX12_whose_13 : decode cX12_whose 13 = .ok (.bipush (-3), 2) := by decide +kernel
theorem dX12_whose_15 : decode cX12_whose 15 = .ok (.ireturn, 1) := by decide +kernel
theorem dX12_whose_16 : decode cX12_whose 16 = .ok (.iconst 0, 1) := by decide +kernel
theorem dX12_whose_17 : decode cX12_whose 17 = .ok (.istore_n 2, 1) := by decide +kernel
theorem dX12_whose_18 : decode cX12_whose 18 = .ok (.iconst 0, 1) := by decide +kernel
theorem dX12_whose_19 : decode cX12_whose 19 = .ok (.istore_n 3, 1) := by decide +kernel
theorem dX12_whose_20 : decode cX12_whose 20 = .ok (.iload_n 3, 1) := by decide +kernel
theorem dX12_whose_21 : decode cX12_whose 21 = .ok (.aload_n 0, 1) := by decide +kernel
theorem dX12_whose_22 : decode cX12_whose 22 = .ok (.getfield 13, 3) := by decide +kernel
theorem dX12_whose_25 : decode cX12_whose 25 = .ok (.iconst 2, 1) := by decide +kernel
theorem dX12_whose_26 : decode cX12_whose 26 = .ok (.iaload, 1) := by decide +kernel
theorem dX12_whose_27 : decode cX12_whose 27 = .ok (.if_icmp .ge 29, 3) := by decide +kernel
theorem dX12_whose_30 : decode cX12_whose 30 = .ok (.iload_n 2, 1) := by decide +kernel
theorem dX12_whose_31 : decode cX12_whose 31 = .ok (.aload_n 0, 1) := by decide +kernel
theorem dX12_whose_32 : decode cX12_whose 32 = .ok (.iload_n 3, 1) := by decide +kernel
theorem dX12_whose_33 : decode cX12_whose 33 = .ok (.iload_n 1, 1) := by decide +kernel
theorem dX12_whose_34 : decode cX12_whose 34 = .ok (.invokevirtual 384, 3) := by decide +kernel
theorem dX12_whose_37 : decode cX12_whose 37 = .ok (.iconst (-1), 1) := by decide +kernel
theorem dX12_whose_38 : decode cX12_whose 38 = .ok (.if_icmp .ne 7, 3) := by decide +kernel
theorem dX12_whose_41 : decode cX12_whose 41 = .ok (.iconst 0, 1) := by decide +kernel
theorem dX12_whose_42 : decode cX12_whose 42 = .ok (.goto 6, 3) := by decide +kernel
theorem dX12_whose_45 : decode cX12_whose 45 = .ok (.iconst 1, 1) := by decide +kernel
theorem dX12_whose_46 : decode cX12_whose 46 = .ok (.iload_n 3, 1) := by decide +kernel
theorem dX12_whose_47 : decode cX12_whose 47 = .ok (.ishl, 1) := by decide +kernel
theorem dX12_whose_48 : decode cX12_whose 48 = .ok (.ior, 1) := by decide +kernel
theorem dX12_whose_49 : decode cX12_whose 49 = .ok (.istore_n 2, 1) := by decide +kernel
theorem dX12_whose_50 : decode cX12_whose 50 = .ok (.iinc 3 1, 3) := by decide +kernel
theorem dX12_whose_53 : decode cX12_whose 53 = .ok (.goto (-33), 3) := by decide +kernel
theorem dX12_whose_56 : decode cX12_whose 56 = .ok (.iload_n 2, 1) := by decide +kernel
theorem dX12_whose_57 : decode cX12_whose 57 = .ok (.ireturn, 1) := by decide +kernel
theorem kw_1251 : Cond.fieldLink "FootholdWallModel" 56 "FootholdWallModel" "more" "[B" ∈ gw := gw_of (tb_of 1251 (by decide +kernel)) (by decide +kernel)
theorem kw_1720 : Cond.methodLink "FootholdWallModel" 381 yX12_isSetOf ∈ gw := gw_of (tb_of 1720 (by decide +kernel)) (by decide +kernel)
theorem kw_1722 : Cond.instanceMethod yX12_isSetOf ∈ gw := gw_of (tb_of 1722 (by decide +kernel)) (by decide +kernel)
theorem kw_1723 : Cond.code yX12_isSetOf cX12_isSetOf 2 (some (.boolean)) ∈ gw := gw_of (tb_of 1723 (by decide +kernel)) (by decide +kernel)
theorem kw_1728 : Cond.methodLink "FootholdWallModel" 384 yX12_laysWhose ∈ gw := gw_of (tb_of 1728 (by decide +kernel)) (by decide +kernel)
theorem kw_1730 : Cond.instanceMethod yX12_laysWhose ∈ gw := gw_of (tb_of 1730 (by decide +kernel)) (by decide +kernel)
theorem kw_1731 : Cond.code yX12_laysWhose cX12_laysWhose 6 (some (.int)) ∈ gw := gw_of (tb_of 1731 (by decide +kernel)) (by decide +kernel)
theorem kw_1732 : Cond.methodLink "FootholdWallModel" 375 yX12_laysMore ∈ gw := gw_of (tb_of 1732 (by decide +kernel)) (by decide +kernel)
theorem kw_1734 : Cond.instanceMethod yX12_laysMore ∈ gw := gw_of (tb_of 1734 (by decide +kernel)) (by decide +kernel)
theorem kw_1735 : Cond.code yX12_laysMore cX12_laysMore 8 none ∈ gw := gw_of (tb_of 1735 (by decide +kernel)) (by decide +kernel)
theorem kw_1736 : Cond.methodLink "FootholdWallModel" 378 yX12_moreBy ∈ gw := gw_of (tb_of 1736 (by decide +kernel)) (by decide +kernel)
theorem kw_1738 : Cond.instanceMethod yX12_moreBy ∈ gw := gw_of (tb_of 1738 (by decide +kernel)) (by decide +kernel)
theorem kw_1739 : Cond.code yX12_moreBy cX12_moreBy 3 (some (.int)) ∈ gw := gw_of (tb_of 1739 (by decide +kernel)) (by decide +kernel)
theorem ks_98 : Cond.selects RX12 yX12_isSetOf yX12_isSetOf ∈ gw := gw_of (pv_of 98 (by decide +kernel)) (by decide +kernel)
theorem ks_100 : Cond.selects RX12 yX12_laysWhose yX12_laysWhose ∈ gw := gw_of (pv_of 100 (by decide +kernel)) (by decide +kernel)
theorem ks_101 : Cond.selects RX12 yX12_laysMore yX12_laysMore ∈ gw := gw_of (pv_of 101 (by decide +kernel)) (by decide +kernel)
theorem ks_102 : Cond.selects RX12 yX12_moreBy yX12_moreBy ∈ gw := gw_of (pv_of 102 (by decide +kernel)) (by decide +kernel)
set_option maxHeartbeats 4000000 in
set_option maxRecDepth 100000 in
theorem s_M_moreBy (l : Launch) (D : va_G) (cs : CS) (kf : KF) (T : TF) (O : List Nat) (X : va_W) (a0 hg mq : Nat) (x1 : Int32) (x2 : Int32) (t_a0 : T a0 = some (22, hg, mq)) (b_hg : hg < 90) (l_x1 : 0 ≤ x1.toInt) (u_x1 : x1.toInt ≤ 16383) (l_x2 : 0 ≤ x2.toInt) (u_x2 : x2.toInt ≤ 13) (hO : okO T O [0, 22]) : TK l D cs kf yX12_moreBy cX12_moreBy 3 (some (.int)) { frames := 0, cells := 0, slots := 0, locals := 0 } [.ref a0, .int x1, .int x2] T O X (Ti D cs (fun r u => u = (T, O, X))) := by
  refine tk_of (by decide) (Nat.le_of_ble_eq_true rfl) (fun p e s m below meth c ls A H locs hx hb hr hml hown hts hlocks hnm hkb hH hS hA hOX hks hE hl => ?_)
  have hown : s.vm.findClass RX12 = some m.cls := hown
  have hl : lv_has ls 3 [(0, .ref a0), (1, .int x1), (2, .int x2)] := hl
  refine lv_aload_n hx hb dX12_moreBy_0 rfl (lv_at hl 0 rfl) ?_
  refine t_get (ci := 12) (lst := ft12 hg mq) (C := RX12) (F := TX12) (N := 36) hx hb hts uX12 hown hkb hH t_a0 (hO.no t_a0 (by decide)) (fun _ h9 => h9) rfl rfl 28 (by decide) rfl kw_1251 (fun _ h9 => h9) dX12_moreBy_1 (fun v9 h9 => ?_)
  obtain ⟨v1, rfl, t_v1⟩ := h9
  refine lv_bipush (v := 14) hx hb dX12_moreBy_4 (by decide) ?_
  refine lv_iload_n hx hb dX12_moreBy_6 rfl (lv_at hl 1 rfl) ?_
  refine lv_imul hx hb dX12_moreBy_7 ?_
  refine lv_topi (fun v7 ev7 => ?_)
  have tv7 : v7.toInt = (14) * x1.toInt := by rw [ev7]; exact mul_i (by decide : (14 : Int32).toInt = 14) rfl (by omega) (by omega)
  refine lv_iload_n hx hb dX12_moreBy_8 rfl (lv_at hl 2 rfl) ?_
  refine lv_iadd hx hb dX12_moreBy_9 ?_
  refine lv_topi (fun v9 ev9 => ?_)
  have tv9 : v9.toInt = v7.toInt + x2.toInt := by rw [ev9]; exact add_i rfl rfl (by omega) (by omega)
  refine t_bld hx hb hkb hH t_v1 (hO.no9 t_v1 (by decide)) (by omega) (by omega) dX12_moreBy_10 (fun v10 => ?_)
  exact te_i hx hb hr hlocks hH hS (rfl) dX12_moreBy_11
set_option maxHeartbeats 4000000 in
set_option maxRecDepth 100000 in
theorem s_M_laysMore (l : Launch) (D : va_G) (cs : CS) (kf : KF) (T : TF) (O : List Nat) (X : va_W) (a0 hg mq : Nat) (x1 : Int32) (x2 : Int32) (t_a0 : T a0 = some (22, hg, mq)) (b_hg : hg < 90) (hO : okO T O [0, 8, 9, 22]) : TK l D cs kf yX12_laysMore cX12_laysMore 8 none { frames := 1, cells := 0, slots := 0, locals := 22 } [.ref a0, .int x1, .int x2] T O X (Tv D cs (fun u => u = (T, O, X))) := by
  refine tk_of (by decide) (Nat.le_of_ble_eq_true rfl) (fun p e s m below meth c ls A H locs hx hb hr hml hown hts hlocks hnm hkb hH hS hA hOX hks hE hl => ?_)
  have hown : s.vm.findClass RX12 = some m.cls := hown
  have hl : lv_has ls 8 [(0, .ref a0), (1, .int x1), (2, .int x2)] := hl
  refine lv_iconst (v := 1) hx hb dX12_laysMore_0 (by decide) ?_
  refine lv_aload_n hx hb dX12_laysMore_1 rfl (lv_at hl 0 rfl) ?_
  refine t_get (ci := 12) (lst := ft12 hg mq) (C := RX12) (F := TX12) (N := 36) hx hb hts uX12 hown hkb hH t_a0 (hO.no t_a0 (by decide)) (fun _ h9 => h9) rfl rfl 1 (by decide) rfl kw_1224 (fun _ h9 => h9) dX12_laysMore_2 (fun v9 h9 => ?_)
  obtain ⟨v2, rfl, t_v2⟩ := h9
  refine lv_iconst (v := 1) hx hb dX12_laysMore_5 (by decide) ?_
  refine t_ild8 hx hb hkb hH t_v2 (hO.no t_v2 (by decide)) (by decide) (by decide) (by decide) dX12_laysMore_6 (fun v6 h9 h8 => ?_)
  have q9 := (h8 rfl).1 rfl
  subst q9
  have eH9 : (nI (hg / 6)).toInt = (((hg / 6) : Nat) : Int) := nI_toInt (by omega)
  refine lv_ishl hx hb dX12_laysMore_7 ?_
  refine lv_topi (fun v7 ev7 => ?_)
  have tv7 : 1 ≤ v7.toInt ∧ v7.toInt ≤ 16384 := by rw [ev7]; exact shl_b 14 (by decide) (by omega) (by omega)
  refine lv_iconst (v := 1) hx hb dX12_laysMore_8 (by decide) ?_
  refine lv_isub hx hb dX12_laysMore_9 ?_
  refine lv_topi (fun v9 ev9 => ?_)
  have tv9 : v9.toInt = v7.toInt - (1) := by rw [ev9]; exact sub_i rfl (by decide : (1 : Int32).toInt = 1) (by omega) (by omega)
  have J11 : ∀ (n : Nat) (p11_3 : Int32) (H : Heap) (locs : List Loc) (ls : Array Slot), (p11_3.toInt - (0)).toNat = n → (0 ≤ p11_3.toInt) → (p11_3.toInt ≤ 16383) → HT D cs A T O X H → va_S A s.heap H locs → lv_has ls 8 [(3, .int p11_3), (0, .ref a0), (1, .int x1), (2, .int x2)] → W p l e { frames := 1, cells := 0, slots := 0, locals := 22 } s m [.ref a0, .int x1, .int x2].toArray below meth c H locs 0 0 (MQ below (Tv D cs (fun u => u = (T, O, X)) A) [.ref a0, .int x1, .int x2].toArray s 0 0 A) (F0 m 11 ls []) := by
    intro n
    induction n using Nat.strongRecOn with
    | _ n ih11 =>
      intro p11_3 H locs ls hm11 l_p11_3 u_p11_3 hH hS hl
      refine lv_iload_n hx hb dX12_laysMore_11 rfl (lv_at hl 0 rfl) ?_
      refine lv_if_le (tgt := 202) hx hb dX12_laysMore_12 (by decide) (fun c12 => ?_) (fun c12 => ?_)
      · skip
        have tc12 := f_le (k := 0) (by decide) c12
        exact te_v hx hb hr hlocks hH hS rfl dX12_laysMore_202
      · skip
        have tc12 := f_nle (k := 0) (by decide) c12
        refine lv_iload_n hx hb dX12_laysMore_15 rfl (lv_at hl 0 rfl) ?_
        refine lv_iload_n hx hb dX12_laysMore_16 rfl (lv_at hl 2 rfl) ?_
        refine lv_iconst (v := (-1)) hx hb dX12_laysMore_17 (by decide) ?_
        refine lv_ixor hx hb dX12_laysMore_18 ?_
        refine lv_topi (fun v18 ev18 => ?_)
        refine lv_iand hx hb dX12_laysMore_19 ?_
        refine lv_topi (fun v19 ev19 => ?_)
        have tv19 : 0 ≤ v19.toInt ∧ v19.toInt ≤ p11_3.toInt := by rw [ev19]; exact and_l (by omega)
        have J196 : ∀  (H : Heap) (locs : List Loc) (ls : Array Slot), HT D cs A T O X H → va_S A s.heap H locs → lv_has ls 8 [(3, .int p11_3), (0, .ref a0), (1, .int x1), (2, .int x2)] → W p l e { frames := 1, cells := 0, slots := 0, locals := 22 } s m [.ref a0, .int x1, .int x2].toArray below meth c H locs 0 0 (MQ below (Tv D cs (fun u => u = (T, O, X)) A) [.ref a0, .int x1, .int x2].toArray s 0 0 A) (F0 m 196 ls []) := by
          intro  H locs ls  hH hS hl
          obtain ⟨v196, ev196⟩ : ∃ y : Int32, y = p11_3 + (-1) := ⟨_, rfl⟩
          have tv196 : v196.toInt = p11_3.toInt + (-1) := by rw [ev196]; exact add_i rfl (by decide) (by omega) (by omega)
          refine lv_iinc (v := v196) (lv' := [(3, .int v196), (0, .ref a0), (1, .int x1), (2, .int x2)]) hx hb dX12_laysMore_196 hl (k := 0) rfl (by rw [ev196]; rfl) (by decide) rfl (fun ls hl => ?_)
          refine lv_goto (tgt := 11) hx hb dX12_laysMore_199 (by decide) ?_
          exact ih11 _ (by omega) v196 _ _ _ rfl (by omega) (by omega) hH hS (lv_sub hl [0, 1, 2, 3] rfl)
        refine lv_if_eq (tgt := 26) hx hb dX12_laysMore_20 (by decide) (fun c20 => ?_) (fun c20 => ?_)
        · skip
          have tc20 := f_eq (k := 0) (by decide) c20
          refine lv_iconst (v := 0) hx hb dX12_laysMore_26 (by decide) ?_
          have J29 : ∀ (n : Nat) (p29_4 : Int32) (H : Heap) (locs : List Loc) (ls : Array Slot), (14 - p29_4.toInt).toNat = n → (0 ≤ p29_4.toInt) → (p29_4.toInt ≤ 14) → HT D cs A T O X H → va_S A s.heap H locs → lv_has ls 8 [(4, .int p29_4), (3, .int p11_3), (0, .ref a0), (1, .int x1), (2, .int x2)] → W p l e { frames := 1, cells := 0, slots := 0, locals := 22 } s m [.ref a0, .int x1, .int x2].toArray below meth c H locs 0 0 (MQ below (Tv D cs (fun u => u = (T, O, X)) A) [.ref a0, .int x1, .int x2].toArray s 0 0 A) (F0 m 29 ls []) := by
            intro n
            induction n using Nat.strongRecOn with
            | _ n ih29 =>
              intro p29_4 H locs ls hm29 l_p29_4 u_p29_4 hH hS hl
              refine lv_iload hx hb dX12_laysMore_29 (lv_at hl 0 rfl) ?_
              refine lv_aload_n hx hb dX12_laysMore_31 rfl (lv_at hl 2 rfl) ?_
              refine t_get (ci := 12) (lst := ft12 hg mq) (C := RX12) (F := TX12) (N := 36) hx hb hts uX12 hown hkb hH t_a0 (hO.no t_a0 (by decide)) (fun _ h9 => h9) rfl rfl 1 (by decide) rfl kw_1224 (fun _ h9 => h9) dX12_laysMore_32 (fun v9 h9 => ?_)
              obtain ⟨v32, rfl, t_v32⟩ := h9
              refine lv_iconst (v := 1) hx hb dX12_laysMore_35 (by decide) ?_
              refine t_ild8 hx hb hkb hH t_v32 (hO.no t_v32 (by decide)) (by decide) (by decide) (by decide) dX12_laysMore_36 (fun v36 h9 h8 => ?_)
              have q9 := (h8 rfl).1 rfl
              subst q9
              have eH9 : (nI (hg / 6)).toInt = (((hg / 6) : Nat) : Int) := nI_toInt (by omega)
              refine lv_icmp_ge (tgt := 196) hx hb dX12_laysMore_37 (by decide) (fun c37 => ?_) (fun c37 => ?_)
              · skip
                have fuc37 := full_i p29_4
                have fvc37 := full_i (nI (hg / 6))
                have tc37 := g_le c37
                exact J196  _ _ _  hH hS (lv_sub hl [1, 2, 3, 4] rfl)
              · skip
                have fuc37 := full_i p29_4
                have fvc37 := full_i (nI (hg / 6))
                have tc37 := g_nle c37
                refine lv_iload_n hx hb dX12_laysMore_40 rfl (lv_at hl 1 rfl) ?_
                refine lv_i2l hx hb dX12_laysMore_41 rfl ?_
                refine lv_iload hx hb dX12_laysMore_42 (lv_at hl 0 rfl) ?_
                refine tk_i hH hS hA (tr_S (n := 2) (As := [.long p11_3.toInt64, .int p29_4]) hx hb hml hown hts hkb hH hOX hks hE hS hA (s_M_isIn2 l D cs kf T O X p11_3.toInt64 p29_4  (hO.sub (by decide))) kw_1440 kw_1441 kw_13 kw_1442 (by decide +kernel) ⟨Nat.le_of_ble_eq_true rfl, Nat.le_of_ble_eq_true rfl⟩ rfl rfl hl.1 (Nat.le_of_ble_eq_true rfl) dX12_laysMore_44 ⟨Nat.le_of_ble_eq_true rfl, Nat.le_of_ble_eq_true rfl⟩) (fun v44 u H locs hz9 hH hS => ?_)
                obtain ⟨rfl, l_v44, u_v44, x_v440⟩ := hz9
                have hH : HT D cs A T O X H := hH
                refine W.widen (k := 0) (n := 0) (Nat.le_of_ble_eq_true rfl) (Nat.le_of_ble_eq_true rfl) ?_
                have J190 : ∀  (H : Heap) (locs : List Loc) (ls : Array Slot), HT D cs A T O X H → va_S A s.heap H locs → lv_has ls 8 [(4, .int p29_4), (3, .int p11_3), (0, .ref a0), (1, .int x1), (2, .int x2)] → W p l e { frames := 1, cells := 0, slots := 0, locals := 22 } s m [.ref a0, .int x1, .int x2].toArray below meth c H locs 0 0 (MQ below (Tv D cs (fun u => u = (T, O, X)) A) [.ref a0, .int x1, .int x2].toArray s 0 0 A) (F0 m 190 ls []) := by
                  intro  H locs ls  hH hS hl
                  obtain ⟨v190, ev190⟩ : ∃ y : Int32, y = p29_4 + 1 := ⟨_, rfl⟩
                  have tv190 : v190.toInt = p29_4.toInt + (1) := by rw [ev190]; exact add_i rfl (by decide) (by omega) (by omega)
                  refine lv_iinc (v := v190) (lv' := [(4, .int v190), (3, .int p11_3), (0, .ref a0), (1, .int x1), (2, .int x2)]) hx hb dX12_laysMore_190 hl (k := 0) rfl (by rw [ev190]; rfl) (by decide) rfl (fun ls hl => ?_)
                  refine lv_goto (tgt := 29) hx hb dX12_laysMore_193 (by decide) ?_
                  exact ih29 _ (by omega) v190 _ _ _ rfl (by omega) (by omega) hH hS (lv_sub hl [0, 1, 2, 3, 4] rfl)
                refine lv_if_ne (tgt := 53) hx hb dX12_laysMore_47 (by decide) (fun c47 => ?_) (fun c47 => ?_)
                · skip
                  have tc47 := f_ne (k := 0) (by decide) c47
                  refine lv_aload_n hx hb dX12_laysMore_53 rfl (lv_at hl 2 rfl) ?_
                  refine t_get (ci := 12) (lst := ft12 hg mq) (C := RX12) (F := TX12) (N := 36) hx hb hts uX12 hown hkb hH t_a0 (hO.no t_a0 (by decide)) (fun _ h9 => h9) rfl rfl 1 (by decide) rfl kw_1224 (fun _ h9 => h9) dX12_laysMore_54 (fun v9 h9 => ?_)
                  obtain ⟨v54, rfl, t_v54⟩ := h9
                  refine lv_iconst (v := 5) hx hb dX12_laysMore_57 (by decide) ?_
                  refine t_ild8 hx hb hkb hH t_v54 (hO.no t_v54 (by decide)) (by decide) (by decide) (by decide) dX12_laysMore_58 (fun v58 h9 h8 => ?_)
                  have tv58 : 0 ≤ v58.toInt ∧ v58.toInt ≤ 16383 := h9.2.2.2.1 (by decide)
                  refine lv_i2l hx hb dX12_laysMore_59 rfl ?_
                  refine lv_iload hx hb dX12_laysMore_60 (lv_at hl 0 rfl) ?_
                  refine tk_i hH hS hA (tr_S (n := 2) (As := [.long v58.toInt64, .int p29_4]) hx hb hml hown hts hkb hH hOX hks hE hS hA (s_M_isIn2 l D cs kf T O X v58.toInt64 p29_4  (hO.sub (by decide))) kw_1440 kw_1441 kw_13 kw_1442 (by decide +kernel) ⟨Nat.le_of_ble_eq_true rfl, Nat.le_of_ble_eq_true rfl⟩ rfl rfl hl.1 (Nat.le_of_ble_eq_true rfl) dX12_laysMore_62 ⟨Nat.le_of_ble_eq_true rfl, Nat.le_of_ble_eq_true rfl⟩) (fun v62 u H locs hz9 hH hS => ?_)
                  obtain ⟨rfl, l_v62, u_v62, x_v620⟩ := hz9
                  have hH : HT D cs A T O X H := hH
                  refine W.widen (k := 0) (n := 0) (Nat.le_of_ble_eq_true rfl) (Nat.le_of_ble_eq_true rfl) ?_
                  have J82 : ∀ (k82_0 : Int32) (H : Heap) (locs : List Loc) (ls : Array Slot), (0 ≤ k82_0.toInt) → (k82_0.toInt ≤ 99) → HT D cs A T O X H → va_S A s.heap H locs → lv_has ls 8 [(4, .int p29_4), (3, .int p11_3), (0, .ref a0), (1, .int x1), (2, .int x2)] → W p l e { frames := 1, cells := 0, slots := 0, locals := 22 } s m [.ref a0, .int x1, .int x2].toArray below meth c H locs 0 0 (MQ below (Tv D cs (fun u => u = (T, O, X)) A) [.ref a0, .int x1, .int x2].toArray s 0 0 A) (F0 m 82 ls [.int k82_0]) := by
                    intro k82_0 H locs ls l_k82_0 u_k82_0 hH hS hl
                    refine lv_istore (lv' := [(5, .int k82_0), (4, .int p29_4), (3, .int p11_3), (0, .ref a0), (1, .int x1), (2, .int x2)]) hx hb dX12_laysMore_82 hl (by decide) rfl (fun ls hl => ?_)
                    refine lv_aload_n hx hb dX12_laysMore_84 rfl (lv_at hl 3 rfl) ?_
                    refine t_get (ci := 12) (lst := ft12 hg mq) (C := RX12) (F := TX12) (N := 36) hx hb hts uX12 hown hkb hH t_a0 (hO.no t_a0 (by decide)) (fun _ h9 => h9) rfl rfl 17 (by decide) rfl kw_1240 (fun _ h9 => h9) dX12_laysMore_85 (fun v9 h9 => ?_)
                    obtain ⟨v85, rfl, t_v85⟩ := h9
                    refine lv_iload hx hb dX12_laysMore_88 (lv_at hl 1 rfl) ?_
                    refine t_ild9 hx hb hkb hH t_v85 (hO.no9 t_v85 (by decide)) (by omega) (by omega) dX12_laysMore_90 (fun v90 h9 => ?_)
                    have tv90 : 0 ≤ v90.toInt ∧ v90.toInt ≤ 16383 := h9
                    refine lv_iload_n hx hb dX12_laysMore_91 rfl (lv_at hl 4 rfl) ?_
                    refine lv_iand hx hb dX12_laysMore_92 ?_
                    refine lv_topi (fun v92 ev92 => ?_)
                    have tv92 : 0 ≤ v92.toInt ∧ v92.toInt ≤ v90.toInt := by rw [ev92]; exact and_l (by omega)
                    refine lv_iload_n hx hb dX12_laysMore_93 rfl (lv_at hl 2 rfl) ?_
                    refine lv_iconst (v := (-1)) hx hb dX12_laysMore_94 (by decide) ?_
                    refine lv_ixor hx hb dX12_laysMore_95 ?_
                    refine lv_topi (fun v95 ev95 => ?_)
                    refine lv_iand hx hb dX12_laysMore_96 ?_
                    refine lv_topi (fun v96 ev96 => ?_)
                    have tv96 : 0 ≤ v96.toInt ∧ v96.toInt ≤ v92.toInt := by rw [ev96]; exact and_l (by omega)
                    refine lv_istore (lv' := [(6, .int v96), (5, .int k82_0), (4, .int p29_4), (3, .int p11_3), (0, .ref a0), (1, .int x1), (2, .int x2)]) hx hb dX12_laysMore_97 hl (by decide) rfl (fun ls hl => ?_)
                    refine lv_iconst (v := 0) hx hb dX12_laysMore_99 (by decide) ?_
                    have J102 : ∀ (n : Nat) (p102_7 : Int32) (p102_5 : Int32) (H : Heap) (locs : List Loc) (ls : Array Slot), (14 - p102_7.toInt).toNat = n → (0 ≤ p102_7.toInt) → (p102_7.toInt ≤ 14) → HT D cs A T O X H → va_S A s.heap H locs → lv_has ls 8 [(7, .int p102_7), (6, .int v96), (5, .int p102_5), (4, .int p29_4), (3, .int p11_3), (0, .ref a0), (1, .int x1), (2, .int x2)] → W p l e { frames := 1, cells := 0, slots := 0, locals := 22 } s m [.ref a0, .int x1, .int x2].toArray below meth c H locs 0 0 (MQ below (Tv D cs (fun u => u = (T, O, X)) A) [.ref a0, .int x1, .int x2].toArray s 0 0 A) (F0 m 102 ls []) := by
                      intro n
                      induction n using Nat.strongRecOn with
                      | _ n ih102 =>
                        intro p102_7 p102_5 H locs ls hm102 l_p102_7 u_p102_7 hH hS hl
                        refine lv_iload hx hb dX12_laysMore_102 (lv_at hl 0 rfl) ?_
                        refine lv_aload_n hx hb dX12_laysMore_104 rfl (lv_at hl 5 rfl) ?_
                        refine t_get (ci := 12) (lst := ft12 hg mq) (C := RX12) (F := TX12) (N := 36) hx hb hts uX12 hown hkb hH t_a0 (hO.no t_a0 (by decide)) (fun _ h9 => h9) rfl rfl 1 (by decide) rfl kw_1224 (fun _ h9 => h9) dX12_laysMore_105 (fun v9 h9 => ?_)
                        obtain ⟨v105, rfl, t_v105⟩ := h9
                        refine lv_iconst (v := 1) hx hb dX12_laysMore_108 (by decide) ?_
                        refine t_ild8 hx hb hkb hH t_v105 (hO.no t_v105 (by decide)) (by decide) (by decide) (by decide) dX12_laysMore_109 (fun v109 h9 h8 => ?_)
                        have q9 := (h8 rfl).1 rfl
                        subst q9
                        have eH9 : (nI (hg / 6)).toInt = (((hg / 6) : Nat) : Int) := nI_toInt (by omega)
                        refine lv_icmp_ge (tgt := 175) hx hb dX12_laysMore_110 (by decide) (fun c110 => ?_) (fun c110 => ?_)
                        · skip
                          have fuc110 := full_i p102_7
                          have fvc110 := full_i (nI (hg / 6))
                          have tc110 := g_le c110
                          refine lv_aload_n hx hb dX12_laysMore_175 rfl (lv_at hl 5 rfl) ?_
                          refine t_get (ci := 12) (lst := ft12 hg mq) (C := RX12) (F := TX12) (N := 36) hx hb hts uX12 hown hkb hH t_a0 (hO.no t_a0 (by decide)) (fun _ h9 => h9) rfl rfl 28 (by decide) rfl kw_1251 (fun _ h9 => h9) dX12_laysMore_176 (fun v9 h9 => ?_)
                          obtain ⟨v176, rfl, t_v176⟩ := h9
                          refine lv_bipush (v := 14) hx hb dX12_laysMore_179 (by decide) ?_
                          refine lv_iload_n hx hb dX12_laysMore_181 rfl (lv_at hl 4 rfl) ?_
                          refine lv_imul hx hb dX12_laysMore_182 ?_
                          refine lv_topi (fun v182 ev182 => ?_)
                          have tv182 : v182.toInt = (14) * p11_3.toInt := by rw [ev182]; exact mul_i (by decide : (14 : Int32).toInt = 14) rfl (by omega) (by omega)
                          refine lv_iload hx hb dX12_laysMore_183 (lv_at hl 3 rfl) ?_
                          refine lv_iadd hx hb dX12_laysMore_185 ?_
                          refine lv_topi (fun v185 ev185 => ?_)
                          have tv185 : v185.toInt = v182.toInt + p29_4.toInt := by rw [ev185]; exact add_i rfl rfl (by omega) (by omega)
                          refine lv_iload hx hb dX12_laysMore_186 (lv_at hl 2 rfl) ?_
                          refine lv_i2b hx hb dX12_laysMore_188 rfl ?_
                          refine lv_topi (fun v188 ev188 => ?_)
                          refine t_bst hx hb hkb hH hS t_v176 (hO.no9 t_v176 (by decide)) (by omega) (by omega) dX12_laysMore_189 (fun H locs hH hS => ?_)
                          exact J190  _ _ _  hH hS (lv_sub hl [3, 4, 5, 6, 7] rfl)
                        · skip
                          have fuc110 := full_i p102_7
                          have fvc110 := full_i (nI (hg / 6))
                          have tc110 := g_nle c110
                          refine lv_iload hx hb dX12_laysMore_113 (lv_at hl 1 rfl) ?_
                          refine lv_i2l hx hb dX12_laysMore_115 rfl ?_
                          refine lv_iload hx hb dX12_laysMore_116 (lv_at hl 0 rfl) ?_
                          refine tk_i hH hS hA (tr_S (n := 2) (As := [.long v96.toInt64, .int p102_7]) hx hb hml hown hts hkb hH hOX hks hE hS hA (s_M_isIn2 l D cs kf T O X v96.toInt64 p102_7  (hO.sub (by decide))) kw_1440 kw_1441 kw_13 kw_1442 (by decide +kernel) ⟨Nat.le_of_ble_eq_true rfl, Nat.le_of_ble_eq_true rfl⟩ rfl rfl hl.1 (Nat.le_of_ble_eq_true rfl) dX12_laysMore_118 ⟨Nat.le_of_ble_eq_true rfl, Nat.le_of_ble_eq_true rfl⟩) (fun v118 u H locs hz9 hH hS => ?_)
                          obtain ⟨rfl, l_v118, u_v118, x_v1180⟩ := hz9
                          have hH : HT D cs A T O X H := hH
                          refine W.widen (k := 0) (n := 0) (Nat.le_of_ble_eq_true rfl) (Nat.le_of_ble_eq_true rfl) ?_
                          have J169 : ∀ (p169_5 : Int32) (H : Heap) (locs : List Loc) (ls : Array Slot), HT D cs A T O X H → va_S A s.heap H locs → lv_has ls 8 [(7, .int p102_7), (6, .int v96), (5, .int p169_5), (4, .int p29_4), (3, .int p11_3), (0, .ref a0), (1, .int x1), (2, .int x2)] → W p l e { frames := 1, cells := 0, slots := 0, locals := 22 } s m [.ref a0, .int x1, .int x2].toArray below meth c H locs 0 0 (MQ below (Tv D cs (fun u => u = (T, O, X)) A) [.ref a0, .int x1, .int x2].toArray s 0 0 A) (F0 m 169 ls []) := by
                            intro p169_5 H locs ls  hH hS hl
                            obtain ⟨v169, ev169⟩ : ∃ y : Int32, y = p102_7 + 1 := ⟨_, rfl⟩
                            have tv169 : v169.toInt = p102_7.toInt + (1) := by rw [ev169]; exact add_i rfl (by decide) (by omega) (by omega)
                            refine lv_iinc (v := v169) (lv' := [(7, .int v169), (6, .int v96), (5, .int p169_5), (4, .int p29_4), (3, .int p11_3), (0, .ref a0), (1, .int x1), (2, .int x2)]) hx hb dX12_laysMore_169 hl (k := 0) rfl (by rw [ev169]; rfl) (by decide) rfl (fun ls hl => ?_)
                            refine lv_goto (tgt := 102) hx hb dX12_laysMore_172 (by decide) ?_
                            exact ih102 _ (by omega) v169 p169_5 _ _ _ rfl (by omega) (by omega) hH hS (lv_sub hl [0, 1, 2, 3, 4, 5, 6, 7] rfl)
                          refine lv_if_eq (tgt := 169) hx hb dX12_laysMore_121 (by decide) (fun c121 => ?_) (fun c121 => ?_)
                          · skip
                            have tc121 := f_eq (k := 0) (by decide) c121
                            exact J169 p102_5 _ _ _  hH hS (lv_sub hl [0, 1, 2, 3, 4, 5, 6, 7] rfl)
                          · skip
                            have tc121 := f_ne (k := 0) (by decide) c121
                            refine lv_aload_n hx hb dX12_laysMore_124 rfl (lv_at hl 5 rfl) ?_
                            refine t_get (ci := 12) (lst := ft12 hg mq) (C := RX12) (F := TX12) (N := 36) hx hb hts uX12 hown hkb hH t_a0 (hO.no t_a0 (by decide)) (fun _ h9 => h9) rfl rfl 28 (by decide) rfl kw_1251 (fun _ h9 => h9) dX12_laysMore_125 (fun v9 h9 => ?_)
                            obtain ⟨v125, rfl, t_v125⟩ := h9
                            refine lv_bipush (v := 14) hx hb dX12_laysMore_128 (by decide) ?_
                            refine lv_iload_n hx hb dX12_laysMore_130 rfl (lv_at hl 4 rfl) ?_
                            refine lv_iconst (v := 1) hx hb dX12_laysMore_131 (by decide) ?_
                            refine lv_iload hx hb dX12_laysMore_132 (lv_at hl 0 rfl) ?_
                            refine lv_ishl hx hb dX12_laysMore_134 ?_
                            refine lv_topi (fun v134 ev134 => ?_)
                            have tv134 : 1 ≤ v134.toInt ∧ v134.toInt ≤ 8192 := by rw [ev134]; exact shl_b 13 (by decide) (by omega) (by omega)
                            refine lv_ior hx hb dX12_laysMore_135 ?_
                            refine lv_topi (fun v135 ev135 => ?_)
                            have tv135 : 0 ≤ v135.toInt ∧ v135.toInt < 16384 := by rw [ev135]; exact or_b 14 (by decide) (by omega) (by omega) (by omega) (by omega)
                            refine lv_imul hx hb dX12_laysMore_136 ?_
                            refine lv_topi (fun v136 ev136 => ?_)
                            have tv136 : v136.toInt = (14) * v135.toInt := by rw [ev136]; exact mul_i (by decide : (14 : Int32).toInt = 14) rfl (by omega) (by omega)
                            refine lv_iload hx hb dX12_laysMore_137 (lv_at hl 0 rfl) ?_
                            refine lv_iadd hx hb dX12_laysMore_139 ?_
                            refine lv_topi (fun v139 ev139 => ?_)
                            have tv139 : v139.toInt = v136.toInt + p102_7.toInt := by rw [ev139]; exact add_i rfl rfl (by omega) (by omega)
                            refine t_bld hx hb hkb hH t_v125 (hO.no9 t_v125 (by decide)) (by omega) (by omega) dX12_laysMore_140 (fun v140 => ?_)
                            refine lv_iconst (v := 1) hx hb dX12_laysMore_141 (by decide) ?_
                            refine lv_iadd hx hb dX12_laysMore_142 ?_
                            refine lv_topi (fun v142 ev142 => ?_)
                            refine lv_iload hx hb dX12_laysMore_143 (lv_at hl 2 rfl) ?_
                            refine lv_icmp_ge (tgt := 169) hx hb dX12_laysMore_145 (by decide) (fun c145 => ?_) (fun c145 => ?_)
                            · skip
                              have fuc145 := full_i v142
                              have fvc145 := full_i p102_5
                              have tc145 := g_le c145
                              exact J169 p102_5 _ _ _  hH hS (lv_sub hl [0, 1, 2, 3, 4, 5, 6, 7] rfl)
                            · skip
                              have fuc145 := full_i v142
                              have fvc145 := full_i p102_5
                              have tc145 := g_nle c145
                              refine lv_aload_n hx hb dX12_laysMore_148 rfl (lv_at hl 5 rfl) ?_
                              refine t_get (ci := 12) (lst := ft12 hg mq) (C := RX12) (F := TX12) (N := 36) hx hb hts uX12 hown hkb hH t_a0 (hO.no t_a0 (by decide)) (fun _ h9 => h9) rfl rfl 28 (by decide) rfl kw_1251 (fun _ h9 => h9) dX12_laysMore_149 (fun v9 h9 => ?_)
                              obtain ⟨v149, rfl, t_v149⟩ := h9
                              refine lv_bipush (v := 14) hx hb dX12_laysMore_152 (by decide) ?_
                              refine lv_iload_n hx hb dX12_laysMore_154 rfl (lv_at hl 4 rfl) ?_
                              refine lv_iconst (v := 1) hx hb dX12_laysMore_155 (by decide) ?_
                              refine lv_iload hx hb dX12_laysMore_156 (lv_at hl 0 rfl) ?_
                              refine lv_ishl hx hb dX12_laysMore_158 ?_
                              refine lv_topi (fun v158 ev158 => ?_)
                              have tv158 : 1 ≤ v158.toInt ∧ v158.toInt ≤ 8192 := by rw [ev158]; exact shl_b 13 (by decide) (by omega) (by omega)
                              refine lv_ior hx hb dX12_laysMore_159 ?_
                              refine lv_topi (fun v159 ev159 => ?_)
                              have tv159 : 0 ≤ v159.toInt ∧ v159.toInt < 16384 := by rw [ev159]; exact or_b 14 (by decide) (by omega) (by omega) (by omega) (by omega)
                              refine lv_imul hx hb dX12_laysMore_160 ?_
                              refine lv_topi (fun v160 ev160 => ?_)
                              have tv160 : v160.toInt = (14) * v159.toInt := by rw [ev160]; exact mul_i (by decide : (14 : Int32).toInt = 14) rfl (by omega) (by omega)
                              refine lv_iload hx hb dX12_laysMore_161 (lv_at hl 0 rfl) ?_
                              refine lv_iadd hx hb dX12_laysMore_163 ?_
                              refine lv_topi (fun v163 ev163 => ?_)
                              have tv163 : v163.toInt = v160.toInt + p102_7.toInt := by rw [ev163]; exact add_i rfl rfl (by omega) (by omega)
                              refine t_bld hx hb hkb hH t_v149 (hO.no9 t_v149 (by decide)) (by omega) (by omega) dX12_laysMore_164 (fun v164 => ?_)
                              refine lv_iconst (v := 1) hx hb dX12_laysMore_165 (by decide) ?_
                              refine lv_iadd hx hb dX12_laysMore_166 ?_
                              refine lv_topi (fun v166 ev166 => ?_)
                              refine lv_istore (lv' := [(5, .int v166), (7, .int p102_7), (6, .int v96), (4, .int p29_4), (3, .int p11_3), (0, .ref a0), (1, .int x1), (2, .int x2)]) hx hb dX12_laysMore_167 hl (by decide) rfl (fun ls hl => ?_)
                              exact J169 v166 _ _ _  hH hS (lv_sub hl [1, 2, 0, 3, 4, 5, 6, 7] rfl)
                    refine lv_istore (lv' := [(7, .int 0), (6, .int v96), (5, .int k82_0), (4, .int p29_4), (3, .int p11_3), (0, .ref a0), (1, .int x1), (2, .int x2)]) hx hb dX12_laysMore_100 hl (by decide) rfl (fun ls hl => ?_)
                    exact J102 _ 0 k82_0 _ _ _ rfl (by decide) (by decide) hH hS (lv_sub hl [0, 1, 2, 3, 4, 5, 6, 7] rfl)
                  have J80 : ∀  (H : Heap) (locs : List Loc) (ls : Array Slot), HT D cs A T O X H → va_S A s.heap H locs → lv_has ls 8 [(4, .int p29_4), (3, .int p11_3), (0, .ref a0), (1, .int x1), (2, .int x2)] → W p l e { frames := 1, cells := 0, slots := 0, locals := 22 } s m [.ref a0, .int x1, .int x2].toArray below meth c H locs 0 0 (MQ below (Tv D cs (fun u => u = (T, O, X)) A) [.ref a0, .int x1, .int x2].toArray s 0 0 A) (F0 m 80 ls []) := by
                    intro  H locs ls  hH hS hl
                    refine lv_bipush (v := 99) hx hb dX12_laysMore_80 (by decide) ?_
                    exact J82 99 _ _ _ (by decide) (by decide) hH hS (lv_sub hl [0, 1, 2, 3, 4] rfl)
                  refine lv_if_eq (tgt := 80) hx hb dX12_laysMore_65 (by decide) (fun c65 => ?_) (fun c65 => ?_)
                  · skip
                    have tc65 := f_eq (k := 0) (by decide) c65
                    exact J80  _ _ _  hH hS (lv_sub hl [0, 1, 2, 3, 4] rfl)
                  · skip
                    have tc65 := f_ne (k := 0) (by decide) c65
                    refine lv_iload_n hx hb dX12_laysMore_68 rfl (lv_at hl 4 rfl) ?_
                    refine lv_iload_n hx hb dX12_laysMore_69 rfl (lv_at hl 1 rfl) ?_
                    refine lv_iconst (v := (-1)) hx hb dX12_laysMore_70 (by decide) ?_
                    refine lv_ixor hx hb dX12_laysMore_71 ?_
                    refine lv_topi (fun v71 ev71 => ?_)
                    refine lv_iand hx hb dX12_laysMore_72 ?_
                    refine lv_topi (fun v72 ev72 => ?_)
                    refine lv_if_ne (tgt := 80) hx hb dX12_laysMore_73 (by decide) (fun c73 => ?_) (fun c73 => ?_)
                    · skip
                      have tc73 := f_ne (k := 0) (by decide) c73
                      exact J80  _ _ _  hH hS (lv_sub hl [0, 1, 2, 3, 4] rfl)
                    · skip
                      have tc73 := f_eq (k := 0) (by decide) c73
                      refine lv_iconst (v := 0) hx hb dX12_laysMore_76 (by decide) ?_
                      refine lv_goto (tgt := 82) hx hb dX12_laysMore_77 (by decide) ?_
                      exact J82 0 _ _ _ (by decide) (by decide) hH hS (lv_sub hl [0, 1, 2, 3, 4] rfl)
                · skip
                  have tc47 := f_eq (k := 0) (by decide) c47
                  refine lv_goto (tgt := 190) hx hb dX12_laysMore_50 (by decide) ?_
                  exact J190  _ _ _  hH hS (lv_sub hl [0, 1, 2, 3, 4] rfl)
          refine lv_istore (lv' := [(4, .int 0), (3, .int p11_3), (0, .ref a0), (1, .int x1), (2, .int x2)]) hx hb dX12_laysMore_27 hl (by decide) rfl (fun ls hl => ?_)
          exact J29 _ 0 _ _ _ rfl (by decide) (by decide) hH hS (lv_sub hl [0, 1, 2, 3, 4] rfl)
        · skip
          have tc20 := f_ne (k := 0) (by decide) c20
          refine lv_goto (tgt := 196) hx hb dX12_laysMore_23 (by decide) ?_
          exact J196  _ _ _  hH hS (lv_sub hl [0, 1, 2, 3] rfl)
  refine lv_istore_n (lv' := [(3, .int v9), (0, .ref a0), (1, .int x1), (2, .int x2)]) hx hb dX12_laysMore_10 rfl hl (by decide) rfl (fun ls hl => ?_)
  exact J11 _ v9 _ _ _ rfl (by omega) (by omega) hH hS (lv_sub hl [0, 1, 2, 3] rfl)
set_option maxHeartbeats 4000000 in
set_option maxRecDepth 100000 in
theorem s_M_laysWhose (l : Launch) (D : va_G) (cs : CS) (kf : KF) (T : TF) (O : List Nat) (X : va_W) (a0 hg mq : Nat) (x1 : Int32) (x2 : Int32) (t_a0 : T a0 = some (22, hg, mq)) (b_hg : hg < 90) (l_x1 : 0 ≤ x1.toInt) (u_x1 : x1.toInt ≤ 4) (hO : okO T O [0, 1, 8, 9, 22]) : TK l D cs kf yX12_laysWhose cX12_laysWhose 6 (some (.int)) { frames := 5, cells := 0, slots := 0, locals := 119 } [.ref a0, .int x1, .int x2] T O X (Ti D cs (fun r u => u = (T, O, X) ∧ -1 ≤ r.toInt ∧ r.toInt ≤ 13)) := by
  refine tk_of (by decide) (Nat.le_of_ble_eq_true rfl) (fun p e s m below meth c ls A H locs hx hb hr hml hown hts hlocks hnm hkb hH hS hA hOX hks hE hl => ?_)
  have hown : s.vm.findClass RX12 = some m.cls := hown
  have hl : lv_has ls 6 [(0, .ref a0), (1, .int x1), (2, .int x2)] := hl
  refine lv_aload_n hx hb dX12_laysWhose_0 rfl (lv_at hl 0 rfl) ?_
  refine lv_iload_n hx hb dX12_laysWhose_1 rfl (lv_at hl 1 rfl) ?_
  refine tk_v hH hS hA (tr_V (n := 1) (As := [.int x1]) hx hb hml hown hts hkb hH hOX hks hE hS hA (s_M_laysGuide l D cs kf T O X a0 hg mq x1 t_a0 b_hg (by omega) (by omega) (hO.sub (by decide))) kw_1502 kw_1504 ks_71 kw_13 kw_1505 (by decide +kernel) ⟨Nat.le_of_ble_eq_true rfl, Nat.le_of_ble_eq_true rfl⟩ (HT.recv (ci := 12) hkb hH t_a0 (hO.no t_a0 (by decide)) rfl) rfl rfl hl.1 (Nat.le_of_ble_eq_true rfl) dX12_laysWhose_2 ⟨Nat.le_of_ble_eq_true rfl, Nat.le_of_ble_eq_true rfl⟩) (fun u H locs hz9 hH hS => ?_)
  have hz9 : u = (T, O, X) := hz9
  subst hz9
  have hH : HT D cs A T O X H := hH
  refine W.widen (k := 0) (n := 0) (Nat.le_of_ble_eq_true rfl) (Nat.le_of_ble_eq_true rfl) ?_
  refine lv_iload_n hx hb dX12_laysWhose_5 rfl (lv_at hl 2 rfl) ?_
  refine lv_aload_n hx hb dX12_laysWhose_6 rfl (lv_at hl 0 rfl) ?_
  refine tk_i hH hS hA (tr_V (n := 0) (As := []) hx hb hml hown hts hkb hH hOX hks hE hS hA (s_M_thereSet l D cs kf T O X a0 hg mq t_a0 b_hg (hO.sub (by decide))) kw_1724 kw_1726 ks_99 kw_13 kw_1727 (by decide +kernel) ⟨Nat.le_of_ble_eq_true rfl, Nat.le_of_ble_eq_true rfl⟩ (HT.recv (ci := 12) hkb hH t_a0 (hO.no t_a0 (by decide)) rfl) rfl rfl hl.1 (Nat.le_of_ble_eq_true rfl) dX12_laysWhose_7 ⟨Nat.le_of_ble_eq_true rfl, Nat.le_of_ble_eq_true rfl⟩) (fun v7 u H locs hz9 hH hS => ?_)
  obtain ⟨rfl, l_v7, u_v7⟩ := hz9
  have hH : HT D cs A T O X H := hH
  refine W.widen (k := 0) (n := 0) (Nat.le_of_ble_eq_true rfl) (Nat.le_of_ble_eq_true rfl) ?_
  refine lv_aload_n hx hb dX12_laysWhose_10 rfl (lv_at hl 0 rfl) ?_
  refine tk_i hH hS hA (tr_V (n := 0) (As := []) hx hb hml hown hts hkb hH hOX hks hE hS hA (s_M_ends l D cs kf T O X a0 hg mq t_a0 b_hg (hO.sub (by decide))) kw_1536 kw_1538 ks_78 kw_13 kw_1539 (by decide +kernel) ⟨Nat.le_of_ble_eq_true rfl, Nat.le_of_ble_eq_true rfl⟩ (HT.recv (ci := 12) hkb hH t_a0 (hO.no t_a0 (by decide)) rfl) rfl rfl hl.1 (Nat.le_of_ble_eq_true rfl) dX12_laysWhose_11 ⟨Nat.le_of_ble_eq_true rfl, Nat.le_of_ble_eq_true rfl⟩) (fun v11 u H locs hz9 hH hS => ?_)
  obtain ⟨rfl, l_v11, u_v11⟩ := hz9
  have hH : HT D cs A T O X H := hH
  refine W.widen (k := 0) (n := 0) (Nat.le_of_ble_eq_true rfl) (Nat.le_of_ble_eq_true rfl) ?_
  refine lv_iand hx hb dX12_laysWhose_14 ?_
  refine lv_topi (fun v14 ev14 => ?_)
  have tv14 : 0 ≤ v14.toInt ∧ v14.toInt ≤ v7.toInt := by rw [ev14]; exact and_l (by omega)
  have ttv14 : 0 ≤ v14.toInt ∧ v14.toInt ≤ v11.toInt := by rw [ev14]; exact and_r (by omega)
  refine lv_ior hx hb dX12_laysWhose_15 ?_
  refine lv_topi (fun v15 ev15 => ?_)
  refine lv_istore_n (lv' := [(3, .int v15), (0, .ref a0), (1, .int x1), (2, .int x2)]) hx hb dX12_laysWhose_16 rfl hl (by decide) rfl (fun ls hl => ?_)
  refine lv_aload_n hx hb dX12_laysWhose_17 rfl (lv_at hl 1 rfl) ?_
  refine lv_iload_n hx hb dX12_laysWhose_18 rfl (lv_at hl 0 rfl) ?_
  refine lv_iload_n hx hb dX12_laysWhose_19 rfl (lv_at hl 3 rfl) ?_
  refine tk_v hH hS hA (tr_V (n := 2) (As := [.int v15, .int x2]) hx hb hml hown hts hkb hH hOX hks hE hS hA (s_M_laysMore l D cs kf T O X a0 hg mq v15 x2 t_a0 b_hg (hO.sub (by decide))) kw_1732 kw_1734 ks_101 kw_13 kw_1735 (by decide +kernel) ⟨Nat.le_of_ble_eq_true rfl, Nat.le_of_ble_eq_true rfl⟩ (HT.recv (ci := 12) hkb hH t_a0 (hO.no t_a0 (by decide)) rfl) rfl rfl hl.1 (Nat.le_of_ble_eq_true rfl) dX12_laysWhose_20 ⟨Nat.le_of_ble_eq_true rfl, Nat.le_of_ble_eq_true rfl⟩) (fun u H locs hz9 hH hS => ?_)
  have hz9 : u = (T, O, X) := hz9
  subst hz9
  have hH : HT D cs A T O X H := hH
  refine W.widen (k := 0) (n := 0) (Nat.le_of_ble_eq_true rfl) (Nat.le_of_ble_eq_true rfl) ?_
  refine lv_iconst (v := (-1)) hx hb dX12_laysWhose_23 (by decide) ?_
  refine lv_istore (lv' := [(4, .int (-1)), (3, .int v15), (0, .ref a0), (1, .int x1), (2, .int x2)]) hx hb dX12_laysWhose_24 hl (by decide) rfl (fun ls hl => ?_)
  refine lv_iconst (v := 0) hx hb dX12_laysWhose_26 (by decide) ?_
  have J29 : ∀ (n : Nat) (p29_5 : Int32) (p29_4 : Int32) (H : Heap) (locs : List Loc) (ls : Array Slot), (14 - p29_5.toInt).toNat = n → (0 ≤ p29_5.toInt) → (p29_5.toInt ≤ 14) → (-1 ≤ p29_4.toInt) → (p29_4.toInt ≤ 13) → HT D cs A T O X H → va_S A s.heap H locs → lv_has ls 6 [(5, .int p29_5), (4, .int p29_4), (3, .int v15), (0, .ref a0)] → W p l e { frames := 5, cells := 0, slots := 0, locals := 119 } s m [.ref a0, .int x1, .int x2].toArray below meth c H locs 0 0 (MQ below (Ti D cs (fun r u => u = (T, O, X) ∧ -1 ≤ r.toInt ∧ r.toInt ≤ 13) A) [.ref a0, .int x1, .int x2].toArray s 0 0 A) (F0 m 29 ls []) := by
    intro n
    induction n using Nat.strongRecOn with
    | _ n ih29 =>
      intro p29_5 p29_4 H locs ls hm29 l_p29_5 u_p29_5 l_p29_4 u_p29_4 hH hS hl
      refine lv_iload hx hb dX12_laysWhose_29 (lv_at hl 0 rfl) ?_
      refine lv_aload_n hx hb dX12_laysWhose_31 rfl (lv_at hl 3 rfl) ?_
      refine t_get (ci := 12) (lst := ft12 hg mq) (C := RX12) (F := TX12) (N := 36) hx hb hts uX12 hown hkb hH t_a0 (hO.no t_a0 (by decide)) (fun _ h9 => h9) rfl rfl 1 (by decide) rfl kw_1224 (fun _ h9 => h9) dX12_laysWhose_32 (fun v9 h9 => ?_)
      obtain ⟨v32, rfl, t_v32⟩ := h9
      refine lv_iconst (v := 1) hx hb dX12_laysWhose_35 (by decide) ?_
      refine t_ild8 hx hb hkb hH t_v32 (hO.no t_v32 (by decide)) (by decide) (by decide) (by decide) dX12_laysWhose_36 (fun v36 h9 h8 => ?_)
      have q9 := (h8 rfl).1 rfl
      subst q9
      have eH9 : (nI (hg / 6)).toInt = (((hg / 6) : Nat) : Int) := nI_toInt (by omega)
      refine lv_icmp_ge (tgt := 111) hx hb dX12_laysWhose_37 (by decide) (fun c37 => ?_) (fun c37 => ?_)
      · skip
        have fuc37 := full_i p29_5
        have fvc37 := full_i (nI (hg / 6))
        have tc37 := g_le c37
        refine lv_iload hx hb dX12_laysWhose_111 (lv_at hl 1 rfl) ?_
        exact te_i hx hb hr hlocks hH hS (⟨rfl, by omega, by omega⟩) dX12_laysWhose_113
      · skip
        have fuc37 := full_i p29_5
        have fvc37 := full_i (nI (hg / 6))
        have tc37 := g_nle c37
        refine lv_iload_n hx hb dX12_laysWhose_40 rfl (lv_at hl 2 rfl) ?_
        refine lv_aload_n hx hb dX12_laysWhose_41 rfl (lv_at hl 3 rfl) ?_
        refine t_get (ci := 12) (lst := ft12 hg mq) (C := RX12) (F := TX12) (N := 36) hx hb hts uX12 hown hkb hH t_a0 (hO.no t_a0 (by decide)) (fun _ h9 => h9) rfl rfl 1 (by decide) rfl kw_1224 (fun _ h9 => h9) dX12_laysWhose_42 (fun v9 h9 => ?_)
        obtain ⟨v42, rfl, t_v42⟩ := h9
        refine lv_iconst (v := 4) hx hb dX12_laysWhose_45 (by decide) ?_
        refine t_ild8 hx hb hkb hH t_v42 (hO.no t_v42 (by decide)) (by decide) (by decide) (by decide) dX12_laysWhose_46 (fun v46 h9 h8 => ?_)
        have tv46 : 0 ≤ v46.toInt ∧ v46.toInt ≤ 16383 := h9.2.2.1 (by decide)
        refine lv_iand hx hb dX12_laysWhose_47 ?_
        refine lv_topi (fun v47 ev47 => ?_)
        have tv47 : 0 ≤ v47.toInt ∧ v47.toInt ≤ v46.toInt := by rw [ev47]; exact and_r (by omega)
        refine lv_i2l hx hb dX12_laysWhose_48 rfl ?_
        refine lv_iload hx hb dX12_laysWhose_49 (lv_at hl 0 rfl) ?_
        refine tk_i hH hS hA (tr_S (n := 2) (As := [.long v47.toInt64, .int p29_5]) hx hb hml hown hts hkb hH hOX hks hE hS hA (s_M_isIn2 l D cs kf T O X v47.toInt64 p29_5  (hO.sub (by decide))) kw_1440 kw_1441 kw_13 kw_1442 (by decide +kernel) ⟨Nat.le_of_ble_eq_true rfl, Nat.le_of_ble_eq_true rfl⟩ rfl rfl hl.1 (Nat.le_of_ble_eq_true rfl) dX12_laysWhose_51 ⟨Nat.le_of_ble_eq_true rfl, Nat.le_of_ble_eq_true rfl⟩) (fun v51 u H locs hz9 hH hS => ?_)
        obtain ⟨rfl, l_v51, u_v51, x_v510⟩ := hz9
        have hH : HT D cs A T O X H := hH
        refine W.widen (k := 0) (n := 0) (Nat.le_of_ble_eq_true rfl) (Nat.le_of_ble_eq_true rfl) ?_
        have J105 : ∀ (p105_4 : Int32) (H : Heap) (locs : List Loc) (ls : Array Slot), (-1 ≤ p105_4.toInt) → (p105_4.toInt ≤ 13) → HT D cs A T O X H → va_S A s.heap H locs → lv_has ls 6 [(5, .int p29_5), (4, .int p105_4), (3, .int v15), (0, .ref a0)] → W p l e { frames := 5, cells := 0, slots := 0, locals := 119 } s m [.ref a0, .int x1, .int x2].toArray below meth c H locs 0 0 (MQ below (Ti D cs (fun r u => u = (T, O, X) ∧ -1 ≤ r.toInt ∧ r.toInt ≤ 13) A) [.ref a0, .int x1, .int x2].toArray s 0 0 A) (F0 m 105 ls []) := by
          intro p105_4 H locs ls l_p105_4 u_p105_4 hH hS hl
          obtain ⟨v105, ev105⟩ : ∃ y : Int32, y = p29_5 + 1 := ⟨_, rfl⟩
          have tv105 : v105.toInt = p29_5.toInt + (1) := by rw [ev105]; exact add_i rfl (by decide) (by omega) (by omega)
          refine lv_iinc (v := v105) (lv' := [(5, .int v105), (4, .int p105_4), (3, .int v15), (0, .ref a0)]) hx hb dX12_laysWhose_105 hl (k := 0) rfl (by rw [ev105]; rfl) (by decide) rfl (fun ls hl => ?_)
          refine lv_goto (tgt := 29) hx hb dX12_laysWhose_108 (by decide) ?_
          exact ih29 _ (by omega) v105 p105_4 _ _ _ rfl (by omega) (by omega) (by omega) (by omega) hH hS (lv_sub hl [0, 1, 2, 3] rfl)
        refine lv_if_eq (tgt := 105) hx hb dX12_laysWhose_54 (by decide) (fun c54 => ?_) (fun c54 => ?_)
        · skip
          have tc54 := f_eq (k := 0) (by decide) c54
          exact J105 p29_4 _ _ _ (by omega) (by omega) hH hS (lv_sub hl [0, 1, 2, 3] rfl)
        · skip
          have tc54 := f_ne (k := 0) (by decide) c54
          refine lv_aload_n hx hb dX12_laysWhose_57 rfl (lv_at hl 3 rfl) ?_
          refine lv_iconst (v := 1) hx hb dX12_laysWhose_58 (by decide) ?_
          refine lv_iload hx hb dX12_laysWhose_59 (lv_at hl 0 rfl) ?_
          refine lv_ishl hx hb dX12_laysWhose_61 ?_
          refine lv_topi (fun v61 ev61 => ?_)
          have tv61 : 1 ≤ v61.toInt ∧ v61.toInt ≤ 8192 := by rw [ev61]; exact shl_b 13 (by decide) (by omega) (by omega)
          refine lv_iload hx hb dX12_laysWhose_62 (lv_at hl 0 rfl) ?_
          refine tk_i hH hS hA (tr_V (n := 2) (As := [.int v61, .int p29_5]) hx hb hml hown hts hkb hH hOX hks hE hS hA (s_M_moreBy l D cs kf T O X a0 hg mq v61 p29_5 t_a0 b_hg (by omega) (by omega) (by omega) (by omega) (hO.sub (by decide))) kw_1736 kw_1738 ks_102 kw_13 kw_1739 (by decide +kernel) ⟨Nat.le_of_ble_eq_true rfl, Nat.le_of_ble_eq_true rfl⟩ (HT.recv (ci := 12) hkb hH t_a0 (hO.no t_a0 (by decide)) rfl) rfl rfl hl.1 (Nat.le_of_ble_eq_true rfl) dX12_laysWhose_64 ⟨Nat.le_of_ble_eq_true rfl, Nat.le_of_ble_eq_true rfl⟩) (fun v64 u H locs hz9 hH hS => ?_)
          have hz9 : u = (T, O, X) := hz9
          subst hz9
          have hH : HT D cs A T O X H := hH
          refine W.widen (k := 0) (n := 0) (Nat.le_of_ble_eq_true rfl) (Nat.le_of_ble_eq_true rfl) ?_
          refine lv_bipush (v := 99) hx hb dX12_laysWhose_67 (by decide) ?_
          refine lv_icmp_ge (tgt := 105) hx hb dX12_laysWhose_69 (by decide) (fun c69 => ?_) (fun c69 => ?_)
          · skip
            have tc69 := f_ge (k := 99) (by decide) c69
            exact J105 p29_4 _ _ _ (by omega) (by omega) hH hS (lv_sub hl [0, 1, 2, 3] rfl)
          · skip
            have tc69 := f_nge (k := 99) (by decide) c69
            refine lv_iload hx hb dX12_laysWhose_72 (lv_at hl 1 rfl) ?_
            refine lv_iconst (v := (-1)) hx hb dX12_laysWhose_74 (by decide) ?_
            have J101 : ∀  (H : Heap) (locs : List Loc) (ls : Array Slot), HT D cs A T O X H → va_S A s.heap H locs → lv_has ls 6 [(5, .int p29_5), (3, .int v15), (0, .ref a0)] → W p l e { frames := 5, cells := 0, slots := 0, locals := 119 } s m [.ref a0, .int x1, .int x2].toArray below meth c H locs 0 0 (MQ below (Ti D cs (fun r u => u = (T, O, X) ∧ -1 ≤ r.toInt ∧ r.toInt ≤ 13) A) [.ref a0, .int x1, .int x2].toArray s 0 0 A) (F0 m 101 ls []) := by
              intro  H locs ls  hH hS hl
              refine lv_iload hx hb dX12_laysWhose_101 (lv_at hl 0 rfl) ?_
              refine lv_istore (lv' := [(4, .int p29_5), (5, .int p29_5), (3, .int v15), (0, .ref a0)]) hx hb dX12_laysWhose_103 hl (by decide) rfl (fun ls hl => ?_)
              exact J105 p29_5 _ _ _ (by omega) (by omega) hH hS (lv_sub hl [1, 0, 2, 3] rfl)
            refine lv_icmp_eq (tgt := 101) hx hb dX12_laysWhose_75 (by decide) (fun c75 => ?_) (fun c75 => ?_)
            · skip
              have tc75 := f_eq (k := -1) (by decide) c75
              exact J101  _ _ _  hH hS (lv_sub hl [0, 2, 3] rfl)
            · skip
              have tc75 := f_ne (k := -1) (by decide) c75
              refine lv_aload_n hx hb dX12_laysWhose_78 rfl (lv_at hl 3 rfl) ?_
              refine lv_iconst (v := 1) hx hb dX12_laysWhose_79 (by decide) ?_
              refine lv_iload hx hb dX12_laysWhose_80 (lv_at hl 0 rfl) ?_
              refine lv_ishl hx hb dX12_laysWhose_82 ?_
              refine lv_topi (fun v82 ev82 => ?_)
              have tv82 : 1 ≤ v82.toInt ∧ v82.toInt ≤ 8192 := by rw [ev82]; exact shl_b 13 (by decide) (by omega) (by omega)
              refine lv_iload hx hb dX12_laysWhose_83 (lv_at hl 0 rfl) ?_
              refine tk_i hH hS hA (tr_V (n := 2) (As := [.int v82, .int p29_5]) hx hb hml hown hts hkb hH hOX hks hE hS hA (s_M_moreBy l D cs kf T O X a0 hg mq v82 p29_5 t_a0 b_hg (by omega) (by omega) (by omega) (by omega) (hO.sub (by decide))) kw_1736 kw_1738 ks_102 kw_13 kw_1739 (by decide +kernel) ⟨Nat.le_of_ble_eq_true rfl, Nat.le_of_ble_eq_true rfl⟩ (HT.recv (ci := 12) hkb hH t_a0 (hO.no t_a0 (by decide)) rfl) rfl rfl hl.1 (Nat.le_of_ble_eq_true rfl) dX12_laysWhose_85 ⟨Nat.le_of_ble_eq_true rfl, Nat.le_of_ble_eq_true rfl⟩) (fun v85 u H locs hz9 hH hS => ?_)
              have hz9 : u = (T, O, X) := hz9
              subst hz9
              have hH : HT D cs A T O X H := hH
              refine W.widen (k := 0) (n := 0) (Nat.le_of_ble_eq_true rfl) (Nat.le_of_ble_eq_true rfl) ?_
              refine lv_aload_n hx hb dX12_laysWhose_88 rfl (lv_at hl 3 rfl) ?_
              refine lv_iconst (v := 1) hx hb dX12_laysWhose_89 (by decide) ?_
              refine lv_iload hx hb dX12_laysWhose_90 (lv_at hl 1 rfl) ?_
              refine lv_ishl hx hb dX12_laysWhose_92 ?_
              refine lv_topi (fun v92 ev92 => ?_)
              have tv92 : 1 ≤ v92.toInt ∧ v92.toInt ≤ 8192 := by rw [ev92]; exact shl_b 13 (by decide) (by omega) (by omega)
              refine lv_iload hx hb dX12_laysWhose_93 (lv_at hl 1 rfl) ?_
              refine tk_i hH hS hA (tr_V (n := 2) (As := [.int v92, .int p29_4]) hx hb hml hown hts hkb hH hOX hks hE hS hA (s_M_moreBy l D cs kf T O X a0 hg mq v92 p29_4 t_a0 b_hg (by omega) (by omega) (by omega) (by omega) (hO.sub (by decide))) kw_1736 kw_1738 ks_102 kw_13 kw_1739 (by decide +kernel) ⟨Nat.le_of_ble_eq_true rfl, Nat.le_of_ble_eq_true rfl⟩ (HT.recv (ci := 12) hkb hH t_a0 (hO.no t_a0 (by decide)) rfl) rfl rfl hl.1 (Nat.le_of_ble_eq_true rfl) dX12_laysWhose_95 ⟨Nat.le_of_ble_eq_true rfl, Nat.le_of_ble_eq_true rfl⟩) (fun v95 u H locs hz9 hH hS => ?_)
              have hz9 : u = (T, O, X) := hz9
              subst hz9
              have hH : HT D cs A T O X H := hH
              refine W.widen (k := 0) (n := 0) (Nat.le_of_ble_eq_true rfl) (Nat.le_of_ble_eq_true rfl) ?_
              refine lv_icmp_ge (tgt := 105) hx hb dX12_laysWhose_98 (by decide) (fun c98 => ?_) (fun c98 => ?_)
              · skip
                have fuc98 := full_i v85
                have fvc98 := full_i v95
                have tc98 := g_le c98
                exact J105 p29_4 _ _ _ (by omega) (by omega) hH hS (lv_sub hl [0, 1, 2, 3] rfl)
              · skip
                have fuc98 := full_i v85
                have fvc98 := full_i v95
                have tc98 := g_nle c98
                exact J101  _ _ _  hH hS (lv_sub hl [0, 2, 3] rfl)
  refine lv_istore (lv' := [(5, .int 0), (4, .int (-1)), (3, .int v15), (0, .ref a0), (1, .int x1), (2, .int x2)]) hx hb dX12_laysWhose_27 hl (by decide) rfl (fun ls hl => ?_)
  exact J29 _ 0 (-1) _ _ _ rfl (by decide) (by decide) (by decide) (by decide) hH hS (lv_sub hl [0, 1, 2, 3] rfl)
set_option maxHeartbeats 4000000 in
set_option maxRecDepth 100000 in
theorem s_M_whose (l : Launch) (D : va_G) (cs : CS) (kf : KF) (T : TF) (O : List Nat) (X : va_W) (a0 hg mq : Nat) (x1 : Int32) (t_a0 : T a0 = some (22, hg, mq)) (b_hg : hg < 90) (hO : okO T O [0, 1, 8, 9, 22]) : TK l D cs kf yX12_whose cX12_whose 4 (some (.int)) { frames := 6, cells := 0, slots := 0, locals := 144 } [.ref a0, .int x1] T O X (Ti D cs (fun r u => u = (T, O, X) ∧ -3 ≤ r.toInt ∧ r.toInt ≤ 16383)) := by
  refine tk_of (by decide) (Nat.le_of_ble_eq_true rfl) (fun p e s m below meth c ls A H locs hx hb hr hml hown hts hlocks hnm hkb hH hS hA hOX hks hE hl => ?_)
  have hown : s.vm.findClass RX12 = some m.cls := hown
  have hl : lv_has ls 4 [(0, .ref a0), (1, .int x1)] := hl
  refine lv_aload_n hx hb dX12_whose_0 rfl (lv_at hl 0 rfl) ?_
  refine lv_iconst (v := 0) hx hb dX12_whose_1 (by decide) ?_
  refine t_put (ci := 12) (lst := ft12 hg mq) (v := .int 0) (ty := tyX12 0) (C := RX12) (F := TX12) (N := 36) hx hb hts uX12 tyX12 tyX12_ok nmX12 hown hkb hH hS t_a0 (hO.no t_a0 (by decide)) (fun _ => Iff.rfl) rfl rfl 0 (by decide) rfl (⟨_, rfl⟩) kw_1223 (fun _ h9 => h9) rfl (tyX12_ok 0 (by decide)) rfl rfl dX12_whose_2 (fun H locs hH hS => ?_)
  refine lv_aload_n hx hb dX12_whose_5 rfl (lv_at hl 0 rfl) ?_
  refine lv_iload_n hx hb dX12_whose_6 rfl (lv_at hl 1 rfl) ?_
  refine tk_i hH hS hA (tr_V (n := 1) (As := [.int x1]) hx hb hml hown hts hkb hH hOX hks hE hS hA (s_M_isSetOf l D cs kf T O X a0 hg mq x1 t_a0 b_hg (hO.sub (by decide))) kw_1720 kw_1722 ks_98 kw_13 kw_1723 (by decide +kernel) ⟨Nat.le_of_ble_eq_true rfl, Nat.le_of_ble_eq_true rfl⟩ (HT.recv (ci := 12) hkb hH t_a0 (hO.no t_a0 (by decide)) rfl) rfl rfl hl.1 (Nat.le_of_ble_eq_true rfl) dX12_whose_7 ⟨Nat.le_of_ble_eq_true rfl, Nat.le_of_ble_eq_true rfl⟩) (fun v7 u H locs hz9 hH hS => ?_)
  obtain ⟨rfl, l_v7, u_v7⟩ := hz9
  have hH : HT D cs A T O X H := hH
  refine W.widen (k := 0) (n := 0) (Nat.le_of_ble_eq_true rfl) (Nat.le_of_ble_eq_true rfl) ?_
  refine lv_if_ne (tgt := 16) hx hb dX12_whose_10 (by decide) (fun c10 => ?_) (fun c10 => ?_)
  · skip
    have tc10 := f_ne (k := 0) (by decide) c10
    refine lv_iconst (v := 0) hx hb dX12_whose_16 (by decide) ?_
    refine lv_istore_n (lv' := [(2, .int 0), (0, .ref a0), (1, .int x1)]) hx hb dX12_whose_17 rfl hl (by decide) rfl (fun ls hl => ?_)
    refine lv_iconst (v := 0) hx hb dX12_whose_18 (by decide) ?_
    have J20 : ∀ (n : Nat) (p20_3 : Int32) (p20_2 : Int32) (H : Heap) (locs : List Loc) (ls : Array Slot), (5 - p20_3.toInt).toNat = n → (0 ≤ p20_3.toInt) → (p20_3.toInt ≤ 5) → (0 ≤ p20_2.toInt) → (p20_2.toInt ≤ 16383) → HT D cs A T O X H → va_S A s.heap H locs → lv_has ls 4 [(3, .int p20_3), (2, .int p20_2), (0, .ref a0), (1, .int x1)] → W p l e { frames := 6, cells := 0, slots := 0, locals := 144 } s m [.ref a0, .int x1].toArray below meth c H locs 0 0 (MQ below (Ti D cs (fun r u => u = (T, O, X) ∧ -3 ≤ r.toInt ∧ r.toInt ≤ 16383) A) [.ref a0, .int x1].toArray s 0 0 A) (F0 m 20 ls []) := by
      intro n
      induction n using Nat.strongRecOn with
      | _ n ih20 =>
        intro p20_3 p20_2 H locs ls hm20 l_p20_3 u_p20_3 l_p20_2 u_p20_2 hH hS hl
        refine lv_iload_n hx hb dX12_whose_20 rfl (lv_at hl 0 rfl) ?_
        refine lv_aload_n hx hb dX12_whose_21 rfl (lv_at hl 2 rfl) ?_
        refine t_get (ci := 12) (lst := ft12 hg mq) (C := RX12) (F := TX12) (N := 36) hx hb hts uX12 hown hkb hH t_a0 (hO.no t_a0 (by decide)) (fun _ h9 => h9) rfl rfl 1 (by decide) rfl kw_1224 (fun _ h9 => h9) dX12_whose_22 (fun v9 h9 => ?_)
        obtain ⟨v22, rfl, t_v22⟩ := h9
        refine lv_iconst (v := 2) hx hb dX12_whose_25 (by decide) ?_
        refine t_ild8 hx hb hkb hH t_v22 (hO.no t_v22 (by decide)) (by decide) (by decide) (by decide) dX12_whose_26 (fun v26 h9 h8 => ?_)
        have q9 := (h8 rfl).2 rfl
        subst q9
        have eG9 : (nI (hg % 6)).toInt = (((hg % 6) : Nat) : Int) := nI_toInt (by omega)
        refine lv_icmp_ge (tgt := 56) hx hb dX12_whose_27 (by decide) (fun c27 => ?_) (fun c27 => ?_)
        · skip
          have fuc27 := full_i p20_3
          have fvc27 := full_i (nI (hg % 6))
          have tc27 := g_le c27
          refine lv_iload_n hx hb dX12_whose_56 rfl (lv_at hl 1 rfl) ?_
          exact te_i hx hb hr hlocks hH hS (⟨rfl, by omega, by omega⟩) dX12_whose_57
        · skip
          have fuc27 := full_i p20_3
          have fvc27 := full_i (nI (hg % 6))
          have tc27 := g_nle c27
          refine lv_iload_n hx hb dX12_whose_30 rfl (lv_at hl 1 rfl) ?_
          refine lv_aload_n hx hb dX12_whose_31 rfl (lv_at hl 2 rfl) ?_
          refine lv_iload_n hx hb dX12_whose_32 rfl (lv_at hl 0 rfl) ?_
          refine lv_iload_n hx hb dX12_whose_33 rfl (lv_at hl 3 rfl) ?_
          refine tk_i hH hS hA (tr_V (n := 2) (As := [.int p20_3, .int x1]) hx hb hml hown hts hkb hH hOX hks hE hS hA (s_M_laysWhose l D cs kf T O X a0 hg mq p20_3 x1 t_a0 b_hg (by omega) (by omega) (hO.sub (by decide))) kw_1728 kw_1730 ks_100 kw_13 kw_1731 (by decide +kernel) ⟨Nat.le_of_ble_eq_true rfl, Nat.le_of_ble_eq_true rfl⟩ (HT.recv (ci := 12) hkb hH t_a0 (hO.no t_a0 (by decide)) rfl) rfl rfl hl.1 (Nat.le_of_ble_eq_true rfl) dX12_whose_34 ⟨Nat.le_of_ble_eq_true rfl, Nat.le_of_ble_eq_true rfl⟩) (fun v34 u H locs hz9 hH hS => ?_)
          obtain ⟨rfl, l_v34, u_v34⟩ := hz9
          have hH : HT D cs A T O X H := hH
          refine W.widen (k := 0) (n := 0) (Nat.le_of_ble_eq_true rfl) (Nat.le_of_ble_eq_true rfl) ?_
          refine lv_iconst (v := (-1)) hx hb dX12_whose_37 (by decide) ?_
          have J48 : ∀ (k48_0 : Int32) (H : Heap) (locs : List Loc) (ls : Array Slot), (0 ≤ k48_0.toInt) → (k48_0.toInt ≤ 16) → HT D cs A T O X H → va_S A s.heap H locs → lv_has ls 4 [(3, .int p20_3), (0, .ref a0), (1, .int x1)] → W p l e { frames := 6, cells := 0, slots := 0, locals := 144 } s m [.ref a0, .int x1].toArray below meth c H locs 0 0 (MQ below (Ti D cs (fun r u => u = (T, O, X) ∧ -3 ≤ r.toInt ∧ r.toInt ≤ 16383) A) [.ref a0, .int x1].toArray s 0 0 A) (F0 m 48 ls [.int k48_0, .int p20_2]) := by
            intro k48_0 H locs ls l_k48_0 u_k48_0 hH hS hl
            refine lv_ior hx hb dX12_whose_48 ?_
            refine lv_topi (fun v48 ev48 => ?_)
            have tv48 : 0 ≤ v48.toInt ∧ v48.toInt < 16384 := by rw [ev48]; exact or_b 14 (by decide) (by omega) (by omega) (by omega) (by omega)
            refine lv_istore_n (lv' := [(2, .int v48), (3, .int p20_3), (0, .ref a0), (1, .int x1)]) hx hb dX12_whose_49 rfl hl (by decide) rfl (fun ls hl => ?_)
            obtain ⟨v50, ev50⟩ : ∃ y : Int32, y = p20_3 + 1 := ⟨_, rfl⟩
            have tv50 : v50.toInt = p20_3.toInt + (1) := by rw [ev50]; exact add_i rfl (by decide) (by omega) (by omega)
            refine lv_iinc (v := v50) (lv' := [(3, .int v50), (2, .int v48), (0, .ref a0), (1, .int x1)]) hx hb dX12_whose_50 hl (k := 1) rfl (by rw [ev50]; rfl) (by decide) rfl (fun ls hl => ?_)
            refine lv_goto (tgt := 20) hx hb dX12_whose_53 (by decide) ?_
            exact ih20 _ (by omega) v50 v48 _ _ _ rfl (by omega) (by omega) (by omega) (by omega) hH hS (lv_sub hl [0, 1, 2, 3] rfl)
          refine lv_icmp_ne (tgt := 45) hx hb dX12_whose_38 (by decide) (fun c38 => ?_) (fun c38 => ?_)
          · skip
            have tc38 := f_ne (k := -1) (by decide) c38
            refine lv_iconst (v := 1) hx hb dX12_whose_45 (by decide) ?_
            refine lv_iload_n hx hb dX12_whose_46 rfl (lv_at hl 0 rfl) ?_
            refine lv_ishl hx hb dX12_whose_47 ?_
            refine lv_topi (fun v47 ev47 => ?_)
            have tv47 : 1 ≤ v47.toInt ∧ v47.toInt ≤ 16 := by rw [ev47]; exact shl_b 4 (by decide) (by omega) (by omega)
            exact J48 v47 _ _ _ (by omega) (by omega) hH hS (lv_sub hl [0, 2, 3] rfl)
          · skip
            have tc38 := f_eq (k := -1) (by decide) c38
            refine lv_iconst (v := 0) hx hb dX12_whose_41 (by decide) ?_
            refine lv_goto (tgt := 48) hx hb dX12_whose_42 (by decide) ?_
            exact J48 0 _ _ _ (by decide) (by decide) hH hS (lv_sub hl [0, 2, 3] rfl)
    refine lv_istore_n (lv' := [(3, .int 0), (2, .int 0), (0, .ref a0), (1, .int x1)]) hx hb dX12_whose_19 rfl hl (by decide) rfl (fun ls hl => ?_)
    exact J20 _ 0 0 _ _ _ rfl (by decide) (by decide) (by decide) (by decide) hH hS (lv_sub hl [0, 1, 2, 3] rfl)
  · skip
    have tc10 := f_eq (k := 0) (by decide) c10
    refine lv_bipush (v := (-3)) hx hb dX12_whose_13 (by decide) ?_
    exact te_i hx hb hr hlocks hH hS (⟨rfl, by decide, by decide⟩) dX12_whose_15
/-! what the reference writes into more: from each set and hold a shortest way on -/
def WN (H x : Nat) (o g : Nat → Int32) (s h : Nat) (v : Int) (n : Nat) : Prop := v = 0 ∨ v = 99 ∨ (v < 99 ∧ ∃ k : Nat, k < n ∧ k < H ∧ (o h).toBitVec.getLsbD k = true ∧ x.testBit k = true ∧ s.testBit k = false ∧ 0 ≤ (g (14 * (s ||| 2 ^ k) + k)).toInt ∧ (g (14 * (s ||| 2 ^ k) + k)).toInt + 1 = v)
def WG (H x : Nat) (o g : Nat → Int32) (s h : Nat) : Prop := WN H x o g s h (g (14 * s + h)).toInt H
def WS (H x : Nat) (o g : Nat → Int32) (n : Int) : Prop := ∀ s : Nat, n < s → s < 2 ^ H → (∀ i, s.testBit i = true → x.testBit i = true) → ∀ h : Nat, h < H → s.testBit h = true → WG H x o g s h
def WH (H x : Nat) (o g : Nat → Int32) (s n : Nat) : Prop := ∀ h : Nat, h < n → h < H → s.testBit h = true → WG H x o g s h
theorem or_gt {s k : Nat} (h : s.testBit k = false) : s < s ||| 2 ^ k := by
  have h1 : s ≤ s ||| 2 ^ k := Nat.left_le_or
  have h2 : (s ||| 2 ^ k).testBit k = true := by rw [Nat.testBit_or, Nat.testBit_two_pow_self, Bool.or_true]
  have h3 : s ≠ s ||| 2 ^ k := fun q => by
    rw [← q, h] at h2
    exact absurd h2 (by decide)
  omega
theorem WN.le {H x s h n m : Nat} {o g : Nat → Int32} {v : Int} (hi : WN H x o g s h v n) (hn : n ≤ m) : WN H x o g s h v m := by
  rcases hi with q | q | ⟨q, k, k1, k2⟩
  · exact Or.inl q
  · exact Or.inr (Or.inl q)
  · exact Or.inr (Or.inr ⟨q, k, by omega, k2⟩)
theorem WN.cap {H x s h n : Nat} {o g : Nat → Int32} {v : Int} (hi : WN H x o g s h v n) : WN H x o g s h v H := by
  rcases hi with q | q | ⟨q, k, _, k2⟩
  · exact Or.inl q
  · exact Or.inr (Or.inl q)
  · exact Or.inr (Or.inr ⟨q, k, k2.1, k2⟩)
theorem WN.b {H x s h n : Nat} {o g : Nat → Int32} {v : Int} (hi : WN H x o g s h v n) : 0 ≤ v ∧ v ≤ 99 := by
  rcases hi with q | q | ⟨q, k, _, _, _, _, _, k1, k2⟩ <;> omega
theorem WN.fr {H x s h n a b : Nat} {o g F : Nat → Int32} {v : Int} {w : Int32} (hH : H ≤ 14) (hi : WN H x o g s h v n) (hb : b < 14) (ha : a ≤ s) (eF : F = upd g (14 * a + b) w) : WN H x o F s h v n := by
  rcases hi with q | q | ⟨q, k, k1, k2, k3, k4, k5, k6, k7⟩
  · exact Or.inl q
  · exact Or.inr (Or.inl q)
  · have hg := or_gt k5
    have e : F (14 * (s ||| 2 ^ k) + k) = g (14 * (s ||| 2 ^ k) + k) := by
      rw [eF]
      exact upd_ne (by omega)
    exact Or.inr (Or.inr ⟨q, k, k1, k2, k3, k4, k5, by rw [e]; exact k6, by rw [e]; exact k7⟩)
theorem WG.fr {H x s h a b : Nat} {o g F : Nat → Int32} {w : Int32} (hH : H ≤ 14) (hi : WG H x o g s h) (hh : h < 14) (hb : b < 14) (ha : a ≤ s) (hne : a ≠ s ∨ b ≠ h) (eF : F = upd g (14 * a + b) w) : WG H x o F s h := by
  have e : F (14 * s + h) = g (14 * s + h) := by
    rw [eF]
    exact upd_ne (by omega)
  show WN H x o F s h (F (14 * s + h)).toInt H
  rw [e]
  exact WN.fr hH hi hb ha eF
theorem WG_put {H x s h : Nat} {o g F : Nat → Int32} {w : Int32} (hH : H ≤ 14) (hh : h < 14) (hi : WN H x o g s h w.toInt H) (eF : F = upd g (14 * s + h) w) : WG H x o F s h := by
  have e : F (14 * s + h) = w := by
    rw [eF]
    exact upd_eq
  show WN H x o F s h (F (14 * s + h)).toInt H
  rw [e]
  exact WN.fr hH hi hh (Nat.le_refl _) eF
theorem WS_put {H x a b : Nat} {o g F : Nat → Int32} {w : Int32} (hH : H ≤ 14) (hi : WS H x o g a) (hb : b < 14) (eF : F = upd g (14 * a + b) w) : WS H x o F a := fun s h1 h2 h3 h h4 h5 =>
  WG.fr hH (hi s h1 h2 h3 h h4 h5) (by omega) hb (by omega) (Or.inl (by omega)) eF
theorem WH_put {H x a b : Nat} {o g F : Nat → Int32} {w : Int32} (hH : H ≤ 14) (hi : WH H x o g a b) (hb : b < 14) (hw : WN H x o g a b w.toInt H) (eF : F = upd g (14 * a + b) w) : WH H x o F a (b + 1) := fun h h1 h2 h3 => by
  by_cases q : h = b
  · subst q
    exact WG_put hH hb hw eF
  · exact WG.fr hH (hi h (by omega) h2 h3) (by omega) hb (Nat.le_refl _) (Or.inr (fun z => q z.symm)) eF
theorem WH_skip {H x a b : Nat} {o g : Nat → Int32} (hi : WH H x o g a b) (hb : a.testBit b = false) : WH H x o g a (b + 1) := fun h h1 h2 h3 => by
  by_cases q : h = b
  · rw [q, hb] at h3
    exact absurd h3 (by decide)
  · exact hi h (by omega) h2 h3
theorem WH_0 {H x a : Nat} {o g : Nat → Int32} : WH H x o g a 0 := fun h h1 => absurd h1 (Nat.not_lt_zero h)
theorem WS_next {H x a b : Nat} {o g : Nat → Int32} {n : Int} (hi : WS H x o g a) (hh : WH H x o g a b) (hb : H ≤ b) (hn : n = (a : Int) - 1) : WS H x o g n := fun s h1 h2 h3 h h4 h5 => by
  by_cases q : s = a
  · subst q
    exact hh h (by omega) h4 h5
  · exact hi s (by omega) h2 h3 h h4 h5
theorem WS_skip {H x a : Nat} {o g : Nat → Int32} {n : Int} (hi : WS H x o g a) (hx : ¬ ∀ i, a.testBit i = true → x.testBit i = true) (hn : n = (a : Int) - 1) : WS H x o g n := fun s h1 h2 h3 h h4 h5 => by
  by_cases q : s = a
  · subst q
    exact absurd h3 hx
  · exact hi s (by omega) h2 h3 h h4 h5
theorem WS_0 {H x : Nat} {o g : Nat → Int32} {n : Int} (hn : n = (2 : Int) ^ H - 1) : WS H x o g n := fun s h1 h2 => by
  have e : ((2 ^ H : Nat) : Int) = (2 : Int) ^ H := by norm_cast
  omega
theorem WN_new {H x s h n k : Nat} {o g : Nat → Int32} {v w : Int} (hi : WN H x o g s h v n) (hk : k < H) (hn : k < n) (h1 : (o h).toBitVec.getLsbD k = true) (h2 : x.testBit k = true) (h3 : s.testBit k = false) (h4 : 0 ≤ (g (14 * (s ||| 2 ^ k) + k)).toInt) (h5 : w = (g (14 * (s ||| 2 ^ k) + k)).toInt + 1) (h6 : w < v) : WN H x o g s h w n := by
  have := hi.b
  exact Or.inr (Or.inr ⟨by omega, k, hn, hk, h1, h2, h3, h4, h5.symm⟩)
/-- the next cell of a set that is on the way is in its bounds -/
theorem WS_at {H x s k : Nat} {o g : Nat → Int32} {n : Int} (hi : WS H x o g n) (hn : n ≤ s) (hs : s < 2 ^ H) (hk : k < H) (hx : ∀ i, s.testBit i = true → x.testBit i = true) (h2 : x.testBit k = true) (h3 : s.testBit k = false) : 0 ≤ (g (14 * (s ||| 2 ^ k) + k)).toInt ∧ (g (14 * (s ||| 2 ^ k) + k)).toInt ≤ 99 := by
  have hg := or_gt h3
  have hl : s ||| 2 ^ k < 2 ^ H := Nat.or_lt_two_pow hs (Nat.pow_lt_pow_right (by decide) hk)
  have hb : (s ||| 2 ^ k).testBit k = true := by rw [Nat.testBit_or, Nat.testBit_two_pow_self, Bool.or_true]
  refine WN.b (hi (s ||| 2 ^ k) (by omega) hl (fun i q => ?_) k hk hb)
  rw [Nat.testBit_or, Bool.or_eq_true] at q
  rcases q with q | q
  · exact hx i q
  · rw [Nat.testBit_two_pow] at q
    rw [← of_decide_eq_true q]
    exact h2
theorem tb {a : Int32} (h : 0 ≤ a.toInt) (k : Nat) : a.toInt.toNat.testBit k = a.toBitVec.getLsbD k := by
  obtain ⟨h1, h2⟩ := nn_i h
  show _ = a.toBitVec.toNat.testBit k
  rw [show a.toInt.toNat = a.toBitVec.toNat by omega]
theorem m1_tab : ∀ k, k < 32 → (-1 : Int32).toBitVec.getLsbD k = true := by decide +kernel
theorem an_bit {a s v w : Int32} (ha : 0 ≤ a.toInt) (hs : 0 ≤ s.toInt) (hv : 0 ≤ v.toInt) (e1 : w = s ^^^ (-1)) (e2 : v = a &&& w) (k : Nat) : v.toInt.toNat.testBit k = (a.toInt.toNat.testBit k && !s.toInt.toNat.testBit k) := by
  rw [tb hv, tb ha, tb hs, e2, e1, Int32.toBitVec_and, Int32.toBitVec_xor, BitVec.getLsbD_and, BitVec.getLsbD_xor]
  by_cases q : k < 32
  · rw [m1_tab k q, Bool.xor_true]
  · rw [BitVec.getLsbD_of_ge a.toBitVec k (by omega)]
    simp
theorem sub_bits {s x v w : Int32} (hs : 0 ≤ s.toInt) (hx : 0 ≤ x.toInt) (e1 : w = x ^^^ (-1)) (e2 : v = s &&& w) (h : v.toInt = 0) : ∀ i, s.toInt.toNat.testBit i = true → x.toInt.toNat.testBit i = true := fun i hi => by
  have hb := an_bit hs hx (by omega) e1 e2 i
  rw [h, hi, Bool.true_and] at hb
  have hz : (0 : Int).toNat.testBit i = false := Nat.zero_testBit i
  rw [hz] at hb
  cases q : x.toInt.toNat.testBit i
  · rw [q] at hb
    exact absurd hb (by decide)
  · rfl
theorem sub_no {s x v w : Int32} (hs : 0 ≤ s.toInt) (hx : 0 ≤ x.toInt) (hv : 0 ≤ v.toInt) (e1 : w = x ^^^ (-1)) (e2 : v = s &&& w) (h : v.toInt ≠ 0) : ¬ ∀ i, s.toInt.toNat.testBit i = true → x.toInt.toNat.testBit i = true := fun hc => by
  have hz : v.toInt.toNat = 0 := Nat.eq_of_testBit_eq (fun i => by
    rw [an_bit hs hx hv e1 e2 i, Nat.zero_testBit]
    cases q : s.toInt.toNat.testBit i
    · rfl
    · rw [hc i q]
      rfl)
  omega
theorem or_n {a b : Int32} (ha : 0 ≤ a.toInt) (hb : 0 ≤ b.toInt) (hc : 0 ≤ (a ||| b).toInt) : (a ||| b).toInt.toNat = a.toInt.toNat ||| b.toInt.toNat := by
  obtain ⟨h1, h2⟩ := nn_i ha
  obtain ⟨h3, h4⟩ := nn_i hb
  obtain ⟨h5, h6⟩ := nn_i hc
  have e : (a ||| b).toBitVec.toNat = a.toBitVec.toNat ||| b.toBitVec.toNat := by rw [Int32.toBitVec_or, BitVec.toNat_or]
  rw [show (a ||| b).toInt.toNat = (a ||| b).toBitVec.toNat by omega, e, show a.toInt.toNat = a.toBitVec.toNat by omega, show b.toInt.toNat = b.toBitVec.toNat by omega]
/-! the same, by the places of laysMore -/
def L11 (hg : Nat) (x : Int32) (o g : Nat → Int32) (p : Int32) : Prop := p.toInt < (2 : Int) ^ (hg / 6) ∧ WS (hg / 6) x.toInt.toNat o g p.toInt
def L96 (hg : Nat) (x : Int32) (o g : Nat → Int32) (p : Int32) : Prop := p.toInt < (2 : Int) ^ (hg / 6) ∧ WS (hg / 6) x.toInt.toNat o g (p.toInt - 1)
def L29 (hg : Nat) (x : Int32) (o g : Nat → Int32) (p : Int32) (n : Nat) : Prop := p.toInt.toNat < 2 ^ (hg / 6) ∧ (∀ i, p.toInt.toNat.testBit i = true → x.toInt.toNat.testBit i = true) ∧ WS (hg / 6) x.toInt.toNat o g (p.toInt.toNat : Nat) ∧ WH (hg / 6) x.toInt.toNat o g p.toInt.toNat n
def L102 (hg : Nat) (x : Int32) (o g : Nat → Int32) (p h v : Int32) (n : Nat) : Prop := WN (hg / 6) x.toInt.toNat o g p.toInt.toNat h.toInt.toNat v.toInt n
def L140 (hg : Nat) (x : Int32) (o g : Nat → Int32) (p h k v : Int32) : Prop := k.toInt.toNat < hg / 6 ∧ (o h.toInt.toNat).toBitVec.getLsbD k.toInt.toNat = true ∧ x.toInt.toNat.testBit k.toInt.toNat = true ∧ p.toInt.toNat.testBit k.toInt.toNat = false ∧ v = g (14 * (p.toInt.toNat ||| 2 ^ k.toInt.toNat) + k.toInt.toNat) ∧ 0 ≤ v.toInt ∧ v.toInt ≤ 99
theorem L11_0 {hg : Nat} {x v7 v9 : Int32} {o g : Nat → Int32} (h7 : v7.toInt = (2 : Int) ^ (hg / 6)) (h9 : v9.toInt = v7.toInt - 1) : L11 hg x o g v9 := ⟨by omega, WS_0 (by omega)⟩
theorem L11_n {hg : Nat} {x p q : Int32} {o g : Nat → Int32} (hi : L96 hg x o g p) (e : q.toInt = p.toInt + (-1)) : L11 hg x o g q := by
  refine ⟨by have := hi.1; omega, ?_⟩
  rw [show q.toInt = p.toInt - 1 by omega]
  exact hi.2
theorem L96_s {hg : Nat} {x p v w : Int32} {o g : Nat → Int32} (hi : L11 hg x o g p) (h0 : 0 ≤ p.toInt) (hx : 0 ≤ x.toInt) (e1 : w = x ^^^ (-1)) (e2 : v = p &&& w) (hv : 0 ≤ v.toInt) (hc : v.toInt ≠ 0) : L96 hg x o g p := by
  refine ⟨hi.1, WS_skip (a := p.toInt.toNat) ?_ (sub_no h0 hx hv e1 e2 hc) (by omega)⟩
  rw [Int.toNat_of_nonneg h0]
  exact hi.2
theorem L29_0 {hg n : Nat} {x p v w : Int32} {o g : Nat → Int32} (hi : L11 hg x o g p) (h0 : 0 ≤ p.toInt) (hx : 0 ≤ x.toInt) (e1 : w = x ^^^ (-1)) (e2 : v = p &&& w) (hc : v.toInt = 0) (hn : n = 0) : L29 hg x o g p n := by
  subst hn
  refine ⟨?_, sub_bits h0 hx e1 e2 hc, ?_, WH_0⟩
  · have h1 := hi.1
    have e : ((2 ^ (hg / 6) : Nat) : Int) = (2 : Int) ^ (hg / 6) := by norm_cast
    omega
  · rw [Int.toNat_of_nonneg h0]
    exact hi.2
theorem L96_n {hg n : Nat} {x p : Int32} {o g : Nat → Int32} (hi : L29 hg x o g p n) (h0 : 0 ≤ p.toInt) (hn : hg / 6 ≤ n) : L96 hg x o g p := by
  refine ⟨?_, WS_next hi.2.2.1 hi.2.2.2 hn (by omega)⟩
  have h1 := hi.1
  have e : ((2 ^ (hg / 6) : Nat) : Int) = (2 : Int) ^ (hg / 6) := by norm_cast
  omega
theorem L29_s {hg n : Nat} {x p b v : Int32} {o g : Nat → Int32} (hi : L29 hg x o g p n) (h0 : 0 ≤ p.toInt) (hb : 0 ≤ b.toInt) (hb1 : b.toInt ≤ 31) (hv : v = inF p.toInt64 b) (hc : v.toInt = 0) (hn : n = b.toInt.toNat) : L29 hg x o g p (n + 1) := by
  refine ⟨hi.1, hi.2.1, hi.2.2.1, WH_skip hi.2.2.2 ?_⟩
  rw [hn]
  exact Bool.eq_false_iff.mpr (fun q => inF_z hv hc ((inF_bit h0 hb hb1).mpr q))
theorem L29_e {hg n : Nat} {x p b : Int32} {o g : Nat → Int32} (hi : L29 hg x o g p (n + 1)) (e : b.toInt.toNat = n + 1) : L29 hg x o g p b.toInt.toNat := by
  rw [e]
  exact hi
theorem L102_0 {hg n : Nat} {x p h v : Int32} {o g : Nat → Int32} (hv : v.toInt = 0 ∨ v.toInt = 99) : L102 hg x o g p h v n := hv.elim Or.inl (fun q => Or.inr (Or.inl q))
theorem L102_s {hg n : Nat} {x p h v : Int32} {o g : Nat → Int32} (hi : L102 hg x o g p h v n) : L102 hg x o g p h v (n + 1) := WN.le hi (Nat.le_succ n)
theorem L102_e {hg n : Nat} {x p h v b : Int32} {o g : Nat → Int32} (hi : L102 hg x o g p h v (n + 1)) (e : b.toInt.toNat = n + 1) : L102 hg x o g p h v b.toInt.toNat := by
  rw [e]
  exact hi
theorem sh_n {k v : Int32} (h0 : 0 ≤ k.toInt) (h1 : k.toInt ≤ 30) (e : v = (1 : Int32) <<< (k &&& 31)) : v.toInt = (2 : Int) ^ k.toInt.toNat := by
  have t := sh_tab k.toInt.toNat (by omega)
  rw [← is_nI h0] at t
  rw [e]
  exact t
theorem L140_of {hg n : Nat} {x p h k a b c d u v i1 i2 q : Int32} {o g : Nat → Int32} (hi : L29 hg x o g p n) (h0 : 0 ≤ p.toInt) (hp : p.toInt ≤ 16383) (hx : 0 ≤ x.toInt) (ea : a = o h.toInt.toNat) (eb : b = a &&& x) (hb : 0 ≤ b.toInt) (ec : c = p ^^^ (-1)) (ed : d = b &&& c) (hd : 0 ≤ d.toInt) (hq : q = inF d.toInt64 k) (hc : q.toInt ≠ 0) (hk : 0 ≤ k.toInt) (hk1 : k.toInt < ((hg / 6 : Nat) : Int)) (hk2 : k.toInt ≤ 13)
    (eu : u = (1 : Int32) <<< (k &&& 31)) (ev : v = p ||| u) (hv : 0 ≤ v.toInt) (e1 : i1.toInt = 14 * v.toInt) (e2 : i2.toInt = i1.toInt + k.toInt) {w : Int32} (ew : w = g i2.toInt.toNat) : L140 hg x o g p h k w := by
  have hu := sh_n hk (by omega) eu
  have hbit : d.toInt.toNat.testBit k.toInt.toNat = true := (inF_bit hd hk (by omega)).mp (inF_nz hq hc)
  rw [an_bit hb h0 hd ec ed, Bool.and_eq_true] at hbit
  have hp0 : p.toInt.toNat.testBit k.toInt.toNat = false := by
    have := hbit.2
    cases q9 : p.toInt.toNat.testBit k.toInt.toNat
    · rfl
    · rw [q9] at this
      exact absurd this (by decide)
  have hb1 := hbit.1
  rw [tb hb, eb, Int32.toBitVec_and, BitVec.getLsbD_and, Bool.and_eq_true] at hb1
  have hx1 : x.toInt.toNat.testBit k.toInt.toNat = true := by
    rw [tb hx]
    exact hb1.2
  have e2k : ((2 ^ k.toInt.toNat : Nat) : Int) = (2 : Int) ^ k.toInt.toNat := by norm_cast
  have hp2 : 0 < 2 ^ k.toInt.toNat := Nat.two_pow_pos _
  have hu0 : 0 ≤ u.toInt := by omega
  have hn : v.toInt.toNat = p.toInt.toNat ||| 2 ^ k.toInt.toNat := by
    rw [ev, or_n h0 hu0 (by rw [← ev]; exact hv), show u.toInt.toNat = 2 ^ k.toInt.toNat by omega]
  have ei : i2.toInt.toNat = 14 * (p.toInt.toNat ||| 2 ^ k.toInt.toNat) + k.toInt.toNat := by
    rw [← hn]
    omega
  have hw := WS_at hi.2.2.1 (Int.le_refl _) hi.1 (show k.toInt.toNat < hg / 6 by omega) hi.2.1 hx1 hp0
  rw [ei] at ew
  rw [← ew] at hw
  exact ⟨by omega, by rw [← ea]; exact hb1.1, hx1, hp0, ew, hw.1, hw.2⟩
theorem L140.b {hg : Nat} {x p h k v : Int32} {o g : Nat → Int32} (hi : L140 hg x o g p h k v) : 0 ≤ v.toInt ∧ v.toInt ≤ 99 := hi.2.2.2.2.2
theorem L140.eq {hg : Nat} {x p h k v w : Int32} {o g : Nat → Int32} (hi : L140 hg x o g p h k v) (hj : L140 hg x o g p h k w) : w.toInt = v.toInt := by rw [hi.2.2.2.2.1, hj.2.2.2.2.1]
theorem L102_n {hg : Nat} {x p h k v w y : Int32} {o g : Nat → Int32} (hi : L102 hg x o g p h y k.toInt.toNat) (hj : L140 hg x o g p h k v) (ew : w.toInt = v.toInt + 1) (hl : w.toInt < y.toInt) : L102 hg x o g p h w (k.toInt.toNat + 1) := by
  obtain ⟨a1, a2, a3, a4, a5, a6, a7⟩ := hj
  exact WN_new (WN.le hi (Nat.le_succ _)) a1 (Nat.lt_succ_self _) a2 a3 a4 (by rw [← a5]; exact a6) (by rw [← a5]; exact ew) hl
theorem nar_tab : ∀ k, k < 100 → vp_nar .byte ((nI k).toInt8.toInt32) = nI k := by decide +kernel
theorem L190_p {hg n m : Nat} {x p h y v i1 i2 : Int32} {o g F : Nat → Int32} (hH : hg / 6 ≤ 14) (hi : L29 hg x o g p n) (h0 : 0 ≤ p.toInt) (hh : 0 ≤ h.toInt) (hh1 : h.toInt ≤ 13) (hn : n = h.toInt.toNat) (hj : L102 hg x o g p h y m) (ev : v = y.toInt8.toInt32) (e1 : i1.toInt = 14 * p.toInt) (e2 : i2.toInt = i1.toInt + h.toInt) (eF : F = upd g i2.toInt.toNat (vp_nar .byte v)) : L29 hg x o F p (n + 1) := by
  have hb := hj.b
  have e : vp_nar .byte v = y := by
    have t := nar_tab y.toInt.toNat (by omega)
    rw [← is_nI hb.1] at t
    rw [ev]
    exact t
  rw [e, show i2.toInt.toNat = 14 * p.toInt.toNat + h.toInt.toNat by omega] at eF
  refine ⟨hi.1, hi.2.1, WS_put hH hi.2.2.1 (show h.toInt.toNat < 14 by omega) eF, ?_⟩
  rw [hn]
  exact WH_put hH (by rw [← hn]; exact hi.2.2.2) (by omega) (WN.cap hj) eF
theorem L11_end {hg : Nat} {x p : Int32} {o g : Nat → Int32} (hi : L11 hg x o g p) (h : p.toInt ≤ 0) : WS (hg / 6) x.toInt.toNat o g 0 := fun s h1 => hi.2 s (by omega)
set_option maxHeartbeats 4000000 in
set_option maxRecDepth 100000 in
theorem s_M_laysMoreX (l : Launch) (D : va_G) (cs : CS) (kf : KF) (T : TF) (O : List Nat) (X : va_W) (a0 hg mq : Nat) (x1 : Int32) (x2 : Int32) (f1 : Nat → Int32) (o0 : Value) (y1 : Nat) (o2 : Value) (o3 : Value) (o4 : Value) (o5 : Value) (o6 : Value) (o7 : Value) (o8 : Value) (o9 : Value) (o10 : Value) (o11 : Value) (o12 : Value) (o13 : Value) (o14 : Value) (y15 : Nat) (y16 : Int32) (y17 : Nat) (o18 : Value) (o19 : Value) (o20 : Value) (o21 : Value) (o22 : Value) (o23 : Value) (o24 : Value) (o25 : Value) (o26 : Value) (o27 : Value) (y28 : Nat) (tl : List Value) (f28 : Nat → Int32) (f17 : Nat → Int32) (t_a0 : T a0 = some (22, hg, mq)) (b_hg : hg < 90) (l_x1 : 0 ≤ x1.toInt) (u_x1 : x1.toInt ≤ 16383) (s_f1 : B8 3906 f1) (g_f1 : f1 1 = nI (hg / 6) ∧ f1 2 = nI (hg % 6)) (t_y1 : T y1 = some (8, 3906, hg)) (t_y15 : T y15 = some (1, 900, 0)) (t_y17 : T y17 = some (9, 14, 1)) (t_y28 : T y28 = some (0, 229376, 0)) (hO : okO T (y1 :: a0 :: y28 :: y17 :: O) []) : TK l D cs kf yX12_laysMore cX12_laysMore 8 none { frames := 1, cells := 0, slots := 0, locals := 22 } [.ref a0, .int x1, .int x2] T (y1 :: a0 :: y28 :: y17 :: O) ((y1, .inl (cs.2.1, 3906, .inl f1)) :: (a0, .inr (12, o0 :: (.ref y1) :: o2 :: o3 :: o4 :: o5 :: o6 :: o7 :: o8 :: o9 :: o10 :: o11 :: o12 :: o13 :: o14 :: (.ref y15) :: (.int y16) :: (.ref y17) :: o18 :: o19 :: o20 :: o21 :: o22 :: o23 :: o24 :: o25 :: o26 :: o27 :: (.ref y28) :: tl)) :: (y28, .inl (cs.1, 229376, .inl f28)) :: (y17, .inl (cs.2.1, 14, .inl f17)) :: X) (Tv D cs (fun u => ∃ (G2 : Nat → Int32), u = (T, y1 :: a0 :: y28 :: y17 :: O, (y1, .inl (cs.2.1, 3906, .inl f1)) :: (a0, .inr (12, o0 :: (.ref y1) :: o2 :: o3 :: o4 :: o5 :: o6 :: o7 :: o8 :: o9 :: o10 :: o11 :: o12 :: o13 :: o14 :: (.ref y15) :: (.int y16) :: (.ref y17) :: o18 :: o19 :: o20 :: o21 :: o22 :: o23 :: o24 :: o25 :: o26 :: o27 :: (.ref y28) :: tl)) :: (y28, .inl (cs.1, 229376, .inl G2)) :: (y17, .inl (cs.2.1, 14, .inl f17)) :: X) ∧ (WS (hg / 6) x1.toInt.toNat f17 G2 0))) := by
  refine tk_of (by decide) (Nat.le_of_ble_eq_true rfl) (fun p e s m below meth c ls A H locs hx hb hr hml hown hts hlocks hnm hkb hH hS hA hOX hks hE hl => ?_)
  have hown : s.vm.findClass RX12 = some m.cls := hown
  have hl : lv_has ls 8 [(0, .ref a0), (1, .int x1), (2, .int x2)] := hl
  have hOXf := hOX
  refine lv_iconst (v := 1) hx hb dX12_laysMore_0 (by decide) ?_
  refine lv_aload_n hx hb dX12_laysMore_1 rfl (lv_at hl 0 rfl) ?_
  refine x_getk (ci := 12) (C := RX12) (F := TX12) (N := 36) (v := .ref y1) hx hb hts uX12 hown hkb hH 1 rfl rfl 1 (by decide) rfl kw_1224 (fun _ h9 => h9) dX12_laysMore_2 ?_
  refine lv_iconst (v := 1) hx hb dX12_laysMore_5 (by decide) ?_
  refine xa_ild hx hb hkb hH 0 rfl (by decide) (by decide) dX12_laysMore_6 ?_
  refine lv_topi (fun v6 ev6 => ?_)
  have tv6 : v6 = f1 1 := by rw [ev6]; rfl
  have bv6 : 0 ≤ v6.toInt ∧ v6.toInt ≤ 14 := by rw [ev6]; exact (s_f1.at (by decide) 1).1 (by decide)
  have hv6 : v6.toInt = ((hg / 6 : Nat) : Int) := by rw [tv6, g_f1.1]; exact nI_toInt (by omega)
  refine lv_ishl hx hb dX12_laysMore_7 ?_
  refine lv_topi (fun v7 ev7 => ?_)
  have tv7 : 1 ≤ v7.toInt ∧ v7.toInt ≤ 16384 := by rw [ev7]; exact shl_b 14 (by decide) (by omega) (by omega)
  refine lv_iconst (v := 1) hx hb dX12_laysMore_8 (by decide) ?_
  refine lv_isub hx hb dX12_laysMore_9 ?_
  refine lv_topi (fun v9 ev9 => ?_)
  have tv9 : v9.toInt = v7.toInt - (1) := by rw [ev9]; exact sub_i rfl (by decide : (1 : Int32).toInt = 1) (by omega) (by omega)
  have J11 : ∀ (n : Nat) (p11_3 : Int32) (g11_2 : Nat → Int32) (H : Heap) (locs : List Loc) (ls : Array Slot), (p11_3.toInt - (0)).toNat = n → (0 ≤ p11_3.toInt) → (p11_3.toInt ≤ 16383) → (L11 hg x1 f17 g11_2 p11_3) → HT D cs A T (y1 :: a0 :: y28 :: y17 :: O) ((y1, .inl (cs.2.1, 3906, .inl f1)) :: (a0, .inr (12, o0 :: (.ref y1) :: o2 :: o3 :: o4 :: o5 :: o6 :: o7 :: o8 :: o9 :: o10 :: o11 :: o12 :: o13 :: o14 :: (.ref y15) :: (.int y16) :: (.ref y17) :: o18 :: o19 :: o20 :: o21 :: o22 :: o23 :: o24 :: o25 :: o26 :: o27 :: (.ref y28) :: tl)) :: (y28, .inl (cs.1, 229376, .inl g11_2)) :: (y17, .inl (cs.2.1, 14, .inl f17)) :: X) H → va_S A s.heap H locs → lv_has ls 8 [(3, .int p11_3), (0, .ref a0), (1, .int x1), (2, .int x2)] → W p l e { frames := 1, cells := 0, slots := 0, locals := 22 } s m [.ref a0, .int x1, .int x2].toArray below meth c H locs 0 0 (MQ below (Tv D cs (fun u => ∃ (G2 : Nat → Int32), u = (T, y1 :: a0 :: y28 :: y17 :: O, (y1, .inl (cs.2.1, 3906, .inl f1)) :: (a0, .inr (12, o0 :: (.ref y1) :: o2 :: o3 :: o4 :: o5 :: o6 :: o7 :: o8 :: o9 :: o10 :: o11 :: o12 :: o13 :: o14 :: (.ref y15) :: (.int y16) :: (.ref y17) :: o18 :: o19 :: o20 :: o21 :: o22 :: o23 :: o24 :: o25 :: o26 :: o27 :: (.ref y28) :: tl)) :: (y28, .inl (cs.1, 229376, .inl G2)) :: (y17, .inl (cs.2.1, 14, .inl f17)) :: X) ∧ (WS (hg / 6) x1.toInt.toNat f17 G2 0)) A) [.ref a0, .int x1, .int x2].toArray s 0 0 A) (F0 m 11 ls []) := by
    intro n
    induction n using Nat.strongRecOn with
    | _ n ih11 =>
      intro p11_3 g11_2 H locs ls hm11 l_p11_3 u_p11_3 i11 hH hS hl
      refine lv_iload_n hx hb dX12_laysMore_11 rfl (lv_at hl 0 rfl) ?_
      refine lv_if_le (tgt := 202) hx hb dX12_laysMore_12 (by decide) (fun c12 => ?_) (fun c12 => ?_)
      · skip
        have tc12 := f_le (k := 0) (by decide) c12
        exact te_v hx hb hr hlocks hH hS (⟨g11_2, rfl, (L11_end i11 (by omega))⟩) dX12_laysMore_202
      · skip
        have tc12 := f_nle (k := 0) (by decide) c12
        refine lv_iload_n hx hb dX12_laysMore_15 rfl (lv_at hl 0 rfl) ?_
        refine lv_iload_n hx hb dX12_laysMore_16 rfl (lv_at hl 2 rfl) ?_
        refine lv_iconst (v := (-1)) hx hb dX12_laysMore_17 (by decide) ?_
        refine lv_ixor hx hb dX12_laysMore_18 ?_
        refine lv_topi (fun v18 ev18 => ?_)
        refine lv_iand hx hb dX12_laysMore_19 ?_
        refine lv_topi (fun v19 ev19 => ?_)
        have tv19 : 0 ≤ v19.toInt ∧ v19.toInt ≤ p11_3.toInt := by rw [ev19]; exact and_l (by omega)
        have J196 : ∀ (g196_2 : Nat → Int32) (H : Heap) (locs : List Loc) (ls : Array Slot), (L96 hg x1 f17 g196_2 p11_3) → HT D cs A T (y1 :: a0 :: y28 :: y17 :: O) ((y1, .inl (cs.2.1, 3906, .inl f1)) :: (a0, .inr (12, o0 :: (.ref y1) :: o2 :: o3 :: o4 :: o5 :: o6 :: o7 :: o8 :: o9 :: o10 :: o11 :: o12 :: o13 :: o14 :: (.ref y15) :: (.int y16) :: (.ref y17) :: o18 :: o19 :: o20 :: o21 :: o22 :: o23 :: o24 :: o25 :: o26 :: o27 :: (.ref y28) :: tl)) :: (y28, .inl (cs.1, 229376, .inl g196_2)) :: (y17, .inl (cs.2.1, 14, .inl f17)) :: X) H → va_S A s.heap H locs → lv_has ls 8 [(3, .int p11_3), (0, .ref a0), (1, .int x1), (2, .int x2)] → W p l e { frames := 1, cells := 0, slots := 0, locals := 22 } s m [.ref a0, .int x1, .int x2].toArray below meth c H locs 0 0 (MQ below (Tv D cs (fun u => ∃ (G2 : Nat → Int32), u = (T, y1 :: a0 :: y28 :: y17 :: O, (y1, .inl (cs.2.1, 3906, .inl f1)) :: (a0, .inr (12, o0 :: (.ref y1) :: o2 :: o3 :: o4 :: o5 :: o6 :: o7 :: o8 :: o9 :: o10 :: o11 :: o12 :: o13 :: o14 :: (.ref y15) :: (.int y16) :: (.ref y17) :: o18 :: o19 :: o20 :: o21 :: o22 :: o23 :: o24 :: o25 :: o26 :: o27 :: (.ref y28) :: tl)) :: (y28, .inl (cs.1, 229376, .inl G2)) :: (y17, .inl (cs.2.1, 14, .inl f17)) :: X) ∧ (WS (hg / 6) x1.toInt.toNat f17 G2 0)) A) [.ref a0, .int x1, .int x2].toArray s 0 0 A) (F0 m 196 ls []) := by
          intro g196_2 H locs ls i196 hH hS hl
          obtain ⟨v196, ev196⟩ : ∃ y : Int32, y = p11_3 + (-1) := ⟨_, rfl⟩
          have tv196 : v196.toInt = p11_3.toInt + (-1) := by rw [ev196]; exact add_i rfl (by decide) (by omega) (by omega)
          refine lv_iinc (v := v196) (lv' := [(3, .int v196), (0, .ref a0), (1, .int x1), (2, .int x2)]) hx hb dX12_laysMore_196 hl (k := 0) rfl (by rw [ev196]; rfl) (by decide) rfl (fun ls hl => ?_)
          refine lv_goto (tgt := 11) hx hb dX12_laysMore_199 (by decide) ?_
          exact ih11 _ (by omega) v196 g196_2 _ _ _ rfl (by omega) (by omega) (by first | exact (L11_n i196 tv196) | exact (L11_0 hv9 tv9)) hH hS (lv_sub hl [0, 1, 2, 3] rfl)
        refine lv_if_eq (tgt := 26) hx hb dX12_laysMore_20 (by decide) (fun c20 => ?_) (fun c20 => ?_)
        · skip
          have tc20 := f_eq (k := 0) (by decide) c20
          refine lv_iconst (v := 0) hx hb dX12_laysMore_26 (by decide) ?_
          have J29 : ∀ (n : Nat) (p29_4 : Int32) (g29_2 : Nat → Int32) (H : Heap) (locs : List Loc) (ls : Array Slot), (14 - p29_4.toInt).toNat = n → (0 ≤ p29_4.toInt) → (p29_4.toInt ≤ 14) → (L29 hg x1 f17 g29_2 p11_3 p29_4.toInt.toNat) → HT D cs A T (y1 :: a0 :: y28 :: y17 :: O) ((y1, .inl (cs.2.1, 3906, .inl f1)) :: (a0, .inr (12, o0 :: (.ref y1) :: o2 :: o3 :: o4 :: o5 :: o6 :: o7 :: o8 :: o9 :: o10 :: o11 :: o12 :: o13 :: o14 :: (.ref y15) :: (.int y16) :: (.ref y17) :: o18 :: o19 :: o20 :: o21 :: o22 :: o23 :: o24 :: o25 :: o26 :: o27 :: (.ref y28) :: tl)) :: (y28, .inl (cs.1, 229376, .inl g29_2)) :: (y17, .inl (cs.2.1, 14, .inl f17)) :: X) H → va_S A s.heap H locs → lv_has ls 8 [(4, .int p29_4), (3, .int p11_3), (0, .ref a0), (1, .int x1), (2, .int x2)] → W p l e { frames := 1, cells := 0, slots := 0, locals := 22 } s m [.ref a0, .int x1, .int x2].toArray below meth c H locs 0 0 (MQ below (Tv D cs (fun u => ∃ (G2 : Nat → Int32), u = (T, y1 :: a0 :: y28 :: y17 :: O, (y1, .inl (cs.2.1, 3906, .inl f1)) :: (a0, .inr (12, o0 :: (.ref y1) :: o2 :: o3 :: o4 :: o5 :: o6 :: o7 :: o8 :: o9 :: o10 :: o11 :: o12 :: o13 :: o14 :: (.ref y15) :: (.int y16) :: (.ref y17) :: o18 :: o19 :: o20 :: o21 :: o22 :: o23 :: o24 :: o25 :: o26 :: o27 :: (.ref y28) :: tl)) :: (y28, .inl (cs.1, 229376, .inl G2)) :: (y17, .inl (cs.2.1, 14, .inl f17)) :: X) ∧ (WS (hg / 6) x1.toInt.toNat f17 G2 0)) A) [.ref a0, .int x1, .int x2].toArray s 0 0 A) (F0 m 29 ls []) := by
            intro n
            induction n using Nat.strongRecOn with
            | _ n ih29 =>
              intro p29_4 g29_2 H locs ls hm29 l_p29_4 u_p29_4 i29 hH hS hl
              refine lv_iload hx hb dX12_laysMore_29 (lv_at hl 0 rfl) ?_
              refine lv_aload_n hx hb dX12_laysMore_31 rfl (lv_at hl 2 rfl) ?_
              refine x_getk (ci := 12) (C := RX12) (F := TX12) (N := 36) (v := .ref y1) hx hb hts uX12 hown hkb hH 1 rfl rfl 1 (by decide) rfl kw_1224 (fun _ h9 => h9) dX12_laysMore_32 ?_
              refine lv_iconst (v := 1) hx hb dX12_laysMore_35 (by decide) ?_
              refine xa_ild hx hb hkb hH 0 rfl (by decide) (by decide) dX12_laysMore_36 ?_
              refine lv_topi (fun v36 ev36 => ?_)
              have tv36 : v36 = f1 1 := by rw [ev36]; rfl
              have bv36 : 0 ≤ v36.toInt ∧ v36.toInt ≤ 14 := by rw [ev36]; exact (s_f1.at (by decide) 1).1 (by decide)
              have hv36 : v36.toInt = ((hg / 6 : Nat) : Int) := by rw [tv36, g_f1.1]; exact nI_toInt (by omega)
              refine lv_icmp_ge (tgt := 196) hx hb dX12_laysMore_37 (by decide) (fun c37 => ?_) (fun c37 => ?_)
              · skip
                have fuc37 := full_i p29_4
                have fvc37 := full_i v36
                have tc37 := g_le c37
                exact J196 g29_2 _ _ _ (by first | (refine L96_n i29 ?_ ?_ <;> omega) | (refine L96_s i11 ?_ ?_ ev18 ev19 ?_ ?_ <;> omega)) hH hS (lv_sub hl [1, 2, 3, 4] rfl)
              · skip
                have fuc37 := full_i p29_4
                have fvc37 := full_i v36
                have tc37 := g_nle c37
                refine lv_iload_n hx hb dX12_laysMore_40 rfl (lv_at hl 1 rfl) ?_
                refine lv_i2l hx hb dX12_laysMore_41 rfl ?_
                refine lv_iload hx hb dX12_laysMore_42 (lv_at hl 0 rfl) ?_
                refine tk_i hH hS hA (tr_S (n := 2) (As := [.long p11_3.toInt64, .int p29_4]) hx hb hml hown hts hkb hH (ox_map hOX rfl) hks hE hS hA (s_M_isIn2 l D cs kf T (y1 :: a0 :: y28 :: y17 :: O) ((y1, .inl (cs.2.1, 3906, .inl f1)) :: (a0, .inr (12, o0 :: (.ref y1) :: o2 :: o3 :: o4 :: o5 :: o6 :: o7 :: o8 :: o9 :: o10 :: o11 :: o12 :: o13 :: o14 :: (.ref y15) :: (.int y16) :: (.ref y17) :: o18 :: o19 :: o20 :: o21 :: o22 :: o23 :: o24 :: o25 :: o26 :: o27 :: (.ref y28) :: tl)) :: (y28, .inl (cs.1, 229376, .inl g29_2)) :: (y17, .inl (cs.2.1, 14, .inl f17)) :: X) p11_3.toInt64 p29_4  (hO.sub (by decide))) kw_1440 kw_1441 kw_13 kw_1442 (by decide +kernel) ⟨Nat.le_of_ble_eq_true rfl, Nat.le_of_ble_eq_true rfl⟩ rfl rfl hl.1 (Nat.le_of_ble_eq_true rfl) dX12_laysMore_44 ⟨Nat.le_of_ble_eq_true rfl, Nat.le_of_ble_eq_true rfl⟩) (fun v44 u H locs hz9 hH hS => ?_)
                obtain ⟨rfl, l_v44, u_v44, x_v440⟩ := hz9
                have hH : HT D cs A T (y1 :: a0 :: y28 :: y17 :: O) ((y1, .inl (cs.2.1, 3906, .inl f1)) :: (a0, .inr (12, o0 :: (.ref y1) :: o2 :: o3 :: o4 :: o5 :: o6 :: o7 :: o8 :: o9 :: o10 :: o11 :: o12 :: o13 :: o14 :: (.ref y15) :: (.int y16) :: (.ref y17) :: o18 :: o19 :: o20 :: o21 :: o22 :: o23 :: o24 :: o25 :: o26 :: o27 :: (.ref y28) :: tl)) :: (y28, .inl (cs.1, 229376, .inl g29_2)) :: (y17, .inl (cs.2.1, 14, .inl f17)) :: X) H := hH
                refine W.widen (k := 0) (n := 0) (Nat.le_of_ble_eq_true rfl) (Nat.le_of_ble_eq_true rfl) ?_
                have J190 : ∀ (g190_2 : Nat → Int32) (H : Heap) (locs : List Loc) (ls : Array Slot), (L29 hg x1 f17 g190_2 p11_3 (p29_4.toInt.toNat + 1)) → HT D cs A T (y1 :: a0 :: y28 :: y17 :: O) ((y1, .inl (cs.2.1, 3906, .inl f1)) :: (a0, .inr (12, o0 :: (.ref y1) :: o2 :: o3 :: o4 :: o5 :: o6 :: o7 :: o8 :: o9 :: o10 :: o11 :: o12 :: o13 :: o14 :: (.ref y15) :: (.int y16) :: (.ref y17) :: o18 :: o19 :: o20 :: o21 :: o22 :: o23 :: o24 :: o25 :: o26 :: o27 :: (.ref y28) :: tl)) :: (y28, .inl (cs.1, 229376, .inl g190_2)) :: (y17, .inl (cs.2.1, 14, .inl f17)) :: X) H → va_S A s.heap H locs → lv_has ls 8 [(4, .int p29_4), (3, .int p11_3), (0, .ref a0), (1, .int x1), (2, .int x2)] → W p l e { frames := 1, cells := 0, slots := 0, locals := 22 } s m [.ref a0, .int x1, .int x2].toArray below meth c H locs 0 0 (MQ below (Tv D cs (fun u => ∃ (G2 : Nat → Int32), u = (T, y1 :: a0 :: y28 :: y17 :: O, (y1, .inl (cs.2.1, 3906, .inl f1)) :: (a0, .inr (12, o0 :: (.ref y1) :: o2 :: o3 :: o4 :: o5 :: o6 :: o7 :: o8 :: o9 :: o10 :: o11 :: o12 :: o13 :: o14 :: (.ref y15) :: (.int y16) :: (.ref y17) :: o18 :: o19 :: o20 :: o21 :: o22 :: o23 :: o24 :: o25 :: o26 :: o27 :: (.ref y28) :: tl)) :: (y28, .inl (cs.1, 229376, .inl G2)) :: (y17, .inl (cs.2.1, 14, .inl f17)) :: X) ∧ (WS (hg / 6) x1.toInt.toNat f17 G2 0)) A) [.ref a0, .int x1, .int x2].toArray s 0 0 A) (F0 m 190 ls []) := by
                  intro g190_2 H locs ls i190 hH hS hl
                  obtain ⟨v190, ev190⟩ : ∃ y : Int32, y = p29_4 + 1 := ⟨_, rfl⟩
                  have tv190 : v190.toInt = p29_4.toInt + (1) := by rw [ev190]; exact add_i rfl (by decide) (by omega) (by omega)
                  refine lv_iinc (v := v190) (lv' := [(4, .int v190), (3, .int p11_3), (0, .ref a0), (1, .int x1), (2, .int x2)]) hx hb dX12_laysMore_190 hl (k := 0) rfl (by rw [ev190]; rfl) (by decide) rfl (fun ls hl => ?_)
                  refine lv_goto (tgt := 29) hx hb dX12_laysMore_193 (by decide) ?_
                  exact ih29 _ (by omega) v190 g190_2 _ _ _ rfl (by omega) (by omega) (by first | (refine L29_e i190 ?_; omega) | (refine L29_0 i11 ?_ ?_ ev18 ev19 ?_ (by decide) <;> omega)) hH hS (lv_sub hl [0, 1, 2, 3, 4] rfl)
                refine lv_if_ne (tgt := 53) hx hb dX12_laysMore_47 (by decide) (fun c47 => ?_) (fun c47 => ?_)
                · skip
                  have tc47 := f_ne (k := 0) (by decide) c47
                  refine lv_aload_n hx hb dX12_laysMore_53 rfl (lv_at hl 2 rfl) ?_
                  refine x_getk (ci := 12) (C := RX12) (F := TX12) (N := 36) (v := .ref y1) hx hb hts uX12 hown hkb hH 1 rfl rfl 1 (by decide) rfl kw_1224 (fun _ h9 => h9) dX12_laysMore_54 ?_
                  refine lv_iconst (v := 5) hx hb dX12_laysMore_57 (by decide) ?_
                  refine xa_ild hx hb hkb hH 0 rfl (by decide) (by decide) dX12_laysMore_58 ?_
                  refine lv_topi (fun v58 ev58 => ?_)
                  have tv58 : v58 = f1 5 := by rw [ev58]; rfl
                  have bv58 : 0 ≤ v58.toInt ∧ v58.toInt ≤ 16383 := by rw [ev58]; exact (s_f1.at (by decide) 5).2.2.2.1 (by decide)
                  refine lv_i2l hx hb dX12_laysMore_59 rfl ?_
                  refine lv_iload hx hb dX12_laysMore_60 (lv_at hl 0 rfl) ?_
                  refine tk_i hH hS hA (tr_S (n := 2) (As := [.long v58.toInt64, .int p29_4]) hx hb hml hown hts hkb hH (ox_map hOX rfl) hks hE hS hA (s_M_isIn2 l D cs kf T (y1 :: a0 :: y28 :: y17 :: O) ((y1, .inl (cs.2.1, 3906, .inl f1)) :: (a0, .inr (12, o0 :: (.ref y1) :: o2 :: o3 :: o4 :: o5 :: o6 :: o7 :: o8 :: o9 :: o10 :: o11 :: o12 :: o13 :: o14 :: (.ref y15) :: (.int y16) :: (.ref y17) :: o18 :: o19 :: o20 :: o21 :: o22 :: o23 :: o24 :: o25 :: o26 :: o27 :: (.ref y28) :: tl)) :: (y28, .inl (cs.1, 229376, .inl g29_2)) :: (y17, .inl (cs.2.1, 14, .inl f17)) :: X) v58.toInt64 p29_4  (hO.sub (by decide))) kw_1440 kw_1441 kw_13 kw_1442 (by decide +kernel) ⟨Nat.le_of_ble_eq_true rfl, Nat.le_of_ble_eq_true rfl⟩ rfl rfl hl.1 (Nat.le_of_ble_eq_true rfl) dX12_laysMore_62 ⟨Nat.le_of_ble_eq_true rfl, Nat.le_of_ble_eq_true rfl⟩) (fun v62 u H locs hz9 hH hS => ?_)
                  obtain ⟨rfl, l_v62, u_v62, x_v620⟩ := hz9
                  have hH : HT D cs A T (y1 :: a0 :: y28 :: y17 :: O) ((y1, .inl (cs.2.1, 3906, .inl f1)) :: (a0, .inr (12, o0 :: (.ref y1) :: o2 :: o3 :: o4 :: o5 :: o6 :: o7 :: o8 :: o9 :: o10 :: o11 :: o12 :: o13 :: o14 :: (.ref y15) :: (.int y16) :: (.ref y17) :: o18 :: o19 :: o20 :: o21 :: o22 :: o23 :: o24 :: o25 :: o26 :: o27 :: (.ref y28) :: tl)) :: (y28, .inl (cs.1, 229376, .inl g29_2)) :: (y17, .inl (cs.2.1, 14, .inl f17)) :: X) H := hH
                  refine W.widen (k := 0) (n := 0) (Nat.le_of_ble_eq_true rfl) (Nat.le_of_ble_eq_true rfl) ?_
                  have J82 : ∀ (k82_0 : Int32) (H : Heap) (locs : List Loc) (ls : Array Slot), (0 ≤ k82_0.toInt) → (k82_0.toInt ≤ 99) → (k82_0.toInt = 0 ∨ k82_0.toInt = 99) → HT D cs A T (y1 :: a0 :: y28 :: y17 :: O) ((y1, .inl (cs.2.1, 3906, .inl f1)) :: (a0, .inr (12, o0 :: (.ref y1) :: o2 :: o3 :: o4 :: o5 :: o6 :: o7 :: o8 :: o9 :: o10 :: o11 :: o12 :: o13 :: o14 :: (.ref y15) :: (.int y16) :: (.ref y17) :: o18 :: o19 :: o20 :: o21 :: o22 :: o23 :: o24 :: o25 :: o26 :: o27 :: (.ref y28) :: tl)) :: (y28, .inl (cs.1, 229376, .inl g29_2)) :: (y17, .inl (cs.2.1, 14, .inl f17)) :: X) H → va_S A s.heap H locs → lv_has ls 8 [(4, .int p29_4), (3, .int p11_3), (0, .ref a0), (1, .int x1), (2, .int x2)] → W p l e { frames := 1, cells := 0, slots := 0, locals := 22 } s m [.ref a0, .int x1, .int x2].toArray below meth c H locs 0 0 (MQ below (Tv D cs (fun u => ∃ (G2 : Nat → Int32), u = (T, y1 :: a0 :: y28 :: y17 :: O, (y1, .inl (cs.2.1, 3906, .inl f1)) :: (a0, .inr (12, o0 :: (.ref y1) :: o2 :: o3 :: o4 :: o5 :: o6 :: o7 :: o8 :: o9 :: o10 :: o11 :: o12 :: o13 :: o14 :: (.ref y15) :: (.int y16) :: (.ref y17) :: o18 :: o19 :: o20 :: o21 :: o22 :: o23 :: o24 :: o25 :: o26 :: o27 :: (.ref y28) :: tl)) :: (y28, .inl (cs.1, 229376, .inl G2)) :: (y17, .inl (cs.2.1, 14, .inl f17)) :: X) ∧ (WS (hg / 6) x1.toInt.toNat f17 G2 0)) A) [.ref a0, .int x1, .int x2].toArray s 0 0 A) (F0 m 82 ls [.int k82_0]) := by
                    intro k82_0 H locs ls l_k82_0 u_k82_0 i82 hH hS hl
                    refine lv_istore (lv' := [(5, .int k82_0), (4, .int p29_4), (3, .int p11_3), (0, .ref a0), (1, .int x1), (2, .int x2)]) hx hb dX12_laysMore_82 hl (by decide) rfl (fun ls hl => ?_)
                    refine lv_aload_n hx hb dX12_laysMore_84 rfl (lv_at hl 3 rfl) ?_
                    refine x_getk (ci := 12) (C := RX12) (F := TX12) (N := 36) (v := .ref y17) hx hb hts uX12 hown hkb hH 1 rfl rfl 17 (by decide) rfl kw_1240 (fun _ h9 => h9) dX12_laysMore_85 ?_
                    refine lv_iload hx hb dX12_laysMore_88 (lv_at hl 1 rfl) ?_
                    refine xa_ild hx hb hkb hH 3 rfl (by omega) (by omega) dX12_laysMore_90 ?_
                    refine lv_topi (fun v90 ev90 => ?_)
                    have tv90 : v90 = f17 p29_4.toInt.toNat := ev90
                    refine lv_iload_n hx hb dX12_laysMore_91 rfl (lv_at hl 4 rfl) ?_
                    refine lv_iand hx hb dX12_laysMore_92 ?_
                    refine lv_topi (fun v92 ev92 => ?_)
                    have tv92 : 0 ≤ v92.toInt ∧ v92.toInt ≤ x1.toInt := by rw [ev92]; exact and_r (by omega)
                    refine lv_iload_n hx hb dX12_laysMore_93 rfl (lv_at hl 2 rfl) ?_
                    refine lv_iconst (v := (-1)) hx hb dX12_laysMore_94 (by decide) ?_
                    refine lv_ixor hx hb dX12_laysMore_95 ?_
                    refine lv_topi (fun v95 ev95 => ?_)
                    refine lv_iand hx hb dX12_laysMore_96 ?_
                    refine lv_topi (fun v96 ev96 => ?_)
                    have tv96 : 0 ≤ v96.toInt ∧ v96.toInt ≤ v92.toInt := by rw [ev96]; exact and_l (by omega)
                    refine lv_istore (lv' := [(6, .int v96), (5, .int k82_0), (4, .int p29_4), (3, .int p11_3), (0, .ref a0), (1, .int x1), (2, .int x2)]) hx hb dX12_laysMore_97 hl (by decide) rfl (fun ls hl => ?_)
                    refine lv_iconst (v := 0) hx hb dX12_laysMore_99 (by decide) ?_
                    have J102 : ∀ (n : Nat) (p102_7 : Int32) (p102_5 : Int32) (H : Heap) (locs : List Loc) (ls : Array Slot), (14 - p102_7.toInt).toNat = n → (0 ≤ p102_7.toInt) → (p102_7.toInt ≤ 14) → (0 ≤ p102_5.toInt) → (p102_5.toInt ≤ 100) → (L102 hg x1 f17 g29_2 p11_3 p29_4 p102_5 p102_7.toInt.toNat) → HT D cs A T (y1 :: a0 :: y28 :: y17 :: O) ((y1, .inl (cs.2.1, 3906, .inl f1)) :: (a0, .inr (12, o0 :: (.ref y1) :: o2 :: o3 :: o4 :: o5 :: o6 :: o7 :: o8 :: o9 :: o10 :: o11 :: o12 :: o13 :: o14 :: (.ref y15) :: (.int y16) :: (.ref y17) :: o18 :: o19 :: o20 :: o21 :: o22 :: o23 :: o24 :: o25 :: o26 :: o27 :: (.ref y28) :: tl)) :: (y28, .inl (cs.1, 229376, .inl g29_2)) :: (y17, .inl (cs.2.1, 14, .inl f17)) :: X) H → va_S A s.heap H locs → lv_has ls 8 [(7, .int p102_7), (6, .int v96), (5, .int p102_5), (4, .int p29_4), (3, .int p11_3), (0, .ref a0), (1, .int x1), (2, .int x2)] → W p l e { frames := 1, cells := 0, slots := 0, locals := 22 } s m [.ref a0, .int x1, .int x2].toArray below meth c H locs 0 0 (MQ below (Tv D cs (fun u => ∃ (G2 : Nat → Int32), u = (T, y1 :: a0 :: y28 :: y17 :: O, (y1, .inl (cs.2.1, 3906, .inl f1)) :: (a0, .inr (12, o0 :: (.ref y1) :: o2 :: o3 :: o4 :: o5 :: o6 :: o7 :: o8 :: o9 :: o10 :: o11 :: o12 :: o13 :: o14 :: (.ref y15) :: (.int y16) :: (.ref y17) :: o18 :: o19 :: o20 :: o21 :: o22 :: o23 :: o24 :: o25 :: o26 :: o27 :: (.ref y28) :: tl)) :: (y28, .inl (cs.1, 229376, .inl G2)) :: (y17, .inl (cs.2.1, 14, .inl f17)) :: X) ∧ (WS (hg / 6) x1.toInt.toNat f17 G2 0)) A) [.ref a0, .int x1, .int x2].toArray s 0 0 A) (F0 m 102 ls []) := by
                      intro n
                      induction n using Nat.strongRecOn with
                      | _ n ih102 =>
                        intro p102_7 p102_5 H locs ls hm102 l_p102_7 u_p102_7 l_p102_5 u_p102_5 i102 hH hS hl
                        refine lv_iload hx hb dX12_laysMore_102 (lv_at hl 0 rfl) ?_
                        refine lv_aload_n hx hb dX12_laysMore_104 rfl (lv_at hl 5 rfl) ?_
                        refine x_getk (ci := 12) (C := RX12) (F := TX12) (N := 36) (v := .ref y1) hx hb hts uX12 hown hkb hH 1 rfl rfl 1 (by decide) rfl kw_1224 (fun _ h9 => h9) dX12_laysMore_105 ?_
                        refine lv_iconst (v := 1) hx hb dX12_laysMore_108 (by decide) ?_
                        refine xa_ild hx hb hkb hH 0 rfl (by decide) (by decide) dX12_laysMore_109 ?_
                        refine lv_topi (fun v109 ev109 => ?_)
                        have tv109 : v109 = f1 1 := by rw [ev109]; rfl
                        have bv109 : 0 ≤ v109.toInt ∧ v109.toInt ≤ 14 := by rw [ev109]; exact (s_f1.at (by decide) 1).1 (by decide)
                        have hv109 : v109.toInt = ((hg / 6 : Nat) : Int) := by rw [tv109, g_f1.1]; exact nI_toInt (by omega)
                        refine lv_icmp_ge (tgt := 175) hx hb dX12_laysMore_110 (by decide) (fun c110 => ?_) (fun c110 => ?_)
                        · skip
                          have fuc110 := full_i p102_7
                          have fvc110 := full_i v109
                          have tc110 := g_le c110
                          refine lv_aload_n hx hb dX12_laysMore_175 rfl (lv_at hl 5 rfl) ?_
                          refine x_getk (ci := 12) (C := RX12) (F := TX12) (N := 36) (v := .ref y28) hx hb hts uX12 hown hkb hH 1 rfl rfl 28 (by decide) rfl kw_1251 (fun _ h9 => h9) dX12_laysMore_176 ?_
                          refine lv_bipush (v := 14) hx hb dX12_laysMore_179 (by decide) ?_
                          refine lv_iload_n hx hb dX12_laysMore_181 rfl (lv_at hl 4 rfl) ?_
                          refine lv_imul hx hb dX12_laysMore_182 ?_
                          refine lv_topi (fun v182 ev182 => ?_)
                          have tv182 : v182.toInt = (14) * p11_3.toInt := by rw [ev182]; exact mul_i (by decide : (14 : Int32).toInt = 14) rfl (by omega) (by omega)
                          refine lv_iload hx hb dX12_laysMore_183 (lv_at hl 3 rfl) ?_
                          refine lv_iadd hx hb dX12_laysMore_185 ?_
                          refine lv_topi (fun v185 ev185 => ?_)
                          have tv185 : v185.toInt = v182.toInt + p29_4.toInt := by rw [ev185]; exact add_i rfl rfl (by omega) (by omega)
                          refine lv_iload hx hb dX12_laysMore_186 (lv_at hl 2 rfl) ?_
                          refine lv_i2b hx hb dX12_laysMore_188 rfl ?_
                          refine lv_topi (fun v188 ev188 => ?_)
                          refine xa_bst hx hb hkb hH hS 2 rfl (by omega) (by omega) dX12_laysMore_189 (fun H locs hH hS => ?_)
                          have hH : HT D cs A T (y1 :: a0 :: y28 :: y17 :: O) ((y1, .inl (cs.2.1, 3906, .inl f1)) :: (a0, .inr (12, o0 :: (.ref y1) :: o2 :: o3 :: o4 :: o5 :: o6 :: o7 :: o8 :: o9 :: o10 :: o11 :: o12 :: o13 :: o14 :: (.ref y15) :: (.int y16) :: (.ref y17) :: o18 :: o19 :: o20 :: o21 :: o22 :: o23 :: o24 :: o25 :: o26 :: o27 :: (.ref y28) :: tl)) :: (y28, .inl (cs.1, 229376, .inl (upd g29_2 (v185.toInt.toNat) (vp_nar .byte v188)))) :: (y17, .inl (cs.2.1, 14, .inl f17)) :: X) H := hH
                          obtain ⟨F189, eF189⟩ : ∃ f9, f9 = upd g29_2 (v185.toInt.toNat) (vp_nar .byte v188) := ⟨_, rfl⟩
                          have hH : HT D cs A T (y1 :: a0 :: y28 :: y17 :: O) ((y1, .inl (cs.2.1, 3906, .inl f1)) :: (a0, .inr (12, o0 :: (.ref y1) :: o2 :: o3 :: o4 :: o5 :: o6 :: o7 :: o8 :: o9 :: o10 :: o11 :: o12 :: o13 :: o14 :: (.ref y15) :: (.int y16) :: (.ref y17) :: o18 :: o19 :: o20 :: o21 :: o22 :: o23 :: o24 :: o25 :: o26 :: o27 :: (.ref y28) :: tl)) :: (y28, .inl (cs.1, 229376, .inl F189)) :: (y17, .inl (cs.2.1, 14, .inl f17)) :: X) H := eF189 ▸ hH
                          exact J190 F189 _ _ _ (by first | (refine L190_p (by omega) i29 ?_ ?_ ?_ rfl i102 ev188 tv182 tv185 eF189 <;> omega) | (refine L29_s i29 ?_ ?_ ?_ x_v440 ?_ rfl <;> omega)) hH hS (lv_sub hl [3, 4, 5, 6, 7] rfl)
                        · skip
                          have fuc110 := full_i p102_7
                          have fvc110 := full_i v109
                          have tc110 := g_nle c110
                          refine lv_iload hx hb dX12_laysMore_113 (lv_at hl 1 rfl) ?_
                          refine lv_i2l hx hb dX12_laysMore_115 rfl ?_
                          refine lv_iload hx hb dX12_laysMore_116 (lv_at hl 0 rfl) ?_
                          refine tk_i hH hS hA (tr_S (n := 2) (As := [.long v96.toInt64, .int p102_7]) hx hb hml hown hts hkb hH (ox_map hOX rfl) hks hE hS hA (s_M_isIn2 l D cs kf T (y1 :: a0 :: y28 :: y17 :: O) ((y1, .inl (cs.2.1, 3906, .inl f1)) :: (a0, .inr (12, o0 :: (.ref y1) :: o2 :: o3 :: o4 :: o5 :: o6 :: o7 :: o8 :: o9 :: o10 :: o11 :: o12 :: o13 :: o14 :: (.ref y15) :: (.int y16) :: (.ref y17) :: o18 :: o19 :: o20 :: o21 :: o22 :: o23 :: o24 :: o25 :: o26 :: o27 :: (.ref y28) :: tl)) :: (y28, .inl (cs.1, 229376, .inl g29_2)) :: (y17, .inl (cs.2.1, 14, .inl f17)) :: X) v96.toInt64 p102_7  (hO.sub (by decide))) kw_1440 kw_1441 kw_13 kw_1442 (by decide +kernel) ⟨Nat.le_of_ble_eq_true rfl, Nat.le_of_ble_eq_true rfl⟩ rfl rfl hl.1 (Nat.le_of_ble_eq_true rfl) dX12_laysMore_118 ⟨Nat.le_of_ble_eq_true rfl, Nat.le_of_ble_eq_true rfl⟩) (fun v118 u H locs hz9 hH hS => ?_)
                          obtain ⟨rfl, l_v118, u_v118, x_v1180⟩ := hz9
                          have hH : HT D cs A T (y1 :: a0 :: y28 :: y17 :: O) ((y1, .inl (cs.2.1, 3906, .inl f1)) :: (a0, .inr (12, o0 :: (.ref y1) :: o2 :: o3 :: o4 :: o5 :: o6 :: o7 :: o8 :: o9 :: o10 :: o11 :: o12 :: o13 :: o14 :: (.ref y15) :: (.int y16) :: (.ref y17) :: o18 :: o19 :: o20 :: o21 :: o22 :: o23 :: o24 :: o25 :: o26 :: o27 :: (.ref y28) :: tl)) :: (y28, .inl (cs.1, 229376, .inl g29_2)) :: (y17, .inl (cs.2.1, 14, .inl f17)) :: X) H := hH
                          refine W.widen (k := 0) (n := 0) (Nat.le_of_ble_eq_true rfl) (Nat.le_of_ble_eq_true rfl) ?_
                          have J169 : ∀ (p169_5 : Int32) (H : Heap) (locs : List Loc) (ls : Array Slot), (0 ≤ p169_5.toInt) → (p169_5.toInt ≤ 100) → (L102 hg x1 f17 g29_2 p11_3 p29_4 p169_5 (p102_7.toInt.toNat + 1)) → HT D cs A T (y1 :: a0 :: y28 :: y17 :: O) ((y1, .inl (cs.2.1, 3906, .inl f1)) :: (a0, .inr (12, o0 :: (.ref y1) :: o2 :: o3 :: o4 :: o5 :: o6 :: o7 :: o8 :: o9 :: o10 :: o11 :: o12 :: o13 :: o14 :: (.ref y15) :: (.int y16) :: (.ref y17) :: o18 :: o19 :: o20 :: o21 :: o22 :: o23 :: o24 :: o25 :: o26 :: o27 :: (.ref y28) :: tl)) :: (y28, .inl (cs.1, 229376, .inl g29_2)) :: (y17, .inl (cs.2.1, 14, .inl f17)) :: X) H → va_S A s.heap H locs → lv_has ls 8 [(7, .int p102_7), (6, .int v96), (5, .int p169_5), (4, .int p29_4), (3, .int p11_3), (0, .ref a0), (1, .int x1), (2, .int x2)] → W p l e { frames := 1, cells := 0, slots := 0, locals := 22 } s m [.ref a0, .int x1, .int x2].toArray below meth c H locs 0 0 (MQ below (Tv D cs (fun u => ∃ (G2 : Nat → Int32), u = (T, y1 :: a0 :: y28 :: y17 :: O, (y1, .inl (cs.2.1, 3906, .inl f1)) :: (a0, .inr (12, o0 :: (.ref y1) :: o2 :: o3 :: o4 :: o5 :: o6 :: o7 :: o8 :: o9 :: o10 :: o11 :: o12 :: o13 :: o14 :: (.ref y15) :: (.int y16) :: (.ref y17) :: o18 :: o19 :: o20 :: o21 :: o22 :: o23 :: o24 :: o25 :: o26 :: o27 :: (.ref y28) :: tl)) :: (y28, .inl (cs.1, 229376, .inl G2)) :: (y17, .inl (cs.2.1, 14, .inl f17)) :: X) ∧ (WS (hg / 6) x1.toInt.toNat f17 G2 0)) A) [.ref a0, .int x1, .int x2].toArray s 0 0 A) (F0 m 169 ls []) := by
                            intro p169_5 H locs ls l_p169_5 u_p169_5 i169 hH hS hl
                            obtain ⟨v169, ev169⟩ : ∃ y : Int32, y = p102_7 + 1 := ⟨_, rfl⟩
                            have tv169 : v169.toInt = p102_7.toInt + (1) := by rw [ev169]; exact add_i rfl (by decide) (by omega) (by omega)
                            refine lv_iinc (v := v169) (lv' := [(7, .int v169), (6, .int v96), (5, .int p169_5), (4, .int p29_4), (3, .int p11_3), (0, .ref a0), (1, .int x1), (2, .int x2)]) hx hb dX12_laysMore_169 hl (k := 0) rfl (by rw [ev169]; rfl) (by decide) rfl (fun ls hl => ?_)
                            refine lv_goto (tgt := 102) hx hb dX12_laysMore_172 (by decide) ?_
                            exact ih102 _ (by omega) v169 p169_5 _ _ _ rfl (by omega) (by omega) (by omega) (by omega) (by first | (refine L102_e i169 ?_; omega) | exact (L102_0 i82)) hH hS (lv_sub hl [0, 1, 2, 3, 4, 5, 6, 7] rfl)
                          refine lv_if_eq (tgt := 169) hx hb dX12_laysMore_121 (by decide) (fun c121 => ?_) (fun c121 => ?_)
                          · skip
                            have tc121 := f_eq (k := 0) (by decide) c121
                            exact J169 p102_5 _ _ _ (by omega) (by omega) (by first | exact (L102_s i102) | (refine L102_n i102 qv164 tv166 ?_; omega)) hH hS (lv_sub hl [0, 1, 2, 3, 4, 5, 6, 7] rfl)
                          · skip
                            have tc121 := f_ne (k := 0) (by decide) c121
                            refine lv_aload_n hx hb dX12_laysMore_124 rfl (lv_at hl 5 rfl) ?_
                            refine x_getk (ci := 12) (C := RX12) (F := TX12) (N := 36) (v := .ref y28) hx hb hts uX12 hown hkb hH 1 rfl rfl 28 (by decide) rfl kw_1251 (fun _ h9 => h9) dX12_laysMore_125 ?_
                            refine lv_bipush (v := 14) hx hb dX12_laysMore_128 (by decide) ?_
                            refine lv_iload_n hx hb dX12_laysMore_130 rfl (lv_at hl 4 rfl) ?_
                            refine lv_iconst (v := 1) hx hb dX12_laysMore_131 (by decide) ?_
                            refine lv_iload hx hb dX12_laysMore_132 (lv_at hl 0 rfl) ?_
                            refine lv_ishl hx hb dX12_laysMore_134 ?_
                            refine lv_topi (fun v134 ev134 => ?_)
                            have tv134 : 1 ≤ v134.toInt ∧ v134.toInt ≤ 8192 := by rw [ev134]; exact shl_b 13 (by decide) (by omega) (by omega)
                            refine lv_ior hx hb dX12_laysMore_135 ?_
                            refine lv_topi (fun v135 ev135 => ?_)
                            have tv135 : 0 ≤ v135.toInt ∧ v135.toInt < 16384 := by rw [ev135]; exact or_b 14 (by decide) (by omega) (by omega) (by omega) (by omega)
                            refine lv_imul hx hb dX12_laysMore_136 ?_
                            refine lv_topi (fun v136 ev136 => ?_)
                            have tv136 : v136.toInt = (14) * v135.toInt := by rw [ev136]; exact mul_i (by decide : (14 : Int32).toInt = 14) rfl (by omega) (by omega)
                            refine lv_iload hx hb dX12_laysMore_137 (lv_at hl 0 rfl) ?_
                            refine lv_iadd hx hb dX12_laysMore_139 ?_
                            refine lv_topi (fun v139 ev139 => ?_)
                            have tv139 : v139.toInt = v136.toInt + p102_7.toInt := by rw [ev139]; exact add_i rfl rfl (by omega) (by omega)
                            refine xa_bld hx hb hkb hH 2 rfl (by omega) (by omega) dX12_laysMore_140 ?_
                            refine lv_topi (fun v140 ev140 => ?_)
                            have tv140 : v140 = g29_2 v139.toInt.toNat := ev140
                            have qv140 := L140_of i29 (by omega) (by omega) (by omega) tv90 ev92 (by omega) ev95 ev96 (by omega) x_v1180 tc121 (by omega) (by omega) (by omega) ev134 ev135 (by omega) tv136 tv139 tv140
                            have bv140 := qv140.b
                            refine lv_iconst (v := 1) hx hb dX12_laysMore_141 (by decide) ?_
                            refine lv_iadd hx hb dX12_laysMore_142 ?_
                            refine lv_topi (fun v142 ev142 => ?_)
                            have tv142 : v142.toInt = v140.toInt + (1) := by rw [ev142]; exact add_i rfl (by decide : (1 : Int32).toInt = 1) (by omega) (by omega)
                            refine lv_iload hx hb dX12_laysMore_143 (lv_at hl 2 rfl) ?_
                            refine lv_icmp_ge (tgt := 169) hx hb dX12_laysMore_145 (by decide) (fun c145 => ?_) (fun c145 => ?_)
                            · skip
                              have fuc145 := full_i v142
                              have fvc145 := full_i p102_5
                              have tc145 := g_le c145
                              exact J169 p102_5 _ _ _ (by omega) (by omega) (by first | exact (L102_s i102) | (refine L102_n i102 qv164 tv166 ?_; omega)) hH hS (lv_sub hl [0, 1, 2, 3, 4, 5, 6, 7] rfl)
                            · skip
                              have fuc145 := full_i v142
                              have fvc145 := full_i p102_5
                              have tc145 := g_nle c145
                              refine lv_aload_n hx hb dX12_laysMore_148 rfl (lv_at hl 5 rfl) ?_
                              refine x_getk (ci := 12) (C := RX12) (F := TX12) (N := 36) (v := .ref y28) hx hb hts uX12 hown hkb hH 1 rfl rfl 28 (by decide) rfl kw_1251 (fun _ h9 => h9) dX12_laysMore_149 ?_
                              refine lv_bipush (v := 14) hx hb dX12_laysMore_152 (by decide) ?_
                              refine lv_iload_n hx hb dX12_laysMore_154 rfl (lv_at hl 4 rfl) ?_
                              refine lv_iconst (v := 1) hx hb dX12_laysMore_155 (by decide) ?_
                              refine lv_iload hx hb dX12_laysMore_156 (lv_at hl 0 rfl) ?_
                              refine lv_ishl hx hb dX12_laysMore_158 ?_
                              refine lv_topi (fun v158 ev158 => ?_)
                              have tv158 : 1 ≤ v158.toInt ∧ v158.toInt ≤ 8192 := by rw [ev158]; exact shl_b 13 (by decide) (by omega) (by omega)
                              refine lv_ior hx hb dX12_laysMore_159 ?_
                              refine lv_topi (fun v159 ev159 => ?_)
                              have tv159 : 0 ≤ v159.toInt ∧ v159.toInt < 16384 := by rw [ev159]; exact or_b 14 (by decide) (by omega) (by omega) (by omega) (by omega)
                              refine lv_imul hx hb dX12_laysMore_160 ?_
                              refine lv_topi (fun v160 ev160 => ?_)
                              have tv160 : v160.toInt = (14) * v159.toInt := by rw [ev160]; exact mul_i (by decide : (14 : Int32).toInt = 14) rfl (by omega) (by omega)
                              refine lv_iload hx hb dX12_laysMore_161 (lv_at hl 0 rfl) ?_
                              refine lv_iadd hx hb dX12_laysMore_163 ?_
                              refine lv_topi (fun v163 ev163 => ?_)
                              have tv163 : v163.toInt = v160.toInt + p102_7.toInt := by rw [ev163]; exact add_i rfl rfl (by omega) (by omega)
                              refine xa_bld hx hb hkb hH 2 rfl (by omega) (by omega) dX12_laysMore_164 ?_
                              refine lv_topi (fun v164 ev164 => ?_)
                              have tv164 : v164 = g29_2 v163.toInt.toNat := ev164
                              have qv164 := L140_of i29 (by omega) (by omega) (by omega) tv90 ev92 (by omega) ev95 ev96 (by omega) x_v1180 tc121 (by omega) (by omega) (by omega) ev158 ev159 (by omega) tv160 tv163 tv164
                              have bv164 := qv164.b
                              have qe9 := qv140.eq qv164
                              refine lv_iconst (v := 1) hx hb dX12_laysMore_165 (by decide) ?_
                              refine lv_iadd hx hb dX12_laysMore_166 ?_
                              refine lv_topi (fun v166 ev166 => ?_)
                              have tv166 : v166.toInt = v164.toInt + (1) := by rw [ev166]; exact add_i rfl (by decide : (1 : Int32).toInt = 1) (by omega) (by omega)
                              refine lv_istore (lv' := [(5, .int v166), (7, .int p102_7), (6, .int v96), (4, .int p29_4), (3, .int p11_3), (0, .ref a0), (1, .int x1), (2, .int x2)]) hx hb dX12_laysMore_167 hl (by decide) rfl (fun ls hl => ?_)
                              exact J169 v166 _ _ _ (by omega) (by omega) (by first | exact (L102_s i102) | (refine L102_n i102 qv164 tv166 ?_; omega)) hH hS (lv_sub hl [1, 2, 0, 3, 4, 5, 6, 7] rfl)
                    refine lv_istore (lv' := [(7, .int 0), (6, .int v96), (5, .int k82_0), (4, .int p29_4), (3, .int p11_3), (0, .ref a0), (1, .int x1), (2, .int x2)]) hx hb dX12_laysMore_100 hl (by decide) rfl (fun ls hl => ?_)
                    have z_0 : (0 : Int32).toInt = 0 := by decide
                    exact J102 _ 0 k82_0 _ _ _ rfl (by decide) (by decide) (by omega) (by omega) (by first | (refine L102_e i169 ?_; omega) | exact (L102_0 i82)) hH hS (lv_sub hl [0, 1, 2, 3, 4, 5, 6, 7] rfl)
                  have J80 : ∀  (H : Heap) (locs : List Loc) (ls : Array Slot), HT D cs A T (y1 :: a0 :: y28 :: y17 :: O) ((y1, .inl (cs.2.1, 3906, .inl f1)) :: (a0, .inr (12, o0 :: (.ref y1) :: o2 :: o3 :: o4 :: o5 :: o6 :: o7 :: o8 :: o9 :: o10 :: o11 :: o12 :: o13 :: o14 :: (.ref y15) :: (.int y16) :: (.ref y17) :: o18 :: o19 :: o20 :: o21 :: o22 :: o23 :: o24 :: o25 :: o26 :: o27 :: (.ref y28) :: tl)) :: (y28, .inl (cs.1, 229376, .inl g29_2)) :: (y17, .inl (cs.2.1, 14, .inl f17)) :: X) H → va_S A s.heap H locs → lv_has ls 8 [(4, .int p29_4), (3, .int p11_3), (0, .ref a0), (1, .int x1), (2, .int x2)] → W p l e { frames := 1, cells := 0, slots := 0, locals := 22 } s m [.ref a0, .int x1, .int x2].toArray below meth c H locs 0 0 (MQ below (Tv D cs (fun u => ∃ (G2 : Nat → Int32), u = (T, y1 :: a0 :: y28 :: y17 :: O, (y1, .inl (cs.2.1, 3906, .inl f1)) :: (a0, .inr (12, o0 :: (.ref y1) :: o2 :: o3 :: o4 :: o5 :: o6 :: o7 :: o8 :: o9 :: o10 :: o11 :: o12 :: o13 :: o14 :: (.ref y15) :: (.int y16) :: (.ref y17) :: o18 :: o19 :: o20 :: o21 :: o22 :: o23 :: o24 :: o25 :: o26 :: o27 :: (.ref y28) :: tl)) :: (y28, .inl (cs.1, 229376, .inl G2)) :: (y17, .inl (cs.2.1, 14, .inl f17)) :: X) ∧ (WS (hg / 6) x1.toInt.toNat f17 G2 0)) A) [.ref a0, .int x1, .int x2].toArray s 0 0 A) (F0 m 80 ls []) := by
                    intro  H locs ls  hH hS hl
                    refine lv_bipush (v := 99) hx hb dX12_laysMore_80 (by decide) ?_
                    have z_99 : (99 : Int32).toInt = 99 := by decide
                    exact J82 99 _ _ _ (by decide) (by decide) (by decide) hH hS (lv_sub hl [0, 1, 2, 3, 4] rfl)
                  refine lv_if_eq (tgt := 80) hx hb dX12_laysMore_65 (by decide) (fun c65 => ?_) (fun c65 => ?_)
                  · skip
                    have tc65 := f_eq (k := 0) (by decide) c65
                    exact J80  _ _ _  hH hS (lv_sub hl [0, 1, 2, 3, 4] rfl)
                  · skip
                    have tc65 := f_ne (k := 0) (by decide) c65
                    refine lv_iload_n hx hb dX12_laysMore_68 rfl (lv_at hl 4 rfl) ?_
                    refine lv_iload_n hx hb dX12_laysMore_69 rfl (lv_at hl 1 rfl) ?_
                    refine lv_iconst (v := (-1)) hx hb dX12_laysMore_70 (by decide) ?_
                    refine lv_ixor hx hb dX12_laysMore_71 ?_
                    refine lv_topi (fun v71 ev71 => ?_)
                    refine lv_iand hx hb dX12_laysMore_72 ?_
                    refine lv_topi (fun v72 ev72 => ?_)
                    refine lv_if_ne (tgt := 80) hx hb dX12_laysMore_73 (by decide) (fun c73 => ?_) (fun c73 => ?_)
                    · skip
                      have tc73 := f_ne (k := 0) (by decide) c73
                      exact J80  _ _ _  hH hS (lv_sub hl [0, 1, 2, 3, 4] rfl)
                    · skip
                      have tc73 := f_eq (k := 0) (by decide) c73
                      refine lv_iconst (v := 0) hx hb dX12_laysMore_76 (by decide) ?_
                      refine lv_goto (tgt := 82) hx hb dX12_laysMore_77 (by decide) ?_
                      have z_0 : (0 : Int32).toInt = 0 := by decide
                      exact J82 0 _ _ _ (by decide) (by decide) (by decide) hH hS (lv_sub hl [0, 1, 2, 3, 4] rfl)
                · skip
                  have tc47 := f_eq (k := 0) (by decide) c47
                  refine lv_goto (tgt := 190) hx hb dX12_laysMore_50 (by decide) ?_
                  exact J190 g29_2 _ _ _ (by first | (refine L190_p (by omega) i29 ?_ ?_ ?_ rfl i102 ev188 tv182 tv185 eF189 <;> omega) | (refine L29_s i29 ?_ ?_ ?_ x_v440 ?_ rfl <;> omega)) hH hS (lv_sub hl [0, 1, 2, 3, 4] rfl)
          refine lv_istore (lv' := [(4, .int 0), (3, .int p11_3), (0, .ref a0), (1, .int x1), (2, .int x2)]) hx hb dX12_laysMore_27 hl (by decide) rfl (fun ls hl => ?_)
          have z_0 : (0 : Int32).toInt = 0 := by decide
          exact J29 _ 0 g11_2 _ _ _ rfl (by decide) (by decide) (by first | (refine L29_e i190 ?_; omega) | (refine L29_0 i11 ?_ ?_ ev18 ev19 ?_ (by decide) <;> omega)) hH hS (lv_sub hl [0, 1, 2, 3, 4] rfl)
        · skip
          have tc20 := f_ne (k := 0) (by decide) c20
          refine lv_goto (tgt := 196) hx hb dX12_laysMore_23 (by decide) ?_
          exact J196 g11_2 _ _ _ (by first | (refine L96_n i29 ?_ ?_ <;> omega) | (refine L96_s i11 ?_ ?_ ev18 ev19 ?_ ?_ <;> omega)) hH hS (lv_sub hl [0, 1, 2, 3] rfl)
  have hv9 : v7.toInt = (2 : Int) ^ (hg / 6) := by rw [ev7, tv6, g_f1.1]; exact sh_tab _ (by omega)
  refine lv_istore_n (lv' := [(3, .int v9), (0, .ref a0), (1, .int x1), (2, .int x2)]) hx hb dX12_laysMore_10 rfl hl (by decide) rfl (fun ls hl => ?_)
  exact J11 _ v9 f28 _ _ _ rfl (by omega) (by omega) (by first | exact (L11_n i196 tv196) | exact (L11_0 hv9 tv9)) hH hS (lv_sub hl [0, 1, 2, 3] rfl)
/-! the reference's order -/
theorem sub_lim {x v u w : Int32} (e1 : u = w ^^^ (-1)) (e2 : v = x &&& u) (h : v.toInt = 0) (h0 : 0 ≤ w.toInt) : 0 ≤ x.toInt ∧ x.toInt ≤ w.toInt := by
  have hv : v = 0 := Int32.toInt_inj.mp (by rw [h]; decide)
  have e : x = x &&& w := by
    apply Int32.toBitVec_inj.mp
    apply BitVec.eq_of_getLsbD_eq
    intro i hi
    have hz : v.toBitVec.getLsbD i = false := by rw [hv]; exact BitVec.getLsbD_zero
    rw [e2, e1, Int32.toBitVec_and, Int32.toBitVec_xor, BitVec.getLsbD_and, BitVec.getLsbD_xor, m1_tab i hi, Bool.xor_true] at hz
    rw [Int32.toBitVec_and, BitVec.getLsbD_and]
    cases q1 : x.toBitVec.getLsbD i
    · rfl
    · rw [q1] at hz
      cases q2 : w.toBitVec.getLsbD i
      · rw [q2] at hz
        exact absurd hz (by decide)
      · rfl
  rw [e]
  exact and_r h0
def thF (f : Nat → Int32) (h : Int32) : Int32 := if (inF (f 87).toInt64 h).toInt = 0 ∧ (f (35 + h.toInt.toNat)).toInt ≤ (f 88).toInt then 1 else 0
theorem thF_1 {f : Nat → Int32} {h a r b c i : Int32} (ea : a = f 87) (er : r = inF a.toInt64 h) (hr : r.toInt = 0) (eb : b = f 88) (ei : i.toInt = 35 + h.toInt) (h0 : 0 ≤ h.toInt) (ec : c = f i.toInt.toNat) (hc : c.toInt ≤ b.toInt) : (1 : Int32) = thF f h := by
  have q1 : (inF (f 87).toInt64 h).toInt = 0 := by rw [← ea, ← er]; exact hr
  have q2 : (f (35 + h.toInt.toNat)).toInt ≤ (f 88).toInt := by rw [show 35 + h.toInt.toNat = i.toInt.toNat by omega, ← ec, ← eb]; exact hc
  unfold thF
  rw [if_pos ⟨q1, q2⟩]
theorem thF_0 {f : Nat → Int32} {h a r : Int32} (ea : a = f 87) (er : r = inF a.toInt64 h) (hr : r.toInt ≠ 0) : (0 : Int32) = thF f h := by
  unfold thF
  rw [if_neg (fun q => hr (by rw [er, ea]; exact q.1))]
theorem thF_0c {f : Nat → Int32} {h b c i : Int32} (eb : b = f 88) (ei : i.toInt = 35 + h.toInt) (h0 : 0 ≤ h.toInt) (ec : c = f i.toInt.toNat) (hc : b.toInt < c.toInt) : (0 : Int32) = thF f h := by
  unfold thF
  rw [if_neg (fun q => by have q2 := q.2; rw [show 35 + h.toInt.toNat = i.toInt.toNat by omega, ← ec, ← eb] at q2; omega)]
def thS (f : Nat → Int32) : Nat → Int32
  | 0 => 0
  | n + 1 => thS f n ||| (if (thF f (nI n)).toInt = 0 then 0 else (1 : Int32) <<< (nI n &&& 31))
theorem thS_n {f : Nat → Int32} {p h r b v w : Int32} (hi : p = thS f h.toInt.toNat) (h0 : 0 ≤ h.toInt) (er : r = thF f h) (hb : (r.toInt = 0 ∧ b = 0) ∨ (r.toInt ≠ 0 ∧ b = (1 : Int32) <<< (h &&& 31))) (ev : v = p ||| b) (ew : w.toInt = h.toInt + 1) : v = thS f w.toInt.toNat := by
  rw [show w.toInt.toNat = h.toInt.toNat + 1 by omega, ev, hi]
  show _ = thS f h.toInt.toNat ||| (if (thF f (nI h.toInt.toNat)).toInt = 0 then 0 else (1 : Int32) <<< (nI h.toInt.toNat &&& 31))
  rw [← is_nI h0, ← er]
  rcases hb with ⟨q1, q2⟩ | ⟨q1, q2⟩
  · rw [if_pos q1, q2]
  · rw [if_neg q1, q2]
theorem c1_put {f : Nat → Int32} {k : Nat} {x : Int32} (h : ∀ j, cp 1 (f j)) (h0 : 0 ≤ x.toInt) (h1 : x.toInt ≤ 16383) : ∀ j, cp 1 (upd f k x j) := fun j => by
  by_cases q : j = k
  · rw [q, upd_eq]
    exact ⟨h0, h1⟩
  · rw [upd_ne q]
    exact h j
/-- a hold from which a climb by all of a set begins -/
def LQ (hg : Nat) (s : Int32) (g : Nat → Int32) (b : Int32) : Prop := b.toInt = -1 ∨ (0 ≤ b.toInt ∧ b.toInt < ((hg / 6 : Nat) : Int) ∧ s.toInt.toNat.testBit b.toInt.toNat = true ∧ (g (14 * 2 ^ b.toInt.toNat + b.toInt.toNat)).toInt < 99)
theorem LQ_0 {hg : Nat} {s : Int32} {g : Nat → Int32} : LQ hg s g (-1) := Or.inl (by decide)
theorem sh_nn {k v : Int32} (h0 : 0 ≤ k.toInt) (h1 : k.toInt ≤ 30) (e : v = (1 : Int32) <<< (k &&& 31)) : v.toInt.toNat = 2 ^ k.toInt.toNat := by
  have h := sh_n h0 h1 e
  have hp2 : 0 < 2 ^ k.toInt.toNat := Nat.two_pow_pos _
  have e2 : ((2 ^ k.toInt.toNat : Nat) : Int) = (2 : Int) ^ k.toInt.toNat := by norm_cast
  omega
theorem LQ_n {hg : Nat} {s a b q u w h : Int32} {g : Nat → Int32} (hs : 0 ≤ s.toInt) (eb : b = s &&& a) (hb : 0 ≤ b.toInt) (eq : q = inF b.toInt64 h) (hq : q.toInt ≠ 0) (h0 : 0 ≤ h.toInt) (h1 : h.toInt < ((hg / 6 : Nat) : Int)) (h2 : h.toInt ≤ 13) (eu : u = (1 : Int32) <<< (h &&& 31)) (ew : w = g (14 * u.toInt.toNat + h.toInt.toNat)) (hw : w.toInt < 99) : LQ hg s g h := by
  have hbit := (inF_bit hb h0 (by omega)).mp (inF_nz eq hq)
  rw [tb hb, eb, Int32.toBitVec_and, BitVec.getLsbD_and, Bool.and_eq_true] at hbit
  refine Or.inr ⟨h0, h1, ?_, ?_⟩
  · rw [tb hs]
    exact hbit.1
  · rw [← sh_nn h0 (by omega) eu, ← ew]
    exact hw
/-- on the way: where the order is, what it has taken, how many are left -/
def LOx (hg : Nat) (x : Int32) (g : Nat → Int32) (h s : Int32) (n : Int) : Prop := h.toInt < ((hg / 6 : Nat) : Int) ∧ s.toInt.toNat < 2 ^ (hg / 6) ∧ (∀ i, s.toInt.toNat.testBit i = true → x.toInt.toNat.testBit i = true) ∧ s.toInt.toNat.testBit h.toInt.toNat = true ∧ (g (14 * s.toInt.toNat + h.toInt.toNat)).toInt = n ∧ n < 99
def LPx (hg : Nat) (x : Int32) (o g : Nat → Int32) (h s : Int32) (l : Int) (n : Nat) : Prop := ∃ k : Nat, n ≤ k ∧ k < hg / 6 ∧ (o h.toInt.toNat).toBitVec.getLsbD k = true ∧ x.toInt.toNat.testBit k = true ∧ s.toInt.toNat.testBit k = false ∧ (g (14 * (s.toInt.toNat ||| 2 ^ k) + k)).toInt = l
theorem LOx_0 {hg : Nat} {x h u : Int32} {g : Nat → Int32} {v : Int32} (hi : LQ hg x g h) (hn : h.toInt ≠ -1) (h2 : h.toInt ≤ 13) (eu : u = (1 : Int32) <<< (h &&& 31)) (ev : v = g (14 * u.toInt.toNat + h.toInt.toNat)) : LOx hg x g h u v.toInt := by
  rcases hi with q | ⟨q0, q1, q2, q3⟩
  · exact absurd q hn
  · have e := sh_nn q0 (by omega) eu
    refine ⟨q1, ?_, fun i hi => ?_, ?_, by rw [ev], ?_⟩
    · rw [e]
      exact Nat.pow_lt_pow_right (by decide) (by omega)
    · rw [e, Nat.testBit_two_pow] at hi
      rw [← of_decide_eq_true hi]
      exact q2
    · rw [e]
      exact Nat.testBit_two_pow_self
    · rw [ev, e]
      exact q3
theorem LPx_0 {hg : Nat} {x h s v w : Int32} {o g : Nat → Int32} {n : Int} (hw : WS (hg / 6) x.toInt.toNat o g 0) (hi : LOx hg x g h s n) (h0 : 0 ≤ h.toInt) (hn : 0 < n) (ev : v.toInt = n) (ew : w.toInt = v.toInt - 1) {m : Nat} (hm : m = 0) : LPx hg x o g h s w.toInt m := by
  obtain ⟨a1, a2, a3, a4, a5, a6⟩ := hi
  have hs : (0 : Int) < (s.toInt.toNat : Nat) := by
    have : s.toInt.toNat ≠ 0 := fun q => by
      rw [q, Nat.zero_testBit] at a4
      exact absurd a4 (by decide)
    omega
  rcases hw s.toInt.toNat hs a2 a3 h.toInt.toNat (by omega) a4 with q | q | ⟨q, k, k1, k2, k3, k4, k5, k6, k7⟩
  · omega
  · omega
  · exact ⟨k, by omega, k2, k3, k4, k5, by omega⟩
theorem LPx.lt {hg m : Nat} {x h s : Int32} {o g : Nat → Int32} {l : Int} (hi : LPx hg x o g h s l m) : m < hg / 6 := by
  obtain ⟨k, h1, h2, _⟩ := hi
  omega
/-- what the step asks of a hold -/
theorem LPx_bits {x h s a b c d k : Int32} {o : Nat → Int32} (ea : a = o h.toInt.toNat) (eb : b = a &&& x) (hb : 0 ≤ b.toInt) (hx : 0 ≤ x.toInt) (ec : c = s ^^^ (-1)) (hs : 0 ≤ s.toInt) (ed : d = b &&& c) (hd : 0 ≤ d.toInt) (hk : 0 ≤ k.toInt) (hk1 : k.toInt ≤ 31) : inF d.toInt64 k = 1 ↔ ((o h.toInt.toNat).toBitVec.getLsbD k.toInt.toNat = true ∧ x.toInt.toNat.testBit k.toInt.toNat = true ∧ s.toInt.toNat.testBit k.toInt.toNat = false) := by
  rw [inF_bit hd hk hk1, an_bit hb hs hd ec ed, Bool.and_eq_true, tb hb, eb, Int32.toBitVec_and, BitVec.getLsbD_and, Bool.and_eq_true, ea, tb hx]
  constructor
  · rintro ⟨⟨q1, q2⟩, q3⟩
    refine ⟨q1, q2, ?_⟩
    cases q4 : s.toInt.toNat.testBit k.toInt.toNat
    · rfl
    · rw [q4] at q3
      exact absurd q3 (by decide)
  · rintro ⟨q1, q2, q3⟩
    exact ⟨⟨q1, q2⟩, by rw [q3]; rfl⟩
theorem LPx_no {hg : Nat} {x h s q k : Int32} {d : Int64} {o g : Nat → Int32} {l : Int} (hi : LPx hg x o g h s l k.toInt.toNat) (hbits : inF d k = 1 ↔ ((o h.toInt.toNat).toBitVec.getLsbD k.toInt.toNat = true ∧ x.toInt.toNat.testBit k.toInt.toNat = true ∧ s.toInt.toNat.testBit k.toInt.toNat = false)) (eq : q = inF d k) (hq : q.toInt = 0) : LPx hg x o g h s l (k.toInt.toNat + 1) := by
  obtain ⟨j, h1, h2, h3, h4, h5, h6⟩ := hi
  refine ⟨j, ?_, h2, h3, h4, h5, h6⟩
  by_cases z : j = k.toInt.toNat
  · subst z
    exact absurd (hbits.mpr ⟨h3, h4, h5⟩) (inF_z eq hq)
  · omega
theorem LPx_ne {hg : Nat} {x h s k u v w : Int32} {o g : Nat → Int32} {l : Int} (hi : LPx hg x o g h s l k.toInt.toNat) (hs : 0 ≤ s.toInt) (hk : 0 ≤ k.toInt) (hk1 : k.toInt ≤ 30) (eu : u = (1 : Int32) <<< (k &&& 31)) (ev : v = s ||| u) (hv : 0 ≤ v.toInt) (hu : 0 ≤ u.toInt) (ew : w = g (14 * v.toInt.toNat + k.toInt.toNat)) (hw : w.toInt ≠ l) : LPx hg x o g h s l (k.toInt.toNat + 1) := by
  obtain ⟨j, h1, h2, h3, h4, h5, h6⟩ := hi
  refine ⟨j, ?_, h2, h3, h4, h5, h6⟩
  by_cases z : j = k.toInt.toNat
  · subst z
    rw [ev, or_n hs hu (by rw [← ev]; exact hv), sh_nn hk hk1 eu] at ew
    rw [← ew] at h6
    exact absurd h6 hw
  · omega
theorem LPx_e {hg n : Nat} {x h s b : Int32} {o g : Nat → Int32} {l : Int} (hi : LPx hg x o g h s l (n + 1)) (e : b.toInt.toNat = n + 1) : LPx hg x o g h s l b.toInt.toNat := by
  rw [e]
  exact hi
theorem LOx_n {hg : Nat} {x h s q k u v w u2 v2 : Int32} {d : Int64} {o g : Nat → Int32} {n l : Int} (hi : LOx hg x g h s n) (hp : LPx hg x o g h s l k.toInt.toNat) (hbits : inF d k = 1 ↔ ((o h.toInt.toNat).toBitVec.getLsbD k.toInt.toNat = true ∧ x.toInt.toNat.testBit k.toInt.toNat = true ∧ s.toInt.toNat.testBit k.toInt.toNat = false)) (eq : q = inF d k) (hq : q.toInt ≠ 0) (hs : 0 ≤ s.toInt) (hk : 0 ≤ k.toInt) (hk1 : k.toInt ≤ 30) (eu : u = (1 : Int32) <<< (k &&& 31)) (ev : v = s ||| u) (hv : 0 ≤ v.toInt) (hu : 0 ≤ u.toInt) (ew : w = g (14 * v.toInt.toNat + k.toInt.toNat)) (hw : w.toInt = l) (eu2 : u2 = (1 : Int32) <<< (k &&& 31)) (ev2 : v2 = s ||| u2) {n2 : Int} (hl : n2 = l) (hl2 : n2 < 99) : LOx hg x g k v2 n2 := by
  have e0 : v2 = v := by rw [ev2, ev, eu2, eu]
  subst e0
  obtain ⟨b1, b2, b3⟩ := hbits.mp (inF_nz eq hq)
  have hlt := hp.lt
  have e : v2.toInt.toNat = s.toInt.toNat ||| 2 ^ k.toInt.toNat := by rw [ev, or_n hs hu (by rw [← ev]; exact hv), sh_nn hk hk1 eu]
  refine ⟨by omega, ?_, fun i hj => ?_, ?_, ?_, hl2⟩
  · rw [e]
    exact Nat.or_lt_two_pow hi.2.1 (Nat.pow_lt_pow_right (by decide) hlt)
  · rw [e, Nat.testBit_or, Bool.or_eq_true] at hj
    rcases hj with hj | hj
    · exact hi.2.2.1 i hj
    · rw [Nat.testBit_two_pow] at hj
      rw [← of_decide_eq_true hj]
      exact b2
  · rw [e, Nat.testBit_or, Nat.testBit_two_pow_self, Bool.or_true]
  · rw [← ew, hw, hl]
theorem LOx.b {hg : Nat} {x h s : Int32} {o g : Nat → Int32} {n : Int} (hw : WS (hg / 6) x.toInt.toNat o g 0) (hi : LOx hg x g h s n) (h0 : 0 ≤ h.toInt) : 0 ≤ n ∧ n < 99 := by
  obtain ⟨a1, a2, a3, a4, a5, a6⟩ := hi
  have hs : (0 : Int) < (s.toInt.toNat : Nat) := by
    have : s.toInt.toNat ≠ 0 := fun q => by
      rw [q, Nat.zero_testBit] at a4
      exact absurd a4 (by decide)
    omega
  have hb := WN.b (hw s.toInt.toNat hs a2 a3 h.toInt.toNat (by omega) a4)
  omega
set_option maxHeartbeats 4000000 in
set_option maxRecDepth 100000 in
theorem s_M_isThereF (l : Launch) (D : va_G) (cs : CS) (kf : KF) (T : TF) (O : List Nat) (X : va_W) (a0 hg mq : Nat) (x1 : Int32) (f1 : Nat → Int32) (o0 : Value) (y1 : Nat) (o2 : Value) (o3 : Value) (o4 : Value) (o5 : Value) (o6 : Value) (o7 : Value) (o8 : Value) (o9 : Value) (o10 : Value) (o11 : Value) (o12 : Value) (o13 : Value) (o14 : Value) (y15 : Nat) (y16 : Int32) (tl : List Value) (t_a0 : T a0 = some (22, hg, mq)) (b_hg : hg < 90) (l_x1 : 0 ≤ x1.toInt) (u_x1 : x1.toInt ≤ 13) (s_f1 : B8 3906 f1) (g_f1 : f1 1 = nI (hg / 6) ∧ f1 2 = nI (hg % 6)) (t_y1 : T y1 = some (8, 3906, hg)) (t_y15 : T y15 = some (1, 900, 0)) (hO : okO T (y1 :: a0 :: O) []) : TK l D cs kf yX12_isThere cX12_isThere 2 (some (.boolean)) { frames := 1, cells := 0, slots := 0, locals := 22 } [.ref a0, .int x1] T (y1 :: a0 :: O) ((y1, .inl (cs.2.1, 3906, .inl f1)) :: (a0, .inr (12, o0 :: (.ref y1) :: o2 :: o3 :: o4 :: o5 :: o6 :: o7 :: o8 :: o9 :: o10 :: o11 :: o12 :: o13 :: o14 :: (.ref y15) :: (.int y16) :: tl)) :: X) (Ti D cs (fun r u => u = (T, y1 :: a0 :: O, (y1, .inl (cs.2.1, 3906, .inl f1)) :: (a0, .inr (12, o0 :: (.ref y1) :: o2 :: o3 :: o4 :: o5 :: o6 :: o7 :: o8 :: o9 :: o10 :: o11 :: o12 :: o13 :: o14 :: (.ref y15) :: (.int y16) :: tl)) :: X) ∧ 0 ≤ r.toInt ∧ r.toInt ≤ 1 ∧ (r = thF f1 x1))) := by
  refine tk_of (by decide) (Nat.le_of_ble_eq_true rfl) (fun p e s m below meth c ls A H locs hx hb hr hml hown hts hlocks hnm hkb hH hS hA hOX hks hE hl => ?_)
  have hown : s.vm.findClass RX12 = some m.cls := hown
  have hl : lv_has ls 2 [(0, .ref a0), (1, .int x1)] := hl
  have hOXf := hOX
  refine lv_aload_n hx hb dX12_isThere_0 rfl (lv_at hl 0 rfl) ?_
  refine x_getk (ci := 12) (C := RX12) (F := TX12) (N := 36) (v := .ref y1) hx hb hts uX12 hown hkb hH 1 rfl rfl 1 (by decide) rfl kw_1224 (fun _ h9 => h9) dX12_isThere_1 ?_
  refine lv_bipush (v := 87) hx hb dX12_isThere_4 (by decide) ?_
  refine xa_ild hx hb hkb hH 0 rfl (by decide) (by decide) dX12_isThere_6 ?_
  refine lv_topi (fun v6 ev6 => ?_)
  have tv6 : v6 = f1 87 := by rw [ev6]; rfl
  refine lv_i2l hx hb dX12_isThere_7 rfl ?_
  refine lv_iload_n hx hb dX12_isThere_8 rfl (lv_at hl 1 rfl) ?_
  refine tk_i hH hS hA (tr_S (n := 2) (As := [.long v6.toInt64, .int x1]) hx hb hml hown hts hkb hH (ox_map hOX rfl) hks hE hS hA (s_M_isIn2 l D cs kf T (y1 :: a0 :: O) ((y1, .inl (cs.2.1, 3906, .inl f1)) :: (a0, .inr (12, o0 :: (.ref y1) :: o2 :: o3 :: o4 :: o5 :: o6 :: o7 :: o8 :: o9 :: o10 :: o11 :: o12 :: o13 :: o14 :: (.ref y15) :: (.int y16) :: tl)) :: X) v6.toInt64 x1  (hO.sub (by decide))) kw_1440 kw_1441 kw_13 kw_1442 (by decide +kernel) ⟨Nat.le_of_ble_eq_true rfl, Nat.le_of_ble_eq_true rfl⟩ rfl rfl hl.1 (Nat.le_of_ble_eq_true rfl) dX12_isThere_9 ⟨Nat.le_of_ble_eq_true rfl, Nat.le_of_ble_eq_true rfl⟩) (fun v9 u H locs hz9 hH hS => ?_)
  obtain ⟨rfl, l_v9, u_v9, x_v90⟩ := hz9
  have hH : HT D cs A T (y1 :: a0 :: O) ((y1, .inl (cs.2.1, 3906, .inl f1)) :: (a0, .inr (12, o0 :: (.ref y1) :: o2 :: o3 :: o4 :: o5 :: o6 :: o7 :: o8 :: o9 :: o10 :: o11 :: o12 :: o13 :: o14 :: (.ref y15) :: (.int y16) :: tl)) :: X) H := hH
  refine W.widen (k := 0) (n := 0) (Nat.le_of_ble_eq_true rfl) (Nat.le_of_ble_eq_true rfl) ?_
  refine lv_if_ne (tgt := 38) hx hb dX12_isThere_12 (by decide) (fun c12 => ?_) (fun c12 => ?_)
  · skip
    have tc12 := f_ne (k := 0) (by decide) c12
    refine lv_iconst (v := 0) hx hb dX12_isThere_38 (by decide) ?_
    have z9_0 : (0 : Int32).toInt = 0 := by decide
    exact te_z hx hb hr hlocks (by rfl) hH hS (⟨rfl, by decide, by decide, (by first | (refine thF_0 tv6 x_v90 ?_; omega) | (refine thF_0c tv21 tv29 ?_ tv30 ?_ <;> omega))⟩) dX12_isThere_39
  · skip
    have tc12 := f_eq (k := 0) (by decide) c12
    refine lv_aload_n hx hb dX12_isThere_15 rfl (lv_at hl 0 rfl) ?_
    refine x_getk (ci := 12) (C := RX12) (F := TX12) (N := 36) (v := .ref y1) hx hb hts uX12 hown hkb hH 1 rfl rfl 1 (by decide) rfl kw_1224 (fun _ h9 => h9) dX12_isThere_16 ?_
    refine lv_bipush (v := 88) hx hb dX12_isThere_19 (by decide) ?_
    refine xa_ild hx hb hkb hH 0 rfl (by decide) (by decide) dX12_isThere_21 ?_
    refine lv_topi (fun v21 ev21 => ?_)
    have tv21 : v21 = f1 88 := by rw [ev21]; rfl
    refine lv_aload_n hx hb dX12_isThere_22 rfl (lv_at hl 0 rfl) ?_
    refine x_getk (ci := 12) (C := RX12) (F := TX12) (N := 36) (v := .ref y1) hx hb hts uX12 hown hkb hH 1 rfl rfl 1 (by decide) rfl kw_1224 (fun _ h9 => h9) dX12_isThere_23 ?_
    refine lv_bipush (v := 35) hx hb dX12_isThere_26 (by decide) ?_
    refine lv_iload_n hx hb dX12_isThere_28 rfl (lv_at hl 1 rfl) ?_
    refine lv_iadd hx hb dX12_isThere_29 ?_
    refine lv_topi (fun v29 ev29 => ?_)
    have tv29 : v29.toInt = (35) + x1.toInt := by rw [ev29]; exact add_i (by decide : (35 : Int32).toInt = 35) rfl (by omega) (by omega)
    refine xa_ild hx hb hkb hH 0 rfl (by omega) (by omega) dX12_isThere_30 ?_
    refine lv_topi (fun v30 ev30 => ?_)
    have tv30 : v30 = f1 v29.toInt.toNat := ev30
    refine lv_icmp_lt (tgt := 38) hx hb dX12_isThere_31 (by decide) (fun c31 => ?_) (fun c31 => ?_)
    · skip
      have fuc31 := full_i v21
      have fvc31 := full_i v30
      have tc31 := g_lt c31
      refine lv_iconst (v := 0) hx hb dX12_isThere_38 (by decide) ?_
      have z9_0 : (0 : Int32).toInt = 0 := by decide
      exact te_z hx hb hr hlocks (by rfl) hH hS (⟨rfl, by decide, by decide, (by first | (refine thF_0 tv6 x_v90 ?_; omega) | (refine thF_0c tv21 tv29 ?_ tv30 ?_ <;> omega))⟩) dX12_isThere_39
    · skip
      have fuc31 := full_i v21
      have fvc31 := full_i v30
      have tc31 := g_nlt c31
      refine lv_iconst (v := 1) hx hb dX12_isThere_34 (by decide) ?_
      refine lv_goto (tgt := 39) hx hb dX12_isThere_35 (by decide) ?_
      have z9_1 : (1 : Int32).toInt = 1 := by decide
      exact te_z hx hb hr hlocks (by rfl) hH hS (⟨rfl, by decide, by decide, (by first | (refine thF_1 tv6 x_v90 ?_ tv21 tv29 ?_ tv30 ?_ <;> omega))⟩) dX12_isThere_39
set_option maxHeartbeats 4000000 in
set_option maxRecDepth 100000 in
theorem s_M_endsF (l : Launch) (D : va_G) (cs : CS) (kf : KF) (T : TF) (O : List Nat) (X : va_W) (a0 hg mq : Nat) (f1 : Nat → Int32) (o0 : Value) (y1 : Nat) (o2 : Value) (o3 : Value) (o4 : Value) (o5 : Value) (o6 : Value) (o7 : Value) (o8 : Value) (o9 : Value) (o10 : Value) (o11 : Value) (o12 : Value) (o13 : Value) (o14 : Value) (y15 : Nat) (y16 : Int32) (tl : List Value) (t_a0 : T a0 = some (22, hg, mq)) (b_hg : hg < 90) (s_f1 : B8 3906 f1) (g_f1 : f1 1 = nI (hg / 6) ∧ f1 2 = nI (hg % 6)) (t_y1 : T y1 = some (8, 3906, hg)) (t_y15 : T y15 = some (1, 900, 0)) (hO : okO T (y1 :: a0 :: O) []) : TK l D cs kf yX12_ends cX12_ends 1 (some (.int)) { frames := 0, cells := 0, slots := 0, locals := 0 } [.ref a0] T (y1 :: a0 :: O) ((y1, .inl (cs.2.1, 3906, .inl f1)) :: (a0, .inr (12, o0 :: (.ref y1) :: o2 :: o3 :: o4 :: o5 :: o6 :: o7 :: o8 :: o9 :: o10 :: o11 :: o12 :: o13 :: o14 :: (.ref y15) :: (.int y16) :: tl)) :: X) (Ti D cs (fun r u => u = (T, y1 :: a0 :: O, (y1, .inl (cs.2.1, 3906, .inl f1)) :: (a0, .inr (12, o0 :: (.ref y1) :: o2 :: o3 :: o4 :: o5 :: o6 :: o7 :: o8 :: o9 :: o10 :: o11 :: o12 :: o13 :: o14 :: (.ref y15) :: (.int y16) :: tl)) :: X) ∧ 0 ≤ r.toInt ∧ r.toInt ≤ 16383 ∧ (r = f1 4 ||| f1 5))) := by
  refine tk_of (by decide) (Nat.le_of_ble_eq_true rfl) (fun p e s m below meth c ls A H locs hx hb hr hml hown hts hlocks hnm hkb hH hS hA hOX hks hE hl => ?_)
  have hown : s.vm.findClass RX12 = some m.cls := hown
  have hl : lv_has ls 1 [(0, .ref a0)] := hl
  have hOXf := hOX
  refine lv_aload_n hx hb dX12_ends_0 rfl (lv_at hl 0 rfl) ?_
  refine x_getk (ci := 12) (C := RX12) (F := TX12) (N := 36) (v := .ref y1) hx hb hts uX12 hown hkb hH 1 rfl rfl 1 (by decide) rfl kw_1224 (fun _ h9 => h9) dX12_ends_1 ?_
  refine lv_iconst (v := 4) hx hb dX12_ends_4 (by decide) ?_
  refine xa_ild hx hb hkb hH 0 rfl (by decide) (by decide) dX12_ends_5 ?_
  refine lv_topi (fun v5 ev5 => ?_)
  have tv5 : v5 = f1 4 := by rw [ev5]; rfl
  have bv5 : 0 ≤ v5.toInt ∧ v5.toInt ≤ 16383 := by rw [ev5]; exact (s_f1.at (by decide) 4).2.2.1 (by decide)
  refine lv_aload_n hx hb dX12_ends_6 rfl (lv_at hl 0 rfl) ?_
  refine x_getk (ci := 12) (C := RX12) (F := TX12) (N := 36) (v := .ref y1) hx hb hts uX12 hown hkb hH 1 rfl rfl 1 (by decide) rfl kw_1224 (fun _ h9 => h9) dX12_ends_7 ?_
  refine lv_iconst (v := 5) hx hb dX12_ends_10 (by decide) ?_
  refine xa_ild hx hb hkb hH 0 rfl (by decide) (by decide) dX12_ends_11 ?_
  refine lv_topi (fun v11 ev11 => ?_)
  have tv11 : v11 = f1 5 := by rw [ev11]; rfl
  have bv11 : 0 ≤ v11.toInt ∧ v11.toInt ≤ 16383 := by rw [ev11]; exact (s_f1.at (by decide) 5).2.2.2.1 (by decide)
  refine lv_ior hx hb dX12_ends_12 ?_
  refine lv_topi (fun v12 ev12 => ?_)
  have tv12 : 0 ≤ v12.toInt ∧ v12.toInt < 16384 := by rw [ev12]; exact or_b 14 (by decide) (by omega) (by omega) (by omega) (by omega)
  exact te_i hx hb hr hlocks hH hS (⟨rfl, by omega, by omega, (by rw [ev12, tv5, tv11])⟩) dX12_ends_13
set_option maxHeartbeats 4000000 in
set_option maxRecDepth 100000 in
theorem s_M_thereSetF (l : Launch) (D : va_G) (cs : CS) (kf : KF) (T : TF) (O : List Nat) (X : va_W) (a0 hg mq : Nat) (f1 : Nat → Int32) (o0 : Value) (y1 : Nat) (o2 : Value) (o3 : Value) (o4 : Value) (o5 : Value) (o6 : Value) (o7 : Value) (o8 : Value) (o9 : Value) (o10 : Value) (o11 : Value) (o12 : Value) (o13 : Value) (o14 : Value) (y15 : Nat) (y16 : Int32) (tl : List Value) (t_a0 : T a0 = some (22, hg, mq)) (b_hg : hg < 90) (s_f1 : B8 3906 f1) (g_f1 : f1 1 = nI (hg / 6) ∧ f1 2 = nI (hg % 6)) (t_y1 : T y1 = some (8, 3906, hg)) (t_y15 : T y15 = some (1, 900, 0)) (hO : okO T (y1 :: a0 :: O) []) : TK l D cs kf yX12_thereSet cX12_thereSet 3 (some (.int)) { frames := 2, cells := 0, slots := 0, locals := 43 } [.ref a0] T (y1 :: a0 :: O) ((y1, .inl (cs.2.1, 3906, .inl f1)) :: (a0, .inr (12, o0 :: (.ref y1) :: o2 :: o3 :: o4 :: o5 :: o6 :: o7 :: o8 :: o9 :: o10 :: o11 :: o12 :: o13 :: o14 :: (.ref y15) :: (.int y16) :: tl)) :: X) (Ti D cs (fun r u => u = (T, y1 :: a0 :: O, (y1, .inl (cs.2.1, 3906, .inl f1)) :: (a0, .inr (12, o0 :: (.ref y1) :: o2 :: o3 :: o4 :: o5 :: o6 :: o7 :: o8 :: o9 :: o10 :: o11 :: o12 :: o13 :: o14 :: (.ref y15) :: (.int y16) :: tl)) :: X) ∧ 0 ≤ r.toInt ∧ r.toInt ≤ 16383 ∧ (r = thS f1 (hg / 6)))) := by
  refine tk_of (by decide) (Nat.le_of_ble_eq_true rfl) (fun p e s m below meth c ls A H locs hx hb hr hml hown hts hlocks hnm hkb hH hS hA hOX hks hE hl => ?_)
  have hown : s.vm.findClass RX12 = some m.cls := hown
  have hl : lv_has ls 3 [(0, .ref a0)] := hl
  have hOXf := hOX
  refine lv_iconst (v := 0) hx hb dX12_thereSet_0 (by decide) ?_
  refine lv_istore_n (lv' := [(1, .int 0), (0, .ref a0)]) hx hb dX12_thereSet_1 rfl hl (by decide) rfl (fun ls hl => ?_)
  refine lv_iconst (v := 0) hx hb dX12_thereSet_2 (by decide) ?_
  have J4 : ∀ (n : Nat) (p4_2 : Int32) (p4_1 : Int32) (H : Heap) (locs : List Loc) (ls : Array Slot), (14 - p4_2.toInt).toNat = n → (0 ≤ p4_2.toInt) → (p4_2.toInt ≤ 14) → (0 ≤ p4_1.toInt) → (p4_1.toInt ≤ 16383) → (p4_1 = thS f1 p4_2.toInt.toNat) → (p4_2.toInt ≤ ((hg / 6 : Nat) : Int)) → HT D cs A T (y1 :: a0 :: O) ((y1, .inl (cs.2.1, 3906, .inl f1)) :: (a0, .inr (12, o0 :: (.ref y1) :: o2 :: o3 :: o4 :: o5 :: o6 :: o7 :: o8 :: o9 :: o10 :: o11 :: o12 :: o13 :: o14 :: (.ref y15) :: (.int y16) :: tl)) :: X) H → va_S A s.heap H locs → lv_has ls 3 [(2, .int p4_2), (1, .int p4_1), (0, .ref a0)] → W p l e { frames := 2, cells := 0, slots := 0, locals := 43 } s m [.ref a0].toArray below meth c H locs 0 0 (MQ below (Ti D cs (fun r u => u = (T, y1 :: a0 :: O, (y1, .inl (cs.2.1, 3906, .inl f1)) :: (a0, .inr (12, o0 :: (.ref y1) :: o2 :: o3 :: o4 :: o5 :: o6 :: o7 :: o8 :: o9 :: o10 :: o11 :: o12 :: o13 :: o14 :: (.ref y15) :: (.int y16) :: tl)) :: X) ∧ 0 ≤ r.toInt ∧ r.toInt ≤ 16383 ∧ (r = thS f1 (hg / 6))) A) [.ref a0].toArray s 0 0 A) (F0 m 4 ls []) := by
    intro n
    induction n using Nat.strongRecOn with
    | _ n ih4 =>
      intro p4_2 p4_1 H locs ls hm4 l_p4_2 u_p4_2 l_p4_1 u_p4_1 i4 j4 hH hS hl
      refine lv_iload_n hx hb dX12_thereSet_4 rfl (lv_at hl 0 rfl) ?_
      refine lv_aload_n hx hb dX12_thereSet_5 rfl (lv_at hl 2 rfl) ?_
      refine x_getk (ci := 12) (C := RX12) (F := TX12) (N := 36) (v := .ref y1) hx hb hts uX12 hown hkb hH 1 rfl rfl 1 (by decide) rfl kw_1224 (fun _ h9 => h9) dX12_thereSet_6 ?_
      refine lv_iconst (v := 1) hx hb dX12_thereSet_9 (by decide) ?_
      refine xa_ild hx hb hkb hH 0 rfl (by decide) (by decide) dX12_thereSet_10 ?_
      refine lv_topi (fun v10 ev10 => ?_)
      have tv10 : v10 = f1 1 := by rw [ev10]; rfl
      have bv10 : 0 ≤ v10.toInt ∧ v10.toInt ≤ 14 := by rw [ev10]; exact (s_f1.at (by decide) 1).1 (by decide)
      have hv10 : v10.toInt = ((hg / 6 : Nat) : Int) := by rw [tv10, g_f1.1]; exact nI_toInt (by omega)
      refine lv_icmp_ge (tgt := 38) hx hb dX12_thereSet_11 (by decide) (fun c11 => ?_) (fun c11 => ?_)
      · skip
        have fuc11 := full_i p4_2
        have fvc11 := full_i v10
        have tc11 := g_le c11
        refine lv_iload_n hx hb dX12_thereSet_38 rfl (lv_at hl 1 rfl) ?_
        exact te_i hx hb hr hlocks hH hS (⟨rfl, by omega, by omega, (by rw [i4, show p4_2.toInt.toNat = hg / 6 by omega])⟩) dX12_thereSet_39
      · skip
        have fuc11 := full_i p4_2
        have fvc11 := full_i v10
        have tc11 := g_nle c11
        refine lv_iload_n hx hb dX12_thereSet_14 rfl (lv_at hl 1 rfl) ?_
        refine lv_aload_n hx hb dX12_thereSet_15 rfl (lv_at hl 2 rfl) ?_
        refine lv_iload_n hx hb dX12_thereSet_16 rfl (lv_at hl 0 rfl) ?_
        refine tk_i hH hS hA (tr_V (n := 1) (As := [.int p4_2]) hx hb hml hown hts hkb hH (ox_map hOX rfl) hks hE hS hA (s_M_isThereF l D cs kf T O X a0 hg mq p4_2 f1 o0 y1 o2 o3 o4 o5 o6 o7 o8 o9 o10 o11 o12 o13 o14 y15 y16 tl t_a0 b_hg (by omega) (by omega) s_f1 g_f1 t_y1 t_y15 (hO.sub (by decide))) kw_1458 kw_1460 ks_65 kw_13 kw_1461 (by decide +kernel) ⟨Nat.le_of_ble_eq_true rfl, Nat.le_of_ble_eq_true rfl⟩ (x_recv (ci := 12) hkb hH 1 rfl rfl) rfl rfl hl.1 (Nat.le_of_ble_eq_true rfl) dX12_thereSet_17 ⟨Nat.le_of_ble_eq_true rfl, Nat.le_of_ble_eq_true rfl⟩) (fun v17 u H locs hz9 hH hS => ?_)
        obtain ⟨rfl, l_v17, u_v17, x_v170⟩ := hz9
        have hH : HT D cs A T (y1 :: a0 :: O) ((y1, .inl (cs.2.1, 3906, .inl f1)) :: (a0, .inr (12, o0 :: (.ref y1) :: o2 :: o3 :: o4 :: o5 :: o6 :: o7 :: o8 :: o9 :: o10 :: o11 :: o12 :: o13 :: o14 :: (.ref y15) :: (.int y16) :: tl)) :: X) H := hH
        refine W.widen (k := 0) (n := 0) (Nat.le_of_ble_eq_true rfl) (Nat.le_of_ble_eq_true rfl) ?_
        refine lv_if_eq (tgt := 29) hx hb dX12_thereSet_20 (by decide) (fun c20 => ?_) (fun c20 => ?_)
        · skip
          have tc20 := f_eq (k := 0) (by decide) c20
          refine lv_iconst (v := 0) hx hb dX12_thereSet_29 (by decide) ?_
          refine lv_ior hx hb dX12_thereSet_30 ?_
          refine lv_topi (fun v30 ev30 => ?_)
          have tv30 : 0 ≤ v30.toInt ∧ v30.toInt < 16384 := by rw [ev30]; exact or_b 14 (by decide) (by omega) (by decide) (by omega) (by decide)
          refine lv_istore_n (lv' := [(1, .int v30), (2, .int p4_2), (0, .ref a0)]) hx hb dX12_thereSet_31 rfl hl (by decide) rfl (fun ls hl => ?_)
          obtain ⟨v32, ev32⟩ : ∃ y : Int32, y = p4_2 + 1 := ⟨_, rfl⟩
          have tv32 : v32.toInt = p4_2.toInt + (1) := by rw [ev32]; exact add_i rfl (by decide) (by omega) (by omega)
          refine lv_iinc (v := v32) (lv' := [(2, .int v32), (1, .int v30), (0, .ref a0)]) hx hb dX12_thereSet_32 hl (k := 1) rfl (by rw [ev32]; rfl) (by decide) rfl (fun ls hl => ?_)
          refine lv_goto (tgt := 4) hx hb dX12_thereSet_35 (by decide) ?_
          exact ih4 _ (by omega) v32 v30 _ _ _ rfl (by omega) (by omega) (by omega) (by omega) (by first | (refine thS_n i4 ?_ x_v170 (Or.inr ⟨?_, ev25⟩) ev30 tv32 <;> omega) | (refine thS_n i4 ?_ x_v170 (Or.inl ⟨?_, rfl⟩) ev30 tv32 <;> omega) | (rw [show ((0 : Int32).toInt.toNat) = 0 by decide]; rfl)) (by omega) hH hS (lv_sub hl [0, 1, 2] rfl)
        · skip
          have tc20 := f_ne (k := 0) (by decide) c20
          refine lv_iconst (v := 1) hx hb dX12_thereSet_23 (by decide) ?_
          refine lv_iload_n hx hb dX12_thereSet_24 rfl (lv_at hl 0 rfl) ?_
          refine lv_ishl hx hb dX12_thereSet_25 ?_
          refine lv_topi (fun v25 ev25 => ?_)
          have tv25 : 1 ≤ v25.toInt ∧ v25.toInt ≤ 8192 := by rw [ev25]; exact shl_b 13 (by decide) (by omega) (by omega)
          refine lv_goto (tgt := 30) hx hb dX12_thereSet_26 (by decide) ?_
          refine lv_ior hx hb dX12_thereSet_30 ?_
          refine lv_topi (fun v30 ev30 => ?_)
          have tv30 : 0 ≤ v30.toInt ∧ v30.toInt < 16384 := by rw [ev30]; exact or_b 14 (by decide) (by omega) (by omega) (by omega) (by omega)
          refine lv_istore_n (lv' := [(1, .int v30), (2, .int p4_2), (0, .ref a0)]) hx hb dX12_thereSet_31 rfl hl (by decide) rfl (fun ls hl => ?_)
          obtain ⟨v32, ev32⟩ : ∃ y : Int32, y = p4_2 + 1 := ⟨_, rfl⟩
          have tv32 : v32.toInt = p4_2.toInt + (1) := by rw [ev32]; exact add_i rfl (by decide) (by omega) (by omega)
          refine lv_iinc (v := v32) (lv' := [(2, .int v32), (1, .int v30), (0, .ref a0)]) hx hb dX12_thereSet_32 hl (k := 1) rfl (by rw [ev32]; rfl) (by decide) rfl (fun ls hl => ?_)
          refine lv_goto (tgt := 4) hx hb dX12_thereSet_35 (by decide) ?_
          exact ih4 _ (by omega) v32 v30 _ _ _ rfl (by omega) (by omega) (by omega) (by omega) (by first | (refine thS_n i4 ?_ x_v170 (Or.inr ⟨?_, ev25⟩) ev30 tv32 <;> omega) | (refine thS_n i4 ?_ x_v170 (Or.inl ⟨?_, rfl⟩) ev30 tv32 <;> omega) | (rw [show ((0 : Int32).toInt.toNat) = 0 by decide]; rfl)) (by omega) hH hS (lv_sub hl [0, 1, 2] rfl)
  refine lv_istore_n (lv' := [(2, .int 0), (1, .int 0), (0, .ref a0)]) hx hb dX12_thereSet_3 rfl hl (by decide) rfl (fun ls hl => ?_)
  have z_0 : (0 : Int32).toInt = 0 := by decide
  exact J4 _ 0 0 _ _ _ rfl (by decide) (by decide) (by decide) (by decide) (by first | (refine thS_n i4 ?_ x_v170 (Or.inr ⟨?_, ev25⟩) ev30 tv32 <;> omega) | (refine thS_n i4 ?_ x_v170 (Or.inl ⟨?_, rfl⟩) ev30 tv32 <;> omega) | (rw [show ((0 : Int32).toInt.toNat) = 0 by decide]; rfl)) (by omega) hH hS (lv_sub hl [0, 1, 2] rfl)
set_option maxHeartbeats 4000000 in
set_option maxRecDepth 100000 in
theorem s_M_isSetOfX (l : Launch) (D : va_G) (cs : CS) (kf : KF) (T : TF) (O : List Nat) (X : va_W) (a0 hg mq : Nat) (x1 : Int32) (f1 : Nat → Int32) (o0 : Value) (y1 : Nat) (o2 : Value) (o3 : Value) (o4 : Value) (o5 : Value) (o6 : Value) (o7 : Value) (o8 : Value) (o9 : Value) (o10 : Value) (o11 : Value) (o12 : Value) (o13 : Value) (o14 : Value) (y15 : Nat) (y16 : Int32) (tl : List Value) (t_a0 : T a0 = some (22, hg, mq)) (b_hg : hg < 90) (s_f1 : B8 3906 f1) (g_f1 : f1 1 = nI (hg / 6) ∧ f1 2 = nI (hg % 6)) (t_y1 : T y1 = some (8, 3906, hg)) (t_y15 : T y15 = some (1, 900, 0)) (hO : okO T (y1 :: a0 :: O) []) : TK l D cs kf yX12_isSetOf cX12_isSetOf 2 (some (.boolean)) { frames := 3, cells := 0, slots := 0, locals := 65 } [.ref a0, .int x1] T (y1 :: a0 :: O) ((y1, .inl (cs.2.1, 3906, .inl f1)) :: (a0, .inr (12, o0 :: (.ref y1) :: o2 :: o3 :: o4 :: o5 :: o6 :: o7 :: o8 :: o9 :: o10 :: o11 :: o12 :: o13 :: o14 :: (.ref y15) :: (.int y16) :: tl)) :: X) (Ti D cs (fun r u => u = (T, y1 :: a0 :: O, (y1, .inl (cs.2.1, 3906, .inl f1)) :: (a0, .inr (12, o0 :: (.ref y1) :: o2 :: o3 :: o4 :: o5 :: o6 :: o7 :: o8 :: o9 :: o10 :: o11 :: o12 :: o13 :: o14 :: (.ref y15) :: (.int y16) :: tl)) :: X) ∧ 0 ≤ r.toInt ∧ r.toInt ≤ 1 ∧ (r.toInt = 0 ∨ (0 ≤ x1.toInt ∧ x1.toInt ≤ 16383)))) := by
  refine tk_of (by decide) (Nat.le_of_ble_eq_true rfl) (fun p e s m below meth c ls A H locs hx hb hr hml hown hts hlocks hnm hkb hH hS hA hOX hks hE hl => ?_)
  have hown : s.vm.findClass RX12 = some m.cls := hown
  have hl : lv_has ls 2 [(0, .ref a0), (1, .int x1)] := hl
  have hOXf := hOX
  refine lv_iload_n hx hb dX12_isSetOf_0 rfl (lv_at hl 1 rfl) ?_
  refine lv_aload_n hx hb dX12_isSetOf_1 rfl (lv_at hl 0 rfl) ?_
  refine tk_i hH hS hA (tr_V (n := 0) (As := []) hx hb hml hown hts hkb hH (ox_map hOX rfl) hks hE hS hA (s_M_thereSetF l D cs kf T O X a0 hg mq f1 o0 y1 o2 o3 o4 o5 o6 o7 o8 o9 o10 o11 o12 o13 o14 y15 y16 tl t_a0 b_hg s_f1 g_f1 t_y1 t_y15 (hO.sub (by decide))) kw_1724 kw_1726 ks_99 kw_13 kw_1727 (by decide +kernel) ⟨Nat.le_of_ble_eq_true rfl, Nat.le_of_ble_eq_true rfl⟩ (x_recv (ci := 12) hkb hH 1 rfl rfl) rfl rfl hl.1 (Nat.le_of_ble_eq_true rfl) dX12_isSetOf_2 ⟨Nat.le_of_ble_eq_true rfl, Nat.le_of_ble_eq_true rfl⟩) (fun v2 u H locs hz9 hH hS => ?_)
  obtain ⟨rfl, l_v2, u_v2, x_v20⟩ := hz9
  have hH : HT D cs A T (y1 :: a0 :: O) ((y1, .inl (cs.2.1, 3906, .inl f1)) :: (a0, .inr (12, o0 :: (.ref y1) :: o2 :: o3 :: o4 :: o5 :: o6 :: o7 :: o8 :: o9 :: o10 :: o11 :: o12 :: o13 :: o14 :: (.ref y15) :: (.int y16) :: tl)) :: X) H := hH
  refine W.widen (k := 0) (n := 0) (Nat.le_of_ble_eq_true rfl) (Nat.le_of_ble_eq_true rfl) ?_
  refine lv_aload_n hx hb dX12_isSetOf_5 rfl (lv_at hl 0 rfl) ?_
  refine tk_i hH hS hA (tr_V (n := 0) (As := []) hx hb hml hown hts hkb hH (ox_map hOX rfl) hks hE hS hA (s_M_endsF l D cs kf T O X a0 hg mq f1 o0 y1 o2 o3 o4 o5 o6 o7 o8 o9 o10 o11 o12 o13 o14 y15 y16 tl t_a0 b_hg s_f1 g_f1 t_y1 t_y15 (hO.sub (by decide))) kw_1536 kw_1538 ks_78 kw_13 kw_1539 (by decide +kernel) ⟨Nat.le_of_ble_eq_true rfl, Nat.le_of_ble_eq_true rfl⟩ (x_recv (ci := 12) hkb hH 1 rfl rfl) rfl rfl hl.1 (Nat.le_of_ble_eq_true rfl) dX12_isSetOf_6 ⟨Nat.le_of_ble_eq_true rfl, Nat.le_of_ble_eq_true rfl⟩) (fun v6 u H locs hz9 hH hS => ?_)
  obtain ⟨rfl, l_v6, u_v6, x_v60⟩ := hz9
  have hH : HT D cs A T (y1 :: a0 :: O) ((y1, .inl (cs.2.1, 3906, .inl f1)) :: (a0, .inr (12, o0 :: (.ref y1) :: o2 :: o3 :: o4 :: o5 :: o6 :: o7 :: o8 :: o9 :: o10 :: o11 :: o12 :: o13 :: o14 :: (.ref y15) :: (.int y16) :: tl)) :: X) H := hH
  refine W.widen (k := 0) (n := 0) (Nat.le_of_ble_eq_true rfl) (Nat.le_of_ble_eq_true rfl) ?_
  refine lv_iconst (v := (-1)) hx hb dX12_isSetOf_9 (by decide) ?_
  refine lv_ixor hx hb dX12_isSetOf_10 ?_
  refine lv_topi (fun v10 ev10 => ?_)
  refine lv_iand hx hb dX12_isSetOf_11 ?_
  refine lv_topi (fun v11 ev11 => ?_)
  have tv11 : 0 ≤ v11.toInt ∧ v11.toInt ≤ v2.toInt := by rw [ev11]; exact and_l (by omega)
  refine lv_iconst (v := (-1)) hx hb dX12_isSetOf_12 (by decide) ?_
  refine lv_ixor hx hb dX12_isSetOf_13 ?_
  refine lv_topi (fun v13 ev13 => ?_)
  refine lv_iand hx hb dX12_isSetOf_14 ?_
  refine lv_topi (fun v14 ev14 => ?_)
  refine lv_if_ne (tgt := 22) hx hb dX12_isSetOf_15 (by decide) (fun c15 => ?_) (fun c15 => ?_)
  · skip
    have tc15 := f_ne (k := 0) (by decide) c15
    refine lv_iconst (v := 0) hx hb dX12_isSetOf_22 (by decide) ?_
    have z9_0 : (0 : Int32).toInt = 0 := by decide
    exact te_z hx hb hr hlocks (by rfl) hH hS (⟨rfl, by decide, by decide, (Or.inl (by decide))⟩) dX12_isSetOf_23
  · skip
    have tc15 := f_eq (k := 0) (by decide) c15
    refine lv_iconst (v := 1) hx hb dX12_isSetOf_18 (by decide) ?_
    refine lv_goto (tgt := 23) hx hb dX12_isSetOf_19 (by decide) ?_
    have z9_1 : (1 : Int32).toInt = 1 := by decide
    exact te_z hx hb hr hlocks (by rfl) hH hS (⟨rfl, by decide, by decide, (Or.inr (by have q9 := sub_lim ev13 ev14 (by omega) (by omega); omega))⟩) dX12_isSetOf_23
set_option maxHeartbeats 4000000 in
set_option maxRecDepth 100000 in
theorem s_M_moreByX (l : Launch) (D : va_G) (cs : CS) (kf : KF) (T : TF) (O : List Nat) (X : va_W) (a0 hg mq : Nat) (x1 : Int32) (x2 : Int32) (f1 : Nat → Int32) (o0 : Value) (y1 : Nat) (o2 : Value) (o3 : Value) (o4 : Value) (o5 : Value) (o6 : Value) (o7 : Value) (o8 : Value) (o9 : Value) (o10 : Value) (o11 : Value) (o12 : Value) (o13 : Value) (o14 : Value) (y15 : Nat) (y16 : Int32) (y17 : Nat) (o18 : Value) (o19 : Value) (o20 : Value) (o21 : Value) (o22 : Value) (o23 : Value) (o24 : Value) (o25 : Value) (o26 : Value) (o27 : Value) (y28 : Nat) (tl : List Value) (f28 : Nat → Int32) (f17 : Nat → Int32) (t_a0 : T a0 = some (22, hg, mq)) (b_hg : hg < 90) (l_x1 : 0 ≤ x1.toInt) (u_x1 : x1.toInt ≤ 16383) (l_x2 : 0 ≤ x2.toInt) (u_x2 : x2.toInt ≤ 13) (s_f1 : B8 3906 f1) (g_f1 : f1 1 = nI (hg / 6) ∧ f1 2 = nI (hg % 6)) (t_y1 : T y1 = some (8, 3906, hg)) (t_y15 : T y15 = some (1, 900, 0)) (t_y17 : T y17 = some (9, 14, 1)) (t_y28 : T y28 = some (0, 229376, 0)) (hO : okO T (y1 :: a0 :: y28 :: y17 :: O) []) : TK l D cs kf yX12_moreBy cX12_moreBy 3 (some (.int)) { frames := 0, cells := 0, slots := 0, locals := 0 } [.ref a0, .int x1, .int x2] T (y1 :: a0 :: y28 :: y17 :: O) ((y1, .inl (cs.2.1, 3906, .inl f1)) :: (a0, .inr (12, o0 :: (.ref y1) :: o2 :: o3 :: o4 :: o5 :: o6 :: o7 :: o8 :: o9 :: o10 :: o11 :: o12 :: o13 :: o14 :: (.ref y15) :: (.int y16) :: (.ref y17) :: o18 :: o19 :: o20 :: o21 :: o22 :: o23 :: o24 :: o25 :: o26 :: o27 :: (.ref y28) :: tl)) :: (y28, .inl (cs.1, 229376, .inl f28)) :: (y17, .inl (cs.2.1, 14, .inl f17)) :: X) (Ti D cs (fun r u => u = (T, y1 :: a0 :: y28 :: y17 :: O, (y1, .inl (cs.2.1, 3906, .inl f1)) :: (a0, .inr (12, o0 :: (.ref y1) :: o2 :: o3 :: o4 :: o5 :: o6 :: o7 :: o8 :: o9 :: o10 :: o11 :: o12 :: o13 :: o14 :: (.ref y15) :: (.int y16) :: (.ref y17) :: o18 :: o19 :: o20 :: o21 :: o22 :: o23 :: o24 :: o25 :: o26 :: o27 :: (.ref y28) :: tl)) :: (y28, .inl (cs.1, 229376, .inl f28)) :: (y17, .inl (cs.2.1, 14, .inl f17)) :: X) ∧ (r = f28 (14 * x1.toInt.toNat + x2.toInt.toNat)))) := by
  refine tk_of (by decide) (Nat.le_of_ble_eq_true rfl) (fun p e s m below meth c ls A H locs hx hb hr hml hown hts hlocks hnm hkb hH hS hA hOX hks hE hl => ?_)
  have hown : s.vm.findClass RX12 = some m.cls := hown
  have hl : lv_has ls 3 [(0, .ref a0), (1, .int x1), (2, .int x2)] := hl
  have hOXf := hOX
  refine lv_aload_n hx hb dX12_moreBy_0 rfl (lv_at hl 0 rfl) ?_
  refine x_getk (ci := 12) (C := RX12) (F := TX12) (N := 36) (v := .ref y28) hx hb hts uX12 hown hkb hH 1 rfl rfl 28 (by decide) rfl kw_1251 (fun _ h9 => h9) dX12_moreBy_1 ?_
  refine lv_bipush (v := 14) hx hb dX12_moreBy_4 (by decide) ?_
  refine lv_iload_n hx hb dX12_moreBy_6 rfl (lv_at hl 1 rfl) ?_
  refine lv_imul hx hb dX12_moreBy_7 ?_
  refine lv_topi (fun v7 ev7 => ?_)
  have tv7 : v7.toInt = (14) * x1.toInt := by rw [ev7]; exact mul_i (by decide : (14 : Int32).toInt = 14) rfl (by omega) (by omega)
  refine lv_iload_n hx hb dX12_moreBy_8 rfl (lv_at hl 2 rfl) ?_
  refine lv_iadd hx hb dX12_moreBy_9 ?_
  refine lv_topi (fun v9 ev9 => ?_)
  have tv9 : v9.toInt = v7.toInt + x2.toInt := by rw [ev9]; exact add_i rfl rfl (by omega) (by omega)
  refine xa_bld hx hb hkb hH 2 rfl (by omega) (by omega) dX12_moreBy_10 ?_
  refine lv_topi (fun v10 ev10 => ?_)
  have tv10 : v10 = f28 v9.toInt.toNat := ev10
  exact te_i hx hb hr hlocks hH hS (⟨rfl, (by rw [tv10, show v9.toInt.toNat = 14 * x1.toInt.toNat + x2.toInt.toNat by omega])⟩) dX12_moreBy_11
set_option maxHeartbeats 4000000 in
set_option maxRecDepth 100000 in
theorem s_M_laysStepsX (l : Launch) (D : va_G) (cs : CS) (kf : KF) (T : TF) (O : List Nat) (X : va_W) (a0 hg mq : Nat) (x1 : Int32) (x2 : Int32) (f1 : Nat → Int32) (o0 : Value) (y1 : Nat) (o2 : Value) (o3 : Value) (o4 : Value) (o5 : Value) (o6 : Value) (o7 : Value) (o8 : Value) (o9 : Value) (o10 : Value) (o11 : Value) (o12 : Value) (o13 : Value) (o14 : Value) (y15 : Nat) (y16 : Int32) (y17 : Nat) (o18 : Value) (o19 : Value) (o20 : Value) (o21 : Value) (o22 : Value) (o23 : Value) (o24 : Value) (o25 : Value) (o26 : Value) (o27 : Value) (y28 : Nat) (tl : List Value) (f28 : Nat → Int32) (f17 : Nat → Int32) (t_a0 : T a0 = some (22, hg, mq)) (b_hg : hg < 90) (l_x1 : 0 ≤ x1.toInt) (u_x1 : x1.toInt ≤ 4) (s_f1 : B8 3906 f1) (g_f1 : f1 1 = nI (hg / 6) ∧ f1 2 = nI (hg % 6)) (t_y1 : T y1 = some (8, 3906, hg)) (t_y15 : T y15 = some (1, 900, 0)) (t_y17 : T y17 = some (9, 14, 1)) (t_y28 : T y28 = some (0, 229376, 0)) (c_f17 : ∀ j, cp 1 (f17 j)) (hO : okO T (y1 :: a0 :: y28 :: y17 :: O) [1]) : TK l D cs kf yX12_laysSteps cX12_laysSteps 5 none { frames := 3, cells := 0, slots := 0, locals := 74 } [.ref a0, .int x1, .int x2] T (y1 :: a0 :: y28 :: y17 :: O) ((y1, .inl (cs.2.1, 3906, .inl f1)) :: (a0, .inr (12, o0 :: (.ref y1) :: o2 :: o3 :: o4 :: o5 :: o6 :: o7 :: o8 :: o9 :: o10 :: o11 :: o12 :: o13 :: o14 :: (.ref y15) :: (.int y16) :: (.ref y17) :: o18 :: o19 :: o20 :: o21 :: o22 :: o23 :: o24 :: o25 :: o26 :: o27 :: (.ref y28) :: tl)) :: (y28, .inl (cs.1, 229376, .inl f28)) :: (y17, .inl (cs.2.1, 14, .inl f17)) :: X) (Tv D cs (fun u => ∃ (n1_16 : Int32) (G3 : Nat → Int32), u = (T, y1 :: a0 :: y28 :: y17 :: O, (y1, .inl (cs.2.1, 3906, .inl f1)) :: (a0, .inr (12, o0 :: (.ref y1) :: o2 :: o3 :: o4 :: o5 :: o6 :: o7 :: o8 :: o9 :: o10 :: o11 :: o12 :: o13 :: o14 :: (.ref y15) :: (.int n1_16) :: (.ref y17) :: o18 :: o19 :: o20 :: o21 :: o22 :: o23 :: o24 :: o25 :: o26 :: o27 :: (.ref y28) :: tl)) :: (y28, .inl (cs.1, 229376, .inl f28)) :: (y17, .inl (cs.2.1, 14, .inl G3)) :: X) ∧ (∀ j, cp 1 (G3 j)))) := by
  refine tk_of (by decide) (Nat.le_of_ble_eq_true rfl) (fun p e s m below meth c ls A H locs hx hb hr hml hown hts hlocks hnm hkb hH hS hA hOX hks hE hl => ?_)
  have hown : s.vm.findClass RX12 = some m.cls := hown
  have hl : lv_has ls 5 [(0, .ref a0), (1, .int x1), (2, .int x2)] := hl
  have hOXf := hOX
  refine lv_aload_n hx hb dX12_laysSteps_0 rfl (lv_at hl 0 rfl) ?_
  refine lv_iload_n hx hb dX12_laysSteps_1 rfl (lv_at hl 2 rfl) ?_
  refine x_putk (ci := 12) (v := .int x2) (ty := tyX12 16) (C := RX12) (F := TX12) (N := 36) hx hb hts uX12 tyX12 tyX12_ok nmX12 hown hkb hH hS 1 rfl rfl 16 (by decide) kw_1239 (fun _ h9 => h9) rfl (tyX12_ok 16 (by decide)) rfl rfl (by show 16 < tl.length + 29; omega) dX12_laysSteps_2 (fun H locs hH hS => ?_)
  have hH : HT D cs A T (y1 :: a0 :: y28 :: y17 :: O) ((y1, .inl (cs.2.1, 3906, .inl f1)) :: (a0, .inr (12, o0 :: (.ref y1) :: o2 :: o3 :: o4 :: o5 :: o6 :: o7 :: o8 :: o9 :: o10 :: o11 :: o12 :: o13 :: o14 :: (.ref y15) :: (.int x2) :: (.ref y17) :: o18 :: o19 :: o20 :: o21 :: o22 :: o23 :: o24 :: o25 :: o26 :: o27 :: (.ref y28) :: tl)) :: (y28, .inl (cs.1, 229376, .inl f28)) :: (y17, .inl (cs.2.1, 14, .inl f17)) :: X) H := hH
  refine lv_iconst (v := 0) hx hb dX12_laysSteps_5 (by decide) ?_
  have J7 : ∀ (n : Nat) (p7_3 : Int32) (g7_3 : Nat → Int32) (H : Heap) (locs : List Loc) (ls : Array Slot), (14 - p7_3.toInt).toNat = n → (0 ≤ p7_3.toInt) → (p7_3.toInt ≤ 14) → (∀ j, cp 1 (g7_3 j)) → HT D cs A T (y1 :: a0 :: y28 :: y17 :: O) ((y1, .inl (cs.2.1, 3906, .inl f1)) :: (a0, .inr (12, o0 :: (.ref y1) :: o2 :: o3 :: o4 :: o5 :: o6 :: o7 :: o8 :: o9 :: o10 :: o11 :: o12 :: o13 :: o14 :: (.ref y15) :: (.int x2) :: (.ref y17) :: o18 :: o19 :: o20 :: o21 :: o22 :: o23 :: o24 :: o25 :: o26 :: o27 :: (.ref y28) :: tl)) :: (y28, .inl (cs.1, 229376, .inl f28)) :: (y17, .inl (cs.2.1, 14, .inl g7_3)) :: X) H → va_S A s.heap H locs → lv_has ls 5 [(3, .int p7_3), (0, .ref a0), (1, .int x1)] → W p l e { frames := 3, cells := 0, slots := 0, locals := 74 } s m [.ref a0, .int x1, .int x2].toArray below meth c H locs 0 0 (MQ below (Tv D cs (fun u => ∃ (n1_16 : Int32) (G3 : Nat → Int32), u = (T, y1 :: a0 :: y28 :: y17 :: O, (y1, .inl (cs.2.1, 3906, .inl f1)) :: (a0, .inr (12, o0 :: (.ref y1) :: o2 :: o3 :: o4 :: o5 :: o6 :: o7 :: o8 :: o9 :: o10 :: o11 :: o12 :: o13 :: o14 :: (.ref y15) :: (.int n1_16) :: (.ref y17) :: o18 :: o19 :: o20 :: o21 :: o22 :: o23 :: o24 :: o25 :: o26 :: o27 :: (.ref y28) :: tl)) :: (y28, .inl (cs.1, 229376, .inl f28)) :: (y17, .inl (cs.2.1, 14, .inl G3)) :: X) ∧ (∀ j, cp 1 (G3 j))) A) [.ref a0, .int x1, .int x2].toArray s 0 0 A) (F0 m 7 ls []) := by
    intro n
    induction n using Nat.strongRecOn with
    | _ n ih7 =>
      intro p7_3 g7_3 H locs ls hm7 l_p7_3 u_p7_3 c7 hH hS hl
      refine lv_iload_n hx hb dX12_laysSteps_7 rfl (lv_at hl 0 rfl) ?_
      refine lv_aload_n hx hb dX12_laysSteps_8 rfl (lv_at hl 1 rfl) ?_
      refine x_getk (ci := 12) (C := RX12) (F := TX12) (N := 36) (v := .ref y1) hx hb hts uX12 hown hkb hH 1 rfl rfl 1 (by decide) rfl kw_1224 (fun _ h9 => h9) dX12_laysSteps_9 ?_
      refine lv_iconst (v := 1) hx hb dX12_laysSteps_12 (by decide) ?_
      refine xa_ild hx hb hkb hH 0 rfl (by decide) (by decide) dX12_laysSteps_13 ?_
      refine lv_topi (fun v13 ev13 => ?_)
      have tv13 : v13 = f1 1 := by rw [ev13]; rfl
      have bv13 : 0 ≤ v13.toInt ∧ v13.toInt ≤ 14 := by rw [ev13]; exact (s_f1.at (by decide) 1).1 (by decide)
      have hv13 : v13.toInt = ((hg / 6 : Nat) : Int) := by rw [tv13, g_f1.1]; exact nI_toInt (by omega)
      refine lv_icmp_ge (tgt := 94) hx hb dX12_laysSteps_14 (by decide) (fun c14 => ?_) (fun c14 => ?_)
      · skip
        have fuc14 := full_i p7_3
        have fvc14 := full_i v13
        have tc14 := g_le c14
        exact te_v hx hb hr hlocks hH hS (⟨x2, g7_3, rfl, c7⟩) dX12_laysSteps_94
      · skip
        have fuc14 := full_i p7_3
        have fvc14 := full_i v13
        have tc14 := g_nle c14
        refine lv_aload_n hx hb dX12_laysSteps_17 rfl (lv_at hl 1 rfl) ?_
        refine x_getk (ci := 12) (C := RX12) (F := TX12) (N := 36) (v := .ref y17) hx hb hts uX12 hown hkb hH 1 rfl rfl 17 (by decide) rfl kw_1240 (fun _ h9 => h9) dX12_laysSteps_18 ?_
        refine lv_iload_n hx hb dX12_laysSteps_21 rfl (lv_at hl 0 rfl) ?_
        refine lv_iconst (v := 0) hx hb dX12_laysSteps_22 (by decide) ?_
        refine xa_ist hx hb hkb hH hS 3 rfl (by omega) (by omega) dX12_laysSteps_23 (fun H locs hH hS => ?_)
        have hH : HT D cs A T (y1 :: a0 :: y28 :: y17 :: O) ((y1, .inl (cs.2.1, 3906, .inl f1)) :: (a0, .inr (12, o0 :: (.ref y1) :: o2 :: o3 :: o4 :: o5 :: o6 :: o7 :: o8 :: o9 :: o10 :: o11 :: o12 :: o13 :: o14 :: (.ref y15) :: (.int x2) :: (.ref y17) :: o18 :: o19 :: o20 :: o21 :: o22 :: o23 :: o24 :: o25 :: o26 :: o27 :: (.ref y28) :: tl)) :: (y28, .inl (cs.1, 229376, .inl f28)) :: (y17, .inl (cs.2.1, 14, .inl (upd g7_3 (p7_3.toInt.toNat) (0 : Int32)))) :: X) H := hH
        obtain ⟨F23, eF23⟩ : ∃ f9, f9 = upd g7_3 (p7_3.toInt.toNat) (0 : Int32) := ⟨_, rfl⟩
        have hH : HT D cs A T (y1 :: a0 :: y28 :: y17 :: O) ((y1, .inl (cs.2.1, 3906, .inl f1)) :: (a0, .inr (12, o0 :: (.ref y1) :: o2 :: o3 :: o4 :: o5 :: o6 :: o7 :: o8 :: o9 :: o10 :: o11 :: o12 :: o13 :: o14 :: (.ref y15) :: (.int x2) :: (.ref y17) :: o18 :: o19 :: o20 :: o21 :: o22 :: o23 :: o24 :: o25 :: o26 :: o27 :: (.ref y28) :: tl)) :: (y28, .inl (cs.1, 229376, .inl f28)) :: (y17, .inl (cs.2.1, 14, .inl F23)) :: X) H := eF23 ▸ hH
        refine lv_iconst (v := 0) hx hb dX12_laysSteps_24 (by decide) ?_
        have J27 : ∀ (n : Nat) (p27_4 : Int32) (g27_3 : Nat → Int32) (H : Heap) (locs : List Loc) (ls : Array Slot), (14 - p27_4.toInt).toNat = n → (0 ≤ p27_4.toInt) → (p27_4.toInt ≤ 14) → (∀ j, cp 1 (g27_3 j)) → HT D cs A T (y1 :: a0 :: y28 :: y17 :: O) ((y1, .inl (cs.2.1, 3906, .inl f1)) :: (a0, .inr (12, o0 :: (.ref y1) :: o2 :: o3 :: o4 :: o5 :: o6 :: o7 :: o8 :: o9 :: o10 :: o11 :: o12 :: o13 :: o14 :: (.ref y15) :: (.int x2) :: (.ref y17) :: o18 :: o19 :: o20 :: o21 :: o22 :: o23 :: o24 :: o25 :: o26 :: o27 :: (.ref y28) :: tl)) :: (y28, .inl (cs.1, 229376, .inl f28)) :: (y17, .inl (cs.2.1, 14, .inl g27_3)) :: X) H → va_S A s.heap H locs → lv_has ls 5 [(4, .int p27_4), (3, .int p7_3), (0, .ref a0), (1, .int x1)] → W p l e { frames := 3, cells := 0, slots := 0, locals := 74 } s m [.ref a0, .int x1, .int x2].toArray below meth c H locs 0 0 (MQ below (Tv D cs (fun u => ∃ (n1_16 : Int32) (G3 : Nat → Int32), u = (T, y1 :: a0 :: y28 :: y17 :: O, (y1, .inl (cs.2.1, 3906, .inl f1)) :: (a0, .inr (12, o0 :: (.ref y1) :: o2 :: o3 :: o4 :: o5 :: o6 :: o7 :: o8 :: o9 :: o10 :: o11 :: o12 :: o13 :: o14 :: (.ref y15) :: (.int n1_16) :: (.ref y17) :: o18 :: o19 :: o20 :: o21 :: o22 :: o23 :: o24 :: o25 :: o26 :: o27 :: (.ref y28) :: tl)) :: (y28, .inl (cs.1, 229376, .inl f28)) :: (y17, .inl (cs.2.1, 14, .inl G3)) :: X) ∧ (∀ j, cp 1 (G3 j))) A) [.ref a0, .int x1, .int x2].toArray s 0 0 A) (F0 m 27 ls []) := by
          intro n
          induction n using Nat.strongRecOn with
          | _ n ih27 =>
            intro p27_4 g27_3 H locs ls hm27 l_p27_4 u_p27_4 c27 hH hS hl
            refine lv_iload hx hb dX12_laysSteps_27 (lv_at hl 0 rfl) ?_
            refine lv_aload_n hx hb dX12_laysSteps_29 rfl (lv_at hl 2 rfl) ?_
            refine x_getk (ci := 12) (C := RX12) (F := TX12) (N := 36) (v := .ref y1) hx hb hts uX12 hown hkb hH 1 rfl rfl 1 (by decide) rfl kw_1224 (fun _ h9 => h9) dX12_laysSteps_30 ?_
            refine lv_iconst (v := 1) hx hb dX12_laysSteps_33 (by decide) ?_
            refine xa_ild hx hb hkb hH 0 rfl (by decide) (by decide) dX12_laysSteps_34 ?_
            refine lv_topi (fun v34 ev34 => ?_)
            have tv34 : v34 = f1 1 := by rw [ev34]; rfl
            have bv34 : 0 ≤ v34.toInt ∧ v34.toInt ≤ 14 := by rw [ev34]; exact (s_f1.at (by decide) 1).1 (by decide)
            have hv34 : v34.toInt = ((hg / 6 : Nat) : Int) := by rw [tv34, g_f1.1]; exact nI_toInt (by omega)
            have J88 : ∀  (H : Heap) (locs : List Loc) (ls : Array Slot), HT D cs A T (y1 :: a0 :: y28 :: y17 :: O) ((y1, .inl (cs.2.1, 3906, .inl f1)) :: (a0, .inr (12, o0 :: (.ref y1) :: o2 :: o3 :: o4 :: o5 :: o6 :: o7 :: o8 :: o9 :: o10 :: o11 :: o12 :: o13 :: o14 :: (.ref y15) :: (.int x2) :: (.ref y17) :: o18 :: o19 :: o20 :: o21 :: o22 :: o23 :: o24 :: o25 :: o26 :: o27 :: (.ref y28) :: tl)) :: (y28, .inl (cs.1, 229376, .inl f28)) :: (y17, .inl (cs.2.1, 14, .inl g27_3)) :: X) H → va_S A s.heap H locs → lv_has ls 5 [(3, .int p7_3), (0, .ref a0), (1, .int x1)] → W p l e { frames := 3, cells := 0, slots := 0, locals := 74 } s m [.ref a0, .int x1, .int x2].toArray below meth c H locs 0 0 (MQ below (Tv D cs (fun u => ∃ (n1_16 : Int32) (G3 : Nat → Int32), u = (T, y1 :: a0 :: y28 :: y17 :: O, (y1, .inl (cs.2.1, 3906, .inl f1)) :: (a0, .inr (12, o0 :: (.ref y1) :: o2 :: o3 :: o4 :: o5 :: o6 :: o7 :: o8 :: o9 :: o10 :: o11 :: o12 :: o13 :: o14 :: (.ref y15) :: (.int n1_16) :: (.ref y17) :: o18 :: o19 :: o20 :: o21 :: o22 :: o23 :: o24 :: o25 :: o26 :: o27 :: (.ref y28) :: tl)) :: (y28, .inl (cs.1, 229376, .inl f28)) :: (y17, .inl (cs.2.1, 14, .inl G3)) :: X) ∧ (∀ j, cp 1 (G3 j))) A) [.ref a0, .int x1, .int x2].toArray s 0 0 A) (F0 m 88 ls []) := by
              intro  H locs ls  hH hS hl
              obtain ⟨v88, ev88⟩ : ∃ y : Int32, y = p7_3 + 1 := ⟨_, rfl⟩
              have tv88 : v88.toInt = p7_3.toInt + (1) := by rw [ev88]; exact add_i rfl (by decide) (by omega) (by omega)
              refine lv_iinc (v := v88) (lv' := [(3, .int v88), (0, .ref a0), (1, .int x1)]) hx hb dX12_laysSteps_88 hl (k := 0) rfl (by rw [ev88]; rfl) (by decide) rfl (fun ls hl => ?_)
              refine lv_goto (tgt := 7) hx hb dX12_laysSteps_91 (by decide) ?_
              exact ih7 _ (by omega) v88 g27_3 _ _ _ rfl (by omega) (by omega) (by first | exact c_f17 | exact c7 | exact c27 | exact c82 | (rw [eF23]; refine c1_put c7 ?_ ?_ <;> decide) | (rw [eF81]; refine c1_put c27 ?_ ?_ <;> omega)) hH hS (lv_sub hl [0, 1, 2] rfl)
            refine lv_icmp_ge (tgt := 88) hx hb dX12_laysSteps_35 (by decide) (fun c35 => ?_) (fun c35 => ?_)
            · skip
              have fuc35 := full_i p27_4
              have fvc35 := full_i v34
              have tc35 := g_le c35
              exact J88  _ _ _  hH hS (lv_sub hl [1, 2, 3] rfl)
            · skip
              have fuc35 := full_i p27_4
              have fvc35 := full_i v34
              have tc35 := g_nle c35
              refine lv_aload_n hx hb dX12_laysSteps_38 rfl (lv_at hl 2 rfl) ?_
              refine x_getk (ci := 12) (C := RX12) (F := TX12) (N := 36) (v := .ref y1) hx hb hts uX12 hown hkb hH 1 rfl rfl 1 (by decide) rfl kw_1224 (fun _ h9 => h9) dX12_laysSteps_39 ?_
              refine lv_iconst (v := 5) hx hb dX12_laysSteps_42 (by decide) ?_
              refine xa_ild hx hb hkb hH 0 rfl (by decide) (by decide) dX12_laysSteps_43 ?_
              refine lv_topi (fun v43 ev43 => ?_)
              have tv43 : v43 = f1 5 := by rw [ev43]; rfl
              have bv43 : 0 ≤ v43.toInt ∧ v43.toInt ≤ 16383 := by rw [ev43]; exact (s_f1.at (by decide) 5).2.2.2.1 (by decide)
              refine lv_i2l hx hb dX12_laysSteps_44 rfl ?_
              refine lv_iload_n hx hb dX12_laysSteps_45 rfl (lv_at hl 1 rfl) ?_
              refine tk_i hH hS hA (tr_S (n := 2) (As := [.long v43.toInt64, .int p7_3]) hx hb hml hown hts hkb hH (ox_map hOX rfl) hks hE hS hA (s_M_isIn2 l D cs kf T (y1 :: a0 :: y28 :: y17 :: O) ((y1, .inl (cs.2.1, 3906, .inl f1)) :: (a0, .inr (12, o0 :: (.ref y1) :: o2 :: o3 :: o4 :: o5 :: o6 :: o7 :: o8 :: o9 :: o10 :: o11 :: o12 :: o13 :: o14 :: (.ref y15) :: (.int x2) :: (.ref y17) :: o18 :: o19 :: o20 :: o21 :: o22 :: o23 :: o24 :: o25 :: o26 :: o27 :: (.ref y28) :: tl)) :: (y28, .inl (cs.1, 229376, .inl f28)) :: (y17, .inl (cs.2.1, 14, .inl g27_3)) :: X) v43.toInt64 p7_3  (hO.sub (by decide))) kw_1440 kw_1441 kw_13 kw_1442 (by decide +kernel) ⟨Nat.le_of_ble_eq_true rfl, Nat.le_of_ble_eq_true rfl⟩ rfl rfl hl.1 (Nat.le_of_ble_eq_true rfl) dX12_laysSteps_46 ⟨Nat.le_of_ble_eq_true rfl, Nat.le_of_ble_eq_true rfl⟩) (fun v46 u H locs hz9 hH hS => ?_)
              obtain ⟨rfl, l_v46, u_v46, x_v460⟩ := hz9
              have hH : HT D cs A T (y1 :: a0 :: y28 :: y17 :: O) ((y1, .inl (cs.2.1, 3906, .inl f1)) :: (a0, .inr (12, o0 :: (.ref y1) :: o2 :: o3 :: o4 :: o5 :: o6 :: o7 :: o8 :: o9 :: o10 :: o11 :: o12 :: o13 :: o14 :: (.ref y15) :: (.int x2) :: (.ref y17) :: o18 :: o19 :: o20 :: o21 :: o22 :: o23 :: o24 :: o25 :: o26 :: o27 :: (.ref y28) :: tl)) :: (y28, .inl (cs.1, 229376, .inl f28)) :: (y17, .inl (cs.2.1, 14, .inl g27_3)) :: X) H := hH
              refine W.widen (k := 0) (n := 0) (Nat.le_of_ble_eq_true rfl) (Nat.le_of_ble_eq_true rfl) ?_
              refine lv_if_ne (tgt := 88) hx hb dX12_laysSteps_49 (by decide) (fun c49 => ?_) (fun c49 => ?_)
              · skip
                have tc49 := f_ne (k := 0) (by decide) c49
                exact J88  _ _ _  hH hS (lv_sub hl [1, 2, 3] rfl)
              · skip
                have tc49 := f_eq (k := 0) (by decide) c49
                refine lv_iload hx hb dX12_laysSteps_52 (lv_at hl 0 rfl) ?_
                refine lv_iload_n hx hb dX12_laysSteps_54 rfl (lv_at hl 1 rfl) ?_
                have J82 : ∀ (g82_3 : Nat → Int32) (H : Heap) (locs : List Loc) (ls : Array Slot), (∀ j, cp 1 (g82_3 j)) → HT D cs A T (y1 :: a0 :: y28 :: y17 :: O) ((y1, .inl (cs.2.1, 3906, .inl f1)) :: (a0, .inr (12, o0 :: (.ref y1) :: o2 :: o3 :: o4 :: o5 :: o6 :: o7 :: o8 :: o9 :: o10 :: o11 :: o12 :: o13 :: o14 :: (.ref y15) :: (.int x2) :: (.ref y17) :: o18 :: o19 :: o20 :: o21 :: o22 :: o23 :: o24 :: o25 :: o26 :: o27 :: (.ref y28) :: tl)) :: (y28, .inl (cs.1, 229376, .inl f28)) :: (y17, .inl (cs.2.1, 14, .inl g82_3)) :: X) H → va_S A s.heap H locs → lv_has ls 5 [(4, .int p27_4), (3, .int p7_3), (0, .ref a0), (1, .int x1)] → W p l e { frames := 3, cells := 0, slots := 0, locals := 74 } s m [.ref a0, .int x1, .int x2].toArray below meth c H locs 0 0 (MQ below (Tv D cs (fun u => ∃ (n1_16 : Int32) (G3 : Nat → Int32), u = (T, y1 :: a0 :: y28 :: y17 :: O, (y1, .inl (cs.2.1, 3906, .inl f1)) :: (a0, .inr (12, o0 :: (.ref y1) :: o2 :: o3 :: o4 :: o5 :: o6 :: o7 :: o8 :: o9 :: o10 :: o11 :: o12 :: o13 :: o14 :: (.ref y15) :: (.int n1_16) :: (.ref y17) :: o18 :: o19 :: o20 :: o21 :: o22 :: o23 :: o24 :: o25 :: o26 :: o27 :: (.ref y28) :: tl)) :: (y28, .inl (cs.1, 229376, .inl f28)) :: (y17, .inl (cs.2.1, 14, .inl G3)) :: X) ∧ (∀ j, cp 1 (G3 j))) A) [.ref a0, .int x1, .int x2].toArray s 0 0 A) (F0 m 82 ls []) := by
                  intro g82_3 H locs ls c82 hH hS hl
                  obtain ⟨v82, ev82⟩ : ∃ y : Int32, y = p27_4 + 1 := ⟨_, rfl⟩
                  have tv82 : v82.toInt = p27_4.toInt + (1) := by rw [ev82]; exact add_i rfl (by decide) (by omega) (by omega)
                  refine lv_iinc (v := v82) (lv' := [(4, .int v82), (3, .int p7_3), (0, .ref a0), (1, .int x1)]) hx hb dX12_laysSteps_82 hl (k := 0) rfl (by rw [ev82]; rfl) (by decide) rfl (fun ls hl => ?_)
                  refine lv_goto (tgt := 27) hx hb dX12_laysSteps_85 (by decide) ?_
                  exact ih27 _ (by omega) v82 g82_3 _ _ _ rfl (by omega) (by omega) (by first | exact c_f17 | exact c7 | exact c27 | exact c82 | (rw [eF23]; refine c1_put c7 ?_ ?_ <;> decide) | (rw [eF81]; refine c1_put c27 ?_ ?_ <;> omega)) hH hS (lv_sub hl [0, 1, 2, 3] rfl)
                refine lv_icmp_eq (tgt := 82) hx hb dX12_laysSteps_55 (by decide) (fun c55 => ?_) (fun c55 => ?_)
                · skip
                  have fuc55 := full_i p27_4
                  have fvc55 := full_i p7_3
                  have tc55 := g_eq c55
                  exact J82 g27_3 _ _ _ (by first | exact c_f17 | exact c7 | exact c27 | exact c82 | (rw [eF23]; refine c1_put c7 ?_ ?_ <;> decide) | (rw [eF81]; refine c1_put c27 ?_ ?_ <;> omega)) hH hS (lv_sub hl [0, 1, 2, 3] rfl)
                · skip
                  have fuc55 := full_i p27_4
                  have fvc55 := full_i p7_3
                  have tc55 := g_ne c55
                  refine lv_aload_n hx hb dX12_laysSteps_58 rfl (lv_at hl 2 rfl) ?_
                  refine lv_iload_n hx hb dX12_laysSteps_59 rfl (lv_at hl 3 rfl) ?_
                  refine lv_iload_n hx hb dX12_laysSteps_60 rfl (lv_at hl 1 rfl) ?_
                  refine lv_iload hx hb dX12_laysSteps_61 (lv_at hl 0 rfl) ?_
                  refine tk_i hH hS hA (tr_V (n := 3) (As := [.int x1, .int p7_3, .int p27_4]) hx hb hml hown hts hkb hH (ox_map hOX rfl) hks hE hS hA (s_M_mayStepX l D cs kf T (y28 :: y17 :: O) ((y28, .inl (cs.1, 229376, .inl f28)) :: (y17, .inl (cs.2.1, 14, .inl g27_3)) :: X) a0 hg mq x1 p7_3 p27_4 f1 o0 y1 o2 o3 o4 o5 o6 o7 o8 o9 o10 o11 o12 o13 o14 y15 x2 ((.ref y17) :: o18 :: o19 :: o20 :: o21 :: o22 :: o23 :: o24 :: o25 :: o26 :: o27 :: (.ref y28) :: tl) t_a0 b_hg (by omega) (by omega) (by omega) (by omega) (by omega) (by omega) s_f1 g_f1 t_y1 t_y15 (hO.sub (by decide))) kw_1482 kw_1484 ks_69 kw_13 kw_1485 (by decide +kernel) ⟨Nat.le_of_ble_eq_true rfl, Nat.le_of_ble_eq_true rfl⟩ (x_recv (ci := 12) hkb hH 1 rfl rfl) rfl rfl hl.1 (Nat.le_of_ble_eq_true rfl) dX12_laysSteps_63 ⟨Nat.le_of_ble_eq_true rfl, Nat.le_of_ble_eq_true rfl⟩) (fun v63 u H locs hz9 hH hS => ?_)
                  obtain ⟨rfl, l_v63, u_v63⟩ := hz9
                  have hH : HT D cs A T (y1 :: a0 :: y28 :: y17 :: O) ((y1, .inl (cs.2.1, 3906, .inl f1)) :: (a0, .inr (12, o0 :: (.ref y1) :: o2 :: o3 :: o4 :: o5 :: o6 :: o7 :: o8 :: o9 :: o10 :: o11 :: o12 :: o13 :: o14 :: (.ref y15) :: (.int x2) :: (.ref y17) :: o18 :: o19 :: o20 :: o21 :: o22 :: o23 :: o24 :: o25 :: o26 :: o27 :: (.ref y28) :: tl)) :: (y28, .inl (cs.1, 229376, .inl f28)) :: (y17, .inl (cs.2.1, 14, .inl g27_3)) :: X) H := hH
                  refine W.widen (k := 0) (n := 0) (Nat.le_of_ble_eq_true rfl) (Nat.le_of_ble_eq_true rfl) ?_
                  refine lv_if_eq (tgt := 82) hx hb dX12_laysSteps_66 (by decide) (fun c66 => ?_) (fun c66 => ?_)
                  · skip
                    have tc66 := f_eq (k := 0) (by decide) c66
                    exact J82 g27_3 _ _ _ (by first | exact c_f17 | exact c7 | exact c27 | exact c82 | (rw [eF23]; refine c1_put c7 ?_ ?_ <;> decide) | (rw [eF81]; refine c1_put c27 ?_ ?_ <;> omega)) hH hS (lv_sub hl [0, 1, 2, 3] rfl)
                  · skip
                    have tc66 := f_ne (k := 0) (by decide) c66
                    refine lv_aload_n hx hb dX12_laysSteps_69 rfl (lv_at hl 2 rfl) ?_
                    refine x_getk (ci := 12) (C := RX12) (F := TX12) (N := 36) (v := .ref y17) hx hb hts uX12 hown hkb hH 1 rfl rfl 17 (by decide) rfl kw_1240 (fun _ h9 => h9) dX12_laysSteps_70 ?_
                    refine lv_iload_n hx hb dX12_laysSteps_73 rfl (lv_at hl 1 rfl) ?_
                    refine lv_dup2_11 hx hb dX12_laysSteps_74 rfl rfl ?_
                    refine xa_ild hx hb hkb hH 3 rfl (by omega) (by omega) dX12_laysSteps_75 ?_
                    refine lv_topi (fun v75 ev75 => ?_)
                    have tv75 : v75 = g27_3 p7_3.toInt.toNat := ev75
                    have b75 : 0 ≤ v75.toInt ∧ v75.toInt ≤ 16383 := by rw [tv75]; exact c27 _
                    refine lv_iconst (v := 1) hx hb dX12_laysSteps_76 (by decide) ?_
                    refine lv_iload hx hb dX12_laysSteps_77 (lv_at hl 0 rfl) ?_
                    refine lv_ishl hx hb dX12_laysSteps_79 ?_
                    refine lv_topi (fun v79 ev79 => ?_)
                    have tv79 : 1 ≤ v79.toInt ∧ v79.toInt ≤ 8192 := by rw [ev79]; exact shl_b 13 (by decide) (by omega) (by omega)
                    refine lv_ior hx hb dX12_laysSteps_80 ?_
                    refine lv_topi (fun v80 ev80 => ?_)
                    have tv80 : 0 ≤ v80.toInt ∧ v80.toInt < 16384 := by rw [ev80]; exact or_b 14 (by decide) (by omega) (by omega) (by omega) (by omega)
                    refine xa_ist hx hb hkb hH hS 3 rfl (by omega) (by omega) dX12_laysSteps_81 (fun H locs hH hS => ?_)
                    have hH : HT D cs A T (y1 :: a0 :: y28 :: y17 :: O) ((y1, .inl (cs.2.1, 3906, .inl f1)) :: (a0, .inr (12, o0 :: (.ref y1) :: o2 :: o3 :: o4 :: o5 :: o6 :: o7 :: o8 :: o9 :: o10 :: o11 :: o12 :: o13 :: o14 :: (.ref y15) :: (.int x2) :: (.ref y17) :: o18 :: o19 :: o20 :: o21 :: o22 :: o23 :: o24 :: o25 :: o26 :: o27 :: (.ref y28) :: tl)) :: (y28, .inl (cs.1, 229376, .inl f28)) :: (y17, .inl (cs.2.1, 14, .inl (upd g27_3 (p7_3.toInt.toNat) v80))) :: X) H := hH
                    obtain ⟨F81, eF81⟩ : ∃ f9, f9 = upd g27_3 (p7_3.toInt.toNat) v80 := ⟨_, rfl⟩
                    have hH : HT D cs A T (y1 :: a0 :: y28 :: y17 :: O) ((y1, .inl (cs.2.1, 3906, .inl f1)) :: (a0, .inr (12, o0 :: (.ref y1) :: o2 :: o3 :: o4 :: o5 :: o6 :: o7 :: o8 :: o9 :: o10 :: o11 :: o12 :: o13 :: o14 :: (.ref y15) :: (.int x2) :: (.ref y17) :: o18 :: o19 :: o20 :: o21 :: o22 :: o23 :: o24 :: o25 :: o26 :: o27 :: (.ref y28) :: tl)) :: (y28, .inl (cs.1, 229376, .inl f28)) :: (y17, .inl (cs.2.1, 14, .inl F81)) :: X) H := eF81 ▸ hH
                    exact J82 F81 _ _ _ (by first | exact c_f17 | exact c7 | exact c27 | exact c82 | (rw [eF23]; refine c1_put c7 ?_ ?_ <;> decide) | (rw [eF81]; refine c1_put c27 ?_ ?_ <;> omega)) hH hS (lv_sub hl [0, 1, 2, 3] rfl)
        refine lv_istore (lv' := [(4, .int 0), (3, .int p7_3), (0, .ref a0), (1, .int x1)]) hx hb dX12_laysSteps_25 hl (by decide) rfl (fun ls hl => ?_)
        have z_0 : (0 : Int32).toInt = 0 := by decide
        exact J27 _ 0 F23 _ _ _ rfl (by decide) (by decide) (by first | exact c_f17 | exact c7 | exact c27 | exact c82 | (rw [eF23]; refine c1_put c7 ?_ ?_ <;> decide) | (rw [eF81]; refine c1_put c27 ?_ ?_ <;> omega)) hH hS (lv_sub hl [0, 1, 2, 3] rfl)
  refine lv_istore_n (lv' := [(3, .int 0), (0, .ref a0), (1, .int x1), (2, .int x2)]) hx hb dX12_laysSteps_6 rfl hl (by decide) rfl (fun ls hl => ?_)
  have z_0 : (0 : Int32).toInt = 0 := by decide
  exact J7 _ 0 f17 _ _ _ rfl (by decide) (by decide) (by first | exact c_f17 | exact c7 | exact c27 | exact c82 | (rw [eF23]; refine c1_put c7 ?_ ?_ <;> decide) | (rw [eF81]; refine c1_put c27 ?_ ?_ <;> omega)) hH hS (lv_sub hl [0, 1, 2] rfl)
set_option maxHeartbeats 4000000 in
set_option maxRecDepth 100000 in
theorem s_M_laysGuideX (l : Launch) (D : va_G) (cs : CS) (kf : KF) (T : TF) (O : List Nat) (X : va_W) (a0 hg mq : Nat) (x1 : Int32) (f1 : Nat → Int32) (o0 : Value) (y1 : Nat) (o2 : Value) (o3 : Value) (o4 : Value) (o5 : Value) (o6 : Value) (o7 : Value) (o8 : Value) (o9 : Value) (o10 : Value) (o11 : Value) (o12 : Value) (o13 : Value) (o14 : Value) (y15 : Nat) (y16 : Int32) (y17 : Nat) (o18 : Value) (o19 : Value) (o20 : Value) (o21 : Value) (o22 : Value) (o23 : Value) (o24 : Value) (o25 : Value) (o26 : Value) (o27 : Value) (y28 : Nat) (tl : List Value) (f28 : Nat → Int32) (f17 : Nat → Int32) (t_a0 : T a0 = some (22, hg, mq)) (b_hg : hg < 90) (l_x1 : 0 ≤ x1.toInt) (u_x1 : x1.toInt ≤ 4) (s_f1 : B8 3906 f1) (g_f1 : f1 1 = nI (hg / 6) ∧ f1 2 = nI (hg % 6)) (t_y1 : T y1 = some (8, 3906, hg)) (t_y15 : T y15 = some (1, 900, 0)) (t_y17 : T y17 = some (9, 14, 1)) (t_y28 : T y28 = some (0, 229376, 0)) (c_f17 : ∀ j, cp 1 (f17 j)) (hO : okO T (y1 :: a0 :: y28 :: y17 :: O) [1]) : TK l D cs kf yX12_laysGuide cX12_laysGuide 2 none { frames := 4, cells := 0, slots := 0, locals := 98 } [.ref a0, .int x1] T (y1 :: a0 :: y28 :: y17 :: O) ((y1, .inl (cs.2.1, 3906, .inl f1)) :: (a0, .inr (12, o0 :: (.ref y1) :: o2 :: o3 :: o4 :: o5 :: o6 :: o7 :: o8 :: o9 :: o10 :: o11 :: o12 :: o13 :: o14 :: (.ref y15) :: (.int y16) :: (.ref y17) :: o18 :: o19 :: o20 :: o21 :: o22 :: o23 :: o24 :: o25 :: o26 :: o27 :: (.ref y28) :: tl)) :: (y28, .inl (cs.1, 229376, .inl f28)) :: (y17, .inl (cs.2.1, 14, .inl f17)) :: X) (Tv D cs (fun u => ∃ (n1_16 : Int32) (G3 : Nat → Int32), u = (T, y1 :: a0 :: y28 :: y17 :: O, (y1, .inl (cs.2.1, 3906, .inl f1)) :: (a0, .inr (12, o0 :: (.ref y1) :: o2 :: o3 :: o4 :: o5 :: o6 :: o7 :: o8 :: o9 :: o10 :: o11 :: o12 :: o13 :: o14 :: (.ref y15) :: (.int n1_16) :: (.ref y17) :: o18 :: o19 :: o20 :: o21 :: o22 :: o23 :: o24 :: o25 :: o26 :: o27 :: (.ref y28) :: tl)) :: (y28, .inl (cs.1, 229376, .inl f28)) :: (y17, .inl (cs.2.1, 14, .inl G3)) :: X) ∧ (∀ j, cp 1 (G3 j)))) := by
  refine tk_of (by decide) (Nat.le_of_ble_eq_true rfl) (fun p e s m below meth c ls A H locs hx hb hr hml hown hts hlocks hnm hkb hH hS hA hOX hks hE hl => ?_)
  have hown : s.vm.findClass RX12 = some m.cls := hown
  have hl : lv_has ls 2 [(0, .ref a0), (1, .int x1)] := hl
  have hOXf := hOX
  refine lv_aload_n hx hb dX12_laysGuide_0 rfl (lv_at hl 0 rfl) ?_
  refine lv_iload_n hx hb dX12_laysGuide_1 rfl (lv_at hl 1 rfl) ?_
  refine lv_aload_n hx hb dX12_laysGuide_2 rfl (lv_at hl 0 rfl) ?_
  refine x_getk (ci := 12) (C := RX12) (F := TX12) (N := 36) (v := .ref y1) hx hb hts uX12 hown hkb hH 1 rfl rfl 1 (by decide) rfl kw_1224 (fun _ h9 => h9) dX12_laysGuide_3 ?_
  refine lv_bipush (v := 49) hx hb dX12_laysGuide_6 (by decide) ?_
  refine lv_iload_n hx hb dX12_laysGuide_8 rfl (lv_at hl 1 rfl) ?_
  refine lv_iadd hx hb dX12_laysGuide_9 ?_
  refine lv_topi (fun v9 ev9 => ?_)
  have tv9 : v9.toInt = (49) + x1.toInt := by rw [ev9]; exact add_i (by decide : (49 : Int32).toInt = 49) rfl (by omega) (by omega)
  refine xa_ild hx hb hkb hH 0 rfl (by omega) (by omega) dX12_laysGuide_10 ?_
  refine lv_topi (fun v10 ev10 => ?_)
  have tv10 : v10 = f1 v9.toInt.toNat := ev10
  refine tk_v hH hS hA (tr_V (n := 2) (As := [.int x1, .int v10]) hx hb hml hown hts hkb hH (ox_map hOX rfl) hks hE hS hA (s_M_laysStepsX l D cs kf T O X a0 hg mq x1 v10 f1 o0 y1 o2 o3 o4 o5 o6 o7 o8 o9 o10 o11 o12 o13 o14 y15 y16 y17 o18 o19 o20 o21 o22 o23 o24 o25 o26 o27 y28 tl f28 f17 t_a0 b_hg (by omega) (by omega) s_f1 g_f1 t_y1 t_y15 t_y17 t_y28 c_f17 (hO.sub (by decide))) kw_1506 kw_1508 ks_72 kw_13 kw_1509 (by decide +kernel) ⟨Nat.le_of_ble_eq_true rfl, Nat.le_of_ble_eq_true rfl⟩ (x_recv (ci := 12) hkb hH 1 rfl rfl) rfl rfl hl.1 (Nat.le_of_ble_eq_true rfl) dX12_laysGuide_11 ⟨Nat.le_of_ble_eq_true rfl, Nat.le_of_ble_eq_true rfl⟩) (fun u H locs hz9 hH hS => ?_)
  obtain ⟨n11_1_16, F11_3, rfl, x_v110⟩ := hz9
  have c_F11_3 := x_v110
  have hH : HT D cs A T (y1 :: a0 :: y28 :: y17 :: O) ((y1, .inl (cs.2.1, 3906, .inl f1)) :: (a0, .inr (12, o0 :: (.ref y1) :: o2 :: o3 :: o4 :: o5 :: o6 :: o7 :: o8 :: o9 :: o10 :: o11 :: o12 :: o13 :: o14 :: (.ref y15) :: (.int n11_1_16) :: (.ref y17) :: o18 :: o19 :: o20 :: o21 :: o22 :: o23 :: o24 :: o25 :: o26 :: o27 :: (.ref y28) :: tl)) :: (y28, .inl (cs.1, 229376, .inl f28)) :: (y17, .inl (cs.2.1, 14, .inl F11_3)) :: X) H := hH
  refine W.widen (k := 0) (n := 0) (Nat.le_of_ble_eq_true rfl) (Nat.le_of_ble_eq_true rfl) ?_
  exact te_v hx hb hr hlocks hH hS (⟨n11_1_16, F11_3, rfl, x_v110⟩) dX12_laysGuide_14
set_option maxHeartbeats 4000000 in
set_option maxRecDepth 100000 in
theorem s_M_laysWhoseX (l : Launch) (D : va_G) (cs : CS) (kf : KF) (T : TF) (O : List Nat) (X : va_W) (a0 hg mq : Nat) (x1 : Int32) (x2 : Int32) (f1 : Nat → Int32) (o0 : Value) (y1 : Nat) (o2 : Value) (o3 : Value) (o4 : Value) (o5 : Value) (o6 : Value) (o7 : Value) (o8 : Value) (o9 : Value) (o10 : Value) (o11 : Value) (o12 : Value) (o13 : Value) (o14 : Value) (y15 : Nat) (y16 : Int32) (y17 : Nat) (o18 : Value) (o19 : Value) (o20 : Value) (o21 : Value) (o22 : Value) (o23 : Value) (o24 : Value) (o25 : Value) (o26 : Value) (o27 : Value) (y28 : Nat) (tl : List Value) (f28 : Nat → Int32) (f17 : Nat → Int32) (t_a0 : T a0 = some (22, hg, mq)) (b_hg : hg < 90) (l_x1 : 0 ≤ x1.toInt) (u_x1 : x1.toInt ≤ 4) (l_x2 : 0 ≤ x2.toInt) (u_x2 : x2.toInt ≤ 16383) (s_f1 : B8 3906 f1) (g_f1 : f1 1 = nI (hg / 6) ∧ f1 2 = nI (hg % 6)) (t_y1 : T y1 = some (8, 3906, hg)) (t_y15 : T y15 = some (1, 900, 0)) (t_y17 : T y17 = some (9, 14, 1)) (t_y28 : T y28 = some (0, 229376, 0)) (c_f17 : ∀ j, cp 1 (f17 j)) (hO : okO T (y1 :: a0 :: y28 :: y17 :: O) [1]) : TK l D cs kf yX12_laysWhose cX12_laysWhose 6 (some (.int)) { frames := 5, cells := 0, slots := 0, locals := 119 } [.ref a0, .int x1, .int x2] T (y1 :: a0 :: y28 :: y17 :: O) ((y1, .inl (cs.2.1, 3906, .inl f1)) :: (a0, .inr (12, o0 :: (.ref y1) :: o2 :: o3 :: o4 :: o5 :: o6 :: o7 :: o8 :: o9 :: o10 :: o11 :: o12 :: o13 :: o14 :: (.ref y15) :: (.int y16) :: (.ref y17) :: o18 :: o19 :: o20 :: o21 :: o22 :: o23 :: o24 :: o25 :: o26 :: o27 :: (.ref y28) :: tl)) :: (y28, .inl (cs.1, 229376, .inl f28)) :: (y17, .inl (cs.2.1, 14, .inl f17)) :: X) (Ti D cs (fun r u => ∃ (n1_16 : Int32) (G2 : Nat → Int32) (G3 : Nat → Int32), u = (T, y1 :: a0 :: y28 :: y17 :: O, (y1, .inl (cs.2.1, 3906, .inl f1)) :: (a0, .inr (12, o0 :: (.ref y1) :: o2 :: o3 :: o4 :: o5 :: o6 :: o7 :: o8 :: o9 :: o10 :: o11 :: o12 :: o13 :: o14 :: (.ref y15) :: (.int n1_16) :: (.ref y17) :: o18 :: o19 :: o20 :: o21 :: o22 :: o23 :: o24 :: o25 :: o26 :: o27 :: (.ref y28) :: tl)) :: (y28, .inl (cs.1, 229376, .inl G2)) :: (y17, .inl (cs.2.1, 14, .inl G3)) :: X) ∧ -1 ≤ r.toInt ∧ r.toInt ≤ 13 ∧ (LQ hg (x2 ||| (thS f1 (hg / 6) &&& (f1 4 ||| f1 5))) G2 r) ∧ (WS (hg / 6) (x2 ||| (thS f1 (hg / 6) &&& (f1 4 ||| f1 5))).toInt.toNat G3 G2 0) ∧ (∀ j, cp 1 (G3 j)))) := by
  refine tk_of (by decide) (Nat.le_of_ble_eq_true rfl) (fun p e s m below meth c ls A H locs hx hb hr hml hown hts hlocks hnm hkb hH hS hA hOX hks hE hl => ?_)
  have hown : s.vm.findClass RX12 = some m.cls := hown
  have hl : lv_has ls 6 [(0, .ref a0), (1, .int x1), (2, .int x2)] := hl
  have hOXf := hOX
  refine lv_aload_n hx hb dX12_laysWhose_0 rfl (lv_at hl 0 rfl) ?_
  refine lv_iload_n hx hb dX12_laysWhose_1 rfl (lv_at hl 1 rfl) ?_
  refine tk_v hH hS hA (tr_V (n := 1) (As := [.int x1]) hx hb hml hown hts hkb hH (ox_map hOX rfl) hks hE hS hA (s_M_laysGuideX l D cs kf T O X a0 hg mq x1 f1 o0 y1 o2 o3 o4 o5 o6 o7 o8 o9 o10 o11 o12 o13 o14 y15 y16 y17 o18 o19 o20 o21 o22 o23 o24 o25 o26 o27 y28 tl f28 f17 t_a0 b_hg (by omega) (by omega) s_f1 g_f1 t_y1 t_y15 t_y17 t_y28 c_f17 (hO.sub (by decide))) kw_1502 kw_1504 ks_71 kw_13 kw_1505 (by decide +kernel) ⟨Nat.le_of_ble_eq_true rfl, Nat.le_of_ble_eq_true rfl⟩ (x_recv (ci := 12) hkb hH 1 rfl rfl) rfl rfl hl.1 (Nat.le_of_ble_eq_true rfl) dX12_laysWhose_2 ⟨Nat.le_of_ble_eq_true rfl, Nat.le_of_ble_eq_true rfl⟩) (fun u H locs hz9 hH hS => ?_)
  obtain ⟨n2_1_16, F2_3, rfl, x_v20⟩ := hz9
  have c_F2_3 := x_v20
  have hH : HT D cs A T (y1 :: a0 :: y28 :: y17 :: O) ((y1, .inl (cs.2.1, 3906, .inl f1)) :: (a0, .inr (12, o0 :: (.ref y1) :: o2 :: o3 :: o4 :: o5 :: o6 :: o7 :: o8 :: o9 :: o10 :: o11 :: o12 :: o13 :: o14 :: (.ref y15) :: (.int n2_1_16) :: (.ref y17) :: o18 :: o19 :: o20 :: o21 :: o22 :: o23 :: o24 :: o25 :: o26 :: o27 :: (.ref y28) :: tl)) :: (y28, .inl (cs.1, 229376, .inl f28)) :: (y17, .inl (cs.2.1, 14, .inl F2_3)) :: X) H := hH
  refine W.widen (k := 0) (n := 0) (Nat.le_of_ble_eq_true rfl) (Nat.le_of_ble_eq_true rfl) ?_
  refine lv_iload_n hx hb dX12_laysWhose_5 rfl (lv_at hl 2 rfl) ?_
  refine lv_aload_n hx hb dX12_laysWhose_6 rfl (lv_at hl 0 rfl) ?_
  refine tk_i hH hS hA (tr_V (n := 0) (As := []) hx hb hml hown hts hkb hH (ox_map hOX rfl) hks hE hS hA (s_M_thereSetF l D cs kf T (y28 :: y17 :: O) ((y28, .inl (cs.1, 229376, .inl f28)) :: (y17, .inl (cs.2.1, 14, .inl F2_3)) :: X) a0 hg mq f1 o0 y1 o2 o3 o4 o5 o6 o7 o8 o9 o10 o11 o12 o13 o14 y15 n2_1_16 ((.ref y17) :: o18 :: o19 :: o20 :: o21 :: o22 :: o23 :: o24 :: o25 :: o26 :: o27 :: (.ref y28) :: tl) t_a0 b_hg s_f1 g_f1 t_y1 t_y15 (hO.sub (by decide))) kw_1724 kw_1726 ks_99 kw_13 kw_1727 (by decide +kernel) ⟨Nat.le_of_ble_eq_true rfl, Nat.le_of_ble_eq_true rfl⟩ (x_recv (ci := 12) hkb hH 1 rfl rfl) rfl rfl hl.1 (Nat.le_of_ble_eq_true rfl) dX12_laysWhose_7 ⟨Nat.le_of_ble_eq_true rfl, Nat.le_of_ble_eq_true rfl⟩) (fun v7 u H locs hz9 hH hS => ?_)
  obtain ⟨rfl, l_v7, u_v7, x_v70⟩ := hz9
  have hH : HT D cs A T (y1 :: a0 :: y28 :: y17 :: O) ((y1, .inl (cs.2.1, 3906, .inl f1)) :: (a0, .inr (12, o0 :: (.ref y1) :: o2 :: o3 :: o4 :: o5 :: o6 :: o7 :: o8 :: o9 :: o10 :: o11 :: o12 :: o13 :: o14 :: (.ref y15) :: (.int n2_1_16) :: (.ref y17) :: o18 :: o19 :: o20 :: o21 :: o22 :: o23 :: o24 :: o25 :: o26 :: o27 :: (.ref y28) :: tl)) :: (y28, .inl (cs.1, 229376, .inl f28)) :: (y17, .inl (cs.2.1, 14, .inl F2_3)) :: X) H := hH
  refine W.widen (k := 0) (n := 0) (Nat.le_of_ble_eq_true rfl) (Nat.le_of_ble_eq_true rfl) ?_
  refine lv_aload_n hx hb dX12_laysWhose_10 rfl (lv_at hl 0 rfl) ?_
  refine tk_i hH hS hA (tr_V (n := 0) (As := []) hx hb hml hown hts hkb hH (ox_map hOX rfl) hks hE hS hA (s_M_endsF l D cs kf T (y28 :: y17 :: O) ((y28, .inl (cs.1, 229376, .inl f28)) :: (y17, .inl (cs.2.1, 14, .inl F2_3)) :: X) a0 hg mq f1 o0 y1 o2 o3 o4 o5 o6 o7 o8 o9 o10 o11 o12 o13 o14 y15 n2_1_16 ((.ref y17) :: o18 :: o19 :: o20 :: o21 :: o22 :: o23 :: o24 :: o25 :: o26 :: o27 :: (.ref y28) :: tl) t_a0 b_hg s_f1 g_f1 t_y1 t_y15 (hO.sub (by decide))) kw_1536 kw_1538 ks_78 kw_13 kw_1539 (by decide +kernel) ⟨Nat.le_of_ble_eq_true rfl, Nat.le_of_ble_eq_true rfl⟩ (x_recv (ci := 12) hkb hH 1 rfl rfl) rfl rfl hl.1 (Nat.le_of_ble_eq_true rfl) dX12_laysWhose_11 ⟨Nat.le_of_ble_eq_true rfl, Nat.le_of_ble_eq_true rfl⟩) (fun v11 u H locs hz9 hH hS => ?_)
  obtain ⟨rfl, l_v11, u_v11, x_v110⟩ := hz9
  have hH : HT D cs A T (y1 :: a0 :: y28 :: y17 :: O) ((y1, .inl (cs.2.1, 3906, .inl f1)) :: (a0, .inr (12, o0 :: (.ref y1) :: o2 :: o3 :: o4 :: o5 :: o6 :: o7 :: o8 :: o9 :: o10 :: o11 :: o12 :: o13 :: o14 :: (.ref y15) :: (.int n2_1_16) :: (.ref y17) :: o18 :: o19 :: o20 :: o21 :: o22 :: o23 :: o24 :: o25 :: o26 :: o27 :: (.ref y28) :: tl)) :: (y28, .inl (cs.1, 229376, .inl f28)) :: (y17, .inl (cs.2.1, 14, .inl F2_3)) :: X) H := hH
  refine W.widen (k := 0) (n := 0) (Nat.le_of_ble_eq_true rfl) (Nat.le_of_ble_eq_true rfl) ?_
  refine lv_iand hx hb dX12_laysWhose_14 ?_
  refine lv_topi (fun v14 ev14 => ?_)
  have tv14 : 0 ≤ v14.toInt ∧ v14.toInt ≤ v7.toInt := by rw [ev14]; exact and_l (by omega)
  have ttv14 : 0 ≤ v14.toInt ∧ v14.toInt ≤ v11.toInt := by rw [ev14]; exact and_r (by omega)
  refine lv_ior hx hb dX12_laysWhose_15 ?_
  refine lv_topi (fun v15 ev15 => ?_)
  have tv15 : 0 ≤ v15.toInt ∧ v15.toInt < 16384 := by rw [ev15]; exact or_b 14 (by decide) (by omega) (by omega) (by omega) (by omega)
  have h15 : v15 = (x2 ||| (thS f1 (hg / 6) &&& (f1 4 ||| f1 5))) := by rw [ev15, ev14, x_v70, x_v110]
  refine lv_istore_n (lv' := [(3, .int v15), (0, .ref a0), (1, .int x1), (2, .int x2)]) hx hb dX12_laysWhose_16 rfl hl (by decide) rfl (fun ls hl => ?_)
  refine lv_aload_n hx hb dX12_laysWhose_17 rfl (lv_at hl 1 rfl) ?_
  refine lv_iload_n hx hb dX12_laysWhose_18 rfl (lv_at hl 0 rfl) ?_
  refine lv_iload_n hx hb dX12_laysWhose_19 rfl (lv_at hl 3 rfl) ?_
  refine tk_v hH hS hA (tr_V (n := 2) (As := [.int v15, .int x2]) hx hb hml hown hts hkb hH (ox_map hOX rfl) hks hE hS hA (s_M_laysMoreX l D cs kf T O X a0 hg mq v15 x2 f1 o0 y1 o2 o3 o4 o5 o6 o7 o8 o9 o10 o11 o12 o13 o14 y15 n2_1_16 y17 o18 o19 o20 o21 o22 o23 o24 o25 o26 o27 y28 tl f28 F2_3 t_a0 b_hg (by omega) (by omega) s_f1 g_f1 t_y1 t_y15 t_y17 t_y28 (hO.sub (by decide))) kw_1732 kw_1734 ks_101 kw_13 kw_1735 (by decide +kernel) ⟨Nat.le_of_ble_eq_true rfl, Nat.le_of_ble_eq_true rfl⟩ (x_recv (ci := 12) hkb hH 1 rfl rfl) rfl rfl hl.1 (Nat.le_of_ble_eq_true rfl) dX12_laysWhose_20 ⟨Nat.le_of_ble_eq_true rfl, Nat.le_of_ble_eq_true rfl⟩) (fun u H locs hz9 hH hS => ?_)
  obtain ⟨F20_2, rfl, x_v200⟩ := hz9
  have hH : HT D cs A T (y1 :: a0 :: y28 :: y17 :: O) ((y1, .inl (cs.2.1, 3906, .inl f1)) :: (a0, .inr (12, o0 :: (.ref y1) :: o2 :: o3 :: o4 :: o5 :: o6 :: o7 :: o8 :: o9 :: o10 :: o11 :: o12 :: o13 :: o14 :: (.ref y15) :: (.int n2_1_16) :: (.ref y17) :: o18 :: o19 :: o20 :: o21 :: o22 :: o23 :: o24 :: o25 :: o26 :: o27 :: (.ref y28) :: tl)) :: (y28, .inl (cs.1, 229376, .inl F20_2)) :: (y17, .inl (cs.2.1, 14, .inl F2_3)) :: X) H := hH
  refine W.widen (k := 0) (n := 0) (Nat.le_of_ble_eq_true rfl) (Nat.le_of_ble_eq_true rfl) ?_
  refine lv_iconst (v := (-1)) hx hb dX12_laysWhose_23 (by decide) ?_
  refine lv_istore (lv' := [(4, .int (-1)), (3, .int v15), (0, .ref a0), (1, .int x1), (2, .int x2)]) hx hb dX12_laysWhose_24 hl (by decide) rfl (fun ls hl => ?_)
  refine lv_iconst (v := 0) hx hb dX12_laysWhose_26 (by decide) ?_
  have J29 : ∀ (n : Nat) (p29_5 : Int32) (p29_4 : Int32) (H : Heap) (locs : List Loc) (ls : Array Slot), (14 - p29_5.toInt).toNat = n → (0 ≤ p29_5.toInt) → (p29_5.toInt ≤ 14) → (-1 ≤ p29_4.toInt) → (p29_4.toInt ≤ 13) → (LQ hg v15 F20_2 p29_4) → HT D cs A T (y1 :: a0 :: y28 :: y17 :: O) ((y1, .inl (cs.2.1, 3906, .inl f1)) :: (a0, .inr (12, o0 :: (.ref y1) :: o2 :: o3 :: o4 :: o5 :: o6 :: o7 :: o8 :: o9 :: o10 :: o11 :: o12 :: o13 :: o14 :: (.ref y15) :: (.int n2_1_16) :: (.ref y17) :: o18 :: o19 :: o20 :: o21 :: o22 :: o23 :: o24 :: o25 :: o26 :: o27 :: (.ref y28) :: tl)) :: (y28, .inl (cs.1, 229376, .inl F20_2)) :: (y17, .inl (cs.2.1, 14, .inl F2_3)) :: X) H → va_S A s.heap H locs → lv_has ls 6 [(5, .int p29_5), (4, .int p29_4), (3, .int v15), (0, .ref a0)] → W p l e { frames := 5, cells := 0, slots := 0, locals := 119 } s m [.ref a0, .int x1, .int x2].toArray below meth c H locs 0 0 (MQ below (Ti D cs (fun r u => ∃ (n1_16 : Int32) (G2 : Nat → Int32) (G3 : Nat → Int32), u = (T, y1 :: a0 :: y28 :: y17 :: O, (y1, .inl (cs.2.1, 3906, .inl f1)) :: (a0, .inr (12, o0 :: (.ref y1) :: o2 :: o3 :: o4 :: o5 :: o6 :: o7 :: o8 :: o9 :: o10 :: o11 :: o12 :: o13 :: o14 :: (.ref y15) :: (.int n1_16) :: (.ref y17) :: o18 :: o19 :: o20 :: o21 :: o22 :: o23 :: o24 :: o25 :: o26 :: o27 :: (.ref y28) :: tl)) :: (y28, .inl (cs.1, 229376, .inl G2)) :: (y17, .inl (cs.2.1, 14, .inl G3)) :: X) ∧ -1 ≤ r.toInt ∧ r.toInt ≤ 13 ∧ (LQ hg (x2 ||| (thS f1 (hg / 6) &&& (f1 4 ||| f1 5))) G2 r) ∧ (WS (hg / 6) (x2 ||| (thS f1 (hg / 6) &&& (f1 4 ||| f1 5))).toInt.toNat G3 G2 0) ∧ (∀ j, cp 1 (G3 j))) A) [.ref a0, .int x1, .int x2].toArray s 0 0 A) (F0 m 29 ls []) := by
    intro n
    induction n using Nat.strongRecOn with
    | _ n ih29 =>
      intro p29_5 p29_4 H locs ls hm29 l_p29_5 u_p29_5 l_p29_4 u_p29_4 i29 hH hS hl
      refine lv_iload hx hb dX12_laysWhose_29 (lv_at hl 0 rfl) ?_
      refine lv_aload_n hx hb dX12_laysWhose_31 rfl (lv_at hl 3 rfl) ?_
      refine x_getk (ci := 12) (C := RX12) (F := TX12) (N := 36) (v := .ref y1) hx hb hts uX12 hown hkb hH 1 rfl rfl 1 (by decide) rfl kw_1224 (fun _ h9 => h9) dX12_laysWhose_32 ?_
      refine lv_iconst (v := 1) hx hb dX12_laysWhose_35 (by decide) ?_
      refine xa_ild hx hb hkb hH 0 rfl (by decide) (by decide) dX12_laysWhose_36 ?_
      refine lv_topi (fun v36 ev36 => ?_)
      have tv36 : v36 = f1 1 := by rw [ev36]; rfl
      have bv36 : 0 ≤ v36.toInt ∧ v36.toInt ≤ 14 := by rw [ev36]; exact (s_f1.at (by decide) 1).1 (by decide)
      have hv36 : v36.toInt = ((hg / 6 : Nat) : Int) := by rw [tv36, g_f1.1]; exact nI_toInt (by omega)
      refine lv_icmp_ge (tgt := 111) hx hb dX12_laysWhose_37 (by decide) (fun c37 => ?_) (fun c37 => ?_)
      · skip
        have fuc37 := full_i p29_5
        have fvc37 := full_i v36
        have tc37 := g_le c37
        refine lv_iload hx hb dX12_laysWhose_111 (lv_at hl 1 rfl) ?_
        exact te_i hx hb hr hlocks hH hS (⟨n2_1_16, F20_2, F2_3, rfl, by omega, by omega, (by rw [← h15]; exact i29), (by rw [← h15]; exact x_v200), c_F2_3⟩) dX12_laysWhose_113
      · skip
        have fuc37 := full_i p29_5
        have fvc37 := full_i v36
        have tc37 := g_nle c37
        refine lv_iload_n hx hb dX12_laysWhose_40 rfl (lv_at hl 2 rfl) ?_
        refine lv_aload_n hx hb dX12_laysWhose_41 rfl (lv_at hl 3 rfl) ?_
        refine x_getk (ci := 12) (C := RX12) (F := TX12) (N := 36) (v := .ref y1) hx hb hts uX12 hown hkb hH 1 rfl rfl 1 (by decide) rfl kw_1224 (fun _ h9 => h9) dX12_laysWhose_42 ?_
        refine lv_iconst (v := 4) hx hb dX12_laysWhose_45 (by decide) ?_
        refine xa_ild hx hb hkb hH 0 rfl (by decide) (by decide) dX12_laysWhose_46 ?_
        refine lv_topi (fun v46 ev46 => ?_)
        have tv46 : v46 = f1 4 := by rw [ev46]; rfl
        have bv46 : 0 ≤ v46.toInt ∧ v46.toInt ≤ 16383 := by rw [ev46]; exact (s_f1.at (by decide) 4).2.2.1 (by decide)
        refine lv_iand hx hb dX12_laysWhose_47 ?_
        refine lv_topi (fun v47 ev47 => ?_)
        have tv47 : 0 ≤ v47.toInt ∧ v47.toInt ≤ v15.toInt := by rw [ev47]; exact and_l (by omega)
        have ttv47 : 0 ≤ v47.toInt ∧ v47.toInt ≤ v46.toInt := by rw [ev47]; exact and_r (by omega)
        refine lv_i2l hx hb dX12_laysWhose_48 rfl ?_
        refine lv_iload hx hb dX12_laysWhose_49 (lv_at hl 0 rfl) ?_
        refine tk_i hH hS hA (tr_S (n := 2) (As := [.long v47.toInt64, .int p29_5]) hx hb hml hown hts hkb hH (ox_map hOX rfl) hks hE hS hA (s_M_isIn2 l D cs kf T (y1 :: a0 :: y28 :: y17 :: O) ((y1, .inl (cs.2.1, 3906, .inl f1)) :: (a0, .inr (12, o0 :: (.ref y1) :: o2 :: o3 :: o4 :: o5 :: o6 :: o7 :: o8 :: o9 :: o10 :: o11 :: o12 :: o13 :: o14 :: (.ref y15) :: (.int n2_1_16) :: (.ref y17) :: o18 :: o19 :: o20 :: o21 :: o22 :: o23 :: o24 :: o25 :: o26 :: o27 :: (.ref y28) :: tl)) :: (y28, .inl (cs.1, 229376, .inl F20_2)) :: (y17, .inl (cs.2.1, 14, .inl F2_3)) :: X) v47.toInt64 p29_5  (hO.sub (by decide))) kw_1440 kw_1441 kw_13 kw_1442 (by decide +kernel) ⟨Nat.le_of_ble_eq_true rfl, Nat.le_of_ble_eq_true rfl⟩ rfl rfl hl.1 (Nat.le_of_ble_eq_true rfl) dX12_laysWhose_51 ⟨Nat.le_of_ble_eq_true rfl, Nat.le_of_ble_eq_true rfl⟩) (fun v51 u H locs hz9 hH hS => ?_)
        obtain ⟨rfl, l_v51, u_v51, x_v510⟩ := hz9
        have hH : HT D cs A T (y1 :: a0 :: y28 :: y17 :: O) ((y1, .inl (cs.2.1, 3906, .inl f1)) :: (a0, .inr (12, o0 :: (.ref y1) :: o2 :: o3 :: o4 :: o5 :: o6 :: o7 :: o8 :: o9 :: o10 :: o11 :: o12 :: o13 :: o14 :: (.ref y15) :: (.int n2_1_16) :: (.ref y17) :: o18 :: o19 :: o20 :: o21 :: o22 :: o23 :: o24 :: o25 :: o26 :: o27 :: (.ref y28) :: tl)) :: (y28, .inl (cs.1, 229376, .inl F20_2)) :: (y17, .inl (cs.2.1, 14, .inl F2_3)) :: X) H := hH
        refine W.widen (k := 0) (n := 0) (Nat.le_of_ble_eq_true rfl) (Nat.le_of_ble_eq_true rfl) ?_
        have J105 : ∀ (p105_4 : Int32) (H : Heap) (locs : List Loc) (ls : Array Slot), (-1 ≤ p105_4.toInt) → (p105_4.toInt ≤ 13) → (LQ hg v15 F20_2 p105_4) → HT D cs A T (y1 :: a0 :: y28 :: y17 :: O) ((y1, .inl (cs.2.1, 3906, .inl f1)) :: (a0, .inr (12, o0 :: (.ref y1) :: o2 :: o3 :: o4 :: o5 :: o6 :: o7 :: o8 :: o9 :: o10 :: o11 :: o12 :: o13 :: o14 :: (.ref y15) :: (.int n2_1_16) :: (.ref y17) :: o18 :: o19 :: o20 :: o21 :: o22 :: o23 :: o24 :: o25 :: o26 :: o27 :: (.ref y28) :: tl)) :: (y28, .inl (cs.1, 229376, .inl F20_2)) :: (y17, .inl (cs.2.1, 14, .inl F2_3)) :: X) H → va_S A s.heap H locs → lv_has ls 6 [(5, .int p29_5), (4, .int p105_4), (3, .int v15), (0, .ref a0)] → W p l e { frames := 5, cells := 0, slots := 0, locals := 119 } s m [.ref a0, .int x1, .int x2].toArray below meth c H locs 0 0 (MQ below (Ti D cs (fun r u => ∃ (n1_16 : Int32) (G2 : Nat → Int32) (G3 : Nat → Int32), u = (T, y1 :: a0 :: y28 :: y17 :: O, (y1, .inl (cs.2.1, 3906, .inl f1)) :: (a0, .inr (12, o0 :: (.ref y1) :: o2 :: o3 :: o4 :: o5 :: o6 :: o7 :: o8 :: o9 :: o10 :: o11 :: o12 :: o13 :: o14 :: (.ref y15) :: (.int n1_16) :: (.ref y17) :: o18 :: o19 :: o20 :: o21 :: o22 :: o23 :: o24 :: o25 :: o26 :: o27 :: (.ref y28) :: tl)) :: (y28, .inl (cs.1, 229376, .inl G2)) :: (y17, .inl (cs.2.1, 14, .inl G3)) :: X) ∧ -1 ≤ r.toInt ∧ r.toInt ≤ 13 ∧ (LQ hg (x2 ||| (thS f1 (hg / 6) &&& (f1 4 ||| f1 5))) G2 r) ∧ (WS (hg / 6) (x2 ||| (thS f1 (hg / 6) &&& (f1 4 ||| f1 5))).toInt.toNat G3 G2 0) ∧ (∀ j, cp 1 (G3 j))) A) [.ref a0, .int x1, .int x2].toArray s 0 0 A) (F0 m 105 ls []) := by
          intro p105_4 H locs ls l_p105_4 u_p105_4 i105 hH hS hl
          obtain ⟨v105, ev105⟩ : ∃ y : Int32, y = p29_5 + 1 := ⟨_, rfl⟩
          have tv105 : v105.toInt = p29_5.toInt + (1) := by rw [ev105]; exact add_i rfl (by decide) (by omega) (by omega)
          refine lv_iinc (v := v105) (lv' := [(5, .int v105), (4, .int p105_4), (3, .int v15), (0, .ref a0)]) hx hb dX12_laysWhose_105 hl (k := 0) rfl (by rw [ev105]; rfl) (by decide) rfl (fun ls hl => ?_)
          refine lv_goto (tgt := 29) hx hb dX12_laysWhose_108 (by decide) ?_
          exact ih29 _ (by omega) v105 p105_4 _ _ _ rfl (by omega) (by omega) (by omega) (by omega) (by first | exact i29 | exact i105 | (refine LQ_n ?_ ev47 ?_ x_v510 ?_ ?_ ?_ ?_ ev61 x_v640 ?_ <;> omega) | exact LQ_0) hH hS (lv_sub hl [0, 1, 2, 3] rfl)
        refine lv_if_eq (tgt := 105) hx hb dX12_laysWhose_54 (by decide) (fun c54 => ?_) (fun c54 => ?_)
        · skip
          have tc54 := f_eq (k := 0) (by decide) c54
          exact J105 p29_4 _ _ _ (by omega) (by omega) (by first | exact i29 | exact i105 | (refine LQ_n ?_ ev47 ?_ x_v510 ?_ ?_ ?_ ?_ ev61 x_v640 ?_ <;> omega) | exact LQ_0) hH hS (lv_sub hl [0, 1, 2, 3] rfl)
        · skip
          have tc54 := f_ne (k := 0) (by decide) c54
          refine lv_aload_n hx hb dX12_laysWhose_57 rfl (lv_at hl 3 rfl) ?_
          refine lv_iconst (v := 1) hx hb dX12_laysWhose_58 (by decide) ?_
          refine lv_iload hx hb dX12_laysWhose_59 (lv_at hl 0 rfl) ?_
          refine lv_ishl hx hb dX12_laysWhose_61 ?_
          refine lv_topi (fun v61 ev61 => ?_)
          have tv61 : 1 ≤ v61.toInt ∧ v61.toInt ≤ 8192 := by rw [ev61]; exact shl_b 13 (by decide) (by omega) (by omega)
          refine lv_iload hx hb dX12_laysWhose_62 (lv_at hl 0 rfl) ?_
          refine tk_i hH hS hA (tr_V (n := 2) (As := [.int v61, .int p29_5]) hx hb hml hown hts hkb hH (ox_map hOX rfl) hks hE hS hA (s_M_moreByX l D cs kf T O X a0 hg mq v61 p29_5 f1 o0 y1 o2 o3 o4 o5 o6 o7 o8 o9 o10 o11 o12 o13 o14 y15 n2_1_16 y17 o18 o19 o20 o21 o22 o23 o24 o25 o26 o27 y28 tl F20_2 F2_3 t_a0 b_hg (by omega) (by omega) (by omega) (by omega) s_f1 g_f1 t_y1 t_y15 t_y17 t_y28 (hO.sub (by decide))) kw_1736 kw_1738 ks_102 kw_13 kw_1739 (by decide +kernel) ⟨Nat.le_of_ble_eq_true rfl, Nat.le_of_ble_eq_true rfl⟩ (x_recv (ci := 12) hkb hH 1 rfl rfl) rfl rfl hl.1 (Nat.le_of_ble_eq_true rfl) dX12_laysWhose_64 ⟨Nat.le_of_ble_eq_true rfl, Nat.le_of_ble_eq_true rfl⟩) (fun v64 u H locs hz9 hH hS => ?_)
          obtain ⟨rfl, x_v640⟩ := hz9
          have hH : HT D cs A T (y1 :: a0 :: y28 :: y17 :: O) ((y1, .inl (cs.2.1, 3906, .inl f1)) :: (a0, .inr (12, o0 :: (.ref y1) :: o2 :: o3 :: o4 :: o5 :: o6 :: o7 :: o8 :: o9 :: o10 :: o11 :: o12 :: o13 :: o14 :: (.ref y15) :: (.int n2_1_16) :: (.ref y17) :: o18 :: o19 :: o20 :: o21 :: o22 :: o23 :: o24 :: o25 :: o26 :: o27 :: (.ref y28) :: tl)) :: (y28, .inl (cs.1, 229376, .inl F20_2)) :: (y17, .inl (cs.2.1, 14, .inl F2_3)) :: X) H := hH
          refine W.widen (k := 0) (n := 0) (Nat.le_of_ble_eq_true rfl) (Nat.le_of_ble_eq_true rfl) ?_
          refine lv_bipush (v := 99) hx hb dX12_laysWhose_67 (by decide) ?_
          refine lv_icmp_ge (tgt := 105) hx hb dX12_laysWhose_69 (by decide) (fun c69 => ?_) (fun c69 => ?_)
          · skip
            have tc69 := f_ge (k := 99) (by decide) c69
            exact J105 p29_4 _ _ _ (by omega) (by omega) (by first | exact i29 | exact i105 | (refine LQ_n ?_ ev47 ?_ x_v510 ?_ ?_ ?_ ?_ ev61 x_v640 ?_ <;> omega) | exact LQ_0) hH hS (lv_sub hl [0, 1, 2, 3] rfl)
          · skip
            have tc69 := f_nge (k := 99) (by decide) c69
            refine lv_iload hx hb dX12_laysWhose_72 (lv_at hl 1 rfl) ?_
            refine lv_iconst (v := (-1)) hx hb dX12_laysWhose_74 (by decide) ?_
            have J101 : ∀  (H : Heap) (locs : List Loc) (ls : Array Slot), HT D cs A T (y1 :: a0 :: y28 :: y17 :: O) ((y1, .inl (cs.2.1, 3906, .inl f1)) :: (a0, .inr (12, o0 :: (.ref y1) :: o2 :: o3 :: o4 :: o5 :: o6 :: o7 :: o8 :: o9 :: o10 :: o11 :: o12 :: o13 :: o14 :: (.ref y15) :: (.int n2_1_16) :: (.ref y17) :: o18 :: o19 :: o20 :: o21 :: o22 :: o23 :: o24 :: o25 :: o26 :: o27 :: (.ref y28) :: tl)) :: (y28, .inl (cs.1, 229376, .inl F20_2)) :: (y17, .inl (cs.2.1, 14, .inl F2_3)) :: X) H → va_S A s.heap H locs → lv_has ls 6 [(5, .int p29_5), (3, .int v15), (0, .ref a0)] → W p l e { frames := 5, cells := 0, slots := 0, locals := 119 } s m [.ref a0, .int x1, .int x2].toArray below meth c H locs 0 0 (MQ below (Ti D cs (fun r u => ∃ (n1_16 : Int32) (G2 : Nat → Int32) (G3 : Nat → Int32), u = (T, y1 :: a0 :: y28 :: y17 :: O, (y1, .inl (cs.2.1, 3906, .inl f1)) :: (a0, .inr (12, o0 :: (.ref y1) :: o2 :: o3 :: o4 :: o5 :: o6 :: o7 :: o8 :: o9 :: o10 :: o11 :: o12 :: o13 :: o14 :: (.ref y15) :: (.int n1_16) :: (.ref y17) :: o18 :: o19 :: o20 :: o21 :: o22 :: o23 :: o24 :: o25 :: o26 :: o27 :: (.ref y28) :: tl)) :: (y28, .inl (cs.1, 229376, .inl G2)) :: (y17, .inl (cs.2.1, 14, .inl G3)) :: X) ∧ -1 ≤ r.toInt ∧ r.toInt ≤ 13 ∧ (LQ hg (x2 ||| (thS f1 (hg / 6) &&& (f1 4 ||| f1 5))) G2 r) ∧ (WS (hg / 6) (x2 ||| (thS f1 (hg / 6) &&& (f1 4 ||| f1 5))).toInt.toNat G3 G2 0) ∧ (∀ j, cp 1 (G3 j))) A) [.ref a0, .int x1, .int x2].toArray s 0 0 A) (F0 m 101 ls []) := by
              intro  H locs ls  hH hS hl
              refine lv_iload hx hb dX12_laysWhose_101 (lv_at hl 0 rfl) ?_
              refine lv_istore (lv' := [(4, .int p29_5), (5, .int p29_5), (3, .int v15), (0, .ref a0)]) hx hb dX12_laysWhose_103 hl (by decide) rfl (fun ls hl => ?_)
              exact J105 p29_5 _ _ _ (by omega) (by omega) (by first | exact i29 | exact i105 | (refine LQ_n ?_ ev47 ?_ x_v510 ?_ ?_ ?_ ?_ ev61 x_v640 ?_ <;> omega) | exact LQ_0) hH hS (lv_sub hl [1, 0, 2, 3] rfl)
            refine lv_icmp_eq (tgt := 101) hx hb dX12_laysWhose_75 (by decide) (fun c75 => ?_) (fun c75 => ?_)
            · skip
              have tc75 := f_eq (k := -1) (by decide) c75
              exact J101  _ _ _  hH hS (lv_sub hl [0, 2, 3] rfl)
            · skip
              have tc75 := f_ne (k := -1) (by decide) c75
              refine lv_aload_n hx hb dX12_laysWhose_78 rfl (lv_at hl 3 rfl) ?_
              refine lv_iconst (v := 1) hx hb dX12_laysWhose_79 (by decide) ?_
              refine lv_iload hx hb dX12_laysWhose_80 (lv_at hl 0 rfl) ?_
              refine lv_ishl hx hb dX12_laysWhose_82 ?_
              refine lv_topi (fun v82 ev82 => ?_)
              have tv82 : 1 ≤ v82.toInt ∧ v82.toInt ≤ 8192 := by rw [ev82]; exact shl_b 13 (by decide) (by omega) (by omega)
              refine lv_iload hx hb dX12_laysWhose_83 (lv_at hl 0 rfl) ?_
              refine tk_i hH hS hA (tr_V (n := 2) (As := [.int v82, .int p29_5]) hx hb hml hown hts hkb hH (ox_map hOX rfl) hks hE hS hA (s_M_moreByX l D cs kf T O X a0 hg mq v82 p29_5 f1 o0 y1 o2 o3 o4 o5 o6 o7 o8 o9 o10 o11 o12 o13 o14 y15 n2_1_16 y17 o18 o19 o20 o21 o22 o23 o24 o25 o26 o27 y28 tl F20_2 F2_3 t_a0 b_hg (by omega) (by omega) (by omega) (by omega) s_f1 g_f1 t_y1 t_y15 t_y17 t_y28 (hO.sub (by decide))) kw_1736 kw_1738 ks_102 kw_13 kw_1739 (by decide +kernel) ⟨Nat.le_of_ble_eq_true rfl, Nat.le_of_ble_eq_true rfl⟩ (x_recv (ci := 12) hkb hH 1 rfl rfl) rfl rfl hl.1 (Nat.le_of_ble_eq_true rfl) dX12_laysWhose_85 ⟨Nat.le_of_ble_eq_true rfl, Nat.le_of_ble_eq_true rfl⟩) (fun v85 u H locs hz9 hH hS => ?_)
              obtain ⟨rfl, x_v850⟩ := hz9
              have hH : HT D cs A T (y1 :: a0 :: y28 :: y17 :: O) ((y1, .inl (cs.2.1, 3906, .inl f1)) :: (a0, .inr (12, o0 :: (.ref y1) :: o2 :: o3 :: o4 :: o5 :: o6 :: o7 :: o8 :: o9 :: o10 :: o11 :: o12 :: o13 :: o14 :: (.ref y15) :: (.int n2_1_16) :: (.ref y17) :: o18 :: o19 :: o20 :: o21 :: o22 :: o23 :: o24 :: o25 :: o26 :: o27 :: (.ref y28) :: tl)) :: (y28, .inl (cs.1, 229376, .inl F20_2)) :: (y17, .inl (cs.2.1, 14, .inl F2_3)) :: X) H := hH
              refine W.widen (k := 0) (n := 0) (Nat.le_of_ble_eq_true rfl) (Nat.le_of_ble_eq_true rfl) ?_
              refine lv_aload_n hx hb dX12_laysWhose_88 rfl (lv_at hl 3 rfl) ?_
              refine lv_iconst (v := 1) hx hb dX12_laysWhose_89 (by decide) ?_
              refine lv_iload hx hb dX12_laysWhose_90 (lv_at hl 1 rfl) ?_
              refine lv_ishl hx hb dX12_laysWhose_92 ?_
              refine lv_topi (fun v92 ev92 => ?_)
              have tv92 : 1 ≤ v92.toInt ∧ v92.toInt ≤ 8192 := by rw [ev92]; exact shl_b 13 (by decide) (by omega) (by omega)
              refine lv_iload hx hb dX12_laysWhose_93 (lv_at hl 1 rfl) ?_
              refine tk_i hH hS hA (tr_V (n := 2) (As := [.int v92, .int p29_4]) hx hb hml hown hts hkb hH (ox_map hOX rfl) hks hE hS hA (s_M_moreByX l D cs kf T O X a0 hg mq v92 p29_4 f1 o0 y1 o2 o3 o4 o5 o6 o7 o8 o9 o10 o11 o12 o13 o14 y15 n2_1_16 y17 o18 o19 o20 o21 o22 o23 o24 o25 o26 o27 y28 tl F20_2 F2_3 t_a0 b_hg (by omega) (by omega) (by omega) (by omega) s_f1 g_f1 t_y1 t_y15 t_y17 t_y28 (hO.sub (by decide))) kw_1736 kw_1738 ks_102 kw_13 kw_1739 (by decide +kernel) ⟨Nat.le_of_ble_eq_true rfl, Nat.le_of_ble_eq_true rfl⟩ (x_recv (ci := 12) hkb hH 1 rfl rfl) rfl rfl hl.1 (Nat.le_of_ble_eq_true rfl) dX12_laysWhose_95 ⟨Nat.le_of_ble_eq_true rfl, Nat.le_of_ble_eq_true rfl⟩) (fun v95 u H locs hz9 hH hS => ?_)
              obtain ⟨rfl, x_v950⟩ := hz9
              have hH : HT D cs A T (y1 :: a0 :: y28 :: y17 :: O) ((y1, .inl (cs.2.1, 3906, .inl f1)) :: (a0, .inr (12, o0 :: (.ref y1) :: o2 :: o3 :: o4 :: o5 :: o6 :: o7 :: o8 :: o9 :: o10 :: o11 :: o12 :: o13 :: o14 :: (.ref y15) :: (.int n2_1_16) :: (.ref y17) :: o18 :: o19 :: o20 :: o21 :: o22 :: o23 :: o24 :: o25 :: o26 :: o27 :: (.ref y28) :: tl)) :: (y28, .inl (cs.1, 229376, .inl F20_2)) :: (y17, .inl (cs.2.1, 14, .inl F2_3)) :: X) H := hH
              refine W.widen (k := 0) (n := 0) (Nat.le_of_ble_eq_true rfl) (Nat.le_of_ble_eq_true rfl) ?_
              refine lv_icmp_ge (tgt := 105) hx hb dX12_laysWhose_98 (by decide) (fun c98 => ?_) (fun c98 => ?_)
              · skip
                have fuc98 := full_i v85
                have fvc98 := full_i v95
                have tc98 := g_le c98
                exact J105 p29_4 _ _ _ (by omega) (by omega) (by first | exact i29 | exact i105 | (refine LQ_n ?_ ev47 ?_ x_v510 ?_ ?_ ?_ ?_ ev61 x_v640 ?_ <;> omega) | exact LQ_0) hH hS (lv_sub hl [0, 1, 2, 3] rfl)
              · skip
                have fuc98 := full_i v85
                have fvc98 := full_i v95
                have tc98 := g_nle c98
                exact J101  _ _ _  hH hS (lv_sub hl [0, 2, 3] rfl)
  refine lv_istore (lv' := [(5, .int 0), (4, .int (-1)), (3, .int v15), (0, .ref a0), (1, .int x1), (2, .int x2)]) hx hb dX12_laysWhose_27 hl (by decide) rfl (fun ls hl => ?_)
  have z_m1 : ((-1) : Int32).toInt = -1 := by decide
  have z_0 : (0 : Int32).toInt = 0 := by decide
  exact J29 _ 0 (-1) _ _ _ rfl (by decide) (by decide) (by decide) (by decide) (by first | exact i29 | exact i105 | (refine LQ_n ?_ ev47 ?_ x_v510 ?_ ?_ ?_ ?_ ev61 x_v640 ?_ <;> omega) | exact LQ_0) hH hS (lv_sub hl [0, 1, 2, 3] rfl)
theorem dX12_order_0 : decode cX12_order 0 = .ok (.aload_n 0, 1) := by decide +kernel
theorem dX12_order_1 : decode cX12_order 1 = .ok (.iconst 0, 1) := by decide +kernel
theorem dX12_order_2 : decode cX12_order 2 = .ok (.putfield 1, 3) := by decide +kernel
theorem dX12_order_5 : decode cX12_order 5 = .ok (.aload_n 0, 1) := by decide +kernel
theorem dX12_order_6 : decode cX12_order 6 = .ok (.iload_n 1, 1) := by decide +kernel
theorem dX12_order_7 : decode cX12_order 7 = .ok (.i2l, 1) := by decide +kernel
theorem dX12_order_8 : decode cX12_order 8 = .ok (.invokevirtual 222, 3) := by decide +kernel
theorem dX12_order_11 : decode cX12_order 11 = .ok (.ifCond .eq 21, 3) := by decide +kernel
theorem dX12_order_14 : decode cX12_order 14 = .ok (.iload_n 3, 1) := by decide +kernel
theorem dX12_order_15 : decode cX12_order 15 = .ok (.ifCond .eq 20, 3) := by decide +kernel
theorem dX12_order_18 : decode cX12_order 18 = .ok (.iload_n 3, 1) := by decide +kernel
theorem dX12_order_19 : decode cX12_order 19 = .ok (.i2l, 1) := by decide +kernel
theorem dX12_order_20 : decode cX12_order 20 = .ok (.ldc2_w 318, 3) := by decide +kernel
theorem dX12_order_23 : decode cX12_order 23 = .ok (.ldc2_w 332, 3) := by decide +kernel
theorem dX12_order_26 : decode cX12_order 26 = .ok (.invokestatic 144, 3) := by decide +kernel
theorem dX12_order_29 : decode cX12_order 29 = .ok (.ifCond .ne 6, 3) := by decide +kernel
theorem dX12_order_32 : decode cX12_order 32 = .ok (.bipush (-2), 2) := by decide +kernel
theorem dX12_order_34 : decode cX12_order 34 = .ok (.ireturn, 1) := by decide +kernel
theorem dX12_order_35 : decode cX12_order 35 = .ok (.aload_n 0, 1) := by decide +kernel
theorem dX12_order_36 : decode cX12_order 36 = .ok (.iload_n 2, 1) := by decide +kernel
theorem dX12_order_37 : decode cX12_order 37 = .ok (.invokevirtual 381, 3) := by decide +kernel
theorem dX12_order_40 : decode cX12_order 40 = .ok (.ifCond .ne 6, 3) := by decide +kernel
theorem dX12_order_43 : decode cX12_order 43 = .ok (.bipush (-3), 2) := by decide +kernel
theorem dX12_order_45 : decode cX12_order 45 = .ok (.ireturn, 1) := by decide +kernel
theorem dX12_order_46 : decode cX12_order 46 = .ok (.aload_n 0, 1) := by decide +kernel
theorem dX12_order_47 : decode cX12_order 47 = .ok (.iload_n 1, 1) := by decide +kernel
theorem dX12_order_48 : decode cX12_order 48 = .ok (.iload_n 2, 1) := by decide +kernel
theorem dX12_order_49 : decode cX12_order 49 = .ok (.invokevirtual 384, 3) := by decide +kernel
theorem dX12_order_52 : decode cX12_order 52 = .ok (.istore 4, 2) := by decide +kernel
theorem dX12_order_54 : decode cX12_order 54 = .ok (.iload 4, 2) := by decide +kernel
theorem dX12_order_56 : decode cX12_order 56 = .ok (.iconst (-1), 1) := by decide +kernel
theorem dX12_order_57 : decode cX12_order 57 = .ok (.if_icmp .ne 5, 3) := by decide +kernel
theorem dX12_order_60 : decode cX12_order 60 = .ok (.iconst (-1), 1) := by decide +kernel
theorem dX12_order_61 : decode cX12_order 61 = .ok (.ireturn, 1) := by decide +kernel
theorem dX12_order_62 : decode cX12_order 62 = .ok (.iload_n 2, 1) := by decide +kernel
theorem dX12_order_63 : decode cX12_order 63 = .ok (.aload_n 0, 1) := by decide +kernel
theorem dX12_order_64 : decode cX12_order 64 = .ok (.invokevirtual 372, 3) := by decide +kernel
theorem dX12_order_67 : decode cX12_order 67 = .ok (.aload_n 0, 1) := by decide +kernel
theorem dX12_order_68 : decode cX12_order 68 = .ok (.invokevirtual 272, 3) := by decide +kernel
theorem dX12_order_71 : decode cX12_order 71 = .ok (.iand, 1) := by decide +kernel
theorem dX12_order_72 : decode cX12_order 72 = .ok (.ior, 1) := by decide +kernel
theorem dX12_order_73 : decode cX12_order 73 = .ok (.istore 5, 2) := by decide +kernel
theorem dX12_order_75 : decode cX12_order 75 = .ok (.iconst 1, 1) := by decide +kernel
theorem dX12_order_76 : decode cX12_order 76 = .ok (.iload 4, 2) := by decide +kernel
theorem dX12_order_78 : decode cX12_order 78 = .ok (.ishl, 1) := by decide +kernel
theorem dX12_order_79 : decode cX12_order 79 = .ok (.istore 6, 2) := by decide +kernel
theorem dX12_order_81 : decode cX12_order 81 = .ok (.aload_n 0, 1) := by decide +kernel
theorem dX12_order_82 : decode cX12_order 82 = .ok (.iload 6, 2) := by decide +kernel
theorem dX12_order_84 : decode cX12_order 84 = .ok (.iload 4, 2) := by decide +kernel
theorem dX12_order_86 : decode cX12_order 86 = .ok (.invokevirtual 378, 3) := by decide +kernel
theorem dX12_order_89 : decode cX12_order 89 = .ok (.iconst 1, 1) := by decide +kernel
theorem dX12_order_90 : decode cX12_order 90 = .ok (.iadd, 1) := by decide +kernel
theorem dX12_order_91 : decode cX12_order 91 = .ok (.istore 7, 2) := by decide +kernel
theorem dX12_order_93 : decode cX12_order 93 = .ok (.iload_n 3, 1) := by decide +kernel
theorem dX12_order_94 : decode cX12_order 94 = .ok (.ifCond .ne 6, 3) := by decide +kernel
theorem dX12_order_97 : decode cX12_order 97 = .ok (.iload 7, 2) := by decide +kernel
theorem dX12_order_99 : decode cX12_order 99 = .ok (.ireturn, 1) := by decide +kernel
theorem dX12_order_100 : decode cX12_order 100 = .ok (.iload_n 3, 1) := by decide +kernel
theorem dX12_order_101 : decode cX12_order 101 = .ok (.bipush 10, 2) := by decide +kernel
theorem dX12_order_103 : decode cX12_order 103 = .ok (.isub, 1) := by decide +kernel
theorem dX12_order_104 : decode cX12_order 104 = .ok (.iload 7, 2) := by decide +kernel
theorem dX12_order_106 : decode cX12_order 106 = .ok (.if_icmp .lt 5, 3) := by decide +kernel
theorem dX12_order_109 : decode cX12_order 109 = .ok (.iconst (-1), 1) := by decide +kernel
theorem dX12_order_110 : decode cX12_order 110 = .ok (.ireturn, 1) := by decide +kernel
theorem dX12_order_111 : decode cX12_order 111 = .ok (.iconst 0, 1) := by decide +kernel
theorem dX12_order_112 : decode cX12_order 112 = .ok (.istore 8, 2) := by decide +kernel
theorem dX12_order_114 : decode cX12_order 114 = .ok (.iload 8, 2) := by decide +kernel
theorem dX12_order_116 : decode cX12_order 116 = .ok (.iload_n 3, 1) := by decide +kernel
theorem dX12_order_117 : decode cX12_order 117 = .ok (.bipush 10, 2) := by decide +kernel
theorem dX12_order_119 : decode cX12_order 119 = .ok (.isub, 1) := by decide +kernel
theorem dX12_order_120 : decode cX12_order 120 = .ok (.if_icmp .ge 85, 3) := by decide +kernel
theorem dX12_order_123 : decode cX12_order 123 = .ok (.aload_n 0, 1) := by decide +kernel
theorem dX12_order_124 : decode cX12_order 124 = .ok (.iload 6, 2) := by decide +kernel
theorem dX12_order_126 : decode cX12_order 126 = .ok (.iload 4, 2) := by decide +kernel
theorem dX12_order_128 : decode cX12_order 128 = .ok (.invokevirtual 378, 3) := by decide +kernel
theorem dX12_order_131 : decode cX12_order 131 = .ok (.iconst 1, 1) := by decide +kernel
theorem dX12_order_132 : decode cX12_order 132 = .ok (.isub, 1) := by decide +kernel
theorem dX12_order_133 : decode cX12_order 133 = .ok (.istore 9, 2) := by decide +kernel
theorem dX12_order_135 : decode cX12_order 135 = .ok (.iconst 0, 1) := by decide +kernel
theorem dX12_order_136 : decode cX12_order 136 = .ok (.istore 10, 2) := by decide +kernel
theorem dX12_order_138 : decode cX12_order 138 = .ok (.aload_n 0, 1) := by decide +kernel
theorem dX12_order_139 : decode cX12_order 139 = .ok (.getfield 33, 3) := by decide +kernel
theorem dX12_order_142 : decode cX12_order 142 = .ok (.iload 4, 2) := by decide +kernel
theorem dX12_order_144 : decode cX12_order 144 = .ok (.iaload, 1) := by decide +kernel
theorem dX12_order_145 : decode cX12_order 145 = .ok (.iload 5, 2) := by decide +kernel
theorem dX12_order_147 : decode cX12_order 147 = .ok (.iand, 1) := by decide +kernel
theorem dX12_order_148 : decode cX12_order 148 = .ok (.iload 6, 2) := by decide +kernel
theorem dX12_order_150 : decode cX12_order 150 = .ok (.iconst (-1), 1) := by decide +kernel
theorem dX12_order_151 : decode cX12_order 151 = .ok (.ixor, 1) := by decide +kernel
theorem dX12_order_152 : decode cX12_order 152 = .ok (.iand, 1) := by decide +kernel
theorem dX12_order_153 : decode cX12_order 153 = .ok (.i2l, 1) := by decide +kernel
theorem dX12_order_154 : decode cX12_order 154 = .ok (.iload 10, 2) := by decide +kernel
theorem dX12_order_156 : decode cX12_order 156 = .ok (.invokestatic 186, 3) := by decide +kernel
theorem dX12_order_159 : decode cX12_order 159 = .ok (.ifCond .eq 21, 3) := by decide +kernel
theorem dX12_order_162 : decode cX12_order 162 = .ok (.aload_n 0, 1) := by decide +kernel
theorem dX12_order_163 : decode cX12_order 163 = .ok (.iload 6, 2) := by decide +kernel
theorem dX12_order_165 : decode cX12_order 165 = .ok (.iconst 1, 1) := by decide +kernel
theorem dX12_order_166 : decode cX12_order 166 = .ok (.iload 10, 2) := by decide +kernel
theorem dX12_order_168 : decode cX12_order 168 = .ok (.ishl, 1) := by decide +kernel
theorem dX12_order_169 : decode cX12_order 169 = .ok (.ior, 1) := by decide +kernel
theorem dX12_order_170 : decode cX12_order 170 = .ok (.iload 10, 2) := by decide +kernel
theorem dX12_order_172 : decode cX12_order 172 = .ok (.invokevirtual 378, 3) := by decide +kernel
theorem dX12_order_175 : decode cX12_order 175 = .ok (.iload 9, 2) := by decide +kernel
theorem dX12_order_177 : decode cX12_order 177 = .ok (.if_icmp .eq 9, 3) := by decide +kernel
theorem dX12_order_180 : decode cX12_order 180 = .ok (.iinc 10 1, 3) := by decide +kernel
theorem dX12_order_183 : decode cX12_order 183 = .ok (.goto (-45), 3) := by decide +kernel
theorem dX12_order_186 : decode cX12_order 186 = .ok (.iload 10, 2) := by decide +kernel
theorem dX12_order_188 : decode cX12_order 188 = .ok (.istore 4, 2) := by decide +kernel
theorem dX12_order_190 : decode cX12_order 190 = .ok (.iload 6, 2) := by decide +kernel
theorem dX12_order_192 : decode cX12_order 192 = .ok (.iconst 1, 1) := by decide +kernel
theorem dX12_order_193 : decode cX12_order 193 = .ok (.iload 10, 2) := by decide +kernel
theorem dX12_order_195 : decode cX12_order 195 = .ok (.ishl, 1) := by decide +kernel
theorem dX12_order_196 : decode cX12_order 196 = .ok (.ior, 1) := by decide +kernel
theorem dX12_order_197 : decode cX12_order 197 = .ok (.istore 6, 2) := by decide +kernel
theorem dX12_order_199 : decode cX12_order 199 = .ok (.iinc 8 1, 3) := by decide +kernel
theorem dX12_order_202 : decode cX12_order 202 = .ok (.goto (-88), 3) := by decide +kernel
theorem dX12_order_205 : decode cX12_order 205 = .ok (.iload 4, 2) := by decide +kernel
theorem dX12_order_207 : decode cX12_order 207 = .ok (.ireturn, 1) := by decide +kernel
set_option maxHeartbeats 4000000 in
set_option maxRecDepth 100000 in
theorem s_M_order (l : Launch) (D : va_G) (cs : CS) (kf : KF) (T : TF) (O : List Nat) (X : va_W) (a0 hg mq : Nat) (x1 : Int32) (x2 : Int32) (x3 : Int32) (t_a0 : T a0 = some (22, hg, mq)) (b_hg : hg < 90) (hO : okO T O [0, 1, 8, 9, 22]) : TK l D cs kf yX12_order cX12_order 11 (some (.int)) { frames := 6, cells := 0, slots := 0, locals := 144 } [.ref a0, .int x1, .int x2, .int x3] T O X (Ti D cs (fun r u => u = (T, O, X) ∧ -3 ≤ r.toInt ∧ r.toInt ≤ 99)) := by
  refine tk_of (by decide) (Nat.le_of_ble_eq_true rfl) (fun p e s m below meth c ls A H locs hx hb hr hml hown hts hlocks hnm hkb hH hS hA hOX hks hE hl => ?_)
  have hown : s.vm.findClass RX12 = some m.cls := hown
  have hl : lv_has ls 11 [(0, .ref a0), (1, .int x1), (2, .int x2), (3, .int x3)] := hl
  have hO0 := hO
  obtain ⟨fs9, ho9, hH⟩ := hH.take t_a0 (hO0.no t_a0 (by decide))
  have hp0 : okL T (ft12 hg mq) fs9 := ho9
  clear ho9
  obtain ⟨v9, fs9, rfl, h9, hp1⟩ := okL_i hp0
  obtain ⟨q0_0, rfl⟩ := h9
  obtain ⟨v9, fs9, rfl, h9, hp2⟩ := okL_i hp1
  obtain ⟨q0_1, rfl, t_q0_1⟩ := h9
  obtain ⟨v9, fs9, rfl, h9, hp3⟩ := okL_i hp2
  obtain ⟨q0_2, rfl, t_q0_2⟩ := h9
  obtain ⟨v9, fs9, rfl, h9, hp4⟩ := okL_i hp3
  obtain ⟨q0_3, rfl, t_q0_3⟩ := h9
  obtain ⟨v9, fs9, rfl, h9, hp5⟩ := okL_i hp4
  obtain ⟨q0_4, rfl, t_q0_4⟩ := h9
  obtain ⟨v9, fs9, rfl, h9, hp6⟩ := okL_i hp5
  obtain ⟨q0_5, rfl, l_q0_5, u_q0_5, eg_q0_5⟩ := h9
  obtain ⟨v9, fs9, rfl, h9, hp7⟩ := okL_i hp6
  obtain ⟨q0_6, rfl⟩ := h9
  obtain ⟨v9, fs9, rfl, h9, hp8⟩ := okL_i hp7
  obtain ⟨q0_7, rfl⟩ := h9
  obtain ⟨v9, fs9, rfl, h9, hp9⟩ := okL_i hp8
  obtain ⟨q0_8, rfl⟩ := h9
  obtain ⟨v9, fs9, rfl, h9, hp10⟩ := okL_i hp9
  obtain ⟨q0_9, rfl⟩ := h9
  obtain ⟨v9, fs9, rfl, h9, hp11⟩ := okL_i hp10
  obtain ⟨q0_10, rfl, l_q0_10, u_q0_10⟩ := h9
  obtain ⟨v9, fs9, rfl, h9, hp12⟩ := okL_i hp11
  obtain ⟨q0_11, rfl⟩ := h9
  obtain ⟨v9, fs9, rfl, h9, hp13⟩ := okL_i hp12
  obtain ⟨q0_12, rfl⟩ := h9
  obtain ⟨v9, fs9, rfl, h9, hp14⟩ := okL_i hp13
  obtain ⟨q0_13, rfl, eg_q0_13⟩ := h9
  obtain ⟨v9, fs9, rfl, h9, hp15⟩ := okL_i hp14
  obtain ⟨q0_14, rfl, eg_q0_14⟩ := h9
  obtain ⟨v9, fs9, rfl, h9, hp16⟩ := okL_i hp15
  obtain ⟨q0_15, rfl, t_q0_15⟩ := h9
  obtain ⟨v9, fs9, rfl, h9, hp17⟩ := okL_i hp16
  obtain ⟨q0_16, rfl⟩ := h9
  obtain ⟨v9, fs9, rfl, h9, hp18⟩ := okL_i hp17
  obtain ⟨q0_17, rfl, t_q0_17⟩ := h9
  obtain ⟨v9, fs9, rfl, h9, hp19⟩ := okL_i hp18
  obtain ⟨q0_18, rfl, t_q0_18⟩ := h9
  obtain ⟨v9, fs9, rfl, h9, hp20⟩ := okL_i hp19
  obtain ⟨q0_19, rfl, t_q0_19⟩ := h9
  obtain ⟨v9, fs9, rfl, h9, hp21⟩ := okL_i hp20
  obtain ⟨q0_20, rfl, l_q0_20, u_q0_20⟩ := h9
  obtain ⟨v9, fs9, rfl, h9, hp22⟩ := okL_i hp21
  obtain ⟨q0_21, rfl, t_q0_21⟩ := h9
  obtain ⟨v9, fs9, rfl, h9, hp23⟩ := okL_i hp22
  obtain ⟨q0_22, rfl, t_q0_22⟩ := h9
  obtain ⟨v9, fs9, rfl, h9, hp24⟩ := okL_i hp23
  obtain ⟨q0_23, rfl⟩ := h9
  obtain ⟨v9, fs9, rfl, h9, hp25⟩ := okL_i hp24
  obtain ⟨q0_24, rfl⟩ := h9
  obtain ⟨v9, fs9, rfl, h9, hp26⟩ := okL_i hp25
  obtain ⟨q0_25, rfl⟩ := h9
  obtain ⟨v9, fs9, rfl, h9, hp27⟩ := okL_i hp26
  obtain ⟨q0_26, rfl, t_q0_26⟩ := h9
  obtain ⟨v9, fs9, rfl, h9, hp28⟩ := okL_i hp27
  obtain ⟨q0_27, rfl, t_q0_27⟩ := h9
  obtain ⟨v9, fs9, rfl, h9, hp29⟩ := okL_i hp28
  obtain ⟨q0_28, rfl, t_q0_28⟩ := h9
  obtain ⟨v9, fs9, rfl, h9, hp30⟩ := okL_i hp29
  obtain ⟨q0_29, rfl, t_q0_29⟩ := h9
  obtain ⟨v9, fs9, rfl, h9, hp31⟩ := okL_i hp30
  obtain ⟨q0_30, rfl, t_q0_30⟩ := h9
  obtain ⟨v9, fs9, rfl, h9, hp32⟩ := okL_i hp31
  obtain ⟨q0_31, rfl, t_q0_31⟩ := h9
  obtain ⟨v9, fs9, rfl, h9, hp33⟩ := okL_i hp32
  obtain ⟨q0_32, rfl⟩ := h9
  obtain ⟨v9, fs9, rfl, h9, hp34⟩ := okL_i hp33
  obtain ⟨q0_33, rfl, t_q0_33⟩ := h9
  obtain ⟨v9, fs9, rfl, h9, hp35⟩ := okL_i hp34
  obtain ⟨q0_34, rfl, t_q0_34⟩ := h9
  obtain ⟨v9, fs9, rfl, h9, hp36⟩ := okL_i hp35
  obtain ⟨q0_35, rfl, t_q0_35⟩ := h9
  have hpz := okL_z hp36
  subst hpz
  have hH : HT D cs A T (a0 :: O) ((a0, .inr (12, [.int q0_0, .ref q0_1, .ref q0_2, .ref q0_3, .ref q0_4, .int q0_5, .int q0_6, .int q0_7, .int q0_8, .int q0_9, .int q0_10, .int q0_11, .int q0_12, .int q0_13, .int q0_14, .ref q0_15, .int q0_16, .ref q0_17, .ref q0_18, .ref q0_19, .int q0_20, .ref q0_21, .ref q0_22, .int q0_23, .int q0_24, .int q0_25, .ref q0_26, .ref q0_27, .ref q0_28, .ref q0_29, .ref q0_30, .ref q0_31, .int q0_32, .ref q0_33, .ref q0_34, .ref q0_35])) :: X) H := hH
  have hO : okO T (a0 :: O) [0, 1, 8, 9] := okO.cons (hO0.sub (by decide)) t_a0 (by decide)
  obtain ⟨e9, hs9, hH⟩ := HT.takeA hH t_q0_17 (nm_c (tag_ne t_q0_17 t_a0 (fun q => absurd (show 9 = 22 from congrArg Prod.fst q) (by decide))) (hO0.no9 t_q0_17 (by decide)))
  obtain ⟨f17, rfl, c_f17⟩ : ∃ f : Nat → Int32, e9 = .inl (cs.2.1, 14, .inl f) ∧ ∀ j, cp 1 (f j) := hs9
  have hO : okO T (q0_17 :: a0 :: O) [1] := okO.cons (hO.sub (by decide)) t_q0_17 (by decide)
  have hH : HT D cs A T (a0 :: q0_17 :: O) ((a0, .inr (12, [.int q0_0, .ref q0_1, .ref q0_2, .ref q0_3, .ref q0_4, .int q0_5, .int q0_6, .int q0_7, .int q0_8, .int q0_9, .int q0_10, .int q0_11, .int q0_12, .int q0_13, .int q0_14, .ref q0_15, .int q0_16, .ref q0_17, .ref q0_18, .ref q0_19, .int q0_20, .ref q0_21, .ref q0_22, .int q0_23, .int q0_24, .int q0_25, .ref q0_26, .ref q0_27, .ref q0_28, .ref q0_29, .ref q0_30, .ref q0_31, .int q0_32, .ref q0_33, .ref q0_34, .ref q0_35])) :: (q0_17, .inl (cs.2.1, 14, .inl f17)) :: X) H := HT.swap hH
  have hO := okO.swap hO
  obtain ⟨e9, hs9, hH⟩ := HT.takeA hH t_q0_28 (nm_c (tag_ne t_q0_28 t_a0 (fun q => absurd (show 0 = 22 from congrArg Prod.fst q) (by decide))) (nm_c (tag_ne t_q0_28 t_q0_17 (fun q => absurd (show 0 = 9 from congrArg Prod.fst q) (by decide))) (hO0.no9 t_q0_28 (by decide))))
  obtain ⟨f28, rfl⟩ : ∃ f : Nat → Int32, e9 = .inl (cs.1, 229376, .inl f) := hs9
  have hO : okO T (q0_28 :: a0 :: q0_17 :: O) [1] := okO.cons (hO.sub (by decide)) t_q0_28 (by decide)
  have hH : HT D cs A T (a0 :: q0_28 :: q0_17 :: O) ((a0, .inr (12, [.int q0_0, .ref q0_1, .ref q0_2, .ref q0_3, .ref q0_4, .int q0_5, .int q0_6, .int q0_7, .int q0_8, .int q0_9, .int q0_10, .int q0_11, .int q0_12, .int q0_13, .int q0_14, .ref q0_15, .int q0_16, .ref q0_17, .ref q0_18, .ref q0_19, .int q0_20, .ref q0_21, .ref q0_22, .int q0_23, .int q0_24, .int q0_25, .ref q0_26, .ref q0_27, .ref q0_28, .ref q0_29, .ref q0_30, .ref q0_31, .int q0_32, .ref q0_33, .ref q0_34, .ref q0_35])) :: (q0_28, .inl (cs.1, 229376, .inl f28)) :: (q0_17, .inl (cs.2.1, 14, .inl f17)) :: X) H := HT.swap hH
  have hO := okO.swap hO
  obtain ⟨e9, hs9, hH⟩ := HT.takeA hH t_q0_1 (nm_c (tag_ne t_q0_1 t_a0 (fun q => absurd (show 8 = 22 from congrArg Prod.fst q) (by decide))) (nm_c (tag_ne t_q0_1 t_q0_28 (fun q => absurd (show 8 = 0 from congrArg Prod.fst q) (by decide))) (nm_c (tag_ne t_q0_1 t_q0_17 (fun q => absurd (show 8 = 9 from congrArg Prod.fst q) (by decide))) (hO0.no t_q0_1 (by decide)))))
  obtain ⟨f1, rfl, s_f1, g_f1⟩ : ∃ f : Nat → Int32, e9 = .inl (cs.2.1, 3906, .inl f) ∧ B8 3906 f ∧ (3906 = 3906 → f 1 = nI (hg / 6) ∧ f 2 = nI (hg % 6)) := hs9
  have hO : okO T (q0_1 :: a0 :: q0_28 :: q0_17 :: O) [1] := okO.cons (hO.sub (by decide)) t_q0_1 (by decide)
  have g_f1 := g_f1 rfl
  refine lv_aload_n hx hb dX12_order_0 rfl (lv_at hl 0 rfl) ?_
  refine lv_iconst (v := 0) hx hb dX12_order_1 (by decide) ?_
  refine x_putk (ci := 12) (v := .int 0) (ty := tyX12 0) (C := RX12) (F := TX12) (N := 36) hx hb hts uX12 tyX12 tyX12_ok nmX12 hown hkb hH hS 1 rfl rfl 0 (by decide) kw_1223 (fun _ h9 => h9) rfl (tyX12_ok 0 (by decide)) rfl rfl (Nat.le_of_ble_eq_true rfl) dX12_order_2 (fun H locs hH hS => ?_)
  have hH : HT D cs A T (q0_1 :: a0 :: q0_28 :: q0_17 :: O) ((q0_1, .inl (cs.2.1, 3906, .inl f1)) :: (a0, .inr (12, [.int 0, .ref q0_1, .ref q0_2, .ref q0_3, .ref q0_4, .int q0_5, .int q0_6, .int q0_7, .int q0_8, .int q0_9, .int q0_10, .int q0_11, .int q0_12, .int q0_13, .int q0_14, .ref q0_15, .int q0_16, .ref q0_17, .ref q0_18, .ref q0_19, .int q0_20, .ref q0_21, .ref q0_22, .int q0_23, .int q0_24, .int q0_25, .ref q0_26, .ref q0_27, .ref q0_28, .ref q0_29, .ref q0_30, .ref q0_31, .int q0_32, .ref q0_33, .ref q0_34, .ref q0_35])) :: (q0_28, .inl (cs.1, 229376, .inl f28)) :: (q0_17, .inl (cs.2.1, 14, .inl f17)) :: X) H := hH
  refine lv_aload_n hx hb dX12_order_5 rfl (lv_at hl 0 rfl) ?_
  refine lv_iload_n hx hb dX12_order_6 rfl (lv_at hl 1 rfl) ?_
  refine lv_i2l hx hb dX12_order_7 rfl ?_
  have z9_0 : (0 : Int32).toInt = 0 := by decide
  refine tk_i hH hS hA (tr_V (n := 1) (As := [.long x1.toInt64]) hx hb hml hown hts hkb hH (ox_c (ox_c (ox_c (ox_c hOX)))) hks hE hS hA (s_M_isGuideX l D cs kf T (q0_28 :: q0_17 :: O) ((q0_28, .inl (cs.1, 229376, .inl f28)) :: (q0_17, .inl (cs.2.1, 14, .inl f17)) :: X) a0 hg mq x1.toInt64 f1 (.int 0) q0_1 (.ref q0_2) (.ref q0_3) (.ref q0_4) (.int q0_5) (.int q0_6) (.int q0_7) (.int q0_8) (.int q0_9) (.int q0_10) (.int q0_11) (.int q0_12) (.int q0_13) (.int q0_14) q0_15 q0_16 [.ref q0_17, .ref q0_18, .ref q0_19, .int q0_20, .ref q0_21, .ref q0_22, .int q0_23, .int q0_24, .int q0_25, .ref q0_26, .ref q0_27, .ref q0_28, .ref q0_29, .ref q0_30, .ref q0_31, .int q0_32, .ref q0_33, .ref q0_34, .ref q0_35] t_a0 b_hg s_f1 g_f1 t_q0_1 t_q0_15 (hO.sub (by decide))) kw_1470 kw_1472 ks_67 kw_13 kw_1473 (by decide +kernel) ⟨Nat.le_of_ble_eq_true rfl, Nat.le_of_ble_eq_true rfl⟩ (x_recv (ci := 12) hkb hH 1 rfl rfl) rfl rfl hl.1 (Nat.le_of_ble_eq_true rfl) dX12_order_8 ⟨Nat.le_of_ble_eq_true rfl, Nat.le_of_ble_eq_true rfl⟩) (fun v8 u H locs hz9 hH hS => ?_)
  obtain ⟨rfl, l_v8, u_v8, x_v80⟩ := hz9
  have hH : HT D cs A T (q0_1 :: a0 :: q0_28 :: q0_17 :: O) ((q0_1, .inl (cs.2.1, 3906, .inl f1)) :: (a0, .inr (12, [.int 0, .ref q0_1, .ref q0_2, .ref q0_3, .ref q0_4, .int q0_5, .int q0_6, .int q0_7, .int q0_8, .int q0_9, .int q0_10, .int q0_11, .int q0_12, .int q0_13, .int q0_14, .ref q0_15, .int q0_16, .ref q0_17, .ref q0_18, .ref q0_19, .int q0_20, .ref q0_21, .ref q0_22, .int q0_23, .int q0_24, .int q0_25, .ref q0_26, .ref q0_27, .ref q0_28, .ref q0_29, .ref q0_30, .ref q0_31, .int q0_32, .ref q0_33, .ref q0_34, .ref q0_35])) :: (q0_28, .inl (cs.1, 229376, .inl f28)) :: (q0_17, .inl (cs.2.1, 14, .inl f17)) :: X) H := hH
  refine W.widen (k := 0) (n := 0) (Nat.le_of_ble_eq_true rfl) (Nat.le_of_ble_eq_true rfl) ?_
  have J32 : ∀  (H : Heap) (locs : List Loc) (ls : Array Slot), HT D cs A T (q0_1 :: a0 :: q0_28 :: q0_17 :: O) ((q0_1, .inl (cs.2.1, 3906, .inl f1)) :: (a0, .inr (12, [.int 0, .ref q0_1, .ref q0_2, .ref q0_3, .ref q0_4, .int q0_5, .int q0_6, .int q0_7, .int q0_8, .int q0_9, .int q0_10, .int q0_11, .int q0_12, .int q0_13, .int q0_14, .ref q0_15, .int q0_16, .ref q0_17, .ref q0_18, .ref q0_19, .int q0_20, .ref q0_21, .ref q0_22, .int q0_23, .int q0_24, .int q0_25, .ref q0_26, .ref q0_27, .ref q0_28, .ref q0_29, .ref q0_30, .ref q0_31, .int q0_32, .ref q0_33, .ref q0_34, .ref q0_35])) :: (q0_28, .inl (cs.1, 229376, .inl f28)) :: (q0_17, .inl (cs.2.1, 14, .inl f17)) :: X) H → va_S A s.heap H locs → lv_has ls 11 [] → W p l e { frames := 6, cells := 0, slots := 0, locals := 144 } s m [.ref a0, .int x1, .int x2, .int x3].toArray below meth c H locs 0 0 (MQ below (Ti D cs (fun r u => u = (T, O, X) ∧ -3 ≤ r.toInt ∧ r.toInt ≤ 99) A) [.ref a0, .int x1, .int x2, .int x3].toArray s 0 0 A) (F0 m 32 ls []) := by
    intro  H locs ls  hH hS hl
    refine lv_bipush (v := (-2)) hx hb dX12_order_32 (by decide) ?_
    have hH : HT D cs A T (a0 :: q0_28 :: q0_17 :: O) ((a0, .inr (12, [.int 0, .ref q0_1, .ref q0_2, .ref q0_3, .ref q0_4, .int q0_5, .int q0_6, .int q0_7, .int q0_8, .int q0_9, .int q0_10, .int q0_11, .int q0_12, .int q0_13, .int q0_14, .ref q0_15, .int q0_16, .ref q0_17, .ref q0_18, .ref q0_19, .int q0_20, .ref q0_21, .ref q0_22, .int q0_23, .int q0_24, .int q0_25, .ref q0_26, .ref q0_27, .ref q0_28, .ref q0_29, .ref q0_30, .ref q0_31, .int q0_32, .ref q0_33, .ref q0_34, .ref q0_35])) :: (q0_28, .inl (cs.1, 229376, .inl f28)) :: (q0_17, .inl (cs.2.1, 14, .inl f17)) :: X) H := HT.layA hH t_q0_1 (show sp cs T (8, 3906, hg) _ from ⟨_, rfl, s_f1, fun _ => g_f1⟩)
    have hH : HT D cs A T (q0_28 :: q0_17 :: O) ((q0_28, .inl (cs.1, 229376, .inl f28)) :: (q0_17, .inl (cs.2.1, 14, .inl f17)) :: X) H := HT.lay (ci := 12) hH t_a0 (okL_c (⟨_, rfl⟩) (okL_c (⟨_, rfl, t_q0_1⟩) (okL_c (⟨_, rfl, t_q0_2⟩) (okL_c (⟨_, rfl, t_q0_3⟩) (okL_c (⟨_, rfl, t_q0_4⟩) (okL_c (⟨_, rfl, by omega, by omega, by omega⟩) (okL_c (⟨_, rfl⟩) (okL_c (⟨_, rfl⟩) (okL_c (⟨_, rfl⟩) (okL_c (⟨_, rfl⟩) (okL_c (⟨_, rfl, by omega, by omega⟩) (okL_c (⟨_, rfl⟩) (okL_c (⟨_, rfl⟩) (okL_c (⟨_, rfl, by omega⟩) (okL_c (⟨_, rfl, by omega⟩) (okL_c (⟨_, rfl, t_q0_15⟩) (okL_c (⟨_, rfl⟩) (okL_c (⟨_, rfl, t_q0_17⟩) (okL_c (⟨_, rfl, t_q0_18⟩) (okL_c (⟨_, rfl, t_q0_19⟩) (okL_c (⟨_, rfl, by omega, by omega⟩) (okL_c (⟨_, rfl, t_q0_21⟩) (okL_c (⟨_, rfl, t_q0_22⟩) (okL_c (⟨_, rfl⟩) (okL_c (⟨_, rfl⟩) (okL_c (⟨_, rfl⟩) (okL_c (⟨_, rfl, t_q0_26⟩) (okL_c (⟨_, rfl, t_q0_27⟩) (okL_c (⟨_, rfl, t_q0_28⟩) (okL_c (⟨_, rfl, t_q0_29⟩) (okL_c (⟨_, rfl, t_q0_30⟩) (okL_c (⟨_, rfl, t_q0_31⟩) (okL_c (⟨_, rfl⟩) (okL_c (⟨_, rfl, t_q0_33⟩) (okL_c (⟨_, rfl, t_q0_34⟩) (okL_c (⟨_, rfl, t_q0_35⟩) (okL_n)))))))))))))))))))))))))))))))))))))
    have hO := hO0
    have hH : HT D cs A T (q0_17 :: O) ((q0_17, .inl (cs.2.1, 14, .inl f17)) :: X) H := HT.layA hH t_q0_28 (show sp cs T (0, 229376, 0) _ from ⟨_, rfl⟩)
    have hH : HT D cs A T O X H := HT.layA hH t_q0_17 (show sp cs T (9, 14, 1) _ from ⟨_, rfl, c_f17⟩)
    have z9_m2 : ((-2) : Int32).toInt = -2 := by decide
    exact te_i hx hb hr hlocks hH hS (⟨rfl, by decide, by decide⟩) dX12_order_34
  simp only [Int32.toInt_toInt64] at x_v80
  refine lv_if_eq (tgt := 32) hx hb dX12_order_11 (by decide) (fun c11 => ?_) (fun c11 => ?_)
  · skip
    have tc11 := f_eq (k := 0) (by decide) c11
    clear x_v80
    exact J32  _ _ _  hH hS (lv_sub hl [] rfl)
  · skip
    have tc11 := f_ne (k := 0) (by decide) c11
    replace x_v80 := x_v80.resolve_left tc11
    refine lv_iload_n hx hb dX12_order_14 rfl (lv_at hl 3 rfl) ?_
    have J35 : ∀  (H : Heap) (locs : List Loc) (ls : Array Slot), (0 ≤ x3.toInt) → (x3.toInt ≤ 23) → HT D cs A T (q0_1 :: a0 :: q0_28 :: q0_17 :: O) ((q0_1, .inl (cs.2.1, 3906, .inl f1)) :: (a0, .inr (12, [.int 0, .ref q0_1, .ref q0_2, .ref q0_3, .ref q0_4, .int q0_5, .int q0_6, .int q0_7, .int q0_8, .int q0_9, .int q0_10, .int q0_11, .int q0_12, .int q0_13, .int q0_14, .ref q0_15, .int q0_16, .ref q0_17, .ref q0_18, .ref q0_19, .int q0_20, .ref q0_21, .ref q0_22, .int q0_23, .int q0_24, .int q0_25, .ref q0_26, .ref q0_27, .ref q0_28, .ref q0_29, .ref q0_30, .ref q0_31, .int q0_32, .ref q0_33, .ref q0_34, .ref q0_35])) :: (q0_28, .inl (cs.1, 229376, .inl f28)) :: (q0_17, .inl (cs.2.1, 14, .inl f17)) :: X) H → va_S A s.heap H locs → lv_has ls 11 [(0, .ref a0), (1, .int x1), (2, .int x2), (3, .int x3)] → W p l e { frames := 6, cells := 0, slots := 0, locals := 144 } s m [.ref a0, .int x1, .int x2, .int x3].toArray below meth c H locs 0 0 (MQ below (Ti D cs (fun r u => u = (T, O, X) ∧ -3 ≤ r.toInt ∧ r.toInt ≤ 99) A) [.ref a0, .int x1, .int x2, .int x3].toArray s 0 0 A) (F0 m 35 ls []) := by
      intro  H locs ls l_x3 u_x3 hH hS hl
      refine lv_aload_n hx hb dX12_order_35 rfl (lv_at hl 0 rfl) ?_
      refine lv_iload_n hx hb dX12_order_36 rfl (lv_at hl 2 rfl) ?_
      have z9_0 : (0 : Int32).toInt = 0 := by decide
      refine tk_i hH hS hA (tr_V (n := 1) (As := [.int x2]) hx hb hml hown hts hkb hH (ox_c (ox_c (ox_c (ox_c hOX)))) hks hE hS hA (s_M_isSetOfX l D cs kf T (q0_28 :: q0_17 :: O) ((q0_28, .inl (cs.1, 229376, .inl f28)) :: (q0_17, .inl (cs.2.1, 14, .inl f17)) :: X) a0 hg mq x2 f1 (.int 0) q0_1 (.ref q0_2) (.ref q0_3) (.ref q0_4) (.int q0_5) (.int q0_6) (.int q0_7) (.int q0_8) (.int q0_9) (.int q0_10) (.int q0_11) (.int q0_12) (.int q0_13) (.int q0_14) q0_15 q0_16 [.ref q0_17, .ref q0_18, .ref q0_19, .int q0_20, .ref q0_21, .ref q0_22, .int q0_23, .int q0_24, .int q0_25, .ref q0_26, .ref q0_27, .ref q0_28, .ref q0_29, .ref q0_30, .ref q0_31, .int q0_32, .ref q0_33, .ref q0_34, .ref q0_35] t_a0 b_hg s_f1 g_f1 t_q0_1 t_q0_15 (hO.sub (by decide))) kw_1720 kw_1722 ks_98 kw_13 kw_1723 (by decide +kernel) ⟨Nat.le_of_ble_eq_true rfl, Nat.le_of_ble_eq_true rfl⟩ (x_recv (ci := 12) hkb hH 1 rfl rfl) rfl rfl hl.1 (Nat.le_of_ble_eq_true rfl) dX12_order_37 ⟨Nat.le_of_ble_eq_true rfl, Nat.le_of_ble_eq_true rfl⟩) (fun v37 u H locs hz9 hH hS => ?_)
      obtain ⟨rfl, l_v37, u_v37, x_v370⟩ := hz9
      have hH : HT D cs A T (q0_1 :: a0 :: q0_28 :: q0_17 :: O) ((q0_1, .inl (cs.2.1, 3906, .inl f1)) :: (a0, .inr (12, [.int 0, .ref q0_1, .ref q0_2, .ref q0_3, .ref q0_4, .int q0_5, .int q0_6, .int q0_7, .int q0_8, .int q0_9, .int q0_10, .int q0_11, .int q0_12, .int q0_13, .int q0_14, .ref q0_15, .int q0_16, .ref q0_17, .ref q0_18, .ref q0_19, .int q0_20, .ref q0_21, .ref q0_22, .int q0_23, .int q0_24, .int q0_25, .ref q0_26, .ref q0_27, .ref q0_28, .ref q0_29, .ref q0_30, .ref q0_31, .int q0_32, .ref q0_33, .ref q0_34, .ref q0_35])) :: (q0_28, .inl (cs.1, 229376, .inl f28)) :: (q0_17, .inl (cs.2.1, 14, .inl f17)) :: X) H := hH
      refine W.widen (k := 0) (n := 0) (Nat.le_of_ble_eq_true rfl) (Nat.le_of_ble_eq_true rfl) ?_
      refine lv_if_ne (tgt := 46) hx hb dX12_order_40 (by decide) (fun c40 => ?_) (fun c40 => ?_)
      · skip
        have tc40 := f_ne (k := 0) (by decide) c40
        replace x_v370 := x_v370.resolve_left tc40
        refine lv_aload_n hx hb dX12_order_46 rfl (lv_at hl 0 rfl) ?_
        refine lv_iload_n hx hb dX12_order_47 rfl (lv_at hl 1 rfl) ?_
        refine lv_iload_n hx hb dX12_order_48 rfl (lv_at hl 2 rfl) ?_
        have z9_0 : (0 : Int32).toInt = 0 := by decide
        refine tk_i hH hS hA (tr_V (n := 2) (As := [.int x1, .int x2]) hx hb hml hown hts hkb hH (ox_c (ox_c (ox_c (ox_c hOX)))) hks hE hS hA (s_M_laysWhoseX l D cs kf T O X a0 hg mq x1 x2 f1 (.int 0) q0_1 (.ref q0_2) (.ref q0_3) (.ref q0_4) (.int q0_5) (.int q0_6) (.int q0_7) (.int q0_8) (.int q0_9) (.int q0_10) (.int q0_11) (.int q0_12) (.int q0_13) (.int q0_14) q0_15 q0_16 q0_17 (.ref q0_18) (.ref q0_19) (.int q0_20) (.ref q0_21) (.ref q0_22) (.int q0_23) (.int q0_24) (.int q0_25) (.ref q0_26) (.ref q0_27) q0_28 [.ref q0_29, .ref q0_30, .ref q0_31, .int q0_32, .ref q0_33, .ref q0_34, .ref q0_35] f28 f17 t_a0 b_hg (by omega) (by omega) (by omega) (by omega) s_f1 g_f1 t_q0_1 t_q0_15 t_q0_17 t_q0_28 c_f17 (hO.sub (by decide))) kw_1728 kw_1730 ks_100 kw_13 kw_1731 (by decide +kernel) ⟨Nat.le_of_ble_eq_true rfl, Nat.le_of_ble_eq_true rfl⟩ (x_recv (ci := 12) hkb hH 1 rfl rfl) rfl rfl hl.1 (Nat.le_of_ble_eq_true rfl) dX12_order_49 ⟨Nat.le_of_ble_eq_true rfl, Nat.le_of_ble_eq_true rfl⟩) (fun v49 u H locs hz9 hH hS => ?_)
        obtain ⟨n49_1_16, F49_2, F49_3, rfl, l_v49, u_v49, x_v490, x_v491, x_v492⟩ := hz9
        have c_F49_3 := x_v492
        have hH : HT D cs A T (q0_1 :: a0 :: q0_28 :: q0_17 :: O) ((q0_1, .inl (cs.2.1, 3906, .inl f1)) :: (a0, .inr (12, [.int 0, .ref q0_1, .ref q0_2, .ref q0_3, .ref q0_4, .int q0_5, .int q0_6, .int q0_7, .int q0_8, .int q0_9, .int q0_10, .int q0_11, .int q0_12, .int q0_13, .int q0_14, .ref q0_15, .int n49_1_16, .ref q0_17, .ref q0_18, .ref q0_19, .int q0_20, .ref q0_21, .ref q0_22, .int q0_23, .int q0_24, .int q0_25, .ref q0_26, .ref q0_27, .ref q0_28, .ref q0_29, .ref q0_30, .ref q0_31, .int q0_32, .ref q0_33, .ref q0_34, .ref q0_35])) :: (q0_28, .inl (cs.1, 229376, .inl F49_2)) :: (q0_17, .inl (cs.2.1, 14, .inl F49_3)) :: X) H := hH
        refine W.widen (k := 0) (n := 0) (Nat.le_of_ble_eq_true rfl) (Nat.le_of_ble_eq_true rfl) ?_
        refine lv_istore (lv' := [(4, .int v49), (0, .ref a0), (1, .int x1), (2, .int x2), (3, .int x3)]) hx hb dX12_order_52 hl (by decide) rfl (fun ls hl => ?_)
        refine lv_iload hx hb dX12_order_54 (lv_at hl 0 rfl) ?_
        refine lv_iconst (v := (-1)) hx hb dX12_order_56 (by decide) ?_
        refine lv_icmp_ne (tgt := 62) hx hb dX12_order_57 (by decide) (fun c57 => ?_) (fun c57 => ?_)
        · skip
          have tc57 := f_ne (k := -1) (by decide) c57
          refine lv_iload_n hx hb dX12_order_62 rfl (lv_at hl 3 rfl) ?_
          refine lv_aload_n hx hb dX12_order_63 rfl (lv_at hl 1 rfl) ?_
          have z9_0 : (0 : Int32).toInt = 0 := by decide
          refine tk_i hH hS hA (tr_V (n := 0) (As := []) hx hb hml hown hts hkb hH (ox_c (ox_c (ox_c (ox_c hOX)))) hks hE hS hA (s_M_thereSetF l D cs kf T (q0_28 :: q0_17 :: O) ((q0_28, .inl (cs.1, 229376, .inl F49_2)) :: (q0_17, .inl (cs.2.1, 14, .inl F49_3)) :: X) a0 hg mq f1 (.int 0) q0_1 (.ref q0_2) (.ref q0_3) (.ref q0_4) (.int q0_5) (.int q0_6) (.int q0_7) (.int q0_8) (.int q0_9) (.int q0_10) (.int q0_11) (.int q0_12) (.int q0_13) (.int q0_14) q0_15 n49_1_16 [.ref q0_17, .ref q0_18, .ref q0_19, .int q0_20, .ref q0_21, .ref q0_22, .int q0_23, .int q0_24, .int q0_25, .ref q0_26, .ref q0_27, .ref q0_28, .ref q0_29, .ref q0_30, .ref q0_31, .int q0_32, .ref q0_33, .ref q0_34, .ref q0_35] t_a0 b_hg s_f1 g_f1 t_q0_1 t_q0_15 (hO.sub (by decide))) kw_1724 kw_1726 ks_99 kw_13 kw_1727 (by decide +kernel) ⟨Nat.le_of_ble_eq_true rfl, Nat.le_of_ble_eq_true rfl⟩ (x_recv (ci := 12) hkb hH 1 rfl rfl) rfl rfl hl.1 (Nat.le_of_ble_eq_true rfl) dX12_order_64 ⟨Nat.le_of_ble_eq_true rfl, Nat.le_of_ble_eq_true rfl⟩) (fun v64 u H locs hz9 hH hS => ?_)
          obtain ⟨rfl, l_v64, u_v64, x_v640⟩ := hz9
          have hH : HT D cs A T (q0_1 :: a0 :: q0_28 :: q0_17 :: O) ((q0_1, .inl (cs.2.1, 3906, .inl f1)) :: (a0, .inr (12, [.int 0, .ref q0_1, .ref q0_2, .ref q0_3, .ref q0_4, .int q0_5, .int q0_6, .int q0_7, .int q0_8, .int q0_9, .int q0_10, .int q0_11, .int q0_12, .int q0_13, .int q0_14, .ref q0_15, .int n49_1_16, .ref q0_17, .ref q0_18, .ref q0_19, .int q0_20, .ref q0_21, .ref q0_22, .int q0_23, .int q0_24, .int q0_25, .ref q0_26, .ref q0_27, .ref q0_28, .ref q0_29, .ref q0_30, .ref q0_31, .int q0_32, .ref q0_33, .ref q0_34, .ref q0_35])) :: (q0_28, .inl (cs.1, 229376, .inl F49_2)) :: (q0_17, .inl (cs.2.1, 14, .inl F49_3)) :: X) H := hH
          refine W.widen (k := 0) (n := 0) (Nat.le_of_ble_eq_true rfl) (Nat.le_of_ble_eq_true rfl) ?_
          refine lv_aload_n hx hb dX12_order_67 rfl (lv_at hl 1 rfl) ?_
          have z9_0 : (0 : Int32).toInt = 0 := by decide
          refine tk_i hH hS hA (tr_V (n := 0) (As := []) hx hb hml hown hts hkb hH (ox_c (ox_c (ox_c (ox_c hOX)))) hks hE hS hA (s_M_endsF l D cs kf T (q0_28 :: q0_17 :: O) ((q0_28, .inl (cs.1, 229376, .inl F49_2)) :: (q0_17, .inl (cs.2.1, 14, .inl F49_3)) :: X) a0 hg mq f1 (.int 0) q0_1 (.ref q0_2) (.ref q0_3) (.ref q0_4) (.int q0_5) (.int q0_6) (.int q0_7) (.int q0_8) (.int q0_9) (.int q0_10) (.int q0_11) (.int q0_12) (.int q0_13) (.int q0_14) q0_15 n49_1_16 [.ref q0_17, .ref q0_18, .ref q0_19, .int q0_20, .ref q0_21, .ref q0_22, .int q0_23, .int q0_24, .int q0_25, .ref q0_26, .ref q0_27, .ref q0_28, .ref q0_29, .ref q0_30, .ref q0_31, .int q0_32, .ref q0_33, .ref q0_34, .ref q0_35] t_a0 b_hg s_f1 g_f1 t_q0_1 t_q0_15 (hO.sub (by decide))) kw_1536 kw_1538 ks_78 kw_13 kw_1539 (by decide +kernel) ⟨Nat.le_of_ble_eq_true rfl, Nat.le_of_ble_eq_true rfl⟩ (x_recv (ci := 12) hkb hH 1 rfl rfl) rfl rfl hl.1 (Nat.le_of_ble_eq_true rfl) dX12_order_68 ⟨Nat.le_of_ble_eq_true rfl, Nat.le_of_ble_eq_true rfl⟩) (fun v68 u H locs hz9 hH hS => ?_)
          obtain ⟨rfl, l_v68, u_v68, x_v680⟩ := hz9
          have hH : HT D cs A T (q0_1 :: a0 :: q0_28 :: q0_17 :: O) ((q0_1, .inl (cs.2.1, 3906, .inl f1)) :: (a0, .inr (12, [.int 0, .ref q0_1, .ref q0_2, .ref q0_3, .ref q0_4, .int q0_5, .int q0_6, .int q0_7, .int q0_8, .int q0_9, .int q0_10, .int q0_11, .int q0_12, .int q0_13, .int q0_14, .ref q0_15, .int n49_1_16, .ref q0_17, .ref q0_18, .ref q0_19, .int q0_20, .ref q0_21, .ref q0_22, .int q0_23, .int q0_24, .int q0_25, .ref q0_26, .ref q0_27, .ref q0_28, .ref q0_29, .ref q0_30, .ref q0_31, .int q0_32, .ref q0_33, .ref q0_34, .ref q0_35])) :: (q0_28, .inl (cs.1, 229376, .inl F49_2)) :: (q0_17, .inl (cs.2.1, 14, .inl F49_3)) :: X) H := hH
          refine W.widen (k := 0) (n := 0) (Nat.le_of_ble_eq_true rfl) (Nat.le_of_ble_eq_true rfl) ?_
          refine lv_iand hx hb dX12_order_71 ?_
          refine lv_topi (fun v71 ev71 => ?_)
          have tv71 : 0 ≤ v71.toInt ∧ v71.toInt ≤ v64.toInt := by rw [ev71]; exact and_l (by omega)
          have ttv71 : 0 ≤ v71.toInt ∧ v71.toInt ≤ v68.toInt := by rw [ev71]; exact and_r (by omega)
          refine lv_ior hx hb dX12_order_72 ?_
          refine lv_topi (fun v72 ev72 => ?_)
          have tv72 : 0 ≤ v72.toInt ∧ v72.toInt < 16384 := by rw [ev72]; exact or_b 14 (by decide) (by omega) (by omega) (by omega) (by omega)
          refine lv_istore (lv' := [(5, .int v72), (4, .int v49), (0, .ref a0), (1, .int x1), (2, .int x2), (3, .int x3)]) hx hb dX12_order_73 hl (by decide) rfl (fun ls hl => ?_)
          have h72 : v72 = (x2 ||| (thS f1 (hg / 6) &&& (f1 4 ||| f1 5))) := by rw [ev72, ev71, x_v640, x_v680]
          refine lv_iconst (v := 1) hx hb dX12_order_75 (by decide) ?_
          refine lv_iload hx hb dX12_order_76 (lv_at hl 1 rfl) ?_
          refine lv_ishl hx hb dX12_order_78 ?_
          refine lv_topi (fun v78 ev78 => ?_)
          have tv78 : 1 ≤ v78.toInt ∧ v78.toInt ≤ 8192 := by rw [ev78]; exact shl_b 13 (by decide) (by omega) (by omega)
          refine lv_istore (lv' := [(6, .int v78), (5, .int v72), (4, .int v49), (0, .ref a0), (1, .int x1), (2, .int x2), (3, .int x3)]) hx hb dX12_order_79 hl (by decide) rfl (fun ls hl => ?_)
          refine lv_aload_n hx hb dX12_order_81 rfl (lv_at hl 3 rfl) ?_
          refine lv_iload hx hb dX12_order_82 (lv_at hl 0 rfl) ?_
          refine lv_iload hx hb dX12_order_84 (lv_at hl 2 rfl) ?_
          have z9_0 : (0 : Int32).toInt = 0 := by decide
          refine tk_i hH hS hA (tr_V (n := 2) (As := [.int v78, .int v49]) hx hb hml hown hts hkb hH (ox_c (ox_c (ox_c (ox_c hOX)))) hks hE hS hA (s_M_moreByX l D cs kf T O X a0 hg mq v78 v49 f1 (.int 0) q0_1 (.ref q0_2) (.ref q0_3) (.ref q0_4) (.int q0_5) (.int q0_6) (.int q0_7) (.int q0_8) (.int q0_9) (.int q0_10) (.int q0_11) (.int q0_12) (.int q0_13) (.int q0_14) q0_15 n49_1_16 q0_17 (.ref q0_18) (.ref q0_19) (.int q0_20) (.ref q0_21) (.ref q0_22) (.int q0_23) (.int q0_24) (.int q0_25) (.ref q0_26) (.ref q0_27) q0_28 [.ref q0_29, .ref q0_30, .ref q0_31, .int q0_32, .ref q0_33, .ref q0_34, .ref q0_35] F49_2 F49_3 t_a0 b_hg (by omega) (by omega) (by omega) (by omega) s_f1 g_f1 t_q0_1 t_q0_15 t_q0_17 t_q0_28 (hO.sub (by decide))) kw_1736 kw_1738 ks_102 kw_13 kw_1739 (by decide +kernel) ⟨Nat.le_of_ble_eq_true rfl, Nat.le_of_ble_eq_true rfl⟩ (x_recv (ci := 12) hkb hH 1 rfl rfl) rfl rfl hl.1 (Nat.le_of_ble_eq_true rfl) dX12_order_86 ⟨Nat.le_of_ble_eq_true rfl, Nat.le_of_ble_eq_true rfl⟩) (fun v86 u H locs hz9 hH hS => ?_)
          obtain ⟨rfl, x_v860⟩ := hz9
          have hH : HT D cs A T (q0_1 :: a0 :: q0_28 :: q0_17 :: O) ((q0_1, .inl (cs.2.1, 3906, .inl f1)) :: (a0, .inr (12, [.int 0, .ref q0_1, .ref q0_2, .ref q0_3, .ref q0_4, .int q0_5, .int q0_6, .int q0_7, .int q0_8, .int q0_9, .int q0_10, .int q0_11, .int q0_12, .int q0_13, .int q0_14, .ref q0_15, .int n49_1_16, .ref q0_17, .ref q0_18, .ref q0_19, .int q0_20, .ref q0_21, .ref q0_22, .int q0_23, .int q0_24, .int q0_25, .ref q0_26, .ref q0_27, .ref q0_28, .ref q0_29, .ref q0_30, .ref q0_31, .int q0_32, .ref q0_33, .ref q0_34, .ref q0_35])) :: (q0_28, .inl (cs.1, 229376, .inl F49_2)) :: (q0_17, .inl (cs.2.1, 14, .inl F49_3)) :: X) H := hH
          refine W.widen (k := 0) (n := 0) (Nat.le_of_ble_eq_true rfl) (Nat.le_of_ble_eq_true rfl) ?_
          have q86 := LOx_0 (x := v72) (v := v86) (by rw [h72]; exact x_v490) tc57 (by omega) ev78 x_v860
          have w9 : WS (hg / 6) v72.toInt.toNat F49_3 F49_2 0 := by rw [h72]; exact x_v491
          have b86 := LOx.b w9 q86 (by omega)
          refine lv_iconst (v := 1) hx hb dX12_order_89 (by decide) ?_
          refine lv_iadd hx hb dX12_order_90 ?_
          refine lv_topi (fun v90 ev90 => ?_)
          have tv90 : v90.toInt = v86.toInt + (1) := by rw [ev90]; exact add_i rfl (by decide : (1 : Int32).toInt = 1) (by omega) (by omega)
          refine lv_istore (lv' := [(7, .int v90), (6, .int v78), (5, .int v72), (4, .int v49), (0, .ref a0), (1, .int x1), (2, .int x2), (3, .int x3)]) hx hb dX12_order_91 hl (by decide) rfl (fun ls hl => ?_)
          refine lv_iload_n hx hb dX12_order_93 rfl (lv_at hl 7 rfl) ?_
          refine lv_if_ne (tgt := 100) hx hb dX12_order_94 (by decide) (fun c94 => ?_) (fun c94 => ?_)
          · skip
            have tc94 := f_ne (k := 0) (by decide) c94
            refine lv_iload_n hx hb dX12_order_100 rfl (lv_at hl 7 rfl) ?_
            refine lv_bipush (v := 10) hx hb dX12_order_101 (by decide) ?_
            refine lv_isub hx hb dX12_order_103 ?_
            refine lv_topi (fun v103 ev103 => ?_)
            have tv103 : v103.toInt = x3.toInt - (10) := by rw [ev103]; exact sub_i rfl (by decide : (10 : Int32).toInt = 10) (by omega) (by omega)
            refine lv_iload hx hb dX12_order_104 (lv_at hl 0 rfl) ?_
            refine lv_icmp_lt (tgt := 111) hx hb dX12_order_106 (by decide) (fun c106 => ?_) (fun c106 => ?_)
            · skip
              have fuc106 := full_i v103
              have fvc106 := full_i v90
              have tc106 := g_lt c106
              refine lv_iconst (v := 0) hx hb dX12_order_111 (by decide) ?_
              have J114 : ∀ (n : Nat) (p114_8 : Int32) (p114_6 : Int32) (p114_4 : Int32) (H : Heap) (locs : List Loc) (ls : Array Slot), (13 - p114_8.toInt).toNat = n → (0 ≤ p114_8.toInt) → (p114_8.toInt ≤ 13) → (0 ≤ p114_6.toInt) → (p114_6.toInt ≤ 16383) → (0 ≤ p114_4.toInt) → (p114_4.toInt ≤ 13) → (LOx hg v72 F49_2 p114_4 p114_6 (v86.toInt - p114_8.toInt)) → HT D cs A T (q0_1 :: a0 :: q0_28 :: q0_17 :: O) ((q0_1, .inl (cs.2.1, 3906, .inl f1)) :: (a0, .inr (12, [.int 0, .ref q0_1, .ref q0_2, .ref q0_3, .ref q0_4, .int q0_5, .int q0_6, .int q0_7, .int q0_8, .int q0_9, .int q0_10, .int q0_11, .int q0_12, .int q0_13, .int q0_14, .ref q0_15, .int n49_1_16, .ref q0_17, .ref q0_18, .ref q0_19, .int q0_20, .ref q0_21, .ref q0_22, .int q0_23, .int q0_24, .int q0_25, .ref q0_26, .ref q0_27, .ref q0_28, .ref q0_29, .ref q0_30, .ref q0_31, .int q0_32, .ref q0_33, .ref q0_34, .ref q0_35])) :: (q0_28, .inl (cs.1, 229376, .inl F49_2)) :: (q0_17, .inl (cs.2.1, 14, .inl F49_3)) :: X) H → va_S A s.heap H locs → lv_has ls 11 [(8, .int p114_8), (6, .int p114_6), (5, .int v72), (4, .int p114_4), (0, .ref a0), (3, .int x3)] → W p l e { frames := 6, cells := 0, slots := 0, locals := 144 } s m [.ref a0, .int x1, .int x2, .int x3].toArray below meth c H locs 0 0 (MQ below (Ti D cs (fun r u => u = (T, O, X) ∧ -3 ≤ r.toInt ∧ r.toInt ≤ 99) A) [.ref a0, .int x1, .int x2, .int x3].toArray s 0 0 A) (F0 m 114 ls []) := by
                intro n
                induction n using Nat.strongRecOn with
                | _ n ih114 =>
                  intro p114_8 p114_6 p114_4 H locs ls hm114 l_p114_8 u_p114_8 l_p114_6 u_p114_6 l_p114_4 u_p114_4 i114 hH hS hl
                  refine lv_iload hx hb dX12_order_114 (lv_at hl 0 rfl) ?_
                  refine lv_iload_n hx hb dX12_order_116 rfl (lv_at hl 5 rfl) ?_
                  refine lv_bipush (v := 10) hx hb dX12_order_117 (by decide) ?_
                  refine lv_isub hx hb dX12_order_119 ?_
                  refine lv_topi (fun v119 ev119 => ?_)
                  have tv119 : v119.toInt = x3.toInt - (10) := by rw [ev119]; exact sub_i rfl (by decide : (10 : Int32).toInt = 10) (by omega) (by omega)
                  refine lv_icmp_ge (tgt := 205) hx hb dX12_order_120 (by decide) (fun c120 => ?_) (fun c120 => ?_)
                  · skip
                    have fuc120 := full_i p114_8
                    have fvc120 := full_i v119
                    have tc120 := g_le c120
                    refine lv_iload hx hb dX12_order_205 (lv_at hl 3 rfl) ?_
                    have hH : HT D cs A T (a0 :: q0_28 :: q0_17 :: O) ((a0, .inr (12, [.int 0, .ref q0_1, .ref q0_2, .ref q0_3, .ref q0_4, .int q0_5, .int q0_6, .int q0_7, .int q0_8, .int q0_9, .int q0_10, .int q0_11, .int q0_12, .int q0_13, .int q0_14, .ref q0_15, .int n49_1_16, .ref q0_17, .ref q0_18, .ref q0_19, .int q0_20, .ref q0_21, .ref q0_22, .int q0_23, .int q0_24, .int q0_25, .ref q0_26, .ref q0_27, .ref q0_28, .ref q0_29, .ref q0_30, .ref q0_31, .int q0_32, .ref q0_33, .ref q0_34, .ref q0_35])) :: (q0_28, .inl (cs.1, 229376, .inl F49_2)) :: (q0_17, .inl (cs.2.1, 14, .inl F49_3)) :: X) H := HT.layA hH t_q0_1 (show sp cs T (8, 3906, hg) _ from ⟨_, rfl, s_f1, fun _ => g_f1⟩)
                    have hH : HT D cs A T (q0_28 :: q0_17 :: O) ((q0_28, .inl (cs.1, 229376, .inl F49_2)) :: (q0_17, .inl (cs.2.1, 14, .inl F49_3)) :: X) H := HT.lay (ci := 12) hH t_a0 (okL_c (⟨_, rfl⟩) (okL_c (⟨_, rfl, t_q0_1⟩) (okL_c (⟨_, rfl, t_q0_2⟩) (okL_c (⟨_, rfl, t_q0_3⟩) (okL_c (⟨_, rfl, t_q0_4⟩) (okL_c (⟨_, rfl, by omega, by omega, by omega⟩) (okL_c (⟨_, rfl⟩) (okL_c (⟨_, rfl⟩) (okL_c (⟨_, rfl⟩) (okL_c (⟨_, rfl⟩) (okL_c (⟨_, rfl, by omega, by omega⟩) (okL_c (⟨_, rfl⟩) (okL_c (⟨_, rfl⟩) (okL_c (⟨_, rfl, by omega⟩) (okL_c (⟨_, rfl, by omega⟩) (okL_c (⟨_, rfl, t_q0_15⟩) (okL_c (⟨_, rfl⟩) (okL_c (⟨_, rfl, t_q0_17⟩) (okL_c (⟨_, rfl, t_q0_18⟩) (okL_c (⟨_, rfl, t_q0_19⟩) (okL_c (⟨_, rfl, by omega, by omega⟩) (okL_c (⟨_, rfl, t_q0_21⟩) (okL_c (⟨_, rfl, t_q0_22⟩) (okL_c (⟨_, rfl⟩) (okL_c (⟨_, rfl⟩) (okL_c (⟨_, rfl⟩) (okL_c (⟨_, rfl, t_q0_26⟩) (okL_c (⟨_, rfl, t_q0_27⟩) (okL_c (⟨_, rfl, t_q0_28⟩) (okL_c (⟨_, rfl, t_q0_29⟩) (okL_c (⟨_, rfl, t_q0_30⟩) (okL_c (⟨_, rfl, t_q0_31⟩) (okL_c (⟨_, rfl⟩) (okL_c (⟨_, rfl, t_q0_33⟩) (okL_c (⟨_, rfl, t_q0_34⟩) (okL_c (⟨_, rfl, t_q0_35⟩) (okL_n)))))))))))))))))))))))))))))))))))))
                    have hO := hO0
                    have hH : HT D cs A T (q0_17 :: O) ((q0_17, .inl (cs.2.1, 14, .inl F49_3)) :: X) H := HT.layA hH t_q0_28 (show sp cs T (0, 229376, 0) _ from ⟨_, rfl⟩)
                    have hH : HT D cs A T O X H := HT.layA hH t_q0_17 (show sp cs T (9, 14, 1) _ from ⟨_, rfl, c_F49_3⟩)
                    exact te_i hx hb hr hlocks hH hS (⟨rfl, by omega, by omega⟩) dX12_order_207
                  · skip
                    have fuc120 := full_i p114_8
                    have fvc120 := full_i v119
                    have tc120 := g_nle c120
                    refine lv_aload_n hx hb dX12_order_123 rfl (lv_at hl 4 rfl) ?_
                    refine lv_iload hx hb dX12_order_124 (lv_at hl 1 rfl) ?_
                    refine lv_iload hx hb dX12_order_126 (lv_at hl 3 rfl) ?_
                    have z9_0 : (0 : Int32).toInt = 0 := by decide
                    refine tk_i hH hS hA (tr_V (n := 2) (As := [.int p114_6, .int p114_4]) hx hb hml hown hts hkb hH (ox_c (ox_c (ox_c (ox_c hOX)))) hks hE hS hA (s_M_moreByX l D cs kf T O X a0 hg mq p114_6 p114_4 f1 (.int 0) q0_1 (.ref q0_2) (.ref q0_3) (.ref q0_4) (.int q0_5) (.int q0_6) (.int q0_7) (.int q0_8) (.int q0_9) (.int q0_10) (.int q0_11) (.int q0_12) (.int q0_13) (.int q0_14) q0_15 n49_1_16 q0_17 (.ref q0_18) (.ref q0_19) (.int q0_20) (.ref q0_21) (.ref q0_22) (.int q0_23) (.int q0_24) (.int q0_25) (.ref q0_26) (.ref q0_27) q0_28 [.ref q0_29, .ref q0_30, .ref q0_31, .int q0_32, .ref q0_33, .ref q0_34, .ref q0_35] F49_2 F49_3 t_a0 b_hg (by omega) (by omega) (by omega) (by omega) s_f1 g_f1 t_q0_1 t_q0_15 t_q0_17 t_q0_28 (hO.sub (by decide))) kw_1736 kw_1738 ks_102 kw_13 kw_1739 (by decide +kernel) ⟨Nat.le_of_ble_eq_true rfl, Nat.le_of_ble_eq_true rfl⟩ (x_recv (ci := 12) hkb hH 1 rfl rfl) rfl rfl hl.1 (Nat.le_of_ble_eq_true rfl) dX12_order_128 ⟨Nat.le_of_ble_eq_true rfl, Nat.le_of_ble_eq_true rfl⟩) (fun v128 u H locs hz9 hH hS => ?_)
                    obtain ⟨rfl, x_v1280⟩ := hz9
                    have hH : HT D cs A T (q0_1 :: a0 :: q0_28 :: q0_17 :: O) ((q0_1, .inl (cs.2.1, 3906, .inl f1)) :: (a0, .inr (12, [.int 0, .ref q0_1, .ref q0_2, .ref q0_3, .ref q0_4, .int q0_5, .int q0_6, .int q0_7, .int q0_8, .int q0_9, .int q0_10, .int q0_11, .int q0_12, .int q0_13, .int q0_14, .ref q0_15, .int n49_1_16, .ref q0_17, .ref q0_18, .ref q0_19, .int q0_20, .ref q0_21, .ref q0_22, .int q0_23, .int q0_24, .int q0_25, .ref q0_26, .ref q0_27, .ref q0_28, .ref q0_29, .ref q0_30, .ref q0_31, .int q0_32, .ref q0_33, .ref q0_34, .ref q0_35])) :: (q0_28, .inl (cs.1, 229376, .inl F49_2)) :: (q0_17, .inl (cs.2.1, 14, .inl F49_3)) :: X) H := hH
                    refine W.widen (k := 0) (n := 0) (Nat.le_of_ble_eq_true rfl) (Nat.le_of_ble_eq_true rfl) ?_
                    have e128 : v128.toInt = v86.toInt - p114_8.toInt := by rw [x_v1280]; exact i114.2.2.2.2.1
                    have b128 : 1 ≤ v128.toInt ∧ v128.toInt ≤ 98 := by omega
                    refine lv_iconst (v := 1) hx hb dX12_order_131 (by decide) ?_
                    refine lv_isub hx hb dX12_order_132 ?_
                    refine lv_topi (fun v132 ev132 => ?_)
                    have tv132 : v132.toInt = v128.toInt - (1) := by rw [ev132]; exact sub_i rfl (by decide : (1 : Int32).toInt = 1) (by omega) (by omega)
                    refine lv_istore (lv' := [(9, .int v132), (8, .int p114_8), (6, .int p114_6), (5, .int v72), (4, .int p114_4), (0, .ref a0), (3, .int x3)]) hx hb dX12_order_133 hl (by decide) rfl (fun ls hl => ?_)
                    refine lv_iconst (v := 0) hx hb dX12_order_135 (by decide) ?_
                    have J138 : ∀ (n : Nat) (p138_10 : Int32) (H : Heap) (locs : List Loc) (ls : Array Slot), (14 - p138_10.toInt).toNat = n → (0 ≤ p138_10.toInt) → (p138_10.toInt ≤ 13) → (LPx hg v72 F49_3 F49_2 p114_4 p114_6 v132.toInt p138_10.toInt.toNat) → HT D cs A T (q0_1 :: a0 :: q0_28 :: q0_17 :: O) ((q0_1, .inl (cs.2.1, 3906, .inl f1)) :: (a0, .inr (12, [.int 0, .ref q0_1, .ref q0_2, .ref q0_3, .ref q0_4, .int q0_5, .int q0_6, .int q0_7, .int q0_8, .int q0_9, .int q0_10, .int q0_11, .int q0_12, .int q0_13, .int q0_14, .ref q0_15, .int n49_1_16, .ref q0_17, .ref q0_18, .ref q0_19, .int q0_20, .ref q0_21, .ref q0_22, .int q0_23, .int q0_24, .int q0_25, .ref q0_26, .ref q0_27, .ref q0_28, .ref q0_29, .ref q0_30, .ref q0_31, .int q0_32, .ref q0_33, .ref q0_34, .ref q0_35])) :: (q0_28, .inl (cs.1, 229376, .inl F49_2)) :: (q0_17, .inl (cs.2.1, 14, .inl F49_3)) :: X) H → va_S A s.heap H locs → lv_has ls 11 [(10, .int p138_10), (9, .int v132), (8, .int p114_8), (6, .int p114_6), (5, .int v72), (4, .int p114_4), (0, .ref a0), (3, .int x3)] → W p l e { frames := 6, cells := 0, slots := 0, locals := 144 } s m [.ref a0, .int x1, .int x2, .int x3].toArray below meth c H locs 0 0 (MQ below (Ti D cs (fun r u => u = (T, O, X) ∧ -3 ≤ r.toInt ∧ r.toInt ≤ 99) A) [.ref a0, .int x1, .int x2, .int x3].toArray s 0 0 A) (F0 m 138 ls []) := by
                      intro n
                      induction n using Nat.strongRecOn with
                      | _ n ih138 =>
                        intro p138_10 H locs ls hm138 l_p138_10 u_p138_10 i138 hH hS hl
                        refine lv_aload_n hx hb dX12_order_138 rfl (lv_at hl 6 rfl) ?_
                        refine x_getk (ci := 12) (C := RX12) (F := TX12) (N := 36) (v := .ref q0_17) hx hb hts uX12 hown hkb hH 1 rfl rfl 17 (by decide) rfl kw_1240 (fun _ h9 => h9) dX12_order_139 ?_
                        refine lv_iload hx hb dX12_order_142 (lv_at hl 5 rfl) ?_
                        refine xa_ild hx hb hkb hH 3 rfl (by omega) (by omega) dX12_order_144 ?_
                        refine lv_topi (fun v144 ev144 => ?_)
                        have tv144 : v144 = F49_3 p114_4.toInt.toNat := ev144
                        refine lv_iload hx hb dX12_order_145 (lv_at hl 4 rfl) ?_
                        refine lv_iand hx hb dX12_order_147 ?_
                        refine lv_topi (fun v147 ev147 => ?_)
                        have tv147 : 0 ≤ v147.toInt ∧ v147.toInt ≤ v72.toInt := by rw [ev147]; exact and_r (by omega)
                        refine lv_iload hx hb dX12_order_148 (lv_at hl 3 rfl) ?_
                        refine lv_iconst (v := (-1)) hx hb dX12_order_150 (by decide) ?_
                        refine lv_ixor hx hb dX12_order_151 ?_
                        refine lv_topi (fun v151 ev151 => ?_)
                        refine lv_iand hx hb dX12_order_152 ?_
                        refine lv_topi (fun v152 ev152 => ?_)
                        have tv152 : 0 ≤ v152.toInt ∧ v152.toInt ≤ v147.toInt := by rw [ev152]; exact and_l (by omega)
                        refine lv_i2l hx hb dX12_order_153 rfl ?_
                        have hb9 := LPx_bits (k := p138_10) tv144 ev147 (by omega) (by omega) ev151 (by omega) ev152 (by omega) (by omega) (by omega)
                        refine lv_iload hx hb dX12_order_154 (lv_at hl 0 rfl) ?_
                        refine tk_i hH hS hA (tr_S (n := 2) (As := [.long v152.toInt64, .int p138_10]) hx hb hml hown hts hkb hH (ox_c (ox_c (ox_c (ox_c hOX)))) hks hE hS hA (s_M_isIn2 l D cs kf T (q0_1 :: a0 :: q0_28 :: q0_17 :: O) ((q0_1, .inl (cs.2.1, 3906, .inl f1)) :: (a0, .inr (12, [.int 0, .ref q0_1, .ref q0_2, .ref q0_3, .ref q0_4, .int q0_5, .int q0_6, .int q0_7, .int q0_8, .int q0_9, .int q0_10, .int q0_11, .int q0_12, .int q0_13, .int q0_14, .ref q0_15, .int n49_1_16, .ref q0_17, .ref q0_18, .ref q0_19, .int q0_20, .ref q0_21, .ref q0_22, .int q0_23, .int q0_24, .int q0_25, .ref q0_26, .ref q0_27, .ref q0_28, .ref q0_29, .ref q0_30, .ref q0_31, .int q0_32, .ref q0_33, .ref q0_34, .ref q0_35])) :: (q0_28, .inl (cs.1, 229376, .inl F49_2)) :: (q0_17, .inl (cs.2.1, 14, .inl F49_3)) :: X) v152.toInt64 p138_10  (hO.sub (by decide))) kw_1440 kw_1441 kw_13 kw_1442 (by decide +kernel) ⟨Nat.le_of_ble_eq_true rfl, Nat.le_of_ble_eq_true rfl⟩ rfl rfl hl.1 (Nat.le_of_ble_eq_true rfl) dX12_order_156 ⟨Nat.le_of_ble_eq_true rfl, Nat.le_of_ble_eq_true rfl⟩) (fun v156 u H locs hz9 hH hS => ?_)
                        obtain ⟨rfl, l_v156, u_v156, x_v1560⟩ := hz9
                        have hH : HT D cs A T (q0_1 :: a0 :: q0_28 :: q0_17 :: O) ((q0_1, .inl (cs.2.1, 3906, .inl f1)) :: (a0, .inr (12, [.int 0, .ref q0_1, .ref q0_2, .ref q0_3, .ref q0_4, .int q0_5, .int q0_6, .int q0_7, .int q0_8, .int q0_9, .int q0_10, .int q0_11, .int q0_12, .int q0_13, .int q0_14, .ref q0_15, .int n49_1_16, .ref q0_17, .ref q0_18, .ref q0_19, .int q0_20, .ref q0_21, .ref q0_22, .int q0_23, .int q0_24, .int q0_25, .ref q0_26, .ref q0_27, .ref q0_28, .ref q0_29, .ref q0_30, .ref q0_31, .int q0_32, .ref q0_33, .ref q0_34, .ref q0_35])) :: (q0_28, .inl (cs.1, 229376, .inl F49_2)) :: (q0_17, .inl (cs.2.1, 14, .inl F49_3)) :: X) H := hH
                        refine W.widen (k := 0) (n := 0) (Nat.le_of_ble_eq_true rfl) (Nat.le_of_ble_eq_true rfl) ?_
                        have J180 : ∀  (H : Heap) (locs : List Loc) (ls : Array Slot), (LPx hg v72 F49_3 F49_2 p114_4 p114_6 v132.toInt (p138_10.toInt.toNat + 1)) → HT D cs A T (q0_1 :: a0 :: q0_28 :: q0_17 :: O) ((q0_1, .inl (cs.2.1, 3906, .inl f1)) :: (a0, .inr (12, [.int 0, .ref q0_1, .ref q0_2, .ref q0_3, .ref q0_4, .int q0_5, .int q0_6, .int q0_7, .int q0_8, .int q0_9, .int q0_10, .int q0_11, .int q0_12, .int q0_13, .int q0_14, .ref q0_15, .int n49_1_16, .ref q0_17, .ref q0_18, .ref q0_19, .int q0_20, .ref q0_21, .ref q0_22, .int q0_23, .int q0_24, .int q0_25, .ref q0_26, .ref q0_27, .ref q0_28, .ref q0_29, .ref q0_30, .ref q0_31, .int q0_32, .ref q0_33, .ref q0_34, .ref q0_35])) :: (q0_28, .inl (cs.1, 229376, .inl F49_2)) :: (q0_17, .inl (cs.2.1, 14, .inl F49_3)) :: X) H → va_S A s.heap H locs → lv_has ls 11 [(10, .int p138_10), (9, .int v132), (8, .int p114_8), (6, .int p114_6), (5, .int v72), (4, .int p114_4), (0, .ref a0), (3, .int x3)] → W p l e { frames := 6, cells := 0, slots := 0, locals := 144 } s m [.ref a0, .int x1, .int x2, .int x3].toArray below meth c H locs 0 0 (MQ below (Ti D cs (fun r u => u = (T, O, X) ∧ -3 ≤ r.toInt ∧ r.toInt ≤ 99) A) [.ref a0, .int x1, .int x2, .int x3].toArray s 0 0 A) (F0 m 180 ls []) := by
                          intro  H locs ls i180 hH hS hl
                          have l180 := i180.lt
                          obtain ⟨v180, ev180⟩ : ∃ y : Int32, y = p138_10 + 1 := ⟨_, rfl⟩
                          have tv180 : v180.toInt = p138_10.toInt + (1) := by rw [ev180]; exact add_i rfl (by decide) (by omega) (by omega)
                          refine lv_iinc (v := v180) (lv' := [(10, .int v180), (9, .int v132), (8, .int p114_8), (6, .int p114_6), (5, .int v72), (4, .int p114_4), (0, .ref a0), (3, .int x3)]) hx hb dX12_order_180 hl (k := 0) rfl (by rw [ev180]; rfl) (by decide) rfl (fun ls hl => ?_)
                          refine lv_goto (tgt := 138) hx hb dX12_order_183 (by decide) ?_
                          exact ih138 _ (by omega) v180 _ _ _ rfl (by omega) (by omega) (by first | (refine LPx_e i180 ?_; omega) | (refine LPx_0 w9 i114 ?_ ?_ e128 tv132 (by decide) <;> omega)) hH hS (lv_sub hl [0, 1, 2, 3, 4, 5, 6, 7] rfl)
                        refine lv_if_eq (tgt := 180) hx hb dX12_order_159 (by decide) (fun c159 => ?_) (fun c159 => ?_)
                        · skip
                          have tc159 := f_eq (k := 0) (by decide) c159
                          exact J180  _ _ _ (by first | (refine LPx_no i138 hb9 x_v1560 ?_; omega) | (refine LPx_ne i138 ?_ ?_ ?_ ev168 ev169 ?_ ?_ x_v1720 ?_ <;> omega)) hH hS (lv_sub hl [0, 1, 2, 3, 4, 5, 6, 7] rfl)
                        · skip
                          have tc159 := f_ne (k := 0) (by decide) c159
                          refine lv_aload_n hx hb dX12_order_162 rfl (lv_at hl 6 rfl) ?_
                          refine lv_iload hx hb dX12_order_163 (lv_at hl 3 rfl) ?_
                          refine lv_iconst (v := 1) hx hb dX12_order_165 (by decide) ?_
                          refine lv_iload hx hb dX12_order_166 (lv_at hl 0 rfl) ?_
                          refine lv_ishl hx hb dX12_order_168 ?_
                          refine lv_topi (fun v168 ev168 => ?_)
                          have tv168 : 1 ≤ v168.toInt ∧ v168.toInt ≤ 8192 := by rw [ev168]; exact shl_b 13 (by decide) (by omega) (by omega)
                          refine lv_ior hx hb dX12_order_169 ?_
                          refine lv_topi (fun v169 ev169 => ?_)
                          have tv169 : 0 ≤ v169.toInt ∧ v169.toInt < 16384 := by rw [ev169]; exact or_b 14 (by decide) (by omega) (by omega) (by omega) (by omega)
                          refine lv_iload hx hb dX12_order_170 (lv_at hl 0 rfl) ?_
                          have z9_0 : (0 : Int32).toInt = 0 := by decide
                          refine tk_i hH hS hA (tr_V (n := 2) (As := [.int v169, .int p138_10]) hx hb hml hown hts hkb hH (ox_c (ox_c (ox_c (ox_c hOX)))) hks hE hS hA (s_M_moreByX l D cs kf T O X a0 hg mq v169 p138_10 f1 (.int 0) q0_1 (.ref q0_2) (.ref q0_3) (.ref q0_4) (.int q0_5) (.int q0_6) (.int q0_7) (.int q0_8) (.int q0_9) (.int q0_10) (.int q0_11) (.int q0_12) (.int q0_13) (.int q0_14) q0_15 n49_1_16 q0_17 (.ref q0_18) (.ref q0_19) (.int q0_20) (.ref q0_21) (.ref q0_22) (.int q0_23) (.int q0_24) (.int q0_25) (.ref q0_26) (.ref q0_27) q0_28 [.ref q0_29, .ref q0_30, .ref q0_31, .int q0_32, .ref q0_33, .ref q0_34, .ref q0_35] F49_2 F49_3 t_a0 b_hg (by omega) (by omega) (by omega) (by omega) s_f1 g_f1 t_q0_1 t_q0_15 t_q0_17 t_q0_28 (hO.sub (by decide))) kw_1736 kw_1738 ks_102 kw_13 kw_1739 (by decide +kernel) ⟨Nat.le_of_ble_eq_true rfl, Nat.le_of_ble_eq_true rfl⟩ (x_recv (ci := 12) hkb hH 1 rfl rfl) rfl rfl hl.1 (Nat.le_of_ble_eq_true rfl) dX12_order_172 ⟨Nat.le_of_ble_eq_true rfl, Nat.le_of_ble_eq_true rfl⟩) (fun v172 u H locs hz9 hH hS => ?_)
                          obtain ⟨rfl, x_v1720⟩ := hz9
                          have hH : HT D cs A T (q0_1 :: a0 :: q0_28 :: q0_17 :: O) ((q0_1, .inl (cs.2.1, 3906, .inl f1)) :: (a0, .inr (12, [.int 0, .ref q0_1, .ref q0_2, .ref q0_3, .ref q0_4, .int q0_5, .int q0_6, .int q0_7, .int q0_8, .int q0_9, .int q0_10, .int q0_11, .int q0_12, .int q0_13, .int q0_14, .ref q0_15, .int n49_1_16, .ref q0_17, .ref q0_18, .ref q0_19, .int q0_20, .ref q0_21, .ref q0_22, .int q0_23, .int q0_24, .int q0_25, .ref q0_26, .ref q0_27, .ref q0_28, .ref q0_29, .ref q0_30, .ref q0_31, .int q0_32, .ref q0_33, .ref q0_34, .ref q0_35])) :: (q0_28, .inl (cs.1, 229376, .inl F49_2)) :: (q0_17, .inl (cs.2.1, 14, .inl F49_3)) :: X) H := hH
                          refine W.widen (k := 0) (n := 0) (Nat.le_of_ble_eq_true rfl) (Nat.le_of_ble_eq_true rfl) ?_
                          refine lv_iload hx hb dX12_order_175 (lv_at hl 1 rfl) ?_
                          refine lv_icmp_eq (tgt := 186) hx hb dX12_order_177 (by decide) (fun c177 => ?_) (fun c177 => ?_)
                          · skip
                            have fuc177 := full_i v172
                            have fvc177 := full_i v132
                            have tc177 := g_eq c177
                            refine lv_iload hx hb dX12_order_186 (lv_at hl 0 rfl) ?_
                            refine lv_istore (lv' := [(4, .int p138_10), (10, .int p138_10), (9, .int v132), (8, .int p114_8), (6, .int p114_6), (5, .int v72), (0, .ref a0), (3, .int x3)]) hx hb dX12_order_188 hl (by decide) rfl (fun ls hl => ?_)
                            refine lv_iload hx hb dX12_order_190 (lv_at hl 4 rfl) ?_
                            refine lv_iconst (v := 1) hx hb dX12_order_192 (by decide) ?_
                            refine lv_iload hx hb dX12_order_193 (lv_at hl 1 rfl) ?_
                            refine lv_ishl hx hb dX12_order_195 ?_
                            refine lv_topi (fun v195 ev195 => ?_)
                            have tv195 : 1 ≤ v195.toInt ∧ v195.toInt ≤ 8192 := by rw [ev195]; exact shl_b 13 (by decide) (by omega) (by omega)
                            refine lv_ior hx hb dX12_order_196 ?_
                            refine lv_topi (fun v196 ev196 => ?_)
                            have tv196 : 0 ≤ v196.toInt ∧ v196.toInt < 16384 := by rw [ev196]; exact or_b 14 (by decide) (by omega) (by omega) (by omega) (by omega)
                            refine lv_istore (lv' := [(6, .int v196), (4, .int p138_10), (10, .int p138_10), (9, .int v132), (8, .int p114_8), (5, .int v72), (0, .ref a0), (3, .int x3)]) hx hb dX12_order_197 hl (by decide) rfl (fun ls hl => ?_)
                            obtain ⟨v199, ev199⟩ : ∃ y : Int32, y = p114_8 + 1 := ⟨_, rfl⟩
                            have tv199 : v199.toInt = p114_8.toInt + (1) := by rw [ev199]; exact add_i rfl (by decide) (by omega) (by omega)
                            refine lv_iinc (v := v199) (lv' := [(8, .int v199), (6, .int v196), (4, .int p138_10), (10, .int p138_10), (9, .int v132), (5, .int v72), (0, .ref a0), (3, .int x3)]) hx hb dX12_order_199 hl (k := 4) rfl (by rw [ev199]; rfl) (by decide) rfl (fun ls hl => ?_)
                            refine lv_goto (tgt := 114) hx hb dX12_order_202 (by decide) ?_
                            exact ih114 _ (by omega) v199 v196 p138_10 _ _ _ rfl (by omega) (by omega) (by omega) (by omega) (by omega) (by omega) (by first | (rw [show (0 : Int32).toInt = 0 by decide, Int.sub_zero]; exact q86) | (refine LOx_n i114 i138 hb9 x_v1560 ?_ ?_ ?_ ?_ ev168 ev169 ?_ ?_ x_v1720 ?_ ev195 ev196 ?_ ?_ <;> omega)) hH hS (lv_sub hl [0, 1, 5, 2, 6, 7] rfl)
                          · skip
                            have fuc177 := full_i v172
                            have fvc177 := full_i v132
                            have tc177 := g_ne c177
                            exact J180  _ _ _ (by first | (refine LPx_no i138 hb9 x_v1560 ?_; omega) | (refine LPx_ne i138 ?_ ?_ ?_ ev168 ev169 ?_ ?_ x_v1720 ?_ <;> omega)) hH hS (lv_sub hl [0, 1, 2, 3, 4, 5, 6, 7] rfl)
                    refine lv_istore (lv' := [(10, .int 0), (9, .int v132), (8, .int p114_8), (6, .int p114_6), (5, .int v72), (4, .int p114_4), (0, .ref a0), (3, .int x3)]) hx hb dX12_order_136 hl (by decide) rfl (fun ls hl => ?_)
                    have z_0 : (0 : Int32).toInt = 0 := by decide
                    exact J138 _ 0 _ _ _ rfl (by decide) (by decide) (by first | (refine LPx_e i180 ?_; omega) | (refine LPx_0 w9 i114 ?_ ?_ e128 tv132 (by decide) <;> omega)) hH hS (lv_sub hl [0, 1, 2, 3, 4, 5, 6, 7] rfl)
              refine lv_istore (lv' := [(8, .int 0), (7, .int v90), (6, .int v78), (5, .int v72), (4, .int v49), (0, .ref a0), (1, .int x1), (2, .int x2), (3, .int x3)]) hx hb dX12_order_112 hl (by decide) rfl (fun ls hl => ?_)
              have z_0 : (0 : Int32).toInt = 0 := by decide
              exact J114 _ 0 v78 v49 _ _ _ rfl (by decide) (by decide) (by omega) (by omega) (by omega) (by omega) (by first | (rw [show (0 : Int32).toInt = 0 by decide, Int.sub_zero]; exact q86) | (refine LOx_n i114 i138 hb9 x_v1560 ?_ ?_ ?_ ?_ ev168 ev169 ?_ ?_ x_v1720 ?_ ev195 ev196 ?_ ?_ <;> omega)) hH hS (lv_sub hl [0, 2, 3, 4, 5, 8] rfl)
            · skip
              have fuc106 := full_i v103
              have fvc106 := full_i v90
              have tc106 := g_nlt c106
              refine lv_iconst (v := (-1)) hx hb dX12_order_109 (by decide) ?_
              have hH : HT D cs A T (a0 :: q0_28 :: q0_17 :: O) ((a0, .inr (12, [.int 0, .ref q0_1, .ref q0_2, .ref q0_3, .ref q0_4, .int q0_5, .int q0_6, .int q0_7, .int q0_8, .int q0_9, .int q0_10, .int q0_11, .int q0_12, .int q0_13, .int q0_14, .ref q0_15, .int n49_1_16, .ref q0_17, .ref q0_18, .ref q0_19, .int q0_20, .ref q0_21, .ref q0_22, .int q0_23, .int q0_24, .int q0_25, .ref q0_26, .ref q0_27, .ref q0_28, .ref q0_29, .ref q0_30, .ref q0_31, .int q0_32, .ref q0_33, .ref q0_34, .ref q0_35])) :: (q0_28, .inl (cs.1, 229376, .inl F49_2)) :: (q0_17, .inl (cs.2.1, 14, .inl F49_3)) :: X) H := HT.layA hH t_q0_1 (show sp cs T (8, 3906, hg) _ from ⟨_, rfl, s_f1, fun _ => g_f1⟩)
              have hH : HT D cs A T (q0_28 :: q0_17 :: O) ((q0_28, .inl (cs.1, 229376, .inl F49_2)) :: (q0_17, .inl (cs.2.1, 14, .inl F49_3)) :: X) H := HT.lay (ci := 12) hH t_a0 (okL_c (⟨_, rfl⟩) (okL_c (⟨_, rfl, t_q0_1⟩) (okL_c (⟨_, rfl, t_q0_2⟩) (okL_c (⟨_, rfl, t_q0_3⟩) (okL_c (⟨_, rfl, t_q0_4⟩) (okL_c (⟨_, rfl, by omega, by omega, by omega⟩) (okL_c (⟨_, rfl⟩) (okL_c (⟨_, rfl⟩) (okL_c (⟨_, rfl⟩) (okL_c (⟨_, rfl⟩) (okL_c (⟨_, rfl, by omega, by omega⟩) (okL_c (⟨_, rfl⟩) (okL_c (⟨_, rfl⟩) (okL_c (⟨_, rfl, by omega⟩) (okL_c (⟨_, rfl, by omega⟩) (okL_c (⟨_, rfl, t_q0_15⟩) (okL_c (⟨_, rfl⟩) (okL_c (⟨_, rfl, t_q0_17⟩) (okL_c (⟨_, rfl, t_q0_18⟩) (okL_c (⟨_, rfl, t_q0_19⟩) (okL_c (⟨_, rfl, by omega, by omega⟩) (okL_c (⟨_, rfl, t_q0_21⟩) (okL_c (⟨_, rfl, t_q0_22⟩) (okL_c (⟨_, rfl⟩) (okL_c (⟨_, rfl⟩) (okL_c (⟨_, rfl⟩) (okL_c (⟨_, rfl, t_q0_26⟩) (okL_c (⟨_, rfl, t_q0_27⟩) (okL_c (⟨_, rfl, t_q0_28⟩) (okL_c (⟨_, rfl, t_q0_29⟩) (okL_c (⟨_, rfl, t_q0_30⟩) (okL_c (⟨_, rfl, t_q0_31⟩) (okL_c (⟨_, rfl⟩) (okL_c (⟨_, rfl, t_q0_33⟩) (okL_c (⟨_, rfl, t_q0_34⟩) (okL_c (⟨_, rfl, t_q0_35⟩) (okL_n)))))))))))))))))))))))))))))))))))))
              have hO := hO0
              have hH : HT D cs A T (q0_17 :: O) ((q0_17, .inl (cs.2.1, 14, .inl F49_3)) :: X) H := HT.layA hH t_q0_28 (show sp cs T (0, 229376, 0) _ from ⟨_, rfl⟩)
              have hH : HT D cs A T O X H := HT.layA hH t_q0_17 (show sp cs T (9, 14, 1) _ from ⟨_, rfl, c_F49_3⟩)
              have z9_m1 : ((-1) : Int32).toInt = -1 := by decide
              exact te_i hx hb hr hlocks hH hS (⟨rfl, by decide, by decide⟩) dX12_order_110
          · skip
            have tc94 := f_eq (k := 0) (by decide) c94
            refine lv_iload hx hb dX12_order_97 (lv_at hl 0 rfl) ?_
            have hH : HT D cs A T (a0 :: q0_28 :: q0_17 :: O) ((a0, .inr (12, [.int 0, .ref q0_1, .ref q0_2, .ref q0_3, .ref q0_4, .int q0_5, .int q0_6, .int q0_7, .int q0_8, .int q0_9, .int q0_10, .int q0_11, .int q0_12, .int q0_13, .int q0_14, .ref q0_15, .int n49_1_16, .ref q0_17, .ref q0_18, .ref q0_19, .int q0_20, .ref q0_21, .ref q0_22, .int q0_23, .int q0_24, .int q0_25, .ref q0_26, .ref q0_27, .ref q0_28, .ref q0_29, .ref q0_30, .ref q0_31, .int q0_32, .ref q0_33, .ref q0_34, .ref q0_35])) :: (q0_28, .inl (cs.1, 229376, .inl F49_2)) :: (q0_17, .inl (cs.2.1, 14, .inl F49_3)) :: X) H := HT.layA hH t_q0_1 (show sp cs T (8, 3906, hg) _ from ⟨_, rfl, s_f1, fun _ => g_f1⟩)
            have hH : HT D cs A T (q0_28 :: q0_17 :: O) ((q0_28, .inl (cs.1, 229376, .inl F49_2)) :: (q0_17, .inl (cs.2.1, 14, .inl F49_3)) :: X) H := HT.lay (ci := 12) hH t_a0 (okL_c (⟨_, rfl⟩) (okL_c (⟨_, rfl, t_q0_1⟩) (okL_c (⟨_, rfl, t_q0_2⟩) (okL_c (⟨_, rfl, t_q0_3⟩) (okL_c (⟨_, rfl, t_q0_4⟩) (okL_c (⟨_, rfl, by omega, by omega, by omega⟩) (okL_c (⟨_, rfl⟩) (okL_c (⟨_, rfl⟩) (okL_c (⟨_, rfl⟩) (okL_c (⟨_, rfl⟩) (okL_c (⟨_, rfl, by omega, by omega⟩) (okL_c (⟨_, rfl⟩) (okL_c (⟨_, rfl⟩) (okL_c (⟨_, rfl, by omega⟩) (okL_c (⟨_, rfl, by omega⟩) (okL_c (⟨_, rfl, t_q0_15⟩) (okL_c (⟨_, rfl⟩) (okL_c (⟨_, rfl, t_q0_17⟩) (okL_c (⟨_, rfl, t_q0_18⟩) (okL_c (⟨_, rfl, t_q0_19⟩) (okL_c (⟨_, rfl, by omega, by omega⟩) (okL_c (⟨_, rfl, t_q0_21⟩) (okL_c (⟨_, rfl, t_q0_22⟩) (okL_c (⟨_, rfl⟩) (okL_c (⟨_, rfl⟩) (okL_c (⟨_, rfl⟩) (okL_c (⟨_, rfl, t_q0_26⟩) (okL_c (⟨_, rfl, t_q0_27⟩) (okL_c (⟨_, rfl, t_q0_28⟩) (okL_c (⟨_, rfl, t_q0_29⟩) (okL_c (⟨_, rfl, t_q0_30⟩) (okL_c (⟨_, rfl, t_q0_31⟩) (okL_c (⟨_, rfl⟩) (okL_c (⟨_, rfl, t_q0_33⟩) (okL_c (⟨_, rfl, t_q0_34⟩) (okL_c (⟨_, rfl, t_q0_35⟩) (okL_n)))))))))))))))))))))))))))))))))))))
            have hO := hO0
            have hH : HT D cs A T (q0_17 :: O) ((q0_17, .inl (cs.2.1, 14, .inl F49_3)) :: X) H := HT.layA hH t_q0_28 (show sp cs T (0, 229376, 0) _ from ⟨_, rfl⟩)
            have hH : HT D cs A T O X H := HT.layA hH t_q0_17 (show sp cs T (9, 14, 1) _ from ⟨_, rfl, c_F49_3⟩)
            exact te_i hx hb hr hlocks hH hS (⟨rfl, by omega, by omega⟩) dX12_order_99
        · skip
          have tc57 := f_eq (k := -1) (by decide) c57
          refine lv_iconst (v := (-1)) hx hb dX12_order_60 (by decide) ?_
          have hH : HT D cs A T (a0 :: q0_28 :: q0_17 :: O) ((a0, .inr (12, [.int 0, .ref q0_1, .ref q0_2, .ref q0_3, .ref q0_4, .int q0_5, .int q0_6, .int q0_7, .int q0_8, .int q0_9, .int q0_10, .int q0_11, .int q0_12, .int q0_13, .int q0_14, .ref q0_15, .int n49_1_16, .ref q0_17, .ref q0_18, .ref q0_19, .int q0_20, .ref q0_21, .ref q0_22, .int q0_23, .int q0_24, .int q0_25, .ref q0_26, .ref q0_27, .ref q0_28, .ref q0_29, .ref q0_30, .ref q0_31, .int q0_32, .ref q0_33, .ref q0_34, .ref q0_35])) :: (q0_28, .inl (cs.1, 229376, .inl F49_2)) :: (q0_17, .inl (cs.2.1, 14, .inl F49_3)) :: X) H := HT.layA hH t_q0_1 (show sp cs T (8, 3906, hg) _ from ⟨_, rfl, s_f1, fun _ => g_f1⟩)
          have hH : HT D cs A T (q0_28 :: q0_17 :: O) ((q0_28, .inl (cs.1, 229376, .inl F49_2)) :: (q0_17, .inl (cs.2.1, 14, .inl F49_3)) :: X) H := HT.lay (ci := 12) hH t_a0 (okL_c (⟨_, rfl⟩) (okL_c (⟨_, rfl, t_q0_1⟩) (okL_c (⟨_, rfl, t_q0_2⟩) (okL_c (⟨_, rfl, t_q0_3⟩) (okL_c (⟨_, rfl, t_q0_4⟩) (okL_c (⟨_, rfl, by omega, by omega, by omega⟩) (okL_c (⟨_, rfl⟩) (okL_c (⟨_, rfl⟩) (okL_c (⟨_, rfl⟩) (okL_c (⟨_, rfl⟩) (okL_c (⟨_, rfl, by omega, by omega⟩) (okL_c (⟨_, rfl⟩) (okL_c (⟨_, rfl⟩) (okL_c (⟨_, rfl, by omega⟩) (okL_c (⟨_, rfl, by omega⟩) (okL_c (⟨_, rfl, t_q0_15⟩) (okL_c (⟨_, rfl⟩) (okL_c (⟨_, rfl, t_q0_17⟩) (okL_c (⟨_, rfl, t_q0_18⟩) (okL_c (⟨_, rfl, t_q0_19⟩) (okL_c (⟨_, rfl, by omega, by omega⟩) (okL_c (⟨_, rfl, t_q0_21⟩) (okL_c (⟨_, rfl, t_q0_22⟩) (okL_c (⟨_, rfl⟩) (okL_c (⟨_, rfl⟩) (okL_c (⟨_, rfl⟩) (okL_c (⟨_, rfl, t_q0_26⟩) (okL_c (⟨_, rfl, t_q0_27⟩) (okL_c (⟨_, rfl, t_q0_28⟩) (okL_c (⟨_, rfl, t_q0_29⟩) (okL_c (⟨_, rfl, t_q0_30⟩) (okL_c (⟨_, rfl, t_q0_31⟩) (okL_c (⟨_, rfl⟩) (okL_c (⟨_, rfl, t_q0_33⟩) (okL_c (⟨_, rfl, t_q0_34⟩) (okL_c (⟨_, rfl, t_q0_35⟩) (okL_n)))))))))))))))))))))))))))))))))))))
          have hO := hO0
          have hH : HT D cs A T (q0_17 :: O) ((q0_17, .inl (cs.2.1, 14, .inl F49_3)) :: X) H := HT.layA hH t_q0_28 (show sp cs T (0, 229376, 0) _ from ⟨_, rfl⟩)
          have hH : HT D cs A T O X H := HT.layA hH t_q0_17 (show sp cs T (9, 14, 1) _ from ⟨_, rfl, c_F49_3⟩)
          have z9_m1 : ((-1) : Int32).toInt = -1 := by decide
          exact te_i hx hb hr hlocks hH hS (⟨rfl, by decide, by decide⟩) dX12_order_61
      · skip
        have tc40 := f_eq (k := 0) (by decide) c40
        clear x_v370
        refine lv_bipush (v := (-3)) hx hb dX12_order_43 (by decide) ?_
        have hH : HT D cs A T (a0 :: q0_28 :: q0_17 :: O) ((a0, .inr (12, [.int 0, .ref q0_1, .ref q0_2, .ref q0_3, .ref q0_4, .int q0_5, .int q0_6, .int q0_7, .int q0_8, .int q0_9, .int q0_10, .int q0_11, .int q0_12, .int q0_13, .int q0_14, .ref q0_15, .int q0_16, .ref q0_17, .ref q0_18, .ref q0_19, .int q0_20, .ref q0_21, .ref q0_22, .int q0_23, .int q0_24, .int q0_25, .ref q0_26, .ref q0_27, .ref q0_28, .ref q0_29, .ref q0_30, .ref q0_31, .int q0_32, .ref q0_33, .ref q0_34, .ref q0_35])) :: (q0_28, .inl (cs.1, 229376, .inl f28)) :: (q0_17, .inl (cs.2.1, 14, .inl f17)) :: X) H := HT.layA hH t_q0_1 (show sp cs T (8, 3906, hg) _ from ⟨_, rfl, s_f1, fun _ => g_f1⟩)
        have hH : HT D cs A T (q0_28 :: q0_17 :: O) ((q0_28, .inl (cs.1, 229376, .inl f28)) :: (q0_17, .inl (cs.2.1, 14, .inl f17)) :: X) H := HT.lay (ci := 12) hH t_a0 (okL_c (⟨_, rfl⟩) (okL_c (⟨_, rfl, t_q0_1⟩) (okL_c (⟨_, rfl, t_q0_2⟩) (okL_c (⟨_, rfl, t_q0_3⟩) (okL_c (⟨_, rfl, t_q0_4⟩) (okL_c (⟨_, rfl, by omega, by omega, by omega⟩) (okL_c (⟨_, rfl⟩) (okL_c (⟨_, rfl⟩) (okL_c (⟨_, rfl⟩) (okL_c (⟨_, rfl⟩) (okL_c (⟨_, rfl, by omega, by omega⟩) (okL_c (⟨_, rfl⟩) (okL_c (⟨_, rfl⟩) (okL_c (⟨_, rfl, by omega⟩) (okL_c (⟨_, rfl, by omega⟩) (okL_c (⟨_, rfl, t_q0_15⟩) (okL_c (⟨_, rfl⟩) (okL_c (⟨_, rfl, t_q0_17⟩) (okL_c (⟨_, rfl, t_q0_18⟩) (okL_c (⟨_, rfl, t_q0_19⟩) (okL_c (⟨_, rfl, by omega, by omega⟩) (okL_c (⟨_, rfl, t_q0_21⟩) (okL_c (⟨_, rfl, t_q0_22⟩) (okL_c (⟨_, rfl⟩) (okL_c (⟨_, rfl⟩) (okL_c (⟨_, rfl⟩) (okL_c (⟨_, rfl, t_q0_26⟩) (okL_c (⟨_, rfl, t_q0_27⟩) (okL_c (⟨_, rfl, t_q0_28⟩) (okL_c (⟨_, rfl, t_q0_29⟩) (okL_c (⟨_, rfl, t_q0_30⟩) (okL_c (⟨_, rfl, t_q0_31⟩) (okL_c (⟨_, rfl⟩) (okL_c (⟨_, rfl, t_q0_33⟩) (okL_c (⟨_, rfl, t_q0_34⟩) (okL_c (⟨_, rfl, t_q0_35⟩) (okL_n)))))))))))))))))))))))))))))))))))))
        have hO := hO0
        have hH : HT D cs A T (q0_17 :: O) ((q0_17, .inl (cs.2.1, 14, .inl f17)) :: X) H := HT.layA hH t_q0_28 (show sp cs T (0, 229376, 0) _ from ⟨_, rfl⟩)
        have hH : HT D cs A T O X H := HT.layA hH t_q0_17 (show sp cs T (9, 14, 1) _ from ⟨_, rfl, c_f17⟩)
        have z9_m3 : ((-3) : Int32).toInt = -3 := by decide
        exact te_i hx hb hr hlocks hH hS (⟨rfl, by decide, by decide⟩) dX12_order_45
    refine lv_if_eq (tgt := 35) hx hb dX12_order_15 (by decide) (fun c15 => ?_) (fun c15 => ?_)
    · skip
      have tc15 := f_eq (k := 0) (by decide) c15
      exact J35  _ _ _ (by omega) (by omega) hH hS (lv_sub hl [0, 1, 2, 3] rfl)
    · skip
      have tc15 := f_ne (k := 0) (by decide) c15
      refine lv_iload_n hx hb dX12_order_18 rfl (lv_at hl 3 rfl) ?_
      refine lv_i2l hx hb dX12_order_19 rfl ?_
      refine lv_ldc2 hx hb hown (hts _ kw_1602) dX12_order_20 ?_
      refine lv_ldc2 hx hb hown (hts _ kw_1617) dX12_order_23 ?_
      refine tk_i hH hS hA (tr_S (n := 3) (As := [.long x3.toInt64, .long 10, .long 23]) hx hb hml hown hts hkb hH (ox_c (ox_c (ox_c (ox_c hOX)))) hks hE hS hA (s_M_within l D cs kf T (q0_1 :: a0 :: q0_28 :: q0_17 :: O) ((q0_1, .inl (cs.2.1, 3906, .inl f1)) :: (a0, .inr (12, [.int 0, .ref q0_1, .ref q0_2, .ref q0_3, .ref q0_4, .int q0_5, .int q0_6, .int q0_7, .int q0_8, .int q0_9, .int q0_10, .int q0_11, .int q0_12, .int q0_13, .int q0_14, .ref q0_15, .int q0_16, .ref q0_17, .ref q0_18, .ref q0_19, .int q0_20, .ref q0_21, .ref q0_22, .int q0_23, .int q0_24, .int q0_25, .ref q0_26, .ref q0_27, .ref q0_28, .ref q0_29, .ref q0_30, .ref q0_31, .int q0_32, .ref q0_33, .ref q0_34, .ref q0_35])) :: (q0_28, .inl (cs.1, 229376, .inl f28)) :: (q0_17, .inl (cs.2.1, 14, .inl f17)) :: X) x3.toInt64 10 23  (hO.sub (by decide))) kw_1341 kw_1342 kw_13 kw_1343 (by decide +kernel) ⟨Nat.le_of_ble_eq_true rfl, Nat.le_of_ble_eq_true rfl⟩ rfl rfl hl.1 (Nat.le_of_ble_eq_true rfl) dX12_order_26 ⟨Nat.le_of_ble_eq_true rfl, Nat.le_of_ble_eq_true rfl⟩) (fun v26 u H locs hz9 hH hS => ?_)
      obtain ⟨rfl, l_v26, u_v26, x_v260, x_v261⟩ := hz9
      simp only [Int32.toInt_toInt64] at x_v260 x_v261
      have k9_10 : (10 : Int64).toInt = 10 := by decide
      have k9_23 : (23 : Int64).toInt = 23 := by decide
      have hH : HT D cs A T (q0_1 :: a0 :: q0_28 :: q0_17 :: O) ((q0_1, .inl (cs.2.1, 3906, .inl f1)) :: (a0, .inr (12, [.int 0, .ref q0_1, .ref q0_2, .ref q0_3, .ref q0_4, .int q0_5, .int q0_6, .int q0_7, .int q0_8, .int q0_9, .int q0_10, .int q0_11, .int q0_12, .int q0_13, .int q0_14, .ref q0_15, .int q0_16, .ref q0_17, .ref q0_18, .ref q0_19, .int q0_20, .ref q0_21, .ref q0_22, .int q0_23, .int q0_24, .int q0_25, .ref q0_26, .ref q0_27, .ref q0_28, .ref q0_29, .ref q0_30, .ref q0_31, .int q0_32, .ref q0_33, .ref q0_34, .ref q0_35])) :: (q0_28, .inl (cs.1, 229376, .inl f28)) :: (q0_17, .inl (cs.2.1, 14, .inl f17)) :: X) H := hH
      refine W.widen (k := 0) (n := 0) (Nat.le_of_ble_eq_true rfl) (Nat.le_of_ble_eq_true rfl) ?_
      refine lv_if_ne (tgt := 35) hx hb dX12_order_29 (by decide) (fun c29 => ?_) (fun c29 => ?_)
      · skip
        have tc29 := f_ne (k := 0) (by decide) c29
        replace x_v260 := x_v260.resolve_left tc29
        clear x_v261
        exact J35  _ _ _ (by omega) (by omega) hH hS (lv_sub hl [0, 1, 2, 3] rfl)
      · skip
        have tc29 := f_eq (k := 0) (by decide) c29
        clear x_v260
        replace x_v261 := x_v261.resolve_left (fun q9 => q9 tc29)
        exact J32  _ _ _  hH hS (lv_sub hl [] rfl)
/-! what a fresh object answers, and small facts -/
theorem in_n {k n : Nat} (h : k < n) (hn : n < 2 ^ 31) : vp_in (nI k) n := nI_in h hn
theorem in_k {x : Int32} {k n : Nat} (hx : x = nI k) (h : k < n) (hn : n < 2 ^ 31) : vp_in x n := by rw [hx]; exact nI_in h hn
theorem upd_z (k : Nat) : upd (fun _ => 0) k 0 = fun _ => 0 := by
  funext j
  unfold upd
  split <;> rfl
/-- the reference's row of numbers while it is made plain: h HOLDS behind -/
def plh (h : Nat) : Nat → Int32 := fun k => if (59 ≤ k ∧ k < 59 + h) ∨ (73 ≤ k ∧ k < 73 + h) then -1 else 0
theorem plh_0 : (fun _ => 0) = plh 0 := by
  funext j
  unfold plh
  rw [if_neg (by omega)]
theorem plh_s (k : Nat) : upd (upd (plh k) (59 + k) (-1)) (73 + k) (-1) = plh (k + 1) := by
  funext j
  unfold upd plh
  by_cases h1 : j = 73 + k
  · rw [if_pos h1, if_pos (by omega)]
  · rw [if_neg h1]
    by_cases h2 : j = 59 + k
    · rw [if_pos h2, if_pos (by omega)]
    · rw [if_neg h2]
      by_cases h3 : (59 ≤ j ∧ j < 59 + k) ∨ (73 ≤ j ∧ j < 73 + k)
      · rw [if_pos h3, if_pos (by omega)]
      · rw [if_neg h3, if_neg (by omega)]
def F_wall (n : Int32) : Int32 := if n.toInt = 0 then 0 else -3
def F_fault (w : Int32) : Int32 := if w.toInt = 0 then 0 else -1
def F_judge (t w : Int32) : Int32 := if t.toInt < 0 ∨ 3 < t.toInt ∨ w.toInt < 0 ∨ 2 < w.toInt then -2 else -6
def F_tray (t : Int32) : Int32 := if t.toInt < 0 ∨ 3 < t.toInt then -2 else -6
theorem F_tray_n {t : Int32} (h : F_tray t = 0) : False := by
  unfold F_tray at h
  split at h <;> exact absurd h (by decide)
def F_days (n : Int32) : Int32 := if n.toInt < 1 ∨ 99 < n.toInt then -3 else n
def F_rain (n : Int32) : Int32 := if n.toInt < 1 ∨ 14 < n.toInt then -3 else 0
def F_season (n : Int32) : Int32 := if n.toInt < 1 ∨ 40 < n.toInt then -3 else -5
def F_whose (w : Int32) : Int32 := if w.toInt = 0 then 0 else -3
def F_inTurn (w k : Int32) : Int32 := if ¬ w.toInt = 0 then -3 else if k.toInt = 0 then 0 else if 10 ≤ k.toInt ∧ k.toInt ≤ 14 then -1 else -2
def F_numbers (t w n : Int32) : Int32 := if t.toInt < 0 ∨ 3 < t.toInt ∨ w.toInt < 0 ∨ 3 < w.toInt then -2 else if n.toInt < 0 ∨ 40 < n.toInt then -3 else 0
def F_write (t : Int32) : Int64 := (F_tray t).toInt64
def F_image (i : Int32) : Int32 := if i.toInt < 0 ∨ 1 < i.toInt then -2 else 0
def F_restore (i : Int32) : Int32 := if i.toInt < 0 ∨ 1 < i.toInt then -2 else -5
def F_count (w : Int32) : Int32 := if 0 ≤ w.toInt ∧ w.toInt ≤ 9 then 0 else -1
def F_isTray (t : Int32) : Int32 := if 0 ≤ t.toInt ∧ t.toInt ≤ 3 then 1 else 0
theorem F_isTray_0 {t : Int32} (h : F_isTray t = 0) : t.toInt < 0 ∨ 3 < t.toInt := by
  unfold F_isTray at h
  split at h
  · exact absurd h (by decide)
  · omega
theorem F_isTray_1 {t : Int32} (h : ¬ F_isTray t = 0) : 0 ≤ t.toInt ∧ t.toInt ≤ 3 := by
  unfold F_isTray at h
  split at h
  · omega
  · exact absurd rfl h
def F_isImage (t : Int32) : Int32 := if 0 ≤ t.toInt ∧ t.toInt ≤ 1 then 1 else 0
theorem F_isImage_0 {t : Int32} (h : F_isImage t = 0) : t.toInt < 0 ∨ 1 < t.toInt := by
  unfold F_isImage at h
  split at h
  · exact absurd h (by decide)
  · omega
theorem F_isImage_1 {t : Int32} (h : ¬ F_isImage t = 0) : 0 ≤ t.toInt ∧ t.toInt ≤ 1 := by
  unfold F_isImage at h
  split at h
  · omega
  · exact absurd rfl h
def F_asks5 (t : Int32) : Int32 := if t.toInt = 0 ∨ (10 ≤ t.toInt ∧ t.toInt ≤ 14) then 1 else 0
theorem F_asks5_0 {t : Int32} (h : F_asks5 t = 0) : ¬ t.toInt = 0 ∧ (t.toInt < 10 ∨ 14 < t.toInt) := by
  unfold F_asks5 at h
  split at h
  · exact absurd h (by decide)
  · omega
theorem F_asks5_1 {t : Int32} (h : ¬ F_asks5 t = 0) : t.toInt = 0 ∨ (10 ≤ t.toInt ∧ t.toInt ≤ 14) := by
  unfold F_asks5 at h
  split at h
  · omega
  · exact absurd rfl h
def F_isSet (t : Int32) : Int32 := if t.toInt = 0 then 1 else 0
theorem F_isSet_0 {t : Int32} (h : F_isSet t = 0) : ¬ t.toInt = 0 := by
  unfold F_isSet at h
  split at h
  · exact absurd h (by decide)
  · omega
theorem F_isSet_1 {t : Int32} (h : ¬ F_isSet t = 0) : t.toInt = 0 := by
  unfold F_isSet at h
  split at h
  · omega
  · exact absurd rfl h
theorem lg_self (x : Int64) : lg_cmp x x = 0 := (lg_cmp_eq x x).mpr rfl
/-- the reference's sorts of its TRAYS at first -/
def rs4 : Nat → Int32 := upd (upd (upd (upd (fun _ => 0) 0 (-1)) 1 (-1)) 2 (-1)) 3 (-1)
theorem rs4_at {t : Int32} (h0 : 0 ≤ t.toInt) (h3 : t.toInt ≤ 3) : rs4 t.toNatClampNeg = -1 := by
  have h : t.toNatClampNeg = t.toInt.toNat := rfl
  rcases (show t.toInt.toNat = 0 ∨ t.toInt.toNat = 1 ∨ t.toInt.toNat = 2 ∨ t.toInt.toNat = 3 by omega) with q | q | q | q <;> rw [h, q] <;> rfl
theorem in40 {t k v w : Int32} (h0 : 0 ≤ t.toInt) (h3 : t.toInt ≤ 3) (e1 : v = 40 * t) (e2 : w = v + k) (hz : (decide (40 * 0 + k < 0) || decide (160 ≤ (40 * 0 + k).toNatClampNeg) || (decide (40 * 1 + k < 0) || decide (160 ≤ (40 * 1 + k).toNatClampNeg)) || (decide (40 * 2 + k < 0) || decide (160 ≤ (40 * 2 + k).toNatClampNeg)) || (decide (40 * 3 + k < 0) || decide (160 ≤ (40 * 3 + k).toNatClampNeg))) = false) : vp_in w 160 := by
  simp only [Bool.or_eq_false_iff, decide_eq_false_iff_not] at hz
  obtain ⟨⟨⟨⟨a1, a2⟩, b1, b2⟩, c1, c2⟩, d1, d2⟩ := hz
  have ht : t = 0 ∨ t = 1 ∨ t = 2 ∨ t = 3 := by
    rcases (show t.toInt = 0 ∨ t.toInt = 1 ∨ t.toInt = 2 ∨ t.toInt = 3 by omega) with q | q | q | q
    · exact Or.inl (Int32.toInt_inj.mp (q.trans (by decide)))
    · exact Or.inr (Or.inl (Int32.toInt_inj.mp (q.trans (by decide))))
    · exact Or.inr (Or.inr (Or.inl (Int32.toInt_inj.mp (q.trans (by decide)))))
    · exact Or.inr (Or.inr (Or.inr (Int32.toInt_inj.mp (q.trans (by decide)))))
  subst e2 e1
  intro q
  rcases ht with rfl | rfl | rfl | rfl
  · exact q.elim a1 a2
  · exact q.elim b1 b2
  · exact q.elim c1 c2
  · exact q.elim d1 d2
def plc : Nat → Int32 := plh 14
theorem plc_s (k : Nat) (h : k < 14) : upd (upd plc (59 + k) (-1)) (73 + k) (-1) = plc := by
  funext j
  unfold plc upd plh
  by_cases h1 : j = 73 + k
  · rw [if_pos h1, if_pos (by omega)]
  · rw [if_neg h1]
    by_cases h2 : j = 59 + k
    · rw [if_pos h2, if_pos (by omega)]
    · rw [if_neg h2]
theorem ar_of {t : FieldType} {args : Array Value} {s : State} (h : (Cond.arrayClass t).before args s = true) (hp : ∀ (U : State) (k : ClassId), U.vm.findClass ("[" ++ t.toString) = some k → va_RA U k t) : ∃ cA : ClassId, ArrOfT s cA t ∧ va_RA s cA t := by
  obtain ⟨c, k, comp, h1, h2, h3⟩ := Cond.arrayClass_spec h
  exact ⟨c, fun n z => ⟨fun k h => (by cases h), k, h2, comp, h3⟩, hp s c h1⟩
theorem ao_of {C : String} {s : State} (h : va_AO C s) : ∃ cA : ClassId, ArrOfT s cA (.object C) ∧ va_RA s cA (.object C) := by
  obtain ⟨comp, c, k, h1, _, h3, h4, h5⟩ := Cond.arrayOver_spec h
  exact ⟨c, fun n z => ⟨fun k h => (by cases h), k, h3, comp, h4⟩, k, comp, h3, h4, h1, h5⟩
theorem dX0_init_0 : decode cX0_init 0 = .ok (.aload_n 0, 1) := by decide +kernel
theorem dX0_init_1 : decode cX0_init 1 = .ok (.invokespecial 3, 3) := by decide +kernel
theorem dX0_init_4 : decode cX0_init 4 = .ok (.aload_n 0, 1) := by decide +kernel
theorem dX0_init_5 : decode cX0_init 5 = .ok (.iconst 1, 1) := by decide +kernel
theorem dX0_init_6 : decode cX0_init 6 = .ok (.newarray .int, 2) := by decide +kernel
theorem dX0_init_8 : decode cX0_init 8 = .ok (.putfield 9, 3) := by decide +kernel
theorem dX0_init_11 : decode cX0_init 11 = .ok (.aload_n 0, 1) := by decide +kernel
theorem dX0_init_12 : decode cX0_init 12 = .ok (.iconst 0, 1) := by decide +kernel
theorem dX0_init_13 : decode cX0_init 13 = .ok (.putfield 15, 3) := by decide +kernel
theorem dX0_init_16 : decode cX0_init 16 = .ok (.aload_n 0, 1) := by decide +kernel
theorem dX0_init_17 : decode cX0_init 17 = .ok (.bipush 14, 2) := by decide +kernel
theorem dX0_init_19 : decode cX0_init 19 = .ok (.newarray .int, 2) := by decide +kernel
theorem dX0_init_21 : decode cX0_init 21 = .ok (.putfield 19, 3) := by decide +kernel
theorem dX0_init_24 : decode cX0_init 24 = .ok (.aload_n 0, 1) := by decide +kernel
theorem dX0_init_25 : decode cX0_init 25 = .ok (.bipush 14, 2) := by decide +kernel
theorem dX0_init_27 : decode cX0_init 27 = .ok (.newarray .int, 2) := by decide +kernel
theorem dX0_init_29 : decode cX0_init 29 = .ok (.putfield 22, 3) := by decide +kernel
theorem dX0_init_32 : decode cX0_init 32 = .ok (.return_, 1) := by decide +kernel
theorem dX10_init_0 : decode cX10_init 0 = .ok (.aload_n 0, 1) := by decide +kernel
theorem dX10_init_1 : decode cX10_init 1 = .ok (.invokespecial 3, 3) := by decide +kernel
theorem dX10_init_4 : decode cX10_init 4 = .ok (.aload_n 0, 1) := by decide +kernel
theorem dX10_init_5 : decode cX10_init 5 = .ok (.bipush 14, 2) := by decide +kernel
theorem dX10_init_7 : decode cX10_init 7 = .ok (.newarray .int, 2) := by decide +kernel
theorem dX10_init_9 : decode cX10_init 9 = .ok (.putfield 9, 3) := by decide +kernel
theorem dX10_init_12 : decode cX10_init 12 = .ok (.aload_n 0, 1) := by decide +kernel
theorem dX10_init_13 : decode cX10_init 13 = .ok (.bipush 14, 2) := by decide +kernel
theorem dX10_init_15 : decode cX10_init 15 = .ok (.newarray .int, 2) := by decide +kernel
theorem dX10_init_17 : decode cX10_init 17 = .ok (.putfield 15, 3) := by decide +kernel
theorem dX10_init_20 : decode cX10_init 20 = .ok (.aload_n 0, 1) := by decide +kernel
theorem dX10_init_21 : decode cX10_init 21 = .ok (.iconst 0, 1) := by decide +kernel
theorem dX10_init_22 : decode cX10_init 22 = .ok (.putfield 18, 3) := by decide +kernel
theorem dX10_init_25 : decode cX10_init 25 = .ok (.aload_n 0, 1) := by decide +kernel
theorem dX10_init_26 : decode cX10_init 26 = .ok (.bipush 14, 2) := by decide +kernel
theorem dX10_init_28 : decode cX10_init 28 = .ok (.newarray .long, 2) := by decide +kernel
theorem dX10_init_30 : decode cX10_init 30 = .ok (.putfield 22, 3) := by decide +kernel
theorem dX10_init_33 : decode cX10_init 33 = .ok (.aload_n 0, 1) := by decide +kernel
theorem dX10_init_34 : decode cX10_init 34 = .ok (.bipush 14, 2) := by decide +kernel
theorem dX10_init_36 : decode cX10_init 36 = .ok (.newarray .int, 2) := by decide +kernel
theorem dX10_init_38 : decode cX10_init 38 = .ok (.putfield 26, 3) := by decide +kernel
theorem dX10_init_41 : decode cX10_init 41 = .ok (.aload_n 0, 1) := by decide +kernel
theorem dX10_init_42 : decode cX10_init 42 = .ok (.bipush 14, 2) := by decide +kernel
theorem dX10_init_44 : decode cX10_init 44 = .ok (.newarray .int, 2) := by decide +kernel
theorem dX10_init_46 : decode cX10_init 46 = .ok (.putfield 29, 3) := by decide +kernel
theorem dX10_init_49 : decode cX10_init 49 = .ok (.aload_n 0, 1) := by decide +kernel
theorem dX10_init_50 : decode cX10_init 50 = .ok (.iconst 0, 1) := by decide +kernel
theorem dX10_init_51 : decode cX10_init 51 = .ok (.putfield 32, 3) := by decide +kernel
theorem dX10_init_54 : decode cX10_init 54 = .ok (.return_, 1) := by decide +kernel
theorem dX1_init_0 : decode cX1_init 0 = .ok (.aload_n 0, 1) := by decide +kernel
theorem dX1_init_1 : decode cX1_init 1 = .ok (.invokespecial 3, 3) := by decide +kernel
theorem dX1_init_4 : decode cX1_init 4 = .ok (.aload_n 0, 1) := by decide +kernel
theorem dX1_init_5 : decode cX1_init 5 = .ok (.bipush 14, 2) := by decide +kernel
theorem dX1_init_7 : decode cX1_init 7 = .ok (.newarray .int, 2) := by decide +kernel
theorem dX1_init_9 : decode cX1_init 9 = .ok (.putfield 9, 3) := by decide +kernel
theorem dX1_init_12 : decode cX1_init 12 = .ok (.aload_n 0, 1) := by decide +kernel
theorem dX1_init_13 : decode cX1_init 13 = .ok (.bipush 14, 2) := by decide +kernel
theorem dX1_init_15 : decode cX1_init 15 = .ok (.newarray .int, 2) := by decide +kernel
theorem dX1_init_17 : decode cX1_init 17 = .ok (.putfield 15, 3) := by decide +kernel
theorem dX1_init_20 : decode cX1_init 20 = .ok (.aload_n 0, 1) := by decide +kernel
theorem dX1_init_21 : decode cX1_init 21 = .ok (.iconst 0, 1) := by decide +kernel
theorem dX1_init_22 : decode cX1_init 22 = .ok (.putfield 18, 3) := by decide +kernel
theorem dX1_init_25 : decode cX1_init 25 = .ok (.aload_n 0, 1) := by decide +kernel
theorem dX1_init_26 : decode cX1_init 26 = .ok (.bipush 28, 2) := by decide +kernel
theorem dX1_init_28 : decode cX1_init 28 = .ok (.newarray .int, 2) := by decide +kernel
theorem dX1_init_30 : decode cX1_init 30 = .ok (.putfield 22, 3) := by decide +kernel
theorem dX1_init_33 : decode cX1_init 33 = .ok (.aload_n 0, 1) := by decide +kernel
theorem dX1_init_34 : decode cX1_init 34 = .ok (.iconst 0, 1) := by decide +kernel
theorem dX1_init_35 : decode cX1_init 35 = .ok (.putfield 25, 3) := by decide +kernel
theorem dX1_init_38 : decode cX1_init 38 = .ok (.aload_n 0, 1) := by decide +kernel
theorem dX1_init_39 : decode cX1_init 39 = .ok (.iconst 0, 1) := by decide +kernel
theorem dX1_init_40 : decode cX1_init 40 = .ok (.putfield 28, 3) := by decide +kernel
theorem dX1_init_43 : decode cX1_init 43 = .ok (.aload_n 0, 1) := by decide +kernel
theorem dX1_init_44 : decode cX1_init 44 = .ok (.bipush 28, 2) := by decide +kernel
theorem dX1_init_46 : decode cX1_init 46 = .ok (.newarray .int, 2) := by decide +kernel
theorem dX1_init_48 : decode cX1_init 48 = .ok (.putfield 31, 3) := by decide +kernel
theorem dX1_init_51 : decode cX1_init 51 = .ok (.return_, 1) := by decide +kernel
theorem dX3_init_0 : decode cX3_init 0 = .ok (.aload_n 0, 1) := by decide +kernel
theorem dX3_init_1 : decode cX3_init 1 = .ok (.invokespecial 3, 3) := by decide +kernel
theorem dX3_init_4 : decode cX3_init 4 = .ok (.aload_n 0, 1) := by decide +kernel
theorem dX3_init_5 : decode cX3_init 5 = .ok (.sipush 900, 3) := by decide +kernel
theorem dX3_init_8 : decode cX3_init 8 = .ok (.newarray .int, 2) := by decide +kernel
theorem dX3_init_10 : decode cX3_init 10 = .ok (.putfield 9, 3) := by decide +kernel
theorem dX3_init_13 : decode cX3_init 13 = .ok (.aload_n 0, 1) := by decide +kernel
theorem dX3_init_14 : decode cX3_init 14 = .ok (.iconst 0, 1) := by decide +kernel
theorem dX3_init_15 : decode cX3_init 15 = .ok (.putfield 15, 3) := by decide +kernel
theorem dX3_init_18 : decode cX3_init 18 = .ok (.aload_n 0, 1) := by decide +kernel
theorem dX3_init_19 : decode cX3_init 19 = .ok (.aload_n 1, 1) := by decide +kernel
theorem dX3_init_20 : decode cX3_init 20 = .ok (.putfield 19, 3) := by decide +kernel
theorem dX3_init_23 : decode cX3_init 23 = .ok (.return_, 1) := by decide +kernel
theorem dX4_init_0 : decode cX4_init 0 = .ok (.aload_n 0, 1) := by decide +kernel
theorem dX4_init_1 : decode cX4_init 1 = .ok (.invokespecial 3, 3) := by decide +kernel
theorem dX4_init_4 : decode cX4_init 4 = .ok (.aload_n 0, 1) := by decide +kernel
theorem dX4_init_5 : decode cX4_init 5 = .ok (.new 9, 3) := by decide +kernel
theorem dX4_init_8 : decode cX4_init 8 = .ok (.dup, 1) := by decide +kernel
theorem dX4_init_9 : decode cX4_init 9 = .ok (.invokespecial 11, 3) := by decide +kernel
theorem dX4_init_12 : decode cX4_init 12 = .ok (.putfield 12, 3) := by decide +kernel
theorem dX4_init_15 : decode cX4_init 15 = .ok (.aload_n 0, 1) := by decide +kernel
theorem dX4_init_16 : decode cX4_init 16 = .ok (.new 18, 3) := by decide +kernel
theorem dX4_init_19 : decode cX4_init 19 = .ok (.dup, 1) := by decide +kernel
theorem dX4_init_20 : decode cX4_init 20 = .ok (.aload_n 0, 1) := by decide +kernel
theorem dX4_init_21 : decode cX4_init 21 = .ok (.getfield 12, 3) := by decide +kernel
theorem dX4_init_24 : decode cX4_init 24 = .ok (.invokespecial 20, 3) := by decide +kernel
theorem dX4_init_27 : decode cX4_init 27 = .ok (.putfield 23, 3) := by decide +kernel
theorem dX4_init_30 : decode cX4_init 30 = .ok (.aload_n 0, 1) := by decide +kernel
theorem dX4_init_31 : decode cX4_init 31 = .ok (.new 27, 3) := by decide +kernel
theorem dX4_init_34 : decode cX4_init 34 = .ok (.dup, 1) := by decide +kernel
theorem dX4_init_35 : decode cX4_init 35 = .ok (.bipush 14, 2) := by decide +kernel
theorem dX4_init_37 : decode cX4_init 37 = .ok (.iconst 5, 1) := by decide +kernel
theorem dX4_init_38 : decode cX4_init 38 = .ok (.aconst_null, 1) := by decide +kernel
theorem dX4_init_39 : decode cX4_init 39 = .ok (.invokespecial 29, 3) := by decide +kernel
theorem dX4_init_42 : decode cX4_init 42 = .ok (.putfield 32, 3) := by decide +kernel
theorem dX4_init_45 : decode cX4_init 45 = .ok (.aload_n 0, 1) := by decide +kernel
theorem dX4_init_46 : decode cX4_init 46 = .ok (.iconst 0, 1) := by decide +kernel
theorem dX4_init_47 : decode cX4_init 47 = .ok (.putfield 36, 3) := by decide +kernel
theorem dX4_init_50 : decode cX4_init 50 = .ok (.aload_n 0, 1) := by decide +kernel
theorem dX4_init_51 : decode cX4_init 51 = .ok (.new 40, 3) := by decide +kernel
theorem dX4_init_54 : decode cX4_init 54 = .ok (.dup, 1) := by decide +kernel
theorem dX4_init_55 : decode cX4_init 55 = .ok (.invokespecial 42, 3) := by decide +kernel
theorem dX4_init_58 : decode cX4_init 58 = .ok (.putfield 43, 3) := by decide +kernel
theorem dX4_init_61 : decode cX4_init 61 = .ok (.return_, 1) := by decide +kernel
theorem dX5_init_0 : decode cX5_init 0 = .ok (.aload_n 0, 1) := by decide +kernel
theorem dX5_init_1 : decode cX5_init 1 = .ok (.invokespecial 3, 3) := by decide +kernel
theorem dX5_init_4 : decode cX5_init 4 = .ok (.aload_n 0, 1) := by decide +kernel
theorem dX5_init_5 : decode cX5_init 5 = .ok (.iconst 0, 1) := by decide +kernel
theorem dX5_init_6 : decode cX5_init 6 = .ok (.putfield 9, 3) := by decide +kernel
theorem dX5_init_9 : decode cX5_init 9 = .ok (.aload_n 0, 1) := by decide +kernel
theorem dX5_init_10 : decode cX5_init 10 = .ok (.iconst 0, 1) := by decide +kernel
theorem dX5_init_11 : decode cX5_init 11 = .ok (.putfield 15, 3) := by decide +kernel
theorem dX5_init_14 : decode cX5_init 14 = .ok (.aload_n 0, 1) := by decide +kernel
theorem dX5_init_15 : decode cX5_init 15 = .ok (.iconst 0, 1) := by decide +kernel
theorem dX5_init_16 : decode cX5_init 16 = .ok (.putfield 18, 3) := by decide +kernel
theorem dX5_init_19 : decode cX5_init 19 = .ok (.aload_n 0, 1) := by decide +kernel
theorem dX5_init_20 : decode cX5_init 20 = .ok (.bipush 14, 2) := by decide +kernel
theorem dX5_init_22 : decode cX5_init 22 = .ok (.newarray .int, 2) := by decide +kernel
theorem dX5_init_24 : decode cX5_init 24 = .ok (.putfield 21, 3) := by decide +kernel
theorem dX5_init_27 : decode cX5_init 27 = .ok (.aload_n 0, 1) := by decide +kernel
theorem dX5_init_28 : decode cX5_init 28 = .ok (.bipush 14, 2) := by decide +kernel
theorem dX5_init_30 : decode cX5_init 30 = .ok (.newarray .int, 2) := by decide +kernel
theorem dX5_init_32 : decode cX5_init 32 = .ok (.putfield 25, 3) := by decide +kernel
theorem dX5_init_35 : decode cX5_init 35 = .ok (.aload_n 0, 1) := by decide +kernel
theorem dX5_init_36 : decode cX5_init 36 = .ok (.aload_n 1, 1) := by decide +kernel
theorem dX5_init_37 : decode cX5_init 37 = .ok (.putfield 28, 3) := by decide +kernel
theorem dX5_init_40 : decode cX5_init 40 = .ok (.return_, 1) := by decide +kernel
theorem dX6_init_0 : decode cX6_init 0 = .ok (.aload_n 0, 1) := by decide +kernel
theorem dX6_init_1 : decode cX6_init 1 = .ok (.invokespecial 3, 3) := by decide +kernel
theorem dX6_init_4 : decode cX6_init 4 = .ok (.aload_n 0, 1) := by decide +kernel
theorem dX6_init_5 : decode cX6_init 5 = .ok (.iconst 0, 1) := by decide +kernel
theorem dX6_init_6 : decode cX6_init 6 = .ok (.putfield 9, 3) := by decide +kernel
theorem dX6_init_9 : decode cX6_init 9 = .ok (.aload_n 0, 1) := by decide +kernel
theorem dX6_init_10 : decode cX6_init 10 = .ok (.iconst 0, 1) := by decide +kernel
theorem dX6_init_11 : decode cX6_init 11 = .ok (.putfield 15, 3) := by decide +kernel
theorem dX6_init_14 : decode cX6_init 14 = .ok (.aload_n 0, 1) := by decide +kernel
theorem dX6_init_15 : decode cX6_init 15 = .ok (.iconst 0, 1) := by decide +kernel
theorem dX6_init_16 : decode cX6_init 16 = .ok (.putfield 18, 3) := by decide +kernel
theorem dX6_init_19 : decode cX6_init 19 = .ok (.aload_n 0, 1) := by decide +kernel
theorem dX6_init_20 : decode cX6_init 20 = .ok (.iconst 0, 1) := by decide +kernel
theorem dX6_init_21 : decode cX6_init 21 = .ok (.putfield 21, 3) := by decide +kernel
theorem dX6_init_24 : decode cX6_init 24 = .ok (.aload_n 0, 1) := by decide +kernel
theorem dX6_init_25 : decode cX6_init 25 = .ok (.bipush 14, 2) := by decide +kernel
theorem dX6_init_27 : decode cX6_init 27 = .ok (.newarray .int, 2) := by decide +kernel
theorem dX6_init_29 : decode cX6_init 29 = .ok (.putfield 24, 3) := by decide +kernel
theorem dX6_init_32 : decode cX6_init 32 = .ok (.aload_n 0, 1) := by decide +kernel
theorem dX6_init_33 : decode cX6_init 33 = .ok (.bipush 14, 2) := by decide +kernel
theorem dX6_init_35 : decode cX6_init 35 = .ok (.newarray .int, 2) := by decide +kernel
theorem dX6_init_37 : decode cX6_init 37 = .ok (.putfield 28, 3) := by decide +kernel
theorem dX6_init_40 : decode cX6_init 40 = .ok (.return_, 1) := by decide +kernel
theorem dX7_init_0 : decode cX7_init 0 = .ok (.aload_n 0, 1) := by decide +kernel
theorem dX7_init_1 : decode cX7_init 1 = .ok (.invokespecial 3, 3) := by decide +kernel
theorem dX7_init_4 : decode cX7_init 4 = .ok (.aload_n 0, 1) := by decide +kernel
theorem dX7_init_5 : decode cX7_init 5 = .ok (.iconst 0, 1) := by decide +kernel
theorem dX7_init_6 : decode cX7_init 6 = .ok (.newarray .byte, 2) := by decide +kernel
theorem dX7_init_8 : decode cX7_init 8 = .ok (.putfield 9, 3) := by decide +kernel
theorem dX7_init_11 : decode cX7_init 11 = .ok (.aload_n 0, 1) := by decide +kernel
theorem dX7_init_12 : decode cX7_init 12 = .ok (.iconst 0, 1) := by decide +kernel
theorem dX7_init_13 : decode cX7_init 13 = .ok (.putfield 15, 3) := by decide +kernel
theorem dX7_init_16 : decode cX7_init 16 = .ok (.aload_n 0, 1) := by decide +kernel
theorem dX7_init_17 : decode cX7_init 17 = .ok (.iconst 0, 1) := by decide +kernel
theorem dX7_init_18 : decode cX7_init 18 = .ok (.putfield 19, 3) := by decide +kernel
theorem dX7_init_21 : decode cX7_init 21 = .ok (.aload_n 0, 1) := by decide +kernel
theorem dX7_init_22 : decode cX7_init 22 = .ok (.iconst 0, 1) := by decide +kernel
theorem dX7_init_23 : decode cX7_init 23 = .ok (.putfield 22, 3) := by decide +kernel
theorem dX7_init_26 : decode cX7_init 26 = .ok (.aload_n 0, 1) := by decide +kernel
theorem dX7_init_27 : decode cX7_init 27 = .ok (.iconst 0, 1) := by decide +kernel
theorem dX7_init_28 : decode cX7_init 28 = .ok (.putfield 25, 3) := by decide +kernel
theorem dX7_init_31 : decode cX7_init 31 = .ok (.aload_n 0, 1) := by decide +kernel
theorem dX7_init_32 : decode cX7_init 32 = .ok (.iconst 0, 1) := by decide +kernel
theorem dX7_init_33 : decode cX7_init 33 = .ok (.putfield 28, 3) := by decide +kernel
theorem dX7_init_36 : decode cX7_init 36 = .ok (.aload_n 0, 1) := by decide +kernel
theorem dX7_init_37 : decode cX7_init 37 = .ok (.iconst 0, 1) := by decide +kernel
theorem dX7_init_38 : decode cX7_init 38 = .ok (.putfield 31, 3) := by decide +kernel
theorem dX7_init_41 : decode cX7_init 41 = .ok (.aload_n 0, 1) := by decide +kernel
theorem dX7_init_42 : decode cX7_init 42 = .ok (.iconst (-1), 1) := by decide +kernel
theorem dX7_init_43 : decode cX7_init 43 = .ok (.putfield 34, 3) := by decide +kernel
theorem dX7_init_46 : decode cX7_init 46 = .ok (.return_, 1) := by decide +kernel
theorem dX8_init_0 : decode cX8_init 0 = .ok (.aload_n 0, 1) := by decide +kernel
theorem dX8_init_1 : decode cX8_init 1 = .ok (.invokespecial 3, 3) := by decide +kernel
theorem dX8_init_4 : decode cX8_init 4 = .ok (.aload_n 0, 1) := by decide +kernel
theorem dX8_init_5 : decode cX8_init 5 = .ok (.bipush 40, 2) := by decide +kernel
theorem dX8_init_7 : decode cX8_init 7 = .ok (.newarray .long, 2) := by decide +kernel
theorem dX8_init_9 : decode cX8_init 9 = .ok (.putfield 9, 3) := by decide +kernel
theorem dX8_init_12 : decode cX8_init 12 = .ok (.aload_n 0, 1) := by decide +kernel
theorem dX8_init_13 : decode cX8_init 13 = .ok (.iconst 0, 1) := by decide +kernel
theorem dX8_init_14 : decode cX8_init 14 = .ok (.putfield 15, 3) := by decide +kernel
theorem dX8_init_17 : decode cX8_init 17 = .ok (.aload_n 0, 1) := by decide +kernel
theorem dX8_init_18 : decode cX8_init 18 = .ok (.iconst (-1), 1) := by decide +kernel
theorem dX8_init_19 : decode cX8_init 19 = .ok (.putfield 19, 3) := by decide +kernel
theorem dX8_init_22 : decode cX8_init 22 = .ok (.return_, 1) := by decide +kernel
theorem kw_37 : Cond.methodLink "FootholdWall$Reader" 3 objectInit ∈ gw := gw_of (tb_of 37 (by decide +kernel)) (by decide +kernel)
theorem kw_38 : Cond.classLink "FootholdWall$Reader" 9 "FootholdWall$Tokens" ∈ gw := gw_of (tb_of 38 (by decide +kernel)) (by decide +kernel)
theorem kw_39 : Cond.instantiable "FootholdWall$Tokens" 8 ∈ gw := gw_of (tb_of 39 (by decide +kernel)) (by decide +kernel)
theorem kw_41 : Cond.instanceMethod yX7_init ∈ gw := gw_of (tb_of 41 (by decide +kernel)) (by decide +kernel)
theorem kw_42 : Cond.code yX7_init cX7_init 1 none ∈ gw := gw_of (tb_of 42 (by decide +kernel)) (by decide +kernel)
theorem kw_43 : Cond.methodLink "FootholdWall$Tokens" 3 objectInit ∈ gw := gw_of (tb_of 43 (by decide +kernel)) (by decide +kernel)
theorem kw_75 : Cond.arrayClass .byte ∈ gw := gw_of (tb_of 75 (by decide +kernel)) (by decide +kernel)
theorem kw_76 : Cond.classLink "FootholdWall$Reader" 18 "FootholdWall$LawReader" ∈ gw := gw_of (tb_of 76 (by decide +kernel)) (by decide +kernel)
theorem kw_77 : Cond.instantiable "FootholdWall$LawReader" 3 ∈ gw := gw_of (tb_of 77 (by decide +kernel)) (by decide +kernel)
theorem kw_78 : Cond.methodLink "FootholdWall$Reader" 20 yX3_init ∈ gw := gw_of (tb_of 78 (by decide +kernel)) (by decide +kernel)
theorem kw_79 : Cond.instanceMethod yX3_init ∈ gw := gw_of (tb_of 79 (by decide +kernel)) (by decide +kernel)
theorem kw_80 : Cond.code yX3_init cX3_init 2 none ∈ gw := gw_of (tb_of 80 (by decide +kernel)) (by decide +kernel)
theorem kw_81 : Cond.methodLink "FootholdWall$LawReader" 3 objectInit ∈ gw := gw_of (tb_of 81 (by decide +kernel)) (by decide +kernel)
theorem kw_93 : Cond.classLink "FootholdWall$Reader" 27 "FootholdWall$Wall" ∈ gw := gw_of (tb_of 93 (by decide +kernel)) (by decide +kernel)
theorem kw_95 : Cond.methodLink "FootholdWall$Reader" 29 yX9_init ∈ gw := gw_of (tb_of 95 (by decide +kernel)) (by decide +kernel)
theorem kw_179 : Cond.classLink "FootholdWall$Reader" 40 "FootholdWall$State" ∈ gw := gw_of (tb_of 179 (by decide +kernel)) (by decide +kernel)
theorem kw_180 : Cond.instantiable "FootholdWall$State" 6 ∈ gw := gw_of (tb_of 180 (by decide +kernel)) (by decide +kernel)
theorem kw_182 : Cond.instanceMethod yX6_init ∈ gw := gw_of (tb_of 182 (by decide +kernel)) (by decide +kernel)
theorem kw_183 : Cond.code yX6_init cX6_init 1 none ∈ gw := gw_of (tb_of 183 (by decide +kernel)) (by decide +kernel)
theorem kw_184 : Cond.methodLink "FootholdWall$State" 3 objectInit ∈ gw := gw_of (tb_of 184 (by decide +kernel)) (by decide +kernel)
theorem kw_243 : Cond.methodLink "FootholdWall$Rows" 3 objectInit ∈ gw := gw_of (tb_of 243 (by decide +kernel)) (by decide +kernel)
theorem kw_271 : Cond.methodLink "FootholdWall$Ways" 3 objectInit ∈ gw := gw_of (tb_of 271 (by decide +kernel)) (by decide +kernel)
theorem kw_295 : Cond.arrayClass .long ∈ gw := gw_of (tb_of 295 (by decide +kernel)) (by decide +kernel)
theorem kw_301 : Cond.methodLink "FootholdWall$Cut" 3 objectInit ∈ gw := gw_of (tb_of 301 (by decide +kernel)) (by decide +kernel)
theorem kw_329 : Cond.methodLink "FootholdWall$Chains" 3 objectInit ∈ gw := gw_of (tb_of 329 (by decide +kernel)) (by decide +kernel)
theorem kw_348 : Cond.methodLink "FootholdWall$Tray" 3 objectInit ∈ gw := gw_of (tb_of 348 (by decide +kernel)) (by decide +kernel)
set_option maxHeartbeats 4000000 in
set_option maxRecDepth 100000 in
theorem c_State_init (l : Launch) (D : va_G) (cB cI cJ cZ cS cW cT cR : ClassId) (h0 : Nat) : Kon l D (tyl cB cI cJ cZ cS cW cT cR) yX6_init cX6_init 1 none { frames := 1, cells := 2, slots := 28, locals := 12 } [.ref h0] [(h0, .inr (6, [.int 0, .int 0, .int 0, .int 0, .null, .null]))] (Qv D (fun u => ∃ (q_1 : Nat), ∃ (q_2 : Nat), u = [(h0, .inr (6, [.int 0, .int 0, .int 0, .int 0, .ref q_1, .ref q_2])), (q_1, .inl (cI, 14, .inl (fun _ => 0))), (q_2, .inl (cI, 14, .inl (fun _ => 0)))])) := by
  refine kon_of (by decide) (Nat.le_of_ble_eq_true rfl) (fun p e s m below meth c ls A hx hb hr hml hown hts hlocks hnm hkb hP hD hS hA hl => ?_)
  have hown : s.vm.findClass RX6 = some m.cls := hown
  have hl : lv_has ls 1 [(0, .ref h0)] := hl
  have hP : va_P D cls [(h0, .inr (6, [.int 0, .int 0, .int 0, .int 0, .null, .null]))] s.heap := hP
  refine lv_aload_n hx hb dX6_init_0 rfl (lv_at hl 0 rfl) ?_
  refine W.objInit hx hb hown (hts _ kw_184) (hts _ kw_30) (hts _ kw_31) rfl (by rw [hml]; exact hl.1) rfl dX6_init_1 (Nat.le_of_ble_eq_true rfl) (Nat.le_of_ble_eq_true rfl) ?_
  refine W.eq (g2 := F0 m 4 ls []) rfl ?_
  refine lv_aload_n hx hb dX6_init_4 rfl (lv_at hl 0 rfl) ?_
  refine lv_iconst (v := 0) hx hb dX6_init_5 (by decide) ?_
  refine va_put (D := D) (ci := 6) (v := .int 0) (ty := tyX6 0) (C := RX6) (T := TX6) (N := 6) hx hb hts uX6 tyX6 tyX6_ok nmX6 hown hkb.1 hP hD hS 0 rfl rfl 0 (by decide) (hts _ kw_185) (fun _ h9 => h9) rfl (tyX6_ok 0 (by decide)) rfl rfl (Nat.le_of_ble_eq_true rfl) dX6_init_6 (fun H locs hP hD hS => ?_)
  have hP : va_P D cls [(h0, .inr (6, [.int 0, .int 0, .int 0, .int 0, .null, .null]))] H := hP
  have hD : va_D A [(h0, .inr (6, [.int 0, .int 0, .int 0, .int 0, .null, .null]))] := hD
  refine lv_aload_n hx hb dX6_init_9 rfl (lv_at hl 0 rfl) ?_
  refine lv_iconst (v := 0) hx hb dX6_init_10 (by decide) ?_
  refine va_put (D := D) (ci := 6) (v := .int 0) (ty := tyX6 1) (C := RX6) (T := TX6) (N := 6) hx hb hts uX6 tyX6 tyX6_ok nmX6 hown hkb.1 hP hD hS 0 rfl rfl 1 (by decide) (hts _ kw_187) (fun _ h9 => h9) rfl (tyX6_ok 1 (by decide)) rfl rfl (Nat.le_of_ble_eq_true rfl) dX6_init_11 (fun H locs hP hD hS => ?_)
  have hP : va_P D cls [(h0, .inr (6, [.int 0, .int 0, .int 0, .int 0, .null, .null]))] H := hP
  have hD : va_D A [(h0, .inr (6, [.int 0, .int 0, .int 0, .int 0, .null, .null]))] := hD
  refine lv_aload_n hx hb dX6_init_14 rfl (lv_at hl 0 rfl) ?_
  refine lv_iconst (v := 0) hx hb dX6_init_15 (by decide) ?_
  refine va_put (D := D) (ci := 6) (v := .int 0) (ty := tyX6 2) (C := RX6) (T := TX6) (N := 6) hx hb hts uX6 tyX6 tyX6_ok nmX6 hown hkb.1 hP hD hS 0 rfl rfl 2 (by decide) (hts _ kw_189) (fun _ h9 => h9) rfl (tyX6_ok 2 (by decide)) rfl rfl (Nat.le_of_ble_eq_true rfl) dX6_init_16 (fun H locs hP hD hS => ?_)
  have hP : va_P D cls [(h0, .inr (6, [.int 0, .int 0, .int 0, .int 0, .null, .null]))] H := hP
  have hD : va_D A [(h0, .inr (6, [.int 0, .int 0, .int 0, .int 0, .null, .null]))] := hD
  refine lv_aload_n hx hb dX6_init_19 rfl (lv_at hl 0 rfl) ?_
  refine lv_iconst (v := 0) hx hb dX6_init_20 (by decide) ?_
  refine va_put (D := D) (ci := 6) (v := .int 0) (ty := tyX6 3) (C := RX6) (T := TX6) (N := 6) hx hb hts uX6 tyX6 tyX6_ok nmX6 hown hkb.1 hP hD hS 0 rfl rfl 3 (by decide) (hts _ kw_192) (fun _ h9 => h9) rfl (tyX6_ok 3 (by decide)) rfl rfl (Nat.le_of_ble_eq_true rfl) dX6_init_21 (fun H locs hP hD hS => ?_)
  have hP : va_P D cls [(h0, .inr (6, [.int 0, .int 0, .int 0, .int 0, .null, .null]))] H := hP
  have hD : va_D A [(h0, .inr (6, [.int 0, .int 0, .int 0, .int 0, .null, .null]))] := hD
  refine lv_aload_n hx hb dX6_init_24 rfl (lv_at hl 0 rfl) ?_
  refine lv_bipush (v := 14) hx hb dX6_init_25 (by decide) ?_
  refine n_a (atype := .int) (t := .int) (a0 := (14, .inl (fun _ => 0))) 1 rfl (fun _ _ h => h) hx hb (hts _ kw_92) rfl hkb.1 hP hD hS hA (fun _ => rfl) (by decide) (by decide +kernel) (by decide) (Nat.le_of_ble_eq_true rfl) (Nat.le_of_ble_eq_true rfl) dX6_init_27 (fun q_1 H hP hD hS => ?_)
  have hP : va_P D cls [(h0, .inr (6, [.int 0, .int 0, .int 0, .int 0, .null, .null])), (q_1, .inl (cI, 14, .inl (fun _ => 0)))] H := hP
  have hD : va_D A [(h0, .inr (6, [.int 0, .int 0, .int 0, .int 0, .null, .null])), (q_1, .inl (cI, 14, .inl (fun _ => 0)))] := hD
  refine W.widen (k := 1) (n := 14) (Nat.le_of_ble_eq_true rfl) (Nat.le_of_ble_eq_true rfl) ?_
  refine va_putF (D := D) (ci := 6) (v := .ref q_1) (ty := tyX6 4) (C := RX6) (T := TX6) (N := 6) hx hb hts uX6 tyX6 tyX6_ok nmX6 hown hkb.1 hP hD hS 0 rfl rfl 4 (by decide) (hts _ kw_194) (fun _ h9 => h9) rfl hnm rfl (tyX6_ok 4 (by decide)) rfl rfl (Nat.le_of_ble_eq_true rfl) dX6_init_29 (fun H locs hP hD hS => ?_)
  have hP : va_P D cls [(h0, .inr (6, [.int 0, .int 0, .int 0, .int 0, .ref q_1, .null])), (q_1, .inl (cI, 14, .inl (fun _ => 0)))] H := hP
  have hD : va_D A [(h0, .inr (6, [.int 0, .int 0, .int 0, .int 0, .ref q_1, .null])), (q_1, .inl (cI, 14, .inl (fun _ => 0)))] := hD
  refine lv_aload_n hx hb dX6_init_32 rfl (lv_at hl 0 rfl) ?_
  refine lv_bipush (v := 14) hx hb dX6_init_33 (by decide) ?_
  refine n_a (atype := .int) (t := .int) (a0 := (14, .inl (fun _ => 0))) 1 rfl (fun _ _ h => h) hx hb (hts _ kw_92) rfl hkb.1 hP hD hS hA (fun _ => rfl) (by decide) (by decide +kernel) (by decide) (Nat.le_of_ble_eq_true rfl) (Nat.le_of_ble_eq_true rfl) dX6_init_35 (fun q_2 H hP hD hS => ?_)
  have hP : va_P D cls [(h0, .inr (6, [.int 0, .int 0, .int 0, .int 0, .ref q_1, .null])), (q_1, .inl (cI, 14, .inl (fun _ => 0))), (q_2, .inl (cI, 14, .inl (fun _ => 0)))] H := hP
  have hD : va_D A [(h0, .inr (6, [.int 0, .int 0, .int 0, .int 0, .ref q_1, .null])), (q_1, .inl (cI, 14, .inl (fun _ => 0))), (q_2, .inl (cI, 14, .inl (fun _ => 0)))] := hD
  refine W.widen (k := 2) (n := 28) (Nat.le_of_ble_eq_true rfl) (Nat.le_of_ble_eq_true rfl) ?_
  refine va_putF (D := D) (ci := 6) (v := .ref q_2) (ty := tyX6 5) (C := RX6) (T := TX6) (N := 6) hx hb hts uX6 tyX6 tyX6_ok nmX6 hown hkb.1 hP hD hS 0 rfl rfl 5 (by decide) (hts _ kw_196) (fun _ h9 => h9) rfl hnm rfl (tyX6_ok 5 (by decide)) rfl rfl (Nat.le_of_ble_eq_true rfl) dX6_init_37 (fun H locs hP hD hS => ?_)
  have hP : va_P D cls [(h0, .inr (6, [.int 0, .int 0, .int 0, .int 0, .ref q_1, .ref q_2])), (q_1, .inl (cI, 14, .inl (fun _ => 0))), (q_2, .inl (cI, 14, .inl (fun _ => 0)))] H := hP
  have hD : va_D A [(h0, .inr (6, [.int 0, .int 0, .int 0, .int 0, .ref q_1, .ref q_2])), (q_1, .inl (cI, 14, .inl (fun _ => 0))), (q_2, .inl (cI, 14, .inl (fun _ => 0)))] := hD
  refine W.widen (k := 2) (n := 28) (Nat.le_of_ble_eq_true rfl) (Nat.le_of_ble_eq_true rfl) ?_
  exact e_v (u := [(h0, .inr (6, [.int 0, .int 0, .int 0, .int 0, .ref q_1, .ref q_2])), (q_1, .inl (cI, 14, .inl (fun _ => 0))), (q_2, .inl (cI, 14, .inl (fun _ => 0)))]) hx hb hr hlocks (hP.sub (ws' := [(h0, .inr (6, [.int 0, .int 0, .int 0, .int 0, .ref q_1, .ref q_2])), (q_1, .inl (cI, 14, .inl (fun _ => 0))), (q_2, .inl (cI, 14, .inl (fun _ => 0)))]) [0, 1, 2] rfl) (hD.sub (ws' := [(h0, .inr (6, [.int 0, .int 0, .int 0, .int 0, .ref q_1, .ref q_2])), (q_1, .inl (cI, 14, .inl (fun _ => 0))), (q_2, .inl (cI, 14, .inl (fun _ => 0)))]) [0, 1, 2] (by decide) rfl) hS ⟨q_1, q_2, rfl⟩ dX6_init_40
set_option maxHeartbeats 4000000 in
set_option maxRecDepth 100000 in
theorem c_Tray_init (l : Launch) (D : va_G) (cB cI cJ cZ cS cW cT cR : ClassId) (h0 : Nat) : Kon l D (tyl cB cI cJ cZ cS cW cT cR) yX8_init cX8_init 1 none { frames := 1, cells := 1, slots := 40, locals := 12 } [.ref h0] [(h0, .inr (8, [.null, .int 0, .int 0]))] (Qv D (fun u => ∃ (q_1 : Nat), u = [(h0, .inr (8, [.ref q_1, .int 0, .int (-1)])), (q_1, .inl (cJ, 40, .inr (.inl (fun _ => 0))))])) := by
  refine kon_of (by decide) (Nat.le_of_ble_eq_true rfl) (fun p e s m below meth c ls A hx hb hr hml hown hts hlocks hnm hkb hP hD hS hA hl => ?_)
  have hown : s.vm.findClass RX8 = some m.cls := hown
  have hl : lv_has ls 1 [(0, .ref h0)] := hl
  have hP : va_P D cls [(h0, .inr (8, [.null, .int 0, .int 0]))] s.heap := hP
  refine lv_aload_n hx hb dX8_init_0 rfl (lv_at hl 0 rfl) ?_
  refine W.objInit hx hb hown (hts _ kw_348) (hts _ kw_30) (hts _ kw_31) rfl (by rw [hml]; exact hl.1) rfl dX8_init_1 (Nat.le_of_ble_eq_true rfl) (Nat.le_of_ble_eq_true rfl) ?_
  refine W.eq (g2 := F0 m 4 ls []) rfl ?_
  refine lv_aload_n hx hb dX8_init_4 rfl (lv_at hl 0 rfl) ?_
  refine lv_bipush (v := 40) hx hb dX8_init_5 (by decide) ?_
  refine n_a (atype := .long) (t := .long) (a0 := (40, .inr (.inl (fun _ => 0)))) 2 rfl (fun _ _ h => h) hx hb (hts _ kw_295) rfl hkb.1 hP hD hS hA (fun _ => rfl) (by decide) (by decide +kernel) (by decide) (Nat.le_of_ble_eq_true rfl) (Nat.le_of_ble_eq_true rfl) dX8_init_7 (fun q_1 H hP hD hS => ?_)
  have hP : va_P D cls [(h0, .inr (8, [.null, .int 0, .int 0])), (q_1, .inl (cJ, 40, .inr (.inl (fun _ => 0))))] H := hP
  have hD : va_D A [(h0, .inr (8, [.null, .int 0, .int 0])), (q_1, .inl (cJ, 40, .inr (.inl (fun _ => 0))))] := hD
  refine W.widen (k := 1) (n := 40) (Nat.le_of_ble_eq_true rfl) (Nat.le_of_ble_eq_true rfl) ?_
  refine va_putF (D := D) (ci := 8) (v := .ref q_1) (ty := tyX8 0) (C := RX8) (T := TX8) (N := 3) hx hb hts uX8 tyX8 tyX8_ok nmX8 hown hkb.1 hP hD hS 0 rfl rfl 0 (by decide) (hts _ kw_349) (fun _ h9 => h9) rfl hnm rfl (tyX8_ok 0 (by decide)) rfl rfl (Nat.le_of_ble_eq_true rfl) dX8_init_9 (fun H locs hP hD hS => ?_)
  have hP : va_P D cls [(h0, .inr (8, [.ref q_1, .int 0, .int 0])), (q_1, .inl (cJ, 40, .inr (.inl (fun _ => 0))))] H := hP
  have hD : va_D A [(h0, .inr (8, [.ref q_1, .int 0, .int 0])), (q_1, .inl (cJ, 40, .inr (.inl (fun _ => 0))))] := hD
  refine lv_aload_n hx hb dX8_init_12 rfl (lv_at hl 0 rfl) ?_
  refine lv_iconst (v := 0) hx hb dX8_init_13 (by decide) ?_
  refine va_put (D := D) (ci := 8) (v := .int 0) (ty := tyX8 1) (C := RX8) (T := TX8) (N := 3) hx hb hts uX8 tyX8 tyX8_ok nmX8 hown hkb.1 hP hD hS 0 rfl rfl 1 (by decide) (hts _ kw_350) (fun _ h9 => h9) rfl (tyX8_ok 1 (by decide)) rfl rfl (Nat.le_of_ble_eq_true rfl) dX8_init_14 (fun H locs hP hD hS => ?_)
  have hP : va_P D cls [(h0, .inr (8, [.ref q_1, .int 0, .int 0])), (q_1, .inl (cJ, 40, .inr (.inl (fun _ => 0))))] H := hP
  have hD : va_D A [(h0, .inr (8, [.ref q_1, .int 0, .int 0])), (q_1, .inl (cJ, 40, .inr (.inl (fun _ => 0))))] := hD
  refine lv_aload_n hx hb dX8_init_17 rfl (lv_at hl 0 rfl) ?_
  refine lv_iconst (v := (-1)) hx hb dX8_init_18 (by decide) ?_
  refine va_put (D := D) (ci := 8) (v := .int (-1)) (ty := tyX8 2) (C := RX8) (T := TX8) (N := 3) hx hb hts uX8 tyX8 tyX8_ok nmX8 hown hkb.1 hP hD hS 0 rfl rfl 2 (by decide) (hts _ kw_351) (fun _ h9 => h9) rfl (tyX8_ok 2 (by decide)) rfl rfl (Nat.le_of_ble_eq_true rfl) dX8_init_19 (fun H locs hP hD hS => ?_)
  have hP : va_P D cls [(h0, .inr (8, [.ref q_1, .int 0, .int (-1)])), (q_1, .inl (cJ, 40, .inr (.inl (fun _ => 0))))] H := hP
  have hD : va_D A [(h0, .inr (8, [.ref q_1, .int 0, .int (-1)])), (q_1, .inl (cJ, 40, .inr (.inl (fun _ => 0))))] := hD
  refine W.widen (k := 1) (n := 40) (Nat.le_of_ble_eq_true rfl) (Nat.le_of_ble_eq_true rfl) ?_
  exact e_v (u := [(h0, .inr (8, [.ref q_1, .int 0, .int (-1)])), (q_1, .inl (cJ, 40, .inr (.inl (fun _ => 0))))]) hx hb hr hlocks (hP.sub (ws' := [(h0, .inr (8, [.ref q_1, .int 0, .int (-1)])), (q_1, .inl (cJ, 40, .inr (.inl (fun _ => 0))))]) [0, 1] rfl) (hD.sub (ws' := [(h0, .inr (8, [.ref q_1, .int 0, .int (-1)])), (q_1, .inl (cJ, 40, .inr (.inl (fun _ => 0))))]) [0, 1] (by decide) rfl) hS ⟨q_1, rfl⟩ dX8_init_22
set_option maxHeartbeats 4000000 in
set_option maxRecDepth 100000 in
theorem c_Tokens_init (l : Launch) (D : va_G) (cB cI cJ cZ cS cW cT cR : ClassId) (h0 : Nat) : Kon l D (tyl cB cI cJ cZ cS cW cT cR) yX7_init cX7_init 1 none { frames := 1, cells := 1, slots := 0, locals := 12 } [.ref h0] [(h0, .inr (7, [.null, .int 0, .int 0, .int 0, .int 0, .int 0, .int 0, .int 0]))] (Qv D (fun u => ∃ (q_1 : Nat), u = [(h0, .inr (7, [.ref q_1, .int 0, .int 0, .int 0, .int 0, .int 0, .int 0, .int (-1)])), (q_1, .inl (cB, 0, .inl (fun _ => 0)))])) := by
  refine kon_of (by decide) (Nat.le_of_ble_eq_true rfl) (fun p e s m below meth c ls A hx hb hr hml hown hts hlocks hnm hkb hP hD hS hA hl => ?_)
  have hown : s.vm.findClass RX7 = some m.cls := hown
  have hl : lv_has ls 1 [(0, .ref h0)] := hl
  have hP : va_P D cls [(h0, .inr (7, [.null, .int 0, .int 0, .int 0, .int 0, .int 0, .int 0, .int 0]))] s.heap := hP
  refine lv_aload_n hx hb dX7_init_0 rfl (lv_at hl 0 rfl) ?_
  refine W.objInit hx hb hown (hts _ kw_43) (hts _ kw_30) (hts _ kw_31) rfl (by rw [hml]; exact hl.1) rfl dX7_init_1 (Nat.le_of_ble_eq_true rfl) (Nat.le_of_ble_eq_true rfl) ?_
  refine W.eq (g2 := F0 m 4 ls []) rfl ?_
  refine lv_aload_n hx hb dX7_init_4 rfl (lv_at hl 0 rfl) ?_
  refine lv_iconst (v := 0) hx hb dX7_init_5 (by decide) ?_
  refine n_a (atype := .byte) (t := .byte) (a0 := (0, .inl (fun _ => 0))) 0 rfl (fun _ _ h => h) hx hb (hts _ kw_75) rfl hkb.1 hP hD hS hA (fun _ => rfl) (by decide) (by decide +kernel) (by decide) (Nat.le_of_ble_eq_true rfl) (Nat.le_of_ble_eq_true rfl) dX7_init_6 (fun q_1 H hP hD hS => ?_)
  have hP : va_P D cls [(h0, .inr (7, [.null, .int 0, .int 0, .int 0, .int 0, .int 0, .int 0, .int 0])), (q_1, .inl (cB, 0, .inl (fun _ => 0)))] H := hP
  have hD : va_D A [(h0, .inr (7, [.null, .int 0, .int 0, .int 0, .int 0, .int 0, .int 0, .int 0])), (q_1, .inl (cB, 0, .inl (fun _ => 0)))] := hD
  refine W.widen (k := 1) (n := 0) (Nat.le_of_ble_eq_true rfl) (Nat.le_of_ble_eq_true rfl) ?_
  refine va_put (D := D) (ci := 7) (v := .ref q_1) (ty := tyX7 0) (C := RX7) (T := TX7) (N := 8) hx hb hts uX7 tyX7 tyX7_ok nmX7 hown hkb.1 hP hD hS 0 rfl rfl 0 (by decide) (hts _ kw_44) (fun _ h9 => h9) rfl (tyX7_ok 0 (by decide)) rfl rfl (Nat.le_of_ble_eq_true rfl) dX7_init_8 (fun H locs hP hD hS => ?_)
  have hP : va_P D cls [(h0, .inr (7, [.ref q_1, .int 0, .int 0, .int 0, .int 0, .int 0, .int 0, .int 0])), (q_1, .inl (cB, 0, .inl (fun _ => 0)))] H := hP
  have hD : va_D A [(h0, .inr (7, [.ref q_1, .int 0, .int 0, .int 0, .int 0, .int 0, .int 0, .int 0])), (q_1, .inl (cB, 0, .inl (fun _ => 0)))] := hD
  refine lv_aload_n hx hb dX7_init_11 rfl (lv_at hl 0 rfl) ?_
  refine lv_iconst (v := 0) hx hb dX7_init_12 (by decide) ?_
  refine va_put (D := D) (ci := 7) (v := .int 0) (ty := tyX7 1) (C := RX7) (T := TX7) (N := 8) hx hb hts uX7 tyX7 tyX7_ok nmX7 hown hkb.1 hP hD hS 0 rfl rfl 1 (by decide) (hts _ kw_45) (fun _ h9 => h9) rfl (tyX7_ok 1 (by decide)) rfl rfl (Nat.le_of_ble_eq_true rfl) dX7_init_13 (fun H locs hP hD hS => ?_)
  have hP : va_P D cls [(h0, .inr (7, [.ref q_1, .int 0, .int 0, .int 0, .int 0, .int 0, .int 0, .int 0])), (q_1, .inl (cB, 0, .inl (fun _ => 0)))] H := hP
  have hD : va_D A [(h0, .inr (7, [.ref q_1, .int 0, .int 0, .int 0, .int 0, .int 0, .int 0, .int 0])), (q_1, .inl (cB, 0, .inl (fun _ => 0)))] := hD
  refine lv_aload_n hx hb dX7_init_16 rfl (lv_at hl 0 rfl) ?_
  refine lv_iconst (v := 0) hx hb dX7_init_17 (by decide) ?_
  refine va_put (D := D) (ci := 7) (v := .int 0) (ty := tyX7 2) (C := RX7) (T := TX7) (N := 8) hx hb hts uX7 tyX7 tyX7_ok nmX7 hown hkb.1 hP hD hS 0 rfl rfl 2 (by decide) (hts _ kw_46) (fun _ h9 => h9) rfl (tyX7_ok 2 (by decide)) rfl rfl (Nat.le_of_ble_eq_true rfl) dX7_init_18 (fun H locs hP hD hS => ?_)
  have hP : va_P D cls [(h0, .inr (7, [.ref q_1, .int 0, .int 0, .int 0, .int 0, .int 0, .int 0, .int 0])), (q_1, .inl (cB, 0, .inl (fun _ => 0)))] H := hP
  have hD : va_D A [(h0, .inr (7, [.ref q_1, .int 0, .int 0, .int 0, .int 0, .int 0, .int 0, .int 0])), (q_1, .inl (cB, 0, .inl (fun _ => 0)))] := hD
  refine lv_aload_n hx hb dX7_init_21 rfl (lv_at hl 0 rfl) ?_
  refine lv_iconst (v := 0) hx hb dX7_init_22 (by decide) ?_
  refine va_put (D := D) (ci := 7) (v := .int 0) (ty := tyX7 3) (C := RX7) (T := TX7) (N := 8) hx hb hts uX7 tyX7 tyX7_ok nmX7 hown hkb.1 hP hD hS 0 rfl rfl 3 (by decide) (hts _ kw_47) (fun _ h9 => h9) rfl (tyX7_ok 3 (by decide)) rfl rfl (Nat.le_of_ble_eq_true rfl) dX7_init_23 (fun H locs hP hD hS => ?_)
  have hP : va_P D cls [(h0, .inr (7, [.ref q_1, .int 0, .int 0, .int 0, .int 0, .int 0, .int 0, .int 0])), (q_1, .inl (cB, 0, .inl (fun _ => 0)))] H := hP
  have hD : va_D A [(h0, .inr (7, [.ref q_1, .int 0, .int 0, .int 0, .int 0, .int 0, .int 0, .int 0])), (q_1, .inl (cB, 0, .inl (fun _ => 0)))] := hD
  refine lv_aload_n hx hb dX7_init_26 rfl (lv_at hl 0 rfl) ?_
  refine lv_iconst (v := 0) hx hb dX7_init_27 (by decide) ?_
  refine va_put (D := D) (ci := 7) (v := .int 0) (ty := tyX7 4) (C := RX7) (T := TX7) (N := 8) hx hb hts uX7 tyX7 tyX7_ok nmX7 hown hkb.1 hP hD hS 0 rfl rfl 4 (by decide) (hts _ kw_48) (fun _ h9 => h9) rfl (tyX7_ok 4 (by decide)) rfl rfl (Nat.le_of_ble_eq_true rfl) dX7_init_28 (fun H locs hP hD hS => ?_)
  have hP : va_P D cls [(h0, .inr (7, [.ref q_1, .int 0, .int 0, .int 0, .int 0, .int 0, .int 0, .int 0])), (q_1, .inl (cB, 0, .inl (fun _ => 0)))] H := hP
  have hD : va_D A [(h0, .inr (7, [.ref q_1, .int 0, .int 0, .int 0, .int 0, .int 0, .int 0, .int 0])), (q_1, .inl (cB, 0, .inl (fun _ => 0)))] := hD
  refine lv_aload_n hx hb dX7_init_31 rfl (lv_at hl 0 rfl) ?_
  refine lv_iconst (v := 0) hx hb dX7_init_32 (by decide) ?_
  refine va_put (D := D) (ci := 7) (v := .int 0) (ty := tyX7 5) (C := RX7) (T := TX7) (N := 8) hx hb hts uX7 tyX7 tyX7_ok nmX7 hown hkb.1 hP hD hS 0 rfl rfl 5 (by decide) (hts _ kw_51) (fun _ h9 => h9) rfl (tyX7_ok 5 (by decide)) rfl rfl (Nat.le_of_ble_eq_true rfl) dX7_init_33 (fun H locs hP hD hS => ?_)
  have hP : va_P D cls [(h0, .inr (7, [.ref q_1, .int 0, .int 0, .int 0, .int 0, .int 0, .int 0, .int 0])), (q_1, .inl (cB, 0, .inl (fun _ => 0)))] H := hP
  have hD : va_D A [(h0, .inr (7, [.ref q_1, .int 0, .int 0, .int 0, .int 0, .int 0, .int 0, .int 0])), (q_1, .inl (cB, 0, .inl (fun _ => 0)))] := hD
  refine lv_aload_n hx hb dX7_init_36 rfl (lv_at hl 0 rfl) ?_
  refine lv_iconst (v := 0) hx hb dX7_init_37 (by decide) ?_
  refine va_put (D := D) (ci := 7) (v := .int 0) (ty := tyX7 6) (C := RX7) (T := TX7) (N := 8) hx hb hts uX7 tyX7 tyX7_ok nmX7 hown hkb.1 hP hD hS 0 rfl rfl 6 (by decide) (hts _ kw_54) (fun _ h9 => h9) rfl (tyX7_ok 6 (by decide)) rfl rfl (Nat.le_of_ble_eq_true rfl) dX7_init_38 (fun H locs hP hD hS => ?_)
  have hP : va_P D cls [(h0, .inr (7, [.ref q_1, .int 0, .int 0, .int 0, .int 0, .int 0, .int 0, .int 0])), (q_1, .inl (cB, 0, .inl (fun _ => 0)))] H := hP
  have hD : va_D A [(h0, .inr (7, [.ref q_1, .int 0, .int 0, .int 0, .int 0, .int 0, .int 0, .int 0])), (q_1, .inl (cB, 0, .inl (fun _ => 0)))] := hD
  refine lv_aload_n hx hb dX7_init_41 rfl (lv_at hl 0 rfl) ?_
  refine lv_iconst (v := (-1)) hx hb dX7_init_42 (by decide) ?_
  refine va_put (D := D) (ci := 7) (v := .int (-1)) (ty := tyX7 7) (C := RX7) (T := TX7) (N := 8) hx hb hts uX7 tyX7 tyX7_ok nmX7 hown hkb.1 hP hD hS 0 rfl rfl 7 (by decide) (hts _ kw_56) (fun _ h9 => h9) rfl (tyX7_ok 7 (by decide)) rfl rfl (Nat.le_of_ble_eq_true rfl) dX7_init_43 (fun H locs hP hD hS => ?_)
  have hP : va_P D cls [(h0, .inr (7, [.ref q_1, .int 0, .int 0, .int 0, .int 0, .int 0, .int 0, .int (-1)])), (q_1, .inl (cB, 0, .inl (fun _ => 0)))] H := hP
  have hD : va_D A [(h0, .inr (7, [.ref q_1, .int 0, .int 0, .int 0, .int 0, .int 0, .int 0, .int (-1)])), (q_1, .inl (cB, 0, .inl (fun _ => 0)))] := hD
  refine W.widen (k := 1) (n := 0) (Nat.le_of_ble_eq_true rfl) (Nat.le_of_ble_eq_true rfl) ?_
  exact e_v (u := [(h0, .inr (7, [.ref q_1, .int 0, .int 0, .int 0, .int 0, .int 0, .int 0, .int (-1)])), (q_1, .inl (cB, 0, .inl (fun _ => 0)))]) hx hb hr hlocks (hP.sub (ws' := [(h0, .inr (7, [.ref q_1, .int 0, .int 0, .int 0, .int 0, .int 0, .int 0, .int (-1)])), (q_1, .inl (cB, 0, .inl (fun _ => 0)))]) [0, 1] rfl) (hD.sub (ws' := [(h0, .inr (7, [.ref q_1, .int 0, .int 0, .int 0, .int 0, .int 0, .int 0, .int (-1)])), (q_1, .inl (cB, 0, .inl (fun _ => 0)))]) [0, 1] (by decide) rfl) hS ⟨q_1, rfl⟩ dX7_init_46
set_option maxHeartbeats 4000000 in
set_option maxRecDepth 100000 in
theorem c_LawReader_init (l : Launch) (D : va_G) (cB cI cJ cZ cS cW cT cR : ClassId) (h0 : Nat) (tk : Nat) : Kon l D (tyl cB cI cJ cZ cS cW cT cR) yX3_init cX3_init 2 none { frames := 1, cells := 1, slots := 900, locals := 12 } [.ref h0, .ref tk] [(h0, .inr (3, [.null, .null, .int 0]))] (Qv D (fun u => ∃ (q_1 : Nat), u = [(h0, .inr (3, [.ref tk, .ref q_1, .int 0])), (q_1, .inl (cI, 900, .inl (fun _ => 0)))])) := by
  refine kon_of (by decide) (Nat.le_of_ble_eq_true rfl) (fun p e s m below meth c ls A hx hb hr hml hown hts hlocks hnm hkb hP hD hS hA hl => ?_)
  have hown : s.vm.findClass RX3 = some m.cls := hown
  have hl : lv_has ls 2 [(0, .ref h0), (1, .ref tk)] := hl
  have hP : va_P D cls [(h0, .inr (3, [.null, .null, .int 0]))] s.heap := hP
  refine lv_aload_n hx hb dX3_init_0 rfl (lv_at hl 0 rfl) ?_
  refine W.objInit hx hb hown (hts _ kw_81) (hts _ kw_30) (hts _ kw_31) rfl (by rw [hml]; exact hl.1) rfl dX3_init_1 (Nat.le_of_ble_eq_true rfl) (Nat.le_of_ble_eq_true rfl) ?_
  refine W.eq (g2 := F0 m 4 ls []) rfl ?_
  refine lv_aload_n hx hb dX3_init_4 rfl (lv_at hl 0 rfl) ?_
  refine lv_sipush (v := 900) hx hb dX3_init_5 (by decide) ?_
  refine n_a (atype := .int) (t := .int) (a0 := (900, .inl (fun _ => 0))) 1 rfl (fun _ _ h => h) hx hb (hts _ kw_92) rfl hkb.1 hP hD hS hA (fun _ => rfl) (by decide) (by decide +kernel) (by decide) (Nat.le_of_ble_eq_true rfl) (Nat.le_of_ble_eq_true rfl) dX3_init_8 (fun q_1 H hP hD hS => ?_)
  have hP : va_P D cls [(h0, .inr (3, [.null, .null, .int 0])), (q_1, .inl (cI, 900, .inl (fun _ => 0)))] H := hP
  have hD : va_D A [(h0, .inr (3, [.null, .null, .int 0])), (q_1, .inl (cI, 900, .inl (fun _ => 0)))] := hD
  refine W.widen (k := 1) (n := 900) (Nat.le_of_ble_eq_true rfl) (Nat.le_of_ble_eq_true rfl) ?_
  refine va_putF (D := D) (ci := 3) (v := .ref q_1) (ty := tyX3 1) (C := RX3) (T := TX3) (N := 3) hx hb hts uX3 tyX3 tyX3_ok nmX3 hown hkb.1 hP hD hS 0 rfl rfl 1 (by decide) (hts _ kw_83) (fun _ h9 => h9) rfl hnm rfl (tyX3_ok 1 (by decide)) rfl rfl (Nat.le_of_ble_eq_true rfl) dX3_init_10 (fun H locs hP hD hS => ?_)
  have hP : va_P D cls [(h0, .inr (3, [.null, .ref q_1, .int 0])), (q_1, .inl (cI, 900, .inl (fun _ => 0)))] H := hP
  have hD : va_D A [(h0, .inr (3, [.null, .ref q_1, .int 0])), (q_1, .inl (cI, 900, .inl (fun _ => 0)))] := hD
  refine lv_aload_n hx hb dX3_init_13 rfl (lv_at hl 0 rfl) ?_
  refine lv_iconst (v := 0) hx hb dX3_init_14 (by decide) ?_
  refine va_put (D := D) (ci := 3) (v := .int 0) (ty := tyX3 2) (C := RX3) (T := TX3) (N := 3) hx hb hts uX3 tyX3 tyX3_ok nmX3 hown hkb.1 hP hD hS 0 rfl rfl 2 (by decide) (hts _ kw_84) (fun _ h9 => h9) rfl (tyX3_ok 2 (by decide)) rfl rfl (Nat.le_of_ble_eq_true rfl) dX3_init_15 (fun H locs hP hD hS => ?_)
  have hP : va_P D cls [(h0, .inr (3, [.null, .ref q_1, .int 0])), (q_1, .inl (cI, 900, .inl (fun _ => 0)))] H := hP
  have hD : va_D A [(h0, .inr (3, [.null, .ref q_1, .int 0])), (q_1, .inl (cI, 900, .inl (fun _ => 0)))] := hD
  refine lv_aload_n hx hb dX3_init_18 rfl (lv_at hl 0 rfl) ?_
  refine lv_aload_n hx hb dX3_init_19 rfl (lv_at hl 1 rfl) ?_
  refine va_putF (D := D) (ci := 3) (v := .ref tk) (ty := tyX3 0) (C := RX3) (T := TX3) (N := 3) hx hb hts uX3 tyX3 tyX3_ok nmX3 hown hkb.1 hP hD hS 0 rfl rfl 0 (by decide) (hts _ kw_82) (fun _ h9 => h9) rfl hnm rfl (tyX3_ok 0 (by decide)) rfl rfl (Nat.le_of_ble_eq_true rfl) dX3_init_20 (fun H locs hP hD hS => ?_)
  have hP : va_P D cls [(h0, .inr (3, [.ref tk, .ref q_1, .int 0])), (q_1, .inl (cI, 900, .inl (fun _ => 0)))] H := hP
  have hD : va_D A [(h0, .inr (3, [.ref tk, .ref q_1, .int 0])), (q_1, .inl (cI, 900, .inl (fun _ => 0)))] := hD
  refine W.widen (k := 1) (n := 900) (Nat.le_of_ble_eq_true rfl) (Nat.le_of_ble_eq_true rfl) ?_
  exact e_v (u := [(h0, .inr (3, [.ref tk, .ref q_1, .int 0])), (q_1, .inl (cI, 900, .inl (fun _ => 0)))]) hx hb hr hlocks (hP.sub (ws' := [(h0, .inr (3, [.ref tk, .ref q_1, .int 0])), (q_1, .inl (cI, 900, .inl (fun _ => 0)))]) [0, 1] rfl) (hD.sub (ws' := [(h0, .inr (3, [.ref tk, .ref q_1, .int 0])), (q_1, .inl (cI, 900, .inl (fun _ => 0)))]) [0, 1] (by decide) rfl) hS ⟨q_1, rfl⟩ dX3_init_23
set_option maxHeartbeats 4000000 in
set_option maxRecDepth 100000 in
theorem c_Wall_init_14 (l : Launch) (D : va_G) (cB cI cJ cZ cS cW cT cR : ClassId) (h0 : Nat) : Kon l D (tyl cB cI cJ cZ cS cW cT cR) yX9_init cX9_init 4 none { frames := 1, cells := 5, slots := 52, locals := 14 } [.ref h0, .int 14, .int 5, .null] [(h0, .inr (9, [.int 0, .int 0, .int 0, .int 0, .int 0, .int 0, .null, .null, .null, .null, .null, .null, .int 0, .int 0]))] (Qv D (fun u => ∃ (q_1 : Nat), ∃ (q_2 : Nat), ∃ (q_3 : Nat), ∃ (q_4 : Nat), ∃ (q_5 : Nat), u = [(h0, .inr (9, [.int 14, .int 5, .int 0, .int 0, .int 0, .int 0, .ref q_1, .ref q_2, .ref q_3, .ref q_4, .ref q_5, .null, .int 0, .int 1])), (q_1, .inl (cI, 14, .inl (fun _ => 0))), (q_2, .inl (cI, 14, .inl (fun _ => 0))), (q_3, .inl (cI, 14, .inl (fun _ => 0))), (q_4, .inl (cI, 5, .inl (fun _ => 0))), (q_5, .inl (cI, 5, .inl (fun _ => 0)))])) := by
  refine kon_of (by decide) (Nat.le_of_ble_eq_true rfl) (fun p e s m below meth c ls A hx hb hr hml hown hts hlocks hnm hkb hP hD hS hA hl => ?_)
  have hown : s.vm.findClass RX9 = some m.cls := hown
  have hl : lv_has ls 4 [(0, .ref h0), (1, .int 14), (2, .int 5), (3, .null)] := hl
  have hP : va_P D cls [(h0, .inr (9, [.int 0, .int 0, .int 0, .int 0, .int 0, .int 0, .null, .null, .null, .null, .null, .null, .int 0, .int 0]))] s.heap := hP
  refine lv_aload_n hx hb dX9_init_0 rfl (lv_at hl 0 rfl) ?_
  refine W.objInit hx hb hown (hts _ kw_98) (hts _ kw_30) (hts _ kw_31) rfl (by rw [hml]; exact hl.1) rfl dX9_init_1 (Nat.le_of_ble_eq_true rfl) (Nat.le_of_ble_eq_true rfl) ?_
  refine W.eq (g2 := F0 m 4 ls []) rfl ?_
  refine lv_aload_n hx hb dX9_init_4 rfl (lv_at hl 0 rfl) ?_
  refine lv_iconst (v := 0) hx hb dX9_init_5 (by decide) ?_
  refine va_put (D := D) (ci := 9) (v := .int 0) (ty := tyX9 2) (C := RX9) (T := TX9) (N := 14) hx hb hts uX9 tyX9 tyX9_ok nmX9 hown hkb.1 hP hD hS 0 rfl rfl 2 (by decide) (hts _ kw_113) (fun _ h9 => h9) rfl (tyX9_ok 2 (by decide)) rfl rfl (Nat.le_of_ble_eq_true rfl) dX9_init_6 (fun H locs hP hD hS => ?_)
  have hP : va_P D cls [(h0, .inr (9, [.int 0, .int 0, .int 0, .int 0, .int 0, .int 0, .null, .null, .null, .null, .null, .null, .int 0, .int 0]))] H := hP
  have hD : va_D A [(h0, .inr (9, [.int 0, .int 0, .int 0, .int 0, .int 0, .int 0, .null, .null, .null, .null, .null, .null, .int 0, .int 0]))] := hD
  refine lv_aload_n hx hb dX9_init_9 rfl (lv_at hl 0 rfl) ?_
  refine lv_iconst (v := 0) hx hb dX9_init_10 (by decide) ?_
  refine va_put (D := D) (ci := 9) (v := .int 0) (ty := tyX9 3) (C := RX9) (T := TX9) (N := 14) hx hb hts uX9 tyX9 tyX9_ok nmX9 hown hkb.1 hP hD hS 0 rfl rfl 3 (by decide) (hts _ kw_116) (fun _ h9 => h9) rfl (tyX9_ok 3 (by decide)) rfl rfl (Nat.le_of_ble_eq_true rfl) dX9_init_11 (fun H locs hP hD hS => ?_)
  have hP : va_P D cls [(h0, .inr (9, [.int 0, .int 0, .int 0, .int 0, .int 0, .int 0, .null, .null, .null, .null, .null, .null, .int 0, .int 0]))] H := hP
  have hD : va_D A [(h0, .inr (9, [.int 0, .int 0, .int 0, .int 0, .int 0, .int 0, .null, .null, .null, .null, .null, .null, .int 0, .int 0]))] := hD
  refine lv_aload_n hx hb dX9_init_14 rfl (lv_at hl 0 rfl) ?_
  refine lv_iconst (v := 0) hx hb dX9_init_15 (by decide) ?_
  refine va_put (D := D) (ci := 9) (v := .int 0) (ty := tyX9 4) (C := RX9) (T := TX9) (N := 14) hx hb hts uX9 tyX9 tyX9_ok nmX9 hown hkb.1 hP hD hS 0 rfl rfl 4 (by decide) (hts _ kw_123) (fun _ h9 => h9) rfl (tyX9_ok 4 (by decide)) rfl rfl (Nat.le_of_ble_eq_true rfl) dX9_init_16 (fun H locs hP hD hS => ?_)
  have hP : va_P D cls [(h0, .inr (9, [.int 0, .int 0, .int 0, .int 0, .int 0, .int 0, .null, .null, .null, .null, .null, .null, .int 0, .int 0]))] H := hP
  have hD : va_D A [(h0, .inr (9, [.int 0, .int 0, .int 0, .int 0, .int 0, .int 0, .null, .null, .null, .null, .null, .null, .int 0, .int 0]))] := hD
  refine lv_aload_n hx hb dX9_init_19 rfl (lv_at hl 0 rfl) ?_
  refine lv_iconst (v := 0) hx hb dX9_init_20 (by decide) ?_
  refine va_put (D := D) (ci := 9) (v := .int 0) (ty := tyX9 5) (C := RX9) (T := TX9) (N := 14) hx hb hts uX9 tyX9 tyX9_ok nmX9 hown hkb.1 hP hD hS 0 rfl rfl 5 (by decide) (hts _ kw_130) (fun _ h9 => h9) rfl (tyX9_ok 5 (by decide)) rfl rfl (Nat.le_of_ble_eq_true rfl) dX9_init_21 (fun H locs hP hD hS => ?_)
  have hP : va_P D cls [(h0, .inr (9, [.int 0, .int 0, .int 0, .int 0, .int 0, .int 0, .null, .null, .null, .null, .null, .null, .int 0, .int 0]))] H := hP
  have hD : va_D A [(h0, .inr (9, [.int 0, .int 0, .int 0, .int 0, .int 0, .int 0, .null, .null, .null, .null, .null, .null, .int 0, .int 0]))] := hD
  refine lv_aload_n hx hb dX9_init_24 rfl (lv_at hl 0 rfl) ?_
  refine lv_iconst (v := 0) hx hb dX9_init_25 (by decide) ?_
  refine lv_iload_n hx hb dX9_init_26 rfl (lv_at hl 1 rfl) ?_
  refine va_mmax hx hb (by rw [hml]; exact hl.1.symm) hown (hts _ kw_99) (hts _ kw_100) (hts _ kw_6) (hts _ kw_101) (Nat.le_of_ble_eq_true rfl) (Nat.le_of_ble_eq_true rfl) (Nat.le_of_ble_eq_true rfl) (Nat.le_of_ble_eq_true rfl) dX9_init_27 ?_
  refine lv_topc (y := 14) (by decide +kernel) ?_
  refine va_put (D := D) (ci := 9) (v := .int 14) (ty := tyX9 0) (C := RX9) (T := TX9) (N := 14) hx hb hts uX9 tyX9 tyX9_ok nmX9 hown hkb.1 hP hD hS 0 rfl rfl 0 (by decide) (hts _ kw_106) (fun _ h9 => h9) rfl (tyX9_ok 0 (by decide)) rfl rfl (Nat.le_of_ble_eq_true rfl) dX9_init_30 (fun H locs hP hD hS => ?_)
  have hP : va_P D cls [(h0, .inr (9, [.int 14, .int 0, .int 0, .int 0, .int 0, .int 0, .null, .null, .null, .null, .null, .null, .int 0, .int 0]))] H := hP
  have hD : va_D A [(h0, .inr (9, [.int 14, .int 0, .int 0, .int 0, .int 0, .int 0, .null, .null, .null, .null, .null, .null, .int 0, .int 0]))] := hD
  refine lv_aload_n hx hb dX9_init_33 rfl (lv_at hl 0 rfl) ?_
  refine lv_iconst (v := 0) hx hb dX9_init_34 (by decide) ?_
  refine lv_iload_n hx hb dX9_init_35 rfl (lv_at hl 2 rfl) ?_
  refine va_mmax hx hb (by rw [hml]; exact hl.1.symm) hown (hts _ kw_99) (hts _ kw_100) (hts _ kw_6) (hts _ kw_101) (Nat.le_of_ble_eq_true rfl) (Nat.le_of_ble_eq_true rfl) (Nat.le_of_ble_eq_true rfl) (Nat.le_of_ble_eq_true rfl) dX9_init_36 ?_
  refine lv_topc (y := 5) (by decide +kernel) ?_
  refine va_put (D := D) (ci := 9) (v := .int 5) (ty := tyX9 1) (C := RX9) (T := TX9) (N := 14) hx hb hts uX9 tyX9 tyX9_ok nmX9 hown hkb.1 hP hD hS 0 rfl rfl 1 (by decide) (hts _ kw_110) (fun _ h9 => h9) rfl (tyX9_ok 1 (by decide)) rfl rfl (Nat.le_of_ble_eq_true rfl) dX9_init_39 (fun H locs hP hD hS => ?_)
  have hP : va_P D cls [(h0, .inr (9, [.int 14, .int 5, .int 0, .int 0, .int 0, .int 0, .null, .null, .null, .null, .null, .null, .int 0, .int 0]))] H := hP
  have hD : va_D A [(h0, .inr (9, [.int 14, .int 5, .int 0, .int 0, .int 0, .int 0, .null, .null, .null, .null, .null, .null, .int 0, .int 0]))] := hD
  refine lv_aload_n hx hb dX9_init_42 rfl (lv_at hl 0 rfl) ?_
  refine lv_aload_n hx hb dX9_init_43 rfl (lv_at hl 0 rfl) ?_
  refine va_get (D := D) (ci := 9) (v := .int 14) (C := RX9) (T := TX9) (N := 14) hx hb hts uX9 hown hkb.1 hP 0 rfl rfl 0 (by decide) (hts _ kw_106) (fun _ h9 => h9) rfl dX9_init_44 ?_
  refine n_a (atype := .int) (t := .int) (a0 := (14, .inl (fun _ => 0))) 1 rfl (fun _ _ h => h) hx hb (hts _ kw_92) rfl hkb.1 hP hD hS hA (fun _ => rfl) (by decide) (by decide +kernel) (by decide) (Nat.le_of_ble_eq_true rfl) (Nat.le_of_ble_eq_true rfl) dX9_init_47 (fun q_1 H hP hD hS => ?_)
  have hP : va_P D cls [(h0, .inr (9, [.int 14, .int 5, .int 0, .int 0, .int 0, .int 0, .null, .null, .null, .null, .null, .null, .int 0, .int 0])), (q_1, .inl (cI, 14, .inl (fun _ => 0)))] H := hP
  have hD : va_D A [(h0, .inr (9, [.int 14, .int 5, .int 0, .int 0, .int 0, .int 0, .null, .null, .null, .null, .null, .null, .int 0, .int 0])), (q_1, .inl (cI, 14, .inl (fun _ => 0)))] := hD
  refine W.widen (k := 1) (n := 14) (Nat.le_of_ble_eq_true rfl) (Nat.le_of_ble_eq_true rfl) ?_
  refine va_putF (D := D) (ci := 9) (v := .ref q_1) (ty := tyX9 6) (C := RX9) (T := TX9) (N := 14) hx hb hts uX9 tyX9 tyX9_ok nmX9 hown hkb.1 hP hD hS 0 rfl rfl 6 (by decide) (hts _ kw_132) (fun _ h9 => h9) rfl hnm rfl (tyX9_ok 6 (by decide)) rfl rfl (Nat.le_of_ble_eq_true rfl) dX9_init_49 (fun H locs hP hD hS => ?_)
  have hP : va_P D cls [(h0, .inr (9, [.int 14, .int 5, .int 0, .int 0, .int 0, .int 0, .ref q_1, .null, .null, .null, .null, .null, .int 0, .int 0])), (q_1, .inl (cI, 14, .inl (fun _ => 0)))] H := hP
  have hD : va_D A [(h0, .inr (9, [.int 14, .int 5, .int 0, .int 0, .int 0, .int 0, .ref q_1, .null, .null, .null, .null, .null, .int 0, .int 0])), (q_1, .inl (cI, 14, .inl (fun _ => 0)))] := hD
  refine lv_aload_n hx hb dX9_init_52 rfl (lv_at hl 0 rfl) ?_
  refine lv_aload_n hx hb dX9_init_53 rfl (lv_at hl 0 rfl) ?_
  refine va_get (D := D) (ci := 9) (v := .int 14) (C := RX9) (T := TX9) (N := 14) hx hb hts uX9 hown hkb.1 hP 0 rfl rfl 0 (by decide) (hts _ kw_106) (fun _ h9 => h9) rfl dX9_init_54 ?_
  refine n_a (atype := .int) (t := .int) (a0 := (14, .inl (fun _ => 0))) 1 rfl (fun _ _ h => h) hx hb (hts _ kw_92) rfl hkb.1 hP hD hS hA (fun _ => rfl) (by decide) (by decide +kernel) (by decide) (Nat.le_of_ble_eq_true rfl) (Nat.le_of_ble_eq_true rfl) dX9_init_57 (fun q_2 H hP hD hS => ?_)
  have hP : va_P D cls [(h0, .inr (9, [.int 14, .int 5, .int 0, .int 0, .int 0, .int 0, .ref q_1, .null, .null, .null, .null, .null, .int 0, .int 0])), (q_1, .inl (cI, 14, .inl (fun _ => 0))), (q_2, .inl (cI, 14, .inl (fun _ => 0)))] H := hP
  have hD : va_D A [(h0, .inr (9, [.int 14, .int 5, .int 0, .int 0, .int 0, .int 0, .ref q_1, .null, .null, .null, .null, .null, .int 0, .int 0])), (q_1, .inl (cI, 14, .inl (fun _ => 0))), (q_2, .inl (cI, 14, .inl (fun _ => 0)))] := hD
  refine W.widen (k := 2) (n := 28) (Nat.le_of_ble_eq_true rfl) (Nat.le_of_ble_eq_true rfl) ?_
  refine va_putF (D := D) (ci := 9) (v := .ref q_2) (ty := tyX9 7) (C := RX9) (T := TX9) (N := 14) hx hb hts uX9 tyX9 tyX9_ok nmX9 hown hkb.1 hP hD hS 0 rfl rfl 7 (by decide) (hts _ kw_135) (fun _ h9 => h9) rfl hnm rfl (tyX9_ok 7 (by decide)) rfl rfl (Nat.le_of_ble_eq_true rfl) dX9_init_59 (fun H locs hP hD hS => ?_)
  have hP : va_P D cls [(h0, .inr (9, [.int 14, .int 5, .int 0, .int 0, .int 0, .int 0, .ref q_1, .ref q_2, .null, .null, .null, .null, .int 0, .int 0])), (q_1, .inl (cI, 14, .inl (fun _ => 0))), (q_2, .inl (cI, 14, .inl (fun _ => 0)))] H := hP
  have hD : va_D A [(h0, .inr (9, [.int 14, .int 5, .int 0, .int 0, .int 0, .int 0, .ref q_1, .ref q_2, .null, .null, .null, .null, .int 0, .int 0])), (q_1, .inl (cI, 14, .inl (fun _ => 0))), (q_2, .inl (cI, 14, .inl (fun _ => 0)))] := hD
  refine lv_aload_n hx hb dX9_init_62 rfl (lv_at hl 0 rfl) ?_
  refine lv_aload_n hx hb dX9_init_63 rfl (lv_at hl 0 rfl) ?_
  refine va_get (D := D) (ci := 9) (v := .int 14) (C := RX9) (T := TX9) (N := 14) hx hb hts uX9 hown hkb.1 hP 0 rfl rfl 0 (by decide) (hts _ kw_106) (fun _ h9 => h9) rfl dX9_init_64 ?_
  refine n_a (atype := .int) (t := .int) (a0 := (14, .inl (fun _ => 0))) 1 rfl (fun _ _ h => h) hx hb (hts _ kw_92) rfl hkb.1 hP hD hS hA (fun _ => rfl) (by decide) (by decide +kernel) (by decide) (Nat.le_of_ble_eq_true rfl) (Nat.le_of_ble_eq_true rfl) dX9_init_67 (fun q_3 H hP hD hS => ?_)
  have hP : va_P D cls [(h0, .inr (9, [.int 14, .int 5, .int 0, .int 0, .int 0, .int 0, .ref q_1, .ref q_2, .null, .null, .null, .null, .int 0, .int 0])), (q_1, .inl (cI, 14, .inl (fun _ => 0))), (q_2, .inl (cI, 14, .inl (fun _ => 0))), (q_3, .inl (cI, 14, .inl (fun _ => 0)))] H := hP
  have hD : va_D A [(h0, .inr (9, [.int 14, .int 5, .int 0, .int 0, .int 0, .int 0, .ref q_1, .ref q_2, .null, .null, .null, .null, .int 0, .int 0])), (q_1, .inl (cI, 14, .inl (fun _ => 0))), (q_2, .inl (cI, 14, .inl (fun _ => 0))), (q_3, .inl (cI, 14, .inl (fun _ => 0)))] := hD
  refine W.widen (k := 3) (n := 42) (Nat.le_of_ble_eq_true rfl) (Nat.le_of_ble_eq_true rfl) ?_
  refine va_putF (D := D) (ci := 9) (v := .ref q_3) (ty := tyX9 8) (C := RX9) (T := TX9) (N := 14) hx hb hts uX9 tyX9 tyX9_ok nmX9 hown hkb.1 hP hD hS 0 rfl rfl 8 (by decide) (hts _ kw_138) (fun _ h9 => h9) rfl hnm rfl (tyX9_ok 8 (by decide)) rfl rfl (Nat.le_of_ble_eq_true rfl) dX9_init_69 (fun H locs hP hD hS => ?_)
  have hP : va_P D cls [(h0, .inr (9, [.int 14, .int 5, .int 0, .int 0, .int 0, .int 0, .ref q_1, .ref q_2, .ref q_3, .null, .null, .null, .int 0, .int 0])), (q_1, .inl (cI, 14, .inl (fun _ => 0))), (q_2, .inl (cI, 14, .inl (fun _ => 0))), (q_3, .inl (cI, 14, .inl (fun _ => 0)))] H := hP
  have hD : va_D A [(h0, .inr (9, [.int 14, .int 5, .int 0, .int 0, .int 0, .int 0, .ref q_1, .ref q_2, .ref q_3, .null, .null, .null, .int 0, .int 0])), (q_1, .inl (cI, 14, .inl (fun _ => 0))), (q_2, .inl (cI, 14, .inl (fun _ => 0))), (q_3, .inl (cI, 14, .inl (fun _ => 0)))] := hD
  refine lv_aload_n hx hb dX9_init_72 rfl (lv_at hl 0 rfl) ?_
  refine lv_aload_n hx hb dX9_init_73 rfl (lv_at hl 0 rfl) ?_
  refine va_get (D := D) (ci := 9) (v := .int 5) (C := RX9) (T := TX9) (N := 14) hx hb hts uX9 hown hkb.1 hP 0 rfl rfl 1 (by decide) (hts _ kw_110) (fun _ h9 => h9) rfl dX9_init_74 ?_
  refine n_a (atype := .int) (t := .int) (a0 := (5, .inl (fun _ => 0))) 1 rfl (fun _ _ h => h) hx hb (hts _ kw_92) rfl hkb.1 hP hD hS hA (fun _ => rfl) (by decide) (by decide +kernel) (by decide) (Nat.le_of_ble_eq_true rfl) (Nat.le_of_ble_eq_true rfl) dX9_init_77 (fun q_4 H hP hD hS => ?_)
  have hP : va_P D cls [(h0, .inr (9, [.int 14, .int 5, .int 0, .int 0, .int 0, .int 0, .ref q_1, .ref q_2, .ref q_3, .null, .null, .null, .int 0, .int 0])), (q_1, .inl (cI, 14, .inl (fun _ => 0))), (q_2, .inl (cI, 14, .inl (fun _ => 0))), (q_3, .inl (cI, 14, .inl (fun _ => 0))), (q_4, .inl (cI, 5, .inl (fun _ => 0)))] H := hP
  have hD : va_D A [(h0, .inr (9, [.int 14, .int 5, .int 0, .int 0, .int 0, .int 0, .ref q_1, .ref q_2, .ref q_3, .null, .null, .null, .int 0, .int 0])), (q_1, .inl (cI, 14, .inl (fun _ => 0))), (q_2, .inl (cI, 14, .inl (fun _ => 0))), (q_3, .inl (cI, 14, .inl (fun _ => 0))), (q_4, .inl (cI, 5, .inl (fun _ => 0)))] := hD
  refine W.widen (k := 4) (n := 47) (Nat.le_of_ble_eq_true rfl) (Nat.le_of_ble_eq_true rfl) ?_
  refine va_putF (D := D) (ci := 9) (v := .ref q_4) (ty := tyX9 9) (C := RX9) (T := TX9) (N := 14) hx hb hts uX9 tyX9 tyX9_ok nmX9 hown hkb.1 hP hD hS 0 rfl rfl 9 (by decide) (hts _ kw_141) (fun _ h9 => h9) rfl hnm rfl (tyX9_ok 9 (by decide)) rfl rfl (Nat.le_of_ble_eq_true rfl) dX9_init_79 (fun H locs hP hD hS => ?_)
  have hP : va_P D cls [(h0, .inr (9, [.int 14, .int 5, .int 0, .int 0, .int 0, .int 0, .ref q_1, .ref q_2, .ref q_3, .ref q_4, .null, .null, .int 0, .int 0])), (q_1, .inl (cI, 14, .inl (fun _ => 0))), (q_2, .inl (cI, 14, .inl (fun _ => 0))), (q_3, .inl (cI, 14, .inl (fun _ => 0))), (q_4, .inl (cI, 5, .inl (fun _ => 0)))] H := hP
  have hD : va_D A [(h0, .inr (9, [.int 14, .int 5, .int 0, .int 0, .int 0, .int 0, .ref q_1, .ref q_2, .ref q_3, .ref q_4, .null, .null, .int 0, .int 0])), (q_1, .inl (cI, 14, .inl (fun _ => 0))), (q_2, .inl (cI, 14, .inl (fun _ => 0))), (q_3, .inl (cI, 14, .inl (fun _ => 0))), (q_4, .inl (cI, 5, .inl (fun _ => 0)))] := hD
  refine lv_aload_n hx hb dX9_init_82 rfl (lv_at hl 0 rfl) ?_
  refine lv_aload_n hx hb dX9_init_83 rfl (lv_at hl 0 rfl) ?_
  refine va_get (D := D) (ci := 9) (v := .int 5) (C := RX9) (T := TX9) (N := 14) hx hb hts uX9 hown hkb.1 hP 0 rfl rfl 1 (by decide) (hts _ kw_110) (fun _ h9 => h9) rfl dX9_init_84 ?_
  refine n_a (atype := .int) (t := .int) (a0 := (5, .inl (fun _ => 0))) 1 rfl (fun _ _ h => h) hx hb (hts _ kw_92) rfl hkb.1 hP hD hS hA (fun _ => rfl) (by decide) (by decide +kernel) (by decide) (Nat.le_of_ble_eq_true rfl) (Nat.le_of_ble_eq_true rfl) dX9_init_87 (fun q_5 H hP hD hS => ?_)
  have hP : va_P D cls [(h0, .inr (9, [.int 14, .int 5, .int 0, .int 0, .int 0, .int 0, .ref q_1, .ref q_2, .ref q_3, .ref q_4, .null, .null, .int 0, .int 0])), (q_1, .inl (cI, 14, .inl (fun _ => 0))), (q_2, .inl (cI, 14, .inl (fun _ => 0))), (q_3, .inl (cI, 14, .inl (fun _ => 0))), (q_4, .inl (cI, 5, .inl (fun _ => 0))), (q_5, .inl (cI, 5, .inl (fun _ => 0)))] H := hP
  have hD : va_D A [(h0, .inr (9, [.int 14, .int 5, .int 0, .int 0, .int 0, .int 0, .ref q_1, .ref q_2, .ref q_3, .ref q_4, .null, .null, .int 0, .int 0])), (q_1, .inl (cI, 14, .inl (fun _ => 0))), (q_2, .inl (cI, 14, .inl (fun _ => 0))), (q_3, .inl (cI, 14, .inl (fun _ => 0))), (q_4, .inl (cI, 5, .inl (fun _ => 0))), (q_5, .inl (cI, 5, .inl (fun _ => 0)))] := hD
  refine W.widen (k := 5) (n := 52) (Nat.le_of_ble_eq_true rfl) (Nat.le_of_ble_eq_true rfl) ?_
  refine va_putF (D := D) (ci := 9) (v := .ref q_5) (ty := tyX9 10) (C := RX9) (T := TX9) (N := 14) hx hb hts uX9 tyX9 tyX9_ok nmX9 hown hkb.1 hP hD hS 0 rfl rfl 10 (by decide) (hts _ kw_144) (fun _ h9 => h9) rfl hnm rfl (tyX9_ok 10 (by decide)) rfl rfl (Nat.le_of_ble_eq_true rfl) dX9_init_89 (fun H locs hP hD hS => ?_)
  have hP : va_P D cls [(h0, .inr (9, [.int 14, .int 5, .int 0, .int 0, .int 0, .int 0, .ref q_1, .ref q_2, .ref q_3, .ref q_4, .ref q_5, .null, .int 0, .int 0])), (q_1, .inl (cI, 14, .inl (fun _ => 0))), (q_2, .inl (cI, 14, .inl (fun _ => 0))), (q_3, .inl (cI, 14, .inl (fun _ => 0))), (q_4, .inl (cI, 5, .inl (fun _ => 0))), (q_5, .inl (cI, 5, .inl (fun _ => 0)))] H := hP
  have hD : va_D A [(h0, .inr (9, [.int 14, .int 5, .int 0, .int 0, .int 0, .int 0, .ref q_1, .ref q_2, .ref q_3, .ref q_4, .ref q_5, .null, .int 0, .int 0])), (q_1, .inl (cI, 14, .inl (fun _ => 0))), (q_2, .inl (cI, 14, .inl (fun _ => 0))), (q_3, .inl (cI, 14, .inl (fun _ => 0))), (q_4, .inl (cI, 5, .inl (fun _ => 0))), (q_5, .inl (cI, 5, .inl (fun _ => 0)))] := hD
  refine lv_aload_n hx hb dX9_init_92 rfl (lv_at hl 0 rfl) ?_
  refine lv_aload_nN hx hb dX9_init_93 rfl (lv_at hl 3 rfl) ?_
  refine va_putF (D := D) (ci := 9) (v := .null) (ty := tyX9 11) (C := RX9) (T := TX9) (N := 14) hx hb hts uX9 tyX9 tyX9_ok nmX9 hown hkb.1 hP hD hS 0 rfl rfl 11 (by decide) (hts _ kw_147) (fun _ h9 => h9) rfl hnm rfl (tyX9_ok 11 (by decide)) rfl rfl (Nat.le_of_ble_eq_true rfl) dX9_init_94 (fun H locs hP hD hS => ?_)
  have hP : va_P D cls [(h0, .inr (9, [.int 14, .int 5, .int 0, .int 0, .int 0, .int 0, .ref q_1, .ref q_2, .ref q_3, .ref q_4, .ref q_5, .null, .int 0, .int 0])), (q_1, .inl (cI, 14, .inl (fun _ => 0))), (q_2, .inl (cI, 14, .inl (fun _ => 0))), (q_3, .inl (cI, 14, .inl (fun _ => 0))), (q_4, .inl (cI, 5, .inl (fun _ => 0))), (q_5, .inl (cI, 5, .inl (fun _ => 0)))] H := hP
  have hD : va_D A [(h0, .inr (9, [.int 14, .int 5, .int 0, .int 0, .int 0, .int 0, .ref q_1, .ref q_2, .ref q_3, .ref q_4, .ref q_5, .null, .int 0, .int 0])), (q_1, .inl (cI, 14, .inl (fun _ => 0))), (q_2, .inl (cI, 14, .inl (fun _ => 0))), (q_3, .inl (cI, 14, .inl (fun _ => 0))), (q_4, .inl (cI, 5, .inl (fun _ => 0))), (q_5, .inl (cI, 5, .inl (fun _ => 0)))] := hD
  refine lv_aload_n hx hb dX9_init_97 rfl (lv_at hl 0 rfl) ?_
  refine lv_aload_nN hx hb dX9_init_98 rfl (lv_at hl 3 rfl) ?_
  refine lv_ifnullN (tgt := 115) hx hb dX9_init_99 (by decide) ?_
  refine lv_iconst (v := 0) hx hb dX9_init_115 (by decide) ?_
  refine va_putF (D := D) (ci := 9) (v := .int 0) (ty := tyX9 12) (C := RX9) (T := TX9) (N := 14) hx hb hts uX9 tyX9 tyX9_ok nmX9 hown hkb.1 hP hD hS 0 rfl rfl 12 (by decide) (hts _ kw_148) (fun _ h9 => h9) rfl hnm rfl (tyX9_ok 12 (by decide)) rfl rfl (Nat.le_of_ble_eq_true rfl) dX9_init_116 (fun H locs hP hD hS => ?_)
  have hP : va_P D cls [(h0, .inr (9, [.int 14, .int 5, .int 0, .int 0, .int 0, .int 0, .ref q_1, .ref q_2, .ref q_3, .ref q_4, .ref q_5, .null, .int 0, .int 0])), (q_1, .inl (cI, 14, .inl (fun _ => 0))), (q_2, .inl (cI, 14, .inl (fun _ => 0))), (q_3, .inl (cI, 14, .inl (fun _ => 0))), (q_4, .inl (cI, 5, .inl (fun _ => 0))), (q_5, .inl (cI, 5, .inl (fun _ => 0)))] H := hP
  have hD : va_D A [(h0, .inr (9, [.int 14, .int 5, .int 0, .int 0, .int 0, .int 0, .ref q_1, .ref q_2, .ref q_3, .ref q_4, .ref q_5, .null, .int 0, .int 0])), (q_1, .inl (cI, 14, .inl (fun _ => 0))), (q_2, .inl (cI, 14, .inl (fun _ => 0))), (q_3, .inl (cI, 14, .inl (fun _ => 0))), (q_4, .inl (cI, 5, .inl (fun _ => 0))), (q_5, .inl (cI, 5, .inl (fun _ => 0)))] := hD
  refine lv_aload_n hx hb dX9_init_119 rfl (lv_at hl 0 rfl) ?_
  refine lv_aload_nN hx hb dX9_init_120 rfl (lv_at hl 3 rfl) ?_
  refine lv_ifnullN (tgt := 132) hx hb dX9_init_121 (by decide) ?_
  refine lv_iconst (v := 1) hx hb dX9_init_132 (by decide) ?_
  refine lv_goto (tgt := 137) hx hb dX9_init_133 (by decide) ?_
  refine va_putF (D := D) (ci := 9) (v := .int 1) (ty := tyX9 13) (C := RX9) (T := TX9) (N := 14) hx hb hts uX9 tyX9 tyX9_ok nmX9 hown hkb.1 hP hD hS 0 rfl rfl 13 (by decide) (hts _ kw_149) (fun _ h9 => h9) rfl hnm rfl (tyX9_ok 13 (by decide)) rfl rfl (Nat.le_of_ble_eq_true rfl) dX9_init_137 (fun H locs hP hD hS => ?_)
  have hP : va_P D cls [(h0, .inr (9, [.int 14, .int 5, .int 0, .int 0, .int 0, .int 0, .ref q_1, .ref q_2, .ref q_3, .ref q_4, .ref q_5, .null, .int 0, .int 1])), (q_1, .inl (cI, 14, .inl (fun _ => 0))), (q_2, .inl (cI, 14, .inl (fun _ => 0))), (q_3, .inl (cI, 14, .inl (fun _ => 0))), (q_4, .inl (cI, 5, .inl (fun _ => 0))), (q_5, .inl (cI, 5, .inl (fun _ => 0)))] H := hP
  have hD : va_D A [(h0, .inr (9, [.int 14, .int 5, .int 0, .int 0, .int 0, .int 0, .ref q_1, .ref q_2, .ref q_3, .ref q_4, .ref q_5, .null, .int 0, .int 1])), (q_1, .inl (cI, 14, .inl (fun _ => 0))), (q_2, .inl (cI, 14, .inl (fun _ => 0))), (q_3, .inl (cI, 14, .inl (fun _ => 0))), (q_4, .inl (cI, 5, .inl (fun _ => 0))), (q_5, .inl (cI, 5, .inl (fun _ => 0)))] := hD
  refine W.widen (k := 5) (n := 52) (Nat.le_of_ble_eq_true rfl) (Nat.le_of_ble_eq_true rfl) ?_
  exact e_v (u := [(h0, .inr (9, [.int 14, .int 5, .int 0, .int 0, .int 0, .int 0, .ref q_1, .ref q_2, .ref q_3, .ref q_4, .ref q_5, .null, .int 0, .int 1])), (q_1, .inl (cI, 14, .inl (fun _ => 0))), (q_2, .inl (cI, 14, .inl (fun _ => 0))), (q_3, .inl (cI, 14, .inl (fun _ => 0))), (q_4, .inl (cI, 5, .inl (fun _ => 0))), (q_5, .inl (cI, 5, .inl (fun _ => 0)))]) hx hb hr hlocks (hP.sub (ws' := [(h0, .inr (9, [.int 14, .int 5, .int 0, .int 0, .int 0, .int 0, .ref q_1, .ref q_2, .ref q_3, .ref q_4, .ref q_5, .null, .int 0, .int 1])), (q_1, .inl (cI, 14, .inl (fun _ => 0))), (q_2, .inl (cI, 14, .inl (fun _ => 0))), (q_3, .inl (cI, 14, .inl (fun _ => 0))), (q_4, .inl (cI, 5, .inl (fun _ => 0))), (q_5, .inl (cI, 5, .inl (fun _ => 0)))]) [0, 1, 2, 3, 4, 5] rfl) (hD.sub (ws' := [(h0, .inr (9, [.int 14, .int 5, .int 0, .int 0, .int 0, .int 0, .ref q_1, .ref q_2, .ref q_3, .ref q_4, .ref q_5, .null, .int 0, .int 1])), (q_1, .inl (cI, 14, .inl (fun _ => 0))), (q_2, .inl (cI, 14, .inl (fun _ => 0))), (q_3, .inl (cI, 14, .inl (fun _ => 0))), (q_4, .inl (cI, 5, .inl (fun _ => 0))), (q_5, .inl (cI, 5, .inl (fun _ => 0)))]) [0, 1, 2, 3, 4, 5] (by decide) rfl) hS ⟨q_1, q_2, q_3, q_4, q_5, rfl⟩ dX9_init_140
set_option maxHeartbeats 4000000 in
set_option maxRecDepth 100000 in
theorem c_Wall_init_0 (l : Launch) (D : va_G) (cB cI cJ cZ cS cW cT cR : ClassId) (h0 : Nat) : Kon l D (tyl cB cI cJ cZ cS cW cT cR) yX9_init cX9_init 4 none { frames := 1, cells := 5, slots := 0, locals := 14 } [.ref h0, .int 0, .int 0, .null] [(h0, .inr (9, [.int 0, .int 0, .int 0, .int 0, .int 0, .int 0, .null, .null, .null, .null, .null, .null, .int 0, .int 0]))] (Qv D (fun u => ∃ (q_1 : Nat), ∃ (q_2 : Nat), ∃ (q_3 : Nat), ∃ (q_4 : Nat), ∃ (q_5 : Nat), u = [(h0, .inr (9, [.int 0, .int 0, .int 0, .int 0, .int 0, .int 0, .ref q_1, .ref q_2, .ref q_3, .ref q_4, .ref q_5, .null, .int 0, .int 1])), (q_1, .inl (cI, 0, .inl (fun _ => 0))), (q_2, .inl (cI, 0, .inl (fun _ => 0))), (q_3, .inl (cI, 0, .inl (fun _ => 0))), (q_4, .inl (cI, 0, .inl (fun _ => 0))), (q_5, .inl (cI, 0, .inl (fun _ => 0)))])) := by
  refine kon_of (by decide) (Nat.le_of_ble_eq_true rfl) (fun p e s m below meth c ls A hx hb hr hml hown hts hlocks hnm hkb hP hD hS hA hl => ?_)
  have hown : s.vm.findClass RX9 = some m.cls := hown
  have hl : lv_has ls 4 [(0, .ref h0), (1, .int 0), (2, .int 0), (3, .null)] := hl
  have hP : va_P D cls [(h0, .inr (9, [.int 0, .int 0, .int 0, .int 0, .int 0, .int 0, .null, .null, .null, .null, .null, .null, .int 0, .int 0]))] s.heap := hP
  refine lv_aload_n hx hb dX9_init_0 rfl (lv_at hl 0 rfl) ?_
  refine W.objInit hx hb hown (hts _ kw_98) (hts _ kw_30) (hts _ kw_31) rfl (by rw [hml]; exact hl.1) rfl dX9_init_1 (Nat.le_of_ble_eq_true rfl) (Nat.le_of_ble_eq_true rfl) ?_
  refine W.eq (g2 := F0 m 4 ls []) rfl ?_
  refine lv_aload_n hx hb dX9_init_4 rfl (lv_at hl 0 rfl) ?_
  refine lv_iconst (v := 0) hx hb dX9_init_5 (by decide) ?_
  refine va_put (D := D) (ci := 9) (v := .int 0) (ty := tyX9 2) (C := RX9) (T := TX9) (N := 14) hx hb hts uX9 tyX9 tyX9_ok nmX9 hown hkb.1 hP hD hS 0 rfl rfl 2 (by decide) (hts _ kw_113) (fun _ h9 => h9) rfl (tyX9_ok 2 (by decide)) rfl rfl (Nat.le_of_ble_eq_true rfl) dX9_init_6 (fun H locs hP hD hS => ?_)
  have hP : va_P D cls [(h0, .inr (9, [.int 0, .int 0, .int 0, .int 0, .int 0, .int 0, .null, .null, .null, .null, .null, .null, .int 0, .int 0]))] H := hP
  have hD : va_D A [(h0, .inr (9, [.int 0, .int 0, .int 0, .int 0, .int 0, .int 0, .null, .null, .null, .null, .null, .null, .int 0, .int 0]))] := hD
  refine lv_aload_n hx hb dX9_init_9 rfl (lv_at hl 0 rfl) ?_
  refine lv_iconst (v := 0) hx hb dX9_init_10 (by decide) ?_
  refine va_put (D := D) (ci := 9) (v := .int 0) (ty := tyX9 3) (C := RX9) (T := TX9) (N := 14) hx hb hts uX9 tyX9 tyX9_ok nmX9 hown hkb.1 hP hD hS 0 rfl rfl 3 (by decide) (hts _ kw_116) (fun _ h9 => h9) rfl (tyX9_ok 3 (by decide)) rfl rfl (Nat.le_of_ble_eq_true rfl) dX9_init_11 (fun H locs hP hD hS => ?_)
  have hP : va_P D cls [(h0, .inr (9, [.int 0, .int 0, .int 0, .int 0, .int 0, .int 0, .null, .null, .null, .null, .null, .null, .int 0, .int 0]))] H := hP
  have hD : va_D A [(h0, .inr (9, [.int 0, .int 0, .int 0, .int 0, .int 0, .int 0, .null, .null, .null, .null, .null, .null, .int 0, .int 0]))] := hD
  refine lv_aload_n hx hb dX9_init_14 rfl (lv_at hl 0 rfl) ?_
  refine lv_iconst (v := 0) hx hb dX9_init_15 (by decide) ?_
  refine va_put (D := D) (ci := 9) (v := .int 0) (ty := tyX9 4) (C := RX9) (T := TX9) (N := 14) hx hb hts uX9 tyX9 tyX9_ok nmX9 hown hkb.1 hP hD hS 0 rfl rfl 4 (by decide) (hts _ kw_123) (fun _ h9 => h9) rfl (tyX9_ok 4 (by decide)) rfl rfl (Nat.le_of_ble_eq_true rfl) dX9_init_16 (fun H locs hP hD hS => ?_)
  have hP : va_P D cls [(h0, .inr (9, [.int 0, .int 0, .int 0, .int 0, .int 0, .int 0, .null, .null, .null, .null, .null, .null, .int 0, .int 0]))] H := hP
  have hD : va_D A [(h0, .inr (9, [.int 0, .int 0, .int 0, .int 0, .int 0, .int 0, .null, .null, .null, .null, .null, .null, .int 0, .int 0]))] := hD
  refine lv_aload_n hx hb dX9_init_19 rfl (lv_at hl 0 rfl) ?_
  refine lv_iconst (v := 0) hx hb dX9_init_20 (by decide) ?_
  refine va_put (D := D) (ci := 9) (v := .int 0) (ty := tyX9 5) (C := RX9) (T := TX9) (N := 14) hx hb hts uX9 tyX9 tyX9_ok nmX9 hown hkb.1 hP hD hS 0 rfl rfl 5 (by decide) (hts _ kw_130) (fun _ h9 => h9) rfl (tyX9_ok 5 (by decide)) rfl rfl (Nat.le_of_ble_eq_true rfl) dX9_init_21 (fun H locs hP hD hS => ?_)
  have hP : va_P D cls [(h0, .inr (9, [.int 0, .int 0, .int 0, .int 0, .int 0, .int 0, .null, .null, .null, .null, .null, .null, .int 0, .int 0]))] H := hP
  have hD : va_D A [(h0, .inr (9, [.int 0, .int 0, .int 0, .int 0, .int 0, .int 0, .null, .null, .null, .null, .null, .null, .int 0, .int 0]))] := hD
  refine lv_aload_n hx hb dX9_init_24 rfl (lv_at hl 0 rfl) ?_
  refine lv_iconst (v := 0) hx hb dX9_init_25 (by decide) ?_
  refine lv_iload_n hx hb dX9_init_26 rfl (lv_at hl 1 rfl) ?_
  refine va_mmax hx hb (by rw [hml]; exact hl.1.symm) hown (hts _ kw_99) (hts _ kw_100) (hts _ kw_6) (hts _ kw_101) (Nat.le_of_ble_eq_true rfl) (Nat.le_of_ble_eq_true rfl) (Nat.le_of_ble_eq_true rfl) (Nat.le_of_ble_eq_true rfl) dX9_init_27 ?_
  refine lv_topc (y := 0) (by decide +kernel) ?_
  refine va_put (D := D) (ci := 9) (v := .int 0) (ty := tyX9 0) (C := RX9) (T := TX9) (N := 14) hx hb hts uX9 tyX9 tyX9_ok nmX9 hown hkb.1 hP hD hS 0 rfl rfl 0 (by decide) (hts _ kw_106) (fun _ h9 => h9) rfl (tyX9_ok 0 (by decide)) rfl rfl (Nat.le_of_ble_eq_true rfl) dX9_init_30 (fun H locs hP hD hS => ?_)
  have hP : va_P D cls [(h0, .inr (9, [.int 0, .int 0, .int 0, .int 0, .int 0, .int 0, .null, .null, .null, .null, .null, .null, .int 0, .int 0]))] H := hP
  have hD : va_D A [(h0, .inr (9, [.int 0, .int 0, .int 0, .int 0, .int 0, .int 0, .null, .null, .null, .null, .null, .null, .int 0, .int 0]))] := hD
  refine lv_aload_n hx hb dX9_init_33 rfl (lv_at hl 0 rfl) ?_
  refine lv_iconst (v := 0) hx hb dX9_init_34 (by decide) ?_
  refine lv_iload_n hx hb dX9_init_35 rfl (lv_at hl 2 rfl) ?_
  refine va_mmax hx hb (by rw [hml]; exact hl.1.symm) hown (hts _ kw_99) (hts _ kw_100) (hts _ kw_6) (hts _ kw_101) (Nat.le_of_ble_eq_true rfl) (Nat.le_of_ble_eq_true rfl) (Nat.le_of_ble_eq_true rfl) (Nat.le_of_ble_eq_true rfl) dX9_init_36 ?_
  refine lv_topc (y := 0) (by decide +kernel) ?_
  refine va_put (D := D) (ci := 9) (v := .int 0) (ty := tyX9 1) (C := RX9) (T := TX9) (N := 14) hx hb hts uX9 tyX9 tyX9_ok nmX9 hown hkb.1 hP hD hS 0 rfl rfl 1 (by decide) (hts _ kw_110) (fun _ h9 => h9) rfl (tyX9_ok 1 (by decide)) rfl rfl (Nat.le_of_ble_eq_true rfl) dX9_init_39 (fun H locs hP hD hS => ?_)
  have hP : va_P D cls [(h0, .inr (9, [.int 0, .int 0, .int 0, .int 0, .int 0, .int 0, .null, .null, .null, .null, .null, .null, .int 0, .int 0]))] H := hP
  have hD : va_D A [(h0, .inr (9, [.int 0, .int 0, .int 0, .int 0, .int 0, .int 0, .null, .null, .null, .null, .null, .null, .int 0, .int 0]))] := hD
  refine lv_aload_n hx hb dX9_init_42 rfl (lv_at hl 0 rfl) ?_
  refine lv_aload_n hx hb dX9_init_43 rfl (lv_at hl 0 rfl) ?_
  refine va_get (D := D) (ci := 9) (v := .int 0) (C := RX9) (T := TX9) (N := 14) hx hb hts uX9 hown hkb.1 hP 0 rfl rfl 0 (by decide) (hts _ kw_106) (fun _ h9 => h9) rfl dX9_init_44 ?_
  refine n_a (atype := .int) (t := .int) (a0 := (0, .inl (fun _ => 0))) 1 rfl (fun _ _ h => h) hx hb (hts _ kw_92) rfl hkb.1 hP hD hS hA (fun _ => rfl) (by decide) (by decide +kernel) (by decide) (Nat.le_of_ble_eq_true rfl) (Nat.le_of_ble_eq_true rfl) dX9_init_47 (fun q_1 H hP hD hS => ?_)
  have hP : va_P D cls [(h0, .inr (9, [.int 0, .int 0, .int 0, .int 0, .int 0, .int 0, .null, .null, .null, .null, .null, .null, .int 0, .int 0])), (q_1, .inl (cI, 0, .inl (fun _ => 0)))] H := hP
  have hD : va_D A [(h0, .inr (9, [.int 0, .int 0, .int 0, .int 0, .int 0, .int 0, .null, .null, .null, .null, .null, .null, .int 0, .int 0])), (q_1, .inl (cI, 0, .inl (fun _ => 0)))] := hD
  refine W.widen (k := 1) (n := 0) (Nat.le_of_ble_eq_true rfl) (Nat.le_of_ble_eq_true rfl) ?_
  refine va_putF (D := D) (ci := 9) (v := .ref q_1) (ty := tyX9 6) (C := RX9) (T := TX9) (N := 14) hx hb hts uX9 tyX9 tyX9_ok nmX9 hown hkb.1 hP hD hS 0 rfl rfl 6 (by decide) (hts _ kw_132) (fun _ h9 => h9) rfl hnm rfl (tyX9_ok 6 (by decide)) rfl rfl (Nat.le_of_ble_eq_true rfl) dX9_init_49 (fun H locs hP hD hS => ?_)
  have hP : va_P D cls [(h0, .inr (9, [.int 0, .int 0, .int 0, .int 0, .int 0, .int 0, .ref q_1, .null, .null, .null, .null, .null, .int 0, .int 0])), (q_1, .inl (cI, 0, .inl (fun _ => 0)))] H := hP
  have hD : va_D A [(h0, .inr (9, [.int 0, .int 0, .int 0, .int 0, .int 0, .int 0, .ref q_1, .null, .null, .null, .null, .null, .int 0, .int 0])), (q_1, .inl (cI, 0, .inl (fun _ => 0)))] := hD
  refine lv_aload_n hx hb dX9_init_52 rfl (lv_at hl 0 rfl) ?_
  refine lv_aload_n hx hb dX9_init_53 rfl (lv_at hl 0 rfl) ?_
  refine va_get (D := D) (ci := 9) (v := .int 0) (C := RX9) (T := TX9) (N := 14) hx hb hts uX9 hown hkb.1 hP 0 rfl rfl 0 (by decide) (hts _ kw_106) (fun _ h9 => h9) rfl dX9_init_54 ?_
  refine n_a (atype := .int) (t := .int) (a0 := (0, .inl (fun _ => 0))) 1 rfl (fun _ _ h => h) hx hb (hts _ kw_92) rfl hkb.1 hP hD hS hA (fun _ => rfl) (by decide) (by decide +kernel) (by decide) (Nat.le_of_ble_eq_true rfl) (Nat.le_of_ble_eq_true rfl) dX9_init_57 (fun q_2 H hP hD hS => ?_)
  have hP : va_P D cls [(h0, .inr (9, [.int 0, .int 0, .int 0, .int 0, .int 0, .int 0, .ref q_1, .null, .null, .null, .null, .null, .int 0, .int 0])), (q_1, .inl (cI, 0, .inl (fun _ => 0))), (q_2, .inl (cI, 0, .inl (fun _ => 0)))] H := hP
  have hD : va_D A [(h0, .inr (9, [.int 0, .int 0, .int 0, .int 0, .int 0, .int 0, .ref q_1, .null, .null, .null, .null, .null, .int 0, .int 0])), (q_1, .inl (cI, 0, .inl (fun _ => 0))), (q_2, .inl (cI, 0, .inl (fun _ => 0)))] := hD
  refine W.widen (k := 2) (n := 0) (Nat.le_of_ble_eq_true rfl) (Nat.le_of_ble_eq_true rfl) ?_
  refine va_putF (D := D) (ci := 9) (v := .ref q_2) (ty := tyX9 7) (C := RX9) (T := TX9) (N := 14) hx hb hts uX9 tyX9 tyX9_ok nmX9 hown hkb.1 hP hD hS 0 rfl rfl 7 (by decide) (hts _ kw_135) (fun _ h9 => h9) rfl hnm rfl (tyX9_ok 7 (by decide)) rfl rfl (Nat.le_of_ble_eq_true rfl) dX9_init_59 (fun H locs hP hD hS => ?_)
  have hP : va_P D cls [(h0, .inr (9, [.int 0, .int 0, .int 0, .int 0, .int 0, .int 0, .ref q_1, .ref q_2, .null, .null, .null, .null, .int 0, .int 0])), (q_1, .inl (cI, 0, .inl (fun _ => 0))), (q_2, .inl (cI, 0, .inl (fun _ => 0)))] H := hP
  have hD : va_D A [(h0, .inr (9, [.int 0, .int 0, .int 0, .int 0, .int 0, .int 0, .ref q_1, .ref q_2, .null, .null, .null, .null, .int 0, .int 0])), (q_1, .inl (cI, 0, .inl (fun _ => 0))), (q_2, .inl (cI, 0, .inl (fun _ => 0)))] := hD
  refine lv_aload_n hx hb dX9_init_62 rfl (lv_at hl 0 rfl) ?_
  refine lv_aload_n hx hb dX9_init_63 rfl (lv_at hl 0 rfl) ?_
  refine va_get (D := D) (ci := 9) (v := .int 0) (C := RX9) (T := TX9) (N := 14) hx hb hts uX9 hown hkb.1 hP 0 rfl rfl 0 (by decide) (hts _ kw_106) (fun _ h9 => h9) rfl dX9_init_64 ?_
  refine n_a (atype := .int) (t := .int) (a0 := (0, .inl (fun _ => 0))) 1 rfl (fun _ _ h => h) hx hb (hts _ kw_92) rfl hkb.1 hP hD hS hA (fun _ => rfl) (by decide) (by decide +kernel) (by decide) (Nat.le_of_ble_eq_true rfl) (Nat.le_of_ble_eq_true rfl) dX9_init_67 (fun q_3 H hP hD hS => ?_)
  have hP : va_P D cls [(h0, .inr (9, [.int 0, .int 0, .int 0, .int 0, .int 0, .int 0, .ref q_1, .ref q_2, .null, .null, .null, .null, .int 0, .int 0])), (q_1, .inl (cI, 0, .inl (fun _ => 0))), (q_2, .inl (cI, 0, .inl (fun _ => 0))), (q_3, .inl (cI, 0, .inl (fun _ => 0)))] H := hP
  have hD : va_D A [(h0, .inr (9, [.int 0, .int 0, .int 0, .int 0, .int 0, .int 0, .ref q_1, .ref q_2, .null, .null, .null, .null, .int 0, .int 0])), (q_1, .inl (cI, 0, .inl (fun _ => 0))), (q_2, .inl (cI, 0, .inl (fun _ => 0))), (q_3, .inl (cI, 0, .inl (fun _ => 0)))] := hD
  refine W.widen (k := 3) (n := 0) (Nat.le_of_ble_eq_true rfl) (Nat.le_of_ble_eq_true rfl) ?_
  refine va_putF (D := D) (ci := 9) (v := .ref q_3) (ty := tyX9 8) (C := RX9) (T := TX9) (N := 14) hx hb hts uX9 tyX9 tyX9_ok nmX9 hown hkb.1 hP hD hS 0 rfl rfl 8 (by decide) (hts _ kw_138) (fun _ h9 => h9) rfl hnm rfl (tyX9_ok 8 (by decide)) rfl rfl (Nat.le_of_ble_eq_true rfl) dX9_init_69 (fun H locs hP hD hS => ?_)
  have hP : va_P D cls [(h0, .inr (9, [.int 0, .int 0, .int 0, .int 0, .int 0, .int 0, .ref q_1, .ref q_2, .ref q_3, .null, .null, .null, .int 0, .int 0])), (q_1, .inl (cI, 0, .inl (fun _ => 0))), (q_2, .inl (cI, 0, .inl (fun _ => 0))), (q_3, .inl (cI, 0, .inl (fun _ => 0)))] H := hP
  have hD : va_D A [(h0, .inr (9, [.int 0, .int 0, .int 0, .int 0, .int 0, .int 0, .ref q_1, .ref q_2, .ref q_3, .null, .null, .null, .int 0, .int 0])), (q_1, .inl (cI, 0, .inl (fun _ => 0))), (q_2, .inl (cI, 0, .inl (fun _ => 0))), (q_3, .inl (cI, 0, .inl (fun _ => 0)))] := hD
  refine lv_aload_n hx hb dX9_init_72 rfl (lv_at hl 0 rfl) ?_
  refine lv_aload_n hx hb dX9_init_73 rfl (lv_at hl 0 rfl) ?_
  refine va_get (D := D) (ci := 9) (v := .int 0) (C := RX9) (T := TX9) (N := 14) hx hb hts uX9 hown hkb.1 hP 0 rfl rfl 1 (by decide) (hts _ kw_110) (fun _ h9 => h9) rfl dX9_init_74 ?_
  refine n_a (atype := .int) (t := .int) (a0 := (0, .inl (fun _ => 0))) 1 rfl (fun _ _ h => h) hx hb (hts _ kw_92) rfl hkb.1 hP hD hS hA (fun _ => rfl) (by decide) (by decide +kernel) (by decide) (Nat.le_of_ble_eq_true rfl) (Nat.le_of_ble_eq_true rfl) dX9_init_77 (fun q_4 H hP hD hS => ?_)
  have hP : va_P D cls [(h0, .inr (9, [.int 0, .int 0, .int 0, .int 0, .int 0, .int 0, .ref q_1, .ref q_2, .ref q_3, .null, .null, .null, .int 0, .int 0])), (q_1, .inl (cI, 0, .inl (fun _ => 0))), (q_2, .inl (cI, 0, .inl (fun _ => 0))), (q_3, .inl (cI, 0, .inl (fun _ => 0))), (q_4, .inl (cI, 0, .inl (fun _ => 0)))] H := hP
  have hD : va_D A [(h0, .inr (9, [.int 0, .int 0, .int 0, .int 0, .int 0, .int 0, .ref q_1, .ref q_2, .ref q_3, .null, .null, .null, .int 0, .int 0])), (q_1, .inl (cI, 0, .inl (fun _ => 0))), (q_2, .inl (cI, 0, .inl (fun _ => 0))), (q_3, .inl (cI, 0, .inl (fun _ => 0))), (q_4, .inl (cI, 0, .inl (fun _ => 0)))] := hD
  refine W.widen (k := 4) (n := 0) (Nat.le_of_ble_eq_true rfl) (Nat.le_of_ble_eq_true rfl) ?_
  refine va_putF (D := D) (ci := 9) (v := .ref q_4) (ty := tyX9 9) (C := RX9) (T := TX9) (N := 14) hx hb hts uX9 tyX9 tyX9_ok nmX9 hown hkb.1 hP hD hS 0 rfl rfl 9 (by decide) (hts _ kw_141) (fun _ h9 => h9) rfl hnm rfl (tyX9_ok 9 (by decide)) rfl rfl (Nat.le_of_ble_eq_true rfl) dX9_init_79 (fun H locs hP hD hS => ?_)
  have hP : va_P D cls [(h0, .inr (9, [.int 0, .int 0, .int 0, .int 0, .int 0, .int 0, .ref q_1, .ref q_2, .ref q_3, .ref q_4, .null, .null, .int 0, .int 0])), (q_1, .inl (cI, 0, .inl (fun _ => 0))), (q_2, .inl (cI, 0, .inl (fun _ => 0))), (q_3, .inl (cI, 0, .inl (fun _ => 0))), (q_4, .inl (cI, 0, .inl (fun _ => 0)))] H := hP
  have hD : va_D A [(h0, .inr (9, [.int 0, .int 0, .int 0, .int 0, .int 0, .int 0, .ref q_1, .ref q_2, .ref q_3, .ref q_4, .null, .null, .int 0, .int 0])), (q_1, .inl (cI, 0, .inl (fun _ => 0))), (q_2, .inl (cI, 0, .inl (fun _ => 0))), (q_3, .inl (cI, 0, .inl (fun _ => 0))), (q_4, .inl (cI, 0, .inl (fun _ => 0)))] := hD
  refine lv_aload_n hx hb dX9_init_82 rfl (lv_at hl 0 rfl) ?_
  refine lv_aload_n hx hb dX9_init_83 rfl (lv_at hl 0 rfl) ?_
  refine va_get (D := D) (ci := 9) (v := .int 0) (C := RX9) (T := TX9) (N := 14) hx hb hts uX9 hown hkb.1 hP 0 rfl rfl 1 (by decide) (hts _ kw_110) (fun _ h9 => h9) rfl dX9_init_84 ?_
  refine n_a (atype := .int) (t := .int) (a0 := (0, .inl (fun _ => 0))) 1 rfl (fun _ _ h => h) hx hb (hts _ kw_92) rfl hkb.1 hP hD hS hA (fun _ => rfl) (by decide) (by decide +kernel) (by decide) (Nat.le_of_ble_eq_true rfl) (Nat.le_of_ble_eq_true rfl) dX9_init_87 (fun q_5 H hP hD hS => ?_)
  have hP : va_P D cls [(h0, .inr (9, [.int 0, .int 0, .int 0, .int 0, .int 0, .int 0, .ref q_1, .ref q_2, .ref q_3, .ref q_4, .null, .null, .int 0, .int 0])), (q_1, .inl (cI, 0, .inl (fun _ => 0))), (q_2, .inl (cI, 0, .inl (fun _ => 0))), (q_3, .inl (cI, 0, .inl (fun _ => 0))), (q_4, .inl (cI, 0, .inl (fun _ => 0))), (q_5, .inl (cI, 0, .inl (fun _ => 0)))] H := hP
  have hD : va_D A [(h0, .inr (9, [.int 0, .int 0, .int 0, .int 0, .int 0, .int 0, .ref q_1, .ref q_2, .ref q_3, .ref q_4, .null, .null, .int 0, .int 0])), (q_1, .inl (cI, 0, .inl (fun _ => 0))), (q_2, .inl (cI, 0, .inl (fun _ => 0))), (q_3, .inl (cI, 0, .inl (fun _ => 0))), (q_4, .inl (cI, 0, .inl (fun _ => 0))), (q_5, .inl (cI, 0, .inl (fun _ => 0)))] := hD
  refine W.widen (k := 5) (n := 0) (Nat.le_of_ble_eq_true rfl) (Nat.le_of_ble_eq_true rfl) ?_
  refine va_putF (D := D) (ci := 9) (v := .ref q_5) (ty := tyX9 10) (C := RX9) (T := TX9) (N := 14) hx hb hts uX9 tyX9 tyX9_ok nmX9 hown hkb.1 hP hD hS 0 rfl rfl 10 (by decide) (hts _ kw_144) (fun _ h9 => h9) rfl hnm rfl (tyX9_ok 10 (by decide)) rfl rfl (Nat.le_of_ble_eq_true rfl) dX9_init_89 (fun H locs hP hD hS => ?_)
  have hP : va_P D cls [(h0, .inr (9, [.int 0, .int 0, .int 0, .int 0, .int 0, .int 0, .ref q_1, .ref q_2, .ref q_3, .ref q_4, .ref q_5, .null, .int 0, .int 0])), (q_1, .inl (cI, 0, .inl (fun _ => 0))), (q_2, .inl (cI, 0, .inl (fun _ => 0))), (q_3, .inl (cI, 0, .inl (fun _ => 0))), (q_4, .inl (cI, 0, .inl (fun _ => 0))), (q_5, .inl (cI, 0, .inl (fun _ => 0)))] H := hP
  have hD : va_D A [(h0, .inr (9, [.int 0, .int 0, .int 0, .int 0, .int 0, .int 0, .ref q_1, .ref q_2, .ref q_3, .ref q_4, .ref q_5, .null, .int 0, .int 0])), (q_1, .inl (cI, 0, .inl (fun _ => 0))), (q_2, .inl (cI, 0, .inl (fun _ => 0))), (q_3, .inl (cI, 0, .inl (fun _ => 0))), (q_4, .inl (cI, 0, .inl (fun _ => 0))), (q_5, .inl (cI, 0, .inl (fun _ => 0)))] := hD
  refine lv_aload_n hx hb dX9_init_92 rfl (lv_at hl 0 rfl) ?_
  refine lv_aload_nN hx hb dX9_init_93 rfl (lv_at hl 3 rfl) ?_
  refine va_putF (D := D) (ci := 9) (v := .null) (ty := tyX9 11) (C := RX9) (T := TX9) (N := 14) hx hb hts uX9 tyX9 tyX9_ok nmX9 hown hkb.1 hP hD hS 0 rfl rfl 11 (by decide) (hts _ kw_147) (fun _ h9 => h9) rfl hnm rfl (tyX9_ok 11 (by decide)) rfl rfl (Nat.le_of_ble_eq_true rfl) dX9_init_94 (fun H locs hP hD hS => ?_)
  have hP : va_P D cls [(h0, .inr (9, [.int 0, .int 0, .int 0, .int 0, .int 0, .int 0, .ref q_1, .ref q_2, .ref q_3, .ref q_4, .ref q_5, .null, .int 0, .int 0])), (q_1, .inl (cI, 0, .inl (fun _ => 0))), (q_2, .inl (cI, 0, .inl (fun _ => 0))), (q_3, .inl (cI, 0, .inl (fun _ => 0))), (q_4, .inl (cI, 0, .inl (fun _ => 0))), (q_5, .inl (cI, 0, .inl (fun _ => 0)))] H := hP
  have hD : va_D A [(h0, .inr (9, [.int 0, .int 0, .int 0, .int 0, .int 0, .int 0, .ref q_1, .ref q_2, .ref q_3, .ref q_4, .ref q_5, .null, .int 0, .int 0])), (q_1, .inl (cI, 0, .inl (fun _ => 0))), (q_2, .inl (cI, 0, .inl (fun _ => 0))), (q_3, .inl (cI, 0, .inl (fun _ => 0))), (q_4, .inl (cI, 0, .inl (fun _ => 0))), (q_5, .inl (cI, 0, .inl (fun _ => 0)))] := hD
  refine lv_aload_n hx hb dX9_init_97 rfl (lv_at hl 0 rfl) ?_
  refine lv_aload_nN hx hb dX9_init_98 rfl (lv_at hl 3 rfl) ?_
  refine lv_ifnullN (tgt := 115) hx hb dX9_init_99 (by decide) ?_
  refine lv_iconst (v := 0) hx hb dX9_init_115 (by decide) ?_
  refine va_putF (D := D) (ci := 9) (v := .int 0) (ty := tyX9 12) (C := RX9) (T := TX9) (N := 14) hx hb hts uX9 tyX9 tyX9_ok nmX9 hown hkb.1 hP hD hS 0 rfl rfl 12 (by decide) (hts _ kw_148) (fun _ h9 => h9) rfl hnm rfl (tyX9_ok 12 (by decide)) rfl rfl (Nat.le_of_ble_eq_true rfl) dX9_init_116 (fun H locs hP hD hS => ?_)
  have hP : va_P D cls [(h0, .inr (9, [.int 0, .int 0, .int 0, .int 0, .int 0, .int 0, .ref q_1, .ref q_2, .ref q_3, .ref q_4, .ref q_5, .null, .int 0, .int 0])), (q_1, .inl (cI, 0, .inl (fun _ => 0))), (q_2, .inl (cI, 0, .inl (fun _ => 0))), (q_3, .inl (cI, 0, .inl (fun _ => 0))), (q_4, .inl (cI, 0, .inl (fun _ => 0))), (q_5, .inl (cI, 0, .inl (fun _ => 0)))] H := hP
  have hD : va_D A [(h0, .inr (9, [.int 0, .int 0, .int 0, .int 0, .int 0, .int 0, .ref q_1, .ref q_2, .ref q_3, .ref q_4, .ref q_5, .null, .int 0, .int 0])), (q_1, .inl (cI, 0, .inl (fun _ => 0))), (q_2, .inl (cI, 0, .inl (fun _ => 0))), (q_3, .inl (cI, 0, .inl (fun _ => 0))), (q_4, .inl (cI, 0, .inl (fun _ => 0))), (q_5, .inl (cI, 0, .inl (fun _ => 0)))] := hD
  refine lv_aload_n hx hb dX9_init_119 rfl (lv_at hl 0 rfl) ?_
  refine lv_aload_nN hx hb dX9_init_120 rfl (lv_at hl 3 rfl) ?_
  refine lv_ifnullN (tgt := 132) hx hb dX9_init_121 (by decide) ?_
  refine lv_iconst (v := 1) hx hb dX9_init_132 (by decide) ?_
  refine lv_goto (tgt := 137) hx hb dX9_init_133 (by decide) ?_
  refine va_putF (D := D) (ci := 9) (v := .int 1) (ty := tyX9 13) (C := RX9) (T := TX9) (N := 14) hx hb hts uX9 tyX9 tyX9_ok nmX9 hown hkb.1 hP hD hS 0 rfl rfl 13 (by decide) (hts _ kw_149) (fun _ h9 => h9) rfl hnm rfl (tyX9_ok 13 (by decide)) rfl rfl (Nat.le_of_ble_eq_true rfl) dX9_init_137 (fun H locs hP hD hS => ?_)
  have hP : va_P D cls [(h0, .inr (9, [.int 0, .int 0, .int 0, .int 0, .int 0, .int 0, .ref q_1, .ref q_2, .ref q_3, .ref q_4, .ref q_5, .null, .int 0, .int 1])), (q_1, .inl (cI, 0, .inl (fun _ => 0))), (q_2, .inl (cI, 0, .inl (fun _ => 0))), (q_3, .inl (cI, 0, .inl (fun _ => 0))), (q_4, .inl (cI, 0, .inl (fun _ => 0))), (q_5, .inl (cI, 0, .inl (fun _ => 0)))] H := hP
  have hD : va_D A [(h0, .inr (9, [.int 0, .int 0, .int 0, .int 0, .int 0, .int 0, .ref q_1, .ref q_2, .ref q_3, .ref q_4, .ref q_5, .null, .int 0, .int 1])), (q_1, .inl (cI, 0, .inl (fun _ => 0))), (q_2, .inl (cI, 0, .inl (fun _ => 0))), (q_3, .inl (cI, 0, .inl (fun _ => 0))), (q_4, .inl (cI, 0, .inl (fun _ => 0))), (q_5, .inl (cI, 0, .inl (fun _ => 0)))] := hD
  refine W.widen (k := 5) (n := 0) (Nat.le_of_ble_eq_true rfl) (Nat.le_of_ble_eq_true rfl) ?_
  exact e_v (u := [(h0, .inr (9, [.int 0, .int 0, .int 0, .int 0, .int 0, .int 0, .ref q_1, .ref q_2, .ref q_3, .ref q_4, .ref q_5, .null, .int 0, .int 1])), (q_1, .inl (cI, 0, .inl (fun _ => 0))), (q_2, .inl (cI, 0, .inl (fun _ => 0))), (q_3, .inl (cI, 0, .inl (fun _ => 0))), (q_4, .inl (cI, 0, .inl (fun _ => 0))), (q_5, .inl (cI, 0, .inl (fun _ => 0)))]) hx hb hr hlocks (hP.sub (ws' := [(h0, .inr (9, [.int 0, .int 0, .int 0, .int 0, .int 0, .int 0, .ref q_1, .ref q_2, .ref q_3, .ref q_4, .ref q_5, .null, .int 0, .int 1])), (q_1, .inl (cI, 0, .inl (fun _ => 0))), (q_2, .inl (cI, 0, .inl (fun _ => 0))), (q_3, .inl (cI, 0, .inl (fun _ => 0))), (q_4, .inl (cI, 0, .inl (fun _ => 0))), (q_5, .inl (cI, 0, .inl (fun _ => 0)))]) [0, 1, 2, 3, 4, 5] rfl) (hD.sub (ws' := [(h0, .inr (9, [.int 0, .int 0, .int 0, .int 0, .int 0, .int 0, .ref q_1, .ref q_2, .ref q_3, .ref q_4, .ref q_5, .null, .int 0, .int 1])), (q_1, .inl (cI, 0, .inl (fun _ => 0))), (q_2, .inl (cI, 0, .inl (fun _ => 0))), (q_3, .inl (cI, 0, .inl (fun _ => 0))), (q_4, .inl (cI, 0, .inl (fun _ => 0))), (q_5, .inl (cI, 0, .inl (fun _ => 0)))]) [0, 1, 2, 3, 4, 5] (by decide) rfl) hS ⟨q_1, q_2, q_3, q_4, q_5, rfl⟩ dX9_init_140
set_option maxHeartbeats 4000000 in
set_option maxRecDepth 100000 in
theorem c_Rows_init (l : Launch) (D : va_G) (cB cI cJ cZ cS cW cT cR : ClassId) (h0 : Nat) (wl : Nat) : Kon l D (tyl cB cI cJ cZ cS cW cT cR) yX5_init cX5_init 2 none { frames := 1, cells := 2, slots := 28, locals := 12 } [.ref h0, .ref wl] [(h0, .inr (5, [.null, .int 0, .int 0, .int 0, .null, .null]))] (Qv D (fun u => ∃ (q_1 : Nat), ∃ (q_2 : Nat), u = [(h0, .inr (5, [.ref wl, .int 0, .int 0, .int 0, .ref q_1, .ref q_2])), (q_1, .inl (cI, 14, .inl (fun _ => 0))), (q_2, .inl (cI, 14, .inl (fun _ => 0)))])) := by
  refine kon_of (by decide) (Nat.le_of_ble_eq_true rfl) (fun p e s m below meth c ls A hx hb hr hml hown hts hlocks hnm hkb hP hD hS hA hl => ?_)
  have hown : s.vm.findClass RX5 = some m.cls := hown
  have hl : lv_has ls 2 [(0, .ref h0), (1, .ref wl)] := hl
  have hP : va_P D cls [(h0, .inr (5, [.null, .int 0, .int 0, .int 0, .null, .null]))] s.heap := hP
  refine lv_aload_n hx hb dX5_init_0 rfl (lv_at hl 0 rfl) ?_
  refine W.objInit hx hb hown (hts _ kw_243) (hts _ kw_30) (hts _ kw_31) rfl (by rw [hml]; exact hl.1) rfl dX5_init_1 (Nat.le_of_ble_eq_true rfl) (Nat.le_of_ble_eq_true rfl) ?_
  refine W.eq (g2 := F0 m 4 ls []) rfl ?_
  refine lv_aload_n hx hb dX5_init_4 rfl (lv_at hl 0 rfl) ?_
  refine lv_iconst (v := 0) hx hb dX5_init_5 (by decide) ?_
  refine va_put (D := D) (ci := 5) (v := .int 0) (ty := tyX5 1) (C := RX5) (T := TX5) (N := 6) hx hb hts uX5 tyX5 tyX5_ok nmX5 hown hkb.1 hP hD hS 0 rfl rfl 1 (by decide) (hts _ kw_248) (fun _ h9 => h9) rfl (tyX5_ok 1 (by decide)) rfl rfl (Nat.le_of_ble_eq_true rfl) dX5_init_6 (fun H locs hP hD hS => ?_)
  have hP : va_P D cls [(h0, .inr (5, [.null, .int 0, .int 0, .int 0, .null, .null]))] H := hP
  have hD : va_D A [(h0, .inr (5, [.null, .int 0, .int 0, .int 0, .null, .null]))] := hD
  refine lv_aload_n hx hb dX5_init_9 rfl (lv_at hl 0 rfl) ?_
  refine lv_iconst (v := 0) hx hb dX5_init_10 (by decide) ?_
  refine va_put (D := D) (ci := 5) (v := .int 0) (ty := tyX5 2) (C := RX5) (T := TX5) (N := 6) hx hb hts uX5 tyX5 tyX5_ok nmX5 hown hkb.1 hP hD hS 0 rfl rfl 2 (by decide) (hts _ kw_249) (fun _ h9 => h9) rfl (tyX5_ok 2 (by decide)) rfl rfl (Nat.le_of_ble_eq_true rfl) dX5_init_11 (fun H locs hP hD hS => ?_)
  have hP : va_P D cls [(h0, .inr (5, [.null, .int 0, .int 0, .int 0, .null, .null]))] H := hP
  have hD : va_D A [(h0, .inr (5, [.null, .int 0, .int 0, .int 0, .null, .null]))] := hD
  refine lv_aload_n hx hb dX5_init_14 rfl (lv_at hl 0 rfl) ?_
  refine lv_iconst (v := 0) hx hb dX5_init_15 (by decide) ?_
  refine va_put (D := D) (ci := 5) (v := .int 0) (ty := tyX5 3) (C := RX5) (T := TX5) (N := 6) hx hb hts uX5 tyX5 tyX5_ok nmX5 hown hkb.1 hP hD hS 0 rfl rfl 3 (by decide) (hts _ kw_250) (fun _ h9 => h9) rfl (tyX5_ok 3 (by decide)) rfl rfl (Nat.le_of_ble_eq_true rfl) dX5_init_16 (fun H locs hP hD hS => ?_)
  have hP : va_P D cls [(h0, .inr (5, [.null, .int 0, .int 0, .int 0, .null, .null]))] H := hP
  have hD : va_D A [(h0, .inr (5, [.null, .int 0, .int 0, .int 0, .null, .null]))] := hD
  refine lv_aload_n hx hb dX5_init_19 rfl (lv_at hl 0 rfl) ?_
  refine lv_bipush (v := 14) hx hb dX5_init_20 (by decide) ?_
  refine n_a (atype := .int) (t := .int) (a0 := (14, .inl (fun _ => 0))) 1 rfl (fun _ _ h => h) hx hb (hts _ kw_92) rfl hkb.1 hP hD hS hA (fun _ => rfl) (by decide) (by decide +kernel) (by decide) (Nat.le_of_ble_eq_true rfl) (Nat.le_of_ble_eq_true rfl) dX5_init_22 (fun q_1 H hP hD hS => ?_)
  have hP : va_P D cls [(h0, .inr (5, [.null, .int 0, .int 0, .int 0, .null, .null])), (q_1, .inl (cI, 14, .inl (fun _ => 0)))] H := hP
  have hD : va_D A [(h0, .inr (5, [.null, .int 0, .int 0, .int 0, .null, .null])), (q_1, .inl (cI, 14, .inl (fun _ => 0)))] := hD
  refine W.widen (k := 1) (n := 14) (Nat.le_of_ble_eq_true rfl) (Nat.le_of_ble_eq_true rfl) ?_
  refine va_putF (D := D) (ci := 5) (v := .ref q_1) (ty := tyX5 4) (C := RX5) (T := TX5) (N := 6) hx hb hts uX5 tyX5 tyX5_ok nmX5 hown hkb.1 hP hD hS 0 rfl rfl 4 (by decide) (hts _ kw_251) (fun _ h9 => h9) rfl hnm rfl (tyX5_ok 4 (by decide)) rfl rfl (Nat.le_of_ble_eq_true rfl) dX5_init_24 (fun H locs hP hD hS => ?_)
  have hP : va_P D cls [(h0, .inr (5, [.null, .int 0, .int 0, .int 0, .ref q_1, .null])), (q_1, .inl (cI, 14, .inl (fun _ => 0)))] H := hP
  have hD : va_D A [(h0, .inr (5, [.null, .int 0, .int 0, .int 0, .ref q_1, .null])), (q_1, .inl (cI, 14, .inl (fun _ => 0)))] := hD
  refine lv_aload_n hx hb dX5_init_27 rfl (lv_at hl 0 rfl) ?_
  refine lv_bipush (v := 14) hx hb dX5_init_28 (by decide) ?_
  refine n_a (atype := .int) (t := .int) (a0 := (14, .inl (fun _ => 0))) 1 rfl (fun _ _ h => h) hx hb (hts _ kw_92) rfl hkb.1 hP hD hS hA (fun _ => rfl) (by decide) (by decide +kernel) (by decide) (Nat.le_of_ble_eq_true rfl) (Nat.le_of_ble_eq_true rfl) dX5_init_30 (fun q_2 H hP hD hS => ?_)
  have hP : va_P D cls [(h0, .inr (5, [.null, .int 0, .int 0, .int 0, .ref q_1, .null])), (q_1, .inl (cI, 14, .inl (fun _ => 0))), (q_2, .inl (cI, 14, .inl (fun _ => 0)))] H := hP
  have hD : va_D A [(h0, .inr (5, [.null, .int 0, .int 0, .int 0, .ref q_1, .null])), (q_1, .inl (cI, 14, .inl (fun _ => 0))), (q_2, .inl (cI, 14, .inl (fun _ => 0)))] := hD
  refine W.widen (k := 2) (n := 28) (Nat.le_of_ble_eq_true rfl) (Nat.le_of_ble_eq_true rfl) ?_
  refine va_putF (D := D) (ci := 5) (v := .ref q_2) (ty := tyX5 5) (C := RX5) (T := TX5) (N := 6) hx hb hts uX5 tyX5 tyX5_ok nmX5 hown hkb.1 hP hD hS 0 rfl rfl 5 (by decide) (hts _ kw_252) (fun _ h9 => h9) rfl hnm rfl (tyX5_ok 5 (by decide)) rfl rfl (Nat.le_of_ble_eq_true rfl) dX5_init_32 (fun H locs hP hD hS => ?_)
  have hP : va_P D cls [(h0, .inr (5, [.null, .int 0, .int 0, .int 0, .ref q_1, .ref q_2])), (q_1, .inl (cI, 14, .inl (fun _ => 0))), (q_2, .inl (cI, 14, .inl (fun _ => 0)))] H := hP
  have hD : va_D A [(h0, .inr (5, [.null, .int 0, .int 0, .int 0, .ref q_1, .ref q_2])), (q_1, .inl (cI, 14, .inl (fun _ => 0))), (q_2, .inl (cI, 14, .inl (fun _ => 0)))] := hD
  refine lv_aload_n hx hb dX5_init_35 rfl (lv_at hl 0 rfl) ?_
  refine lv_aload_n hx hb dX5_init_36 rfl (lv_at hl 1 rfl) ?_
  refine va_put (D := D) (ci := 5) (v := .ref wl) (ty := tyX5 0) (C := RX5) (T := TX5) (N := 6) hx hb hts uX5 tyX5 tyX5_ok nmX5 hown hkb.1 hP hD hS 0 rfl rfl 0 (by decide) (hts _ kw_244) (fun _ h9 => h9) rfl (tyX5_ok 0 (by decide)) rfl rfl (Nat.le_of_ble_eq_true rfl) dX5_init_37 (fun H locs hP hD hS => ?_)
  have hP : va_P D cls [(h0, .inr (5, [.ref wl, .int 0, .int 0, .int 0, .ref q_1, .ref q_2])), (q_1, .inl (cI, 14, .inl (fun _ => 0))), (q_2, .inl (cI, 14, .inl (fun _ => 0)))] H := hP
  have hD : va_D A [(h0, .inr (5, [.ref wl, .int 0, .int 0, .int 0, .ref q_1, .ref q_2])), (q_1, .inl (cI, 14, .inl (fun _ => 0))), (q_2, .inl (cI, 14, .inl (fun _ => 0)))] := hD
  refine W.widen (k := 2) (n := 28) (Nat.le_of_ble_eq_true rfl) (Nat.le_of_ble_eq_true rfl) ?_
  exact e_v (u := [(h0, .inr (5, [.ref wl, .int 0, .int 0, .int 0, .ref q_1, .ref q_2])), (q_1, .inl (cI, 14, .inl (fun _ => 0))), (q_2, .inl (cI, 14, .inl (fun _ => 0)))]) hx hb hr hlocks (hP.sub (ws' := [(h0, .inr (5, [.ref wl, .int 0, .int 0, .int 0, .ref q_1, .ref q_2])), (q_1, .inl (cI, 14, .inl (fun _ => 0))), (q_2, .inl (cI, 14, .inl (fun _ => 0)))]) [0, 1, 2] rfl) (hD.sub (ws' := [(h0, .inr (5, [.ref wl, .int 0, .int 0, .int 0, .ref q_1, .ref q_2])), (q_1, .inl (cI, 14, .inl (fun _ => 0))), (q_2, .inl (cI, 14, .inl (fun _ => 0)))]) [0, 1, 2] (by decide) rfl) hS ⟨q_1, q_2, rfl⟩ dX5_init_40
set_option maxHeartbeats 4000000 in
set_option maxRecDepth 100000 in
theorem c_Ways_init (l : Launch) (D : va_G) (cB cI cJ cZ cS cW cT cR : ClassId) (h0 : Nat) : Kon l D (tyl cB cI cJ cZ cS cW cT cR) yX10_init cX10_init 1 none { frames := 1, cells := 5, slots := 70, locals := 12 } [.ref h0] [(h0, .inr (10, [.null, .null, .int 0, .null, .null, .null, .int 0]))] (Qv D (fun u => ∃ (q_1 : Nat), ∃ (q_2 : Nat), ∃ (q_3 : Nat), ∃ (q_4 : Nat), ∃ (q_5 : Nat), u = [(h0, .inr (10, [.ref q_1, .ref q_2, .int 0, .ref q_3, .ref q_4, .ref q_5, .int 0])), (q_1, .inl (cI, 14, .inl (fun _ => 0))), (q_2, .inl (cI, 14, .inl (fun _ => 0))), (q_3, .inl (cJ, 14, .inr (.inl (fun _ => 0)))), (q_4, .inl (cI, 14, .inl (fun _ => 0))), (q_5, .inl (cI, 14, .inl (fun _ => 0)))])) := by
  refine kon_of (by decide) (Nat.le_of_ble_eq_true rfl) (fun p e s m below meth c ls A hx hb hr hml hown hts hlocks hnm hkb hP hD hS hA hl => ?_)
  have hown : s.vm.findClass RX10 = some m.cls := hown
  have hl : lv_has ls 1 [(0, .ref h0)] := hl
  have hP : va_P D cls [(h0, .inr (10, [.null, .null, .int 0, .null, .null, .null, .int 0]))] s.heap := hP
  refine lv_aload_n hx hb dX10_init_0 rfl (lv_at hl 0 rfl) ?_
  refine W.objInit hx hb hown (hts _ kw_271) (hts _ kw_30) (hts _ kw_31) rfl (by rw [hml]; exact hl.1) rfl dX10_init_1 (Nat.le_of_ble_eq_true rfl) (Nat.le_of_ble_eq_true rfl) ?_
  refine W.eq (g2 := F0 m 4 ls []) rfl ?_
  refine lv_aload_n hx hb dX10_init_4 rfl (lv_at hl 0 rfl) ?_
  refine lv_bipush (v := 14) hx hb dX10_init_5 (by decide) ?_
  refine n_a (atype := .int) (t := .int) (a0 := (14, .inl (fun _ => 0))) 1 rfl (fun _ _ h => h) hx hb (hts _ kw_92) rfl hkb.1 hP hD hS hA (fun _ => rfl) (by decide) (by decide +kernel) (by decide) (Nat.le_of_ble_eq_true rfl) (Nat.le_of_ble_eq_true rfl) dX10_init_7 (fun q_1 H hP hD hS => ?_)
  have hP : va_P D cls [(h0, .inr (10, [.null, .null, .int 0, .null, .null, .null, .int 0])), (q_1, .inl (cI, 14, .inl (fun _ => 0)))] H := hP
  have hD : va_D A [(h0, .inr (10, [.null, .null, .int 0, .null, .null, .null, .int 0])), (q_1, .inl (cI, 14, .inl (fun _ => 0)))] := hD
  refine W.widen (k := 1) (n := 14) (Nat.le_of_ble_eq_true rfl) (Nat.le_of_ble_eq_true rfl) ?_
  refine va_putF (D := D) (ci := 10) (v := .ref q_1) (ty := tyX10 0) (C := RX10) (T := TX10) (N := 7) hx hb hts uX10 tyX10 tyX10_ok nmX10 hown hkb.1 hP hD hS 0 rfl rfl 0 (by decide) (hts _ kw_272) (fun _ h9 => h9) rfl hnm rfl (tyX10_ok 0 (by decide)) rfl rfl (Nat.le_of_ble_eq_true rfl) dX10_init_9 (fun H locs hP hD hS => ?_)
  have hP : va_P D cls [(h0, .inr (10, [.ref q_1, .null, .int 0, .null, .null, .null, .int 0])), (q_1, .inl (cI, 14, .inl (fun _ => 0)))] H := hP
  have hD : va_D A [(h0, .inr (10, [.ref q_1, .null, .int 0, .null, .null, .null, .int 0])), (q_1, .inl (cI, 14, .inl (fun _ => 0)))] := hD
  refine lv_aload_n hx hb dX10_init_12 rfl (lv_at hl 0 rfl) ?_
  refine lv_bipush (v := 14) hx hb dX10_init_13 (by decide) ?_
  refine n_a (atype := .int) (t := .int) (a0 := (14, .inl (fun _ => 0))) 1 rfl (fun _ _ h => h) hx hb (hts _ kw_92) rfl hkb.1 hP hD hS hA (fun _ => rfl) (by decide) (by decide +kernel) (by decide) (Nat.le_of_ble_eq_true rfl) (Nat.le_of_ble_eq_true rfl) dX10_init_15 (fun q_2 H hP hD hS => ?_)
  have hP : va_P D cls [(h0, .inr (10, [.ref q_1, .null, .int 0, .null, .null, .null, .int 0])), (q_1, .inl (cI, 14, .inl (fun _ => 0))), (q_2, .inl (cI, 14, .inl (fun _ => 0)))] H := hP
  have hD : va_D A [(h0, .inr (10, [.ref q_1, .null, .int 0, .null, .null, .null, .int 0])), (q_1, .inl (cI, 14, .inl (fun _ => 0))), (q_2, .inl (cI, 14, .inl (fun _ => 0)))] := hD
  refine W.widen (k := 2) (n := 28) (Nat.le_of_ble_eq_true rfl) (Nat.le_of_ble_eq_true rfl) ?_
  refine va_putF (D := D) (ci := 10) (v := .ref q_2) (ty := tyX10 1) (C := RX10) (T := TX10) (N := 7) hx hb hts uX10 tyX10 tyX10_ok nmX10 hown hkb.1 hP hD hS 0 rfl rfl 1 (by decide) (hts _ kw_273) (fun _ h9 => h9) rfl hnm rfl (tyX10_ok 1 (by decide)) rfl rfl (Nat.le_of_ble_eq_true rfl) dX10_init_17 (fun H locs hP hD hS => ?_)
  have hP : va_P D cls [(h0, .inr (10, [.ref q_1, .ref q_2, .int 0, .null, .null, .null, .int 0])), (q_1, .inl (cI, 14, .inl (fun _ => 0))), (q_2, .inl (cI, 14, .inl (fun _ => 0)))] H := hP
  have hD : va_D A [(h0, .inr (10, [.ref q_1, .ref q_2, .int 0, .null, .null, .null, .int 0])), (q_1, .inl (cI, 14, .inl (fun _ => 0))), (q_2, .inl (cI, 14, .inl (fun _ => 0)))] := hD
  refine lv_aload_n hx hb dX10_init_20 rfl (lv_at hl 0 rfl) ?_
  refine lv_iconst (v := 0) hx hb dX10_init_21 (by decide) ?_
  refine va_put (D := D) (ci := 10) (v := .int 0) (ty := tyX10 2) (C := RX10) (T := TX10) (N := 7) hx hb hts uX10 tyX10 tyX10_ok nmX10 hown hkb.1 hP hD hS 0 rfl rfl 2 (by decide) (hts _ kw_275) (fun _ h9 => h9) rfl (tyX10_ok 2 (by decide)) rfl rfl (Nat.le_of_ble_eq_true rfl) dX10_init_22 (fun H locs hP hD hS => ?_)
  have hP : va_P D cls [(h0, .inr (10, [.ref q_1, .ref q_2, .int 0, .null, .null, .null, .int 0])), (q_1, .inl (cI, 14, .inl (fun _ => 0))), (q_2, .inl (cI, 14, .inl (fun _ => 0)))] H := hP
  have hD : va_D A [(h0, .inr (10, [.ref q_1, .ref q_2, .int 0, .null, .null, .null, .int 0])), (q_1, .inl (cI, 14, .inl (fun _ => 0))), (q_2, .inl (cI, 14, .inl (fun _ => 0)))] := hD
  refine lv_aload_n hx hb dX10_init_25 rfl (lv_at hl 0 rfl) ?_
  refine lv_bipush (v := 14) hx hb dX10_init_26 (by decide) ?_
  refine n_a (atype := .long) (t := .long) (a0 := (14, .inr (.inl (fun _ => 0)))) 2 rfl (fun _ _ h => h) hx hb (hts _ kw_295) rfl hkb.1 hP hD hS hA (fun _ => rfl) (by decide) (by decide +kernel) (by decide) (Nat.le_of_ble_eq_true rfl) (Nat.le_of_ble_eq_true rfl) dX10_init_28 (fun q_3 H hP hD hS => ?_)
  have hP : va_P D cls [(h0, .inr (10, [.ref q_1, .ref q_2, .int 0, .null, .null, .null, .int 0])), (q_1, .inl (cI, 14, .inl (fun _ => 0))), (q_2, .inl (cI, 14, .inl (fun _ => 0))), (q_3, .inl (cJ, 14, .inr (.inl (fun _ => 0))))] H := hP
  have hD : va_D A [(h0, .inr (10, [.ref q_1, .ref q_2, .int 0, .null, .null, .null, .int 0])), (q_1, .inl (cI, 14, .inl (fun _ => 0))), (q_2, .inl (cI, 14, .inl (fun _ => 0))), (q_3, .inl (cJ, 14, .inr (.inl (fun _ => 0))))] := hD
  refine W.widen (k := 3) (n := 42) (Nat.le_of_ble_eq_true rfl) (Nat.le_of_ble_eq_true rfl) ?_
  refine va_putF (D := D) (ci := 10) (v := .ref q_3) (ty := tyX10 3) (C := RX10) (T := TX10) (N := 7) hx hb hts uX10 tyX10 tyX10_ok nmX10 hown hkb.1 hP hD hS 0 rfl rfl 3 (by decide) (hts _ kw_276) (fun _ h9 => h9) rfl hnm rfl (tyX10_ok 3 (by decide)) rfl rfl (Nat.le_of_ble_eq_true rfl) dX10_init_30 (fun H locs hP hD hS => ?_)
  have hP : va_P D cls [(h0, .inr (10, [.ref q_1, .ref q_2, .int 0, .ref q_3, .null, .null, .int 0])), (q_1, .inl (cI, 14, .inl (fun _ => 0))), (q_2, .inl (cI, 14, .inl (fun _ => 0))), (q_3, .inl (cJ, 14, .inr (.inl (fun _ => 0))))] H := hP
  have hD : va_D A [(h0, .inr (10, [.ref q_1, .ref q_2, .int 0, .ref q_3, .null, .null, .int 0])), (q_1, .inl (cI, 14, .inl (fun _ => 0))), (q_2, .inl (cI, 14, .inl (fun _ => 0))), (q_3, .inl (cJ, 14, .inr (.inl (fun _ => 0))))] := hD
  refine lv_aload_n hx hb dX10_init_33 rfl (lv_at hl 0 rfl) ?_
  refine lv_bipush (v := 14) hx hb dX10_init_34 (by decide) ?_
  refine n_a (atype := .int) (t := .int) (a0 := (14, .inl (fun _ => 0))) 1 rfl (fun _ _ h => h) hx hb (hts _ kw_92) rfl hkb.1 hP hD hS hA (fun _ => rfl) (by decide) (by decide +kernel) (by decide) (Nat.le_of_ble_eq_true rfl) (Nat.le_of_ble_eq_true rfl) dX10_init_36 (fun q_4 H hP hD hS => ?_)
  have hP : va_P D cls [(h0, .inr (10, [.ref q_1, .ref q_2, .int 0, .ref q_3, .null, .null, .int 0])), (q_1, .inl (cI, 14, .inl (fun _ => 0))), (q_2, .inl (cI, 14, .inl (fun _ => 0))), (q_3, .inl (cJ, 14, .inr (.inl (fun _ => 0)))), (q_4, .inl (cI, 14, .inl (fun _ => 0)))] H := hP
  have hD : va_D A [(h0, .inr (10, [.ref q_1, .ref q_2, .int 0, .ref q_3, .null, .null, .int 0])), (q_1, .inl (cI, 14, .inl (fun _ => 0))), (q_2, .inl (cI, 14, .inl (fun _ => 0))), (q_3, .inl (cJ, 14, .inr (.inl (fun _ => 0)))), (q_4, .inl (cI, 14, .inl (fun _ => 0)))] := hD
  refine W.widen (k := 4) (n := 56) (Nat.le_of_ble_eq_true rfl) (Nat.le_of_ble_eq_true rfl) ?_
  refine va_putF (D := D) (ci := 10) (v := .ref q_4) (ty := tyX10 4) (C := RX10) (T := TX10) (N := 7) hx hb hts uX10 tyX10 tyX10_ok nmX10 hown hkb.1 hP hD hS 0 rfl rfl 4 (by decide) (hts _ kw_277) (fun _ h9 => h9) rfl hnm rfl (tyX10_ok 4 (by decide)) rfl rfl (Nat.le_of_ble_eq_true rfl) dX10_init_38 (fun H locs hP hD hS => ?_)
  have hP : va_P D cls [(h0, .inr (10, [.ref q_1, .ref q_2, .int 0, .ref q_3, .ref q_4, .null, .int 0])), (q_1, .inl (cI, 14, .inl (fun _ => 0))), (q_2, .inl (cI, 14, .inl (fun _ => 0))), (q_3, .inl (cJ, 14, .inr (.inl (fun _ => 0)))), (q_4, .inl (cI, 14, .inl (fun _ => 0)))] H := hP
  have hD : va_D A [(h0, .inr (10, [.ref q_1, .ref q_2, .int 0, .ref q_3, .ref q_4, .null, .int 0])), (q_1, .inl (cI, 14, .inl (fun _ => 0))), (q_2, .inl (cI, 14, .inl (fun _ => 0))), (q_3, .inl (cJ, 14, .inr (.inl (fun _ => 0)))), (q_4, .inl (cI, 14, .inl (fun _ => 0)))] := hD
  refine lv_aload_n hx hb dX10_init_41 rfl (lv_at hl 0 rfl) ?_
  refine lv_bipush (v := 14) hx hb dX10_init_42 (by decide) ?_
  refine n_a (atype := .int) (t := .int) (a0 := (14, .inl (fun _ => 0))) 1 rfl (fun _ _ h => h) hx hb (hts _ kw_92) rfl hkb.1 hP hD hS hA (fun _ => rfl) (by decide) (by decide +kernel) (by decide) (Nat.le_of_ble_eq_true rfl) (Nat.le_of_ble_eq_true rfl) dX10_init_44 (fun q_5 H hP hD hS => ?_)
  have hP : va_P D cls [(h0, .inr (10, [.ref q_1, .ref q_2, .int 0, .ref q_3, .ref q_4, .null, .int 0])), (q_1, .inl (cI, 14, .inl (fun _ => 0))), (q_2, .inl (cI, 14, .inl (fun _ => 0))), (q_3, .inl (cJ, 14, .inr (.inl (fun _ => 0)))), (q_4, .inl (cI, 14, .inl (fun _ => 0))), (q_5, .inl (cI, 14, .inl (fun _ => 0)))] H := hP
  have hD : va_D A [(h0, .inr (10, [.ref q_1, .ref q_2, .int 0, .ref q_3, .ref q_4, .null, .int 0])), (q_1, .inl (cI, 14, .inl (fun _ => 0))), (q_2, .inl (cI, 14, .inl (fun _ => 0))), (q_3, .inl (cJ, 14, .inr (.inl (fun _ => 0)))), (q_4, .inl (cI, 14, .inl (fun _ => 0))), (q_5, .inl (cI, 14, .inl (fun _ => 0)))] := hD
  refine W.widen (k := 5) (n := 70) (Nat.le_of_ble_eq_true rfl) (Nat.le_of_ble_eq_true rfl) ?_
  refine va_putF (D := D) (ci := 10) (v := .ref q_5) (ty := tyX10 5) (C := RX10) (T := TX10) (N := 7) hx hb hts uX10 tyX10 tyX10_ok nmX10 hown hkb.1 hP hD hS 0 rfl rfl 5 (by decide) (hts _ kw_278) (fun _ h9 => h9) rfl hnm rfl (tyX10_ok 5 (by decide)) rfl rfl (Nat.le_of_ble_eq_true rfl) dX10_init_46 (fun H locs hP hD hS => ?_)
  have hP : va_P D cls [(h0, .inr (10, [.ref q_1, .ref q_2, .int 0, .ref q_3, .ref q_4, .ref q_5, .int 0])), (q_1, .inl (cI, 14, .inl (fun _ => 0))), (q_2, .inl (cI, 14, .inl (fun _ => 0))), (q_3, .inl (cJ, 14, .inr (.inl (fun _ => 0)))), (q_4, .inl (cI, 14, .inl (fun _ => 0))), (q_5, .inl (cI, 14, .inl (fun _ => 0)))] H := hP
  have hD : va_D A [(h0, .inr (10, [.ref q_1, .ref q_2, .int 0, .ref q_3, .ref q_4, .ref q_5, .int 0])), (q_1, .inl (cI, 14, .inl (fun _ => 0))), (q_2, .inl (cI, 14, .inl (fun _ => 0))), (q_3, .inl (cJ, 14, .inr (.inl (fun _ => 0)))), (q_4, .inl (cI, 14, .inl (fun _ => 0))), (q_5, .inl (cI, 14, .inl (fun _ => 0)))] := hD
  refine lv_aload_n hx hb dX10_init_49 rfl (lv_at hl 0 rfl) ?_
  refine lv_iconst (v := 0) hx hb dX10_init_50 (by decide) ?_
  refine va_put (D := D) (ci := 10) (v := .int 0) (ty := tyX10 6) (C := RX10) (T := TX10) (N := 7) hx hb hts uX10 tyX10 tyX10_ok nmX10 hown hkb.1 hP hD hS 0 rfl rfl 6 (by decide) (hts _ kw_279) (fun _ h9 => h9) rfl (tyX10_ok 6 (by decide)) rfl rfl (Nat.le_of_ble_eq_true rfl) dX10_init_51 (fun H locs hP hD hS => ?_)
  have hP : va_P D cls [(h0, .inr (10, [.ref q_1, .ref q_2, .int 0, .ref q_3, .ref q_4, .ref q_5, .int 0])), (q_1, .inl (cI, 14, .inl (fun _ => 0))), (q_2, .inl (cI, 14, .inl (fun _ => 0))), (q_3, .inl (cJ, 14, .inr (.inl (fun _ => 0)))), (q_4, .inl (cI, 14, .inl (fun _ => 0))), (q_5, .inl (cI, 14, .inl (fun _ => 0)))] H := hP
  have hD : va_D A [(h0, .inr (10, [.ref q_1, .ref q_2, .int 0, .ref q_3, .ref q_4, .ref q_5, .int 0])), (q_1, .inl (cI, 14, .inl (fun _ => 0))), (q_2, .inl (cI, 14, .inl (fun _ => 0))), (q_3, .inl (cJ, 14, .inr (.inl (fun _ => 0)))), (q_4, .inl (cI, 14, .inl (fun _ => 0))), (q_5, .inl (cI, 14, .inl (fun _ => 0)))] := hD
  refine W.widen (k := 5) (n := 70) (Nat.le_of_ble_eq_true rfl) (Nat.le_of_ble_eq_true rfl) ?_
  exact e_v (u := [(h0, .inr (10, [.ref q_1, .ref q_2, .int 0, .ref q_3, .ref q_4, .ref q_5, .int 0])), (q_1, .inl (cI, 14, .inl (fun _ => 0))), (q_2, .inl (cI, 14, .inl (fun _ => 0))), (q_3, .inl (cJ, 14, .inr (.inl (fun _ => 0)))), (q_4, .inl (cI, 14, .inl (fun _ => 0))), (q_5, .inl (cI, 14, .inl (fun _ => 0)))]) hx hb hr hlocks (hP.sub (ws' := [(h0, .inr (10, [.ref q_1, .ref q_2, .int 0, .ref q_3, .ref q_4, .ref q_5, .int 0])), (q_1, .inl (cI, 14, .inl (fun _ => 0))), (q_2, .inl (cI, 14, .inl (fun _ => 0))), (q_3, .inl (cJ, 14, .inr (.inl (fun _ => 0)))), (q_4, .inl (cI, 14, .inl (fun _ => 0))), (q_5, .inl (cI, 14, .inl (fun _ => 0)))]) [0, 1, 2, 3, 4, 5] rfl) (hD.sub (ws' := [(h0, .inr (10, [.ref q_1, .ref q_2, .int 0, .ref q_3, .ref q_4, .ref q_5, .int 0])), (q_1, .inl (cI, 14, .inl (fun _ => 0))), (q_2, .inl (cI, 14, .inl (fun _ => 0))), (q_3, .inl (cJ, 14, .inr (.inl (fun _ => 0)))), (q_4, .inl (cI, 14, .inl (fun _ => 0))), (q_5, .inl (cI, 14, .inl (fun _ => 0)))]) [0, 1, 2, 3, 4, 5] (by decide) rfl) hS ⟨q_1, q_2, q_3, q_4, q_5, rfl⟩ dX10_init_54
set_option maxHeartbeats 4000000 in
set_option maxRecDepth 100000 in
theorem c_Cut_init (l : Launch) (D : va_G) (cB cI cJ cZ cS cW cT cR : ClassId) (h0 : Nat) : Kon l D (tyl cB cI cJ cZ cS cW cT cR) yX1_init cX1_init 1 none { frames := 1, cells := 4, slots := 84, locals := 12 } [.ref h0] [(h0, .inr (1, [.null, .null, .int 0, .null, .int 0, .int 0, .null]))] (Qv D (fun u => ∃ (q_1 : Nat), ∃ (q_2 : Nat), ∃ (q_3 : Nat), ∃ (q_4 : Nat), u = [(h0, .inr (1, [.ref q_1, .ref q_2, .int 0, .ref q_3, .int 0, .int 0, .ref q_4])), (q_1, .inl (cI, 14, .inl (fun _ => 0))), (q_2, .inl (cI, 14, .inl (fun _ => 0))), (q_3, .inl (cI, 28, .inl (fun _ => 0))), (q_4, .inl (cI, 28, .inl (fun _ => 0)))])) := by
  refine kon_of (by decide) (Nat.le_of_ble_eq_true rfl) (fun p e s m below meth c ls A hx hb hr hml hown hts hlocks hnm hkb hP hD hS hA hl => ?_)
  have hown : s.vm.findClass RX1 = some m.cls := hown
  have hl : lv_has ls 1 [(0, .ref h0)] := hl
  have hP : va_P D cls [(h0, .inr (1, [.null, .null, .int 0, .null, .int 0, .int 0, .null]))] s.heap := hP
  refine lv_aload_n hx hb dX1_init_0 rfl (lv_at hl 0 rfl) ?_
  refine W.objInit hx hb hown (hts _ kw_301) (hts _ kw_30) (hts _ kw_31) rfl (by rw [hml]; exact hl.1) rfl dX1_init_1 (Nat.le_of_ble_eq_true rfl) (Nat.le_of_ble_eq_true rfl) ?_
  refine W.eq (g2 := F0 m 4 ls []) rfl ?_
  refine lv_aload_n hx hb dX1_init_4 rfl (lv_at hl 0 rfl) ?_
  refine lv_bipush (v := 14) hx hb dX1_init_5 (by decide) ?_
  refine n_a (atype := .int) (t := .int) (a0 := (14, .inl (fun _ => 0))) 1 rfl (fun _ _ h => h) hx hb (hts _ kw_92) rfl hkb.1 hP hD hS hA (fun _ => rfl) (by decide) (by decide +kernel) (by decide) (Nat.le_of_ble_eq_true rfl) (Nat.le_of_ble_eq_true rfl) dX1_init_7 (fun q_1 H hP hD hS => ?_)
  have hP : va_P D cls [(h0, .inr (1, [.null, .null, .int 0, .null, .int 0, .int 0, .null])), (q_1, .inl (cI, 14, .inl (fun _ => 0)))] H := hP
  have hD : va_D A [(h0, .inr (1, [.null, .null, .int 0, .null, .int 0, .int 0, .null])), (q_1, .inl (cI, 14, .inl (fun _ => 0)))] := hD
  refine W.widen (k := 1) (n := 14) (Nat.le_of_ble_eq_true rfl) (Nat.le_of_ble_eq_true rfl) ?_
  refine va_putF (D := D) (ci := 1) (v := .ref q_1) (ty := tyX1 0) (C := RX1) (T := TX1) (N := 7) hx hb hts uX1 tyX1 tyX1_ok nmX1 hown hkb.1 hP hD hS 0 rfl rfl 0 (by decide) (hts _ kw_302) (fun _ h9 => h9) rfl hnm rfl (tyX1_ok 0 (by decide)) rfl rfl (Nat.le_of_ble_eq_true rfl) dX1_init_9 (fun H locs hP hD hS => ?_)
  have hP : va_P D cls [(h0, .inr (1, [.ref q_1, .null, .int 0, .null, .int 0, .int 0, .null])), (q_1, .inl (cI, 14, .inl (fun _ => 0)))] H := hP
  have hD : va_D A [(h0, .inr (1, [.ref q_1, .null, .int 0, .null, .int 0, .int 0, .null])), (q_1, .inl (cI, 14, .inl (fun _ => 0)))] := hD
  refine lv_aload_n hx hb dX1_init_12 rfl (lv_at hl 0 rfl) ?_
  refine lv_bipush (v := 14) hx hb dX1_init_13 (by decide) ?_
  refine n_a (atype := .int) (t := .int) (a0 := (14, .inl (fun _ => 0))) 1 rfl (fun _ _ h => h) hx hb (hts _ kw_92) rfl hkb.1 hP hD hS hA (fun _ => rfl) (by decide) (by decide +kernel) (by decide) (Nat.le_of_ble_eq_true rfl) (Nat.le_of_ble_eq_true rfl) dX1_init_15 (fun q_2 H hP hD hS => ?_)
  have hP : va_P D cls [(h0, .inr (1, [.ref q_1, .null, .int 0, .null, .int 0, .int 0, .null])), (q_1, .inl (cI, 14, .inl (fun _ => 0))), (q_2, .inl (cI, 14, .inl (fun _ => 0)))] H := hP
  have hD : va_D A [(h0, .inr (1, [.ref q_1, .null, .int 0, .null, .int 0, .int 0, .null])), (q_1, .inl (cI, 14, .inl (fun _ => 0))), (q_2, .inl (cI, 14, .inl (fun _ => 0)))] := hD
  refine W.widen (k := 2) (n := 28) (Nat.le_of_ble_eq_true rfl) (Nat.le_of_ble_eq_true rfl) ?_
  refine va_putF (D := D) (ci := 1) (v := .ref q_2) (ty := tyX1 1) (C := RX1) (T := TX1) (N := 7) hx hb hts uX1 tyX1 tyX1_ok nmX1 hown hkb.1 hP hD hS 0 rfl rfl 1 (by decide) (hts _ kw_303) (fun _ h9 => h9) rfl hnm rfl (tyX1_ok 1 (by decide)) rfl rfl (Nat.le_of_ble_eq_true rfl) dX1_init_17 (fun H locs hP hD hS => ?_)
  have hP : va_P D cls [(h0, .inr (1, [.ref q_1, .ref q_2, .int 0, .null, .int 0, .int 0, .null])), (q_1, .inl (cI, 14, .inl (fun _ => 0))), (q_2, .inl (cI, 14, .inl (fun _ => 0)))] H := hP
  have hD : va_D A [(h0, .inr (1, [.ref q_1, .ref q_2, .int 0, .null, .int 0, .int 0, .null])), (q_1, .inl (cI, 14, .inl (fun _ => 0))), (q_2, .inl (cI, 14, .inl (fun _ => 0)))] := hD
  refine lv_aload_n hx hb dX1_init_20 rfl (lv_at hl 0 rfl) ?_
  refine lv_iconst (v := 0) hx hb dX1_init_21 (by decide) ?_
  refine va_put (D := D) (ci := 1) (v := .int 0) (ty := tyX1 2) (C := RX1) (T := TX1) (N := 7) hx hb hts uX1 tyX1 tyX1_ok nmX1 hown hkb.1 hP hD hS 0 rfl rfl 2 (by decide) (hts _ kw_304) (fun _ h9 => h9) rfl (tyX1_ok 2 (by decide)) rfl rfl (Nat.le_of_ble_eq_true rfl) dX1_init_22 (fun H locs hP hD hS => ?_)
  have hP : va_P D cls [(h0, .inr (1, [.ref q_1, .ref q_2, .int 0, .null, .int 0, .int 0, .null])), (q_1, .inl (cI, 14, .inl (fun _ => 0))), (q_2, .inl (cI, 14, .inl (fun _ => 0)))] H := hP
  have hD : va_D A [(h0, .inr (1, [.ref q_1, .ref q_2, .int 0, .null, .int 0, .int 0, .null])), (q_1, .inl (cI, 14, .inl (fun _ => 0))), (q_2, .inl (cI, 14, .inl (fun _ => 0)))] := hD
  refine lv_aload_n hx hb dX1_init_25 rfl (lv_at hl 0 rfl) ?_
  refine lv_bipush (v := 28) hx hb dX1_init_26 (by decide) ?_
  refine n_a (atype := .int) (t := .int) (a0 := (28, .inl (fun _ => 0))) 1 rfl (fun _ _ h => h) hx hb (hts _ kw_92) rfl hkb.1 hP hD hS hA (fun _ => rfl) (by decide) (by decide +kernel) (by decide) (Nat.le_of_ble_eq_true rfl) (Nat.le_of_ble_eq_true rfl) dX1_init_28 (fun q_3 H hP hD hS => ?_)
  have hP : va_P D cls [(h0, .inr (1, [.ref q_1, .ref q_2, .int 0, .null, .int 0, .int 0, .null])), (q_1, .inl (cI, 14, .inl (fun _ => 0))), (q_2, .inl (cI, 14, .inl (fun _ => 0))), (q_3, .inl (cI, 28, .inl (fun _ => 0)))] H := hP
  have hD : va_D A [(h0, .inr (1, [.ref q_1, .ref q_2, .int 0, .null, .int 0, .int 0, .null])), (q_1, .inl (cI, 14, .inl (fun _ => 0))), (q_2, .inl (cI, 14, .inl (fun _ => 0))), (q_3, .inl (cI, 28, .inl (fun _ => 0)))] := hD
  refine W.widen (k := 3) (n := 56) (Nat.le_of_ble_eq_true rfl) (Nat.le_of_ble_eq_true rfl) ?_
  refine va_putF (D := D) (ci := 1) (v := .ref q_3) (ty := tyX1 3) (C := RX1) (T := TX1) (N := 7) hx hb hts uX1 tyX1 tyX1_ok nmX1 hown hkb.1 hP hD hS 0 rfl rfl 3 (by decide) (hts _ kw_305) (fun _ h9 => h9) rfl hnm rfl (tyX1_ok 3 (by decide)) rfl rfl (Nat.le_of_ble_eq_true rfl) dX1_init_30 (fun H locs hP hD hS => ?_)
  have hP : va_P D cls [(h0, .inr (1, [.ref q_1, .ref q_2, .int 0, .ref q_3, .int 0, .int 0, .null])), (q_1, .inl (cI, 14, .inl (fun _ => 0))), (q_2, .inl (cI, 14, .inl (fun _ => 0))), (q_3, .inl (cI, 28, .inl (fun _ => 0)))] H := hP
  have hD : va_D A [(h0, .inr (1, [.ref q_1, .ref q_2, .int 0, .ref q_3, .int 0, .int 0, .null])), (q_1, .inl (cI, 14, .inl (fun _ => 0))), (q_2, .inl (cI, 14, .inl (fun _ => 0))), (q_3, .inl (cI, 28, .inl (fun _ => 0)))] := hD
  refine lv_aload_n hx hb dX1_init_33 rfl (lv_at hl 0 rfl) ?_
  refine lv_iconst (v := 0) hx hb dX1_init_34 (by decide) ?_
  refine va_put (D := D) (ci := 1) (v := .int 0) (ty := tyX1 4) (C := RX1) (T := TX1) (N := 7) hx hb hts uX1 tyX1 tyX1_ok nmX1 hown hkb.1 hP hD hS 0 rfl rfl 4 (by decide) (hts _ kw_306) (fun _ h9 => h9) rfl (tyX1_ok 4 (by decide)) rfl rfl (Nat.le_of_ble_eq_true rfl) dX1_init_35 (fun H locs hP hD hS => ?_)
  have hP : va_P D cls [(h0, .inr (1, [.ref q_1, .ref q_2, .int 0, .ref q_3, .int 0, .int 0, .null])), (q_1, .inl (cI, 14, .inl (fun _ => 0))), (q_2, .inl (cI, 14, .inl (fun _ => 0))), (q_3, .inl (cI, 28, .inl (fun _ => 0)))] H := hP
  have hD : va_D A [(h0, .inr (1, [.ref q_1, .ref q_2, .int 0, .ref q_3, .int 0, .int 0, .null])), (q_1, .inl (cI, 14, .inl (fun _ => 0))), (q_2, .inl (cI, 14, .inl (fun _ => 0))), (q_3, .inl (cI, 28, .inl (fun _ => 0)))] := hD
  refine lv_aload_n hx hb dX1_init_38 rfl (lv_at hl 0 rfl) ?_
  refine lv_iconst (v := 0) hx hb dX1_init_39 (by decide) ?_
  refine va_put (D := D) (ci := 1) (v := .int 0) (ty := tyX1 5) (C := RX1) (T := TX1) (N := 7) hx hb hts uX1 tyX1 tyX1_ok nmX1 hown hkb.1 hP hD hS 0 rfl rfl 5 (by decide) (hts _ kw_307) (fun _ h9 => h9) rfl (tyX1_ok 5 (by decide)) rfl rfl (Nat.le_of_ble_eq_true rfl) dX1_init_40 (fun H locs hP hD hS => ?_)
  have hP : va_P D cls [(h0, .inr (1, [.ref q_1, .ref q_2, .int 0, .ref q_3, .int 0, .int 0, .null])), (q_1, .inl (cI, 14, .inl (fun _ => 0))), (q_2, .inl (cI, 14, .inl (fun _ => 0))), (q_3, .inl (cI, 28, .inl (fun _ => 0)))] H := hP
  have hD : va_D A [(h0, .inr (1, [.ref q_1, .ref q_2, .int 0, .ref q_3, .int 0, .int 0, .null])), (q_1, .inl (cI, 14, .inl (fun _ => 0))), (q_2, .inl (cI, 14, .inl (fun _ => 0))), (q_3, .inl (cI, 28, .inl (fun _ => 0)))] := hD
  refine lv_aload_n hx hb dX1_init_43 rfl (lv_at hl 0 rfl) ?_
  refine lv_bipush (v := 28) hx hb dX1_init_44 (by decide) ?_
  refine n_a (atype := .int) (t := .int) (a0 := (28, .inl (fun _ => 0))) 1 rfl (fun _ _ h => h) hx hb (hts _ kw_92) rfl hkb.1 hP hD hS hA (fun _ => rfl) (by decide) (by decide +kernel) (by decide) (Nat.le_of_ble_eq_true rfl) (Nat.le_of_ble_eq_true rfl) dX1_init_46 (fun q_4 H hP hD hS => ?_)
  have hP : va_P D cls [(h0, .inr (1, [.ref q_1, .ref q_2, .int 0, .ref q_3, .int 0, .int 0, .null])), (q_1, .inl (cI, 14, .inl (fun _ => 0))), (q_2, .inl (cI, 14, .inl (fun _ => 0))), (q_3, .inl (cI, 28, .inl (fun _ => 0))), (q_4, .inl (cI, 28, .inl (fun _ => 0)))] H := hP
  have hD : va_D A [(h0, .inr (1, [.ref q_1, .ref q_2, .int 0, .ref q_3, .int 0, .int 0, .null])), (q_1, .inl (cI, 14, .inl (fun _ => 0))), (q_2, .inl (cI, 14, .inl (fun _ => 0))), (q_3, .inl (cI, 28, .inl (fun _ => 0))), (q_4, .inl (cI, 28, .inl (fun _ => 0)))] := hD
  refine W.widen (k := 4) (n := 84) (Nat.le_of_ble_eq_true rfl) (Nat.le_of_ble_eq_true rfl) ?_
  refine va_putF (D := D) (ci := 1) (v := .ref q_4) (ty := tyX1 6) (C := RX1) (T := TX1) (N := 7) hx hb hts uX1 tyX1 tyX1_ok nmX1 hown hkb.1 hP hD hS 0 rfl rfl 6 (by decide) (hts _ kw_308) (fun _ h9 => h9) rfl hnm rfl (tyX1_ok 6 (by decide)) rfl rfl (Nat.le_of_ble_eq_true rfl) dX1_init_48 (fun H locs hP hD hS => ?_)
  have hP : va_P D cls [(h0, .inr (1, [.ref q_1, .ref q_2, .int 0, .ref q_3, .int 0, .int 0, .ref q_4])), (q_1, .inl (cI, 14, .inl (fun _ => 0))), (q_2, .inl (cI, 14, .inl (fun _ => 0))), (q_3, .inl (cI, 28, .inl (fun _ => 0))), (q_4, .inl (cI, 28, .inl (fun _ => 0)))] H := hP
  have hD : va_D A [(h0, .inr (1, [.ref q_1, .ref q_2, .int 0, .ref q_3, .int 0, .int 0, .ref q_4])), (q_1, .inl (cI, 14, .inl (fun _ => 0))), (q_2, .inl (cI, 14, .inl (fun _ => 0))), (q_3, .inl (cI, 28, .inl (fun _ => 0))), (q_4, .inl (cI, 28, .inl (fun _ => 0)))] := hD
  refine W.widen (k := 4) (n := 84) (Nat.le_of_ble_eq_true rfl) (Nat.le_of_ble_eq_true rfl) ?_
  exact e_v (u := [(h0, .inr (1, [.ref q_1, .ref q_2, .int 0, .ref q_3, .int 0, .int 0, .ref q_4])), (q_1, .inl (cI, 14, .inl (fun _ => 0))), (q_2, .inl (cI, 14, .inl (fun _ => 0))), (q_3, .inl (cI, 28, .inl (fun _ => 0))), (q_4, .inl (cI, 28, .inl (fun _ => 0)))]) hx hb hr hlocks (hP.sub (ws' := [(h0, .inr (1, [.ref q_1, .ref q_2, .int 0, .ref q_3, .int 0, .int 0, .ref q_4])), (q_1, .inl (cI, 14, .inl (fun _ => 0))), (q_2, .inl (cI, 14, .inl (fun _ => 0))), (q_3, .inl (cI, 28, .inl (fun _ => 0))), (q_4, .inl (cI, 28, .inl (fun _ => 0)))]) [0, 1, 2, 3, 4] rfl) (hD.sub (ws' := [(h0, .inr (1, [.ref q_1, .ref q_2, .int 0, .ref q_3, .int 0, .int 0, .ref q_4])), (q_1, .inl (cI, 14, .inl (fun _ => 0))), (q_2, .inl (cI, 14, .inl (fun _ => 0))), (q_3, .inl (cI, 28, .inl (fun _ => 0))), (q_4, .inl (cI, 28, .inl (fun _ => 0)))]) [0, 1, 2, 3, 4] (by decide) rfl) hS ⟨q_1, q_2, q_3, q_4, rfl⟩ dX1_init_51
set_option maxHeartbeats 4000000 in
set_option maxRecDepth 100000 in
theorem c_Chains_init (l : Launch) (D : va_G) (cB cI cJ cZ cS cW cT cR : ClassId) (h0 : Nat) : Kon l D (tyl cB cI cJ cZ cS cW cT cR) yX0_init cX0_init 1 none { frames := 1, cells := 3, slots := 29, locals := 12 } [.ref h0] [(h0, .inr (0, [.null, .int 0, .null, .null]))] (Qv D (fun u => ∃ (q_1 : Nat), ∃ (q_2 : Nat), ∃ (q_3 : Nat), u = [(h0, .inr (0, [.ref q_1, .int 0, .ref q_2, .ref q_3])), (q_1, .inl (cI, 1, .inl (fun _ => 0))), (q_2, .inl (cI, 14, .inl (fun _ => 0))), (q_3, .inl (cI, 14, .inl (fun _ => 0)))])) := by
  refine kon_of (by decide) (Nat.le_of_ble_eq_true rfl) (fun p e s m below meth c ls A hx hb hr hml hown hts hlocks hnm hkb hP hD hS hA hl => ?_)
  have hown : s.vm.findClass RX0 = some m.cls := hown
  have hl : lv_has ls 1 [(0, .ref h0)] := hl
  have hP : va_P D cls [(h0, .inr (0, [.null, .int 0, .null, .null]))] s.heap := hP
  refine lv_aload_n hx hb dX0_init_0 rfl (lv_at hl 0 rfl) ?_
  refine W.objInit hx hb hown (hts _ kw_329) (hts _ kw_30) (hts _ kw_31) rfl (by rw [hml]; exact hl.1) rfl dX0_init_1 (Nat.le_of_ble_eq_true rfl) (Nat.le_of_ble_eq_true rfl) ?_
  refine W.eq (g2 := F0 m 4 ls []) rfl ?_
  refine lv_aload_n hx hb dX0_init_4 rfl (lv_at hl 0 rfl) ?_
  refine lv_iconst (v := 1) hx hb dX0_init_5 (by decide) ?_
  refine n_a (atype := .int) (t := .int) (a0 := (1, .inl (fun _ => 0))) 1 rfl (fun _ _ h => h) hx hb (hts _ kw_92) rfl hkb.1 hP hD hS hA (fun _ => rfl) (by decide) (by decide +kernel) (by decide) (Nat.le_of_ble_eq_true rfl) (Nat.le_of_ble_eq_true rfl) dX0_init_6 (fun q_1 H hP hD hS => ?_)
  have hP : va_P D cls [(h0, .inr (0, [.null, .int 0, .null, .null])), (q_1, .inl (cI, 1, .inl (fun _ => 0)))] H := hP
  have hD : va_D A [(h0, .inr (0, [.null, .int 0, .null, .null])), (q_1, .inl (cI, 1, .inl (fun _ => 0)))] := hD
  refine W.widen (k := 1) (n := 1) (Nat.le_of_ble_eq_true rfl) (Nat.le_of_ble_eq_true rfl) ?_
  refine va_put (D := D) (ci := 0) (v := .ref q_1) (ty := tyX0 0) (C := RX0) (T := TX0) (N := 4) hx hb hts uX0 tyX0 tyX0_ok nmX0 hown hkb.1 hP hD hS 0 rfl rfl 0 (by decide) (hts _ kw_330) (fun _ h9 => h9) rfl (tyX0_ok 0 (by decide)) rfl rfl (Nat.le_of_ble_eq_true rfl) dX0_init_8 (fun H locs hP hD hS => ?_)
  have hP : va_P D cls [(h0, .inr (0, [.ref q_1, .int 0, .null, .null])), (q_1, .inl (cI, 1, .inl (fun _ => 0)))] H := hP
  have hD : va_D A [(h0, .inr (0, [.ref q_1, .int 0, .null, .null])), (q_1, .inl (cI, 1, .inl (fun _ => 0)))] := hD
  refine lv_aload_n hx hb dX0_init_11 rfl (lv_at hl 0 rfl) ?_
  refine lv_iconst (v := 0) hx hb dX0_init_12 (by decide) ?_
  refine va_put (D := D) (ci := 0) (v := .int 0) (ty := tyX0 1) (C := RX0) (T := TX0) (N := 4) hx hb hts uX0 tyX0 tyX0_ok nmX0 hown hkb.1 hP hD hS 0 rfl rfl 1 (by decide) (hts _ kw_331) (fun _ h9 => h9) rfl (tyX0_ok 1 (by decide)) rfl rfl (Nat.le_of_ble_eq_true rfl) dX0_init_13 (fun H locs hP hD hS => ?_)
  have hP : va_P D cls [(h0, .inr (0, [.ref q_1, .int 0, .null, .null])), (q_1, .inl (cI, 1, .inl (fun _ => 0)))] H := hP
  have hD : va_D A [(h0, .inr (0, [.ref q_1, .int 0, .null, .null])), (q_1, .inl (cI, 1, .inl (fun _ => 0)))] := hD
  refine lv_aload_n hx hb dX0_init_16 rfl (lv_at hl 0 rfl) ?_
  refine lv_bipush (v := 14) hx hb dX0_init_17 (by decide) ?_
  refine n_a (atype := .int) (t := .int) (a0 := (14, .inl (fun _ => 0))) 1 rfl (fun _ _ h => h) hx hb (hts _ kw_92) rfl hkb.1 hP hD hS hA (fun _ => rfl) (by decide) (by decide +kernel) (by decide) (Nat.le_of_ble_eq_true rfl) (Nat.le_of_ble_eq_true rfl) dX0_init_19 (fun q_2 H hP hD hS => ?_)
  have hP : va_P D cls [(h0, .inr (0, [.ref q_1, .int 0, .null, .null])), (q_1, .inl (cI, 1, .inl (fun _ => 0))), (q_2, .inl (cI, 14, .inl (fun _ => 0)))] H := hP
  have hD : va_D A [(h0, .inr (0, [.ref q_1, .int 0, .null, .null])), (q_1, .inl (cI, 1, .inl (fun _ => 0))), (q_2, .inl (cI, 14, .inl (fun _ => 0)))] := hD
  refine W.widen (k := 2) (n := 15) (Nat.le_of_ble_eq_true rfl) (Nat.le_of_ble_eq_true rfl) ?_
  refine va_putF (D := D) (ci := 0) (v := .ref q_2) (ty := tyX0 2) (C := RX0) (T := TX0) (N := 4) hx hb hts uX0 tyX0 tyX0_ok nmX0 hown hkb.1 hP hD hS 0 rfl rfl 2 (by decide) (hts _ kw_332) (fun _ h9 => h9) rfl hnm rfl (tyX0_ok 2 (by decide)) rfl rfl (Nat.le_of_ble_eq_true rfl) dX0_init_21 (fun H locs hP hD hS => ?_)
  have hP : va_P D cls [(h0, .inr (0, [.ref q_1, .int 0, .ref q_2, .null])), (q_1, .inl (cI, 1, .inl (fun _ => 0))), (q_2, .inl (cI, 14, .inl (fun _ => 0)))] H := hP
  have hD : va_D A [(h0, .inr (0, [.ref q_1, .int 0, .ref q_2, .null])), (q_1, .inl (cI, 1, .inl (fun _ => 0))), (q_2, .inl (cI, 14, .inl (fun _ => 0)))] := hD
  refine lv_aload_n hx hb dX0_init_24 rfl (lv_at hl 0 rfl) ?_
  refine lv_bipush (v := 14) hx hb dX0_init_25 (by decide) ?_
  refine n_a (atype := .int) (t := .int) (a0 := (14, .inl (fun _ => 0))) 1 rfl (fun _ _ h => h) hx hb (hts _ kw_92) rfl hkb.1 hP hD hS hA (fun _ => rfl) (by decide) (by decide +kernel) (by decide) (Nat.le_of_ble_eq_true rfl) (Nat.le_of_ble_eq_true rfl) dX0_init_27 (fun q_3 H hP hD hS => ?_)
  have hP : va_P D cls [(h0, .inr (0, [.ref q_1, .int 0, .ref q_2, .null])), (q_1, .inl (cI, 1, .inl (fun _ => 0))), (q_2, .inl (cI, 14, .inl (fun _ => 0))), (q_3, .inl (cI, 14, .inl (fun _ => 0)))] H := hP
  have hD : va_D A [(h0, .inr (0, [.ref q_1, .int 0, .ref q_2, .null])), (q_1, .inl (cI, 1, .inl (fun _ => 0))), (q_2, .inl (cI, 14, .inl (fun _ => 0))), (q_3, .inl (cI, 14, .inl (fun _ => 0)))] := hD
  refine W.widen (k := 3) (n := 29) (Nat.le_of_ble_eq_true rfl) (Nat.le_of_ble_eq_true rfl) ?_
  refine va_putF (D := D) (ci := 0) (v := .ref q_3) (ty := tyX0 3) (C := RX0) (T := TX0) (N := 4) hx hb hts uX0 tyX0 tyX0_ok nmX0 hown hkb.1 hP hD hS 0 rfl rfl 3 (by decide) (hts _ kw_333) (fun _ h9 => h9) rfl hnm rfl (tyX0_ok 3 (by decide)) rfl rfl (Nat.le_of_ble_eq_true rfl) dX0_init_29 (fun H locs hP hD hS => ?_)
  have hP : va_P D cls [(h0, .inr (0, [.ref q_1, .int 0, .ref q_2, .ref q_3])), (q_1, .inl (cI, 1, .inl (fun _ => 0))), (q_2, .inl (cI, 14, .inl (fun _ => 0))), (q_3, .inl (cI, 14, .inl (fun _ => 0)))] H := hP
  have hD : va_D A [(h0, .inr (0, [.ref q_1, .int 0, .ref q_2, .ref q_3])), (q_1, .inl (cI, 1, .inl (fun _ => 0))), (q_2, .inl (cI, 14, .inl (fun _ => 0))), (q_3, .inl (cI, 14, .inl (fun _ => 0)))] := hD
  refine W.widen (k := 3) (n := 29) (Nat.le_of_ble_eq_true rfl) (Nat.le_of_ble_eq_true rfl) ?_
  exact e_v (u := [(h0, .inr (0, [.ref q_1, .int 0, .ref q_2, .ref q_3])), (q_1, .inl (cI, 1, .inl (fun _ => 0))), (q_2, .inl (cI, 14, .inl (fun _ => 0))), (q_3, .inl (cI, 14, .inl (fun _ => 0)))]) hx hb hr hlocks (hP.sub (ws' := [(h0, .inr (0, [.ref q_1, .int 0, .ref q_2, .ref q_3])), (q_1, .inl (cI, 1, .inl (fun _ => 0))), (q_2, .inl (cI, 14, .inl (fun _ => 0))), (q_3, .inl (cI, 14, .inl (fun _ => 0)))]) [0, 1, 2, 3] rfl) (hD.sub (ws' := [(h0, .inr (0, [.ref q_1, .int 0, .ref q_2, .ref q_3])), (q_1, .inl (cI, 1, .inl (fun _ => 0))), (q_2, .inl (cI, 14, .inl (fun _ => 0))), (q_3, .inl (cI, 14, .inl (fun _ => 0)))]) [0, 1, 2, 3] (by decide) rfl) hS ⟨q_1, q_2, q_3, rfl⟩ dX0_init_32
set_option maxHeartbeats 4000000 in
set_option maxRecDepth 100000 in
theorem c_Reader_init (l : Launch) (D : va_G) (cB cI cJ cZ cS cW cT cR : ClassId) (h0 : Nat) : Kon l D (tyl cB cI cJ cZ cS cW cT cR) yX4_init cX4_init 1 none { frames := 2, cells := 13, slots := 1011, locals := 37 } [.ref h0] [(h0, .inr (4, [.null, .null, .null, .int 0, .null]))] (Qv D (fun u => ∃ (q_1 : Nat), ∃ (q_4 : Nat), ∃ (q_7 : Nat), ∃ (q_14 : Nat), ∃ (q_2 : Nat), ∃ (q_5 : Nat), ∃ (q_8 : Nat), ∃ (q_9 : Nat), ∃ (q_10 : Nat), ∃ (q_11 : Nat), ∃ (q_12 : Nat), ∃ (q_15 : Nat), ∃ (q_16 : Nat), u = [(h0, .inr (4, [.ref q_1, .ref q_4, .ref q_7, .int 0, .ref q_14])), (q_1, .inr (7, [.ref q_2, .int 0, .int 0, .int 0, .int 0, .int 0, .int 0, .int (-1)])), (q_2, .inl (cB, 0, .inl (fun _ => 0))), (q_4, .inr (3, [.ref q_1, .ref q_5, .int 0])), (q_5, .inl (cI, 900, .inl (fun _ => 0))), (q_7, .inr (9, [.int 14, .int 5, .int 0, .int 0, .int 0, .int 0, .ref q_8, .ref q_9, .ref q_10, .ref q_11, .ref q_12, .null, .int 0, .int 1])), (q_8, .inl (cI, 14, .inl (fun _ => 0))), (q_9, .inl (cI, 14, .inl (fun _ => 0))), (q_10, .inl (cI, 14, .inl (fun _ => 0))), (q_11, .inl (cI, 5, .inl (fun _ => 0))), (q_12, .inl (cI, 5, .inl (fun _ => 0))), (q_14, .inr (6, [.int 0, .int 0, .int 0, .int 0, .ref q_15, .ref q_16])), (q_15, .inl (cI, 14, .inl (fun _ => 0))), (q_16, .inl (cI, 14, .inl (fun _ => 0)))])) := by
  refine kon_of (by decide) (Nat.le_of_ble_eq_true rfl) (fun p e s m below meth c ls A hx hb hr hml hown hts hlocks hnm hkb hP hD hS hA hl => ?_)
  have hown : s.vm.findClass RX4 = some m.cls := hown
  have hl : lv_has ls 1 [(0, .ref h0)] := hl
  have hP : va_P D cls [(h0, .inr (4, [.null, .null, .null, .int 0, .null]))] s.heap := hP
  refine lv_aload_n hx hb dX4_init_0 rfl (lv_at hl 0 rfl) ?_
  refine W.objInit hx hb hown (hts _ kw_37) (hts _ kw_30) (hts _ kw_31) rfl (by rw [hml]; exact hl.1) rfl dX4_init_1 (Nat.le_of_ble_eq_true rfl) (Nat.le_of_ble_eq_true rfl) ?_
  refine W.eq (g2 := F0 m 4 ls []) rfl ?_
  refine lv_aload_n hx hb dX4_init_4 rfl (lv_at hl 0 rfl) ?_
  refine va_new (ci := 7) (fs := [.null, .int 0, .int 0, .int 0, .int 0, .int 0, .int 0, .int 0]) (C := RX7) (T := TX7) (N := 8) hx hb hts uX7 tyX7 tyX7_ok hown (hts _ kw_38) (hts _ kw_39) (hts _ kw_3) hkb.1 hP hD hS hA rfl dfX7 (Nat.le_of_ble_eq_true rfl) (Nat.le_of_ble_eq_true rfl) dX4_init_5 (fun q_1 H hP hD hS => ?_)
  have hP : va_P D cls [(h0, .inr (4, [.null, .null, .null, .int 0, .null])), (q_1, .inr (7, [.null, .int 0, .int 0, .int 0, .int 0, .int 0, .int 0, .int 0]))] H := hP
  have hD : va_D A [(h0, .inr (4, [.null, .null, .null, .int 0, .null])), (q_1, .inr (7, [.null, .int 0, .int 0, .int 0, .int 0, .int 0, .int 0, .int 0]))] := hD
  refine W.widen (k := 1) (n := 8) (Nat.le_of_ble_eq_true rfl) (Nat.le_of_ble_eq_true rfl) ?_
  refine lv_dup hx hb dX4_init_8 rfl ?_
  have hPc := hP.sub (ws' := [(q_1, .inr (7, [.null, .int 0, .int 0, .int 0, .int 0, .int 0, .int 0, .int 0]))]) [1] rfl
  have hDc := hD.sub (ws' := [(q_1, .inr (7, [.null, .int 0, .int 0, .int 0, .int 0, .int 0, .int 0, .int 0]))]) [1] (by decide) rfl
  refine k_v (wc := [(q_1, .inr (7, [.null, .int 0, .int 0, .int 0, .int 0, .int 0, .int 0, .int 0]))]) (wr := [(h0, .inr (4, [.null, .null, .null, .int 0, .null]))]) hP hD hS hA [1] [0] rfl rfl rfl (by decide) (r_N (n := 0) (As := []) hx hb hml hown hts hkb hPc hDc (c_Tokens_init l D cB cI cJ cZ cS cW cT cR q_1) hkb.2.2.2.1 kw_41 kw_3 kw_42 rfl (by decide +kernel) ⟨Nat.le_of_ble_eq_true rfl, Nat.le_of_ble_eq_true rfl⟩ rfl rfl hl.1 (Nat.le_of_ble_eq_true rfl) dX4_init_9 ⟨Nat.le_of_ble_eq_true rfl, Nat.le_of_ble_eq_true rfl⟩) (fun u H locs hw hP hD hS => ?_)
  obtain ⟨q_2, rfl⟩ := hw
  have hP : va_P D cls [(h0, .inr (4, [.null, .null, .null, .int 0, .null])), (q_1, .inr (7, [.ref q_2, .int 0, .int 0, .int 0, .int 0, .int 0, .int 0, .int (-1)])), (q_2, .inl (cB, 0, .inl (fun _ => 0)))] H := hP
  have hD : va_D A [(h0, .inr (4, [.null, .null, .null, .int 0, .null])), (q_1, .inr (7, [.ref q_2, .int 0, .int 0, .int 0, .int 0, .int 0, .int 0, .int (-1)])), (q_2, .inl (cB, 0, .inl (fun _ => 0)))] := hD
  refine W.widen (k := 2) (n := 8) (Nat.le_of_ble_eq_true rfl) (Nat.le_of_ble_eq_true rfl) ?_
  refine va_putF (D := D) (ci := 4) (v := .ref q_1) (ty := tyX4 0) (C := RX4) (T := TX4) (N := 5) hx hb hts uX4 tyX4 tyX4_ok nmX4 hown hkb.1 hP hD hS 0 rfl rfl 0 (by decide) (hts _ kw_211) (fun _ h9 => h9) rfl hnm rfl (tyX4_ok 0 (by decide)) rfl rfl (Nat.le_of_ble_eq_true rfl) dX4_init_12 (fun H locs hP hD hS => ?_)
  have hP : va_P D cls [(h0, .inr (4, [.ref q_1, .null, .null, .int 0, .null])), (q_1, .inr (7, [.ref q_2, .int 0, .int 0, .int 0, .int 0, .int 0, .int 0, .int (-1)])), (q_2, .inl (cB, 0, .inl (fun _ => 0)))] H := hP
  have hD : va_D A [(h0, .inr (4, [.ref q_1, .null, .null, .int 0, .null])), (q_1, .inr (7, [.ref q_2, .int 0, .int 0, .int 0, .int 0, .int 0, .int 0, .int (-1)])), (q_2, .inl (cB, 0, .inl (fun _ => 0)))] := hD
  refine lv_aload_n hx hb dX4_init_15 rfl (lv_at hl 0 rfl) ?_
  refine va_new (ci := 3) (fs := [.null, .null, .int 0]) (C := RX3) (T := TX3) (N := 3) hx hb hts uX3 tyX3 tyX3_ok hown (hts _ kw_76) (hts _ kw_77) (hts _ kw_4) hkb.1 hP hD hS hA rfl dfX3 (Nat.le_of_ble_eq_true rfl) (Nat.le_of_ble_eq_true rfl) dX4_init_16 (fun q_4 H hP hD hS => ?_)
  have hP : va_P D cls [(h0, .inr (4, [.ref q_1, .null, .null, .int 0, .null])), (q_1, .inr (7, [.ref q_2, .int 0, .int 0, .int 0, .int 0, .int 0, .int 0, .int (-1)])), (q_2, .inl (cB, 0, .inl (fun _ => 0))), (q_4, .inr (3, [.null, .null, .int 0]))] H := hP
  have hD : va_D A [(h0, .inr (4, [.ref q_1, .null, .null, .int 0, .null])), (q_1, .inr (7, [.ref q_2, .int 0, .int 0, .int 0, .int 0, .int 0, .int 0, .int (-1)])), (q_2, .inl (cB, 0, .inl (fun _ => 0))), (q_4, .inr (3, [.null, .null, .int 0]))] := hD
  refine W.widen (k := 3) (n := 11) (Nat.le_of_ble_eq_true rfl) (Nat.le_of_ble_eq_true rfl) ?_
  refine lv_dup hx hb dX4_init_19 rfl ?_
  refine lv_aload_n hx hb dX4_init_20 rfl (lv_at hl 0 rfl) ?_
  refine va_get (D := D) (ci := 4) (v := .ref q_1) (C := RX4) (T := TX4) (N := 5) hx hb hts uX4 hown hkb.1 hP 0 rfl rfl 0 (by decide) (hts _ kw_211) (fun _ h9 => h9) rfl dX4_init_21 ?_
  have hPc := hP.sub (ws' := [(q_4, .inr (3, [.null, .null, .int 0]))]) [3] rfl
  have hDc := hD.sub (ws' := [(q_4, .inr (3, [.null, .null, .int 0]))]) [3] (by decide) rfl
  refine k_v (wc := [(q_4, .inr (3, [.null, .null, .int 0]))]) (wr := [(h0, .inr (4, [.ref q_1, .null, .null, .int 0, .null])), (q_1, .inr (7, [.ref q_2, .int 0, .int 0, .int 0, .int 0, .int 0, .int 0, .int (-1)])), (q_2, .inl (cB, 0, .inl (fun _ => 0)))]) hP hD hS hA [3] [0, 1, 2] rfl rfl rfl (by decide) (r_I (n := 1) (As := [.ref q_1]) hx hb hml hown hts hkb hPc hDc (c_LawReader_init l D cB cI cJ cZ cS cW cT cR q_4 q_1) kw_78 kw_79 kw_4 kw_80 rfl (by decide +kernel) ⟨Nat.le_of_ble_eq_true rfl, Nat.le_of_ble_eq_true rfl⟩ rfl rfl hl.1 (Nat.le_of_ble_eq_true rfl) dX4_init_24 ⟨Nat.le_of_ble_eq_true rfl, Nat.le_of_ble_eq_true rfl⟩) (fun u H locs hw hP hD hS => ?_)
  obtain ⟨q_5, rfl⟩ := hw
  have hP : va_P D cls [(h0, .inr (4, [.ref q_1, .null, .null, .int 0, .null])), (q_1, .inr (7, [.ref q_2, .int 0, .int 0, .int 0, .int 0, .int 0, .int 0, .int (-1)])), (q_2, .inl (cB, 0, .inl (fun _ => 0))), (q_4, .inr (3, [.ref q_1, .ref q_5, .int 0])), (q_5, .inl (cI, 900, .inl (fun _ => 0)))] H := hP
  have hD : va_D A [(h0, .inr (4, [.ref q_1, .null, .null, .int 0, .null])), (q_1, .inr (7, [.ref q_2, .int 0, .int 0, .int 0, .int 0, .int 0, .int 0, .int (-1)])), (q_2, .inl (cB, 0, .inl (fun _ => 0))), (q_4, .inr (3, [.ref q_1, .ref q_5, .int 0])), (q_5, .inl (cI, 900, .inl (fun _ => 0)))] := hD
  refine W.widen (k := 4) (n := 911) (Nat.le_of_ble_eq_true rfl) (Nat.le_of_ble_eq_true rfl) ?_
  refine va_putF (D := D) (ci := 4) (v := .ref q_4) (ty := tyX4 1) (C := RX4) (T := TX4) (N := 5) hx hb hts uX4 tyX4 tyX4_ok nmX4 hown hkb.1 hP hD hS 0 rfl rfl 1 (by decide) (hts _ kw_213) (fun _ h9 => h9) rfl hnm rfl (tyX4_ok 1 (by decide)) rfl rfl (Nat.le_of_ble_eq_true rfl) dX4_init_27 (fun H locs hP hD hS => ?_)
  have hP : va_P D cls [(h0, .inr (4, [.ref q_1, .ref q_4, .null, .int 0, .null])), (q_1, .inr (7, [.ref q_2, .int 0, .int 0, .int 0, .int 0, .int 0, .int 0, .int (-1)])), (q_2, .inl (cB, 0, .inl (fun _ => 0))), (q_4, .inr (3, [.ref q_1, .ref q_5, .int 0])), (q_5, .inl (cI, 900, .inl (fun _ => 0)))] H := hP
  have hD : va_D A [(h0, .inr (4, [.ref q_1, .ref q_4, .null, .int 0, .null])), (q_1, .inr (7, [.ref q_2, .int 0, .int 0, .int 0, .int 0, .int 0, .int 0, .int (-1)])), (q_2, .inl (cB, 0, .inl (fun _ => 0))), (q_4, .inr (3, [.ref q_1, .ref q_5, .int 0])), (q_5, .inl (cI, 900, .inl (fun _ => 0)))] := hD
  refine lv_aload_n hx hb dX4_init_30 rfl (lv_at hl 0 rfl) ?_
  refine va_new (ci := 9) (fs := [.int 0, .int 0, .int 0, .int 0, .int 0, .int 0, .null, .null, .null, .null, .null, .null, .int 0, .int 0]) (C := RX9) (T := TX9) (N := 14) hx hb hts uX9 tyX9 tyX9_ok hown (hts _ kw_93) (hts _ kw_94) (hts _ kw_5) hkb.1 hP hD hS hA rfl dfX9 (Nat.le_of_ble_eq_true rfl) (Nat.le_of_ble_eq_true rfl) dX4_init_31 (fun q_7 H hP hD hS => ?_)
  have hP : va_P D cls [(h0, .inr (4, [.ref q_1, .ref q_4, .null, .int 0, .null])), (q_1, .inr (7, [.ref q_2, .int 0, .int 0, .int 0, .int 0, .int 0, .int 0, .int (-1)])), (q_2, .inl (cB, 0, .inl (fun _ => 0))), (q_4, .inr (3, [.ref q_1, .ref q_5, .int 0])), (q_5, .inl (cI, 900, .inl (fun _ => 0))), (q_7, .inr (9, [.int 0, .int 0, .int 0, .int 0, .int 0, .int 0, .null, .null, .null, .null, .null, .null, .int 0, .int 0]))] H := hP
  have hD : va_D A [(h0, .inr (4, [.ref q_1, .ref q_4, .null, .int 0, .null])), (q_1, .inr (7, [.ref q_2, .int 0, .int 0, .int 0, .int 0, .int 0, .int 0, .int (-1)])), (q_2, .inl (cB, 0, .inl (fun _ => 0))), (q_4, .inr (3, [.ref q_1, .ref q_5, .int 0])), (q_5, .inl (cI, 900, .inl (fun _ => 0))), (q_7, .inr (9, [.int 0, .int 0, .int 0, .int 0, .int 0, .int 0, .null, .null, .null, .null, .null, .null, .int 0, .int 0]))] := hD
  refine W.widen (k := 5) (n := 925) (Nat.le_of_ble_eq_true rfl) (Nat.le_of_ble_eq_true rfl) ?_
  refine lv_dup hx hb dX4_init_34 rfl ?_
  refine lv_bipush (v := 14) hx hb dX4_init_35 (by decide) ?_
  refine lv_iconst (v := 5) hx hb dX4_init_37 (by decide) ?_
  refine lv_null hx hb dX4_init_38 ?_
  have hPc := hP.sub (ws' := [(q_7, .inr (9, [.int 0, .int 0, .int 0, .int 0, .int 0, .int 0, .null, .null, .null, .null, .null, .null, .int 0, .int 0]))]) [5] rfl
  have hDc := hD.sub (ws' := [(q_7, .inr (9, [.int 0, .int 0, .int 0, .int 0, .int 0, .int 0, .null, .null, .null, .null, .null, .null, .int 0, .int 0]))]) [5] (by decide) rfl
  refine k_v (wc := [(q_7, .inr (9, [.int 0, .int 0, .int 0, .int 0, .int 0, .int 0, .null, .null, .null, .null, .null, .null, .int 0, .int 0]))]) (wr := [(h0, .inr (4, [.ref q_1, .ref q_4, .null, .int 0, .null])), (q_1, .inr (7, [.ref q_2, .int 0, .int 0, .int 0, .int 0, .int 0, .int 0, .int (-1)])), (q_2, .inl (cB, 0, .inl (fun _ => 0))), (q_4, .inr (3, [.ref q_1, .ref q_5, .int 0])), (q_5, .inl (cI, 900, .inl (fun _ => 0)))]) hP hD hS hA [5] [0, 1, 2, 3, 4] rfl rfl rfl (by decide) (r_I (n := 3) (As := [.int 14, .int 5, .null]) hx hb hml hown hts hkb hPc hDc (c_Wall_init_14 l D cB cI cJ cZ cS cW cT cR q_7) kw_95 kw_96 kw_5 kw_97 rfl (by decide +kernel) ⟨Nat.le_of_ble_eq_true rfl, Nat.le_of_ble_eq_true rfl⟩ rfl rfl hl.1 (Nat.le_of_ble_eq_true rfl) dX4_init_39 ⟨Nat.le_of_ble_eq_true rfl, Nat.le_of_ble_eq_true rfl⟩) (fun u H locs hw hP hD hS => ?_)
  obtain ⟨q_8, q_9, q_10, q_11, q_12, rfl⟩ := hw
  have hP : va_P D cls [(h0, .inr (4, [.ref q_1, .ref q_4, .null, .int 0, .null])), (q_1, .inr (7, [.ref q_2, .int 0, .int 0, .int 0, .int 0, .int 0, .int 0, .int (-1)])), (q_2, .inl (cB, 0, .inl (fun _ => 0))), (q_4, .inr (3, [.ref q_1, .ref q_5, .int 0])), (q_5, .inl (cI, 900, .inl (fun _ => 0))), (q_7, .inr (9, [.int 14, .int 5, .int 0, .int 0, .int 0, .int 0, .ref q_8, .ref q_9, .ref q_10, .ref q_11, .ref q_12, .null, .int 0, .int 1])), (q_8, .inl (cI, 14, .inl (fun _ => 0))), (q_9, .inl (cI, 14, .inl (fun _ => 0))), (q_10, .inl (cI, 14, .inl (fun _ => 0))), (q_11, .inl (cI, 5, .inl (fun _ => 0))), (q_12, .inl (cI, 5, .inl (fun _ => 0)))] H := hP
  have hD : va_D A [(h0, .inr (4, [.ref q_1, .ref q_4, .null, .int 0, .null])), (q_1, .inr (7, [.ref q_2, .int 0, .int 0, .int 0, .int 0, .int 0, .int 0, .int (-1)])), (q_2, .inl (cB, 0, .inl (fun _ => 0))), (q_4, .inr (3, [.ref q_1, .ref q_5, .int 0])), (q_5, .inl (cI, 900, .inl (fun _ => 0))), (q_7, .inr (9, [.int 14, .int 5, .int 0, .int 0, .int 0, .int 0, .ref q_8, .ref q_9, .ref q_10, .ref q_11, .ref q_12, .null, .int 0, .int 1])), (q_8, .inl (cI, 14, .inl (fun _ => 0))), (q_9, .inl (cI, 14, .inl (fun _ => 0))), (q_10, .inl (cI, 14, .inl (fun _ => 0))), (q_11, .inl (cI, 5, .inl (fun _ => 0))), (q_12, .inl (cI, 5, .inl (fun _ => 0)))] := hD
  refine W.widen (k := 10) (n := 977) (Nat.le_of_ble_eq_true rfl) (Nat.le_of_ble_eq_true rfl) ?_
  refine va_putF (D := D) (ci := 4) (v := .ref q_7) (ty := tyX4 2) (C := RX4) (T := TX4) (N := 5) hx hb hts uX4 tyX4 tyX4_ok nmX4 hown hkb.1 hP hD hS 0 rfl rfl 2 (by decide) (hts _ kw_214) (fun _ h9 => h9) rfl hnm rfl (tyX4_ok 2 (by decide)) rfl rfl (Nat.le_of_ble_eq_true rfl) dX4_init_42 (fun H locs hP hD hS => ?_)
  have hP : va_P D cls [(h0, .inr (4, [.ref q_1, .ref q_4, .ref q_7, .int 0, .null])), (q_1, .inr (7, [.ref q_2, .int 0, .int 0, .int 0, .int 0, .int 0, .int 0, .int (-1)])), (q_2, .inl (cB, 0, .inl (fun _ => 0))), (q_4, .inr (3, [.ref q_1, .ref q_5, .int 0])), (q_5, .inl (cI, 900, .inl (fun _ => 0))), (q_7, .inr (9, [.int 14, .int 5, .int 0, .int 0, .int 0, .int 0, .ref q_8, .ref q_9, .ref q_10, .ref q_11, .ref q_12, .null, .int 0, .int 1])), (q_8, .inl (cI, 14, .inl (fun _ => 0))), (q_9, .inl (cI, 14, .inl (fun _ => 0))), (q_10, .inl (cI, 14, .inl (fun _ => 0))), (q_11, .inl (cI, 5, .inl (fun _ => 0))), (q_12, .inl (cI, 5, .inl (fun _ => 0)))] H := hP
  have hD : va_D A [(h0, .inr (4, [.ref q_1, .ref q_4, .ref q_7, .int 0, .null])), (q_1, .inr (7, [.ref q_2, .int 0, .int 0, .int 0, .int 0, .int 0, .int 0, .int (-1)])), (q_2, .inl (cB, 0, .inl (fun _ => 0))), (q_4, .inr (3, [.ref q_1, .ref q_5, .int 0])), (q_5, .inl (cI, 900, .inl (fun _ => 0))), (q_7, .inr (9, [.int 14, .int 5, .int 0, .int 0, .int 0, .int 0, .ref q_8, .ref q_9, .ref q_10, .ref q_11, .ref q_12, .null, .int 0, .int 1])), (q_8, .inl (cI, 14, .inl (fun _ => 0))), (q_9, .inl (cI, 14, .inl (fun _ => 0))), (q_10, .inl (cI, 14, .inl (fun _ => 0))), (q_11, .inl (cI, 5, .inl (fun _ => 0))), (q_12, .inl (cI, 5, .inl (fun _ => 0)))] := hD
  refine lv_aload_n hx hb dX4_init_45 rfl (lv_at hl 0 rfl) ?_
  refine lv_iconst (v := 0) hx hb dX4_init_46 (by decide) ?_
  refine va_put (D := D) (ci := 4) (v := .int 0) (ty := tyX4 3) (C := RX4) (T := TX4) (N := 5) hx hb hts uX4 tyX4 tyX4_ok nmX4 hown hkb.1 hP hD hS 0 rfl rfl 3 (by decide) (hts _ kw_215) (fun _ h9 => h9) rfl (tyX4_ok 3 (by decide)) rfl rfl (Nat.le_of_ble_eq_true rfl) dX4_init_47 (fun H locs hP hD hS => ?_)
  have hP : va_P D cls [(h0, .inr (4, [.ref q_1, .ref q_4, .ref q_7, .int 0, .null])), (q_1, .inr (7, [.ref q_2, .int 0, .int 0, .int 0, .int 0, .int 0, .int 0, .int (-1)])), (q_2, .inl (cB, 0, .inl (fun _ => 0))), (q_4, .inr (3, [.ref q_1, .ref q_5, .int 0])), (q_5, .inl (cI, 900, .inl (fun _ => 0))), (q_7, .inr (9, [.int 14, .int 5, .int 0, .int 0, .int 0, .int 0, .ref q_8, .ref q_9, .ref q_10, .ref q_11, .ref q_12, .null, .int 0, .int 1])), (q_8, .inl (cI, 14, .inl (fun _ => 0))), (q_9, .inl (cI, 14, .inl (fun _ => 0))), (q_10, .inl (cI, 14, .inl (fun _ => 0))), (q_11, .inl (cI, 5, .inl (fun _ => 0))), (q_12, .inl (cI, 5, .inl (fun _ => 0)))] H := hP
  have hD : va_D A [(h0, .inr (4, [.ref q_1, .ref q_4, .ref q_7, .int 0, .null])), (q_1, .inr (7, [.ref q_2, .int 0, .int 0, .int 0, .int 0, .int 0, .int 0, .int (-1)])), (q_2, .inl (cB, 0, .inl (fun _ => 0))), (q_4, .inr (3, [.ref q_1, .ref q_5, .int 0])), (q_5, .inl (cI, 900, .inl (fun _ => 0))), (q_7, .inr (9, [.int 14, .int 5, .int 0, .int 0, .int 0, .int 0, .ref q_8, .ref q_9, .ref q_10, .ref q_11, .ref q_12, .null, .int 0, .int 1])), (q_8, .inl (cI, 14, .inl (fun _ => 0))), (q_9, .inl (cI, 14, .inl (fun _ => 0))), (q_10, .inl (cI, 14, .inl (fun _ => 0))), (q_11, .inl (cI, 5, .inl (fun _ => 0))), (q_12, .inl (cI, 5, .inl (fun _ => 0)))] := hD
  refine lv_aload_n hx hb dX4_init_50 rfl (lv_at hl 0 rfl) ?_
  refine va_new (ci := 6) (fs := [.int 0, .int 0, .int 0, .int 0, .null, .null]) (C := RX6) (T := TX6) (N := 6) hx hb hts uX6 tyX6 tyX6_ok hown (hts _ kw_179) (hts _ kw_180) (hts _ kw_7) hkb.1 hP hD hS hA rfl dfX6 (Nat.le_of_ble_eq_true rfl) (Nat.le_of_ble_eq_true rfl) dX4_init_51 (fun q_14 H hP hD hS => ?_)
  have hP : va_P D cls [(h0, .inr (4, [.ref q_1, .ref q_4, .ref q_7, .int 0, .null])), (q_1, .inr (7, [.ref q_2, .int 0, .int 0, .int 0, .int 0, .int 0, .int 0, .int (-1)])), (q_2, .inl (cB, 0, .inl (fun _ => 0))), (q_4, .inr (3, [.ref q_1, .ref q_5, .int 0])), (q_5, .inl (cI, 900, .inl (fun _ => 0))), (q_7, .inr (9, [.int 14, .int 5, .int 0, .int 0, .int 0, .int 0, .ref q_8, .ref q_9, .ref q_10, .ref q_11, .ref q_12, .null, .int 0, .int 1])), (q_8, .inl (cI, 14, .inl (fun _ => 0))), (q_9, .inl (cI, 14, .inl (fun _ => 0))), (q_10, .inl (cI, 14, .inl (fun _ => 0))), (q_11, .inl (cI, 5, .inl (fun _ => 0))), (q_12, .inl (cI, 5, .inl (fun _ => 0))), (q_14, .inr (6, [.int 0, .int 0, .int 0, .int 0, .null, .null]))] H := hP
  have hD : va_D A [(h0, .inr (4, [.ref q_1, .ref q_4, .ref q_7, .int 0, .null])), (q_1, .inr (7, [.ref q_2, .int 0, .int 0, .int 0, .int 0, .int 0, .int 0, .int (-1)])), (q_2, .inl (cB, 0, .inl (fun _ => 0))), (q_4, .inr (3, [.ref q_1, .ref q_5, .int 0])), (q_5, .inl (cI, 900, .inl (fun _ => 0))), (q_7, .inr (9, [.int 14, .int 5, .int 0, .int 0, .int 0, .int 0, .ref q_8, .ref q_9, .ref q_10, .ref q_11, .ref q_12, .null, .int 0, .int 1])), (q_8, .inl (cI, 14, .inl (fun _ => 0))), (q_9, .inl (cI, 14, .inl (fun _ => 0))), (q_10, .inl (cI, 14, .inl (fun _ => 0))), (q_11, .inl (cI, 5, .inl (fun _ => 0))), (q_12, .inl (cI, 5, .inl (fun _ => 0))), (q_14, .inr (6, [.int 0, .int 0, .int 0, .int 0, .null, .null]))] := hD
  refine W.widen (k := 11) (n := 983) (Nat.le_of_ble_eq_true rfl) (Nat.le_of_ble_eq_true rfl) ?_
  refine lv_dup hx hb dX4_init_54 rfl ?_
  have hPc := hP.sub (ws' := [(q_14, .inr (6, [.int 0, .int 0, .int 0, .int 0, .null, .null]))]) [11] rfl
  have hDc := hD.sub (ws' := [(q_14, .inr (6, [.int 0, .int 0, .int 0, .int 0, .null, .null]))]) [11] (by decide) rfl
  refine k_v (wc := [(q_14, .inr (6, [.int 0, .int 0, .int 0, .int 0, .null, .null]))]) (wr := [(h0, .inr (4, [.ref q_1, .ref q_4, .ref q_7, .int 0, .null])), (q_1, .inr (7, [.ref q_2, .int 0, .int 0, .int 0, .int 0, .int 0, .int 0, .int (-1)])), (q_2, .inl (cB, 0, .inl (fun _ => 0))), (q_4, .inr (3, [.ref q_1, .ref q_5, .int 0])), (q_5, .inl (cI, 900, .inl (fun _ => 0))), (q_7, .inr (9, [.int 14, .int 5, .int 0, .int 0, .int 0, .int 0, .ref q_8, .ref q_9, .ref q_10, .ref q_11, .ref q_12, .null, .int 0, .int 1])), (q_8, .inl (cI, 14, .inl (fun _ => 0))), (q_9, .inl (cI, 14, .inl (fun _ => 0))), (q_10, .inl (cI, 14, .inl (fun _ => 0))), (q_11, .inl (cI, 5, .inl (fun _ => 0))), (q_12, .inl (cI, 5, .inl (fun _ => 0)))]) hP hD hS hA [11] [0, 1, 2, 3, 4, 5, 6, 7, 8, 9, 10] rfl rfl rfl (by decide) (r_N (n := 0) (As := []) hx hb hml hown hts hkb hPc hDc (c_State_init l D cB cI cJ cZ cS cW cT cR q_14) hkb.2.2.2.2.1 kw_182 kw_7 kw_183 rfl (by decide +kernel) ⟨Nat.le_of_ble_eq_true rfl, Nat.le_of_ble_eq_true rfl⟩ rfl rfl hl.1 (Nat.le_of_ble_eq_true rfl) dX4_init_55 ⟨Nat.le_of_ble_eq_true rfl, Nat.le_of_ble_eq_true rfl⟩) (fun u H locs hw hP hD hS => ?_)
  obtain ⟨q_15, q_16, rfl⟩ := hw
  have hP : va_P D cls [(h0, .inr (4, [.ref q_1, .ref q_4, .ref q_7, .int 0, .null])), (q_1, .inr (7, [.ref q_2, .int 0, .int 0, .int 0, .int 0, .int 0, .int 0, .int (-1)])), (q_2, .inl (cB, 0, .inl (fun _ => 0))), (q_4, .inr (3, [.ref q_1, .ref q_5, .int 0])), (q_5, .inl (cI, 900, .inl (fun _ => 0))), (q_7, .inr (9, [.int 14, .int 5, .int 0, .int 0, .int 0, .int 0, .ref q_8, .ref q_9, .ref q_10, .ref q_11, .ref q_12, .null, .int 0, .int 1])), (q_8, .inl (cI, 14, .inl (fun _ => 0))), (q_9, .inl (cI, 14, .inl (fun _ => 0))), (q_10, .inl (cI, 14, .inl (fun _ => 0))), (q_11, .inl (cI, 5, .inl (fun _ => 0))), (q_12, .inl (cI, 5, .inl (fun _ => 0))), (q_14, .inr (6, [.int 0, .int 0, .int 0, .int 0, .ref q_15, .ref q_16])), (q_15, .inl (cI, 14, .inl (fun _ => 0))), (q_16, .inl (cI, 14, .inl (fun _ => 0)))] H := hP
  have hD : va_D A [(h0, .inr (4, [.ref q_1, .ref q_4, .ref q_7, .int 0, .null])), (q_1, .inr (7, [.ref q_2, .int 0, .int 0, .int 0, .int 0, .int 0, .int 0, .int (-1)])), (q_2, .inl (cB, 0, .inl (fun _ => 0))), (q_4, .inr (3, [.ref q_1, .ref q_5, .int 0])), (q_5, .inl (cI, 900, .inl (fun _ => 0))), (q_7, .inr (9, [.int 14, .int 5, .int 0, .int 0, .int 0, .int 0, .ref q_8, .ref q_9, .ref q_10, .ref q_11, .ref q_12, .null, .int 0, .int 1])), (q_8, .inl (cI, 14, .inl (fun _ => 0))), (q_9, .inl (cI, 14, .inl (fun _ => 0))), (q_10, .inl (cI, 14, .inl (fun _ => 0))), (q_11, .inl (cI, 5, .inl (fun _ => 0))), (q_12, .inl (cI, 5, .inl (fun _ => 0))), (q_14, .inr (6, [.int 0, .int 0, .int 0, .int 0, .ref q_15, .ref q_16])), (q_15, .inl (cI, 14, .inl (fun _ => 0))), (q_16, .inl (cI, 14, .inl (fun _ => 0)))] := hD
  refine W.widen (k := 13) (n := 1011) (Nat.le_of_ble_eq_true rfl) (Nat.le_of_ble_eq_true rfl) ?_
  refine va_putF (D := D) (ci := 4) (v := .ref q_14) (ty := tyX4 4) (C := RX4) (T := TX4) (N := 5) hx hb hts uX4 tyX4 tyX4_ok nmX4 hown hkb.1 hP hD hS 0 rfl rfl 4 (by decide) (hts _ kw_216) (fun _ h9 => h9) rfl hnm rfl (tyX4_ok 4 (by decide)) rfl rfl (Nat.le_of_ble_eq_true rfl) dX4_init_58 (fun H locs hP hD hS => ?_)
  have hP : va_P D cls [(h0, .inr (4, [.ref q_1, .ref q_4, .ref q_7, .int 0, .ref q_14])), (q_1, .inr (7, [.ref q_2, .int 0, .int 0, .int 0, .int 0, .int 0, .int 0, .int (-1)])), (q_2, .inl (cB, 0, .inl (fun _ => 0))), (q_4, .inr (3, [.ref q_1, .ref q_5, .int 0])), (q_5, .inl (cI, 900, .inl (fun _ => 0))), (q_7, .inr (9, [.int 14, .int 5, .int 0, .int 0, .int 0, .int 0, .ref q_8, .ref q_9, .ref q_10, .ref q_11, .ref q_12, .null, .int 0, .int 1])), (q_8, .inl (cI, 14, .inl (fun _ => 0))), (q_9, .inl (cI, 14, .inl (fun _ => 0))), (q_10, .inl (cI, 14, .inl (fun _ => 0))), (q_11, .inl (cI, 5, .inl (fun _ => 0))), (q_12, .inl (cI, 5, .inl (fun _ => 0))), (q_14, .inr (6, [.int 0, .int 0, .int 0, .int 0, .ref q_15, .ref q_16])), (q_15, .inl (cI, 14, .inl (fun _ => 0))), (q_16, .inl (cI, 14, .inl (fun _ => 0)))] H := hP
  have hD : va_D A [(h0, .inr (4, [.ref q_1, .ref q_4, .ref q_7, .int 0, .ref q_14])), (q_1, .inr (7, [.ref q_2, .int 0, .int 0, .int 0, .int 0, .int 0, .int 0, .int (-1)])), (q_2, .inl (cB, 0, .inl (fun _ => 0))), (q_4, .inr (3, [.ref q_1, .ref q_5, .int 0])), (q_5, .inl (cI, 900, .inl (fun _ => 0))), (q_7, .inr (9, [.int 14, .int 5, .int 0, .int 0, .int 0, .int 0, .ref q_8, .ref q_9, .ref q_10, .ref q_11, .ref q_12, .null, .int 0, .int 1])), (q_8, .inl (cI, 14, .inl (fun _ => 0))), (q_9, .inl (cI, 14, .inl (fun _ => 0))), (q_10, .inl (cI, 14, .inl (fun _ => 0))), (q_11, .inl (cI, 5, .inl (fun _ => 0))), (q_12, .inl (cI, 5, .inl (fun _ => 0))), (q_14, .inr (6, [.int 0, .int 0, .int 0, .int 0, .ref q_15, .ref q_16])), (q_15, .inl (cI, 14, .inl (fun _ => 0))), (q_16, .inl (cI, 14, .inl (fun _ => 0)))] := hD
  refine W.widen (k := 13) (n := 1011) (Nat.le_of_ble_eq_true rfl) (Nat.le_of_ble_eq_true rfl) ?_
  exact e_v (u := [(h0, .inr (4, [.ref q_1, .ref q_4, .ref q_7, .int 0, .ref q_14])), (q_1, .inr (7, [.ref q_2, .int 0, .int 0, .int 0, .int 0, .int 0, .int 0, .int (-1)])), (q_2, .inl (cB, 0, .inl (fun _ => 0))), (q_4, .inr (3, [.ref q_1, .ref q_5, .int 0])), (q_5, .inl (cI, 900, .inl (fun _ => 0))), (q_7, .inr (9, [.int 14, .int 5, .int 0, .int 0, .int 0, .int 0, .ref q_8, .ref q_9, .ref q_10, .ref q_11, .ref q_12, .null, .int 0, .int 1])), (q_8, .inl (cI, 14, .inl (fun _ => 0))), (q_9, .inl (cI, 14, .inl (fun _ => 0))), (q_10, .inl (cI, 14, .inl (fun _ => 0))), (q_11, .inl (cI, 5, .inl (fun _ => 0))), (q_12, .inl (cI, 5, .inl (fun _ => 0))), (q_14, .inr (6, [.int 0, .int 0, .int 0, .int 0, .ref q_15, .ref q_16])), (q_15, .inl (cI, 14, .inl (fun _ => 0))), (q_16, .inl (cI, 14, .inl (fun _ => 0)))]) hx hb hr hlocks (hP.sub (ws' := [(h0, .inr (4, [.ref q_1, .ref q_4, .ref q_7, .int 0, .ref q_14])), (q_1, .inr (7, [.ref q_2, .int 0, .int 0, .int 0, .int 0, .int 0, .int 0, .int (-1)])), (q_2, .inl (cB, 0, .inl (fun _ => 0))), (q_4, .inr (3, [.ref q_1, .ref q_5, .int 0])), (q_5, .inl (cI, 900, .inl (fun _ => 0))), (q_7, .inr (9, [.int 14, .int 5, .int 0, .int 0, .int 0, .int 0, .ref q_8, .ref q_9, .ref q_10, .ref q_11, .ref q_12, .null, .int 0, .int 1])), (q_8, .inl (cI, 14, .inl (fun _ => 0))), (q_9, .inl (cI, 14, .inl (fun _ => 0))), (q_10, .inl (cI, 14, .inl (fun _ => 0))), (q_11, .inl (cI, 5, .inl (fun _ => 0))), (q_12, .inl (cI, 5, .inl (fun _ => 0))), (q_14, .inr (6, [.int 0, .int 0, .int 0, .int 0, .ref q_15, .ref q_16])), (q_15, .inl (cI, 14, .inl (fun _ => 0))), (q_16, .inl (cI, 14, .inl (fun _ => 0)))]) [0, 1, 2, 3, 4, 5, 6, 7, 8, 9, 10, 11, 12, 13] rfl) (hD.sub (ws' := [(h0, .inr (4, [.ref q_1, .ref q_4, .ref q_7, .int 0, .ref q_14])), (q_1, .inr (7, [.ref q_2, .int 0, .int 0, .int 0, .int 0, .int 0, .int 0, .int (-1)])), (q_2, .inl (cB, 0, .inl (fun _ => 0))), (q_4, .inr (3, [.ref q_1, .ref q_5, .int 0])), (q_5, .inl (cI, 900, .inl (fun _ => 0))), (q_7, .inr (9, [.int 14, .int 5, .int 0, .int 0, .int 0, .int 0, .ref q_8, .ref q_9, .ref q_10, .ref q_11, .ref q_12, .null, .int 0, .int 1])), (q_8, .inl (cI, 14, .inl (fun _ => 0))), (q_9, .inl (cI, 14, .inl (fun _ => 0))), (q_10, .inl (cI, 14, .inl (fun _ => 0))), (q_11, .inl (cI, 5, .inl (fun _ => 0))), (q_12, .inl (cI, 5, .inl (fun _ => 0))), (q_14, .inr (6, [.int 0, .int 0, .int 0, .int 0, .ref q_15, .ref q_16])), (q_15, .inl (cI, 14, .inl (fun _ => 0))), (q_16, .inl (cI, 14, .inl (fun _ => 0)))]) [0, 1, 2, 3, 4, 5, 6, 7, 8, 9, 10, 11, 12, 13] (by decide) rfl) hS ⟨q_1, q_4, q_7, q_14, q_2, q_5, q_8, q_9, q_10, q_11, q_12, q_15, q_16, rfl⟩ dX4_init_61
set_option maxHeartbeats 4000000 in
set_option maxRecDepth 100000 in
theorem c_plain3906 (l : Launch) (D : va_G) (cB cI cJ cZ cS cW cT cR : ClassId) (a_to : Nat) : Kon l D (tyl cB cI cJ cZ cS cW cT cR) yX12_plain cX12_plain 2 none { frames := 0, cells := 0, slots := 0, locals := 0 } [.ref a_to] [(a_to, .inl (cI, 3906, .inl (fun _ => 0)))] (Qv D (fun u => u = [(a_to, .inl (cI, 3906, .inl plc))])) := by
  refine kon_of (by decide) (Nat.le_of_ble_eq_true rfl) (fun p e s m below meth c ls A hx hb hr hml hown hts hlocks hnm hkb hP hD hS hA hl => ?_)
  have hown : s.vm.findClass RX12 = some m.cls := hown
  have hl : lv_has ls 2 [(0, .ref a_to)] := hl
  have hP : va_P D cls [(a_to, .inl (cI, 3906, .inl (fun _ => 0)))] s.heap := hP
  refine lv_iconst (v := 0) hx hb dX12_plain_0 (by decide) ?_
  refine lv_istore_n (lv' := [(1, .int 0), (0, .ref a_to)]) hx hb dX12_plain_1 rfl hl (by decide) rfl (fun ls hl => ?_)
  have lp_5 : ∀ (n_1 k_2 : Nat) (x_3 : Int32) (H : Heap) (locs : List Loc) (ls : Array Slot), k_2 + n_1 = 1302 → x_3 = nI k_2 → va_P D cls [(a_to, .inl (cI, 3906, .inl (fun _ => 0)))] H → va_D A [(a_to, .inl (cI, 3906, .inl (fun _ => 0)))] → va_S A s.heap H locs → lv_has ls 2 [(1, .int x_3), (0, .ref a_to)] → W p l e { frames := 0, cells := 0, slots := 0, locals := 0 } s m [.ref a_to].toArray below meth c H locs 0 0 (MQ below (Qv D (fun u => u = [(a_to, .inl (cI, 3906, .inl plc))]) A) [.ref a_to].toArray s 0 0 A) (F0 m 2 ls []) := by
    intro n_1
    induction n_1 with
    | zero =>
      intro k_2 x_3  H locs ls hk_4 hx_3  hP hD hS hl
      have hzx_3 : x_3.toInt = (k_2 : Int) := by rw [hx_3]; exact nI_toInt (by omega)
      refine lv_iload_n hx hb dX12_plain_2 rfl (lv_at hl 0 rfl) ?_
      refine lv_sipush (v := 1302) hx hb dX12_plain_3 (by decide) ?_
      refine lv_icmp_ge (tgt := 19) hx hb dX12_plain_6 (by decide) (fun _ => ?_) (fun c_6 => by exfalso; have tc_6 := f_nge (k := 1302) (by decide) c_6; omega)
      refine lv_iconst (v := 0) hx hb dX12_plain_19 (by decide) ?_
      refine lv_istore_n (lv' := [(1, .int 0), (0, .ref a_to)]) hx hb dX12_plain_20 rfl hl (by decide) rfl (fun ls hl => ?_)
      have lp_11 : ∀ (n_7 k_8 : Nat) (x_9 : Int32) (H : Heap) (locs : List Loc) (ls : Array Slot), k_8 + n_7 = 14 → x_9 = nI k_8 → va_P D cls [(a_to, .inl (cI, 3906, .inl (plh k_8)))] H → va_D A [(a_to, .inl (cI, 3906, .inl (plh k_8)))] → va_S A s.heap H locs → lv_has ls 2 [(1, .int x_9), (0, .ref a_to)] → W p l e { frames := 0, cells := 0, slots := 0, locals := 0 } s m [.ref a_to].toArray below meth c H locs 0 0 (MQ below (Qv D (fun u => u = [(a_to, .inl (cI, 3906, .inl plc))]) A) [.ref a_to].toArray s 0 0 A) (F0 m 21 ls []) := by
        intro n_7
        induction n_7 with
        | zero =>
          intro k_8 x_9  H locs ls hk_10 hx_9  hP hD hS hl
          have hzx_9 : x_9.toInt = (k_8 : Int) := by rw [hx_9]; exact nI_toInt (by omega)
          obtain rfl : k_8 = 14 := by omega
          have hP : va_P D cls [(a_to, .inl (cI, 3906, .inl plc))] H := hP
          have hD : va_D A [(a_to, .inl (cI, 3906, .inl plc))] := hD
          refine lv_iload_n hx hb dX12_plain_21 rfl (lv_at hl 0 rfl) ?_
          refine lv_bipush (v := 14) hx hb dX12_plain_22 (by decide) ?_
          refine lv_icmp_ge (tgt := 47) hx hb dX12_plain_24 (by decide) (fun _ => ?_) (fun c_12 => by exfalso; have tc_12 := f_nge (k := 14) (by decide) c_12; omega)
          refine W.widen (k := 0) (n := 0) (Nat.le_of_ble_eq_true rfl) (Nat.le_of_ble_eq_true rfl) ?_
          exact e_v (u := [(a_to, .inl (cI, 3906, .inl plc))]) hx hb hr hlocks (hP.sub (ws' := [(a_to, .inl (cI, 3906, .inl plc))]) [0] rfl) (hD.sub (ws' := [(a_to, .inl (cI, 3906, .inl plc))]) [0] (by decide) rfl) hS rfl dX12_plain_47
        | succ n_7 ih =>
          intro k_8 x_9  H locs ls hk_10 hx_9  hP hD hS hl
          have hzx_9 : x_9.toInt = (k_8 : Int) := by rw [hx_9]; exact nI_toInt (by omega)
          refine lv_iload_n hx hb dX12_plain_21 rfl (lv_at hl 0 rfl) ?_
          refine lv_bipush (v := 14) hx hb dX12_plain_22 (by decide) ?_
          refine lv_icmp_ge (tgt := 47) hx hb dX12_plain_24 (by decide) (fun c_13 => by exfalso; have tc_13 := f_ge (k := 14) (by decide) c_13; omega) (fun _ => ?_)
          refine lv_aload_n hx hb dX12_plain_27 rfl (lv_at hl 1 rfl) ?_
          refine lv_bipush (v := 59) hx hb dX12_plain_28 (by decide) ?_
          refine lv_iload_n hx hb dX12_plain_30 rfl (lv_at hl 0 rfl) ?_
          refine lv_iadd hx hb dX12_plain_31 ?_
          refine lv_topc (y := nI (59 + k_8)) (by rw [hx_9]; exact nI_add 59 k_8) ?_
          refine lv_iconst (v := (-1)) hx hb dX12_plain_32 (by decide) ?_
          refine s_i 0 1 hx hb hkb.1 hP hD hS rfl rfl (in_n (by omega) (by decide)) (59 + k_8) (nI_clamp (by omega)) dX12_plain_33 (fun H locs hP hD hS => ?_)
          have hP : va_P D cls [(a_to, .inl (cI, 3906, .inl (upd (plh k_8) (59 + k_8) (-1))))] H := hP
          have hD : va_D A [(a_to, .inl (cI, 3906, .inl (upd (plh k_8) (59 + k_8) (-1))))] := hD
          refine lv_aload_n hx hb dX12_plain_34 rfl (lv_at hl 1 rfl) ?_
          refine lv_bipush (v := 73) hx hb dX12_plain_35 (by decide) ?_
          refine lv_iload_n hx hb dX12_plain_37 rfl (lv_at hl 0 rfl) ?_
          refine lv_iadd hx hb dX12_plain_38 ?_
          refine lv_topc (y := nI (73 + k_8)) (by rw [hx_9]; exact nI_add 73 k_8) ?_
          refine lv_iconst (v := (-1)) hx hb dX12_plain_39 (by decide) ?_
          refine s_i 0 1 hx hb hkb.1 hP hD hS rfl rfl (in_n (by omega) (by decide)) (73 + k_8) (nI_clamp (by omega)) dX12_plain_40 (fun H locs hP hD hS => ?_)
          have hP : va_P D cls [(a_to, .inl (cI, 3906, .inl (upd (upd (plh k_8) (59 + k_8) (-1)) (73 + k_8) (-1))))] H := hP
          have hD : va_D A [(a_to, .inl (cI, 3906, .inl (upd (upd (plh k_8) (59 + k_8) (-1)) (73 + k_8) (-1))))] := hD
          obtain ⟨v_14, ev_14⟩ : ∃ y : Int32, y = x_9 + 1 := ⟨_, rfl⟩
          refine lv_iinc (v := v_14) (lv' := [(1, .int v_14), (0, .ref a_to)]) hx hb dX12_plain_41 hl (k := 0) rfl (by rw [ev_14]; rfl) (by decide) rfl (fun ls hl => ?_)
          refine lv_goto (tgt := 21) hx hb dX12_plain_44 (by decide) ?_
          rw [plh_s] at hP hD
          have hP : va_P D cls [(a_to, .inl (cI, 3906, .inl (plh (k_8 + 1))))] H := hP
          have hD : va_D A [(a_to, .inl (cI, 3906, .inl (plh (k_8 + 1))))] := hD
          exact ih (k_8 + 1) v_14  _ _ _ (by omega) (by rw [ev_14, hx_9]; exact nI_1 k_8)  (hP.sub (ws' := [(a_to, .inl (cI, 3906, .inl (plh (k_8 + 1))))]) [0] rfl) (hD.sub (ws' := [(a_to, .inl (cI, 3906, .inl (plh (k_8 + 1))))]) [0] (by decide) rfl) hS (lv_sub hl [0, 1] rfl)
      exact lp_11 14 0 0  _ _ _ (by rfl) nI_0.symm  (by rw [← plh_0]; exact hP) (by rw [← plh_0]; exact hD) hS (lv_sub hl [0, 1] rfl)
    | succ n_1 ih =>
      intro k_2 x_3  H locs ls hk_4 hx_3  hP hD hS hl
      have hzx_3 : x_3.toInt = (k_2 : Int) := by rw [hx_3]; exact nI_toInt (by omega)
      refine lv_iload_n hx hb dX12_plain_2 rfl (lv_at hl 0 rfl) ?_
      refine lv_sipush (v := 1302) hx hb dX12_plain_3 (by decide) ?_
      refine lv_icmp_ge (tgt := 19) hx hb dX12_plain_6 (by decide) (fun c_15 => by exfalso; have tc_15 := f_ge (k := 1302) (by decide) c_15; omega) (fun _ => ?_)
      refine lv_aload_n hx hb dX12_plain_9 rfl (lv_at hl 1 rfl) ?_
      refine lv_iload_n hx hb dX12_plain_10 rfl (lv_at hl 0 rfl) ?_
      refine lv_iconst (v := 0) hx hb dX12_plain_11 (by decide) ?_
      refine s_i 0 1 hx hb hkb.1 hP hD hS rfl rfl (in_k hx_3 (by omega) (by decide)) k_2 (by rw [hx_3]; exact nI_clamp (by omega)) dX12_plain_12 (fun H locs hP hD hS => ?_)
      have hP : va_P D cls [(a_to, .inl (cI, 3906, .inl (upd (fun _ => 0) k_2 0)))] H := hP
      have hD : va_D A [(a_to, .inl (cI, 3906, .inl (upd (fun _ => 0) k_2 0)))] := hD
      obtain ⟨v_16, ev_16⟩ : ∃ y : Int32, y = x_3 + 1 := ⟨_, rfl⟩
      refine lv_iinc (v := v_16) (lv' := [(1, .int v_16), (0, .ref a_to)]) hx hb dX12_plain_13 hl (k := 0) rfl (by rw [ev_16]; rfl) (by decide) rfl (fun ls hl => ?_)
      refine lv_goto (tgt := 2) hx hb dX12_plain_16 (by decide) ?_
      rw [upd_z] at hP hD
      have hP : va_P D cls [(a_to, .inl (cI, 3906, .inl (fun _ => 0)))] H := hP
      have hD : va_D A [(a_to, .inl (cI, 3906, .inl (fun _ => 0)))] := hD
      exact ih (k_2 + 1) v_16  _ _ _ (by omega) (by rw [ev_16, hx_3]; exact nI_1 k_2)  (hP.sub (ws' := [(a_to, .inl (cI, 3906, .inl (fun _ => 0)))]) [0] rfl) (hD.sub (ws' := [(a_to, .inl (cI, 3906, .inl (fun _ => 0)))]) [0] (by decide) rfl) hS (lv_sub hl [0, 1] rfl)
  exact lp_5 1302 0 0  _ _ _ (by rfl) nI_0.symm  (hP) (hD) hS (lv_sub hl [0, 1] rfl)
theorem dX11_init_0 : decode cX11_init 0 = .ok (.aload_n 0, 1) := by decide +kernel
theorem dX11_init_1 : decode cX11_init 1 = .ok (.invokespecial 1, 3) := by decide +kernel
theorem dX11_init_4 : decode cX11_init 4 = .ok (.aload_n 0, 1) := by decide +kernel
theorem dX11_init_5 : decode cX11_init 5 = .ok (.sipush 900, 3) := by decide +kernel
theorem dX11_init_8 : decode cX11_init 8 = .ok (.newarray .byte, 2) := by decide +kernel
theorem dX11_init_10 : decode cX11_init 10 = .ok (.putfield 9, 3) := by decide +kernel
theorem dX11_init_13 : decode cX11_init 13 = .ok (.aload_n 0, 1) := by decide +kernel
theorem dX11_init_14 : decode cX11_init 14 = .ok (.iconst 0, 1) := by decide +kernel
theorem dX11_init_15 : decode cX11_init 15 = .ok (.putfield 13, 3) := by decide +kernel
theorem dX11_init_18 : decode cX11_init 18 = .ok (.aload_n 0, 1) := by decide +kernel
theorem dX11_init_19 : decode cX11_init 19 = .ok (.new 17, 3) := by decide +kernel
theorem dX11_init_22 : decode cX11_init 22 = .ok (.dup, 1) := by decide +kernel
theorem dX11_init_23 : decode cX11_init 23 = .ok (.invokespecial 19, 3) := by decide +kernel
theorem dX11_init_26 : decode cX11_init 26 = .ok (.putfield 20, 3) := by decide +kernel
theorem dX11_init_29 : decode cX11_init 29 = .ok (.aload_n 0, 1) := by decide +kernel
theorem dX11_init_30 : decode cX11_init 30 = .ok (.new 24, 3) := by decide +kernel
theorem dX11_init_33 : decode cX11_init 33 = .ok (.dup, 1) := by decide +kernel
theorem dX11_init_34 : decode cX11_init 34 = .ok (.iconst 0, 1) := by decide +kernel
theorem dX11_init_35 : decode cX11_init 35 = .ok (.iconst 0, 1) := by decide +kernel
theorem dX11_init_36 : decode cX11_init 36 = .ok (.aconst_null, 1) := by decide +kernel
theorem dX11_init_37 : decode cX11_init 37 = .ok (.invokespecial 26, 3) := by decide +kernel
theorem dX11_init_40 : decode cX11_init 40 = .ok (.putfield 29, 3) := by decide +kernel
theorem dX11_init_43 : decode cX11_init 43 = .ok (.aload_n 0, 1) := by decide +kernel
theorem dX11_init_44 : decode cX11_init 44 = .ok (.new 33, 3) := by decide +kernel
theorem dX11_init_47 : decode cX11_init 47 = .ok (.dup, 1) := by decide +kernel
theorem dX11_init_48 : decode cX11_init 48 = .ok (.invokespecial 35, 3) := by decide +kernel
theorem dX11_init_51 : decode cX11_init 51 = .ok (.putfield 36, 3) := by decide +kernel
theorem dX11_init_54 : decode cX11_init 54 = .ok (.aload_n 0, 1) := by decide +kernel
theorem dX11_init_55 : decode cX11_init 55 = .ok (.new 33, 3) := by decide +kernel
theorem dX11_init_58 : decode cX11_init 58 = .ok (.dup, 1) := by decide +kernel
theorem dX11_init_59 : decode cX11_init 59 = .ok (.invokespecial 35, 3) := by decide +kernel
theorem dX11_init_62 : decode cX11_init 62 = .ok (.putfield 40, 3) := by decide +kernel
theorem dX11_init_65 : decode cX11_init 65 = .ok (.aload_n 0, 1) := by decide +kernel
theorem dX11_init_66 : decode cX11_init 66 = .ok (.bipush 10, 2) := by decide +kernel
theorem dX11_init_68 : decode cX11_init 68 = .ok (.anewarray 33, 3) := by decide +kernel
theorem dX11_init_71 : decode cX11_init 71 = .ok (.putfield 43, 3) := by decide +kernel
theorem dX11_init_74 : decode cX11_init 74 = .ok (.aload_n 0, 1) := by decide +kernel
theorem dX11_init_75 : decode cX11_init 75 = .ok (.iconst 0, 1) := by decide +kernel
theorem dX11_init_76 : decode cX11_init 76 = .ok (.putfield 47, 3) := by decide +kernel
theorem dX11_init_79 : decode cX11_init 79 = .ok (.aload_n 0, 1) := by decide +kernel
theorem dX11_init_80 : decode cX11_init 80 = .ok (.iconst 0, 1) := by decide +kernel
theorem dX11_init_81 : decode cX11_init 81 = .ok (.putfield 50, 3) := by decide +kernel
theorem dX11_init_84 : decode cX11_init 84 = .ok (.aload_n 0, 1) := by decide +kernel
theorem dX11_init_85 : decode cX11_init 85 = .ok (.iconst 2, 1) := by decide +kernel
theorem dX11_init_86 : decode cX11_init 86 = .ok (.anewarray 24, 3) := by decide +kernel
theorem dX11_init_89 : decode cX11_init 89 = .ok (.putfield 53, 3) := by decide +kernel
theorem dX11_init_92 : decode cX11_init 92 = .ok (.aload_n 0, 1) := by decide +kernel
theorem dX11_init_93 : decode cX11_init 93 = .ok (.iconst 2, 1) := by decide +kernel
theorem dX11_init_94 : decode cX11_init 94 = .ok (.anewarray 33, 3) := by decide +kernel
theorem dX11_init_97 : decode cX11_init 97 = .ok (.putfield 57, 3) := by decide +kernel
theorem dX11_init_100 : decode cX11_init 100 = .ok (.aload_n 0, 1) := by decide +kernel
theorem dX11_init_101 : decode cX11_init 101 = .ok (.iconst 4, 1) := by decide +kernel
theorem dX11_init_102 : decode cX11_init 102 = .ok (.anewarray 60, 3) := by decide +kernel
theorem dX11_init_105 : decode cX11_init 105 = .ok (.putfield 62, 3) := by decide +kernel
theorem dX11_init_108 : decode cX11_init 108 = .ok (.aload_n 0, 1) := by decide +kernel
theorem dX11_init_109 : decode cX11_init 109 = .ok (.iconst 5, 1) := by decide +kernel
theorem dX11_init_110 : decode cX11_init 110 = .ok (.anewarray 66, 3) := by decide +kernel
theorem dX11_init_113 : decode cX11_init 113 = .ok (.putfield 68, 3) := by decide +kernel
theorem dX11_init_116 : decode cX11_init 116 = .ok (.aload_n 0, 1) := by decide +kernel
theorem dX11_init_117 : decode cX11_init 117 = .ok (.new 66, 3) := by decide +kernel
theorem dX11_init_120 : decode cX11_init 120 = .ok (.dup, 1) := by decide +kernel
theorem dX11_init_121 : decode cX11_init 121 = .ok (.aload_n 0, 1) := by decide +kernel
theorem dX11_init_122 : decode cX11_init 122 = .ok (.getfield 29, 3) := by decide +kernel
theorem dX11_init_125 : decode cX11_init 125 = .ok (.invokespecial 72, 3) := by decide +kernel
theorem dX11_init_128 : decode cX11_init 128 = .ok (.putfield 75, 3) := by decide +kernel
theorem dX11_init_131 : decode cX11_init 131 = .ok (.aload_n 0, 1) := by decide +kernel
theorem dX11_init_132 : decode cX11_init 132 = .ok (.new 79, 3) := by decide +kernel
theorem dX11_init_135 : decode cX11_init 135 = .ok (.dup, 1) := by decide +kernel
theorem dX11_init_136 : decode cX11_init 136 = .ok (.invokespecial 81, 3) := by decide +kernel
theorem dX11_init_139 : decode cX11_init 139 = .ok (.putfield 82, 3) := by decide +kernel
theorem dX11_init_142 : decode cX11_init 142 = .ok (.aload_n 0, 1) := by decide +kernel
theorem dX11_init_143 : decode cX11_init 143 = .ok (.new 86, 3) := by decide +kernel
theorem dX11_init_146 : decode cX11_init 146 = .ok (.dup, 1) := by decide +kernel
theorem dX11_init_147 : decode cX11_init 147 = .ok (.invokespecial 88, 3) := by decide +kernel
theorem dX11_init_150 : decode cX11_init 150 = .ok (.putfield 89, 3) := by decide +kernel
theorem dX11_init_153 : decode cX11_init 153 = .ok (.aload_n 0, 1) := by decide +kernel
theorem dX11_init_154 : decode cX11_init 154 = .ok (.new 93, 3) := by decide +kernel
theorem dX11_init_157 : decode cX11_init 157 = .ok (.dup, 1) := by decide +kernel
theorem dX11_init_158 : decode cX11_init 158 = .ok (.invokespecial 95, 3) := by decide +kernel
theorem dX11_init_161 : decode cX11_init 161 = .ok (.putfield 96, 3) := by decide +kernel
theorem dX11_init_164 : decode cX11_init 164 = .ok (.aload_n 0, 1) := by decide +kernel
theorem dX11_init_165 : decode cX11_init 165 = .ok (.iconst 5, 1) := by decide +kernel
theorem dX11_init_166 : decode cX11_init 166 = .ok (.newarray .int, 2) := by decide +kernel
theorem dX11_init_168 : decode cX11_init 168 = .ok (.putfield 100, 3) := by decide +kernel
theorem dX11_init_171 : decode cX11_init 171 = .ok (.aload_n 0, 1) := by decide +kernel
theorem dX11_init_172 : decode cX11_init 172 = .ok (.iconst 5, 1) := by decide +kernel
theorem dX11_init_173 : decode cX11_init 173 = .ok (.newarray .int, 2) := by decide +kernel
theorem dX11_init_175 : decode cX11_init 175 = .ok (.putfield 104, 3) := by decide +kernel
theorem dX11_init_178 : decode cX11_init 178 = .ok (.aload_n 0, 1) := by decide +kernel
theorem dX11_init_179 : decode cX11_init 179 = .ok (.iconst (-1), 1) := by decide +kernel
theorem dX11_init_180 : decode cX11_init 180 = .ok (.putfield 107, 3) := by decide +kernel
theorem dX11_init_183 : decode cX11_init 183 = .ok (.iconst 0, 1) := by decide +kernel
theorem dX11_init_184 : decode cX11_init 184 = .ok (.istore_n 1, 1) := by decide +kernel
theorem dX11_init_185 : decode cX11_init 185 = .ok (.iload_n 1, 1) := by decide +kernel
theorem dX11_init_186 : decode cX11_init 186 = .ok (.bipush 10, 2) := by decide +kernel
theorem dX11_init_188 : decode cX11_init 188 = .ok (.if_icmp .ge 22, 3) := by decide +kernel
theorem dX11_init_191 : decode cX11_init 191 = .ok (.aload_n 0, 1) := by decide +kernel
theorem dX11_init_192 : decode cX11_init 192 = .ok (.getfield 43, 3) := by decide +kernel
theorem dX11_init_195 : decode cX11_init 195 = .ok (.iload_n 1, 1) := by decide +kernel
theorem dX11_init_196 : decode cX11_init 196 = .ok (.new 33, 3) := by decide +kernel
theorem dX11_init_199 : decode cX11_init 199 = .ok (.dup, 1) := by decide +kernel
theorem dX11_init_200 : decode cX11_init 200 = .ok (.invokespecial 35, 3) := by decide +kernel
theorem dX11_init_203 : decode cX11_init 203 = .ok (.aastore, 1) := by decide +kernel
theorem dX11_init_204 : decode cX11_init 204 = .ok (.iinc 1 1, 3) := by decide +kernel
theorem dX11_init_207 : decode cX11_init 207 = .ok (.goto (-22), 3) := by decide +kernel
theorem dX11_init_210 : decode cX11_init 210 = .ok (.iconst 0, 1) := by decide +kernel
theorem dX11_init_211 : decode cX11_init 211 = .ok (.istore_n 1, 1) := by decide +kernel
theorem dX11_init_212 : decode cX11_init 212 = .ok (.iload_n 1, 1) := by decide +kernel
theorem dX11_init_213 : decode cX11_init 213 = .ok (.iconst 2, 1) := by decide +kernel
theorem dX11_init_214 : decode cX11_init 214 = .ok (.if_icmp .ge 22, 3) := by decide +kernel
theorem dX11_init_217 : decode cX11_init 217 = .ok (.aload_n 0, 1) := by decide +kernel
theorem dX11_init_218 : decode cX11_init 218 = .ok (.getfield 57, 3) := by decide +kernel
theorem dX11_init_221 : decode cX11_init 221 = .ok (.iload_n 1, 1) := by decide +kernel
theorem dX11_init_222 : decode cX11_init 222 = .ok (.new 33, 3) := by decide +kernel
theorem dX11_init_225 : decode cX11_init 225 = .ok (.dup, 1) := by decide +kernel
theorem dX11_init_226 : decode cX11_init 226 = .ok (.invokespecial 35, 3) := by decide +kernel
theorem dX11_init_229 : decode cX11_init 229 = .ok (.aastore, 1) := by decide +kernel
theorem dX11_init_230 : decode cX11_init 230 = .ok (.iinc 1 1, 3) := by decide +kernel
theorem dX11_init_233 : decode cX11_init 233 = .ok (.goto (-21), 3) := by decide +kernel
theorem dX11_init_236 : decode cX11_init 236 = .ok (.iconst 0, 1) := by decide +kernel
theorem dX11_init_237 : decode cX11_init 237 = .ok (.istore_n 1, 1) := by decide +kernel
theorem dX11_init_238 : decode cX11_init 238 = .ok (.iload_n 1, 1) := by decide +kernel
theorem dX11_init_239 : decode cX11_init 239 = .ok (.iconst 4, 1) := by decide +kernel
theorem dX11_init_240 : decode cX11_init 240 = .ok (.if_icmp .ge 22, 3) := by decide +kernel
theorem dX11_init_243 : decode cX11_init 243 = .ok (.aload_n 0, 1) := by decide +kernel
theorem dX11_init_244 : decode cX11_init 244 = .ok (.getfield 62, 3) := by decide +kernel
theorem dX11_init_247 : decode cX11_init 247 = .ok (.iload_n 1, 1) := by decide +kernel
theorem dX11_init_248 : decode cX11_init 248 = .ok (.new 60, 3) := by decide +kernel
theorem dX11_init_251 : decode cX11_init 251 = .ok (.dup, 1) := by decide +kernel
theorem dX11_init_252 : decode cX11_init 252 = .ok (.invokespecial 110, 3) := by decide +kernel
theorem dX11_init_255 : decode cX11_init 255 = .ok (.aastore, 1) := by decide +kernel
theorem dX11_init_256 : decode cX11_init 256 = .ok (.iinc 1 1, 3) := by decide +kernel
theorem dX11_init_259 : decode cX11_init 259 = .ok (.goto (-21), 3) := by decide +kernel
theorem dX11_init_262 : decode cX11_init 262 = .ok (.iconst 0, 1) := by decide +kernel
theorem dX11_init_263 : decode cX11_init 263 = .ok (.istore_n 1, 1) := by decide +kernel
theorem dX11_init_264 : decode cX11_init 264 = .ok (.iload_n 1, 1) := by decide +kernel
theorem dX11_init_265 : decode cX11_init 265 = .ok (.iconst 5, 1) := by decide +kernel
theorem dX11_init_266 : decode cX11_init 266 = .ok (.if_icmp .ge 26, 3) := by decide +kernel
theorem dX11_init_269 : decode cX11_init 269 = .ok (.aload_n 0, 1) := by decide +kernel
theorem dX11_init_270 : decode cX11_init 270 = .ok (.getfield 68, 3) := by decide +kernel
theorem dX11_init_273 : decode cX11_init 273 = .ok (.iload_n 1, 1) := by decide +kernel
theorem dX11_init_274 : decode cX11_init 274 = .ok (.new 66, 3) := by decide +kernel
theorem dX11_init_277 : decode cX11_init 277 = .ok (.dup, 1) := by decide +kernel
theorem dX11_init_278 : decode cX11_init 278 = .ok (.aload_n 0, 1) := by decide +kernel
theorem dX11_init_279 : decode cX11_init 279 = .ok (.getfield 29, 3) := by decide +kernel
theorem dX11_init_282 : decode cX11_init 282 = .ok (.invokespecial 72, 3) := by decide +kernel
theorem dX11_init_285 : decode cX11_init 285 = .ok (.aastore, 1) := by decide +kernel
theorem dX11_init_286 : decode cX11_init 286 = .ok (.iinc 1 1, 3) := by decide +kernel
theorem dX11_init_289 : decode cX11_init 289 = .ok (.goto (-25), 3) := by decide +kernel
theorem dX11_init_292 : decode cX11_init 292 = .ok (.return_, 1) := by decide +kernel
theorem kw_29 : Cond.methodLink "FootholdWall" 1 objectInit ∈ gw := gw_of (tb_of 29 (by decide +kernel)) (by decide +kernel)
theorem kw_32 : Cond.classLink "FootholdWall" 17 "FootholdWall$Reader" ∈ gw := gw_of (tb_of 32 (by decide +kernel)) (by decide +kernel)
theorem kw_33 : Cond.instantiable "FootholdWall$Reader" 5 ∈ gw := gw_of (tb_of 33 (by decide +kernel)) (by decide +kernel)
theorem kw_35 : Cond.instanceMethod yX4_init ∈ gw := gw_of (tb_of 35 (by decide +kernel)) (by decide +kernel)
theorem kw_36 : Cond.code yX4_init cX4_init 1 none ∈ gw := gw_of (tb_of 36 (by decide +kernel)) (by decide +kernel)
theorem kw_229 : Cond.classLink "FootholdWall" 24 "FootholdWall$Wall" ∈ gw := gw_of (tb_of 229 (by decide +kernel)) (by decide +kernel)
theorem kw_230 : Cond.methodLink "FootholdWall" 26 yX9_init ∈ gw := gw_of (tb_of 230 (by decide +kernel)) (by decide +kernel)
theorem kw_231 : Cond.classLink "FootholdWall" 33 "FootholdWall$State" ∈ gw := gw_of (tb_of 231 (by decide +kernel)) (by decide +kernel)
theorem kw_235 : Cond.classLink "FootholdWall" 60 "FootholdWall$Tray" ∈ gw := gw_of (tb_of 235 (by decide +kernel)) (by decide +kernel)
theorem kw_237 : Cond.classLink "FootholdWall" 66 "FootholdWall$Rows" ∈ gw := gw_of (tb_of 237 (by decide +kernel)) (by decide +kernel)
theorem kw_239 : Cond.instantiable "FootholdWall$Rows" 6 ∈ gw := gw_of (tb_of 239 (by decide +kernel)) (by decide +kernel)
theorem kw_240 : Cond.methodLink "FootholdWall" 72 yX5_init ∈ gw := gw_of (tb_of 240 (by decide +kernel)) (by decide +kernel)
theorem kw_241 : Cond.instanceMethod yX5_init ∈ gw := gw_of (tb_of 241 (by decide +kernel)) (by decide +kernel)
theorem kw_242 : Cond.code yX5_init cX5_init 2 none ∈ gw := gw_of (tb_of 242 (by decide +kernel)) (by decide +kernel)
theorem kw_266 : Cond.classLink "FootholdWall" 79 "FootholdWall$Ways" ∈ gw := gw_of (tb_of 266 (by decide +kernel)) (by decide +kernel)
theorem kw_267 : Cond.instantiable "FootholdWall$Ways" 7 ∈ gw := gw_of (tb_of 267 (by decide +kernel)) (by decide +kernel)
theorem kw_269 : Cond.instanceMethod yX10_init ∈ gw := gw_of (tb_of 269 (by decide +kernel)) (by decide +kernel)
theorem kw_270 : Cond.code yX10_init cX10_init 1 none ∈ gw := gw_of (tb_of 270 (by decide +kernel)) (by decide +kernel)
theorem kw_296 : Cond.classLink "FootholdWall" 86 "FootholdWall$Cut" ∈ gw := gw_of (tb_of 296 (by decide +kernel)) (by decide +kernel)
theorem kw_297 : Cond.instantiable "FootholdWall$Cut" 7 ∈ gw := gw_of (tb_of 297 (by decide +kernel)) (by decide +kernel)
theorem kw_299 : Cond.instanceMethod yX1_init ∈ gw := gw_of (tb_of 299 (by decide +kernel)) (by decide +kernel)
theorem kw_300 : Cond.code yX1_init cX1_init 1 none ∈ gw := gw_of (tb_of 300 (by decide +kernel)) (by decide +kernel)
theorem kw_324 : Cond.classLink "FootholdWall" 93 "FootholdWall$Chains" ∈ gw := gw_of (tb_of 324 (by decide +kernel)) (by decide +kernel)
theorem kw_325 : Cond.instantiable "FootholdWall$Chains" 4 ∈ gw := gw_of (tb_of 325 (by decide +kernel)) (by decide +kernel)
theorem kw_327 : Cond.instanceMethod yX0_init ∈ gw := gw_of (tb_of 327 (by decide +kernel)) (by decide +kernel)
theorem kw_328 : Cond.code yX0_init cX0_init 1 none ∈ gw := gw_of (tb_of 328 (by decide +kernel)) (by decide +kernel)
theorem kw_344 : Cond.instantiable "FootholdWall$Tray" 3 ∈ gw := gw_of (tb_of 344 (by decide +kernel)) (by decide +kernel)
theorem kw_346 : Cond.instanceMethod yX8_init ∈ gw := gw_of (tb_of 346 (by decide +kernel)) (by decide +kernel)
theorem kw_347 : Cond.code yX8_init cX8_init 1 none ∈ gw := gw_of (tb_of 347 (by decide +kernel)) (by decide +kernel)
