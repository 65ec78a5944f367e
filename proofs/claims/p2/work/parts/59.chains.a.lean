theorem dX0_fewest_0 : decode cX0_fewest 0 = .ok (.iload_n 3, 1) := by decide +kernel
theorem dX0_fewest_1 : decode cX0_fewest 1 = .ok (.aload_n 1, 1) := by decide +kernel
theorem dX0_fewest_2 : decode cX0_fewest 2 = .ok (.getfield 48, 3) := by decide +kernel
theorem dX0_fewest_5 : decode cX0_fewest 5 = .ok (.getfield 52, 3) := by decide +kernel
theorem dX0_fewest_8 : decode cX0_fewest 8 = .ok (.iand, 1) := by decide +kernel
theorem dX0_fewest_9 : decode cX0_fewest 9 = .ok (.istore 4, 2) := by decide +kernel
theorem dX0_fewest_11 : decode cX0_fewest 11 = .ok (.iload_n 3, 1) := by decide +kernel
theorem dX0_fewest_12 : decode cX0_fewest 12 = .ok (.aload_n 1, 1) := by decide +kernel
theorem dX0_fewest_13 : decode cX0_fewest 13 = .ok (.getfield 48, 3) := by decide +kernel
theorem dX0_fewest_16 : decode cX0_fewest 16 = .ok (.getfield 57, 3) := by decide +kernel
theorem dX0_fewest_19 : decode cX0_fewest 19 = .ok (.iand, 1) := by decide +kernel
theorem dX0_fewest_20 : decode cX0_fewest 20 = .ok (.istore 5, 2) := by decide +kernel
theorem dX0_fewest_22 : decode cX0_fewest 22 = .ok (.iload_n 2, 1) := by decide +kernel
theorem dX0_fewest_23 : decode cX0_fewest 23 = .ok (.ifCond .ne 13, 3) := by decide +kernel
theorem dX0_fewest_26 : decode cX0_fewest 26 = .ok (.iload 5, 2) := by decide +kernel
theorem dX0_fewest_28 : decode cX0_fewest 28 = .ok (.iload 4, 2) := by decide +kernel
theorem dX0_fewest_30 : decode cX0_fewest 30 = .ok (.iand, 1) := by decide +kernel
theorem dX0_fewest_31 : decode cX0_fewest 31 = .ok (.ifCond .eq 5, 3) := by decide +kernel
theorem dX0_fewest_34 : decode cX0_fewest 34 = .ok (.iconst 0, 1) := by decide +kernel
theorem dX0_fewest_35 : decode cX0_fewest 35 = .ok (.ireturn, 1) := by decide +kernel
theorem dX0_fewest_36 : decode cX0_fewest 36 = .ok (.iload 5, 2) := by decide +kernel
theorem dX0_fewest_38 : decode cX0_fewest 38 = .ok (.iload 4, 2) := by decide +kernel
theorem dX0_fewest_40 : decode cX0_fewest 40 = .ok (.iconst (-1), 1) := by decide +kernel
theorem dX0_fewest_41 : decode cX0_fewest 41 = .ok (.ixor, 1) := by decide +kernel
theorem dX0_fewest_42 : decode cX0_fewest 42 = .ok (.iand, 1) := by decide +kernel
theorem dX0_fewest_43 : decode cX0_fewest 43 = .ok (.istore 6, 2) := by decide +kernel
theorem dX0_fewest_45 : decode cX0_fewest 45 = .ok (.aload_n 1, 1) := by decide +kernel
theorem dX0_fewest_46 : decode cX0_fewest 46 = .ok (.iload 6, 2) := by decide +kernel
theorem dX0_fewest_48 : decode cX0_fewest 48 = .ok (.iload_n 2, 1) := by decide +kernel
theorem dX0_fewest_49 : decode cX0_fewest 49 = .ok (.iload 6, 2) := by decide +kernel
theorem dX0_fewest_51 : decode cX0_fewest 51 = .ok (.ior, 1) := by decide +kernel
theorem dX0_fewest_52 : decode cX0_fewest 52 = .ok (.iload_n 2, 1) := by decide +kernel
theorem dX0_fewest_53 : decode cX0_fewest 53 = .ok (.iload 6, 2) := by decide +kernel
theorem dX0_fewest_55 : decode cX0_fewest 55 = .ok (.ior, 1) := by decide +kernel
theorem dX0_fewest_56 : decode cX0_fewest 56 = .ok (.iload 4, 2) := by decide +kernel
theorem dX0_fewest_58 : decode cX0_fewest 58 = .ok (.ior, 1) := by decide +kernel
theorem dX0_fewest_59 : decode cX0_fewest 59 = .ok (.iconst 0, 1) := by decide +kernel
theorem dX0_fewest_60 : decode cX0_fewest 60 = .ok (.invokevirtual 72, 3) := by decide +kernel
theorem dX0_fewest_63 : decode cX0_fewest 63 = .ok (.istore 7, 2) := by decide +kernel
theorem dX0_fewest_65 : decode cX0_fewest 65 = .ok (.aload_n 1, 1) := by decide +kernel
theorem dX0_fewest_66 : decode cX0_fewest 66 = .ok (.iload 7, 2) := by decide +kernel
theorem dX0_fewest_68 : decode cX0_fewest 68 = .ok (.iload 4, 2) := by decide +kernel
theorem dX0_fewest_70 : decode cX0_fewest 70 = .ok (.iconst (-1), 1) := by decide +kernel
theorem dX0_fewest_71 : decode cX0_fewest 71 = .ok (.ixor, 1) := by decide +kernel
theorem dX0_fewest_72 : decode cX0_fewest 72 = .ok (.iand, 1) := by decide +kernel
theorem dX0_fewest_73 : decode cX0_fewest 73 = .ok (.iload 4, 2) := by decide +kernel
theorem dX0_fewest_75 : decode cX0_fewest 75 = .ok (.iload 7, 2) := by decide +kernel
theorem dX0_fewest_77 : decode cX0_fewest 77 = .ok (.iand, 1) := by decide +kernel
theorem dX0_fewest_78 : decode cX0_fewest 78 = .ok (.invokestatic 60, 3) := by decide +kernel
theorem dX0_fewest_81 : decode cX0_fewest 81 = .ok (.istore 8, 2) := by decide +kernel
theorem dX0_fewest_83 : decode cX0_fewest 83 = .ok (.iload 6, 2) := by decide +kernel
theorem dX0_fewest_85 : decode cX0_fewest 85 = .ok (.iload 8, 2) := by decide +kernel
theorem dX0_fewest_87 : decode cX0_fewest 87 = .ok (.iand, 1) := by decide +kernel
theorem dX0_fewest_88 : decode cX0_fewest 88 = .ok (.istore 6, 2) := by decide +kernel
theorem dX0_fewest_90 : decode cX0_fewest 90 = .ok (.iload 8, 2) := by decide +kernel
theorem dX0_fewest_92 : decode cX0_fewest 92 = .ok (.iload_n 2, 1) := by decide +kernel
theorem dX0_fewest_93 : decode cX0_fewest 93 = .ok (.iand, 1) := by decide +kernel
theorem dX0_fewest_94 : decode cX0_fewest 94 = .ok (.iload_n 2, 1) := by decide +kernel
theorem dX0_fewest_95 : decode cX0_fewest 95 = .ok (.if_icmp .ne 8, 3) := by decide +kernel
theorem dX0_fewest_98 : decode cX0_fewest 98 = .ok (.iload 6, 2) := by decide +kernel
theorem dX0_fewest_100 : decode cX0_fewest 100 = .ok (.ifCond .ne 5, 3) := by decide +kernel
theorem dX0_fewest_103 : decode cX0_fewest 103 = .ok (.iconst (-1), 1) := by decide +kernel
theorem dX0_fewest_104 : decode cX0_fewest 104 = .ok (.ireturn, 1) := by decide +kernel
theorem dX0_fewest_105 : decode cX0_fewest 105 = .ok (.aload_n 0, 1) := by decide +kernel
theorem dX0_fewest_106 : decode cX0_fewest 106 = .ok (.aload_n 1, 1) := by decide +kernel
theorem dX0_fewest_107 : decode cX0_fewest 107 = .ok (.iload 8, 2) := by decide +kernel
theorem dX0_fewest_109 : decode cX0_fewest 109 = .ok (.iload 4, 2) := by decide +kernel
theorem dX0_fewest_111 : decode cX0_fewest 111 = .ok (.invokevirtual 64, 3) := by decide +kernel
theorem dX0_fewest_114 : decode cX0_fewest 114 = .ok (.iconst (-1), 1) := by decide +kernel
theorem dX0_fewest_115 : decode cX0_fewest 115 = .ok (.istore 9, 2) := by decide +kernel
theorem dX0_fewest_117 : decode cX0_fewest 117 = .ok (.iconst 1, 1) := by decide +kernel
theorem dX0_fewest_118 : decode cX0_fewest 118 = .ok (.aload_n 0, 1) := by decide +kernel
theorem dX0_fewest_119 : decode cX0_fewest 119 = .ok (.getfield 15, 3) := by decide +kernel
theorem dX0_fewest_122 : decode cX0_fewest 122 = .ok (.invokestatic 37, 3) := by decide +kernel
theorem dX0_fewest_125 : decode cX0_fewest 125 = .ok (.ishl, 1) := by decide +kernel
theorem dX0_fewest_126 : decode cX0_fewest 126 = .ok (.istore 10, 2) := by decide +kernel
theorem dX0_fewest_128 : decode cX0_fewest 128 = .ok (.iconst 0, 1) := by decide +kernel
theorem dX0_fewest_129 : decode cX0_fewest 129 = .ok (.istore 11, 2) := by decide +kernel
theorem dX0_fewest_131 : decode cX0_fewest 131 = .ok (.iconst 1, 1) := by decide +kernel
theorem dX0_fewest_132 : decode cX0_fewest 132 = .ok (.istore 12, 2) := by decide +kernel
theorem dX0_fewest_134 : decode cX0_fewest 134 = .ok (.iload 12, 2) := by decide +kernel
theorem dX0_fewest_136 : decode cX0_fewest 136 = .ok (.iload 10, 2) := by decide +kernel
theorem dX0_fewest_138 : decode cX0_fewest 138 = .ok (.if_icmp .ge 74, 3) := by decide +kernel
theorem dX0_fewest_141 : decode cX0_fewest 141 = .ok (.iload 11, 2) := by decide +kernel
theorem dX0_fewest_143 : decode cX0_fewest 143 = .ok (.aload_n 0, 1) := by decide +kernel
theorem dX0_fewest_144 : decode cX0_fewest 144 = .ok (.getfield 15, 3) := by decide +kernel
theorem dX0_fewest_147 : decode cX0_fewest 147 = .ok (.isub, 1) := by decide +kernel
theorem dX0_fewest_148 : decode cX0_fewest 148 = .ok (.aload_n 0, 1) := by decide +kernel
theorem dX0_fewest_149 : decode cX0_fewest 149 = .ok (.getfield 15, 3) := by decide +kernel
theorem dX0_fewest_152 : decode cX0_fewest 152 = .ok (.iand, 1) := by decide +kernel
theorem dX0_fewest_153 : decode cX0_fewest 153 = .ok (.istore 11, 2) := by decide +kernel
theorem dX0_fewest_155 : decode cX0_fewest 155 = .ok (.aload_n 0, 1) := by decide +kernel
theorem dX0_fewest_156 : decode cX0_fewest 156 = .ok (.iload 11, 2) := by decide +kernel
theorem dX0_fewest_158 : decode cX0_fewest 158 = .ok (.invokevirtual 68, 3) := by decide +kernel
theorem dX0_fewest_161 : decode cX0_fewest 161 = .ok (.iload 11, 2) := by decide +kernel
theorem dX0_fewest_163 : decode cX0_fewest 163 = .ok (.invokestatic 37, 3) := by decide +kernel
theorem dX0_fewest_166 : decode cX0_fewest 166 = .ok (.istore 13, 2) := by decide +kernel
theorem dX0_fewest_168 : decode cX0_fewest 168 = .ok (.iload 11, 2) := by decide +kernel
theorem dX0_fewest_170 : decode cX0_fewest 170 = .ok (.iload_n 2, 1) := by decide +kernel
theorem dX0_fewest_171 : decode cX0_fewest 171 = .ok (.iand, 1) := by decide +kernel
theorem dX0_fewest_172 : decode cX0_fewest 172 = .ok (.iload_n 2, 1) := by decide +kernel
theorem dX0_fewest_173 : decode cX0_fewest 173 = .ok (.if_icmp .ne 33, 3) := by decide +kernel
theorem dX0_fewest_176 : decode cX0_fewest 176 = .ok (.aload_n 0, 1) := by decide +kernel
theorem dX0_fewest_177 : decode cX0_fewest 177 = .ok (.getfield 9, 3) := by decide +kernel
theorem dX0_fewest_180 : decode cX0_fewest 180 = .ok (.iload 11, 2) := by decide +kernel
theorem dX0_fewest_182 : decode cX0_fewest 182 = .ok (.iaload, 1) := by decide +kernel
theorem dX0_fewest_183 : decode cX0_fewest 183 = .ok (.iload 6, 2) := by decide +kernel
theorem dX0_fewest_185 : decode cX0_fewest 185 = .ok (.iand, 1) := by decide +kernel
theorem dX0_fewest_186 : decode cX0_fewest 186 = .ok (.ifCond .eq 20, 3) := by decide +kernel
theorem dX0_fewest_189 : decode cX0_fewest 189 = .ok (.iload 9, 2) := by decide +kernel
theorem dX0_fewest_191 : decode cX0_fewest 191 = .ok (.iconst (-1), 1) := by decide +kernel
theorem dX0_fewest_192 : decode cX0_fewest 192 = .ok (.if_icmp .eq 10, 3) := by decide +kernel
theorem dX0_fewest_195 : decode cX0_fewest 195 = .ok (.iload 13, 2) := by decide +kernel
theorem dX0_fewest_197 : decode cX0_fewest 197 = .ok (.iload 9, 2) := by decide +kernel
theorem dX0_fewest_199 : decode cX0_fewest 199 = .ok (.if_icmp .ge 7, 3) := by decide +kernel
theorem dX0_fewest_202 : decode cX0_fewest 202 = .ok (.iload 13, 2) := by decide +kernel
theorem dX0_fewest_204 : decode cX0_fewest 204 = .ok (.istore 9, 2) := by decide +kernel
theorem dX0_fewest_206 : decode cX0_fewest 206 = .ok (.iinc 12 1, 3) := by decide +kernel
theorem dX0_fewest_209 : decode cX0_fewest 209 = .ok (.goto (-75), 3) := by decide +kernel
theorem dX0_fewest_212 : decode cX0_fewest 212 = .ok (.iload 9, 2) := by decide +kernel
theorem dX0_fewest_214 : decode cX0_fewest 214 = .ok (.ireturn, 1) := by decide +kernel
theorem dX0_first_0 : decode cX0_first 0 = .ok (.aload_n 0, 1) := by decide +kernel
theorem dX0_first_1 : decode cX0_first 1 = .ok (.aload_n 1, 1) := by decide +kernel
theorem dX0_first_2 : decode cX0_first 2 = .ok (.iload_n 2, 1) := by decide +kernel
theorem dX0_first_3 : decode cX0_first 3 = .ok (.iload_n 3, 1) := by decide +kernel
theorem dX0_first_4 : decode cX0_first 4 = .ok (.invokevirtual 76, 3) := by decide +kernel
theorem dX0_first_7 : decode cX0_first 7 = .ok (.istore 4, 2) := by decide +kernel
theorem dX0_first_9 : decode cX0_first 9 = .ok (.iload_n 3, 1) := by decide +kernel
theorem dX0_first_10 : decode cX0_first 10 = .ok (.aload_n 1, 1) := by decide +kernel
theorem dX0_first_11 : decode cX0_first 11 = .ok (.getfield 48, 3) := by decide +kernel
theorem dX0_first_14 : decode cX0_first 14 = .ok (.getfield 52, 3) := by decide +kernel
theorem dX0_first_17 : decode cX0_first 17 = .ok (.iand, 1) := by decide +kernel
theorem dX0_first_18 : decode cX0_first 18 = .ok (.istore 5, 2) := by decide +kernel
theorem dX0_first_20 : decode cX0_first 20 = .ok (.iload 4, 2) := by decide +kernel
theorem dX0_first_22 : decode cX0_first 22 = .ok (.iconst (-1), 1) := by decide +kernel
theorem dX0_first_23 : decode cX0_first 23 = .ok (.if_icmp .eq 10, 3) := by decide +kernel
theorem dX0_first_26 : decode cX0_first 26 = .ok (.iload 4, 2) := by decide +kernel
theorem dX0_first_28 : decode cX0_first 28 = .ok (.bipush 14, 2) := by decide +kernel
theorem dX0_first_30 : decode cX0_first 30 = .ok (.if_icmp .lt 5, 3) := by decide +kernel
theorem dX0_first_33 : decode cX0_first 33 = .ok (.iconst 0, 1) := by decide +kernel
theorem dX0_first_34 : decode cX0_first 34 = .ok (.ireturn, 1) := by decide +kernel
theorem dX0_first_35 : decode cX0_first 35 = .ok (.iload 4, 2) := by decide +kernel
theorem dX0_first_37 : decode cX0_first 37 = .ok (.ifCond .ne 7, 3) := by decide +kernel
theorem dX0_first_40 : decode cX0_first 40 = .ok (.iconst 0, 1) := by decide +kernel
theorem dX0_first_41 : decode cX0_first 41 = .ok (.goto 7, 3) := by decide +kernel
theorem dX0_first_44 : decode cX0_first 44 = .ok (.aload_n 0, 1) := by decide +kernel
theorem dX0_first_45 : decode cX0_first 45 = .ok (.getfield 15, 3) := by decide +kernel
theorem dX0_first_48 : decode cX0_first 48 = .ok (.istore 6, 2) := by decide +kernel
theorem dX0_first_50 : decode cX0_first 50 = .ok (.iload 6, 2) := by decide +kernel
theorem dX0_first_52 : decode cX0_first 52 = .ok (.iload_n 2, 1) := by decide +kernel
theorem dX0_first_53 : decode cX0_first 53 = .ok (.iconst (-1), 1) := by decide +kernel
theorem dX0_first_54 : decode cX0_first 54 = .ok (.ixor, 1) := by decide +kernel
theorem dX0_first_55 : decode cX0_first 55 = .ok (.iand, 1) := by decide +kernel
theorem dX0_first_56 : decode cX0_first 56 = .ok (.istore 7, 2) := by decide +kernel
theorem dX0_first_58 : decode cX0_first 58 = .ok (.iload_n 3, 1) := by decide +kernel
theorem dX0_first_59 : decode cX0_first 59 = .ok (.aload_n 1, 1) := by decide +kernel
theorem dX0_first_60 : decode cX0_first 60 = .ok (.getfield 48, 3) := by decide +kernel
theorem dX0_first_63 : decode cX0_first 63 = .ok (.getfield 57, 3) := by decide +kernel
theorem dX0_first_66 : decode cX0_first 66 = .ok (.iand, 1) := by decide +kernel
theorem dX0_first_67 : decode cX0_first 67 = .ok (.istore 8, 2) := by decide +kernel
theorem dX0_first_69 : decode cX0_first 69 = .ok (.iconst 0, 1) := by decide +kernel
theorem dX0_first_70 : decode cX0_first 70 = .ok (.istore 9, 2) := by decide +kernel
theorem dX0_first_72 : decode cX0_first 72 = .ok (.iload 9, 2) := by decide +kernel
theorem dX0_first_74 : decode cX0_first 74 = .ok (.iload 4, 2) := by decide +kernel
theorem dX0_first_76 : decode cX0_first 76 = .ok (.if_icmp .ge 72, 3) := by decide +kernel
theorem dX0_first_79 : decode cX0_first 79 = .ok (.aload_n 0, 1) := by decide +kernel
theorem dX0_first_80 : decode cX0_first 80 = .ok (.iload_n 2, 1) := by decide +kernel
theorem dX0_first_81 : decode cX0_first 81 = .ok (.iload 6, 2) := by decide +kernel
theorem dX0_first_83 : decode cX0_first 83 = .ok (.iand, 1) := by decide +kernel
theorem dX0_first_84 : decode cX0_first 84 = .ok (.iload 7, 2) := by decide +kernel
theorem dX0_first_86 : decode cX0_first 86 = .ok (.iload 6, 2) := by decide +kernel
theorem dX0_first_88 : decode cX0_first 88 = .ok (.iand, 1) := by decide +kernel
theorem dX0_first_89 : decode cX0_first 89 = .ok (.iload 4, 2) := by decide +kernel
theorem dX0_first_91 : decode cX0_first 91 = .ok (.iload 9, 2) := by decide +kernel
theorem dX0_first_93 : decode cX0_first 93 = .ok (.isub, 1) := by decide +kernel
theorem dX0_first_94 : decode cX0_first 94 = .ok (.invokevirtual 79, 3) := by decide +kernel
theorem dX0_first_97 : decode cX0_first 97 = .ok (.iload 8, 2) := by decide +kernel
theorem dX0_first_99 : decode cX0_first 99 = .ok (.iand, 1) := by decide +kernel
theorem dX0_first_100 : decode cX0_first 100 = .ok (.istore 10, 2) := by decide +kernel
theorem dX0_first_102 : decode cX0_first 102 = .ok (.iload 10, 2) := by decide +kernel
theorem dX0_first_104 : decode cX0_first 104 = .ok (.invokestatic 83, 3) := by decide +kernel
theorem dX0_first_107 : decode cX0_first 107 = .ok (.istore 11, 2) := by decide +kernel
theorem dX0_first_109 : decode cX0_first 109 = .ok (.aload_n 0, 1) := by decide +kernel
theorem dX0_first_110 : decode cX0_first 110 = .ok (.getfield 22, 3) := by decide +kernel
theorem dX0_first_113 : decode cX0_first 113 = .ok (.iload 9, 2) := by decide +kernel
theorem dX0_first_115 : decode cX0_first 115 = .ok (.iload 11, 2) := by decide +kernel
theorem dX0_first_117 : decode cX0_first 117 = .ok (.iastore, 1) := by decide +kernel
theorem dX0_first_118 : decode cX0_first 118 = .ok (.iload 6, 2) := by decide +kernel
theorem dX0_first_120 : decode cX0_first 120 = .ok (.iconst 1, 1) := by decide +kernel
theorem dX0_first_121 : decode cX0_first 121 = .ok (.iload 11, 2) := by decide +kernel
theorem dX0_first_123 : decode cX0_first 123 = .ok (.ishl, 1) := by decide +kernel
theorem dX0_first_124 : decode cX0_first 124 = .ok (.iconst (-1), 1) := by decide +kernel
theorem dX0_first_125 : decode cX0_first 125 = .ok (.ixor, 1) := by decide +kernel
theorem dX0_first_126 : decode cX0_first 126 = .ok (.iand, 1) := by decide +kernel
theorem dX0_first_127 : decode cX0_first 127 = .ok (.istore 6, 2) := by decide +kernel
theorem dX0_first_129 : decode cX0_first 129 = .ok (.aload_n 1, 1) := by decide +kernel
theorem dX0_first_130 : decode cX0_first 130 = .ok (.iload 11, 2) := by decide +kernel
theorem dX0_first_132 : decode cX0_first 132 = .ok (.iload 6, 2) := by decide +kernel
theorem dX0_first_134 : decode cX0_first 134 = .ok (.iload 5, 2) := by decide +kernel
theorem dX0_first_136 : decode cX0_first 136 = .ok (.ior, 1) := by decide +kernel
theorem dX0_first_137 : decode cX0_first 137 = .ok (.invokevirtual 40, 3) := by decide +kernel
theorem dX0_first_140 : decode cX0_first 140 = .ok (.istore 8, 2) := by decide +kernel
theorem dX0_first_142 : decode cX0_first 142 = .ok (.iinc 9 1, 3) := by decide +kernel
theorem dX0_first_145 : decode cX0_first 145 = .ok (.goto (-73), 3) := by decide +kernel
theorem dX0_first_148 : decode cX0_first 148 = .ok (.aload_n 0, 1) := by decide +kernel
theorem dX0_first_149 : decode cX0_first 149 = .ok (.getfield 22, 3) := by decide +kernel
theorem dX0_first_152 : decode cX0_first 152 = .ok (.iload 4, 2) := by decide +kernel
theorem dX0_first_154 : decode cX0_first 154 = .ok (.iload 8, 2) := by decide +kernel
theorem dX0_first_156 : decode cX0_first 156 = .ok (.iload 5, 2) := by decide +kernel
theorem dX0_first_158 : decode cX0_first 158 = .ok (.iand, 1) := by decide +kernel
theorem dX0_first_159 : decode cX0_first 159 = .ok (.invokestatic 83, 3) := by decide +kernel
theorem dX0_first_162 : decode cX0_first 162 = .ok (.iastore, 1) := by decide +kernel
theorem dX0_first_163 : decode cX0_first 163 = .ok (.iload 4, 2) := by decide +kernel
theorem dX0_first_165 : decode cX0_first 165 = .ok (.iconst 1, 1) := by decide +kernel
theorem dX0_first_166 : decode cX0_first 166 = .ok (.iadd, 1) := by decide +kernel
theorem dX0_first_167 : decode cX0_first 167 = .ok (.ireturn, 1) := by decide +kernel
theorem dX0_inClimbs_0 : decode cX0_inClimbs 0 = .ok (.aload_n 1, 1) := by decide +kernel
theorem dX0_inClimbs_1 : decode cX0_inClimbs 1 = .ok (.iload_n 2, 1) := by decide +kernel
theorem dX0_inClimbs_2 : decode cX0_inClimbs 2 = .ok (.invokevirtual 45, 3) := by decide +kernel
theorem dX0_inClimbs_5 : decode cX0_inClimbs 5 = .ok (.istore_n 3, 1) := by decide +kernel
theorem dX0_inClimbs_6 : decode cX0_inClimbs 6 = .ok (.iload_n 3, 1) := by decide +kernel
theorem dX0_inClimbs_7 : decode cX0_inClimbs 7 = .ok (.aload_n 1, 1) := by decide +kernel
theorem dX0_inClimbs_8 : decode cX0_inClimbs 8 = .ok (.getfield 48, 3) := by decide +kernel
theorem dX0_inClimbs_11 : decode cX0_inClimbs 11 = .ok (.getfield 52, 3) := by decide +kernel
theorem dX0_inClimbs_14 : decode cX0_inClimbs 14 = .ok (.iand, 1) := by decide +kernel
theorem dX0_inClimbs_15 : decode cX0_inClimbs 15 = .ok (.istore 4, 2) := by decide +kernel
theorem dX0_inClimbs_17 : decode cX0_inClimbs 17 = .ok (.iload_n 2, 1) := by decide +kernel
theorem dX0_inClimbs_18 : decode cX0_inClimbs 18 = .ok (.aload_n 1, 1) := by decide +kernel
theorem dX0_inClimbs_19 : decode cX0_inClimbs 19 = .ok (.getfield 48, 3) := by decide +kernel
theorem dX0_inClimbs_22 : decode cX0_inClimbs 22 = .ok (.getfield 57, 3) := by decide +kernel
theorem dX0_inClimbs_25 : decode cX0_inClimbs 25 = .ok (.iand, 1) := by decide +kernel
theorem dX0_inClimbs_26 : decode cX0_inClimbs 26 = .ok (.istore 5, 2) := by decide +kernel
theorem dX0_inClimbs_28 : decode cX0_inClimbs 28 = .ok (.aload_n 0, 1) := by decide +kernel
theorem dX0_inClimbs_29 : decode cX0_inClimbs 29 = .ok (.aload_n 1, 1) := by decide +kernel
theorem dX0_inClimbs_30 : decode cX0_inClimbs 30 = .ok (.aload_n 1, 1) := by decide +kernel
theorem dX0_inClimbs_31 : decode cX0_inClimbs 31 = .ok (.iload_n 3, 1) := by decide +kernel
theorem dX0_inClimbs_32 : decode cX0_inClimbs 32 = .ok (.iload 4, 2) := by decide +kernel
theorem dX0_inClimbs_34 : decode cX0_inClimbs 34 = .ok (.iconst (-1), 1) := by decide +kernel
theorem dX0_inClimbs_35 : decode cX0_inClimbs 35 = .ok (.ixor, 1) := by decide +kernel
theorem dX0_inClimbs_36 : decode cX0_inClimbs 36 = .ok (.iand, 1) := by decide +kernel
theorem dX0_inClimbs_37 : decode cX0_inClimbs 37 = .ok (.iload 4, 2) := by decide +kernel
theorem dX0_inClimbs_39 : decode cX0_inClimbs 39 = .ok (.invokestatic 60, 3) := by decide +kernel
theorem dX0_inClimbs_42 : decode cX0_inClimbs 42 = .ok (.iload 4, 2) := by decide +kernel
theorem dX0_inClimbs_44 : decode cX0_inClimbs 44 = .ok (.invokevirtual 64, 3) := by decide +kernel
theorem dX0_inClimbs_47 : decode cX0_inClimbs 47 = .ok (.iconst 1, 1) := by decide +kernel
theorem dX0_inClimbs_48 : decode cX0_inClimbs 48 = .ok (.aload_n 0, 1) := by decide +kernel
theorem dX0_inClimbs_49 : decode cX0_inClimbs 49 = .ok (.getfield 15, 3) := by decide +kernel
theorem dX0_inClimbs_52 : decode cX0_inClimbs 52 = .ok (.invokestatic 37, 3) := by decide +kernel
theorem dX0_inClimbs_55 : decode cX0_inClimbs 55 = .ok (.ishl, 1) := by decide +kernel
theorem dX0_inClimbs_56 : decode cX0_inClimbs 56 = .ok (.istore 6, 2) := by decide +kernel
theorem dX0_inClimbs_58 : decode cX0_inClimbs 58 = .ok (.iconst 0, 1) := by decide +kernel
theorem dX0_inClimbs_59 : decode cX0_inClimbs 59 = .ok (.istore 7, 2) := by decide +kernel
theorem dX0_inClimbs_61 : decode cX0_inClimbs 61 = .ok (.iconst 0, 1) := by decide +kernel
theorem dX0_inClimbs_62 : decode cX0_inClimbs 62 = .ok (.istore 8, 2) := by decide +kernel
theorem dX0_inClimbs_64 : decode cX0_inClimbs 64 = .ok (.iconst 1, 1) := by decide +kernel
theorem dX0_inClimbs_65 : decode cX0_inClimbs 65 = .ok (.istore 9, 2) := by decide +kernel
theorem dX0_inClimbs_67 : decode cX0_inClimbs 67 = .ok (.iload 9, 2) := by decide +kernel
theorem dX0_inClimbs_69 : decode cX0_inClimbs 69 = .ok (.iload 6, 2) := by decide +kernel
theorem dX0_inClimbs_71 : decode cX0_inClimbs 71 = .ok (.if_icmp .ge 58, 3) := by decide +kernel
theorem dX0_inClimbs_74 : decode cX0_inClimbs 74 = .ok (.iload 8, 2) := by decide +kernel
theorem dX0_inClimbs_76 : decode cX0_inClimbs 76 = .ok (.aload_n 0, 1) := by decide +kernel
theorem dX0_inClimbs_77 : decode cX0_inClimbs 77 = .ok (.getfield 15, 3) := by decide +kernel
theorem dX0_inClimbs_80 : decode cX0_inClimbs 80 = .ok (.if_icmp .eq 49, 3) := by decide +kernel
theorem dX0_inClimbs_83 : decode cX0_inClimbs 83 = .ok (.iload 7, 2) := by decide +kernel
theorem dX0_inClimbs_85 : decode cX0_inClimbs 85 = .ok (.aload_n 0, 1) := by decide +kernel
theorem dX0_inClimbs_86 : decode cX0_inClimbs 86 = .ok (.getfield 15, 3) := by decide +kernel
theorem dX0_inClimbs_89 : decode cX0_inClimbs 89 = .ok (.isub, 1) := by decide +kernel
theorem dX0_inClimbs_90 : decode cX0_inClimbs 90 = .ok (.aload_n 0, 1) := by decide +kernel
theorem dX0_inClimbs_91 : decode cX0_inClimbs 91 = .ok (.getfield 15, 3) := by decide +kernel
theorem dX0_inClimbs_94 : decode cX0_inClimbs 94 = .ok (.iand, 1) := by decide +kernel
theorem dX0_inClimbs_95 : decode cX0_inClimbs 95 = .ok (.istore 7, 2) := by decide +kernel
theorem dX0_inClimbs_97 : decode cX0_inClimbs 97 = .ok (.aload_n 0, 1) := by decide +kernel
theorem dX0_inClimbs_98 : decode cX0_inClimbs 98 = .ok (.iload 7, 2) := by decide +kernel
theorem dX0_inClimbs_100 : decode cX0_inClimbs 100 = .ok (.invokevirtual 68, 3) := by decide +kernel
theorem dX0_inClimbs_103 : decode cX0_inClimbs 103 = .ok (.aload_n 0, 1) := by decide +kernel
theorem dX0_inClimbs_104 : decode cX0_inClimbs 104 = .ok (.getfield 9, 3) := by decide +kernel
theorem dX0_inClimbs_107 : decode cX0_inClimbs 107 = .ok (.iload 7, 2) := by decide +kernel
theorem dX0_inClimbs_109 : decode cX0_inClimbs 109 = .ok (.iaload, 1) := by decide +kernel
theorem dX0_inClimbs_110 : decode cX0_inClimbs 110 = .ok (.iload 5, 2) := by decide +kernel
theorem dX0_inClimbs_112 : decode cX0_inClimbs 112 = .ok (.iand, 1) := by decide +kernel
theorem dX0_inClimbs_113 : decode cX0_inClimbs 113 = .ok (.ifCond .eq 10, 3) := by decide +kernel
theorem dX0_inClimbs_116 : decode cX0_inClimbs 116 = .ok (.iload 8, 2) := by decide +kernel
theorem dX0_inClimbs_118 : decode cX0_inClimbs 118 = .ok (.iload 7, 2) := by decide +kernel
theorem dX0_inClimbs_120 : decode cX0_inClimbs 120 = .ok (.ior, 1) := by decide +kernel
theorem dX0_inClimbs_121 : decode cX0_inClimbs 121 = .ok (.istore 8, 2) := by decide +kernel
theorem dX0_inClimbs_123 : decode cX0_inClimbs 123 = .ok (.iinc 9 1, 3) := by decide +kernel
theorem dX0_inClimbs_126 : decode cX0_inClimbs 126 = .ok (.goto (-59), 3) := by decide +kernel
theorem dX0_inClimbs_129 : decode cX0_inClimbs 129 = .ok (.iload 8, 2) := by decide +kernel
theorem dX0_inClimbs_131 : decode cX0_inClimbs 131 = .ok (.iload 4, 2) := by decide +kernel
theorem dX0_inClimbs_133 : decode cX0_inClimbs 133 = .ok (.ior, 1) := by decide +kernel
theorem dX0_inClimbs_134 : decode cX0_inClimbs 134 = .ok (.ireturn, 1) := by decide +kernel
theorem kw_11 : Cond.initialized "FootholdWall$Chains" ∈ gw := gw_of (tb_of 11 (by decide +kernel)) (by decide +kernel)
theorem kw_119 : Cond.fieldLink "FootholdWall$Chains" 57 "FootholdWall$Wall" "starts" "I" ∈ gw := gw_of (tb_of 119 (by decide +kernel)) (by decide +kernel)
theorem kw_125 : Cond.fieldLink "FootholdWall$Chains" 52 "FootholdWall$Wall" "tops" "I" ∈ gw := gw_of (tb_of 125 (by decide +kernel)) (by decide +kernel)
theorem kw_247 : Cond.fieldLink "FootholdWall$Chains" 48 "FootholdWall$Rows" "wall" "LFootholdWall$Wall;" ∈ gw := gw_of (tb_of 247 (by decide +kernel)) (by decide +kernel)
theorem kw_333 : Cond.fieldLink "FootholdWall$Chains" 22 "FootholdWall$Chains" "path" "[I" ∈ gw := gw_of (tb_of 333 (by decide +kernel)) (by decide +kernel)
theorem kw_1071 : Cond.methodLink "FootholdWall$Chains" 45 yX5_reached ∈ gw := gw_of (tb_of 1071 (by decide +kernel)) (by decide +kernel)
theorem kw_1072 : Cond.methodLink "FootholdWall$Chains" 60 yX0_leadingOn ∈ gw := gw_of (tb_of 1072 (by decide +kernel)) (by decide +kernel)
theorem kw_1073 : Cond.static yX0_leadingOn ∈ gw := gw_of (tb_of 1073 (by decide +kernel)) (by decide +kernel)
theorem kw_1074 : Cond.code yX0_leadingOn cX0_leadingOn 8 (some (.int)) ∈ gw := gw_of (tb_of 1074 (by decide +kernel)) (by decide +kernel)
theorem kw_1076 : Cond.methodLink "FootholdWall$Chains" 64 yX0_prepare ∈ gw := gw_of (tb_of 1076 (by decide +kernel)) (by decide +kernel)
theorem kw_1078 : Cond.instanceMethod yX0_prepare ∈ gw := gw_of (tb_of 1078 (by decide +kernel)) (by decide +kernel)
theorem kw_1079 : Cond.code yX0_prepare cX0_prepare 8 none ∈ gw := gw_of (tb_of 1079 (by decide +kernel)) (by decide +kernel)
theorem kw_1089 : Cond.methodLink "FootholdWall$Chains" 68 yX0_growFrom ∈ gw := gw_of (tb_of 1089 (by decide +kernel)) (by decide +kernel)
theorem kw_1091 : Cond.instanceMethod yX0_growFrom ∈ gw := gw_of (tb_of 1091 (by decide +kernel)) (by decide +kernel)
theorem kw_1092 : Cond.code yX0_growFrom cX0_growFrom 4 none ∈ gw := gw_of (tb_of 1092 (by decide +kernel)) (by decide +kernel)
theorem kw_1128 : Cond.instanceMethod yX0_fewest ∈ gw := gw_of (tb_of 1128 (by decide +kernel)) (by decide +kernel)
theorem kw_1129 : Cond.selects "FootholdWall$Chains" yX0_fewest yX0_fewest ∈ gw := gw_of (tb_of 1129 (by decide +kernel)) (by decide +kernel)
theorem kw_1130 : Cond.code yX0_fewest cX0_fewest 14 (some (.int)) ∈ gw := gw_of (tb_of 1130 (by decide +kernel)) (by decide +kernel)
theorem kw_1131 : Cond.methodLink "FootholdWall$Chains" 72 yX5_spread ∈ gw := gw_of (tb_of 1131 (by decide +kernel)) (by decide +kernel)
theorem kw_1140 : Cond.methodLink "FootholdWall$Chains" 76 yX0_fewest ∈ gw := gw_of (tb_of 1140 (by decide +kernel)) (by decide +kernel)
theorem kw_1141 : Cond.methodLink "FootholdWall$Chains" 79 yX0_begunOver ∈ gw := gw_of (tb_of 1141 (by decide +kernel)) (by decide +kernel)
theorem kw_1143 : Cond.instanceMethod yX0_begunOver ∈ gw := gw_of (tb_of 1143 (by decide +kernel)) (by decide +kernel)
theorem kw_1144 : Cond.code yX0_begunOver cX0_begunOver 9 (some (.int)) ∈ gw := gw_of (tb_of 1144 (by decide +kernel)) (by decide +kernel)
theorem kw_1145 : Cond.methodLink "FootholdWall$Chains" 83 yJ6_numberOfTrailingZeros_0f7a4 ∈ gw := gw_of (tb_of 1145 (by decide +kernel)) (by decide +kernel)
theorem ks_38 : Cond.selects RX0 yX0_prepare yX0_prepare ∈ gw := gw_of (pv_of 38 (by decide +kernel)) (by decide +kernel)
theorem ks_39 : Cond.selects RX0 yX0_growFrom yX0_growFrom ∈ gw := gw_of (pv_of 39 (by decide +kernel)) (by decide +kernel)
theorem ks_40 : Cond.selects RX0 yX0_begunOver yX0_begunOver ∈ gw := gw_of (pv_of 40 (by decide +kernel)) (by decide +kernel)
