theorem dX0_fewest_0 : decode cX0_fewest 0 = .ok (.iload_n 3, 1) := by decide +kernel
theorem dX0_fewest_1 : decode cX0_fewest 1 = .ok (.aload_n 1, 1) := by decide +kernel
theorem dX0_fewest_2 : decode cX0_fewest 2 = .ok (.getfield 48, 3) := by decide +kernel
theorem dX0_fewest_5 : decode cX0_fewest 5 = .ok (.getfield 52, 3) := by decide +kernel
theorem dX0_fewest_8 : decode cX0_fewest 8 = .ok (.iand, 1) := by decide +kernel
theorem dX0_fewest_9 : decode cX0_fewest 9 = .ok (.istore 4, 2) := by decide +kernel
theorem dX0_fewest_11 : decode cX0_fewest 11 = .ok (.iload_n 3, 1) := by decide +kernel
theorem dX0_fewest_12 : decode cX0_fewest 12 = .ok (.aload_n 1, 1) := by decide +kernel
theorem dX0_fewest_13 : decode cX0_fewest 13 = .ok (.getfield 48, 3) := by decide +kernel
theorem dX0_fewest_16 : decode cX0_fewest 16 = .ok (.getfield 57, 3) := by decide +kernel
theorem dX0_fewest_19 : decode cX0_fewest 19 = .ok (.iand, 1) := by decide +kernel
theorem dX0_fewest_20 : decode cX0_fewest 20 = .ok (.istore 5, 2) := by decide +kernel
theorem dX0_fewest_22 : decode cX0_fewest 22 = .ok (.iload_n 2, 1) := by decide +kernel
theorem dX0_fewest_23 : decode cX0_fewest 23 = .ok (.ifCond .ne 13, 3) := by decide +kernel
theorem dX0_fewest_26 : decode cX0_fewest 26 = .ok (.iload 5, 2) := by decide +kernel
theorem dX0_fewest_28 : decode cX0_fewest 28 = .ok (.iload 4, 2) := by decide +kernel
theorem dX0_fewest_30 : decode cX0_fewest 30 = .ok (.iand, 1) := by decide +kernel
theorem dX0_fewest_31 : decode cX0_fewest 31 = .ok (.ifCond .eq 5, 3) := by decide +kernel
theorem dX0_fewest_34 : decode cX0_fewest 34 = .ok (.iconst 0, 1) := by decide +kernel
theorem dX0_fewest_35 : decode cX0_fewest 35 = .ok (.ireturn, 1) := by decide +kernel
theorem dX0_fewest_36 : decode cX0_fewest 36 = .ok (.iload 5, 2) := by decide +kernel
theorem dX0_fewest_38 : decode cX0_fewest 38 = .ok (.iload 4, 2) := by decide +kernel
theorem dX0_fewest_40 : decode cX0_fewest 40 = .ok (.iconst (-1), 1) := by decide +kernel
theorem dX0_fewest_41 : decode cX0_fewest 41 = .ok (.ixor, 1) := by decide +kernel
theorem dX0_fewest_42 : decode cX0_fewest 42 = .ok (.iand, 1) := by decide +kernel
theorem dX0_fewest_43 : decode cX0_fewest 43 = .ok (.istore 6, 2) := by decide +kernel
theorem dX0_fewest_45 : decode cX0_fewest 45 = .ok (.aload_n 1, 1) := by decide +kernel
theorem dX0_fewest_46 : decode cX0_fewest 46 = .ok (.iload 6, 2) := by decide +kernel
theorem dX0_fewest_48 : decode cX0_fewest 48 = .ok (.iload_n 2, 1) := by decide +kernel
theorem dX0_fewest_49 : decode cX0_fewest 49 = .ok (.iload 6, 2) := by decide +kernel
theorem dX0_fewest_51 : decode cX0_fewest 51 = .ok (.ior, 1) := by decide +kernel
theorem dX0_fewest_52 : decode cX0_fewest 52 = .ok (.iload_n 2, 1) := by decide +kernel
theorem dX0_fewest_53 : decode cX0_fewest 53 = .ok (.iload 6, 2) := by decide +kernel
theorem dX0_fewest_55 : decode cX0_fewest 55 = .ok (.ior, 1) := by decide +kernel
theorem dX0_fewest_56 : decode cX0_fewest 56 = .ok (.iload 4, 2) := by decide +kernel
theorem dX0_fewest_58 : decode cX0_fewest 58 = .ok (.ior, 1) := by decide +kernel
theorem dX0_fewest_59 : decode cX0_fewest 59 = .ok (.iconst 0, 1) := by decide +kernel
theorem dX0_fewest_60 : decode cX0_fewest 60 = .ok (.invokevirtual 72, 3) := by decide +kernel
theorem dX0_fewest_63 : decode cX0_fewest 63 = .ok (.istore 7, 2) := by decide +kernel
theorem dX0_fewest_65 : decode cX0_fewest 65 = .ok (.aload_n 1, 1) := by decide +kernel
theorem dX0_fewest_66 : decode cX0_fewest 66 = .ok (.iload 7, 2) := by decide +kernel
theorem dX0_fewest_68 : decode cX0_fewest 68 = .ok (.iload 4, 2) := by decide +kernel
theorem dX0_fewest_70 : decode cX0_fewest 70 = .ok (.iconst (-1), 1) := by decide +kernel
theorem dX0_fewest_71 : decode cX0_fewest 71 = .ok (.ixor, 1) := by decide +kernel
theorem dX0_fewest_72 : decode cX0_fewest 72 = .ok (.iand, 1) := by decide +kernel
theorem dX0_fewest_73 : decode cX0_fewest 73 = .ok (.iload 4, 2) := by decide +kernel
theorem dX0_fewest_75 : decode cX0_fewest 75 = .ok (.iload 7, 2) := by decide +kernel
theorem dX0_fewest_77 : decode cX0_fewest 77 = .ok (.iand, 1) := by decide +kernel
theorem dX0_fewest_78 : decode cX0_fewest 78 = .ok (.invokestatic 60, 3) := by decide +kernel
theorem dX0_fewest_81 : decode cX0_fewest 81 = .ok (.istore 8, 2) := by decide +kernel
theorem dX0_fewest_83 : decode cX0_fewest 83 = .ok (.iload 6, 2) := by decide +kernel
theorem dX0_fewest_85 : decode cX0_fewest 85 = .ok (.iload 8, 2) := by decide +kernel
theorem dX0_fewest_87 : decode cX0_fewest 87 = .ok (.iand, 1) := by decide +kernel
theorem dX0_fewest_88 : decode cX0_fewest 88 = .ok (.istore 6, 2) := by decide +kernel
theorem dX0_fewest_90 : decode cX0_fewest 90 = .ok (.iload 8, 2) := by decide +kernel
theorem dX0_fewest_92 : decode cX0_fewest 92 = .ok (.iload_n 2, 1) := by decide +kernel
theorem dX0_fewest_93 : decode cX0_fewest 93 = .ok (.iand, 1) := by decide +kernel
theorem dX0_fewest_94 : decode cX0_fewest 94 = .ok (.iload_n 2, 1) := by decide +kernel
theorem dX0_fewest_95 : decode cX0_fewest 95 = .ok (.if_icmp .ne 8, 3) := by decide +kernel
theorem dX0_fewest_98 : decode cX0_fewest 98 = .ok (.iload 6, 2) := by decide +kernel
theorem dX0_fewest_100 : decode cX0_fewest 100 = .ok (.ifCond .ne 5, 3) := by decide +kernel
theorem dX0_fewest_103 : decode cX0_fewest 103 = .ok (.iconst (-1), 1) := by decide +kernel
theorem dX0_fewest_104 : decode cX0_fewest 104 = .ok (.ireturn, 1) := by decide +kernel
theorem dX0_fewest_105 : decode cX0_fewest 105 = .ok (.aload_n 0, 1) := by decide +kernel
theorem dX0_fewest_106 : decode cX0_fewest 106 = .ok (.aload_n 1, 1) := by decide +kernel
theorem dX0_fewest_107 : decode cX0_fewest 107 = .ok (.iload 8, 2) := by decide +kernel
theorem dX0_fewest_109 : decode cX0_fewest 109 = .ok (.iload 4, 2) := by decide +kernel
theorem dX0_fewest_111 : decode cX0_fewest 111 = .ok (.invokevirtual 64, 3) := by decide +kernel
theorem dX0_fewest_114 : decode cX0_fewest 114 = .ok (.iconst (-1), 1) := by decide +kernel
theorem dX0_fewest_115 : decode cX0_fewest 115 = .ok (.istore 9, 2) := by decide +kernel
theorem dX0_fewest_117 : decode cX0_fewest 117 = .ok (.iconst 1, 1) := by decide +kernel
theorem dX0_fewest_118 : decode cX0_fewest 118 = .ok (.aload_n 0, 1) := by decide +kernel
theorem dX0_fewest_119 : decode cX0_fewest 119 = .ok (.getfield 15, 3) := by decide +kernel
theorem dX0_fewest_122 : decode cX0_fewest 122 = .ok (.invokestatic 37, 3) := by decide +kernel
theorem dX0_fewest_125 : decode cX0_fewest 125 = .ok (.ishl, 1) := by decide +kernel
theorem dX0_fewest_126 : decode cX0_fewest 126 = .ok (.istore 10, 2) := by decide +kernel
theorem dX0_fewest_128 : decode cX0_fewest 128 = .ok (.iconst 0, 1) := by decide +kernel
theorem dX0_fewest_129 : decode cX0_fewest 129 = .ok (.istore 11, 2) := by decide +kernel
theorem dX0_fewest_131 : decode cX0_fewest 131 = .ok (.iconst 1, 1) := by decide +kernel
theorem dX0_fewest_132 : decode cX0_fewest 132 = .ok (.istore 12, 2) := by decide +kernel
theorem dX0_fewest_134 : decode cX0_fewest 134 = .ok (.iload 12, 2) := by decide +kernel
theorem dX0_fewest_136 : decode cX0_fewest 136 = .ok (.iload 10, 2) := by decide +kernel
theorem dX0_fewest_138 : decode cX0_fewest 138 = .ok (.if_icmp .ge 74, 3) := by decide +kernel
theorem dX0_fewest_141 : decode cX0_fewest 141 = .ok (.iload 11, 2) := by decide +kernel
theorem dX0_fewest_143 : decode cX0_fewest 143 = .ok (.aload_n 0, 1) := by decide +kernel
theorem dX0_fewest_144 : decode cX0_fewest 144 = .ok (.getfield 15, 3) := by decide +kernel
theorem dX0_fewest_147 : decode cX0_fewest 147 = .ok (.isub, 1) := by decide +kernel
theorem dX0_fewest_148 : decode cX0_fewest 148 = .ok (.aload_n 0, 1) := by decide +kernel
theorem dX0_fewest_149 : decode cX0_fewest 149 = .ok (.getfield 15, 3) := by decide +kernel
theorem dX0_fewest_152 : decode cX0_fewest 152 = .ok (.iand, 1) := by decide +kernel
theorem dX0_fewest_153 : decode cX0_fewest 153 = .ok (.istore 11, 2) := by decide +kernel
theorem dX0_fewest_155 : decode cX0_fewest 155 = .ok (.aload_n 0, 1) := by decide +kernel
theorem dX0_fewest_156 : decode cX0_fewest 156 = .ok (.iload 11, 2) := by decide +kernel
theorem dX0_fewest_158 : decode cX0_fewest 158 = .ok (.invokevirtual 68, 3) := by decide +kernel
theorem dX0_fewest_161 : decode cX0_fewest 161 = .ok (.iload 11, 2) := by decide +kernel
theorem dX0_fewest_163 : decode cX0_fewest 163 = .ok (.invokestatic 37, 3) := by decide +kernel
theorem dX0_fewest_166 : decode cX0_fewest 166 = .ok (.istore 13, 2) := by decide +kernel
theorem dX0_fewest_168 : decode cX0_fewest 168 = .ok (.iload 11, 2) := by decide +kernel
theorem dX0_fewest_170 : decode cX0_fewest 170 = .ok (.iload_n 2, 1) := by decide +kernel
theorem dX0_fewest_171 : decode cX0_fewest 171 = .ok (.iand, 1) := by decide +kernel
theorem dX0_fewest_172 : decode cX0_fewest 172 = .ok (.iload_n 2, 1) := by decide +kernel
theorem dX0_fewest_173 : decode cX0_fewest 173 = .ok (.if_icmp .ne 33, 3) := by decide +kernel
theorem dX0_fewest_176 : decode cX0_fewest 176 = .ok (.aload_n 0, 1) := by decide +kernel
theorem dX0_fewest_177 : decode cX0_fewest 177 = .ok (.getfield 9, 3) := by decide +kernel
theorem dX0_fewest_180 : decode cX0_fewest 180 = .ok (.iload 11, 2) := by decide +kernel
theorem dX0_fewest_182 : decode cX0_fewest 182 = .ok (.iaload, 1) := by decide +kernel
theorem dX0_fewest_183 : decode cX0_fewest 183 = .ok (.iload 6, 2) := by decide +kernel
theorem dX0_fewest_185 : decode cX0_fewest 185 = .ok (.iand, 1) := by decide +kernel
theorem dX0_fewest_186 : decode cX0_fewest 186 = .ok (.ifCond .eq 20, 3) := by decide +kernel
theorem dX0_fewest_189 : decode cX0_fewest 189 = .ok (.iload 9, 2) := by decide +kernel
theorem dX0_fewest_191 : decode cX0_fewest 191 = .ok (.iconst (-1), 1) := by decide +kernel
theorem dX0_fewest_192 : decode cX0_fewest 192 = .ok (.if_icmp .eq 10, 3) := by decide +kernel
theorem dX0_fewest_195 : decode cX0_fewest 195 = .ok (.iload 13, 2) := by decide +kernel
theorem dX0_fewest_197 : decode cX0_fewest 197 = .ok (.iload 9, 2) := by decide +kernel
theorem dX0_fewest_199 : decode cX0_fewest 199 = .ok (.if_icmp .ge 7, 3) := by decide +kernel
theorem dX0_fewest_202 : decode cX0_fewest 202 = .ok (.iload 13, 2) := by decide +kernel
theorem dX0_fewest_204 : decode cX0_fewest 204 = .ok (.istore 9, 2) := by decide +kernel
theorem dX0_fewest_206 : decode cX0_fewest 206 = .ok (.iinc 12 1, 3) := by decide +kernel
theorem dX0_fewest_209 : decode cX0_fewest 209 = .ok (.goto (-75), 3) := by decide +kernel
theorem dX0_fewest_212 : decode cX0_fewest 212 = .ok (.iload 9, 2) := by decide +kernel
theorem dX0_fewest_214 : decode cX0_fewest 214 = .ok (.ireturn, 1) := by decide +kernel
theorem dX0_first_0 : decode cX0_first 0 = .ok (.aload_n 0, 1) := by decide +kernel
theorem dX0_first_1 : decode cX0_first 1 = .ok (.aload_n 1, 1) := by decide +kernel
theorem dX0_first_2 : decode cX0_first 2 = .ok (.iload_n 2, 1) := by decide +kernel
theorem dX0_first_3 : decode cX0_first 3 = .ok (.iload_n 3, 1) := by decide +kernel
theorem dX0_first_4 : decode cX0_first 4 = .ok (.invokevirtual 76, 3) := by decide +kernel
theorem dX0_first_7 : decode cX0_first 7 = .ok (.istore 4, 2) := by decide +kernel
theorem dX0_first_9 : decode cX0_first 9 = .ok (.iload_n 3, 1) := by decide +kernel
theorem dX0_first_10 : decode cX0_first 10 = .ok (.aload_n 1, 1) := by decide +kernel
theorem dX0_first_11 : decode cX0_first 11 = .ok (.getfield 48, 3) := by decide +kernel
theorem dX0_first_14 : decode cX0_first 14 = .ok (.getfield 52, 3) := by decide +kernel
theorem dX0_first_17 : decode cX0_first 17 = .ok (.iand, 1) := by decide +kernel
theorem dX0_first_18 : decode cX0_first 18 = .ok (.istore 5, 2) := by decide +kernel
theorem dX0_first_20 : decode cX0_first 20 = .ok (.iload 4, 2) := by decide +kernel
theorem dX0_first_22 : decode cX0_first 22 = .ok (.iconst (-1), 1) := by decide +kernel
theorem dX0_first_23 : decode cX0_first 23 = .ok (.if_icmp .eq 10, 3) := by decide +kernel
theorem dX0_first_26 : decode cX0_first 26 = .ok (.iload 4, 2) := by decide +kernel
theorem dX0_first_28 : decode cX0_first 28 = .ok (.bipush 14, 2) := by decide +kernel
theorem dX0_first_30 : decode cX0_first 30 = .ok (.if_icmp .lt 5, 3) := by decide +kernel
theorem dX0_first_33 : decode cX0_first 33 = .ok (.iconst 0, 1) := by decide +kernel
theorem dX0_first_34 : decode cX0_first 34 = .ok (.ireturn, 1) := by decide +kernel
theorem dX0_first_35 : decode cX0_first 35 = .ok (.iload 4, 2) := by decide +kernel
theorem dX0_first_37 : decode cX0_first 37 = .ok (.ifCond .ne 7, 3) := by decide +kernel
theorem dX0_first_40 : decode cX0_first 40 = .ok (.iconst 0, 1) := by decide +kernel
theorem dX0_first_41 : decode cX0_first 41 = .ok (.goto 7, 3) := by decide +kernel
theorem dX0_first_44 : decode cX0_first 44 = .ok (.aload_n 0, 1) := by decide +kernel
theorem dX0_first_45 : decode cX0_first 45 = .ok (.getfield 15, 3) := by decide +kernel
theorem dX0_first_48 : decode cX0_first 48 = .ok (.istore 6, 2) := by decide +kernel
theorem dX0_first_50 : decode cX0_first 50 = .ok (.iload 6, 2) := by decide +kernel
theorem dX0_first_52 : decode cX0_first 52 = .ok (.iload_n 2, 1) := by decide +kernel
theorem dX0_first_53 : decode cX0_first 53 = .ok (.iconst (-1), 1) := by decide +kernel
theorem dX0_first_54 : decode cX0_first 54 = .ok (.ixor, 1) := by decide +kernel
theorem dX0_first_55 : decode cX0_first 55 = .ok (.iand, 1) := by decide +kernel
theorem dX0_first_56 : decode cX0_first 56 = .ok (.istore 7, 2) := by decide +kernel
theorem dX0_first_58 : decode cX0_first 58 = .ok (.iload_n 3, 1) := by decide +kernel
theorem dX0_first_59 : decode cX0_first 59 = .ok (.aload_n 1, 1) := by decide +kernel
theorem dX0_first_60 : decode cX0_first 60 = .ok (.getfield 48, 3) := by decide +kernel
theorem dX0_first_63 : decode cX0_first 63 = .ok (.getfield 57, 3) := by decide +kernel
theorem dX0_first_66 : decode cX0_first 66 = .ok (.iand, 1) := by decide +kernel
theorem dX0_first_67 : decode cX0_first 67 = .ok (.istore 8, 2) := by decide +kernel
theorem dX0_first_69 : decode cX0_first 69 = .ok (.iconst 0, 1) := by decide +kernel
theorem dX0_first_70 : decode cX0_first 70 = .ok (.istore 9, 2) := by decide +kernel
theorem dX0_first_72 : decode cX0_first 72 = .ok (.iload 9, 2) := by decide +kernel
theorem dX0_first_74 : decode cX0_first 74 = .ok (.iload 4, 2) := by decide +kernel
theorem dX0_first_76 : decode cX0_first 76 = .ok (.if_icmp .ge 72, 3) := by decide +kernel
theorem dX0_first_79 : decode cX0_first 79 = .ok (.aload_n 0, 1) := by decide +kernel
theorem dX0_first_80 : decode cX0_first 80 = .ok (.iload_n 2, 1) := by decide +kernel
theorem dX0_first_81 : decode cX0_first 81 = .ok (.iload 6, 2) := by decide +kernel
theorem dX0_first_83 : decode cX0_first 83 = .ok (.iand, 1) := by decide +kernel
theorem dX0_first_84 : decode cX0_first 84 = .ok (.iload 7, 2) := by decide +kernel
theorem dX0_first_86 : decode cX0_first 86 = .ok (.iload 6, 2) := by decide +kernel
theorem dX0_first_88 : decode cX0_first 88 = .ok (.iand, 1) := by decide +kernel
theorem dX0_first_89 : decode cX0_first 89 = .ok (.iload 4, 2) := by decide +kernel
theorem dX0_first_91 : decode cX0_first 91 = .ok (.iload 9, 2) := by decide +kernel
theorem dX0_first_93 : decode cX0_first 93 = .ok (.isub, 1) := by decide +kernel
theorem dX0_first_94 : decode cX0_first 94 = .ok (.invokevirtual 79, 3) := by decide +kernel
theorem dX0_first_97 : decode cX0_first 97 = .ok (.iload 8, 2) := by decide +kernel
theorem dX0_first_99 : decode cX0_first 99 = .ok (.iand, 1) := by decide +kernel
theorem dX0_first_100 : decode cX0_first 100 = .ok (.istore 10, 2) := by decide +kernel
theorem dX0_first_102 : decode cX0_first 102 = .ok (.iload 10, 2) := by decide +kernel
theorem dX0_first_104 : decode cX0_first 104 = .ok (.invokestatic 83, 3) := by decide +kernel
theorem dX0_first_107 : decode cX0_first 107 = .ok (.istore 11, 2) := by decide +kernel
theorem dX0_first_109 : decode cX0_first 109 = .ok (.aload_n 0, 1) := by decide +kernel
theorem dX0_first_110 : decode cX0_first 110 = .ok (.getfield 22, 3) := by decide +kernel
theorem dX0_first_113 : decode cX0_first 113 = .ok (.iload 9, 2) := by decide +kernel
theorem dX0_first_115 : decode cX0_first 115 = .ok (.iload 11, 2) := by decide +kernel
theorem dX0_first_117 : decode cX0_first 117 = .ok (.iastore, 1) := by decide +kernel
theorem dX0_first_118 : decode cX0_first 118 = .ok (.iload 6, 2) := by decide +kernel
theorem dX0_first_120 : decode cX0_first 120 = .ok (.iconst 1, 1) := by decide +kernel
theorem dX0_first_121 : decode cX0_first 121 = .ok (.iload 11, 2) := by decide +kernel
theorem dX0_first_123 : decode cX0_first 123 = .ok (.ishl, 1) := by decide +kernel
theorem dX0_first_124 : decode cX0_first 124 = .ok (.iconst (-1), 1) := by decide +kernel
theorem dX0_first_125 : decode cX0_first 125 = .ok (.ixor, 1) := by decide +kernel
theorem dX0_first_126 : decode cX0_first 126 = .ok (.iand, 1) := by decide +kernel
theorem dX0_first_127 : decode cX0_first 127 = .ok (.istore 6, 2) := by decide +kernel
theorem dX0_first_129 : decode cX0_first 129 = .ok (.aload_n 1, 1) := by decide +kernel
theorem dX0_first_130 : decode cX0_first 130 = .ok (.iload 11, 2) := by decide +kernel
theorem dX0_first_132 : decode cX0_first 132 = .ok (.iload 6, 2) := by decide +kernel
theorem dX0_first_134 : decode cX0_first 134 = .ok (.iload 5, 2) := by decide +kernel
theorem dX0_first_136 : decode cX0_first 136 = .ok (.ior, 1) := by decide +kernel
theorem dX0_first_137 : decode cX0_first 137 = .ok (.invokevirtual 40, 3) := by decide +kernel
theorem dX0_first_140 : decode cX0_first 140 = .ok (.istore 8, 2) := by decide +kernel
theorem dX0_first_142 : decode cX0_first 142 = .ok (.iinc 9 1, 3) := by decide +kernel
theorem dX0_first_145 : decode cX0_first 145 = .ok (.goto (-73), 3) := by decide +kernel
theorem dX0_first_148 : decode cX0_first 148 = .ok (.aload_n 0, 1) := by decide +kernel
theorem dX0_first_149 : decode cX0_first 149 = .ok (.getfield 22, 3) := by decide +kernel
theorem dX0_first_152 : decode cX0_first 152 = .ok (.iload 4, 2) := by decide +kernel
theorem dX0_first_154 : decode cX0_first 154 = .ok (.iload 8, 2) := by decide +kernel
theorem dX0_first_156 : decode cX0_first 156 = .ok (.iload 5, 2) := by decide +kernel
theorem dX0_first_158 : decode cX0_first 158 = .ok (.iand, 1) := by decide +kernel
theorem dX0_first_159 : decode cX0_first 159 = .ok (.invokestatic 83, 3) := by decide +kernel
theorem dX0_first_162 : decode cX0_first 162 = .ok (.iastore, 1) := by decide +kernel
theorem dX0_first_163 : decode cX0_first 163 = .ok (.iload 4, 2) := by decide +kernel
theorem dX0_first_165 : decode cX0_first 165 = .ok (.iconst 1, 1) := by decide +kernel
theorem dX0_first_166 : decode cX0_first 166 = .ok (.iadd, 1) := by decide +kernel
theorem dX0_first_167 : decode cX0_first 167 = .ok (.ireturn, 1) := by decide +kernel
theorem dX0_inClimbs_0 : decode cX0_inClimbs 0 = .ok (.aload_n 1, 1) := by decide +kernel
theorem dX0_inClimbs_1 : decode cX0_inClimbs 1 = .ok (.iload_n 2, 1) := by decide +kernel
theorem dX0_inClimbs_2 : decode cX0_inClimbs 2 = .ok (.invokevirtual 45, 3) := by decide +kernel
theorem dX0_inClimbs_5 : decode cX0_inClimbs 5 = .ok (.istore_n 3, 1) := by decide +kernel
theorem dX0_inClimbs_6 : decode cX0_inClimbs 6 = .ok (.iload_n 3, 1) := by decide +kernel
theorem dX0_inClimbs_7 : decode cX0_inClimbs 7 = .ok (.aload_n 1, 1) := by decide +kernel
theorem dX0_inClimbs_8 : decode cX0_inClimbs 8 = .ok (.getfield 48, 3) := by decide +kernel
theorem dX0_inClimbs_11 : decode cX0_inClimbs 11 = .ok (.getfield 52, 3) := by decide +kernel
theorem dX0_inClimbs_14 : decode cX0_inClimbs 14 = .ok (.iand, 1) := by decide +kernel
theorem dX0_inClimbs_15 : decode cX0_inClimbs 15 = .ok (.istore 4, 2) := by decide +kernel
theorem dX0_inClimbs_17 : decode cX0_inClimbs 17 = .ok (.iload_n 2, 1) := by decide +kernel
theorem dX0_inClimbs_18 : decode cX0_inClimbs 18 = .ok (.aload_n 1, 1) := by decide +kernel
theorem dX0_inClimbs_19 : decode cX0_inClimbs 19 = .ok (.getfield 48, 3) := by decide +kernel
theorem dX0_inClimbs_22 : decode cX0_inClimbs 22 = .ok (.getfield 57, 3) := by decide +kernel
theorem dX0_inClimbs_25 : decode cX0_inClimbs 25 = .ok (.iand, 1) := by decide +kernel
theorem dX0_inClimbs_26 : decode cX0_inClimbs 26 = .ok (.istore 5, 2) := by decide +kernel
theorem dX0_inClimbs_28 : decode cX0_inClimbs 28 = .ok (.aload_n 0, 1) := by decide +kernel
theorem dX0_inClimbs_29 : decode cX0_inClimbs 29 = .ok (.aload_n 1, 1) := by decide +kernel
theorem dX0_inClimbs_30 : decode cX0_inClimbs 30 = .ok (.aload_n 1, 1) := by decide +kernel
theorem dX0_inClimbs_31 : decode cX0_inClimbs 31 = .ok (.iload_n 3, 1) := by decide +kernel
theorem dX0_inClimbs_32 : decode cX0_inClimbs 32 = .ok (.iload 4, 2) := by decide +kernel
theorem dX0_inClimbs_34 : decode cX0_inClimbs 34 = .ok (.iconst (-1), 1) := by decide +kernel
theorem dX0_inClimbs_35 : decode cX0_inClimbs 35 = .ok (.ixor, 1) := by decide +kernel
theorem dX0_inClimbs_36 : decode cX0_inClimbs 36 = .ok (.iand, 1) := by decide +kernel
theorem dX0_inClimbs_37 : decode cX0_inClimbs 37 = .ok (.iload 4, 2) := by decide +kernel
theorem dX0_inClimbs_39 : decode cX0_inClimbs 39 = .ok (.invokestatic 60, 3) := by decide +kernel
theorem dX0_inClimbs_42 : decode cX0_inClimbs 42 = .ok (.iload 4, 2) := by decide +kernel
theorem dX0_inClimbs_44 : decode cX0_inClimbs 44 = .ok (.invokevirtual 64, 3) := by decide +kernel
theorem dX0_inClimbs_47 : decode cX0_inClimbs 47 = .ok (.iconst 1, 1) := by decide +kernel
theorem dX0_inClimbs_48 : decode cX0_inClimbs 48 = .ok (.aload_n 0, 1) := by decide +kernel
theorem dX0_inClimbs_49 : decode cX0_inClimbs 49 = .ok (.getfield 15, 3) := by decide +kernel
theorem dX0_inClimbs_52 : decode cX0_inClimbs 52 = .ok (.invokestatic 37, 3) := by decide +kernel
theorem dX0_inClimbs_55 : decode cX0_inClimbs 55 = .ok (.ishl, 1) := by decide +kernel
theorem dX0_inClimbs_56 : decode cX0_inClimbs 56 = .ok (.istore 6, 2) := by decide +kernel
theorem dX0_inClimbs_58 : decode cX0_inClimbs 58 = .ok (.iconst 0, 1) := by decide +kernel
theorem dX0_inClimbs_59 : decode cX0_inClimbs 59 = .ok (.istore 7, 2) := by decide +kernel
theorem dX0_inClimbs_61 : decode cX0_inClimbs 61 = .ok (.iconst 0, 1) := by decide +kernel
theorem dX0_inClimbs_62 : decode cX0_inClimbs 62 = .ok (.istore 8, 2) := by decide +kernel
theorem dX0_inClimbs_64 : decode cX0_inClimbs 64 = .ok (.iconst 1, 1) := by decide +kernel
theorem dX0_inClimbs_65 : decode cX0_inClimbs 65 = .ok (.istore 9, 2) := by decide +kernel
theorem dX0_inClimbs_67 : decode cX0_inClimbs 67 = .ok (.iload 9, 2) := by decide +kernel
theorem dX0_inClimbs_69 : decode cX0_inClimbs 69 = .ok (.iload 6, 2) := by decide +kernel
theorem dX0_inClimbs_71 : decode cX0_inClimbs 71 = .ok (.if_icmp .ge 58, 3) := by decide +kernel
theorem dX0_inClimbs_74 : decode cX0_inClimbs 74 = .ok (.iload 8, 2) := by decide +kernel
theorem dX0_inClimbs_76 : decode cX0_inClimbs 76 = .ok (.aload_n 0, 1) := by decide +kernel
theorem dX0_inClimbs_77 : decode cX0_inClimbs 77 = .ok (.getfield 15, 3) := by decide +kernel
theorem dX0_inClimbs_80 : decode cX0_inClimbs 80 = .ok (.if_icmp .eq 49, 3) := by decide +kernel
theorem dX0_inClimbs_83 : decode cX0_inClimbs 83 = .ok (.iload 7, 2) := by decide +kernel
theorem dX0_inClimbs_85 : decode cX0_inClimbs 85 = .ok (.aload_n 0, 1) := by decide +kernel
theorem dX0_inClimbs_86 : decode cX0_inClimbs 86 = .ok (.getfield 15, 3) := by decide +kernel
theorem dX0_inClimbs_89 : decode cX0_inClimbs 89 = .ok (.isub, 1) := by decide +kernel
theorem dX0_inClimbs_90 : decode cX0_inClimbs 90 = .ok (.aload_n 0, 1) := by decide +kernel
theorem dX0_inClimbs_91 : decode cX0_inClimbs 91 = .ok (.getfield 15, 3) := by decide +kernel
theorem dX0_inClimbs_94 : decode cX0_inClimbs 94 = .ok (.iand, 1) := by decide +kernel
theorem dX0_inClimbs_95 : decode cX0_inClimbs 95 = .ok (.istore 7, 2) := by decide +kernel
theorem dX0_inClimbs_97 : decode cX0_inClimbs 97 = .ok (.aload_n 0, 1) := by decide +kernel
theorem dX0_inClimbs_98 : decode cX0_inClimbs 98 = .ok (.iload 7, 2) := by decide +kernel
theorem dX0_inClimbs_100 : decode cX0_inClimbs 100 = .ok (.invokevirtual 68, 3) := by decide +kernel
theorem dX0_inClimbs_103 : decode cX0_inClimbs 103 = .ok (.aload_n 0, 1) := by decide +kernel
theorem dX0_inClimbs_104 : decode cX0_inClimbs 104 = .ok (.getfield 9, 3) := by decide +kernel
theorem dX0_inClimbs_107 : decode cX0_inClimbs 107 = .ok (.iload 7, 2) := by decide +kernel
theorem dX0_inClimbs_109 : decode cX0_inClimbs 109 = .ok (.iaload, 1) := by decide +kernel
theorem dX0_inClimbs_110 : decode cX0_inClimbs 110 = .ok (.iload 5, 2) := by decide +kernel
theorem dX0_inClimbs_112 : decode cX0_inClimbs 112 = .ok (.iand, 1) := by decide +kernel
theorem dX0_inClimbs_113 : decode cX0_inClimbs 113 = .ok (.ifCond .eq 10, 3) := by decide +kernel
theorem dX0_inClimbs_116 : decode cX0_inClimbs 116 = .ok (.iload 8, 2) := by decide +kernel
theorem dX0_inClimbs_118 : decode cX0_inClimbs 118 = .ok (.iload 7, 2) := by decide +kernel
theorem dX0_inClimbs_120 : decode cX0_inClimbs 120 = .ok (.ior, 1) := by decide +kernel
theorem dX0_inClimbs_121 : decode cX0_inClimbs 121 = .ok (.istore 8, 2) := by decide +kernel
theorem dX0_inClimbs_123 : decode cX0_inClimbs 123 = .ok (.iinc 9 1, 3) := by decide +kernel
theorem dX0_inClimbs_126 : decode cX0_inClimbs 126 = .ok (.goto (-59), 3) := by decide +kernel
theorem dX0_inClimbs_129 : decode cX0_inClimbs 129 = .ok (.iload 8, 2) := by decide +kernel
theorem dX0_inClimbs_131 : decode cX0_inClimbs 131 = .ok (.iload 4, 2) := by decide +kernel
theorem dX0_inClimbs_133 : decode cX0_inClimbs 133 = .ok (.ior, 1) := by decide +kernel
theorem dX0_inClimbs_134 : decode cX0_inClimbs 134 = .ok (.ireturn, 1) := by decide +kernel
theorem kw_11 : Cond.initialized "FootholdWall$Chains" ∈ gw := gw_of (tb_of 11 (by decide +kernel)) (by decide +kernel)
theorem kw_119 : Cond.fieldLink "FootholdWall$Chains" 57 "FootholdWall$Wall" "starts" "I" ∈ gw := gw_of (tb_of 119 (by decide +kernel)) (by decide +kernel)
theorem kw_125 : Cond.fieldLink "FootholdWall$Chains" 52 "FootholdWall$Wall" "tops" "I" ∈ gw := gw_of (tb_of 125 (by decide +kernel)) (by decide +kernel)
theorem kw_247 : Cond.fieldLink "FootholdWall$Chains" 48 "FootholdWall$Rows" "wall" "LFootholdWall$Wall;" ∈ gw := gw_of (tb_of 247 (by decide +kernel)) (by decide +kernel)
theorem kw_333 : Cond.fieldLink "FootholdWall$Chains" 22 "FootholdWall$Chains" "path" "[I" ∈ gw := gw_of (tb_of 333 (by decide +kernel)) (by decide +kernel)
theorem kw_1071 : Cond.methodLink "FootholdWall$Chains" 45 yX5_reached ∈ gw := gw_of (tb_of 1071 (by decide +kernel)) (by decide +kernel)
theorem kw_1072 : Cond.methodLink "FootholdWall$Chains" 60 yX0_leadingOn ∈ gw := gw_of (tb_of 1072 (by decide +kernel)) (by decide +kernel)
theorem kw_1073 : Cond.static yX0_leadingOn ∈ gw := gw_of (tb_of 1073 (by decide +kernel)) (by decide +kernel)
theorem kw_1074 : Cond.code yX0_leadingOn cX0_leadingOn 8 (some (.int)) ∈ gw := gw_of (tb_of 1074 (by decide +kernel)) (by decide +kernel)
theorem kw_1076 : Cond.methodLink "FootholdWall$Chains" 64 yX0_prepare ∈ gw := gw_of (tb_of 1076 (by decide +kernel)) (by decide +kernel)
theorem kw_1078 : Cond.instanceMethod yX0_prepare ∈ gw := gw_of (tb_of 1078 (by decide +kernel)) (by decide +kernel)
theorem kw_1079 : Cond.code yX0_prepare cX0_prepare 8 none ∈ gw := gw_of (tb_of 1079 (by decide +kernel)) (by decide +kernel)
theorem kw_1089 : Cond.methodLink "FootholdWall$Chains" 68 yX0_growFrom ∈ gw := gw_of (tb_of 1089 (by decide +kernel)) (by decide +kernel)
theorem kw_1091 : Cond.instanceMethod yX0_growFrom ∈ gw := gw_of (tb_of 1091 (by decide +kernel)) (by decide +kernel)
theorem kw_1092 : Cond.code yX0_growFrom cX0_growFrom 4 none ∈ gw := gw_of (tb_of 1092 (by decide +kernel)) (by decide +kernel)
theorem kw_1128 : Cond.instanceMethod yX0_fewest ∈ gw := gw_of (tb_of 1128 (by decide +kernel)) (by decide +kernel)
theorem kw_1129 : Cond.selects "FootholdWall$Chains" yX0_fewest yX0_fewest ∈ gw := gw_of (tb_of 1129 (by decide +kernel)) (by decide +kernel)
theorem kw_1130 : Cond.code yX0_fewest cX0_fewest 14 (some (.int)) ∈ gw := gw_of (tb_of 1130 (by decide +kernel)) (by decide +kernel)
theorem kw_1131 : Cond.methodLink "FootholdWall$Chains" 72 yX5_spread ∈ gw := gw_of (tb_of 1131 (by decide +kernel)) (by decide +kernel)
theorem kw_1140 : Cond.methodLink "FootholdWall$Chains" 76 yX0_fewest ∈ gw := gw_of (tb_of 1140 (by decide +kernel)) (by decide +kernel)
theorem kw_1141 : Cond.methodLink "FootholdWall$Chains" 79 yX0_begunOver ∈ gw := gw_of (tb_of 1141 (by decide +kernel)) (by decide +kernel)
theorem kw_1143 : Cond.instanceMethod yX0_begunOver ∈ gw := gw_of (tb_of 1143 (by decide +kernel)) (by decide +kernel)
theorem kw_1144 : Cond.code yX0_begunOver cX0_begunOver 9 (some (.int)) ∈ gw := gw_of (tb_of 1144 (by decide +kernel)) (by decide +kernel)
theorem kw_1145 : Cond.methodLink "FootholdWall$Chains" 83 yJ6_numberOfTrailingZeros_0f7a4 ∈ gw := gw_of (tb_of 1145 (by decide +kernel)) (by decide +kernel)
theorem ks_38 : Cond.selects RX0 yX0_prepare yX0_prepare ∈ gw := gw_of (pv_of 38 (by decide +kernel)) (by decide +kernel)
theorem ks_39 : Cond.selects RX0 yX0_growFrom yX0_growFrom ∈ gw := gw_of (pv_of 39 (by decide +kernel)) (by decide +kernel)
theorem ks_40 : Cond.selects RX0 yX0_begunOver yX0_begunOver ∈ gw := gw_of (pv_of 40 (by decide +kernel)) (by decide +kernel)
set_option maxHeartbeats 4000000 in
set_option maxRecDepth 100000 in
theorem s_Ch_inClimbs (l : Launch) (D : va_G) (cs : CS) (kf : KF) (T : TF) (O : List Nat) (X : va_W) (a0 : Nat) (a1 : Nat) (x2 : Int32) (y0 : Nat) (y1 : Int32) (y2 : Nat) (y3 : Nat) (nn j gq : Nat) (t_a0 : T a0 = some (10, gq, 0)) (t_a1 : T a1 = some (15, 0, 0)) (t_y0 : T y0 = some (1, nn, 0)) (l_y1 : 0 ≤ y1.toInt) (u_y1 : y1.toInt ≤ 16383) (t_y2 : T y2 = some (1, 14, 1)) (t_y3 : T y3 = some (1, 14, 0)) (hn : nn = 2 ^ j) (hj : j ≤ 14) (hO : okO T (a0 :: O) [1, 12, 15, 19]) : TKD l D cs kf yX0_inClimbs cX0_inClimbs 10 (some (.int)) { frames := 6, cells := 1, slots := 16384, locals := 150 } [.ref a0, .ref a1, .int x2] T (a0 :: O) ((a0, .inr (0, [.ref y0, .int y1, .ref y2, .ref y3])) :: X) (fun kk ss => Ti D cs ((fun kk ss r u => ∃ T2 : TF, Tgr T T2 ∧ ∃ (n2 : Nat) (j2 : Nat) (n0_0 : Nat) (n0_1 : Int32), u = (T2, a0 :: O, (a0, .inr (0, [.ref n0_0, .int n0_1, .ref y2, .ref y3])) :: X) ∧ 0 ≤ r.toInt ∧ r.toInt ≤ 16383 ∧ (T2 n0_0 = some (1, n2, 0)) ∧ (n2 = 2 ^ j2) ∧ (j ≤ j2) ∧ (j2 ≤ 14) ∧ (0 ≤ n0_1.toInt) ∧ (n0_1.toInt ≤ 16383) ∧ (n0_1.toInt < n2) ∧ (kk + j ≤ j2) ∧ (ss + 16384 * j ≤ 16384 * j2) ∧ (kk ≤ 1) ∧ (ss ≤ 16384)) kk ss)) := by
  refine tkd_of (by decide) (Nat.le_of_ble_eq_true rfl) (fun p e s m below meth c ls A H locs hx hb hr hml hown hts hlocks hnm hkb hH hS hA hOX hks hE hl => ?_)
  have hown : s.vm.findClass RX0 = some m.cls := hown
  have hl : lv_has ls 10 [(0, .ref a0), (1, .ref a1), (2, .int x2)] := hl
  have hOXf := hOX
  have hnb := p2_le hn hj
  refine lv_aload_n hx hb dX0_inClimbs_0 rfl (lv_at hl 1 rfl) ?_
  refine lv_iload_n hx hb dX0_inClimbs_1 rfl (lv_at hl 2 rfl) ?_
  refine tk_i hH hS hA (tr_V (n := 1) (As := [.int x2]) hx hb hml hown hts hkb hH (ox_map hOX rfl) hks hE hS hA (s_Rows_reached l D cs kf T (a0 :: O) ((a0, .inr (0, [.ref y0, .int y1, .ref y2, .ref y3])) :: X) a1 x2 t_a1 (hO.sub (by decide))) kw_1071 kw_851 kw_852 kw_8 kw_853 (by decide +kernel) ⟨Nat.le_of_ble_eq_true rfl, Nat.le_of_ble_eq_true rfl⟩ (HT.recv (ci := 5) hkb hH t_a1 (hO.no t_a1 (by decide)) rfl) rfl rfl hl.1 (Nat.le_of_ble_eq_true rfl) dX0_inClimbs_2 ⟨by show 0 + 0 ≤ 1; omega, by show 0 + 0 ≤ 16384; omega⟩) (fun v2 u H locs hz9 hH hS => ?_)
  obtain ⟨rfl, l_v2, u_v2⟩ := hz9
  have hH : HT D cs A T (a0 :: O) ((a0, .inr (0, [.ref y0, .int y1, .ref y2, .ref y3])) :: X) H := hH
  refine W.widen (k := 0) (n := 0) (Nat.le_refl _) (Nat.le_refl _) ?_
  refine lv_istore_n (lv' := [(3, .int v2), (0, .ref a0), (1, .ref a1), (2, .int x2)]) hx hb dX0_inClimbs_5 rfl hl (by decide) rfl (fun ls hl => ?_)
  refine lv_iload_n hx hb dX0_inClimbs_6 rfl (lv_at hl 0 rfl) ?_
  refine lv_aload_n hx hb dX0_inClimbs_7 rfl (lv_at hl 2 rfl) ?_
  refine t_get (ci := 5) (lst := ft5 0 0) (C := RX5) (F := TX5) (N := 6) hx hb hts uX5 hown hkb hH t_a1 (hO.no t_a1 (by decide)) (fun _ h9 => h9) rfl rfl 0 (by decide) rfl kw_247 (fun _ h9 => h9) dX0_inClimbs_8 (fun v9 h9 => ?_)
  obtain ⟨v8, hv8, gv8, rfl, t_v8⟩ := h9
  refine t_get (ci := 9) (lst := ft9w hv8 gv8) (C := RX9) (F := TX9) (N := 14) hx hb hts uX9 hown hkb hH t_v8.1 (hO.no t_v8.1 (by decide)) (fun fs => (ob9w t_v8 fs).mp) rfl rfl 4 (by decide) rfl kw_125 (fun _ h9 => h9) dX0_inClimbs_11 (fun v9 h9 => ?_)
  obtain ⟨v11, rfl, l_v11, u_v11⟩ := h9
  refine lv_iand hx hb dX0_inClimbs_14 ?_
  refine lv_topi (fun v14 ev14 => ?_)
  have tv14 : 0 ≤ v14.toInt ∧ v14.toInt ≤ v2.toInt := by rw [ev14]; exact and_l (by omega)
  have ttv14 : 0 ≤ v14.toInt ∧ v14.toInt ≤ v11.toInt := by rw [ev14]; exact and_r (by omega)
  refine lv_istore (lv' := [(4, .int v14), (3, .int v2), (0, .ref a0), (1, .ref a1), (2, .int x2)]) hx hb dX0_inClimbs_15 hl (by decide) rfl (fun ls hl => ?_)
  refine lv_iload_n hx hb dX0_inClimbs_17 rfl (lv_at hl 4 rfl) ?_
  refine lv_aload_n hx hb dX0_inClimbs_18 rfl (lv_at hl 3 rfl) ?_
  refine t_get (ci := 5) (lst := ft5 0 0) (C := RX5) (F := TX5) (N := 6) hx hb hts uX5 hown hkb hH t_a1 (hO.no t_a1 (by decide)) (fun _ h9 => h9) rfl rfl 0 (by decide) rfl kw_247 (fun _ h9 => h9) dX0_inClimbs_19 (fun v9 h9 => ?_)
  obtain ⟨v19, hv19, gv19, rfl, t_v19⟩ := h9
  refine t_get (ci := 9) (lst := ft9w hv19 gv19) (C := RX9) (F := TX9) (N := 14) hx hb hts uX9 hown hkb hH t_v19.1 (hO.no t_v19.1 (by decide)) (fun fs => (ob9w t_v19 fs).mp) rfl rfl 3 (by decide) rfl kw_119 (fun _ h9 => h9) dX0_inClimbs_22 (fun v9 h9 => ?_)
  obtain ⟨v22, rfl, l_v22, u_v22⟩ := h9
  refine lv_iand hx hb dX0_inClimbs_25 ?_
  refine lv_topi (fun v25 ev25 => ?_)
  have tv25 : 0 ≤ v25.toInt ∧ v25.toInt ≤ v22.toInt := by rw [ev25]; exact and_r (by omega)
  refine lv_istore (lv' := [(5, .int v25), (4, .int v14), (3, .int v2), (0, .ref a0), (1, .ref a1), (2, .int x2)]) hx hb dX0_inClimbs_26 hl (by decide) rfl (fun ls hl => ?_)
  refine lv_aload_n hx hb dX0_inClimbs_28 rfl (lv_at hl 3 rfl) ?_
  refine lv_aload_n hx hb dX0_inClimbs_29 rfl (lv_at hl 4 rfl) ?_
  refine lv_aload_n hx hb dX0_inClimbs_30 rfl (lv_at hl 4 rfl) ?_
  refine lv_iload_n hx hb dX0_inClimbs_31 rfl (lv_at hl 2 rfl) ?_
  refine lv_iload hx hb dX0_inClimbs_32 (lv_at hl 1 rfl) ?_
  refine lv_iconst (v := (-1)) hx hb dX0_inClimbs_34 (by decide) ?_
  refine lv_ixor hx hb dX0_inClimbs_35 ?_
  refine lv_topi (fun v35 ev35 => ?_)
  refine lv_iand hx hb dX0_inClimbs_36 ?_
  refine lv_topi (fun v36 ev36 => ?_)
  have tv36 : 0 ≤ v36.toInt ∧ v36.toInt ≤ v2.toInt := by rw [ev36]; exact and_l (by omega)
  refine lv_iload hx hb dX0_inClimbs_37 (lv_at hl 1 rfl) ?_
  refine tk_i hH hS hA (tr_S (n := 3) (As := [.ref a1, .int v36, .int v14]) hx hb hml hown hts hkb hH (ox_map hOX rfl) hks hE hS hA (s_Ch_leadingOn l D cs kf T (a0 :: O) ((a0, .inr (0, [.ref y0, .int y1, .ref y2, .ref y3])) :: X) a1 v36 v14 t_a1 (by omega) (by omega) (hO.sub (by decide))) kw_1072 kw_1073 kw_11 kw_1074 (by decide +kernel) ⟨Nat.le_of_ble_eq_true rfl, Nat.le_of_ble_eq_true rfl⟩ rfl rfl hl.1 (Nat.le_of_ble_eq_true rfl) dX0_inClimbs_39 ⟨by show 0 + 0 ≤ 1; omega, by show 0 + 0 ≤ 16384; omega⟩) (fun v39 u H locs hz9 hH hS => ?_)
  obtain ⟨rfl, l_v39, u_v39⟩ := hz9
  have hH : HT D cs A T (a0 :: O) ((a0, .inr (0, [.ref y0, .int y1, .ref y2, .ref y3])) :: X) H := hH
  refine W.widen (k := 0) (n := 0) (Nat.le_refl _) (Nat.le_refl _) ?_
  refine lv_iload hx hb dX0_inClimbs_42 (lv_at hl 1 rfl) ?_
  refine tk_vD hH hS hA (tr_VD (n := 3) (As := [.ref a1, .int v39, .int v14]) hx hb hml hown hts hkb hH (ox_map hOX rfl) hks hE hS hA (s_Ch_prepare l D cs kf T O X a0 a1 v39 v14 y0 y1 y2 y3 nn j gq t_a0 t_a1 (by omega) (by omega) t_y0 (by omega) (by omega) t_y2 t_y3 hn (by omega) (hO.sub (by decide))) kw_1076 kw_1078 ks_38 kw_11 kw_1079 (by decide +kernel) ⟨Nat.le_of_ble_eq_true rfl, Nat.le_of_ble_eq_true rfl⟩ (x_recv (ci := 0) hkb hH 0 rfl rfl) rfl rfl hl.1 (Nat.le_of_ble_eq_true rfl) dX0_inClimbs_44 ⟨by show 0 + 1 ≤ 1; omega, by show 0 + 16384 ≤ 16384; omega⟩) (fun kc44 ks44 u H locs hz9 hH hS => ?_)
  obtain ⟨T44, le_T44, n2_44, j2_44, n44_0_0, n44_0_1, rfl, x_v440, x_v441, x_v442, x_v443, x_v444, x_v445, x_v446, x_v447, x_v448, x_v449, x_v4410⟩ := hz9
  have t_a0 := le_T44.1 _ _ t_a0
  have t_a1 := le_T44.1 _ _ t_a1
  have t_y0 := le_T44.1 _ _ t_y0
  have t_y2 := le_T44.1 _ _ t_y2
  have t_y3 := le_T44.1 _ _ t_y3
  have t_v8 := isW.le le_T44.1 t_v8
  have t_v19 := isW.le le_T44.1 t_v19
  have hO := okO.le le_T44.1 hO
  have t_n44_0_0 := x_v440
  have hnb_44 := p2_le x_v441 (by omega)
  have hH : HT D cs A T44 (a0 :: O) ((a0, .inr (0, [.ref n44_0_0, .int n44_0_1, .ref y2, .ref y3])) :: X) H := hH
  refine lv_iconst (v := 1) hx hb dX0_inClimbs_47 (by decide) ?_
  refine lv_aload_n hx hb dX0_inClimbs_48 rfl (lv_at hl 3 rfl) ?_
  refine x_getk (ci := 0) (C := RX0) (F := TX0) (N := 4) (v := .int n44_0_1) hx hb hts uX0 hown hkb hH 0 rfl rfl 1 (by decide) rfl kw_331 (fun _ h9 => h9) dX0_inClimbs_49 ?_
  refine tk_i hH hS hA (tr_S (n := 1) (As := [.int n44_0_1]) hx hb hml hown hts hkb hH (ox_map hOX rfl) hks hE hS hA (s_bitCount l D cs kf T44 (a0 :: O) ((a0, .inr (0, [.ref n44_0_0, .int n44_0_1, .ref y2, .ref y3])) :: X) n44_0_1  (hO.sub (by decide))) kw_1088 kw_692 kw_20 kw_693 (by decide +kernel) ⟨Nat.le_of_ble_eq_true rfl, Nat.le_of_ble_eq_true rfl⟩ rfl rfl hl.1 (Nat.le_of_ble_eq_true rfl) dX0_inClimbs_52 ⟨by show (0 + kc44) + 0 ≤ 1; omega, by show (0 + ks44) + 0 ≤ 16384; omega⟩) (fun v52 u H locs hz9 hH hS => ?_)
  obtain ⟨rfl, l_v52, u_v52⟩ := hz9
  have hH : HT D cs A T44 (a0 :: O) ((a0, .inr (0, [.ref n44_0_0, .int n44_0_1, .ref y2, .ref y3])) :: X) H := hH
  refine W.widen (k := 0 + kc44) (n := 0 + ks44) (Nat.le_refl _) (Nat.le_refl _) ?_
  refine lv_ishl hx hb dX0_inClimbs_55 ?_
  refine lv_topi (fun v55 ev55 => ?_)
  refine lv_istore (lv' := [(6, .int v55), (5, .int v25), (4, .int v14), (3, .int v2), (0, .ref a0), (1, .ref a1), (2, .int x2)]) hx hb dX0_inClimbs_56 hl (by decide) rfl (fun ls hl => ?_)
  refine lv_iconst (v := 0) hx hb dX0_inClimbs_58 (by decide) ?_
  refine lv_istore (lv' := [(7, .int 0), (6, .int v55), (5, .int v25), (4, .int v14), (3, .int v2), (0, .ref a0), (1, .ref a1), (2, .int x2)]) hx hb dX0_inClimbs_59 hl (by decide) rfl (fun ls hl => ?_)
  refine lv_iconst (v := 0) hx hb dX0_inClimbs_61 (by decide) ?_
  refine lv_istore (lv' := [(8, .int 0), (7, .int 0), (6, .int v55), (5, .int v25), (4, .int v14), (3, .int v2), (0, .ref a0), (1, .ref a1), (2, .int x2)]) hx hb dX0_inClimbs_62 hl (by decide) rfl (fun ls hl => ?_)
  refine lv_iconst (v := 1) hx hb dX0_inClimbs_64 (by decide) ?_
  have J67 : ∀ (n : Nat) (p67_9 : Int32) (p67_8 : Int32) (p67_7 : Int32) (H : Heap) (locs : List Loc) (ls : Array Slot), (2147483647 - p67_9.toInt).toNat = n → (1 ≤ p67_9.toInt) → (0 ≤ p67_8.toInt) → (p67_8.toInt ≤ 16383) → (0 ≤ p67_7.toInt) → (p67_7.toInt ≤ 16383) → (p67_7.toInt ≤ n44_0_1.toInt ∧ 0 ≤ p67_7.toInt) → HT D cs A T44 (a0 :: O) ((a0, .inr (0, [.ref n44_0_0, .int n44_0_1, .ref y2, .ref y3])) :: X) H → va_S A s.heap H locs → lv_has ls 10 [(9, .int p67_9), (8, .int p67_8), (7, .int p67_7), (6, .int v55), (5, .int v25), (4, .int v14), (0, .ref a0)] → W p l e { frames := 6, cells := 1, slots := 16384, locals := 150 } s m [.ref a0, .ref a1, .int x2].toArray below meth c H locs (0 + kc44) (0 + ks44) (MQD below (fun kk ss => Ti D cs ((fun kk ss r u => ∃ T2 : TF, Tgr T T2 ∧ ∃ (n2 : Nat) (j2 : Nat) (n0_0 : Nat) (n0_1 : Int32), u = (T2, a0 :: O, (a0, .inr (0, [.ref n0_0, .int n0_1, .ref y2, .ref y3])) :: X) ∧ 0 ≤ r.toInt ∧ r.toInt ≤ 16383 ∧ (T2 n0_0 = some (1, n2, 0)) ∧ (n2 = 2 ^ j2) ∧ (j ≤ j2) ∧ (j2 ≤ 14) ∧ (0 ≤ n0_1.toInt) ∧ (n0_1.toInt ≤ 16383) ∧ (n0_1.toInt < n2) ∧ (kk + j ≤ j2) ∧ (ss + 16384 * j ≤ 16384 * j2) ∧ (kk ≤ 1) ∧ (ss ≤ 16384)) kk ss) A) [.ref a0, .ref a1, .int x2].toArray s A) (F0 m 67 ls []) := by
    intro n
    induction n using Nat.strongRecOn with
    | _ n ih67 =>
      intro p67_9 p67_8 p67_7 H locs ls hm67 l_p67_9 l_p67_8 u_p67_8 l_p67_7 u_p67_7 i67 hH hS hl
      refine lv_iload hx hb dX0_inClimbs_67 (lv_at hl 0 rfl) ?_
      refine lv_iload hx hb dX0_inClimbs_69 (lv_at hl 3 rfl) ?_
      have J129 : ∀  (H : Heap) (locs : List Loc) (ls : Array Slot), HT D cs A T44 (a0 :: O) ((a0, .inr (0, [.ref n44_0_0, .int n44_0_1, .ref y2, .ref y3])) :: X) H → va_S A s.heap H locs → lv_has ls 10 [(8, .int p67_8), (4, .int v14)] → W p l e { frames := 6, cells := 1, slots := 16384, locals := 150 } s m [.ref a0, .ref a1, .int x2].toArray below meth c H locs (0 + kc44) (0 + ks44) (MQD below (fun kk ss => Ti D cs ((fun kk ss r u => ∃ T2 : TF, Tgr T T2 ∧ ∃ (n2 : Nat) (j2 : Nat) (n0_0 : Nat) (n0_1 : Int32), u = (T2, a0 :: O, (a0, .inr (0, [.ref n0_0, .int n0_1, .ref y2, .ref y3])) :: X) ∧ 0 ≤ r.toInt ∧ r.toInt ≤ 16383 ∧ (T2 n0_0 = some (1, n2, 0)) ∧ (n2 = 2 ^ j2) ∧ (j ≤ j2) ∧ (j2 ≤ 14) ∧ (0 ≤ n0_1.toInt) ∧ (n0_1.toInt ≤ 16383) ∧ (n0_1.toInt < n2) ∧ (kk + j ≤ j2) ∧ (ss + 16384 * j ≤ 16384 * j2) ∧ (kk ≤ 1) ∧ (ss ≤ 16384)) kk ss) A) [.ref a0, .ref a1, .int x2].toArray s A) (F0 m 129 ls []) := by
        intro  H locs ls  hH hS hl
        refine lv_iload hx hb dX0_inClimbs_129 (lv_at hl 0 rfl) ?_
        refine lv_iload hx hb dX0_inClimbs_131 (lv_at hl 1 rfl) ?_
        refine lv_ior hx hb dX0_inClimbs_133 ?_
        refine lv_topi (fun v133 ev133 => ?_)
        have tv133 : 0 ≤ v133.toInt ∧ v133.toInt < 16384 := by rw [ev133]; exact or_b 14 (by decide) (by omega) (by omega) (by omega) (by omega)
        exact te_iD hx hb hr hlocks hH hS (⟨T44, le_T44, n2_44, j2_44, n44_0_0, n44_0_1, rfl, by omega, by omega, t_n44_0_0, x_v441, by omega, by omega, by omega, by omega, by omega, by omega, by omega, by omega, by omega⟩) dX0_inClimbs_134
      refine lv_icmp_ge (tgt := 129) hx hb dX0_inClimbs_71 (by decide) (fun c71 => ?_) (fun c71 => ?_)
      · skip
        have fuc71 := full_i p67_9
        have fvc71 := full_i v55
        have tc71 := g_le c71
        exact J129  _ _ _  hH hS (lv_sub hl [1, 5] rfl)
      · skip
        have fuc71 := full_i p67_9
        have fvc71 := full_i v55
        have tc71 := g_nle c71
        refine lv_iload hx hb dX0_inClimbs_74 (lv_at hl 1 rfl) ?_
        refine lv_aload_n hx hb dX0_inClimbs_76 rfl (lv_at hl 6 rfl) ?_
        refine x_getk (ci := 0) (C := RX0) (F := TX0) (N := 4) (v := .int n44_0_1) hx hb hts uX0 hown hkb hH 0 rfl rfl 1 (by decide) rfl kw_331 (fun _ h9 => h9) dX0_inClimbs_77 ?_
        refine lv_icmp_eq (tgt := 129) hx hb dX0_inClimbs_80 (by decide) (fun c80 => ?_) (fun c80 => ?_)
        · skip
          have fuc80 := full_i p67_8
          have fvc80 := full_i n44_0_1
          have tc80 := g_eq c80
          exact J129  _ _ _  hH hS (lv_sub hl [1, 5] rfl)
        · skip
          have fuc80 := full_i p67_8
          have fvc80 := full_i n44_0_1
          have tc80 := g_ne c80
          refine lv_iload hx hb dX0_inClimbs_83 (lv_at hl 2 rfl) ?_
          refine lv_aload_n hx hb dX0_inClimbs_85 rfl (lv_at hl 6 rfl) ?_
          refine x_getk (ci := 0) (C := RX0) (F := TX0) (N := 4) (v := .int n44_0_1) hx hb hts uX0 hown hkb hH 0 rfl rfl 1 (by decide) rfl kw_331 (fun _ h9 => h9) dX0_inClimbs_86 ?_
          refine lv_isub hx hb dX0_inClimbs_89 ?_
          refine lv_topi (fun v89 ev89 => ?_)
          have tv89 : v89.toInt = p67_7.toInt - n44_0_1.toInt := by rw [ev89]; exact sub_i rfl rfl (by omega) (by omega)
          refine lv_aload_n hx hb dX0_inClimbs_90 rfl (lv_at hl 6 rfl) ?_
          refine x_getk (ci := 0) (C := RX0) (F := TX0) (N := 4) (v := .int n44_0_1) hx hb hts uX0 hown hkb hH 0 rfl rfl 1 (by decide) rfl kw_331 (fun _ h9 => h9) dX0_inClimbs_91 ?_
          refine lv_iand hx hb dX0_inClimbs_94 ?_
          refine lv_topi (fun v94 ev94 => ?_)
          have tv94 : 0 ≤ v94.toInt ∧ v94.toInt ≤ n44_0_1.toInt := by rw [ev94]; exact and_r (by omega)
          refine lv_istore (lv' := [(7, .int v94), (9, .int p67_9), (8, .int p67_8), (6, .int v55), (5, .int v25), (4, .int v14), (0, .ref a0)]) hx hb dX0_inClimbs_95 hl (by decide) rfl (fun ls hl => ?_)
          refine lv_aload_n hx hb dX0_inClimbs_97 rfl (lv_at hl 6 rfl) ?_
          refine lv_iload hx hb dX0_inClimbs_98 (lv_at hl 0 rfl) ?_
          refine tk_v hH hS hA (tr_V (n := 1) (As := [.int v94]) hx hb hml hown hts hkb hH (ox_map hOX rfl) hks hE hS hA (s_Ch_growFrom l D cs kf T44 O X a0 v94 n44_0_0 n44_0_1 y2 y3 n2_44 j2_44 gq t_a0 (by omega) (by omega) t_n44_0_0 (by omega) (by omega) t_y2 t_y3 x_v441 (by omega) (by omega) (by omega) (hO.sub (by decide))) kw_1089 kw_1091 ks_39 kw_11 kw_1092 (by decide +kernel) ⟨Nat.le_of_ble_eq_true rfl, Nat.le_of_ble_eq_true rfl⟩ (x_recv (ci := 0) hkb hH 0 rfl rfl) rfl rfl hl.1 (Nat.le_of_ble_eq_true rfl) dX0_inClimbs_100 ⟨by show (0 + kc44) + 0 ≤ 1; omega, by show (0 + ks44) + 0 ≤ 16384; omega⟩) (fun u H locs hz9 hH hS => ?_)
          obtain ⟨rfl⟩ := hz9
          have hH : HT D cs A T44 (a0 :: O) ((a0, .inr (0, [.ref n44_0_0, .int n44_0_1, .ref y2, .ref y3])) :: X) H := hH
          refine W.widen (k := 0 + kc44) (n := 0 + ks44) (Nat.le_refl _) (Nat.le_refl _) ?_
          refine lv_aload_n hx hb dX0_inClimbs_103 rfl (lv_at hl 6 rfl) ?_
          refine x_getk (ci := 0) (C := RX0) (F := TX0) (N := 4) (v := .ref n44_0_0) hx hb hts uX0 hown hkb hH 0 rfl rfl 0 (by decide) rfl kw_330 (fun _ h9 => h9) dX0_inClimbs_104 ?_
          refine lv_iload hx hb dX0_inClimbs_107 (lv_at hl 0 rfl) ?_
          refine t_ild hx hb hkb hH t_n44_0_0 (hO.no t_n44_0_0 (by decide)) (by omega) (by omega) dX0_inClimbs_109 (fun v109 h9 => ?_)
          refine lv_iload hx hb dX0_inClimbs_110 (lv_at hl 4 rfl) ?_
          refine lv_iand hx hb dX0_inClimbs_112 ?_
          refine lv_topi (fun v112 ev112 => ?_)
          have tv112 : 0 ≤ v112.toInt ∧ v112.toInt ≤ v25.toInt := by rw [ev112]; exact and_r (by omega)
          have J123 : ∀ (p123_8 : Int32) (H : Heap) (locs : List Loc) (ls : Array Slot), (0 ≤ p123_8.toInt) → (p123_8.toInt ≤ 16383) → HT D cs A T44 (a0 :: O) ((a0, .inr (0, [.ref n44_0_0, .int n44_0_1, .ref y2, .ref y3])) :: X) H → va_S A s.heap H locs → lv_has ls 10 [(7, .int v94), (9, .int p67_9), (8, .int p123_8), (6, .int v55), (5, .int v25), (4, .int v14), (0, .ref a0)] → W p l e { frames := 6, cells := 1, slots := 16384, locals := 150 } s m [.ref a0, .ref a1, .int x2].toArray below meth c H locs (0 + kc44) (0 + ks44) (MQD below (fun kk ss => Ti D cs ((fun kk ss r u => ∃ T2 : TF, Tgr T T2 ∧ ∃ (n2 : Nat) (j2 : Nat) (n0_0 : Nat) (n0_1 : Int32), u = (T2, a0 :: O, (a0, .inr (0, [.ref n0_0, .int n0_1, .ref y2, .ref y3])) :: X) ∧ 0 ≤ r.toInt ∧ r.toInt ≤ 16383 ∧ (T2 n0_0 = some (1, n2, 0)) ∧ (n2 = 2 ^ j2) ∧ (j ≤ j2) ∧ (j2 ≤ 14) ∧ (0 ≤ n0_1.toInt) ∧ (n0_1.toInt ≤ 16383) ∧ (n0_1.toInt < n2) ∧ (kk + j ≤ j2) ∧ (ss + 16384 * j ≤ 16384 * j2) ∧ (kk ≤ 1) ∧ (ss ≤ 16384)) kk ss) A) [.ref a0, .ref a1, .int x2].toArray s A) (F0 m 123 ls []) := by
            intro p123_8 H locs ls l_p123_8 u_p123_8 hH hS hl
            obtain ⟨v123, ev123⟩ : ∃ y : Int32, y = p67_9 + 1 := ⟨_, rfl⟩
            have tv123 : v123.toInt = p67_9.toInt + (1) := by rw [ev123]; exact add_i rfl (by decide) (by omega) (by omega)
            refine lv_iinc (v := v123) (lv' := [(9, .int v123), (7, .int v94), (8, .int p123_8), (6, .int v55), (5, .int v25), (4, .int v14), (0, .ref a0)]) hx hb dX0_inClimbs_123 hl (k := 1) rfl (by rw [ev123]; rfl) (by decide) rfl (fun ls hl => ?_)
            refine lv_goto (tgt := 67) hx hb dX0_inClimbs_126 (by decide) ?_
            exact ih67 _ (by omega) v123 p123_8 v94 _ _ _ rfl (by omega) (by omega) (by omega) (by omega) (by omega) (by omega) hH hS (lv_sub hl [0, 2, 1, 3, 4, 5, 6] rfl)
          refine lv_if_eq (tgt := 123) hx hb dX0_inClimbs_113 (by decide) (fun c113 => ?_) (fun c113 => ?_)
          · skip
            have tc113 := f_eq (k := 0) (by decide) c113
            exact J123 p67_8 _ _ _ (by omega) (by omega) hH hS (lv_sub hl [0, 1, 2, 3, 4, 5, 6] rfl)
          · skip
            have tc113 := f_ne (k := 0) (by decide) c113
            refine lv_iload hx hb dX0_inClimbs_116 (lv_at hl 2 rfl) ?_
            refine lv_iload hx hb dX0_inClimbs_118 (lv_at hl 0 rfl) ?_
            refine lv_ior hx hb dX0_inClimbs_120 ?_
            refine lv_topi (fun v120 ev120 => ?_)
            have tv120 : 0 ≤ v120.toInt ∧ v120.toInt < 16384 := by rw [ev120]; exact or_b 14 (by decide) (by omega) (by omega) (by omega) (by omega)
            refine lv_istore (lv' := [(8, .int v120), (7, .int v94), (9, .int p67_9), (6, .int v55), (5, .int v25), (4, .int v14), (0, .ref a0)]) hx hb dX0_inClimbs_121 hl (by decide) rfl (fun ls hl => ?_)
            exact J123 v120 _ _ _ (by omega) (by omega) hH hS (lv_sub hl [1, 2, 0, 3, 4, 5, 6] rfl)
  refine lv_istore (lv' := [(9, .int 1), (8, .int 0), (7, .int 0), (6, .int v55), (5, .int v25), (4, .int v14), (3, .int v2), (0, .ref a0), (1, .ref a1), (2, .int x2)]) hx hb dX0_inClimbs_65 hl (by decide) rfl (fun ls hl => ?_)
  have z_0 : (0 : Int32).toInt = 0 := by decide
  have z_1 : (1 : Int32).toInt = 1 := by decide
  exact J67 _ 1 0 0 _ _ _ rfl (by decide) (by decide) (by decide) (by decide) (by decide) (by omega) hH hS (lv_sub hl [0, 1, 2, 3, 4, 5, 7] rfl)
set_option maxHeartbeats 4000000 in
set_option maxRecDepth 100000 in
theorem s_Ch_fewest (l : Launch) (D : va_G) (cs : CS) (kf : KF) (T : TF) (O : List Nat) (X : va_W) (a0 : Nat) (a1 : Nat) (x2 : Int32) (x3 : Int32) (y0 : Nat) (y1 : Int32) (y2 : Nat) (y3 : Nat) (nn j gq : Nat) (t_a0 : T a0 = some (10, gq, 0)) (t_a1 : T a1 = some (15, 0, 0)) (t_y0 : T y0 = some (1, nn, 0)) (l_y1 : 0 ≤ y1.toInt) (u_y1 : y1.toInt ≤ 16383) (t_y2 : T y2 = some (1, 14, 1)) (t_y3 : T y3 = some (1, 14, 0)) (hn : nn = 2 ^ j) (hj : j ≤ 14) (hO : okO T (a0 :: O) [1, 12, 15, 19]) : TKD l D cs kf yX0_fewest cX0_fewest 14 (some (.int)) { frames := 5, cells := 1, slots := 16384, locals := 129 } [.ref a0, .ref a1, .int x2, .int x3] T (a0 :: O) ((a0, .inr (0, [.ref y0, .int y1, .ref y2, .ref y3])) :: X) (fun kk ss => Ti D cs ((fun kk ss r u => ∃ T2 : TF, Tgr T T2 ∧ ∃ (n2 : Nat) (j2 : Nat) (n0_0 : Nat) (n0_1 : Int32), u = (T2, a0 :: O, (a0, .inr (0, [.ref n0_0, .int n0_1, .ref y2, .ref y3])) :: X) ∧ -1 ≤ r.toInt ∧ r.toInt ≤ 63 ∧ (T2 n0_0 = some (1, n2, 0)) ∧ (n2 = 2 ^ j2) ∧ (j ≤ j2) ∧ (j2 ≤ 14) ∧ (0 ≤ n0_1.toInt) ∧ (n0_1.toInt ≤ 16383) ∧ (True) ∧ (kk + j ≤ j2) ∧ (ss + 16384 * j ≤ 16384 * j2) ∧ (kk ≤ 1) ∧ (ss ≤ 16384)) kk ss)) := by
  refine tkd_of (by decide) (Nat.le_of_ble_eq_true rfl) (fun p e s m below meth c ls A H locs hx hb hr hml hown hts hlocks hnm hkb hH hS hA hOX hks hE hl => ?_)
  have hown : s.vm.findClass RX0 = some m.cls := hown
  have hl : lv_has ls 14 [(0, .ref a0), (1, .ref a1), (2, .int x2), (3, .int x3)] := hl
  have hOXf := hOX
  have hnb := p2_le hn hj
  refine lv_iload_n hx hb dX0_fewest_0 rfl (lv_at hl 3 rfl) ?_
  refine lv_aload_n hx hb dX0_fewest_1 rfl (lv_at hl 1 rfl) ?_
  refine t_get (ci := 5) (lst := ft5 0 0) (C := RX5) (F := TX5) (N := 6) hx hb hts uX5 hown hkb hH t_a1 (hO.no t_a1 (by decide)) (fun _ h9 => h9) rfl rfl 0 (by decide) rfl kw_247 (fun _ h9 => h9) dX0_fewest_2 (fun v9 h9 => ?_)
  obtain ⟨v2, hv2, gv2, rfl, t_v2⟩ := h9
  refine t_get (ci := 9) (lst := ft9w hv2 gv2) (C := RX9) (F := TX9) (N := 14) hx hb hts uX9 hown hkb hH t_v2.1 (hO.no t_v2.1 (by decide)) (fun fs => (ob9w t_v2 fs).mp) rfl rfl 4 (by decide) rfl kw_125 (fun _ h9 => h9) dX0_fewest_5 (fun v9 h9 => ?_)
  obtain ⟨v5, rfl, l_v5, u_v5⟩ := h9
  refine lv_iand hx hb dX0_fewest_8 ?_
  refine lv_topi (fun v8 ev8 => ?_)
  have tv8 : 0 ≤ v8.toInt ∧ v8.toInt ≤ v5.toInt := by rw [ev8]; exact and_r (by omega)
  refine lv_istore (lv' := [(4, .int v8), (0, .ref a0), (1, .ref a1), (2, .int x2), (3, .int x3)]) hx hb dX0_fewest_9 hl (by decide) rfl (fun ls hl => ?_)
  refine lv_iload_n hx hb dX0_fewest_11 rfl (lv_at hl 4 rfl) ?_
  refine lv_aload_n hx hb dX0_fewest_12 rfl (lv_at hl 2 rfl) ?_
  refine t_get (ci := 5) (lst := ft5 0 0) (C := RX5) (F := TX5) (N := 6) hx hb hts uX5 hown hkb hH t_a1 (hO.no t_a1 (by decide)) (fun _ h9 => h9) rfl rfl 0 (by decide) rfl kw_247 (fun _ h9 => h9) dX0_fewest_13 (fun v9 h9 => ?_)
  obtain ⟨v13, hv13, gv13, rfl, t_v13⟩ := h9
  refine t_get (ci := 9) (lst := ft9w hv13 gv13) (C := RX9) (F := TX9) (N := 14) hx hb hts uX9 hown hkb hH t_v13.1 (hO.no t_v13.1 (by decide)) (fun fs => (ob9w t_v13 fs).mp) rfl rfl 3 (by decide) rfl kw_119 (fun _ h9 => h9) dX0_fewest_16 (fun v9 h9 => ?_)
  obtain ⟨v16, rfl, l_v16, u_v16⟩ := h9
  refine lv_iand hx hb dX0_fewest_19 ?_
  refine lv_topi (fun v19 ev19 => ?_)
  have tv19 : 0 ≤ v19.toInt ∧ v19.toInt ≤ v16.toInt := by rw [ev19]; exact and_r (by omega)
  refine lv_istore (lv' := [(5, .int v19), (4, .int v8), (0, .ref a0), (1, .ref a1), (2, .int x2), (3, .int x3)]) hx hb dX0_fewest_20 hl (by decide) rfl (fun ls hl => ?_)
  refine lv_iload_n hx hb dX0_fewest_22 rfl (lv_at hl 4 rfl) ?_
  have J36 : ∀  (H : Heap) (locs : List Loc) (ls : Array Slot), HT D cs A T (a0 :: O) ((a0, .inr (0, [.ref y0, .int y1, .ref y2, .ref y3])) :: X) H → va_S A s.heap H locs → lv_has ls 14 [(5, .int v19), (4, .int v8), (0, .ref a0), (1, .ref a1), (2, .int x2)] → W p l e { frames := 5, cells := 1, slots := 16384, locals := 129 } s m [.ref a0, .ref a1, .int x2, .int x3].toArray below meth c H locs 0 0 (MQD below (fun kk ss => Ti D cs ((fun kk ss r u => ∃ T2 : TF, Tgr T T2 ∧ ∃ (n2 : Nat) (j2 : Nat) (n0_0 : Nat) (n0_1 : Int32), u = (T2, a0 :: O, (a0, .inr (0, [.ref n0_0, .int n0_1, .ref y2, .ref y3])) :: X) ∧ -1 ≤ r.toInt ∧ r.toInt ≤ 63 ∧ (T2 n0_0 = some (1, n2, 0)) ∧ (n2 = 2 ^ j2) ∧ (j ≤ j2) ∧ (j2 ≤ 14) ∧ (0 ≤ n0_1.toInt) ∧ (n0_1.toInt ≤ 16383) ∧ (True) ∧ (kk + j ≤ j2) ∧ (ss + 16384 * j ≤ 16384 * j2) ∧ (kk ≤ 1) ∧ (ss ≤ 16384)) kk ss) A) [.ref a0, .ref a1, .int x2, .int x3].toArray s A) (F0 m 36 ls []) := by
    intro  H locs ls  hH hS hl
    refine lv_iload hx hb dX0_fewest_36 (lv_at hl 0 rfl) ?_
    refine lv_iload hx hb dX0_fewest_38 (lv_at hl 1 rfl) ?_
    refine lv_iconst (v := (-1)) hx hb dX0_fewest_40 (by decide) ?_
    refine lv_ixor hx hb dX0_fewest_41 ?_
    refine lv_topi (fun v41 ev41 => ?_)
    refine lv_iand hx hb dX0_fewest_42 ?_
    refine lv_topi (fun v42 ev42 => ?_)
    have tv42 : 0 ≤ v42.toInt ∧ v42.toInt ≤ v19.toInt := by rw [ev42]; exact and_l (by omega)
    refine lv_istore (lv' := [(6, .int v42), (5, .int v19), (4, .int v8), (0, .ref a0), (1, .ref a1), (2, .int x2)]) hx hb dX0_fewest_43 hl (by decide) rfl (fun ls hl => ?_)
    refine lv_aload_n hx hb dX0_fewest_45 rfl (lv_at hl 4 rfl) ?_
    refine lv_iload hx hb dX0_fewest_46 (lv_at hl 0 rfl) ?_
    refine lv_iload_n hx hb dX0_fewest_48 rfl (lv_at hl 5 rfl) ?_
    refine lv_iload hx hb dX0_fewest_49 (lv_at hl 0 rfl) ?_
    refine lv_ior hx hb dX0_fewest_51 ?_
    refine lv_topi (fun v51 ev51 => ?_)
    refine lv_iload_n hx hb dX0_fewest_52 rfl (lv_at hl 5 rfl) ?_
    refine lv_iload hx hb dX0_fewest_53 (lv_at hl 0 rfl) ?_
    refine lv_ior hx hb dX0_fewest_55 ?_
    refine lv_topi (fun v55 ev55 => ?_)
    refine lv_iload hx hb dX0_fewest_56 (lv_at hl 2 rfl) ?_
    refine lv_ior hx hb dX0_fewest_58 ?_
    refine lv_topi (fun v58 ev58 => ?_)
    refine lv_iconst (v := 0) hx hb dX0_fewest_59 (by decide) ?_
    refine tk_i hH hS hA (tr_V (n := 4) (As := [.int v42, .int v51, .int v58, .int 0]) hx hb hml hown hts hkb hH (ox_map hOX rfl) hks hE hS hA (s_Rows_spread l D cs kf T (a0 :: O) ((a0, .inr (0, [.ref y0, .int y1, .ref y2, .ref y3])) :: X) a1 v42 v51 v58 (0) t_a1 (by omega) (by omega) (hO.sub (by decide))) kw_1131 kw_855 kw_856 kw_8 kw_857 (by decide +kernel) ⟨Nat.le_of_ble_eq_true rfl, Nat.le_of_ble_eq_true rfl⟩ (HT.recv (ci := 5) hkb hH t_a1 (hO.no t_a1 (by decide)) rfl) rfl rfl hl.1 (Nat.le_of_ble_eq_true rfl) dX0_fewest_60 ⟨by show 0 + 0 ≤ 1; omega, by show 0 + 0 ≤ 16384; omega⟩) (fun v60 u H locs hz9 hH hS => ?_)
    obtain ⟨rfl, l_v60, u_v60⟩ := hz9
    have hH : HT D cs A T (a0 :: O) ((a0, .inr (0, [.ref y0, .int y1, .ref y2, .ref y3])) :: X) H := hH
    refine W.widen (k := 0) (n := 0) (Nat.le_refl _) (Nat.le_refl _) ?_
    refine lv_istore (lv' := [(7, .int v60), (6, .int v42), (5, .int v19), (4, .int v8), (0, .ref a0), (1, .ref a1), (2, .int x2)]) hx hb dX0_fewest_63 hl (by decide) rfl (fun ls hl => ?_)
    refine lv_aload_n hx hb dX0_fewest_65 rfl (lv_at hl 5 rfl) ?_
    refine lv_iload hx hb dX0_fewest_66 (lv_at hl 0 rfl) ?_
    refine lv_iload hx hb dX0_fewest_68 (lv_at hl 3 rfl) ?_
    refine lv_iconst (v := (-1)) hx hb dX0_fewest_70 (by decide) ?_
    refine lv_ixor hx hb dX0_fewest_71 ?_
    refine lv_topi (fun v71 ev71 => ?_)
    refine lv_iand hx hb dX0_fewest_72 ?_
    refine lv_topi (fun v72 ev72 => ?_)
    have tv72 : 0 ≤ v72.toInt ∧ v72.toInt ≤ v60.toInt := by rw [ev72]; exact and_l (by omega)
    refine lv_iload hx hb dX0_fewest_73 (lv_at hl 3 rfl) ?_
    refine lv_iload hx hb dX0_fewest_75 (lv_at hl 0 rfl) ?_
    refine lv_iand hx hb dX0_fewest_77 ?_
    refine lv_topi (fun v77 ev77 => ?_)
    have tv77 : 0 ≤ v77.toInt ∧ v77.toInt ≤ v8.toInt := by rw [ev77]; exact and_l (by omega)
    have ttv77 : 0 ≤ v77.toInt ∧ v77.toInt ≤ v60.toInt := by rw [ev77]; exact and_r (by omega)
    refine tk_i hH hS hA (tr_S (n := 3) (As := [.ref a1, .int v72, .int v77]) hx hb hml hown hts hkb hH (ox_map hOX rfl) hks hE hS hA (s_Ch_leadingOn l D cs kf T (a0 :: O) ((a0, .inr (0, [.ref y0, .int y1, .ref y2, .ref y3])) :: X) a1 v72 v77 t_a1 (by omega) (by omega) (hO.sub (by decide))) kw_1072 kw_1073 kw_11 kw_1074 (by decide +kernel) ⟨Nat.le_of_ble_eq_true rfl, Nat.le_of_ble_eq_true rfl⟩ rfl rfl hl.1 (Nat.le_of_ble_eq_true rfl) dX0_fewest_78 ⟨by show 0 + 0 ≤ 1; omega, by show 0 + 0 ≤ 16384; omega⟩) (fun v78 u H locs hz9 hH hS => ?_)
    obtain ⟨rfl, l_v78, u_v78⟩ := hz9
    have hH : HT D cs A T (a0 :: O) ((a0, .inr (0, [.ref y0, .int y1, .ref y2, .ref y3])) :: X) H := hH
    refine W.widen (k := 0) (n := 0) (Nat.le_refl _) (Nat.le_refl _) ?_
    refine lv_istore (lv' := [(8, .int v78), (7, .int v60), (6, .int v42), (5, .int v19), (4, .int v8), (0, .ref a0), (1, .ref a1), (2, .int x2)]) hx hb dX0_fewest_81 hl (by decide) rfl (fun ls hl => ?_)
    refine lv_iload hx hb dX0_fewest_83 (lv_at hl 2 rfl) ?_
    refine lv_iload hx hb dX0_fewest_85 (lv_at hl 0 rfl) ?_
    refine lv_iand hx hb dX0_fewest_87 ?_
    refine lv_topi (fun v87 ev87 => ?_)
    have tv87 : 0 ≤ v87.toInt ∧ v87.toInt ≤ v42.toInt := by rw [ev87]; exact and_l (by omega)
    have ttv87 : 0 ≤ v87.toInt ∧ v87.toInt ≤ v78.toInt := by rw [ev87]; exact and_r (by omega)
    refine lv_istore (lv' := [(6, .int v87), (8, .int v78), (7, .int v60), (5, .int v19), (4, .int v8), (0, .ref a0), (1, .ref a1), (2, .int x2)]) hx hb dX0_fewest_88 hl (by decide) rfl (fun ls hl => ?_)
    refine lv_iload hx hb dX0_fewest_90 (lv_at hl 1 rfl) ?_
    refine lv_iload_n hx hb dX0_fewest_92 rfl (lv_at hl 7 rfl) ?_
    refine lv_iand hx hb dX0_fewest_93 ?_
    refine lv_topi (fun v93 ev93 => ?_)
    have tv93 : 0 ≤ v93.toInt ∧ v93.toInt ≤ v78.toInt := by rw [ev93]; exact and_l (by omega)
    refine lv_iload_n hx hb dX0_fewest_94 rfl (lv_at hl 7 rfl) ?_
    have J103 : ∀  (H : Heap) (locs : List Loc) (ls : Array Slot), HT D cs A T (a0 :: O) ((a0, .inr (0, [.ref y0, .int y1, .ref y2, .ref y3])) :: X) H → va_S A s.heap H locs → lv_has ls 14 [] → W p l e { frames := 5, cells := 1, slots := 16384, locals := 129 } s m [.ref a0, .ref a1, .int x2, .int x3].toArray below meth c H locs 0 0 (MQD below (fun kk ss => Ti D cs ((fun kk ss r u => ∃ T2 : TF, Tgr T T2 ∧ ∃ (n2 : Nat) (j2 : Nat) (n0_0 : Nat) (n0_1 : Int32), u = (T2, a0 :: O, (a0, .inr (0, [.ref n0_0, .int n0_1, .ref y2, .ref y3])) :: X) ∧ -1 ≤ r.toInt ∧ r.toInt ≤ 63 ∧ (T2 n0_0 = some (1, n2, 0)) ∧ (n2 = 2 ^ j2) ∧ (j ≤ j2) ∧ (j2 ≤ 14) ∧ (0 ≤ n0_1.toInt) ∧ (n0_1.toInt ≤ 16383) ∧ (True) ∧ (kk + j ≤ j2) ∧ (ss + 16384 * j ≤ 16384 * j2) ∧ (kk ≤ 1) ∧ (ss ≤ 16384)) kk ss) A) [.ref a0, .ref a1, .int x2, .int x3].toArray s A) (F0 m 103 ls []) := by
      intro  H locs ls  hH hS hl
      refine lv_iconst (v := (-1)) hx hb dX0_fewest_103 (by decide) ?_
      have z9_m1 : ((-1) : Int32).toInt = -1 := by decide
      exact te_iD hx hb hr hlocks hH hS (⟨T, Tgr.rf, nn, j, y0, y1, rfl, by decide, by decide, t_y0, hn, by omega, by omega, by omega, by omega, trivial, by omega, by omega, by omega, by omega⟩) dX0_fewest_104
    refine lv_icmp_ne (tgt := 103) hx hb dX0_fewest_95 (by decide) (fun c95 => ?_) (fun c95 => ?_)
    · skip
      have fuc95 := full_i v93
      have fvc95 := full_i x2
      have tc95 := g_ne c95
      exact J103  _ _ _  hH hS (lv_sub hl [] rfl)
    · skip
      have fuc95 := full_i v93
      have fvc95 := full_i x2
      have tc95 := g_eq c95
      refine lv_iload hx hb dX0_fewest_98 (lv_at hl 0 rfl) ?_
      refine lv_if_ne (tgt := 105) hx hb dX0_fewest_100 (by decide) (fun c100 => ?_) (fun c100 => ?_)
      · skip
        have tc100 := f_ne (k := 0) (by decide) c100
        refine lv_aload_n hx hb dX0_fewest_105 rfl (lv_at hl 5 rfl) ?_
        refine lv_aload_n hx hb dX0_fewest_106 rfl (lv_at hl 6 rfl) ?_
        refine lv_iload hx hb dX0_fewest_107 (lv_at hl 1 rfl) ?_
        refine lv_iload hx hb dX0_fewest_109 (lv_at hl 4 rfl) ?_
        refine tk_vD hH hS hA (tr_VD (n := 3) (As := [.ref a1, .int v78, .int v8]) hx hb hml hown hts hkb hH (ox_map hOX rfl) hks hE hS hA (s_Ch_prepare l D cs kf T O X a0 a1 v78 v8 y0 y1 y2 y3 nn j gq t_a0 t_a1 (by omega) (by omega) t_y0 (by omega) (by omega) t_y2 t_y3 hn (by omega) (hO.sub (by decide))) kw_1076 kw_1078 ks_38 kw_11 kw_1079 (by decide +kernel) ⟨Nat.le_of_ble_eq_true rfl, Nat.le_of_ble_eq_true rfl⟩ (x_recv (ci := 0) hkb hH 0 rfl rfl) rfl rfl hl.1 (Nat.le_of_ble_eq_true rfl) dX0_fewest_111 ⟨by show 0 + 1 ≤ 1; omega, by show 0 + 16384 ≤ 16384; omega⟩) (fun kc111 ks111 u H locs hz9 hH hS => ?_)
        obtain ⟨T111, le_T111, n2_111, j2_111, n111_0_0, n111_0_1, rfl, x_v1110, x_v1111, x_v1112, x_v1113, x_v1114, x_v1115, x_v1116, x_v1117, x_v1118, x_v1119, x_v11110⟩ := hz9
        have t_a0 := le_T111.1 _ _ t_a0
        have t_a1 := le_T111.1 _ _ t_a1
        have t_y0 := le_T111.1 _ _ t_y0
        have t_y2 := le_T111.1 _ _ t_y2
        have t_y3 := le_T111.1 _ _ t_y3
        have t_v2 := isW.le le_T111.1 t_v2
        have t_v13 := isW.le le_T111.1 t_v13
        have hO := okO.le le_T111.1 hO
        have t_n111_0_0 := x_v1110
        have hnb_111 := p2_le x_v1111 (by omega)
        have hH : HT D cs A T111 (a0 :: O) ((a0, .inr (0, [.ref n111_0_0, .int n111_0_1, .ref y2, .ref y3])) :: X) H := hH
        refine lv_iconst (v := (-1)) hx hb dX0_fewest_114 (by decide) ?_
        refine lv_istore (lv' := [(9, .int (-1)), (6, .int v87), (8, .int v78), (7, .int v60), (5, .int v19), (4, .int v8), (0, .ref a0), (1, .ref a1), (2, .int x2)]) hx hb dX0_fewest_115 hl (by decide) rfl (fun ls hl => ?_)
        refine lv_iconst (v := 1) hx hb dX0_fewest_117 (by decide) ?_
        refine lv_aload_n hx hb dX0_fewest_118 rfl (lv_at hl 6 rfl) ?_
        refine x_getk (ci := 0) (C := RX0) (F := TX0) (N := 4) (v := .int n111_0_1) hx hb hts uX0 hown hkb hH 0 rfl rfl 1 (by decide) rfl kw_331 (fun _ h9 => h9) dX0_fewest_119 ?_
        refine tk_i hH hS hA (tr_S (n := 1) (As := [.int n111_0_1]) hx hb hml hown hts hkb hH (ox_map hOX rfl) hks hE hS hA (s_bitCount l D cs kf T111 (a0 :: O) ((a0, .inr (0, [.ref n111_0_0, .int n111_0_1, .ref y2, .ref y3])) :: X) n111_0_1  (hO.sub (by decide))) kw_1088 kw_692 kw_20 kw_693 (by decide +kernel) ⟨Nat.le_of_ble_eq_true rfl, Nat.le_of_ble_eq_true rfl⟩ rfl rfl hl.1 (Nat.le_of_ble_eq_true rfl) dX0_fewest_122 ⟨by show (0 + kc111) + 0 ≤ 1; omega, by show (0 + ks111) + 0 ≤ 16384; omega⟩) (fun v122 u H locs hz9 hH hS => ?_)
        obtain ⟨rfl, l_v122, u_v122⟩ := hz9
        have hH : HT D cs A T111 (a0 :: O) ((a0, .inr (0, [.ref n111_0_0, .int n111_0_1, .ref y2, .ref y3])) :: X) H := hH
        refine W.widen (k := 0 + kc111) (n := 0 + ks111) (Nat.le_refl _) (Nat.le_refl _) ?_
        refine lv_ishl hx hb dX0_fewest_125 ?_
        refine lv_topi (fun v125 ev125 => ?_)
        refine lv_istore (lv' := [(10, .int v125), (9, .int (-1)), (6, .int v87), (8, .int v78), (7, .int v60), (5, .int v19), (4, .int v8), (0, .ref a0), (1, .ref a1), (2, .int x2)]) hx hb dX0_fewest_126 hl (by decide) rfl (fun ls hl => ?_)
        refine lv_iconst (v := 0) hx hb dX0_fewest_128 (by decide) ?_
        refine lv_istore (lv' := [(11, .int 0), (10, .int v125), (9, .int (-1)), (6, .int v87), (8, .int v78), (7, .int v60), (5, .int v19), (4, .int v8), (0, .ref a0), (1, .ref a1), (2, .int x2)]) hx hb dX0_fewest_129 hl (by decide) rfl (fun ls hl => ?_)
        refine lv_iconst (v := 1) hx hb dX0_fewest_131 (by decide) ?_
        have J134 : ∀ (n : Nat) (p134_12 : Int32) (p134_11 : Int32) (p134_9 : Int32) (H : Heap) (locs : List Loc) (ls : Array Slot), (2147483647 - p134_12.toInt).toNat = n → (1 ≤ p134_12.toInt) → (0 ≤ p134_11.toInt) → (p134_11.toInt ≤ 16383) → (-1 ≤ p134_9.toInt) → (p134_9.toInt ≤ 63) → (p134_11.toInt ≤ n111_0_1.toInt ∧ 0 ≤ p134_11.toInt) → HT D cs A T111 (a0 :: O) ((a0, .inr (0, [.ref n111_0_0, .int n111_0_1, .ref y2, .ref y3])) :: X) H → va_S A s.heap H locs → lv_has ls 14 [(12, .int p134_12), (11, .int p134_11), (10, .int v125), (9, .int p134_9), (6, .int v87), (0, .ref a0), (2, .int x2)] → W p l e { frames := 5, cells := 1, slots := 16384, locals := 129 } s m [.ref a0, .ref a1, .int x2, .int x3].toArray below meth c H locs (0 + kc111) (0 + ks111) (MQD below (fun kk ss => Ti D cs ((fun kk ss r u => ∃ T2 : TF, Tgr T T2 ∧ ∃ (n2 : Nat) (j2 : Nat) (n0_0 : Nat) (n0_1 : Int32), u = (T2, a0 :: O, (a0, .inr (0, [.ref n0_0, .int n0_1, .ref y2, .ref y3])) :: X) ∧ -1 ≤ r.toInt ∧ r.toInt ≤ 63 ∧ (T2 n0_0 = some (1, n2, 0)) ∧ (n2 = 2 ^ j2) ∧ (j ≤ j2) ∧ (j2 ≤ 14) ∧ (0 ≤ n0_1.toInt) ∧ (n0_1.toInt ≤ 16383) ∧ (True) ∧ (kk + j ≤ j2) ∧ (ss + 16384 * j ≤ 16384 * j2) ∧ (kk ≤ 1) ∧ (ss ≤ 16384)) kk ss) A) [.ref a0, .ref a1, .int x2, .int x3].toArray s A) (F0 m 134 ls []) := by
          intro n
          induction n using Nat.strongRecOn with
          | _ n ih134 =>
            intro p134_12 p134_11 p134_9 H locs ls hm134 l_p134_12 l_p134_11 u_p134_11 l_p134_9 u_p134_9 i134 hH hS hl
            refine lv_iload hx hb dX0_fewest_134 (lv_at hl 0 rfl) ?_
            refine lv_iload hx hb dX0_fewest_136 (lv_at hl 2 rfl) ?_
            refine lv_icmp_ge (tgt := 212) hx hb dX0_fewest_138 (by decide) (fun c138 => ?_) (fun c138 => ?_)
            · skip
              have fuc138 := full_i p134_12
              have fvc138 := full_i v125
              have tc138 := g_le c138
              refine lv_iload hx hb dX0_fewest_212 (lv_at hl 3 rfl) ?_
              exact te_iD hx hb hr hlocks hH hS (⟨T111, le_T111, n2_111, j2_111, n111_0_0, n111_0_1, rfl, by omega, by omega, t_n111_0_0, x_v1111, by omega, by omega, by omega, by omega, trivial, by omega, by omega, by omega, by omega⟩) dX0_fewest_214
            · skip
              have fuc138 := full_i p134_12
              have fvc138 := full_i v125
              have tc138 := g_nle c138
              refine lv_iload hx hb dX0_fewest_141 (lv_at hl 1 rfl) ?_
              refine lv_aload_n hx hb dX0_fewest_143 rfl (lv_at hl 5 rfl) ?_
              refine x_getk (ci := 0) (C := RX0) (F := TX0) (N := 4) (v := .int n111_0_1) hx hb hts uX0 hown hkb hH 0 rfl rfl 1 (by decide) rfl kw_331 (fun _ h9 => h9) dX0_fewest_144 ?_
              refine lv_isub hx hb dX0_fewest_147 ?_
              refine lv_topi (fun v147 ev147 => ?_)
              have tv147 : v147.toInt = p134_11.toInt - n111_0_1.toInt := by rw [ev147]; exact sub_i rfl rfl (by omega) (by omega)
              refine lv_aload_n hx hb dX0_fewest_148 rfl (lv_at hl 5 rfl) ?_
              refine x_getk (ci := 0) (C := RX0) (F := TX0) (N := 4) (v := .int n111_0_1) hx hb hts uX0 hown hkb hH 0 rfl rfl 1 (by decide) rfl kw_331 (fun _ h9 => h9) dX0_fewest_149 ?_
              refine lv_iand hx hb dX0_fewest_152 ?_
              refine lv_topi (fun v152 ev152 => ?_)
              have tv152 : 0 ≤ v152.toInt ∧ v152.toInt ≤ n111_0_1.toInt := by rw [ev152]; exact and_r (by omega)
              refine lv_istore (lv' := [(11, .int v152), (12, .int p134_12), (10, .int v125), (9, .int p134_9), (6, .int v87), (0, .ref a0), (2, .int x2)]) hx hb dX0_fewest_153 hl (by decide) rfl (fun ls hl => ?_)
              refine lv_aload_n hx hb dX0_fewest_155 rfl (lv_at hl 5 rfl) ?_
              refine lv_iload hx hb dX0_fewest_156 (lv_at hl 0 rfl) ?_
              refine tk_v hH hS hA (tr_V (n := 1) (As := [.int v152]) hx hb hml hown hts hkb hH (ox_map hOX rfl) hks hE hS hA (s_Ch_growFrom l D cs kf T111 O X a0 v152 n111_0_0 n111_0_1 y2 y3 n2_111 j2_111 gq t_a0 (by omega) (by omega) t_n111_0_0 (by omega) (by omega) t_y2 t_y3 x_v1111 (by omega) (by omega) (by omega) (hO.sub (by decide))) kw_1089 kw_1091 ks_39 kw_11 kw_1092 (by decide +kernel) ⟨Nat.le_of_ble_eq_true rfl, Nat.le_of_ble_eq_true rfl⟩ (x_recv (ci := 0) hkb hH 0 rfl rfl) rfl rfl hl.1 (Nat.le_of_ble_eq_true rfl) dX0_fewest_158 ⟨by show (0 + kc111) + 0 ≤ 1; omega, by show (0 + ks111) + 0 ≤ 16384; omega⟩) (fun u H locs hz9 hH hS => ?_)
              obtain ⟨rfl⟩ := hz9
              have hH : HT D cs A T111 (a0 :: O) ((a0, .inr (0, [.ref n111_0_0, .int n111_0_1, .ref y2, .ref y3])) :: X) H := hH
              refine W.widen (k := 0 + kc111) (n := 0 + ks111) (Nat.le_refl _) (Nat.le_refl _) ?_
              refine lv_iload hx hb dX0_fewest_161 (lv_at hl 0 rfl) ?_
              refine tk_i hH hS hA (tr_S (n := 1) (As := [.int v152]) hx hb hml hown hts hkb hH (ox_map hOX rfl) hks hE hS hA (s_bitCount l D cs kf T111 (a0 :: O) ((a0, .inr (0, [.ref n111_0_0, .int n111_0_1, .ref y2, .ref y3])) :: X) v152  (hO.sub (by decide))) kw_1088 kw_692 kw_20 kw_693 (by decide +kernel) ⟨Nat.le_of_ble_eq_true rfl, Nat.le_of_ble_eq_true rfl⟩ rfl rfl hl.1 (Nat.le_of_ble_eq_true rfl) dX0_fewest_163 ⟨by show (0 + kc111) + 0 ≤ 1; omega, by show (0 + ks111) + 0 ≤ 16384; omega⟩) (fun v163 u H locs hz9 hH hS => ?_)
              obtain ⟨rfl, l_v163, u_v163⟩ := hz9
              have hH : HT D cs A T111 (a0 :: O) ((a0, .inr (0, [.ref n111_0_0, .int n111_0_1, .ref y2, .ref y3])) :: X) H := hH
              refine W.widen (k := 0 + kc111) (n := 0 + ks111) (Nat.le_refl _) (Nat.le_refl _) ?_
              refine lv_istore (lv' := [(13, .int v163), (11, .int v152), (12, .int p134_12), (10, .int v125), (9, .int p134_9), (6, .int v87), (0, .ref a0), (2, .int x2)]) hx hb dX0_fewest_166 hl (by decide) rfl (fun ls hl => ?_)
              refine lv_iload hx hb dX0_fewest_168 (lv_at hl 1 rfl) ?_
              refine lv_iload_n hx hb dX0_fewest_170 rfl (lv_at hl 7 rfl) ?_
              refine lv_iand hx hb dX0_fewest_171 ?_
              refine lv_topi (fun v171 ev171 => ?_)
              have tv171 : 0 ≤ v171.toInt ∧ v171.toInt ≤ v152.toInt := by rw [ev171]; exact and_l (by omega)
              have ttv171 : 0 ≤ v171.toInt ∧ v171.toInt ≤ x2.toInt := by rw [ev171]; exact and_r (by omega)
              refine lv_iload_n hx hb dX0_fewest_172 rfl (lv_at hl 7 rfl) ?_
              have J206 : ∀ (p206_9 : Int32) (H : Heap) (locs : List Loc) (ls : Array Slot), (-1 ≤ p206_9.toInt) → (p206_9.toInt ≤ 63) → HT D cs A T111 (a0 :: O) ((a0, .inr (0, [.ref n111_0_0, .int n111_0_1, .ref y2, .ref y3])) :: X) H → va_S A s.heap H locs → lv_has ls 14 [(11, .int v152), (12, .int p134_12), (10, .int v125), (9, .int p206_9), (6, .int v87), (0, .ref a0), (2, .int x2)] → W p l e { frames := 5, cells := 1, slots := 16384, locals := 129 } s m [.ref a0, .ref a1, .int x2, .int x3].toArray below meth c H locs (0 + kc111) (0 + ks111) (MQD below (fun kk ss => Ti D cs ((fun kk ss r u => ∃ T2 : TF, Tgr T T2 ∧ ∃ (n2 : Nat) (j2 : Nat) (n0_0 : Nat) (n0_1 : Int32), u = (T2, a0 :: O, (a0, .inr (0, [.ref n0_0, .int n0_1, .ref y2, .ref y3])) :: X) ∧ -1 ≤ r.toInt ∧ r.toInt ≤ 63 ∧ (T2 n0_0 = some (1, n2, 0)) ∧ (n2 = 2 ^ j2) ∧ (j ≤ j2) ∧ (j2 ≤ 14) ∧ (0 ≤ n0_1.toInt) ∧ (n0_1.toInt ≤ 16383) ∧ (True) ∧ (kk + j ≤ j2) ∧ (ss + 16384 * j ≤ 16384 * j2) ∧ (kk ≤ 1) ∧ (ss ≤ 16384)) kk ss) A) [.ref a0, .ref a1, .int x2, .int x3].toArray s A) (F0 m 206 ls []) := by
                intro p206_9 H locs ls l_p206_9 u_p206_9 hH hS hl
                obtain ⟨v206, ev206⟩ : ∃ y : Int32, y = p134_12 + 1 := ⟨_, rfl⟩
                have tv206 : v206.toInt = p134_12.toInt + (1) := by rw [ev206]; exact add_i rfl (by decide) (by omega) (by omega)
                refine lv_iinc (v := v206) (lv' := [(12, .int v206), (11, .int v152), (10, .int v125), (9, .int p206_9), (6, .int v87), (0, .ref a0), (2, .int x2)]) hx hb dX0_fewest_206 hl (k := 1) rfl (by rw [ev206]; rfl) (by decide) rfl (fun ls hl => ?_)
                refine lv_goto (tgt := 134) hx hb dX0_fewest_209 (by decide) ?_
                exact ih134 _ (by omega) v206 v152 p206_9 _ _ _ rfl (by omega) (by omega) (by omega) (by omega) (by omega) (by omega) hH hS (lv_sub hl [0, 1, 2, 3, 4, 5, 6] rfl)
              refine lv_icmp_ne (tgt := 206) hx hb dX0_fewest_173 (by decide) (fun c173 => ?_) (fun c173 => ?_)
              · skip
                have fuc173 := full_i v171
                have fvc173 := full_i x2
                have tc173 := g_ne c173
                exact J206 p134_9 _ _ _ (by omega) (by omega) hH hS (lv_sub hl [1, 2, 3, 4, 5, 6, 7] rfl)
              · skip
                have fuc173 := full_i v171
                have fvc173 := full_i x2
                have tc173 := g_eq c173
                refine lv_aload_n hx hb dX0_fewest_176 rfl (lv_at hl 6 rfl) ?_
                refine x_getk (ci := 0) (C := RX0) (F := TX0) (N := 4) (v := .ref n111_0_0) hx hb hts uX0 hown hkb hH 0 rfl rfl 0 (by decide) rfl kw_330 (fun _ h9 => h9) dX0_fewest_177 ?_
                refine lv_iload hx hb dX0_fewest_180 (lv_at hl 1 rfl) ?_
                refine t_ild hx hb hkb hH t_n111_0_0 (hO.no t_n111_0_0 (by decide)) (by omega) (by omega) dX0_fewest_182 (fun v182 h9 => ?_)
                refine lv_iload hx hb dX0_fewest_183 (lv_at hl 5 rfl) ?_
                refine lv_iand hx hb dX0_fewest_185 ?_
                refine lv_topi (fun v185 ev185 => ?_)
                have tv185 : 0 ≤ v185.toInt ∧ v185.toInt ≤ v87.toInt := by rw [ev185]; exact and_r (by omega)
                refine lv_if_eq (tgt := 206) hx hb dX0_fewest_186 (by decide) (fun c186 => ?_) (fun c186 => ?_)
                · skip
                  have tc186 := f_eq (k := 0) (by decide) c186
                  exact J206 p134_9 _ _ _ (by omega) (by omega) hH hS (lv_sub hl [1, 2, 3, 4, 5, 6, 7] rfl)
                · skip
                  have tc186 := f_ne (k := 0) (by decide) c186
                  refine lv_iload hx hb dX0_fewest_189 (lv_at hl 4 rfl) ?_
                  refine lv_iconst (v := (-1)) hx hb dX0_fewest_191 (by decide) ?_
                  have J202 : ∀  (H : Heap) (locs : List Loc) (ls : Array Slot), HT D cs A T111 (a0 :: O) ((a0, .inr (0, [.ref n111_0_0, .int n111_0_1, .ref y2, .ref y3])) :: X) H → va_S A s.heap H locs → lv_has ls 14 [(13, .int v163), (11, .int v152), (12, .int p134_12), (10, .int v125), (6, .int v87), (0, .ref a0), (2, .int x2)] → W p l e { frames := 5, cells := 1, slots := 16384, locals := 129 } s m [.ref a0, .ref a1, .int x2, .int x3].toArray below meth c H locs (0 + kc111) (0 + ks111) (MQD below (fun kk ss => Ti D cs ((fun kk ss r u => ∃ T2 : TF, Tgr T T2 ∧ ∃ (n2 : Nat) (j2 : Nat) (n0_0 : Nat) (n0_1 : Int32), u = (T2, a0 :: O, (a0, .inr (0, [.ref n0_0, .int n0_1, .ref y2, .ref y3])) :: X) ∧ -1 ≤ r.toInt ∧ r.toInt ≤ 63 ∧ (T2 n0_0 = some (1, n2, 0)) ∧ (n2 = 2 ^ j2) ∧ (j ≤ j2) ∧ (j2 ≤ 14) ∧ (0 ≤ n0_1.toInt) ∧ (n0_1.toInt ≤ 16383) ∧ (True) ∧ (kk + j ≤ j2) ∧ (ss + 16384 * j ≤ 16384 * j2) ∧ (kk ≤ 1) ∧ (ss ≤ 16384)) kk ss) A) [.ref a0, .ref a1, .int x2, .int x3].toArray s A) (F0 m 202 ls []) := by
                    intro  H locs ls  hH hS hl
                    refine lv_iload hx hb dX0_fewest_202 (lv_at hl 0 rfl) ?_
                    refine lv_istore (lv' := [(9, .int v163), (13, .int v163), (11, .int v152), (12, .int p134_12), (10, .int v125), (6, .int v87), (0, .ref a0), (2, .int x2)]) hx hb dX0_fewest_204 hl (by decide) rfl (fun ls hl => ?_)
                    exact J206 v163 _ _ _ (by omega) (by omega) hH hS (lv_sub hl [2, 3, 4, 0, 5, 6, 7] rfl)
                  refine lv_icmp_eq (tgt := 202) hx hb dX0_fewest_192 (by decide) (fun c192 => ?_) (fun c192 => ?_)
                  · skip
                    have tc192 := f_eq (k := -1) (by decide) c192
                    exact J202  _ _ _  hH hS (lv_sub hl [0, 1, 2, 3, 5, 6, 7] rfl)
                  · skip
                    have tc192 := f_ne (k := -1) (by decide) c192
                    refine lv_iload hx hb dX0_fewest_195 (lv_at hl 0 rfl) ?_
                    refine lv_iload hx hb dX0_fewest_197 (lv_at hl 4 rfl) ?_
                    refine lv_icmp_ge (tgt := 206) hx hb dX0_fewest_199 (by decide) (fun c199 => ?_) (fun c199 => ?_)
                    · skip
                      have fuc199 := full_i v163
                      have fvc199 := full_i p134_9
                      have tc199 := g_le c199
                      exact J206 p134_9 _ _ _ (by omega) (by omega) hH hS (lv_sub hl [1, 2, 3, 4, 5, 6, 7] rfl)
                    · skip
                      have fuc199 := full_i v163
                      have fvc199 := full_i p134_9
                      have tc199 := g_nle c199
                      exact J202  _ _ _  hH hS (lv_sub hl [0, 1, 2, 3, 5, 6, 7] rfl)
        refine lv_istore (lv' := [(12, .int 1), (11, .int 0), (10, .int v125), (9, .int (-1)), (6, .int v87), (8, .int v78), (7, .int v60), (5, .int v19), (4, .int v8), (0, .ref a0), (1, .ref a1), (2, .int x2)]) hx hb dX0_fewest_132 hl (by decide) rfl (fun ls hl => ?_)
        have z_m1 : ((-1) : Int32).toInt = -1 := by decide
        have z_0 : (0 : Int32).toInt = 0 := by decide
        have z_1 : (1 : Int32).toInt = 1 := by decide
        exact J134 _ 1 0 (-1) _ _ _ rfl (by decide) (by decide) (by decide) (by decide) (by decide) (by omega) hH hS (lv_sub hl [0, 1, 2, 3, 4, 9, 11] rfl)
      · skip
        have tc100 := f_eq (k := 0) (by decide) c100
        exact J103  _ _ _  hH hS (lv_sub hl [] rfl)
  refine lv_if_ne (tgt := 36) hx hb dX0_fewest_23 (by decide) (fun c23 => ?_) (fun c23 => ?_)
  · skip
    have tc23 := f_ne (k := 0) (by decide) c23
    exact J36  _ _ _  hH hS (lv_sub hl [0, 1, 2, 3, 4] rfl)
  · skip
    have tc23 := f_eq (k := 0) (by decide) c23
    refine lv_iload hx hb dX0_fewest_26 (lv_at hl 0 rfl) ?_
    refine lv_iload hx hb dX0_fewest_28 (lv_at hl 1 rfl) ?_
    refine lv_iand hx hb dX0_fewest_30 ?_
    refine lv_topi (fun v30 ev30 => ?_)
    have tv30 : 0 ≤ v30.toInt ∧ v30.toInt ≤ v19.toInt := by rw [ev30]; exact and_l (by omega)
    have ttv30 : 0 ≤ v30.toInt ∧ v30.toInt ≤ v8.toInt := by rw [ev30]; exact and_r (by omega)
    refine lv_if_eq (tgt := 36) hx hb dX0_fewest_31 (by decide) (fun c31 => ?_) (fun c31 => ?_)
    · skip
      have tc31 := f_eq (k := 0) (by decide) c31
      exact J36  _ _ _  hH hS (lv_sub hl [0, 1, 2, 3, 4] rfl)
    · skip
      have tc31 := f_ne (k := 0) (by decide) c31
      refine lv_iconst (v := 0) hx hb dX0_fewest_34 (by decide) ?_
      have z9_0 : (0 : Int32).toInt = 0 := by decide
      exact te_iD hx hb hr hlocks hH hS (⟨T, Tgr.rf, nn, j, y0, y1, rfl, by decide, by decide, t_y0, hn, by omega, by omega, by omega, by omega, trivial, by omega, by omega, by omega, by omega⟩) dX0_fewest_35
set_option maxHeartbeats 4000000 in
set_option maxRecDepth 100000 in
theorem s_Ch_first (l : Launch) (D : va_G) (cs : CS) (kf : KF) (T : TF) (O : List Nat) (X : va_W) (a0 : Nat) (a1 : Nat) (x2 : Int32) (x3 : Int32) (y0 : Nat) (y1 : Int32) (y2 : Nat) (y3 : Nat) (nn j gq : Nat) (t_a0 : T a0 = some (10, gq, 0)) (t_a1 : T a1 = some (15, 0, 0)) (t_y0 : T y0 = some (1, nn, 0)) (l_y1 : 0 ≤ y1.toInt) (u_y1 : y1.toInt ≤ 16383) (t_y2 : T y2 = some (1, 14, 1)) (t_y3 : T y3 = some (1, 14, 0)) (hn : nn = 2 ^ j) (hj : j ≤ 14) (hO : okO T (a0 :: O) [1, 12, 15, 19]) : TKD l D cs kf yX0_first cX0_first 12 (some (.int)) { frames := 6, cells := 1, slots := 16384, locals := 162 } [.ref a0, .ref a1, .int x2, .int x3] T (a0 :: O) ((a0, .inr (0, [.ref y0, .int y1, .ref y2, .ref y3])) :: X) (fun kk ss => Ti D cs ((fun kk ss r u => ∃ T2 : TF, Tgr T T2 ∧ ∃ (n2 : Nat) (j2 : Nat) (n0_0 : Nat) (n0_1 : Int32), u = (T2, a0 :: O, (a0, .inr (0, [.ref n0_0, .int n0_1, .ref y2, .ref y3])) :: X) ∧ 0 ≤ r.toInt ∧ r.toInt ≤ 14 ∧ (T2 n0_0 = some (1, n2, 0)) ∧ (n2 = 2 ^ j2) ∧ (j ≤ j2) ∧ (j2 ≤ 14) ∧ (0 ≤ n0_1.toInt) ∧ (n0_1.toInt ≤ 16383) ∧ (True) ∧ (kk + j ≤ j2) ∧ (ss + 16384 * j ≤ 16384 * j2) ∧ (kk ≤ 1) ∧ (ss ≤ 16384)) kk ss)) := by
  refine tkd_of (by decide) (Nat.le_of_ble_eq_true rfl) (fun p e s m below meth c ls A H locs hx hb hr hml hown hts hlocks hnm hkb hH hS hA hOX hks hE hl => ?_)
  have hown : s.vm.findClass RX0 = some m.cls := hown
  have hl : lv_has ls 12 [(0, .ref a0), (1, .ref a1), (2, .int x2), (3, .int x3)] := hl
  have hOXf := hOX
  have hnb := p2_le hn hj
  refine lv_aload_n hx hb dX0_first_0 rfl (lv_at hl 0 rfl) ?_
  refine lv_aload_n hx hb dX0_first_1 rfl (lv_at hl 1 rfl) ?_
  refine lv_iload_n hx hb dX0_first_2 rfl (lv_at hl 2 rfl) ?_
  refine lv_iload_n hx hb dX0_first_3 rfl (lv_at hl 3 rfl) ?_
  refine tk_iD hH hS hA (tr_VD (n := 3) (As := [.ref a1, .int x2, .int x3]) hx hb hml hown hts hkb hH (ox_map hOX rfl) hks hE hS hA (s_Ch_fewest l D cs kf T O X a0 a1 x2 x3 y0 y1 y2 y3 nn j gq t_a0 t_a1 t_y0 (by omega) (by omega) t_y2 t_y3 hn (by omega) (hO.sub (by decide))) kw_1140 kw_1128 kw_1129 kw_11 kw_1130 (by decide +kernel) ⟨Nat.le_of_ble_eq_true rfl, Nat.le_of_ble_eq_true rfl⟩ (x_recv (ci := 0) hkb hH 0 rfl rfl) rfl rfl hl.1 (Nat.le_of_ble_eq_true rfl) dX0_first_4 ⟨by show 0 + 1 ≤ 1; omega, by show 0 + 16384 ≤ 16384; omega⟩) (fun v4 kc4 ks4 u H locs hz9 hH hS => ?_)
  obtain ⟨T4, le_T4, n2_4, j2_4, n4_0_0, n4_0_1, rfl, l_v4, u_v4, x_v40, x_v41, x_v42, x_v43, x_v44, x_v45, x_v46, x_v47, x_v48, x_v49, x_v410⟩ := hz9
  have t_a0 := le_T4.1 _ _ t_a0
  have t_a1 := le_T4.1 _ _ t_a1
  have t_y0 := le_T4.1 _ _ t_y0
  have t_y2 := le_T4.1 _ _ t_y2
  have t_y3 := le_T4.1 _ _ t_y3
  have hO := okO.le le_T4.1 hO
  have t_n4_0_0 := x_v40
  have hnb_4 := p2_le x_v41 (by omega)
  have hH : HT D cs A T4 (a0 :: O) ((a0, .inr (0, [.ref n4_0_0, .int n4_0_1, .ref y2, .ref y3])) :: X) H := hH
  refine lv_istore (lv' := [(4, .int v4), (0, .ref a0), (1, .ref a1), (2, .int x2), (3, .int x3)]) hx hb dX0_first_7 hl (by decide) rfl (fun ls hl => ?_)
  refine lv_iload_n hx hb dX0_first_9 rfl (lv_at hl 4 rfl) ?_
  refine lv_aload_n hx hb dX0_first_10 rfl (lv_at hl 2 rfl) ?_
  refine t_get (ci := 5) (lst := ft5 0 0) (C := RX5) (F := TX5) (N := 6) hx hb hts uX5 hown hkb hH t_a1 (hO.no t_a1 (by decide)) (fun _ h9 => h9) rfl rfl 0 (by decide) rfl kw_247 (fun _ h9 => h9) dX0_first_11 (fun v9 h9 => ?_)
  obtain ⟨v11, hv11, gv11, rfl, t_v11⟩ := h9
  refine t_get (ci := 9) (lst := ft9w hv11 gv11) (C := RX9) (F := TX9) (N := 14) hx hb hts uX9 hown hkb hH t_v11.1 (hO.no t_v11.1 (by decide)) (fun fs => (ob9w t_v11 fs).mp) rfl rfl 4 (by decide) rfl kw_125 (fun _ h9 => h9) dX0_first_14 (fun v9 h9 => ?_)
  obtain ⟨v14, rfl, l_v14, u_v14⟩ := h9
  refine lv_iand hx hb dX0_first_17 ?_
  refine lv_topi (fun v17 ev17 => ?_)
  have tv17 : 0 ≤ v17.toInt ∧ v17.toInt ≤ v14.toInt := by rw [ev17]; exact and_r (by omega)
  refine lv_istore (lv' := [(5, .int v17), (4, .int v4), (0, .ref a0), (1, .ref a1), (2, .int x2), (3, .int x3)]) hx hb dX0_first_18 hl (by decide) rfl (fun ls hl => ?_)
  refine lv_iload hx hb dX0_first_20 (lv_at hl 1 rfl) ?_
  refine lv_iconst (v := (-1)) hx hb dX0_first_22 (by decide) ?_
  have J33 : ∀  (H : Heap) (locs : List Loc) (ls : Array Slot), HT D cs A T4 (a0 :: O) ((a0, .inr (0, [.ref n4_0_0, .int n4_0_1, .ref y2, .ref y3])) :: X) H → va_S A s.heap H locs → lv_has ls 12 [] → W p l e { frames := 6, cells := 1, slots := 16384, locals := 162 } s m [.ref a0, .ref a1, .int x2, .int x3].toArray below meth c H locs (0 + kc4) (0 + ks4) (MQD below (fun kk ss => Ti D cs ((fun kk ss r u => ∃ T2 : TF, Tgr T T2 ∧ ∃ (n2 : Nat) (j2 : Nat) (n0_0 : Nat) (n0_1 : Int32), u = (T2, a0 :: O, (a0, .inr (0, [.ref n0_0, .int n0_1, .ref y2, .ref y3])) :: X) ∧ 0 ≤ r.toInt ∧ r.toInt ≤ 14 ∧ (T2 n0_0 = some (1, n2, 0)) ∧ (n2 = 2 ^ j2) ∧ (j ≤ j2) ∧ (j2 ≤ 14) ∧ (0 ≤ n0_1.toInt) ∧ (n0_1.toInt ≤ 16383) ∧ (True) ∧ (kk + j ≤ j2) ∧ (ss + 16384 * j ≤ 16384 * j2) ∧ (kk ≤ 1) ∧ (ss ≤ 16384)) kk ss) A) [.ref a0, .ref a1, .int x2, .int x3].toArray s A) (F0 m 33 ls []) := by
    intro  H locs ls  hH hS hl
    refine lv_iconst (v := 0) hx hb dX0_first_33 (by decide) ?_
    have z9_0 : (0 : Int32).toInt = 0 := by decide
    exact te_iD hx hb hr hlocks hH hS (⟨T4, le_T4, n2_4, j2_4, n4_0_0, n4_0_1, rfl, by decide, by decide, t_n4_0_0, x_v41, by omega, by omega, by omega, by omega, trivial, by omega, by omega, by omega, by omega⟩) dX0_first_34
  refine lv_icmp_eq (tgt := 33) hx hb dX0_first_23 (by decide) (fun c23 => ?_) (fun c23 => ?_)
  · skip
    have tc23 := f_eq (k := -1) (by decide) c23
    exact J33  _ _ _  hH hS (lv_sub hl [] rfl)
  · skip
    have tc23 := f_ne (k := -1) (by decide) c23
    refine lv_iload hx hb dX0_first_26 (lv_at hl 1 rfl) ?_
    refine lv_bipush (v := 14) hx hb dX0_first_28 (by decide) ?_
    refine lv_icmp_lt (tgt := 35) hx hb dX0_first_30 (by decide) (fun c30 => ?_) (fun c30 => ?_)
    · skip
      have tc30 := f_lt (k := 14) (by decide) c30
      refine lv_iload hx hb dX0_first_35 (lv_at hl 1 rfl) ?_
      have J48 : ∀ (k48_0 : Int32) (H : Heap) (locs : List Loc) (ls : Array Slot), (0 ≤ k48_0.toInt) → (k48_0.toInt ≤ 16383) → HT D cs A T4 (a0 :: O) ((a0, .inr (0, [.ref n4_0_0, .int n4_0_1, .ref y2, .ref y3])) :: X) H → va_S A s.heap H locs → lv_has ls 12 [(5, .int v17), (4, .int v4), (0, .ref a0), (1, .ref a1), (2, .int x2), (3, .int x3)] → W p l e { frames := 6, cells := 1, slots := 16384, locals := 162 } s m [.ref a0, .ref a1, .int x2, .int x3].toArray below meth c H locs (0 + kc4) (0 + ks4) (MQD below (fun kk ss => Ti D cs ((fun kk ss r u => ∃ T2 : TF, Tgr T T2 ∧ ∃ (n2 : Nat) (j2 : Nat) (n0_0 : Nat) (n0_1 : Int32), u = (T2, a0 :: O, (a0, .inr (0, [.ref n0_0, .int n0_1, .ref y2, .ref y3])) :: X) ∧ 0 ≤ r.toInt ∧ r.toInt ≤ 14 ∧ (T2 n0_0 = some (1, n2, 0)) ∧ (n2 = 2 ^ j2) ∧ (j ≤ j2) ∧ (j2 ≤ 14) ∧ (0 ≤ n0_1.toInt) ∧ (n0_1.toInt ≤ 16383) ∧ (True) ∧ (kk + j ≤ j2) ∧ (ss + 16384 * j ≤ 16384 * j2) ∧ (kk ≤ 1) ∧ (ss ≤ 16384)) kk ss) A) [.ref a0, .ref a1, .int x2, .int x3].toArray s A) (F0 m 48 ls [.int k48_0]) := by
        intro k48_0 H locs ls l_k48_0 u_k48_0 hH hS hl
        refine lv_istore (lv' := [(6, .int k48_0), (5, .int v17), (4, .int v4), (0, .ref a0), (1, .ref a1), (2, .int x2), (3, .int x3)]) hx hb dX0_first_48 hl (by decide) rfl (fun ls hl => ?_)
        refine lv_iload hx hb dX0_first_50 (lv_at hl 0 rfl) ?_
        refine lv_iload_n hx hb dX0_first_52 rfl (lv_at hl 5 rfl) ?_
        refine lv_iconst (v := (-1)) hx hb dX0_first_53 (by decide) ?_
        refine lv_ixor hx hb dX0_first_54 ?_
        refine lv_topi (fun v54 ev54 => ?_)
        refine lv_iand hx hb dX0_first_55 ?_
        refine lv_topi (fun v55 ev55 => ?_)
        have tv55 : 0 ≤ v55.toInt ∧ v55.toInt ≤ k48_0.toInt := by rw [ev55]; exact and_l (by omega)
        refine lv_istore (lv' := [(7, .int v55), (6, .int k48_0), (5, .int v17), (4, .int v4), (0, .ref a0), (1, .ref a1), (2, .int x2), (3, .int x3)]) hx hb dX0_first_56 hl (by decide) rfl (fun ls hl => ?_)
        refine lv_iload_n hx hb dX0_first_58 rfl (lv_at hl 7 rfl) ?_
        refine lv_aload_n hx hb dX0_first_59 rfl (lv_at hl 5 rfl) ?_
        refine t_get (ci := 5) (lst := ft5 0 0) (C := RX5) (F := TX5) (N := 6) hx hb hts uX5 hown hkb hH t_a1 (hO.no t_a1 (by decide)) (fun _ h9 => h9) rfl rfl 0 (by decide) rfl kw_247 (fun _ h9 => h9) dX0_first_60 (fun v9 h9 => ?_)
        obtain ⟨v60, hv60, gv60, rfl, t_v60⟩ := h9
        refine t_get (ci := 9) (lst := ft9w hv60 gv60) (C := RX9) (F := TX9) (N := 14) hx hb hts uX9 hown hkb hH t_v60.1 (hO.no t_v60.1 (by decide)) (fun fs => (ob9w t_v60 fs).mp) rfl rfl 3 (by decide) rfl kw_119 (fun _ h9 => h9) dX0_first_63 (fun v9 h9 => ?_)
        obtain ⟨v63, rfl, l_v63, u_v63⟩ := h9
        refine lv_iand hx hb dX0_first_66 ?_
        refine lv_topi (fun v66 ev66 => ?_)
        have tv66 : 0 ≤ v66.toInt ∧ v66.toInt ≤ v63.toInt := by rw [ev66]; exact and_r (by omega)
        refine lv_istore (lv' := [(8, .int v66), (7, .int v55), (6, .int k48_0), (5, .int v17), (4, .int v4), (0, .ref a0), (1, .ref a1), (2, .int x2), (3, .int x3)]) hx hb dX0_first_67 hl (by decide) rfl (fun ls hl => ?_)
        refine lv_iconst (v := 0) hx hb dX0_first_69 (by decide) ?_
        have J72 : ∀ (n : Nat) (p72_9 : Int32) (p72_8 : Int32) (p72_6 : Int32) (H : Heap) (locs : List Loc) (ls : Array Slot), (13 - p72_9.toInt).toNat = n → (0 ≤ p72_9.toInt) → (p72_9.toInt ≤ 13) → (0 ≤ p72_8.toInt) → (p72_8.toInt ≤ 16383) → (0 ≤ p72_6.toInt) → (p72_6.toInt ≤ 16383) → HT D cs A T4 (a0 :: O) ((a0, .inr (0, [.ref n4_0_0, .int n4_0_1, .ref y2, .ref y3])) :: X) H → va_S A s.heap H locs → lv_has ls 12 [(9, .int p72_9), (8, .int p72_8), (7, .int v55), (6, .int p72_6), (5, .int v17), (4, .int v4), (0, .ref a0), (1, .ref a1), (2, .int x2)] → W p l e { frames := 6, cells := 1, slots := 16384, locals := 162 } s m [.ref a0, .ref a1, .int x2, .int x3].toArray below meth c H locs (0 + kc4) (0 + ks4) (MQD below (fun kk ss => Ti D cs ((fun kk ss r u => ∃ T2 : TF, Tgr T T2 ∧ ∃ (n2 : Nat) (j2 : Nat) (n0_0 : Nat) (n0_1 : Int32), u = (T2, a0 :: O, (a0, .inr (0, [.ref n0_0, .int n0_1, .ref y2, .ref y3])) :: X) ∧ 0 ≤ r.toInt ∧ r.toInt ≤ 14 ∧ (T2 n0_0 = some (1, n2, 0)) ∧ (n2 = 2 ^ j2) ∧ (j ≤ j2) ∧ (j2 ≤ 14) ∧ (0 ≤ n0_1.toInt) ∧ (n0_1.toInt ≤ 16383) ∧ (True) ∧ (kk + j ≤ j2) ∧ (ss + 16384 * j ≤ 16384 * j2) ∧ (kk ≤ 1) ∧ (ss ≤ 16384)) kk ss) A) [.ref a0, .ref a1, .int x2, .int x3].toArray s A) (F0 m 72 ls []) := by
          intro n
          induction n using Nat.strongRecOn with
          | _ n ih72 =>
            intro p72_9 p72_8 p72_6 H locs ls hm72 l_p72_9 u_p72_9 l_p72_8 u_p72_8 l_p72_6 u_p72_6 hH hS hl
            refine lv_iload hx hb dX0_first_72 (lv_at hl 0 rfl) ?_
            refine lv_iload hx hb dX0_first_74 (lv_at hl 5 rfl) ?_
            refine lv_icmp_ge (tgt := 148) hx hb dX0_first_76 (by decide) (fun c76 => ?_) (fun c76 => ?_)
            · skip
              have fuc76 := full_i p72_9
              have fvc76 := full_i v4
              have tc76 := g_le c76
              refine lv_aload_n hx hb dX0_first_148 rfl (lv_at hl 6 rfl) ?_
              refine x_getk (ci := 0) (C := RX0) (F := TX0) (N := 4) (v := .ref y3) hx hb hts uX0 hown hkb hH 0 rfl rfl 3 (by decide) rfl kw_333 (fun _ h9 => h9) dX0_first_149 ?_
              refine lv_iload hx hb dX0_first_152 (lv_at hl 5 rfl) ?_
              refine lv_iload hx hb dX0_first_154 (lv_at hl 1 rfl) ?_
              refine lv_iload hx hb dX0_first_156 (lv_at hl 4 rfl) ?_
              refine lv_iand hx hb dX0_first_158 ?_
              refine lv_topi (fun v158 ev158 => ?_)
              have tv158 : 0 ≤ v158.toInt ∧ v158.toInt ≤ p72_8.toInt := by rw [ev158]; exact and_l (by omega)
              have ttv158 : 0 ≤ v158.toInt ∧ v158.toInt ≤ v17.toInt := by rw [ev158]; exact and_r (by omega)
              refine tk_i hH hS hA (tr_S (n := 1) (As := [.int v158]) hx hb hml hown hts hkb hH (ox_map hOX rfl) hks hE hS hA (s_ntz l D cs kf T4 (a0 :: O) ((a0, .inr (0, [.ref n4_0_0, .int n4_0_1, .ref y2, .ref y3])) :: X) v158  (hO.sub (by decide))) kw_1145 kw_859 kw_20 kw_860 (by decide +kernel) ⟨Nat.le_of_ble_eq_true rfl, Nat.le_of_ble_eq_true rfl⟩ rfl rfl hl.1 (Nat.le_of_ble_eq_true rfl) dX0_first_159 ⟨by show (0 + kc4) + 0 ≤ 1; omega, by show (0 + ks4) + 0 ≤ 16384; omega⟩) (fun v159 u H locs hz9 hH hS => ?_)
              have hz9 : u = (T4, a0 :: O, (a0, .inr (0, [.ref n4_0_0, .int n4_0_1, .ref y2, .ref y3])) :: X) := hz9
              subst hz9
              have hH : HT D cs A T4 (a0 :: O) ((a0, .inr (0, [.ref n4_0_0, .int n4_0_1, .ref y2, .ref y3])) :: X) H := hH
              refine W.widen (k := 0 + kc4) (n := 0 + ks4) (Nat.le_refl _) (Nat.le_refl _) ?_
              refine t_ist hx hb hkb hH hS t_y3 (hO.no t_y3 (by decide)) (by omega) (by omega) (cp_0 _) dX0_first_162 (fun H locs hH hS => ?_)
              refine lv_iload hx hb dX0_first_163 (lv_at hl 5 rfl) ?_
              refine lv_iconst (v := 1) hx hb dX0_first_165 (by decide) ?_
              refine lv_iadd hx hb dX0_first_166 ?_
              refine lv_topi (fun v166 ev166 => ?_)
              have tv166 : v166.toInt = v4.toInt + (1) := by rw [ev166]; exact add_i rfl (by decide : (1 : Int32).toInt = 1) (by omega) (by omega)
              exact te_iD hx hb hr hlocks hH hS (⟨T4, le_T4, n2_4, j2_4, n4_0_0, n4_0_1, rfl, by omega, by omega, t_n4_0_0, x_v41, by omega, by omega, by omega, by omega, trivial, by omega, by omega, by omega, by omega⟩) dX0_first_167
            · skip
              have fuc76 := full_i p72_9
              have fvc76 := full_i v4
              have tc76 := g_nle c76
              refine lv_aload_n hx hb dX0_first_79 rfl (lv_at hl 6 rfl) ?_
              refine lv_iload_n hx hb dX0_first_80 rfl (lv_at hl 8 rfl) ?_
              refine lv_iload hx hb dX0_first_81 (lv_at hl 3 rfl) ?_
              refine lv_iand hx hb dX0_first_83 ?_
              refine lv_topi (fun v83 ev83 => ?_)
              have tv83 : 0 ≤ v83.toInt ∧ v83.toInt ≤ p72_6.toInt := by rw [ev83]; exact and_r (by omega)
              refine lv_iload hx hb dX0_first_84 (lv_at hl 2 rfl) ?_
              refine lv_iload hx hb dX0_first_86 (lv_at hl 3 rfl) ?_
              refine lv_iand hx hb dX0_first_88 ?_
              refine lv_topi (fun v88 ev88 => ?_)
              have tv88 : 0 ≤ v88.toInt ∧ v88.toInt ≤ v55.toInt := by rw [ev88]; exact and_l (by omega)
              have ttv88 : 0 ≤ v88.toInt ∧ v88.toInt ≤ p72_6.toInt := by rw [ev88]; exact and_r (by omega)
              refine lv_iload hx hb dX0_first_89 (lv_at hl 5 rfl) ?_
              refine lv_iload hx hb dX0_first_91 (lv_at hl 0 rfl) ?_
              refine lv_isub hx hb dX0_first_93 ?_
              refine lv_topi (fun v93 ev93 => ?_)
              have tv93 : v93.toInt = v4.toInt - p72_9.toInt := by rw [ev93]; exact sub_i rfl rfl (by omega) (by omega)
              refine tk_i hH hS hA (tr_V (n := 3) (As := [.int v83, .int v88, .int v93]) hx hb hml hown hts hkb hH (ox_map hOX rfl) hks hE hS hA (s_Ch_begunOver l D cs kf T4 O X a0 v83 v88 v93 n4_0_0 n4_0_1 y2 y3 n2_4 j2_4 gq t_a0 t_n4_0_0 (by omega) (by omega) t_y2 t_y3 x_v41 (by omega) (hO.sub (by decide))) kw_1141 kw_1143 ks_40 kw_11 kw_1144 (by decide +kernel) ⟨Nat.le_of_ble_eq_true rfl, Nat.le_of_ble_eq_true rfl⟩ (x_recv (ci := 0) hkb hH 0 rfl rfl) rfl rfl hl.1 (Nat.le_of_ble_eq_true rfl) dX0_first_94 ⟨by show (0 + kc4) + 0 ≤ 1; omega, by show (0 + ks4) + 0 ≤ 16384; omega⟩) (fun v94 u H locs hz9 hH hS => ?_)
              obtain ⟨rfl⟩ := hz9
              have hH : HT D cs A T4 (a0 :: O) ((a0, .inr (0, [.ref n4_0_0, .int n4_0_1, .ref y2, .ref y3])) :: X) H := hH
              refine W.widen (k := 0 + kc4) (n := 0 + ks4) (Nat.le_refl _) (Nat.le_refl _) ?_
              refine lv_iload hx hb dX0_first_97 (lv_at hl 1 rfl) ?_
              refine lv_iand hx hb dX0_first_99 ?_
              refine lv_topi (fun v99 ev99 => ?_)
              have tv99 : 0 ≤ v99.toInt ∧ v99.toInt ≤ p72_8.toInt := by rw [ev99]; exact and_r (by omega)
              refine lv_istore (lv' := [(10, .int v99), (9, .int p72_9), (8, .int p72_8), (7, .int v55), (6, .int p72_6), (5, .int v17), (4, .int v4), (0, .ref a0), (1, .ref a1), (2, .int x2)]) hx hb dX0_first_100 hl (by decide) rfl (fun ls hl => ?_)
              refine lv_iload hx hb dX0_first_102 (lv_at hl 0 rfl) ?_
              refine tk_i hH hS hA (tr_S (n := 1) (As := [.int v99]) hx hb hml hown hts hkb hH (ox_map hOX rfl) hks hE hS hA (s_ntz l D cs kf T4 (a0 :: O) ((a0, .inr (0, [.ref n4_0_0, .int n4_0_1, .ref y2, .ref y3])) :: X) v99  (hO.sub (by decide))) kw_1145 kw_859 kw_20 kw_860 (by decide +kernel) ⟨Nat.le_of_ble_eq_true rfl, Nat.le_of_ble_eq_true rfl⟩ rfl rfl hl.1 (Nat.le_of_ble_eq_true rfl) dX0_first_104 ⟨by show (0 + kc4) + 0 ≤ 1; omega, by show (0 + ks4) + 0 ≤ 16384; omega⟩) (fun v104 u H locs hz9 hH hS => ?_)
              have hz9 : u = (T4, a0 :: O, (a0, .inr (0, [.ref n4_0_0, .int n4_0_1, .ref y2, .ref y3])) :: X) := hz9
              subst hz9
              have hH : HT D cs A T4 (a0 :: O) ((a0, .inr (0, [.ref n4_0_0, .int n4_0_1, .ref y2, .ref y3])) :: X) H := hH
              refine W.widen (k := 0 + kc4) (n := 0 + ks4) (Nat.le_refl _) (Nat.le_refl _) ?_
              refine lv_istore (lv' := [(11, .int v104), (10, .int v99), (9, .int p72_9), (8, .int p72_8), (7, .int v55), (6, .int p72_6), (5, .int v17), (4, .int v4), (0, .ref a0), (1, .ref a1), (2, .int x2)]) hx hb dX0_first_107 hl (by decide) rfl (fun ls hl => ?_)
              refine lv_aload_n hx hb dX0_first_109 rfl (lv_at hl 8 rfl) ?_
              refine x_getk (ci := 0) (C := RX0) (F := TX0) (N := 4) (v := .ref y3) hx hb hts uX0 hown hkb hH 0 rfl rfl 3 (by decide) rfl kw_333 (fun _ h9 => h9) dX0_first_110 ?_
              refine lv_iload hx hb dX0_first_113 (lv_at hl 2 rfl) ?_
              refine lv_iload hx hb dX0_first_115 (lv_at hl 0 rfl) ?_
              refine t_ist hx hb hkb hH hS t_y3 (hO.no t_y3 (by decide)) (by omega) (by omega) (cp_0 _) dX0_first_117 (fun H locs hH hS => ?_)
              refine lv_iload hx hb dX0_first_118 (lv_at hl 5 rfl) ?_
              refine lv_iconst (v := 1) hx hb dX0_first_120 (by decide) ?_
              refine lv_iload hx hb dX0_first_121 (lv_at hl 0 rfl) ?_
              refine lv_ishl hx hb dX0_first_123 ?_
              refine lv_topi (fun v123 ev123 => ?_)
              refine lv_iconst (v := (-1)) hx hb dX0_first_124 (by decide) ?_
              refine lv_ixor hx hb dX0_first_125 ?_
              refine lv_topi (fun v125 ev125 => ?_)
              refine lv_iand hx hb dX0_first_126 ?_
              refine lv_topi (fun v126 ev126 => ?_)
              have tv126 : 0 ≤ v126.toInt ∧ v126.toInt ≤ p72_6.toInt := by rw [ev126]; exact and_l (by omega)
              refine lv_istore (lv' := [(6, .int v126), (11, .int v104), (10, .int v99), (9, .int p72_9), (8, .int p72_8), (7, .int v55), (5, .int v17), (4, .int v4), (0, .ref a0), (1, .ref a1), (2, .int x2)]) hx hb dX0_first_127 hl (by decide) rfl (fun ls hl => ?_)
              refine lv_aload_n hx hb dX0_first_129 rfl (lv_at hl 9 rfl) ?_
              refine lv_iload hx hb dX0_first_130 (lv_at hl 1 rfl) ?_
              refine lv_iload hx hb dX0_first_132 (lv_at hl 0 rfl) ?_
              refine lv_iload hx hb dX0_first_134 (lv_at hl 6 rfl) ?_
              refine lv_ior hx hb dX0_first_136 ?_
              refine lv_topi (fun v136 ev136 => ?_)
              have tv136 : 0 ≤ v136.toInt ∧ v136.toInt < 16384 := by rw [ev136]; exact or_b 14 (by decide) (by omega) (by omega) (by omega) (by omega)
              refine tk_i hH hS hA (tr_V (n := 2) (As := [.int v104, .int v136]) hx hb hml hown hts hkb hH (ox_map hOX rfl) hks hE hS hA (s_Rows_stepped l D cs kf T4 (a0 :: O) ((a0, .inr (0, [.ref n4_0_0, .int n4_0_1, .ref y2, .ref y3])) :: X) a1 v104 v136 t_a1 (hO.sub (by decide))) kw_1075 kw_863 kw_864 kw_8 kw_865 (by decide +kernel) ⟨Nat.le_of_ble_eq_true rfl, Nat.le_of_ble_eq_true rfl⟩ (HT.recv (ci := 5) hkb hH t_a1 (hO.no t_a1 (by decide)) rfl) rfl rfl hl.1 (Nat.le_of_ble_eq_true rfl) dX0_first_137 ⟨by show (0 + kc4) + 0 ≤ 1; omega, by show (0 + ks4) + 0 ≤ 16384; omega⟩) (fun v137 u H locs hz9 hH hS => ?_)
              obtain ⟨rfl, l_v137, u_v137⟩ := hz9
              have hH : HT D cs A T4 (a0 :: O) ((a0, .inr (0, [.ref n4_0_0, .int n4_0_1, .ref y2, .ref y3])) :: X) H := hH
              refine W.widen (k := 0 + kc4) (n := 0 + ks4) (Nat.le_refl _) (Nat.le_refl _) ?_
              refine lv_istore (lv' := [(8, .int v137), (6, .int v126), (11, .int v104), (10, .int v99), (9, .int p72_9), (7, .int v55), (5, .int v17), (4, .int v4), (0, .ref a0), (1, .ref a1), (2, .int x2)]) hx hb dX0_first_140 hl (by decide) rfl (fun ls hl => ?_)
              obtain ⟨v142, ev142⟩ : ∃ y : Int32, y = p72_9 + 1 := ⟨_, rfl⟩
              have tv142 : v142.toInt = p72_9.toInt + (1) := by rw [ev142]; exact add_i rfl (by decide) (by omega) (by omega)
              refine lv_iinc (v := v142) (lv' := [(9, .int v142), (8, .int v137), (6, .int v126), (11, .int v104), (10, .int v99), (7, .int v55), (5, .int v17), (4, .int v4), (0, .ref a0), (1, .ref a1), (2, .int x2)]) hx hb dX0_first_142 hl (k := 4) rfl (by rw [ev142]; rfl) (by decide) rfl (fun ls hl => ?_)
              refine lv_goto (tgt := 72) hx hb dX0_first_145 (by decide) ?_
              exact ih72 _ (by omega) v142 v137 v126 _ _ _ rfl (by omega) (by omega) (by omega) (by omega) (by omega) (by omega) hH hS (lv_sub hl [0, 1, 5, 2, 6, 7, 8, 9, 10] rfl)
        refine lv_istore (lv' := [(9, .int 0), (8, .int v66), (7, .int v55), (6, .int k48_0), (5, .int v17), (4, .int v4), (0, .ref a0), (1, .ref a1), (2, .int x2), (3, .int x3)]) hx hb dX0_first_70 hl (by decide) rfl (fun ls hl => ?_)
        exact J72 _ 0 v66 k48_0 _ _ _ rfl (by decide) (by decide) (by omega) (by omega) (by omega) (by omega) hH hS (lv_sub hl [0, 1, 2, 3, 4, 5, 6, 7, 8] rfl)
      refine lv_if_ne (tgt := 44) hx hb dX0_first_37 (by decide) (fun c37 => ?_) (fun c37 => ?_)
      · skip
        have tc37 := f_ne (k := 0) (by decide) c37
        refine lv_aload_n hx hb dX0_first_44 rfl (lv_at hl 2 rfl) ?_
        refine x_getk (ci := 0) (C := RX0) (F := TX0) (N := 4) (v := .int n4_0_1) hx hb hts uX0 hown hkb hH 0 rfl rfl 1 (by decide) rfl kw_331 (fun _ h9 => h9) dX0_first_45 ?_
        exact J48 n4_0_1 _ _ _ (by omega) (by omega) hH hS (lv_sub hl [0, 1, 2, 3, 4, 5] rfl)
      · skip
        have tc37 := f_eq (k := 0) (by decide) c37
        refine lv_iconst (v := 0) hx hb dX0_first_40 (by decide) ?_
        refine lv_goto (tgt := 48) hx hb dX0_first_41 (by decide) ?_
        exact J48 0 _ _ _ (by decide) (by decide) hH hS (lv_sub hl [0, 1, 2, 3, 4, 5] rfl)
    · skip
      have tc30 := f_nlt (k := 14) (by decide) c30
      exact J33  _ _ _  hH hS (lv_sub hl [] rfl)
theorem dX11_idle_0 : decode cX11_idle 0 = .ok (.aload_n 0, 1) := by decide +kernel
theorem dX11_idle_1 : decode cX11_idle 1 = .ok (.iload_n 1, 1) := by decide +kernel
theorem dX11_idle_2 : decode cX11_idle 2 = .ok (.invokevirtual 186, 3) := by decide +kernel
theorem dX11_idle_5 : decode cX11_idle 5 = .ok (.ifCond .ne 6, 3) := by decide +kernel
theorem dX11_idle_8 : decode cX11_idle 8 = .ok (.bipush (-2), 2) := by decide +kernel
theorem dX11_idle_10 : decode cX11_idle 10 = .ok (.ireturn, 1) := by decide +kernel
theorem dX11_idle_11 : decode cX11_idle 11 = .ok (.aload_n 0, 1) := by decide +kernel
theorem dX11_idle_12 : decode cX11_idle 12 = .ok (.invokevirtual 206, 3) := by decide +kernel
theorem dX11_idle_15 : decode cX11_idle 15 = .ok (.istore_n 2, 1) := by decide +kernel
theorem dX11_idle_16 : decode cX11_idle 16 = .ok (.iload_n 2, 1) := by decide +kernel
theorem dX11_idle_17 : decode cX11_idle 17 = .ok (.aload_n 0, 1) := by decide +kernel
theorem dX11_idle_18 : decode cX11_idle 18 = .ok (.getfield 96, 3) := by decide +kernel
theorem dX11_idle_21 : decode cX11_idle 21 = .ok (.aload_n 0, 1) := by decide +kernel
theorem dX11_idle_22 : decode cX11_idle 22 = .ok (.iload_n 1, 1) := by decide +kernel
theorem dX11_idle_23 : decode cX11_idle 23 = .ok (.invokevirtual 202, 3) := by decide +kernel
theorem dX11_idle_26 : decode cX11_idle 26 = .ok (.iload_n 2, 1) := by decide +kernel
theorem dX11_idle_27 : decode cX11_idle 27 = .ok (.invokevirtual 335, 3) := by decide +kernel
theorem dX11_idle_30 : decode cX11_idle 30 = .ok (.iconst (-1), 1) := by decide +kernel
theorem dX11_idle_31 : decode cX11_idle 31 = .ok (.ixor, 1) := by decide +kernel
theorem dX11_idle_32 : decode cX11_idle 32 = .ok (.iand, 1) := by decide +kernel
theorem dX11_idle_33 : decode cX11_idle 33 = .ok (.ireturn, 1) := by decide +kernel
theorem dX11_order_0 : decode cX11_order 0 = .ok (.aload_n 0, 1) := by decide +kernel
theorem dX11_order_1 : decode cX11_order 1 = .ok (.iload_n 1, 1) := by decide +kernel
theorem dX11_order_2 : decode cX11_order 2 = .ok (.invokevirtual 186, 3) := by decide +kernel
theorem dX11_order_5 : decode cX11_order 5 = .ok (.ifCond .eq 12, 3) := by decide +kernel
theorem dX11_order_8 : decode cX11_order 8 = .ok (.iload_n 3, 1) := by decide +kernel
theorem dX11_order_9 : decode cX11_order 9 = .ok (.bipush 14, 2) := by decide +kernel
theorem dX11_order_11 : decode cX11_order 11 = .ok (.invokestatic 299, 3) := by decide +kernel
theorem dX11_order_14 : decode cX11_order 14 = .ok (.ifCond .ne 6, 3) := by decide +kernel
theorem dX11_order_17 : decode cX11_order 17 = .ok (.bipush (-2), 2) := by decide +kernel
theorem dX11_order_19 : decode cX11_order 19 = .ok (.ireturn, 1) := by decide +kernel
theorem dX11_order_20 : decode cX11_order 20 = .ok (.aload_n 0, 1) := by decide +kernel
theorem dX11_order_21 : decode cX11_order 21 = .ok (.aload_n 0, 1) := by decide +kernel
theorem dX11_order_22 : decode cX11_order 22 = .ok (.getfield 36, 3) := by decide +kernel
theorem dX11_order_25 : decode cX11_order 25 = .ok (.getfield 161, 3) := by decide +kernel
theorem dX11_order_28 : decode cX11_order 28 = .ok (.invokevirtual 164, 3) := by decide +kernel
theorem dX11_order_31 : decode cX11_order 31 = .ok (.istore 4, 2) := by decide +kernel
theorem dX11_order_33 : decode cX11_order 33 = .ok (.iload_n 2, 1) := by decide +kernel
theorem dX11_order_34 : decode cX11_order 34 = .ok (.iload 4, 2) := by decide +kernel
theorem dX11_order_36 : decode cX11_order 36 = .ok (.aload_n 0, 1) := by decide +kernel
theorem dX11_order_37 : decode cX11_order 37 = .ok (.getfield 29, 3) := by decide +kernel
theorem dX11_order_40 : decode cX11_order 40 = .ok (.invokevirtual 265, 3) := by decide +kernel
theorem dX11_order_43 : decode cX11_order 43 = .ok (.iand, 1) := by decide +kernel
theorem dX11_order_44 : decode cX11_order 44 = .ok (.iconst (-1), 1) := by decide +kernel
theorem dX11_order_45 : decode cX11_order 45 = .ok (.ixor, 1) := by decide +kernel
theorem dX11_order_46 : decode cX11_order 46 = .ok (.iand, 1) := by decide +kernel
theorem dX11_order_47 : decode cX11_order 47 = .ok (.ifCond .eq 6, 3) := by decide +kernel
theorem dX11_order_50 : decode cX11_order 50 = .ok (.bipush (-3), 2) := by decide +kernel
theorem dX11_order_52 : decode cX11_order 52 = .ok (.ireturn, 1) := by decide +kernel
theorem dX11_order_53 : decode cX11_order 53 = .ok (.aload_n 0, 1) := by decide +kernel
theorem dX11_order_54 : decode cX11_order 54 = .ok (.getfield 96, 3) := by decide +kernel
theorem dX11_order_57 : decode cX11_order 57 = .ok (.getfield 345, 3) := by decide +kernel
theorem dX11_order_60 : decode cX11_order 60 = .ok (.aload_n 0, 1) := by decide +kernel
theorem dX11_order_61 : decode cX11_order 61 = .ok (.getfield 96, 3) := by decide +kernel
theorem dX11_order_64 : decode cX11_order 64 = .ok (.aload_n 0, 1) := by decide +kernel
theorem dX11_order_65 : decode cX11_order 65 = .ok (.iload_n 1, 1) := by decide +kernel
theorem dX11_order_66 : decode cX11_order 66 = .ok (.invokevirtual 202, 3) := by decide +kernel
theorem dX11_order_69 : decode cX11_order 69 = .ok (.iload_n 2, 1) := by decide +kernel
theorem dX11_order_70 : decode cX11_order 70 = .ok (.iload 4, 2) := by decide +kernel
theorem dX11_order_72 : decode cX11_order 72 = .ok (.invokevirtual 346, 3) := by decide +kernel
theorem dX11_order_75 : decode cX11_order 75 = .ok (.iload_n 3, 1) := by decide +kernel
theorem dX11_order_76 : decode cX11_order 76 = .ok (.invokestatic 306, 3) := by decide +kernel
theorem dX11_order_79 : decode cX11_order 79 = .ok (.ireturn, 1) := by decide +kernel
theorem dX11_whose_0 : decode cX11_whose 0 = .ok (.aload_n 0, 1) := by decide +kernel
theorem dX11_whose_1 : decode cX11_whose 1 = .ok (.aload_n 0, 1) := by decide +kernel
theorem dX11_whose_2 : decode cX11_whose 2 = .ok (.getfield 36, 3) := by decide +kernel
theorem dX11_whose_5 : decode cX11_whose 5 = .ok (.getfield 161, 3) := by decide +kernel
theorem dX11_whose_8 : decode cX11_whose 8 = .ok (.invokevirtual 164, 3) := by decide +kernel
theorem dX11_whose_11 : decode cX11_whose 11 = .ok (.istore_n 2, 1) := by decide +kernel
theorem dX11_whose_12 : decode cX11_whose 12 = .ok (.iload_n 1, 1) := by decide +kernel
theorem dX11_whose_13 : decode cX11_whose 13 = .ok (.iload_n 2, 1) := by decide +kernel
theorem dX11_whose_14 : decode cX11_whose 14 = .ok (.aload_n 0, 1) := by decide +kernel
theorem dX11_whose_15 : decode cX11_whose 15 = .ok (.getfield 29, 3) := by decide +kernel
theorem dX11_whose_18 : decode cX11_whose 18 = .ok (.invokevirtual 265, 3) := by decide +kernel
theorem dX11_whose_21 : decode cX11_whose 21 = .ok (.iand, 1) := by decide +kernel
theorem dX11_whose_22 : decode cX11_whose 22 = .ok (.iconst (-1), 1) := by decide +kernel
theorem dX11_whose_23 : decode cX11_whose 23 = .ok (.ixor, 1) := by decide +kernel
theorem dX11_whose_24 : decode cX11_whose 24 = .ok (.iand, 1) := by decide +kernel
theorem dX11_whose_25 : decode cX11_whose 25 = .ok (.ifCond .eq 6, 3) := by decide +kernel
theorem dX11_whose_28 : decode cX11_whose 28 = .ok (.bipush (-3), 2) := by decide +kernel
theorem dX11_whose_30 : decode cX11_whose 30 = .ok (.ireturn, 1) := by decide +kernel
theorem dX11_whose_31 : decode cX11_whose 31 = .ok (.iconst 0, 1) := by decide +kernel
theorem dX11_whose_32 : decode cX11_whose 32 = .ok (.istore_n 3, 1) := by decide +kernel
theorem dX11_whose_33 : decode cX11_whose 33 = .ok (.iconst 0, 1) := by decide +kernel
theorem dX11_whose_34 : decode cX11_whose 34 = .ok (.istore 4, 2) := by decide +kernel
theorem dX11_whose_36 : decode cX11_whose 36 = .ok (.iload 4, 2) := by decide +kernel
theorem dX11_whose_38 : decode cX11_whose 38 = .ok (.aload_n 0, 1) := by decide +kernel
theorem dX11_whose_39 : decode cX11_whose 39 = .ok (.getfield 29, 3) := by decide +kernel
theorem dX11_whose_42 : decode cX11_whose 42 = .ok (.getfield 216, 3) := by decide +kernel
theorem dX11_whose_45 : decode cX11_whose 45 = .ok (.if_icmp .ge 35, 3) := by decide +kernel
theorem dX11_whose_48 : decode cX11_whose 48 = .ok (.aload_n 0, 1) := by decide +kernel
theorem dX11_whose_49 : decode cX11_whose 49 = .ok (.getfield 96, 3) := by decide +kernel
theorem dX11_whose_52 : decode cX11_whose 52 = .ok (.aload_n 0, 1) := by decide +kernel
theorem dX11_whose_53 : decode cX11_whose 53 = .ok (.iload 4, 2) := by decide +kernel
theorem dX11_whose_55 : decode cX11_whose 55 = .ok (.invokevirtual 202, 3) := by decide +kernel
theorem dX11_whose_58 : decode cX11_whose 58 = .ok (.iload_n 1, 1) := by decide +kernel
theorem dX11_whose_59 : decode cX11_whose 59 = .ok (.iload_n 2, 1) := by decide +kernel
theorem dX11_whose_60 : decode cX11_whose 60 = .ok (.invokevirtual 344, 3) := by decide +kernel
theorem dX11_whose_63 : decode cX11_whose 63 = .ok (.iconst (-1), 1) := by decide +kernel
theorem dX11_whose_64 : decode cX11_whose 64 = .ok (.if_icmp .eq 10, 3) := by decide +kernel
theorem dX11_whose_67 : decode cX11_whose 67 = .ok (.iload_n 3, 1) := by decide +kernel
theorem dX11_whose_68 : decode cX11_whose 68 = .ok (.iconst 1, 1) := by decide +kernel
theorem dX11_whose_69 : decode cX11_whose 69 = .ok (.iload 4, 2) := by decide +kernel
theorem dX11_whose_71 : decode cX11_whose 71 = .ok (.ishl, 1) := by decide +kernel
theorem dX11_whose_72 : decode cX11_whose 72 = .ok (.ior, 1) := by decide +kernel
theorem dX11_whose_73 : decode cX11_whose 73 = .ok (.istore_n 3, 1) := by decide +kernel
theorem dX11_whose_74 : decode cX11_whose 74 = .ok (.iinc 4 1, 3) := by decide +kernel
theorem dX11_whose_77 : decode cX11_whose 77 = .ok (.goto (-41), 3) := by decide +kernel
theorem dX11_whose_80 : decode cX11_whose 80 = .ok (.iload_n 3, 1) := by decide +kernel
theorem dX11_whose_81 : decode cX11_whose 81 = .ok (.ireturn, 1) := by decide +kernel
theorem kw_334 : Cond.fieldLink "FootholdWall" 345 "FootholdWall$Chains" "path" "[I" ∈ gw := gw_of (tb_of 334 (by decide +kernel)) (by decide +kernel)
theorem kw_376 : Cond.fieldLink "FootholdWall" 96 "FootholdWall" "chains" "LFootholdWall$Chains;" ∈ gw := gw_of (tb_of 376 (by decide +kernel)) (by decide +kernel)
theorem kw_1067 : Cond.methodLink "FootholdWall" 335 yX0_inClimbs ∈ gw := gw_of (tb_of 1067 (by decide +kernel)) (by decide +kernel)
theorem kw_1068 : Cond.instanceMethod yX0_inClimbs ∈ gw := gw_of (tb_of 1068 (by decide +kernel)) (by decide +kernel)
theorem kw_1069 : Cond.selects "FootholdWall$Chains" yX0_inClimbs yX0_inClimbs ∈ gw := gw_of (tb_of 1069 (by decide +kernel)) (by decide +kernel)
theorem kw_1070 : Cond.code yX0_inClimbs cX0_inClimbs 10 (some (.int)) ∈ gw := gw_of (tb_of 1070 (by decide +kernel)) (by decide +kernel)
theorem kw_1127 : Cond.methodLink "FootholdWall" 344 yX0_fewest ∈ gw := gw_of (tb_of 1127 (by decide +kernel)) (by decide +kernel)
theorem kw_1136 : Cond.methodLink "FootholdWall" 346 yX0_first ∈ gw := gw_of (tb_of 1136 (by decide +kernel)) (by decide +kernel)
theorem kw_1137 : Cond.instanceMethod yX0_first ∈ gw := gw_of (tb_of 1137 (by decide +kernel)) (by decide +kernel)
theorem kw_1138 : Cond.selects "FootholdWall$Chains" yX0_first yX0_first ∈ gw := gw_of (tb_of 1138 (by decide +kernel)) (by decide +kernel)
theorem kw_1139 : Cond.code yX0_first cX0_first 12 (some (.int)) ∈ gw := gw_of (tb_of 1139 (by decide +kernel)) (by decide +kernel)
set_option maxHeartbeats 4000000 in
set_option maxRecDepth 100000 in
theorem s_FW_idle (l : Launch) (D : va_G) (cs : CS) (kf : KF) (T : TF) (O : List Nat) (X : va_W) (a0 w hw gw ch gq : Nat) (x1 : Int32) (y0 : Nat) (y1 : Int32) (y2 : Nat) (y3 : Nat) (nn j : Nat) (t_a0 : T a0 = some (21, w, ch)) (t_w : isW T w hw gw) (t_ch : T ch = some (10, gq, 0)) (t_y0 : T y0 = some (1, nn, 0)) (l_y1 : 0 ≤ y1.toInt) (u_y1 : y1.toInt ≤ 16383) (t_y2 : T y2 = some (1, 14, 1)) (t_y3 : T y3 = some (1, 14, 0)) (hn : nn = 2 ^ j) (hj : j ≤ 14) (hO : okO T (ch :: O) [1, 7, 12, 15, 16, 19, 21]) : TKD l D cs kf yX11_idle cX11_idle 3 (some (.int)) { frames := 7, cells := 1, slots := 16384, locals := 179 } [.ref a0, .int x1] T (ch :: O) ((ch, .inr (0, [.ref y0, .int y1, .ref y2, .ref y3])) :: X) (fun kk ss => Ti D cs ((fun kk ss r u => ∃ T2 : TF, Tgr T T2 ∧ ∃ (n2 : Nat) (j2 : Nat) (n0_0 : Nat) (n0_1 : Int32), u = (T2, ch :: O, (ch, .inr (0, [.ref n0_0, .int n0_1, .ref y2, .ref y3])) :: X) ∧ -2 ≤ r.toInt ∧ r.toInt ≤ 16383 ∧ (T2 n0_0 = some (1, n2, 0)) ∧ (n2 = 2 ^ j2) ∧ (j ≤ j2) ∧ (j2 ≤ 14) ∧ (0 ≤ n0_1.toInt) ∧ (n0_1.toInt ≤ 16383) ∧ (True) ∧ (kk + j ≤ j2) ∧ (ss + 16384 * j ≤ 16384 * j2) ∧ (kk ≤ 1) ∧ (ss ≤ 16384)) kk ss)) := by
  refine tkd_of (by decide) (Nat.le_of_ble_eq_true rfl) (fun p e s m below meth c ls A H locs hx hb hr hml hown hts hlocks hnm hkb hH hS hA hOX hks hE hl => ?_)
  have hown : s.vm.findClass RX11 = some m.cls := hown
  have hl : lv_has ls 3 [(0, .ref a0), (1, .int x1)] := hl
  have b1_w := t_w.2.1
  have b2_w := t_w.2.2
  have hOXf := hOX
  have hnb := p2_le hn hj
  refine lv_aload_n hx hb dX11_idle_0 rfl (lv_at hl 0 rfl) ?_
  refine lv_iload_n hx hb dX11_idle_1 rfl (lv_at hl 1 rfl) ?_
  refine tk_i hH hS hA (tr_V (n := 1) (As := [.int x1]) hx hb hml hown hts hkb hH (ox_map hOX rfl) hks hE hS hA (s_FW_isGuide l D cs kf T (ch :: O) ((ch, .inr (0, [.ref y0, .int y1, .ref y2, .ref y3])) :: X) a0 w hw gw ch gq x1 t_a0 t_w t_ch (hO.sub (by decide))) kw_794 kw_796 ks_20 kw_1 kw_797 (by decide +kernel) ⟨Nat.le_of_ble_eq_true rfl, Nat.le_of_ble_eq_true rfl⟩ (HT.recv (ci := 11) hkb hH t_a0 (hO.no t_a0 (by decide)) rfl) rfl rfl hl.1 (Nat.le_of_ble_eq_true rfl) dX11_idle_2 ⟨by show 0 + 0 ≤ 1; omega, by show 0 + 0 ≤ 16384; omega⟩) (fun v2 u H locs hz9 hH hS => ?_)
  obtain ⟨rfl, l_v2, u_v2, x_v20⟩ := hz9
  have hH : HT D cs A T (ch :: O) ((ch, .inr (0, [.ref y0, .int y1, .ref y2, .ref y3])) :: X) H := hH
  refine W.widen (k := 0) (n := 0) (Nat.le_refl _) (Nat.le_refl _) ?_
  refine lv_if_ne (tgt := 11) hx hb dX11_idle_5 (by decide) (fun c5 => ?_) (fun c5 => ?_)
  · skip
    have tc5 := f_ne (k := 0) (by decide) c5
    refine lv_aload_n hx hb dX11_idle_11 rfl (lv_at hl 0 rfl) ?_
    refine tk_i hH hS hA (tr_V (n := 0) (As := []) hx hb hml hown hts hkb hH (ox_map hOX rfl) hks hE hS hA (s_FW_openNow l D cs kf T (ch :: O) ((ch, .inr (0, [.ref y0, .int y1, .ref y2, .ref y3])) :: X) a0 w hw gw ch gq t_a0 t_w t_ch (hO.sub (by decide))) kw_846 kw_848 ks_22 kw_1 kw_849 (by decide +kernel) ⟨Nat.le_of_ble_eq_true rfl, Nat.le_of_ble_eq_true rfl⟩ (HT.recv (ci := 11) hkb hH t_a0 (hO.no t_a0 (by decide)) rfl) rfl rfl hl.1 (Nat.le_of_ble_eq_true rfl) dX11_idle_12 ⟨by show 0 + 0 ≤ 1; omega, by show 0 + 0 ≤ 16384; omega⟩) (fun v12 u H locs hz9 hH hS => ?_)
    obtain ⟨rfl, l_v12, u_v12⟩ := hz9
    have hH : HT D cs A T (ch :: O) ((ch, .inr (0, [.ref y0, .int y1, .ref y2, .ref y3])) :: X) H := hH
    refine W.widen (k := 0) (n := 0) (Nat.le_refl _) (Nat.le_refl _) ?_
    refine lv_istore_n (lv' := [(2, .int v12), (0, .ref a0), (1, .int x1)]) hx hb dX11_idle_15 rfl hl (by decide) rfl (fun ls hl => ?_)
    refine lv_iload_n hx hb dX11_idle_16 rfl (lv_at hl 0 rfl) ?_
    refine lv_aload_n hx hb dX11_idle_17 rfl (lv_at hl 1 rfl) ?_
    refine t_get (ci := 11) (lst := ft11 w ch) (C := RX11) (F := TX11) (N := 20) hx hb hts uX11 hown hkb hH t_a0 (hO.no t_a0 (by decide)) (fun _ h9 => h9) rfl rfl 16 (by decide) rfl kw_376 (fun _ h9 => h9) dX11_idle_18 (fun v9 h9 => ?_)
    have h9 : v9 = .ref ch := h9
    subst h9
    refine lv_aload_n hx hb dX11_idle_21 rfl (lv_at hl 1 rfl) ?_
    refine lv_iload_n hx hb dX11_idle_22 rfl (lv_at hl 2 rfl) ?_
    refine tk_r hH hS hA (tr_V (n := 1) (As := [.int x1]) hx hb hml hown hts hkb hH (ox_map hOX rfl) hks hE hS hA (s_FW_rowsOf l D cs kf T (ch :: O) ((ch, .inr (0, [.ref y0, .int y1, .ref y2, .ref y3])) :: X) a0 w hw gw ch gq x1 t_a0 t_w t_ch (by omega) (by omega) (hO.sub (by decide))) kw_830 kw_832 ks_21 kw_1 kw_833 (by decide +kernel) ⟨Nat.le_of_ble_eq_true rfl, Nat.le_of_ble_eq_true rfl⟩ (HT.recv (ci := 11) hkb hH t_a0 (hO.no t_a0 (by decide)) rfl) rfl rfl hl.1 (Nat.le_of_ble_eq_true rfl) dX11_idle_23 ⟨by show 0 + 0 ≤ 1; omega, by show 0 + 0 ≤ 16384; omega⟩) (fun v23 u H locs hz9 hH hS => ?_)
    obtain ⟨hu9, t_v23⟩ := hz9
    have hu9 : u = (T, ch :: O, (ch, .inr (0, [.ref y0, .int y1, .ref y2, .ref y3])) :: X) := hu9
    subst hu9
    have hH : HT D cs A T (ch :: O) ((ch, .inr (0, [.ref y0, .int y1, .ref y2, .ref y3])) :: X) H := hH
    refine W.widen (k := 0) (n := 0) (Nat.le_refl _) (Nat.le_refl _) ?_
    refine lv_iload_n hx hb dX11_idle_26 rfl (lv_at hl 0 rfl) ?_
    refine tk_iD hH hS hA (tr_VD (n := 2) (As := [.ref v23, .int v12]) hx hb hml hown hts hkb hH (ox_map hOX rfl) hks hE hS hA (s_Ch_inClimbs l D cs kf T O X ch v23 v12 y0 y1 y2 y3 nn j gq t_ch t_v23 t_y0 (by omega) (by omega) t_y2 t_y3 hn (by omega) (hO.sub (by decide))) kw_1067 kw_1068 kw_1069 kw_11 kw_1070 (by decide +kernel) ⟨Nat.le_of_ble_eq_true rfl, Nat.le_of_ble_eq_true rfl⟩ (x_recv (ci := 0) hkb hH 0 rfl rfl) rfl rfl hl.1 (Nat.le_of_ble_eq_true rfl) dX11_idle_27 ⟨by show 0 + 1 ≤ 1; omega, by show 0 + 16384 ≤ 16384; omega⟩) (fun v27 kc27 ks27 u H locs hz9 hH hS => ?_)
    obtain ⟨T27, le_T27, n2_27, j2_27, n27_0_0, n27_0_1, rfl, l_v27, u_v27, x_v270, x_v271, x_v272, x_v273, x_v274, x_v275, x_v276, x_v277, x_v278, x_v279, x_v2710⟩ := hz9
    have t_a0 := le_T27.1 _ _ t_a0
    have t_w := isW.le le_T27.1 t_w
    have t_ch := le_T27.1 _ _ t_ch
    have t_y0 := le_T27.1 _ _ t_y0
    have t_y2 := le_T27.1 _ _ t_y2
    have t_y3 := le_T27.1 _ _ t_y3
    have t_v23 := le_T27.1 _ _ t_v23
    have hO := okO.le le_T27.1 hO
    have t_n27_0_0 := x_v270
    have hnb_27 := p2_le x_v271 (by omega)
    have hH : HT D cs A T27 (ch :: O) ((ch, .inr (0, [.ref n27_0_0, .int n27_0_1, .ref y2, .ref y3])) :: X) H := hH
    refine lv_iconst (v := (-1)) hx hb dX11_idle_30 (by decide) ?_
    refine lv_ixor hx hb dX11_idle_31 ?_
    refine lv_topi (fun v31 ev31 => ?_)
    refine lv_iand hx hb dX11_idle_32 ?_
    refine lv_topi (fun v32 ev32 => ?_)
    have tv32 : 0 ≤ v32.toInt ∧ v32.toInt ≤ v12.toInt := by rw [ev32]; exact and_l (by omega)
    exact te_iD hx hb hr hlocks hH hS (⟨T27, le_T27, n2_27, j2_27, n27_0_0, n27_0_1, rfl, by omega, by omega, t_n27_0_0, x_v271, by omega, by omega, by omega, by omega, trivial, by omega, by omega, by omega, by omega⟩) dX11_idle_33
  · skip
    have tc5 := f_eq (k := 0) (by decide) c5
    refine lv_bipush (v := (-2)) hx hb dX11_idle_8 (by decide) ?_
    have z9_m2 : ((-2) : Int32).toInt = -2 := by decide
    exact te_iD hx hb hr hlocks hH hS (⟨T, Tgr.rf, nn, j, y0, y1, rfl, by decide, by decide, t_y0, hn, by omega, by omega, by omega, by omega, trivial, by omega, by omega, by omega, by omega⟩) dX11_idle_10
set_option maxHeartbeats 4000000 in
set_option maxRecDepth 100000 in
theorem s_FW_whose (l : Launch) (D : va_G) (cs : CS) (kf : KF) (T : TF) (O : List Nat) (X : va_W) (a0 w hw gw ch gq : Nat) (x1 : Int32) (y0 : Nat) (y1 : Int32) (y2 : Nat) (y3 : Nat) (nn j : Nat) (t_a0 : T a0 = some (21, w, ch)) (t_w : isW T w hw gw) (t_ch : T ch = some (10, gq, 0)) (t_y0 : T y0 = some (1, nn, 0)) (l_y1 : 0 ≤ y1.toInt) (u_y1 : y1.toInt ≤ 16383) (t_y2 : T y2 = some (1, 14, 1)) (t_y3 : T y3 = some (1, 14, 0)) (hn : nn = 2 ^ j) (hj : j ≤ 14) (hO : okO T (ch :: O) [1, 7, 12, 15, 16, 19, 21]) : TKD l D cs kf yX11_whose cX11_whose 5 (some (.int)) { frames := 6, cells := 15, slots := 245760, locals := 162 } [.ref a0, .int x1] T (ch :: O) ((ch, .inr (0, [.ref y0, .int y1, .ref y2, .ref y3])) :: X) (fun kk ss => Ti D cs ((fun kk ss r u => ∃ T2 : TF, Tgr T T2 ∧ ∃ (n2 : Nat) (j2 : Nat) (n0_0 : Nat) (n0_1 : Int32), u = (T2, ch :: O, (ch, .inr (0, [.ref n0_0, .int n0_1, .ref y2, .ref y3])) :: X) ∧ -3 ≤ r.toInt ∧ r.toInt ≤ 16383 ∧ (T2 n0_0 = some (1, n2, 0)) ∧ (n2 = 2 ^ j2) ∧ (j ≤ j2) ∧ (j2 ≤ 14) ∧ (0 ≤ n0_1.toInt) ∧ (n0_1.toInt ≤ 16383) ∧ (True) ∧ (kk + j ≤ j2) ∧ (ss + 16384 * j ≤ 16384 * j2)) kk ss)) := by
  refine tkd_of (by decide) (Nat.le_of_ble_eq_true rfl) (fun p e s m below meth c ls A H locs hx hb hr hml hown hts hlocks hnm hkb hH hS hA hOX hks hE hl => ?_)
  have hown : s.vm.findClass RX11 = some m.cls := hown
  have hl : lv_has ls 5 [(0, .ref a0), (1, .int x1)] := hl
  have b1_w := t_w.2.1
  have b2_w := t_w.2.2
  have hOXf := hOX
  have hnb := p2_le hn hj
  refine lv_aload_n hx hb dX11_whose_0 rfl (lv_at hl 0 rfl) ?_
  refine lv_aload_n hx hb dX11_whose_1 rfl (lv_at hl 0 rfl) ?_
  refine t_get (ci := 11) (lst := ft11 w ch) (C := RX11) (F := TX11) (N := 20) hx hb hts uX11 hown hkb hH t_a0 (hO.no t_a0 (by decide)) (fun _ h9 => h9) rfl rfl 4 (by decide) rfl kw_364 (fun _ h9 => h9) dX11_whose_2 (fun v9 h9 => ?_)
  obtain ⟨v2, rfl, t_v2⟩ := h9
  refine t_get (ci := 6) (lst := ft6 0 0) (C := RX6) (F := TX6) (N := 6) hx hb hts uX6 hown hkb hH t_v2 (hO.no t_v2 (by decide)) (fun _ h9 => h9) rfl rfl 2 (by decide) rfl kw_191 (fun _ h9 => h9) dX11_whose_5 (fun v9 h9 => ?_)
  obtain ⟨v5, rfl⟩ := h9
  refine tk_i hH hS hA (tr_V (n := 1) (As := [.int v5]) hx hb hml hown hts hkb hH (ox_map hOX rfl) hks hE hS hA (s_FW_thereOn l D cs kf T (ch :: O) ((ch, .inr (0, [.ref y0, .int y1, .ref y2, .ref y3])) :: X) a0 w hw gw ch gq v5 t_a0 t_w t_ch (hO.sub (by decide))) kw_774 kw_776 ks_18 kw_1 kw_777 (by decide +kernel) ⟨Nat.le_of_ble_eq_true rfl, Nat.le_of_ble_eq_true rfl⟩ (HT.recv (ci := 11) hkb hH t_a0 (hO.no t_a0 (by decide)) rfl) rfl rfl hl.1 (Nat.le_of_ble_eq_true rfl) dX11_whose_8 ⟨by show 0 + 0 ≤ 15; omega, by show 0 + 0 ≤ 245760; omega⟩) (fun v8 u H locs hz9 hH hS => ?_)
  obtain ⟨rfl, l_v8, u_v8⟩ := hz9
  have hH : HT D cs A T (ch :: O) ((ch, .inr (0, [.ref y0, .int y1, .ref y2, .ref y3])) :: X) H := hH
  refine W.widen (k := 0) (n := 0) (Nat.le_refl _) (Nat.le_refl _) ?_
  refine lv_istore_n (lv' := [(2, .int v8), (0, .ref a0), (1, .int x1)]) hx hb dX11_whose_11 rfl hl (by decide) rfl (fun ls hl => ?_)
  refine lv_iload_n hx hb dX11_whose_12 rfl (lv_at hl 2 rfl) ?_
  refine lv_iload_n hx hb dX11_whose_13 rfl (lv_at hl 0 rfl) ?_
  refine lv_aload_n hx hb dX11_whose_14 rfl (lv_at hl 1 rfl) ?_
  refine t_get (ci := 11) (lst := ft11 w ch) (C := RX11) (F := TX11) (N := 20) hx hb hts uX11 hown hkb hH t_a0 (hO.no t_a0 (by decide)) (fun _ h9 => h9) rfl rfl 3 (by decide) rfl kw_363 (fun _ h9 => h9) dX11_whose_15 (fun v9 h9 => ?_)
  have h9 : v9 = .ref w := h9
  subst h9
  refine tk_i hH hS hA (tr_V (n := 0) (As := []) hx hb hml hown hts hkb hH (ox_map hOX rfl) hks hE hS hA (s_Wall_middles l D cs kf T (ch :: O) ((ch, .inr (0, [.ref y0, .int y1, .ref y2, .ref y3])) :: X) w hw gw t_w (hO.sub (by decide))) kw_892 kw_683 kw_684 kw_5 kw_685 (by decide +kernel) ⟨Nat.le_of_ble_eq_true rfl, Nat.le_of_ble_eq_true rfl⟩ (HT.recv (ci := 9) hkb hH t_w.1 (hO.no t_w.1 (by decide)) rfl) rfl rfl hl.1 (Nat.le_of_ble_eq_true rfl) dX11_whose_18 ⟨by show 0 + 0 ≤ 15; omega, by show 0 + 0 ≤ 245760; omega⟩) (fun v18 u H locs hz9 hH hS => ?_)
  obtain ⟨rfl, l_v18, u_v18⟩ := hz9
  have hH : HT D cs A T (ch :: O) ((ch, .inr (0, [.ref y0, .int y1, .ref y2, .ref y3])) :: X) H := hH
  refine W.widen (k := 0) (n := 0) (Nat.le_refl _) (Nat.le_refl _) ?_
  refine lv_iand hx hb dX11_whose_21 ?_
  refine lv_topi (fun v21 ev21 => ?_)
  have tv21 : 0 ≤ v21.toInt ∧ v21.toInt ≤ v8.toInt := by rw [ev21]; exact and_l (by omega)
  have ttv21 : 0 ≤ v21.toInt ∧ v21.toInt ≤ v18.toInt := by rw [ev21]; exact and_r (by omega)
  refine lv_iconst (v := (-1)) hx hb dX11_whose_22 (by decide) ?_
  refine lv_ixor hx hb dX11_whose_23 ?_
  refine lv_topi (fun v23 ev23 => ?_)
  refine lv_iand hx hb dX11_whose_24 ?_
  refine lv_topi (fun v24 ev24 => ?_)
  refine lv_if_eq (tgt := 31) hx hb dX11_whose_25 (by decide) (fun c25 => ?_) (fun c25 => ?_)
  · skip
    have tc25 := f_eq (k := 0) (by decide) c25
    refine lv_iconst (v := 0) hx hb dX11_whose_31 (by decide) ?_
    refine lv_istore_n (lv' := [(3, .int 0), (2, .int v8), (0, .ref a0), (1, .int x1)]) hx hb dX11_whose_32 rfl hl (by decide) rfl (fun ls hl => ?_)
    refine lv_iconst (v := 0) hx hb dX11_whose_33 (by decide) ?_
    have J36 : ∀ (n : Nat) (T36q : TF) (kc36 ks36 : Nat) (p36_4 : Int32) (p36_3 : Int32) (f36_100 : Nat) (nf36_100 jf36_100 : Nat) (f36_101 : Int32) (H : Heap) (locs : List Loc) (ls : Array Slot), (5 - p36_4.toInt).toNat = n → Tgr T T36q → (T36q f36_100 = some (1, nf36_100, 0)) → (nf36_100 = 2 ^ jf36_100) → (jf36_100 ≤ 14) → (0 ≤ p36_4.toInt) → (p36_4.toInt ≤ 5) → (0 ≤ p36_3.toInt) → (p36_3.toInt ≤ 16383) → (0 ≤ f36_101.toInt) → (f36_101.toInt ≤ 16383) → (kc36 + j ≤ jf36_100) → (ks36 + 16384 * j ≤ 16384 * jf36_100) → (j ≤ jf36_100) → HT D cs A T36q (ch :: O) ((ch, .inr (0, [.ref f36_100, .int f36_101, .ref y2, .ref y3])) :: X) H → va_S A s.heap H locs → lv_has ls 5 [(4, .int p36_4), (3, .int p36_3), (2, .int v8), (0, .ref a0), (1, .int x1)] → W p l e { frames := 6, cells := 15, slots := 245760, locals := 162 } s m [.ref a0, .int x1].toArray below meth c H locs kc36 ks36 (MQD below (fun kk ss => Ti D cs ((fun kk ss r u => ∃ T2 : TF, Tgr T T2 ∧ ∃ (n2 : Nat) (j2 : Nat) (n0_0 : Nat) (n0_1 : Int32), u = (T2, ch :: O, (ch, .inr (0, [.ref n0_0, .int n0_1, .ref y2, .ref y3])) :: X) ∧ -3 ≤ r.toInt ∧ r.toInt ≤ 16383 ∧ (T2 n0_0 = some (1, n2, 0)) ∧ (n2 = 2 ^ j2) ∧ (j ≤ j2) ∧ (j2 ≤ 14) ∧ (0 ≤ n0_1.toInt) ∧ (n0_1.toInt ≤ 16383) ∧ (True) ∧ (kk + j ≤ j2) ∧ (ss + 16384 * j ≤ 16384 * j2)) kk ss) A) [.ref a0, .int x1].toArray s A) (F0 m 36 ls []) := by
      intro n
      induction n using Nat.strongRecOn with
      | _ n ih36 =>
        intro T36q kc36 ks36 p36_4 p36_3 f36_100 nf36_100 jf36_100 f36_101 H locs ls hm36 le_T36q t_f36_100 q_f36_100 qj_f36_100 l_p36_4 u_p36_4 l_p36_3 u_p36_3 l_f36_101 u_f36_101 i36a i36b i36c hH hS hl
        have t_a0 := le_T36q.1 _ _ t_a0
        have t_w := isW.le le_T36q.1 t_w
        have t_ch := le_T36q.1 _ _ t_ch
        have t_y0 := le_T36q.1 _ _ t_y0
        have t_y2 := le_T36q.1 _ _ t_y2
        have t_y3 := le_T36q.1 _ _ t_y3
        have t_v2 := le_T36q.1 _ _ t_v2
        have hO := okO.le le_T36q.1 hO
        have qb_f36_100 := p2_le q_f36_100 qj_f36_100
        refine lv_iload hx hb dX11_whose_36 (lv_at hl 0 rfl) ?_
        refine lv_aload_n hx hb dX11_whose_38 rfl (lv_at hl 3 rfl) ?_
        refine t_get (ci := 11) (lst := ft11 w ch) (C := RX11) (F := TX11) (N := 20) hx hb hts uX11 hown hkb hH t_a0 (hO.no t_a0 (by decide)) (fun _ h9 => h9) rfl rfl 3 (by decide) rfl kw_363 (fun _ h9 => h9) dX11_whose_39 (fun v9 h9 => ?_)
        have h9 : v9 = .ref w := h9
        subst h9
        refine t_get (ci := 9) (lst := ft9w hw gw) (C := RX9) (F := TX9) (N := 14) hx hb hts uX9 hown hkb hH t_w.1 (hO.no t_w.1 (by decide)) (fun fs => (ob9w t_w fs).mp) rfl rfl 1 (by decide) rfl kw_112 (fun _ h9 => h9) dX11_whose_42 (fun v9 h9 => ?_)
        have h9 : v9 = .int (nI gw) := h9
        subst h9
        have e_gw : (nI gw).toInt = gw := nI_toInt (by have := t_w.2.2; omega)
        have b_gw := t_w.2.2
        refine lv_icmp_ge (tgt := 80) hx hb dX11_whose_45 (by decide) (fun c45 => ?_) (fun c45 => ?_)
        · skip
          have fuc45 := full_i p36_4
          have fvc45 := full_i (nI gw)
          have tc45 := g_le c45
          refine lv_iload_n hx hb dX11_whose_80 rfl (lv_at hl 1 rfl) ?_
          exact te_iD hx hb hr hlocks hH hS (⟨T36q, le_T36q, nf36_100, jf36_100, f36_100, f36_101, rfl, by omega, by omega, t_f36_100, q_f36_100, by omega, by omega, by omega, by omega, trivial, by omega, by omega⟩) dX11_whose_81
        · skip
          have fuc45 := full_i p36_4
          have fvc45 := full_i (nI gw)
          have tc45 := g_nle c45
          refine lv_aload_n hx hb dX11_whose_48 rfl (lv_at hl 3 rfl) ?_
          refine t_get (ci := 11) (lst := ft11 w ch) (C := RX11) (F := TX11) (N := 20) hx hb hts uX11 hown hkb hH t_a0 (hO.no t_a0 (by decide)) (fun _ h9 => h9) rfl rfl 16 (by decide) rfl kw_376 (fun _ h9 => h9) dX11_whose_49 (fun v9 h9 => ?_)
          have h9 : v9 = .ref ch := h9
          subst h9
          refine lv_aload_n hx hb dX11_whose_52 rfl (lv_at hl 3 rfl) ?_
          refine lv_iload hx hb dX11_whose_53 (lv_at hl 0 rfl) ?_
          refine tk_r hH hS hA (tr_V (n := 1) (As := [.int p36_4]) hx hb hml hown hts hkb hH (ox_map hOX rfl) hks hE hS hA (s_FW_rowsOf l D cs kf T36q (ch :: O) ((ch, .inr (0, [.ref f36_100, .int f36_101, .ref y2, .ref y3])) :: X) a0 w hw gw ch gq p36_4 t_a0 t_w t_ch (by omega) (by omega) (hO.sub (by decide))) kw_830 kw_832 ks_21 kw_1 kw_833 (by decide +kernel) ⟨Nat.le_of_ble_eq_true rfl, Nat.le_of_ble_eq_true rfl⟩ (HT.recv (ci := 11) hkb hH t_a0 (hO.no t_a0 (by decide)) rfl) rfl rfl hl.1 (Nat.le_of_ble_eq_true rfl) dX11_whose_55 ⟨by show kc36 + 0 ≤ 15; omega, by show ks36 + 0 ≤ 245760; omega⟩) (fun v55 u H locs hz9 hH hS => ?_)
          obtain ⟨hu9, t_v55⟩ := hz9
          have hu9 : u = (T36q, ch :: O, (ch, .inr (0, [.ref f36_100, .int f36_101, .ref y2, .ref y3])) :: X) := hu9
          subst hu9
          have hH : HT D cs A T36q (ch :: O) ((ch, .inr (0, [.ref f36_100, .int f36_101, .ref y2, .ref y3])) :: X) H := hH
          refine W.widen (k := kc36) (n := ks36) (Nat.le_refl _) (Nat.le_refl _) ?_
          refine lv_iload_n hx hb dX11_whose_58 rfl (lv_at hl 4 rfl) ?_
          refine lv_iload_n hx hb dX11_whose_59 rfl (lv_at hl 2 rfl) ?_
          refine tk_iD hH hS hA (tr_VD (n := 3) (As := [.ref v55, .int x1, .int v8]) hx hb hml hown hts hkb hH (ox_map hOX rfl) hks hE hS hA (s_Ch_fewest l D cs kf T36q O X ch v55 x1 v8 f36_100 f36_101 y2 y3 nf36_100 jf36_100 gq t_ch t_v55 t_f36_100 (by omega) (by omega) t_y2 t_y3 q_f36_100 (by omega) (hO.sub (by decide))) kw_1127 kw_1128 kw_1129 kw_11 kw_1130 (by decide +kernel) ⟨Nat.le_of_ble_eq_true rfl, Nat.le_of_ble_eq_true rfl⟩ (x_recv (ci := 0) hkb hH 0 rfl rfl) rfl rfl hl.1 (Nat.le_of_ble_eq_true rfl) dX11_whose_60 ⟨by show kc36 + 1 ≤ 15; omega, by show ks36 + 16384 ≤ 245760; omega⟩) (fun v60 kc60 ks60 u H locs hz9 hH hS => ?_)
          obtain ⟨T60, le_T60, n2_60, j2_60, n60_0_0, n60_0_1, rfl, l_v60, u_v60, x_v600, x_v601, x_v602, x_v603, x_v604, x_v605, x_v606, x_v607, x_v608, x_v609, x_v6010⟩ := hz9
          have t_a0 := le_T60.1 _ _ t_a0
          have t_w := isW.le le_T60.1 t_w
          have t_ch := le_T60.1 _ _ t_ch
          have t_y0 := le_T60.1 _ _ t_y0
          have t_y2 := le_T60.1 _ _ t_y2
          have t_y3 := le_T60.1 _ _ t_y3
          have t_v2 := le_T60.1 _ _ t_v2
          have t_f36_100 := le_T60.1 _ _ t_f36_100
          have t_v55 := le_T60.1 _ _ t_v55
          have hO := okO.le le_T60.1 hO
          have t_n60_0_0 := x_v600
          have hnb_60 := p2_le x_v601 (by omega)
          have hH : HT D cs A T60 (ch :: O) ((ch, .inr (0, [.ref n60_0_0, .int n60_0_1, .ref y2, .ref y3])) :: X) H := hH
          refine lv_iconst (v := (-1)) hx hb dX11_whose_63 (by decide) ?_
          have J74 : ∀ (p74_3 : Int32) (H : Heap) (locs : List Loc) (ls : Array Slot), (0 ≤ p74_3.toInt) → (p74_3.toInt ≤ 16383) → HT D cs A T60 (ch :: O) ((ch, .inr (0, [.ref n60_0_0, .int n60_0_1, .ref y2, .ref y3])) :: X) H → va_S A s.heap H locs → lv_has ls 5 [(4, .int p36_4), (3, .int p74_3), (2, .int v8), (0, .ref a0), (1, .int x1)] → W p l e { frames := 6, cells := 15, slots := 245760, locals := 162 } s m [.ref a0, .int x1].toArray below meth c H locs (kc36 + kc60) (ks36 + ks60) (MQD below (fun kk ss => Ti D cs ((fun kk ss r u => ∃ T2 : TF, Tgr T T2 ∧ ∃ (n2 : Nat) (j2 : Nat) (n0_0 : Nat) (n0_1 : Int32), u = (T2, ch :: O, (ch, .inr (0, [.ref n0_0, .int n0_1, .ref y2, .ref y3])) :: X) ∧ -3 ≤ r.toInt ∧ r.toInt ≤ 16383 ∧ (T2 n0_0 = some (1, n2, 0)) ∧ (n2 = 2 ^ j2) ∧ (j ≤ j2) ∧ (j2 ≤ 14) ∧ (0 ≤ n0_1.toInt) ∧ (n0_1.toInt ≤ 16383) ∧ (True) ∧ (kk + j ≤ j2) ∧ (ss + 16384 * j ≤ 16384 * j2)) kk ss) A) [.ref a0, .int x1].toArray s A) (F0 m 74 ls []) := by
            intro p74_3 H locs ls l_p74_3 u_p74_3 hH hS hl
            obtain ⟨v74, ev74⟩ : ∃ y : Int32, y = p36_4 + 1 := ⟨_, rfl⟩
            have tv74 : v74.toInt = p36_4.toInt + (1) := by rw [ev74]; exact add_i rfl (by decide) (by omega) (by omega)
            refine lv_iinc (v := v74) (lv' := [(4, .int v74), (3, .int p74_3), (2, .int v8), (0, .ref a0), (1, .int x1)]) hx hb dX11_whose_74 hl (k := 0) rfl (by rw [ev74]; rfl) (by decide) rfl (fun ls hl => ?_)
            refine lv_goto (tgt := 36) hx hb dX11_whose_77 (by decide) ?_
            exact ih36 _ (by omega) T60 (kc36 + kc60) (ks36 + ks60) v74 p74_3 n60_0_0 n2_60 j2_60 n60_0_1 _ _ _ rfl (Tgr.tr le_T36q le_T60) t_n60_0_0 x_v601 (by omega) (by omega) (by omega) (by omega) (by omega) (by omega) (by omega) (by omega) (by omega) (by omega) hH hS (lv_sub hl [0, 1, 2, 3, 4] rfl)
          refine lv_icmp_eq (tgt := 74) hx hb dX11_whose_64 (by decide) (fun c64 => ?_) (fun c64 => ?_)
          · skip
            have tc64 := f_eq (k := -1) (by decide) c64
            exact J74 p36_3 _ _ _ (by omega) (by omega) hH hS (lv_sub hl [0, 1, 2, 3, 4] rfl)
          · skip
            have tc64 := f_ne (k := -1) (by decide) c64
            refine lv_iload_n hx hb dX11_whose_67 rfl (lv_at hl 1 rfl) ?_
            refine lv_iconst (v := 1) hx hb dX11_whose_68 (by decide) ?_
            refine lv_iload hx hb dX11_whose_69 (lv_at hl 0 rfl) ?_
            refine lv_ishl hx hb dX11_whose_71 ?_
            refine lv_topi (fun v71 ev71 => ?_)
            have tv71 : 1 ≤ v71.toInt ∧ v71.toInt ≤ 16 := by rw [ev71]; exact shl_b 4 (by decide) (by omega) (by omega)
            refine lv_ior hx hb dX11_whose_72 ?_
            refine lv_topi (fun v72 ev72 => ?_)
            have tv72 : 0 ≤ v72.toInt ∧ v72.toInt < 16384 := by rw [ev72]; exact or_b 14 (by decide) (by omega) (by omega) (by omega) (by omega)
            refine lv_istore_n (lv' := [(3, .int v72), (4, .int p36_4), (2, .int v8), (0, .ref a0), (1, .int x1)]) hx hb dX11_whose_73 rfl hl (by decide) rfl (fun ls hl => ?_)
            exact J74 v72 _ _ _ (by omega) (by omega) hH hS (lv_sub hl [1, 0, 2, 3, 4] rfl)
    refine lv_istore (lv' := [(4, .int 0), (3, .int 0), (2, .int v8), (0, .ref a0), (1, .int x1)]) hx hb dX11_whose_34 hl (by decide) rfl (fun ls hl => ?_)
    have z_0 : (0 : Int32).toInt = 0 := by decide
    exact J36 _ T 0 0 0 0 y0 nn j y1 _ _ _ rfl Tgr.rf t_y0 hn (by omega) (by decide) (by decide) (by decide) (by decide) (by omega) (by omega) (by omega) (by omega) (by omega) hH hS (lv_sub hl [0, 1, 2, 3, 4] rfl)
  · skip
    have tc25 := f_ne (k := 0) (by decide) c25
    refine lv_bipush (v := (-3)) hx hb dX11_whose_28 (by decide) ?_
    have z9_m3 : ((-3) : Int32).toInt = -3 := by decide
    exact te_iD hx hb hr hlocks hH hS (⟨T, Tgr.rf, nn, j, y0, y1, rfl, by decide, by decide, t_y0, hn, by omega, by omega, by omega, by omega, trivial, by omega, by omega⟩) dX11_whose_30
set_option maxHeartbeats 4000000 in
set_option maxRecDepth 100000 in
theorem s_FW_order (l : Launch) (D : va_G) (cs : CS) (kf : KF) (T : TF) (O : List Nat) (X : va_W) (a0 w hw gw ch gq : Nat) (x1 : Int32) (x2 : Int32) (x3 : Int32) (y0 : Nat) (y1 : Int32) (y2 : Nat) (y3 : Nat) (nn j : Nat) (t_a0 : T a0 = some (21, w, ch)) (t_w : isW T w hw gw) (t_ch : T ch = some (10, gq, 0)) (t_y0 : T y0 = some (1, nn, 0)) (l_y1 : 0 ≤ y1.toInt) (u_y1 : y1.toInt ≤ 16383) (t_y2 : T y2 = some (1, 14, 1)) (t_y3 : T y3 = some (1, 14, 0)) (hn : nn = 2 ^ j) (hj : j ≤ 14) (hO : okO T (ch :: O) [1, 7, 12, 15, 16, 19, 21]) : TKD l D cs kf yX11_order cX11_order 5 (some (.int)) { frames := 7, cells := 1, slots := 16384, locals := 193 } [.ref a0, .int x1, .int x2, .int x3] T (ch :: O) ((ch, .inr (0, [.ref y0, .int y1, .ref y2, .ref y3])) :: X) (fun kk ss => Ti D cs ((fun kk ss r u => ∃ T2 : TF, Tgr T T2 ∧ ∃ (n2 : Nat) (j2 : Nat) (n0_0 : Nat) (n0_1 : Int32), u = (T2, ch :: O, (ch, .inr (0, [.ref n0_0, .int n0_1, .ref y2, .ref y3])) :: X) ∧ (T2 n0_0 = some (1, n2, 0)) ∧ (n2 = 2 ^ j2) ∧ (j ≤ j2) ∧ (j2 ≤ 14) ∧ (0 ≤ n0_1.toInt) ∧ (n0_1.toInt ≤ 16383) ∧ (True) ∧ (kk + j ≤ j2) ∧ (ss + 16384 * j ≤ 16384 * j2) ∧ (kk ≤ 1) ∧ (ss ≤ 16384)) kk ss)) := by
  refine tkd_of (by decide) (Nat.le_of_ble_eq_true rfl) (fun p e s m below meth c ls A H locs hx hb hr hml hown hts hlocks hnm hkb hH hS hA hOX hks hE hl => ?_)
  have hown : s.vm.findClass RX11 = some m.cls := hown
  have hl : lv_has ls 5 [(0, .ref a0), (1, .int x1), (2, .int x2), (3, .int x3)] := hl
  have b1_w := t_w.2.1
  have b2_w := t_w.2.2
  have hOXf := hOX
  have hnb := p2_le hn hj
  refine lv_aload_n hx hb dX11_order_0 rfl (lv_at hl 0 rfl) ?_
  refine lv_iload_n hx hb dX11_order_1 rfl (lv_at hl 1 rfl) ?_
  refine tk_i hH hS hA (tr_V (n := 1) (As := [.int x1]) hx hb hml hown hts hkb hH (ox_map hOX rfl) hks hE hS hA (s_FW_isGuide l D cs kf T (ch :: O) ((ch, .inr (0, [.ref y0, .int y1, .ref y2, .ref y3])) :: X) a0 w hw gw ch gq x1 t_a0 t_w t_ch (hO.sub (by decide))) kw_794 kw_796 ks_20 kw_1 kw_797 (by decide +kernel) ⟨Nat.le_of_ble_eq_true rfl, Nat.le_of_ble_eq_true rfl⟩ (HT.recv (ci := 11) hkb hH t_a0 (hO.no t_a0 (by decide)) rfl) rfl rfl hl.1 (Nat.le_of_ble_eq_true rfl) dX11_order_2 ⟨by show 0 + 0 ≤ 1; omega, by show 0 + 0 ≤ 16384; omega⟩) (fun v2 u H locs hz9 hH hS => ?_)
  obtain ⟨rfl, l_v2, u_v2, x_v20⟩ := hz9
  have hH : HT D cs A T (ch :: O) ((ch, .inr (0, [.ref y0, .int y1, .ref y2, .ref y3])) :: X) H := hH
  refine W.widen (k := 0) (n := 0) (Nat.le_refl _) (Nat.le_refl _) ?_
  have J17 : ∀  (H : Heap) (locs : List Loc) (ls : Array Slot), HT D cs A T (ch :: O) ((ch, .inr (0, [.ref y0, .int y1, .ref y2, .ref y3])) :: X) H → va_S A s.heap H locs → lv_has ls 5 [] → W p l e { frames := 7, cells := 1, slots := 16384, locals := 193 } s m [.ref a0, .int x1, .int x2, .int x3].toArray below meth c H locs 0 0 (MQD below (fun kk ss => Ti D cs ((fun kk ss r u => ∃ T2 : TF, Tgr T T2 ∧ ∃ (n2 : Nat) (j2 : Nat) (n0_0 : Nat) (n0_1 : Int32), u = (T2, ch :: O, (ch, .inr (0, [.ref n0_0, .int n0_1, .ref y2, .ref y3])) :: X) ∧ (T2 n0_0 = some (1, n2, 0)) ∧ (n2 = 2 ^ j2) ∧ (j ≤ j2) ∧ (j2 ≤ 14) ∧ (0 ≤ n0_1.toInt) ∧ (n0_1.toInt ≤ 16383) ∧ (True) ∧ (kk + j ≤ j2) ∧ (ss + 16384 * j ≤ 16384 * j2) ∧ (kk ≤ 1) ∧ (ss ≤ 16384)) kk ss) A) [.ref a0, .int x1, .int x2, .int x3].toArray s A) (F0 m 17 ls []) := by
    intro  H locs ls  hH hS hl
    refine lv_bipush (v := (-2)) hx hb dX11_order_17 (by decide) ?_
    have z9_m2 : ((-2) : Int32).toInt = -2 := by decide
    exact te_iD hx hb hr hlocks hH hS (⟨T, Tgr.rf, nn, j, y0, y1, rfl, t_y0, hn, by omega, by omega, by omega, by omega, trivial, by omega, by omega, by omega, by omega⟩) dX11_order_19
  refine lv_if_eq (tgt := 17) hx hb dX11_order_5 (by decide) (fun c5 => ?_) (fun c5 => ?_)
  · skip
    have tc5 := f_eq (k := 0) (by decide) c5
    exact J17  _ _ _  hH hS (lv_sub hl [] rfl)
  · skip
    have tc5 := f_ne (k := 0) (by decide) c5
    refine lv_iload_n hx hb dX11_order_8 rfl (lv_at hl 3 rfl) ?_
    refine lv_bipush (v := 14) hx hb dX11_order_9 (by decide) ?_
    refine tk_i hH hS hA (tr_S (n := 2) (As := [.int x3, .int 14]) hx hb hml hown hts hkb hH (ox_map hOX rfl) hks hE hS hA (s_FW_asksRow l D cs kf T (ch :: O) ((ch, .inr (0, [.ref y0, .int y1, .ref y2, .ref y3])) :: X) x3 (14) (by decide) (by decide) (hO.sub (by decide))) kw_970 kw_971 kw_1 kw_972 (by decide +kernel) ⟨Nat.le_of_ble_eq_true rfl, Nat.le_of_ble_eq_true rfl⟩ rfl rfl hl.1 (Nat.le_of_ble_eq_true rfl) dX11_order_11 ⟨by show 0 + 0 ≤ 1; omega, by show 0 + 0 ≤ 16384; omega⟩) (fun v11 u H locs hz9 hH hS => ?_)
    obtain ⟨rfl, l_v11, u_v11⟩ := hz9
    have hH : HT D cs A T (ch :: O) ((ch, .inr (0, [.ref y0, .int y1, .ref y2, .ref y3])) :: X) H := hH
    refine W.widen (k := 0) (n := 0) (Nat.le_refl _) (Nat.le_refl _) ?_
    refine lv_if_ne (tgt := 20) hx hb dX11_order_14 (by decide) (fun c14 => ?_) (fun c14 => ?_)
    · skip
      have tc14 := f_ne (k := 0) (by decide) c14
      refine lv_aload_n hx hb dX11_order_20 rfl (lv_at hl 0 rfl) ?_
      refine lv_aload_n hx hb dX11_order_21 rfl (lv_at hl 0 rfl) ?_
      refine t_get (ci := 11) (lst := ft11 w ch) (C := RX11) (F := TX11) (N := 20) hx hb hts uX11 hown hkb hH t_a0 (hO.no t_a0 (by decide)) (fun _ h9 => h9) rfl rfl 4 (by decide) rfl kw_364 (fun _ h9 => h9) dX11_order_22 (fun v9 h9 => ?_)
      obtain ⟨v22, rfl, t_v22⟩ := h9
      refine t_get (ci := 6) (lst := ft6 0 0) (C := RX6) (F := TX6) (N := 6) hx hb hts uX6 hown hkb hH t_v22 (hO.no t_v22 (by decide)) (fun _ h9 => h9) rfl rfl 2 (by decide) rfl kw_191 (fun _ h9 => h9) dX11_order_25 (fun v9 h9 => ?_)
      obtain ⟨v25, rfl⟩ := h9
      refine tk_i hH hS hA (tr_V (n := 1) (As := [.int v25]) hx hb hml hown hts hkb hH (ox_map hOX rfl) hks hE hS hA (s_FW_thereOn l D cs kf T (ch :: O) ((ch, .inr (0, [.ref y0, .int y1, .ref y2, .ref y3])) :: X) a0 w hw gw ch gq v25 t_a0 t_w t_ch (hO.sub (by decide))) kw_774 kw_776 ks_18 kw_1 kw_777 (by decide +kernel) ⟨Nat.le_of_ble_eq_true rfl, Nat.le_of_ble_eq_true rfl⟩ (HT.recv (ci := 11) hkb hH t_a0 (hO.no t_a0 (by decide)) rfl) rfl rfl hl.1 (Nat.le_of_ble_eq_true rfl) dX11_order_28 ⟨by show 0 + 0 ≤ 1; omega, by show 0 + 0 ≤ 16384; omega⟩) (fun v28 u H locs hz9 hH hS => ?_)
      obtain ⟨rfl, l_v28, u_v28⟩ := hz9
      have hH : HT D cs A T (ch :: O) ((ch, .inr (0, [.ref y0, .int y1, .ref y2, .ref y3])) :: X) H := hH
      refine W.widen (k := 0) (n := 0) (Nat.le_refl _) (Nat.le_refl _) ?_
      refine lv_istore (lv' := [(4, .int v28), (0, .ref a0), (1, .int x1), (2, .int x2), (3, .int x3)]) hx hb dX11_order_31 hl (by decide) rfl (fun ls hl => ?_)
      refine lv_iload_n hx hb dX11_order_33 rfl (lv_at hl 3 rfl) ?_
      refine lv_iload hx hb dX11_order_34 (lv_at hl 0 rfl) ?_
      refine lv_aload_n hx hb dX11_order_36 rfl (lv_at hl 1 rfl) ?_
      refine t_get (ci := 11) (lst := ft11 w ch) (C := RX11) (F := TX11) (N := 20) hx hb hts uX11 hown hkb hH t_a0 (hO.no t_a0 (by decide)) (fun _ h9 => h9) rfl rfl 3 (by decide) rfl kw_363 (fun _ h9 => h9) dX11_order_37 (fun v9 h9 => ?_)
      have h9 : v9 = .ref w := h9
      subst h9
      refine tk_i hH hS hA (tr_V (n := 0) (As := []) hx hb hml hown hts hkb hH (ox_map hOX rfl) hks hE hS hA (s_Wall_middles l D cs kf T (ch :: O) ((ch, .inr (0, [.ref y0, .int y1, .ref y2, .ref y3])) :: X) w hw gw t_w (hO.sub (by decide))) kw_892 kw_683 kw_684 kw_5 kw_685 (by decide +kernel) ⟨Nat.le_of_ble_eq_true rfl, Nat.le_of_ble_eq_true rfl⟩ (HT.recv (ci := 9) hkb hH t_w.1 (hO.no t_w.1 (by decide)) rfl) rfl rfl hl.1 (Nat.le_of_ble_eq_true rfl) dX11_order_40 ⟨by show 0 + 0 ≤ 1; omega, by show 0 + 0 ≤ 16384; omega⟩) (fun v40 u H locs hz9 hH hS => ?_)
      obtain ⟨rfl, l_v40, u_v40⟩ := hz9
      have hH : HT D cs A T (ch :: O) ((ch, .inr (0, [.ref y0, .int y1, .ref y2, .ref y3])) :: X) H := hH
      refine W.widen (k := 0) (n := 0) (Nat.le_refl _) (Nat.le_refl _) ?_
      refine lv_iand hx hb dX11_order_43 ?_
      refine lv_topi (fun v43 ev43 => ?_)
      have tv43 : 0 ≤ v43.toInt ∧ v43.toInt ≤ v28.toInt := by rw [ev43]; exact and_l (by omega)
      have ttv43 : 0 ≤ v43.toInt ∧ v43.toInt ≤ v40.toInt := by rw [ev43]; exact and_r (by omega)
      refine lv_iconst (v := (-1)) hx hb dX11_order_44 (by decide) ?_
      refine lv_ixor hx hb dX11_order_45 ?_
      refine lv_topi (fun v45 ev45 => ?_)
      refine lv_iand hx hb dX11_order_46 ?_
      refine lv_topi (fun v46 ev46 => ?_)
      refine lv_if_eq (tgt := 53) hx hb dX11_order_47 (by decide) (fun c47 => ?_) (fun c47 => ?_)
      · skip
        have tc47 := f_eq (k := 0) (by decide) c47
        refine lv_aload_n hx hb dX11_order_53 rfl (lv_at hl 1 rfl) ?_
        refine t_get (ci := 11) (lst := ft11 w ch) (C := RX11) (F := TX11) (N := 20) hx hb hts uX11 hown hkb hH t_a0 (hO.no t_a0 (by decide)) (fun _ h9 => h9) rfl rfl 16 (by decide) rfl kw_376 (fun _ h9 => h9) dX11_order_54 (fun v9 h9 => ?_)
        have h9 : v9 = .ref ch := h9
        subst h9
        refine x_getk (ci := 0) (C := RX0) (F := TX0) (N := 4) (v := .ref y3) hx hb hts uX0 hown hkb hH 0 rfl rfl 3 (by decide) rfl kw_334 (fun _ h9 => h9) dX11_order_57 ?_
        refine lv_aload_n hx hb dX11_order_60 rfl (lv_at hl 1 rfl) ?_
        refine t_get (ci := 11) (lst := ft11 w ch) (C := RX11) (F := TX11) (N := 20) hx hb hts uX11 hown hkb hH t_a0 (hO.no t_a0 (by decide)) (fun _ h9 => h9) rfl rfl 16 (by decide) rfl kw_376 (fun _ h9 => h9) dX11_order_61 (fun v9 h9 => ?_)
        have h9 : v9 = .ref ch := h9
        subst h9
        refine lv_aload_n hx hb dX11_order_64 rfl (lv_at hl 1 rfl) ?_
        refine lv_iload_n hx hb dX11_order_65 rfl (lv_at hl 2 rfl) ?_
        refine tk_r hH hS hA (tr_V (n := 1) (As := [.int x1]) hx hb hml hown hts hkb hH (ox_map hOX rfl) hks hE hS hA (s_FW_rowsOf l D cs kf T (ch :: O) ((ch, .inr (0, [.ref y0, .int y1, .ref y2, .ref y3])) :: X) a0 w hw gw ch gq x1 t_a0 t_w t_ch (by omega) (by omega) (hO.sub (by decide))) kw_830 kw_832 ks_21 kw_1 kw_833 (by decide +kernel) ⟨Nat.le_of_ble_eq_true rfl, Nat.le_of_ble_eq_true rfl⟩ (HT.recv (ci := 11) hkb hH t_a0 (hO.no t_a0 (by decide)) rfl) rfl rfl hl.1 (Nat.le_of_ble_eq_true rfl) dX11_order_66 ⟨by show 0 + 0 ≤ 1; omega, by show 0 + 0 ≤ 16384; omega⟩) (fun v66 u H locs hz9 hH hS => ?_)
        obtain ⟨hu9, t_v66⟩ := hz9
        have hu9 : u = (T, ch :: O, (ch, .inr (0, [.ref y0, .int y1, .ref y2, .ref y3])) :: X) := hu9
        subst hu9
        have hH : HT D cs A T (ch :: O) ((ch, .inr (0, [.ref y0, .int y1, .ref y2, .ref y3])) :: X) H := hH
        refine W.widen (k := 0) (n := 0) (Nat.le_refl _) (Nat.le_refl _) ?_
        refine lv_iload_n hx hb dX11_order_69 rfl (lv_at hl 3 rfl) ?_
        refine lv_iload hx hb dX11_order_70 (lv_at hl 0 rfl) ?_
        refine tk_iD hH hS hA (tr_VD (n := 3) (As := [.ref v66, .int x2, .int v28]) hx hb hml hown hts hkb hH (ox_map hOX rfl) hks hE hS hA (s_Ch_first l D cs kf T O X ch v66 x2 v28 y0 y1 y2 y3 nn j gq t_ch t_v66 t_y0 (by omega) (by omega) t_y2 t_y3 hn (by omega) (hO.sub (by decide))) kw_1136 kw_1137 kw_1138 kw_11 kw_1139 (by decide +kernel) ⟨Nat.le_of_ble_eq_true rfl, Nat.le_of_ble_eq_true rfl⟩ (x_recv (ci := 0) hkb hH 0 rfl rfl) rfl rfl hl.1 (Nat.le_of_ble_eq_true rfl) dX11_order_72 ⟨by show 0 + 1 ≤ 1; omega, by show 0 + 16384 ≤ 16384; omega⟩) (fun v72 kc72 ks72 u H locs hz9 hH hS => ?_)
        obtain ⟨T72, le_T72, n2_72, j2_72, n72_0_0, n72_0_1, rfl, l_v72, u_v72, x_v720, x_v721, x_v722, x_v723, x_v724, x_v725, x_v726, x_v727, x_v728, x_v729, x_v7210⟩ := hz9
        have t_a0 := le_T72.1 _ _ t_a0
        have t_w := isW.le le_T72.1 t_w
        have t_ch := le_T72.1 _ _ t_ch
        have t_y0 := le_T72.1 _ _ t_y0
        have t_y2 := le_T72.1 _ _ t_y2
        have t_y3 := le_T72.1 _ _ t_y3
        have t_v22 := le_T72.1 _ _ t_v22
        have t_v66 := le_T72.1 _ _ t_v66
        have hO := okO.le le_T72.1 hO
        have t_n72_0_0 := x_v720
        have hnb_72 := p2_le x_v721 (by omega)
        have hH : HT D cs A T72 (ch :: O) ((ch, .inr (0, [.ref n72_0_0, .int n72_0_1, .ref y2, .ref y3])) :: X) H := hH
        refine lv_iload_n hx hb dX11_order_75 rfl (lv_at hl 4 rfl) ?_
        refine tk_i hH hS hA (tr_S (n := 3) (As := [.ref y3, .int v72, .int x3]) hx hb hml hown hts hkb hH (ox_map hOX rfl) hks hE hS hA (s_FW_ofRow14 l D cs kf T72 (ch :: O) ((ch, .inr (0, [.ref n72_0_0, .int n72_0_1, .ref y2, .ref y3])) :: X) y3 v72 x3 t_y3 (by omega) (by omega) (hO.sub (by decide))) kw_973 kw_974 kw_1 kw_975 (by decide +kernel) ⟨Nat.le_of_ble_eq_true rfl, Nat.le_of_ble_eq_true rfl⟩ rfl rfl hl.1 (Nat.le_of_ble_eq_true rfl) dX11_order_76 ⟨by show (0 + kc72) + 0 ≤ 1; omega, by show (0 + ks72) + 0 ≤ 16384; omega⟩) (fun v76 u H locs hz9 hH hS => ?_)
        have hz9 : u = (T72, ch :: O, (ch, .inr (0, [.ref n72_0_0, .int n72_0_1, .ref y2, .ref y3])) :: X) := hz9
        subst hz9
        have hH : HT D cs A T72 (ch :: O) ((ch, .inr (0, [.ref n72_0_0, .int n72_0_1, .ref y2, .ref y3])) :: X) H := hH
        refine W.widen (k := 0 + kc72) (n := 0 + ks72) (Nat.le_refl _) (Nat.le_refl _) ?_
        exact te_iD hx hb hr hlocks hH hS (⟨T72, le_T72, n2_72, j2_72, n72_0_0, n72_0_1, rfl, t_n72_0_0, x_v721, by omega, by omega, by omega, by omega, trivial, by omega, by omega, by omega, by omega⟩) dX11_order_79
      · skip
        have tc47 := f_ne (k := 0) (by decide) c47
        refine lv_bipush (v := (-3)) hx hb dX11_order_50 (by decide) ?_
        have z9_m3 : ((-3) : Int32).toInt = -3 := by decide
        exact te_iD hx hb hr hlocks hH hS (⟨T, Tgr.rf, nn, j, y0, y1, rfl, t_y0, hn, by omega, by omega, by omega, by omega, trivial, by omega, by omega, by omega, by omega⟩) dX11_order_52
    · skip
      have tc14 := f_eq (k := 0) (by decide) c14
      exact J17  _ _ _  hH hS (lv_sub hl [] rfl)
/-- only the tape's length is told anew -/
def Tgc (T T2 : TF) : Prop := Trc T T2 ∧ ∀ (b : Nat) (tg : Tg), T2 b = some tg → T b = some tg ∨ tg.1 = 10
theorem Tgc.rf {T : TF} : Tgc T T := ⟨fun _ _ h _ => h, fun _ _ h => Or.inl h⟩
theorem Tgc.add {T : TF} {ch g g2 : Nat} (hc : T ch = some (10, g, 0)) : Tgc T (Tadd T ch (10, g2, 0)) := ⟨Trc.add hc, fun b tg hb => by
  unfold Tadd at hb
  split at hb
  · cases hb; exact Or.inr rfl
  · exact Or.inl hb⟩
/-- what stays when a wall is told -/
def Twl (T T2 : TF) (a : Nat) : Prop := (∀ (b : Nat) (tg : Tg), T b = some tg → tg.1 ≠ 21 → tg.1 ≠ 10 → T2 b = some tg) ∧ ∀ (b : Nat) (tg : Tg), T2 b = some tg → T b = some tg ∨ tg.1 = 1 ∨ tg.1 = 12 ∨ tg.1 = 19 ∨ (tg.1 = 21 ∧ b = a) ∨ tg.1 = 10
theorem Twl.of {T T1 T2 T3 : TF} {a : Nat} (h1 : Tgr T T1) (h2 : Tgc T1 T2) (h3 : Tre T2 T3 a) : Twl T T3 a := ⟨fun b tg hb k1 k2 => h3.1 b tg (h2.1 b tg (h1.1 b tg hb) k2) k1, fun b tg hb => by
  rcases h3.2 b tg hb with q | q
  · rcases h2.2 b tg q with q | q
    · rcases h1.2 b tg q with q | q
      · exact Or.inl q
      · exact Or.inr (by omega)
    · exact Or.inr (by omega)
  · exact Or.inr (by omega)⟩
/-- the tape's length behind a wall, the answer of feed -/
def WLF (g g2 : Nat) (x : Int) : Prop := (0 ≤ x ∧ x ≤ (g : Int) ∧ g2 = 0) ∨ (¬ (0 ≤ x ∧ x ≤ (g : Int)) ∧ g2 = g)
theorem WLF_eq {g a b : Nat} {x : Int} (h : WLF g a x) (k : WLF g b x) : a = b := by
  unfold WLF at h k
  omega
def FDF (g g2 : Nat) (r : Int) : Prop := (880 < g ∧ g2 = g ∧ r = -5) ∨ (g ≤ 880 ∧ g2 = g + 20 ∧ r = (g : Int) + 20)
theorem FDF_g {g a b : Nat} {r q : Int} (h : FDF g a r) (k : FDF g b q) : a = b := by
  unfold FDF at h k
  omega
theorem FDF_eq {g a b : Nat} {r q : Int32} (h : FDF g a r.toInt) (k : FDF g b q.toInt) : r = q := by
  apply Int32.toInt_inj.mp
  unfold FDF at h k
  omega
/-! what feed lays on the tapes -/
def bv (x : Int32) (k : Nat) : Int := (x.toInt / 2 ^ (24 - 8 * k)).bmod 256
def fd4 (t : Tp) (L : Nat) (x : Int32) : Tp := fun j => if L ≤ j ∧ j < L + 4 then bv x (j - L) else t j
def fd5 (t : Tp) (L : Nat) (a b c d e : Int32) : Tp := fd4 (fd4 (fd4 (fd4 (fd4 t L a) (L + 4) b) (L + 8) c) (L + 12) d) (L + 16) e
def PTI (f g : Nat → Int32) (L : Nat) (x : Int32) (k : Nat) : Prop := ∀ j, g j = if L ≤ j ∧ j < L + k then (x >>> (nI (24 - 8 * (j - L)) &&& 31)).toInt8.toInt32 else f j
theorem n31_tab : ∀ k, k < 4 → nI (24 - 8 * k) &&& 31 = nI (24 - 8 * k) := by decide +kernel
theorem byte_i (y : Int32) : y.toInt8.toInt32.toInt = y.toInt.bmod 256 := by
  rw [Int8.toInt_toInt32, Int32.toInt_toInt8]
theorem byte_b (y : Int32) : -128 ≤ y.toInt8.toInt32.toInt ∧ y.toInt8.toInt32.toInt ≤ 127 := by
  rw [byte_i]
  unfold Int.bmod
  dsimp only
  split <;> omega
theorem PTI_0 {f : Nat → Int32} {L : Nat} {x : Int32} {k : Nat} (h : k = 0) : PTI f f L x k := fun j => by rw [if_neg (by omega)]
theorem PTI_s {f g F : Nat → Int32} {L k k2 i : Nat} {x s u v z : Int32} (h : PTI f g L x k) (hi : i = L + k) (hk2 : k2 = k + 1) (hs : s.toInt = 24 - 8 * (k : Int)) (hk : k < 4) (eu : u = x >>> (s &&& 31)) (ev : v = u.toInt8.toInt32) (ez : z = v.toInt8.toInt32) (e : F = upd g i z) : PTI f F L x k2 := fun j => by
  have es : s = nI (24 - 8 * k) := by
    have := is_nI (x := s) (by omega)
    rw [this, show s.toInt.toNat = 24 - 8 * k by omega]
  rw [e]
  by_cases q : j = i
  · rw [q, upd_eq, if_pos (by omega), ez, ev, eu, es, show i - L = k by omega, Int8.toInt8_toInt32]
  · rw [upd_ne q, h j]
    by_cases q2 : L ≤ j ∧ j < L + k
    · rw [if_pos q2, if_pos (by omega)]
    · rw [if_neg q2, if_neg (by omega)]
theorem PTI_e {f g : Nat → Int32} {L : Nat} {x : Int32} {t : Tp} {k : Nat} (h : PTI f g L x k) (hk : k = 4) (ht : TB f t) : TB g (fd4 t L x) := fun j => by
  subst hk
  rw [h j]
  unfold fd4
  by_cases q : L ≤ j ∧ j < L + 4
  · rw [if_pos q, if_pos q]
    have hb := byte_b (x >>> (nI (24 - 8 * (j - L)) &&& 31))
    have e : (x >>> (nI (24 - 8 * (j - L)) &&& 31)).toInt8.toInt32.toInt = bv x (j - L) := by
      rw [byte_i, shr_c (24 - 8 * (j - L)) (n31_tab _ (by omega)) (by omega)]
      rfl
    rw [e] at hb ⊢
    exact ⟨rfl, hb⟩
  · rw [if_neg q, if_neg q]
    exact ht j
/-- what wall() leaves of the fault and its place -/
def WFC (t : Tp) (L : Nat) (x : Int) (fa pl fa2 pl2 : Int32) : Prop := (¬ (0 ≤ x ∧ x ≤ (L : Int)) ∧ fa2 = fa ∧ pl2 = pl) ∨ (0 ≤ x ∧ x ≤ (L : Int) ∧ ((fa2.toInt = 0 ∧ pl2.toInt = -1 ∧ ∃ l : Int32, WO t x.toNat l) ∨ WB t x.toNat fa2 pl2))
theorem nar_b (v : Int32) : vp_nar .byte v = v.toInt8.toInt32 := rfl
theorem dX11_feed_0 : decode cX11_feed 0 = .ok (.aload_n 0, 1) := by decide +kernel
theorem dX11_feed_1 : decode cX11_feed 1 = .ok (.getfield 13, 3) := by decide +kernel
theorem dX11_feed_4 : decode cX11_feed 4 = .ok (.bipush 20, 2) := by decide +kernel
theorem dX11_feed_6 : decode cX11_feed 6 = .ok (.iadd, 1) := by decide +kernel
theorem dX11_feed_7 : decode cX11_feed 7 = .ok (.sipush 900, 3) := by decide +kernel
theorem dX11_feed_10 : decode cX11_feed 10 = .ok (.if_icmp .le 6, 3) := by decide +kernel
theorem dX11_feed_13 : decode cX11_feed 13 = .ok (.bipush (-5), 2) := by decide +kernel
theorem dX11_feed_15 : decode cX11_feed 15 = .ok (.ireturn, 1) := by decide +kernel
theorem dX11_feed_16 : decode cX11_feed 16 = .ok (.aload_n 0, 1) := by decide +kernel
theorem dX11_feed_17 : decode cX11_feed 17 = .ok (.iload_n 1, 1) := by decide +kernel
theorem dX11_feed_18 : decode cX11_feed 18 = .ok (.invokevirtual 111, 3) := by decide +kernel
theorem dX11_feed_21 : decode cX11_feed 21 = .ok (.aload_n 0, 1) := by decide +kernel
theorem dX11_feed_22 : decode cX11_feed 22 = .ok (.iload_n 2, 1) := by decide +kernel
theorem dX11_feed_23 : decode cX11_feed 23 = .ok (.invokevirtual 111, 3) := by decide +kernel
theorem dX11_feed_26 : decode cX11_feed 26 = .ok (.aload_n 0, 1) := by decide +kernel
theorem dX11_feed_27 : decode cX11_feed 27 = .ok (.iload_n 3, 1) := by decide +kernel
theorem dX11_feed_28 : decode cX11_feed 28 = .ok (.invokevirtual 111, 3) := by decide +kernel
theorem dX11_feed_31 : decode cX11_feed 31 = .ok (.aload_n 0, 1) := by decide +kernel
theorem dX11_feed_32 : decode cX11_feed 32 = .ok (.iload 4, 2) := by decide +kernel
theorem dX11_feed_34 : decode cX11_feed 34 = .ok (.invokevirtual 111, 3) := by decide +kernel
theorem dX11_feed_37 : decode cX11_feed 37 = .ok (.aload_n 0, 1) := by decide +kernel
theorem dX11_feed_38 : decode cX11_feed 38 = .ok (.iload 5, 2) := by decide +kernel
theorem dX11_feed_40 : decode cX11_feed 40 = .ok (.invokevirtual 111, 3) := by decide +kernel
theorem dX11_feed_43 : decode cX11_feed 43 = .ok (.aload_n 0, 1) := by decide +kernel
theorem dX11_feed_44 : decode cX11_feed 44 = .ok (.getfield 13, 3) := by decide +kernel
theorem dX11_feed_47 : decode cX11_feed 47 = .ok (.ireturn, 1) := by decide +kernel
theorem dX11_putOnTape_0 : decode cX11_putOnTape 0 = .ok (.bipush 24, 2) := by decide +kernel
theorem dX11_putOnTape_2 : decode cX11_putOnTape 2 = .ok (.istore_n 2, 1) := by decide +kernel
theorem dX11_putOnTape_3 : decode cX11_putOnTape 3 = .ok (.iload_n 2, 1) := by decide +kernel
theorem dX11_putOnTape_4 : decode cX11_putOnTape 4 = .ok (.ifCond .lt 42, 3) := by decide +kernel
theorem dX11_putOnTape_7 : decode cX11_putOnTape 7 = .ok (.aload_n 0, 1) := by decide +kernel
theorem dX11_putOnTape_8 : decode cX11_putOnTape 8 = .ok (.getfield 13, 3) := by decide +kernel
theorem dX11_putOnTape_11 : decode cX11_putOnTape 11 = .ok (.sipush 900, 3) := by decide +kernel
theorem dX11_putOnTape_14 : decode cX11_putOnTape 14 = .ok (.if_icmp .ge 32, 3) := by decide +kernel
theorem dX11_putOnTape_17 : decode cX11_putOnTape 17 = .ok (.aload_n 0, 1) := by decide +kernel
theorem dX11_putOnTape_18 : decode cX11_putOnTape 18 = .ok (.getfield 9, 3) := by decide +kernel
theorem dX11_putOnTape_21 : decode cX11_putOnTape 21 = .ok (.aload_n 0, 1) := by decide +kernel
theorem dX11_putOnTape_22 : decode cX11_putOnTape 22 = .ok (.getfield 13, 3) := by decide +kernel
theorem dX11_putOnTape_25 : decode cX11_putOnTape 25 = .ok (.iload_n 1, 1) := by decide +kernel
theorem dX11_putOnTape_26 : decode cX11_putOnTape 26 = .ok (.iload_n 2, 1) := by decide +kernel
theorem dX11_putOnTape_27 : decode cX11_putOnTape 27 = .ok (.ishr, 1) := by decide +kernel
theorem dX11_putOnTape_28 : decode cX11_putOnTape 28 = .ok (.i2b, 1) := by decide +kernel
theorem dX11_putOnTape_29 : decode cX11_putOnTape 29 = .ok (.bastore, 1) := by decide +kernel
theorem dX11_putOnTape_30 : decode cX11_putOnTape 30 = .ok (.aload_n 0, 1) := by decide +kernel
theorem dX11_putOnTape_31 : decode cX11_putOnTape 31 = .ok (.dup, 1) := by decide +kernel
theorem dX11_putOnTape_32 : decode cX11_putOnTape 32 = .ok (.getfield 13, 3) := by decide +kernel
theorem dX11_putOnTape_35 : decode cX11_putOnTape 35 = .ok (.iconst 1, 1) := by decide +kernel
theorem dX11_putOnTape_36 : decode cX11_putOnTape 36 = .ok (.iadd, 1) := by decide +kernel
theorem dX11_putOnTape_37 : decode cX11_putOnTape 37 = .ok (.putfield 13, 3) := by decide +kernel
theorem dX11_putOnTape_40 : decode cX11_putOnTape 40 = .ok (.iinc 2 (-8), 3) := by decide +kernel
theorem dX11_putOnTape_43 : decode cX11_putOnTape 43 = .ok (.goto (-40), 3) := by decide +kernel
theorem dX11_putOnTape_46 : decode cX11_putOnTape 46 = .ok (.return_, 1) := by decide +kernel
theorem kw_360 : Cond.fieldLink "FootholdWall" 9 "FootholdWall" "tape" "[B" ∈ gw := gw_of (tb_of 360 (by decide +kernel)) (by decide +kernel)
theorem kw_425 : Cond.methodLink "FootholdWall" 111 yX11_putOnTape ∈ gw := gw_of (tb_of 425 (by decide +kernel)) (by decide +kernel)
theorem kw_427 : Cond.instanceMethod yX11_putOnTape ∈ gw := gw_of (tb_of 427 (by decide +kernel)) (by decide +kernel)
theorem kw_428 : Cond.code yX11_putOnTape cX11_putOnTape 3 none ∈ gw := gw_of (tb_of 428 (by decide +kernel)) (by decide +kernel)
theorem ks_0 : Cond.selects RX11 yX11_putOnTape yX11_putOnTape ∈ gw := gw_of (pv_of 0 (by decide +kernel)) (by decide +kernel)
set_option maxHeartbeats 4000000 in
set_option maxRecDepth 100000 in
theorem s_FW_putX (l : Launch) (D : va_G) (cs : CS) (kf : KF) (T : TF) (O : List Nat) (X : va_W) (a0 : Nat) (x1 : Int32) (y0 : Nat) (y1 : Int32) (tl : List Value) (ft : Nat → Int32) (w ch : Nat) (t : Tp) (t_a0 : T a0 = some (21, w, ch)) (t_y0 : T y0 = some (0, 900, 0)) (l_y1 : 0 ≤ y1.toInt) (u_y1 : y1.toInt ≤ 900) (k1 : y1.toInt ≤ 896) (htb : TB ft t) (hO : okO T (a0 :: y0 :: O) []) : TK l D cs kf yX11_putOnTape cX11_putOnTape 3 none { frames := 0, cells := 0, slots := 0, locals := 0 } [.ref a0, .int x1] T (a0 :: y0 :: O) ((a0, .inr (11, (.ref y0) :: (.int y1) :: tl)) :: (y0, .inl (cs.1, 900, .inl ft)) :: X) (Tv D cs (fun u => ∃ (n0_1 : Int32) (G1 : Nat → Int32), u = (T, a0 :: y0 :: O, (a0, .inr (11, (.ref y0) :: (.int n0_1) :: tl)) :: (y0, .inl (cs.1, 900, .inl G1)) :: X) ∧ (n0_1.toInt = y1.toInt + 4) ∧ (TB G1 (fd4 t y1.toInt.toNat x1)))) := by
  refine tk_of (by decide) (Nat.le_of_ble_eq_true rfl) (fun p e s m below meth c ls A H locs hx hb hr hml hown hts hlocks hnm hkb hH hS hA hOX hks hE hl => ?_)
  have hown : s.vm.findClass RX11 = some m.cls := hown
  have hl : lv_has ls 3 [(0, .ref a0), (1, .int x1)] := hl
  have hOXf := hOX
  refine lv_bipush (v := 24) hx hb dX11_putOnTape_0 (by decide) ?_
  have J3 : ∀ (n : Nat) (p3_2 : Int32) (f3_101 : Int32) (g3_1 : Nat → Int32) (H : Heap) (locs : List Loc) (ls : Array Slot), (p3_2.toInt - (-8)).toNat = n → (-8 ≤ p3_2.toInt) → (p3_2.toInt ≤ 24) → (0 ≤ f3_101.toInt) → (f3_101.toInt ≤ 900) → (8 * f3_101.toInt = 8 * y1.toInt + 24 - p3_2.toInt ∧ -8 ≤ p3_2.toInt ∧ p3_2.toInt ≤ 24) → (PTI ft g3_1 y1.toInt.toNat x1 (f3_101.toInt - y1.toInt).toNat) → HT D cs A T (a0 :: y0 :: O) ((a0, .inr (11, (.ref y0) :: (.int f3_101) :: tl)) :: (y0, .inl (cs.1, 900, .inl g3_1)) :: X) H → va_S A s.heap H locs → lv_has ls 3 [(2, .int p3_2), (0, .ref a0), (1, .int x1)] → W p l e { frames := 0, cells := 0, slots := 0, locals := 0 } s m [.ref a0, .int x1].toArray below meth c H locs 0 0 (MQ below (Tv D cs (fun u => ∃ (n0_1 : Int32) (G1 : Nat → Int32), u = (T, a0 :: y0 :: O, (a0, .inr (11, (.ref y0) :: (.int n0_1) :: tl)) :: (y0, .inl (cs.1, 900, .inl G1)) :: X) ∧ (n0_1.toInt = y1.toInt + 4) ∧ (TB G1 (fd4 t y1.toInt.toNat x1))) A) [.ref a0, .int x1].toArray s 0 0 A) (F0 m 3 ls []) := by
    intro n
    induction n using Nat.strongRecOn with
    | _ n ih3 =>
      intro p3_2 f3_101 g3_1 H locs ls hm3 l_p3_2 u_p3_2 l_f3_101 u_f3_101 i3 ip3 hH hS hl
      refine lv_iload_n hx hb dX11_putOnTape_3 rfl (lv_at hl 0 rfl) ?_
      refine lv_if_lt (tgt := 46) hx hb dX11_putOnTape_4 (by decide) (fun c4 => ?_) (fun c4 => ?_)
      · skip
        have tc4 := f_lt (k := 0) (by decide) c4
        exact te_v hx hb hr hlocks hH hS (⟨f3_101, g3_1, rfl, by omega, (by first | (refine PTI_e ip3 ?_ htb; omega) | (exfalso; omega))⟩) dX11_putOnTape_46
      · skip
        have tc4 := f_nlt (k := 0) (by decide) c4
        refine lv_aload_n hx hb dX11_putOnTape_7 rfl (lv_at hl 1 rfl) ?_
        refine x_getk (ci := 11) (C := RX11) (F := TX11) (N := 20) (v := .int f3_101) hx hb hts uX11 hown hkb hH 0 rfl rfl 1 (by decide) rfl kw_361 (fun _ h9 => h9) dX11_putOnTape_8 ?_
        refine lv_sipush (v := 900) hx hb dX11_putOnTape_11 (by decide) ?_
        refine lv_icmp_ge (tgt := 46) hx hb dX11_putOnTape_14 (by decide) (fun c14 => ?_) (fun c14 => ?_)
        · skip
          have tc14 := f_ge (k := 900) (by decide) c14
          exact te_v hx hb hr hlocks hH hS (⟨f3_101, g3_1, rfl, by omega, (by first | (refine PTI_e ip3 ?_ htb; omega) | (exfalso; omega))⟩) dX11_putOnTape_46
        · skip
          have tc14 := f_nge (k := 900) (by decide) c14
          refine lv_aload_n hx hb dX11_putOnTape_17 rfl (lv_at hl 1 rfl) ?_
          refine x_getk (ci := 11) (C := RX11) (F := TX11) (N := 20) (v := .ref y0) hx hb hts uX11 hown hkb hH 0 rfl rfl 0 (by decide) rfl kw_360 (fun _ h9 => h9) dX11_putOnTape_18 ?_
          refine lv_aload_n hx hb dX11_putOnTape_21 rfl (lv_at hl 1 rfl) ?_
          refine x_getk (ci := 11) (C := RX11) (F := TX11) (N := 20) (v := .int f3_101) hx hb hts uX11 hown hkb hH 0 rfl rfl 1 (by decide) rfl kw_361 (fun _ h9 => h9) dX11_putOnTape_22 ?_
          refine lv_iload_n hx hb dX11_putOnTape_25 rfl (lv_at hl 2 rfl) ?_
          refine lv_iload_n hx hb dX11_putOnTape_26 rfl (lv_at hl 0 rfl) ?_
          refine lv_ishr hx hb dX11_putOnTape_27 ?_
          refine lv_topi (fun v27 ev27 => ?_)
          refine lv_i2b hx hb dX11_putOnTape_28 rfl ?_
          refine lv_topi (fun v28 ev28 => ?_)
          refine xa_bst hx hb hkb hH hS 1 rfl (by omega) (by omega) dX11_putOnTape_29 (fun H locs hH hS => ?_)
          have hH : HT D cs A T (a0 :: y0 :: O) ((a0, .inr (11, (.ref y0) :: (.int f3_101) :: tl)) :: (y0, .inl (cs.1, 900, .inl (upd g3_1 (f3_101.toInt.toNat) (vp_nar .byte v28)))) :: X) H := hH
          obtain ⟨F29, eF29⟩ : ∃ f9, f9 = upd g3_1 (f3_101.toInt.toNat) (vp_nar .byte v28) := ⟨_, rfl⟩
          have hH : HT D cs A T (a0 :: y0 :: O) ((a0, .inr (11, (.ref y0) :: (.int f3_101) :: tl)) :: (y0, .inl (cs.1, 900, .inl F29)) :: X) H := eF29 ▸ hH
          refine lv_aload_n hx hb dX11_putOnTape_30 rfl (lv_at hl 1 rfl) ?_
          refine lv_dup hx hb dX11_putOnTape_31 rfl ?_
          refine x_getk (ci := 11) (C := RX11) (F := TX11) (N := 20) (v := .int f3_101) hx hb hts uX11 hown hkb hH 0 rfl rfl 1 (by decide) rfl kw_361 (fun _ h9 => h9) dX11_putOnTape_32 ?_
          refine lv_iconst (v := 1) hx hb dX11_putOnTape_35 (by decide) ?_
          refine lv_iadd hx hb dX11_putOnTape_36 ?_
          refine lv_topi (fun v36 ev36 => ?_)
          have tv36 : v36.toInt = f3_101.toInt + (1) := by rw [ev36]; exact add_i rfl (by decide : (1 : Int32).toInt = 1) (by omega) (by omega)
          refine x_putk (ci := 11) (v := .int v36) (ty := tyX11 1) (C := RX11) (F := TX11) (N := 20) hx hb hts uX11 tyX11 tyX11_ok nmX11 hown hkb hH hS 0 rfl rfl 1 (by decide) kw_361 (fun _ h9 => h9) rfl (tyX11_ok 1 (by decide)) rfl rfl (by show 1 < tl.length + 2; omega) dX11_putOnTape_37 (fun H locs hH hS => ?_)
          have hH : HT D cs A T (a0 :: y0 :: O) ((a0, .inr (11, (.ref y0) :: (.int v36) :: tl)) :: (y0, .inl (cs.1, 900, .inl F29)) :: X) H := hH
          obtain ⟨v40, ev40⟩ : ∃ y : Int32, y = p3_2 + (-8) := ⟨_, rfl⟩
          have tv40 : v40.toInt = p3_2.toInt + (-8) := by rw [ev40]; exact add_i rfl (by decide) (by omega) (by omega)
          refine lv_iinc (v := v40) (lv' := [(2, .int v40), (0, .ref a0), (1, .int x1)]) hx hb dX11_putOnTape_40 hl (k := 0) rfl (by rw [ev40]; rfl) (by decide) rfl (fun ls hl => ?_)
          refine lv_goto (tgt := 3) hx hb dX11_putOnTape_43 (by decide) ?_
          exact ih3 _ (by omega) v40 v36 F29 _ _ _ rfl (by omega) (by omega) (by omega) (by omega) (by omega) (by first | (refine PTI_0 ?_; omega) | (refine PTI_s ip3 ?_ ?_ ?_ ?_ ev27 ev28 (nar_b v28) eF29 <;> omega)) hH hS (lv_sub hl [0, 1, 2] rfl)
  refine lv_istore_n (lv' := [(2, .int 24), (0, .ref a0), (1, .int x1)]) hx hb dX11_putOnTape_2 rfl hl (by decide) rfl (fun ls hl => ?_)
  have z_24 : (24 : Int32).toInt = 24 := by decide
  exact J3 _ 24 y1 ft _ _ _ rfl (by decide) (by decide) (by omega) (by omega) (by omega) (by first | (refine PTI_0 ?_; omega) | (refine PTI_s ip3 ?_ ?_ ?_ ?_ ev27 ev28 (nar_b v28) eF29 <;> omega)) hH hS (lv_sub hl [0, 1, 2] rfl)
set_option maxHeartbeats 4000000 in
set_option maxRecDepth 100000 in
theorem s_FW_feed (l : Launch) (D : va_G) (cs : CS) (kf : KF) (T : TF) (O : List Nat) (X : va_W) (a0 w hw gw ch gq : Nat) (x1 : Int32) (x2 : Int32) (x3 : Int32) (x4 : Int32) (x5 : Int32) (ft : Nat → Int32) (tp : Nat) (t : Tp) (t_a0 : T a0 = some (21, w, ch)) (t_w : isW T w hw gw) (t_ch : T ch = some (10, gq, 0)) (hU1 : ∀ (b : Nat) (tg : Tg), T b = some tg → tg.1 = 21 → b = a0) (hcO : ch ∈ O) (t_tp : T tp = some (0, 900, 0)) (hU0 : ∀ (b : Nat) (q : Nat), T b = some (0, 900, q) → b = tp) (htb : TB ft t) (hO : okO T (tp :: O) [21]) : TK l D cs kf yX11_feed cX11_feed 6 (some (.int)) { frames := 1, cells := 0, slots := 0, locals := 22 } [.ref a0, .int x1, .int x2, .int x3, .int x4, .int x5] T (tp :: O) ((tp, .inl (cs.1, 900, .inl ft)) :: X) (Ti D cs (fun r u => ∃ (T2 : TF) (gq2 : Nat) (G0 : Nat → Int32), u = (T2, tp :: O, (tp, .inl (cs.1, 900, .inl G0)) :: X) ∧ -5 ≤ r.toInt ∧ r.toInt ≤ 900 ∧ (Tgc T T2) ∧ (T2 ch = some (10, gq2, 0)) ∧ (FDF gq gq2 r.toInt) ∧ ((r.toInt = -5 → G0 = ft) ∧ (r.toInt ≠ -5 → TB G0 (fd5 t gq x1 x2 x3 x4 x5))))) := by
  refine tk_of (by decide) (Nat.le_of_ble_eq_true rfl) (fun p e s m below meth c ls A H locs hx hb hr hml hown hts hlocks hnm hkb hH hS hA hOX hks hE hl => ?_)
  have hown : s.vm.findClass RX11 = some m.cls := hown
  have hl : lv_has ls 6 [(0, .ref a0), (1, .int x1), (2, .int x2), (3, .int x3), (4, .int x4), (5, .int x5)] := hl
  have b1_w := t_w.2.1
  have b2_w := t_w.2.2
  have hOXf := hOX
  have hO0 := hO
  obtain ⟨fs9, ho9, hH⟩ := hH.take t_a0 (hO0.no t_a0 (by decide))
  have hp0 : okL T (ft11 w ch) fs9 := ho9
  clear ho9
  obtain ⟨v9, fs9, rfl, h9, hp1⟩ := okL_i hp0
  obtain ⟨q0_0, rfl, t_q0_0⟩ := h9
  have e9 := (hU0 _ _ t_q0_0).symm
  subst e9
  obtain ⟨v9, fs9, rfl, h9, hp2⟩ := okL_i hp1
  obtain ⟨q0_1, rfl, l_q0_1, u_q0_1, gt_q0_1⟩ := h9
  have eg_q0_1 : q0_1.toInt = (gq : Int) := by have q9 := tl_eq gt_q0_1 t_ch; omega
  obtain ⟨v9, fs9, rfl, h9, hp3⟩ := okL_i hp2
  obtain ⟨q0_2, dq0_2, rfl, t_q0_2, t_dq0_2⟩ := h9
  obtain ⟨v9, fs9, rfl, h9, hp4⟩ := okL_i hp3
  have h9 : v9 = .ref w := h9
  subst h9
  obtain ⟨v9, fs9, rfl, h9, hp5⟩ := okL_i hp4
  obtain ⟨q0_4, rfl, t_q0_4⟩ := h9
  obtain ⟨v9, fs9, rfl, h9, hp6⟩ := okL_i hp5
  obtain ⟨q0_5, rfl, t_q0_5⟩ := h9
  obtain ⟨v9, fs9, rfl, h9, hp7⟩ := okL_i hp6
  obtain ⟨q0_6, rfl, t_q0_6⟩ := h9
  obtain ⟨v9, fs9, rfl, h9, hp8⟩ := okL_i hp7
  obtain ⟨q0_7, rfl, l_q0_7, u_q0_7⟩ := h9
  obtain ⟨v9, fs9, rfl, h9, hp9⟩ := okL_i hp8
  obtain ⟨q0_8, rfl, l_q0_8, u_q0_8⟩ := h9
  obtain ⟨v9, fs9, rfl, h9, hp10⟩ := okL_i hp9
  obtain ⟨q0_9, rfl, t_q0_9⟩ := h9
  obtain ⟨v9, fs9, rfl, h9, hp11⟩ := okL_i hp10
  obtain ⟨q0_10, rfl, t_q0_10⟩ := h9
  obtain ⟨v9, fs9, rfl, h9, hp12⟩ := okL_i hp11
  obtain ⟨q0_11, rfl, t_q0_11⟩ := h9
  obtain ⟨v9, fs9, rfl, h9, hp13⟩ := okL_i hp12
  obtain ⟨q0_12, rfl, t_q0_12⟩ := h9
  obtain ⟨v9, fs9, rfl, h9, hp14⟩ := okL_i hp13
  obtain ⟨q0_13, rfl, t_q0_13⟩ := h9
  obtain ⟨v9, fs9, rfl, h9, hp15⟩ := okL_i hp14
  obtain ⟨q0_14, rfl, t_q0_14⟩ := h9
  obtain ⟨v9, fs9, rfl, h9, hp16⟩ := okL_i hp15
  obtain ⟨q0_15, rfl, t_q0_15⟩ := h9
  obtain ⟨v9, fs9, rfl, h9, hp17⟩ := okL_i hp16
  have h9 : v9 = .ref ch := h9
  subst h9
  obtain ⟨v9, fs9, rfl, h9, hp18⟩ := okL_i hp17
  obtain ⟨q0_17, rfl, t_q0_17⟩ := h9
  obtain ⟨v9, fs9, rfl, h9, hp19⟩ := okL_i hp18
  obtain ⟨q0_18, rfl, t_q0_18⟩ := h9
  obtain ⟨v9, fs9, rfl, h9, hp20⟩ := okL_i hp19
  obtain ⟨q0_19, rfl⟩ := h9
  have hpz := okL_z hp20
  subst hpz
  have hH : HT D cs A T (a0 :: tp :: O) ((a0, .inr (11, [.ref tp, .int q0_1, .ref q0_2, .ref w, .ref q0_4, .ref q0_5, .ref q0_6, .int q0_7, .int q0_8, .ref q0_9, .ref q0_10, .ref q0_11, .ref q0_12, .ref q0_13, .ref q0_14, .ref q0_15, .ref ch, .ref q0_17, .ref q0_18, .int q0_19])) :: (tp, .inl (cs.1, 900, .inl ft)) :: X) H := hH
  have hO : okO T (a0 :: tp :: O) [] := okO.cons (hO0.sub (by decide)) t_a0 (by decide)
  refine lv_aload_n hx hb dX11_feed_0 rfl (lv_at hl 0 rfl) ?_
  refine x_getk (ci := 11) (C := RX11) (F := TX11) (N := 20) (v := .int q0_1) hx hb hts uX11 hown hkb hH 0 rfl rfl 1 (by decide) rfl kw_361 (fun _ h9 => h9) dX11_feed_1 ?_
  refine lv_bipush (v := 20) hx hb dX11_feed_4 (by decide) ?_
  refine lv_iadd hx hb dX11_feed_6 ?_
  refine lv_topi (fun v6 ev6 => ?_)
  have tv6 : v6.toInt = q0_1.toInt + (20) := by rw [ev6]; exact add_i rfl (by decide : (20 : Int32).toInt = 20) (by omega) (by omega)
  refine lv_sipush (v := 900) hx hb dX11_feed_7 (by decide) ?_
  refine lv_icmp_le (tgt := 16) hx hb dX11_feed_10 (by decide) (fun c10 => ?_) (fun c10 => ?_)
  · skip
    have tc10 := f_le (k := 900) (by decide) c10
    refine lv_aload_n hx hb dX11_feed_16 rfl (lv_at hl 0 rfl) ?_
    refine lv_iload_n hx hb dX11_feed_17 rfl (lv_at hl 1 rfl) ?_
    refine tk_v hH hS hA (tr_V (n := 1) (As := [.int x1]) hx hb hml hown hts hkb hH (ox_c (ox_map hOX rfl)) hks hE hS hA (s_FW_putX l D cs kf T O X a0 x1 tp q0_1 [.ref q0_2, .ref w, .ref q0_4, .ref q0_5, .ref q0_6, .int q0_7, .int q0_8, .ref q0_9, .ref q0_10, .ref q0_11, .ref q0_12, .ref q0_13, .ref q0_14, .ref q0_15, .ref ch, .ref q0_17, .ref q0_18, .int q0_19] ft w ch t t_a0 t_tp (by omega) (by omega) (by omega) htb (hO.sub (by decide))) kw_425 kw_427 ks_0 kw_1 kw_428 (by decide +kernel) ⟨Nat.le_of_ble_eq_true rfl, Nat.le_of_ble_eq_true rfl⟩ (x_recv (ci := 11) hkb hH 0 rfl rfl) rfl rfl hl.1 (Nat.le_of_ble_eq_true rfl) dX11_feed_18 ⟨Nat.le_of_ble_eq_true rfl, Nat.le_of_ble_eq_true rfl⟩) (fun u H locs hz9 hH hS => ?_)
    obtain ⟨n18_0_1, F18_1, rfl, x_v180, x_v181⟩ := hz9
    have hH : HT D cs A T (a0 :: tp :: O) ((a0, .inr (11, [.ref tp, .int n18_0_1, .ref q0_2, .ref w, .ref q0_4, .ref q0_5, .ref q0_6, .int q0_7, .int q0_8, .ref q0_9, .ref q0_10, .ref q0_11, .ref q0_12, .ref q0_13, .ref q0_14, .ref q0_15, .ref ch, .ref q0_17, .ref q0_18, .int q0_19])) :: (tp, .inl (cs.1, 900, .inl F18_1)) :: X) H := hH
    refine W.widen (k := 0) (n := 0) (Nat.le_of_ble_eq_true rfl) (Nat.le_of_ble_eq_true rfl) ?_
    refine lv_aload_n hx hb dX11_feed_21 rfl (lv_at hl 0 rfl) ?_
    refine lv_iload_n hx hb dX11_feed_22 rfl (lv_at hl 2 rfl) ?_
    refine tk_v hH hS hA (tr_V (n := 1) (As := [.int x2]) hx hb hml hown hts hkb hH (ox_c (ox_map hOX rfl)) hks hE hS hA (s_FW_putX l D cs kf T O X a0 x2 tp n18_0_1 [.ref q0_2, .ref w, .ref q0_4, .ref q0_5, .ref q0_6, .int q0_7, .int q0_8, .ref q0_9, .ref q0_10, .ref q0_11, .ref q0_12, .ref q0_13, .ref q0_14, .ref q0_15, .ref ch, .ref q0_17, .ref q0_18, .int q0_19] F18_1 w ch _ t_a0 t_tp (by omega) (by omega) (by omega) x_v181 (hO.sub (by decide))) kw_425 kw_427 ks_0 kw_1 kw_428 (by decide +kernel) ⟨Nat.le_of_ble_eq_true rfl, Nat.le_of_ble_eq_true rfl⟩ (x_recv (ci := 11) hkb hH 0 rfl rfl) rfl rfl hl.1 (Nat.le_of_ble_eq_true rfl) dX11_feed_23 ⟨Nat.le_of_ble_eq_true rfl, Nat.le_of_ble_eq_true rfl⟩) (fun u H locs hz9 hH hS => ?_)
    obtain ⟨n23_0_1, F23_1, rfl, x_v230, x_v231⟩ := hz9
    have hH : HT D cs A T (a0 :: tp :: O) ((a0, .inr (11, [.ref tp, .int n23_0_1, .ref q0_2, .ref w, .ref q0_4, .ref q0_5, .ref q0_6, .int q0_7, .int q0_8, .ref q0_9, .ref q0_10, .ref q0_11, .ref q0_12, .ref q0_13, .ref q0_14, .ref q0_15, .ref ch, .ref q0_17, .ref q0_18, .int q0_19])) :: (tp, .inl (cs.1, 900, .inl F23_1)) :: X) H := hH
    refine W.widen (k := 0) (n := 0) (Nat.le_of_ble_eq_true rfl) (Nat.le_of_ble_eq_true rfl) ?_
    refine lv_aload_n hx hb dX11_feed_26 rfl (lv_at hl 0 rfl) ?_
    refine lv_iload_n hx hb dX11_feed_27 rfl (lv_at hl 3 rfl) ?_
    refine tk_v hH hS hA (tr_V (n := 1) (As := [.int x3]) hx hb hml hown hts hkb hH (ox_c (ox_map hOX rfl)) hks hE hS hA (s_FW_putX l D cs kf T O X a0 x3 tp n23_0_1 [.ref q0_2, .ref w, .ref q0_4, .ref q0_5, .ref q0_6, .int q0_7, .int q0_8, .ref q0_9, .ref q0_10, .ref q0_11, .ref q0_12, .ref q0_13, .ref q0_14, .ref q0_15, .ref ch, .ref q0_17, .ref q0_18, .int q0_19] F23_1 w ch _ t_a0 t_tp (by omega) (by omega) (by omega) x_v231 (hO.sub (by decide))) kw_425 kw_427 ks_0 kw_1 kw_428 (by decide +kernel) ⟨Nat.le_of_ble_eq_true rfl, Nat.le_of_ble_eq_true rfl⟩ (x_recv (ci := 11) hkb hH 0 rfl rfl) rfl rfl hl.1 (Nat.le_of_ble_eq_true rfl) dX11_feed_28 ⟨Nat.le_of_ble_eq_true rfl, Nat.le_of_ble_eq_true rfl⟩) (fun u H locs hz9 hH hS => ?_)
    obtain ⟨n28_0_1, F28_1, rfl, x_v280, x_v281⟩ := hz9
    have hH : HT D cs A T (a0 :: tp :: O) ((a0, .inr (11, [.ref tp, .int n28_0_1, .ref q0_2, .ref w, .ref q0_4, .ref q0_5, .ref q0_6, .int q0_7, .int q0_8, .ref q0_9, .ref q0_10, .ref q0_11, .ref q0_12, .ref q0_13, .ref q0_14, .ref q0_15, .ref ch, .ref q0_17, .ref q0_18, .int q0_19])) :: (tp, .inl (cs.1, 900, .inl F28_1)) :: X) H := hH
    refine W.widen (k := 0) (n := 0) (Nat.le_of_ble_eq_true rfl) (Nat.le_of_ble_eq_true rfl) ?_
    refine lv_aload_n hx hb dX11_feed_31 rfl (lv_at hl 0 rfl) ?_
    refine lv_iload hx hb dX11_feed_32 (lv_at hl 4 rfl) ?_
    refine tk_v hH hS hA (tr_V (n := 1) (As := [.int x4]) hx hb hml hown hts hkb hH (ox_c (ox_map hOX rfl)) hks hE hS hA (s_FW_putX l D cs kf T O X a0 x4 tp n28_0_1 [.ref q0_2, .ref w, .ref q0_4, .ref q0_5, .ref q0_6, .int q0_7, .int q0_8, .ref q0_9, .ref q0_10, .ref q0_11, .ref q0_12, .ref q0_13, .ref q0_14, .ref q0_15, .ref ch, .ref q0_17, .ref q0_18, .int q0_19] F28_1 w ch _ t_a0 t_tp (by omega) (by omega) (by omega) x_v281 (hO.sub (by decide))) kw_425 kw_427 ks_0 kw_1 kw_428 (by decide +kernel) ⟨Nat.le_of_ble_eq_true rfl, Nat.le_of_ble_eq_true rfl⟩ (x_recv (ci := 11) hkb hH 0 rfl rfl) rfl rfl hl.1 (Nat.le_of_ble_eq_true rfl) dX11_feed_34 ⟨Nat.le_of_ble_eq_true rfl, Nat.le_of_ble_eq_true rfl⟩) (fun u H locs hz9 hH hS => ?_)
    obtain ⟨n34_0_1, F34_1, rfl, x_v340, x_v341⟩ := hz9
    have hH : HT D cs A T (a0 :: tp :: O) ((a0, .inr (11, [.ref tp, .int n34_0_1, .ref q0_2, .ref w, .ref q0_4, .ref q0_5, .ref q0_6, .int q0_7, .int q0_8, .ref q0_9, .ref q0_10, .ref q0_11, .ref q0_12, .ref q0_13, .ref q0_14, .ref q0_15, .ref ch, .ref q0_17, .ref q0_18, .int q0_19])) :: (tp, .inl (cs.1, 900, .inl F34_1)) :: X) H := hH
    refine W.widen (k := 0) (n := 0) (Nat.le_of_ble_eq_true rfl) (Nat.le_of_ble_eq_true rfl) ?_
    refine lv_aload_n hx hb dX11_feed_37 rfl (lv_at hl 0 rfl) ?_
    refine lv_iload hx hb dX11_feed_38 (lv_at hl 5 rfl) ?_
    refine tk_v hH hS hA (tr_V (n := 1) (As := [.int x5]) hx hb hml hown hts hkb hH (ox_c (ox_map hOX rfl)) hks hE hS hA (s_FW_putX l D cs kf T O X a0 x5 tp n34_0_1 [.ref q0_2, .ref w, .ref q0_4, .ref q0_5, .ref q0_6, .int q0_7, .int q0_8, .ref q0_9, .ref q0_10, .ref q0_11, .ref q0_12, .ref q0_13, .ref q0_14, .ref q0_15, .ref ch, .ref q0_17, .ref q0_18, .int q0_19] F34_1 w ch _ t_a0 t_tp (by omega) (by omega) (by omega) x_v341 (hO.sub (by decide))) kw_425 kw_427 ks_0 kw_1 kw_428 (by decide +kernel) ⟨Nat.le_of_ble_eq_true rfl, Nat.le_of_ble_eq_true rfl⟩ (x_recv (ci := 11) hkb hH 0 rfl rfl) rfl rfl hl.1 (Nat.le_of_ble_eq_true rfl) dX11_feed_40 ⟨Nat.le_of_ble_eq_true rfl, Nat.le_of_ble_eq_true rfl⟩) (fun u H locs hz9 hH hS => ?_)
    obtain ⟨n40_0_1, F40_1, rfl, x_v400, x_v401⟩ := hz9
    have hH : HT D cs A T (a0 :: tp :: O) ((a0, .inr (11, [.ref tp, .int n40_0_1, .ref q0_2, .ref w, .ref q0_4, .ref q0_5, .ref q0_6, .int q0_7, .int q0_8, .ref q0_9, .ref q0_10, .ref q0_11, .ref q0_12, .ref q0_13, .ref q0_14, .ref q0_15, .ref ch, .ref q0_17, .ref q0_18, .int q0_19])) :: (tp, .inl (cs.1, 900, .inl F40_1)) :: X) H := hH
    refine W.widen (k := 0) (n := 0) (Nat.le_of_ble_eq_true rfl) (Nat.le_of_ble_eq_true rfl) ?_
    refine lv_aload_n hx hb dX11_feed_43 rfl (lv_at hl 0 rfl) ?_
    refine x_getk (ci := 11) (C := RX11) (F := TX11) (N := 20) (v := .int n40_0_1) hx hb hts uX11 hown hkb hH 0 rfl rfl 1 (by decide) rfl kw_361 (fun _ h9 => h9) dX11_feed_44 ?_
    obtain ⟨Tg, rc_Tg, tg_ch, hH⟩ : ∃ Tg, Tgc T Tg ∧ Tg ch = some (10, (n40_0_1.toInt.toNat), 0) ∧ HT D cs A Tg (a0 :: tp :: O) ((a0, .inr (11, [.ref tp, .int n40_0_1, .ref q0_2, .ref w, .ref q0_4, .ref q0_5, .ref q0_6, .int q0_7, .int q0_8, .ref q0_9, .ref q0_10, .ref q0_11, .ref q0_12, .ref q0_13, .ref q0_14, .ref q0_15, .ref ch, .ref q0_17, .ref q0_18, .int q0_19])) :: (tp, .inl (cs.1, 900, .inl F40_1)) :: X) H := ⟨_, Tgc.add t_ch, Tadd_r, HT.gh (g2 := (n40_0_1.toInt.toNat)) hH t_ch hU1 (by simp [hcO]) (by simp)⟩
    have t_tp := rc_Tg.1 _ _ t_tp (by show 0 ≠ 10; decide)
    have t_q0_2 := rc_Tg.1 _ _ t_q0_2 (by show 14 ≠ 10; decide)
    have t_dq0_2 := rc_Tg.1 _ _ t_dq0_2 (by show 19 ≠ 10; decide)
    have t_w := isW.gc rc_Tg.1 t_w
    have t_q0_4 := rc_Tg.1 _ _ t_q0_4 (by show 16 ≠ 10; decide)
    have t_q0_5 := rc_Tg.1 _ _ t_q0_5 (by show 16 ≠ 10; decide)
    have t_q0_6 := rc_Tg.1 _ _ t_q0_6 (by show 4 ≠ 10; decide)
    have t_q0_9 := rc_Tg.1 _ _ t_q0_9 (by show 5 ≠ 10; decide)
    have t_q0_10 := rc_Tg.1 _ _ t_q0_10 (by show 4 ≠ 10; decide)
    have t_q0_11 := rc_Tg.1 _ _ t_q0_11 (by show 6 ≠ 10; decide)
    have t_q0_12 := rc_Tg.1 _ _ t_q0_12 (by show 7 ≠ 10; decide)
    have t_q0_13 := rc_Tg.1 _ _ t_q0_13 (by show 15 ≠ 10; decide)
    have t_q0_14 := rc_Tg.1 _ _ t_q0_14 (by show 20 ≠ 10; decide)
    have t_q0_15 := rc_Tg.1 _ _ t_q0_15 (by show 11 ≠ 10; decide)
    have t_q0_17 := rc_Tg.1 _ _ t_q0_17 (by show 1 ≠ 10; decide)
    have t_q0_18 := rc_Tg.1 _ _ t_q0_18 (by show 1 ≠ 10; decide)
    have t_a0 := rc_Tg.1 _ _ t_a0 (by show 21 ≠ 10; decide)
    have t_ch := tg_ch
    have hH : HT D cs A Tg (tp :: O) ((tp, .inl (cs.1, 900, .inl F40_1)) :: X) H := HT.lay (ci := 11) hH t_a0 (okL_c (⟨_, rfl, t_tp⟩) (okL_c (⟨_, rfl, by omega, by omega, tl_of t_ch (by omega)⟩) (okL_c (⟨_, _, rfl, t_q0_2, t_dq0_2⟩) (okL_c (rfl) (okL_c (⟨_, rfl, t_q0_4⟩) (okL_c (⟨_, rfl, t_q0_5⟩) (okL_c (⟨_, rfl, t_q0_6⟩) (okL_c (⟨_, rfl, by omega, by omega⟩) (okL_c (⟨_, rfl, by omega, by omega⟩) (okL_c (⟨_, rfl, t_q0_9⟩) (okL_c (⟨_, rfl, t_q0_10⟩) (okL_c (⟨_, rfl, t_q0_11⟩) (okL_c (⟨_, rfl, t_q0_12⟩) (okL_c (⟨_, rfl, t_q0_13⟩) (okL_c (⟨_, rfl, t_q0_14⟩) (okL_c (⟨_, rfl, t_q0_15⟩) (okL_c (rfl) (okL_c (⟨_, rfl, t_q0_17⟩) (okL_c (⟨_, rfl, t_q0_18⟩) (okL_c (⟨_, rfl⟩) (okL_n)))))))))))))))))))))
    have hO := hO0
    exact te_i hx hb hr hlocks hH hS (⟨Tg, (n40_0_1.toInt.toNat), F40_1, rfl, by omega, by omega, rc_Tg, t_ch, (by have k9 : (-5 : Int32).toInt = -5 := (by decide); unfold FDF; omega), ⟨fun q9 => absurd q9 (by omega), fun _ => (by have q8 := x_v401; rw [show q0_1.toInt.toNat = gq by omega, show n18_0_1.toInt.toNat = gq + 4 by omega, show n23_0_1.toInt.toNat = gq + 8 by omega, show n28_0_1.toInt.toNat = gq + 12 by omega, show n34_0_1.toInt.toNat = gq + 16 by omega] at q8; exact q8)⟩⟩) dX11_feed_47
  · skip
    have tc10 := f_nle (k := 900) (by decide) c10
    refine lv_bipush (v := (-5)) hx hb dX11_feed_13 (by decide) ?_
    have hH : HT D cs A T (tp :: O) ((tp, .inl (cs.1, 900, .inl ft)) :: X) H := HT.lay (ci := 11) hH t_a0 (okL_c (⟨_, rfl, t_tp⟩) (okL_c (⟨_, rfl, by omega, by omega, tl_of t_ch (by omega)⟩) (okL_c (⟨_, _, rfl, t_q0_2, t_dq0_2⟩) (okL_c (rfl) (okL_c (⟨_, rfl, t_q0_4⟩) (okL_c (⟨_, rfl, t_q0_5⟩) (okL_c (⟨_, rfl, t_q0_6⟩) (okL_c (⟨_, rfl, by omega, by omega⟩) (okL_c (⟨_, rfl, by omega, by omega⟩) (okL_c (⟨_, rfl, t_q0_9⟩) (okL_c (⟨_, rfl, t_q0_10⟩) (okL_c (⟨_, rfl, t_q0_11⟩) (okL_c (⟨_, rfl, t_q0_12⟩) (okL_c (⟨_, rfl, t_q0_13⟩) (okL_c (⟨_, rfl, t_q0_14⟩) (okL_c (⟨_, rfl, t_q0_15⟩) (okL_c (rfl) (okL_c (⟨_, rfl, t_q0_17⟩) (okL_c (⟨_, rfl, t_q0_18⟩) (okL_c (⟨_, rfl⟩) (okL_n)))))))))))))))))))))
    have hO := hO0
    have z9_m5 : ((-5) : Int32).toInt = -5 := by decide
    exact te_i hx hb hr hlocks hH hS (⟨T, gq, ft, rfl, by decide, by decide, Tgc.rf, t_ch, (by have k9 : (-5 : Int32).toInt = -5 := (by decide); unfold FDF; omega), ⟨fun _ => rfl, fun q9 => absurd (by decide) q9⟩⟩) dX11_feed_15
/-! the faults' bounds -/
def FB (x : Int) : Prop := 0 ≤ x ∧ x ≤ 4
theorem FB0 : FB 0 := ⟨by decide, by decide⟩
theorem FB2 : FB 2 := ⟨by decide, by decide⟩
theorem FB3 : FB 3 := ⟨by decide, by decide⟩
theorem FB4 : FB 4 := ⟨by decide, by decide⟩
theorem fwf_b {k : Nat} {x : Int} (h : FB x) : FB (fwf k x) := by
  unfold fwf
  split
  · exact ⟨by decide, by decide⟩
  · exact h
theorem fst1_b {t : Tp} {n f d p : Nat} {K : List (Nat × Nat)} {R : Rg} : FB (fst1 t n f d K p R).2.2.1 := by
  unfold fst1
  split
  all_goals (repeat' split)
  all_goals first | exact FB0 | exact fwf_b FB2 | exact fwf_b FB3 | exact fwf_b FB4
theorem stp_b {t : Tp} {n : Nat} {c : Cf} (h : FB c.2.2.1) : FB (stp t n c).2.2.1 := by
  unfold stp
  split
  · exact h
  · split
    · exact h
    · exact fst1_b
theorem it_b {t : Tp} {n : Nat} : ∀ (k : Nat) (c : Cf), FB c.2.2.1 → FB (it t n k c).2.2.1 := by
  intro k
  induction k with
  | zero => intro c h; exact h
  | succ k ih => intro c h; exact ih _ (stp_b h)
theorem WB.b {t : Tp} {n : Nat} {fa pl : Int32} (h : WB t n fa pl) : 0 ≤ fa.toInt ∧ fa.toInt ≤ 4 := by
  obtain ⟨_, _, K, R, k, q⟩ := h
  have := it_b (t := t) (n := n) k ([(30, 0)], nxs t n 0, 0, (0, 0, 0, 0, 0)) FB0
  rw [q] at this
  exact this
/-- what wall() answers -/
def WRC (t : Tp) (L : Nat) (x r : Int) : Prop := (¬ (0 ≤ x ∧ x ≤ (L : Int)) ∧ r = -3) ∨ (0 ≤ x ∧ x ≤ (L : Int) ∧ ((∃ l : Int32, WO t x.toNat l ∧ 0 ≤ l.toInt ∧ r = l.toInt) ∨ ∃ fa pl : Int32, WB t x.toNat fa pl ∧ r = -30 - fa.toInt))
theorem dX11_restore_0 : decode cX11_restore 0 = .ok (.iload_n 1, 1) := by decide +kernel
theorem dX11_restore_1 : decode cX11_restore 1 = .ok (.invokestatic 374, 3) := by decide +kernel
theorem dX11_restore_4 : decode cX11_restore 4 = .ok (.ifCond .ne 6, 3) := by decide +kernel
theorem dX11_restore_7 : decode cX11_restore 7 = .ok (.bipush (-2), 2) := by decide +kernel
theorem dX11_restore_9 : decode cX11_restore 9 = .ok (.ireturn, 1) := by decide +kernel
theorem dX11_restore_10 : decode cX11_restore 10 = .ok (.aload_n 0, 1) := by decide +kernel
theorem dX11_restore_11 : decode cX11_restore 11 = .ok (.getfield 53, 3) := by decide +kernel
theorem dX11_restore_14 : decode cX11_restore 14 = .ok (.iload_n 1, 1) := by decide +kernel
theorem dX11_restore_15 : decode cX11_restore 15 = .ok (.aaload, 1) := by decide +kernel
theorem dX11_restore_16 : decode cX11_restore 16 = .ok (.ifnonnull 6, 3) := by decide +kernel
theorem dX11_restore_19 : decode cX11_restore 19 = .ok (.bipush (-5), 2) := by decide +kernel
theorem dX11_restore_21 : decode cX11_restore 21 = .ok (.ireturn, 1) := by decide +kernel
theorem dX11_restore_22 : decode cX11_restore 22 = .ok (.aload_n 0, 1) := by decide +kernel
theorem dX11_restore_23 : decode cX11_restore 23 = .ok (.aload_n 0, 1) := by decide +kernel
theorem dX11_restore_24 : decode cX11_restore 24 = .ok (.getfield 53, 3) := by decide +kernel
theorem dX11_restore_27 : decode cX11_restore 27 = .ok (.iload_n 1, 1) := by decide +kernel
theorem dX11_restore_28 : decode cX11_restore 28 = .ok (.aaload, 1) := by decide +kernel
theorem dX11_restore_29 : decode cX11_restore 29 = .ok (.putfield 29, 3) := by decide +kernel
theorem dX11_restore_32 : decode cX11_restore 32 = .ok (.aload_n 0, 1) := by decide +kernel
theorem dX11_restore_33 : decode cX11_restore 33 = .ok (.getfield 36, 3) := by decide +kernel
theorem dX11_restore_36 : decode cX11_restore 36 = .ok (.aload_n 0, 1) := by decide +kernel
theorem dX11_restore_37 : decode cX11_restore 37 = .ok (.getfield 57, 3) := by decide +kernel
theorem dX11_restore_40 : decode cX11_restore 40 = .ok (.iload_n 1, 1) := by decide +kernel
theorem dX11_restore_41 : decode cX11_restore 41 = .ok (.aaload, 1) := by decide +kernel
theorem dX11_restore_42 : decode cX11_restore 42 = .ok (.invokevirtual 135, 3) := by decide +kernel
theorem dX11_restore_45 : decode cX11_restore 45 = .ok (.aload_n 0, 1) := by decide +kernel
theorem dX11_restore_46 : decode cX11_restore 46 = .ok (.iconst 0, 1) := by decide +kernel
theorem dX11_restore_47 : decode cX11_restore 47 = .ok (.putfield 47, 3) := by decide +kernel
theorem dX11_restore_50 : decode cX11_restore 50 = .ok (.iconst 0, 1) := by decide +kernel
theorem dX11_restore_51 : decode cX11_restore 51 = .ok (.ireturn, 1) := by decide +kernel
set_option maxHeartbeats 4000000 in
set_option maxRecDepth 100000 in
theorem s_FW_restore (l : Launch) (D : va_G) (cs : CS) (kf : KF) (T : TF) (O : List Nat) (X : va_W) (a0 w hw gw ch gq : Nat) (x1 : Int32) (t_a0 : T a0 = some (21, w, ch)) (t_w : isW T w hw gw) (t_ch : T ch = some (10, gq, 0)) (hO : okO T O [1, 4, 5, 16, 21]) : TK l D cs kf yX11_restore cX11_restore 2 (some (.int)) { frames := 2, cells := 0, slots := 0, locals := 81 } [.ref a0, .int x1] T O X (Ti D cs (fun r u => ∃ (T2 : TF) (w2 : Nat) (h2 : Nat) (g2 : Nat), u = (T2, O, X) ∧ -5 ≤ r.toInt ∧ r.toInt ≤ 0 ∧ (Tre T T2 a0) ∧ (T2 a0 = some (21, w2, ch)) ∧ (isW T2 w2 h2 g2))) := by
  refine tk_of (by decide) (Nat.le_of_ble_eq_true rfl) (fun p e s m below meth c ls A H locs hx hb hr hml hown hts hlocks hnm hkb hH hS hA hOX hks hE hl => ?_)
  have hown : s.vm.findClass RX11 = some m.cls := hown
  have hl : lv_has ls 2 [(0, .ref a0), (1, .int x1)] := hl
  have b1_w := t_w.2.1
  have b2_w := t_w.2.2
  have hO0 := hO
  obtain ⟨fs9, ho9, hH⟩ := hH.take t_a0 (hO0.no t_a0 (by decide))
  have hp0 : okL T (ft11 w ch) fs9 := ho9
  clear ho9
  obtain ⟨v9, fs9, rfl, h9, hp1⟩ := okL_i hp0
  obtain ⟨q0_0, rfl, t_q0_0⟩ := h9
  obtain ⟨v9, fs9, rfl, h9, hp2⟩ := okL_i hp1
  obtain ⟨q0_1, rfl, l_q0_1, u_q0_1, gt_q0_1⟩ := h9
  have eg_q0_1 : q0_1.toInt = (gq : Int) := by have q9 := tl_eq gt_q0_1 t_ch; omega
  obtain ⟨v9, fs9, rfl, h9, hp3⟩ := okL_i hp2
  obtain ⟨q0_2, dq0_2, rfl, t_q0_2, t_dq0_2⟩ := h9
  obtain ⟨v9, fs9, rfl, h9, hp4⟩ := okL_i hp3
  have h9 : v9 = .ref w := h9
  subst h9
  obtain ⟨v9, fs9, rfl, h9, hp5⟩ := okL_i hp4
  obtain ⟨q0_4, rfl, t_q0_4⟩ := h9
  obtain ⟨v9, fs9, rfl, h9, hp6⟩ := okL_i hp5
  obtain ⟨q0_5, rfl, t_q0_5⟩ := h9
  obtain ⟨v9, fs9, rfl, h9, hp7⟩ := okL_i hp6
  obtain ⟨q0_6, rfl, t_q0_6⟩ := h9
  obtain ⟨v9, fs9, rfl, h9, hp8⟩ := okL_i hp7
  obtain ⟨q0_7, rfl, l_q0_7, u_q0_7⟩ := h9
  obtain ⟨v9, fs9, rfl, h9, hp9⟩ := okL_i hp8
  obtain ⟨q0_8, rfl, l_q0_8, u_q0_8⟩ := h9
  obtain ⟨v9, fs9, rfl, h9, hp10⟩ := okL_i hp9
  obtain ⟨q0_9, rfl, t_q0_9⟩ := h9
  obtain ⟨v9, fs9, rfl, h9, hp11⟩ := okL_i hp10
  obtain ⟨q0_10, rfl, t_q0_10⟩ := h9
  obtain ⟨v9, fs9, rfl, h9, hp12⟩ := okL_i hp11
  obtain ⟨q0_11, rfl, t_q0_11⟩ := h9
  obtain ⟨v9, fs9, rfl, h9, hp13⟩ := okL_i hp12
  obtain ⟨q0_12, rfl, t_q0_12⟩ := h9
  obtain ⟨v9, fs9, rfl, h9, hp14⟩ := okL_i hp13
  obtain ⟨q0_13, rfl, t_q0_13⟩ := h9
  obtain ⟨v9, fs9, rfl, h9, hp15⟩ := okL_i hp14
  obtain ⟨q0_14, rfl, t_q0_14⟩ := h9
  obtain ⟨v9, fs9, rfl, h9, hp16⟩ := okL_i hp15
  obtain ⟨q0_15, rfl, t_q0_15⟩ := h9
  obtain ⟨v9, fs9, rfl, h9, hp17⟩ := okL_i hp16
  have h9 : v9 = .ref ch := h9
  subst h9
  obtain ⟨v9, fs9, rfl, h9, hp18⟩ := okL_i hp17
  obtain ⟨q0_17, rfl, t_q0_17⟩ := h9
  obtain ⟨v9, fs9, rfl, h9, hp19⟩ := okL_i hp18
  obtain ⟨q0_18, rfl, t_q0_18⟩ := h9
  obtain ⟨v9, fs9, rfl, h9, hp20⟩ := okL_i hp19
  obtain ⟨q0_19, rfl⟩ := h9
  have hpz := okL_z hp20
  subst hpz
  have hH : HT D cs A T (a0 :: O) ((a0, .inr (11, [.ref q0_0, .int q0_1, .ref q0_2, .ref w, .ref q0_4, .ref q0_5, .ref q0_6, .int q0_7, .int q0_8, .ref q0_9, .ref q0_10, .ref q0_11, .ref q0_12, .ref q0_13, .ref q0_14, .ref q0_15, .ref ch, .ref q0_17, .ref q0_18, .int q0_19])) :: X) H := hH
  have hO : okO T (a0 :: O) [1, 4, 5, 16] := okO.cons (hO0.sub (by decide)) t_a0 (by decide)
  refine lv_iload_n hx hb dX11_restore_0 rfl (lv_at hl 1 rfl) ?_
  refine tk_i hH hS hA (tr_S (n := 1) (As := [.int x1]) hx hb hml hown hts hkb hH (ox_c hOX) hks hE hS hA (s_FW_isImage l D cs kf T (a0 :: O) ((a0, .inr (11, [.ref q0_0, .int q0_1, .ref q0_2, .ref w, .ref q0_4, .ref q0_5, .ref q0_6, .int q0_7, .int q0_8, .ref q0_9, .ref q0_10, .ref q0_11, .ref q0_12, .ref q0_13, .ref q0_14, .ref q0_15, .ref ch, .ref q0_17, .ref q0_18, .int q0_19])) :: X) x1  (hO.sub (by decide))) kw_1202 kw_1203 kw_1 kw_1204 (by decide +kernel) ⟨Nat.le_of_ble_eq_true rfl, Nat.le_of_ble_eq_true rfl⟩ rfl rfl hl.1 (Nat.le_of_ble_eq_true rfl) dX11_restore_1 ⟨Nat.le_of_ble_eq_true rfl, Nat.le_of_ble_eq_true rfl⟩) (fun v1 u H locs hz9 hH hS => ?_)
  obtain ⟨rfl, l_v1, u_v1, x_v10⟩ := hz9
  have hH : HT D cs A T (a0 :: O) ((a0, .inr (11, [.ref q0_0, .int q0_1, .ref q0_2, .ref w, .ref q0_4, .ref q0_5, .ref q0_6, .int q0_7, .int q0_8, .ref q0_9, .ref q0_10, .ref q0_11, .ref q0_12, .ref q0_13, .ref q0_14, .ref q0_15, .ref ch, .ref q0_17, .ref q0_18, .int q0_19])) :: X) H := hH
  refine W.widen (k := 0) (n := 0) (Nat.le_of_ble_eq_true rfl) (Nat.le_of_ble_eq_true rfl) ?_
  refine lv_if_ne (tgt := 10) hx hb dX11_restore_4 (by decide) (fun c4 => ?_) (fun c4 => ?_)
  · skip
    have tc4 := f_ne (k := 0) (by decide) c4
    obtain ⟨e9, hs9, hH⟩ := HT.takeA hH t_q0_9 (hO.no t_q0_9 (by decide))
    obtain ⟨f9, rfl, hsp9⟩ : ∃ f : Nat → Option Nat, e9 = .inl (cs.2.2.2.2.2.1, 2, .inr (.inr (.inr (.inr f)))) ∧ ∀ j a, f j = some a → ∃ h g, isW T a h g := hs9
    have hO : okO T (q0_9 :: a0 :: O) [1, 4, 16] := okO.cons (hO.sub (by decide)) t_q0_9 (by decide)
    refine lv_aload_n hx hb dX11_restore_10 rfl (lv_at hl 0 rfl) ?_
    refine x_getk (ci := 11) (C := RX11) (F := TX11) (N := 20) (v := .ref q0_9) hx hb hts uX11 hown hkb hH 1 rfl rfl 9 (by decide) rfl kw_369 (fun _ h9 => h9) dX11_restore_11 ?_
    refine lv_iload_n hx hb dX11_restore_14 rfl (lv_at hl 1 rfl) ?_
    refine xa_wld hx hb hkb hH 0 rfl hsp9 (by omega) (by omega) dX11_restore_15 (fun hel9 => ?_) (fun v15 hv15 gv15 hel9 t_v15 => ?_)
    · skip
      refine lv_ifnonnullN hx hb dX11_restore_16 ?_
      refine lv_bipush (v := (-5)) hx hb dX11_restore_19 (by decide) ?_
      have hH : HT D cs A T (a0 :: O) ((a0, .inr (11, [.ref q0_0, .int q0_1, .ref q0_2, .ref w, .ref q0_4, .ref q0_5, .ref q0_6, .int q0_7, .int q0_8, .ref q0_9, .ref q0_10, .ref q0_11, .ref q0_12, .ref q0_13, .ref q0_14, .ref q0_15, .ref ch, .ref q0_17, .ref q0_18, .int q0_19])) :: X) H := HT.layA hH t_q0_9 (show sp cs T (5, 2, 0) _ from ⟨f9, rfl, hsp9⟩)
      have hH : HT D cs A T O X H := HT.lay (ci := 11) hH t_a0 (okL_c (⟨_, rfl, t_q0_0⟩) (okL_c (⟨_, rfl, by omega, by omega, tl_of t_ch (by omega)⟩) (okL_c (⟨_, _, rfl, t_q0_2, t_dq0_2⟩) (okL_c (rfl) (okL_c (⟨_, rfl, t_q0_4⟩) (okL_c (⟨_, rfl, t_q0_5⟩) (okL_c (⟨_, rfl, t_q0_6⟩) (okL_c (⟨_, rfl, by omega, by omega⟩) (okL_c (⟨_, rfl, by omega, by omega⟩) (okL_c (⟨_, rfl, t_q0_9⟩) (okL_c (⟨_, rfl, t_q0_10⟩) (okL_c (⟨_, rfl, t_q0_11⟩) (okL_c (⟨_, rfl, t_q0_12⟩) (okL_c (⟨_, rfl, t_q0_13⟩) (okL_c (⟨_, rfl, t_q0_14⟩) (okL_c (⟨_, rfl, t_q0_15⟩) (okL_c (rfl) (okL_c (⟨_, rfl, t_q0_17⟩) (okL_c (⟨_, rfl, t_q0_18⟩) (okL_c (⟨_, rfl⟩) (okL_n)))))))))))))))))))))
      have hO := hO0
      have z9_m5 : ((-5) : Int32).toInt = -5 := by decide
      exact te_i hx hb hr hlocks hH hS (⟨T, w, hw, gw, rfl, by decide, by decide, Tre.of Tgr.rf, t_a0, t_w⟩) dX11_restore_21
    · skip
      refine lv_ifnonnull (tgt := 22) hx hb dX11_restore_16 (by decide) ?_
      refine lv_aload_n hx hb dX11_restore_22 rfl (lv_at hl 0 rfl) ?_
      refine lv_aload_n hx hb dX11_restore_23 rfl (lv_at hl 0 rfl) ?_
      refine x_getk (ci := 11) (C := RX11) (F := TX11) (N := 20) (v := .ref q0_9) hx hb hts uX11 hown hkb hH 1 rfl rfl 9 (by decide) rfl kw_369 (fun _ h9 => h9) dX11_restore_24 ?_
      refine lv_iload_n hx hb dX11_restore_27 rfl (lv_at hl 1 rfl) ?_
      refine xa_wld1 hx hb hkb hH 0 rfl (by omega) (by omega) hel9 dX11_restore_28 ?_
      refine x_putk (ci := 11) (v := .ref v15) (ty := tyX11 3) (C := RX11) (F := TX11) (N := 20) hx hb hts uX11 tyX11 tyX11_ok nmX11 hown hkb hH hS 1 rfl rfl 3 (by decide) kw_363 (fun _ h9 => h9) rfl (tyX11_ok 3 (by decide)) rfl rfl (Nat.le_of_ble_eq_true rfl) dX11_restore_29 (fun H locs hH hS => ?_)
      have hH : HT D cs A T (q0_9 :: a0 :: O) ((q0_9, .inl (cs.2.2.2.2.2.1, 2, .inr (.inr (.inr (.inr f9))))) :: (a0, .inr (11, [.ref q0_0, .int q0_1, .ref q0_2, .ref v15, .ref q0_4, .ref q0_5, .ref q0_6, .int q0_7, .int q0_8, .ref q0_9, .ref q0_10, .ref q0_11, .ref q0_12, .ref q0_13, .ref q0_14, .ref q0_15, .ref ch, .ref q0_17, .ref q0_18, .int q0_19])) :: X) H := hH
      refine lv_aload_n hx hb dX11_restore_32 rfl (lv_at hl 0 rfl) ?_
      refine x_getk (ci := 11) (C := RX11) (F := TX11) (N := 20) (v := .ref q0_4) hx hb hts uX11 hown hkb hH 1 rfl rfl 4 (by decide) rfl kw_364 (fun _ h9 => h9) dX11_restore_33 ?_
      refine lv_aload_n hx hb dX11_restore_36 rfl (lv_at hl 0 rfl) ?_
      refine x_getk (ci := 11) (C := RX11) (F := TX11) (N := 20) (v := .ref q0_10) hx hb hts uX11 hown hkb hH 1 rfl rfl 10 (by decide) rfl kw_370 (fun _ h9 => h9) dX11_restore_37 ?_
      refine lv_iload_n hx hb dX11_restore_40 rfl (lv_at hl 1 rfl) ?_
      refine t_qld4 hx hb hkb hH t_q0_10 (hO.no t_q0_10 (by decide)) (by omega) (by omega) dX11_restore_41 (fun v41 t_v41 => ?_)
      refine tk_v hH hS hA (tr_V (n := 1) (As := [.ref v41]) hx hb hml hown hts hkb hH (ox_c (ox_c hOX)) hks hE hS hA (s_State_take l D cs kf T (q0_9 :: a0 :: O) ((q0_9, .inl (cs.2.2.2.2.2.1, 2, .inr (.inr (.inr (.inr f9))))) :: (a0, .inr (11, [.ref q0_0, .int q0_1, .ref q0_2, .ref v15, .ref q0_4, .ref q0_5, .ref q0_6, .int q0_7, .int q0_8, .ref q0_9, .ref q0_10, .ref q0_11, .ref q0_12, .ref q0_13, .ref q0_14, .ref q0_15, .ref ch, .ref q0_17, .ref q0_18, .int q0_19])) :: X) q0_4 v41 t_q0_4 t_v41 (hO.sub (by decide))) kw_757 kw_758 kw_759 kw_7 kw_760 (by decide +kernel) ⟨Nat.le_of_ble_eq_true rfl, Nat.le_of_ble_eq_true rfl⟩ (HT.recv (ci := 6) hkb hH t_q0_4 (hO.no t_q0_4 (by decide)) rfl) rfl rfl hl.1 (Nat.le_of_ble_eq_true rfl) dX11_restore_42 ⟨Nat.le_of_ble_eq_true rfl, Nat.le_of_ble_eq_true rfl⟩) (fun u H locs hz9 hH hS => ?_)
      have hz9 : u = (T, q0_9 :: a0 :: O, (q0_9, .inl (cs.2.2.2.2.2.1, 2, .inr (.inr (.inr (.inr f9))))) :: (a0, .inr (11, [.ref q0_0, .int q0_1, .ref q0_2, .ref v15, .ref q0_4, .ref q0_5, .ref q0_6, .int q0_7, .int q0_8, .ref q0_9, .ref q0_10, .ref q0_11, .ref q0_12, .ref q0_13, .ref q0_14, .ref q0_15, .ref ch, .ref q0_17, .ref q0_18, .int q0_19])) :: X) := hz9
      subst hz9
      have hH : HT D cs A T (q0_9 :: a0 :: O) ((q0_9, .inl (cs.2.2.2.2.2.1, 2, .inr (.inr (.inr (.inr f9))))) :: (a0, .inr (11, [.ref q0_0, .int q0_1, .ref q0_2, .ref v15, .ref q0_4, .ref q0_5, .ref q0_6, .int q0_7, .int q0_8, .ref q0_9, .ref q0_10, .ref q0_11, .ref q0_12, .ref q0_13, .ref q0_14, .ref q0_15, .ref ch, .ref q0_17, .ref q0_18, .int q0_19])) :: X) H := hH
      refine W.widen (k := 0) (n := 0) (Nat.le_of_ble_eq_true rfl) (Nat.le_of_ble_eq_true rfl) ?_
      refine lv_aload_n hx hb dX11_restore_45 rfl (lv_at hl 0 rfl) ?_
      refine lv_iconst (v := 0) hx hb dX11_restore_46 (by decide) ?_
      refine x_putk (ci := 11) (v := .int 0) (ty := tyX11 7) (C := RX11) (F := TX11) (N := 20) hx hb hts uX11 tyX11 tyX11_ok nmX11 hown hkb hH hS 1 rfl rfl 7 (by decide) kw_367 (fun _ h9 => h9) rfl (tyX11_ok 7 (by decide)) rfl rfl (Nat.le_of_ble_eq_true rfl) dX11_restore_47 (fun H locs hH hS => ?_)
      have hH : HT D cs A T (q0_9 :: a0 :: O) ((q0_9, .inl (cs.2.2.2.2.2.1, 2, .inr (.inr (.inr (.inr f9))))) :: (a0, .inr (11, [.ref q0_0, .int q0_1, .ref q0_2, .ref v15, .ref q0_4, .ref q0_5, .ref q0_6, .int 0, .int q0_8, .ref q0_9, .ref q0_10, .ref q0_11, .ref q0_12, .ref q0_13, .ref q0_14, .ref q0_15, .ref ch, .ref q0_17, .ref q0_18, .int q0_19])) :: X) H := hH
      refine lv_iconst (v := 0) hx hb dX11_restore_50 (by decide) ?_
      have hH : HT D cs A T (a0 :: O) ((a0, .inr (11, [.ref q0_0, .int q0_1, .ref q0_2, .ref v15, .ref q0_4, .ref q0_5, .ref q0_6, .int 0, .int q0_8, .ref q0_9, .ref q0_10, .ref q0_11, .ref q0_12, .ref q0_13, .ref q0_14, .ref q0_15, .ref ch, .ref q0_17, .ref q0_18, .int q0_19])) :: X) H := HT.layA hH t_q0_9 (show sp cs T (5, 2, 0) _ from ⟨f9, rfl, hsp9⟩)
      obtain ⟨Tz, re_Tz, tz_a0, tz_w, hH⟩ : ∃ Tz, Tre T Tz a0 ∧ Tz a0 = some (21, v15, ch) ∧ isW Tz v15 hv15 gv15 ∧ HT D cs A Tz O X H := ⟨Tadd T a0 (21, v15, ch), Tre.add t_a0, Tadd_r, isW.re t_a0 t_v15, HT.re (w2 := v15) hH t_a0 (okL_c (⟨_, rfl, t_q0_0⟩) (okL_c (⟨_, rfl, by omega, by omega, tl_of t_ch (by omega)⟩) (okL_c (⟨_, _, rfl, t_q0_2, t_dq0_2⟩) (okL_c (rfl) (okL_c (⟨_, rfl, t_q0_4⟩) (okL_c (⟨_, rfl, t_q0_5⟩) (okL_c (⟨_, rfl, t_q0_6⟩) (okL_c (⟨_, rfl, by decide, by decide⟩) (okL_c (⟨_, rfl, by omega, by omega⟩) (okL_c (⟨_, rfl, t_q0_9⟩) (okL_c (⟨_, rfl, t_q0_10⟩) (okL_c (⟨_, rfl, t_q0_11⟩) (okL_c (⟨_, rfl, t_q0_12⟩) (okL_c (⟨_, rfl, t_q0_13⟩) (okL_c (⟨_, rfl, t_q0_14⟩) (okL_c (⟨_, rfl, t_q0_15⟩) (okL_c (rfl) (okL_c (⟨_, rfl, t_q0_17⟩) (okL_c (⟨_, rfl, t_q0_18⟩) (okL_c (⟨_, rfl⟩) (okL_n)))))))))))))))))))))⟩
      have z9_0 : (0 : Int32).toInt = 0 := by decide
      exact te_i hx hb hr hlocks hH hS (⟨Tz, v15, hv15, gv15, rfl, by decide, by decide, Tre.tr (Tre.of Tgr.rf) re_Tz, tz_a0, tz_w⟩) dX11_restore_51
  · skip
    have tc4 := f_eq (k := 0) (by decide) c4
    refine lv_bipush (v := (-2)) hx hb dX11_restore_7 (by decide) ?_
    have hH : HT D cs A T O X H := HT.lay (ci := 11) hH t_a0 (okL_c (⟨_, rfl, t_q0_0⟩) (okL_c (⟨_, rfl, by omega, by omega, tl_of t_ch (by omega)⟩) (okL_c (⟨_, _, rfl, t_q0_2, t_dq0_2⟩) (okL_c (rfl) (okL_c (⟨_, rfl, t_q0_4⟩) (okL_c (⟨_, rfl, t_q0_5⟩) (okL_c (⟨_, rfl, t_q0_6⟩) (okL_c (⟨_, rfl, by omega, by omega⟩) (okL_c (⟨_, rfl, by omega, by omega⟩) (okL_c (⟨_, rfl, t_q0_9⟩) (okL_c (⟨_, rfl, t_q0_10⟩) (okL_c (⟨_, rfl, t_q0_11⟩) (okL_c (⟨_, rfl, t_q0_12⟩) (okL_c (⟨_, rfl, t_q0_13⟩) (okL_c (⟨_, rfl, t_q0_14⟩) (okL_c (⟨_, rfl, t_q0_15⟩) (okL_c (rfl) (okL_c (⟨_, rfl, t_q0_17⟩) (okL_c (⟨_, rfl, t_q0_18⟩) (okL_c (⟨_, rfl⟩) (okL_n)))))))))))))))))))))
    have hO := hO0
    have z9_m2 : ((-2) : Int32).toInt = -2 := by decide
    exact te_i hx hb hr hlocks hH hS (⟨T, w, hw, gw, rfl, by decide, by decide, Tre.of Tgr.rf, t_a0, t_w⟩) dX11_restore_9
theorem dX11_wall_0 : decode cX11_wall 0 = .ok (.iload_n 1, 1) := by decide +kernel
theorem dX11_wall_1 : decode cX11_wall 1 = .ok (.ifCond .lt 11, 3) := by decide +kernel
theorem dX11_wall_4 : decode cX11_wall 4 = .ok (.iload_n 1, 1) := by decide +kernel
theorem dX11_wall_5 : decode cX11_wall 5 = .ok (.aload_n 0, 1) := by decide +kernel
theorem dX11_wall_6 : decode cX11_wall 6 = .ok (.getfield 13, 3) := by decide +kernel
theorem dX11_wall_9 : decode cX11_wall 9 = .ok (.if_icmp .le 6, 3) := by decide +kernel
theorem dX11_wall_12 : decode cX11_wall 12 = .ok (.bipush (-3), 2) := by decide +kernel
theorem dX11_wall_14 : decode cX11_wall 14 = .ok (.ireturn, 1) := by decide +kernel
theorem dX11_wall_15 : decode cX11_wall 15 = .ok (.aload_n 0, 1) := by decide +kernel
theorem dX11_wall_16 : decode cX11_wall 16 = .ok (.iconst 0, 1) := by decide +kernel
theorem dX11_wall_17 : decode cX11_wall 17 = .ok (.putfield 13, 3) := by decide +kernel
theorem dX11_wall_20 : decode cX11_wall 20 = .ok (.aload_n 0, 1) := by decide +kernel
theorem dX11_wall_21 : decode cX11_wall 21 = .ok (.getfield 20, 3) := by decide +kernel
theorem dX11_wall_24 : decode cX11_wall 24 = .ok (.aload_n 0, 1) := by decide +kernel
theorem dX11_wall_25 : decode cX11_wall 25 = .ok (.getfield 9, 3) := by decide +kernel
theorem dX11_wall_28 : decode cX11_wall 28 = .ok (.iload_n 1, 1) := by decide +kernel
theorem dX11_wall_29 : decode cX11_wall 29 = .ok (.invokevirtual 115, 3) := by decide +kernel
theorem dX11_wall_32 : decode cX11_wall 32 = .ok (.ifCond .ne 17, 3) := by decide +kernel
theorem dX11_wall_35 : decode cX11_wall 35 = .ok (.bipush (-30), 2) := by decide +kernel
theorem dX11_wall_37 : decode cX11_wall 37 = .ok (.aload_n 0, 1) := by decide +kernel
theorem dX11_wall_38 : decode cX11_wall 38 = .ok (.getfield 20, 3) := by decide +kernel
theorem dX11_wall_41 : decode cX11_wall 41 = .ok (.getfield 119, 3) := by decide +kernel
theorem dX11_wall_44 : decode cX11_wall 44 = .ok (.getfield 123, 3) := by decide +kernel
theorem dX11_wall_47 : decode cX11_wall 47 = .ok (.isub, 1) := by decide +kernel
theorem dX11_wall_48 : decode cX11_wall 48 = .ok (.ireturn, 1) := by decide +kernel
theorem dX11_wall_49 : decode cX11_wall 49 = .ok (.aload_n 0, 1) := by decide +kernel
theorem dX11_wall_50 : decode cX11_wall 50 = .ok (.aload_n 0, 1) := by decide +kernel
theorem dX11_wall_51 : decode cX11_wall 51 = .ok (.getfield 20, 3) := by decide +kernel
theorem dX11_wall_54 : decode cX11_wall 54 = .ok (.invokevirtual 128, 3) := by decide +kernel
theorem dX11_wall_57 : decode cX11_wall 57 = .ok (.putfield 29, 3) := by decide +kernel
theorem dX11_wall_60 : decode cX11_wall 60 = .ok (.aload_n 0, 1) := by decide +kernel
theorem dX11_wall_61 : decode cX11_wall 61 = .ok (.getfield 36, 3) := by decide +kernel
theorem dX11_wall_64 : decode cX11_wall 64 = .ok (.aload_n 0, 1) := by decide +kernel
theorem dX11_wall_65 : decode cX11_wall 65 = .ok (.getfield 20, 3) := by decide +kernel
theorem dX11_wall_68 : decode cX11_wall 68 = .ok (.getfield 132, 3) := by decide +kernel
theorem dX11_wall_71 : decode cX11_wall 71 = .ok (.invokevirtual 135, 3) := by decide +kernel
theorem dX11_wall_74 : decode cX11_wall 74 = .ok (.aload_n 0, 1) := by decide +kernel
theorem dX11_wall_75 : decode cX11_wall 75 = .ok (.iconst 0, 1) := by decide +kernel
theorem dX11_wall_76 : decode cX11_wall 76 = .ok (.putfield 47, 3) := by decide +kernel
theorem dX11_wall_79 : decode cX11_wall 79 = .ok (.aload_n 0, 1) := by decide +kernel
theorem dX11_wall_80 : decode cX11_wall 80 = .ok (.getfield 29, 3) := by decide +kernel
theorem dX11_wall_83 : decode cX11_wall 83 = .ok (.getfield 139, 3) := by decide +kernel
theorem dX11_wall_86 : decode cX11_wall 86 = .ok (.ireturn, 1) := by decide +kernel
theorem kw_217 : Cond.fieldLink "FootholdWall" 132 "FootholdWall$Reader" "told" "LFootholdWall$State;" ∈ gw := gw_of (tb_of 217 (by decide +kernel)) (by decide +kernel)
theorem kw_433 : Cond.methodLink "FootholdWall" 115 yX4_read ∈ gw := gw_of (tb_of 433 (by decide +kernel)) (by decide +kernel)
theorem kw_434 : Cond.instanceMethod yX4_read ∈ gw := gw_of (tb_of 434 (by decide +kernel)) (by decide +kernel)
theorem kw_435 : Cond.selects "FootholdWall$Reader" yX4_read yX4_read ∈ gw := gw_of (tb_of 435 (by decide +kernel)) (by decide +kernel)
theorem kw_436 : Cond.code yX4_read cX4_read 4 (some (.boolean)) ∈ gw := gw_of (tb_of 436 (by decide +kernel)) (by decide +kernel)
theorem kw_711 : Cond.methodLink "FootholdWall" 128 yX4_made ∈ gw := gw_of (tb_of 711 (by decide +kernel)) (by decide +kernel)
theorem kw_712 : Cond.instanceMethod yX4_made ∈ gw := gw_of (tb_of 712 (by decide +kernel)) (by decide +kernel)
theorem kw_713 : Cond.selects "FootholdWall$Reader" yX4_made yX4_made ∈ gw := gw_of (tb_of 713 (by decide +kernel)) (by decide +kernel)
theorem kw_714 : Cond.code yX4_made cX4_made 1 (some (.object "FootholdWall$Wall")) ∈ gw := gw_of (tb_of 714 (by decide +kernel)) (by decide +kernel)
set_option maxHeartbeats 4000000 in
set_option maxRecDepth 100000 in
theorem s_FW_wall (l : Launch) (D : va_G) (cs : CS) (kf : KF) (T : TF) (O : List Nat) (X : va_W) (a0 w hw gw ch gq : Nat) (x1 : Int32) (o0 : Value) (y1 : Int32) (y2 : Int32) (y3 : Int32) (y4 : Int32) (y5 : Int32) (y6 : Int32) (y7 : Int32) (ft : Nat → Int32) (tk tp : Nat) (t : Tp) (t_a0 : T a0 = some (21, w, ch)) (t_w : isW T w hw gw) (t_ch : T ch = some (10, gq, 0)) (l_y1 : 0 ≤ y1.toInt) (u_y1 : y1.toInt ≤ 900) (l_y2 : 0 ≤ y2.toInt) (u_y2 : y2.toInt ≤ 900) (l_y3 : 0 ≤ y3.toInt) (u_y3 : y3.toInt ≤ 900) (hU1 : ∀ (b : Nat) (tg : Tg), T b = some tg → tg.1 = 21 → b = a0) (hcO : ch ∈ O) (t_tk : T tk = some (17, 0, 0)) (hU7 : ∀ (b : Nat) (q : Nat), T b = some (17, 0, q) → b = tk) (t_tp : T tp = some (0, 900, 0)) (hU0 : ∀ (b : Nat) (q : Nat), T b = some (0, 900, q) → b = tp) (htb : TB ft t) (hO : okO T (tk :: tp :: O) [1, 12, 13, 14, 16, 19, 21]) : TK l D cs kf yX11_wall cX11_wall 2 (some (.int)) { frames := 33, cells := 10, slots := 1001, locals := 749 } [.ref a0, .int x1] T (tk :: tp :: O) ((tk, .inr (7, [o0, .int y1, .int y2, .int y3, .int y4, .int y5, .int y6, .int y7])) :: (tp, .inl (cs.1, 900, .inl ft)) :: X) (Ti D cs (fun r u => ∃ (T2 : TF) (w2 : Nat) (h2 : Nat) (g2 : Nat) (gq2 : Nat) (o2 : Value) (n0_1 : Int32) (n0_2 : Int32) (n0_3 : Int32) (n0_4 : Int32) (n0_5 : Int32) (n0_6 : Int32) (n0_7 : Int32), u = (T2, tk :: tp :: O, (tk, .inr (7, [o2, .int n0_1, .int n0_2, .int n0_3, .int n0_4, .int n0_5, .int n0_6, .int n0_7])) :: (tp, .inl (cs.1, 900, .inl ft)) :: X) ∧ (Twl T T2 a0) ∧ (T2 a0 = some (21, w2, ch)) ∧ (isW T2 w2 h2 g2) ∧ (T2 ch = some (10, gq2, 0)) ∧ (WLF gq gq2 x1.toInt) ∧ (WFC t gq x1.toInt y6 y7 n0_6 n0_7) ∧ (0 ≤ n0_1.toInt ∧ n0_1.toInt ≤ 900 ∧ 0 ≤ n0_2.toInt ∧ n0_2.toInt ≤ 900 ∧ 0 ≤ n0_3.toInt ∧ n0_3.toInt ≤ 900) ∧ (WRC t gq x1.toInt r.toInt))) := by
  refine tk_of (by decide) (Nat.le_of_ble_eq_true rfl) (fun p e s m below meth c ls A H locs hx hb hr hml hown hts hlocks hnm hkb hH hS hA hOX hks hE hl => ?_)
  have hown : s.vm.findClass RX11 = some m.cls := hown
  have hl : lv_has ls 2 [(0, .ref a0), (1, .int x1)] := hl
  have b1_w := t_w.2.1
  have b2_w := t_w.2.2
  have hOXf := hOX
  have hO0 := hO
  obtain ⟨fs9, ho9, hH⟩ := hH.take t_a0 (hO0.no t_a0 (by decide))
  have hp0 : okL T (ft11 w ch) fs9 := ho9
  clear ho9
  obtain ⟨v9, fs9, rfl, h9, hp1⟩ := okL_i hp0
  obtain ⟨q0_0, rfl, t_q0_0⟩ := h9
  have e9 := (hU0 _ _ t_q0_0).symm
  subst e9
  obtain ⟨v9, fs9, rfl, h9, hp2⟩ := okL_i hp1
  obtain ⟨q0_1, rfl, l_q0_1, u_q0_1, gt_q0_1⟩ := h9
  have eg_q0_1 : q0_1.toInt = (gq : Int) := by have q9 := tl_eq gt_q0_1 t_ch; omega
  obtain ⟨v9, fs9, rfl, h9, hp3⟩ := okL_i hp2
  obtain ⟨q0_2, dq0_2, rfl, t_q0_2, t_dq0_2⟩ := h9
  obtain ⟨v9, fs9, rfl, h9, hp4⟩ := okL_i hp3
  have h9 : v9 = .ref w := h9
  subst h9
  obtain ⟨v9, fs9, rfl, h9, hp5⟩ := okL_i hp4
  obtain ⟨q0_4, rfl, t_q0_4⟩ := h9
  obtain ⟨v9, fs9, rfl, h9, hp6⟩ := okL_i hp5
  obtain ⟨q0_5, rfl, t_q0_5⟩ := h9
  obtain ⟨v9, fs9, rfl, h9, hp7⟩ := okL_i hp6
  obtain ⟨q0_6, rfl, t_q0_6⟩ := h9
  obtain ⟨v9, fs9, rfl, h9, hp8⟩ := okL_i hp7
  obtain ⟨q0_7, rfl, l_q0_7, u_q0_7⟩ := h9
  obtain ⟨v9, fs9, rfl, h9, hp9⟩ := okL_i hp8
  obtain ⟨q0_8, rfl, l_q0_8, u_q0_8⟩ := h9
  obtain ⟨v9, fs9, rfl, h9, hp10⟩ := okL_i hp9
  obtain ⟨q0_9, rfl, t_q0_9⟩ := h9
  obtain ⟨v9, fs9, rfl, h9, hp11⟩ := okL_i hp10
  obtain ⟨q0_10, rfl, t_q0_10⟩ := h9
  obtain ⟨v9, fs9, rfl, h9, hp12⟩ := okL_i hp11
  obtain ⟨q0_11, rfl, t_q0_11⟩ := h9
  obtain ⟨v9, fs9, rfl, h9, hp13⟩ := okL_i hp12
  obtain ⟨q0_12, rfl, t_q0_12⟩ := h9
  obtain ⟨v9, fs9, rfl, h9, hp14⟩ := okL_i hp13
  obtain ⟨q0_13, rfl, t_q0_13⟩ := h9
  obtain ⟨v9, fs9, rfl, h9, hp15⟩ := okL_i hp14
  obtain ⟨q0_14, rfl, t_q0_14⟩ := h9
  obtain ⟨v9, fs9, rfl, h9, hp16⟩ := okL_i hp15
  obtain ⟨q0_15, rfl, t_q0_15⟩ := h9
  obtain ⟨v9, fs9, rfl, h9, hp17⟩ := okL_i hp16
  have h9 : v9 = .ref ch := h9
  subst h9
  obtain ⟨v9, fs9, rfl, h9, hp18⟩ := okL_i hp17
  obtain ⟨q0_17, rfl, t_q0_17⟩ := h9
  obtain ⟨v9, fs9, rfl, h9, hp19⟩ := okL_i hp18
  obtain ⟨q0_18, rfl, t_q0_18⟩ := h9
  obtain ⟨v9, fs9, rfl, h9, hp20⟩ := okL_i hp19
  obtain ⟨q0_19, rfl⟩ := h9
  have hpz := okL_z hp20
  subst hpz
  have hH : HT D cs A T (a0 :: tk :: tp :: O) ((a0, .inr (11, [.ref tp, .int q0_1, .ref q0_2, .ref w, .ref q0_4, .ref q0_5, .ref q0_6, .int q0_7, .int q0_8, .ref q0_9, .ref q0_10, .ref q0_11, .ref q0_12, .ref q0_13, .ref q0_14, .ref q0_15, .ref ch, .ref q0_17, .ref q0_18, .int q0_19])) :: (tk, .inr (7, [o0, .int y1, .int y2, .int y3, .int y4, .int y5, .int y6, .int y7])) :: (tp, .inl (cs.1, 900, .inl ft)) :: X) H := hH
  have hO : okO T (a0 :: tk :: tp :: O) [1, 12, 13, 14, 16, 19] := okO.cons (hO0.sub (by decide)) t_a0 (by decide)
  have hH : HT D cs A T (tk :: tp :: a0 :: O) ((tk, .inr (7, [o0, .int y1, .int y2, .int y3, .int y4, .int y5, .int y6, .int y7])) :: (tp, .inl (cs.1, 900, .inl ft)) :: (a0, .inr (11, [.ref tp, .int q0_1, .ref q0_2, .ref w, .ref q0_4, .ref q0_5, .ref q0_6, .int q0_7, .int q0_8, .ref q0_9, .ref q0_10, .ref q0_11, .ref q0_12, .ref q0_13, .ref q0_14, .ref q0_15, .ref ch, .ref q0_17, .ref q0_18, .int q0_19])) :: X) H := HT.pm (Y := [(a0, .inr (11, [.ref tp, .int q0_1, .ref q0_2, .ref w, .ref q0_4, .ref q0_5, .ref q0_6, .int q0_7, .int q0_8, .ref q0_9, .ref q0_10, .ref q0_11, .ref q0_12, .ref q0_13, .ref q0_14, .ref q0_15, .ref ch, .ref q0_17, .ref q0_18, .int q0_19])), (tk, .inr (7, [o0, .int y1, .int y2, .int y3, .int y4, .int y5, .int y6, .int y7])), (tp, .inl (cs.1, 900, .inl ft))]) (Y2 := [(tk, .inr (7, [o0, .int y1, .int y2, .int y3, .int y4, .int y5, .int y6, .int y7])), (tp, .inl (cs.1, 900, .inl ft)), (a0, .inr (11, [.ref tp, .int q0_1, .ref q0_2, .ref w, .ref q0_4, .ref q0_5, .ref q0_6, .int q0_7, .int q0_8, .ref q0_9, .ref q0_10, .ref q0_11, .ref q0_12, .ref q0_13, .ref q0_14, .ref q0_15, .ref ch, .ref q0_17, .ref q0_18, .int q0_19]))]) (X := X) (ym := 3) [1, 2, 0] hH rfl rfl (fun k hk => match k, hk with | 0, _ => rfl | 1, _ => rfl | 2, _ => rfl | k + 3, h => absurd h (by show ¬ k + 3 < 3; omega)) (by decide) (by intro a ha; simp only [List.mem_cons] at ha ⊢; rcases ha with h | h | h | h; exact Or.inr (Or.inr (Or.inl h)); exact Or.inl h; exact Or.inr (Or.inl h); exact Or.inr (Or.inr (Or.inr (h))))
  have hO := hO.pm (O' := tk :: tp :: a0 :: O) (by intro a ha; simp only [List.mem_cons] at ha ⊢; rcases ha with h | h | h | h; exact Or.inr (Or.inl h); exact Or.inr (Or.inr (Or.inl h)); exact Or.inl h; exact Or.inr (Or.inr (Or.inr (h))))
  refine lv_iload_n hx hb dX11_wall_0 rfl (lv_at hl 1 rfl) ?_
  refine lv_if_lt (tgt := 12) hx hb dX11_wall_1 (by decide) (fun c1 => ?_) (fun c1 => ?_)
  · skip
    have tc1 := f_lt (k := 0) (by decide) c1
    refine lv_bipush (v := (-3)) hx hb dX11_wall_12 (by decide) ?_
    have hH : HT D cs A T (a0 :: tk :: tp :: O) ((a0, .inr (11, [.ref tp, .int q0_1, .ref q0_2, .ref w, .ref q0_4, .ref q0_5, .ref q0_6, .int q0_7, .int q0_8, .ref q0_9, .ref q0_10, .ref q0_11, .ref q0_12, .ref q0_13, .ref q0_14, .ref q0_15, .ref ch, .ref q0_17, .ref q0_18, .int q0_19])) :: (tk, .inr (7, [o0, .int y1, .int y2, .int y3, .int y4, .int y5, .int y6, .int y7])) :: (tp, .inl (cs.1, 900, .inl ft)) :: X) H := HT.pm (Y := [(tk, .inr (7, [o0, .int y1, .int y2, .int y3, .int y4, .int y5, .int y6, .int y7])), (tp, .inl (cs.1, 900, .inl ft)), (a0, .inr (11, [.ref tp, .int q0_1, .ref q0_2, .ref w, .ref q0_4, .ref q0_5, .ref q0_6, .int q0_7, .int q0_8, .ref q0_9, .ref q0_10, .ref q0_11, .ref q0_12, .ref q0_13, .ref q0_14, .ref q0_15, .ref ch, .ref q0_17, .ref q0_18, .int q0_19]))]) (Y2 := [(a0, .inr (11, [.ref tp, .int q0_1, .ref q0_2, .ref w, .ref q0_4, .ref q0_5, .ref q0_6, .int q0_7, .int q0_8, .ref q0_9, .ref q0_10, .ref q0_11, .ref q0_12, .ref q0_13, .ref q0_14, .ref q0_15, .ref ch, .ref q0_17, .ref q0_18, .int q0_19])), (tk, .inr (7, [o0, .int y1, .int y2, .int y3, .int y4, .int y5, .int y6, .int y7])), (tp, .inl (cs.1, 900, .inl ft))]) (X := X) (ym := 3) [2, 0, 1] hH rfl rfl (fun k hk => match k, hk with | 0, _ => rfl | 1, _ => rfl | 2, _ => rfl | k + 3, h => absurd h (by show ¬ k + 3 < 3; omega)) (by decide) (by intro a ha; simp only [List.mem_cons] at ha ⊢; rcases ha with h | h | h | h; exact Or.inr (Or.inl h); exact Or.inr (Or.inr (Or.inl h)); exact Or.inl h; exact Or.inr (Or.inr (Or.inr (h))))
    have hH : HT D cs A T (tk :: tp :: O) ((tk, .inr (7, [o0, .int y1, .int y2, .int y3, .int y4, .int y5, .int y6, .int y7])) :: (tp, .inl (cs.1, 900, .inl ft)) :: X) H := HT.lay (ci := 11) hH t_a0 (okL_c (⟨_, rfl, t_tp⟩) (okL_c (⟨_, rfl, by omega, by omega, tl_of t_ch (by omega)⟩) (okL_c (⟨_, _, rfl, t_q0_2, t_dq0_2⟩) (okL_c (rfl) (okL_c (⟨_, rfl, t_q0_4⟩) (okL_c (⟨_, rfl, t_q0_5⟩) (okL_c (⟨_, rfl, t_q0_6⟩) (okL_c (⟨_, rfl, by omega, by omega⟩) (okL_c (⟨_, rfl, by omega, by omega⟩) (okL_c (⟨_, rfl, t_q0_9⟩) (okL_c (⟨_, rfl, t_q0_10⟩) (okL_c (⟨_, rfl, t_q0_11⟩) (okL_c (⟨_, rfl, t_q0_12⟩) (okL_c (⟨_, rfl, t_q0_13⟩) (okL_c (⟨_, rfl, t_q0_14⟩) (okL_c (⟨_, rfl, t_q0_15⟩) (okL_c (rfl) (okL_c (⟨_, rfl, t_q0_17⟩) (okL_c (⟨_, rfl, t_q0_18⟩) (okL_c (⟨_, rfl⟩) (okL_n)))))))))))))))))))))
    have hO := hO0
    refine W.widen (k := 10) (n := 1001) (Nat.le_of_ble_eq_true rfl) (Nat.le_of_ble_eq_true rfl) ?_
    have z9_m3 : ((-3) : Int32).toInt = -3 := by decide
    exact te_i hx hb hr hlocks hH hS (⟨T, w, hw, gw, gq, o0, y1, y2, y3, y4, y5, y6, y7, rfl, Twl.of Tgr.rf Tgc.rf Tre.rf, t_a0, t_w, t_ch, (by unfold WLF; omega), (Or.inl ⟨by omega, rfl, rfl⟩), by omega, (Or.inl ⟨by omega, by omega⟩)⟩) dX11_wall_14
  · skip
    have tc1 := f_nlt (k := 0) (by decide) c1
    refine lv_iload_n hx hb dX11_wall_4 rfl (lv_at hl 1 rfl) ?_
    refine lv_aload_n hx hb dX11_wall_5 rfl (lv_at hl 0 rfl) ?_
    refine x_getk (ci := 11) (C := RX11) (F := TX11) (N := 20) (v := .int q0_1) hx hb hts uX11 hown hkb hH 2 rfl rfl 1 (by decide) rfl kw_361 (fun _ h9 => h9) dX11_wall_6 ?_
    refine lv_icmp_le (tgt := 15) hx hb dX11_wall_9 (by decide) (fun c9 => ?_) (fun c9 => ?_)
    · skip
      have fuc9 := full_i x1
      have fvc9 := full_i q0_1
      have tc9 := g_le c9
      obtain ⟨tn, hn⟩ : ∃ z9 : Nat, x1.toInt = (z9 : Int) := ⟨x1.toInt.toNat, by omega⟩
      refine lv_aload_n hx hb dX11_wall_15 rfl (lv_at hl 0 rfl) ?_
      refine lv_iconst (v := 0) hx hb dX11_wall_16 (by decide) ?_
      refine x_putk (ci := 11) (v := .int 0) (ty := tyX11 1) (C := RX11) (F := TX11) (N := 20) hx hb hts uX11 tyX11 tyX11_ok nmX11 hown hkb hH hS 2 rfl rfl 1 (by decide) kw_361 (fun _ h9 => h9) rfl (tyX11_ok 1 (by decide)) rfl rfl (Nat.le_of_ble_eq_true rfl) dX11_wall_17 (fun H locs hH hS => ?_)
      have hH : HT D cs A T (tk :: tp :: a0 :: O) ((tk, .inr (7, [o0, .int y1, .int y2, .int y3, .int y4, .int y5, .int y6, .int y7])) :: (tp, .inl (cs.1, 900, .inl ft)) :: (a0, .inr (11, [.ref tp, .int 0, .ref q0_2, .ref w, .ref q0_4, .ref q0_5, .ref q0_6, .int q0_7, .int q0_8, .ref q0_9, .ref q0_10, .ref q0_11, .ref q0_12, .ref q0_13, .ref q0_14, .ref q0_15, .ref ch, .ref q0_17, .ref q0_18, .int q0_19])) :: X) H := hH
      have hO1 := hO
      obtain ⟨fs9, ho9, hH⟩ := hH.take t_dq0_2 (hO.no t_dq0_2 (by decide))
      have hp0 : okL T (ft9d 100 0) fs9 := (ob9d _).mp ho9
      obtain ⟨v9, fs9, rfl, h9, hp1⟩ := okL_i hp0
      obtain ⟨dq_0, rfl, l_dq_0, u_dq_0⟩ := h9
      obtain ⟨v9, fs9, rfl, h9, hp2⟩ := okL_i hp1
      obtain ⟨dq_1, rfl, l_dq_1, u_dq_1⟩ := h9
      obtain ⟨v9, fs9, rfl, h9, hp3⟩ := okL_i hp2
      obtain ⟨dq_2, rfl⟩ := h9
      obtain ⟨v9, fs9, rfl, h9, hp4⟩ := okL_i hp3
      obtain ⟨dq_3, rfl, l_dq_3, u_dq_3⟩ := h9
      obtain ⟨v9, fs9, rfl, h9, hp5⟩ := okL_i hp4
      obtain ⟨dq_4, rfl, l_dq_4, u_dq_4⟩ := h9
      obtain ⟨v9, fs9, rfl, h9, hp6⟩ := okL_i hp5
      obtain ⟨dq_5, rfl, l_dq_5, u_dq_5⟩ := h9
      obtain ⟨v9, fs9, rfl, h9, hp7⟩ := okL_i hp6
      obtain ⟨dq_6, rfl, t_dq_6⟩ := h9
      obtain ⟨v9, fs9, rfl, h9, hp8⟩ := okL_i hp7
      obtain ⟨dq_7, rfl, t_dq_7⟩ := h9
      obtain ⟨v9, fs9, rfl, h9, hp9⟩ := okL_i hp8
      obtain ⟨dq_8, rfl, t_dq_8⟩ := h9
      obtain ⟨v9, fs9, rfl, h9, hp10⟩ := okL_i hp9
      obtain ⟨dq_9, rfl, t_dq_9⟩ := h9
      obtain ⟨v9, fs9, rfl, h9, hp11⟩ := okL_i hp10
      obtain ⟨dq_10, rfl, t_dq_10⟩ := h9
      obtain ⟨v9, fs9, rfl, h9, hp12⟩ := okL_i hp11
      have h9 : v9 = .null := h9
      subst h9
      obtain ⟨v9, fs9, rfl, h9, hp13⟩ := okL_i hp12
      obtain ⟨dq_12, rfl, l_dq_12, u_dq_12⟩ := h9
      obtain ⟨v9, fs9, rfl, h9, hp14⟩ := okL_i hp13
      obtain ⟨dq_13, rfl, l_dq_13, u_dq_13⟩ := h9
      have hpz := okL_z hp14
      subst hpz
      have hO : okO T (dq0_2 :: tk :: tp :: a0 :: O) [1, 12, 13, 14, 16] := okO.cons (hO.sub (by decide)) t_dq0_2 (by decide)
      have hH : HT D cs A T (dq0_2 :: tk :: tp :: a0 :: O) ((dq0_2, .inr (9, [.int dq_0, .int dq_1, .int dq_2, .int dq_3, .int dq_4, .int dq_5, .ref dq_6, .ref dq_7, .ref dq_8, .ref dq_9, .ref dq_10, .null, .int dq_12, .int dq_13])) :: (tk, .inr (7, [o0, .int y1, .int y2, .int y3, .int y4, .int y5, .int y6, .int y7])) :: (tp, .inl (cs.1, 900, .inl ft)) :: (a0, .inr (11, [.ref tp, .int 0, .ref q0_2, .ref w, .ref q0_4, .ref q0_5, .ref q0_6, .int q0_7, .int q0_8, .ref q0_9, .ref q0_10, .ref q0_11, .ref q0_12, .ref q0_13, .ref q0_14, .ref q0_15, .ref ch, .ref q0_17, .ref q0_18, .int q0_19])) :: X) H := hH
      have hH : HT D cs A T (tk :: tp :: dq0_2 :: a0 :: O) ((tk, .inr (7, [o0, .int y1, .int y2, .int y3, .int y4, .int y5, .int y6, .int y7])) :: (tp, .inl (cs.1, 900, .inl ft)) :: (dq0_2, .inr (9, [.int dq_0, .int dq_1, .int dq_2, .int dq_3, .int dq_4, .int dq_5, .ref dq_6, .ref dq_7, .ref dq_8, .ref dq_9, .ref dq_10, .null, .int dq_12, .int dq_13])) :: (a0, .inr (11, [.ref tp, .int 0, .ref q0_2, .ref w, .ref q0_4, .ref q0_5, .ref q0_6, .int q0_7, .int q0_8, .ref q0_9, .ref q0_10, .ref q0_11, .ref q0_12, .ref q0_13, .ref q0_14, .ref q0_15, .ref ch, .ref q0_17, .ref q0_18, .int q0_19])) :: X) H := HT.pm (Y := [(dq0_2, .inr (9, [.int dq_0, .int dq_1, .int dq_2, .int dq_3, .int dq_4, .int dq_5, .ref dq_6, .ref dq_7, .ref dq_8, .ref dq_9, .ref dq_10, .null, .int dq_12, .int dq_13])), (tk, .inr (7, [o0, .int y1, .int y2, .int y3, .int y4, .int y5, .int y6, .int y7])), (tp, .inl (cs.1, 900, .inl ft))]) (Y2 := [(tk, .inr (7, [o0, .int y1, .int y2, .int y3, .int y4, .int y5, .int y6, .int y7])), (tp, .inl (cs.1, 900, .inl ft)), (dq0_2, .inr (9, [.int dq_0, .int dq_1, .int dq_2, .int dq_3, .int dq_4, .int dq_5, .ref dq_6, .ref dq_7, .ref dq_8, .ref dq_9, .ref dq_10, .null, .int dq_12, .int dq_13]))]) (X := (a0, .inr (11, [.ref tp, .int 0, .ref q0_2, .ref w, .ref q0_4, .ref q0_5, .ref q0_6, .int q0_7, .int q0_8, .ref q0_9, .ref q0_10, .ref q0_11, .ref q0_12, .ref q0_13, .ref q0_14, .ref q0_15, .ref ch, .ref q0_17, .ref q0_18, .int q0_19])) :: X) (ym := 3) [1, 2, 0] hH rfl rfl (fun k hk => match k, hk with | 0, _ => rfl | 1, _ => rfl | 2, _ => rfl | k + 3, h => absurd h (by show ¬ k + 3 < 3; omega)) (by decide) (by intro a ha; simp only [List.mem_cons] at ha ⊢; rcases ha with h | h | h | h; exact Or.inr (Or.inr (Or.inl h)); exact Or.inl h; exact Or.inr (Or.inl h); exact Or.inr (Or.inr (Or.inr (h))))
      have hO := hO.pm (O' := tk :: tp :: dq0_2 :: a0 :: O) (by intro a ha; simp only [List.mem_cons] at ha ⊢; rcases ha with h | h | h | h; exact Or.inr (Or.inl h); exact Or.inr (Or.inr (Or.inl h)); exact Or.inl h; exact Or.inr (Or.inr (Or.inr (h))))
      refine lv_aload_n hx hb dX11_wall_20 rfl (lv_at hl 0 rfl) ?_
      refine x_getk (ci := 11) (C := RX11) (F := TX11) (N := 20) (v := .ref q0_2) hx hb hts uX11 hown hkb hH 3 rfl rfl 2 (by decide) rfl kw_362 (fun _ h9 => h9) dX11_wall_21 ?_
      refine lv_aload_n hx hb dX11_wall_24 rfl (lv_at hl 0 rfl) ?_
      refine x_getk (ci := 11) (C := RX11) (F := TX11) (N := 20) (v := .ref tp) hx hb hts uX11 hown hkb hH 3 rfl rfl 0 (by decide) rfl kw_360 (fun _ h9 => h9) dX11_wall_25 ?_
      refine lv_iload_n hx hb dX11_wall_28 rfl (lv_at hl 1 rfl) ?_
      refine tk_i hH hS hA (tr_V (n := 2) (As := [.ref tp, .int x1]) hx hb hml hown hts hkb hH (ox_mem hOXf (by intro a ha; simp only [List.map_cons, List.mem_cons] at ha ⊢; rcases ha with h | h | h <;> simp [h]) (by intro a ha; simp only [List.map_cons, List.mem_cons] at ha ⊢; rcases ha with h | h | h | h | h <;> simp [h])) hks hE hS hA (s_RD_read l D cs kf T (a0 :: O) ((a0, .inr (11, [.ref tp, .int 0, .ref q0_2, .ref w, .ref q0_4, .ref q0_5, .ref q0_6, .int q0_7, .int q0_8, .ref q0_9, .ref q0_10, .ref q0_11, .ref q0_12, .ref q0_13, .ref q0_14, .ref q0_15, .ref ch, .ref q0_17, .ref q0_18, .int q0_19])) :: X) q0_2 dq0_2 tp x1 o0 y1 y2 y3 y4 y5 y6 y7 ft dq_0 dq_1 dq_2 dq_3 dq_4 dq_5 dq_6 dq_7 dq_8 dq_9 dq_10 dq_12 dq_13 t tn tk t_q0_2 t_dq0_2 t_tp (by omega) (by omega) (by omega) (by omega) (by omega) (by omega) (by omega) (by omega) (by omega) (by omega) (by omega) (by omega) (by omega) (by omega) (by omega) (by omega) (by omega) (by omega) t_dq_6 t_dq_7 t_dq_8 t_dq_9 t_dq_10 (by omega) (by omega) (by omega) (by omega) (by omega) htb t_tk hU7 (hO.sub (by decide))) kw_433 kw_434 kw_435 kw_2 kw_436 (by decide +kernel) ⟨Nat.le_of_ble_eq_true rfl, Nat.le_of_ble_eq_true rfl⟩ (HT.recv (ci := 4) hkb hH t_q0_2 (hO.no t_q0_2 (by decide)) rfl) rfl rfl hl.1 (Nat.le_of_ble_eq_true rfl) dX11_wall_29 ⟨Nat.le_of_ble_eq_true rfl, Nat.le_of_ble_eq_true rfl⟩) (fun v29 u H locs hz9 hH hS => ?_)
      obtain ⟨n29_0_1, n29_0_2, n29_0_3, n29_0_4, n29_0_5, n29_0_6, n29_0_7, n29_2_0, n29_2_1, n29_2_2, n29_2_3, n29_2_4, n29_2_5, rfl, l_v29, u_v29, x_v290, x_v291, x_v292, x_v293, x_v294⟩ := hz9
      have hH : HT D cs A T (tk :: tp :: dq0_2 :: a0 :: O) ((tk, .inr (7, [.ref tp, .int n29_0_1, .int n29_0_2, .int n29_0_3, .int n29_0_4, .int n29_0_5, .int n29_0_6, .int n29_0_7])) :: (tp, .inl (cs.1, 900, .inl ft)) :: (dq0_2, .inr (9, [.int n29_2_0, .int n29_2_1, .int n29_2_2, .int n29_2_3, .int n29_2_4, .int n29_2_5, .ref dq_6, .ref dq_7, .ref dq_8, .ref dq_9, .ref dq_10, .null, .int dq_12, .int dq_13])) :: (a0, .inr (11, [.ref tp, .int 0, .ref q0_2, .ref w, .ref q0_4, .ref q0_5, .ref q0_6, .int q0_7, .int q0_8, .ref q0_9, .ref q0_10, .ref q0_11, .ref q0_12, .ref q0_13, .ref q0_14, .ref q0_15, .ref ch, .ref q0_17, .ref q0_18, .int q0_19])) :: X) H := hH
      refine W.widen (k := 0) (n := 0) (Nat.le_of_ble_eq_true rfl) (Nat.le_of_ble_eq_true rfl) ?_
      refine lv_if_ne (tgt := 49) hx hb dX11_wall_32 (by decide) (fun c32 => ?_) (fun c32 => ?_)
      · skip
        have tc32 := f_ne (k := 0) (by decide) c32
        replace x_v290 := x_v290.resolve_left tc32
        clear x_v291
        have hH : HT D cs A T (dq0_2 :: tk :: tp :: a0 :: O) ((dq0_2, .inr (9, [.int n29_2_0, .int n29_2_1, .int n29_2_2, .int n29_2_3, .int n29_2_4, .int n29_2_5, .ref dq_6, .ref dq_7, .ref dq_8, .ref dq_9, .ref dq_10, .null, .int dq_12, .int dq_13])) :: (tk, .inr (7, [.ref tp, .int n29_0_1, .int n29_0_2, .int n29_0_3, .int n29_0_4, .int n29_0_5, .int n29_0_6, .int n29_0_7])) :: (tp, .inl (cs.1, 900, .inl ft)) :: (a0, .inr (11, [.ref tp, .int 0, .ref q0_2, .ref w, .ref q0_4, .ref q0_5, .ref q0_6, .int q0_7, .int q0_8, .ref q0_9, .ref q0_10, .ref q0_11, .ref q0_12, .ref q0_13, .ref q0_14, .ref q0_15, .ref ch, .ref q0_17, .ref q0_18, .int q0_19])) :: X) H := HT.pm (Y := [(tk, .inr (7, [.ref tp, .int n29_0_1, .int n29_0_2, .int n29_0_3, .int n29_0_4, .int n29_0_5, .int n29_0_6, .int n29_0_7])), (tp, .inl (cs.1, 900, .inl ft)), (dq0_2, .inr (9, [.int n29_2_0, .int n29_2_1, .int n29_2_2, .int n29_2_3, .int n29_2_4, .int n29_2_5, .ref dq_6, .ref dq_7, .ref dq_8, .ref dq_9, .ref dq_10, .null, .int dq_12, .int dq_13]))]) (Y2 := [(dq0_2, .inr (9, [.int n29_2_0, .int n29_2_1, .int n29_2_2, .int n29_2_3, .int n29_2_4, .int n29_2_5, .ref dq_6, .ref dq_7, .ref dq_8, .ref dq_9, .ref dq_10, .null, .int dq_12, .int dq_13])), (tk, .inr (7, [.ref tp, .int n29_0_1, .int n29_0_2, .int n29_0_3, .int n29_0_4, .int n29_0_5, .int n29_0_6, .int n29_0_7])), (tp, .inl (cs.1, 900, .inl ft))]) (X := (a0, .inr (11, [.ref tp, .int 0, .ref q0_2, .ref w, .ref q0_4, .ref q0_5, .ref q0_6, .int q0_7, .int q0_8, .ref q0_9, .ref q0_10, .ref q0_11, .ref q0_12, .ref q0_13, .ref q0_14, .ref q0_15, .ref ch, .ref q0_17, .ref q0_18, .int q0_19])) :: X) (ym := 3) [2, 0, 1] hH rfl rfl (fun k hk => match k, hk with | 0, _ => rfl | 1, _ => rfl | 2, _ => rfl | k + 3, h => absurd h (by show ¬ k + 3 < 3; omega)) (by decide) (by intro a ha; simp only [List.mem_cons] at ha ⊢; rcases ha with h | h | h | h; exact Or.inr (Or.inl h); exact Or.inr (Or.inr (Or.inl h)); exact Or.inl h; exact Or.inr (Or.inr (Or.inr (h))))
        have hO := hO.pm (O' := dq0_2 :: tk :: tp :: a0 :: O) (by intro a ha; simp only [List.mem_cons] at ha ⊢; rcases ha with h | h | h | h; exact Or.inr (Or.inr (Or.inl h)); exact Or.inl h; exact Or.inr (Or.inl h); exact Or.inr (Or.inr (Or.inr (h))))
        refine lv_aload_n hx hb dX11_wall_49 rfl (lv_at hl 0 rfl) ?_
        refine lv_aload_n hx hb dX11_wall_50 rfl (lv_at hl 0 rfl) ?_
        refine x_getk (ci := 11) (C := RX11) (F := TX11) (N := 20) (v := .ref q0_2) hx hb hts uX11 hown hkb hH 3 rfl rfl 2 (by decide) rfl kw_362 (fun _ h9 => h9) dX11_wall_51 ?_
        refine tk_r hH hS hA (tr_V (n := 0) (As := []) hx hb hml hown hts hkb hH (ox_mem hOXf (by intro a ha; simp only [List.map_cons, List.mem_cons] at ha ⊢; rcases ha with h | h | h <;> simp [h]) (by intro a ha; simp only [List.map_cons, List.mem_cons] at ha ⊢; rcases ha with h | h | h | h | h <;> simp [h])) hks hE hS hA (s_RD_made2 l D cs kf T (tk :: tp :: a0 :: O) ((tk, .inr (7, [.ref tp, .int n29_0_1, .int n29_0_2, .int n29_0_3, .int n29_0_4, .int n29_0_5, .int n29_0_6, .int n29_0_7])) :: (tp, .inl (cs.1, 900, .inl ft)) :: (a0, .inr (11, [.ref tp, .int 0, .ref q0_2, .ref w, .ref q0_4, .ref q0_5, .ref q0_6, .int q0_7, .int q0_8, .ref q0_9, .ref q0_10, .ref q0_11, .ref q0_12, .ref q0_13, .ref q0_14, .ref q0_15, .ref ch, .ref q0_17, .ref q0_18, .int q0_19])) :: X) q0_2 dq0_2 n29_2_0 n29_2_1 n29_2_2 n29_2_3 n29_2_4 n29_2_5 dq_6 dq_7 dq_8 dq_9 dq_10 dq_12 dq_13 t_q0_2 t_dq0_2 (by omega) (by omega) (by omega) (by omega) (by omega) (by omega) (by omega) (by omega) (by omega) (by omega) t_dq_6 t_dq_7 t_dq_8 t_dq_9 t_dq_10 (by omega) (by omega) (by omega) (by omega) (hO.sub (by decide))) kw_711 kw_712 kw_713 kw_2 kw_714 (by decide +kernel) ⟨Nat.le_of_ble_eq_true rfl, Nat.le_of_ble_eq_true rfl⟩ (HT.recv (ci := 4) hkb hH t_q0_2 (hO.no t_q0_2 (by decide)) rfl) rfl rfl hl.1 (Nat.le_of_ble_eq_true rfl) dX11_wall_54 ⟨Nat.le_of_ble_eq_true rfl, Nat.le_of_ble_eq_true rfl⟩) (fun v54 u H locs hz9 hH hS => ?_)
        dsimp only at hz9
        obtain ⟨T54, le_T54, h9_54, g9_54, f90_54, f91_54, f99_54, rfl, ⟨ok_v54, bh_v54, bg_v54⟩⟩ := hz9
        have t_a0 := le_T54.1 _ _ t_a0
        have t_w := isW.le le_T54.1 t_w
        have t_ch := le_T54.1 _ _ t_ch
        have t_tk := le_T54.1 _ _ t_tk
        have t_tp := le_T54.1 _ _ t_tp
        have t_q0_2 := le_T54.1 _ _ t_q0_2
        have t_dq0_2 := le_T54.1 _ _ t_dq0_2
        have t_q0_4 := le_T54.1 _ _ t_q0_4
        have t_q0_5 := le_T54.1 _ _ t_q0_5
        have t_q0_6 := le_T54.1 _ _ t_q0_6
        have t_q0_9 := le_T54.1 _ _ t_q0_9
        have t_q0_10 := le_T54.1 _ _ t_q0_10
        have t_q0_11 := le_T54.1 _ _ t_q0_11
        have t_q0_12 := le_T54.1 _ _ t_q0_12
        have t_q0_13 := le_T54.1 _ _ t_q0_13
        have t_q0_14 := le_T54.1 _ _ t_q0_14
        have t_q0_15 := le_T54.1 _ _ t_q0_15
        have t_q0_17 := le_T54.1 _ _ t_q0_17
        have t_q0_18 := le_T54.1 _ _ t_q0_18
        have t_dq_6 := le_T54.1 _ _ t_dq_6
        have t_dq_7 := le_T54.1 _ _ t_dq_7
        have t_dq_8 := le_T54.1 _ _ t_dq_8
        have t_dq_9 := le_T54.1 _ _ t_dq_9
        have t_dq_10 := le_T54.1 _ _ t_dq_10
        have hO := okO.le le_T54.1 hO
        have hO0 := okO.le le_T54.1 hO0
        have hH : HT D cs A T54 (dq0_2 :: tk :: tp :: a0 :: O) ((v54, .inr (9, f90_54 :: f91_54 :: (.int n29_2_2) :: f99_54)) :: (dq0_2, .inr (9, [.int n29_2_0, .int n29_2_1, .int n29_2_2, .int n29_2_3, .int n29_2_4, .int n29_2_5, .ref dq_6, .ref dq_7, .ref dq_8, .ref dq_9, .ref dq_10, .null, .int dq_12, .int dq_13])) :: (tk, .inr (7, [.ref tp, .int n29_0_1, .int n29_0_2, .int n29_0_3, .int n29_0_4, .int n29_0_5, .int n29_0_6, .int n29_0_7])) :: (tp, .inl (cs.1, 900, .inl ft)) :: (a0, .inr (11, [.ref tp, .int 0, .ref q0_2, .ref w, .ref q0_4, .ref q0_5, .ref q0_6, .int q0_7, .int q0_8, .ref q0_9, .ref q0_10, .ref q0_11, .ref q0_12, .ref q0_13, .ref q0_14, .ref q0_15, .ref ch, .ref q0_17, .ref q0_18, .int q0_19])) :: X) H := hH
        refine W.widen (k := 10) (n := 1001) (Nat.le_of_ble_eq_true rfl) (Nat.le_of_ble_eq_true rfl) ?_
        refine x_putk (ci := 11) (v := .ref v54) (ty := tyX11 3) (C := RX11) (F := TX11) (N := 20) hx hb hts uX11 tyX11 tyX11_ok nmX11 hown hkb hH hS 4 rfl rfl 3 (by decide) kw_363 (fun _ h9 => h9) rfl (tyX11_ok 3 (by decide)) rfl rfl (Nat.le_of_ble_eq_true rfl) dX11_wall_57 (fun H locs hH hS => ?_)
        have hH : HT D cs A T54 (dq0_2 :: tk :: tp :: a0 :: O) ((v54, .inr (9, f90_54 :: f91_54 :: (.int n29_2_2) :: f99_54)) :: (dq0_2, .inr (9, [.int n29_2_0, .int n29_2_1, .int n29_2_2, .int n29_2_3, .int n29_2_4, .int n29_2_5, .ref dq_6, .ref dq_7, .ref dq_8, .ref dq_9, .ref dq_10, .null, .int dq_12, .int dq_13])) :: (tk, .inr (7, [.ref tp, .int n29_0_1, .int n29_0_2, .int n29_0_3, .int n29_0_4, .int n29_0_5, .int n29_0_6, .int n29_0_7])) :: (tp, .inl (cs.1, 900, .inl ft)) :: (a0, .inr (11, [.ref tp, .int 0, .ref q0_2, .ref v54, .ref q0_4, .ref q0_5, .ref q0_6, .int q0_7, .int q0_8, .ref q0_9, .ref q0_10, .ref q0_11, .ref q0_12, .ref q0_13, .ref q0_14, .ref q0_15, .ref ch, .ref q0_17, .ref q0_18, .int q0_19])) :: X) H := hH
        refine lv_aload_n hx hb dX11_wall_60 rfl (lv_at hl 0 rfl) ?_
        refine x_getk (ci := 11) (C := RX11) (F := TX11) (N := 20) (v := .ref q0_4) hx hb hts uX11 hown hkb hH 4 rfl rfl 4 (by decide) rfl kw_364 (fun _ h9 => h9) dX11_wall_61 ?_
        refine lv_aload_n hx hb dX11_wall_64 rfl (lv_at hl 0 rfl) ?_
        refine x_getk (ci := 11) (C := RX11) (F := TX11) (N := 20) (v := .ref q0_2) hx hb hts uX11 hown hkb hH 4 rfl rfl 2 (by decide) rfl kw_362 (fun _ h9 => h9) dX11_wall_65 ?_
        refine t_get (ci := 4) (lst := ft4 dq0_2 0) (C := RX4) (F := TX4) (N := 5) hx hb hts uX4 hown hkb hH t_q0_2 (hO.no t_q0_2 (by decide)) (fun _ h9 => h9) rfl rfl 4 (by decide) rfl kw_217 (fun _ h9 => h9) dX11_wall_68 (fun v9 h9 => ?_)
        obtain ⟨v68, rfl, t_v68⟩ := h9
        refine tk_v hH hS hA (tr_V (n := 1) (As := [.ref v68]) hx hb hml hown hts hkb hH (ox_mem hOXf (by intro a ha; simp only [List.map_cons, List.mem_cons] at ha ⊢; rcases ha with h | h | h <;> simp [h]) (by intro a ha; simp only [List.map_cons, List.mem_cons] at ha ⊢; rcases ha with h | h | h | h | h <;> simp [h])) hks hE hS hA (s_State_take l D cs kf T54 (dq0_2 :: tk :: tp :: a0 :: O) ((v54, .inr (9, f90_54 :: f91_54 :: (.int n29_2_2) :: f99_54)) :: (dq0_2, .inr (9, [.int n29_2_0, .int n29_2_1, .int n29_2_2, .int n29_2_3, .int n29_2_4, .int n29_2_5, .ref dq_6, .ref dq_7, .ref dq_8, .ref dq_9, .ref dq_10, .null, .int dq_12, .int dq_13])) :: (tk, .inr (7, [.ref tp, .int n29_0_1, .int n29_0_2, .int n29_0_3, .int n29_0_4, .int n29_0_5, .int n29_0_6, .int n29_0_7])) :: (tp, .inl (cs.1, 900, .inl ft)) :: (a0, .inr (11, [.ref tp, .int 0, .ref q0_2, .ref v54, .ref q0_4, .ref q0_5, .ref q0_6, .int q0_7, .int q0_8, .ref q0_9, .ref q0_10, .ref q0_11, .ref q0_12, .ref q0_13, .ref q0_14, .ref q0_15, .ref ch, .ref q0_17, .ref q0_18, .int q0_19])) :: X) q0_4 v68 t_q0_4 t_v68 (hO.sub (by decide))) kw_757 kw_758 kw_759 kw_7 kw_760 (by decide +kernel) ⟨Nat.le_of_ble_eq_true rfl, Nat.le_of_ble_eq_true rfl⟩ (HT.recv (ci := 6) hkb hH t_q0_4 (hO.no t_q0_4 (by decide)) rfl) rfl rfl hl.1 (Nat.le_of_ble_eq_true rfl) dX11_wall_71 ⟨Nat.le_of_ble_eq_true rfl, Nat.le_of_ble_eq_true rfl⟩) (fun u H locs hz9 hH hS => ?_)
        have hz9 : u = (T54, dq0_2 :: tk :: tp :: a0 :: O, (v54, .inr (9, f90_54 :: f91_54 :: (.int n29_2_2) :: f99_54)) :: (dq0_2, .inr (9, [.int n29_2_0, .int n29_2_1, .int n29_2_2, .int n29_2_3, .int n29_2_4, .int n29_2_5, .ref dq_6, .ref dq_7, .ref dq_8, .ref dq_9, .ref dq_10, .null, .int dq_12, .int dq_13])) :: (tk, .inr (7, [.ref tp, .int n29_0_1, .int n29_0_2, .int n29_0_3, .int n29_0_4, .int n29_0_5, .int n29_0_6, .int n29_0_7])) :: (tp, .inl (cs.1, 900, .inl ft)) :: (a0, .inr (11, [.ref tp, .int 0, .ref q0_2, .ref v54, .ref q0_4, .ref q0_5, .ref q0_6, .int q0_7, .int q0_8, .ref q0_9, .ref q0_10, .ref q0_11, .ref q0_12, .ref q0_13, .ref q0_14, .ref q0_15, .ref ch, .ref q0_17, .ref q0_18, .int q0_19])) :: X) := hz9
        subst hz9
        have hH : HT D cs A T54 (dq0_2 :: tk :: tp :: a0 :: O) ((v54, .inr (9, f90_54 :: f91_54 :: (.int n29_2_2) :: f99_54)) :: (dq0_2, .inr (9, [.int n29_2_0, .int n29_2_1, .int n29_2_2, .int n29_2_3, .int n29_2_4, .int n29_2_5, .ref dq_6, .ref dq_7, .ref dq_8, .ref dq_9, .ref dq_10, .null, .int dq_12, .int dq_13])) :: (tk, .inr (7, [.ref tp, .int n29_0_1, .int n29_0_2, .int n29_0_3, .int n29_0_4, .int n29_0_5, .int n29_0_6, .int n29_0_7])) :: (tp, .inl (cs.1, 900, .inl ft)) :: (a0, .inr (11, [.ref tp, .int 0, .ref q0_2, .ref v54, .ref q0_4, .ref q0_5, .ref q0_6, .int q0_7, .int q0_8, .ref q0_9, .ref q0_10, .ref q0_11, .ref q0_12, .ref q0_13, .ref q0_14, .ref q0_15, .ref ch, .ref q0_17, .ref q0_18, .int q0_19])) :: X) H := hH
        refine W.widen (k := 10) (n := 1001) (Nat.le_of_ble_eq_true rfl) (Nat.le_of_ble_eq_true rfl) ?_
        refine lv_aload_n hx hb dX11_wall_74 rfl (lv_at hl 0 rfl) ?_
        refine lv_iconst (v := 0) hx hb dX11_wall_75 (by decide) ?_
        refine x_putk (ci := 11) (v := .int 0) (ty := tyX11 7) (C := RX11) (F := TX11) (N := 20) hx hb hts uX11 tyX11 tyX11_ok nmX11 hown hkb hH hS 4 rfl rfl 7 (by decide) kw_367 (fun _ h9 => h9) rfl (tyX11_ok 7 (by decide)) rfl rfl (Nat.le_of_ble_eq_true rfl) dX11_wall_76 (fun H locs hH hS => ?_)
        have hH : HT D cs A T54 (dq0_2 :: tk :: tp :: a0 :: O) ((v54, .inr (9, f90_54 :: f91_54 :: (.int n29_2_2) :: f99_54)) :: (dq0_2, .inr (9, [.int n29_2_0, .int n29_2_1, .int n29_2_2, .int n29_2_3, .int n29_2_4, .int n29_2_5, .ref dq_6, .ref dq_7, .ref dq_8, .ref dq_9, .ref dq_10, .null, .int dq_12, .int dq_13])) :: (tk, .inr (7, [.ref tp, .int n29_0_1, .int n29_0_2, .int n29_0_3, .int n29_0_4, .int n29_0_5, .int n29_0_6, .int n29_0_7])) :: (tp, .inl (cs.1, 900, .inl ft)) :: (a0, .inr (11, [.ref tp, .int 0, .ref q0_2, .ref v54, .ref q0_4, .ref q0_5, .ref q0_6, .int 0, .int q0_8, .ref q0_9, .ref q0_10, .ref q0_11, .ref q0_12, .ref q0_13, .ref q0_14, .ref q0_15, .ref ch, .ref q0_17, .ref q0_18, .int q0_19])) :: X) H := hH
        refine lv_aload_n hx hb dX11_wall_79 rfl (lv_at hl 0 rfl) ?_
        refine x_getk (ci := 11) (C := RX11) (F := TX11) (N := 20) (v := .ref v54) hx hb hts uX11 hown hkb hH 4 rfl rfl 3 (by decide) rfl kw_363 (fun _ h9 => h9) dX11_wall_80 ?_
        refine x_getk (ci := 9) (C := RX9) (F := TX9) (N := 14) (v := .int n29_2_2) hx hb hts uX9 hown hkb hH 0 rfl rfl 2 (by decide) rfl kw_115 (fun _ h9 => h9) dX11_wall_83 ?_
        have hno := HT.none hH (ox_mem hOXf (by intro a ha; simp only [List.map_cons, List.mem_cons] at ha ⊢; rcases ha with h | h | h <;> simp [h]) (by intro a ha; simp only [List.map_cons, List.mem_cons] at ha ⊢; rcases ha with h | h | h | h | h <;> simp [h]))
        have hwz : isW (Tadd T54 v54 (19, h9_54, g9_54)) v54 h9_54 g9_54 := ⟨Tadd_r, bh_v54, bg_v54⟩
        obtain ⟨Ty, le_Ty, t_v54, hH⟩ : ∃ Ty, Tgr T54 Ty ∧ isW Ty v54 h9_54 g9_54 ∧ HT D cs A Ty (dq0_2 :: tk :: tp :: a0 :: O) ((dq0_2, .inr (9, [.int n29_2_0, .int n29_2_1, .int n29_2_2, .int n29_2_3, .int n29_2_4, .int n29_2_5, .ref dq_6, .ref dq_7, .ref dq_8, .ref dq_9, .ref dq_10, .null, .int dq_12, .int dq_13])) :: (tk, .inr (7, [.ref tp, .int n29_0_1, .int n29_0_2, .int n29_0_3, .int n29_0_4, .int n29_0_5, .int n29_0_6, .int n29_0_7])) :: (tp, .inl (cs.1, 900, .inl ft)) :: (a0, .inr (11, [.ref tp, .int 0, .ref q0_2, .ref v54, .ref q0_4, .ref q0_5, .ref q0_6, .int 0, .int q0_8, .ref q0_9, .ref q0_10, .ref q0_11, .ref q0_12, .ref q0_13, .ref q0_14, .ref q0_15, .ref ch, .ref q0_17, .ref q0_18, .int q0_19])) :: X) H := ⟨_, Tgr_add hno (Or.inr (Or.inr rfl)), hwz, HT.seal (ci := 9) (p0 := h9_54) (q0 := g9_54) hH hno ((ob9w hwz _).mpr (okL_le (Tadd_le hno) (ft9w_m _ _) ok_v54))⟩
        have t_a0 := le_Ty.1 _ _ t_a0
        have t_w := isW.le le_Ty.1 t_w
        have t_ch := le_Ty.1 _ _ t_ch
        have t_tk := le_Ty.1 _ _ t_tk
        have t_tp := le_Ty.1 _ _ t_tp
        have t_q0_2 := le_Ty.1 _ _ t_q0_2
        have t_dq0_2 := le_Ty.1 _ _ t_dq0_2
        have t_q0_4 := le_Ty.1 _ _ t_q0_4
        have t_q0_5 := le_Ty.1 _ _ t_q0_5
        have t_q0_6 := le_Ty.1 _ _ t_q0_6
        have t_q0_9 := le_Ty.1 _ _ t_q0_9
        have t_q0_10 := le_Ty.1 _ _ t_q0_10
        have t_q0_11 := le_Ty.1 _ _ t_q0_11
        have t_q0_12 := le_Ty.1 _ _ t_q0_12
        have t_q0_13 := le_Ty.1 _ _ t_q0_13
        have t_q0_14 := le_Ty.1 _ _ t_q0_14
        have t_q0_15 := le_Ty.1 _ _ t_q0_15
        have t_q0_17 := le_Ty.1 _ _ t_q0_17
        have t_q0_18 := le_Ty.1 _ _ t_q0_18
        have t_dq_6 := le_Ty.1 _ _ t_dq_6
        have t_dq_7 := le_Ty.1 _ _ t_dq_7
        have t_dq_8 := le_Ty.1 _ _ t_dq_8
        have t_dq_9 := le_Ty.1 _ _ t_dq_9
        have t_dq_10 := le_Ty.1 _ _ t_dq_10
        have t_v68 := le_Ty.1 _ _ t_v68
        have hO := okO.le le_Ty.1 hO
        have hO0 := okO.le le_Ty.1 hO0
        have hH : HT D cs A Ty (tk :: tp :: a0 :: O) ((tk, .inr (7, [.ref tp, .int n29_0_1, .int n29_0_2, .int n29_0_3, .int n29_0_4, .int n29_0_5, .int n29_0_6, .int n29_0_7])) :: (tp, .inl (cs.1, 900, .inl ft)) :: (a0, .inr (11, [.ref tp, .int 0, .ref q0_2, .ref v54, .ref q0_4, .ref q0_5, .ref q0_6, .int 0, .int q0_8, .ref q0_9, .ref q0_10, .ref q0_11, .ref q0_12, .ref q0_13, .ref q0_14, .ref q0_15, .ref ch, .ref q0_17, .ref q0_18, .int q0_19])) :: X) H := HT.lay (ci := 9) hH t_dq0_2 ((ob9d _).mpr (okL_c (⟨_, rfl, by omega, by omega⟩) (okL_c (⟨_, rfl, by omega, by omega⟩) (okL_c (⟨_, rfl⟩) (okL_c (⟨_, rfl, by omega, by omega⟩) (okL_c (⟨_, rfl, by omega, by omega⟩) (okL_c (⟨_, rfl, by omega, by omega⟩) (okL_c (⟨_, rfl, t_dq_6⟩) (okL_c (⟨_, rfl, t_dq_7⟩) (okL_c (⟨_, rfl, t_dq_8⟩) (okL_c (⟨_, rfl, t_dq_9⟩) (okL_c (⟨_, rfl, t_dq_10⟩) (okL_c (rfl) (okL_c (⟨_, rfl, by omega, by omega⟩) (okL_c (⟨_, rfl, by omega, by omega⟩) (okL_n))))))))))))))))
        have hH : HT D cs A Ty (a0 :: tk :: tp :: O) ((a0, .inr (11, [.ref tp, .int 0, .ref q0_2, .ref v54, .ref q0_4, .ref q0_5, .ref q0_6, .int 0, .int q0_8, .ref q0_9, .ref q0_10, .ref q0_11, .ref q0_12, .ref q0_13, .ref q0_14, .ref q0_15, .ref ch, .ref q0_17, .ref q0_18, .int q0_19])) :: (tk, .inr (7, [.ref tp, .int n29_0_1, .int n29_0_2, .int n29_0_3, .int n29_0_4, .int n29_0_5, .int n29_0_6, .int n29_0_7])) :: (tp, .inl (cs.1, 900, .inl ft)) :: X) H := HT.pm (Y := [(tk, .inr (7, [.ref tp, .int n29_0_1, .int n29_0_2, .int n29_0_3, .int n29_0_4, .int n29_0_5, .int n29_0_6, .int n29_0_7])), (tp, .inl (cs.1, 900, .inl ft)), (a0, .inr (11, [.ref tp, .int 0, .ref q0_2, .ref v54, .ref q0_4, .ref q0_5, .ref q0_6, .int 0, .int q0_8, .ref q0_9, .ref q0_10, .ref q0_11, .ref q0_12, .ref q0_13, .ref q0_14, .ref q0_15, .ref ch, .ref q0_17, .ref q0_18, .int q0_19]))]) (Y2 := [(a0, .inr (11, [.ref tp, .int 0, .ref q0_2, .ref v54, .ref q0_4, .ref q0_5, .ref q0_6, .int 0, .int q0_8, .ref q0_9, .ref q0_10, .ref q0_11, .ref q0_12, .ref q0_13, .ref q0_14, .ref q0_15, .ref ch, .ref q0_17, .ref q0_18, .int q0_19])), (tk, .inr (7, [.ref tp, .int n29_0_1, .int n29_0_2, .int n29_0_3, .int n29_0_4, .int n29_0_5, .int n29_0_6, .int n29_0_7])), (tp, .inl (cs.1, 900, .inl ft))]) (X := X) (ym := 3) [2, 0, 1] hH rfl rfl (fun k hk => match k, hk with | 0, _ => rfl | 1, _ => rfl | 2, _ => rfl | k + 3, h => absurd h (by show ¬ k + 3 < 3; omega)) (by decide) (by intro a ha; simp only [List.mem_cons] at ha ⊢; rcases ha with h | h | h | h; exact Or.inr (Or.inl h); exact Or.inr (Or.inr (Or.inl h)); exact Or.inl h; exact Or.inr (Or.inr (Or.inr (h))))
        obtain ⟨Tg, rc_Tg, tg_ch, hH⟩ : ∃ Tg, Tgc Ty Tg ∧ Tg ch = some (10, 0, 0) ∧ HT D cs A Tg (a0 :: tk :: tp :: O) ((a0, .inr (11, [.ref tp, .int 0, .ref q0_2, .ref v54, .ref q0_4, .ref q0_5, .ref q0_6, .int 0, .int q0_8, .ref q0_9, .ref q0_10, .ref q0_11, .ref q0_12, .ref q0_13, .ref q0_14, .ref q0_15, .ref ch, .ref q0_17, .ref q0_18, .int q0_19])) :: (tk, .inr (7, [.ref tp, .int n29_0_1, .int n29_0_2, .int n29_0_3, .int n29_0_4, .int n29_0_5, .int n29_0_6, .int n29_0_7])) :: (tp, .inl (cs.1, 900, .inl ft)) :: X) H := ⟨_, Tgc.add t_ch, Tadd_r, HT.gh (g2 := 0) hH t_ch (fun b tg hb hk => (((Tgr.tr le_T54 le_Ty)).2 b tg hb).elim (fun q9 => hU1 b tg q9 hk) (fun q9 => by omega)) (by simp [hcO]) (by simp)⟩
        have t_tp := rc_Tg.1 _ _ t_tp (by show 0 ≠ 10; decide)
        have t_q0_2 := rc_Tg.1 _ _ t_q0_2 (by show 14 ≠ 10; decide)
        have t_dq0_2 := rc_Tg.1 _ _ t_dq0_2 (by show 19 ≠ 10; decide)
        have t_v54 := isW.gc rc_Tg.1 t_v54
        have t_q0_4 := rc_Tg.1 _ _ t_q0_4 (by show 16 ≠ 10; decide)
        have t_q0_5 := rc_Tg.1 _ _ t_q0_5 (by show 16 ≠ 10; decide)
        have t_q0_6 := rc_Tg.1 _ _ t_q0_6 (by show 4 ≠ 10; decide)
        have t_q0_9 := rc_Tg.1 _ _ t_q0_9 (by show 5 ≠ 10; decide)
        have t_q0_10 := rc_Tg.1 _ _ t_q0_10 (by show 4 ≠ 10; decide)
        have t_q0_11 := rc_Tg.1 _ _ t_q0_11 (by show 6 ≠ 10; decide)
        have t_q0_12 := rc_Tg.1 _ _ t_q0_12 (by show 7 ≠ 10; decide)
        have t_q0_13 := rc_Tg.1 _ _ t_q0_13 (by show 15 ≠ 10; decide)
        have t_q0_14 := rc_Tg.1 _ _ t_q0_14 (by show 20 ≠ 10; decide)
        have t_q0_15 := rc_Tg.1 _ _ t_q0_15 (by show 11 ≠ 10; decide)
        have t_q0_17 := rc_Tg.1 _ _ t_q0_17 (by show 1 ≠ 10; decide)
        have t_q0_18 := rc_Tg.1 _ _ t_q0_18 (by show 1 ≠ 10; decide)
        have t_w := isW.gc rc_Tg.1 t_w
        have t_a0 := rc_Tg.1 _ _ t_a0 (by show 21 ≠ 10; decide)
        have t_ch := tg_ch
        obtain ⟨Tz, re_Tz, tz_a0, tz_w, hH⟩ : ∃ Tz, Tre Tg Tz a0 ∧ Tz a0 = some (21, v54, ch) ∧ isW Tz v54 h9_54 g9_54 ∧ HT D cs A Tz (tk :: tp :: O) ((tk, .inr (7, [.ref tp, .int n29_0_1, .int n29_0_2, .int n29_0_3, .int n29_0_4, .int n29_0_5, .int n29_0_6, .int n29_0_7])) :: (tp, .inl (cs.1, 900, .inl ft)) :: X) H := ⟨Tadd Tg a0 (21, v54, ch), Tre.add t_a0, Tadd_r, isW.re t_a0 t_v54, HT.re (w2 := v54) hH t_a0 (okL_c (⟨_, rfl, t_tp⟩) (okL_c (⟨_, rfl, by decide, by decide, tl_of t_ch (by have k9 : (0 : Int32).toInt = 0 := (by decide); omega)⟩) (okL_c (⟨_, _, rfl, t_q0_2, t_dq0_2⟩) (okL_c (rfl) (okL_c (⟨_, rfl, t_q0_4⟩) (okL_c (⟨_, rfl, t_q0_5⟩) (okL_c (⟨_, rfl, t_q0_6⟩) (okL_c (⟨_, rfl, by decide, by decide⟩) (okL_c (⟨_, rfl, by omega, by omega⟩) (okL_c (⟨_, rfl, t_q0_9⟩) (okL_c (⟨_, rfl, t_q0_10⟩) (okL_c (⟨_, rfl, t_q0_11⟩) (okL_c (⟨_, rfl, t_q0_12⟩) (okL_c (⟨_, rfl, t_q0_13⟩) (okL_c (⟨_, rfl, t_q0_14⟩) (okL_c (⟨_, rfl, t_q0_15⟩) (okL_c (rfl) (okL_c (⟨_, rfl, t_q0_17⟩) (okL_c (⟨_, rfl, t_q0_18⟩) (okL_c (⟨_, rfl⟩) (okL_n)))))))))))))))))))))⟩
        exact te_i hx hb hr hlocks hH hS (⟨Tz, v54, h9_54, g9_54, 0, (.ref tp), n29_0_1, n29_0_2, n29_0_3, n29_0_4, n29_0_5, n29_0_6, n29_0_7, rfl, Twl.of (Tgr.tr le_T54 le_Ty) rc_Tg re_Tz, tz_a0, tz_w, re_Tz.1 _ _ t_ch (by show 10 ≠ 21; decide), (by unfold WLF; omega), (Or.inr ⟨by omega, by omega, by rw [show x1.toInt.toNat = tn by omega]; first | exact Or.inr x_v291 | exact Or.inl ⟨x_v290.1, x_v290.2.1, _, x_v290.2.2.1⟩⟩), by omega, (Or.inr ⟨by omega, by omega, Or.inl ⟨_, (by rw [show x1.toInt.toNat = tn by omega]; exact x_v290.2.2.1), x_v290.2.2.2, rfl⟩⟩)⟩) dX11_wall_86
      · skip
        have tc32 := f_eq (k := 0) (by decide) c32
        clear x_v290
        replace x_v291 := x_v291.resolve_left (fun q9 => q9 tc32)
        have hH : HT D cs A T (dq0_2 :: tk :: tp :: a0 :: O) ((dq0_2, .inr (9, [.int n29_2_0, .int n29_2_1, .int n29_2_2, .int n29_2_3, .int n29_2_4, .int n29_2_5, .ref dq_6, .ref dq_7, .ref dq_8, .ref dq_9, .ref dq_10, .null, .int dq_12, .int dq_13])) :: (tk, .inr (7, [.ref tp, .int n29_0_1, .int n29_0_2, .int n29_0_3, .int n29_0_4, .int n29_0_5, .int n29_0_6, .int n29_0_7])) :: (tp, .inl (cs.1, 900, .inl ft)) :: (a0, .inr (11, [.ref tp, .int 0, .ref q0_2, .ref w, .ref q0_4, .ref q0_5, .ref q0_6, .int q0_7, .int q0_8, .ref q0_9, .ref q0_10, .ref q0_11, .ref q0_12, .ref q0_13, .ref q0_14, .ref q0_15, .ref ch, .ref q0_17, .ref q0_18, .int q0_19])) :: X) H := HT.pm (Y := [(tk, .inr (7, [.ref tp, .int n29_0_1, .int n29_0_2, .int n29_0_3, .int n29_0_4, .int n29_0_5, .int n29_0_6, .int n29_0_7])), (tp, .inl (cs.1, 900, .inl ft)), (dq0_2, .inr (9, [.int n29_2_0, .int n29_2_1, .int n29_2_2, .int n29_2_3, .int n29_2_4, .int n29_2_5, .ref dq_6, .ref dq_7, .ref dq_8, .ref dq_9, .ref dq_10, .null, .int dq_12, .int dq_13]))]) (Y2 := [(dq0_2, .inr (9, [.int n29_2_0, .int n29_2_1, .int n29_2_2, .int n29_2_3, .int n29_2_4, .int n29_2_5, .ref dq_6, .ref dq_7, .ref dq_8, .ref dq_9, .ref dq_10, .null, .int dq_12, .int dq_13])), (tk, .inr (7, [.ref tp, .int n29_0_1, .int n29_0_2, .int n29_0_3, .int n29_0_4, .int n29_0_5, .int n29_0_6, .int n29_0_7])), (tp, .inl (cs.1, 900, .inl ft))]) (X := (a0, .inr (11, [.ref tp, .int 0, .ref q0_2, .ref w, .ref q0_4, .ref q0_5, .ref q0_6, .int q0_7, .int q0_8, .ref q0_9, .ref q0_10, .ref q0_11, .ref q0_12, .ref q0_13, .ref q0_14, .ref q0_15, .ref ch, .ref q0_17, .ref q0_18, .int q0_19])) :: X) (ym := 3) [2, 0, 1] hH rfl rfl (fun k hk => match k, hk with | 0, _ => rfl | 1, _ => rfl | 2, _ => rfl | k + 3, h => absurd h (by show ¬ k + 3 < 3; omega)) (by decide) (by intro a ha; simp only [List.mem_cons] at ha ⊢; rcases ha with h | h | h | h; exact Or.inr (Or.inl h); exact Or.inr (Or.inr (Or.inl h)); exact Or.inl h; exact Or.inr (Or.inr (Or.inr (h))))
        have hH : HT D cs A T (tk :: tp :: a0 :: O) ((tk, .inr (7, [.ref tp, .int n29_0_1, .int n29_0_2, .int n29_0_3, .int n29_0_4, .int n29_0_5, .int n29_0_6, .int n29_0_7])) :: (tp, .inl (cs.1, 900, .inl ft)) :: (a0, .inr (11, [.ref tp, .int 0, .ref q0_2, .ref w, .ref q0_4, .ref q0_5, .ref q0_6, .int q0_7, .int q0_8, .ref q0_9, .ref q0_10, .ref q0_11, .ref q0_12, .ref q0_13, .ref q0_14, .ref q0_15, .ref ch, .ref q0_17, .ref q0_18, .int q0_19])) :: X) H := HT.lay (ci := 9) hH t_dq0_2 ((ob9d _).mpr (okL_c (⟨_, rfl, by omega, by omega⟩) (okL_c (⟨_, rfl, by omega, by omega⟩) (okL_c (⟨_, rfl⟩) (okL_c (⟨_, rfl, by omega, by omega⟩) (okL_c (⟨_, rfl, by omega, by omega⟩) (okL_c (⟨_, rfl, by omega, by omega⟩) (okL_c (⟨_, rfl, t_dq_6⟩) (okL_c (⟨_, rfl, t_dq_7⟩) (okL_c (⟨_, rfl, t_dq_8⟩) (okL_c (⟨_, rfl, t_dq_9⟩) (okL_c (⟨_, rfl, t_dq_10⟩) (okL_c (rfl) (okL_c (⟨_, rfl, by omega, by omega⟩) (okL_c (⟨_, rfl, by omega, by omega⟩) (okL_n))))))))))))))))
        have hO := hO1
        have hwb9 := x_v291.b
        refine lv_bipush (v := (-30)) hx hb dX11_wall_35 (by decide) ?_
        refine lv_aload_n hx hb dX11_wall_37 rfl (lv_at hl 0 rfl) ?_
        refine x_getk (ci := 11) (C := RX11) (F := TX11) (N := 20) (v := .ref q0_2) hx hb hts uX11 hown hkb hH 2 rfl rfl 2 (by decide) rfl kw_362 (fun _ h9 => h9) dX11_wall_38 ?_
        refine t_get (ci := 4) (lst := ft4 dq0_2 0) (C := RX4) (F := TX4) (N := 5) hx hb hts uX4 hown hkb hH t_q0_2 (hO.no t_q0_2 (by decide)) (fun _ h9 => h9) rfl rfl 0 (by decide) rfl kw_212 (fun _ h9 => h9) dX11_wall_41 (fun v9 h9 => ?_)
        obtain ⟨v41, rfl, t_v41⟩ := h9
        have e9 := (hU7 _ _ t_v41).symm
        subst e9
        refine x_getk (ci := 7) (C := RX7) (F := TX7) (N := 8) (v := .int n29_0_6) hx hb hts uX7 hown hkb hH 0 rfl rfl 6 (by decide) rfl kw_55 (fun _ h9 => h9) dX11_wall_44 ?_
        refine lv_isub hx hb dX11_wall_47 ?_
        refine lv_topi (fun v47 ev47 => ?_)
        have tv47 : v47.toInt = (-30) - n29_0_6.toInt := by rw [ev47]; exact sub_i (by decide : ((-30) : Int32).toInt = -30) rfl (by omega) (by omega)
        have hH : HT D cs A T (a0 :: tk :: tp :: O) ((a0, .inr (11, [.ref tp, .int 0, .ref q0_2, .ref w, .ref q0_4, .ref q0_5, .ref q0_6, .int q0_7, .int q0_8, .ref q0_9, .ref q0_10, .ref q0_11, .ref q0_12, .ref q0_13, .ref q0_14, .ref q0_15, .ref ch, .ref q0_17, .ref q0_18, .int q0_19])) :: (tk, .inr (7, [.ref tp, .int n29_0_1, .int n29_0_2, .int n29_0_3, .int n29_0_4, .int n29_0_5, .int n29_0_6, .int n29_0_7])) :: (tp, .inl (cs.1, 900, .inl ft)) :: X) H := HT.pm (Y := [(tk, .inr (7, [.ref tp, .int n29_0_1, .int n29_0_2, .int n29_0_3, .int n29_0_4, .int n29_0_5, .int n29_0_6, .int n29_0_7])), (tp, .inl (cs.1, 900, .inl ft)), (a0, .inr (11, [.ref tp, .int 0, .ref q0_2, .ref w, .ref q0_4, .ref q0_5, .ref q0_6, .int q0_7, .int q0_8, .ref q0_9, .ref q0_10, .ref q0_11, .ref q0_12, .ref q0_13, .ref q0_14, .ref q0_15, .ref ch, .ref q0_17, .ref q0_18, .int q0_19]))]) (Y2 := [(a0, .inr (11, [.ref tp, .int 0, .ref q0_2, .ref w, .ref q0_4, .ref q0_5, .ref q0_6, .int q0_7, .int q0_8, .ref q0_9, .ref q0_10, .ref q0_11, .ref q0_12, .ref q0_13, .ref q0_14, .ref q0_15, .ref ch, .ref q0_17, .ref q0_18, .int q0_19])), (tk, .inr (7, [.ref tp, .int n29_0_1, .int n29_0_2, .int n29_0_3, .int n29_0_4, .int n29_0_5, .int n29_0_6, .int n29_0_7])), (tp, .inl (cs.1, 900, .inl ft))]) (X := X) (ym := 3) [2, 0, 1] hH rfl rfl (fun k hk => match k, hk with | 0, _ => rfl | 1, _ => rfl | 2, _ => rfl | k + 3, h => absurd h (by show ¬ k + 3 < 3; omega)) (by decide) (by intro a ha; simp only [List.mem_cons] at ha ⊢; rcases ha with h | h | h | h; exact Or.inr (Or.inl h); exact Or.inr (Or.inr (Or.inl h)); exact Or.inl h; exact Or.inr (Or.inr (Or.inr (h))))
        obtain ⟨Tg, rc_Tg, tg_ch, hH⟩ : ∃ Tg, Tgc T Tg ∧ Tg ch = some (10, 0, 0) ∧ HT D cs A Tg (a0 :: tk :: tp :: O) ((a0, .inr (11, [.ref tp, .int 0, .ref q0_2, .ref w, .ref q0_4, .ref q0_5, .ref q0_6, .int q0_7, .int q0_8, .ref q0_9, .ref q0_10, .ref q0_11, .ref q0_12, .ref q0_13, .ref q0_14, .ref q0_15, .ref ch, .ref q0_17, .ref q0_18, .int q0_19])) :: (tk, .inr (7, [.ref tp, .int n29_0_1, .int n29_0_2, .int n29_0_3, .int n29_0_4, .int n29_0_5, .int n29_0_6, .int n29_0_7])) :: (tp, .inl (cs.1, 900, .inl ft)) :: X) H := ⟨_, Tgc.add t_ch, Tadd_r, HT.gh (g2 := 0) hH t_ch hU1 (by simp [hcO]) (by simp)⟩
        have t_tp := rc_Tg.1 _ _ t_tp (by show 0 ≠ 10; decide)
        have t_q0_2 := rc_Tg.1 _ _ t_q0_2 (by show 14 ≠ 10; decide)
        have t_dq0_2 := rc_Tg.1 _ _ t_dq0_2 (by show 19 ≠ 10; decide)
        have t_w := isW.gc rc_Tg.1 t_w
        have t_q0_4 := rc_Tg.1 _ _ t_q0_4 (by show 16 ≠ 10; decide)
        have t_q0_5 := rc_Tg.1 _ _ t_q0_5 (by show 16 ≠ 10; decide)
        have t_q0_6 := rc_Tg.1 _ _ t_q0_6 (by show 4 ≠ 10; decide)
        have t_q0_9 := rc_Tg.1 _ _ t_q0_9 (by show 5 ≠ 10; decide)
        have t_q0_10 := rc_Tg.1 _ _ t_q0_10 (by show 4 ≠ 10; decide)
        have t_q0_11 := rc_Tg.1 _ _ t_q0_11 (by show 6 ≠ 10; decide)
        have t_q0_12 := rc_Tg.1 _ _ t_q0_12 (by show 7 ≠ 10; decide)
        have t_q0_13 := rc_Tg.1 _ _ t_q0_13 (by show 15 ≠ 10; decide)
        have t_q0_14 := rc_Tg.1 _ _ t_q0_14 (by show 20 ≠ 10; decide)
        have t_q0_15 := rc_Tg.1 _ _ t_q0_15 (by show 11 ≠ 10; decide)
        have t_q0_17 := rc_Tg.1 _ _ t_q0_17 (by show 1 ≠ 10; decide)
        have t_q0_18 := rc_Tg.1 _ _ t_q0_18 (by show 1 ≠ 10; decide)
        have t_a0 := rc_Tg.1 _ _ t_a0 (by show 21 ≠ 10; decide)
        have t_ch := tg_ch
        have hH : HT D cs A Tg (tk :: tp :: O) ((tk, .inr (7, [.ref tp, .int n29_0_1, .int n29_0_2, .int n29_0_3, .int n29_0_4, .int n29_0_5, .int n29_0_6, .int n29_0_7])) :: (tp, .inl (cs.1, 900, .inl ft)) :: X) H := HT.lay (ci := 11) hH t_a0 (okL_c (⟨_, rfl, t_tp⟩) (okL_c (⟨_, rfl, by decide, by decide, tl_of t_ch (by have k9 : (0 : Int32).toInt = 0 := (by decide); omega)⟩) (okL_c (⟨_, _, rfl, t_q0_2, t_dq0_2⟩) (okL_c (rfl) (okL_c (⟨_, rfl, t_q0_4⟩) (okL_c (⟨_, rfl, t_q0_5⟩) (okL_c (⟨_, rfl, t_q0_6⟩) (okL_c (⟨_, rfl, by omega, by omega⟩) (okL_c (⟨_, rfl, by omega, by omega⟩) (okL_c (⟨_, rfl, t_q0_9⟩) (okL_c (⟨_, rfl, t_q0_10⟩) (okL_c (⟨_, rfl, t_q0_11⟩) (okL_c (⟨_, rfl, t_q0_12⟩) (okL_c (⟨_, rfl, t_q0_13⟩) (okL_c (⟨_, rfl, t_q0_14⟩) (okL_c (⟨_, rfl, t_q0_15⟩) (okL_c (rfl) (okL_c (⟨_, rfl, t_q0_17⟩) (okL_c (⟨_, rfl, t_q0_18⟩) (okL_c (⟨_, rfl⟩) (okL_n)))))))))))))))))))))
        have hO := hO0
        refine W.widen (k := 10) (n := 1001) (Nat.le_of_ble_eq_true rfl) (Nat.le_of_ble_eq_true rfl) ?_
        exact te_i hx hb hr hlocks hH hS (⟨Tg, w, hw, gw, 0, (.ref tp), n29_0_1, n29_0_2, n29_0_3, n29_0_4, n29_0_5, n29_0_6, n29_0_7, rfl, Twl.of Tgr.rf rc_Tg Tre.rf, t_a0, t_w, t_ch, (by unfold WLF; omega), (Or.inr ⟨by omega, by omega, by rw [show x1.toInt.toNat = tn by omega]; first | exact Or.inr x_v291 | exact Or.inl ⟨x_v290.1, x_v290.2.1, _, x_v290.2.2.1⟩⟩), by omega, (Or.inr ⟨by omega, by omega, Or.inr ⟨_, _, (by rw [show x1.toInt.toNat = tn by omega]; exact x_v291), by omega⟩⟩)⟩) dX11_wall_48
    · skip
      have fuc9 := full_i x1
      have fvc9 := full_i q0_1
      have tc9 := g_nle c9
      refine lv_bipush (v := (-3)) hx hb dX11_wall_12 (by decide) ?_
      have hH : HT D cs A T (a0 :: tk :: tp :: O) ((a0, .inr (11, [.ref tp, .int q0_1, .ref q0_2, .ref w, .ref q0_4, .ref q0_5, .ref q0_6, .int q0_7, .int q0_8, .ref q0_9, .ref q0_10, .ref q0_11, .ref q0_12, .ref q0_13, .ref q0_14, .ref q0_15, .ref ch, .ref q0_17, .ref q0_18, .int q0_19])) :: (tk, .inr (7, [o0, .int y1, .int y2, .int y3, .int y4, .int y5, .int y6, .int y7])) :: (tp, .inl (cs.1, 900, .inl ft)) :: X) H := HT.pm (Y := [(tk, .inr (7, [o0, .int y1, .int y2, .int y3, .int y4, .int y5, .int y6, .int y7])), (tp, .inl (cs.1, 900, .inl ft)), (a0, .inr (11, [.ref tp, .int q0_1, .ref q0_2, .ref w, .ref q0_4, .ref q0_5, .ref q0_6, .int q0_7, .int q0_8, .ref q0_9, .ref q0_10, .ref q0_11, .ref q0_12, .ref q0_13, .ref q0_14, .ref q0_15, .ref ch, .ref q0_17, .ref q0_18, .int q0_19]))]) (Y2 := [(a0, .inr (11, [.ref tp, .int q0_1, .ref q0_2, .ref w, .ref q0_4, .ref q0_5, .ref q0_6, .int q0_7, .int q0_8, .ref q0_9, .ref q0_10, .ref q0_11, .ref q0_12, .ref q0_13, .ref q0_14, .ref q0_15, .ref ch, .ref q0_17, .ref q0_18, .int q0_19])), (tk, .inr (7, [o0, .int y1, .int y2, .int y3, .int y4, .int y5, .int y6, .int y7])), (tp, .inl (cs.1, 900, .inl ft))]) (X := X) (ym := 3) [2, 0, 1] hH rfl rfl (fun k hk => match k, hk with | 0, _ => rfl | 1, _ => rfl | 2, _ => rfl | k + 3, h => absurd h (by show ¬ k + 3 < 3; omega)) (by decide) (by intro a ha; simp only [List.mem_cons] at ha ⊢; rcases ha with h | h | h | h; exact Or.inr (Or.inl h); exact Or.inr (Or.inr (Or.inl h)); exact Or.inl h; exact Or.inr (Or.inr (Or.inr (h))))
      have hH : HT D cs A T (tk :: tp :: O) ((tk, .inr (7, [o0, .int y1, .int y2, .int y3, .int y4, .int y5, .int y6, .int y7])) :: (tp, .inl (cs.1, 900, .inl ft)) :: X) H := HT.lay (ci := 11) hH t_a0 (okL_c (⟨_, rfl, t_tp⟩) (okL_c (⟨_, rfl, by omega, by omega, tl_of t_ch (by omega)⟩) (okL_c (⟨_, _, rfl, t_q0_2, t_dq0_2⟩) (okL_c (rfl) (okL_c (⟨_, rfl, t_q0_4⟩) (okL_c (⟨_, rfl, t_q0_5⟩) (okL_c (⟨_, rfl, t_q0_6⟩) (okL_c (⟨_, rfl, by omega, by omega⟩) (okL_c (⟨_, rfl, by omega, by omega⟩) (okL_c (⟨_, rfl, t_q0_9⟩) (okL_c (⟨_, rfl, t_q0_10⟩) (okL_c (⟨_, rfl, t_q0_11⟩) (okL_c (⟨_, rfl, t_q0_12⟩) (okL_c (⟨_, rfl, t_q0_13⟩) (okL_c (⟨_, rfl, t_q0_14⟩) (okL_c (⟨_, rfl, t_q0_15⟩) (okL_c (rfl) (okL_c (⟨_, rfl, t_q0_17⟩) (okL_c (⟨_, rfl, t_q0_18⟩) (okL_c (⟨_, rfl⟩) (okL_n)))))))))))))))))))))
      have hO := hO0
      refine W.widen (k := 10) (n := 1001) (Nat.le_of_ble_eq_true rfl) (Nat.le_of_ble_eq_true rfl) ?_
      have z9_m3 : ((-3) : Int32).toInt = -3 := by decide
      exact te_i hx hb hr hlocks hH hS (⟨T, w, hw, gw, gq, o0, y1, y2, y3, y4, y5, y6, y7, rfl, Twl.of Tgr.rf Tgc.rf Tre.rf, t_a0, t_w, t_ch, (by unfold WLF; omega), (Or.inl ⟨by omega, rfl, rfl⟩), by omega, (Or.inl ⟨by omega, by omega⟩)⟩) dX11_wall_14
/-! the reference's reader -/
def seeF (f : Nat → Int32) (n k : Int32) : Int32 := if k.toInt < n.toInt then f k.toInt.toNat else -1
theorem see_lt {f : Nat → Int32} {n k v : Int32} (h : k.toInt < n.toInt) (hv : v = f k.toInt.toNat) : v = seeF f n k := by
  unfold seeF
  rw [if_pos h]
  exact hv
theorem see_ge {f : Nat → Int32} {n k : Int32} (h : n.toInt ≤ k.toInt) : (-1 : Int32) = seeF f n k := by
  unfold seeF
  rw [if_neg (by omega)]
theorem see_same {f : Nat → Int32} {n a b v w : Int32} (hv : v = seeF f n a) (hw : w = seeF f n b) (h : a.toInt = b.toInt) : v.toInt = w.toInt := by
  have : a = b := Int32.toInt_inj.mp h
  rw [hv, hw, this]
theorem S8_of {f : Nat → Int32} (h : B8 1302 f) : S8 f := by
  have := h 0 (by omega)
  simp only [Nat.zero_mul, Nat.zero_add] at this
  exact this
theorem B8_of {f : Nat → Int32} (h : S8 f) : B8 1302 f := fun z hz => by
  have : z = 0 := by omega
  subst this
  simp only [Nat.zero_mul, Nat.zero_add]
  exact h
theorem S8_put {f : Nat → Int32} {i x : Int32} (h : S8 f) (h0 : 0 ≤ i.toInt) (h1 : i.toInt ≤ 400) (hp : p8 i x) : S8 (upd f i.toInt.toNat x) := S8_of ((B8_of h).put h0 h1 hp)
def ncd (f : Nat → Int32) : Int := (f 401).toInt
def dpt (f : Nat → Int32) : Int := dpn f (f 401).toInt.toNat
theorem dpn_nn {f : Nat → Int32} (hS : S8 f) (k : Nat) (hk : (k : Int) ≤ ncd f) : 0 ≤ dpn f k := by
  induction k with
  | zero => exact Int.le_refl _
  | succ k ih =>
    have h := ih (by omega)
    have w := hS.2.2.2.2.2.2.2 k (by unfold ncd at hk; omega)
    unfold dpn
    split
    · omega
    · rename_i h1
      split
      · omega
      · rename_i h2
        have := (w (by omega)).2 h2
        omega
theorem dpt_nn {f : Nat → Int32} (hS : S8 f) : 0 ≤ dpt f := dpn_nn hS _ (by unfold ncd; have := hS.2.2.2.2.2.2.1; omega)
theorem dpn_same {f g : Nat → Int32} {N : Nat} (h : ∀ j, j < N → g (402 + j) = f (402 + j)) (k : Nat) (hk : k ≤ N) : dpn g k = dpn f k := by
  induction k with
  | zero => rfl
  | succ k ih =>
    unfold dpn
    rw [ih (by omega), h k (by omega)]
theorem code_push {f g : Nat → Int32} {x w : Int32} (hS : S8 f) (hN : ncd f ≤ 899) (hg : ∀ j, g j = if j = 401 then w else if j = 402 + (f 401).toInt.toNat then x else f j) (hw : w.toInt = ncd f + 1) (hc : 3000 ≤ x.toInt → 1 ≤ dpt f ∧ (x.toInt ≠ 3008 → 2 ≤ dpt f)) :
    S8 g ∧ ncd g = ncd f + 1 ∧ dpt g = dpt f + (if x.toInt < 3000 then 1 else if x.toInt = 3008 then 0 else -1) := by
  obtain ⟨a1, a2, a3, a4, a5, a6, a7, a8⟩ := hS
  have g401 : g 401 = w := by rw [hg, if_pos rfl]
  have hlow : ∀ j, j < 401 → g j = f j := fun j hj => by rw [hg, if_neg (by omega), if_neg (by omega)]
  have hold : ∀ j, j < (f 401).toInt.toNat → g (402 + j) = f (402 + j) := fun j hj => by rw [hg, if_neg (by omega), if_neg (by omega)]
  have hnew : g (402 + (f 401).toInt.toNat) = x := by rw [hg, if_neg (by omega), if_pos rfl]
  have hdp := dpn_same hold
  unfold ncd at hN hw ⊢
  have hN2 : w.toInt.toNat = (f 401).toInt.toNat + 1 := by omega
  refine ⟨⟨?_, ?_, ?_, ?_, ?_, ?_, ?_, ?_⟩, ?_, ?_⟩
  · rw [hlow 1 (by omega)]; exact a1
  · rw [hlow 2 (by omega)]; exact a2
  · rw [hlow 4 (by omega)]; exact a3
  · rw [hlow 5 (by omega)]; exact a4
  · rw [hlow 6 (by omega)]; exact a5
  · rw [hlow 90 (by omega)]; exact a6
  · rw [g401]; omega
  · intro k hk h1
    rw [g401] at hk
    by_cases hkN : k < (f 401).toInt.toNat
    · rw [hold k hkN] at h1 ⊢
      rw [hdp k (by omega)]
      exact a8 k (by omega) h1
    · have hk2 : k = (f 401).toInt.toNat := by omega
      subst hk2
      rw [hnew] at h1 ⊢
      rw [hdp _ (Nat.le_refl _)]
      exact hc h1
  · rw [g401]; exact hw
  · unfold dpt
    rw [g401, hN2]
    show dpn g (f 401).toInt.toNat + _ = _
    rw [hdp _ (Nat.le_refl _), hnew]
theorem codes_end {f F G : Nat → Int32} {x v22 v23 v34 v36 : Int32} (hS : S8 f) (e22 : v22 = f 401) (t23 : v23.toInt = 402 + v22.toInt) (eF : F = upd f v23.toInt.toNat x) (e34 : v34 = F 401) (t36 : v36.toInt = v34.toInt + 1) (eG : G = upd F 401 v36) (hN : ncd f ≤ 899) (hc : 3000 ≤ x.toInt → 1 ≤ dpt f ∧ (x.toInt ≠ 3008 → 2 ≤ dpt f)) :
    S8 G ∧ ncd G = ncd f + 1 ∧ dpt G = dpt f + (if x.toInt < 3000 then 1 else if x.toInt = 3008 then 0 else -1) := by
  have b := hS.2.2.2.2.2.2.1
  have q : v34 = v22 := by rw [e34, eF, upd_ne (by rw [← e22] at b; omega), ← e22]
  refine code_push hS hN (fun j => ?_) (w := v36) (by rw [t36, q, e22]; rfl) hc
  rw [eG, eF]
  unfold upd
  rw [show v23.toInt.toNat = 402 + (f 401).toInt.toNat by rw [← e22] at b ⊢; omega]
theorem dp_A {a b : Int} {x : Int32} (h : x.toInt < 3000) (hd : a = b + (if x.toInt < 3000 then 1 else if x.toInt = 3008 then 0 else -1)) : a = b + 1 := by rw [if_pos h] at hd; exact hd
theorem dp_N {a b : Int} {x : Int32} (h : x.toInt = 3008) (hd : a = b + (if x.toInt < 3000 then 1 else if x.toInt = 3008 then 0 else -1)) : a = b := by rw [if_neg (by omega), if_pos h] at hd; omega
theorem dp_O {a b : Int} {x : Int32} (h : 3000 ≤ x.toInt) (h2 : x.toInt ≤ 3007) (hd : a = b + (if x.toInt < 3000 then 1 else if x.toInt = 3008 then 0 else -1)) : a = b - 1 := by rw [if_neg (by omega), if_neg (by omega)] at hd; omega
/-- the code begins anew -/
theorem S8_zero {f : Nat → Int32} (hS : S8 f) : S8 (upd f 401 0) ∧ ncd (upd f 401 0) = 0 ∧ dpt (upd f 401 0) = 0 := by
  obtain ⟨a1, a2, a3, a4, a5, a6, a7, a8⟩ := hS
  have z : (0 : Int32).toInt = 0 := by decide
  have h401 : upd f 401 0 401 = 0 := upd_eq
  have hlow : ∀ j, j < 401 → upd f 401 0 j = f j := fun j hj => upd_ne (by omega)
  refine ⟨⟨?_, ?_, ?_, ?_, ?_, ?_, ?_, ?_⟩, ?_, ?_⟩
  · rw [hlow 1 (by omega)]; exact a1
  · rw [hlow 2 (by omega)]; exact a2
  · rw [hlow 4 (by omega)]; exact a3
  · rw [hlow 5 (by omega)]; exact a4
  · rw [hlow 6 (by omega)]; exact a5
  · rw [hlow 90 (by omega)]; exact a6
  · rw [h401]; omega
  · intro k hk
    rw [h401] at hk
    omega
  · unfold ncd
    rw [h401]; exact z
  · unfold dpt
    rw [h401]
    rfl
theorem S8_plain {f : Nat → Int32} (h : ∀ j : Nat, j < 1302 → (j < 59 ∨ 87 ≤ j) → f j = 0) : S8 f := by
  have z : (0 : Int32).toInt = 0 := by decide
  refine ⟨?_, ?_, ?_, ?_, ?_, ?_, ?_, ?_⟩
  · rw [h 1 (by omega) (by omega)]; omega
  · rw [h 2 (by omega) (by omega)]; omega
  · rw [h 4 (by omega) (by omega)]; omega
  · rw [h 5 (by omega) (by omega)]; omega
  · rw [h 6 (by omega) (by omega)]; omega
  · rw [h 90 (by omega) (by omega)]; omega
  · rw [h 401 (by omega) (by omega)]; omega
  · intro k hk
    rw [h 401 (by omega) (by omega)] at hk
    omega
theorem HT.swap {D : va_G} {cs : CS} {A : Nat → Prop} {T : TF} {O : List Nat} {X : va_W} {H : Heap} {a b : Nat} {ea eb : va_E} (h : HT D cs A T (a :: b :: O) ((a, ea) :: (b, eb) :: X) H) : HT D cs A T (b :: a :: O) ((b, eb) :: (a, ea) :: X) H := by
  obtain ⟨ws, hP, hD, h3, h4⟩ := h
  have hg : ∀ (k : Nat) (x : Nat × va_E), (((b, eb) :: (a, ea) :: X) ++ ws)[k]? = some x → (((a, ea) :: (b, eb) :: X) ++ ws)[if k = 0 then 1 else if k = 1 then 0 else k]? = some x := by
    intro k x hk
    match k, hk with
    | 0, hk => exact hk
    | 1, hk => exact hk
    | k + 2, hk => rw [if_neg (by omega), if_neg (by omega)]; exact hk
  refine ⟨ws, hP.by _ hg, hD.by _ hg ?_, fun q tg hq hO => h3 q tg hq (fun z => hO ?_), h4⟩
  · intro i1 i2 _ _ he
    split at he <;> split at he <;> (try split at he) <;> (try split at he) <;> omega
  · rcases List.mem_cons.mp z with z | z
    · exact List.mem_cons_of_mem _ (z ▸ List.mem_cons_self)
    · rcases List.mem_cons.mp z with z | z
      · exact z ▸ List.mem_cons_self
      · exact List.mem_cons_of_mem _ (List.mem_cons_of_mem _ z)
theorem okO.swap {T : TF} {O K : List Nat} {a b : Nat} (h : okO T (a :: b :: O) K) : okO T (b :: a :: O) K := fun o ho => h o (by
  rcases List.mem_cons.mp ho with z | z
  · exact List.mem_cons_of_mem _ (z ▸ List.mem_cons_self)
  · rcases List.mem_cons.mp z with z | z
    · exact z ▸ List.mem_cons_self
    · exact List.mem_cons_of_mem _ (List.mem_cons_of_mem _ z))
/-! what reading tells, hidden from omega -/
def TK3 (k a b : Int32) : Prop := k.toInt ≠ 22 → a.toInt + 1 ≤ b.toInt
def NZ (v : Int32) : Prop := v.toInt ≠ 0
def MW (w v : Int32) : Prop := v.toInt = 0 → w.toInt = 0
def TKN (w v r lo hi a b : Int32) : Prop := v.toInt = 0 → w.toInt = 0 ∧ lo.toInt ≤ r.toInt ∧ r.toInt ≤ hi.toInt ∧ a.toInt + 1 ≤ b.toInt
def SL (w : Int32) (f : Nat → Int32) (a : Int32) : Prop := w.toInt = 0 → ncd f ≤ a.toInt
def CP (w : Int32) (f : Nat → Int32) (d : Int) : Prop := w.toInt = 0 → ncd f ≤ 899 ∧ d ≤ dpt f
def CN (w : Int32) (f g : Nat → Int32) (d : Int) : Prop := w.toInt = 0 → ncd g = ncd f + 1 ∧ dpt g = dpt f + d
def RD (f g : Nat → Int32) (a b w v : Int32) : Prop := v.toInt = 0 → w.toInt = 0 ∧ dpt g = dpt f + 1 ∧ a.toInt - ncd f ≤ b.toInt - ncd g
theorem RD_sl {f g : Nat → Int32} {a b c w v : Int32} (h0 : SL w f a) (h1 : RD f g a b w v) (h2 : b.toInt ≤ c.toInt) : SL v g c := fun q => by
  obtain ⟨c0, c1, c2⟩ := h1 q
  have := h0 c0
  omega
theorem RD_le {f g : Nat → Int32} {a b c w v : Int32} (h1 : RD f g a b w v) (h2 : b.toInt ≤ c.toInt) : RD f g a c w v := fun q => by
  obtain ⟨c0, c1, c2⟩ := h1 q
  exact ⟨c0, c1, by omega⟩
theorem RD_cp {f g g' : Nat → Int32} {a b c e w v u : Int32} (h0 : SL w f a) (hd : 0 ≤ dpt f) (h1 : RD f g a b w v) (h2 : b.toInt + 1 ≤ c.toInt) (h3 : RD g g' c e v u) (h4 : e.toInt ≤ 900) : CP u g' 2 := fun q => by
  obtain ⟨c0, c1, c2⟩ := h3 q
  obtain ⟨d0, d1, d2⟩ := h1 c0
  have := h0 d0
  exact ⟨by omega, by omega⟩
theorem RD_op {f g g' G : Nat → Int32} {a b c e w v u : Int32} (h1 : RD f g a b w v) (h2 : b.toInt + 1 ≤ c.toInt) (h3 : RD g g' c e v u) (h4 : CN u g' G (-1)) : RD f G a e w u := fun q => by
  obtain ⟨c0, c1, c2⟩ := h3 q
  obtain ⟨d0, d1, d2⟩ := h1 c0
  obtain ⟨e0, e1⟩ := h4 q
  exact ⟨d0, by omega, by omega⟩
/-! the reference's tokens -/
def TM (f : Nat → Int32) (t : Tp) : Prop := ∀ j, -128 ≤ t j ∧ t j ≤ 127 ∧ (f j).toInt = if t j < 0 then t j + 256 else t j
def MSS (t : Tp) (n : Nat) (a b k v : Int32) : Prop := 0 ≤ a.toInt ∧ a.toInt.toNat ≤ n ∧ b.toInt = (en t n a.toInt.toNat : Int) ∧ k.toInt = (kd t n a.toInt.toNat : Int) ∧ (kd t n a.toInt.toNat = 21 → v.toInt = nv t n a.toInt.toNat)
section RTok
variable {t : Tp} {n : Nat} {f : Nat → Int32} {y8 a b c v x k : Int32} {e0 : Nat}
theorem see_in (hn : y8.toInt = (n : Int)) (hv : v = seeF f y8 a) (h : 0 ≤ v.toInt) : a.toInt < (n : Int) ∧ v = f a.toInt.toNat := by
  unfold seeF at hv
  split at hv
  · exact ⟨by omega, hv⟩
  · rw [hv] at h
    exact absurd h (by decide)
theorem tm_c (h : TM f t) {j : Nat} (hv : v = f j) : (v.toInt = t j ∧ 0 ≤ t j) ∨ (v.toInt = t j + 256 ∧ t j < 0) := by
  obtain ⟨h1, h2, h3⟩ := h j
  rw [← hv] at h3
  split at h3 <;> omega
theorem see_t (h : TM f t) (hn : y8.toInt = (n : Int)) (hv : v = seeF f y8 a) : (v.toInt = -1 ∧ (n : Int) ≤ a.toInt) ∨ (a.toInt < (n : Int) ∧ ((v.toInt = t a.toInt.toNat ∧ 0 ≤ t a.toInt.toNat) ∨ (128 ≤ v.toInt ∧ v.toInt = t a.toInt.toNat + 256 ∧ t a.toInt.toNat < 0))) := by
  by_cases q : 0 ≤ v.toInt
  · obtain ⟨h1, h2⟩ := see_in hn hv q
    have h3 := tm_c h h2
    have h4 := h a.toInt.toNat
    exact Or.inr ⟨h1, by omega⟩
  · unfold seeF at hv
    split at hv
    · have h3 := tm_c h hv
      have h4 := h a.toInt.toNat
      omega
    · refine Or.inl ⟨by rw [hv]; decide, by omega⟩
theorem rbl_s (h : TM f t) (hn : y8.toInt = (n : Int)) (hv : v = seeF f y8 a) (h1 : v.toInt = 10 ∨ v.toInt = 32) (h0 : 0 ≤ a.toInt) (hb : b.toInt = a.toInt + 1) : nxs t n b.toInt.toNat = nxs t n a.toInt.toNat := by
  have hs := see_t h hn hv
  rw [show b.toInt.toNat = a.toInt.toNat + 1 by omega]
  exact (run_s (by omega) (bl_i.mpr (by omega))).symm
theorem rbl_e (h : TM f t) (hn : y8.toInt = (n : Int)) (hi : nxs t n a.toInt.toNat = nxs t n e0) (hv : v = seeF f y8 a) (h1 : ¬ v.toInt = 10) (hx : x = seeF f y8 a) (h2 : ¬ x.toInt = 32) : nxs t n e0 = a.toInt.toNat := by
  have hs := see_t h hn hv
  rw [← hi]
  refine run_e (fun q => ?_)
  have q2 := bl_i.mp q.2
  rw [show x = v by rw [hx, hv]] at h2
  omega
theorem rsm_s (h : TM f t) (hn : y8.toInt = (n : Int)) (hi : run (sm t) n a.toInt.toNat = run (sm t) n e0) (hv : v = seeF f y8 a) (h1 : 97 ≤ v.toInt) (h2 : v.toInt ≤ 122) (h0 : 0 ≤ a.toInt) (hb : b.toInt = a.toInt + 1) : run (sm t) n b.toInt.toNat = run (sm t) n e0 := by
  have hs := see_t h hn hv
  rw [show b.toInt.toNat = a.toInt.toNat + 1 by omega, ← hi]
  exact (run_s (by omega) (sm_i.mpr (by omega))).symm
theorem rsm_e (h : TM f t) (hn : y8.toInt = (n : Int)) (hv : v = seeF f y8 a) (h1 : v.toInt < 97 ∨ 122 < v.toInt) : run (sm t) n a.toInt.toNat = a.toInt.toNat := run_e (fun q => by
  have hs := see_t h hn hv
  have q2 := sm_i.mp q.2
  omega)
theorem rdg_s (h : TM f t) (hn : y8.toInt = (n : Int)) (hi : run (dgt t) n a.toInt.toNat = run (dgt t) n e0) (hv : v = seeF f y8 a) (h1 : 48 ≤ v.toInt) (h2 : v.toInt ≤ 57) (h0 : 0 ≤ a.toInt) (hb : b.toInt = a.toInt + 1) : run (dgt t) n b.toInt.toNat = run (dgt t) n e0 := by
  have hs := see_t h hn hv
  rw [show b.toInt.toNat = a.toInt.toNat + 1 by omega, ← hi]
  exact (run_s (by omega) (dgt_i.mpr (by omega))).symm
theorem rdg_e (h : TM f t) (hn : y8.toInt = (n : Int)) (hv : v = seeF f y8 a) (h1 : v.toInt < 48 ∨ 57 < v.toInt) : run (dgt t) n a.toInt.toNat = a.toInt.toNat := run_e (fun q => by
  have hs := see_t h hn hv
  have q2 := dgt_i.mp q.2
  omega)
/-- the number so far -/
def NVI (t : Tp) (a : Int32) (e : Int) (v : Int32) : Prop := a.toInt ≤ e ∧ (e ≤ a.toInt + 3 → v.toInt = nvl t a.toInt.toNat (e - a.toInt).toNat)
theorem NVI_0 (hv : v.toInt = 0) : NVI t a a.toInt v := by
  refine ⟨Int.le_refl _, fun _ => ?_⟩
  rw [Int.sub_self]
  exact hv
theorem NVI_s {w : Int32} (h : TM f t) (hn : y8.toInt = (n : Int)) (hi : NVI t a b.toInt v) (h0 : 0 ≤ a.toInt) (hx : x = seeF f y8 b) (h1 : 48 ≤ x.toInt) (h2 : x.toInt ≤ 57) (h3 : b.toInt - a.toInt < 3) (hw : w.toInt = 10 * v.toInt + x.toInt - 48) : NVI t a (b.toInt + 1) w := by
  have hs := see_t h hn hx
  have hl := hi.1
  refine ⟨by omega, fun _ => ?_⟩
  have i0 := hi.2 (by omega)
  rw [show (b.toInt + 1 - a.toInt).toNat = (b.toInt - a.toInt).toNat + 1 by omega]
  show _ = 10 * nvl t a.toInt.toNat (b.toInt - a.toInt).toNat + (t (a.toInt.toNat + (b.toInt - a.toInt).toNat) - 48)
  rw [show a.toInt.toNat + (b.toInt - a.toInt).toNat = b.toInt.toNat by omega, ← i0]
  omega
theorem NVI_b (hi : NVI t a b.toInt v) (h3 : 3 ≤ b.toInt - a.toInt) : NVI t a (b.toInt + 1) v := ⟨by have := hi.1; omega, fun q => by omega⟩
theorem MS_E (hq : nxs t n e0 = a.toInt.toNat) (h0 : 0 ≤ a.toInt) (hl : (n : Int) ≤ a.toInt) (ha : a.toInt ≤ (n : Int)) (hk : k.toInt = 22) : MSS t n a a k v ∧ a.toInt.toNat = nxs t n e0 := by
  have he : en t n a.toInt.toNat = a.toInt.toNat := by
    unfold en
    rw [if_pos (by omega)]
  have hkd := kd_end (t := t) (n := n) (s := a.toInt.toNat) (by omega)
  exact ⟨⟨h0, by omega, by rw [he]; omega, by rw [hkd]; omega, fun q => by omega⟩, hq.symm⟩
theorem MS_W (h : TM f t) (hn : y8.toInt = (n : Int)) (hq : nxs t n e0 = a.toInt.toNat) (h0 : 0 ≤ a.toInt) (hl : a.toInt < (n : Int)) (hx : x = seeF f y8 a) (h1 : 97 ≤ x.toInt) (h2 : x.toInt ≤ 122) (hr : run (sm t) n b.toInt.toNat = run (sm t) n a.toInt.toNat) (hb : 0 ≤ b.toInt) (hz : run (sm t) n b.toInt.toNat = b.toInt.toNat) (hk : k.toInt = (wk t a.toInt.toNat b.toInt.toNat : Int)) : MSS t n a b k v ∧ a.toInt.toNat = nxs t n e0 := by
  have hs := see_t h hn hx
  have hsm : sm t a.toInt.toNat = true := sm_i.mpr (by omega)
  have he : en t n a.toInt.toNat = b.toInt.toNat := by
    unfold en
    rw [if_neg (by omega), if_pos hsm, ← hr, hz]
  have hkd := kd_w (n := n) (by omega) hsm
  rw [he] at hkd
  refine ⟨⟨h0, by omega, by rw [he]; omega, by rw [hkd]; exact hk, fun q => ?_⟩, hq.symm⟩
  have := wk_b (t := t) (s := a.toInt.toNat) (e := b.toInt.toNat)
  omega
theorem MS_D (h : TM f t) (hn : y8.toInt = (n : Int)) (hq : nxs t n e0 = a.toInt.toNat) (h0 : 0 ≤ a.toInt) (hl : a.toInt < (n : Int)) (hx : x = seeF f y8 a) (h1 : 48 ≤ x.toInt) (h2 : x.toInt ≤ 57) (hr : run (dgt t) n b.toInt.toNat = run (dgt t) n a.toInt.toNat) (hz : run (dgt t) n b.toInt.toNat = b.toInt.toNat) (hv : NVI t a b.toInt v) (hk : (k.toInt = 21 ∧ b.toInt ≤ a.toInt + 3) ∨ (k.toInt = 23 ∧ a.toInt + 3 < b.toInt)) : MSS t n a b k v ∧ a.toInt.toNat = nxs t n e0 := by
  have hs := see_t h hn hx
  have hsm : ¬ sm t a.toInt.toNat = true := fun q => by have := sm_i.mp q; omega
  have hd : dgt t a.toInt.toNat = true := dgt_i.mpr (by omega)
  have he : en t n a.toInt.toNat = b.toInt.toNat := by
    unfold en
    rw [if_neg (by omega), if_neg hsm, if_pos hd, ← hr, hz]
  have hkd := kd_d (n := n) (by omega) hsm hd
  rw [he] at hkd
  have hl2 := hv.1
  have hk2 : k.toInt = (kd t n a.toInt.toNat : Int) := by
    rw [hkd]
    rcases hk with q | q
    · rw [if_pos (by omega)]; exact q.1
    · rw [if_neg (by omega)]; exact q.1
  refine ⟨⟨h0, by omega, by rw [he]; omega, hk2, fun q => ?_⟩, hq.symm⟩
  unfold nv
  rw [he, show b.toInt.toNat - a.toInt.toNat = (b.toInt - a.toInt).toNat by omega]
  exact hv.2 (by omega)
/-- which sign, by those looked at so far -/
def sgl (x : Int) : Nat → Nat
  | 0 => 23
  | k + 1 => if (chF 0 k).toInt = x then 30 + k else sgl x k
theorem sgl_no {x : Int} : ∀ k, (∀ j, j < k → (chF 0 j).toInt ≠ x) → sgl x k = 23 := by
  intro k
  induction k with
  | zero => intro _; rfl
  | succ k ih =>
    intro h
    show (if (chF 0 k).toInt = x then 30 + k else sgl x k) = 23
    rw [if_neg (h k (Nat.lt_succ_self k))]
    exact ih (fun j hj => h j (Nat.lt_succ_of_lt hj))
theorem sgl_tab : ∀ j, j < 12 → sgl (chF 0 j).toInt 12 = sgk (chF 0 j).toInt := by decide +kernel
theorem sgl_12 (x : Int) : sgl x 12 = sgk x := by
  by_cases q : ∃ j, j < 12 ∧ (chF 0 j).toInt = x
  · obtain ⟨j, h1, h2⟩ := q
    rw [← h2]
    exact sgl_tab j h1
  · rw [sgl_no 12 (fun j hj e => q ⟨j, hj, e⟩)]
    rcases sgk_b x with w | w
    · exact w.symm
    · obtain ⟨j, hj, e⟩ := sgk_tab2 _ (by omega) w.1
      rw [sgi_k w.1] at e
      exact absurd ⟨j, hj, e⟩ q
theorem SGL_0 {x : Int} {z : Int32} (hz : z.toInt = 0) (hk : k.toInt = 23) : k.toInt = (sgl x z.toInt.toNat : Int) := by
  rw [hz]
  exact hk
theorem SGL_s {u w y : Int32} (hi : k.toInt = (sgl x.toInt u.toInt.toNat : Int)) (h0 : 0 ≤ u.toInt) (hw : w.toInt = u.toInt + 1) (hv : v.toInt = x.toInt) (hy : y = chF 0 u.toInt.toNat) (hc : (v.toInt = y.toInt ∧ c.toInt = 30 + u.toInt) ∨ (¬ v.toInt = y.toInt ∧ c = k)) : c.toInt = (sgl x.toInt w.toInt.toNat : Int) := by
  rw [show w.toInt.toNat = u.toInt.toNat + 1 by omega]
  show _ = ((if (chF 0 u.toInt.toNat).toInt = x.toInt then 30 + u.toInt.toNat else sgl x.toInt u.toInt.toNat : Nat) : Int)
  rw [← hy]
  rcases hc with ⟨q1, q2⟩ | ⟨q1, q2⟩
  · rw [if_pos (by omega)]; omega
  · rw [if_neg (by omega), q2]; exact hi
theorem MS_G {z : Int32} (h : TM f t) (hn : y8.toInt = (n : Int)) (hq : nxs t n e0 = a.toInt.toNat) (h0 : 0 ≤ a.toInt) (hl : a.toInt < (n : Int)) (hx : x = seeF f y8 a) (h1 : x.toInt < 97 ∨ 122 < x.toInt) (hy : c = seeF f y8 a) (h2 : c.toInt < 48 ∨ 57 < c.toInt) (hb : b.toInt = a.toInt + 1) (hk : k.toInt = (sgl c.toInt z.toInt.toNat : Int)) (hz : z.toInt = 12) : MSS t n a b k v ∧ a.toInt.toNat = nxs t n e0 := by
  have hs := see_t h hn hx
  have hs2 := see_t h hn hy
  have hsm : ¬ sm t a.toInt.toNat = true := fun q => by have := sm_i.mp q; omega
  have hd : ¬ dgt t a.toInt.toNat = true := fun q => by have := dgt_i.mp q; omega
  have he : en t n a.toInt.toNat = a.toInt.toNat + 1 := by
    unfold en
    rw [if_neg (by omega), if_neg hsm, if_neg hd]
  have hkd := kd_g (n := n) (by omega) hsm hd
  rw [show z.toInt.toNat = 12 by omega, sgl_12] at hk
  have hsg : sgk c.toInt = sgk (t a.toInt.toNat) := by
    rcases hs2 with q | ⟨_, q | q⟩
    · omega
    · rw [q.1]
    · have w1 : sgk c.toInt = 23 := by
        unfold sgk
        repeat rw [if_neg (by omega)]
      have w2 : sgk (t a.toInt.toNat) = 23 := by
        unfold sgk
        repeat rw [if_neg (by omega)]
      rw [w1, w2]
  refine ⟨⟨h0, by omega, by rw [he]; omega, by rw [hkd, ← hsg]; exact hk, fun q => ?_⟩, hq.symm⟩
  have := sgk_b (t a.toInt.toNat)
  omega
end RTok
/-! the keys, one behind the other -/
def kof : List Nat := [1, 6, 12, 16, 23, 28, 33, 36, 43, 47, 53, 57, 62, 66, 69, 73, 77, 80, 83, 87]
theorem kof_c : ∀ n, n < 19 → ∀ i, i < 7 → i < slen.getD (kst.getD n 0) 0 → chF 20 (kof.getD n 0 + i) = chF (kst.getD n 0) i ∧ (chF (kst.getD n 0) i).toInt ≠ 32 := by decide +kernel
theorem kof_e : ∀ n, n < 19 → (chF 20 (kof.getD n 0 + slen.getD (kst.getD n 0) 0)).toInt = 32 ∧ kof.getD (n + 1) 0 = kof.getD n 0 + slen.getD (kst.getD n 0) 0 + 1 ∧ slen.getD (kst.getD n 0) 0 ≤ 6 ∧ kof.getD n 0 ≤ 83 := by decide +kernel
theorem kof_b : ∀ n, n < 20 → (kof.getD n 0 = 87 ↔ n = 19) ∧ kof.getD n 0 ≤ 87 ∧ 1 ≤ kof.getD n 0 := by decide +kernel
section Keys
variable {t : Tp} {f : Nat → Int32} {a b n k i v w x y d : Int32}
def KI (t : Tp) (a b n k i : Int32) : Prop := 0 ≤ n.toInt ∧ n.toInt < 19 ∧ k.toInt = (kof.getD n.toInt.toNat 0 : Nat) ∧ 0 ≤ i.toInt ∧ i.toInt ≤ (slen.getD (kst.getD n.toInt.toNat 0) 0 : Nat) ∧ a.toInt + i.toInt ≤ b.toInt ∧ WI (kst.getD n.toInt.toNat 0) t a.toInt.toNat i.toInt.toNat
def KN (t : Tp) (a b : Int32) (m : Nat) : Prop := ∀ j, j < m → ¬ wis (kst.getD j 0) t a.toInt.toNat b.toInt.toNat
theorem KI_0 (h0 : 0 ≤ n.toInt) (h1 : n.toInt < 19) (h2 : k.toInt = (kof.getD n.toInt.toNat 0 : Nat)) (h3 : a.toInt ≤ b.toInt) (hz : i.toInt = 0) : KI t a b n k i := ⟨h0, h1, h2, by omega, by omega, by omega, WI_0 hz⟩
theorem KI_at (h : KI t a b n k i) (hw : w.toInt = k.toInt + i.toInt) (hv : v = chF 20 w.toInt.toNat) : (v.toInt = 32 ∧ i.toInt = (slen.getD (kst.getD n.toInt.toNat 0) 0 : Nat)) ∨ (¬ v.toInt = 32 ∧ i.toInt < (slen.getD (kst.getD n.toInt.toNat 0) 0 : Nat) ∧ v = chF (kst.getD n.toInt.toNat 0) i.toInt.toNat) := by
  obtain ⟨h0, h1, h2, h3, h4, h5, h6⟩ := h
  obtain ⟨e1, e2, e3, e4⟩ := kof_e n.toInt.toNat (by omega)
  have ew : w.toInt.toNat = kof.getD n.toInt.toNat 0 + i.toInt.toNat := by omega
  by_cases q : i.toInt = (slen.getD (kst.getD n.toInt.toNat 0) 0 : Nat)
  · refine Or.inl ⟨?_, q⟩
    rw [hv, ew, show i.toInt.toNat = slen.getD (kst.getD n.toInt.toNat 0) 0 by omega]
    exact e1
  · obtain ⟨c1, c2⟩ := kof_c n.toInt.toNat (by omega) i.toInt.toNat (by omega) (by omega)
    refine Or.inr ⟨?_, by omega, ?_⟩
    · rw [hv, ew, c1]; exact c2
    · rw [hv, ew, c1]
theorem KI_b (h : KI t a b n k i) (hw : w.toInt = k.toInt + i.toInt) (hv : v = chF 20 w.toInt.toNat) (h32 : ¬ v.toInt = 32) : k.toInt + i.toInt ≤ 85 := by
  have q := KI_at h hw hv
  obtain ⟨h0, h1, h2, h3, h4, h5, h6⟩ := h
  obtain ⟨e1, e2, e3, e4⟩ := kof_e n.toInt.toNat (by omega)
  have e5 := (kof_b (n.toInt.toNat + 1) (by omega)).2.1
  omega
theorem KI_s {u : Int32} (hm : TM f t) (h : KI t a b n k i) (hw : w.toInt = k.toInt + i.toInt) (hv : v = chF 20 w.toInt.toNat) (h32 : ¬ v.toInt = 32) (h0 : 0 ≤ a.toInt) (hx : x = f d.toInt.toNat) (hd : d.toInt = a.toInt + i.toInt) (hl : d.toInt < b.toInt) (hy : y = v) (he : x.toInt = y.toInt) (hu : u.toInt = i.toInt + 1) : KI t a b n k u := by
  have q := (KI_at h hw hv).resolve_left (fun z => h32 z.1)
  obtain ⟨g0, g1, g2, g3, g4, g5, g6⟩ := h
  refine ⟨g0, g1, g2, by omega, by omega, by omega, fun j hj => ?_⟩
  by_cases z : j < i.toInt.toNat
  · exact g6 j z
  · have ej : j = i.toInt.toNat := by omega
    have hb := chF_b (kst.getD n.toInt.toNat 0) i.toInt.toNat
    rw [← q.2.2] at hb
    have hc := tm_c hm hx
    have hr := hm d.toInt.toNat
    rw [ej, ← q.2.2, show a.toInt.toNat + i.toInt.toNat = d.toInt.toNat by omega]
    rw [hy] at he
    omega
theorem KI_y (h : KI t a b n k i) (hw : w.toInt = k.toInt + i.toInt) (hv : v = chF 20 w.toInt.toNat) (h32 : v.toInt = 32) (h0 : 0 ≤ a.toInt) (hd : a.toInt + i.toInt = b.toInt) : n.toInt = (wk t a.toInt.toNat b.toInt.toNat : Int) := by
  have q := (KI_at h hw hv).resolve_right (fun z => z.1 h32)
  obtain ⟨g0, g1, g2, g3, g4, g5, g6⟩ := h
  rw [wk_of (i := n.toInt.toNat) (by omega) ⟨by omega, fun j hj => g6 j (by omega)⟩]
  omega
theorem KI_n1 (h : KI t a b n k i) (hw : w.toInt = k.toInt + i.toInt) (hv : v = chF 20 w.toInt.toNat) (h32 : v.toInt = 32) (h0 : 0 ≤ a.toInt) (hd : ¬ a.toInt + i.toInt = b.toInt) : ¬ wis (kst.getD n.toInt.toNat 0) t a.toInt.toNat b.toInt.toNat := fun z => by
  have q := (KI_at h hw hv).resolve_right (fun z => z.1 h32)
  have := z.1
  obtain ⟨g0, g1, g2, g3, g4, g5, g6⟩ := h
  omega
theorem KI_n2 (h : KI t a b n k i) (hw : w.toInt = k.toInt + i.toInt) (hv : v = chF 20 w.toInt.toNat) (h32 : ¬ v.toInt = 32) (h0 : 0 ≤ a.toInt) (hd : b.toInt ≤ a.toInt + i.toInt) : ¬ wis (kst.getD n.toInt.toNat 0) t a.toInt.toNat b.toInt.toNat := fun z => by
  have q := (KI_at h hw hv).resolve_left (fun z => h32 z.1)
  have := z.1
  obtain ⟨g0, g1, g2, g3, g4, g5, g6⟩ := h
  omega
theorem KI_n3 (hm : TM f t) (h : KI t a b n k i) (hw : w.toInt = k.toInt + i.toInt) (hv : v = chF 20 w.toInt.toNat) (h32 : ¬ v.toInt = 32) (h0 : 0 ≤ a.toInt) (hx : x = f d.toInt.toNat) (hd : d.toInt = a.toInt + i.toInt) (hy : y = v) (he : ¬ x.toInt = y.toInt) : ¬ wis (kst.getD n.toInt.toNat 0) t a.toInt.toNat b.toInt.toNat := fun z => by
  have q := (KI_at h hw hv).resolve_left (fun z => h32 z.1)
  obtain ⟨g0, g1, g2, g3, g4, g5, g6⟩ := h
  have e := z.2 i.toInt.toNat (by omega)
  rw [← q.2.2, show a.toInt.toNat + i.toInt.toNat = d.toInt.toNat by omega] at e
  have hc := tm_c hm hx
  have hb := chF_b (kst.getD n.toInt.toNat 0) i.toInt.toNat
  rw [← q.2.2] at hb
  rw [hy] at he
  omega
theorem KN_s {m u : Int32} (h : KN t a b m.toInt.toNat) (h0 : 0 ≤ m.toInt) (hu : u.toInt = m.toInt + 1) (hn : ¬ wis (kst.getD m.toInt.toNat 0) t a.toInt.toNat b.toInt.toNat) : KN t a b u.toInt.toNat := fun j hj => by
  by_cases z : j < m.toInt.toNat
  · exact h j z
  · rw [show j = m.toInt.toNat by omega]
    exact hn
theorem KN_e {m : Int32} (h : KN t a b m.toInt.toNat) (hm : m.toInt = 19) : (20 : Int32).toInt = (wk t a.toInt.toNat b.toInt.toNat : Int) := by
  rw [wk_no (fun i hi => h i (by omega))]
  decide
/-- a space ends a key -/
theorem key_sk {m : Int32} (h0 : 0 ≤ m.toInt) (h1 : m.toInt < 19) (hl : (kof.getD m.toInt.toNat 0 : Nat) ≤ k.toInt) (hu : k.toInt ≤ (kof.getD m.toInt.toNat 0 : Nat) + (slen.getD (kst.getD m.toInt.toNat 0) 0 : Nat)) (hv : v = chF 20 k.toInt.toNat) : (v.toInt = 32 ∧ k.toInt + 1 = (kof.getD (m.toInt.toNat + 1) 0 : Nat)) ∨ (¬ v.toInt = 32 ∧ k.toInt + 1 ≤ (kof.getD m.toInt.toNat 0 : Nat) + (slen.getD (kst.getD m.toInt.toNat 0) 0 : Nat)) := by
  obtain ⟨e1, e2, e3, e4⟩ := kof_e m.toInt.toNat (by omega)
  by_cases q : k.toInt = (kof.getD m.toInt.toNat 0 : Nat) + (slen.getD (kst.getD m.toInt.toNat 0) 0 : Nat)
  · refine Or.inl ⟨?_, by omega⟩
    rw [hv, show k.toInt.toNat = kof.getD m.toInt.toNat 0 + slen.getD (kst.getD m.toInt.toNat 0) 0 by omega]
    exact e1
  · obtain ⟨c1, c2⟩ := kof_c m.toInt.toNat (by omega) (k.toInt - (kof.getD m.toInt.toNat 0 : Nat)).toNat (by omega) (by omega)
    refine Or.inr ⟨?_, by omega⟩
    rw [hv, show k.toInt.toNat = kof.getD m.toInt.toNat 0 + (k.toInt - (kof.getD m.toInt.toNat 0 : Nat)).toNat by omega, c1]
    exact c2
end Keys
theorem dX12_keyAt_0 : decode cX12_keyAt 0 = .ok (.iconst 0, 1) := by decide +kernel
theorem dX12_keyAt_1 : decode cX12_keyAt 1 = .ok (.istore_n 1, 1) := by decide +kernel
theorem dX12_keyAt_2 : decode cX12_keyAt 2 = .ok (.iconst 1, 1) := by decide +kernel
theorem dX12_keyAt_3 : decode cX12_keyAt 3 = .ok (.istore_n 2, 1) := by decide +kernel
theorem dX12_keyAt_4 : decode cX12_keyAt 4 = .ok (.iload_n 2, 1) := by decide +kernel
theorem dX12_keyAt_5 : decode cX12_keyAt 5 = .ok (.ldc 88, 2) := by decide +kernel
theorem dX12_keyAt_7 : decode cX12_keyAt 7 = .ok (.invokevirtual 90, 3) := by decide +kernel
theorem dX12_keyAt_10 : decode cX12_keyAt 10 = .ok (.if_icmp .ge 113, 3) := by decide +kernel
theorem dX12_keyAt_13 : decode cX12_keyAt 13 = .ok (.iconst 0, 1) := by decide +kernel
theorem dX12_keyAt_14 : decode cX12_keyAt 14 = .ok (.istore_n 3, 1) := by decide +kernel
theorem dX12_keyAt_15 : decode cX12_keyAt 15 = .ok (.ldc 88, 2) := by decide +kernel
theorem dX12_keyAt_17 : decode cX12_keyAt 17 = .ok (.iload_n 2, 1) := by decide +kernel
theorem dX12_keyAt_18 : decode cX12_keyAt 18 = .ok (.iload_n 3, 1) := by decide +kernel
theorem dX12_keyAt_19 : decode cX12_keyAt 19 = .ok (.iadd, 1) := by decide +kernel
theorem dX12_keyAt_20 : decode cX12_keyAt 20 = .ok (.invokevirtual 96, 3) := by decide +kernel
theorem dX12_keyAt_23 : decode cX12_keyAt 23 = .ok (.bipush 32, 2) := by decide +kernel
theorem dX12_keyAt_25 : decode cX12_keyAt 25 = .ok (.if_icmp .eq 44, 3) := by decide +kernel
theorem dX12_keyAt_28 : decode cX12_keyAt 28 = .ok (.aload_n 0, 1) := by decide +kernel
theorem dX12_keyAt_29 : decode cX12_keyAt 29 = .ok (.getfield 100, 3) := by decide +kernel
theorem dX12_keyAt_32 : decode cX12_keyAt 32 = .ok (.iload_n 3, 1) := by decide +kernel
theorem dX12_keyAt_33 : decode cX12_keyAt 33 = .ok (.iadd, 1) := by decide +kernel
theorem dX12_keyAt_34 : decode cX12_keyAt 34 = .ok (.aload_n 0, 1) := by decide +kernel
theorem dX12_keyAt_35 : decode cX12_keyAt 35 = .ok (.getfield 103, 3) := by decide +kernel
theorem dX12_keyAt_38 : decode cX12_keyAt 38 = .ok (.if_icmp .ge 31, 3) := by decide +kernel
theorem dX12_keyAt_41 : decode cX12_keyAt 41 = .ok (.aload_n 0, 1) := by decide +kernel
theorem dX12_keyAt_42 : decode cX12_keyAt 42 = .ok (.getfield 21, 3) := by decide +kernel
theorem dX12_keyAt_45 : decode cX12_keyAt 45 = .ok (.aload_n 0, 1) := by decide +kernel
theorem dX12_keyAt_46 : decode cX12_keyAt 46 = .ok (.getfield 100, 3) := by decide +kernel
theorem dX12_keyAt_49 : decode cX12_keyAt 49 = .ok (.iload_n 3, 1) := by decide +kernel
theorem dX12_keyAt_50 : decode cX12_keyAt 50 = .ok (.iadd, 1) := by decide +kernel
theorem dX12_keyAt_51 : decode cX12_keyAt 51 = .ok (.iaload, 1) := by decide +kernel
theorem dX12_keyAt_52 : decode cX12_keyAt 52 = .ok (.ldc 88, 2) := by decide +kernel
theorem dX12_keyAt_54 : decode cX12_keyAt 54 = .ok (.iload_n 2, 1) := by decide +kernel
theorem dX12_keyAt_55 : decode cX12_keyAt 55 = .ok (.iload_n 3, 1) := by decide +kernel
theorem dX12_keyAt_56 : decode cX12_keyAt 56 = .ok (.iadd, 1) := by decide +kernel
theorem dX12_keyAt_57 : decode cX12_keyAt 57 = .ok (.invokevirtual 96, 3) := by decide +kernel
theorem dX12_keyAt_60 : decode cX12_keyAt 60 = .ok (.if_icmp .ne 9, 3) := by decide +kernel
theorem dX12_keyAt_63 : decode cX12_keyAt 63 = .ok (.iinc 3 1, 3) := by decide +kernel
theorem dX12_keyAt_66 : decode cX12_keyAt 66 = .ok (.goto (-51), 3) := by decide +kernel
theorem dX12_keyAt_69 : decode cX12_keyAt 69 = .ok (.ldc 88, 2) := by decide +kernel
theorem dX12_keyAt_71 : decode cX12_keyAt 71 = .ok (.iload_n 2, 1) := by decide +kernel
theorem dX12_keyAt_72 : decode cX12_keyAt 72 = .ok (.iload_n 3, 1) := by decide +kernel
theorem dX12_keyAt_73 : decode cX12_keyAt 73 = .ok (.iadd, 1) := by decide +kernel
theorem dX12_keyAt_74 : decode cX12_keyAt 74 = .ok (.invokevirtual 96, 3) := by decide +kernel
theorem dX12_keyAt_77 : decode cX12_keyAt 77 = .ok (.bipush 32, 2) := by decide +kernel
theorem dX12_keyAt_79 : decode cX12_keyAt 79 = .ok (.if_icmp .ne 18, 3) := by decide +kernel
theorem dX12_keyAt_82 : decode cX12_keyAt 82 = .ok (.aload_n 0, 1) := by decide +kernel
theorem dX12_keyAt_83 : decode cX12_keyAt 83 = .ok (.getfield 100, 3) := by decide +kernel
theorem dX12_keyAt_86 : decode cX12_keyAt 86 = .ok (.iload_n 3, 1) := by decide +kernel
theorem dX12_keyAt_87 : decode cX12_keyAt 87 = .ok (.iadd, 1) := by decide +kernel
theorem dX12_keyAt_88 : decode cX12_keyAt 88 = .ok (.aload_n 0, 1) := by decide +kernel
theorem dX12_keyAt_89 : decode cX12_keyAt 89 = .ok (.getfield 103, 3) := by decide +kernel
theorem dX12_keyAt_92 : decode cX12_keyAt 92 = .ok (.if_icmp .ne 5, 3) := by decide +kernel
theorem dX12_keyAt_95 : decode cX12_keyAt 95 = .ok (.iload_n 1, 1) := by decide +kernel
theorem dX12_keyAt_96 : decode cX12_keyAt 96 = .ok (.ireturn, 1) := by decide +kernel
theorem dX12_keyAt_97 : decode cX12_keyAt 97 = .ok (.ldc 88, 2) := by decide +kernel
theorem dX12_keyAt_99 : decode cX12_keyAt 99 = .ok (.iload_n 2, 1) := by decide +kernel
theorem dX12_keyAt_100 : decode cX12_keyAt 100 = .ok (.invokevirtual 96, 3) := by decide +kernel
theorem dX12_keyAt_103 : decode cX12_keyAt 103 = .ok (.bipush 32, 2) := by decide +kernel
theorem dX12_keyAt_105 : decode cX12_keyAt 105 = .ok (.if_icmp .eq 9, 3) := by decide +kernel
theorem dX12_keyAt_108 : decode cX12_keyAt 108 = .ok (.iinc 2 1, 3) := by decide +kernel
theorem dX12_keyAt_111 : decode cX12_keyAt 111 = .ok (.goto (-14), 3) := by decide +kernel
theorem dX12_keyAt_114 : decode cX12_keyAt 114 = .ok (.iinc 2 1, 3) := by decide +kernel
theorem dX12_keyAt_117 : decode cX12_keyAt 117 = .ok (.iinc 1 1, 3) := by decide +kernel
theorem dX12_keyAt_120 : decode cX12_keyAt 120 = .ok (.goto (-116), 3) := by decide +kernel
theorem dX12_keyAt_123 : decode cX12_keyAt 123 = .ok (.bipush 20, 2) := by decide +kernel
theorem dX12_keyAt_125 : decode cX12_keyAt 125 = .ok (.ireturn, 1) := by decide +kernel
theorem dX12_see_0 : decode cX12_see 0 = .ok (.iload_n 1, 1) := by decide +kernel
theorem dX12_see_1 : decode cX12_see 1 = .ok (.aload_n 0, 1) := by decide +kernel
theorem dX12_see_2 : decode cX12_see 2 = .ok (.getfield 85, 3) := by decide +kernel
theorem dX12_see_5 : decode cX12_see 5 = .ok (.if_icmp .ge 12, 3) := by decide +kernel
theorem dX12_see_8 : decode cX12_see 8 = .ok (.aload_n 0, 1) := by decide +kernel
theorem dX12_see_9 : decode cX12_see 9 = .ok (.getfield 21, 3) := by decide +kernel
theorem dX12_see_12 : decode cX12_see 12 = .ok (.iload_n 1, 1) := by decide +kernel
theorem dX12_see_13 : decode cX12_see 13 = .ok (.iaload, 1) := by decide +kernel
theorem dX12_see_14 : decode cX12_see 14 = .ok (.goto 4, 3) := by decide +kernel
theorem dX12_see_17 : decode cX12_see 17 = .ok (.iconst (-1), 1) := by decide +kernel
theorem dX12_see_18 : decode cX12_see 18 = .ok (.ireturn, 1) := by decide +kernel
theorem kw_1226 : Cond.fieldLink "FootholdWallModel" 21 "FootholdWallModel" "tape" "[I" ∈ gw := gw_of (tb_of 1226 (by decide +kernel)) (by decide +kernel)
theorem kw_1229 : Cond.fieldLink "FootholdWallModel" 100 "FootholdWallModel" "at" "I" ∈ gw := gw_of (tb_of 1229 (by decide +kernel)) (by decide +kernel)
theorem kw_1230 : Cond.fieldLink "FootholdWallModel" 103 "FootholdWallModel" "behind" "I" ∈ gw := gw_of (tb_of 1230 (by decide +kernel)) (by decide +kernel)
theorem kw_1231 : Cond.fieldLink "FootholdWallModel" 85 "FootholdWallModel" "size" "I" ∈ gw := gw_of (tb_of 1231 (by decide +kernel)) (by decide +kernel)
theorem kw_1360 : Cond.methodLink "FootholdWallModel" 90 yJ0_length_8abf5 ∈ gw := gw_of (tb_of 1360 (by decide +kernel)) (by decide +kernel)
theorem kw_1361 : Cond.methodLink "FootholdWallModel" 96 yJ0_charAt_5068e ∈ gw := gw_of (tb_of 1361 (by decide +kernel)) (by decide +kernel)
set_option maxHeartbeats 4000000 in
set_option maxRecDepth 100000 in
theorem s_M_isSmall2 (l : Launch) (D : va_G) (cs : CS) (kf : KF) (T : TF) (O : List Nat) (X : va_W) (x0 : Int32)  (hO : okO T O []) : TK l D cs kf yX12_isSmall cX12_isSmall 1 (some (.boolean)) { frames := 0, cells := 0, slots := 0, locals := 0 } [.int x0] T O X (Ti D cs (fun r u => u = (T, O, X) ∧ 0 ≤ r.toInt ∧ r.toInt ≤ 1 ∧ (r.toInt = 0 ∨ (97 ≤ x0.toInt ∧ x0.toInt ≤ 122)) ∧ (¬ r.toInt = 0 ∨ x0.toInt < 97 ∨ 122 < x0.toInt))) := by
  refine tk_of (by decide) (Nat.le_of_ble_eq_true rfl) (fun p e s m below meth c ls A H locs hx hb hr hml hown hts hlocks hnm hkb hH hS hA hOX hks hE hl => ?_)
  have hown : s.vm.findClass RX12 = some m.cls := hown
  have hl : lv_has ls 1 [(0, .int x0)] := hl
  refine lv_iload_n hx hb dX12_isSmall_0 rfl (lv_at hl 0 rfl) ?_
  refine lv_bipush (v := 97) hx hb dX12_isSmall_1 (by decide) ?_
  refine lv_icmp_lt (tgt := 16) hx hb dX12_isSmall_3 (by decide) (fun c3 => ?_) (fun c3 => ?_)
  · skip
    have tc3 := f_lt (k := 97) (by decide) c3
    refine lv_iconst (v := 0) hx hb dX12_isSmall_16 (by decide) ?_
    have z9 : (0 : Int32).toInt = 0 := by decide
    exact te_z hx hb hr hlocks (by rfl) hH hS (⟨rfl, by decide, by decide, by omega, by omega⟩) dX12_isSmall_17
  · skip
    have tc3 := f_nlt (k := 97) (by decide) c3
    refine lv_iload_n hx hb dX12_isSmall_6 rfl (lv_at hl 0 rfl) ?_
    refine lv_bipush (v := 122) hx hb dX12_isSmall_7 (by decide) ?_
    refine lv_icmp_gt (tgt := 16) hx hb dX12_isSmall_9 (by decide) (fun c9 => ?_) (fun c9 => ?_)
    · skip
      have tc9 := f_gt (k := 122) (by decide) c9
      refine lv_iconst (v := 0) hx hb dX12_isSmall_16 (by decide) ?_
      have z9 : (0 : Int32).toInt = 0 := by decide
      exact te_z hx hb hr hlocks (by rfl) hH hS (⟨rfl, by decide, by decide, by omega, by omega⟩) dX12_isSmall_17
    · skip
      have tc9 := f_ngt (k := 122) (by decide) c9
      refine lv_iconst (v := 1) hx hb dX12_isSmall_12 (by decide) ?_
      refine lv_goto (tgt := 17) hx hb dX12_isSmall_13 (by decide) ?_
      have z9 : (1 : Int32).toInt = 1 := by decide
      exact te_z hx hb hr hlocks (by rfl) hH hS (⟨rfl, by decide, by decide, by omega, by omega⟩) dX12_isSmall_17
set_option maxHeartbeats 4000000 in
set_option maxRecDepth 100000 in
theorem s_M_isDigit2 (l : Launch) (D : va_G) (cs : CS) (kf : KF) (T : TF) (O : List Nat) (X : va_W) (x0 : Int32)  (hO : okO T O []) : TK l D cs kf yX12_isDigit cX12_isDigit 1 (some (.boolean)) { frames := 0, cells := 0, slots := 0, locals := 0 } [.int x0] T O X (Ti D cs (fun r u => u = (T, O, X) ∧ 0 ≤ r.toInt ∧ r.toInt ≤ 1 ∧ (r.toInt = 0 ∨ (48 ≤ x0.toInt ∧ x0.toInt ≤ 57)) ∧ (¬ r.toInt = 0 ∨ x0.toInt < 48 ∨ 57 < x0.toInt))) := by
  refine tk_of (by decide) (Nat.le_of_ble_eq_true rfl) (fun p e s m below meth c ls A H locs hx hb hr hml hown hts hlocks hnm hkb hH hS hA hOX hks hE hl => ?_)
  have hown : s.vm.findClass RX12 = some m.cls := hown
  have hl : lv_has ls 1 [(0, .int x0)] := hl
  refine lv_iload_n hx hb dX12_isDigit_0 rfl (lv_at hl 0 rfl) ?_
  refine lv_bipush (v := 48) hx hb dX12_isDigit_1 (by decide) ?_
  refine lv_icmp_lt (tgt := 16) hx hb dX12_isDigit_3 (by decide) (fun c3 => ?_) (fun c3 => ?_)
  · skip
    have tc3 := f_lt (k := 48) (by decide) c3
    refine lv_iconst (v := 0) hx hb dX12_isDigit_16 (by decide) ?_
    have z9 : (0 : Int32).toInt = 0 := by decide
    exact te_z hx hb hr hlocks (by rfl) hH hS (⟨rfl, by decide, by decide, by omega, by omega⟩) dX12_isDigit_17
  · skip
    have tc3 := f_nlt (k := 48) (by decide) c3
    refine lv_iload_n hx hb dX12_isDigit_6 rfl (lv_at hl 0 rfl) ?_
    refine lv_bipush (v := 57) hx hb dX12_isDigit_7 (by decide) ?_
    refine lv_icmp_gt (tgt := 16) hx hb dX12_isDigit_9 (by decide) (fun c9 => ?_) (fun c9 => ?_)
    · skip
      have tc9 := f_gt (k := 57) (by decide) c9
      refine lv_iconst (v := 0) hx hb dX12_isDigit_16 (by decide) ?_
      have z9 : (0 : Int32).toInt = 0 := by decide
      exact te_z hx hb hr hlocks (by rfl) hH hS (⟨rfl, by decide, by decide, by omega, by omega⟩) dX12_isDigit_17
    · skip
      have tc9 := f_ngt (k := 57) (by decide) c9
      refine lv_iconst (v := 1) hx hb dX12_isDigit_12 (by decide) ?_
      refine lv_goto (tgt := 17) hx hb dX12_isDigit_13 (by decide) ?_
      have z9 : (1 : Int32).toInt = 1 := by decide
      exact te_z hx hb hr hlocks (by rfl) hH hS (⟨rfl, by decide, by decide, by omega, by omega⟩) dX12_isDigit_17
set_option maxHeartbeats 4000000 in
set_option maxRecDepth 100000 in
theorem s_M_see (l : Launch) (D : va_G) (cs : CS) (kf : KF) (T : TF) (O : List Nat) (X : va_W) (a0 hg mq : Nat) (x1 : Int32) (o0 : Value) (o1 : Value) (o2 : Value) (y3 : Nat) (y4 : Nat) (o5 : Value) (y6 : Int32) (y7 : Int32) (y8 : Int32) (y9 : Int32) (y10 : Int32) (y11 : Int32) (y12 : Int32) (tl : List Value) (f3 : Nat → Int32) (t_a0 : T a0 = some (22, hg, mq)) (b_hg : hg < 90) (l_x1 : 0 ≤ x1.toInt) (t_y3 : T y3 = some (9, 900, 0)) (t_y4 : T y4 = some (8, 1302, 0)) (l_y6 : 0 ≤ y6.toInt) (u_y6 : y6.toInt ≤ 900) (l_y7 : 0 ≤ y7.toInt) (u_y7 : y7.toInt ≤ 900) (l_y8 : 0 ≤ y8.toInt) (u_y8 : y8.toInt ≤ 900) (l_y10 : 0 ≤ y10.toInt) (u_y10 : y10.toInt ≤ 999) (hO : okO T (a0 :: y3 :: O) []) : TK l D cs kf yX12_see cX12_see 2 (some (.int)) { frames := 0, cells := 0, slots := 0, locals := 0 } [.ref a0, .int x1] T (a0 :: y3 :: O) ((a0, .inr (12, o0 :: o1 :: o2 :: (.ref y3) :: (.ref y4) :: o5 :: (.int y6) :: (.int y7) :: (.int y8) :: (.int y9) :: (.int y10) :: (.int y11) :: (.int y12) :: tl)) :: (y3, .inl (cs.2.1, 900, .inl f3)) :: X) (Ti D cs (fun r u => u = (T, a0 :: y3 :: O, (a0, .inr (12, o0 :: o1 :: o2 :: (.ref y3) :: (.ref y4) :: o5 :: (.int y6) :: (.int y7) :: (.int y8) :: (.int y9) :: (.int y10) :: (.int y11) :: (.int y12) :: tl)) :: (y3, .inl (cs.2.1, 900, .inl f3)) :: X) ∧ (r = seeF f3 y8 x1) ∧ (r.toInt = -1 ∨ x1.toInt < y8.toInt))) := by
  refine tk_of (by decide) (Nat.le_of_ble_eq_true rfl) (fun p e s m below meth c ls A H locs hx hb hr hml hown hts hlocks hnm hkb hH hS hA hOX hks hE hl => ?_)
  have hown : s.vm.findClass RX12 = some m.cls := hown
  have hl : lv_has ls 2 [(0, .ref a0), (1, .int x1)] := hl
  have hOXf := hOX
  refine lv_iload_n hx hb dX12_see_0 rfl (lv_at hl 1 rfl) ?_
  refine lv_aload_n hx hb dX12_see_1 rfl (lv_at hl 0 rfl) ?_
  refine x_getk (ci := 12) (C := RX12) (F := TX12) (N := 36) (v := .int y8) hx hb hts uX12 hown hkb hH 0 rfl rfl 8 (by decide) rfl kw_1231 (fun _ h9 => h9) dX12_see_2 ?_
  refine lv_icmp_ge (tgt := 17) hx hb dX12_see_5 (by decide) (fun c5 => ?_) (fun c5 => ?_)
  · skip
    have fuc5 := full_i x1
    have fvc5 := full_i y8
    have tc5 := g_le c5
    refine lv_iconst (v := (-1)) hx hb dX12_see_17 (by decide) ?_
    have z9_m1 : ((-1) : Int32).toInt = -1 := by decide
    exact te_i hx hb hr hlocks hH hS (⟨rfl, see_ge tc5, by omega⟩) dX12_see_18
  · skip
    have fuc5 := full_i x1
    have fvc5 := full_i y8
    have tc5 := g_nle c5
    refine lv_aload_n hx hb dX12_see_8 rfl (lv_at hl 0 rfl) ?_
    refine x_getk (ci := 12) (C := RX12) (F := TX12) (N := 36) (v := .ref y3) hx hb hts uX12 hown hkb hH 0 rfl rfl 3 (by decide) rfl kw_1226 (fun _ h9 => h9) dX12_see_9 ?_
    refine lv_iload_n hx hb dX12_see_12 rfl (lv_at hl 1 rfl) ?_
    refine xa_ild hx hb hkb hH 1 rfl (by omega) (by omega) dX12_see_13 ?_
    refine lv_topi (fun v13 ev13 => ?_)
    have tv13 : v13 = f3 x1.toInt.toNat := ev13
    refine lv_goto (tgt := 18) hx hb dX12_see_14 (by decide) ?_
    exact te_i hx hb hr hlocks hH hS (⟨rfl, see_lt tc5 tv13, by omega⟩) dX12_see_18
set_option maxHeartbeats 4000000 in
set_option maxRecDepth 100000 in
theorem s_M_keyAt (l : Launch) (D : va_G) (cs : CS) (kf : KF) (T : TF) (O : List Nat) (X : va_W) (a0 hg mq : Nat) (o0 : Value) (o1 : Value) (o2 : Value) (y3 : Nat) (y4 : Nat) (o5 : Value) (y6 : Int32) (y7 : Int32) (y8 : Int32) (y9 : Int32) (y10 : Int32) (y11 : Int32) (y12 : Int32) (tl : List Value) (f3 : Nat → Int32) (t : Tp) (tn : Nat) (t_a0 : T a0 = some (22, hg, mq)) (b_hg : hg < 90) (t_y3 : T y3 = some (9, 900, 0)) (t_y4 : T y4 = some (8, 1302, 0)) (l_y6 : 0 ≤ y6.toInt) (u_y6 : y6.toInt ≤ 900) (l_y7 : 0 ≤ y7.toInt) (u_y7 : y7.toInt ≤ 900) (l_y8 : 0 ≤ y8.toInt) (u_y8 : y8.toInt ≤ 900) (l_y10 : 0 ≤ y10.toInt) (u_y10 : y10.toInt ≤ 999) (hn : y8.toInt = (tn : Int)) (htm : TM f3 t) (k1 : y6.toInt ≤ y7.toInt) (hO : okO T (a0 :: y3 :: O) []) : TK l D cs kf yX12_keyAt cX12_keyAt 4 (some (.int)) { frames := 4, cells := 0, slots := 0, locals := 85 } [.ref a0] T (a0 :: y3 :: O) ((a0, .inr (12, o0 :: o1 :: o2 :: (.ref y3) :: (.ref y4) :: o5 :: (.int y6) :: (.int y7) :: (.int y8) :: (.int y9) :: (.int y10) :: (.int y11) :: (.int y12) :: tl)) :: (y3, .inl (cs.2.1, 900, .inl f3)) :: X) (Ti D cs (fun r u => u = (T, a0 :: y3 :: O, (a0, .inr (12, o0 :: o1 :: o2 :: (.ref y3) :: (.ref y4) :: o5 :: (.int y6) :: (.int y7) :: (.int y8) :: (.int y9) :: (.int y10) :: (.int y11) :: (.int y12) :: tl)) :: (y3, .inl (cs.2.1, 900, .inl f3)) :: X) ∧ 0 ≤ r.toInt ∧ r.toInt ≤ 20 ∧ (r.toInt = (wk t y6.toInt.toNat y7.toInt.toNat : Int)))) := by
  refine tk_of (by decide) (Nat.le_of_ble_eq_true rfl) (fun p e s m below meth c ls A H locs hx hb hr hml hown hts hlocks hnm hkb hH hS hA hOX hks hE hl => ?_)
  have hown : s.vm.findClass RX12 = some m.cls := hown
  have hl : lv_has ls 4 [(0, .ref a0)] := hl
  have hOXf := hOX
  have hs20 : slen.getD 20 0 = 87 := by decide
  refine lv_iconst (v := 0) hx hb dX12_keyAt_0 (by decide) ?_
  refine lv_istore_n (lv' := [(1, .int 0), (0, .ref a0)]) hx hb dX12_keyAt_1 rfl hl (by decide) rfl (fun ls hl => ?_)
  refine lv_iconst (v := 1) hx hb dX12_keyAt_2 (by decide) ?_
  have J4 : ∀ (n : Nat) (p4_2 : Int32) (p4_1 : Int32) (H : Heap) (locs : List Loc) (ls : Array Slot), (87 - p4_2.toInt).toNat = n → (1 ≤ p4_2.toInt) → (p4_2.toInt ≤ 87) → (0 ≤ p4_1.toInt) → (p4_1.toInt ≤ 19) → (p4_2.toInt = (kof.getD p4_1.toInt.toNat 0 : Nat)) → (KN t y6 y7 p4_1.toInt.toNat) → HT D cs A T (a0 :: y3 :: O) ((a0, .inr (12, o0 :: o1 :: o2 :: (.ref y3) :: (.ref y4) :: o5 :: (.int y6) :: (.int y7) :: (.int y8) :: (.int y9) :: (.int y10) :: (.int y11) :: (.int y12) :: tl)) :: (y3, .inl (cs.2.1, 900, .inl f3)) :: X) H → va_S A s.heap H locs → lv_has ls 4 [(2, .int p4_2), (1, .int p4_1), (0, .ref a0)] → W p l e { frames := 4, cells := 0, slots := 0, locals := 85 } s m [.ref a0].toArray below meth c H locs 0 0 (MQ below (Ti D cs (fun r u => u = (T, a0 :: y3 :: O, (a0, .inr (12, o0 :: o1 :: o2 :: (.ref y3) :: (.ref y4) :: o5 :: (.int y6) :: (.int y7) :: (.int y8) :: (.int y9) :: (.int y10) :: (.int y11) :: (.int y12) :: tl)) :: (y3, .inl (cs.2.1, 900, .inl f3)) :: X) ∧ 0 ≤ r.toInt ∧ r.toInt ≤ 20 ∧ (r.toInt = (wk t y6.toInt.toNat y7.toInt.toNat : Int))) A) [.ref a0].toArray s 0 0 A) (F0 m 4 ls []) := by
    intro n
    induction n using Nat.strongRecOn with
    | _ n ih4 =>
      intro p4_2 p4_1 H locs ls hm4 l_p4_2 u_p4_2 l_p4_1 u_p4_1 i4a i4b hH hS hl
      refine lv_iload_n hx hb dX12_keyAt_4 rfl (lv_at hl 0 rfl) ?_
      refine va_ldcS (q := kf.1 20) hx hb hown (hks ("FootholdWallModel", 88, " hold guide leg weight step used by broken day start top wide ice or and not dx up far ", 20) (by decide +kernel)) dX12_keyAt_5 ?_
      refine tk_i hH hS hA (tr_V (n := 0) (As := []) hx hb hml hown hts hkb hH (ox_map hOX rfl) hks hE hS hA (s_length l D cs kf T (a0 :: y3 :: O) ((a0, .inr (12, o0 :: o1 :: o2 :: (.ref y3) :: (.ref y4) :: o5 :: (.int y6) :: (.int y7) :: (.int y8) :: (.int y9) :: (.int y10) :: (.int y11) :: (.int y12) :: tl)) :: (y3, .inl (cs.2.1, 900, .inl f3)) :: X) 20 (by decide) (hO.sub (by decide))) kw_1360 kw_478 kw_479 kw_14 kw_480 (by decide +kernel) ⟨Nat.le_of_ble_eq_true rfl, Nat.le_of_ble_eq_true rfl⟩ (vk_recv hE.1 (by decide) hS) rfl rfl hl.1 (Nat.le_of_ble_eq_true rfl) dX12_keyAt_7 ⟨Nat.le_of_ble_eq_true rfl, Nat.le_of_ble_eq_true rfl⟩) (fun v7 u H locs hz9 hH hS => ?_)
      obtain ⟨rfl, l_v7, u_v7, x_v70⟩ := hz9
      have hH : HT D cs A T (a0 :: y3 :: O) ((a0, .inr (12, o0 :: o1 :: o2 :: (.ref y3) :: (.ref y4) :: o5 :: (.int y6) :: (.int y7) :: (.int y8) :: (.int y9) :: (.int y10) :: (.int y11) :: (.int y12) :: tl)) :: (y3, .inl (cs.2.1, 900, .inl f3)) :: X) H := hH
      refine W.widen (k := 0) (n := 0) (Nat.le_of_ble_eq_true rfl) (Nat.le_of_ble_eq_true rfl) ?_
      refine lv_icmp_ge (tgt := 123) hx hb dX12_keyAt_10 (by decide) (fun c10 => ?_) (fun c10 => ?_)
      · skip
        have fuc10 := full_i p4_2
        have fvc10 := full_i v7
        have tc10 := g_le c10
        have hk123 := kof_b p4_1.toInt.toNat (by omega)
        refine lv_bipush (v := 20) hx hb dX12_keyAt_123 (by decide) ?_
        have z9_20 : (20 : Int32).toInt = 20 := by decide
        exact te_i hx hb hr hlocks hH hS (⟨rfl, by decide, by decide, KN_e i4b (by omega)⟩) dX12_keyAt_125
      · skip
        have fuc10 := full_i p4_2
        have fvc10 := full_i v7
        have tc10 := g_nle c10
        have hk13 := kof_b p4_1.toInt.toNat (by omega)
        have hk14 := kof_e p4_1.toInt.toNat (by omega)
        have hk15 := kof_b (p4_1.toInt.toNat + 1) (by omega)
        refine lv_iconst (v := 0) hx hb dX12_keyAt_13 (by decide) ?_
        have J15 : ∀ (n : Nat) (p15_3 : Int32) (H : Heap) (locs : List Loc) (ls : Array Slot), (86 - p15_3.toInt).toNat = n → (0 ≤ p15_3.toInt) → (p15_3.toInt ≤ 86) → (KI t y6 y7 p4_1 p4_2 p15_3) → (p4_2.toInt + p15_3.toInt ≤ 86) → HT D cs A T (a0 :: y3 :: O) ((a0, .inr (12, o0 :: o1 :: o2 :: (.ref y3) :: (.ref y4) :: o5 :: (.int y6) :: (.int y7) :: (.int y8) :: (.int y9) :: (.int y10) :: (.int y11) :: (.int y12) :: tl)) :: (y3, .inl (cs.2.1, 900, .inl f3)) :: X) H → va_S A s.heap H locs → lv_has ls 4 [(3, .int p15_3), (2, .int p4_2), (1, .int p4_1), (0, .ref a0)] → W p l e { frames := 4, cells := 0, slots := 0, locals := 85 } s m [.ref a0].toArray below meth c H locs 0 0 (MQ below (Ti D cs (fun r u => u = (T, a0 :: y3 :: O, (a0, .inr (12, o0 :: o1 :: o2 :: (.ref y3) :: (.ref y4) :: o5 :: (.int y6) :: (.int y7) :: (.int y8) :: (.int y9) :: (.int y10) :: (.int y11) :: (.int y12) :: tl)) :: (y3, .inl (cs.2.1, 900, .inl f3)) :: X) ∧ 0 ≤ r.toInt ∧ r.toInt ≤ 20 ∧ (r.toInt = (wk t y6.toInt.toNat y7.toInt.toNat : Int))) A) [.ref a0].toArray s 0 0 A) (F0 m 15 ls []) := by
          intro n
          induction n using Nat.strongRecOn with
          | _ n ih15 =>
            intro p15_3 H locs ls hm15 l_p15_3 u_p15_3 i15 i15b hH hS hl
            refine va_ldcS (q := kf.1 20) hx hb hown (hks ("FootholdWallModel", 88, " hold guide leg weight step used by broken day start top wide ice or and not dx up far ", 20) (by decide +kernel)) dX12_keyAt_15 ?_
            refine lv_iload_n hx hb dX12_keyAt_17 rfl (lv_at hl 1 rfl) ?_
            refine lv_iload_n hx hb dX12_keyAt_18 rfl (lv_at hl 0 rfl) ?_
            refine lv_iadd hx hb dX12_keyAt_19 ?_
            refine lv_topi (fun v19 ev19 => ?_)
            have tv19 : v19.toInt = p4_2.toInt + p15_3.toInt := by rw [ev19]; exact add_i rfl rfl (by omega) (by omega)
            refine tk_i hH hS hA (tr_V (n := 1) (As := [.int v19]) hx hb hml hown hts hkb hH (ox_map hOX rfl) hks hE hS hA (s_charAt2 l D cs kf T (a0 :: y3 :: O) ((a0, .inr (12, o0 :: o1 :: o2 :: (.ref y3) :: (.ref y4) :: o5 :: (.int y6) :: (.int y7) :: (.int y8) :: (.int y9) :: (.int y10) :: (.int y11) :: (.int y12) :: tl)) :: (y3, .inl (cs.2.1, 900, .inl f3)) :: X) 20 v19 (by decide) (by omega) (by omega) (hO.sub (by decide))) kw_1361 kw_556 kw_557 kw_14 kw_558 (by decide +kernel) ⟨Nat.le_of_ble_eq_true rfl, Nat.le_of_ble_eq_true rfl⟩ (vk_recv hE.1 (by decide) hS) rfl rfl hl.1 (Nat.le_of_ble_eq_true rfl) dX12_keyAt_20 ⟨Nat.le_of_ble_eq_true rfl, Nat.le_of_ble_eq_true rfl⟩) (fun v20 u H locs hz9 hH hS => ?_)
            obtain ⟨rfl, l_v20, u_v20, x_v200⟩ := hz9
            have hH : HT D cs A T (a0 :: y3 :: O) ((a0, .inr (12, o0 :: o1 :: o2 :: (.ref y3) :: (.ref y4) :: o5 :: (.int y6) :: (.int y7) :: (.int y8) :: (.int y9) :: (.int y10) :: (.int y11) :: (.int y12) :: tl)) :: (y3, .inl (cs.2.1, 900, .inl f3)) :: X) H := hH
            refine W.widen (k := 0) (n := 0) (Nat.le_of_ble_eq_true rfl) (Nat.le_of_ble_eq_true rfl) ?_
            refine lv_bipush (v := 32) hx hb dX12_keyAt_23 (by decide) ?_
            have J97 : ∀ (n : Nat) (p97_2 : Int32) (H : Heap) (locs : List Loc) (ls : Array Slot), (86 - p97_2.toInt).toNat = n → (1 ≤ p97_2.toInt) → (p97_2.toInt ≤ 86) → (p4_2.toInt ≤ p97_2.toInt ∧ p97_2.toInt ≤ (kof.getD p4_1.toInt.toNat 0 : Nat) + (slen.getD (kst.getD p4_1.toInt.toNat 0) 0 : Nat)) → (¬ wis (kst.getD p4_1.toInt.toNat 0) t y6.toInt.toNat y7.toInt.toNat) → HT D cs A T (a0 :: y3 :: O) ((a0, .inr (12, o0 :: o1 :: o2 :: (.ref y3) :: (.ref y4) :: o5 :: (.int y6) :: (.int y7) :: (.int y8) :: (.int y9) :: (.int y10) :: (.int y11) :: (.int y12) :: tl)) :: (y3, .inl (cs.2.1, 900, .inl f3)) :: X) H → va_S A s.heap H locs → lv_has ls 4 [(2, .int p97_2), (1, .int p4_1), (0, .ref a0)] → W p l e { frames := 4, cells := 0, slots := 0, locals := 85 } s m [.ref a0].toArray below meth c H locs 0 0 (MQ below (Ti D cs (fun r u => u = (T, a0 :: y3 :: O, (a0, .inr (12, o0 :: o1 :: o2 :: (.ref y3) :: (.ref y4) :: o5 :: (.int y6) :: (.int y7) :: (.int y8) :: (.int y9) :: (.int y10) :: (.int y11) :: (.int y12) :: tl)) :: (y3, .inl (cs.2.1, 900, .inl f3)) :: X) ∧ 0 ≤ r.toInt ∧ r.toInt ≤ 20 ∧ (r.toInt = (wk t y6.toInt.toNat y7.toInt.toNat : Int))) A) [.ref a0].toArray s 0 0 A) (F0 m 97 ls []) := by
              intro n
              induction n using Nat.strongRecOn with
              | _ n ih97 =>
                intro p97_2 H locs ls hm97 l_p97_2 u_p97_2 i97 i97w hH hS hl
                refine va_ldcS (q := kf.1 20) hx hb hown (hks ("FootholdWallModel", 88, " hold guide leg weight step used by broken day start top wide ice or and not dx up far ", 20) (by decide +kernel)) dX12_keyAt_97 ?_
                refine lv_iload_n hx hb dX12_keyAt_99 rfl (lv_at hl 0 rfl) ?_
                refine tk_i hH hS hA (tr_V (n := 1) (As := [.int p97_2]) hx hb hml hown hts hkb hH (ox_map hOX rfl) hks hE hS hA (s_charAt2 l D cs kf T (a0 :: y3 :: O) ((a0, .inr (12, o0 :: o1 :: o2 :: (.ref y3) :: (.ref y4) :: o5 :: (.int y6) :: (.int y7) :: (.int y8) :: (.int y9) :: (.int y10) :: (.int y11) :: (.int y12) :: tl)) :: (y3, .inl (cs.2.1, 900, .inl f3)) :: X) 20 p97_2 (by decide) (by omega) (by omega) (hO.sub (by decide))) kw_1361 kw_556 kw_557 kw_14 kw_558 (by decide +kernel) ⟨Nat.le_of_ble_eq_true rfl, Nat.le_of_ble_eq_true rfl⟩ (vk_recv hE.1 (by decide) hS) rfl rfl hl.1 (Nat.le_of_ble_eq_true rfl) dX12_keyAt_100 ⟨Nat.le_of_ble_eq_true rfl, Nat.le_of_ble_eq_true rfl⟩) (fun v100 u H locs hz9 hH hS => ?_)
                obtain ⟨rfl, l_v100, u_v100, x_v1000⟩ := hz9
                have hH : HT D cs A T (a0 :: y3 :: O) ((a0, .inr (12, o0 :: o1 :: o2 :: (.ref y3) :: (.ref y4) :: o5 :: (.int y6) :: (.int y7) :: (.int y8) :: (.int y9) :: (.int y10) :: (.int y11) :: (.int y12) :: tl)) :: (y3, .inl (cs.2.1, 900, .inl f3)) :: X) H := hH
                refine W.widen (k := 0) (n := 0) (Nat.le_of_ble_eq_true rfl) (Nat.le_of_ble_eq_true rfl) ?_
                refine lv_bipush (v := 32) hx hb dX12_keyAt_103 (by decide) ?_
                refine lv_icmp_eq (tgt := 114) hx hb dX12_keyAt_105 (by decide) (fun c105 => ?_) (fun c105 => ?_)
                · skip
                  have tc105 := f_eq (k := 32) (by decide) c105
                  have hk114 := (key_sk (m := p4_1) (by omega) (by omega) (by omega) (by omega) x_v1000).resolve_right (fun q => q.1 tc105)
                  obtain ⟨v114, ev114⟩ : ∃ y : Int32, y = p97_2 + 1 := ⟨_, rfl⟩
                  have tv114 : v114.toInt = p97_2.toInt + (1) := by rw [ev114]; exact add_i rfl (by decide) (by omega) (by omega)
                  refine lv_iinc (v := v114) (lv' := [(2, .int v114), (1, .int p4_1), (0, .ref a0)]) hx hb dX12_keyAt_114 hl (k := 0) rfl (by rw [ev114]; rfl) (by decide) rfl (fun ls hl => ?_)
                  obtain ⟨v117, ev117⟩ : ∃ y : Int32, y = p4_1 + 1 := ⟨_, rfl⟩
                  have tv117 : v117.toInt = p4_1.toInt + (1) := by rw [ev117]; exact add_i rfl (by decide) (by omega) (by omega)
                  refine lv_iinc (v := v117) (lv' := [(1, .int v117), (2, .int v114), (0, .ref a0)]) hx hb dX12_keyAt_117 hl (k := 1) rfl (by rw [ev117]; rfl) (by decide) rfl (fun ls hl => ?_)
                  refine lv_goto (tgt := 4) hx hb dX12_keyAt_120 (by decide) ?_
                  exact ih4 _ (by omega) v114 v117 _ _ _ rfl (by omega) (by omega) (by omega) (by omega) (by first | decide | (rw [show v117.toInt.toNat = p4_1.toInt.toNat + 1 by omega]; omega)) (by first | (intro j9 hj9; exfalso; have z8 : (0 : Int32).toInt.toNat = 0 := (by decide); omega) | (refine KN_s i4b ?_ tv117 i97w; omega)) hH hS (lv_sub hl [1, 0, 2] rfl)
                · skip
                  have tc105 := f_ne (k := 32) (by decide) c105
                  have hk108 := (key_sk (m := p4_1) (by omega) (by omega) (by omega) (by omega) x_v1000).resolve_left (fun q => tc105 q.1)
                  obtain ⟨v108, ev108⟩ : ∃ y : Int32, y = p97_2 + 1 := ⟨_, rfl⟩
                  have tv108 : v108.toInt = p97_2.toInt + (1) := by rw [ev108]; exact add_i rfl (by decide) (by omega) (by omega)
                  refine lv_iinc (v := v108) (lv' := [(2, .int v108), (1, .int p4_1), (0, .ref a0)]) hx hb dX12_keyAt_108 hl (k := 0) rfl (by rw [ev108]; rfl) (by decide) rfl (fun ls hl => ?_)
                  refine lv_goto (tgt := 97) hx hb dX12_keyAt_111 (by decide) ?_
                  exact ih97 _ (by omega) v108 _ _ _ rfl (by omega) (by omega) (by omega) (by first | exact i97w | (refine KI_n1 i15 tv73 x_v740 tc79 l_y6 ?_; omega) | (exfalso; exact tc79 (by rw [x_v740, show v73.toInt.toNat = v19.toInt.toNat by omega, ← x_v200]; exact tc25)) | (refine KI_n2 i15 tv19 x_v200 tc25 l_y6 ?_; omega) | (refine KI_n3 htm i15 tv19 x_v200 tc25 l_y6 tv51 tv50 ?_ tc60; rw [x_v570, x_v200, show v56.toInt.toNat = v19.toInt.toNat by omega])) hH hS (lv_sub hl [0, 1, 2] rfl)
            refine lv_icmp_eq (tgt := 69) hx hb dX12_keyAt_25 (by decide) (fun c25 => ?_) (fun c25 => ?_)
            · skip
              have tc25 := f_eq (k := 32) (by decide) c25
              have hi69 := id i15
              obtain ⟨_, _, _, hi63, hi64, hi65, _⟩ := hi69
              refine va_ldcS (q := kf.1 20) hx hb hown (hks ("FootholdWallModel", 88, " hold guide leg weight step used by broken day start top wide ice or and not dx up far ", 20) (by decide +kernel)) dX12_keyAt_69 ?_
              refine lv_iload_n hx hb dX12_keyAt_71 rfl (lv_at hl 1 rfl) ?_
              refine lv_iload_n hx hb dX12_keyAt_72 rfl (lv_at hl 0 rfl) ?_
              refine lv_iadd hx hb dX12_keyAt_73 ?_
              refine lv_topi (fun v73 ev73 => ?_)
              have tv73 : v73.toInt = p4_2.toInt + p15_3.toInt := by rw [ev73]; exact add_i rfl rfl (by omega) (by omega)
              refine tk_i hH hS hA (tr_V (n := 1) (As := [.int v73]) hx hb hml hown hts hkb hH (ox_map hOX rfl) hks hE hS hA (s_charAt2 l D cs kf T (a0 :: y3 :: O) ((a0, .inr (12, o0 :: o1 :: o2 :: (.ref y3) :: (.ref y4) :: o5 :: (.int y6) :: (.int y7) :: (.int y8) :: (.int y9) :: (.int y10) :: (.int y11) :: (.int y12) :: tl)) :: (y3, .inl (cs.2.1, 900, .inl f3)) :: X) 20 v73 (by decide) (by omega) (by omega) (hO.sub (by decide))) kw_1361 kw_556 kw_557 kw_14 kw_558 (by decide +kernel) ⟨Nat.le_of_ble_eq_true rfl, Nat.le_of_ble_eq_true rfl⟩ (vk_recv hE.1 (by decide) hS) rfl rfl hl.1 (Nat.le_of_ble_eq_true rfl) dX12_keyAt_74 ⟨Nat.le_of_ble_eq_true rfl, Nat.le_of_ble_eq_true rfl⟩) (fun v74 u H locs hz9 hH hS => ?_)
              obtain ⟨rfl, l_v74, u_v74, x_v740⟩ := hz9
              have hH : HT D cs A T (a0 :: y3 :: O) ((a0, .inr (12, o0 :: o1 :: o2 :: (.ref y3) :: (.ref y4) :: o5 :: (.int y6) :: (.int y7) :: (.int y8) :: (.int y9) :: (.int y10) :: (.int y11) :: (.int y12) :: tl)) :: (y3, .inl (cs.2.1, 900, .inl f3)) :: X) H := hH
              refine W.widen (k := 0) (n := 0) (Nat.le_of_ble_eq_true rfl) (Nat.le_of_ble_eq_true rfl) ?_
              refine lv_bipush (v := 32) hx hb dX12_keyAt_77 (by decide) ?_
              refine lv_icmp_ne (tgt := 97) hx hb dX12_keyAt_79 (by decide) (fun c79 => ?_) (fun c79 => ?_)
              · skip
                have tc79 := f_ne (k := 32) (by decide) c79
                exact J97 _ p4_2 _ _ _ rfl (by omega) (by omega) (by omega) (by first | exact i97w | (refine KI_n1 i15 tv73 x_v740 tc79 l_y6 ?_; omega) | (exfalso; exact tc79 (by rw [x_v740, show v73.toInt.toNat = v19.toInt.toNat by omega, ← x_v200]; exact tc25)) | (refine KI_n2 i15 tv19 x_v200 tc25 l_y6 ?_; omega) | (refine KI_n3 htm i15 tv19 x_v200 tc25 l_y6 tv51 tv50 ?_ tc60; rw [x_v570, x_v200, show v56.toInt.toNat = v19.toInt.toNat by omega])) hH hS (lv_sub hl [1, 2, 3] rfl)
              · skip
                have tc79 := f_eq (k := 32) (by decide) c79
                refine lv_aload_n hx hb dX12_keyAt_82 rfl (lv_at hl 3 rfl) ?_
                refine x_getk (ci := 12) (C := RX12) (F := TX12) (N := 36) (v := .int y6) hx hb hts uX12 hown hkb hH 0 rfl rfl 6 (by decide) rfl kw_1229 (fun _ h9 => h9) dX12_keyAt_83 ?_
                refine lv_iload_n hx hb dX12_keyAt_86 rfl (lv_at hl 0 rfl) ?_
                refine lv_iadd hx hb dX12_keyAt_87 ?_
                refine lv_topi (fun v87 ev87 => ?_)
                have tv87 : v87.toInt = y6.toInt + p15_3.toInt := by rw [ev87]; exact add_i rfl rfl (by omega) (by omega)
                refine lv_aload_n hx hb dX12_keyAt_88 rfl (lv_at hl 3 rfl) ?_
                refine x_getk (ci := 12) (C := RX12) (F := TX12) (N := 36) (v := .int y7) hx hb hts uX12 hown hkb hH 0 rfl rfl 7 (by decide) rfl kw_1230 (fun _ h9 => h9) dX12_keyAt_89 ?_
                refine lv_icmp_ne (tgt := 97) hx hb dX12_keyAt_92 (by decide) (fun c92 => ?_) (fun c92 => ?_)
                · skip
                  have fuc92 := full_i v87
                  have fvc92 := full_i y7
                  have tc92 := g_ne c92
                  exact J97 _ p4_2 _ _ _ rfl (by omega) (by omega) (by omega) (by first | exact i97w | (refine KI_n1 i15 tv73 x_v740 tc79 l_y6 ?_; omega) | (exfalso; exact tc79 (by rw [x_v740, show v73.toInt.toNat = v19.toInt.toNat by omega, ← x_v200]; exact tc25)) | (refine KI_n2 i15 tv19 x_v200 tc25 l_y6 ?_; omega) | (refine KI_n3 htm i15 tv19 x_v200 tc25 l_y6 tv51 tv50 ?_ tc60; rw [x_v570, x_v200, show v56.toInt.toNat = v19.toInt.toNat by omega])) hH hS (lv_sub hl [1, 2, 3] rfl)
                · skip
                  have fuc92 := full_i v87
                  have fvc92 := full_i y7
                  have tc92 := g_eq c92
                  refine lv_iload_n hx hb dX12_keyAt_95 rfl (lv_at hl 2 rfl) ?_
                  exact te_i hx hb hr hlocks hH hS (⟨rfl, by omega, by omega, KI_y i15 tv73 x_v740 tc79 l_y6 (by omega)⟩) dX12_keyAt_96
            · skip
              have tc25 := f_ne (k := 32) (by decide) c25
              have hk28 := KI_b i15 tv19 x_v200 tc25
              refine lv_aload_n hx hb dX12_keyAt_28 rfl (lv_at hl 3 rfl) ?_
              refine x_getk (ci := 12) (C := RX12) (F := TX12) (N := 36) (v := .int y6) hx hb hts uX12 hown hkb hH 0 rfl rfl 6 (by decide) rfl kw_1229 (fun _ h9 => h9) dX12_keyAt_29 ?_
              refine lv_iload_n hx hb dX12_keyAt_32 rfl (lv_at hl 0 rfl) ?_
              refine lv_iadd hx hb dX12_keyAt_33 ?_
              refine lv_topi (fun v33 ev33 => ?_)
              have tv33 : v33.toInt = y6.toInt + p15_3.toInt := by rw [ev33]; exact add_i rfl rfl (by omega) (by omega)
              refine lv_aload_n hx hb dX12_keyAt_34 rfl (lv_at hl 3 rfl) ?_
              refine x_getk (ci := 12) (C := RX12) (F := TX12) (N := 36) (v := .int y7) hx hb hts uX12 hown hkb hH 0 rfl rfl 7 (by decide) rfl kw_1230 (fun _ h9 => h9) dX12_keyAt_35 ?_
              refine lv_icmp_ge (tgt := 69) hx hb dX12_keyAt_38 (by decide) (fun c38 => ?_) (fun c38 => ?_)
              · skip
                have fuc38 := full_i v33
                have fvc38 := full_i y7
                have tc38 := g_le c38
                have hi69 := id i15
                obtain ⟨_, _, _, hi63, hi64, hi65, _⟩ := hi69
                refine va_ldcS (q := kf.1 20) hx hb hown (hks ("FootholdWallModel", 88, " hold guide leg weight step used by broken day start top wide ice or and not dx up far ", 20) (by decide +kernel)) dX12_keyAt_69 ?_
                refine lv_iload_n hx hb dX12_keyAt_71 rfl (lv_at hl 1 rfl) ?_
                refine lv_iload_n hx hb dX12_keyAt_72 rfl (lv_at hl 0 rfl) ?_
                refine lv_iadd hx hb dX12_keyAt_73 ?_
                refine lv_topi (fun v73 ev73 => ?_)
                have tv73 : v73.toInt = p4_2.toInt + p15_3.toInt := by rw [ev73]; exact add_i rfl rfl (by omega) (by omega)
                refine tk_i hH hS hA (tr_V (n := 1) (As := [.int v73]) hx hb hml hown hts hkb hH (ox_map hOX rfl) hks hE hS hA (s_charAt2 l D cs kf T (a0 :: y3 :: O) ((a0, .inr (12, o0 :: o1 :: o2 :: (.ref y3) :: (.ref y4) :: o5 :: (.int y6) :: (.int y7) :: (.int y8) :: (.int y9) :: (.int y10) :: (.int y11) :: (.int y12) :: tl)) :: (y3, .inl (cs.2.1, 900, .inl f3)) :: X) 20 v73 (by decide) (by omega) (by omega) (hO.sub (by decide))) kw_1361 kw_556 kw_557 kw_14 kw_558 (by decide +kernel) ⟨Nat.le_of_ble_eq_true rfl, Nat.le_of_ble_eq_true rfl⟩ (vk_recv hE.1 (by decide) hS) rfl rfl hl.1 (Nat.le_of_ble_eq_true rfl) dX12_keyAt_74 ⟨Nat.le_of_ble_eq_true rfl, Nat.le_of_ble_eq_true rfl⟩) (fun v74 u H locs hz9 hH hS => ?_)
                obtain ⟨rfl, l_v74, u_v74, x_v740⟩ := hz9
                have hH : HT D cs A T (a0 :: y3 :: O) ((a0, .inr (12, o0 :: o1 :: o2 :: (.ref y3) :: (.ref y4) :: o5 :: (.int y6) :: (.int y7) :: (.int y8) :: (.int y9) :: (.int y10) :: (.int y11) :: (.int y12) :: tl)) :: (y3, .inl (cs.2.1, 900, .inl f3)) :: X) H := hH
                refine W.widen (k := 0) (n := 0) (Nat.le_of_ble_eq_true rfl) (Nat.le_of_ble_eq_true rfl) ?_
                refine lv_bipush (v := 32) hx hb dX12_keyAt_77 (by decide) ?_
                refine lv_icmp_ne (tgt := 97) hx hb dX12_keyAt_79 (by decide) (fun c79 => ?_) (fun c79 => ?_)
                · skip
                  have tc79 := f_ne (k := 32) (by decide) c79
                  exact J97 _ p4_2 _ _ _ rfl (by omega) (by omega) (by omega) (by first | exact i97w | (refine KI_n1 i15 tv73 x_v740 tc79 l_y6 ?_; omega) | (exfalso; exact tc79 (by rw [x_v740, show v73.toInt.toNat = v19.toInt.toNat by omega, ← x_v200]; exact tc25)) | (refine KI_n2 i15 tv19 x_v200 tc25 l_y6 ?_; omega) | (refine KI_n3 htm i15 tv19 x_v200 tc25 l_y6 tv51 tv50 ?_ tc60; rw [x_v570, x_v200, show v56.toInt.toNat = v19.toInt.toNat by omega])) hH hS (lv_sub hl [1, 2, 3] rfl)
                · skip
                  have tc79 := f_eq (k := 32) (by decide) c79
                  refine lv_aload_n hx hb dX12_keyAt_82 rfl (lv_at hl 3 rfl) ?_
                  refine x_getk (ci := 12) (C := RX12) (F := TX12) (N := 36) (v := .int y6) hx hb hts uX12 hown hkb hH 0 rfl rfl 6 (by decide) rfl kw_1229 (fun _ h9 => h9) dX12_keyAt_83 ?_
                  refine lv_iload_n hx hb dX12_keyAt_86 rfl (lv_at hl 0 rfl) ?_
                  refine lv_iadd hx hb dX12_keyAt_87 ?_
                  refine lv_topi (fun v87 ev87 => ?_)
                  have tv87 : v87.toInt = y6.toInt + p15_3.toInt := by rw [ev87]; exact add_i rfl rfl (by omega) (by omega)
                  refine lv_aload_n hx hb dX12_keyAt_88 rfl (lv_at hl 3 rfl) ?_
                  refine x_getk (ci := 12) (C := RX12) (F := TX12) (N := 36) (v := .int y7) hx hb hts uX12 hown hkb hH 0 rfl rfl 7 (by decide) rfl kw_1230 (fun _ h9 => h9) dX12_keyAt_89 ?_
                  refine lv_icmp_ne (tgt := 97) hx hb dX12_keyAt_92 (by decide) (fun c92 => ?_) (fun c92 => ?_)
                  · skip
                    have fuc92 := full_i v87
                    have fvc92 := full_i y7
                    have tc92 := g_ne c92
                    exact J97 _ p4_2 _ _ _ rfl (by omega) (by omega) (by omega) (by first | exact i97w | (refine KI_n1 i15 tv73 x_v740 tc79 l_y6 ?_; omega) | (exfalso; exact tc79 (by rw [x_v740, show v73.toInt.toNat = v19.toInt.toNat by omega, ← x_v200]; exact tc25)) | (refine KI_n2 i15 tv19 x_v200 tc25 l_y6 ?_; omega) | (refine KI_n3 htm i15 tv19 x_v200 tc25 l_y6 tv51 tv50 ?_ tc60; rw [x_v570, x_v200, show v56.toInt.toNat = v19.toInt.toNat by omega])) hH hS (lv_sub hl [1, 2, 3] rfl)
                  · skip
                    have fuc92 := full_i v87
                    have fvc92 := full_i y7
                    have tc92 := g_eq c92
                    refine lv_iload_n hx hb dX12_keyAt_95 rfl (lv_at hl 2 rfl) ?_
                    exact te_i hx hb hr hlocks hH hS (⟨rfl, by omega, by omega, KI_y i15 tv73 x_v740 tc79 l_y6 (by omega)⟩) dX12_keyAt_96
              · skip
                have fuc38 := full_i v33
                have fvc38 := full_i y7
                have tc38 := g_nle c38
                refine lv_aload_n hx hb dX12_keyAt_41 rfl (lv_at hl 3 rfl) ?_
                refine x_getk (ci := 12) (C := RX12) (F := TX12) (N := 36) (v := .ref y3) hx hb hts uX12 hown hkb hH 0 rfl rfl 3 (by decide) rfl kw_1226 (fun _ h9 => h9) dX12_keyAt_42 ?_
                refine lv_aload_n hx hb dX12_keyAt_45 rfl (lv_at hl 3 rfl) ?_
                refine x_getk (ci := 12) (C := RX12) (F := TX12) (N := 36) (v := .int y6) hx hb hts uX12 hown hkb hH 0 rfl rfl 6 (by decide) rfl kw_1229 (fun _ h9 => h9) dX12_keyAt_46 ?_
                refine lv_iload_n hx hb dX12_keyAt_49 rfl (lv_at hl 0 rfl) ?_
                refine lv_iadd hx hb dX12_keyAt_50 ?_
                refine lv_topi (fun v50 ev50 => ?_)
                have tv50 : v50.toInt = y6.toInt + p15_3.toInt := by rw [ev50]; exact add_i rfl rfl (by omega) (by omega)
                refine xa_ild hx hb hkb hH 1 rfl (by omega) (by omega) dX12_keyAt_51 ?_
                refine lv_topi (fun v51 ev51 => ?_)
                have tv51 : v51 = f3 v50.toInt.toNat := ev51
                refine va_ldcS (q := kf.1 20) hx hb hown (hks ("FootholdWallModel", 88, " hold guide leg weight step used by broken day start top wide ice or and not dx up far ", 20) (by decide +kernel)) dX12_keyAt_52 ?_
                refine lv_iload_n hx hb dX12_keyAt_54 rfl (lv_at hl 1 rfl) ?_
                refine lv_iload_n hx hb dX12_keyAt_55 rfl (lv_at hl 0 rfl) ?_
                refine lv_iadd hx hb dX12_keyAt_56 ?_
                refine lv_topi (fun v56 ev56 => ?_)
                have tv56 : v56.toInt = p4_2.toInt + p15_3.toInt := by rw [ev56]; exact add_i rfl rfl (by omega) (by omega)
                refine tk_i hH hS hA (tr_V (n := 1) (As := [.int v56]) hx hb hml hown hts hkb hH (ox_map hOX rfl) hks hE hS hA (s_charAt2 l D cs kf T (a0 :: y3 :: O) ((a0, .inr (12, o0 :: o1 :: o2 :: (.ref y3) :: (.ref y4) :: o5 :: (.int y6) :: (.int y7) :: (.int y8) :: (.int y9) :: (.int y10) :: (.int y11) :: (.int y12) :: tl)) :: (y3, .inl (cs.2.1, 900, .inl f3)) :: X) 20 v56 (by decide) (by omega) (by omega) (hO.sub (by decide))) kw_1361 kw_556 kw_557 kw_14 kw_558 (by decide +kernel) ⟨Nat.le_of_ble_eq_true rfl, Nat.le_of_ble_eq_true rfl⟩ (vk_recv hE.1 (by decide) hS) rfl rfl hl.1 (Nat.le_of_ble_eq_true rfl) dX12_keyAt_57 ⟨Nat.le_of_ble_eq_true rfl, Nat.le_of_ble_eq_true rfl⟩) (fun v57 u H locs hz9 hH hS => ?_)
                obtain ⟨rfl, l_v57, u_v57, x_v570⟩ := hz9
                have hH : HT D cs A T (a0 :: y3 :: O) ((a0, .inr (12, o0 :: o1 :: o2 :: (.ref y3) :: (.ref y4) :: o5 :: (.int y6) :: (.int y7) :: (.int y8) :: (.int y9) :: (.int y10) :: (.int y11) :: (.int y12) :: tl)) :: (y3, .inl (cs.2.1, 900, .inl f3)) :: X) H := hH
                refine W.widen (k := 0) (n := 0) (Nat.le_of_ble_eq_true rfl) (Nat.le_of_ble_eq_true rfl) ?_
                refine lv_icmp_ne (tgt := 69) hx hb dX12_keyAt_60 (by decide) (fun c60 => ?_) (fun c60 => ?_)
                · skip
                  have fuc60 := full_i v51
                  have fvc60 := full_i v57
                  have tc60 := g_ne c60
                  have hi69 := id i15
                  obtain ⟨_, _, _, hi63, hi64, hi65, _⟩ := hi69
                  refine va_ldcS (q := kf.1 20) hx hb hown (hks ("FootholdWallModel", 88, " hold guide leg weight step used by broken day start top wide ice or and not dx up far ", 20) (by decide +kernel)) dX12_keyAt_69 ?_
                  refine lv_iload_n hx hb dX12_keyAt_71 rfl (lv_at hl 1 rfl) ?_
                  refine lv_iload_n hx hb dX12_keyAt_72 rfl (lv_at hl 0 rfl) ?_
                  refine lv_iadd hx hb dX12_keyAt_73 ?_
                  refine lv_topi (fun v73 ev73 => ?_)
                  have tv73 : v73.toInt = p4_2.toInt + p15_3.toInt := by rw [ev73]; exact add_i rfl rfl (by omega) (by omega)
                  refine tk_i hH hS hA (tr_V (n := 1) (As := [.int v73]) hx hb hml hown hts hkb hH (ox_map hOX rfl) hks hE hS hA (s_charAt2 l D cs kf T (a0 :: y3 :: O) ((a0, .inr (12, o0 :: o1 :: o2 :: (.ref y3) :: (.ref y4) :: o5 :: (.int y6) :: (.int y7) :: (.int y8) :: (.int y9) :: (.int y10) :: (.int y11) :: (.int y12) :: tl)) :: (y3, .inl (cs.2.1, 900, .inl f3)) :: X) 20 v73 (by decide) (by omega) (by omega) (hO.sub (by decide))) kw_1361 kw_556 kw_557 kw_14 kw_558 (by decide +kernel) ⟨Nat.le_of_ble_eq_true rfl, Nat.le_of_ble_eq_true rfl⟩ (vk_recv hE.1 (by decide) hS) rfl rfl hl.1 (Nat.le_of_ble_eq_true rfl) dX12_keyAt_74 ⟨Nat.le_of_ble_eq_true rfl, Nat.le_of_ble_eq_true rfl⟩) (fun v74 u H locs hz9 hH hS => ?_)
                  obtain ⟨rfl, l_v74, u_v74, x_v740⟩ := hz9
                  have hH : HT D cs A T (a0 :: y3 :: O) ((a0, .inr (12, o0 :: o1 :: o2 :: (.ref y3) :: (.ref y4) :: o5 :: (.int y6) :: (.int y7) :: (.int y8) :: (.int y9) :: (.int y10) :: (.int y11) :: (.int y12) :: tl)) :: (y3, .inl (cs.2.1, 900, .inl f3)) :: X) H := hH
                  refine W.widen (k := 0) (n := 0) (Nat.le_of_ble_eq_true rfl) (Nat.le_of_ble_eq_true rfl) ?_
                  refine lv_bipush (v := 32) hx hb dX12_keyAt_77 (by decide) ?_
                  refine lv_icmp_ne (tgt := 97) hx hb dX12_keyAt_79 (by decide) (fun c79 => ?_) (fun c79 => ?_)
                  · skip
                    have tc79 := f_ne (k := 32) (by decide) c79
                    exact J97 _ p4_2 _ _ _ rfl (by omega) (by omega) (by omega) (by first | exact i97w | (refine KI_n1 i15 tv73 x_v740 tc79 l_y6 ?_; omega) | (exfalso; exact tc79 (by rw [x_v740, show v73.toInt.toNat = v19.toInt.toNat by omega, ← x_v200]; exact tc25)) | (refine KI_n2 i15 tv19 x_v200 tc25 l_y6 ?_; omega) | (refine KI_n3 htm i15 tv19 x_v200 tc25 l_y6 tv51 tv50 ?_ tc60; rw [x_v570, x_v200, show v56.toInt.toNat = v19.toInt.toNat by omega])) hH hS (lv_sub hl [1, 2, 3] rfl)
                  · skip
                    have tc79 := f_eq (k := 32) (by decide) c79
                    refine lv_aload_n hx hb dX12_keyAt_82 rfl (lv_at hl 3 rfl) ?_
                    refine x_getk (ci := 12) (C := RX12) (F := TX12) (N := 36) (v := .int y6) hx hb hts uX12 hown hkb hH 0 rfl rfl 6 (by decide) rfl kw_1229 (fun _ h9 => h9) dX12_keyAt_83 ?_
                    refine lv_iload_n hx hb dX12_keyAt_86 rfl (lv_at hl 0 rfl) ?_
                    refine lv_iadd hx hb dX12_keyAt_87 ?_
                    refine lv_topi (fun v87 ev87 => ?_)
                    have tv87 : v87.toInt = y6.toInt + p15_3.toInt := by rw [ev87]; exact add_i rfl rfl (by omega) (by omega)
                    refine lv_aload_n hx hb dX12_keyAt_88 rfl (lv_at hl 3 rfl) ?_
                    refine x_getk (ci := 12) (C := RX12) (F := TX12) (N := 36) (v := .int y7) hx hb hts uX12 hown hkb hH 0 rfl rfl 7 (by decide) rfl kw_1230 (fun _ h9 => h9) dX12_keyAt_89 ?_
                    refine lv_icmp_ne (tgt := 97) hx hb dX12_keyAt_92 (by decide) (fun c92 => ?_) (fun c92 => ?_)
                    · skip
                      have fuc92 := full_i v87
                      have fvc92 := full_i y7
                      have tc92 := g_ne c92
                      exact J97 _ p4_2 _ _ _ rfl (by omega) (by omega) (by omega) (by first | exact i97w | (refine KI_n1 i15 tv73 x_v740 tc79 l_y6 ?_; omega) | (exfalso; exact tc79 (by rw [x_v740, show v73.toInt.toNat = v19.toInt.toNat by omega, ← x_v200]; exact tc25)) | (refine KI_n2 i15 tv19 x_v200 tc25 l_y6 ?_; omega) | (refine KI_n3 htm i15 tv19 x_v200 tc25 l_y6 tv51 tv50 ?_ tc60; rw [x_v570, x_v200, show v56.toInt.toNat = v19.toInt.toNat by omega])) hH hS (lv_sub hl [1, 2, 3] rfl)
                    · skip
                      have fuc92 := full_i v87
                      have fvc92 := full_i y7
                      have tc92 := g_eq c92
                      refine lv_iload_n hx hb dX12_keyAt_95 rfl (lv_at hl 2 rfl) ?_
                      exact te_i hx hb hr hlocks hH hS (⟨rfl, by omega, by omega, KI_y i15 tv73 x_v740 tc79 l_y6 (by omega)⟩) dX12_keyAt_96
                · skip
                  have fuc60 := full_i v51
                  have fvc60 := full_i v57
                  have tc60 := g_eq c60
                  obtain ⟨v63, ev63⟩ : ∃ y : Int32, y = p15_3 + 1 := ⟨_, rfl⟩
                  have tv63 : v63.toInt = p15_3.toInt + (1) := by rw [ev63]; exact add_i rfl (by decide) (by omega) (by omega)
                  refine lv_iinc (v := v63) (lv' := [(3, .int v63), (2, .int p4_2), (1, .int p4_1), (0, .ref a0)]) hx hb dX12_keyAt_63 hl (k := 0) rfl (by rw [ev63]; rfl) (by decide) rfl (fun ls hl => ?_)
                  refine lv_goto (tgt := 15) hx hb dX12_keyAt_66 (by decide) ?_
                  exact ih15 _ (by omega) v63 _ _ _ rfl (by omega) (by omega) (by first | (refine KI_0 ?_ ?_ i4a k1 (by decide); omega; omega) | (refine KI_s htm i15 tv19 x_v200 tc25 l_y6 tv51 tv50 ?_ ?_ tc60 tv63; omega; rw [x_v570, x_v200, show v56.toInt.toNat = v19.toInt.toNat by omega])) (by omega) hH hS (lv_sub hl [0, 1, 2, 3] rfl)
        refine lv_istore_n (lv' := [(3, .int 0), (2, .int p4_2), (1, .int p4_1), (0, .ref a0)]) hx hb dX12_keyAt_14 rfl hl (by decide) rfl (fun ls hl => ?_)
        have z_0 : (0 : Int32).toInt = 0 := by decide
        exact J15 _ 0 _ _ _ rfl (by decide) (by decide) (by first | (refine KI_0 ?_ ?_ i4a k1 (by decide); omega; omega) | (refine KI_s htm i15 tv19 x_v200 tc25 l_y6 tv51 tv50 ?_ ?_ tc60 tv63; omega; rw [x_v570, x_v200, show v56.toInt.toNat = v19.toInt.toNat by omega])) (by omega) hH hS (lv_sub hl [0, 1, 2, 3] rfl)
  refine lv_istore_n (lv' := [(2, .int 1), (1, .int 0), (0, .ref a0)]) hx hb dX12_keyAt_3 rfl hl (by decide) rfl (fun ls hl => ?_)
  have z_0 : (0 : Int32).toInt = 0 := by decide
  have z_1 : (1 : Int32).toInt = 1 := by decide
  exact J4 _ 1 0 _ _ _ rfl (by decide) (by decide) (by decide) (by decide) (by first | decide | (rw [show v117.toInt.toNat = p4_1.toInt.toNat + 1 by omega]; omega)) (by first | (intro j9 hj9; exfalso; have z8 : (0 : Int32).toInt.toNat = 0 := (by decide); omega) | (refine KN_s i4b ?_ tv117 i97w; omega)) hH hS (lv_sub hl [0, 1, 2] rfl)
theorem dX12_next_0 : decode cX12_next 0 = .ok (.aload_n 0, 1) := by decide +kernel
theorem dX12_next_1 : decode cX12_next 1 = .ok (.aload_n 0, 1) := by decide +kernel
theorem dX12_next_2 : decode cX12_next 2 = .ok (.getfield 103, 3) := by decide +kernel
theorem dX12_next_5 : decode cX12_next 5 = .ok (.putfield 100, 3) := by decide +kernel
theorem dX12_next_8 : decode cX12_next 8 = .ok (.aload_n 0, 1) := by decide +kernel
theorem dX12_next_9 : decode cX12_next 9 = .ok (.aload_n 0, 1) := by decide +kernel
theorem dX12_next_10 : decode cX12_next 10 = .ok (.getfield 100, 3) := by decide +kernel
theorem dX12_next_13 : decode cX12_next 13 = .ok (.invokevirtual 106, 3) := by decide +kernel
theorem dX12_next_16 : decode cX12_next 16 = .ok (.bipush 10, 2) := by decide +kernel
theorem dX12_next_18 : decode cX12_next 18 = .ok (.if_icmp .eq 16, 3) := by decide +kernel
theorem dX12_next_21 : decode cX12_next 21 = .ok (.aload_n 0, 1) := by decide +kernel
theorem dX12_next_22 : decode cX12_next 22 = .ok (.aload_n 0, 1) := by decide +kernel
theorem dX12_next_23 : decode cX12_next 23 = .ok (.getfield 100, 3) := by decide +kernel
theorem dX12_next_26 : decode cX12_next 26 = .ok (.invokevirtual 106, 3) := by decide +kernel
theorem dX12_next_29 : decode cX12_next 29 = .ok (.bipush 32, 2) := by decide +kernel
theorem dX12_next_31 : decode cX12_next 31 = .ok (.if_icmp .ne 16, 3) := by decide +kernel
theorem dX12_next_34 : decode cX12_next 34 = .ok (.aload_n 0, 1) := by decide +kernel
theorem dX12_next_35 : decode cX12_next 35 = .ok (.dup, 1) := by decide +kernel
theorem dX12_next_36 : decode cX12_next 36 = .ok (.getfield 100, 3) := by decide +kernel
theorem dX12_next_39 : decode cX12_next 39 = .ok (.iconst 1, 1) := by decide +kernel
theorem dX12_next_40 : decode cX12_next 40 = .ok (.iadd, 1) := by decide +kernel
theorem dX12_next_41 : decode cX12_next 41 = .ok (.putfield 100, 3) := by decide +kernel
theorem dX12_next_44 : decode cX12_next 44 = .ok (.goto (-36), 3) := by decide +kernel
theorem dX12_next_47 : decode cX12_next 47 = .ok (.aload_n 0, 1) := by decide +kernel
theorem dX12_next_48 : decode cX12_next 48 = .ok (.aload_n 0, 1) := by decide +kernel
theorem dX12_next_49 : decode cX12_next 49 = .ok (.getfield 100, 3) := by decide +kernel
theorem dX12_next_52 : decode cX12_next 52 = .ok (.putfield 103, 3) := by decide +kernel
theorem dX12_next_55 : decode cX12_next 55 = .ok (.aload_n 0, 1) := by decide +kernel
theorem dX12_next_56 : decode cX12_next 56 = .ok (.getfield 100, 3) := by decide +kernel
theorem dX12_next_59 : decode cX12_next 59 = .ok (.aload_n 0, 1) := by decide +kernel
theorem dX12_next_60 : decode cX12_next 60 = .ok (.getfield 85, 3) := by decide +kernel
theorem dX12_next_63 : decode cX12_next 63 = .ok (.if_icmp .lt 12, 3) := by decide +kernel
theorem dX12_next_66 : decode cX12_next 66 = .ok (.aload_n 0, 1) := by decide +kernel
theorem dX12_next_67 : decode cX12_next 67 = .ok (.bipush 22, 2) := by decide +kernel
theorem dX12_next_69 : decode cX12_next 69 = .ok (.putfield 110, 3) := by decide +kernel
theorem dX12_next_72 : decode cX12_next 72 = .ok (.goto 222, 3) := by decide +kernel
theorem dX12_next_75 : decode cX12_next 75 = .ok (.aload_n 0, 1) := by decide +kernel
theorem dX12_next_76 : decode cX12_next 76 = .ok (.aload_n 0, 1) := by decide +kernel
theorem dX12_next_77 : decode cX12_next 77 = .ok (.getfield 100, 3) := by decide +kernel
theorem dX12_next_80 : decode cX12_next 80 = .ok (.invokevirtual 106, 3) := by decide +kernel
theorem dX12_next_83 : decode cX12_next 83 = .ok (.invokestatic 113, 3) := by decide +kernel
theorem dX12_next_86 : decode cX12_next 86 = .ok (.ifCond .eq 41, 3) := by decide +kernel
theorem dX12_next_89 : decode cX12_next 89 = .ok (.aload_n 0, 1) := by decide +kernel
theorem dX12_next_90 : decode cX12_next 90 = .ok (.aload_n 0, 1) := by decide +kernel
theorem dX12_next_91 : decode cX12_next 91 = .ok (.getfield 103, 3) := by decide +kernel
theorem dX12_next_94 : decode cX12_next 94 = .ok (.invokevirtual 106, 3) := by decide +kernel
theorem dX12_next_97 : decode cX12_next 97 = .ok (.invokestatic 113, 3) := by decide +kernel
theorem dX12_next_100 : decode cX12_next 100 = .ok (.ifCond .eq 16, 3) := by decide +kernel
theorem dX12_next_103 : decode cX12_next 103 = .ok (.aload_n 0, 1) := by decide +kernel
theorem dX12_next_104 : decode cX12_next 104 = .ok (.dup, 1) := by decide +kernel
theorem dX12_next_105 : decode cX12_next 105 = .ok (.getfield 103, 3) := by decide +kernel
theorem dX12_next_108 : decode cX12_next 108 = .ok (.iconst 1, 1) := by decide +kernel
theorem dX12_next_109 : decode cX12_next 109 = .ok (.iadd, 1) := by decide +kernel
theorem dX12_next_110 : decode cX12_next 110 = .ok (.putfield 103, 3) := by decide +kernel
theorem dX12_next_113 : decode cX12_next 113 = .ok (.goto (-24), 3) := by decide +kernel
theorem dX12_next_116 : decode cX12_next 116 = .ok (.aload_n 0, 1) := by decide +kernel
theorem dX12_next_117 : decode cX12_next 117 = .ok (.aload_n 0, 1) := by decide +kernel
theorem dX12_next_118 : decode cX12_next 118 = .ok (.invokevirtual 117, 3) := by decide +kernel
theorem dX12_next_121 : decode cX12_next 121 = .ok (.putfield 110, 3) := by decide +kernel
theorem dX12_next_124 : decode cX12_next 124 = .ok (.goto 170, 3) := by decide +kernel
theorem dX12_next_127 : decode cX12_next 127 = .ok (.aload_n 0, 1) := by decide +kernel
theorem dX12_next_128 : decode cX12_next 128 = .ok (.aload_n 0, 1) := by decide +kernel
theorem dX12_next_129 : decode cX12_next 129 = .ok (.getfield 100, 3) := by decide +kernel
theorem dX12_next_132 : decode cX12_next 132 = .ok (.invokevirtual 106, 3) := by decide +kernel
theorem dX12_next_135 : decode cX12_next 135 = .ok (.invokestatic 120, 3) := by decide +kernel
theorem dX12_next_138 : decode cX12_next 138 = .ok (.ifCond .eq 98, 3) := by decide +kernel
theorem dX12_next_141 : decode cX12_next 141 = .ok (.aload_n 0, 1) := by decide +kernel
theorem dX12_next_142 : decode cX12_next 142 = .ok (.iconst 0, 1) := by decide +kernel
theorem dX12_next_143 : decode cX12_next 143 = .ok (.putfield 123, 3) := by decide +kernel
theorem dX12_next_146 : decode cX12_next 146 = .ok (.aload_n 0, 1) := by decide +kernel
theorem dX12_next_147 : decode cX12_next 147 = .ok (.aload_n 0, 1) := by decide +kernel
theorem dX12_next_148 : decode cX12_next 148 = .ok (.getfield 103, 3) := by decide +kernel
theorem dX12_next_151 : decode cX12_next 151 = .ok (.invokevirtual 106, 3) := by decide +kernel
theorem dX12_next_154 : decode cX12_next 154 = .ok (.invokestatic 120, 3) := by decide +kernel
theorem dX12_next_157 : decode cX12_next 157 = .ok (.ifCond .eq 52, 3) := by decide +kernel
theorem dX12_next_160 : decode cX12_next 160 = .ok (.aload_n 0, 1) := by decide +kernel
theorem dX12_next_161 : decode cX12_next 161 = .ok (.getfield 103, 3) := by decide +kernel
theorem dX12_next_164 : decode cX12_next 164 = .ok (.aload_n 0, 1) := by decide +kernel
theorem dX12_next_165 : decode cX12_next 165 = .ok (.getfield 100, 3) := by decide +kernel
theorem dX12_next_168 : decode cX12_next 168 = .ok (.isub, 1) := by decide +kernel
theorem dX12_next_169 : decode cX12_next 169 = .ok (.iconst 3, 1) := by decide +kernel
theorem dX12_next_170 : decode cX12_next 170 = .ok (.if_icmp .ge 26, 3) := by decide +kernel
theorem dX12_next_173 : decode cX12_next 173 = .ok (.aload_n 0, 1) := by decide +kernel
theorem dX12_next_174 : decode cX12_next 174 = .ok (.bipush 10, 2) := by decide +kernel
theorem dX12_next_176 : decode cX12_next 176 = .ok (.aload_n 0, 1) := by decide +kernel
theorem dX12_next_177 : decode cX12_next 177 = .ok (.getfield 123, 3) := by decide +kernel
theorem dX12_next_180 : decode cX12_next 180 = .ok (.imul, 1) := by decide +kernel
theorem dX12_next_181 : decode cX12_next 181 = .ok (.aload_n 0, 1) := by decide +kernel
theorem dX12_next_182 : decode cX12_next 182 = .ok (.aload_n 0, 1) := by decide +kernel
theorem dX12_next_183 : decode cX12_next 183 = .ok (.getfield 103, 3) := by decide +kernel
theorem dX12_next_186 : decode cX12_next 186 = .ok (.invokevirtual 106, 3) := by decide +kernel
theorem dX12_next_189 : decode cX12_next 189 = .ok (.iadd, 1) := by decide +kernel
theorem dX12_next_190 : decode cX12_next 190 = .ok (.bipush 48, 2) := by decide +kernel
theorem dX12_next_192 : decode cX12_next 192 = .ok (.isub, 1) := by decide +kernel
theorem dX12_next_193 : decode cX12_next 193 = .ok (.putfield 123, 3) := by decide +kernel
theorem dX12_next_196 : decode cX12_next 196 = .ok (.aload_n 0, 1) := by decide +kernel
theorem dX12_next_197 : decode cX12_next 197 = .ok (.dup, 1) := by decide +kernel
theorem dX12_next_198 : decode cX12_next 198 = .ok (.getfield 103, 3) := by decide +kernel
theorem dX12_next_201 : decode cX12_next 201 = .ok (.iconst 1, 1) := by decide +kernel
theorem dX12_next_202 : decode cX12_next 202 = .ok (.iadd, 1) := by decide +kernel
theorem dX12_next_203 : decode cX12_next 203 = .ok (.putfield 103, 3) := by decide +kernel
theorem dX12_next_206 : decode cX12_next 206 = .ok (.goto (-60), 3) := by decide +kernel
theorem dX12_next_209 : decode cX12_next 209 = .ok (.aload_n 0, 1) := by decide +kernel
theorem dX12_next_210 : decode cX12_next 210 = .ok (.aload_n 0, 1) := by decide +kernel
theorem dX12_next_211 : decode cX12_next 211 = .ok (.getfield 103, 3) := by decide +kernel
theorem dX12_next_214 : decode cX12_next 214 = .ok (.aload_n 0, 1) := by decide +kernel
theorem dX12_next_215 : decode cX12_next 215 = .ok (.getfield 100, 3) := by decide +kernel
theorem dX12_next_218 : decode cX12_next 218 = .ok (.isub, 1) := by decide +kernel
theorem dX12_next_219 : decode cX12_next 219 = .ok (.iconst 3, 1) := by decide +kernel
theorem dX12_next_220 : decode cX12_next 220 = .ok (.if_icmp .le 8, 3) := by decide +kernel
theorem dX12_next_223 : decode cX12_next 223 = .ok (.bipush 23, 2) := by decide +kernel
theorem dX12_next_225 : decode cX12_next 225 = .ok (.goto 5, 3) := by decide +kernel
theorem dX12_next_228 : decode cX12_next 228 = .ok (.bipush 21, 2) := by decide +kernel
theorem dX12_next_230 : decode cX12_next 230 = .ok (.putfield 110, 3) := by decide +kernel
theorem dX12_next_233 : decode cX12_next 233 = .ok (.goto 61, 3) := by decide +kernel
theorem dX12_next_236 : decode cX12_next 236 = .ok (.aload_n 0, 1) := by decide +kernel
theorem dX12_next_237 : decode cX12_next 237 = .ok (.dup, 1) := by decide +kernel
theorem dX12_next_238 : decode cX12_next 238 = .ok (.getfield 103, 3) := by decide +kernel
theorem dX12_next_241 : decode cX12_next 241 = .ok (.iconst 1, 1) := by decide +kernel
theorem dX12_next_242 : decode cX12_next 242 = .ok (.iadd, 1) := by decide +kernel
theorem dX12_next_243 : decode cX12_next 243 = .ok (.putfield 103, 3) := by decide +kernel
theorem dX12_next_246 : decode cX12_next 246 = .ok (.aload_n 0, 1) := by decide +kernel
theorem dX12_next_247 : decode cX12_next 247 = .ok (.bipush 23, 2) := by decide +kernel
theorem dX12_next_249 : decode cX12_next 249 = .ok (.putfield 110, 3) := by decide +kernel
theorem dX12_next_252 : decode cX12_next 252 = .ok (.iconst 0, 1) := by decide +kernel
theorem dX12_next_253 : decode cX12_next 253 = .ok (.istore_n 1, 1) := by decide +kernel
theorem dX12_next_254 : decode cX12_next 254 = .ok (.iload_n 1, 1) := by decide +kernel
theorem dX12_next_255 : decode cX12_next 255 = .ok (.ldc 126, 2) := by decide +kernel
theorem dX12_next_257 : decode cX12_next 257 = .ok (.invokevirtual 90, 3) := by decide +kernel
theorem dX12_next_260 : decode cX12_next 260 = .ok (.if_icmp .ge 34, 3) := by decide +kernel
theorem dX12_next_263 : decode cX12_next 263 = .ok (.aload_n 0, 1) := by decide +kernel
theorem dX12_next_264 : decode cX12_next 264 = .ok (.aload_n 0, 1) := by decide +kernel
theorem dX12_next_265 : decode cX12_next 265 = .ok (.getfield 100, 3) := by decide +kernel
theorem dX12_next_268 : decode cX12_next 268 = .ok (.invokevirtual 106, 3) := by decide +kernel
theorem dX12_next_271 : decode cX12_next 271 = .ok (.ldc 126, 2) := by decide +kernel
theorem dX12_next_273 : decode cX12_next 273 = .ok (.iload_n 1, 1) := by decide +kernel
theorem dX12_next_274 : decode cX12_next 274 = .ok (.invokevirtual 96, 3) := by decide +kernel
theorem dX12_next_277 : decode cX12_next 277 = .ok (.if_icmp .ne 11, 3) := by decide +kernel
theorem dX12_next_280 : decode cX12_next 280 = .ok (.aload_n 0, 1) := by decide +kernel
theorem dX12_next_281 : decode cX12_next 281 = .ok (.bipush 30, 2) := by decide +kernel
theorem dX12_next_283 : decode cX12_next 283 = .ok (.iload_n 1, 1) := by decide +kernel
theorem dX12_next_284 : decode cX12_next 284 = .ok (.iadd, 1) := by decide +kernel
theorem dX12_next_285 : decode cX12_next 285 = .ok (.putfield 110, 3) := by decide +kernel
theorem dX12_next_288 : decode cX12_next 288 = .ok (.iinc 1 1, 3) := by decide +kernel
theorem dX12_next_291 : decode cX12_next 291 = .ok (.goto (-37), 3) := by decide +kernel
theorem dX12_next_294 : decode cX12_next 294 = .ok (.return_, 1) := by decide +kernel
theorem kw_13 : Cond.initialized "FootholdWallModel" ∈ gw := gw_of (tb_of 13 (by decide +kernel)) (by decide +kernel)
theorem kw_1232 : Cond.fieldLink "FootholdWallModel" 110 "FootholdWallModel" "kind" "I" ∈ gw := gw_of (tb_of 1232 (by decide +kernel)) (by decide +kernel)
theorem kw_1233 : Cond.fieldLink "FootholdWallModel" 123 "FootholdWallModel" "number" "I" ∈ gw := gw_of (tb_of 1233 (by decide +kernel)) (by decide +kernel)
theorem kw_1348 : Cond.methodLink "FootholdWallModel" 106 yX12_see ∈ gw := gw_of (tb_of 1348 (by decide +kernel)) (by decide +kernel)
theorem kw_1350 : Cond.instanceMethod yX12_see ∈ gw := gw_of (tb_of 1350 (by decide +kernel)) (by decide +kernel)
theorem kw_1351 : Cond.code yX12_see cX12_see 2 (some (.int)) ∈ gw := gw_of (tb_of 1351 (by decide +kernel)) (by decide +kernel)
theorem kw_1352 : Cond.methodLink "FootholdWallModel" 113 yX12_isSmall ∈ gw := gw_of (tb_of 1352 (by decide +kernel)) (by decide +kernel)
theorem kw_1353 : Cond.static yX12_isSmall ∈ gw := gw_of (tb_of 1353 (by decide +kernel)) (by decide +kernel)
theorem kw_1354 : Cond.code yX12_isSmall cX12_isSmall 1 (some (.boolean)) ∈ gw := gw_of (tb_of 1354 (by decide +kernel)) (by decide +kernel)
theorem kw_1355 : Cond.methodLink "FootholdWallModel" 117 yX12_keyAt ∈ gw := gw_of (tb_of 1355 (by decide +kernel)) (by decide +kernel)
theorem kw_1357 : Cond.instanceMethod yX12_keyAt ∈ gw := gw_of (tb_of 1357 (by decide +kernel)) (by decide +kernel)
theorem kw_1358 : Cond.code yX12_keyAt cX12_keyAt 4 (some (.int)) ∈ gw := gw_of (tb_of 1358 (by decide +kernel)) (by decide +kernel)
theorem kw_1362 : Cond.methodLink "FootholdWallModel" 120 yX12_isDigit ∈ gw := gw_of (tb_of 1362 (by decide +kernel)) (by decide +kernel)
theorem kw_1363 : Cond.static yX12_isDigit ∈ gw := gw_of (tb_of 1363 (by decide +kernel)) (by decide +kernel)
theorem kw_1364 : Cond.code yX12_isDigit cX12_isDigit 1 (some (.boolean)) ∈ gw := gw_of (tb_of 1364 (by decide +kernel)) (by decide +kernel)
theorem ks_44 : Cond.selects RX12 yX12_see yX12_see ∈ gw := gw_of (pv_of 44 (by decide +kernel)) (by decide +kernel)
theorem ks_45 : Cond.selects RX12 yX12_keyAt yX12_keyAt ∈ gw := gw_of (pv_of 45 (by decide +kernel)) (by decide +kernel)
set_option maxHeartbeats 4000000 in
set_option maxRecDepth 100000 in
theorem s_M_next (l : Launch) (D : va_G) (cs : CS) (kf : KF) (T : TF) (O : List Nat) (X : va_W) (a0 hg mq : Nat) (o0 : Value) (o1 : Value) (o2 : Value) (y3 : Nat) (y4 : Nat) (o5 : Value) (y6 : Int32) (y7 : Int32) (y8 : Int32) (y9 : Int32) (y10 : Int32) (y11 : Int32) (y12 : Int32) (tl : List Value) (f3 : Nat → Int32) (t : Tp) (tn : Nat) (t_a0 : T a0 = some (22, hg, mq)) (b_hg : hg < 90) (t_y3 : T y3 = some (9, 900, 0)) (t_y4 : T y4 = some (8, 1302, 0)) (l_y6 : 0 ≤ y6.toInt) (u_y6 : y6.toInt ≤ 900) (l_y7 : 0 ≤ y7.toInt) (u_y7 : y7.toInt ≤ 900) (l_y8 : 0 ≤ y8.toInt) (u_y8 : y8.toInt ≤ 900) (l_y10 : 0 ≤ y10.toInt) (u_y10 : y10.toInt ≤ 999) (hn : y8.toInt = (tn : Int)) (htm : TM f3 t) (k2 : y7.toInt ≤ y8.toInt) (hO : okO T (a0 :: y3 :: O) []) : TK l D cs kf yX12_next cX12_next 2 none { frames := 5, cells := 0, slots := 0, locals := 108 } [.ref a0] T (a0 :: y3 :: O) ((a0, .inr (12, o0 :: o1 :: o2 :: (.ref y3) :: (.ref y4) :: o5 :: (.int y6) :: (.int y7) :: (.int y8) :: (.int y9) :: (.int y10) :: (.int y11) :: (.int y12) :: tl)) :: (y3, .inl (cs.2.1, 900, .inl f3)) :: X) (Tv D cs (fun u => ∃ (n0_6 : Int32) (n0_7 : Int32) (n0_9 : Int32) (n0_10 : Int32), u = (T, a0 :: y3 :: O, (a0, .inr (12, o0 :: o1 :: o2 :: (.ref y3) :: (.ref y4) :: o5 :: (.int n0_6) :: (.int n0_7) :: (.int y8) :: (.int n0_9) :: (.int n0_10) :: (.int y11) :: (.int y12) :: tl)) :: (y3, .inl (cs.2.1, 900, .inl f3)) :: X) ∧ (y7.toInt ≤ n0_6.toInt) ∧ (n0_6.toInt ≤ n0_7.toInt) ∧ (n0_7.toInt ≤ y8.toInt) ∧ (TK3 n0_9 n0_6 n0_7) ∧ (0 ≤ n0_10.toInt) ∧ (n0_10.toInt ≤ 999) ∧ (MSS t tn n0_6 n0_7 n0_9 n0_10) ∧ (n0_6.toInt.toNat = nxs t tn y7.toInt.toNat))) := by
  refine tk_of (by decide) (Nat.le_of_ble_eq_true rfl) (fun p e s m below meth c ls A H locs hx hb hr hml hown hts hlocks hnm hkb hH hS hA hOX hks hE hl => ?_)
  have hown : s.vm.findClass RX12 = some m.cls := hown
  have hl : lv_has ls 2 [(0, .ref a0)] := hl
  have hOXf := hOX
  refine lv_aload_n hx hb dX12_next_0 rfl (lv_at hl 0 rfl) ?_
  refine lv_aload_n hx hb dX12_next_1 rfl (lv_at hl 0 rfl) ?_
  refine x_getk (ci := 12) (C := RX12) (F := TX12) (N := 36) (v := .int y7) hx hb hts uX12 hown hkb hH 0 rfl rfl 7 (by decide) rfl kw_1230 (fun _ h9 => h9) dX12_next_2 ?_
  have J8 : ∀ (n : Nat) (f8_106 : Int32) (H : Heap) (locs : List Loc) (ls : Array Slot), (900 - f8_106.toInt).toNat = n → (0 ≤ f8_106.toInt) → (f8_106.toInt ≤ 900) → (y7.toInt ≤ f8_106.toInt ∧ f8_106.toInt ≤ y8.toInt) → (nxs t tn f8_106.toInt.toNat = nxs t tn y7.toInt.toNat) → HT D cs A T (a0 :: y3 :: O) ((a0, .inr (12, o0 :: o1 :: o2 :: (.ref y3) :: (.ref y4) :: o5 :: (.int f8_106) :: (.int y7) :: (.int y8) :: (.int y9) :: (.int y10) :: (.int y11) :: (.int y12) :: tl)) :: (y3, .inl (cs.2.1, 900, .inl f3)) :: X) H → va_S A s.heap H locs → lv_has ls 2 [(0, .ref a0)] → W p l e { frames := 5, cells := 0, slots := 0, locals := 108 } s m [.ref a0].toArray below meth c H locs 0 0 (MQ below (Tv D cs (fun u => ∃ (n0_6 : Int32) (n0_7 : Int32) (n0_9 : Int32) (n0_10 : Int32), u = (T, a0 :: y3 :: O, (a0, .inr (12, o0 :: o1 :: o2 :: (.ref y3) :: (.ref y4) :: o5 :: (.int n0_6) :: (.int n0_7) :: (.int y8) :: (.int n0_9) :: (.int n0_10) :: (.int y11) :: (.int y12) :: tl)) :: (y3, .inl (cs.2.1, 900, .inl f3)) :: X) ∧ (y7.toInt ≤ n0_6.toInt) ∧ (n0_6.toInt ≤ n0_7.toInt) ∧ (n0_7.toInt ≤ y8.toInt) ∧ (TK3 n0_9 n0_6 n0_7) ∧ (0 ≤ n0_10.toInt) ∧ (n0_10.toInt ≤ 999) ∧ (MSS t tn n0_6 n0_7 n0_9 n0_10) ∧ (n0_6.toInt.toNat = nxs t tn y7.toInt.toNat)) A) [.ref a0].toArray s 0 0 A) (F0 m 8 ls []) := by
    intro n
    induction n using Nat.strongRecOn with
    | _ n ih8 =>
      intro f8_106 H locs ls hm8 l_f8_106 u_f8_106 i8 i8s hH hS hl
      refine lv_aload_n hx hb dX12_next_8 rfl (lv_at hl 0 rfl) ?_
      refine lv_aload_n hx hb dX12_next_9 rfl (lv_at hl 0 rfl) ?_
      refine x_getk (ci := 12) (C := RX12) (F := TX12) (N := 36) (v := .int f8_106) hx hb hts uX12 hown hkb hH 0 rfl rfl 6 (by decide) rfl kw_1229 (fun _ h9 => h9) dX12_next_10 ?_
      refine tk_i hH hS hA (tr_V (n := 1) (As := [.int f8_106]) hx hb hml hown hts hkb hH (ox_map hOX rfl) hks hE hS hA (s_M_see l D cs kf T O X a0 hg mq f8_106 o0 o1 o2 y3 y4 o5 f8_106 y7 y8 y9 y10 y11 y12 tl f3 t_a0 b_hg (by omega) t_y3 t_y4 (by omega) (by omega) (by omega) (by omega) (by omega) (by omega) (by omega) (by omega) (hO.sub (by decide))) kw_1348 kw_1350 ks_44 kw_13 kw_1351 (by decide +kernel) ⟨Nat.le_of_ble_eq_true rfl, Nat.le_of_ble_eq_true rfl⟩ (x_recv (ci := 12) hkb hH 0 rfl rfl) rfl rfl hl.1 (Nat.le_of_ble_eq_true rfl) dX12_next_13 ⟨Nat.le_of_ble_eq_true rfl, Nat.le_of_ble_eq_true rfl⟩) (fun v13 u H locs hz9 hH hS => ?_)
      obtain ⟨rfl, x_v130, x_v131⟩ := hz9
      have hH : HT D cs A T (a0 :: y3 :: O) ((a0, .inr (12, o0 :: o1 :: o2 :: (.ref y3) :: (.ref y4) :: o5 :: (.int f8_106) :: (.int y7) :: (.int y8) :: (.int y9) :: (.int y10) :: (.int y11) :: (.int y12) :: tl)) :: (y3, .inl (cs.2.1, 900, .inl f3)) :: X) H := hH
      refine W.widen (k := 0) (n := 0) (Nat.le_of_ble_eq_true rfl) (Nat.le_of_ble_eq_true rfl) ?_
      refine lv_bipush (v := 10) hx hb dX12_next_16 (by decide) ?_
      refine lv_icmp_eq (tgt := 34) hx hb dX12_next_18 (by decide) (fun c18 => ?_) (fun c18 => ?_)
      · skip
        have tc18 := f_eq (k := 10) (by decide) c18
        refine lv_aload_n hx hb dX12_next_34 rfl (lv_at hl 0 rfl) ?_
        refine lv_dup hx hb dX12_next_35 rfl ?_
        refine x_getk (ci := 12) (C := RX12) (F := TX12) (N := 36) (v := .int f8_106) hx hb hts uX12 hown hkb hH 0 rfl rfl 6 (by decide) rfl kw_1229 (fun _ h9 => h9) dX12_next_36 ?_
        refine lv_iconst (v := 1) hx hb dX12_next_39 (by decide) ?_
        refine lv_iadd hx hb dX12_next_40 ?_
        refine lv_topi (fun v40 ev40 => ?_)
        have tv40 : v40.toInt = f8_106.toInt + (1) := by rw [ev40]; exact add_i rfl (by decide : (1 : Int32).toInt = 1) (by omega) (by omega)
        refine x_putk (ci := 12) (v := .int v40) (ty := tyX12 6) (C := RX12) (F := TX12) (N := 36) hx hb hts uX12 tyX12 tyX12_ok nmX12 hown hkb hH hS 0 rfl rfl 6 (by decide) kw_1229 (fun _ h9 => h9) rfl (tyX12_ok 6 (by decide)) rfl rfl (by show 6 < tl.length + 13; omega) dX12_next_41 (fun H locs hH hS => ?_)
        have hH : HT D cs A T (a0 :: y3 :: O) ((a0, .inr (12, o0 :: o1 :: o2 :: (.ref y3) :: (.ref y4) :: o5 :: (.int v40) :: (.int y7) :: (.int y8) :: (.int y9) :: (.int y10) :: (.int y11) :: (.int y12) :: tl)) :: (y3, .inl (cs.2.1, 900, .inl f3)) :: X) H := hH
        refine lv_goto (tgt := 8) hx hb dX12_next_44 (by decide) ?_
        exact ih8 _ (by omega) v40 _ _ _ rfl (by omega) (by omega) (by omega) (by first | rfl | (refine (rbl_s htm hn x_v130 ?_ ?_ tv40).trans i8s <;> omega) | (refine (rbl_s htm hn x_v260 ?_ ?_ tv40).trans i8s <;> omega)) hH hS (lv_sub hl [0] rfl)
      · skip
        have tc18 := f_ne (k := 10) (by decide) c18
        refine lv_aload_n hx hb dX12_next_21 rfl (lv_at hl 0 rfl) ?_
        refine lv_aload_n hx hb dX12_next_22 rfl (lv_at hl 0 rfl) ?_
        refine x_getk (ci := 12) (C := RX12) (F := TX12) (N := 36) (v := .int f8_106) hx hb hts uX12 hown hkb hH 0 rfl rfl 6 (by decide) rfl kw_1229 (fun _ h9 => h9) dX12_next_23 ?_
        refine tk_i hH hS hA (tr_V (n := 1) (As := [.int f8_106]) hx hb hml hown hts hkb hH (ox_map hOX rfl) hks hE hS hA (s_M_see l D cs kf T O X a0 hg mq f8_106 o0 o1 o2 y3 y4 o5 f8_106 y7 y8 y9 y10 y11 y12 tl f3 t_a0 b_hg (by omega) t_y3 t_y4 (by omega) (by omega) (by omega) (by omega) (by omega) (by omega) (by omega) (by omega) (hO.sub (by decide))) kw_1348 kw_1350 ks_44 kw_13 kw_1351 (by decide +kernel) ⟨Nat.le_of_ble_eq_true rfl, Nat.le_of_ble_eq_true rfl⟩ (x_recv (ci := 12) hkb hH 0 rfl rfl) rfl rfl hl.1 (Nat.le_of_ble_eq_true rfl) dX12_next_26 ⟨Nat.le_of_ble_eq_true rfl, Nat.le_of_ble_eq_true rfl⟩) (fun v26 u H locs hz9 hH hS => ?_)
        obtain ⟨rfl, x_v260, x_v261⟩ := hz9
        have hH : HT D cs A T (a0 :: y3 :: O) ((a0, .inr (12, o0 :: o1 :: o2 :: (.ref y3) :: (.ref y4) :: o5 :: (.int f8_106) :: (.int y7) :: (.int y8) :: (.int y9) :: (.int y10) :: (.int y11) :: (.int y12) :: tl)) :: (y3, .inl (cs.2.1, 900, .inl f3)) :: X) H := hH
        refine W.widen (k := 0) (n := 0) (Nat.le_of_ble_eq_true rfl) (Nat.le_of_ble_eq_true rfl) ?_
        refine lv_bipush (v := 32) hx hb dX12_next_29 (by decide) ?_
        refine lv_icmp_ne (tgt := 47) hx hb dX12_next_31 (by decide) (fun c31 => ?_) (fun c31 => ?_)
        · skip
          have tc31 := f_ne (k := 32) (by decide) c31
          have i47 := rbl_e htm hn i8s x_v130 tc18 x_v260 tc31
          refine lv_aload_n hx hb dX12_next_47 rfl (lv_at hl 0 rfl) ?_
          refine lv_aload_n hx hb dX12_next_48 rfl (lv_at hl 0 rfl) ?_
          refine x_getk (ci := 12) (C := RX12) (F := TX12) (N := 36) (v := .int f8_106) hx hb hts uX12 hown hkb hH 0 rfl rfl 6 (by decide) rfl kw_1229 (fun _ h9 => h9) dX12_next_49 ?_
          refine x_putk (ci := 12) (v := .int f8_106) (ty := tyX12 7) (C := RX12) (F := TX12) (N := 36) hx hb hts uX12 tyX12 tyX12_ok nmX12 hown hkb hH hS 0 rfl rfl 7 (by decide) kw_1230 (fun _ h9 => h9) rfl (tyX12_ok 7 (by decide)) rfl rfl (by show 7 < tl.length + 13; omega) dX12_next_52 (fun H locs hH hS => ?_)
          have hH : HT D cs A T (a0 :: y3 :: O) ((a0, .inr (12, o0 :: o1 :: o2 :: (.ref y3) :: (.ref y4) :: o5 :: (.int f8_106) :: (.int f8_106) :: (.int y8) :: (.int y9) :: (.int y10) :: (.int y11) :: (.int y12) :: tl)) :: (y3, .inl (cs.2.1, 900, .inl f3)) :: X) H := hH
          refine lv_aload_n hx hb dX12_next_55 rfl (lv_at hl 0 rfl) ?_
          refine x_getk (ci := 12) (C := RX12) (F := TX12) (N := 36) (v := .int f8_106) hx hb hts uX12 hown hkb hH 0 rfl rfl 6 (by decide) rfl kw_1229 (fun _ h9 => h9) dX12_next_56 ?_
          refine lv_aload_n hx hb dX12_next_59 rfl (lv_at hl 0 rfl) ?_
          refine x_getk (ci := 12) (C := RX12) (F := TX12) (N := 36) (v := .int y8) hx hb hts uX12 hown hkb hH 0 rfl rfl 8 (by decide) rfl kw_1231 (fun _ h9 => h9) dX12_next_60 ?_
          refine lv_icmp_lt (tgt := 75) hx hb dX12_next_63 (by decide) (fun c63 => ?_) (fun c63 => ?_)
          · skip
            have fuc63 := full_i f8_106
            have fvc63 := full_i y8
            have tc63 := g_lt c63
            refine lv_aload_n hx hb dX12_next_75 rfl (lv_at hl 0 rfl) ?_
            refine lv_aload_n hx hb dX12_next_76 rfl (lv_at hl 0 rfl) ?_
            refine x_getk (ci := 12) (C := RX12) (F := TX12) (N := 36) (v := .int f8_106) hx hb hts uX12 hown hkb hH 0 rfl rfl 6 (by decide) rfl kw_1229 (fun _ h9 => h9) dX12_next_77 ?_
            refine tk_i hH hS hA (tr_V (n := 1) (As := [.int f8_106]) hx hb hml hown hts hkb hH (ox_map hOX rfl) hks hE hS hA (s_M_see l D cs kf T O X a0 hg mq f8_106 o0 o1 o2 y3 y4 o5 f8_106 f8_106 y8 y9 y10 y11 y12 tl f3 t_a0 b_hg (by omega) t_y3 t_y4 (by omega) (by omega) (by omega) (by omega) (by omega) (by omega) (by omega) (by omega) (hO.sub (by decide))) kw_1348 kw_1350 ks_44 kw_13 kw_1351 (by decide +kernel) ⟨Nat.le_of_ble_eq_true rfl, Nat.le_of_ble_eq_true rfl⟩ (x_recv (ci := 12) hkb hH 0 rfl rfl) rfl rfl hl.1 (Nat.le_of_ble_eq_true rfl) dX12_next_80 ⟨Nat.le_of_ble_eq_true rfl, Nat.le_of_ble_eq_true rfl⟩) (fun v80 u H locs hz9 hH hS => ?_)
            obtain ⟨rfl, x_v800, x_v801⟩ := hz9
            have hH : HT D cs A T (a0 :: y3 :: O) ((a0, .inr (12, o0 :: o1 :: o2 :: (.ref y3) :: (.ref y4) :: o5 :: (.int f8_106) :: (.int f8_106) :: (.int y8) :: (.int y9) :: (.int y10) :: (.int y11) :: (.int y12) :: tl)) :: (y3, .inl (cs.2.1, 900, .inl f3)) :: X) H := hH
            refine W.widen (k := 0) (n := 0) (Nat.le_of_ble_eq_true rfl) (Nat.le_of_ble_eq_true rfl) ?_
            refine tk_i hH hS hA (tr_S (n := 1) (As := [.int v80]) hx hb hml hown hts hkb hH (ox_map hOX rfl) hks hE hS hA (s_M_isSmall2 l D cs kf T (a0 :: y3 :: O) ((a0, .inr (12, o0 :: o1 :: o2 :: (.ref y3) :: (.ref y4) :: o5 :: (.int f8_106) :: (.int f8_106) :: (.int y8) :: (.int y9) :: (.int y10) :: (.int y11) :: (.int y12) :: tl)) :: (y3, .inl (cs.2.1, 900, .inl f3)) :: X) v80  (hO.sub (by decide))) kw_1352 kw_1353 kw_13 kw_1354 (by decide +kernel) ⟨Nat.le_of_ble_eq_true rfl, Nat.le_of_ble_eq_true rfl⟩ rfl rfl hl.1 (Nat.le_of_ble_eq_true rfl) dX12_next_83 ⟨Nat.le_of_ble_eq_true rfl, Nat.le_of_ble_eq_true rfl⟩) (fun v83 u H locs hz9 hH hS => ?_)
            obtain ⟨rfl, l_v83, u_v83, x_v830, x_v831⟩ := hz9
            have hH : HT D cs A T (a0 :: y3 :: O) ((a0, .inr (12, o0 :: o1 :: o2 :: (.ref y3) :: (.ref y4) :: o5 :: (.int f8_106) :: (.int f8_106) :: (.int y8) :: (.int y9) :: (.int y10) :: (.int y11) :: (.int y12) :: tl)) :: (y3, .inl (cs.2.1, 900, .inl f3)) :: X) H := hH
            refine W.widen (k := 0) (n := 0) (Nat.le_of_ble_eq_true rfl) (Nat.le_of_ble_eq_true rfl) ?_
            have J89 : ∀ (n : Nat) (f89_107 : Int32) (H : Heap) (locs : List Loc) (ls : Array Slot), (900 - f89_107.toInt).toNat = n → (0 ≤ f89_107.toInt) → (f89_107.toInt ≤ 900) → (f8_106.toInt ≤ f89_107.toInt ∧ f89_107.toInt ≤ y8.toInt) → (v83.toInt ≠ 0) → (run (sm t) tn f89_107.toInt.toNat = run (sm t) tn f8_106.toInt.toNat) → HT D cs A T (a0 :: y3 :: O) ((a0, .inr (12, o0 :: o1 :: o2 :: (.ref y3) :: (.ref y4) :: o5 :: (.int f8_106) :: (.int f89_107) :: (.int y8) :: (.int y9) :: (.int y10) :: (.int y11) :: (.int y12) :: tl)) :: (y3, .inl (cs.2.1, 900, .inl f3)) :: X) H → va_S A s.heap H locs → lv_has ls 2 [(0, .ref a0)] → W p l e { frames := 5, cells := 0, slots := 0, locals := 108 } s m [.ref a0].toArray below meth c H locs 0 0 (MQ below (Tv D cs (fun u => ∃ (n0_6 : Int32) (n0_7 : Int32) (n0_9 : Int32) (n0_10 : Int32), u = (T, a0 :: y3 :: O, (a0, .inr (12, o0 :: o1 :: o2 :: (.ref y3) :: (.ref y4) :: o5 :: (.int n0_6) :: (.int n0_7) :: (.int y8) :: (.int n0_9) :: (.int n0_10) :: (.int y11) :: (.int y12) :: tl)) :: (y3, .inl (cs.2.1, 900, .inl f3)) :: X) ∧ (y7.toInt ≤ n0_6.toInt) ∧ (n0_6.toInt ≤ n0_7.toInt) ∧ (n0_7.toInt ≤ y8.toInt) ∧ (TK3 n0_9 n0_6 n0_7) ∧ (0 ≤ n0_10.toInt) ∧ (n0_10.toInt ≤ 999) ∧ (MSS t tn n0_6 n0_7 n0_9 n0_10) ∧ (n0_6.toInt.toNat = nxs t tn y7.toInt.toNat)) A) [.ref a0].toArray s 0 0 A) (F0 m 89 ls []) := by
              intro n
              induction n using Nat.strongRecOn with
              | _ n ih89 =>
                intro f89_107 H locs ls hm89 l_f89_107 u_f89_107 i89 j89 i89s hH hS hl
                refine lv_aload_n hx hb dX12_next_89 rfl (lv_at hl 0 rfl) ?_
                refine lv_aload_n hx hb dX12_next_90 rfl (lv_at hl 0 rfl) ?_
                refine x_getk (ci := 12) (C := RX12) (F := TX12) (N := 36) (v := .int f89_107) hx hb hts uX12 hown hkb hH 0 rfl rfl 7 (by decide) rfl kw_1230 (fun _ h9 => h9) dX12_next_91 ?_
                refine tk_i hH hS hA (tr_V (n := 1) (As := [.int f89_107]) hx hb hml hown hts hkb hH (ox_map hOX rfl) hks hE hS hA (s_M_see l D cs kf T O X a0 hg mq f89_107 o0 o1 o2 y3 y4 o5 f8_106 f89_107 y8 y9 y10 y11 y12 tl f3 t_a0 b_hg (by omega) t_y3 t_y4 (by omega) (by omega) (by omega) (by omega) (by omega) (by omega) (by omega) (by omega) (hO.sub (by decide))) kw_1348 kw_1350 ks_44 kw_13 kw_1351 (by decide +kernel) ⟨Nat.le_of_ble_eq_true rfl, Nat.le_of_ble_eq_true rfl⟩ (x_recv (ci := 12) hkb hH 0 rfl rfl) rfl rfl hl.1 (Nat.le_of_ble_eq_true rfl) dX12_next_94 ⟨Nat.le_of_ble_eq_true rfl, Nat.le_of_ble_eq_true rfl⟩) (fun v94 u H locs hz9 hH hS => ?_)
                obtain ⟨rfl, x_v940, x_v941⟩ := hz9
                have hH : HT D cs A T (a0 :: y3 :: O) ((a0, .inr (12, o0 :: o1 :: o2 :: (.ref y3) :: (.ref y4) :: o5 :: (.int f8_106) :: (.int f89_107) :: (.int y8) :: (.int y9) :: (.int y10) :: (.int y11) :: (.int y12) :: tl)) :: (y3, .inl (cs.2.1, 900, .inl f3)) :: X) H := hH
                refine W.widen (k := 0) (n := 0) (Nat.le_of_ble_eq_true rfl) (Nat.le_of_ble_eq_true rfl) ?_
                refine tk_i hH hS hA (tr_S (n := 1) (As := [.int v94]) hx hb hml hown hts hkb hH (ox_map hOX rfl) hks hE hS hA (s_M_isSmall2 l D cs kf T (a0 :: y3 :: O) ((a0, .inr (12, o0 :: o1 :: o2 :: (.ref y3) :: (.ref y4) :: o5 :: (.int f8_106) :: (.int f89_107) :: (.int y8) :: (.int y9) :: (.int y10) :: (.int y11) :: (.int y12) :: tl)) :: (y3, .inl (cs.2.1, 900, .inl f3)) :: X) v94  (hO.sub (by decide))) kw_1352 kw_1353 kw_13 kw_1354 (by decide +kernel) ⟨Nat.le_of_ble_eq_true rfl, Nat.le_of_ble_eq_true rfl⟩ rfl rfl hl.1 (Nat.le_of_ble_eq_true rfl) dX12_next_97 ⟨Nat.le_of_ble_eq_true rfl, Nat.le_of_ble_eq_true rfl⟩) (fun v97 u H locs hz9 hH hS => ?_)
                obtain ⟨rfl, l_v97, u_v97, x_v970, x_v971⟩ := hz9
                have hH : HT D cs A T (a0 :: y3 :: O) ((a0, .inr (12, o0 :: o1 :: o2 :: (.ref y3) :: (.ref y4) :: o5 :: (.int f8_106) :: (.int f89_107) :: (.int y8) :: (.int y9) :: (.int y10) :: (.int y11) :: (.int y12) :: tl)) :: (y3, .inl (cs.2.1, 900, .inl f3)) :: X) H := hH
                refine W.widen (k := 0) (n := 0) (Nat.le_of_ble_eq_true rfl) (Nat.le_of_ble_eq_true rfl) ?_
                refine lv_if_eq (tgt := 116) hx hb dX12_next_100 (by decide) (fun c100 => ?_) (fun c100 => ?_)
                · skip
                  have tc100 := f_eq (k := 0) (by decide) c100
                  have hq : f8_106.toInt ≠ f89_107.toInt := fun q => by have := see_same x_v800 x_v940 q; omega
                  refine lv_aload_n hx hb dX12_next_116 rfl (lv_at hl 0 rfl) ?_
                  refine lv_aload_n hx hb dX12_next_117 rfl (lv_at hl 0 rfl) ?_
                  refine tk_i hH hS hA (tr_V (n := 0) (As := []) hx hb hml hown hts hkb hH (ox_map hOX rfl) hks hE hS hA (s_M_keyAt l D cs kf T O X a0 hg mq o0 o1 o2 y3 y4 o5 f8_106 f89_107 y8 y9 y10 y11 y12 tl f3 t tn t_a0 b_hg t_y3 t_y4 (by omega) (by omega) (by omega) (by omega) (by omega) (by omega) (by omega) (by omega) (by omega) htm (by omega) (hO.sub (by decide))) kw_1355 kw_1357 ks_45 kw_13 kw_1358 (by decide +kernel) ⟨Nat.le_of_ble_eq_true rfl, Nat.le_of_ble_eq_true rfl⟩ (x_recv (ci := 12) hkb hH 0 rfl rfl) rfl rfl hl.1 (Nat.le_of_ble_eq_true rfl) dX12_next_118 ⟨Nat.le_of_ble_eq_true rfl, Nat.le_of_ble_eq_true rfl⟩) (fun v118 u H locs hz9 hH hS => ?_)
                  obtain ⟨rfl, l_v118, u_v118, x_v1180⟩ := hz9
                  have hH : HT D cs A T (a0 :: y3 :: O) ((a0, .inr (12, o0 :: o1 :: o2 :: (.ref y3) :: (.ref y4) :: o5 :: (.int f8_106) :: (.int f89_107) :: (.int y8) :: (.int y9) :: (.int y10) :: (.int y11) :: (.int y12) :: tl)) :: (y3, .inl (cs.2.1, 900, .inl f3)) :: X) H := hH
                  refine W.widen (k := 0) (n := 0) (Nat.le_of_ble_eq_true rfl) (Nat.le_of_ble_eq_true rfl) ?_
                  refine x_putk (ci := 12) (v := .int v118) (ty := tyX12 9) (C := RX12) (F := TX12) (N := 36) hx hb hts uX12 tyX12 tyX12_ok nmX12 hown hkb hH hS 0 rfl rfl 9 (by decide) kw_1232 (fun _ h9 => h9) rfl (tyX12_ok 9 (by decide)) rfl rfl (by show 9 < tl.length + 13; omega) dX12_next_121 (fun H locs hH hS => ?_)
                  have hH : HT D cs A T (a0 :: y3 :: O) ((a0, .inr (12, o0 :: o1 :: o2 :: (.ref y3) :: (.ref y4) :: o5 :: (.int f8_106) :: (.int f89_107) :: (.int y8) :: (.int v118) :: (.int y10) :: (.int y11) :: (.int y12) :: tl)) :: (y3, .inl (cs.2.1, 900, .inl f3)) :: X) H := hH
                  refine lv_goto (tgt := 294) hx hb dX12_next_124 (by decide) ?_
                  have ms9 : MSS t tn f8_106 f89_107 v118 y10 ∧ f8_106.toInt.toNat = nxs t tn y7.toInt.toNat := by
                    first | (refine MS_E i47 ?_ ?_ ?_ (by decide) <;> omega) | (refine MS_W htm hn i47 ?_ ?_ x_v800 ?_ ?_ i89s ?_ (rsm_e htm hn x_v940 (by omega)) x_v1180 <;> omega) | (refine MS_D htm hn i47 ?_ ?_ x_v1320 ?_ ?_ i146s (rdg_e htm hn x_v1510 (by omega)) i146v (Or.inl ⟨by decide, by omega⟩) <;> omega) | (refine MS_D htm hn i47 ?_ ?_ x_v1320 ?_ ?_ i146s (rdg_e htm hn x_v1510 (by omega)) i146v (Or.inr ⟨by decide, by omega⟩) <;> omega) | (refine MS_G (z := p254_1) htm hn i47 ?_ ?_ x_v800 ?_ x_v1320 ?_ tv242 i254s ?_ <;> omega)
                  exact te_v hx hb hr hlocks hH hS (⟨f8_106, f89_107, v118, y10, rfl, by omega, by omega, by omega, (fun q => by omega), by omega, by omega, ms9.1, ms9.2⟩) dX12_next_294
                · skip
                  have tc100 := f_ne (k := 0) (by decide) c100
                  refine lv_aload_n hx hb dX12_next_103 rfl (lv_at hl 0 rfl) ?_
                  refine lv_dup hx hb dX12_next_104 rfl ?_
                  refine x_getk (ci := 12) (C := RX12) (F := TX12) (N := 36) (v := .int f89_107) hx hb hts uX12 hown hkb hH 0 rfl rfl 7 (by decide) rfl kw_1230 (fun _ h9 => h9) dX12_next_105 ?_
                  refine lv_iconst (v := 1) hx hb dX12_next_108 (by decide) ?_
                  refine lv_iadd hx hb dX12_next_109 ?_
                  refine lv_topi (fun v109 ev109 => ?_)
                  have tv109 : v109.toInt = f89_107.toInt + (1) := by rw [ev109]; exact add_i rfl (by decide : (1 : Int32).toInt = 1) (by omega) (by omega)
                  refine x_putk (ci := 12) (v := .int v109) (ty := tyX12 7) (C := RX12) (F := TX12) (N := 36) hx hb hts uX12 tyX12 tyX12_ok nmX12 hown hkb hH hS 0 rfl rfl 7 (by decide) kw_1230 (fun _ h9 => h9) rfl (tyX12_ok 7 (by decide)) rfl rfl (by show 7 < tl.length + 13; omega) dX12_next_110 (fun H locs hH hS => ?_)
                  have hH : HT D cs A T (a0 :: y3 :: O) ((a0, .inr (12, o0 :: o1 :: o2 :: (.ref y3) :: (.ref y4) :: o5 :: (.int f8_106) :: (.int v109) :: (.int y8) :: (.int y9) :: (.int y10) :: (.int y11) :: (.int y12) :: tl)) :: (y3, .inl (cs.2.1, 900, .inl f3)) :: X) H := hH
                  refine lv_goto (tgt := 89) hx hb dX12_next_113 (by decide) ?_
                  exact ih89 _ (by omega) v109 _ _ _ rfl (by omega) (by omega) (by omega) (by omega) (by first | rfl | (refine rsm_s htm hn i89s x_v940 ?_ ?_ ?_ tv109 <;> omega)) hH hS (lv_sub hl [0] rfl)
            refine lv_if_eq (tgt := 127) hx hb dX12_next_86 (by decide) (fun c86 => ?_) (fun c86 => ?_)
            · skip
              have tc86 := f_eq (k := 0) (by decide) c86
              refine lv_aload_n hx hb dX12_next_127 rfl (lv_at hl 0 rfl) ?_
              refine lv_aload_n hx hb dX12_next_128 rfl (lv_at hl 0 rfl) ?_
              refine x_getk (ci := 12) (C := RX12) (F := TX12) (N := 36) (v := .int f8_106) hx hb hts uX12 hown hkb hH 0 rfl rfl 6 (by decide) rfl kw_1229 (fun _ h9 => h9) dX12_next_129 ?_
              refine tk_i hH hS hA (tr_V (n := 1) (As := [.int f8_106]) hx hb hml hown hts hkb hH (ox_map hOX rfl) hks hE hS hA (s_M_see l D cs kf T O X a0 hg mq f8_106 o0 o1 o2 y3 y4 o5 f8_106 f8_106 y8 y9 y10 y11 y12 tl f3 t_a0 b_hg (by omega) t_y3 t_y4 (by omega) (by omega) (by omega) (by omega) (by omega) (by omega) (by omega) (by omega) (hO.sub (by decide))) kw_1348 kw_1350 ks_44 kw_13 kw_1351 (by decide +kernel) ⟨Nat.le_of_ble_eq_true rfl, Nat.le_of_ble_eq_true rfl⟩ (x_recv (ci := 12) hkb hH 0 rfl rfl) rfl rfl hl.1 (Nat.le_of_ble_eq_true rfl) dX12_next_132 ⟨Nat.le_of_ble_eq_true rfl, Nat.le_of_ble_eq_true rfl⟩) (fun v132 u H locs hz9 hH hS => ?_)
              obtain ⟨rfl, x_v1320, x_v1321⟩ := hz9
              have hH : HT D cs A T (a0 :: y3 :: O) ((a0, .inr (12, o0 :: o1 :: o2 :: (.ref y3) :: (.ref y4) :: o5 :: (.int f8_106) :: (.int f8_106) :: (.int y8) :: (.int y9) :: (.int y10) :: (.int y11) :: (.int y12) :: tl)) :: (y3, .inl (cs.2.1, 900, .inl f3)) :: X) H := hH
              refine W.widen (k := 0) (n := 0) (Nat.le_of_ble_eq_true rfl) (Nat.le_of_ble_eq_true rfl) ?_
              refine tk_i hH hS hA (tr_S (n := 1) (As := [.int v132]) hx hb hml hown hts hkb hH (ox_map hOX rfl) hks hE hS hA (s_M_isDigit2 l D cs kf T (a0 :: y3 :: O) ((a0, .inr (12, o0 :: o1 :: o2 :: (.ref y3) :: (.ref y4) :: o5 :: (.int f8_106) :: (.int f8_106) :: (.int y8) :: (.int y9) :: (.int y10) :: (.int y11) :: (.int y12) :: tl)) :: (y3, .inl (cs.2.1, 900, .inl f3)) :: X) v132  (hO.sub (by decide))) kw_1362 kw_1363 kw_13 kw_1364 (by decide +kernel) ⟨Nat.le_of_ble_eq_true rfl, Nat.le_of_ble_eq_true rfl⟩ rfl rfl hl.1 (Nat.le_of_ble_eq_true rfl) dX12_next_135 ⟨Nat.le_of_ble_eq_true rfl, Nat.le_of_ble_eq_true rfl⟩) (fun v135 u H locs hz9 hH hS => ?_)
              obtain ⟨rfl, l_v135, u_v135, x_v1350, x_v1351⟩ := hz9
              have hH : HT D cs A T (a0 :: y3 :: O) ((a0, .inr (12, o0 :: o1 :: o2 :: (.ref y3) :: (.ref y4) :: o5 :: (.int f8_106) :: (.int f8_106) :: (.int y8) :: (.int y9) :: (.int y10) :: (.int y11) :: (.int y12) :: tl)) :: (y3, .inl (cs.2.1, 900, .inl f3)) :: X) H := hH
              refine W.widen (k := 0) (n := 0) (Nat.le_of_ble_eq_true rfl) (Nat.le_of_ble_eq_true rfl) ?_
              refine lv_if_eq (tgt := 236) hx hb dX12_next_138 (by decide) (fun c138 => ?_) (fun c138 => ?_)
              · skip
                have tc138 := f_eq (k := 0) (by decide) c138
                refine lv_aload_n hx hb dX12_next_236 rfl (lv_at hl 0 rfl) ?_
                refine lv_dup hx hb dX12_next_237 rfl ?_
                refine x_getk (ci := 12) (C := RX12) (F := TX12) (N := 36) (v := .int f8_106) hx hb hts uX12 hown hkb hH 0 rfl rfl 7 (by decide) rfl kw_1230 (fun _ h9 => h9) dX12_next_238 ?_
                refine lv_iconst (v := 1) hx hb dX12_next_241 (by decide) ?_
                refine lv_iadd hx hb dX12_next_242 ?_
                refine lv_topi (fun v242 ev242 => ?_)
                have tv242 : v242.toInt = f8_106.toInt + (1) := by rw [ev242]; exact add_i rfl (by decide : (1 : Int32).toInt = 1) (by omega) (by omega)
                refine x_putk (ci := 12) (v := .int v242) (ty := tyX12 7) (C := RX12) (F := TX12) (N := 36) hx hb hts uX12 tyX12 tyX12_ok nmX12 hown hkb hH hS 0 rfl rfl 7 (by decide) kw_1230 (fun _ h9 => h9) rfl (tyX12_ok 7 (by decide)) rfl rfl (by show 7 < tl.length + 13; omega) dX12_next_243 (fun H locs hH hS => ?_)
                have hH : HT D cs A T (a0 :: y3 :: O) ((a0, .inr (12, o0 :: o1 :: o2 :: (.ref y3) :: (.ref y4) :: o5 :: (.int f8_106) :: (.int v242) :: (.int y8) :: (.int y9) :: (.int y10) :: (.int y11) :: (.int y12) :: tl)) :: (y3, .inl (cs.2.1, 900, .inl f3)) :: X) H := hH
                refine lv_aload_n hx hb dX12_next_246 rfl (lv_at hl 0 rfl) ?_
                refine lv_bipush (v := 23) hx hb dX12_next_247 (by decide) ?_
                refine x_putk (ci := 12) (v := .int 23) (ty := tyX12 9) (C := RX12) (F := TX12) (N := 36) hx hb hts uX12 tyX12 tyX12_ok nmX12 hown hkb hH hS 0 rfl rfl 9 (by decide) kw_1232 (fun _ h9 => h9) rfl (tyX12_ok 9 (by decide)) rfl rfl (by show 9 < tl.length + 13; omega) dX12_next_249 (fun H locs hH hS => ?_)
                have hH : HT D cs A T (a0 :: y3 :: O) ((a0, .inr (12, o0 :: o1 :: o2 :: (.ref y3) :: (.ref y4) :: o5 :: (.int f8_106) :: (.int v242) :: (.int y8) :: (.int 23) :: (.int y10) :: (.int y11) :: (.int y12) :: tl)) :: (y3, .inl (cs.2.1, 900, .inl f3)) :: X) H := hH
                refine lv_iconst (v := 0) hx hb dX12_next_252 (by decide) ?_
                have J254 : ∀ (n : Nat) (p254_1 : Int32) (f254_109 : Int32) (H : Heap) (locs : List Loc) (ls : Array Slot), (12 - p254_1.toInt).toNat = n → (0 ≤ p254_1.toInt) → (p254_1.toInt ≤ 12) → (23 ≤ f254_109.toInt) → (f254_109.toInt ≤ 42) → (f254_109.toInt = (sgl v132.toInt p254_1.toInt.toNat : Nat)) → HT D cs A T (a0 :: y3 :: O) ((a0, .inr (12, o0 :: o1 :: o2 :: (.ref y3) :: (.ref y4) :: o5 :: (.int f8_106) :: (.int v242) :: (.int y8) :: (.int f254_109) :: (.int y10) :: (.int y11) :: (.int y12) :: tl)) :: (y3, .inl (cs.2.1, 900, .inl f3)) :: X) H → va_S A s.heap H locs → lv_has ls 2 [(1, .int p254_1), (0, .ref a0)] → W p l e { frames := 5, cells := 0, slots := 0, locals := 108 } s m [.ref a0].toArray below meth c H locs 0 0 (MQ below (Tv D cs (fun u => ∃ (n0_6 : Int32) (n0_7 : Int32) (n0_9 : Int32) (n0_10 : Int32), u = (T, a0 :: y3 :: O, (a0, .inr (12, o0 :: o1 :: o2 :: (.ref y3) :: (.ref y4) :: o5 :: (.int n0_6) :: (.int n0_7) :: (.int y8) :: (.int n0_9) :: (.int n0_10) :: (.int y11) :: (.int y12) :: tl)) :: (y3, .inl (cs.2.1, 900, .inl f3)) :: X) ∧ (y7.toInt ≤ n0_6.toInt) ∧ (n0_6.toInt ≤ n0_7.toInt) ∧ (n0_7.toInt ≤ y8.toInt) ∧ (TK3 n0_9 n0_6 n0_7) ∧ (0 ≤ n0_10.toInt) ∧ (n0_10.toInt ≤ 999) ∧ (MSS t tn n0_6 n0_7 n0_9 n0_10) ∧ (n0_6.toInt.toNat = nxs t tn y7.toInt.toNat)) A) [.ref a0].toArray s 0 0 A) (F0 m 254 ls []) := by
                  intro n
                  induction n using Nat.strongRecOn with
                  | _ n ih254 =>
                    intro p254_1 f254_109 H locs ls hm254 l_p254_1 u_p254_1 l_f254_109 u_f254_109 i254s hH hS hl
                    have hs0 : slen.getD 0 0 = 12 := by decide
                    refine lv_iload_n hx hb dX12_next_254 rfl (lv_at hl 0 rfl) ?_
                    refine va_ldcS (q := kf.1 0) hx hb hown (hks ("FootholdWallModel", 126, ";:+-*()[]=<>", 0) (by decide +kernel)) dX12_next_255 ?_
                    refine tk_i hH hS hA (tr_V (n := 0) (As := []) hx hb hml hown hts hkb hH (ox_map hOX rfl) hks hE hS hA (s_length l D cs kf T (a0 :: y3 :: O) ((a0, .inr (12, o0 :: o1 :: o2 :: (.ref y3) :: (.ref y4) :: o5 :: (.int f8_106) :: (.int v242) :: (.int y8) :: (.int f254_109) :: (.int y10) :: (.int y11) :: (.int y12) :: tl)) :: (y3, .inl (cs.2.1, 900, .inl f3)) :: X) 0 (by decide) (hO.sub (by decide))) kw_1360 kw_478 kw_479 kw_14 kw_480 (by decide +kernel) ⟨Nat.le_of_ble_eq_true rfl, Nat.le_of_ble_eq_true rfl⟩ (vk_recv hE.1 (by decide) hS) rfl rfl hl.1 (Nat.le_of_ble_eq_true rfl) dX12_next_257 ⟨Nat.le_of_ble_eq_true rfl, Nat.le_of_ble_eq_true rfl⟩) (fun v257 u H locs hz9 hH hS => ?_)
                    obtain ⟨rfl, l_v257, u_v257, x_v2570⟩ := hz9
                    have hH : HT D cs A T (a0 :: y3 :: O) ((a0, .inr (12, o0 :: o1 :: o2 :: (.ref y3) :: (.ref y4) :: o5 :: (.int f8_106) :: (.int v242) :: (.int y8) :: (.int f254_109) :: (.int y10) :: (.int y11) :: (.int y12) :: tl)) :: (y3, .inl (cs.2.1, 900, .inl f3)) :: X) H := hH
                    refine W.widen (k := 0) (n := 0) (Nat.le_of_ble_eq_true rfl) (Nat.le_of_ble_eq_true rfl) ?_
                    refine lv_icmp_ge (tgt := 294) hx hb dX12_next_260 (by decide) (fun c260 => ?_) (fun c260 => ?_)
                    · skip
                      have fuc260 := full_i p254_1
                      have fvc260 := full_i v257
                      have tc260 := g_le c260
                      have ms9 : MSS t tn f8_106 v242 f254_109 y10 ∧ f8_106.toInt.toNat = nxs t tn y7.toInt.toNat := by
                        first | (refine MS_E i47 ?_ ?_ ?_ (by decide) <;> omega) | (refine MS_W htm hn i47 ?_ ?_ x_v800 ?_ ?_ i89s ?_ (rsm_e htm hn x_v940 (by omega)) x_v1180 <;> omega) | (refine MS_D htm hn i47 ?_ ?_ x_v1320 ?_ ?_ i146s (rdg_e htm hn x_v1510 (by omega)) i146v (Or.inl ⟨by decide, by omega⟩) <;> omega) | (refine MS_D htm hn i47 ?_ ?_ x_v1320 ?_ ?_ i146s (rdg_e htm hn x_v1510 (by omega)) i146v (Or.inr ⟨by decide, by omega⟩) <;> omega) | (refine MS_G (z := p254_1) htm hn i47 ?_ ?_ x_v800 ?_ x_v1320 ?_ tv242 i254s ?_ <;> omega)
                      exact te_v hx hb hr hlocks hH hS (⟨f8_106, v242, f254_109, y10, rfl, by omega, by omega, by omega, (fun q => by omega), by omega, by omega, ms9.1, ms9.2⟩) dX12_next_294
                    · skip
                      have fuc260 := full_i p254_1
                      have fvc260 := full_i v257
                      have tc260 := g_nle c260
                      refine lv_aload_n hx hb dX12_next_263 rfl (lv_at hl 1 rfl) ?_
                      refine lv_aload_n hx hb dX12_next_264 rfl (lv_at hl 1 rfl) ?_
                      refine x_getk (ci := 12) (C := RX12) (F := TX12) (N := 36) (v := .int f8_106) hx hb hts uX12 hown hkb hH 0 rfl rfl 6 (by decide) rfl kw_1229 (fun _ h9 => h9) dX12_next_265 ?_
                      refine tk_i hH hS hA (tr_V (n := 1) (As := [.int f8_106]) hx hb hml hown hts hkb hH (ox_map hOX rfl) hks hE hS hA (s_M_see l D cs kf T O X a0 hg mq f8_106 o0 o1 o2 y3 y4 o5 f8_106 v242 y8 f254_109 y10 y11 y12 tl f3 t_a0 b_hg (by omega) t_y3 t_y4 (by omega) (by omega) (by omega) (by omega) (by omega) (by omega) (by omega) (by omega) (hO.sub (by decide))) kw_1348 kw_1350 ks_44 kw_13 kw_1351 (by decide +kernel) ⟨Nat.le_of_ble_eq_true rfl, Nat.le_of_ble_eq_true rfl⟩ (x_recv (ci := 12) hkb hH 0 rfl rfl) rfl rfl hl.1 (Nat.le_of_ble_eq_true rfl) dX12_next_268 ⟨Nat.le_of_ble_eq_true rfl, Nat.le_of_ble_eq_true rfl⟩) (fun v268 u H locs hz9 hH hS => ?_)
                      obtain ⟨rfl, x_v2680, x_v2681⟩ := hz9
                      have hH : HT D cs A T (a0 :: y3 :: O) ((a0, .inr (12, o0 :: o1 :: o2 :: (.ref y3) :: (.ref y4) :: o5 :: (.int f8_106) :: (.int v242) :: (.int y8) :: (.int f254_109) :: (.int y10) :: (.int y11) :: (.int y12) :: tl)) :: (y3, .inl (cs.2.1, 900, .inl f3)) :: X) H := hH
                      refine W.widen (k := 0) (n := 0) (Nat.le_of_ble_eq_true rfl) (Nat.le_of_ble_eq_true rfl) ?_
                      refine va_ldcS (q := kf.1 0) hx hb hown (hks ("FootholdWallModel", 126, ";:+-*()[]=<>", 0) (by decide +kernel)) dX12_next_271 ?_
                      refine lv_iload_n hx hb dX12_next_273 rfl (lv_at hl 0 rfl) ?_
                      refine tk_i hH hS hA (tr_V (n := 1) (As := [.int p254_1]) hx hb hml hown hts hkb hH (ox_map hOX rfl) hks hE hS hA (s_charAt2 l D cs kf T (a0 :: y3 :: O) ((a0, .inr (12, o0 :: o1 :: o2 :: (.ref y3) :: (.ref y4) :: o5 :: (.int f8_106) :: (.int v242) :: (.int y8) :: (.int f254_109) :: (.int y10) :: (.int y11) :: (.int y12) :: tl)) :: (y3, .inl (cs.2.1, 900, .inl f3)) :: X) 0 p254_1 (by decide) (by omega) (by omega) (hO.sub (by decide))) kw_1361 kw_556 kw_557 kw_14 kw_558 (by decide +kernel) ⟨Nat.le_of_ble_eq_true rfl, Nat.le_of_ble_eq_true rfl⟩ (vk_recv hE.1 (by decide) hS) rfl rfl hl.1 (Nat.le_of_ble_eq_true rfl) dX12_next_274 ⟨Nat.le_of_ble_eq_true rfl, Nat.le_of_ble_eq_true rfl⟩) (fun v274 u H locs hz9 hH hS => ?_)
                      obtain ⟨rfl, l_v274, u_v274, x_v2740⟩ := hz9
                      have hH : HT D cs A T (a0 :: y3 :: O) ((a0, .inr (12, o0 :: o1 :: o2 :: (.ref y3) :: (.ref y4) :: o5 :: (.int f8_106) :: (.int v242) :: (.int y8) :: (.int f254_109) :: (.int y10) :: (.int y11) :: (.int y12) :: tl)) :: (y3, .inl (cs.2.1, 900, .inl f3)) :: X) H := hH
                      refine W.widen (k := 0) (n := 0) (Nat.le_of_ble_eq_true rfl) (Nat.le_of_ble_eq_true rfl) ?_
                      refine lv_icmp_ne (tgt := 288) hx hb dX12_next_277 (by decide) (fun c277 => ?_) (fun c277 => ?_)
                      · skip
                        have fuc277 := full_i v268
                        have fvc277 := full_i v274
                        have tc277 := g_ne c277
                        obtain ⟨v288, ev288⟩ : ∃ y : Int32, y = p254_1 + 1 := ⟨_, rfl⟩
                        have tv288 : v288.toInt = p254_1.toInt + (1) := by rw [ev288]; exact add_i rfl (by decide) (by omega) (by omega)
                        refine lv_iinc (v := v288) (lv' := [(1, .int v288), (0, .ref a0)]) hx hb dX12_next_288 hl (k := 0) rfl (by rw [ev288]; rfl) (by decide) rfl (fun ls hl => ?_)
                        refine lv_goto (tgt := 254) hx hb dX12_next_291 (by decide) ?_
                        exact ih254 _ (by omega) v288 f254_109 _ _ _ rfl (by omega) (by omega) (by omega) (by omega) (by first | (refine SGL_0 ?_ ?_ <;> decide) | (refine SGL_s i254s ?_ tv288 ?_ x_v2740 (Or.inl ⟨tc277, ?_⟩); omega; exact see_same x_v2680 x_v1320 rfl; omega) | (refine SGL_s i254s ?_ tv288 ?_ x_v2740 (Or.inr ⟨tc277, rfl⟩); omega; exact see_same x_v2680 x_v1320 rfl)) hH hS (lv_sub hl [0, 1] rfl)
                      · skip
                        have fuc277 := full_i v268
                        have fvc277 := full_i v274
                        have tc277 := g_eq c277
                        refine lv_aload_n hx hb dX12_next_280 rfl (lv_at hl 1 rfl) ?_
                        refine lv_bipush (v := 30) hx hb dX12_next_281 (by decide) ?_
                        refine lv_iload_n hx hb dX12_next_283 rfl (lv_at hl 0 rfl) ?_
                        refine lv_iadd hx hb dX12_next_284 ?_
                        refine lv_topi (fun v284 ev284 => ?_)
                        have tv284 : v284.toInt = (30) + p254_1.toInt := by rw [ev284]; exact add_i (by decide : (30 : Int32).toInt = 30) rfl (by omega) (by omega)
                        refine x_putk (ci := 12) (v := .int v284) (ty := tyX12 9) (C := RX12) (F := TX12) (N := 36) hx hb hts uX12 tyX12 tyX12_ok nmX12 hown hkb hH hS 0 rfl rfl 9 (by decide) kw_1232 (fun _ h9 => h9) rfl (tyX12_ok 9 (by decide)) rfl rfl (by show 9 < tl.length + 13; omega) dX12_next_285 (fun H locs hH hS => ?_)
                        have hH : HT D cs A T (a0 :: y3 :: O) ((a0, .inr (12, o0 :: o1 :: o2 :: (.ref y3) :: (.ref y4) :: o5 :: (.int f8_106) :: (.int v242) :: (.int y8) :: (.int v284) :: (.int y10) :: (.int y11) :: (.int y12) :: tl)) :: (y3, .inl (cs.2.1, 900, .inl f3)) :: X) H := hH
                        obtain ⟨v288, ev288⟩ : ∃ y : Int32, y = p254_1 + 1 := ⟨_, rfl⟩
                        have tv288 : v288.toInt = p254_1.toInt + (1) := by rw [ev288]; exact add_i rfl (by decide) (by omega) (by omega)
                        refine lv_iinc (v := v288) (lv' := [(1, .int v288), (0, .ref a0)]) hx hb dX12_next_288 hl (k := 0) rfl (by rw [ev288]; rfl) (by decide) rfl (fun ls hl => ?_)
                        refine lv_goto (tgt := 254) hx hb dX12_next_291 (by decide) ?_
                        exact ih254 _ (by omega) v288 v284 _ _ _ rfl (by omega) (by omega) (by omega) (by omega) (by first | (refine SGL_0 ?_ ?_ <;> decide) | (refine SGL_s i254s ?_ tv288 ?_ x_v2740 (Or.inl ⟨tc277, ?_⟩); omega; exact see_same x_v2680 x_v1320 rfl; omega) | (refine SGL_s i254s ?_ tv288 ?_ x_v2740 (Or.inr ⟨tc277, rfl⟩); omega; exact see_same x_v2680 x_v1320 rfl)) hH hS (lv_sub hl [0, 1] rfl)
                refine lv_istore_n (lv' := [(1, .int 0), (0, .ref a0)]) hx hb dX12_next_253 rfl hl (by decide) rfl (fun ls hl => ?_)
                have z_0 : (0 : Int32).toInt = 0 := by decide
                have z_23 : (23 : Int32).toInt = 23 := by decide
                exact J254 _ 0 23 _ _ _ rfl (by decide) (by decide) (by decide) (by decide) (by first | (refine SGL_0 ?_ ?_ <;> decide) | (refine SGL_s i254s ?_ tv288 ?_ x_v2740 (Or.inl ⟨tc277, ?_⟩); omega; exact see_same x_v2680 x_v1320 rfl; omega) | (refine SGL_s i254s ?_ tv288 ?_ x_v2740 (Or.inr ⟨tc277, rfl⟩); omega; exact see_same x_v2680 x_v1320 rfl)) hH hS (lv_sub hl [0, 1] rfl)
              · skip
                have tc138 := f_ne (k := 0) (by decide) c138
                refine lv_aload_n hx hb dX12_next_141 rfl (lv_at hl 0 rfl) ?_
                refine lv_iconst (v := 0) hx hb dX12_next_142 (by decide) ?_
                have J146 : ∀ (n : Nat) (f146_107 : Int32) (f146_110 : Int32) (H : Heap) (locs : List Loc) (ls : Array Slot), (900 - f146_107.toInt).toNat = n → (0 ≤ f146_107.toInt) → (f146_107.toInt ≤ 900) → (0 ≤ f146_110.toInt) → (f146_110.toInt ≤ 999) → (v135.toInt ≠ 0) → (f8_106.toInt ≤ f146_107.toInt ∧ f146_107.toInt ≤ y8.toInt) → (((f146_107.toInt - f8_106.toInt) = 0 ∧ f146_110.toInt = 0) ∨ ((f146_107.toInt - f8_106.toInt) = 1 ∧ 0 ≤ f146_110.toInt ∧ f146_110.toInt ≤ 9) ∨ ((f146_107.toInt - f8_106.toInt) = 2 ∧ 0 ≤ f146_110.toInt ∧ f146_110.toInt ≤ 99) ∨ (3 ≤ (f146_107.toInt - f8_106.toInt) ∧ 0 ≤ f146_110.toInt ∧ f146_110.toInt ≤ 999)) → (run (dgt t) tn f146_107.toInt.toNat = run (dgt t) tn f8_106.toInt.toNat) → (NVI t f8_106 f146_107.toInt f146_110) → HT D cs A T (a0 :: y3 :: O) ((a0, .inr (12, o0 :: o1 :: o2 :: (.ref y3) :: (.ref y4) :: o5 :: (.int f8_106) :: (.int f146_107) :: (.int y8) :: (.int y9) :: (.int f146_110) :: (.int y11) :: (.int y12) :: tl)) :: (y3, .inl (cs.2.1, 900, .inl f3)) :: X) H → va_S A s.heap H locs → lv_has ls 2 [(0, .ref a0)] → W p l e { frames := 5, cells := 0, slots := 0, locals := 108 } s m [.ref a0].toArray below meth c H locs 0 0 (MQ below (Tv D cs (fun u => ∃ (n0_6 : Int32) (n0_7 : Int32) (n0_9 : Int32) (n0_10 : Int32), u = (T, a0 :: y3 :: O, (a0, .inr (12, o0 :: o1 :: o2 :: (.ref y3) :: (.ref y4) :: o5 :: (.int n0_6) :: (.int n0_7) :: (.int y8) :: (.int n0_9) :: (.int n0_10) :: (.int y11) :: (.int y12) :: tl)) :: (y3, .inl (cs.2.1, 900, .inl f3)) :: X) ∧ (y7.toInt ≤ n0_6.toInt) ∧ (n0_6.toInt ≤ n0_7.toInt) ∧ (n0_7.toInt ≤ y8.toInt) ∧ (TK3 n0_9 n0_6 n0_7) ∧ (0 ≤ n0_10.toInt) ∧ (n0_10.toInt ≤ 999) ∧ (MSS t tn n0_6 n0_7 n0_9 n0_10) ∧ (n0_6.toInt.toNat = nxs t tn y7.toInt.toNat)) A) [.ref a0].toArray s 0 0 A) (F0 m 146 ls []) := by
                  intro n
                  induction n using Nat.strongRecOn with
                  | _ n ih146 =>
                    intro f146_107 f146_110 H locs ls hm146 l_f146_107 u_f146_107 l_f146_110 u_f146_110 j146 i146 d146 i146s i146v hH hS hl
                    refine lv_aload_n hx hb dX12_next_146 rfl (lv_at hl 0 rfl) ?_
                    refine lv_aload_n hx hb dX12_next_147 rfl (lv_at hl 0 rfl) ?_
                    refine x_getk (ci := 12) (C := RX12) (F := TX12) (N := 36) (v := .int f146_107) hx hb hts uX12 hown hkb hH 0 rfl rfl 7 (by decide) rfl kw_1230 (fun _ h9 => h9) dX12_next_148 ?_
                    refine tk_i hH hS hA (tr_V (n := 1) (As := [.int f146_107]) hx hb hml hown hts hkb hH (ox_map hOX rfl) hks hE hS hA (s_M_see l D cs kf T O X a0 hg mq f146_107 o0 o1 o2 y3 y4 o5 f8_106 f146_107 y8 y9 f146_110 y11 y12 tl f3 t_a0 b_hg (by omega) t_y3 t_y4 (by omega) (by omega) (by omega) (by omega) (by omega) (by omega) (by omega) (by omega) (hO.sub (by decide))) kw_1348 kw_1350 ks_44 kw_13 kw_1351 (by decide +kernel) ⟨Nat.le_of_ble_eq_true rfl, Nat.le_of_ble_eq_true rfl⟩ (x_recv (ci := 12) hkb hH 0 rfl rfl) rfl rfl hl.1 (Nat.le_of_ble_eq_true rfl) dX12_next_151 ⟨Nat.le_of_ble_eq_true rfl, Nat.le_of_ble_eq_true rfl⟩) (fun v151 u H locs hz9 hH hS => ?_)
                    obtain ⟨rfl, x_v1510, x_v1511⟩ := hz9
                    have hH : HT D cs A T (a0 :: y3 :: O) ((a0, .inr (12, o0 :: o1 :: o2 :: (.ref y3) :: (.ref y4) :: o5 :: (.int f8_106) :: (.int f146_107) :: (.int y8) :: (.int y9) :: (.int f146_110) :: (.int y11) :: (.int y12) :: tl)) :: (y3, .inl (cs.2.1, 900, .inl f3)) :: X) H := hH
                    refine W.widen (k := 0) (n := 0) (Nat.le_of_ble_eq_true rfl) (Nat.le_of_ble_eq_true rfl) ?_
                    refine tk_i hH hS hA (tr_S (n := 1) (As := [.int v151]) hx hb hml hown hts hkb hH (ox_map hOX rfl) hks hE hS hA (s_M_isDigit2 l D cs kf T (a0 :: y3 :: O) ((a0, .inr (12, o0 :: o1 :: o2 :: (.ref y3) :: (.ref y4) :: o5 :: (.int f8_106) :: (.int f146_107) :: (.int y8) :: (.int y9) :: (.int f146_110) :: (.int y11) :: (.int y12) :: tl)) :: (y3, .inl (cs.2.1, 900, .inl f3)) :: X) v151  (hO.sub (by decide))) kw_1362 kw_1363 kw_13 kw_1364 (by decide +kernel) ⟨Nat.le_of_ble_eq_true rfl, Nat.le_of_ble_eq_true rfl⟩ rfl rfl hl.1 (Nat.le_of_ble_eq_true rfl) dX12_next_154 ⟨Nat.le_of_ble_eq_true rfl, Nat.le_of_ble_eq_true rfl⟩) (fun v154 u H locs hz9 hH hS => ?_)
                    obtain ⟨rfl, l_v154, u_v154, x_v1540, x_v1541⟩ := hz9
                    have hH : HT D cs A T (a0 :: y3 :: O) ((a0, .inr (12, o0 :: o1 :: o2 :: (.ref y3) :: (.ref y4) :: o5 :: (.int f8_106) :: (.int f146_107) :: (.int y8) :: (.int y9) :: (.int f146_110) :: (.int y11) :: (.int y12) :: tl)) :: (y3, .inl (cs.2.1, 900, .inl f3)) :: X) H := hH
                    refine W.widen (k := 0) (n := 0) (Nat.le_of_ble_eq_true rfl) (Nat.le_of_ble_eq_true rfl) ?_
                    refine lv_if_eq (tgt := 209) hx hb dX12_next_157 (by decide) (fun c157 => ?_) (fun c157 => ?_)
                    · skip
                      have tc157 := f_eq (k := 0) (by decide) c157
                      have hq : f8_106.toInt ≠ f146_107.toInt := fun q => by have := see_same x_v1320 x_v1510 q; omega
                      refine lv_aload_n hx hb dX12_next_209 rfl (lv_at hl 0 rfl) ?_
                      refine lv_aload_n hx hb dX12_next_210 rfl (lv_at hl 0 rfl) ?_
                      refine x_getk (ci := 12) (C := RX12) (F := TX12) (N := 36) (v := .int f146_107) hx hb hts uX12 hown hkb hH 0 rfl rfl 7 (by decide) rfl kw_1230 (fun _ h9 => h9) dX12_next_211 ?_
                      refine lv_aload_n hx hb dX12_next_214 rfl (lv_at hl 0 rfl) ?_
                      refine x_getk (ci := 12) (C := RX12) (F := TX12) (N := 36) (v := .int f8_106) hx hb hts uX12 hown hkb hH 0 rfl rfl 6 (by decide) rfl kw_1229 (fun _ h9 => h9) dX12_next_215 ?_
                      refine lv_isub hx hb dX12_next_218 ?_
                      refine lv_topi (fun v218 ev218 => ?_)
                      have tv218 : v218.toInt = f146_107.toInt - f8_106.toInt := by rw [ev218]; exact sub_i rfl rfl (by omega) (by omega)
                      refine lv_iconst (v := 3) hx hb dX12_next_219 (by decide) ?_
                      refine lv_icmp_le (tgt := 228) hx hb dX12_next_220 (by decide) (fun c220 => ?_) (fun c220 => ?_)
                      · skip
                        have tc220 := f_le (k := 3) (by decide) c220
                        refine lv_bipush (v := 21) hx hb dX12_next_228 (by decide) ?_
                        refine x_putk (ci := 12) (v := .int 21) (ty := tyX12 9) (C := RX12) (F := TX12) (N := 36) hx hb hts uX12 tyX12 tyX12_ok nmX12 hown hkb hH hS 0 rfl rfl 9 (by decide) kw_1232 (fun _ h9 => h9) rfl (tyX12_ok 9 (by decide)) rfl rfl (by show 9 < tl.length + 13; omega) dX12_next_230 (fun H locs hH hS => ?_)
                        have hH : HT D cs A T (a0 :: y3 :: O) ((a0, .inr (12, o0 :: o1 :: o2 :: (.ref y3) :: (.ref y4) :: o5 :: (.int f8_106) :: (.int f146_107) :: (.int y8) :: (.int 21) :: (.int f146_110) :: (.int y11) :: (.int y12) :: tl)) :: (y3, .inl (cs.2.1, 900, .inl f3)) :: X) H := hH
                        refine lv_goto (tgt := 294) hx hb dX12_next_233 (by decide) ?_
                        have ms9 : MSS t tn f8_106 f146_107 (21 : Int32) f146_110 ∧ f8_106.toInt.toNat = nxs t tn y7.toInt.toNat := by
                          first | (refine MS_E i47 ?_ ?_ ?_ (by decide) <;> omega) | (refine MS_W htm hn i47 ?_ ?_ x_v800 ?_ ?_ i89s ?_ (rsm_e htm hn x_v940 (by omega)) x_v1180 <;> omega) | (refine MS_D htm hn i47 ?_ ?_ x_v1320 ?_ ?_ i146s (rdg_e htm hn x_v1510 (by omega)) i146v (Or.inl ⟨by decide, by omega⟩) <;> omega) | (refine MS_D htm hn i47 ?_ ?_ x_v1320 ?_ ?_ i146s (rdg_e htm hn x_v1510 (by omega)) i146v (Or.inr ⟨by decide, by omega⟩) <;> omega) | (refine MS_G (z := p254_1) htm hn i47 ?_ ?_ x_v800 ?_ x_v1320 ?_ tv242 i254s ?_ <;> omega)
                        have z9_21 : (21 : Int32).toInt = 21 := by decide
                        have z9_21 : (21 : Int32).toInt = 21 := by decide
                        exact te_v hx hb hr hlocks hH hS (⟨f8_106, f146_107, (21 : Int32), f146_110, rfl, by omega, by omega, by omega, (fun q => by omega), by omega, by omega, ms9.1, ms9.2⟩) dX12_next_294
                      · skip
                        have tc220 := f_nle (k := 3) (by decide) c220
                        refine lv_bipush (v := 23) hx hb dX12_next_223 (by decide) ?_
                        refine lv_goto (tgt := 230) hx hb dX12_next_225 (by decide) ?_
                        refine x_putk (ci := 12) (v := .int 23) (ty := tyX12 9) (C := RX12) (F := TX12) (N := 36) hx hb hts uX12 tyX12 tyX12_ok nmX12 hown hkb hH hS 0 rfl rfl 9 (by decide) kw_1232 (fun _ h9 => h9) rfl (tyX12_ok 9 (by decide)) rfl rfl (by show 9 < tl.length + 13; omega) dX12_next_230 (fun H locs hH hS => ?_)
                        have hH : HT D cs A T (a0 :: y3 :: O) ((a0, .inr (12, o0 :: o1 :: o2 :: (.ref y3) :: (.ref y4) :: o5 :: (.int f8_106) :: (.int f146_107) :: (.int y8) :: (.int 23) :: (.int f146_110) :: (.int y11) :: (.int y12) :: tl)) :: (y3, .inl (cs.2.1, 900, .inl f3)) :: X) H := hH
                        refine lv_goto (tgt := 294) hx hb dX12_next_233 (by decide) ?_
                        have ms9 : MSS t tn f8_106 f146_107 (23 : Int32) f146_110 ∧ f8_106.toInt.toNat = nxs t tn y7.toInt.toNat := by
                          first | (refine MS_E i47 ?_ ?_ ?_ (by decide) <;> omega) | (refine MS_W htm hn i47 ?_ ?_ x_v800 ?_ ?_ i89s ?_ (rsm_e htm hn x_v940 (by omega)) x_v1180 <;> omega) | (refine MS_D htm hn i47 ?_ ?_ x_v1320 ?_ ?_ i146s (rdg_e htm hn x_v1510 (by omega)) i146v (Or.inl ⟨by decide, by omega⟩) <;> omega) | (refine MS_D htm hn i47 ?_ ?_ x_v1320 ?_ ?_ i146s (rdg_e htm hn x_v1510 (by omega)) i146v (Or.inr ⟨by decide, by omega⟩) <;> omega) | (refine MS_G (z := p254_1) htm hn i47 ?_ ?_ x_v800 ?_ x_v1320 ?_ tv242 i254s ?_ <;> omega)
                        have z9_23 : (23 : Int32).toInt = 23 := by decide
                        have z9_23 : (23 : Int32).toInt = 23 := by decide
                        exact te_v hx hb hr hlocks hH hS (⟨f8_106, f146_107, (23 : Int32), f146_110, rfl, by omega, by omega, by omega, (fun q => by omega), by omega, by omega, ms9.1, ms9.2⟩) dX12_next_294
                    · skip
                      have tc157 := f_ne (k := 0) (by decide) c157
                      refine lv_aload_n hx hb dX12_next_160 rfl (lv_at hl 0 rfl) ?_
                      refine x_getk (ci := 12) (C := RX12) (F := TX12) (N := 36) (v := .int f146_107) hx hb hts uX12 hown hkb hH 0 rfl rfl 7 (by decide) rfl kw_1230 (fun _ h9 => h9) dX12_next_161 ?_
                      refine lv_aload_n hx hb dX12_next_164 rfl (lv_at hl 0 rfl) ?_
                      refine x_getk (ci := 12) (C := RX12) (F := TX12) (N := 36) (v := .int f8_106) hx hb hts uX12 hown hkb hH 0 rfl rfl 6 (by decide) rfl kw_1229 (fun _ h9 => h9) dX12_next_165 ?_
                      refine lv_isub hx hb dX12_next_168 ?_
                      refine lv_topi (fun v168 ev168 => ?_)
                      have tv168 : v168.toInt = f146_107.toInt - f8_106.toInt := by rw [ev168]; exact sub_i rfl rfl (by omega) (by omega)
                      refine lv_iconst (v := 3) hx hb dX12_next_169 (by decide) ?_
                      have J196 : ∀ (f196_110 : Int32) (H : Heap) (locs : List Loc) (ls : Array Slot), (0 ≤ f196_110.toInt) → (f196_110.toInt ≤ 9999) → (((f146_107.toInt + 1 - f8_106.toInt) = 0 ∧ f196_110.toInt = 0) ∨ ((f146_107.toInt + 1 - f8_106.toInt) = 1 ∧ 0 ≤ f196_110.toInt ∧ f196_110.toInt ≤ 9) ∨ ((f146_107.toInt + 1 - f8_106.toInt) = 2 ∧ 0 ≤ f196_110.toInt ∧ f196_110.toInt ≤ 99) ∨ (3 ≤ (f146_107.toInt + 1 - f8_106.toInt) ∧ 0 ≤ f196_110.toInt ∧ f196_110.toInt ≤ 999)) → (NVI t f8_106 (f146_107.toInt + 1) f196_110) → HT D cs A T (a0 :: y3 :: O) ((a0, .inr (12, o0 :: o1 :: o2 :: (.ref y3) :: (.ref y4) :: o5 :: (.int f8_106) :: (.int f146_107) :: (.int y8) :: (.int y9) :: (.int f196_110) :: (.int y11) :: (.int y12) :: tl)) :: (y3, .inl (cs.2.1, 900, .inl f3)) :: X) H → va_S A s.heap H locs → lv_has ls 2 [(0, .ref a0)] → W p l e { frames := 5, cells := 0, slots := 0, locals := 108 } s m [.ref a0].toArray below meth c H locs 0 0 (MQ below (Tv D cs (fun u => ∃ (n0_6 : Int32) (n0_7 : Int32) (n0_9 : Int32) (n0_10 : Int32), u = (T, a0 :: y3 :: O, (a0, .inr (12, o0 :: o1 :: o2 :: (.ref y3) :: (.ref y4) :: o5 :: (.int n0_6) :: (.int n0_7) :: (.int y8) :: (.int n0_9) :: (.int n0_10) :: (.int y11) :: (.int y12) :: tl)) :: (y3, .inl (cs.2.1, 900, .inl f3)) :: X) ∧ (y7.toInt ≤ n0_6.toInt) ∧ (n0_6.toInt ≤ n0_7.toInt) ∧ (n0_7.toInt ≤ y8.toInt) ∧ (TK3 n0_9 n0_6 n0_7) ∧ (0 ≤ n0_10.toInt) ∧ (n0_10.toInt ≤ 999) ∧ (MSS t tn n0_6 n0_7 n0_9 n0_10) ∧ (n0_6.toInt.toNat = nxs t tn y7.toInt.toNat)) A) [.ref a0].toArray s 0 0 A) (F0 m 196 ls []) := by
                        intro f196_110 H locs ls l_f196_110 u_f196_110 d196 i196v hH hS hl
                        refine lv_aload_n hx hb dX12_next_196 rfl (lv_at hl 0 rfl) ?_
                        refine lv_dup hx hb dX12_next_197 rfl ?_
                        refine x_getk (ci := 12) (C := RX12) (F := TX12) (N := 36) (v := .int f146_107) hx hb hts uX12 hown hkb hH 0 rfl rfl 7 (by decide) rfl kw_1230 (fun _ h9 => h9) dX12_next_198 ?_
                        refine lv_iconst (v := 1) hx hb dX12_next_201 (by decide) ?_
                        refine lv_iadd hx hb dX12_next_202 ?_
                        refine lv_topi (fun v202 ev202 => ?_)
                        have tv202 : v202.toInt = f146_107.toInt + (1) := by rw [ev202]; exact add_i rfl (by decide : (1 : Int32).toInt = 1) (by omega) (by omega)
                        refine x_putk (ci := 12) (v := .int v202) (ty := tyX12 7) (C := RX12) (F := TX12) (N := 36) hx hb hts uX12 tyX12 tyX12_ok nmX12 hown hkb hH hS 0 rfl rfl 7 (by decide) kw_1230 (fun _ h9 => h9) rfl (tyX12_ok 7 (by decide)) rfl rfl (by show 7 < tl.length + 13; omega) dX12_next_203 (fun H locs hH hS => ?_)
                        have hH : HT D cs A T (a0 :: y3 :: O) ((a0, .inr (12, o0 :: o1 :: o2 :: (.ref y3) :: (.ref y4) :: o5 :: (.int f8_106) :: (.int v202) :: (.int y8) :: (.int y9) :: (.int f196_110) :: (.int y11) :: (.int y12) :: tl)) :: (y3, .inl (cs.2.1, 900, .inl f3)) :: X) H := hH
                        refine lv_goto (tgt := 146) hx hb dX12_next_206 (by decide) ?_
                        exact ih146 _ (by omega) v202 f196_110 _ _ _ rfl (by omega) (by omega) (by omega) (by omega) (by omega) (by omega) (by omega) (by first | rfl | (refine rdg_s htm hn i146s x_v1510 ?_ ?_ ?_ tv202 <;> omega)) (by first | (refine NVI_0 ?_; decide) | (rw [tv202]; exact i196v)) hH hS (lv_sub hl [0] rfl)
                      refine lv_icmp_ge (tgt := 196) hx hb dX12_next_170 (by decide) (fun c170 => ?_) (fun c170 => ?_)
                      · skip
                        have tc170 := f_ge (k := 3) (by decide) c170
                        exact J196 f146_110 _ _ _ (by omega) (by omega) (by omega) (by first | (refine NVI_s htm hn i146v ?_ x_v1860 ?_ ?_ ?_ ?_ <;> omega) | (refine NVI_b i146v ?_; omega)) hH hS (lv_sub hl [0] rfl)
                      · skip
                        have tc170 := f_nge (k := 3) (by decide) c170
                        refine lv_aload_n hx hb dX12_next_173 rfl (lv_at hl 0 rfl) ?_
                        refine lv_bipush (v := 10) hx hb dX12_next_174 (by decide) ?_
                        refine lv_aload_n hx hb dX12_next_176 rfl (lv_at hl 0 rfl) ?_
                        refine x_getk (ci := 12) (C := RX12) (F := TX12) (N := 36) (v := .int f146_110) hx hb hts uX12 hown hkb hH 0 rfl rfl 10 (by decide) rfl kw_1233 (fun _ h9 => h9) dX12_next_177 ?_
                        refine lv_imul hx hb dX12_next_180 ?_
                        refine lv_topi (fun v180 ev180 => ?_)
                        have tv180 : v180.toInt = (10) * f146_110.toInt := by rw [ev180]; exact mul_i (by decide : (10 : Int32).toInt = 10) rfl (by omega) (by omega)
                        refine lv_aload_n hx hb dX12_next_181 rfl (lv_at hl 0 rfl) ?_
                        refine lv_aload_n hx hb dX12_next_182 rfl (lv_at hl 0 rfl) ?_
                        refine x_getk (ci := 12) (C := RX12) (F := TX12) (N := 36) (v := .int f146_107) hx hb hts uX12 hown hkb hH 0 rfl rfl 7 (by decide) rfl kw_1230 (fun _ h9 => h9) dX12_next_183 ?_
                        refine tk_i hH hS hA (tr_V (n := 1) (As := [.int f146_107]) hx hb hml hown hts hkb hH (ox_map hOX rfl) hks hE hS hA (s_M_see l D cs kf T O X a0 hg mq f146_107 o0 o1 o2 y3 y4 o5 f8_106 f146_107 y8 y9 f146_110 y11 y12 tl f3 t_a0 b_hg (by omega) t_y3 t_y4 (by omega) (by omega) (by omega) (by omega) (by omega) (by omega) (by omega) (by omega) (hO.sub (by decide))) kw_1348 kw_1350 ks_44 kw_13 kw_1351 (by decide +kernel) ⟨Nat.le_of_ble_eq_true rfl, Nat.le_of_ble_eq_true rfl⟩ (x_recv (ci := 12) hkb hH 0 rfl rfl) rfl rfl hl.1 (Nat.le_of_ble_eq_true rfl) dX12_next_186 ⟨Nat.le_of_ble_eq_true rfl, Nat.le_of_ble_eq_true rfl⟩) (fun v186 u H locs hz9 hH hS => ?_)
                        obtain ⟨rfl, x_v1860, x_v1861⟩ := hz9
                        have hH : HT D cs A T (a0 :: y3 :: O) ((a0, .inr (12, o0 :: o1 :: o2 :: (.ref y3) :: (.ref y4) :: o5 :: (.int f8_106) :: (.int f146_107) :: (.int y8) :: (.int y9) :: (.int f146_110) :: (.int y11) :: (.int y12) :: tl)) :: (y3, .inl (cs.2.1, 900, .inl f3)) :: X) H := hH
                        refine W.widen (k := 0) (n := 0) (Nat.le_of_ble_eq_true rfl) (Nat.le_of_ble_eq_true rfl) ?_
                        have hs9 := see_same x_v1860 x_v1510 rfl
                        have bs9 : 48 ≤ v186.toInt ∧ v186.toInt ≤ 57 := by omega
                        refine lv_iadd hx hb dX12_next_189 ?_
                        refine lv_topi (fun v189 ev189 => ?_)
                        have tv189 : v189.toInt = v180.toInt + v186.toInt := by rw [ev189]; exact add_i rfl rfl (by omega) (by omega)
                        refine lv_bipush (v := 48) hx hb dX12_next_190 (by decide) ?_
                        refine lv_isub hx hb dX12_next_192 ?_
                        refine lv_topi (fun v192 ev192 => ?_)
                        have tv192 : v192.toInt = v189.toInt - (48) := by rw [ev192]; exact sub_i rfl (by decide : (48 : Int32).toInt = 48) (by omega) (by omega)
                        refine x_putk (ci := 12) (v := .int v192) (ty := tyX12 10) (C := RX12) (F := TX12) (N := 36) hx hb hts uX12 tyX12 tyX12_ok nmX12 hown hkb hH hS 0 rfl rfl 10 (by decide) kw_1233 (fun _ h9 => h9) rfl (tyX12_ok 10 (by decide)) rfl rfl (by show 10 < tl.length + 13; omega) dX12_next_193 (fun H locs hH hS => ?_)
                        have hH : HT D cs A T (a0 :: y3 :: O) ((a0, .inr (12, o0 :: o1 :: o2 :: (.ref y3) :: (.ref y4) :: o5 :: (.int f8_106) :: (.int f146_107) :: (.int y8) :: (.int y9) :: (.int v192) :: (.int y11) :: (.int y12) :: tl)) :: (y3, .inl (cs.2.1, 900, .inl f3)) :: X) H := hH
                        exact J196 v192 _ _ _ (by omega) (by omega) (by omega) (by first | (refine NVI_s htm hn i146v ?_ x_v1860 ?_ ?_ ?_ ?_ <;> omega) | (refine NVI_b i146v ?_; omega)) hH hS (lv_sub hl [0] rfl)
                refine x_putk (ci := 12) (v := .int 0) (ty := tyX12 10) (C := RX12) (F := TX12) (N := 36) hx hb hts uX12 tyX12 tyX12_ok nmX12 hown hkb hH hS 0 rfl rfl 10 (by decide) kw_1233 (fun _ h9 => h9) rfl (tyX12_ok 10 (by decide)) rfl rfl (by show 10 < tl.length + 13; omega) dX12_next_143 (fun H locs hH hS => ?_)
                have hH : HT D cs A T (a0 :: y3 :: O) ((a0, .inr (12, o0 :: o1 :: o2 :: (.ref y3) :: (.ref y4) :: o5 :: (.int f8_106) :: (.int f8_106) :: (.int y8) :: (.int y9) :: (.int 0) :: (.int y11) :: (.int y12) :: tl)) :: (y3, .inl (cs.2.1, 900, .inl f3)) :: X) H := hH
                have z_0 : (0 : Int32).toInt = 0 := by decide
                exact J146 _ f8_106 0 _ _ _ rfl (by omega) (by omega) (by decide) (by decide) (by omega) (by omega) (by omega) (by first | rfl | (refine rdg_s htm hn i146s x_v1510 ?_ ?_ ?_ tv202 <;> omega)) (by first | (refine NVI_0 ?_; decide) | (rw [tv202]; exact i196v)) hH hS (lv_sub hl [0] rfl)
            · skip
              have tc86 := f_ne (k := 0) (by decide) c86
              exact J89 _ f8_106 _ _ _ rfl (by omega) (by omega) (by omega) (by omega) (by first | rfl | (refine rsm_s htm hn i89s x_v940 ?_ ?_ ?_ tv109 <;> omega)) hH hS (lv_sub hl [0] rfl)
          · skip
            have fuc63 := full_i f8_106
            have fvc63 := full_i y8
            have tc63 := g_nlt c63
            refine lv_aload_n hx hb dX12_next_66 rfl (lv_at hl 0 rfl) ?_
            refine lv_bipush (v := 22) hx hb dX12_next_67 (by decide) ?_
            refine x_putk (ci := 12) (v := .int 22) (ty := tyX12 9) (C := RX12) (F := TX12) (N := 36) hx hb hts uX12 tyX12 tyX12_ok nmX12 hown hkb hH hS 0 rfl rfl 9 (by decide) kw_1232 (fun _ h9 => h9) rfl (tyX12_ok 9 (by decide)) rfl rfl (by show 9 < tl.length + 13; omega) dX12_next_69 (fun H locs hH hS => ?_)
            have hH : HT D cs A T (a0 :: y3 :: O) ((a0, .inr (12, o0 :: o1 :: o2 :: (.ref y3) :: (.ref y4) :: o5 :: (.int f8_106) :: (.int f8_106) :: (.int y8) :: (.int 22) :: (.int y10) :: (.int y11) :: (.int y12) :: tl)) :: (y3, .inl (cs.2.1, 900, .inl f3)) :: X) H := hH
            refine lv_goto (tgt := 294) hx hb dX12_next_72 (by decide) ?_
            have ms9 : MSS t tn f8_106 f8_106 (22 : Int32) y10 ∧ f8_106.toInt.toNat = nxs t tn y7.toInt.toNat := by
              first | (refine MS_E i47 ?_ ?_ ?_ (by decide) <;> omega) | (refine MS_W htm hn i47 ?_ ?_ x_v800 ?_ ?_ i89s ?_ (rsm_e htm hn x_v940 (by omega)) x_v1180 <;> omega) | (refine MS_D htm hn i47 ?_ ?_ x_v1320 ?_ ?_ i146s (rdg_e htm hn x_v1510 (by omega)) i146v (Or.inl ⟨by decide, by omega⟩) <;> omega) | (refine MS_D htm hn i47 ?_ ?_ x_v1320 ?_ ?_ i146s (rdg_e htm hn x_v1510 (by omega)) i146v (Or.inr ⟨by decide, by omega⟩) <;> omega) | (refine MS_G (z := p254_1) htm hn i47 ?_ ?_ x_v800 ?_ x_v1320 ?_ tv242 i254s ?_ <;> omega)
            have z9_22 : (22 : Int32).toInt = 22 := by decide
            have z9_22 : (22 : Int32).toInt = 22 := by decide
            exact te_v hx hb hr hlocks hH hS (⟨f8_106, f8_106, (22 : Int32), y10, rfl, by omega, by omega, by omega, (fun q => by omega), by omega, by omega, ms9.1, ms9.2⟩) dX12_next_294
        · skip
          have tc31 := f_eq (k := 32) (by decide) c31
          refine lv_aload_n hx hb dX12_next_34 rfl (lv_at hl 0 rfl) ?_
          refine lv_dup hx hb dX12_next_35 rfl ?_
          refine x_getk (ci := 12) (C := RX12) (F := TX12) (N := 36) (v := .int f8_106) hx hb hts uX12 hown hkb hH 0 rfl rfl 6 (by decide) rfl kw_1229 (fun _ h9 => h9) dX12_next_36 ?_
          refine lv_iconst (v := 1) hx hb dX12_next_39 (by decide) ?_
          refine lv_iadd hx hb dX12_next_40 ?_
          refine lv_topi (fun v40 ev40 => ?_)
          have tv40 : v40.toInt = f8_106.toInt + (1) := by rw [ev40]; exact add_i rfl (by decide : (1 : Int32).toInt = 1) (by omega) (by omega)
          refine x_putk (ci := 12) (v := .int v40) (ty := tyX12 6) (C := RX12) (F := TX12) (N := 36) hx hb hts uX12 tyX12 tyX12_ok nmX12 hown hkb hH hS 0 rfl rfl 6 (by decide) kw_1229 (fun _ h9 => h9) rfl (tyX12_ok 6 (by decide)) rfl rfl (by show 6 < tl.length + 13; omega) dX12_next_41 (fun H locs hH hS => ?_)
          have hH : HT D cs A T (a0 :: y3 :: O) ((a0, .inr (12, o0 :: o1 :: o2 :: (.ref y3) :: (.ref y4) :: o5 :: (.int v40) :: (.int y7) :: (.int y8) :: (.int y9) :: (.int y10) :: (.int y11) :: (.int y12) :: tl)) :: (y3, .inl (cs.2.1, 900, .inl f3)) :: X) H := hH
          refine lv_goto (tgt := 8) hx hb dX12_next_44 (by decide) ?_
          exact ih8 _ (by omega) v40 _ _ _ rfl (by omega) (by omega) (by omega) (by first | rfl | (refine (rbl_s htm hn x_v130 ?_ ?_ tv40).trans i8s <;> omega) | (refine (rbl_s htm hn x_v260 ?_ ?_ tv40).trans i8s <;> omega)) hH hS (lv_sub hl [0] rfl)
  refine x_putk (ci := 12) (v := .int y7) (ty := tyX12 6) (C := RX12) (F := TX12) (N := 36) hx hb hts uX12 tyX12 tyX12_ok nmX12 hown hkb hH hS 0 rfl rfl 6 (by decide) kw_1229 (fun _ h9 => h9) rfl (tyX12_ok 6 (by decide)) rfl rfl (by show 6 < tl.length + 13; omega) dX12_next_5 (fun H locs hH hS => ?_)
  have hH : HT D cs A T (a0 :: y3 :: O) ((a0, .inr (12, o0 :: o1 :: o2 :: (.ref y3) :: (.ref y4) :: o5 :: (.int y7) :: (.int y7) :: (.int y8) :: (.int y9) :: (.int y10) :: (.int y11) :: (.int y12) :: tl)) :: (y3, .inl (cs.2.1, 900, .inl f3)) :: X) H := hH
  exact J8 _ y7 _ _ _ rfl (by omega) (by omega) (by omega) (by first | rfl | (refine (rbl_s htm hn x_v130 ?_ ?_ tv40).trans i8s <;> omega) | (refine (rbl_s htm hn x_v260 ?_ ?_ tv40).trans i8s <;> omega)) hH hS (lv_sub hl [0] rfl)
/-! ways of the machine, seen from the reference -/
def MSW (t : Tp) (n : Nat) (w a b k v : Int32) : Prop := w.toInt = 0 → MSS t n a b k v
def RG (t : Tp) (n : Nat) (F F' : List (Nat × Nat)) (w0 p0 a0 w p a b k v : Int32) : Prop := (w0.toInt ≠ 0 ∧ w = w0 ∧ p = p0) ∨ (w0.toInt = 0 ∧ w.toInt = 0 ∧ MSS t n a b k v ∧ GL t n F F' a0 a) ∨ (w0.toInt = 0 ∧ BL t n F a0 w p)
/-- how a fault is told -/
def FLD (k a x w0 p0 w p : Int32) : Prop := (w0.toInt ≠ 0 ∧ w = w0 ∧ p = p0) ∨ (w0.toInt = 0 ∧ w.toInt = (if k.toInt = 23 then 1 else x.toInt) ∧ p = a)
/-- how a number is taken -/
def TNK (t : Tp) (n : Nat) (hi r w0 p0 a0 w p a b k v : Int32) : Prop := (w0.toInt ≠ 0 ∧ w = w0 ∧ p = p0) ∨ (w0.toInt = 0 ∧ w.toInt = 0 ∧ MSS t n a b k v ∧ a.toInt.toNat = nx t n a0.toInt.toNat ∧ kd t n a0.toInt.toNat = 21 ∧ r.toInt = nv t n a0.toInt.toNat ∧ r.toInt ≤ hi.toInt) ∨ (w0.toInt = 0 ∧ w.toInt = fwf (kd t n a0.toInt.toNat) (if kd t n a0.toInt.toNat = 21 then 3 else 2) ∧ p.toInt = a0.toInt ∧ 0 ≤ a0.toInt ∧ (kd t n a0.toInt.toNat ≠ 21 ∨ (kd t n a0.toInt.toNat = 21 ∧ ¬ nv t n a0.toInt.toNat ≤ hi.toInt)))
section RWays
variable {t : Tp} {n : Nat} {F F' F'' G : List (Nat × Nat)} {x : Nat × Nat} {w0 p0 a0 w1 p1 a1 b1 k1 v1 w p a b k v : Int32}
theorem MSS.nx {s2 : Int32} (h : MSS t n a b k v) (h2 : s2.toInt.toNat = nxs t n b.toInt.toNat) : s2.toInt.toNat = nx t n a.toInt.toNat := by
  have e9 : b.toInt.toNat = en t n a.toInt.toNat := by have := h.2.2.1; omega
  rw [h2, e9]
  rfl
theorem RG.msw (h : RG t n F F' w0 p0 a0 w p a b k v) : MSW t n w a b k v := fun q => by
  rcases h with h | h | h
  · rw [h.2.1] at q; exact absurd q h.1
  · exact h.2.2.1
  · exact absurd q h.2.1
theorem RG.seq (h1 : RG t n F F' w0 p0 a0 w1 p1 a1 b1 k1 v1) (h2 : RG t n F' F'' w1 p1 a1 w p a b k v) : RG t n F F'' w0 p0 a0 w p a b k v := by
  rcases h1 with h1 | h1 | h1
  · rcases h2 with h2 | h2 | h2
    · exact Or.inl ⟨h1.1, h2.2.1.trans h1.2.1, h2.2.2.trans h1.2.2⟩
    · rw [h1.2.1] at h2; exact absurd h2.1 h1.1
    · rw [h1.2.1] at h2; exact absurd h2.1 h1.1
  · rcases h2 with h2 | h2 | h2
    · exact absurd h1.2.1 h2.1
    · exact Or.inr (Or.inl ⟨h1.1, h2.2.1, h2.2.2.1, h1.2.2.2.tr h2.2.2.2⟩)
    · exact Or.inr (Or.inr ⟨h1.1, h1.2.2.2.bd h2.2⟩)
  · rcases h2 with h2 | h2 | h2
    · refine Or.inr (Or.inr ⟨h1.1, ?_⟩)
      rw [h2.2.1, h2.2.2]
      exact h1.2
    · exact absurd h2.1 h1.2.1
    · exact absurd h2.1 h1.2.1
theorem RG.cons (h : RG t n [x] [] w0 p0 a0 w p a b k v) : RG t n (x :: F) F w0 p0 a0 w p a b k v := by
  rcases h with h | h | h
  · exact Or.inl h
  · exact Or.inr (Or.inl ⟨h.1, h.2.1, h.2.2.1, h.2.2.2.cons⟩)
  · exact Or.inr (Or.inr ⟨h.1, h.2.cons⟩)
theorem RG_id (h : w0.toInt = 0 → MSS t n a b k v ∧ GL t n F F' a a) : RG t n F F' w0 p0 a w0 p0 a b k v := by
  by_cases q : w0.toInt = 0
  · exact Or.inr (Or.inl ⟨q, q, h q⟩)
  · exact Or.inl ⟨q, rfl, rfl⟩
theorem RG_nx (h0 : w0.toInt = 0) (hm : MSS t n a b k v) (hs : ∀ (K : List (Nat × Nat)) (R : Rg), RT t n (F ++ K, a0.toInt.toNat, 0, R) (F' ++ K, nx t n a0.toInt.toNat, 0, R)) (hp : a.toInt.toNat = nx t n a0.toInt.toNat) : RG t n F F' w0 p0 a0 w0 p0 a b k v := Or.inr (Or.inl ⟨h0, h0, hm, GL_nx hs hp⟩)
theorem FLD_w {y9 : Int32} {m : Int} (hk : y9.toInt = (kd t n a.toInt.toNat : Int)) {xx : Int32} (hx : xx.toInt = m) (h : w.toInt = (if y9.toInt = 23 then 1 else xx.toInt)) : w.toInt = fwf (kd t n a.toInt.toNat) m := by
  unfold fwf
  rw [h, ← hx]
  by_cases q : y9.toInt = 23
  · rw [if_pos q, if_pos (by omega)]
  · rw [if_neg q, if_neg (by omega)]
theorem RG_f {y9 xx : Int32} {m : Int} {b' v' a2 : Int32} (hf : FLD y9 a xx w0 p0 w p) (hms : MSW t n w0 a b' y9 v') (hx : xx.toInt = m) (hm : m ≠ 0) (hs : w0.toInt = 0 → ∀ (K : List (Nat × Nat)) (R : Rg), RT t n (F ++ K, a.toInt.toNat, 0, R) (G ++ K, a.toInt.toNat, fwf (kd t n a.toInt.toNat) m, R)) : RG t n F F' w0 p0 a w p a2 b k v := by
  rcases hf with h | h
  · exact Or.inl h
  · have q := hms h.1
    refine Or.inr (Or.inr ⟨h.1, BL_f (G := G) (hs h.1) (FLD_w q.2.2.2.1 hx h.2.1) hm (by rw [h.2.2]) q.1⟩)
theorem TNK.rg {hi r : Int32} {d : Nat} (h : TNK t n hi r w0 p0 a0 w p a b k v) (hd : hi.toInt = (d : Int)) : RG t n [(22, d)] [] w0 p0 a0 w p a b k v := by
  rcases h with h | ⟨h1, h2, h3, h4, h5, h6, h7⟩ | ⟨h1, h2, h3, h4, h5⟩
  · exact Or.inl h
  · exact Or.inr (Or.inl ⟨h1, h2, h3, GL_nx (fun K R => st_nY h5 (by omega)) h4⟩)
  · refine Or.inr (Or.inr ⟨h1, ?_⟩)
    rcases h5 with h5 | h5
    · rw [if_neg h5] at h2
      exact BL_f (G := []) (fun K R => st_nN h5) h2 (by decide) h3 h4
    · rw [if_pos h5.1] at h2
      exact BL_f (G := []) (fun K R => st_nB h5.1 (by rw [← hd]; exact h5.2)) h2 (by decide) h3 h4
theorem TNK.msw {hi r : Int32} (h : TNK t n hi r w0 p0 a0 w p a b k v) : MSW t n w a b k v := fun q => by
  rcases h with h | h | h
  · rw [h.2.1] at q; exact absurd q h.1
  · exact h.2.2.1
  · have := h.2.1
    rw [q] at this
    exact absurd this.symm (fwf_ne (by split <;> decide))
theorem TNK_a {hi r y9 xx b' v' : Int32} (hf : FLD y9 a xx w0 p0 w p) (hms : MSW t n w0 a b' y9 v') (hx : xx.toInt = 2) (hk : w0.toInt ≠ 0 ∨ y9.toInt ≠ 21) : TNK t n hi r w0 p0 a w p a b k v := by
  rcases hf with h | h
  · exact Or.inl h
  · have q := hms h.1
    have hk2 : kd t n a.toInt.toNat ≠ 21 := fun z => (hk.resolve_left (fun u => u h.1)) (by rw [q.2.2.2.1, z]; rfl)
    refine Or.inr (Or.inr ⟨h.1, ?_, by rw [h.2.2], q.1, Or.inl hk2⟩)
    rw [if_neg hk2]
    exact FLD_w q.2.2.2.1 hx h.2.1
theorem TNK_b {hi r y9 xx b' v' : Int32} (hf : FLD y9 a xx w0 p0 w p) (hms : MSW t n w0 a b' y9 v') (hx : xx.toInt = 3) (h0 : w0.toInt = 0) (hk : y9.toInt = 21) (hn : v'.toInt < 0 ∨ hi.toInt < v'.toInt) : TNK t n hi r w0 p0 a w p a b k v := by
  rcases hf with h | h
  · exact Or.inl h
  · have q := hms h.1
    have hk2 : kd t n a.toInt.toNat = 21 := by have := q.2.2.2.1; omega
    have hv := q.2.2.2.2 hk2
    have hv0 := nv_21 hk2
    refine Or.inr (Or.inr ⟨h.1, ?_, by rw [h.2.2], q.1, Or.inr ⟨hk2, by omega⟩⟩)
    rw [if_pos hk2]
    exact FLD_w q.2.2.2.1 hx h.2.1
theorem TNK_c {hi r y9 b' : Int32} (h0 : w0.toInt = 0) (hms : MSW t n w0 a0 b' y9 r) (hk : y9.toInt = 21) (hm : MSS t n a b k v) (hp : a.toInt.toNat = nxs t n b'.toInt.toNat) (hr : r.toInt ≤ hi.toInt) : TNK t n hi r w0 p0 a0 w0 p0 a b k v := by
  have q := hms h0
  have hk2 : kd t n a0.toInt.toNat = 21 := by have := q.2.2.2.1; omega
  exact Or.inr (Or.inl ⟨h0, h0, hm, q.nx hp, hk2, q.2.2.2.2 hk2, hr⟩)
end RWays
/-- what lines told stays -/
def FKP (f g : Nat → Int32) : Prop := ∀ j, j < 401 → g j = f j
theorem FKP.rf {f : Nat → Int32} : FKP f f := fun _ _ => rfl
theorem FKP.tr {f g h : Nat → Int32} (h1 : FKP f g) (h2 : FKP g h) : FKP f h := fun j hj => (h2 j hj).trans (h1 j hj)
theorem dX12_eats_0 : decode cX12_eats 0 = .ok (.aload_n 0, 1) := by decide +kernel
theorem dX12_eats_1 : decode cX12_eats 1 = .ok (.iload_n 1, 1) := by decide +kernel
theorem dX12_eats_2 : decode cX12_eats 2 = .ok (.invokevirtual 134, 3) := by decide +kernel
theorem dX12_eats_5 : decode cX12_eats 5 = .ok (.ifCond .ne 5, 3) := by decide +kernel
theorem dX12_eats_8 : decode cX12_eats 8 = .ok (.iconst 0, 1) := by decide +kernel
theorem dX12_eats_9 : decode cX12_eats 9 = .ok (.ireturn, 1) := by decide +kernel
theorem dX12_eats_10 : decode cX12_eats 10 = .ok (.aload_n 0, 1) := by decide +kernel
theorem dX12_eats_11 : decode cX12_eats 11 = .ok (.invokevirtual 137, 3) := by decide +kernel
theorem dX12_eats_14 : decode cX12_eats 14 = .ok (.iconst 1, 1) := by decide +kernel
theorem dX12_eats_15 : decode cX12_eats 15 = .ok (.ireturn, 1) := by decide +kernel
theorem dX12_fails_0 : decode cX12_fails 0 = .ok (.aload_n 0, 1) := by decide +kernel
theorem dX12_fails_1 : decode cX12_fails 1 = .ok (.getfield 128, 3) := by decide +kernel
theorem dX12_fails_4 : decode cX12_fails 4 = .ok (.ifCond .eq 4, 3) := by decide +kernel
theorem dX12_fails_7 : decode cX12_fails 7 = .ok (.return_, 1) := by decide +kernel
theorem dX12_fails_8 : decode cX12_fails 8 = .ok (.aload_n 0, 1) := by decide +kernel
theorem dX12_fails_9 : decode cX12_fails 9 = .ok (.aload_n 0, 1) := by decide +kernel
theorem dX12_fails_10 : decode cX12_fails 10 = .ok (.getfield 110, 3) := by decide +kernel
theorem dX12_fails_13 : decode cX12_fails 13 = .ok (.bipush 23, 2) := by decide +kernel
theorem dX12_fails_15 : decode cX12_fails 15 = .ok (.if_icmp .ne 7, 3) := by decide +kernel
theorem dX12_fails_18 : decode cX12_fails 18 = .ok (.iconst 1, 1) := by decide +kernel
theorem dX12_fails_19 : decode cX12_fails 19 = .ok (.goto 4, 3) := by decide +kernel
theorem dX12_fails_22 : decode cX12_fails 22 = .ok (.iload_n 1, 1) := by decide +kernel
theorem dX12_fails_23 : decode cX12_fails 23 = .ok (.putfield 128, 3) := by decide +kernel
theorem dX12_fails_26 : decode cX12_fails 26 = .ok (.aload_n 0, 1) := by decide +kernel
theorem dX12_fails_27 : decode cX12_fails 27 = .ok (.aload_n 0, 1) := by decide +kernel
theorem dX12_fails_28 : decode cX12_fails 28 = .ok (.getfield 100, 3) := by decide +kernel
theorem dX12_fails_31 : decode cX12_fails 31 = .ok (.putfield 131, 3) := by decide +kernel
theorem dX12_fails_34 : decode cX12_fails 34 = .ok (.return_, 1) := by decide +kernel
theorem dX12_goesIn_0 : decode cX12_goesIn 0 = .ok (.iload_n 1, 1) := by decide +kernel
theorem dX12_goesIn_1 : decode cX12_goesIn 1 = .ok (.bipush 6, 2) := by decide +kernel
theorem dX12_goesIn_3 : decode cX12_goesIn 3 = .ok (.if_icmp .ne 8, 3) := by decide +kernel
theorem dX12_goesIn_6 : decode cX12_goesIn 6 = .ok (.aload_n 0, 1) := by decide +kernel
theorem dX12_goesIn_7 : decode cX12_goesIn 7 = .ok (.iconst 4, 1) := by decide +kernel
theorem dX12_goesIn_8 : decode cX12_goesIn 8 = .ok (.invokevirtual 140, 3) := by decide +kernel
theorem dX12_goesIn_11 : decode cX12_goesIn 11 = .ok (.aload_n 0, 1) := by decide +kernel
theorem dX12_goesIn_12 : decode cX12_goesIn 12 = .ok (.getfield 128, 3) := by decide +kernel
theorem dX12_goesIn_15 : decode cX12_goesIn 15 = .ok (.ifCond .ne 7, 3) := by decide +kernel
theorem dX12_goesIn_18 : decode cX12_goesIn 18 = .ok (.aload_n 0, 1) := by decide +kernel
theorem dX12_goesIn_19 : decode cX12_goesIn 19 = .ok (.invokevirtual 137, 3) := by decide +kernel
theorem dX12_goesIn_22 : decode cX12_goesIn 22 = .ok (.aload_n 0, 1) := by decide +kernel
theorem dX12_goesIn_23 : decode cX12_goesIn 23 = .ok (.getfield 128, 3) := by decide +kernel
theorem dX12_goesIn_26 : decode cX12_goesIn 26 = .ok (.ifCond .ne 7, 3) := by decide +kernel
theorem dX12_goesIn_29 : decode cX12_goesIn 29 = .ok (.iconst 1, 1) := by decide +kernel
theorem dX12_goesIn_30 : decode cX12_goesIn 30 = .ok (.goto 4, 3) := by decide +kernel
theorem dX12_goesIn_33 : decode cX12_goesIn 33 = .ok (.iconst 0, 1) := by decide +kernel
theorem dX12_goesIn_34 : decode cX12_goesIn 34 = .ok (.ireturn, 1) := by decide +kernel
theorem dX12_is_0 : decode cX12_is 0 = .ok (.aload_n 0, 1) := by decide +kernel
theorem dX12_is_1 : decode cX12_is 1 = .ok (.getfield 128, 3) := by decide +kernel
theorem dX12_is_4 : decode cX12_is 4 = .ok (.ifCond .ne 15, 3) := by decide +kernel
theorem dX12_is_7 : decode cX12_is 7 = .ok (.aload_n 0, 1) := by decide +kernel
theorem dX12_is_8 : decode cX12_is 8 = .ok (.getfield 110, 3) := by decide +kernel
theorem dX12_is_11 : decode cX12_is 11 = .ok (.iload_n 1, 1) := by decide +kernel
theorem dX12_is_12 : decode cX12_is 12 = .ok (.if_icmp .ne 7, 3) := by decide +kernel
theorem dX12_is_15 : decode cX12_is 15 = .ok (.iconst 1, 1) := by decide +kernel
theorem dX12_is_16 : decode cX12_is 16 = .ok (.goto 4, 3) := by decide +kernel
theorem dX12_is_19 : decode cX12_is 19 = .ok (.iconst 0, 1) := by decide +kernel
theorem dX12_is_20 : decode cX12_is 20 = .ok (.ireturn, 1) := by decide +kernel
theorem dX12_takes_0 : decode cX12_takes 0 = .ok (.aload_n 0, 1) := by decide +kernel
theorem dX12_takes_1 : decode cX12_takes 1 = .ok (.bipush 21, 2) := by decide +kernel
theorem dX12_takes_3 : decode cX12_takes 3 = .ok (.invokevirtual 134, 3) := by decide +kernel
theorem dX12_takes_6 : decode cX12_takes 6 = .ok (.ifCond .ne 11, 3) := by decide +kernel
theorem dX12_takes_9 : decode cX12_takes 9 = .ok (.aload_n 0, 1) := by decide +kernel
theorem dX12_takes_10 : decode cX12_takes 10 = .ok (.iconst 2, 1) := by decide +kernel
theorem dX12_takes_11 : decode cX12_takes 11 = .ok (.invokevirtual 140, 3) := by decide +kernel
theorem dX12_takes_14 : decode cX12_takes 14 = .ok (.goto 23, 3) := by decide +kernel
theorem dX12_takes_17 : decode cX12_takes 17 = .ok (.aload_n 0, 1) := by decide +kernel
theorem dX12_takes_18 : decode cX12_takes 18 = .ok (.getfield 123, 3) := by decide +kernel
theorem dX12_takes_21 : decode cX12_takes 21 = .ok (.i2l, 1) := by decide +kernel
theorem dX12_takes_22 : decode cX12_takes 22 = .ok (.iload_n 1, 1) := by decide +kernel
theorem dX12_takes_23 : decode cX12_takes 23 = .ok (.i2l, 1) := by decide +kernel
theorem dX12_takes_24 : decode cX12_takes 24 = .ok (.iload_n 2, 1) := by decide +kernel
theorem dX12_takes_25 : decode cX12_takes 25 = .ok (.i2l, 1) := by decide +kernel
theorem dX12_takes_26 : decode cX12_takes 26 = .ok (.invokestatic 144, 3) := by decide +kernel
theorem dX12_takes_29 : decode cX12_takes 29 = .ok (.ifCond .ne 8, 3) := by decide +kernel
theorem dX12_takes_32 : decode cX12_takes 32 = .ok (.aload_n 0, 1) := by decide +kernel
theorem dX12_takes_33 : decode cX12_takes 33 = .ok (.iconst 3, 1) := by decide +kernel
theorem dX12_takes_34 : decode cX12_takes 34 = .ok (.invokevirtual 140, 3) := by decide +kernel
theorem dX12_takes_37 : decode cX12_takes 37 = .ok (.aload_n 0, 1) := by decide +kernel
theorem dX12_takes_38 : decode cX12_takes 38 = .ok (.getfield 123, 3) := by decide +kernel
theorem dX12_takes_41 : decode cX12_takes 41 = .ok (.istore_n 3, 1) := by decide +kernel
theorem dX12_takes_42 : decode cX12_takes 42 = .ok (.aload_n 0, 1) := by decide +kernel
theorem dX12_takes_43 : decode cX12_takes 43 = .ok (.getfield 128, 3) := by decide +kernel
theorem dX12_takes_46 : decode cX12_takes 46 = .ok (.ifCond .ne 7, 3) := by decide +kernel
theorem dX12_takes_49 : decode cX12_takes 49 = .ok (.aload_n 0, 1) := by decide +kernel
theorem dX12_takes_50 : decode cX12_takes 50 = .ok (.invokevirtual 137, 3) := by decide +kernel
theorem dX12_takes_53 : decode cX12_takes 53 = .ok (.iload_n 3, 1) := by decide +kernel
theorem dX12_takes_54 : decode cX12_takes 54 = .ok (.ireturn, 1) := by decide +kernel
theorem kw_1234 : Cond.fieldLink "FootholdWallModel" 128 "FootholdWallModel" "wrong" "I" ∈ gw := gw_of (tb_of 1234 (by decide +kernel)) (by decide +kernel)
theorem kw_1235 : Cond.fieldLink "FootholdWallModel" 131 "FootholdWallModel" "wrongAt" "I" ∈ gw := gw_of (tb_of 1235 (by decide +kernel)) (by decide +kernel)
theorem kw_1341 : Cond.methodLink "FootholdWallModel" 144 yX12_within ∈ gw := gw_of (tb_of 1341 (by decide +kernel)) (by decide +kernel)
theorem kw_1342 : Cond.static yX12_within ∈ gw := gw_of (tb_of 1342 (by decide +kernel)) (by decide +kernel)
theorem kw_1343 : Cond.code yX12_within cX12_within 6 (some (.boolean)) ∈ gw := gw_of (tb_of 1343 (by decide +kernel)) (by decide +kernel)
theorem kw_1344 : Cond.methodLink "FootholdWallModel" 137 yX12_next ∈ gw := gw_of (tb_of 1344 (by decide +kernel)) (by decide +kernel)
theorem kw_1346 : Cond.instanceMethod yX12_next ∈ gw := gw_of (tb_of 1346 (by decide +kernel)) (by decide +kernel)
theorem kw_1347 : Cond.code yX12_next cX12_next 2 none ∈ gw := gw_of (tb_of 1347 (by decide +kernel)) (by decide +kernel)
theorem kw_1370 : Cond.methodLink "FootholdWallModel" 134 yX12_is ∈ gw := gw_of (tb_of 1370 (by decide +kernel)) (by decide +kernel)
theorem kw_1372 : Cond.instanceMethod yX12_is ∈ gw := gw_of (tb_of 1372 (by decide +kernel)) (by decide +kernel)
theorem kw_1373 : Cond.code yX12_is cX12_is 2 (some (.boolean)) ∈ gw := gw_of (tb_of 1373 (by decide +kernel)) (by decide +kernel)
theorem kw_1378 : Cond.methodLink "FootholdWallModel" 140 yX12_fails ∈ gw := gw_of (tb_of 1378 (by decide +kernel)) (by decide +kernel)
theorem kw_1380 : Cond.instanceMethod yX12_fails ∈ gw := gw_of (tb_of 1380 (by decide +kernel)) (by decide +kernel)
theorem kw_1381 : Cond.code yX12_fails cX12_fails 2 none ∈ gw := gw_of (tb_of 1381 (by decide +kernel)) (by decide +kernel)
theorem ks_43 : Cond.selects RX12 yX12_next yX12_next ∈ gw := gw_of (pv_of 43 (by decide +kernel)) (by decide +kernel)
theorem ks_47 : Cond.selects RX12 yX12_is yX12_is ∈ gw := gw_of (pv_of 47 (by decide +kernel)) (by decide +kernel)
theorem ks_49 : Cond.selects RX12 yX12_fails yX12_fails ∈ gw := gw_of (pv_of 49 (by decide +kernel)) (by decide +kernel)
