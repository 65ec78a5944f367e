theorem dX12_count_0 : decode cX12_count 0 = .ok (.aload_n 0, 1) := by decide +kernel
theorem dX12_count_1 : decode cX12_count 1 = .ok (.iconst 0, 1) := by decide +kernel
theorem dX12_count_2 : decode cX12_count 2 = .ok (.putfield 1, 3) := by decide +kernel
theorem dX12_count_5 : decode cX12_count 5 = .ok (.iload_n 1, 1) := by decide +kernel
theorem dX12_count_6 : decode cX12_count 6 = .ok (.tableswitch 128 0 9 #[54, 61, 68, 76, 84, 89, 97, 105, 110, 117], 54) := by decide +kernel
theorem dX12_count_60 : decode cX12_count 60 = .ok (.aload_n 0, 1) := by decide +kernel
theorem dX12_count_61 : decode cX12_count 61 = .ok (.getfield 13, 3) := by decide +kernel
theorem dX12_count_64 : decode cX12_count 64 = .ok (.iconst 1, 1) := by decide +kernel
theorem dX12_count_65 : decode cX12_count 65 = .ok (.iaload, 1) := by decide +kernel
theorem dX12_count_66 : decode cX12_count 66 = .ok (.ireturn, 1) := by decide +kernel
theorem dX12_count_67 : decode cX12_count 67 = .ok (.aload_n 0, 1) := by decide +kernel
theorem dX12_count_68 : decode cX12_count 68 = .ok (.getfield 13, 3) := by decide +kernel
theorem dX12_count_71 : decode cX12_count 71 = .ok (.iconst 2, 1) := by decide +kernel
theorem dX12_count_72 : decode cX12_count 72 = .ok (.iaload, 1) := by decide +kernel
theorem dX12_count_73 : decode cX12_count 73 = .ok (.ireturn, 1) := by decide +kernel
theorem dX12_count_74 : decode cX12_count 74 = .ok (.aload_n 0, 1) := by decide +kernel
theorem dX12_count_75 : decode cX12_count 75 = .ok (.getfield 13, 3) := by decide +kernel
theorem dX12_count_78 : decode cX12_count 78 = .ok (.bipush 88, 2) := by decide +kernel
theorem dX12_count_80 : decode cX12_count 80 = .ok (.iaload, 1) := by decide +kernel
theorem dX12_count_81 : decode cX12_count 81 = .ok (.ireturn, 1) := by decide +kernel
theorem dX12_count_82 : decode cX12_count 82 = .ok (.aload_n 0, 1) := by decide +kernel
theorem dX12_count_83 : decode cX12_count 83 = .ok (.getfield 13, 3) := by decide +kernel
theorem dX12_count_86 : decode cX12_count 86 = .ok (.bipush 89, 2) := by decide +kernel
theorem dX12_count_88 : decode cX12_count 88 = .ok (.iaload, 1) := by decide +kernel
theorem dX12_count_89 : decode cX12_count 89 = .ok (.ireturn, 1) := by decide +kernel
theorem dX12_count_90 : decode cX12_count 90 = .ok (.aload_n 0, 1) := by decide +kernel
theorem dX12_count_91 : decode cX12_count 91 = .ok (.invokevirtual 315, 3) := by decide +kernel
theorem dX12_count_94 : decode cX12_count 94 = .ok (.ireturn, 1) := by decide +kernel
theorem dX12_count_95 : decode cX12_count 95 = .ok (.aload_n 0, 1) := by decide +kernel
theorem dX12_count_96 : decode cX12_count 96 = .ok (.invokevirtual 260, 3) := by decide +kernel
theorem dX12_count_99 : decode cX12_count 99 = .ok (.invokestatic 334, 3) := by decide +kernel
theorem dX12_count_102 : decode cX12_count 102 = .ok (.ireturn, 1) := by decide +kernel
theorem dX12_count_103 : decode cX12_count 103 = .ok (.aload_n 0, 1) := by decide +kernel
theorem dX12_count_104 : decode cX12_count 104 = .ok (.getfield 13, 3) := by decide +kernel
theorem dX12_count_107 : decode cX12_count 107 = .ok (.bipush 90, 2) := by decide +kernel
theorem dX12_count_109 : decode cX12_count 109 = .ok (.iaload, 1) := by decide +kernel
theorem dX12_count_110 : decode cX12_count 110 = .ok (.ireturn, 1) := by decide +kernel
theorem dX12_count_111 : decode cX12_count 111 = .ok (.aload_n 0, 1) := by decide +kernel
theorem dX12_count_112 : decode cX12_count 112 = .ok (.getfield 82, 3) := by decide +kernel
theorem dX12_count_115 : decode cX12_count 115 = .ok (.ireturn, 1) := by decide +kernel
theorem dX12_count_116 : decode cX12_count 116 = .ok (.aload_n 0, 1) := by decide +kernel
theorem dX12_count_117 : decode cX12_count 117 = .ok (.getfield 13, 3) := by decide +kernel
theorem dX12_count_120 : decode cX12_count 120 = .ok (.iconst 0, 1) := by decide +kernel
theorem dX12_count_121 : decode cX12_count 121 = .ok (.iaload, 1) := by decide +kernel
theorem dX12_count_122 : decode cX12_count 122 = .ok (.ireturn, 1) := by decide +kernel
theorem dX12_count_123 : decode cX12_count 123 = .ok (.aload_n 0, 1) := by decide +kernel
theorem dX12_count_124 : decode cX12_count 124 = .ok (.getfield 13, 3) := by decide +kernel
theorem dX12_count_127 : decode cX12_count 127 = .ok (.bipush 87, 2) := by decide +kernel
theorem dX12_count_129 : decode cX12_count 129 = .ok (.iaload, 1) := by decide +kernel
theorem dX12_count_130 : decode cX12_count 130 = .ok (.invokestatic 334, 3) := by decide +kernel
theorem dX12_count_133 : decode cX12_count 133 = .ok (.ireturn, 1) := by decide +kernel
theorem dX12_count_134 : decode cX12_count 134 = .ok (.iconst (-1), 1) := by decide +kernel
theorem dX12_count_135 : decode cX12_count 135 = .ok (.ireturn, 1) := by decide +kernel
theorem dX12_ends_0 : decode cX12_ends 0 = .ok (.aload_n 0, 1) := by decide +kernel
theorem dX12_ends_1 : decode cX12_ends 1 = .ok (.getfield 13, 3) := by decide +kernel
theorem dX12_ends_4 : decode cX12_ends 4 = .ok (.iconst 4, 1) := by decide +kernel
theorem dX12_ends_5 : decode cX12_ends 5 = .ok (.iaload, 1) := by decide +kernel
theorem dX12_ends_6 : decode cX12_ends 6 = .ok (.aload_n 0, 1) := by decide +kernel
theorem dX12_ends_7 : decode cX12_ends 7 = .ok (.getfield 13, 3) := by decide +kernel
theorem dX12_ends_10 : decode cX12_ends 10 = .ok (.iconst 5, 1) := by decide +kernel
theorem dX12_ends_11 : decode cX12_ends 11 = .ok (.iaload, 1) := by decide +kernel
theorem dX12_ends_12 : decode cX12_ends 12 = .ok (.ior, 1) := by decide +kernel
theorem dX12_ends_13 : decode cX12_ends 13 = .ok (.ireturn, 1) := by decide +kernel
theorem dX12_fault_0 : decode cX12_fault 0 = .ok (.aload_n 0, 1) := by decide +kernel
theorem dX12_fault_1 : decode cX12_fault 1 = .ok (.iconst 0, 1) := by decide +kernel
theorem dX12_fault_2 : decode cX12_fault 2 = .ok (.putfield 1, 3) := by decide +kernel
theorem dX12_fault_5 : decode cX12_fault 5 = .ok (.iload_n 1, 1) := by decide +kernel
theorem dX12_fault_6 : decode cX12_fault 6 = .ok (.ifCond .ne 10, 3) := by decide +kernel
theorem dX12_fault_9 : decode cX12_fault 9 = .ok (.aload_n 0, 1) := by decide +kernel
theorem dX12_fault_10 : decode cX12_fault 10 = .ok (.getfield 209, 3) := by decide +kernel
theorem dX12_fault_13 : decode cX12_fault 13 = .ok (.goto 16, 3) := by decide +kernel
theorem dX12_fault_16 : decode cX12_fault 16 = .ok (.iload_n 1, 1) := by decide +kernel
theorem dX12_fault_17 : decode cX12_fault 17 = .ok (.iconst 1, 1) := by decide +kernel
theorem dX12_fault_18 : decode cX12_fault 18 = .ok (.if_icmp .ne 10, 3) := by decide +kernel
theorem dX12_fault_21 : decode cX12_fault 21 = .ok (.aload_n 0, 1) := by decide +kernel
theorem dX12_fault_22 : decode cX12_fault 22 = .ok (.getfield 27, 3) := by decide +kernel
theorem dX12_fault_25 : decode cX12_fault 25 = .ok (.goto 4, 3) := by decide +kernel
theorem dX12_fault_28 : decode cX12_fault 28 = .ok (.iconst (-1), 1) := by decide +kernel
theorem dX12_fault_29 : decode cX12_fault 29 = .ok (.ireturn, 1) := by decide +kernel
theorem dX12_guide_0 : decode cX12_guide 0 = .ok (.aload_n 0, 1) := by decide +kernel
theorem dX12_guide_1 : decode cX12_guide 1 = .ok (.iconst 0, 1) := by decide +kernel
theorem dX12_guide_2 : decode cX12_guide 2 = .ok (.putfield 1, 3) := by decide +kernel
theorem dX12_guide_5 : decode cX12_guide 5 = .ok (.aload_n 0, 1) := by decide +kernel
theorem dX12_guide_6 : decode cX12_guide 6 = .ok (.iload_n 1, 1) := by decide +kernel
theorem dX12_guide_7 : decode cX12_guide 7 = .ok (.i2l, 1) := by decide +kernel
theorem dX12_guide_8 : decode cX12_guide 8 = .ok (.invokevirtual 222, 3) := by decide +kernel
theorem dX12_guide_11 : decode cX12_guide 11 = .ok (.ifCond .ne 6, 3) := by decide +kernel
theorem dX12_guide_14 : decode cX12_guide 14 = .ok (.bipush (-2), 2) := by decide +kernel
theorem dX12_guide_16 : decode cX12_guide 16 = .ok (.ireturn, 1) := by decide +kernel
theorem dX12_guide_17 : decode cX12_guide 17 = .ok (.iload_n 2, 1) := by decide +kernel
theorem dX12_guide_18 : decode cX12_guide 18 = .ok (.ifCond .ne 15, 3) := by decide +kernel
theorem dX12_guide_21 : decode cX12_guide 21 = .ok (.aload_n 0, 1) := by decide +kernel
theorem dX12_guide_22 : decode cX12_guide 22 = .ok (.getfield 13, 3) := by decide +kernel
theorem dX12_guide_25 : decode cX12_guide 25 = .ok (.bipush 49, 2) := by decide +kernel
theorem dX12_guide_27 : decode cX12_guide 27 = .ok (.iload_n 1, 1) := by decide +kernel
theorem dX12_guide_28 : decode cX12_guide 28 = .ok (.iadd, 1) := by decide +kernel
theorem dX12_guide_29 : decode cX12_guide 29 = .ok (.iaload, 1) := by decide +kernel
theorem dX12_guide_30 : decode cX12_guide 30 = .ok (.goto 35, 3) := by decide +kernel
theorem dX12_guide_33 : decode cX12_guide 33 = .ok (.iload_n 2, 1) := by decide +kernel
theorem dX12_guide_34 : decode cX12_guide 34 = .ok (.iconst 1, 1) := by decide +kernel
theorem dX12_guide_35 : decode cX12_guide 35 = .ok (.if_icmp .ne 15, 3) := by decide +kernel
theorem dX12_guide_38 : decode cX12_guide 38 = .ok (.aload_n 0, 1) := by decide +kernel
theorem dX12_guide_39 : decode cX12_guide 39 = .ok (.getfield 13, 3) := by decide +kernel
theorem dX12_guide_42 : decode cX12_guide 42 = .ok (.bipush 54, 2) := by decide +kernel
theorem dX12_guide_44 : decode cX12_guide 44 = .ok (.iload_n 1, 1) := by decide +kernel
theorem dX12_guide_45 : decode cX12_guide 45 = .ok (.iadd, 1) := by decide +kernel
theorem dX12_guide_46 : decode cX12_guide 46 = .ok (.iaload, 1) := by decide +kernel
theorem dX12_guide_47 : decode cX12_guide 47 = .ok (.goto 18, 3) := by decide +kernel
theorem dX12_guide_50 : decode cX12_guide 50 = .ok (.iload_n 2, 1) := by decide +kernel
theorem dX12_guide_51 : decode cX12_guide 51 = .ok (.iconst 2, 1) := by decide +kernel
theorem dX12_guide_52 : decode cX12_guide 52 = .ok (.if_icmp .ne 11, 3) := by decide +kernel
theorem dX12_guide_55 : decode cX12_guide 55 = .ok (.aload_n 0, 1) := by decide +kernel
theorem dX12_guide_56 : decode cX12_guide 56 = .ok (.iload_n 1, 1) := by decide +kernel
theorem dX12_guide_57 : decode cX12_guide 57 = .ok (.invokevirtual 225, 3) := by decide +kernel
theorem dX12_guide_60 : decode cX12_guide 60 = .ok (.goto 5, 3) := by decide +kernel
theorem dX12_guide_63 : decode cX12_guide 63 = .ok (.bipush (-2), 2) := by decide +kernel
theorem dX12_guide_65 : decode cX12_guide 65 = .ok (.ireturn, 1) := by decide +kernel
theorem dX12_hold_0 : decode cX12_hold 0 = .ok (.aload_n 0, 1) := by decide +kernel
theorem dX12_hold_1 : decode cX12_hold 1 = .ok (.iconst 0, 1) := by decide +kernel
theorem dX12_hold_2 : decode cX12_hold 2 = .ok (.putfield 1, 3) := by decide +kernel
theorem dX12_hold_5 : decode cX12_hold 5 = .ok (.aload_n 0, 1) := by decide +kernel
theorem dX12_hold_6 : decode cX12_hold 6 = .ok (.iload_n 1, 1) := by decide +kernel
theorem dX12_hold_7 : decode cX12_hold 7 = .ok (.i2l, 1) := by decide +kernel
theorem dX12_hold_8 : decode cX12_hold 8 = .ok (.invokevirtual 218, 3) := by decide +kernel
theorem dX12_hold_11 : decode cX12_hold 11 = .ok (.ifCond .ne 6, 3) := by decide +kernel
theorem dX12_hold_14 : decode cX12_hold 14 = .ok (.bipush (-8), 2) := by decide +kernel
theorem dX12_hold_16 : decode cX12_hold 16 = .ok (.ireturn, 1) := by decide +kernel
theorem dX12_hold_17 : decode cX12_hold 17 = .ok (.iload_n 2, 1) := by decide +kernel
theorem dX12_hold_18 : decode cX12_hold 18 = .ok (.tableswitch 193 0 9 #[54, 64, 74, 94, 114, 128, 142, 152, 162, 183], 54) := by decide +kernel
theorem dX12_hold_72 : decode cX12_hold 72 = .ok (.aload_n 0, 1) := by decide +kernel
theorem dX12_hold_73 : decode cX12_hold 73 = .ok (.getfield 13, 3) := by decide +kernel
theorem dX12_hold_76 : decode cX12_hold 76 = .ok (.bipush 7, 2) := by decide +kernel
theorem dX12_hold_78 : decode cX12_hold 78 = .ok (.iload_n 1, 1) := by decide +kernel
theorem dX12_hold_79 : decode cX12_hold 79 = .ok (.iadd, 1) := by decide +kernel
theorem dX12_hold_80 : decode cX12_hold 80 = .ok (.iaload, 1) := by decide +kernel
theorem dX12_hold_81 : decode cX12_hold 81 = .ok (.ireturn, 1) := by decide +kernel
theorem dX12_hold_82 : decode cX12_hold 82 = .ok (.aload_n 0, 1) := by decide +kernel
theorem dX12_hold_83 : decode cX12_hold 83 = .ok (.getfield 13, 3) := by decide +kernel
theorem dX12_hold_86 : decode cX12_hold 86 = .ok (.bipush 21, 2) := by decide +kernel
theorem dX12_hold_88 : decode cX12_hold 88 = .ok (.iload_n 1, 1) := by decide +kernel
theorem dX12_hold_89 : decode cX12_hold 89 = .ok (.iadd, 1) := by decide +kernel
theorem dX12_hold_90 : decode cX12_hold 90 = .ok (.iaload, 1) := by decide +kernel
theorem dX12_hold_91 : decode cX12_hold 91 = .ok (.ireturn, 1) := by decide +kernel
theorem dX12_hold_92 : decode cX12_hold 92 = .ok (.aload_n 0, 1) := by decide +kernel
theorem dX12_hold_93 : decode cX12_hold 93 = .ok (.getfield 13, 3) := by decide +kernel
theorem dX12_hold_96 : decode cX12_hold 96 = .ok (.iconst 4, 1) := by decide +kernel
theorem dX12_hold_97 : decode cX12_hold 97 = .ok (.iaload, 1) := by decide +kernel
theorem dX12_hold_98 : decode cX12_hold 98 = .ok (.i2l, 1) := by decide +kernel
theorem dX12_hold_99 : decode cX12_hold 99 = .ok (.iload_n 1, 1) := by decide +kernel
theorem dX12_hold_100 : decode cX12_hold 100 = .ok (.invokestatic 186, 3) := by decide +kernel
theorem dX12_hold_103 : decode cX12_hold 103 = .ok (.ifCond .eq 7, 3) := by decide +kernel
theorem dX12_hold_106 : decode cX12_hold 106 = .ok (.iconst 1, 1) := by decide +kernel
theorem dX12_hold_107 : decode cX12_hold 107 = .ok (.goto 4, 3) := by decide +kernel
theorem dX12_hold_110 : decode cX12_hold 110 = .ok (.iconst 0, 1) := by decide +kernel
theorem dX12_hold_111 : decode cX12_hold 111 = .ok (.ireturn, 1) := by decide +kernel
theorem dX12_hold_112 : decode cX12_hold 112 = .ok (.aload_n 0, 1) := by decide +kernel
theorem dX12_hold_113 : decode cX12_hold 113 = .ok (.getfield 13, 3) := by decide +kernel
theorem dX12_hold_116 : decode cX12_hold 116 = .ok (.iconst 5, 1) := by decide +kernel
theorem dX12_hold_117 : decode cX12_hold 117 = .ok (.iaload, 1) := by decide +kernel
theorem dX12_hold_118 : decode cX12_hold 118 = .ok (.i2l, 1) := by decide +kernel
theorem dX12_hold_119 : decode cX12_hold 119 = .ok (.iload_n 1, 1) := by decide +kernel
theorem dX12_hold_120 : decode cX12_hold 120 = .ok (.invokestatic 186, 3) := by decide +kernel
theorem dX12_hold_123 : decode cX12_hold 123 = .ok (.ifCond .eq 7, 3) := by decide +kernel
theorem dX12_hold_126 : decode cX12_hold 126 = .ok (.iconst 1, 1) := by decide +kernel
theorem dX12_hold_127 : decode cX12_hold 127 = .ok (.goto 4, 3) := by decide +kernel
theorem dX12_hold_130 : decode cX12_hold 130 = .ok (.iconst 0, 1) := by decide +kernel
theorem dX12_hold_131 : decode cX12_hold 131 = .ok (.ireturn, 1) := by decide +kernel
theorem dX12_hold_132 : decode cX12_hold 132 = .ok (.aload_n 0, 1) := by decide +kernel
theorem dX12_hold_133 : decode cX12_hold 133 = .ok (.iload_n 1, 1) := by decide +kernel
theorem dX12_hold_134 : decode cX12_hold 134 = .ok (.invokevirtual 212, 3) := by decide +kernel
theorem dX12_hold_137 : decode cX12_hold 137 = .ok (.ifCond .eq 7, 3) := by decide +kernel
theorem dX12_hold_140 : decode cX12_hold 140 = .ok (.iconst 1, 1) := by decide +kernel
theorem dX12_hold_141 : decode cX12_hold 141 = .ok (.goto 4, 3) := by decide +kernel
theorem dX12_hold_144 : decode cX12_hold 144 = .ok (.iconst 0, 1) := by decide +kernel
theorem dX12_hold_145 : decode cX12_hold 145 = .ok (.ireturn, 1) := by decide +kernel
theorem dX12_hold_146 : decode cX12_hold 146 = .ok (.aload_n 0, 1) := by decide +kernel
theorem dX12_hold_147 : decode cX12_hold 147 = .ok (.iload_n 1, 1) := by decide +kernel
theorem dX12_hold_148 : decode cX12_hold 148 = .ok (.invokevirtual 215, 3) := by decide +kernel
theorem dX12_hold_151 : decode cX12_hold 151 = .ok (.ifCond .eq 7, 3) := by decide +kernel
theorem dX12_hold_154 : decode cX12_hold 154 = .ok (.iconst 1, 1) := by decide +kernel
theorem dX12_hold_155 : decode cX12_hold 155 = .ok (.goto 4, 3) := by decide +kernel
theorem dX12_hold_158 : decode cX12_hold 158 = .ok (.iconst 0, 1) := by decide +kernel
theorem dX12_hold_159 : decode cX12_hold 159 = .ok (.ireturn, 1) := by decide +kernel
theorem dX12_hold_160 : decode cX12_hold 160 = .ok (.aload_n 0, 1) := by decide +kernel
theorem dX12_hold_161 : decode cX12_hold 161 = .ok (.getfield 13, 3) := by decide +kernel
theorem dX12_hold_164 : decode cX12_hold 164 = .ok (.bipush 59, 2) := by decide +kernel
theorem dX12_hold_166 : decode cX12_hold 166 = .ok (.iload_n 1, 1) := by decide +kernel
theorem dX12_hold_167 : decode cX12_hold 167 = .ok (.iadd, 1) := by decide +kernel
theorem dX12_hold_168 : decode cX12_hold 168 = .ok (.iaload, 1) := by decide +kernel
theorem dX12_hold_169 : decode cX12_hold 169 = .ok (.ireturn, 1) := by decide +kernel
theorem dX12_hold_170 : decode cX12_hold 170 = .ok (.aload_n 0, 1) := by decide +kernel
theorem dX12_hold_171 : decode cX12_hold 171 = .ok (.getfield 13, 3) := by decide +kernel
theorem dX12_hold_174 : decode cX12_hold 174 = .ok (.bipush 73, 2) := by decide +kernel
theorem dX12_hold_176 : decode cX12_hold 176 = .ok (.iload_n 1, 1) := by decide +kernel
theorem dX12_hold_177 : decode cX12_hold 177 = .ok (.iadd, 1) := by decide +kernel
theorem dX12_hold_178 : decode cX12_hold 178 = .ok (.iaload, 1) := by decide +kernel
theorem dX12_hold_179 : decode cX12_hold 179 = .ok (.ireturn, 1) := by decide +kernel
theorem dX12_hold_180 : decode cX12_hold 180 = .ok (.aload_n 0, 1) := by decide +kernel
theorem dX12_hold_181 : decode cX12_hold 181 = .ok (.getfield 13, 3) := by decide +kernel
theorem dX12_hold_184 : decode cX12_hold 184 = .ok (.bipush 87, 2) := by decide +kernel
theorem dX12_hold_186 : decode cX12_hold 186 = .ok (.iaload, 1) := by decide +kernel
theorem dX12_hold_187 : decode cX12_hold 187 = .ok (.i2l, 1) := by decide +kernel
theorem dX12_hold_188 : decode cX12_hold 188 = .ok (.iload_n 1, 1) := by decide +kernel
theorem dX12_hold_189 : decode cX12_hold 189 = .ok (.invokestatic 186, 3) := by decide +kernel
theorem dX12_hold_192 : decode cX12_hold 192 = .ok (.ifCond .eq 7, 3) := by decide +kernel
theorem dX12_hold_195 : decode cX12_hold 195 = .ok (.iconst 1, 1) := by decide +kernel
theorem dX12_hold_196 : decode cX12_hold 196 = .ok (.goto 4, 3) := by decide +kernel
theorem dX12_hold_199 : decode cX12_hold 199 = .ok (.iconst 0, 1) := by decide +kernel
theorem dX12_hold_200 : decode cX12_hold 200 = .ok (.ireturn, 1) := by decide +kernel
theorem dX12_hold_201 : decode cX12_hold 201 = .ok (.aload_n 0, 1) := by decide +kernel
theorem dX12_hold_202 : decode cX12_hold 202 = .ok (.getfield 13, 3) := by decide +kernel
theorem dX12_hold_205 : decode cX12_hold 205 = .ok (.bipush 35, 2) := by decide +kernel
theorem dX12_hold_207 : decode cX12_hold 207 = .ok (.iload_n 1, 1) := by decide +kernel
theorem dX12_hold_208 : decode cX12_hold 208 = .ok (.iadd, 1) := by decide +kernel
theorem dX12_hold_209 : decode cX12_hold 209 = .ok (.iaload, 1) := by decide +kernel
theorem dX12_hold_210 : decode cX12_hold 210 = .ok (.ireturn, 1) := by decide +kernel
theorem dX12_hold_211 : decode cX12_hold 211 = .ok (.bipush (-8), 2) := by decide +kernel
theorem dX12_hold_213 : decode cX12_hold 213 = .ok (.ireturn, 1) := by decide +kernel
theorem dX12_isGuide_0 : decode cX12_isGuide 0 = .ok (.lload_n 1, 1) := by decide +kernel
theorem dX12_isGuide_1 : decode cX12_isGuide 1 = .ok (.lconst 0, 1) := by decide +kernel
theorem dX12_isGuide_2 : decode cX12_isGuide 2 = .ok (.aload_n 0, 1) := by decide +kernel
theorem dX12_isGuide_3 : decode cX12_isGuide 3 = .ok (.getfield 13, 3) := by decide +kernel
theorem dX12_isGuide_6 : decode cX12_isGuide 6 = .ok (.iconst 2, 1) := by decide +kernel
theorem dX12_isGuide_7 : decode cX12_isGuide 7 = .ok (.iaload, 1) := by decide +kernel
theorem dX12_isGuide_8 : decode cX12_isGuide 8 = .ok (.iconst 1, 1) := by decide +kernel
theorem dX12_isGuide_9 : decode cX12_isGuide 9 = .ok (.isub, 1) := by decide +kernel
theorem dX12_isGuide_10 : decode cX12_isGuide 10 = .ok (.i2l, 1) := by decide +kernel
theorem dX12_isGuide_11 : decode cX12_isGuide 11 = .ok (.invokestatic 144, 3) := by decide +kernel
theorem dX12_isGuide_14 : decode cX12_isGuide 14 = .ok (.ireturn, 1) := by decide +kernel
theorem dX12_isHold_0 : decode cX12_isHold 0 = .ok (.lload_n 1, 1) := by decide +kernel
theorem dX12_isHold_1 : decode cX12_isHold 1 = .ok (.lconst 0, 1) := by decide +kernel
theorem dX12_isHold_2 : decode cX12_isHold 2 = .ok (.aload_n 0, 1) := by decide +kernel
theorem dX12_isHold_3 : decode cX12_isHold 3 = .ok (.getfield 13, 3) := by decide +kernel
theorem dX12_isHold_6 : decode cX12_isHold 6 = .ok (.iconst 1, 1) := by decide +kernel
theorem dX12_isHold_7 : decode cX12_isHold 7 = .ok (.iaload, 1) := by decide +kernel
theorem dX12_isHold_8 : decode cX12_isHold 8 = .ok (.iconst 1, 1) := by decide +kernel
theorem dX12_isHold_9 : decode cX12_isHold 9 = .ok (.isub, 1) := by decide +kernel
theorem dX12_isHold_10 : decode cX12_isHold 10 = .ok (.i2l, 1) := by decide +kernel
theorem dX12_isHold_11 : decode cX12_isHold 11 = .ok (.invokestatic 144, 3) := by decide +kernel
theorem dX12_isHold_14 : decode cX12_isHold 14 = .ok (.ireturn, 1) := by decide +kernel
theorem dX12_isOpen_0 : decode cX12_isOpen 0 = .ok (.aload_n 0, 1) := by decide +kernel
theorem dX12_isOpen_1 : decode cX12_isOpen 1 = .ok (.iload_n 1, 1) := by decide +kernel
theorem dX12_isOpen_2 : decode cX12_isOpen 2 = .ok (.invokevirtual 212, 3) := by decide +kernel
theorem dX12_isOpen_5 : decode cX12_isOpen 5 = .ok (.ifCond .eq 20, 3) := by decide +kernel
theorem dX12_isOpen_8 : decode cX12_isOpen 8 = .ok (.aload_n 0, 1) := by decide +kernel
theorem dX12_isOpen_9 : decode cX12_isOpen 9 = .ok (.getfield 13, 3) := by decide +kernel
theorem dX12_isOpen_12 : decode cX12_isOpen 12 = .ok (.bipush 59, 2) := by decide +kernel
theorem dX12_isOpen_14 : decode cX12_isOpen 14 = .ok (.iload_n 1, 1) := by decide +kernel
theorem dX12_isOpen_15 : decode cX12_isOpen 15 = .ok (.iadd, 1) := by decide +kernel
theorem dX12_isOpen_16 : decode cX12_isOpen 16 = .ok (.iaload, 1) := by decide +kernel
theorem dX12_isOpen_17 : decode cX12_isOpen 17 = .ok (.iconst (-1), 1) := by decide +kernel
theorem dX12_isOpen_18 : decode cX12_isOpen 18 = .ok (.if_icmp .ne 7, 3) := by decide +kernel
theorem dX12_isOpen_21 : decode cX12_isOpen 21 = .ok (.iconst 1, 1) := by decide +kernel
theorem dX12_isOpen_22 : decode cX12_isOpen 22 = .ok (.goto 4, 3) := by decide +kernel
theorem dX12_isOpen_25 : decode cX12_isOpen 25 = .ok (.iconst 0, 1) := by decide +kernel
theorem dX12_isOpen_26 : decode cX12_isOpen 26 = .ok (.ireturn, 1) := by decide +kernel
theorem dX12_isThere_0 : decode cX12_isThere 0 = .ok (.aload_n 0, 1) := by decide +kernel
theorem dX12_isThere_1 : decode cX12_isThere 1 = .ok (.getfield 13, 3) := by decide +kernel
theorem dX12_isThere_4 : decode cX12_isThere 4 = .ok (.bipush 87, 2) := by decide +kernel
theorem dX12_isThere_6 : decode cX12_isThere 6 = .ok (.iaload, 1) := by decide +kernel
theorem dX12_isThere_7 : decode cX12_isThere 7 = .ok (.i2l, 1) := by decide +kernel
theorem dX12_isThere_8 : decode cX12_isThere 8 = .ok (.iload_n 1, 1) := by decide +kernel
theorem dX12_isThere_9 : decode cX12_isThere 9 = .ok (.invokestatic 186, 3) := by decide +kernel
theorem dX12_isThere_12 : decode cX12_isThere 12 = .ok (.ifCond .ne 26, 3) := by decide +kernel
theorem dX12_isThere_15 : decode cX12_isThere 15 = .ok (.aload_n 0, 1) := by decide +kernel
theorem dX12_isThere_16 : decode cX12_isThere 16 = .ok (.getfield 13, 3) := by decide +kernel
theorem dX12_isThere_19 : decode cX12_isThere 19 = .ok (.bipush 88, 2) := by decide +kernel
theorem dX12_isThere_21 : decode cX12_isThere 21 = .ok (.iaload, 1) := by decide +kernel
theorem dX12_isThere_22 : decode cX12_isThere 22 = .ok (.aload_n 0, 1) := by decide +kernel
theorem dX12_isThere_23 : decode cX12_isThere 23 = .ok (.getfield 13, 3) := by decide +kernel
theorem dX12_isThere_26 : decode cX12_isThere 26 = .ok (.bipush 35, 2) := by decide +kernel
theorem dX12_isThere_28 : decode cX12_isThere 28 = .ok (.iload_n 1, 1) := by decide +kernel
theorem dX12_isThere_29 : decode cX12_isThere 29 = .ok (.iadd, 1) := by decide +kernel
theorem dX12_isThere_30 : decode cX12_isThere 30 = .ok (.iaload, 1) := by decide +kernel
theorem dX12_isThere_31 : decode cX12_isThere 31 = .ok (.if_icmp .lt 7, 3) := by decide +kernel
theorem dX12_isThere_34 : decode cX12_isThere 34 = .ok (.iconst 1, 1) := by decide +kernel
theorem dX12_isThere_35 : decode cX12_isThere 35 = .ok (.goto 4, 3) := by decide +kernel
theorem dX12_isThere_38 : decode cX12_isThere 38 = .ok (.iconst 0, 1) := by decide +kernel
theorem dX12_isThere_39 : decode cX12_isThere 39 = .ok (.ireturn, 1) := by decide +kernel
theorem dX12_openSet_0 : decode cX12_openSet 0 = .ok (.iconst 0, 1) := by decide +kernel
theorem dX12_openSet_1 : decode cX12_openSet 1 = .ok (.istore_n 1, 1) := by decide +kernel
theorem dX12_openSet_2 : decode cX12_openSet 2 = .ok (.iconst 0, 1) := by decide +kernel
theorem dX12_openSet_3 : decode cX12_openSet 3 = .ok (.istore_n 2, 1) := by decide +kernel
theorem dX12_openSet_4 : decode cX12_openSet 4 = .ok (.iload_n 2, 1) := by decide +kernel
theorem dX12_openSet_5 : decode cX12_openSet 5 = .ok (.aload_n 0, 1) := by decide +kernel
theorem dX12_openSet_6 : decode cX12_openSet 6 = .ok (.getfield 13, 3) := by decide +kernel
theorem dX12_openSet_9 : decode cX12_openSet 9 = .ok (.iconst 1, 1) := by decide +kernel
theorem dX12_openSet_10 : decode cX12_openSet 10 = .ok (.iaload, 1) := by decide +kernel
theorem dX12_openSet_11 : decode cX12_openSet 11 = .ok (.if_icmp .ge 27, 3) := by decide +kernel
theorem dX12_openSet_14 : decode cX12_openSet 14 = .ok (.iload_n 1, 1) := by decide +kernel
theorem dX12_openSet_15 : decode cX12_openSet 15 = .ok (.aload_n 0, 1) := by decide +kernel
theorem dX12_openSet_16 : decode cX12_openSet 16 = .ok (.iload_n 2, 1) := by decide +kernel
theorem dX12_openSet_17 : decode cX12_openSet 17 = .ok (.invokevirtual 215, 3) := by decide +kernel
theorem dX12_openSet_20 : decode cX12_openSet 20 = .ok (.ifCond .eq 9, 3) := by decide +kernel
theorem dX12_openSet_23 : decode cX12_openSet 23 = .ok (.iconst 1, 1) := by decide +kernel
theorem dX12_openSet_24 : decode cX12_openSet 24 = .ok (.iload_n 2, 1) := by decide +kernel
theorem dX12_openSet_25 : decode cX12_openSet 25 = .ok (.ishl, 1) := by decide +kernel
theorem dX12_openSet_26 : decode cX12_openSet 26 = .ok (.goto 4, 3) := by decide +kernel
theorem dX12_openSet_29 : decode cX12_openSet 29 = .ok (.iconst 0, 1) := by decide +kernel
theorem dX12_openSet_30 : decode cX12_openSet 30 = .ok (.ior, 1) := by decide +kernel
theorem dX12_openSet_31 : decode cX12_openSet 31 = .ok (.istore_n 1, 1) := by decide +kernel
theorem dX12_openSet_32 : decode cX12_openSet 32 = .ok (.iinc 2 1, 3) := by decide +kernel
theorem dX12_openSet_35 : decode cX12_openSet 35 = .ok (.goto (-31), 3) := by decide +kernel
theorem dX12_openSet_38 : decode cX12_openSet 38 = .ok (.iload_n 1, 1) := by decide +kernel
theorem dX12_openSet_39 : decode cX12_openSet 39 = .ok (.ireturn, 1) := by decide +kernel
theorem dX12_thereSet_0 : decode cX12_thereSet 0 = .ok (.iconst 0, 1) := by decide +kernel
theorem dX12_thereSet_1 : decode cX12_thereSet 1 = .ok (.istore_n 1, 1) := by decide +kernel
theorem dX12_thereSet_2 : decode cX12_thereSet 2 = .ok (.iconst 0, 1) := by decide +kernel
theorem dX12_thereSet_3 : decode cX12_thereSet 3 = .ok (.istore_n 2, 1) := by decide +kernel
theorem dX12_thereSet_4 : decode cX12_thereSet 4 = .ok (.iload_n 2, 1) := by decide +kernel
theorem dX12_thereSet_5 : decode cX12_thereSet 5 = .ok (.aload_n 0, 1) := by decide +kernel
theorem dX12_thereSet_6 : decode cX12_thereSet 6 = .ok (.getfield 13, 3) := by decide +kernel
theorem dX12_thereSet_9 : decode cX12_thereSet 9 = .ok (.iconst 1, 1) := by decide +kernel
theorem dX12_thereSet_10 : decode cX12_thereSet 10 = .ok (.iaload, 1) := by decide +kernel
theorem dX12_thereSet_11 : decode cX12_thereSet 11 = .ok (.if_icmp .ge 27, 3) := by decide +kernel
theorem dX12_thereSet_14 : decode cX12_thereSet 14 = .ok (.iload_n 1, 1) := by decide +kernel
theorem dX12_thereSet_15 : decode cX12_thereSet 15 = .ok (.aload_n 0, 1) := by decide +kernel
theorem dX12_thereSet_16 : decode cX12_thereSet 16 = .ok (.iload_n 2, 1) := by decide +kernel
theorem dX12_thereSet_17 : decode cX12_thereSet 17 = .ok (.invokevirtual 212, 3) := by decide +kernel
theorem dX12_thereSet_20 : decode cX12_thereSet 20 = .ok (.ifCond .eq 9, 3) := by decide +kernel
theorem dX12_thereSet_23 : decode cX12_thereSet 23 = .ok (.iconst 1, 1) := by decide +kernel
theorem dX12_thereSet_24 : decode cX12_thereSet 24 = .ok (.iload_n 2, 1) := by decide +kernel
theorem dX12_thereSet_25 : decode cX12_thereSet 25 = .ok (.ishl, 1) := by decide +kernel
theorem dX12_thereSet_26 : decode cX12_thereSet 26 = .ok (.goto 4, 3) := by decide +kernel
theorem dX12_thereSet_29 : decode cX12_thereSet 29 = .ok (.iconst 0, 1) := by decide +kernel
theorem dX12_thereSet_30 : decode cX12_thereSet 30 = .ok (.ior, 1) := by decide +kernel
theorem dX12_thereSet_31 : decode cX12_thereSet 31 = .ok (.istore_n 1, 1) := by decide +kernel
theorem dX12_thereSet_32 : decode cX12_thereSet 32 = .ok (.iinc 2 1, 3) := by decide +kernel
theorem dX12_thereSet_35 : decode cX12_thereSet 35 = .ok (.goto (-31), 3) := by decide +kernel
theorem dX12_thereSet_38 : decode cX12_thereSet 38 = .ok (.iload_n 1, 1) := by decide +kernel
theorem dX12_thereSet_39 : decode cX12_thereSet 39 = .ok (.ireturn, 1) := by decide +kernel
theorem dX12_usedBy_0 : decode cX12_usedBy 0 = .ok (.iconst 0, 1) := by decide +kernel
theorem dX12_usedBy_1 : decode cX12_usedBy 1 = .ok (.istore_n 2, 1) := by decide +kernel
theorem dX12_usedBy_2 : decode cX12_usedBy 2 = .ok (.iconst 0, 1) := by decide +kernel
theorem dX12_usedBy_3 : decode cX12_usedBy 3 = .ok (.istore_n 3, 1) := by decide +kernel
theorem dX12_usedBy_4 : decode cX12_usedBy 4 = .ok (.iload_n 3, 1) := by decide +kernel
theorem dX12_usedBy_5 : decode cX12_usedBy 5 = .ok (.aload_n 0, 1) := by decide +kernel
theorem dX12_usedBy_6 : decode cX12_usedBy 6 = .ok (.getfield 13, 3) := by decide +kernel
theorem dX12_usedBy_9 : decode cX12_usedBy 9 = .ok (.iconst 1, 1) := by decide +kernel
theorem dX12_usedBy_10 : decode cX12_usedBy 10 = .ok (.iaload, 1) := by decide +kernel
theorem dX12_usedBy_11 : decode cX12_usedBy 11 = .ok (.if_icmp .ge 32, 3) := by decide +kernel
theorem dX12_usedBy_14 : decode cX12_usedBy 14 = .ok (.iload_n 2, 1) := by decide +kernel
theorem dX12_usedBy_15 : decode cX12_usedBy 15 = .ok (.aload_n 0, 1) := by decide +kernel
theorem dX12_usedBy_16 : decode cX12_usedBy 16 = .ok (.getfield 13, 3) := by decide +kernel
theorem dX12_usedBy_19 : decode cX12_usedBy 19 = .ok (.bipush 59, 2) := by decide +kernel
theorem dX12_usedBy_21 : decode cX12_usedBy 21 = .ok (.iload_n 3, 1) := by decide +kernel
theorem dX12_usedBy_22 : decode cX12_usedBy 22 = .ok (.iadd, 1) := by decide +kernel
theorem dX12_usedBy_23 : decode cX12_usedBy 23 = .ok (.iaload, 1) := by decide +kernel
theorem dX12_usedBy_24 : decode cX12_usedBy 24 = .ok (.iload_n 1, 1) := by decide +kernel
theorem dX12_usedBy_25 : decode cX12_usedBy 25 = .ok (.if_icmp .ne 9, 3) := by decide +kernel
theorem dX12_usedBy_28 : decode cX12_usedBy 28 = .ok (.iconst 1, 1) := by decide +kernel
theorem dX12_usedBy_29 : decode cX12_usedBy 29 = .ok (.iload_n 3, 1) := by decide +kernel
theorem dX12_usedBy_30 : decode cX12_usedBy 30 = .ok (.ishl, 1) := by decide +kernel
theorem dX12_usedBy_31 : decode cX12_usedBy 31 = .ok (.goto 4, 3) := by decide +kernel
theorem dX12_usedBy_34 : decode cX12_usedBy 34 = .ok (.iconst 0, 1) := by decide +kernel
theorem dX12_usedBy_35 : decode cX12_usedBy 35 = .ok (.ior, 1) := by decide +kernel
theorem dX12_usedBy_36 : decode cX12_usedBy 36 = .ok (.istore_n 2, 1) := by decide +kernel
theorem dX12_usedBy_37 : decode cX12_usedBy 37 = .ok (.iinc 3 1, 3) := by decide +kernel
theorem dX12_usedBy_40 : decode cX12_usedBy 40 = .ok (.goto (-36), 3) := by decide +kernel
theorem dX12_usedBy_43 : decode cX12_usedBy 43 = .ok (.iload_n 2, 1) := by decide +kernel
theorem dX12_usedBy_44 : decode cX12_usedBy 44 = .ok (.ireturn, 1) := by decide +kernel
theorem dX12_usedMany_0 : decode cX12_usedMany 0 = .ok (.iconst 0, 1) := by decide +kernel
theorem dX12_usedMany_1 : decode cX12_usedMany 1 = .ok (.istore_n 1, 1) := by decide +kernel
theorem dX12_usedMany_2 : decode cX12_usedMany 2 = .ok (.iconst 0, 1) := by decide +kernel
theorem dX12_usedMany_3 : decode cX12_usedMany 3 = .ok (.istore_n 2, 1) := by decide +kernel
theorem dX12_usedMany_4 : decode cX12_usedMany 4 = .ok (.iload_n 2, 1) := by decide +kernel
theorem dX12_usedMany_5 : decode cX12_usedMany 5 = .ok (.aload_n 0, 1) := by decide +kernel
theorem dX12_usedMany_6 : decode cX12_usedMany 6 = .ok (.getfield 13, 3) := by decide +kernel
theorem dX12_usedMany_9 : decode cX12_usedMany 9 = .ok (.iconst 1, 1) := by decide +kernel
theorem dX12_usedMany_10 : decode cX12_usedMany 10 = .ok (.iaload, 1) := by decide +kernel
theorem dX12_usedMany_11 : decode cX12_usedMany 11 = .ok (.if_icmp .ge 30, 3) := by decide +kernel
theorem dX12_usedMany_14 : decode cX12_usedMany 14 = .ok (.iload_n 1, 1) := by decide +kernel
theorem dX12_usedMany_15 : decode cX12_usedMany 15 = .ok (.aload_n 0, 1) := by decide +kernel
theorem dX12_usedMany_16 : decode cX12_usedMany 16 = .ok (.getfield 13, 3) := by decide +kernel
theorem dX12_usedMany_19 : decode cX12_usedMany 19 = .ok (.bipush 59, 2) := by decide +kernel
theorem dX12_usedMany_21 : decode cX12_usedMany 21 = .ok (.iload_n 2, 1) := by decide +kernel
theorem dX12_usedMany_22 : decode cX12_usedMany 22 = .ok (.iadd, 1) := by decide +kernel
theorem dX12_usedMany_23 : decode cX12_usedMany 23 = .ok (.iaload, 1) := by decide +kernel
theorem dX12_usedMany_24 : decode cX12_usedMany 24 = .ok (.iconst (-1), 1) := by decide +kernel
theorem dX12_usedMany_25 : decode cX12_usedMany 25 = .ok (.if_icmp .ne 7, 3) := by decide +kernel
theorem dX12_usedMany_28 : decode cX12_usedMany 28 = .ok (.iconst 0, 1) := by decide +kernel
theorem dX12_usedMany_29 : decode cX12_usedMany 29 = .ok (.goto 4, 3) := by decide +kernel
theorem dX12_usedMany_32 : decode cX12_usedMany 32 = .ok (.iconst 1, 1) := by decide +kernel
theorem dX12_usedMany_33 : decode cX12_usedMany 33 = .ok (.iadd, 1) := by decide +kernel
theorem dX12_usedMany_34 : decode cX12_usedMany 34 = .ok (.istore_n 1, 1) := by decide +kernel
theorem dX12_usedMany_35 : decode cX12_usedMany 35 = .ok (.iinc 2 1, 3) := by decide +kernel
theorem dX12_usedMany_38 : decode cX12_usedMany 38 = .ok (.goto (-34), 3) := by decide +kernel
theorem dX12_usedMany_41 : decode cX12_usedMany 41 = .ok (.iload_n 1, 1) := by decide +kernel
theorem dX12_usedMany_42 : decode cX12_usedMany 42 = .ok (.ireturn, 1) := by decide +kernel
theorem kw_1223 : Cond.fieldLink "FootholdWallModel" 1 "FootholdWallModel" "thrown" "I" ∈ gw := gw_of (tb_of 1223 (by decide +kernel)) (by decide +kernel)
theorem kw_1224 : Cond.fieldLink "FootholdWallModel" 13 "FootholdWallModel" "all" "[I" ∈ gw := gw_of (tb_of 1224 (by decide +kernel)) (by decide +kernel)
theorem kw_1228 : Cond.fieldLink "FootholdWallModel" 82 "FootholdWallModel" "taped" "I" ∈ gw := gw_of (tb_of 1228 (by decide +kernel)) (by decide +kernel)
theorem kw_1236 : Cond.fieldLink "FootholdWallModel" 209 "FootholdWallModel" "faultKind" "I" ∈ gw := gw_of (tb_of 1236 (by decide +kernel)) (by decide +kernel)
theorem kw_1237 : Cond.fieldLink "FootholdWallModel" 27 "FootholdWallModel" "faultPlace" "I" ∈ gw := gw_of (tb_of 1237 (by decide +kernel)) (by decide +kernel)
theorem kw_1454 : Cond.methodLink "FootholdWallModel" 218 yX12_isHold ∈ gw := gw_of (tb_of 1454 (by decide +kernel)) (by decide +kernel)
theorem kw_1456 : Cond.instanceMethod yX12_isHold ∈ gw := gw_of (tb_of 1456 (by decide +kernel)) (by decide +kernel)
theorem kw_1457 : Cond.code yX12_isHold cX12_isHold 3 (some (.boolean)) ∈ gw := gw_of (tb_of 1457 (by decide +kernel)) (by decide +kernel)
theorem kw_1458 : Cond.methodLink "FootholdWallModel" 212 yX12_isThere ∈ gw := gw_of (tb_of 1458 (by decide +kernel)) (by decide +kernel)
theorem kw_1460 : Cond.instanceMethod yX12_isThere ∈ gw := gw_of (tb_of 1460 (by decide +kernel)) (by decide +kernel)
theorem kw_1461 : Cond.code yX12_isThere cX12_isThere 2 (some (.boolean)) ∈ gw := gw_of (tb_of 1461 (by decide +kernel)) (by decide +kernel)
theorem kw_1462 : Cond.methodLink "FootholdWallModel" 215 yX12_isOpen ∈ gw := gw_of (tb_of 1462 (by decide +kernel)) (by decide +kernel)
theorem kw_1464 : Cond.instanceMethod yX12_isOpen ∈ gw := gw_of (tb_of 1464 (by decide +kernel)) (by decide +kernel)
theorem kw_1465 : Cond.code yX12_isOpen cX12_isOpen 2 (some (.boolean)) ∈ gw := gw_of (tb_of 1465 (by decide +kernel)) (by decide +kernel)
theorem kw_1470 : Cond.methodLink "FootholdWallModel" 222 yX12_isGuide ∈ gw := gw_of (tb_of 1470 (by decide +kernel)) (by decide +kernel)
theorem kw_1472 : Cond.instanceMethod yX12_isGuide ∈ gw := gw_of (tb_of 1472 (by decide +kernel)) (by decide +kernel)
theorem kw_1473 : Cond.code yX12_isGuide cX12_isGuide 3 (some (.boolean)) ∈ gw := gw_of (tb_of 1473 (by decide +kernel)) (by decide +kernel)
theorem kw_1474 : Cond.methodLink "FootholdWallModel" 225 yX12_usedBy ∈ gw := gw_of (tb_of 1474 (by decide +kernel)) (by decide +kernel)
theorem kw_1476 : Cond.instanceMethod yX12_usedBy ∈ gw := gw_of (tb_of 1476 (by decide +kernel)) (by decide +kernel)
theorem kw_1477 : Cond.code yX12_usedBy cX12_usedBy 4 (some (.int)) ∈ gw := gw_of (tb_of 1477 (by decide +kernel)) (by decide +kernel)
theorem kw_1510 : Cond.methodLink "FootholdWallModel" 260 yX12_openSet ∈ gw := gw_of (tb_of 1510 (by decide +kernel)) (by decide +kernel)
theorem kw_1512 : Cond.instanceMethod yX12_openSet ∈ gw := gw_of (tb_of 1512 (by decide +kernel)) (by decide +kernel)
theorem kw_1513 : Cond.code yX12_openSet cX12_openSet 3 (some (.int)) ∈ gw := gw_of (tb_of 1513 (by decide +kernel)) (by decide +kernel)
theorem kw_1594 : Cond.methodLink "FootholdWallModel" 315 yX12_usedMany ∈ gw := gw_of (tb_of 1594 (by decide +kernel)) (by decide +kernel)
theorem kw_1596 : Cond.instanceMethod yX12_usedMany ∈ gw := gw_of (tb_of 1596 (by decide +kernel)) (by decide +kernel)
theorem kw_1597 : Cond.code yX12_usedMany cX12_usedMany 3 (some (.int)) ∈ gw := gw_of (tb_of 1597 (by decide +kernel)) (by decide +kernel)
theorem kw_1631 : Cond.methodLink "FootholdWallModel" 334 yX12_bitsOf ∈ gw := gw_of (tb_of 1631 (by decide +kernel)) (by decide +kernel)
theorem kw_1632 : Cond.static yX12_bitsOf ∈ gw := gw_of (tb_of 1632 (by decide +kernel)) (by decide +kernel)
theorem kw_1633 : Cond.code yX12_bitsOf cX12_bitsOf 3 (some (.int)) ∈ gw := gw_of (tb_of 1633 (by decide +kernel)) (by decide +kernel)
theorem ks_64 : Cond.selects RX12 yX12_isHold yX12_isHold ∈ gw := gw_of (pv_of 64 (by decide +kernel)) (by decide +kernel)
theorem ks_65 : Cond.selects RX12 yX12_isThere yX12_isThere ∈ gw := gw_of (pv_of 65 (by decide +kernel)) (by decide +kernel)
theorem ks_66 : Cond.selects RX12 yX12_isOpen yX12_isOpen ∈ gw := gw_of (pv_of 66 (by decide +kernel)) (by decide +kernel)
theorem ks_67 : Cond.selects RX12 yX12_isGuide yX12_isGuide ∈ gw := gw_of (pv_of 67 (by decide +kernel)) (by decide +kernel)
theorem ks_68 : Cond.selects RX12 yX12_usedBy yX12_usedBy ∈ gw := gw_of (pv_of 68 (by decide +kernel)) (by decide +kernel)
theorem ks_73 : Cond.selects RX12 yX12_openSet yX12_openSet ∈ gw := gw_of (pv_of 73 (by decide +kernel)) (by decide +kernel)
theorem ks_86 : Cond.selects RX12 yX12_usedMany yX12_usedMany ∈ gw := gw_of (pv_of 86 (by decide +kernel)) (by decide +kernel)
