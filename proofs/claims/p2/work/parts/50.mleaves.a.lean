theorem dX12_between_0 : decode cX12_between 0 = .ok (.iload_n 0, 1) := by decide +kernel
theorem dX12_between_1 : decode cX12_between 1 = .ok (.sipush 3002, 3) := by decide +kernel
theorem dX12_between_4 : decode cX12_between 4 = .ok (.if_icmp .gt 70, 3) := by decide +kernel
theorem dX12_between_7 : decode cX12_between 7 = .ok (.iload_n 0, 1) := by decide +kernel
theorem dX12_between_8 : decode cX12_between 8 = .ok (.sipush 3000, 3) := by decide +kernel
theorem dX12_between_11 : decode cX12_between 11 = .ok (.if_icmp .ne 11, 3) := by decide +kernel
theorem dX12_between_14 : decode cX12_between 14 = .ok (.iload_n 1, 1) := by decide +kernel
theorem dX12_between_15 : decode cX12_between 15 = .ok (.i2l, 1) := by decide +kernel
theorem dX12_between_16 : decode cX12_between 16 = .ok (.iload_n 2, 1) := by decide +kernel
theorem dX12_between_17 : decode cX12_between 17 = .ok (.i2l, 1) := by decide +kernel
theorem dX12_between_18 : decode cX12_between 18 = .ok (.ladd, 1) := by decide +kernel
theorem dX12_between_19 : decode cX12_between 19 = .ok (.goto 23, 3) := by decide +kernel
theorem dX12_between_22 : decode cX12_between 22 = .ok (.iload_n 0, 1) := by decide +kernel
theorem dX12_between_23 : decode cX12_between 23 = .ok (.sipush 3001, 3) := by decide +kernel
theorem dX12_between_26 : decode cX12_between 26 = .ok (.if_icmp .ne 11, 3) := by decide +kernel
theorem dX12_between_29 : decode cX12_between 29 = .ok (.iload_n 1, 1) := by decide +kernel
theorem dX12_between_30 : decode cX12_between 30 = .ok (.i2l, 1) := by decide +kernel
theorem dX12_between_31 : decode cX12_between 31 = .ok (.iload_n 2, 1) := by decide +kernel
theorem dX12_between_32 : decode cX12_between 32 = .ok (.i2l, 1) := by decide +kernel
theorem dX12_between_33 : decode cX12_between 33 = .ok (.lsub, 1) := by decide +kernel
theorem dX12_between_34 : decode cX12_between 34 = .ok (.goto 8, 3) := by decide +kernel
theorem dX12_between_37 : decode cX12_between 37 = .ok (.iload_n 1, 1) := by decide +kernel
theorem dX12_between_38 : decode cX12_between 38 = .ok (.i2l, 1) := by decide +kernel
theorem dX12_between_39 : decode cX12_between 39 = .ok (.iload_n 2, 1) := by decide +kernel
theorem dX12_between_40 : decode cX12_between 40 = .ok (.i2l, 1) := by decide +kernel
theorem dX12_between_41 : decode cX12_between 41 = .ok (.lmul, 1) := by decide +kernel
theorem dX12_between_42 : decode cX12_between 42 = .ok (.lstore_n 3, 1) := by decide +kernel
theorem dX12_between_43 : decode cX12_between 43 = .ok (.lload_n 3, 1) := by decide +kernel
theorem dX12_between_44 : decode cX12_between 44 = .ok (.ldc2_w 234, 3) := by decide +kernel
theorem dX12_between_47 : decode cX12_between 47 = .ok (.lcmp, 1) := by decide +kernel
theorem dX12_between_48 : decode cX12_between 48 = .ok (.ifCond .le 9, 3) := by decide +kernel
theorem dX12_between_51 : decode cX12_between 51 = .ok (.ldc2_w 234, 3) := by decide +kernel
theorem dX12_between_54 : decode cX12_between 54 = .ok (.goto 18, 3) := by decide +kernel
theorem dX12_between_57 : decode cX12_between 57 = .ok (.lload_n 3, 1) := by decide +kernel
theorem dX12_between_58 : decode cX12_between 58 = .ok (.ldc2_w 236, 3) := by decide +kernel
theorem dX12_between_61 : decode cX12_between 61 = .ok (.lcmp, 1) := by decide +kernel
theorem dX12_between_62 : decode cX12_between 62 = .ok (.ifCond .ge 9, 3) := by decide +kernel
theorem dX12_between_65 : decode cX12_between 65 = .ok (.ldc2_w 236, 3) := by decide +kernel
theorem dX12_between_68 : decode cX12_between 68 = .ok (.goto 4, 3) := by decide +kernel
theorem dX12_between_71 : decode cX12_between 71 = .ok (.lload_n 3, 1) := by decide +kernel
theorem dX12_between_72 : decode cX12_between 72 = .ok (.l2i, 1) := by decide +kernel
theorem dX12_between_73 : decode cX12_between 73 = .ok (.ireturn, 1) := by decide +kernel
theorem dX12_between_74 : decode cX12_between 74 = .ok (.iload_n 0, 1) := by decide +kernel
theorem dX12_between_75 : decode cX12_between 75 = .ok (.sipush 3003, 3) := by decide +kernel
theorem dX12_between_78 : decode cX12_between 78 = .ok (.if_icmp .ne 16, 3) := by decide +kernel
theorem dX12_between_81 : decode cX12_between 81 = .ok (.iload_n 1, 1) := by decide +kernel
theorem dX12_between_82 : decode cX12_between 82 = .ok (.iload_n 2, 1) := by decide +kernel
theorem dX12_between_83 : decode cX12_between 83 = .ok (.if_icmp .ne 7, 3) := by decide +kernel
theorem dX12_between_86 : decode cX12_between 86 = .ok (.iconst 1, 1) := by decide +kernel
theorem dX12_between_87 : decode cX12_between 87 = .ok (.goto 80, 3) := by decide +kernel
theorem dX12_between_90 : decode cX12_between 90 = .ok (.iconst 0, 1) := by decide +kernel
theorem dX12_between_91 : decode cX12_between 91 = .ok (.goto 76, 3) := by decide +kernel
theorem dX12_between_94 : decode cX12_between 94 = .ok (.iload_n 0, 1) := by decide +kernel
theorem dX12_between_95 : decode cX12_between 95 = .ok (.sipush 3004, 3) := by decide +kernel
theorem dX12_between_98 : decode cX12_between 98 = .ok (.if_icmp .ne 16, 3) := by decide +kernel
theorem dX12_between_101 : decode cX12_between 101 = .ok (.iload_n 1, 1) := by decide +kernel
theorem dX12_between_102 : decode cX12_between 102 = .ok (.iload_n 2, 1) := by decide +kernel
theorem dX12_between_103 : decode cX12_between 103 = .ok (.if_icmp .ge 7, 3) := by decide +kernel
theorem dX12_between_106 : decode cX12_between 106 = .ok (.iconst 1, 1) := by decide +kernel
theorem dX12_between_107 : decode cX12_between 107 = .ok (.goto 60, 3) := by decide +kernel
theorem dX12_between_110 : decode cX12_between 110 = .ok (.iconst 0, 1) := by decide +kernel
theorem dX12_between_111 : decode cX12_between 111 = .ok (.goto 56, 3) := by decide +kernel
theorem dX12_between_114 : decode cX12_between 114 = .ok (.iload_n 0, 1) := by decide +kernel
theorem dX12_between_115 : decode cX12_between 115 = .ok (.sipush 3005, 3) := by decide +kernel
theorem dX12_between_118 : decode cX12_between 118 = .ok (.if_icmp .ne 16, 3) := by decide +kernel
theorem dX12_between_121 : decode cX12_between 121 = .ok (.iload_n 1, 1) := by decide +kernel
theorem dX12_between_122 : decode cX12_between 122 = .ok (.iload_n 2, 1) := by decide +kernel
theorem dX12_between_123 : decode cX12_between 123 = .ok (.if_icmp .le 7, 3) := by decide +kernel
theorem dX12_between_126 : decode cX12_between 126 = .ok (.iconst 1, 1) := by decide +kernel
theorem dX12_between_127 : decode cX12_between 127 = .ok (.goto 40, 3) := by decide +kernel
theorem dX12_between_130 : decode cX12_between 130 = .ok (.iconst 0, 1) := by decide +kernel
theorem dX12_between_131 : decode cX12_between 131 = .ok (.goto 36, 3) := by decide +kernel
theorem dX12_between_134 : decode cX12_between 134 = .ok (.iload_n 0, 1) := by decide +kernel
theorem dX12_between_135 : decode cX12_between 135 = .ok (.sipush 3006, 3) := by decide +kernel
theorem dX12_between_138 : decode cX12_between 138 = .ok (.if_icmp .ne 18, 3) := by decide +kernel
theorem dX12_between_141 : decode cX12_between 141 = .ok (.iload_n 1, 1) := by decide +kernel
theorem dX12_between_142 : decode cX12_between 142 = .ok (.iload_n 2, 1) := by decide +kernel
theorem dX12_between_143 : decode cX12_between 143 = .ok (.iadd, 1) := by decide +kernel
theorem dX12_between_144 : decode cX12_between 144 = .ok (.iconst 2, 1) := by decide +kernel
theorem dX12_between_145 : decode cX12_between 145 = .ok (.if_icmp .ne 7, 3) := by decide +kernel
theorem dX12_between_148 : decode cX12_between 148 = .ok (.iconst 1, 1) := by decide +kernel
theorem dX12_between_149 : decode cX12_between 149 = .ok (.goto 18, 3) := by decide +kernel
theorem dX12_between_152 : decode cX12_between 152 = .ok (.iconst 0, 1) := by decide +kernel
theorem dX12_between_153 : decode cX12_between 153 = .ok (.goto 14, 3) := by decide +kernel
theorem dX12_between_156 : decode cX12_between 156 = .ok (.iload_n 1, 1) := by decide +kernel
theorem dX12_between_157 : decode cX12_between 157 = .ok (.iload_n 2, 1) := by decide +kernel
theorem dX12_between_158 : decode cX12_between 158 = .ok (.iadd, 1) := by decide +kernel
theorem dX12_between_159 : decode cX12_between 159 = .ok (.ifCond .le 7, 3) := by decide +kernel
theorem dX12_between_162 : decode cX12_between 162 = .ok (.iconst 1, 1) := by decide +kernel
theorem dX12_between_163 : decode cX12_between 163 = .ok (.goto 4, 3) := by decide +kernel
theorem dX12_between_166 : decode cX12_between 166 = .ok (.iconst 0, 1) := by decide +kernel
theorem dX12_between_167 : decode cX12_between 167 = .ok (.istore_n 3, 1) := by decide +kernel
theorem dX12_between_168 : decode cX12_between 168 = .ok (.iload_n 3, 1) := by decide +kernel
theorem dX12_between_169 : decode cX12_between 169 = .ok (.ifCond .eq 7, 3) := by decide +kernel
theorem dX12_between_172 : decode cX12_between 172 = .ok (.iconst 1, 1) := by decide +kernel
theorem dX12_between_173 : decode cX12_between 173 = .ok (.goto 4, 3) := by decide +kernel
theorem dX12_between_176 : decode cX12_between 176 = .ok (.iconst 0, 1) := by decide +kernel
theorem dX12_between_177 : decode cX12_between 177 = .ok (.ireturn, 1) := by decide +kernel
theorem dX12_bitsOf_0 : decode cX12_bitsOf 0 = .ok (.iconst 0, 1) := by decide +kernel
theorem dX12_bitsOf_1 : decode cX12_bitsOf 1 = .ok (.istore_n 1, 1) := by decide +kernel
theorem dX12_bitsOf_2 : decode cX12_bitsOf 2 = .ok (.iconst 0, 1) := by decide +kernel
theorem dX12_bitsOf_3 : decode cX12_bitsOf 3 = .ok (.istore_n 2, 1) := by decide +kernel
theorem dX12_bitsOf_4 : decode cX12_bitsOf 4 = .ok (.iload_n 2, 1) := by decide +kernel
theorem dX12_bitsOf_5 : decode cX12_bitsOf 5 = .ok (.bipush 14, 2) := by decide +kernel
theorem dX12_bitsOf_7 : decode cX12_bitsOf 7 = .ok (.if_icmp .ge 17, 3) := by decide +kernel
theorem dX12_bitsOf_10 : decode cX12_bitsOf 10 = .ok (.iload_n 1, 1) := by decide +kernel
theorem dX12_bitsOf_11 : decode cX12_bitsOf 11 = .ok (.iload_n 0, 1) := by decide +kernel
theorem dX12_bitsOf_12 : decode cX12_bitsOf 12 = .ok (.iload_n 2, 1) := by decide +kernel
theorem dX12_bitsOf_13 : decode cX12_bitsOf 13 = .ok (.ishr, 1) := by decide +kernel
theorem dX12_bitsOf_14 : decode cX12_bitsOf 14 = .ok (.iconst 1, 1) := by decide +kernel
theorem dX12_bitsOf_15 : decode cX12_bitsOf 15 = .ok (.iand, 1) := by decide +kernel
theorem dX12_bitsOf_16 : decode cX12_bitsOf 16 = .ok (.iadd, 1) := by decide +kernel
theorem dX12_bitsOf_17 : decode cX12_bitsOf 17 = .ok (.istore_n 1, 1) := by decide +kernel
theorem dX12_bitsOf_18 : decode cX12_bitsOf 18 = .ok (.iinc 2 1, 3) := by decide +kernel
theorem dX12_bitsOf_21 : decode cX12_bitsOf 21 = .ok (.goto (-17), 3) := by decide +kernel
theorem dX12_bitsOf_24 : decode cX12_bitsOf 24 = .ok (.iload_n 1, 1) := by decide +kernel
theorem dX12_bitsOf_25 : decode cX12_bitsOf 25 = .ok (.ireturn, 1) := by decide +kernel
theorem dX12_cut_0 : decode cX12_cut 0 = .ok (.iload_n 2, 1) := by decide +kernel
theorem dX12_cut_1 : decode cX12_cut 1 = .ok (.ifCond .ne 10, 3) := by decide +kernel
theorem dX12_cut_4 : decode cX12_cut 4 = .ok (.lload_n 0, 1) := by decide +kernel
theorem dX12_cut_5 : decode cX12_cut 5 = .ok (.l2i, 1) := by decide +kernel
theorem dX12_cut_6 : decode cX12_cut 6 = .ok (.i2b, 1) := by decide +kernel
theorem dX12_cut_7 : decode cX12_cut 7 = .ok (.i2l, 1) := by decide +kernel
theorem dX12_cut_8 : decode cX12_cut 8 = .ok (.goto 27, 3) := by decide +kernel
theorem dX12_cut_11 : decode cX12_cut 11 = .ok (.iload_n 2, 1) := by decide +kernel
theorem dX12_cut_12 : decode cX12_cut 12 = .ok (.iconst 1, 1) := by decide +kernel
theorem dX12_cut_13 : decode cX12_cut 13 = .ok (.if_icmp .ne 10, 3) := by decide +kernel
theorem dX12_cut_16 : decode cX12_cut 16 = .ok (.lload_n 0, 1) := by decide +kernel
theorem dX12_cut_17 : decode cX12_cut 17 = .ok (.l2i, 1) := by decide +kernel
theorem dX12_cut_18 : decode cX12_cut 18 = .ok (.i2s, 1) := by decide +kernel
theorem dX12_cut_19 : decode cX12_cut 19 = .ok (.i2l, 1) := by decide +kernel
theorem dX12_cut_20 : decode cX12_cut 20 = .ok (.goto 15, 3) := by decide +kernel
theorem dX12_cut_23 : decode cX12_cut 23 = .ok (.iload_n 2, 1) := by decide +kernel
theorem dX12_cut_24 : decode cX12_cut 24 = .ok (.iconst 2, 1) := by decide +kernel
theorem dX12_cut_25 : decode cX12_cut 25 = .ok (.if_icmp .ne 9, 3) := by decide +kernel
theorem dX12_cut_28 : decode cX12_cut 28 = .ok (.lload_n 0, 1) := by decide +kernel
theorem dX12_cut_29 : decode cX12_cut 29 = .ok (.l2i, 1) := by decide +kernel
theorem dX12_cut_30 : decode cX12_cut 30 = .ok (.i2l, 1) := by decide +kernel
theorem dX12_cut_31 : decode cX12_cut 31 = .ok (.goto 4, 3) := by decide +kernel
theorem dX12_cut_34 : decode cX12_cut 34 = .ok (.lload_n 0, 1) := by decide +kernel
theorem dX12_cut_35 : decode cX12_cut 35 = .ok (.lreturn, 1) := by decide +kernel
theorem dX12_far_0 : decode cX12_far 0 = .ok (.iload_n 0, 1) := by decide +kernel
theorem dX12_far_1 : decode cX12_far 1 = .ok (.ifCond .ge 8, 3) := by decide +kernel
theorem dX12_far_4 : decode cX12_far 4 = .ok (.iload_n 0, 1) := by decide +kernel
theorem dX12_far_5 : decode cX12_far 5 = .ok (.ineg, 1) := by decide +kernel
theorem dX12_far_6 : decode cX12_far 6 = .ok (.goto 4, 3) := by decide +kernel
theorem dX12_far_9 : decode cX12_far 9 = .ok (.iload_n 0, 1) := by decide +kernel
theorem dX12_far_10 : decode cX12_far 10 = .ok (.ireturn, 1) := by decide +kernel
theorem dX12_isDigit_0 : decode cX12_isDigit 0 = .ok (.iload_n 0, 1) := by decide +kernel
theorem dX12_isDigit_1 : decode cX12_isDigit 1 = .ok (.bipush 48, 2) := by decide +kernel
theorem dX12_isDigit_3 : decode cX12_isDigit 3 = .ok (.if_icmp .lt 13, 3) := by decide +kernel
theorem dX12_isDigit_6 : decode cX12_isDigit 6 = .ok (.iload_n 0, 1) := by decide +kernel
theorem dX12_isDigit_7 : decode cX12_isDigit 7 = .ok (.bipush 57, 2) := by decide +kernel
theorem dX12_isDigit_9 : decode cX12_isDigit 9 = .ok (.if_icmp .gt 7, 3) := by decide +kernel
theorem dX12_isDigit_12 : decode cX12_isDigit 12 = .ok (.iconst 1, 1) := by decide +kernel
theorem dX12_isDigit_13 : decode cX12_isDigit 13 = .ok (.goto 4, 3) := by decide +kernel
theorem dX12_isDigit_16 : decode cX12_isDigit 16 = .ok (.iconst 0, 1) := by decide +kernel
theorem dX12_isDigit_17 : decode cX12_isDigit 17 = .ok (.ireturn, 1) := by decide +kernel
theorem dX12_isIn_0 : decode cX12_isIn 0 = .ok (.lload_n 0, 1) := by decide +kernel
theorem dX12_isIn_1 : decode cX12_isIn 1 = .ok (.iload_n 2, 1) := by decide +kernel
theorem dX12_isIn_2 : decode cX12_isIn 2 = .ok (.lshr, 1) := by decide +kernel
theorem dX12_isIn_3 : decode cX12_isIn 3 = .ok (.lconst 1, 1) := by decide +kernel
theorem dX12_isIn_4 : decode cX12_isIn 4 = .ok (.land, 1) := by decide +kernel
theorem dX12_isIn_5 : decode cX12_isIn 5 = .ok (.lconst 1, 1) := by decide +kernel
theorem dX12_isIn_6 : decode cX12_isIn 6 = .ok (.lcmp, 1) := by decide +kernel
theorem dX12_isIn_7 : decode cX12_isIn 7 = .ok (.ifCond .ne 7, 3) := by decide +kernel
theorem dX12_isIn_10 : decode cX12_isIn 10 = .ok (.iconst 1, 1) := by decide +kernel
theorem dX12_isIn_11 : decode cX12_isIn 11 = .ok (.goto 4, 3) := by decide +kernel
theorem dX12_isIn_14 : decode cX12_isIn 14 = .ok (.iconst 0, 1) := by decide +kernel
theorem dX12_isIn_15 : decode cX12_isIn 15 = .ok (.ireturn, 1) := by decide +kernel
theorem dX12_isSmall_0 : decode cX12_isSmall 0 = .ok (.iload_n 0, 1) := by decide +kernel
theorem dX12_isSmall_1 : decode cX12_isSmall 1 = .ok (.bipush 97, 2) := by decide +kernel
theorem dX12_isSmall_3 : decode cX12_isSmall 3 = .ok (.if_icmp .lt 13, 3) := by decide +kernel
theorem dX12_isSmall_6 : decode cX12_isSmall 6 = .ok (.iload_n 0, 1) := by decide +kernel
theorem dX12_isSmall_7 : decode cX12_isSmall 7 = .ok (.bipush 122, 2) := by decide +kernel
theorem dX12_isSmall_9 : decode cX12_isSmall 9 = .ok (.if_icmp .gt 7, 3) := by decide +kernel
theorem dX12_isSmall_12 : decode cX12_isSmall 12 = .ok (.iconst 1, 1) := by decide +kernel
theorem dX12_isSmall_13 : decode cX12_isSmall 13 = .ok (.goto 4, 3) := by decide +kernel
theorem dX12_isSmall_16 : decode cX12_isSmall 16 = .ok (.iconst 0, 1) := by decide +kernel
theorem dX12_isSmall_17 : decode cX12_isSmall 17 = .ok (.ireturn, 1) := by decide +kernel
theorem dX12_within_0 : decode cX12_within 0 = .ok (.lload_n 0, 1) := by decide +kernel
theorem dX12_within_1 : decode cX12_within 1 = .ok (.lload_n 2, 1) := by decide +kernel
theorem dX12_within_2 : decode cX12_within 2 = .ok (.lcmp, 1) := by decide +kernel
theorem dX12_within_3 : decode cX12_within 3 = .ok (.ifCond .lt 14, 3) := by decide +kernel
theorem dX12_within_6 : decode cX12_within 6 = .ok (.lload_n 0, 1) := by decide +kernel
theorem dX12_within_7 : decode cX12_within 7 = .ok (.lload 4, 2) := by decide +kernel
theorem dX12_within_9 : decode cX12_within 9 = .ok (.lcmp, 1) := by decide +kernel
theorem dX12_within_10 : decode cX12_within 10 = .ok (.ifCond .gt 7, 3) := by decide +kernel
theorem dX12_within_13 : decode cX12_within 13 = .ok (.iconst 1, 1) := by decide +kernel
theorem dX12_within_14 : decode cX12_within 14 = .ok (.goto 4, 3) := by decide +kernel
theorem dX12_within_17 : decode cX12_within 17 = .ok (.iconst 0, 1) := by decide +kernel
theorem dX12_within_18 : decode cX12_within 18 = .ok (.ireturn, 1) := by decide +kernel
theorem kw_1496 : Cond.constantLong "FootholdWallModel" 234 1000000 ∈ gw := gw_of (tb_of 1496 (by decide +kernel)) (by decide +kernel)
theorem kw_1497 : Cond.constantLong "FootholdWallModel" 236 (-1000000) ∈ gw := gw_of (tb_of 1497 (by decide +kernel)) (by decide +kernel)
