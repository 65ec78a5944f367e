theorem dX11_guide_0 : decode cX11_guide 0 = .ok (.aload_n 0, 1) := by decide +kernel
theorem dX11_guide_1 : decode cX11_guide 1 = .ok (.iload_n 1, 1) := by decide +kernel
theorem dX11_guide_2 : decode cX11_guide 2 = .ok (.invokevirtual 186, 3) := by decide +kernel
theorem dX11_guide_5 : decode cX11_guide 5 = .ok (.ifCond .ne 6, 3) := by decide +kernel
theorem dX11_guide_8 : decode cX11_guide 8 = .ok (.bipush (-2), 2) := by decide +kernel
theorem dX11_guide_10 : decode cX11_guide 10 = .ok (.ireturn, 1) := by decide +kernel
theorem dX11_guide_11 : decode cX11_guide 11 = .ok (.iload_n 2, 1) := by decide +kernel
theorem dX11_guide_12 : decode cX11_guide 12 = .ok (.tableswitch 57 0 2 #[28, 38, 48], 28) := by decide +kernel
theorem dX11_guide_40 : decode cX11_guide 40 = .ok (.aload_n 0, 1) := by decide +kernel
theorem dX11_guide_41 : decode cX11_guide 41 = .ok (.getfield 29, 3) := by decide +kernel
theorem dX11_guide_44 : decode cX11_guide 44 = .ok (.getfield 189, 3) := by decide +kernel
theorem dX11_guide_47 : decode cX11_guide 47 = .ok (.iload_n 1, 1) := by decide +kernel
theorem dX11_guide_48 : decode cX11_guide 48 = .ok (.iaload, 1) := by decide +kernel
theorem dX11_guide_49 : decode cX11_guide 49 = .ok (.ireturn, 1) := by decide +kernel
theorem dX11_guide_50 : decode cX11_guide 50 = .ok (.aload_n 0, 1) := by decide +kernel
theorem dX11_guide_51 : decode cX11_guide 51 = .ok (.getfield 29, 3) := by decide +kernel
theorem dX11_guide_54 : decode cX11_guide 54 = .ok (.getfield 192, 3) := by decide +kernel
theorem dX11_guide_57 : decode cX11_guide 57 = .ok (.iload_n 1, 1) := by decide +kernel
theorem dX11_guide_58 : decode cX11_guide 58 = .ok (.iaload, 1) := by decide +kernel
theorem dX11_guide_59 : decode cX11_guide 59 = .ok (.ireturn, 1) := by decide +kernel
theorem dX11_guide_60 : decode cX11_guide 60 = .ok (.aload_n 0, 1) := by decide +kernel
theorem dX11_guide_61 : decode cX11_guide 61 = .ok (.getfield 36, 3) := by decide +kernel
theorem dX11_guide_64 : decode cX11_guide 64 = .ok (.iload_n 1, 1) := by decide +kernel
theorem dX11_guide_65 : decode cX11_guide 65 = .ok (.invokevirtual 195, 3) := by decide +kernel
theorem dX11_guide_68 : decode cX11_guide 68 = .ok (.ireturn, 1) := by decide +kernel
theorem dX11_guide_69 : decode cX11_guide 69 = .ok (.bipush (-2), 2) := by decide +kernel
theorem dX11_guide_71 : decode cX11_guide 71 = .ok (.ireturn, 1) := by decide +kernel
theorem dX11_hold_0 : decode cX11_hold 0 = .ok (.aload_n 0, 1) := by decide +kernel
theorem dX11_hold_1 : decode cX11_hold 1 = .ok (.iload_n 1, 1) := by decide +kernel
theorem dX11_hold_2 : decode cX11_hold 2 = .ok (.invokevirtual 145, 3) := by decide +kernel
theorem dX11_hold_5 : decode cX11_hold 5 = .ok (.ifCond .ne 6, 3) := by decide +kernel
theorem dX11_hold_8 : decode cX11_hold 8 = .ok (.bipush (-8), 2) := by decide +kernel
theorem dX11_hold_10 : decode cX11_hold 10 = .ok (.ireturn, 1) := by decide +kernel
theorem dX11_hold_11 : decode cX11_hold 11 = .ok (.iload_n 2, 1) := by decide +kernel
theorem dX11_hold_12 : decode cX11_hold 12 = .ok (.tableswitch 204 0 9 #[56, 66, 76, 88, 100, 116, 132, 157, 182, 194], 56) := by decide +kernel
theorem dX11_hold_68 : decode cX11_hold 68 = .ok (.aload_n 0, 1) := by decide +kernel
theorem dX11_hold_69 : decode cX11_hold 69 = .ok (.getfield 29, 3) := by decide +kernel
theorem dX11_hold_72 : decode cX11_hold 72 = .ok (.getfield 149, 3) := by decide +kernel
theorem dX11_hold_75 : decode cX11_hold 75 = .ok (.iload_n 1, 1) := by decide +kernel
theorem dX11_hold_76 : decode cX11_hold 76 = .ok (.iaload, 1) := by decide +kernel
theorem dX11_hold_77 : decode cX11_hold 77 = .ok (.ireturn, 1) := by decide +kernel
theorem dX11_hold_78 : decode cX11_hold 78 = .ok (.aload_n 0, 1) := by decide +kernel
theorem dX11_hold_79 : decode cX11_hold 79 = .ok (.getfield 29, 3) := by decide +kernel
theorem dX11_hold_82 : decode cX11_hold 82 = .ok (.getfield 152, 3) := by decide +kernel
theorem dX11_hold_85 : decode cX11_hold 85 = .ok (.iload_n 1, 1) := by decide +kernel
theorem dX11_hold_86 : decode cX11_hold 86 = .ok (.iaload, 1) := by decide +kernel
theorem dX11_hold_87 : decode cX11_hold 87 = .ok (.ireturn, 1) := by decide +kernel
theorem dX11_hold_88 : decode cX11_hold 88 = .ok (.aload_n 0, 1) := by decide +kernel
theorem dX11_hold_89 : decode cX11_hold 89 = .ok (.getfield 29, 3) := by decide +kernel
theorem dX11_hold_92 : decode cX11_hold 92 = .ok (.getfield 155, 3) := by decide +kernel
theorem dX11_hold_95 : decode cX11_hold 95 = .ok (.iload_n 1, 1) := by decide +kernel
theorem dX11_hold_96 : decode cX11_hold 96 = .ok (.ishr, 1) := by decide +kernel
theorem dX11_hold_97 : decode cX11_hold 97 = .ok (.iconst 1, 1) := by decide +kernel
theorem dX11_hold_98 : decode cX11_hold 98 = .ok (.iand, 1) := by decide +kernel
theorem dX11_hold_99 : decode cX11_hold 99 = .ok (.ireturn, 1) := by decide +kernel
theorem dX11_hold_100 : decode cX11_hold 100 = .ok (.aload_n 0, 1) := by decide +kernel
theorem dX11_hold_101 : decode cX11_hold 101 = .ok (.getfield 29, 3) := by decide +kernel
theorem dX11_hold_104 : decode cX11_hold 104 = .ok (.getfield 158, 3) := by decide +kernel
theorem dX11_hold_107 : decode cX11_hold 107 = .ok (.iload_n 1, 1) := by decide +kernel
theorem dX11_hold_108 : decode cX11_hold 108 = .ok (.ishr, 1) := by decide +kernel
theorem dX11_hold_109 : decode cX11_hold 109 = .ok (.iconst 1, 1) := by decide +kernel
theorem dX11_hold_110 : decode cX11_hold 110 = .ok (.iand, 1) := by decide +kernel
theorem dX11_hold_111 : decode cX11_hold 111 = .ok (.ireturn, 1) := by decide +kernel
theorem dX11_hold_112 : decode cX11_hold 112 = .ok (.aload_n 0, 1) := by decide +kernel
theorem dX11_hold_113 : decode cX11_hold 113 = .ok (.aload_n 0, 1) := by decide +kernel
theorem dX11_hold_114 : decode cX11_hold 114 = .ok (.getfield 36, 3) := by decide +kernel
theorem dX11_hold_117 : decode cX11_hold 117 = .ok (.getfield 161, 3) := by decide +kernel
theorem dX11_hold_120 : decode cX11_hold 120 = .ok (.invokevirtual 164, 3) := by decide +kernel
theorem dX11_hold_123 : decode cX11_hold 123 = .ok (.iload_n 1, 1) := by decide +kernel
theorem dX11_hold_124 : decode cX11_hold 124 = .ok (.ishr, 1) := by decide +kernel
theorem dX11_hold_125 : decode cX11_hold 125 = .ok (.iconst 1, 1) := by decide +kernel
theorem dX11_hold_126 : decode cX11_hold 126 = .ok (.iand, 1) := by decide +kernel
theorem dX11_hold_127 : decode cX11_hold 127 = .ok (.ireturn, 1) := by decide +kernel
theorem dX11_hold_128 : decode cX11_hold 128 = .ok (.aload_n 0, 1) := by decide +kernel
theorem dX11_hold_129 : decode cX11_hold 129 = .ok (.aload_n 0, 1) := by decide +kernel
theorem dX11_hold_130 : decode cX11_hold 130 = .ok (.getfield 36, 3) := by decide +kernel
theorem dX11_hold_133 : decode cX11_hold 133 = .ok (.getfield 161, 3) := by decide +kernel
theorem dX11_hold_136 : decode cX11_hold 136 = .ok (.invokevirtual 168, 3) := by decide +kernel
theorem dX11_hold_139 : decode cX11_hold 139 = .ok (.iload_n 1, 1) := by decide +kernel
theorem dX11_hold_140 : decode cX11_hold 140 = .ok (.ishr, 1) := by decide +kernel
theorem dX11_hold_141 : decode cX11_hold 141 = .ok (.iconst 1, 1) := by decide +kernel
theorem dX11_hold_142 : decode cX11_hold 142 = .ok (.iand, 1) := by decide +kernel
theorem dX11_hold_143 : decode cX11_hold 143 = .ok (.ireturn, 1) := by decide +kernel
theorem dX11_hold_144 : decode cX11_hold 144 = .ok (.aload_n 0, 1) := by decide +kernel
theorem dX11_hold_145 : decode cX11_hold 145 = .ok (.getfield 36, 3) := by decide +kernel
theorem dX11_hold_148 : decode cX11_hold 148 = .ok (.iload_n 1, 1) := by decide +kernel
theorem dX11_hold_149 : decode cX11_hold 149 = .ok (.invokevirtual 171, 3) := by decide +kernel
theorem dX11_hold_152 : decode cX11_hold 152 = .ok (.ifCond .eq 15, 3) := by decide +kernel
theorem dX11_hold_155 : decode cX11_hold 155 = .ok (.aload_n 0, 1) := by decide +kernel
theorem dX11_hold_156 : decode cX11_hold 156 = .ok (.getfield 36, 3) := by decide +kernel
theorem dX11_hold_159 : decode cX11_hold 159 = .ok (.getfield 174, 3) := by decide +kernel
theorem dX11_hold_162 : decode cX11_hold 162 = .ok (.iload_n 1, 1) := by decide +kernel
theorem dX11_hold_163 : decode cX11_hold 163 = .ok (.iaload, 1) := by decide +kernel
theorem dX11_hold_164 : decode cX11_hold 164 = .ok (.goto 4, 3) := by decide +kernel
theorem dX11_hold_167 : decode cX11_hold 167 = .ok (.iconst (-1), 1) := by decide +kernel
theorem dX11_hold_168 : decode cX11_hold 168 = .ok (.ireturn, 1) := by decide +kernel
theorem dX11_hold_169 : decode cX11_hold 169 = .ok (.aload_n 0, 1) := by decide +kernel
theorem dX11_hold_170 : decode cX11_hold 170 = .ok (.getfield 36, 3) := by decide +kernel
theorem dX11_hold_173 : decode cX11_hold 173 = .ok (.iload_n 1, 1) := by decide +kernel
theorem dX11_hold_174 : decode cX11_hold 174 = .ok (.invokevirtual 171, 3) := by decide +kernel
theorem dX11_hold_177 : decode cX11_hold 177 = .ok (.ifCond .eq 15, 3) := by decide +kernel
theorem dX11_hold_180 : decode cX11_hold 180 = .ok (.aload_n 0, 1) := by decide +kernel
theorem dX11_hold_181 : decode cX11_hold 181 = .ok (.getfield 36, 3) := by decide +kernel
theorem dX11_hold_184 : decode cX11_hold 184 = .ok (.getfield 177, 3) := by decide +kernel
theorem dX11_hold_187 : decode cX11_hold 187 = .ok (.iload_n 1, 1) := by decide +kernel
theorem dX11_hold_188 : decode cX11_hold 188 = .ok (.iaload, 1) := by decide +kernel
theorem dX11_hold_189 : decode cX11_hold 189 = .ok (.goto 4, 3) := by decide +kernel
theorem dX11_hold_192 : decode cX11_hold 192 = .ok (.iconst (-1), 1) := by decide +kernel
theorem dX11_hold_193 : decode cX11_hold 193 = .ok (.ireturn, 1) := by decide +kernel
theorem dX11_hold_194 : decode cX11_hold 194 = .ok (.aload_n 0, 1) := by decide +kernel
theorem dX11_hold_195 : decode cX11_hold 195 = .ok (.getfield 36, 3) := by decide +kernel
theorem dX11_hold_198 : decode cX11_hold 198 = .ok (.getfield 180, 3) := by decide +kernel
theorem dX11_hold_201 : decode cX11_hold 201 = .ok (.iload_n 1, 1) := by decide +kernel
theorem dX11_hold_202 : decode cX11_hold 202 = .ok (.ishr, 1) := by decide +kernel
theorem dX11_hold_203 : decode cX11_hold 203 = .ok (.iconst 1, 1) := by decide +kernel
theorem dX11_hold_204 : decode cX11_hold 204 = .ok (.iand, 1) := by decide +kernel
theorem dX11_hold_205 : decode cX11_hold 205 = .ok (.ireturn, 1) := by decide +kernel
theorem dX11_hold_206 : decode cX11_hold 206 = .ok (.aload_n 0, 1) := by decide +kernel
theorem dX11_hold_207 : decode cX11_hold 207 = .ok (.getfield 29, 3) := by decide +kernel
theorem dX11_hold_210 : decode cX11_hold 210 = .ok (.getfield 183, 3) := by decide +kernel
theorem dX11_hold_213 : decode cX11_hold 213 = .ok (.iload_n 1, 1) := by decide +kernel
theorem dX11_hold_214 : decode cX11_hold 214 = .ok (.iaload, 1) := by decide +kernel
theorem dX11_hold_215 : decode cX11_hold 215 = .ok (.ireturn, 1) := by decide +kernel
theorem dX11_hold_216 : decode cX11_hold 216 = .ok (.bipush (-8), 2) := by decide +kernel
theorem dX11_hold_218 : decode cX11_hold 218 = .ok (.ireturn, 1) := by decide +kernel
theorem dX11_reach_0 : decode cX11_reach 0 = .ok (.aload_n 0, 1) := by decide +kernel
theorem dX11_reach_1 : decode cX11_reach 1 = .ok (.iload_n 1, 1) := by decide +kernel
theorem dX11_reach_2 : decode cX11_reach 2 = .ok (.invokevirtual 186, 3) := by decide +kernel
theorem dX11_reach_5 : decode cX11_reach 5 = .ok (.ifCond .eq 18, 3) := by decide +kernel
theorem dX11_reach_8 : decode cX11_reach 8 = .ok (.aload_n 0, 1) := by decide +kernel
theorem dX11_reach_9 : decode cX11_reach 9 = .ok (.iload_n 1, 1) := by decide +kernel
theorem dX11_reach_10 : decode cX11_reach 10 = .ok (.invokevirtual 202, 3) := by decide +kernel
theorem dX11_reach_13 : decode cX11_reach 13 = .ok (.aload_n 0, 1) := by decide +kernel
theorem dX11_reach_14 : decode cX11_reach 14 = .ok (.invokevirtual 206, 3) := by decide +kernel
theorem dX11_reach_17 : decode cX11_reach 17 = .ok (.invokevirtual 210, 3) := by decide +kernel
theorem dX11_reach_20 : decode cX11_reach 20 = .ok (.goto 5, 3) := by decide +kernel
theorem dX11_reach_23 : decode cX11_reach 23 = .ok (.bipush (-2), 2) := by decide +kernel
theorem dX11_reach_25 : decode cX11_reach 25 = .ok (.ireturn, 1) := by decide +kernel
theorem dX11_steps_0 : decode cX11_steps 0 = .ok (.aload_n 0, 1) := by decide +kernel
theorem dX11_steps_1 : decode cX11_steps 1 = .ok (.iload_n 1, 1) := by decide +kernel
theorem dX11_steps_2 : decode cX11_steps 2 = .ok (.invokevirtual 186, 3) := by decide +kernel
theorem dX11_steps_5 : decode cX11_steps 5 = .ok (.ifCond .eq 24, 3) := by decide +kernel
theorem dX11_steps_8 : decode cX11_steps 8 = .ok (.aload_n 0, 1) := by decide +kernel
theorem dX11_steps_9 : decode cX11_steps 9 = .ok (.iload_n 2, 1) := by decide +kernel
theorem dX11_steps_10 : decode cX11_steps 10 = .ok (.invokevirtual 145, 3) := by decide +kernel
theorem dX11_steps_13 : decode cX11_steps 13 = .ok (.ifCond .eq 16, 3) := by decide +kernel
theorem dX11_steps_16 : decode cX11_steps 16 = .ok (.aload_n 0, 1) := by decide +kernel
theorem dX11_steps_17 : decode cX11_steps 17 = .ok (.iload_n 3, 1) := by decide +kernel
theorem dX11_steps_18 : decode cX11_steps 18 = .ok (.invokevirtual 145, 3) := by decide +kernel
theorem dX11_steps_21 : decode cX11_steps 21 = .ok (.ifCond .eq 8, 3) := by decide +kernel
theorem dX11_steps_24 : decode cX11_steps 24 = .ok (.iload_n 2, 1) := by decide +kernel
theorem dX11_steps_25 : decode cX11_steps 25 = .ok (.iload_n 3, 1) := by decide +kernel
theorem dX11_steps_26 : decode cX11_steps 26 = .ok (.if_icmp .ne 6, 3) := by decide +kernel
theorem dX11_steps_29 : decode cX11_steps 29 = .ok (.bipush (-2), 2) := by decide +kernel
theorem dX11_steps_31 : decode cX11_steps 31 = .ok (.ireturn, 1) := by decide +kernel
theorem dX11_steps_32 : decode cX11_steps 32 = .ok (.aload_n 0, 1) := by decide +kernel
theorem dX11_steps_33 : decode cX11_steps 33 = .ok (.getfield 29, 3) := by decide +kernel
theorem dX11_steps_36 : decode cX11_steps 36 = .ok (.iload_n 2, 1) := by decide +kernel
theorem dX11_steps_37 : decode cX11_steps 37 = .ok (.iload_n 3, 1) := by decide +kernel
theorem dX11_steps_38 : decode cX11_steps 38 = .ok (.aload_n 0, 1) := by decide +kernel
theorem dX11_steps_39 : decode cX11_steps 39 = .ok (.getfield 29, 3) := by decide +kernel
theorem dX11_steps_42 : decode cX11_steps 42 = .ok (.getfield 189, 3) := by decide +kernel
theorem dX11_steps_45 : decode cX11_steps 45 = .ok (.iload_n 1, 1) := by decide +kernel
theorem dX11_steps_46 : decode cX11_steps 46 = .ok (.iaload, 1) := by decide +kernel
theorem dX11_steps_47 : decode cX11_steps 47 = .ok (.aload_n 0, 1) := by decide +kernel
theorem dX11_steps_48 : decode cX11_steps 48 = .ok (.getfield 29, 3) := by decide +kernel
theorem dX11_steps_51 : decode cX11_steps 51 = .ok (.getfield 192, 3) := by decide +kernel
theorem dX11_steps_54 : decode cX11_steps 54 = .ok (.iload_n 1, 1) := by decide +kernel
theorem dX11_steps_55 : decode cX11_steps 55 = .ok (.iaload, 1) := by decide +kernel
theorem dX11_steps_56 : decode cX11_steps 56 = .ok (.aload_n 0, 1) := by decide +kernel
theorem dX11_steps_57 : decode cX11_steps 57 = .ok (.getfield 36, 3) := by decide +kernel
theorem dX11_steps_60 : decode cX11_steps 60 = .ok (.getfield 161, 3) := by decide +kernel
theorem dX11_steps_63 : decode cX11_steps 63 = .ok (.invokevirtual 198, 3) := by decide +kernel
theorem dX11_steps_66 : decode cX11_steps 66 = .ok (.ifCond .eq 7, 3) := by decide +kernel
theorem dX11_steps_69 : decode cX11_steps 69 = .ok (.iconst 1, 1) := by decide +kernel
theorem dX11_steps_70 : decode cX11_steps 70 = .ok (.goto 4, 3) := by decide +kernel
theorem dX11_steps_73 : decode cX11_steps 73 = .ok (.iconst 0, 1) := by decide +kernel
theorem dX11_steps_74 : decode cX11_steps 74 = .ok (.ireturn, 1) := by decide +kernel
theorem kw_122 : Cond.fieldLink "FootholdWall" 155 "FootholdWall$Wall" "starts" "I" ∈ gw := gw_of (tb_of 122 (by decide +kernel)) (by decide +kernel)
theorem kw_128 : Cond.fieldLink "FootholdWall" 158 "FootholdWall$Wall" "tops" "I" ∈ gw := gw_of (tb_of 128 (by decide +kernel)) (by decide +kernel)
theorem kw_134 : Cond.fieldLink "FootholdWall" 149 "FootholdWall$Wall" "x" "[I" ∈ gw := gw_of (tb_of 134 (by decide +kernel)) (by decide +kernel)
theorem kw_137 : Cond.fieldLink "FootholdWall" 152 "FootholdWall$Wall" "y" "[I" ∈ gw := gw_of (tb_of 137 (by decide +kernel)) (by decide +kernel)
theorem kw_140 : Cond.fieldLink "FootholdWall" 183 "FootholdWall$Wall" "ice" "[I" ∈ gw := gw_of (tb_of 140 (by decide +kernel)) (by decide +kernel)
theorem kw_195 : Cond.fieldLink "FootholdWall" 174 "FootholdWall$State" "by" "[I" ∈ gw := gw_of (tb_of 195 (by decide +kernel)) (by decide +kernel)
theorem kw_197 : Cond.fieldLink "FootholdWall" 177 "FootholdWall$State" "since" "[I" ∈ gw := gw_of (tb_of 197 (by decide +kernel)) (by decide +kernel)
theorem kw_770 : Cond.methodLink "FootholdWall" 145 yX11_isHold ∈ gw := gw_of (tb_of 770 (by decide +kernel)) (by decide +kernel)
theorem kw_772 : Cond.instanceMethod yX11_isHold ∈ gw := gw_of (tb_of 772 (by decide +kernel)) (by decide +kernel)
theorem kw_773 : Cond.code yX11_isHold cX11_isHold 2 (some (.boolean)) ∈ gw := gw_of (tb_of 773 (by decide +kernel)) (by decide +kernel)
theorem kw_786 : Cond.methodLink "FootholdWall" 171 yX6_isUsed ∈ gw := gw_of (tb_of 786 (by decide +kernel)) (by decide +kernel)
theorem kw_794 : Cond.methodLink "FootholdWall" 186 yX11_isGuide ∈ gw := gw_of (tb_of 794 (by decide +kernel)) (by decide +kernel)
theorem kw_796 : Cond.instanceMethod yX11_isGuide ∈ gw := gw_of (tb_of 796 (by decide +kernel)) (by decide +kernel)
theorem kw_797 : Cond.code yX11_isGuide cX11_isGuide 2 (some (.boolean)) ∈ gw := gw_of (tb_of 797 (by decide +kernel)) (by decide +kernel)
theorem kw_798 : Cond.methodLink "FootholdWall" 195 yX6_usedBy ∈ gw := gw_of (tb_of 798 (by decide +kernel)) (by decide +kernel)
theorem kw_799 : Cond.instanceMethod yX6_usedBy ∈ gw := gw_of (tb_of 799 (by decide +kernel)) (by decide +kernel)
theorem kw_800 : Cond.selects "FootholdWall$State" yX6_usedBy yX6_usedBy ∈ gw := gw_of (tb_of 800 (by decide +kernel)) (by decide +kernel)
theorem kw_801 : Cond.code yX6_usedBy cX6_usedBy 4 (some (.int)) ∈ gw := gw_of (tb_of 801 (by decide +kernel)) (by decide +kernel)
theorem kw_807 : Cond.methodLink "FootholdWall" 198 yX9_mayStep ∈ gw := gw_of (tb_of 807 (by decide +kernel)) (by decide +kernel)
theorem kw_830 : Cond.methodLink "FootholdWall" 202 yX11_rowsOf ∈ gw := gw_of (tb_of 830 (by decide +kernel)) (by decide +kernel)
theorem kw_832 : Cond.instanceMethod yX11_rowsOf ∈ gw := gw_of (tb_of 832 (by decide +kernel)) (by decide +kernel)
theorem kw_833 : Cond.code yX11_rowsOf cX11_rowsOf 3 (some (.object "FootholdWall$Rows")) ∈ gw := gw_of (tb_of 833 (by decide +kernel)) (by decide +kernel)
theorem kw_846 : Cond.methodLink "FootholdWall" 206 yX11_openNow ∈ gw := gw_of (tb_of 846 (by decide +kernel)) (by decide +kernel)
theorem kw_848 : Cond.instanceMethod yX11_openNow ∈ gw := gw_of (tb_of 848 (by decide +kernel)) (by decide +kernel)
theorem kw_849 : Cond.code yX11_openNow cX11_openNow 1 (some (.int)) ∈ gw := gw_of (tb_of 849 (by decide +kernel)) (by decide +kernel)
theorem kw_850 : Cond.methodLink "FootholdWall" 210 yX5_reached ∈ gw := gw_of (tb_of 850 (by decide +kernel)) (by decide +kernel)
theorem kw_851 : Cond.instanceMethod yX5_reached ∈ gw := gw_of (tb_of 851 (by decide +kernel)) (by decide +kernel)
theorem kw_852 : Cond.selects "FootholdWall$Rows" yX5_reached yX5_reached ∈ gw := gw_of (tb_of 852 (by decide +kernel)) (by decide +kernel)
theorem kw_853 : Cond.code yX5_reached cX5_reached 2 (some (.int)) ∈ gw := gw_of (tb_of 853 (by decide +kernel)) (by decide +kernel)
theorem ks_17 : Cond.selects RX11 yX11_isHold yX11_isHold ∈ gw := gw_of (pv_of 17 (by decide +kernel)) (by decide +kernel)
theorem ks_20 : Cond.selects RX11 yX11_isGuide yX11_isGuide ∈ gw := gw_of (pv_of 20 (by decide +kernel)) (by decide +kernel)
theorem ks_21 : Cond.selects RX11 yX11_rowsOf yX11_rowsOf ∈ gw := gw_of (pv_of 21 (by decide +kernel)) (by decide +kernel)
theorem ks_22 : Cond.selects RX11 yX11_openNow yX11_openNow ∈ gw := gw_of (pv_of 22 (by decide +kernel)) (by decide +kernel)
