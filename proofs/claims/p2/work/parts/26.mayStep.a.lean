theorem dX9_mayStep_0 : decode cX9_mayStep 0 = .ok (.aload_n 0, 1) := by decide +kernel
theorem dX9_mayStep_1 : decode cX9_mayStep 1 = .ok (.getfield 34, 3) := by decide +kernel
theorem dX9_mayStep_4 : decode cX9_mayStep 4 = .ok (.iload_n 2, 1) := by decide +kernel
theorem dX9_mayStep_5 : decode cX9_mayStep 5 = .ok (.iaload, 1) := by decide +kernel
theorem dX9_mayStep_6 : decode cX9_mayStep 6 = .ok (.aload_n 0, 1) := by decide +kernel
theorem dX9_mayStep_7 : decode cX9_mayStep 7 = .ok (.getfield 34, 3) := by decide +kernel
theorem dX9_mayStep_10 : decode cX9_mayStep 10 = .ok (.iload_n 1, 1) := by decide +kernel
theorem dX9_mayStep_11 : decode cX9_mayStep 11 = .ok (.iaload, 1) := by decide +kernel
theorem dX9_mayStep_12 : decode cX9_mayStep 12 = .ok (.isub, 1) := by decide +kernel
theorem dX9_mayStep_13 : decode cX9_mayStep 13 = .ok (.invokestatic 76, 3) := by decide +kernel
theorem dX9_mayStep_16 : decode cX9_mayStep 16 = .ok (.istore 6, 2) := by decide +kernel
theorem dX9_mayStep_18 : decode cX9_mayStep 18 = .ok (.aload_n 0, 1) := by decide +kernel
theorem dX9_mayStep_19 : decode cX9_mayStep 19 = .ok (.getfield 38, 3) := by decide +kernel
theorem dX9_mayStep_22 : decode cX9_mayStep 22 = .ok (.iload_n 2, 1) := by decide +kernel
theorem dX9_mayStep_23 : decode cX9_mayStep 23 = .ok (.iaload, 1) := by decide +kernel
theorem dX9_mayStep_24 : decode cX9_mayStep 24 = .ok (.aload_n 0, 1) := by decide +kernel
theorem dX9_mayStep_25 : decode cX9_mayStep 25 = .ok (.getfield 38, 3) := by decide +kernel
theorem dX9_mayStep_28 : decode cX9_mayStep 28 = .ok (.iload_n 1, 1) := by decide +kernel
theorem dX9_mayStep_29 : decode cX9_mayStep 29 = .ok (.iaload, 1) := by decide +kernel
theorem dX9_mayStep_30 : decode cX9_mayStep 30 = .ok (.isub, 1) := by decide +kernel
theorem dX9_mayStep_31 : decode cX9_mayStep 31 = .ok (.istore 7, 2) := by decide +kernel
theorem dX9_mayStep_33 : decode cX9_mayStep 33 = .ok (.iload 6, 2) := by decide +kernel
theorem dX9_mayStep_35 : decode cX9_mayStep 35 = .ok (.iload 7, 2) := by decide +kernel
theorem dX9_mayStep_37 : decode cX9_mayStep 37 = .ok (.invokestatic 76, 3) := by decide +kernel
theorem dX9_mayStep_40 : decode cX9_mayStep 40 = .ok (.iadd, 1) := by decide +kernel
theorem dX9_mayStep_41 : decode cX9_mayStep 41 = .ok (.istore 8, 2) := by decide +kernel
theorem dX9_mayStep_43 : decode cX9_mayStep 43 = .ok (.aload_n 0, 1) := by decide +kernel
theorem dX9_mayStep_44 : decode cX9_mayStep 44 = .ok (.getfield 50, 3) := by decide +kernel
theorem dX9_mayStep_47 : decode cX9_mayStep 47 = .ok (.ifnonnull 15, 3) := by decide +kernel
theorem dX9_mayStep_50 : decode cX9_mayStep 50 = .ok (.iload 8, 2) := by decide +kernel
theorem dX9_mayStep_52 : decode cX9_mayStep 52 = .ok (.iload_n 3, 1) := by decide +kernel
theorem dX9_mayStep_53 : decode cX9_mayStep 53 = .ok (.if_icmp .gt 7, 3) := by decide +kernel
theorem dX9_mayStep_56 : decode cX9_mayStep 56 = .ok (.iconst 1, 1) := by decide +kernel
theorem dX9_mayStep_57 : decode cX9_mayStep 57 = .ok (.goto 4, 3) := by decide +kernel
theorem dX9_mayStep_60 : decode cX9_mayStep 60 = .ok (.iconst 0, 1) := by decide +kernel
theorem dX9_mayStep_61 : decode cX9_mayStep 61 = .ok (.ireturn, 1) := by decide +kernel
theorem dX9_mayStep_62 : decode cX9_mayStep 62 = .ok (.aload_n 0, 1) := by decide +kernel
theorem dX9_mayStep_63 : decode cX9_mayStep 63 = .ok (.getfield 50, 3) := by decide +kernel
theorem dX9_mayStep_66 : decode cX9_mayStep 66 = .ok (.getfield 80, 3) := by decide +kernel
theorem dX9_mayStep_69 : decode cX9_mayStep 69 = .ok (.astore 9, 2) := by decide +kernel
theorem dX9_mayStep_71 : decode cX9_mayStep 71 = .ok (.aload 9, 2) := by decide +kernel
theorem dX9_mayStep_73 : decode cX9_mayStep 73 = .ok (.iconst 0, 1) := by decide +kernel
theorem dX9_mayStep_74 : decode cX9_mayStep 74 = .ok (.iload 6, 2) := by decide +kernel
theorem dX9_mayStep_76 : decode cX9_mayStep 76 = .ok (.iastore, 1) := by decide +kernel
theorem dX9_mayStep_77 : decode cX9_mayStep 77 = .ok (.aload 9, 2) := by decide +kernel
theorem dX9_mayStep_79 : decode cX9_mayStep 79 = .ok (.iconst 1, 1) := by decide +kernel
theorem dX9_mayStep_80 : decode cX9_mayStep 80 = .ok (.iload 7, 2) := by decide +kernel
theorem dX9_mayStep_82 : decode cX9_mayStep 82 = .ok (.iastore, 1) := by decide +kernel
theorem dX9_mayStep_83 : decode cX9_mayStep 83 = .ok (.aload 9, 2) := by decide +kernel
theorem dX9_mayStep_85 : decode cX9_mayStep 85 = .ok (.iconst 2, 1) := by decide +kernel
theorem dX9_mayStep_86 : decode cX9_mayStep 86 = .ok (.iload 8, 2) := by decide +kernel
theorem dX9_mayStep_88 : decode cX9_mayStep 88 = .ok (.iastore, 1) := by decide +kernel
theorem dX9_mayStep_89 : decode cX9_mayStep 89 = .ok (.aload 9, 2) := by decide +kernel
theorem dX9_mayStep_91 : decode cX9_mayStep 91 = .ok (.iconst 3, 1) := by decide +kernel
theorem dX9_mayStep_92 : decode cX9_mayStep 92 = .ok (.iload_n 3, 1) := by decide +kernel
theorem dX9_mayStep_93 : decode cX9_mayStep 93 = .ok (.iastore, 1) := by decide +kernel
theorem dX9_mayStep_94 : decode cX9_mayStep 94 = .ok (.aload 9, 2) := by decide +kernel
theorem dX9_mayStep_96 : decode cX9_mayStep 96 = .ok (.iconst 4, 1) := by decide +kernel
theorem dX9_mayStep_97 : decode cX9_mayStep 97 = .ok (.iload 4, 2) := by decide +kernel
theorem dX9_mayStep_99 : decode cX9_mayStep 99 = .ok (.iastore, 1) := by decide +kernel
theorem dX9_mayStep_100 : decode cX9_mayStep 100 = .ok (.aload 9, 2) := by decide +kernel
theorem dX9_mayStep_102 : decode cX9_mayStep 102 = .ok (.iconst 5, 1) := by decide +kernel
theorem dX9_mayStep_103 : decode cX9_mayStep 103 = .ok (.aload_n 0, 1) := by decide +kernel
theorem dX9_mayStep_104 : decode cX9_mayStep 104 = .ok (.getfield 19, 3) := by decide +kernel
theorem dX9_mayStep_107 : decode cX9_mayStep 107 = .ok (.iload_n 2, 1) := by decide +kernel
theorem dX9_mayStep_108 : decode cX9_mayStep 108 = .ok (.ishr, 1) := by decide +kernel
theorem dX9_mayStep_109 : decode cX9_mayStep 109 = .ok (.iconst 1, 1) := by decide +kernel
theorem dX9_mayStep_110 : decode cX9_mayStep 110 = .ok (.iand, 1) := by decide +kernel
theorem dX9_mayStep_111 : decode cX9_mayStep 111 = .ok (.iastore, 1) := by decide +kernel
theorem dX9_mayStep_112 : decode cX9_mayStep 112 = .ok (.aload 9, 2) := by decide +kernel
theorem dX9_mayStep_114 : decode cX9_mayStep 114 = .ok (.bipush 6, 2) := by decide +kernel
theorem dX9_mayStep_116 : decode cX9_mayStep 116 = .ok (.iload 5, 2) := by decide +kernel
theorem dX9_mayStep_118 : decode cX9_mayStep 118 = .ok (.iastore, 1) := by decide +kernel
theorem dX9_mayStep_119 : decode cX9_mayStep 119 = .ok (.aload_n 0, 1) := by decide +kernel
theorem dX9_mayStep_120 : decode cX9_mayStep 120 = .ok (.getfield 50, 3) := by decide +kernel
theorem dX9_mayStep_123 : decode cX9_mayStep 123 = .ok (.invokevirtual 83, 3) := by decide +kernel
theorem dX9_mayStep_126 : decode cX9_mayStep 126 = .ok (.ireturn, 1) := by decide +kernel
theorem kw_132 : Cond.fieldLink "FootholdWall$Wall" 34 "FootholdWall$Wall" "x" "[I" ∈ gw := gw_of (tb_of 132 (by decide +kernel)) (by decide +kernel)
theorem kw_135 : Cond.fieldLink "FootholdWall$Wall" 38 "FootholdWall$Wall" "y" "[I" ∈ gw := gw_of (tb_of 135 (by decide +kernel)) (by decide +kernel)
theorem kw_147 : Cond.fieldLink "FootholdWall$Wall" 50 "FootholdWall$Wall" "law" "LFootholdWall$Law;" ∈ gw := gw_of (tb_of 147 (by decide +kernel)) (by decide +kernel)
theorem kw_741 : Cond.fieldLink "FootholdWall$Wall" 80 "FootholdWall$Law" "facts" "[I" ∈ gw := gw_of (tb_of 741 (by decide +kernel)) (by decide +kernel)
theorem kw_811 : Cond.methodLink "FootholdWall$Wall" 76 ⟨"java/lang/Math", "abs", "(I)I"⟩ ∈ gw := gw_of (tb_of 811 (by decide +kernel)) (by decide +kernel)
theorem kw_812 : Cond.static ⟨"java/lang/Math", "abs", "(I)I"⟩ ∈ gw := gw_of (tb_of 812 (by decide +kernel)) (by decide +kernel)
theorem kw_813 : Cond.code Lib.Math.abs.name Lib.Math.abs.code 1 (some .int) ∈ gw := gw_of (tb_of 813 (by decide +kernel)) (by decide +kernel)
theorem kw_814 : Cond.methodLink "FootholdWall$Wall" 83 yX2_holds ∈ gw := gw_of (tb_of 814 (by decide +kernel)) (by decide +kernel)
theorem kw_815 : Cond.instanceMethod yX2_holds ∈ gw := gw_of (tb_of 815 (by decide +kernel)) (by decide +kernel)
theorem kw_816 : Cond.selects "FootholdWall$Law" yX2_holds yX2_holds ∈ gw := gw_of (tb_of 816 (by decide +kernel)) (by decide +kernel)
theorem kw_817 : Cond.code yX2_holds cX2_holds 5 (some (.boolean)) ∈ gw := gw_of (tb_of 817 (by decide +kernel)) (by decide +kernel)
