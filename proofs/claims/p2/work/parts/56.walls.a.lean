theorem dX4_made_0 : decode cX4_made 0 = .ok (.aload_n 0, 1) := by decide +kernel
theorem dX4_made_1 : decode cX4_made 1 = .ok (.getfield 32, 3) := by decide +kernel
theorem dX4_made_4 : decode cX4_made 4 = .ok (.aload_n 0, 1) := by decide +kernel
theorem dX4_made_5 : decode cX4_made 5 = .ok (.getfield 36, 3) := by decide +kernel
theorem dX4_made_8 : decode cX4_made 8 = .ok (.ifCond .eq 13, 3) := by decide +kernel
theorem dX4_made_11 : decode cX4_made 11 = .ok (.aload_n 0, 1) := by decide +kernel
theorem dX4_made_12 : decode cX4_made 12 = .ok (.getfield 23, 3) := by decide +kernel
theorem dX4_made_15 : decode cX4_made 15 = .ok (.invokevirtual 73, 3) := by decide +kernel
theorem dX4_made_18 : decode cX4_made 18 = .ok (.goto 4, 3) := by decide +kernel
theorem dX4_made_21 : decode cX4_made 21 = .ok (.aconst_null, 1) := by decide +kernel
theorem dX4_made_22 : decode cX4_made 22 = .ok (.invokevirtual 77, 3) := by decide +kernel
theorem dX4_made_25 : decode cX4_made 25 = .ok (.areturn, 1) := by decide +kernel
theorem dX9_cutToSize_0 : decode cX9_cutToSize 0 = .ok (.new 8, 3) := by decide +kernel
theorem dX9_cutToSize_3 : decode cX9_cutToSize 3 = .ok (.dup, 1) := by decide +kernel
theorem dX9_cutToSize_4 : decode cX9_cutToSize 4 = .ok (.aload_n 0, 1) := by decide +kernel
theorem dX9_cutToSize_5 : decode cX9_cutToSize 5 = .ok (.getfield 28, 3) := by decide +kernel
theorem dX9_cutToSize_8 : decode cX9_cutToSize 8 = .ok (.aload_n 0, 1) := by decide +kernel
theorem dX9_cutToSize_9 : decode cX9_cutToSize 9 = .ok (.getfield 31, 3) := by decide +kernel
theorem dX9_cutToSize_12 : decode cX9_cutToSize 12 = .ok (.aload_n 1, 1) := by decide +kernel
theorem dX9_cutToSize_13 : decode cX9_cutToSize 13 = .ok (.invokespecial 67, 3) := by decide +kernel
theorem dX9_cutToSize_16 : decode cX9_cutToSize 16 = .ok (.astore_n 2, 1) := by decide +kernel
theorem dX9_cutToSize_17 : decode cX9_cutToSize 17 = .ok (.aload_n 2, 1) := by decide +kernel
theorem dX9_cutToSize_18 : decode cX9_cutToSize 18 = .ok (.aload_n 0, 1) := by decide +kernel
theorem dX9_cutToSize_19 : decode cX9_cutToSize 19 = .ok (.getfield 7, 3) := by decide +kernel
theorem dX9_cutToSize_22 : decode cX9_cutToSize 22 = .ok (.putfield 7, 3) := by decide +kernel
theorem dX9_cutToSize_25 : decode cX9_cutToSize 25 = .ok (.aload_n 2, 1) := by decide +kernel
theorem dX9_cutToSize_26 : decode cX9_cutToSize 26 = .ok (.aload_n 0, 1) := by decide +kernel
theorem dX9_cutToSize_27 : decode cX9_cutToSize 27 = .ok (.getfield 13, 3) := by decide +kernel
theorem dX9_cutToSize_30 : decode cX9_cutToSize 30 = .ok (.putfield 13, 3) := by decide +kernel
theorem dX9_cutToSize_33 : decode cX9_cutToSize 33 = .ok (.aload_n 2, 1) := by decide +kernel
theorem dX9_cutToSize_34 : decode cX9_cutToSize 34 = .ok (.aload_n 0, 1) := by decide +kernel
theorem dX9_cutToSize_35 : decode cX9_cutToSize 35 = .ok (.getfield 16, 3) := by decide +kernel
theorem dX9_cutToSize_38 : decode cX9_cutToSize 38 = .ok (.putfield 16, 3) := by decide +kernel
theorem dX9_cutToSize_41 : decode cX9_cutToSize 41 = .ok (.aload_n 2, 1) := by decide +kernel
theorem dX9_cutToSize_42 : decode cX9_cutToSize 42 = .ok (.aload_n 0, 1) := by decide +kernel
theorem dX9_cutToSize_43 : decode cX9_cutToSize 43 = .ok (.getfield 19, 3) := by decide +kernel
theorem dX9_cutToSize_46 : decode cX9_cutToSize 46 = .ok (.putfield 19, 3) := by decide +kernel
theorem dX9_cutToSize_49 : decode cX9_cutToSize 49 = .ok (.aload_n 0, 1) := by decide +kernel
theorem dX9_cutToSize_50 : decode cX9_cutToSize 50 = .ok (.getfield 34, 3) := by decide +kernel
theorem dX9_cutToSize_53 : decode cX9_cutToSize 53 = .ok (.iconst 0, 1) := by decide +kernel
theorem dX9_cutToSize_54 : decode cX9_cutToSize 54 = .ok (.aload_n 2, 1) := by decide +kernel
theorem dX9_cutToSize_55 : decode cX9_cutToSize 55 = .ok (.getfield 34, 3) := by decide +kernel
theorem dX9_cutToSize_58 : decode cX9_cutToSize 58 = .ok (.iconst 0, 1) := by decide +kernel
theorem dX9_cutToSize_59 : decode cX9_cutToSize 59 = .ok (.aload_n 0, 1) := by decide +kernel
theorem dX9_cutToSize_60 : decode cX9_cutToSize 60 = .ok (.getfield 28, 3) := by decide +kernel
theorem dX9_cutToSize_63 : decode cX9_cutToSize 63 = .ok (.invokestatic 70, 3) := by decide +kernel
theorem dX9_cutToSize_66 : decode cX9_cutToSize 66 = .ok (.aload_n 0, 1) := by decide +kernel
theorem dX9_cutToSize_67 : decode cX9_cutToSize 67 = .ok (.getfield 38, 3) := by decide +kernel
theorem dX9_cutToSize_70 : decode cX9_cutToSize 70 = .ok (.iconst 0, 1) := by decide +kernel
theorem dX9_cutToSize_71 : decode cX9_cutToSize 71 = .ok (.aload_n 2, 1) := by decide +kernel
theorem dX9_cutToSize_72 : decode cX9_cutToSize 72 = .ok (.getfield 38, 3) := by decide +kernel
theorem dX9_cutToSize_75 : decode cX9_cutToSize 75 = .ok (.iconst 0, 1) := by decide +kernel
theorem dX9_cutToSize_76 : decode cX9_cutToSize 76 = .ok (.aload_n 0, 1) := by decide +kernel
theorem dX9_cutToSize_77 : decode cX9_cutToSize 77 = .ok (.getfield 28, 3) := by decide +kernel
theorem dX9_cutToSize_80 : decode cX9_cutToSize 80 = .ok (.invokestatic 70, 3) := by decide +kernel
theorem dX9_cutToSize_83 : decode cX9_cutToSize 83 = .ok (.aload_n 0, 1) := by decide +kernel
theorem dX9_cutToSize_84 : decode cX9_cutToSize 84 = .ok (.getfield 41, 3) := by decide +kernel
theorem dX9_cutToSize_87 : decode cX9_cutToSize 87 = .ok (.iconst 0, 1) := by decide +kernel
theorem dX9_cutToSize_88 : decode cX9_cutToSize 88 = .ok (.aload_n 2, 1) := by decide +kernel
theorem dX9_cutToSize_89 : decode cX9_cutToSize 89 = .ok (.getfield 41, 3) := by decide +kernel
theorem dX9_cutToSize_92 : decode cX9_cutToSize 92 = .ok (.iconst 0, 1) := by decide +kernel
theorem dX9_cutToSize_93 : decode cX9_cutToSize 93 = .ok (.aload_n 0, 1) := by decide +kernel
theorem dX9_cutToSize_94 : decode cX9_cutToSize 94 = .ok (.getfield 28, 3) := by decide +kernel
theorem dX9_cutToSize_97 : decode cX9_cutToSize 97 = .ok (.invokestatic 70, 3) := by decide +kernel
theorem dX9_cutToSize_100 : decode cX9_cutToSize 100 = .ok (.aload_n 0, 1) := by decide +kernel
theorem dX9_cutToSize_101 : decode cX9_cutToSize 101 = .ok (.getfield 44, 3) := by decide +kernel
theorem dX9_cutToSize_104 : decode cX9_cutToSize 104 = .ok (.iconst 0, 1) := by decide +kernel
theorem dX9_cutToSize_105 : decode cX9_cutToSize 105 = .ok (.aload_n 2, 1) := by decide +kernel
theorem dX9_cutToSize_106 : decode cX9_cutToSize 106 = .ok (.getfield 44, 3) := by decide +kernel
theorem dX9_cutToSize_109 : decode cX9_cutToSize 109 = .ok (.iconst 0, 1) := by decide +kernel
theorem dX9_cutToSize_110 : decode cX9_cutToSize 110 = .ok (.aload_n 0, 1) := by decide +kernel
theorem dX9_cutToSize_111 : decode cX9_cutToSize 111 = .ok (.getfield 31, 3) := by decide +kernel
theorem dX9_cutToSize_114 : decode cX9_cutToSize 114 = .ok (.invokestatic 70, 3) := by decide +kernel
theorem dX9_cutToSize_117 : decode cX9_cutToSize 117 = .ok (.aload_n 0, 1) := by decide +kernel
theorem dX9_cutToSize_118 : decode cX9_cutToSize 118 = .ok (.getfield 47, 3) := by decide +kernel
theorem dX9_cutToSize_121 : decode cX9_cutToSize 121 = .ok (.iconst 0, 1) := by decide +kernel
theorem dX9_cutToSize_122 : decode cX9_cutToSize 122 = .ok (.aload_n 2, 1) := by decide +kernel
theorem dX9_cutToSize_123 : decode cX9_cutToSize 123 = .ok (.getfield 47, 3) := by decide +kernel
theorem dX9_cutToSize_126 : decode cX9_cutToSize 126 = .ok (.iconst 0, 1) := by decide +kernel
theorem dX9_cutToSize_127 : decode cX9_cutToSize 127 = .ok (.aload_n 0, 1) := by decide +kernel
theorem dX9_cutToSize_128 : decode cX9_cutToSize 128 = .ok (.getfield 31, 3) := by decide +kernel
theorem dX9_cutToSize_131 : decode cX9_cutToSize 131 = .ok (.invokestatic 70, 3) := by decide +kernel
theorem dX9_cutToSize_134 : decode cX9_cutToSize 134 = .ok (.aload_n 2, 1) := by decide +kernel
theorem dX9_cutToSize_135 : decode cX9_cutToSize 135 = .ok (.areturn, 1) := by decide +kernel
theorem dX9_init_0 : decode cX9_init 0 = .ok (.aload_n 0, 1) := by decide +kernel
theorem dX9_init_1 : decode cX9_init 1 = .ok (.invokespecial 1, 3) := by decide +kernel
theorem dX9_init_4 : decode cX9_init 4 = .ok (.aload_n 0, 1) := by decide +kernel
theorem dX9_init_5 : decode cX9_init 5 = .ok (.iconst 0, 1) := by decide +kernel
theorem dX9_init_6 : decode cX9_init 6 = .ok (.putfield 7, 3) := by decide +kernel
theorem dX9_init_9 : decode cX9_init 9 = .ok (.aload_n 0, 1) := by decide +kernel
theorem dX9_init_10 : decode cX9_init 10 = .ok (.iconst 0, 1) := by decide +kernel
theorem dX9_init_11 : decode cX9_init 11 = .ok (.putfield 13, 3) := by decide +kernel
theorem dX9_init_14 : decode cX9_init 14 = .ok (.aload_n 0, 1) := by decide +kernel
theorem dX9_init_15 : decode cX9_init 15 = .ok (.iconst 0, 1) := by decide +kernel
theorem dX9_init_16 : decode cX9_init 16 = .ok (.putfield 16, 3) := by decide +kernel
theorem dX9_init_19 : decode cX9_init 19 = .ok (.aload_n 0, 1) := by decide +kernel
theorem dX9_init_20 : decode cX9_init 20 = .ok (.iconst 0, 1) := by decide +kernel
theorem dX9_init_21 : decode cX9_init 21 = .ok (.putfield 19, 3) := by decide +kernel
theorem dX9_init_24 : decode cX9_init 24 = .ok (.aload_n 0, 1) := by decide +kernel
theorem dX9_init_25 : decode cX9_init 25 = .ok (.iconst 0, 1) := by decide +kernel
theorem dX9_init_26 : decode cX9_init 26 = .ok (.iload_n 1, 1) := by decide +kernel
theorem dX9_init_27 : decode cX9_init 27 = .ok (.invokestatic 22, 3) := by decide +kernel
theorem dX9_init_30 : decode cX9_init 30 = .ok (.putfield 28, 3) := by decide +kernel
theorem dX9_init_33 : decode cX9_init 33 = .ok (.aload_n 0, 1) := by decide +kernel
theorem dX9_init_34 : decode cX9_init 34 = .ok (.iconst 0, 1) := by decide +kernel
theorem dX9_init_35 : decode cX9_init 35 = .ok (.iload_n 2, 1) := by decide +kernel
theorem dX9_init_36 : decode cX9_init 36 = .ok (.invokestatic 22, 3) := by decide +kernel
theorem dX9_init_39 : decode cX9_init 39 = .ok (.putfield 31, 3) := by decide +kernel
theorem dX9_init_42 : decode cX9_init 42 = .ok (.aload_n 0, 1) := by decide +kernel
theorem dX9_init_43 : decode cX9_init 43 = .ok (.aload_n 0, 1) := by decide +kernel
theorem dX9_init_44 : decode cX9_init 44 = .ok (.getfield 28, 3) := by decide +kernel
theorem dX9_init_47 : decode cX9_init 47 = .ok (.newarray .int, 2) := by decide +kernel
theorem dX9_init_49 : decode cX9_init 49 = .ok (.putfield 34, 3) := by decide +kernel
theorem dX9_init_52 : decode cX9_init 52 = .ok (.aload_n 0, 1) := by decide +kernel
theorem dX9_init_53 : decode cX9_init 53 = .ok (.aload_n 0, 1) := by decide +kernel
theorem dX9_init_54 : decode cX9_init 54 = .ok (.getfield 28, 3) := by decide +kernel
theorem dX9_init_57 : decode cX9_init 57 = .ok (.newarray .int, 2) := by decide +kernel
theorem dX9_init_59 : decode cX9_init 59 = .ok (.putfield 38, 3) := by decide +kernel
theorem dX9_init_62 : decode cX9_init 62 = .ok (.aload_n 0, 1) := by decide +kernel
theorem dX9_init_63 : decode cX9_init 63 = .ok (.aload_n 0, 1) := by decide +kernel
theorem dX9_init_64 : decode cX9_init 64 = .ok (.getfield 28, 3) := by decide +kernel
theorem dX9_init_67 : decode cX9_init 67 = .ok (.newarray .int, 2) := by decide +kernel
theorem dX9_init_69 : decode cX9_init 69 = .ok (.putfield 41, 3) := by decide +kernel
theorem dX9_init_72 : decode cX9_init 72 = .ok (.aload_n 0, 1) := by decide +kernel
theorem dX9_init_73 : decode cX9_init 73 = .ok (.aload_n 0, 1) := by decide +kernel
theorem dX9_init_74 : decode cX9_init 74 = .ok (.getfield 31, 3) := by decide +kernel
theorem dX9_init_77 : decode cX9_init 77 = .ok (.newarray .int, 2) := by decide +kernel
theorem dX9_init_79 : decode cX9_init 79 = .ok (.putfield 44, 3) := by decide +kernel
theorem dX9_init_82 : decode cX9_init 82 = .ok (.aload_n 0, 1) := by decide +kernel
theorem dX9_init_83 : decode cX9_init 83 = .ok (.aload_n 0, 1) := by decide +kernel
theorem dX9_init_84 : decode cX9_init 84 = .ok (.getfield 31, 3) := by decide +kernel
theorem dX9_init_87 : decode cX9_init 87 = .ok (.newarray .int, 2) := by decide +kernel
theorem dX9_init_89 : decode cX9_init 89 = .ok (.putfield 47, 3) := by decide +kernel
theorem dX9_init_92 : decode cX9_init 92 = .ok (.aload_n 0, 1) := by decide +kernel
theorem dX9_init_93 : decode cX9_init 93 = .ok (.aload_n 3, 1) := by decide +kernel
theorem dX9_init_94 : decode cX9_init 94 = .ok (.putfield 50, 3) := by decide +kernel
theorem dX9_init_97 : decode cX9_init 97 = .ok (.aload_n 0, 1) := by decide +kernel
theorem dX9_init_98 : decode cX9_init 98 = .ok (.aload_n 3, 1) := by decide +kernel
theorem dX9_init_99 : decode cX9_init 99 = .ok (.ifnull 16, 3) := by decide +kernel
theorem dX9_init_102 : decode cX9_init 102 = .ok (.aload_n 3, 1) := by decide +kernel
theorem dX9_init_103 : decode cX9_init 103 = .ok (.bipush 6, 2) := by decide +kernel
theorem dX9_init_105 : decode cX9_init 105 = .ok (.invokevirtual 56, 3) := by decide +kernel
theorem dX9_init_108 : decode cX9_init 108 = .ok (.ifCond .eq 7, 3) := by decide +kernel
theorem dX9_init_111 : decode cX9_init 111 = .ok (.iconst 1, 1) := by decide +kernel
theorem dX9_init_112 : decode cX9_init 112 = .ok (.goto 4, 3) := by decide +kernel
theorem dX9_init_115 : decode cX9_init 115 = .ok (.iconst 0, 1) := by decide +kernel
theorem dX9_init_116 : decode cX9_init 116 = .ok (.putfield 60, 3) := by decide +kernel
theorem dX9_init_119 : decode cX9_init 119 = .ok (.aload_n 0, 1) := by decide +kernel
theorem dX9_init_120 : decode cX9_init 120 = .ok (.aload_n 3, 1) := by decide +kernel
theorem dX9_init_121 : decode cX9_init 121 = .ok (.ifnull 11, 3) := by decide +kernel
theorem dX9_init_124 : decode cX9_init 124 = .ok (.aload_n 3, 1) := by decide +kernel
theorem dX9_init_125 : decode cX9_init 125 = .ok (.iconst 3, 1) := by decide +kernel
theorem dX9_init_126 : decode cX9_init 126 = .ok (.invokevirtual 56, 3) := by decide +kernel
theorem dX9_init_129 : decode cX9_init 129 = .ok (.ifCond .eq 7, 3) := by decide +kernel
theorem dX9_init_132 : decode cX9_init 132 = .ok (.iconst 1, 1) := by decide +kernel
theorem dX9_init_133 : decode cX9_init 133 = .ok (.goto 4, 3) := by decide +kernel
theorem dX9_init_136 : decode cX9_init 136 = .ok (.iconst 0, 1) := by decide +kernel
theorem dX9_init_137 : decode cX9_init 137 = .ok (.putfield 64, 3) := by decide +kernel
theorem dX9_init_140 : decode cX9_init 140 = .ok (.return_, 1) := by decide +kernel
theorem kw_94 : Cond.instantiable "FootholdWall$Wall" 14 ∈ gw := gw_of (tb_of 94 (by decide +kernel)) (by decide +kernel)
theorem kw_96 : Cond.instanceMethod yX9_init ∈ gw := gw_of (tb_of 96 (by decide +kernel)) (by decide +kernel)
theorem kw_97 : Cond.code yX9_init cX9_init 4 none ∈ gw := gw_of (tb_of 97 (by decide +kernel)) (by decide +kernel)
theorem kw_98 : Cond.methodLink "FootholdWall$Wall" 1 objectInit ∈ gw := gw_of (tb_of 98 (by decide +kernel)) (by decide +kernel)
theorem kw_99 : Cond.methodLink "FootholdWall$Wall" 22 Lib.Math.max.name ∈ gw := gw_of (tb_of 99 (by decide +kernel)) (by decide +kernel)
theorem kw_102 : Cond.methodLink "FootholdWall$Wall" 56 yX2_asks ∈ gw := gw_of (tb_of 102 (by decide +kernel)) (by decide +kernel)
theorem kw_103 : Cond.instanceMethod yX2_asks ∈ gw := gw_of (tb_of 103 (by decide +kernel)) (by decide +kernel)
theorem kw_104 : Cond.selects "FootholdWall$Law" yX2_asks yX2_asks ∈ gw := gw_of (tb_of 104 (by decide +kernel)) (by decide +kernel)
theorem kw_105 : Cond.code yX2_asks cX2_asks 4 (some (.boolean)) ∈ gw := gw_of (tb_of 105 (by decide +kernel)) (by decide +kernel)
theorem kw_141 : Cond.fieldLink "FootholdWall$Wall" 44 "FootholdWall$Wall" "leg" "[I" ∈ gw := gw_of (tb_of 141 (by decide +kernel)) (by decide +kernel)
theorem kw_144 : Cond.fieldLink "FootholdWall$Wall" 47 "FootholdWall$Wall" "weight" "[I" ∈ gw := gw_of (tb_of 144 (by decide +kernel)) (by decide +kernel)
theorem kw_715 : Cond.methodLink "FootholdWall$Reader" 73 yX3_made ∈ gw := gw_of (tb_of 715 (by decide +kernel)) (by decide +kernel)
theorem kw_716 : Cond.instanceMethod yX3_made ∈ gw := gw_of (tb_of 716 (by decide +kernel)) (by decide +kernel)
theorem kw_717 : Cond.selects "FootholdWall$LawReader" yX3_made yX3_made ∈ gw := gw_of (tb_of 717 (by decide +kernel)) (by decide +kernel)
theorem kw_718 : Cond.code yX3_made cX3_made 1 (some (.object "FootholdWall$Law")) ∈ gw := gw_of (tb_of 718 (by decide +kernel)) (by decide +kernel)
theorem kw_750 : Cond.methodLink "FootholdWall$Reader" 77 yX9_cutToSize ∈ gw := gw_of (tb_of 750 (by decide +kernel)) (by decide +kernel)
theorem kw_751 : Cond.instanceMethod yX9_cutToSize ∈ gw := gw_of (tb_of 751 (by decide +kernel)) (by decide +kernel)
theorem kw_752 : Cond.selects "FootholdWall$Wall" yX9_cutToSize yX9_cutToSize ∈ gw := gw_of (tb_of 752 (by decide +kernel)) (by decide +kernel)
theorem kw_753 : Cond.code yX9_cutToSize cX9_cutToSize 3 (some (.object "FootholdWall$Wall")) ∈ gw := gw_of (tb_of 753 (by decide +kernel)) (by decide +kernel)
theorem kw_754 : Cond.classLink "FootholdWall$Wall" 8 "FootholdWall$Wall" ∈ gw := gw_of (tb_of 754 (by decide +kernel)) (by decide +kernel)
theorem kw_755 : Cond.methodLink "FootholdWall$Wall" 67 yX9_init ∈ gw := gw_of (tb_of 755 (by decide +kernel)) (by decide +kernel)
theorem kw_756 : Cond.methodLink "FootholdWall$Wall" 70 arraycopyName ∈ gw := gw_of (tb_of 756 (by decide +kernel)) (by decide +kernel)
