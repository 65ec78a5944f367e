theorem dX12_climbs_0 : decode cX12_climbs 0 = .ok (.aload_n 0, 1) := by decide +kernel
theorem dX12_climbs_1 : decode cX12_climbs 1 = .ok (.iconst 0, 1) := by decide +kernel
theorem dX12_climbs_2 : decode cX12_climbs 2 = .ok (.putfield 1, 3) := by decide +kernel
theorem dX12_climbs_5 : decode cX12_climbs 5 = .ok (.aload_n 0, 1) := by decide +kernel
theorem dX12_climbs_6 : decode cX12_climbs 6 = .ok (.iload_n 1, 1) := by decide +kernel
theorem dX12_climbs_7 : decode cX12_climbs 7 = .ok (.i2l, 1) := by decide +kernel
theorem dX12_climbs_8 : decode cX12_climbs 8 = .ok (.invokevirtual 222, 3) := by decide +kernel
theorem dX12_climbs_11 : decode cX12_climbs 11 = .ok (.ifCond .ne 7, 3) := by decide +kernel
theorem dX12_climbs_14 : decode cX12_climbs 14 = .ok (.ldc2_w 341, 3) := by decide +kernel
theorem dX12_climbs_17 : decode cX12_climbs 17 = .ok (.lreturn, 1) := by decide +kernel
theorem dX12_climbs_18 : decode cX12_climbs 18 = .ok (.iload_n 2, 1) := by decide +kernel
theorem dX12_climbs_19 : decode cX12_climbs 19 = .ok (.i2l, 1) := by decide +kernel
theorem dX12_climbs_20 : decode cX12_climbs 20 = .ok (.lconst 1, 1) := by decide +kernel
theorem dX12_climbs_21 : decode cX12_climbs 21 = .ok (.ldc2_w 347, 3) := by decide +kernel
theorem dX12_climbs_24 : decode cX12_climbs 24 = .ok (.invokestatic 144, 3) := by decide +kernel
theorem dX12_climbs_27 : decode cX12_climbs 27 = .ok (.ifCond .ne 7, 3) := by decide +kernel
theorem dX12_climbs_30 : decode cX12_climbs 30 = .ok (.ldc2_w 349, 3) := by decide +kernel
theorem dX12_climbs_33 : decode cX12_climbs 33 = .ok (.lreturn, 1) := by decide +kernel
theorem dX12_climbs_34 : decode cX12_climbs 34 = .ok (.aload_n 0, 1) := by decide +kernel
theorem dX12_climbs_35 : decode cX12_climbs 35 = .ok (.iload_n 1, 1) := by decide +kernel
theorem dX12_climbs_36 : decode cX12_climbs 36 = .ok (.invokevirtual 351, 3) := by decide +kernel
theorem dX12_climbs_39 : decode cX12_climbs 39 = .ok (.aload_n 0, 1) := by decide +kernel
theorem dX12_climbs_40 : decode cX12_climbs 40 = .ok (.iconst 1, 1) := by decide +kernel
theorem dX12_climbs_41 : decode cX12_climbs 41 = .ok (.iload_n 2, 1) := by decide +kernel
theorem dX12_climbs_42 : decode cX12_climbs 42 = .ok (.invokevirtual 343, 3) := by decide +kernel
theorem dX12_climbs_45 : decode cX12_climbs 45 = .ok (.lreturn, 1) := by decide +kernel
theorem dX12_climbsBy_0 : decode cX12_climbsBy 0 = .ok (.lconst 0, 1) := by decide +kernel
theorem dX12_climbsBy_1 : decode cX12_climbsBy 1 = .ok (.lstore_n 2, 1) := by decide +kernel
theorem dX12_climbsBy_2 : decode cX12_climbsBy 2 = .ok (.iconst 0, 1) := by decide +kernel
theorem dX12_climbsBy_3 : decode cX12_climbsBy 3 = .ok (.istore 4, 2) := by decide +kernel
theorem dX12_climbsBy_5 : decode cX12_climbsBy 5 = .ok (.iload 4, 2) := by decide +kernel
theorem dX12_climbsBy_7 : decode cX12_climbsBy 7 = .ok (.aload_n 0, 1) := by decide +kernel
theorem dX12_climbsBy_8 : decode cX12_climbsBy 8 = .ok (.getfield 13, 3) := by decide +kernel
theorem dX12_climbsBy_11 : decode cX12_climbsBy 11 = .ok (.iconst 1, 1) := by decide +kernel
theorem dX12_climbsBy_12 : decode cX12_climbsBy 12 = .ok (.iaload, 1) := by decide +kernel
theorem dX12_climbsBy_13 : decode cX12_climbsBy 13 = .ok (.if_icmp .ge 39, 3) := by decide +kernel
theorem dX12_climbsBy_16 : decode cX12_climbsBy 16 = .ok (.aload_n 0, 1) := by decide +kernel
theorem dX12_climbsBy_17 : decode cX12_climbsBy 17 = .ok (.getfield 13, 3) := by decide +kernel
theorem dX12_climbsBy_20 : decode cX12_climbsBy 20 = .ok (.iconst 5, 1) := by decide +kernel
theorem dX12_climbsBy_21 : decode cX12_climbsBy 21 = .ok (.iaload, 1) := by decide +kernel
theorem dX12_climbsBy_22 : decode cX12_climbsBy 22 = .ok (.i2l, 1) := by decide +kernel
theorem dX12_climbsBy_23 : decode cX12_climbsBy 23 = .ok (.iload 4, 2) := by decide +kernel
theorem dX12_climbsBy_25 : decode cX12_climbsBy 25 = .ok (.invokestatic 186, 3) := by decide +kernel
theorem dX12_climbsBy_28 : decode cX12_climbsBy 28 = .ok (.ifCond .eq 18, 3) := by decide +kernel
theorem dX12_climbsBy_31 : decode cX12_climbsBy 31 = .ok (.lload_n 2, 1) := by decide +kernel
theorem dX12_climbsBy_32 : decode cX12_climbsBy 32 = .ok (.aload_n 0, 1) := by decide +kernel
theorem dX12_climbsBy_33 : decode cX12_climbsBy 33 = .ok (.getfield 49, 3) := by decide +kernel
theorem dX12_climbsBy_36 : decode cX12_climbsBy 36 = .ok (.bipush 14, 2) := by decide +kernel
theorem dX12_climbsBy_38 : decode cX12_climbsBy 38 = .ok (.iload_n 1, 1) := by decide +kernel
theorem dX12_climbsBy_39 : decode cX12_climbsBy 39 = .ok (.imul, 1) := by decide +kernel
theorem dX12_climbsBy_40 : decode cX12_climbsBy 40 = .ok (.iload 4, 2) := by decide +kernel
theorem dX12_climbsBy_42 : decode cX12_climbsBy 42 = .ok (.iadd, 1) := by decide +kernel
theorem dX12_climbsBy_43 : decode cX12_climbsBy 43 = .ok (.laload, 1) := by decide +kernel
theorem dX12_climbsBy_44 : decode cX12_climbsBy 44 = .ok (.ladd, 1) := by decide +kernel
theorem dX12_climbsBy_45 : decode cX12_climbsBy 45 = .ok (.lstore_n 2, 1) := by decide +kernel
theorem dX12_climbsBy_46 : decode cX12_climbsBy 46 = .ok (.iinc 4 1, 3) := by decide +kernel
theorem dX12_climbsBy_49 : decode cX12_climbsBy 49 = .ok (.goto (-44), 3) := by decide +kernel
theorem dX12_climbsBy_52 : decode cX12_climbsBy 52 = .ok (.lload_n 2, 1) := by decide +kernel
theorem dX12_climbsBy_53 : decode cX12_climbsBy 53 = .ok (.lreturn, 1) := by decide +kernel
theorem dX12_climbsOf_0 : decode cX12_climbsOf 0 = .ok (.lconst 0, 1) := by decide +kernel
theorem dX12_climbsOf_1 : decode cX12_climbsOf 1 = .ok (.lstore_n 3, 1) := by decide +kernel
theorem dX12_climbsOf_2 : decode cX12_climbsOf 2 = .ok (.iconst 0, 1) := by decide +kernel
theorem dX12_climbsOf_3 : decode cX12_climbsOf 3 = .ok (.istore 5, 2) := by decide +kernel
theorem dX12_climbsOf_5 : decode cX12_climbsOf 5 = .ok (.iload 5, 2) := by decide +kernel
theorem dX12_climbsOf_7 : decode cX12_climbsOf 7 = .ok (.iconst 1, 1) := by decide +kernel
theorem dX12_climbsOf_8 : decode cX12_climbsOf 8 = .ok (.aload_n 0, 1) := by decide +kernel
theorem dX12_climbsOf_9 : decode cX12_climbsOf 9 = .ok (.getfield 13, 3) := by decide +kernel
theorem dX12_climbsOf_12 : decode cX12_climbsOf 12 = .ok (.iconst 1, 1) := by decide +kernel
theorem dX12_climbsOf_13 : decode cX12_climbsOf 13 = .ok (.iaload, 1) := by decide +kernel
theorem dX12_climbsOf_14 : decode cX12_climbsOf 14 = .ok (.ishl, 1) := by decide +kernel
theorem dX12_climbsOf_15 : decode cX12_climbsOf 15 = .ok (.if_icmp .ge 34, 3) := by decide +kernel
theorem dX12_climbsOf_18 : decode cX12_climbsOf 18 = .ok (.iload 5, 2) := by decide +kernel
theorem dX12_climbsOf_20 : decode cX12_climbsOf 20 = .ok (.invokestatic 334, 3) := by decide +kernel
theorem dX12_climbsOf_23 : decode cX12_climbsOf 23 = .ok (.i2l, 1) := by decide +kernel
theorem dX12_climbsOf_24 : decode cX12_climbsOf 24 = .ok (.iload_n 1, 1) := by decide +kernel
theorem dX12_climbsOf_25 : decode cX12_climbsOf 25 = .ok (.i2l, 1) := by decide +kernel
theorem dX12_climbsOf_26 : decode cX12_climbsOf 26 = .ok (.iload_n 2, 1) := by decide +kernel
theorem dX12_climbsOf_27 : decode cX12_climbsOf 27 = .ok (.i2l, 1) := by decide +kernel
theorem dX12_climbsOf_28 : decode cX12_climbsOf 28 = .ok (.invokestatic 144, 3) := by decide +kernel
theorem dX12_climbsOf_31 : decode cX12_climbsOf 31 = .ok (.ifCond .eq 12, 3) := by decide +kernel
theorem dX12_climbsOf_34 : decode cX12_climbsOf 34 = .ok (.lload_n 3, 1) := by decide +kernel
theorem dX12_climbsOf_35 : decode cX12_climbsOf 35 = .ok (.aload_n 0, 1) := by decide +kernel
theorem dX12_climbsOf_36 : decode cX12_climbsOf 36 = .ok (.iload 5, 2) := by decide +kernel
theorem dX12_climbsOf_38 : decode cX12_climbsOf 38 = .ok (.invokevirtual 337, 3) := by decide +kernel
theorem dX12_climbsOf_41 : decode cX12_climbsOf 41 = .ok (.ladd, 1) := by decide +kernel
theorem dX12_climbsOf_42 : decode cX12_climbsOf 42 = .ok (.lstore_n 3, 1) := by decide +kernel
theorem dX12_climbsOf_43 : decode cX12_climbsOf 43 = .ok (.iinc 5 1, 3) := by decide +kernel
theorem dX12_climbsOf_46 : decode cX12_climbsOf 46 = .ok (.goto (-41), 3) := by decide +kernel
theorem dX12_climbsOf_49 : decode cX12_climbsOf 49 = .ok (.lload_n 3, 1) := by decide +kernel
theorem dX12_climbsOf_50 : decode cX12_climbsOf 50 = .ok (.lreturn, 1) := by decide +kernel
theorem dX12_laysClimbs_0 : decode cX12_laysClimbs 0 = .ok (.iconst 1, 1) := by decide +kernel
theorem dX12_laysClimbs_1 : decode cX12_laysClimbs 1 = .ok (.aload_n 0, 1) := by decide +kernel
theorem dX12_laysClimbs_2 : decode cX12_laysClimbs 2 = .ok (.getfield 13, 3) := by decide +kernel
theorem dX12_laysClimbs_5 : decode cX12_laysClimbs 5 = .ok (.iconst 1, 1) := by decide +kernel
theorem dX12_laysClimbs_6 : decode cX12_laysClimbs 6 = .ok (.iaload, 1) := by decide +kernel
theorem dX12_laysClimbs_7 : decode cX12_laysClimbs 7 = .ok (.ishl, 1) := by decide +kernel
theorem dX12_laysClimbs_8 : decode cX12_laysClimbs 8 = .ok (.istore_n 2, 1) := by decide +kernel
theorem dX12_laysClimbs_9 : decode cX12_laysClimbs 9 = .ok (.iconst 0, 1) := by decide +kernel
theorem dX12_laysClimbs_10 : decode cX12_laysClimbs 10 = .ok (.istore_n 3, 1) := by decide +kernel
theorem dX12_laysClimbs_11 : decode cX12_laysClimbs 11 = .ok (.iload_n 3, 1) := by decide +kernel
theorem dX12_laysClimbs_12 : decode cX12_laysClimbs 12 = .ok (.bipush 14, 2) := by decide +kernel
theorem dX12_laysClimbs_14 : decode cX12_laysClimbs 14 = .ok (.iload_n 2, 1) := by decide +kernel
theorem dX12_laysClimbs_15 : decode cX12_laysClimbs 15 = .ok (.imul, 1) := by decide +kernel
theorem dX12_laysClimbs_16 : decode cX12_laysClimbs 16 = .ok (.if_icmp .ge 16, 3) := by decide +kernel
theorem dX12_laysClimbs_19 : decode cX12_laysClimbs 19 = .ok (.aload_n 0, 1) := by decide +kernel
theorem dX12_laysClimbs_20 : decode cX12_laysClimbs 20 = .ok (.getfield 49, 3) := by decide +kernel
theorem dX12_laysClimbs_23 : decode cX12_laysClimbs 23 = .ok (.iload_n 3, 1) := by decide +kernel
theorem dX12_laysClimbs_24 : decode cX12_laysClimbs 24 = .ok (.lconst 0, 1) := by decide +kernel
theorem dX12_laysClimbs_25 : decode cX12_laysClimbs 25 = .ok (.lastore, 1) := by decide +kernel
theorem dX12_laysClimbs_26 : decode cX12_laysClimbs 26 = .ok (.iinc 3 1, 3) := by decide +kernel
theorem dX12_laysClimbs_29 : decode cX12_laysClimbs 29 = .ok (.goto (-18), 3) := by decide +kernel
theorem dX12_laysClimbs_32 : decode cX12_laysClimbs 32 = .ok (.iconst 0, 1) := by decide +kernel
theorem dX12_laysClimbs_33 : decode cX12_laysClimbs 33 = .ok (.istore_n 3, 1) := by decide +kernel
theorem dX12_laysClimbs_34 : decode cX12_laysClimbs 34 = .ok (.iload_n 3, 1) := by decide +kernel
theorem dX12_laysClimbs_35 : decode cX12_laysClimbs 35 = .ok (.aload_n 0, 1) := by decide +kernel
theorem dX12_laysClimbs_36 : decode cX12_laysClimbs 36 = .ok (.getfield 13, 3) := by decide +kernel
theorem dX12_laysClimbs_39 : decode cX12_laysClimbs 39 = .ok (.iconst 1, 1) := by decide +kernel
theorem dX12_laysClimbs_40 : decode cX12_laysClimbs 40 = .ok (.iaload, 1) := by decide +kernel
theorem dX12_laysClimbs_41 : decode cX12_laysClimbs 41 = .ok (.if_icmp .ge 39, 3) := by decide +kernel
theorem dX12_laysClimbs_44 : decode cX12_laysClimbs 44 = .ok (.iload_n 1, 1) := by decide +kernel
theorem dX12_laysClimbs_45 : decode cX12_laysClimbs 45 = .ok (.aload_n 0, 1) := by decide +kernel
theorem dX12_laysClimbs_46 : decode cX12_laysClimbs 46 = .ok (.getfield 13, 3) := by decide +kernel
theorem dX12_laysClimbs_49 : decode cX12_laysClimbs 49 = .ok (.iconst 4, 1) := by decide +kernel
theorem dX12_laysClimbs_50 : decode cX12_laysClimbs 50 = .ok (.iaload, 1) := by decide +kernel
theorem dX12_laysClimbs_51 : decode cX12_laysClimbs 51 = .ok (.iand, 1) := by decide +kernel
theorem dX12_laysClimbs_52 : decode cX12_laysClimbs 52 = .ok (.i2l, 1) := by decide +kernel
theorem dX12_laysClimbs_53 : decode cX12_laysClimbs 53 = .ok (.iload_n 3, 1) := by decide +kernel
theorem dX12_laysClimbs_54 : decode cX12_laysClimbs 54 = .ok (.invokestatic 186, 3) := by decide +kernel
theorem dX12_laysClimbs_57 : decode cX12_laysClimbs 57 = .ok (.ifCond .eq 17, 3) := by decide +kernel
theorem dX12_laysClimbs_60 : decode cX12_laysClimbs 60 = .ok (.aload_n 0, 1) := by decide +kernel
theorem dX12_laysClimbs_61 : decode cX12_laysClimbs 61 = .ok (.getfield 49, 3) := by decide +kernel
theorem dX12_laysClimbs_64 : decode cX12_laysClimbs 64 = .ok (.bipush 14, 2) := by decide +kernel
theorem dX12_laysClimbs_66 : decode cX12_laysClimbs 66 = .ok (.iconst 1, 1) := by decide +kernel
theorem dX12_laysClimbs_67 : decode cX12_laysClimbs 67 = .ok (.iload_n 3, 1) := by decide +kernel
theorem dX12_laysClimbs_68 : decode cX12_laysClimbs 68 = .ok (.ishl, 1) := by decide +kernel
theorem dX12_laysClimbs_69 : decode cX12_laysClimbs 69 = .ok (.imul, 1) := by decide +kernel
theorem dX12_laysClimbs_70 : decode cX12_laysClimbs 70 = .ok (.iload_n 3, 1) := by decide +kernel
theorem dX12_laysClimbs_71 : decode cX12_laysClimbs 71 = .ok (.iadd, 1) := by decide +kernel
theorem dX12_laysClimbs_72 : decode cX12_laysClimbs 72 = .ok (.lconst 1, 1) := by decide +kernel
theorem dX12_laysClimbs_73 : decode cX12_laysClimbs 73 = .ok (.lastore, 1) := by decide +kernel
theorem dX12_laysClimbs_74 : decode cX12_laysClimbs 74 = .ok (.iinc 3 1, 3) := by decide +kernel
theorem dX12_laysClimbs_77 : decode cX12_laysClimbs 77 = .ok (.goto (-43), 3) := by decide +kernel
theorem dX12_laysClimbs_80 : decode cX12_laysClimbs 80 = .ok (.iconst 0, 1) := by decide +kernel
theorem dX12_laysClimbs_81 : decode cX12_laysClimbs 81 = .ok (.istore_n 3, 1) := by decide +kernel
theorem dX12_laysClimbs_82 : decode cX12_laysClimbs 82 = .ok (.iload_n 3, 1) := by decide +kernel
theorem dX12_laysClimbs_83 : decode cX12_laysClimbs 83 = .ok (.iload_n 2, 1) := by decide +kernel
theorem dX12_laysClimbs_84 : decode cX12_laysClimbs 84 = .ok (.if_icmp .ge 129, 3) := by decide +kernel
theorem dX12_laysClimbs_87 : decode cX12_laysClimbs 87 = .ok (.iload_n 3, 1) := by decide +kernel
theorem dX12_laysClimbs_88 : decode cX12_laysClimbs 88 = .ok (.iload_n 1, 1) := by decide +kernel
theorem dX12_laysClimbs_89 : decode cX12_laysClimbs 89 = .ok (.iconst (-1), 1) := by decide +kernel
theorem dX12_laysClimbs_90 : decode cX12_laysClimbs 90 = .ok (.ixor, 1) := by decide +kernel
theorem dX12_laysClimbs_91 : decode cX12_laysClimbs 91 = .ok (.iand, 1) := by decide +kernel
theorem dX12_laysClimbs_92 : decode cX12_laysClimbs 92 = .ok (.ifCond .eq 6, 3) := by decide +kernel
theorem dX12_laysClimbs_95 : decode cX12_laysClimbs 95 = .ok (.goto 112, 3) := by decide +kernel
theorem dX12_laysClimbs_98 : decode cX12_laysClimbs 98 = .ok (.iconst 0, 1) := by decide +kernel
theorem dX12_laysClimbs_99 : decode cX12_laysClimbs 99 = .ok (.istore 4, 2) := by decide +kernel
theorem dX12_laysClimbs_101 : decode cX12_laysClimbs 101 = .ok (.iload 4, 2) := by decide +kernel
theorem dX12_laysClimbs_103 : decode cX12_laysClimbs 103 = .ok (.aload_n 0, 1) := by decide +kernel
theorem dX12_laysClimbs_104 : decode cX12_laysClimbs 104 = .ok (.getfield 13, 3) := by decide +kernel
theorem dX12_laysClimbs_107 : decode cX12_laysClimbs 107 = .ok (.iconst 1, 1) := by decide +kernel
theorem dX12_laysClimbs_108 : decode cX12_laysClimbs 108 = .ok (.iaload, 1) := by decide +kernel
theorem dX12_laysClimbs_109 : decode cX12_laysClimbs 109 = .ok (.if_icmp .ge 98, 3) := by decide +kernel
theorem dX12_laysClimbs_112 : decode cX12_laysClimbs 112 = .ok (.aload_n 0, 1) := by decide +kernel
theorem dX12_laysClimbs_113 : decode cX12_laysClimbs 113 = .ok (.getfield 49, 3) := by decide +kernel
theorem dX12_laysClimbs_116 : decode cX12_laysClimbs 116 = .ok (.bipush 14, 2) := by decide +kernel
theorem dX12_laysClimbs_118 : decode cX12_laysClimbs 118 = .ok (.iload_n 3, 1) := by decide +kernel
theorem dX12_laysClimbs_119 : decode cX12_laysClimbs 119 = .ok (.imul, 1) := by decide +kernel
theorem dX12_laysClimbs_120 : decode cX12_laysClimbs 120 = .ok (.iload 4, 2) := by decide +kernel
theorem dX12_laysClimbs_122 : decode cX12_laysClimbs 122 = .ok (.iadd, 1) := by decide +kernel
theorem dX12_laysClimbs_123 : decode cX12_laysClimbs 123 = .ok (.laload, 1) := by decide +kernel
theorem dX12_laysClimbs_124 : decode cX12_laysClimbs 124 = .ok (.lstore 5, 2) := by decide +kernel
theorem dX12_laysClimbs_126 : decode cX12_laysClimbs 126 = .ok (.aload_n 0, 1) := by decide +kernel
theorem dX12_laysClimbs_127 : decode cX12_laysClimbs 127 = .ok (.getfield 33, 3) := by decide +kernel
theorem dX12_laysClimbs_130 : decode cX12_laysClimbs 130 = .ok (.iload 4, 2) := by decide +kernel
theorem dX12_laysClimbs_132 : decode cX12_laysClimbs 132 = .ok (.iaload, 1) := by decide +kernel
theorem dX12_laysClimbs_133 : decode cX12_laysClimbs 133 = .ok (.iload_n 1, 1) := by decide +kernel
theorem dX12_laysClimbs_134 : decode cX12_laysClimbs 134 = .ok (.iand, 1) := by decide +kernel
theorem dX12_laysClimbs_135 : decode cX12_laysClimbs 135 = .ok (.iload_n 3, 1) := by decide +kernel
theorem dX12_laysClimbs_136 : decode cX12_laysClimbs 136 = .ok (.iconst (-1), 1) := by decide +kernel
theorem dX12_laysClimbs_137 : decode cX12_laysClimbs 137 = .ok (.ixor, 1) := by decide +kernel
theorem dX12_laysClimbs_138 : decode cX12_laysClimbs 138 = .ok (.iand, 1) := by decide +kernel
theorem dX12_laysClimbs_139 : decode cX12_laysClimbs 139 = .ok (.istore 7, 2) := by decide +kernel
theorem dX12_laysClimbs_141 : decode cX12_laysClimbs 141 = .ok (.iconst 0, 1) := by decide +kernel
theorem dX12_laysClimbs_142 : decode cX12_laysClimbs 142 = .ok (.istore 8, 2) := by decide +kernel
theorem dX12_laysClimbs_144 : decode cX12_laysClimbs 144 = .ok (.iload 8, 2) := by decide +kernel
theorem dX12_laysClimbs_146 : decode cX12_laysClimbs 146 = .ok (.aload_n 0, 1) := by decide +kernel
theorem dX12_laysClimbs_147 : decode cX12_laysClimbs 147 = .ok (.getfield 13, 3) := by decide +kernel
theorem dX12_laysClimbs_150 : decode cX12_laysClimbs 150 = .ok (.iconst 1, 1) := by decide +kernel
theorem dX12_laysClimbs_151 : decode cX12_laysClimbs 151 = .ok (.iaload, 1) := by decide +kernel
theorem dX12_laysClimbs_152 : decode cX12_laysClimbs 152 = .ok (.if_icmp .ge 49, 3) := by decide +kernel
theorem dX12_laysClimbs_155 : decode cX12_laysClimbs 155 = .ok (.lload 5, 2) := by decide +kernel
theorem dX12_laysClimbs_157 : decode cX12_laysClimbs 157 = .ok (.lconst 0, 1) := by decide +kernel
theorem dX12_laysClimbs_158 : decode cX12_laysClimbs 158 = .ok (.lcmp, 1) := by decide +kernel
theorem dX12_laysClimbs_159 : decode cX12_laysClimbs 159 = .ok (.ifCond .le 42, 3) := by decide +kernel
theorem dX12_laysClimbs_162 : decode cX12_laysClimbs 162 = .ok (.iload 7, 2) := by decide +kernel
theorem dX12_laysClimbs_164 : decode cX12_laysClimbs 164 = .ok (.i2l, 1) := by decide +kernel
theorem dX12_laysClimbs_165 : decode cX12_laysClimbs 165 = .ok (.iload 8, 2) := by decide +kernel
theorem dX12_laysClimbs_167 : decode cX12_laysClimbs 167 = .ok (.invokestatic 186, 3) := by decide +kernel
theorem dX12_laysClimbs_170 : decode cX12_laysClimbs 170 = .ok (.ifCond .eq 25, 3) := by decide +kernel
theorem dX12_laysClimbs_173 : decode cX12_laysClimbs 173 = .ok (.aload_n 0, 1) := by decide +kernel
theorem dX12_laysClimbs_174 : decode cX12_laysClimbs 174 = .ok (.getfield 49, 3) := by decide +kernel
theorem dX12_laysClimbs_177 : decode cX12_laysClimbs 177 = .ok (.bipush 14, 2) := by decide +kernel
theorem dX12_laysClimbs_179 : decode cX12_laysClimbs 179 = .ok (.iload_n 3, 1) := by decide +kernel
theorem dX12_laysClimbs_180 : decode cX12_laysClimbs 180 = .ok (.iconst 1, 1) := by decide +kernel
theorem dX12_laysClimbs_181 : decode cX12_laysClimbs 181 = .ok (.iload 8, 2) := by decide +kernel
theorem dX12_laysClimbs_183 : decode cX12_laysClimbs 183 = .ok (.ishl, 1) := by decide +kernel
theorem dX12_laysClimbs_184 : decode cX12_laysClimbs 184 = .ok (.ior, 1) := by decide +kernel
theorem dX12_laysClimbs_185 : decode cX12_laysClimbs 185 = .ok (.imul, 1) := by decide +kernel
theorem dX12_laysClimbs_186 : decode cX12_laysClimbs 186 = .ok (.iload 8, 2) := by decide +kernel
theorem dX12_laysClimbs_188 : decode cX12_laysClimbs 188 = .ok (.iadd, 1) := by decide +kernel
theorem dX12_laysClimbs_189 : decode cX12_laysClimbs 189 = .ok (.dup2, 1) := by decide +kernel
theorem dX12_laysClimbs_190 : decode cX12_laysClimbs 190 = .ok (.laload, 1) := by decide +kernel
theorem dX12_laysClimbs_191 : decode cX12_laysClimbs 191 = .ok (.lload 5, 2) := by decide +kernel
theorem dX12_laysClimbs_193 : decode cX12_laysClimbs 193 = .ok (.ladd, 1) := by decide +kernel
theorem dX12_laysClimbs_194 : decode cX12_laysClimbs 194 = .ok (.lastore, 1) := by decide +kernel
theorem dX12_laysClimbs_195 : decode cX12_laysClimbs 195 = .ok (.iinc 8 1, 3) := by decide +kernel
theorem dX12_laysClimbs_198 : decode cX12_laysClimbs 198 = .ok (.goto (-54), 3) := by decide +kernel
theorem dX12_laysClimbs_201 : decode cX12_laysClimbs 201 = .ok (.iinc 4 1, 3) := by decide +kernel
theorem dX12_laysClimbs_204 : decode cX12_laysClimbs 204 = .ok (.goto (-103), 3) := by decide +kernel
theorem dX12_laysClimbs_207 : decode cX12_laysClimbs 207 = .ok (.iinc 3 1, 3) := by decide +kernel
theorem dX12_laysClimbs_210 : decode cX12_laysClimbs 210 = .ok (.goto (-128), 3) := by decide +kernel
theorem dX12_laysClimbs_213 : decode cX12_laysClimbs 213 = .ok (.return_, 1) := by decide +kernel
theorem dX12_laysClimbsOf_0 : decode cX12_laysClimbsOf 0 = .ok (.aload_n 0, 1) := by decide +kernel
theorem dX12_laysClimbsOf_1 : decode cX12_laysClimbsOf 1 = .ok (.iload_n 1, 1) := by decide +kernel
theorem dX12_laysClimbsOf_2 : decode cX12_laysClimbsOf 2 = .ok (.invokevirtual 257, 3) := by decide +kernel
theorem dX12_laysClimbsOf_5 : decode cX12_laysClimbsOf 5 = .ok (.aload_n 0, 1) := by decide +kernel
theorem dX12_laysClimbsOf_6 : decode cX12_laysClimbsOf 6 = .ok (.aload_n 0, 1) := by decide +kernel
theorem dX12_laysClimbsOf_7 : decode cX12_laysClimbsOf 7 = .ok (.invokevirtual 260, 3) := by decide +kernel
theorem dX12_laysClimbsOf_10 : decode cX12_laysClimbsOf 10 = .ok (.invokevirtual 329, 3) := by decide +kernel
theorem dX12_laysClimbsOf_13 : decode cX12_laysClimbsOf 13 = .ok (.return_, 1) := by decide +kernel
theorem kw_1249 : Cond.fieldLink "FootholdWallModel" 49 "FootholdWallModel" "climbs" "[J" ∈ gw := gw_of (tb_of 1249 (by decide +kernel)) (by decide +kernel)
theorem kw_1622 : Cond.constantLong "FootholdWallModel" 341 (-2) ∈ gw := gw_of (tb_of 1622 (by decide +kernel)) (by decide +kernel)
theorem kw_1623 : Cond.methodLink "FootholdWallModel" 329 yX12_laysClimbs ∈ gw := gw_of (tb_of 1623 (by decide +kernel)) (by decide +kernel)
theorem kw_1625 : Cond.instanceMethod yX12_laysClimbs ∈ gw := gw_of (tb_of 1625 (by decide +kernel)) (by decide +kernel)
theorem kw_1626 : Cond.code yX12_laysClimbs cX12_laysClimbs 9 none ∈ gw := gw_of (tb_of 1626 (by decide +kernel)) (by decide +kernel)
theorem kw_1627 : Cond.methodLink "FootholdWallModel" 343 yX12_climbsOf ∈ gw := gw_of (tb_of 1627 (by decide +kernel)) (by decide +kernel)
theorem kw_1629 : Cond.instanceMethod yX12_climbsOf ∈ gw := gw_of (tb_of 1629 (by decide +kernel)) (by decide +kernel)
theorem kw_1630 : Cond.code yX12_climbsOf cX12_climbsOf 6 (some (.long)) ∈ gw := gw_of (tb_of 1630 (by decide +kernel)) (by decide +kernel)
theorem kw_1634 : Cond.methodLink "FootholdWallModel" 337 yX12_climbsBy ∈ gw := gw_of (tb_of 1634 (by decide +kernel)) (by decide +kernel)
theorem kw_1636 : Cond.instanceMethod yX12_climbsBy ∈ gw := gw_of (tb_of 1636 (by decide +kernel)) (by decide +kernel)
theorem kw_1637 : Cond.code yX12_climbsBy cX12_climbsBy 5 (some (.long)) ∈ gw := gw_of (tb_of 1637 (by decide +kernel)) (by decide +kernel)
theorem kw_1642 : Cond.constantLong "FootholdWallModel" 347 7 ∈ gw := gw_of (tb_of 1642 (by decide +kernel)) (by decide +kernel)
theorem kw_1643 : Cond.constantLong "FootholdWallModel" 349 (-3) ∈ gw := gw_of (tb_of 1643 (by decide +kernel)) (by decide +kernel)
theorem kw_1644 : Cond.methodLink "FootholdWallModel" 351 yX12_laysClimbsOf ∈ gw := gw_of (tb_of 1644 (by decide +kernel)) (by decide +kernel)
theorem kw_1646 : Cond.instanceMethod yX12_laysClimbsOf ∈ gw := gw_of (tb_of 1646 (by decide +kernel)) (by decide +kernel)
theorem kw_1647 : Cond.code yX12_laysClimbsOf cX12_laysClimbsOf 2 none ∈ gw := gw_of (tb_of 1647 (by decide +kernel)) (by decide +kernel)
theorem ks_88 : Cond.selects RX12 yX12_laysClimbs yX12_laysClimbs ∈ gw := gw_of (pv_of 88 (by decide +kernel)) (by decide +kernel)
theorem ks_89 : Cond.selects RX12 yX12_climbsOf yX12_climbsOf ∈ gw := gw_of (pv_of 89 (by decide +kernel)) (by decide +kernel)
theorem ks_90 : Cond.selects RX12 yX12_climbsBy yX12_climbsBy ∈ gw := gw_of (pv_of 90 (by decide +kernel)) (by decide +kernel)
theorem ks_91 : Cond.selects RX12 yX12_laysClimbsOf yX12_laysClimbsOf ∈ gw := gw_of (pv_of 91 (by decide +kernel)) (by decide +kernel)
