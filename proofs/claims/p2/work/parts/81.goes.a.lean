theorem dX12_goes_0 : decode cX12_goes 0 = .ok (.aload_n 0, 1) := by decide +kernel
theorem dX12_goes_1 : decode cX12_goes 1 = .ok (.iconst 0, 1) := by decide +kernel
theorem dX12_goes_2 : decode cX12_goes 2 = .ok (.putfield 1, 3) := by decide +kernel
theorem dX12_goes_5 : decode cX12_goes 5 = .ok (.aload_n 0, 1) := by decide +kernel
theorem dX12_goes_6 : decode cX12_goes 6 = .ok (.iload_n 1, 1) := by decide +kernel
theorem dX12_goes_7 : decode cX12_goes 7 = .ok (.i2l, 1) := by decide +kernel
theorem dX12_goes_8 : decode cX12_goes 8 = .ok (.invokevirtual 222, 3) := by decide +kernel
theorem dX12_goes_11 : decode cX12_goes 11 = .ok (.ifCond .ne 6, 3) := by decide +kernel
theorem dX12_goes_14 : decode cX12_goes 14 = .ok (.bipush (-2), 2) := by decide +kernel
theorem dX12_goes_16 : decode cX12_goes 16 = .ok (.ireturn, 1) := by decide +kernel
theorem dX12_goes_17 : decode cX12_goes 17 = .ok (.aload_n 0, 1) := by decide +kernel
theorem dX12_goes_18 : decode cX12_goes 18 = .ok (.iload_n 1, 1) := by decide +kernel
theorem dX12_goes_19 : decode cX12_goes 19 = .ok (.invokevirtual 304, 3) := by decide +kernel
theorem dX12_goes_22 : decode cX12_goes 22 = .ok (.ifCond .ne 6, 3) := by decide +kernel
theorem dX12_goes_25 : decode cX12_goes 25 = .ok (.bipush (-5), 2) := by decide +kernel
theorem dX12_goes_27 : decode cX12_goes 27 = .ok (.ireturn, 1) := by decide +kernel
theorem dX12_goes_28 : decode cX12_goes 28 = .ok (.aload_n 0, 1) := by decide +kernel
theorem dX12_goes_29 : decode cX12_goes 29 = .ok (.invokevirtual 295, 3) := by decide +kernel
theorem dX12_goes_32 : decode cX12_goes 32 = .ok (.aload_n 0, 1) := by decide +kernel
theorem dX12_goes_33 : decode cX12_goes 33 = .ok (.iload_n 1, 1) := by decide +kernel
theorem dX12_goes_34 : decode cX12_goes 34 = .ok (.invokevirtual 298, 3) := by decide +kernel
theorem dX12_goes_37 : decode cX12_goes 37 = .ok (.istore_n 2, 1) := by decide +kernel
theorem dX12_goes_38 : decode cX12_goes 38 = .ok (.aload_n 0, 1) := by decide +kernel
theorem dX12_goes_39 : decode cX12_goes 39 = .ok (.invokevirtual 301, 3) := by decide +kernel
theorem dX12_goes_42 : decode cX12_goes 42 = .ok (.iload_n 2, 1) := by decide +kernel
theorem dX12_goes_43 : decode cX12_goes 43 = .ok (.ireturn, 1) := by decide +kernel
theorem dX12_leaves_0 : decode cX12_leaves 0 = .ok (.aload_n 0, 1) := by decide +kernel
theorem dX12_leaves_1 : decode cX12_leaves 1 = .ok (.iconst 0, 1) := by decide +kernel
theorem dX12_leaves_2 : decode cX12_leaves 2 = .ok (.putfield 1, 3) := by decide +kernel
theorem dX12_leaves_5 : decode cX12_leaves 5 = .ok (.aload_n 0, 1) := by decide +kernel
theorem dX12_leaves_6 : decode cX12_leaves 6 = .ok (.iload_n 1, 1) := by decide +kernel
theorem dX12_leaves_7 : decode cX12_leaves 7 = .ok (.i2l, 1) := by decide +kernel
theorem dX12_leaves_8 : decode cX12_leaves 8 = .ok (.invokevirtual 222, 3) := by decide +kernel
theorem dX12_leaves_11 : decode cX12_leaves 11 = .ok (.ifCond .eq 12, 3) := by decide +kernel
theorem dX12_leaves_14 : decode cX12_leaves 14 = .ok (.aload_n 0, 1) := by decide +kernel
theorem dX12_leaves_15 : decode cX12_leaves 15 = .ok (.iload_n 2, 1) := by decide +kernel
theorem dX12_leaves_16 : decode cX12_leaves 16 = .ok (.i2l, 1) := by decide +kernel
theorem dX12_leaves_17 : decode cX12_leaves 17 = .ok (.invokevirtual 222, 3) := by decide +kernel
theorem dX12_leaves_20 : decode cX12_leaves 20 = .ok (.ifCond .ne 6, 3) := by decide +kernel
theorem dX12_leaves_23 : decode cX12_leaves 23 = .ok (.bipush (-2), 2) := by decide +kernel
theorem dX12_leaves_25 : decode cX12_leaves 25 = .ok (.ireturn, 1) := by decide +kernel
theorem dX12_leaves_26 : decode cX12_leaves 26 = .ok (.aload_n 0, 1) := by decide +kernel
theorem dX12_leaves_27 : decode cX12_leaves 27 = .ok (.iload_n 2, 1) := by decide +kernel
theorem dX12_leaves_28 : decode cX12_leaves 28 = .ok (.invokevirtual 304, 3) := by decide +kernel
theorem dX12_leaves_31 : decode cX12_leaves 31 = .ok (.ifCond .ne 6, 3) := by decide +kernel
theorem dX12_leaves_34 : decode cX12_leaves 34 = .ok (.bipush (-5), 2) := by decide +kernel
theorem dX12_leaves_36 : decode cX12_leaves 36 = .ok (.ireturn, 1) := by decide +kernel
theorem dX12_leaves_37 : decode cX12_leaves 37 = .ok (.aload_n 0, 1) := by decide +kernel
theorem dX12_leaves_38 : decode cX12_leaves 38 = .ok (.invokevirtual 366, 3) := by decide +kernel
theorem dX12_leaves_41 : decode cX12_leaves 41 = .ok (.aload_n 0, 1) := by decide +kernel
theorem dX12_leaves_42 : decode cX12_leaves 42 = .ok (.iload_n 2, 1) := by decide +kernel
theorem dX12_leaves_43 : decode cX12_leaves 43 = .ok (.invokevirtual 298, 3) := by decide +kernel
theorem dX12_leaves_46 : decode cX12_leaves 46 = .ok (.pop, 1) := by decide +kernel
theorem dX12_leaves_47 : decode cX12_leaves 47 = .ok (.aload_n 0, 1) := by decide +kernel
theorem dX12_leaves_48 : decode cX12_leaves 48 = .ok (.iload_n 1, 1) := by decide +kernel
theorem dX12_leaves_49 : decode cX12_leaves 49 = .ok (.invokevirtual 257, 3) := by decide +kernel
theorem dX12_leaves_52 : decode cX12_leaves 52 = .ok (.aload_n 0, 1) := by decide +kernel
theorem dX12_leaves_53 : decode cX12_leaves 53 = .ok (.aload_n 0, 1) := by decide +kernel
theorem dX12_leaves_54 : decode cX12_leaves 54 = .ok (.invokevirtual 260, 3) := by decide +kernel
theorem dX12_leaves_57 : decode cX12_leaves 57 = .ok (.invokevirtual 354, 3) := by decide +kernel
theorem dX12_leaves_60 : decode cX12_leaves 60 = .ok (.istore_n 3, 1) := by decide +kernel
theorem dX12_leaves_61 : decode cX12_leaves 61 = .ok (.aload_n 0, 1) := by decide +kernel
theorem dX12_leaves_62 : decode cX12_leaves 62 = .ok (.invokevirtual 369, 3) := by decide +kernel
theorem dX12_leaves_65 : decode cX12_leaves 65 = .ok (.iload_n 3, 1) := by decide +kernel
theorem dX12_leaves_66 : decode cX12_leaves 66 = .ok (.ifCond .eq 7, 3) := by decide +kernel
theorem dX12_leaves_69 : decode cX12_leaves 69 = .ok (.iconst 1, 1) := by decide +kernel
theorem dX12_leaves_70 : decode cX12_leaves 70 = .ok (.goto 4, 3) := by decide +kernel
theorem dX12_leaves_73 : decode cX12_leaves 73 = .ok (.iconst 0, 1) := by decide +kernel
theorem dX12_leaves_74 : decode cX12_leaves 74 = .ok (.ireturn, 1) := by decide +kernel
theorem dX12_season_0 : decode cX12_season 0 = .ok (.aload_n 0, 1) := by decide +kernel
theorem dX12_season_1 : decode cX12_season 1 = .ok (.iconst 0, 1) := by decide +kernel
theorem dX12_season_2 : decode cX12_season 2 = .ok (.putfield 1, 3) := by decide +kernel
theorem dX12_season_5 : decode cX12_season 5 = .ok (.iload_n 2, 1) := by decide +kernel
theorem dX12_season_6 : decode cX12_season 6 = .ok (.i2l, 1) := by decide +kernel
theorem dX12_season_7 : decode cX12_season 7 = .ok (.lconst 1, 1) := by decide +kernel
theorem dX12_season_8 : decode cX12_season 8 = .ok (.ldc2_w 324, 3) := by decide +kernel
theorem dX12_season_11 : decode cX12_season 11 = .ok (.invokestatic 144, 3) := by decide +kernel
theorem dX12_season_14 : decode cX12_season 14 = .ok (.ifCond .ne 6, 3) := by decide +kernel
theorem dX12_season_17 : decode cX12_season 17 = .ok (.bipush (-3), 2) := by decide +kernel
theorem dX12_season_19 : decode cX12_season 19 = .ok (.ireturn, 1) := by decide +kernel
theorem dX12_season_20 : decode cX12_season 20 = .ok (.aload_n 0, 1) := by decide +kernel
theorem dX12_season_21 : decode cX12_season 21 = .ok (.getfield 13, 3) := by decide +kernel
theorem dX12_season_24 : decode cX12_season 24 = .ok (.iconst 2, 1) := by decide +kernel
theorem dX12_season_25 : decode cX12_season 25 = .ok (.iaload, 1) := by decide +kernel
theorem dX12_season_26 : decode cX12_season 26 = .ok (.ifCond .ne 6, 3) := by decide +kernel
theorem dX12_season_29 : decode cX12_season 29 = .ok (.bipush (-5), 2) := by decide +kernel
theorem dX12_season_31 : decode cX12_season 31 = .ok (.ireturn, 1) := by decide +kernel
theorem dX12_season_32 : decode cX12_season 32 = .ok (.aload_n 0, 1) := by decide +kernel
theorem dX12_season_33 : decode cX12_season 33 = .ok (.invokevirtual 295, 3) := by decide +kernel
theorem dX12_season_36 : decode cX12_season 36 = .ok (.aload_n 0, 1) := by decide +kernel
theorem dX12_season_37 : decode cX12_season 37 = .ok (.iload_n 1, 1) := by decide +kernel
theorem dX12_season_38 : decode cX12_season 38 = .ok (.putfield 321, 3) := by decide +kernel
theorem dX12_season_41 : decode cX12_season 41 = .ok (.iconst 0, 1) := by decide +kernel
theorem dX12_season_42 : decode cX12_season 42 = .ok (.istore_n 3, 1) := by decide +kernel
theorem dX12_season_43 : decode cX12_season 43 = .ok (.iconst 0, 1) := by decide +kernel
theorem dX12_season_44 : decode cX12_season 44 = .ok (.istore 4, 2) := by decide +kernel
theorem dX12_season_46 : decode cX12_season 46 = .ok (.iconst 0, 1) := by decide +kernel
theorem dX12_season_47 : decode cX12_season 47 = .ok (.istore 5, 2) := by decide +kernel
theorem dX12_season_49 : decode cX12_season 49 = .ok (.iload 5, 2) := by decide +kernel
theorem dX12_season_51 : decode cX12_season 51 = .ok (.iload_n 2, 1) := by decide +kernel
theorem dX12_season_52 : decode cX12_season 52 = .ok (.if_icmp .ge 93, 3) := by decide +kernel
theorem dX12_season_55 : decode cX12_season 55 = .ok (.aload_n 0, 1) := by decide +kernel
theorem dX12_season_56 : decode cX12_season 56 = .ok (.iconst 4, 1) := by decide +kernel
theorem dX12_season_57 : decode cX12_season 57 = .ok (.invokevirtual 326, 3) := by decide +kernel
theorem dX12_season_60 : decode cX12_season 60 = .ok (.istore 6, 2) := by decide +kernel
theorem dX12_season_62 : decode cX12_season 62 = .ok (.iload 6, 2) := by decide +kernel
theorem dX12_season_64 : decode cX12_season 64 = .ok (.ifCond .ne 20, 3) := by decide +kernel
theorem dX12_season_67 : decode cX12_season 67 = .ok (.aload_n 0, 1) := by decide +kernel
theorem dX12_season_68 : decode cX12_season 68 = .ok (.getfield 13, 3) := by decide +kernel
theorem dX12_season_71 : decode cX12_season 71 = .ok (.bipush 88, 2) := by decide +kernel
theorem dX12_season_73 : decode cX12_season 73 = .ok (.dup2, 1) := by decide +kernel
theorem dX12_season_74 : decode cX12_season 74 = .ok (.iaload, 1) := by decide +kernel
theorem dX12_season_75 : decode cX12_season 75 = .ok (.iconst 1, 1) := by decide +kernel
theorem dX12_season_76 : decode cX12_season 76 = .ok (.iadd, 1) := by decide +kernel
theorem dX12_season_77 : decode cX12_season 77 = .ok (.iastore, 1) := by decide +kernel
theorem dX12_season_78 : decode cX12_season 78 = .ok (.iconst 1, 1) := by decide +kernel
theorem dX12_season_79 : decode cX12_season 79 = .ok (.istore 4, 2) := by decide +kernel
theorem dX12_season_81 : decode cX12_season 81 = .ok (.goto 58, 3) := by decide +kernel
theorem dX12_season_84 : decode cX12_season 84 = .ok (.iload 6, 2) := by decide +kernel
theorem dX12_season_86 : decode cX12_season 86 = .ok (.iconst 3, 1) := by decide +kernel
theorem dX12_season_87 : decode cX12_season 87 = .ok (.if_icmp .ne 15, 3) := by decide +kernel
theorem dX12_season_90 : decode cX12_season 90 = .ok (.iload 4, 2) := by decide +kernel
theorem dX12_season_92 : decode cX12_season 92 = .ok (.aload_n 0, 1) := by decide +kernel
theorem dX12_season_93 : decode cX12_season 93 = .ok (.invokevirtual 311, 3) := by decide +kernel
theorem dX12_season_96 : decode cX12_season 96 = .ok (.ior, 1) := by decide +kernel
theorem dX12_season_97 : decode cX12_season 97 = .ok (.istore 4, 2) := by decide +kernel
theorem dX12_season_99 : decode cX12_season 99 = .ok (.goto 40, 3) := by decide +kernel
theorem dX12_season_102 : decode cX12_season 102 = .ok (.aload_n 0, 1) := by decide +kernel
theorem dX12_season_103 : decode cX12_season 103 = .ok (.aload_n 0, 1) := by decide +kernel
theorem dX12_season_104 : decode cX12_season 104 = .ok (.getfield 13, 3) := by decide +kernel
theorem dX12_season_107 : decode cX12_season 107 = .ok (.iconst 2, 1) := by decide +kernel
theorem dX12_season_108 : decode cX12_season 108 = .ok (.iaload, 1) := by decide +kernel
theorem dX12_season_109 : decode cX12_season 109 = .ok (.invokevirtual 326, 3) := by decide +kernel
theorem dX12_season_112 : decode cX12_season 112 = .ok (.istore 7, 2) := by decide +kernel
theorem dX12_season_114 : decode cX12_season 114 = .ok (.aload_n 0, 1) := by decide +kernel
theorem dX12_season_115 : decode cX12_season 115 = .ok (.iload 7, 2) := by decide +kernel
theorem dX12_season_117 : decode cX12_season 117 = .ok (.invokevirtual 304, 3) := by decide +kernel
theorem dX12_season_120 : decode cX12_season 120 = .ok (.ifCond .ne 6, 3) := by decide +kernel
theorem dX12_season_123 : decode cX12_season 123 = .ok (.goto 16, 3) := by decide +kernel
theorem dX12_season_126 : decode cX12_season 126 = .ok (.aload_n 0, 1) := by decide +kernel
theorem dX12_season_127 : decode cX12_season 127 = .ok (.iload 7, 2) := by decide +kernel
theorem dX12_season_129 : decode cX12_season 129 = .ok (.invokevirtual 298, 3) := by decide +kernel
theorem dX12_season_132 : decode cX12_season 132 = .ok (.pop, 1) := by decide +kernel
theorem dX12_season_133 : decode cX12_season 133 = .ok (.iconst 1, 1) := by decide +kernel
theorem dX12_season_134 : decode cX12_season 134 = .ok (.istore 4, 2) := by decide +kernel
theorem dX12_season_136 : decode cX12_season 136 = .ok (.iinc 3 1, 3) := by decide +kernel
theorem dX12_season_139 : decode cX12_season 139 = .ok (.iinc 5 1, 3) := by decide +kernel
theorem dX12_season_142 : decode cX12_season 142 = .ok (.goto (-93), 3) := by decide +kernel
theorem dX12_season_145 : decode cX12_season 145 = .ok (.iload 4, 2) := by decide +kernel
theorem dX12_season_147 : decode cX12_season 147 = .ok (.ifCond .eq 7, 3) := by decide +kernel
theorem dX12_season_150 : decode cX12_season 150 = .ok (.aload_n 0, 1) := by decide +kernel
theorem dX12_season_151 : decode cX12_season 151 = .ok (.invokevirtual 301, 3) := by decide +kernel
theorem dX12_season_154 : decode cX12_season 154 = .ok (.iload_n 3, 1) := by decide +kernel
theorem dX12_season_155 : decode cX12_season 155 = .ok (.ireturn, 1) := by decide +kernel
theorem dX12_way_0 : decode cX12_way 0 = .ok (.aload_n 0, 1) := by decide +kernel
theorem dX12_way_1 : decode cX12_way 1 = .ok (.iconst 0, 1) := by decide +kernel
theorem dX12_way_2 : decode cX12_way 2 = .ok (.putfield 1, 3) := by decide +kernel
theorem dX12_way_5 : decode cX12_way 5 = .ok (.aload_n 0, 1) := by decide +kernel
theorem dX12_way_6 : decode cX12_way 6 = .ok (.iload_n 1, 1) := by decide +kernel
theorem dX12_way_7 : decode cX12_way 7 = .ok (.i2l, 1) := by decide +kernel
theorem dX12_way_8 : decode cX12_way 8 = .ok (.invokevirtual 222, 3) := by decide +kernel
theorem dX12_way_11 : decode cX12_way 11 = .ok (.ifCond .eq 21, 3) := by decide +kernel
theorem dX12_way_14 : decode cX12_way 14 = .ok (.iload_n 2, 1) := by decide +kernel
theorem dX12_way_15 : decode cX12_way 15 = .ok (.ifCond .eq 20, 3) := by decide +kernel
theorem dX12_way_18 : decode cX12_way 18 = .ok (.iload_n 2, 1) := by decide +kernel
theorem dX12_way_19 : decode cX12_way 19 = .ok (.i2l, 1) := by decide +kernel
theorem dX12_way_20 : decode cX12_way 20 = .ok (.ldc2_w 318, 3) := by decide +kernel
theorem dX12_way_23 : decode cX12_way 23 = .ok (.ldc2_w 332, 3) := by decide +kernel
theorem dX12_way_26 : decode cX12_way 26 = .ok (.invokestatic 144, 3) := by decide +kernel
theorem dX12_way_29 : decode cX12_way 29 = .ok (.ifCond .ne 6, 3) := by decide +kernel
theorem dX12_way_32 : decode cX12_way 32 = .ok (.bipush (-2), 2) := by decide +kernel
theorem dX12_way_34 : decode cX12_way 34 = .ok (.ireturn, 1) := by decide +kernel
theorem dX12_way_35 : decode cX12_way 35 = .ok (.aload_n 0, 1) := by decide +kernel
theorem dX12_way_36 : decode cX12_way 36 = .ok (.iload_n 1, 1) := by decide +kernel
theorem dX12_way_37 : decode cX12_way 37 = .ok (.invokevirtual 304, 3) := by decide +kernel
theorem dX12_way_40 : decode cX12_way 40 = .ok (.ifCond .ne 5, 3) := by decide +kernel
theorem dX12_way_43 : decode cX12_way 43 = .ok (.iconst (-1), 1) := by decide +kernel
theorem dX12_way_44 : decode cX12_way 44 = .ok (.ireturn, 1) := by decide +kernel
theorem dX12_way_45 : decode cX12_way 45 = .ok (.iload_n 2, 1) := by decide +kernel
theorem dX12_way_46 : decode cX12_way 46 = .ok (.ifCond .ne 10, 3) := by decide +kernel
theorem dX12_way_49 : decode cX12_way 49 = .ok (.aload_n 0, 1) := by decide +kernel
theorem dX12_way_50 : decode cX12_way 50 = .ok (.getfield 266, 3) := by decide +kernel
theorem dX12_way_53 : decode cX12_way 53 = .ok (.goto 27, 3) := by decide +kernel
theorem dX12_way_56 : decode cX12_way 56 = .ok (.iload_n 2, 1) := by decide +kernel
theorem dX12_way_57 : decode cX12_way 57 = .ok (.bipush 10, 2) := by decide +kernel
theorem dX12_way_59 : decode cX12_way 59 = .ok (.isub, 1) := by decide +kernel
theorem dX12_way_60 : decode cX12_way 60 = .ok (.aload_n 0, 1) := by decide +kernel
theorem dX12_way_61 : decode cX12_way 61 = .ok (.getfield 266, 3) := by decide +kernel
theorem dX12_way_64 : decode cX12_way 64 = .ok (.if_icmp .ge 15, 3) := by decide +kernel
theorem dX12_way_67 : decode cX12_way 67 = .ok (.aload_n 0, 1) := by decide +kernel
theorem dX12_way_68 : decode cX12_way 68 = .ok (.getfield 39, 3) := by decide +kernel
theorem dX12_way_71 : decode cX12_way 71 = .ok (.iload_n 2, 1) := by decide +kernel
theorem dX12_way_72 : decode cX12_way 72 = .ok (.bipush 10, 2) := by decide +kernel
theorem dX12_way_74 : decode cX12_way 74 = .ok (.isub, 1) := by decide +kernel
theorem dX12_way_75 : decode cX12_way 75 = .ok (.iaload, 1) := by decide +kernel
theorem dX12_way_76 : decode cX12_way 76 = .ok (.goto 4, 3) := by decide +kernel
theorem dX12_way_79 : decode cX12_way 79 = .ok (.iconst (-1), 1) := by decide +kernel
theorem dX12_way_80 : decode cX12_way 80 = .ok (.ireturn, 1) := by decide +kernel
theorem dX12_ways_0 : decode cX12_ways 0 = .ok (.aload_n 0, 1) := by decide +kernel
theorem dX12_ways_1 : decode cX12_ways 1 = .ok (.iconst 0, 1) := by decide +kernel
theorem dX12_ways_2 : decode cX12_ways 2 = .ok (.putfield 1, 3) := by decide +kernel
theorem dX12_ways_5 : decode cX12_ways 5 = .ok (.aload_n 0, 1) := by decide +kernel
theorem dX12_ways_6 : decode cX12_ways 6 = .ok (.iload_n 1, 1) := by decide +kernel
theorem dX12_ways_7 : decode cX12_ways 7 = .ok (.i2l, 1) := by decide +kernel
theorem dX12_ways_8 : decode cX12_ways 8 = .ok (.invokevirtual 222, 3) := by decide +kernel
theorem dX12_ways_11 : decode cX12_ways 11 = .ok (.ifCond .ne 7, 3) := by decide +kernel
theorem dX12_ways_14 : decode cX12_ways 14 = .ok (.ldc2_w 341, 3) := by decide +kernel
theorem dX12_ways_17 : decode cX12_ways 17 = .ok (.lreturn, 1) := by decide +kernel
theorem dX12_ways_18 : decode cX12_ways 18 = .ok (.aload_n 0, 1) := by decide +kernel
theorem dX12_ways_19 : decode cX12_ways 19 = .ok (.iload_n 1, 1) := by decide +kernel
theorem dX12_ways_20 : decode cX12_ways 20 = .ok (.invokevirtual 304, 3) := by decide +kernel
theorem dX12_ways_23 : decode cX12_ways 23 = .ok (.ifCond .ne 5, 3) := by decide +kernel
theorem dX12_ways_26 : decode cX12_ways 26 = .ok (.lconst 0, 1) := by decide +kernel
theorem dX12_ways_27 : decode cX12_ways 27 = .ok (.lreturn, 1) := by decide +kernel
theorem dX12_ways_28 : decode cX12_ways 28 = .ok (.aload_n 0, 1) := by decide +kernel
theorem dX12_ways_29 : decode cX12_ways 29 = .ok (.aload_n 0, 1) := by decide +kernel
theorem dX12_ways_30 : decode cX12_ways 30 = .ok (.invokevirtual 260, 3) := by decide +kernel
theorem dX12_ways_33 : decode cX12_ways 33 = .ok (.invokevirtual 329, 3) := by decide +kernel
theorem dX12_ways_36 : decode cX12_ways 36 = .ok (.aload_n 0, 1) := by decide +kernel
theorem dX12_ways_37 : decode cX12_ways 37 = .ok (.aload_n 0, 1) := by decide +kernel
theorem dX12_ways_38 : decode cX12_ways 38 = .ok (.getfield 266, 3) := by decide +kernel
theorem dX12_ways_41 : decode cX12_ways 41 = .ok (.aload_n 0, 1) := by decide +kernel
theorem dX12_ways_42 : decode cX12_ways 42 = .ok (.getfield 266, 3) := by decide +kernel
theorem dX12_ways_45 : decode cX12_ways 45 = .ok (.invokevirtual 343, 3) := by decide +kernel
theorem dX12_ways_48 : decode cX12_ways 48 = .ok (.lreturn, 1) := by decide +kernel
theorem kw_1548 : Cond.methodLink "FootholdWallModel" 298 yX12_usesRow ∈ gw := gw_of (tb_of 1548 (by decide +kernel)) (by decide +kernel)
theorem kw_1550 : Cond.instanceMethod yX12_usesRow ∈ gw := gw_of (tb_of 1550 (by decide +kernel)) (by decide +kernel)
theorem kw_1551 : Cond.code yX12_usesRow cX12_usesRow 4 (some (.int)) ∈ gw := gw_of (tb_of 1551 (by decide +kernel)) (by decide +kernel)
theorem kw_1560 : Cond.methodLink "FootholdWallModel" 304 yX12_laysWayOf ∈ gw := gw_of (tb_of 1560 (by decide +kernel)) (by decide +kernel)
theorem kw_1562 : Cond.instanceMethod yX12_laysWayOf ∈ gw := gw_of (tb_of 1562 (by decide +kernel)) (by decide +kernel)
theorem kw_1563 : Cond.code yX12_laysWayOf cX12_laysWayOf 2 (some (.boolean)) ∈ gw := gw_of (tb_of 1563 (by decide +kernel)) (by decide +kernel)
theorem kw_1608 : Cond.methodLink "FootholdWallModel" 326 yX12_draw ∈ gw := gw_of (tb_of 1608 (by decide +kernel)) (by decide +kernel)
theorem kw_1610 : Cond.instanceMethod yX12_draw ∈ gw := gw_of (tb_of 1610 (by decide +kernel)) (by decide +kernel)
theorem kw_1611 : Cond.code yX12_draw cX12_draw 2 (some (.int)) ∈ gw := gw_of (tb_of 1611 (by decide +kernel)) (by decide +kernel)
theorem kw_1617 : Cond.constantLong "FootholdWallModel" 332 23 ∈ gw := gw_of (tb_of 1617 (by decide +kernel)) (by decide +kernel)
theorem ks_80 : Cond.selects RX12 yX12_usesRow yX12_usesRow ∈ gw := gw_of (pv_of 80 (by decide +kernel)) (by decide +kernel)
theorem ks_82 : Cond.selects RX12 yX12_laysWayOf yX12_laysWayOf ∈ gw := gw_of (pv_of 82 (by decide +kernel)) (by decide +kernel)
theorem ks_87 : Cond.selects RX12 yX12_draw yX12_draw ∈ gw := gw_of (pv_of 87 (by decide +kernel)) (by decide +kernel)
