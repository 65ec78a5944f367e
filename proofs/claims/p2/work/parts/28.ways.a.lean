theorem dX10_find_0 : decode cX10_find 0 = .ok (.aload_n 0, 1) := by decide +kernel
theorem dX10_find_1 : decode cX10_find 1 = .ok (.aload_n 0, 1) := by decide +kernel
theorem dX10_find_2 : decode cX10_find 2 = .ok (.aload_n 1, 1) := by decide +kernel
theorem dX10_find_3 : decode cX10_find 3 = .ok (.iload_n 2, 1) := by decide +kernel
theorem dX10_find_4 : decode cX10_find 4 = .ok (.invokevirtual 35, 3) := by decide +kernel
theorem dX10_find_7 : decode cX10_find 7 = .ok (.putfield 18, 3) := by decide +kernel
theorem dX10_find_10 : decode cX10_find 10 = .ok (.aload_n 0, 1) := by decide +kernel
theorem dX10_find_11 : decode cX10_find 11 = .ok (.aload_n 1, 1) := by decide +kernel
theorem dX10_find_12 : decode cX10_find 12 = .ok (.aload_n 0, 1) := by decide +kernel
theorem dX10_find_13 : decode cX10_find 13 = .ok (.getfield 18, 3) := by decide +kernel
theorem dX10_find_16 : decode cX10_find 16 = .ok (.invokevirtual 39, 3) := by decide +kernel
theorem dX10_find_19 : decode cX10_find 19 = .ok (.aload_n 0, 1) := by decide +kernel
theorem dX10_find_20 : decode cX10_find 20 = .ok (.getfield 18, 3) := by decide +kernel
theorem dX10_find_23 : decode cX10_find 23 = .ok (.ifCond .le 12, 3) := by decide +kernel
theorem dX10_find_26 : decode cX10_find 26 = .ok (.aload_n 0, 1) := by decide +kernel
theorem dX10_find_27 : decode cX10_find 27 = .ok (.getfield 9, 3) := by decide +kernel
theorem dX10_find_30 : decode cX10_find 30 = .ok (.iconst 0, 1) := by decide +kernel
theorem dX10_find_31 : decode cX10_find 31 = .ok (.iaload, 1) := by decide +kernel
theorem dX10_find_32 : decode cX10_find 32 = .ok (.goto 4, 3) := by decide +kernel
theorem dX10_find_35 : decode cX10_find 35 = .ok (.iconst 0, 1) := by decide +kernel
theorem dX10_find_36 : decode cX10_find 36 = .ok (.istore_n 3, 1) := by decide +kernel
theorem dX10_find_37 : decode cX10_find 37 = .ok (.iconst 0, 1) := by decide +kernel
theorem dX10_find_38 : decode cX10_find 38 = .ok (.istore 4, 2) := by decide +kernel
theorem dX10_find_40 : decode cX10_find 40 = .ok (.iload 4, 2) := by decide +kernel
theorem dX10_find_42 : decode cX10_find 42 = .ok (.aload_n 0, 1) := by decide +kernel
theorem dX10_find_43 : decode cX10_find 43 = .ok (.getfield 18, 3) := by decide +kernel
theorem dX10_find_46 : decode cX10_find 46 = .ok (.if_icmp .ge 55, 3) := by decide +kernel
theorem dX10_find_49 : decode cX10_find 49 = .ok (.iload_n 3, 1) := by decide +kernel
theorem dX10_find_50 : decode cX10_find 50 = .ok (.invokestatic 43, 3) := by decide +kernel
theorem dX10_find_53 : decode cX10_find 53 = .ok (.istore 5, 2) := by decide +kernel
theorem dX10_find_55 : decode cX10_find 55 = .ok (.aload_n 0, 1) := by decide +kernel
theorem dX10_find_56 : decode cX10_find 56 = .ok (.getfield 15, 3) := by decide +kernel
theorem dX10_find_59 : decode cX10_find 59 = .ok (.iload 4, 2) := by decide +kernel
theorem dX10_find_61 : decode cX10_find 61 = .ok (.iload 5, 2) := by decide +kernel
theorem dX10_find_63 : decode cX10_find 63 = .ok (.iastore, 1) := by decide +kernel
theorem dX10_find_64 : decode cX10_find 64 = .ok (.iload 4, 2) := by decide +kernel
theorem dX10_find_66 : decode cX10_find 66 = .ok (.iconst 1, 1) := by decide +kernel
theorem dX10_find_67 : decode cX10_find 67 = .ok (.iadd, 1) := by decide +kernel
theorem dX10_find_68 : decode cX10_find 68 = .ok (.aload_n 0, 1) := by decide +kernel
theorem dX10_find_69 : decode cX10_find 69 = .ok (.getfield 18, 3) := by decide +kernel
theorem dX10_find_72 : decode cX10_find 72 = .ok (.if_icmp .ge 21, 3) := by decide +kernel
theorem dX10_find_75 : decode cX10_find 75 = .ok (.aload_n 1, 1) := by decide +kernel
theorem dX10_find_76 : decode cX10_find 76 = .ok (.iload 5, 2) := by decide +kernel
theorem dX10_find_78 : decode cX10_find 78 = .ok (.aload_n 0, 1) := by decide +kernel
theorem dX10_find_79 : decode cX10_find 79 = .ok (.getfield 9, 3) := by decide +kernel
theorem dX10_find_82 : decode cX10_find 82 = .ok (.iload 4, 2) := by decide +kernel
theorem dX10_find_84 : decode cX10_find 84 = .ok (.iconst 1, 1) := by decide +kernel
theorem dX10_find_85 : decode cX10_find 85 = .ok (.iadd, 1) := by decide +kernel
theorem dX10_find_86 : decode cX10_find 86 = .ok (.iaload, 1) := by decide +kernel
theorem dX10_find_87 : decode cX10_find 87 = .ok (.invokevirtual 49, 3) := by decide +kernel
theorem dX10_find_90 : decode cX10_find 90 = .ok (.goto 4, 3) := by decide +kernel
theorem dX10_find_93 : decode cX10_find 93 = .ok (.iconst 0, 1) := by decide +kernel
theorem dX10_find_94 : decode cX10_find 94 = .ok (.istore_n 3, 1) := by decide +kernel
theorem dX10_find_95 : decode cX10_find 95 = .ok (.iinc 4 1, 3) := by decide +kernel
theorem dX10_find_98 : decode cX10_find 98 = .ok (.goto (-58), 3) := by decide +kernel
theorem dX10_find_101 : decode cX10_find 101 = .ok (.aload_n 0, 1) := by decide +kernel
theorem dX10_find_102 : decode cX10_find 102 = .ok (.getfield 18, 3) := by decide +kernel
theorem dX10_find_105 : decode cX10_find 105 = .ok (.ireturn, 1) := by decide +kernel
theorem dX10_findLayers_0 : decode cX10_findLayers 0 = .ok (.aload_n 1, 1) := by decide +kernel
theorem dX10_findLayers_1 : decode cX10_findLayers 1 = .ok (.getfield 55, 3) := by decide +kernel
theorem dX10_findLayers_4 : decode cX10_findLayers 4 = .ok (.getfield 59, 3) := by decide +kernel
theorem dX10_findLayers_7 : decode cX10_findLayers 7 = .ok (.iload_n 2, 1) := by decide +kernel
theorem dX10_findLayers_8 : decode cX10_findLayers 8 = .ok (.iand, 1) := by decide +kernel
theorem dX10_findLayers_9 : decode cX10_findLayers 9 = .ok (.istore_n 3, 1) := by decide +kernel
theorem dX10_findLayers_10 : decode cX10_findLayers 10 = .ok (.aload_n 0, 1) := by decide +kernel
theorem dX10_findLayers_11 : decode cX10_findLayers 11 = .ok (.getfield 9, 3) := by decide +kernel
theorem dX10_findLayers_14 : decode cX10_findLayers 14 = .ok (.iconst 0, 1) := by decide +kernel
theorem dX10_findLayers_15 : decode cX10_findLayers 15 = .ok (.iload_n 3, 1) := by decide +kernel
theorem dX10_findLayers_16 : decode cX10_findLayers 16 = .ok (.iastore, 1) := by decide +kernel
theorem dX10_findLayers_17 : decode cX10_findLayers 17 = .ok (.iconst 0, 1) := by decide +kernel
theorem dX10_findLayers_18 : decode cX10_findLayers 18 = .ok (.istore 4, 2) := by decide +kernel
theorem dX10_findLayers_20 : decode cX10_findLayers 20 = .ok (.iload 4, 2) := by decide +kernel
theorem dX10_findLayers_22 : decode cX10_findLayers 22 = .ok (.bipush 14, 2) := by decide +kernel
theorem dX10_findLayers_24 : decode cX10_findLayers 24 = .ok (.if_icmp .ge 131, 3) := by decide +kernel
theorem dX10_findLayers_27 : decode cX10_findLayers 27 = .ok (.aload_n 0, 1) := by decide +kernel
theorem dX10_findLayers_28 : decode cX10_findLayers 28 = .ok (.getfield 9, 3) := by decide +kernel
theorem dX10_findLayers_31 : decode cX10_findLayers 31 = .ok (.iload 4, 2) := by decide +kernel
theorem dX10_findLayers_33 : decode cX10_findLayers 33 = .ok (.iaload, 1) := by decide +kernel
theorem dX10_findLayers_34 : decode cX10_findLayers 34 = .ok (.aload_n 1, 1) := by decide +kernel
theorem dX10_findLayers_35 : decode cX10_findLayers 35 = .ok (.getfield 55, 3) := by decide +kernel
theorem dX10_findLayers_38 : decode cX10_findLayers 38 = .ok (.getfield 64, 3) := by decide +kernel
theorem dX10_findLayers_41 : decode cX10_findLayers 41 = .ok (.iand, 1) := by decide +kernel
theorem dX10_findLayers_42 : decode cX10_findLayers 42 = .ok (.ifCond .eq 25, 3) := by decide +kernel
theorem dX10_findLayers_45 : decode cX10_findLayers 45 = .ok (.aload_n 0, 1) := by decide +kernel
theorem dX10_findLayers_46 : decode cX10_findLayers 46 = .ok (.getfield 9, 3) := by decide +kernel
theorem dX10_findLayers_49 : decode cX10_findLayers 49 = .ok (.iload 4, 2) := by decide +kernel
theorem dX10_findLayers_51 : decode cX10_findLayers 51 = .ok (.dup2, 1) := by decide +kernel
theorem dX10_findLayers_52 : decode cX10_findLayers 52 = .ok (.iaload, 1) := by decide +kernel
theorem dX10_findLayers_53 : decode cX10_findLayers 53 = .ok (.aload_n 1, 1) := by decide +kernel
theorem dX10_findLayers_54 : decode cX10_findLayers 54 = .ok (.getfield 55, 3) := by decide +kernel
theorem dX10_findLayers_57 : decode cX10_findLayers 57 = .ok (.getfield 64, 3) := by decide +kernel
theorem dX10_findLayers_60 : decode cX10_findLayers 60 = .ok (.iand, 1) := by decide +kernel
theorem dX10_findLayers_61 : decode cX10_findLayers 61 = .ok (.iastore, 1) := by decide +kernel
theorem dX10_findLayers_62 : decode cX10_findLayers 62 = .ok (.iload 4, 2) := by decide +kernel
theorem dX10_findLayers_64 : decode cX10_findLayers 64 = .ok (.iconst 1, 1) := by decide +kernel
theorem dX10_findLayers_65 : decode cX10_findLayers 65 = .ok (.iadd, 1) := by decide +kernel
theorem dX10_findLayers_66 : decode cX10_findLayers 66 = .ok (.ireturn, 1) := by decide +kernel
theorem dX10_findLayers_67 : decode cX10_findLayers 67 = .ok (.iconst 0, 1) := by decide +kernel
theorem dX10_findLayers_68 : decode cX10_findLayers 68 = .ok (.istore 5, 2) := by decide +kernel
theorem dX10_findLayers_70 : decode cX10_findLayers 70 = .ok (.iconst 0, 1) := by decide +kernel
theorem dX10_findLayers_71 : decode cX10_findLayers 71 = .ok (.istore 6, 2) := by decide +kernel
theorem dX10_findLayers_73 : decode cX10_findLayers 73 = .ok (.iload 6, 2) := by decide +kernel
theorem dX10_findLayers_75 : decode cX10_findLayers 75 = .ok (.bipush 14, 2) := by decide +kernel
theorem dX10_findLayers_77 : decode cX10_findLayers 77 = .ok (.if_icmp .ge 40, 3) := by decide +kernel
theorem dX10_findLayers_80 : decode cX10_findLayers 80 = .ok (.aload_n 0, 1) := by decide +kernel
theorem dX10_findLayers_81 : decode cX10_findLayers 81 = .ok (.getfield 9, 3) := by decide +kernel
theorem dX10_findLayers_84 : decode cX10_findLayers 84 = .ok (.iload 4, 2) := by decide +kernel
theorem dX10_findLayers_86 : decode cX10_findLayers 86 = .ok (.iaload, 1) := by decide +kernel
theorem dX10_findLayers_87 : decode cX10_findLayers 87 = .ok (.iload 6, 2) := by decide +kernel
theorem dX10_findLayers_89 : decode cX10_findLayers 89 = .ok (.ishr, 1) := by decide +kernel
theorem dX10_findLayers_90 : decode cX10_findLayers 90 = .ok (.iconst 1, 1) := by decide +kernel
theorem dX10_findLayers_91 : decode cX10_findLayers 91 = .ok (.iand, 1) := by decide +kernel
theorem dX10_findLayers_92 : decode cX10_findLayers 92 = .ok (.ifCond .eq 19, 3) := by decide +kernel
theorem dX10_findLayers_95 : decode cX10_findLayers 95 = .ok (.iload 5, 2) := by decide +kernel
theorem dX10_findLayers_97 : decode cX10_findLayers 97 = .ok (.aload_n 1, 1) := by decide +kernel
theorem dX10_findLayers_98 : decode cX10_findLayers 98 = .ok (.iload 6, 2) := by decide +kernel
theorem dX10_findLayers_100 : decode cX10_findLayers 100 = .ok (.iload_n 2, 1) := by decide +kernel
theorem dX10_findLayers_101 : decode cX10_findLayers 101 = .ok (.iload_n 3, 1) := by decide +kernel
theorem dX10_findLayers_102 : decode cX10_findLayers 102 = .ok (.iconst (-1), 1) := by decide +kernel
theorem dX10_findLayers_103 : decode cX10_findLayers 103 = .ok (.ixor, 1) := by decide +kernel
theorem dX10_findLayers_104 : decode cX10_findLayers 104 = .ok (.iand, 1) := by decide +kernel
theorem dX10_findLayers_105 : decode cX10_findLayers 105 = .ok (.invokevirtual 49, 3) := by decide +kernel
theorem dX10_findLayers_108 : decode cX10_findLayers 108 = .ok (.ior, 1) := by decide +kernel
theorem dX10_findLayers_109 : decode cX10_findLayers 109 = .ok (.istore 5, 2) := by decide +kernel
theorem dX10_findLayers_111 : decode cX10_findLayers 111 = .ok (.iinc 6 1, 3) := by decide +kernel
theorem dX10_findLayers_114 : decode cX10_findLayers 114 = .ok (.goto (-41), 3) := by decide +kernel
theorem dX10_findLayers_117 : decode cX10_findLayers 117 = .ok (.iload 5, 2) := by decide +kernel
theorem dX10_findLayers_119 : decode cX10_findLayers 119 = .ok (.ifCond .eq 12, 3) := by decide +kernel
theorem dX10_findLayers_122 : decode cX10_findLayers 122 = .ok (.iload 4, 2) := by decide +kernel
theorem dX10_findLayers_124 : decode cX10_findLayers 124 = .ok (.iconst 1, 1) := by decide +kernel
theorem dX10_findLayers_125 : decode cX10_findLayers 125 = .ok (.iadd, 1) := by decide +kernel
theorem dX10_findLayers_126 : decode cX10_findLayers 126 = .ok (.bipush 14, 2) := by decide +kernel
theorem dX10_findLayers_128 : decode cX10_findLayers 128 = .ok (.if_icmp .lt 5, 3) := by decide +kernel
theorem dX10_findLayers_131 : decode cX10_findLayers 131 = .ok (.iconst 0, 1) := by decide +kernel
theorem dX10_findLayers_132 : decode cX10_findLayers 132 = .ok (.ireturn, 1) := by decide +kernel
theorem dX10_findLayers_133 : decode cX10_findLayers 133 = .ok (.iload_n 3, 1) := by decide +kernel
theorem dX10_findLayers_134 : decode cX10_findLayers 134 = .ok (.iload 5, 2) := by decide +kernel
theorem dX10_findLayers_136 : decode cX10_findLayers 136 = .ok (.ior, 1) := by decide +kernel
theorem dX10_findLayers_137 : decode cX10_findLayers 137 = .ok (.istore_n 3, 1) := by decide +kernel
theorem dX10_findLayers_138 : decode cX10_findLayers 138 = .ok (.aload_n 0, 1) := by decide +kernel
theorem dX10_findLayers_139 : decode cX10_findLayers 139 = .ok (.getfield 9, 3) := by decide +kernel
theorem dX10_findLayers_142 : decode cX10_findLayers 142 = .ok (.iload 4, 2) := by decide +kernel
theorem dX10_findLayers_144 : decode cX10_findLayers 144 = .ok (.iconst 1, 1) := by decide +kernel
theorem dX10_findLayers_145 : decode cX10_findLayers 145 = .ok (.iadd, 1) := by decide +kernel
theorem dX10_findLayers_146 : decode cX10_findLayers 146 = .ok (.iload 5, 2) := by decide +kernel
theorem dX10_findLayers_148 : decode cX10_findLayers 148 = .ok (.iastore, 1) := by decide +kernel
theorem dX10_findLayers_149 : decode cX10_findLayers 149 = .ok (.iinc 4 1, 3) := by decide +kernel
theorem dX10_findLayers_152 : decode cX10_findLayers 152 = .ok (.goto (-132), 3) := by decide +kernel
theorem dX10_findLayers_155 : decode cX10_findLayers 155 = .ok (.iconst 0, 1) := by decide +kernel
theorem dX10_findLayers_156 : decode cX10_findLayers 156 = .ok (.ireturn, 1) := by decide +kernel
theorem dX10_howMany_0 : decode cX10_howMany 0 = .ok (.aload_n 0, 1) := by decide +kernel
theorem dX10_howMany_1 : decode cX10_howMany 1 = .ok (.aload_n 1, 1) := by decide +kernel
theorem dX10_howMany_2 : decode cX10_howMany 2 = .ok (.iload_n 2, 1) := by decide +kernel
theorem dX10_howMany_3 : decode cX10_howMany 3 = .ok (.invokevirtual 35, 3) := by decide +kernel
theorem dX10_howMany_6 : decode cX10_howMany 6 = .ok (.istore_n 3, 1) := by decide +kernel
theorem dX10_howMany_7 : decode cX10_howMany 7 = .ok (.iload_n 3, 1) := by decide +kernel
theorem dX10_howMany_8 : decode cX10_howMany 8 = .ok (.iconst 1, 1) := by decide +kernel
theorem dX10_howMany_9 : decode cX10_howMany 9 = .ok (.isub, 1) := by decide +kernel
theorem dX10_howMany_10 : decode cX10_howMany 10 = .ok (.istore 4, 2) := by decide +kernel
theorem dX10_howMany_12 : decode cX10_howMany 12 = .ok (.iload 4, 2) := by decide +kernel
theorem dX10_howMany_14 : decode cX10_howMany 14 = .ok (.ifCond .lt 78, 3) := by decide +kernel
theorem dX10_howMany_17 : decode cX10_howMany 17 = .ok (.iconst 0, 1) := by decide +kernel
theorem dX10_howMany_18 : decode cX10_howMany 18 = .ok (.istore 5, 2) := by decide +kernel
theorem dX10_howMany_20 : decode cX10_howMany 20 = .ok (.iload 5, 2) := by decide +kernel
theorem dX10_howMany_22 : decode cX10_howMany 22 = .ok (.bipush 14, 2) := by decide +kernel
theorem dX10_howMany_24 : decode cX10_howMany 24 = .ok (.if_icmp .ge 62, 3) := by decide +kernel
theorem dX10_howMany_27 : decode cX10_howMany 27 = .ok (.aload_n 0, 1) := by decide +kernel
theorem dX10_howMany_28 : decode cX10_howMany 28 = .ok (.getfield 9, 3) := by decide +kernel
theorem dX10_howMany_31 : decode cX10_howMany 31 = .ok (.iload 4, 2) := by decide +kernel
theorem dX10_howMany_33 : decode cX10_howMany 33 = .ok (.iaload, 1) := by decide +kernel
theorem dX10_howMany_34 : decode cX10_howMany 34 = .ok (.iload 5, 2) := by decide +kernel
theorem dX10_howMany_36 : decode cX10_howMany 36 = .ok (.ishr, 1) := by decide +kernel
theorem dX10_howMany_37 : decode cX10_howMany 37 = .ok (.iconst 1, 1) := by decide +kernel
theorem dX10_howMany_38 : decode cX10_howMany 38 = .ok (.iand, 1) := by decide +kernel
theorem dX10_howMany_39 : decode cX10_howMany 39 = .ok (.ifCond .eq 41, 3) := by decide +kernel
theorem dX10_howMany_42 : decode cX10_howMany 42 = .ok (.aload_n 0, 1) := by decide +kernel
theorem dX10_howMany_43 : decode cX10_howMany 43 = .ok (.getfield 22, 3) := by decide +kernel
theorem dX10_howMany_46 : decode cX10_howMany 46 = .ok (.iload 5, 2) := by decide +kernel
theorem dX10_howMany_48 : decode cX10_howMany 48 = .ok (.iload 4, 2) := by decide +kernel
theorem dX10_howMany_50 : decode cX10_howMany 50 = .ok (.iload_n 3, 1) := by decide +kernel
theorem dX10_howMany_51 : decode cX10_howMany 51 = .ok (.iconst 1, 1) := by decide +kernel
theorem dX10_howMany_52 : decode cX10_howMany 52 = .ok (.isub, 1) := by decide +kernel
theorem dX10_howMany_53 : decode cX10_howMany 53 = .ok (.if_icmp .ne 7, 3) := by decide +kernel
theorem dX10_howMany_56 : decode cX10_howMany 56 = .ok (.lconst 1, 1) := by decide +kernel
theorem dX10_howMany_57 : decode cX10_howMany 57 = .ok (.goto 22, 3) := by decide +kernel
theorem dX10_howMany_60 : decode cX10_howMany 60 = .ok (.aload_n 0, 1) := by decide +kernel
theorem dX10_howMany_61 : decode cX10_howMany 61 = .ok (.aload_n 1, 1) := by decide +kernel
theorem dX10_howMany_62 : decode cX10_howMany 62 = .ok (.iload 5, 2) := by decide +kernel
theorem dX10_howMany_64 : decode cX10_howMany 64 = .ok (.aload_n 0, 1) := by decide +kernel
theorem dX10_howMany_65 : decode cX10_howMany 65 = .ok (.getfield 9, 3) := by decide +kernel
theorem dX10_howMany_68 : decode cX10_howMany 68 = .ok (.iload 4, 2) := by decide +kernel
theorem dX10_howMany_70 : decode cX10_howMany 70 = .ok (.iconst 1, 1) := by decide +kernel
theorem dX10_howMany_71 : decode cX10_howMany 71 = .ok (.iadd, 1) := by decide +kernel
theorem dX10_howMany_72 : decode cX10_howMany 72 = .ok (.iaload, 1) := by decide +kernel
theorem dX10_howMany_73 : decode cX10_howMany 73 = .ok (.invokevirtual 49, 3) := by decide +kernel
theorem dX10_howMany_76 : decode cX10_howMany 76 = .ok (.invokevirtual 65, 3) := by decide +kernel
theorem dX10_howMany_79 : decode cX10_howMany 79 = .ok (.lastore, 1) := by decide +kernel
theorem dX10_howMany_80 : decode cX10_howMany 80 = .ok (.iinc 5 1, 3) := by decide +kernel
theorem dX10_howMany_83 : decode cX10_howMany 83 = .ok (.goto (-63), 3) := by decide +kernel
theorem dX10_howMany_86 : decode cX10_howMany 86 = .ok (.iinc 4 (-1), 3) := by decide +kernel
theorem dX10_howMany_89 : decode cX10_howMany 89 = .ok (.goto (-77), 3) := by decide +kernel
theorem dX10_howMany_92 : decode cX10_howMany 92 = .ok (.iload_n 3, 1) := by decide +kernel
theorem dX10_howMany_93 : decode cX10_howMany 93 = .ok (.ifCond .ne 7, 3) := by decide +kernel
theorem dX10_howMany_96 : decode cX10_howMany 96 = .ok (.lconst 0, 1) := by decide +kernel
theorem dX10_howMany_97 : decode cX10_howMany 97 = .ok (.goto 13, 3) := by decide +kernel
theorem dX10_howMany_100 : decode cX10_howMany 100 = .ok (.aload_n 0, 1) := by decide +kernel
theorem dX10_howMany_101 : decode cX10_howMany 101 = .ok (.aload_n 0, 1) := by decide +kernel
theorem dX10_howMany_102 : decode cX10_howMany 102 = .ok (.getfield 9, 3) := by decide +kernel
theorem dX10_howMany_105 : decode cX10_howMany 105 = .ok (.iconst 0, 1) := by decide +kernel
theorem dX10_howMany_106 : decode cX10_howMany 106 = .ok (.iaload, 1) := by decide +kernel
theorem dX10_howMany_107 : decode cX10_howMany 107 = .ok (.invokevirtual 65, 3) := by decide +kernel
theorem dX10_howMany_110 : decode cX10_howMany 110 = .ok (.lreturn, 1) := by decide +kernel
theorem dX10_keepLeading_0 : decode cX10_keepLeading 0 = .ok (.iload_n 2, 1) := by decide +kernel
theorem dX10_keepLeading_1 : decode cX10_keepLeading 1 = .ok (.iconst 2, 1) := by decide +kernel
theorem dX10_keepLeading_2 : decode cX10_keepLeading 2 = .ok (.isub, 1) := by decide +kernel
theorem dX10_keepLeading_3 : decode cX10_keepLeading 3 = .ok (.istore_n 3, 1) := by decide +kernel
theorem dX10_keepLeading_4 : decode cX10_keepLeading 4 = .ok (.iload_n 3, 1) := by decide +kernel
theorem dX10_keepLeading_5 : decode cX10_keepLeading 5 = .ok (.ifCond .lt 71, 3) := by decide +kernel
theorem dX10_keepLeading_8 : decode cX10_keepLeading 8 = .ok (.iconst 0, 1) := by decide +kernel
theorem dX10_keepLeading_9 : decode cX10_keepLeading 9 = .ok (.istore 4, 2) := by decide +kernel
theorem dX10_keepLeading_11 : decode cX10_keepLeading 11 = .ok (.iload 4, 2) := by decide +kernel
theorem dX10_keepLeading_13 : decode cX10_keepLeading 13 = .ok (.bipush 14, 2) := by decide +kernel
theorem dX10_keepLeading_15 : decode cX10_keepLeading 15 = .ok (.if_icmp .ge 55, 3) := by decide +kernel
theorem dX10_keepLeading_18 : decode cX10_keepLeading 18 = .ok (.aload_n 0, 1) := by decide +kernel
theorem dX10_keepLeading_19 : decode cX10_keepLeading 19 = .ok (.getfield 9, 3) := by decide +kernel
theorem dX10_keepLeading_22 : decode cX10_keepLeading 22 = .ok (.iload_n 3, 1) := by decide +kernel
theorem dX10_keepLeading_23 : decode cX10_keepLeading 23 = .ok (.iaload, 1) := by decide +kernel
theorem dX10_keepLeading_24 : decode cX10_keepLeading 24 = .ok (.iload 4, 2) := by decide +kernel
theorem dX10_keepLeading_26 : decode cX10_keepLeading 26 = .ok (.ishr, 1) := by decide +kernel
theorem dX10_keepLeading_27 : decode cX10_keepLeading 27 = .ok (.iconst 1, 1) := by decide +kernel
theorem dX10_keepLeading_28 : decode cX10_keepLeading 28 = .ok (.iand, 1) := by decide +kernel
theorem dX10_keepLeading_29 : decode cX10_keepLeading 29 = .ok (.ifCond .eq 35, 3) := by decide +kernel
theorem dX10_keepLeading_32 : decode cX10_keepLeading 32 = .ok (.aload_n 1, 1) := by decide +kernel
theorem dX10_keepLeading_33 : decode cX10_keepLeading 33 = .ok (.iload 4, 2) := by decide +kernel
theorem dX10_keepLeading_35 : decode cX10_keepLeading 35 = .ok (.aload_n 0, 1) := by decide +kernel
theorem dX10_keepLeading_36 : decode cX10_keepLeading 36 = .ok (.getfield 9, 3) := by decide +kernel
theorem dX10_keepLeading_39 : decode cX10_keepLeading 39 = .ok (.iload_n 3, 1) := by decide +kernel
theorem dX10_keepLeading_40 : decode cX10_keepLeading 40 = .ok (.iconst 1, 1) := by decide +kernel
theorem dX10_keepLeading_41 : decode cX10_keepLeading 41 = .ok (.iadd, 1) := by decide +kernel
theorem dX10_keepLeading_42 : decode cX10_keepLeading 42 = .ok (.iaload, 1) := by decide +kernel
theorem dX10_keepLeading_43 : decode cX10_keepLeading 43 = .ok (.invokevirtual 49, 3) := by decide +kernel
theorem dX10_keepLeading_46 : decode cX10_keepLeading 46 = .ok (.ifCond .ne 18, 3) := by decide +kernel
theorem dX10_keepLeading_49 : decode cX10_keepLeading 49 = .ok (.aload_n 0, 1) := by decide +kernel
theorem dX10_keepLeading_50 : decode cX10_keepLeading 50 = .ok (.getfield 9, 3) := by decide +kernel
theorem dX10_keepLeading_53 : decode cX10_keepLeading 53 = .ok (.iload_n 3, 1) := by decide +kernel
theorem dX10_keepLeading_54 : decode cX10_keepLeading 54 = .ok (.dup2, 1) := by decide +kernel
theorem dX10_keepLeading_55 : decode cX10_keepLeading 55 = .ok (.iaload, 1) := by decide +kernel
theorem dX10_keepLeading_56 : decode cX10_keepLeading 56 = .ok (.iconst 1, 1) := by decide +kernel
theorem dX10_keepLeading_57 : decode cX10_keepLeading 57 = .ok (.iload 4, 2) := by decide +kernel
theorem dX10_keepLeading_59 : decode cX10_keepLeading 59 = .ok (.ishl, 1) := by decide +kernel
theorem dX10_keepLeading_60 : decode cX10_keepLeading 60 = .ok (.iconst (-1), 1) := by decide +kernel
theorem dX10_keepLeading_61 : decode cX10_keepLeading 61 = .ok (.ixor, 1) := by decide +kernel
theorem dX10_keepLeading_62 : decode cX10_keepLeading 62 = .ok (.iand, 1) := by decide +kernel
theorem dX10_keepLeading_63 : decode cX10_keepLeading 63 = .ok (.iastore, 1) := by decide +kernel
theorem dX10_keepLeading_64 : decode cX10_keepLeading 64 = .ok (.iinc 4 1, 3) := by decide +kernel
theorem dX10_keepLeading_67 : decode cX10_keepLeading 67 = .ok (.goto (-56), 3) := by decide +kernel
theorem dX10_keepLeading_70 : decode cX10_keepLeading 70 = .ok (.iinc 3 (-1), 3) := by decide +kernel
theorem dX10_keepLeading_73 : decode cX10_keepLeading 73 = .ok (.goto (-69), 3) := by decide +kernel
theorem dX10_keepLeading_76 : decode cX10_keepLeading 76 = .ok (.return_, 1) := by decide +kernel
theorem dX10_leastFromAny_0 : decode cX10_leastFromAny 0 = .ok (.sipush 16384, 3) := by decide +kernel
theorem dX10_leastFromAny_3 : decode cX10_leastFromAny 3 = .ok (.istore_n 2, 1) := by decide +kernel
theorem dX10_leastFromAny_4 : decode cX10_leastFromAny 4 = .ok (.iconst 0, 1) := by decide +kernel
theorem dX10_leastFromAny_5 : decode cX10_leastFromAny 5 = .ok (.istore_n 3, 1) := by decide +kernel
theorem dX10_leastFromAny_6 : decode cX10_leastFromAny 6 = .ok (.iload_n 3, 1) := by decide +kernel
theorem dX10_leastFromAny_7 : decode cX10_leastFromAny 7 = .ok (.bipush 14, 2) := by decide +kernel
theorem dX10_leastFromAny_9 : decode cX10_leastFromAny 9 = .ok (.if_icmp .ge 28, 3) := by decide +kernel
theorem dX10_leastFromAny_12 : decode cX10_leastFromAny 12 = .ok (.iload_n 1, 1) := by decide +kernel
theorem dX10_leastFromAny_13 : decode cX10_leastFromAny 13 = .ok (.iload_n 3, 1) := by decide +kernel
theorem dX10_leastFromAny_14 : decode cX10_leastFromAny 14 = .ok (.ishr, 1) := by decide +kernel
theorem dX10_leastFromAny_15 : decode cX10_leastFromAny 15 = .ok (.iconst 1, 1) := by decide +kernel
theorem dX10_leastFromAny_16 : decode cX10_leastFromAny 16 = .ok (.iand, 1) := by decide +kernel
theorem dX10_leastFromAny_17 : decode cX10_leastFromAny 17 = .ok (.ifCond .eq 14, 3) := by decide +kernel
theorem dX10_leastFromAny_20 : decode cX10_leastFromAny 20 = .ok (.iload_n 2, 1) := by decide +kernel
theorem dX10_leastFromAny_21 : decode cX10_leastFromAny 21 = .ok (.aload_n 0, 1) := by decide +kernel
theorem dX10_leastFromAny_22 : decode cX10_leastFromAny 22 = .ok (.getfield 26, 3) := by decide +kernel
theorem dX10_leastFromAny_25 : decode cX10_leastFromAny 25 = .ok (.iload_n 3, 1) := by decide +kernel
theorem dX10_leastFromAny_26 : decode cX10_leastFromAny 26 = .ok (.iaload, 1) := by decide +kernel
theorem dX10_leastFromAny_27 : decode cX10_leastFromAny 27 = .ok (.invokestatic 76, 3) := by decide +kernel
theorem dX10_leastFromAny_30 : decode cX10_leastFromAny 30 = .ok (.istore_n 2, 1) := by decide +kernel
theorem dX10_leastFromAny_31 : decode cX10_leastFromAny 31 = .ok (.iinc 3 1, 3) := by decide +kernel
theorem dX10_leastFromAny_34 : decode cX10_leastFromAny 34 = .ok (.goto (-28), 3) := by decide +kernel
theorem dX10_leastFromAny_37 : decode cX10_leastFromAny 37 = .ok (.iload_n 2, 1) := by decide +kernel
theorem dX10_leastFromAny_38 : decode cX10_leastFromAny 38 = .ok (.ireturn, 1) := by decide +kernel
theorem dX10_leastUsed_0 : decode cX10_leastUsed 0 = .ok (.aload_n 0, 1) := by decide +kernel
theorem dX10_leastUsed_1 : decode cX10_leastUsed 1 = .ok (.aload_n 1, 1) := by decide +kernel
theorem dX10_leastUsed_2 : decode cX10_leastUsed 2 = .ok (.iload_n 2, 1) := by decide +kernel
theorem dX10_leastUsed_3 : decode cX10_leastUsed 3 = .ok (.invokevirtual 35, 3) := by decide +kernel
theorem dX10_leastUsed_6 : decode cX10_leastUsed 6 = .ok (.istore_n 3, 1) := by decide +kernel
theorem dX10_leastUsed_7 : decode cX10_leastUsed 7 = .ok (.aload_n 0, 1) := by decide +kernel
theorem dX10_leastUsed_8 : decode cX10_leastUsed 8 = .ok (.aload_n 1, 1) := by decide +kernel
theorem dX10_leastUsed_9 : decode cX10_leastUsed 9 = .ok (.iload_n 3, 1) := by decide +kernel
theorem dX10_leastUsed_10 : decode cX10_leastUsed 10 = .ok (.invokevirtual 39, 3) := by decide +kernel
theorem dX10_leastUsed_13 : decode cX10_leastUsed 13 = .ok (.aload_n 1, 1) := by decide +kernel
theorem dX10_leastUsed_14 : decode cX10_leastUsed 14 = .ok (.getfield 55, 3) := by decide +kernel
theorem dX10_leastUsed_17 : decode cX10_leastUsed 17 = .ok (.invokevirtual 69, 3) := by decide +kernel
theorem dX10_leastUsed_20 : decode cX10_leastUsed 20 = .ok (.istore 4, 2) := by decide +kernel
theorem dX10_leastUsed_22 : decode cX10_leastUsed 22 = .ok (.iload_n 3, 1) := by decide +kernel
theorem dX10_leastUsed_23 : decode cX10_leastUsed 23 = .ok (.iconst 1, 1) := by decide +kernel
theorem dX10_leastUsed_24 : decode cX10_leastUsed 24 = .ok (.isub, 1) := by decide +kernel
theorem dX10_leastUsed_25 : decode cX10_leastUsed 25 = .ok (.istore 5, 2) := by decide +kernel
theorem dX10_leastUsed_27 : decode cX10_leastUsed 27 = .ok (.iload 5, 2) := by decide +kernel
theorem dX10_leastUsed_29 : decode cX10_leastUsed 29 = .ok (.ifCond .lt 90, 3) := by decide +kernel
theorem dX10_leastUsed_32 : decode cX10_leastUsed 32 = .ok (.iconst 0, 1) := by decide +kernel
theorem dX10_leastUsed_33 : decode cX10_leastUsed 33 = .ok (.istore 6, 2) := by decide +kernel
theorem dX10_leastUsed_35 : decode cX10_leastUsed 35 = .ok (.iload 6, 2) := by decide +kernel
theorem dX10_leastUsed_37 : decode cX10_leastUsed 37 = .ok (.bipush 14, 2) := by decide +kernel
theorem dX10_leastUsed_39 : decode cX10_leastUsed 39 = .ok (.if_icmp .ge 74, 3) := by decide +kernel
theorem dX10_leastUsed_42 : decode cX10_leastUsed 42 = .ok (.aload_n 0, 1) := by decide +kernel
theorem dX10_leastUsed_43 : decode cX10_leastUsed 43 = .ok (.getfield 9, 3) := by decide +kernel
theorem dX10_leastUsed_46 : decode cX10_leastUsed 46 = .ok (.iload 5, 2) := by decide +kernel
theorem dX10_leastUsed_48 : decode cX10_leastUsed 48 = .ok (.iaload, 1) := by decide +kernel
theorem dX10_leastUsed_49 : decode cX10_leastUsed 49 = .ok (.iload 6, 2) := by decide +kernel
theorem dX10_leastUsed_51 : decode cX10_leastUsed 51 = .ok (.ishr, 1) := by decide +kernel
theorem dX10_leastUsed_52 : decode cX10_leastUsed 52 = .ok (.iconst 1, 1) := by decide +kernel
theorem dX10_leastUsed_53 : decode cX10_leastUsed 53 = .ok (.iand, 1) := by decide +kernel
theorem dX10_leastUsed_54 : decode cX10_leastUsed 54 = .ok (.ifCond .eq 53, 3) := by decide +kernel
theorem dX10_leastUsed_57 : decode cX10_leastUsed 57 = .ok (.iload 5, 2) := by decide +kernel
theorem dX10_leastUsed_59 : decode cX10_leastUsed 59 = .ok (.iload_n 3, 1) := by decide +kernel
theorem dX10_leastUsed_60 : decode cX10_leastUsed 60 = .ok (.iconst 1, 1) := by decide +kernel
theorem dX10_leastUsed_61 : decode cX10_leastUsed 61 = .ok (.isub, 1) := by decide +kernel
theorem dX10_leastUsed_62 : decode cX10_leastUsed 62 = .ok (.if_icmp .ne 7, 3) := by decide +kernel
theorem dX10_leastUsed_65 : decode cX10_leastUsed 65 = .ok (.iconst 0, 1) := by decide +kernel
theorem dX10_leastUsed_66 : decode cX10_leastUsed 66 = .ok (.goto 22, 3) := by decide +kernel
theorem dX10_leastUsed_69 : decode cX10_leastUsed 69 = .ok (.aload_n 0, 1) := by decide +kernel
theorem dX10_leastUsed_70 : decode cX10_leastUsed 70 = .ok (.aload_n 1, 1) := by decide +kernel
theorem dX10_leastUsed_71 : decode cX10_leastUsed 71 = .ok (.iload 6, 2) := by decide +kernel
theorem dX10_leastUsed_73 : decode cX10_leastUsed 73 = .ok (.aload_n 0, 1) := by decide +kernel
theorem dX10_leastUsed_74 : decode cX10_leastUsed 74 = .ok (.getfield 9, 3) := by decide +kernel
theorem dX10_leastUsed_77 : decode cX10_leastUsed 77 = .ok (.iload 5, 2) := by decide +kernel
theorem dX10_leastUsed_79 : decode cX10_leastUsed 79 = .ok (.iconst 1, 1) := by decide +kernel
theorem dX10_leastUsed_80 : decode cX10_leastUsed 80 = .ok (.iadd, 1) := by decide +kernel
theorem dX10_leastUsed_81 : decode cX10_leastUsed 81 = .ok (.iaload, 1) := by decide +kernel
theorem dX10_leastUsed_82 : decode cX10_leastUsed 82 = .ok (.invokevirtual 49, 3) := by decide +kernel
theorem dX10_leastUsed_85 : decode cX10_leastUsed 85 = .ok (.invokevirtual 73, 3) := by decide +kernel
theorem dX10_leastUsed_88 : decode cX10_leastUsed 88 = .ok (.istore 7, 2) := by decide +kernel
theorem dX10_leastUsed_90 : decode cX10_leastUsed 90 = .ok (.aload_n 0, 1) := by decide +kernel
theorem dX10_leastUsed_91 : decode cX10_leastUsed 91 = .ok (.getfield 26, 3) := by decide +kernel
theorem dX10_leastUsed_94 : decode cX10_leastUsed 94 = .ok (.iload 6, 2) := by decide +kernel
theorem dX10_leastUsed_96 : decode cX10_leastUsed 96 = .ok (.iload 7, 2) := by decide +kernel
theorem dX10_leastUsed_98 : decode cX10_leastUsed 98 = .ok (.iload 4, 2) := by decide +kernel
theorem dX10_leastUsed_100 : decode cX10_leastUsed 100 = .ok (.iconst 1, 1) := by decide +kernel
theorem dX10_leastUsed_101 : decode cX10_leastUsed 101 = .ok (.iload 6, 2) := by decide +kernel
theorem dX10_leastUsed_103 : decode cX10_leastUsed 103 = .ok (.ishl, 1) := by decide +kernel
theorem dX10_leastUsed_104 : decode cX10_leastUsed 104 = .ok (.iand, 1) := by decide +kernel
theorem dX10_leastUsed_105 : decode cX10_leastUsed 105 = .ok (.ior, 1) := by decide +kernel
theorem dX10_leastUsed_106 : decode cX10_leastUsed 106 = .ok (.iastore, 1) := by decide +kernel
theorem dX10_leastUsed_107 : decode cX10_leastUsed 107 = .ok (.iinc 6 1, 3) := by decide +kernel
theorem dX10_leastUsed_110 : decode cX10_leastUsed 110 = .ok (.goto (-75), 3) := by decide +kernel
theorem dX10_leastUsed_113 : decode cX10_leastUsed 113 = .ok (.iinc 5 (-1), 3) := by decide +kernel
theorem dX10_leastUsed_116 : decode cX10_leastUsed 116 = .ok (.goto (-89), 3) := by decide +kernel
theorem dX10_leastUsed_119 : decode cX10_leastUsed 119 = .ok (.iload_n 3, 1) := by decide +kernel
theorem dX10_leastUsed_120 : decode cX10_leastUsed 120 = .ok (.ifCond .ne 7, 3) := by decide +kernel
theorem dX10_leastUsed_123 : decode cX10_leastUsed 123 = .ok (.iconst (-1), 1) := by decide +kernel
theorem dX10_leastUsed_124 : decode cX10_leastUsed 124 = .ok (.goto 13, 3) := by decide +kernel
theorem dX10_leastUsed_127 : decode cX10_leastUsed 127 = .ok (.aload_n 0, 1) := by decide +kernel
theorem dX10_leastUsed_128 : decode cX10_leastUsed 128 = .ok (.aload_n 0, 1) := by decide +kernel
theorem dX10_leastUsed_129 : decode cX10_leastUsed 129 = .ok (.getfield 9, 3) := by decide +kernel
theorem dX10_leastUsed_132 : decode cX10_leastUsed 132 = .ok (.iconst 0, 1) := by decide +kernel
theorem dX10_leastUsed_133 : decode cX10_leastUsed 133 = .ok (.iaload, 1) := by decide +kernel
theorem dX10_leastUsed_134 : decode cX10_leastUsed 134 = .ok (.invokevirtual 73, 3) := by decide +kernel
theorem dX10_leastUsed_137 : decode cX10_leastUsed 137 = .ok (.ireturn, 1) := by decide +kernel
theorem dX10_numberFromAll_0 : decode cX10_numberFromAll 0 = .ok (.lconst 0, 1) := by decide +kernel
theorem dX10_numberFromAll_1 : decode cX10_numberFromAll 1 = .ok (.lstore_n 2, 1) := by decide +kernel
theorem dX10_numberFromAll_2 : decode cX10_numberFromAll 2 = .ok (.iconst 0, 1) := by decide +kernel
theorem dX10_numberFromAll_3 : decode cX10_numberFromAll 3 = .ok (.istore 4, 2) := by decide +kernel
theorem dX10_numberFromAll_5 : decode cX10_numberFromAll 5 = .ok (.iload 4, 2) := by decide +kernel
theorem dX10_numberFromAll_7 : decode cX10_numberFromAll 7 = .ok (.bipush 14, 2) := by decide +kernel
theorem dX10_numberFromAll_9 : decode cX10_numberFromAll 9 = .ok (.if_icmp .ge 28, 3) := by decide +kernel
theorem dX10_numberFromAll_12 : decode cX10_numberFromAll 12 = .ok (.iload_n 1, 1) := by decide +kernel
theorem dX10_numberFromAll_13 : decode cX10_numberFromAll 13 = .ok (.iload 4, 2) := by decide +kernel
theorem dX10_numberFromAll_15 : decode cX10_numberFromAll 15 = .ok (.ishr, 1) := by decide +kernel
theorem dX10_numberFromAll_16 : decode cX10_numberFromAll 16 = .ok (.iconst 1, 1) := by decide +kernel
theorem dX10_numberFromAll_17 : decode cX10_numberFromAll 17 = .ok (.iand, 1) := by decide +kernel
theorem dX10_numberFromAll_18 : decode cX10_numberFromAll 18 = .ok (.ifCond .eq 13, 3) := by decide +kernel
theorem dX10_numberFromAll_21 : decode cX10_numberFromAll 21 = .ok (.lload_n 2, 1) := by decide +kernel
theorem dX10_numberFromAll_22 : decode cX10_numberFromAll 22 = .ok (.aload_n 0, 1) := by decide +kernel
theorem dX10_numberFromAll_23 : decode cX10_numberFromAll 23 = .ok (.getfield 22, 3) := by decide +kernel
theorem dX10_numberFromAll_26 : decode cX10_numberFromAll 26 = .ok (.iload 4, 2) := by decide +kernel
theorem dX10_numberFromAll_28 : decode cX10_numberFromAll 28 = .ok (.laload, 1) := by decide +kernel
theorem dX10_numberFromAll_29 : decode cX10_numberFromAll 29 = .ok (.ladd, 1) := by decide +kernel
theorem dX10_numberFromAll_30 : decode cX10_numberFromAll 30 = .ok (.lstore_n 2, 1) := by decide +kernel
theorem dX10_numberFromAll_31 : decode cX10_numberFromAll 31 = .ok (.iinc 4 1, 3) := by decide +kernel
theorem dX10_numberFromAll_34 : decode cX10_numberFromAll 34 = .ok (.goto (-29), 3) := by decide +kernel
theorem dX10_numberFromAll_37 : decode cX10_numberFromAll 37 = .ok (.lload_n 2, 1) := by decide +kernel
theorem dX10_numberFromAll_38 : decode cX10_numberFromAll 38 = .ok (.lreturn, 1) := by decide +kernel
theorem dX10_pathSet_0 : decode cX10_pathSet 0 = .ok (.iconst 0, 1) := by decide +kernel
theorem dX10_pathSet_1 : decode cX10_pathSet 1 = .ok (.istore_n 1, 1) := by decide +kernel
theorem dX10_pathSet_2 : decode cX10_pathSet 2 = .ok (.iconst 0, 1) := by decide +kernel
theorem dX10_pathSet_3 : decode cX10_pathSet 3 = .ok (.istore_n 2, 1) := by decide +kernel
theorem dX10_pathSet_4 : decode cX10_pathSet 4 = .ok (.iload_n 2, 1) := by decide +kernel
theorem dX10_pathSet_5 : decode cX10_pathSet 5 = .ok (.aload_n 0, 1) := by decide +kernel
theorem dX10_pathSet_6 : decode cX10_pathSet 6 = .ok (.getfield 18, 3) := by decide +kernel
theorem dX10_pathSet_9 : decode cX10_pathSet 9 = .ok (.if_icmp .ge 20, 3) := by decide +kernel
theorem dX10_pathSet_12 : decode cX10_pathSet 12 = .ok (.iload_n 1, 1) := by decide +kernel
theorem dX10_pathSet_13 : decode cX10_pathSet 13 = .ok (.iconst 1, 1) := by decide +kernel
theorem dX10_pathSet_14 : decode cX10_pathSet 14 = .ok (.aload_n 0, 1) := by decide +kernel
theorem dX10_pathSet_15 : decode cX10_pathSet 15 = .ok (.getfield 15, 3) := by decide +kernel
theorem dX10_pathSet_18 : decode cX10_pathSet 18 = .ok (.iload_n 2, 1) := by decide +kernel
theorem dX10_pathSet_19 : decode cX10_pathSet 19 = .ok (.iaload, 1) := by decide +kernel
theorem dX10_pathSet_20 : decode cX10_pathSet 20 = .ok (.ishl, 1) := by decide +kernel
theorem dX10_pathSet_21 : decode cX10_pathSet 21 = .ok (.ior, 1) := by decide +kernel
theorem dX10_pathSet_22 : decode cX10_pathSet 22 = .ok (.istore_n 1, 1) := by decide +kernel
theorem dX10_pathSet_23 : decode cX10_pathSet 23 = .ok (.iinc 2 1, 3) := by decide +kernel
theorem dX10_pathSet_26 : decode cX10_pathSet 26 = .ok (.goto (-22), 3) := by decide +kernel
theorem dX10_pathSet_29 : decode cX10_pathSet 29 = .ok (.iload_n 1, 1) := by decide +kernel
theorem dX10_pathSet_30 : decode cX10_pathSet 30 = .ok (.ireturn, 1) := by decide +kernel
theorem kw_9 : Cond.initialized "FootholdWall$Ways" ∈ gw := gw_of (tb_of 9 (by decide +kernel)) (by decide +kernel)
theorem kw_118 : Cond.fieldLink "FootholdWall$Ways" 59 "FootholdWall$Wall" "starts" "I" ∈ gw := gw_of (tb_of 118 (by decide +kernel)) (by decide +kernel)
theorem kw_126 : Cond.fieldLink "FootholdWall$Ways" 64 "FootholdWall$Wall" "tops" "I" ∈ gw := gw_of (tb_of 126 (by decide +kernel)) (by decide +kernel)
theorem kw_246 : Cond.fieldLink "FootholdWall$Ways" 55 "FootholdWall$Rows" "wall" "LFootholdWall$Wall;" ∈ gw := gw_of (tb_of 246 (by decide +kernel)) (by decide +kernel)
theorem kw_272 : Cond.fieldLink "FootholdWall$Ways" 9 "FootholdWall$Ways" "layer" "[I" ∈ gw := gw_of (tb_of 272 (by decide +kernel)) (by decide +kernel)
theorem kw_273 : Cond.fieldLink "FootholdWall$Ways" 15 "FootholdWall$Ways" "path" "[I" ∈ gw := gw_of (tb_of 273 (by decide +kernel)) (by decide +kernel)
theorem kw_275 : Cond.fieldLink "FootholdWall$Ways" 18 "FootholdWall$Ways" "length" "I" ∈ gw := gw_of (tb_of 275 (by decide +kernel)) (by decide +kernel)
theorem kw_276 : Cond.fieldLink "FootholdWall$Ways" 22 "FootholdWall$Ways" "numberFrom" "[J" ∈ gw := gw_of (tb_of 276 (by decide +kernel)) (by decide +kernel)
theorem kw_277 : Cond.fieldLink "FootholdWall$Ways" 26 "FootholdWall$Ways" "leastFrom" "[I" ∈ gw := gw_of (tb_of 277 (by decide +kernel)) (by decide +kernel)
theorem kw_450 : Cond.static Lib.Math.min.name ∈ gw := gw_of (tb_of 450 (by decide +kernel)) (by decide +kernel)
theorem kw_451 : Cond.code Lib.Math.min.name Lib.Math.min.code 2 (some .int) ∈ gw := gw_of (tb_of 451 (by decide +kernel)) (by decide +kernel)
theorem kw_683 : Cond.instanceMethod yX9_middles ∈ gw := gw_of (tb_of 683 (by decide +kernel)) (by decide +kernel)
theorem kw_684 : Cond.selects "FootholdWall$Wall" yX9_middles yX9_middles ∈ gw := gw_of (tb_of 684 (by decide +kernel)) (by decide +kernel)
theorem kw_685 : Cond.code yX9_middles cX9_middles 1 (some (.int)) ∈ gw := gw_of (tb_of 685 (by decide +kernel)) (by decide +kernel)
theorem kw_916 : Cond.methodLink "FootholdWall$Ways" 35 yX10_findLayers ∈ gw := gw_of (tb_of 916 (by decide +kernel)) (by decide +kernel)
theorem kw_918 : Cond.instanceMethod yX10_findLayers ∈ gw := gw_of (tb_of 918 (by decide +kernel)) (by decide +kernel)
theorem kw_919 : Cond.code yX10_findLayers cX10_findLayers 7 (some (.int)) ∈ gw := gw_of (tb_of 919 (by decide +kernel)) (by decide +kernel)
theorem kw_920 : Cond.methodLink "FootholdWall$Ways" 49 yX5_stepped ∈ gw := gw_of (tb_of 920 (by decide +kernel)) (by decide +kernel)
theorem kw_921 : Cond.methodLink "FootholdWall$Ways" 39 yX10_keepLeading ∈ gw := gw_of (tb_of 921 (by decide +kernel)) (by decide +kernel)
theorem kw_923 : Cond.instanceMethod yX10_keepLeading ∈ gw := gw_of (tb_of 923 (by decide +kernel)) (by decide +kernel)
theorem kw_924 : Cond.code yX10_keepLeading cX10_keepLeading 5 none ∈ gw := gw_of (tb_of 924 (by decide +kernel)) (by decide +kernel)
theorem kw_925 : Cond.methodLink "FootholdWall$Ways" 43 yJ6_numberOfTrailingZeros_0f7a4 ∈ gw := gw_of (tb_of 925 (by decide +kernel)) (by decide +kernel)
theorem kw_984 : Cond.methodLink "FootholdWall$Ways" 65 yX10_numberFromAll ∈ gw := gw_of (tb_of 984 (by decide +kernel)) (by decide +kernel)
theorem kw_986 : Cond.instanceMethod yX10_numberFromAll ∈ gw := gw_of (tb_of 986 (by decide +kernel)) (by decide +kernel)
theorem kw_987 : Cond.code yX10_numberFromAll cX10_numberFromAll 5 (some (.long)) ∈ gw := gw_of (tb_of 987 (by decide +kernel)) (by decide +kernel)
theorem kw_1154 : Cond.methodLink "FootholdWall$Ways" 69 yX9_middles ∈ gw := gw_of (tb_of 1154 (by decide +kernel)) (by decide +kernel)
theorem kw_1155 : Cond.methodLink "FootholdWall$Ways" 73 yX10_leastFromAny ∈ gw := gw_of (tb_of 1155 (by decide +kernel)) (by decide +kernel)
theorem kw_1157 : Cond.instanceMethod yX10_leastFromAny ∈ gw := gw_of (tb_of 1157 (by decide +kernel)) (by decide +kernel)
theorem kw_1158 : Cond.code yX10_leastFromAny cX10_leastFromAny 4 (some (.int)) ∈ gw := gw_of (tb_of 1158 (by decide +kernel)) (by decide +kernel)
theorem kw_1159 : Cond.methodLink "FootholdWall$Ways" 76 Lib.Math.min.name ∈ gw := gw_of (tb_of 1159 (by decide +kernel)) (by decide +kernel)
theorem ks_27 : Cond.selects RX10 yX10_findLayers yX10_findLayers ∈ gw := gw_of (pv_of 27 (by decide +kernel)) (by decide +kernel)
theorem ks_28 : Cond.selects RX10 yX10_keepLeading yX10_keepLeading ∈ gw := gw_of (pv_of 28 (by decide +kernel)) (by decide +kernel)
theorem ks_29 : Cond.selects RX10 yX10_numberFromAll yX10_numberFromAll ∈ gw := gw_of (pv_of 29 (by decide +kernel)) (by decide +kernel)
theorem ks_41 : Cond.selects RX10 yX10_leastFromAny yX10_leastFromAny ∈ gw := gw_of (pv_of 41 (by decide +kernel)) (by decide +kernel)
