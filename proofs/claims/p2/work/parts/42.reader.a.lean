theorem dX4_read_0 : decode cX4_read 0 = .ok (.aload_n 0, 1) := by decide +kernel
theorem dX4_read_1 : decode cX4_read 1 = .ok (.getfield 32, 3) := by decide +kernel
theorem dX4_read_4 : decode cX4_read 4 = .ok (.invokevirtual 47, 3) := by decide +kernel
theorem dX4_read_7 : decode cX4_read 7 = .ok (.aload_n 0, 1) := by decide +kernel
theorem dX4_read_8 : decode cX4_read 8 = .ok (.getfield 43, 3) := by decide +kernel
theorem dX4_read_11 : decode cX4_read 11 = .ok (.invokevirtual 50, 3) := by decide +kernel
theorem dX4_read_14 : decode cX4_read 14 = .ok (.aload_n 0, 1) := by decide +kernel
theorem dX4_read_15 : decode cX4_read 15 = .ok (.iconst 0, 1) := by decide +kernel
theorem dX4_read_16 : decode cX4_read 16 = .ok (.putfield 36, 3) := by decide +kernel
theorem dX4_read_19 : decode cX4_read 19 = .ok (.aload_n 0, 1) := by decide +kernel
theorem dX4_read_20 : decode cX4_read 20 = .ok (.getfield 12, 3) := by decide +kernel
theorem dX4_read_23 : decode cX4_read 23 = .ok (.aload_n 1, 1) := by decide +kernel
theorem dX4_read_24 : decode cX4_read 24 = .ok (.iload_n 2, 1) := by decide +kernel
theorem dX4_read_25 : decode cX4_read 25 = .ok (.invokevirtual 51, 3) := by decide +kernel
theorem dX4_read_28 : decode cX4_read 28 = .ok (.iconst 0, 1) := by decide +kernel
theorem dX4_read_29 : decode cX4_read 29 = .ok (.istore_n 3, 1) := by decide +kernel
theorem dX4_read_30 : decode cX4_read 30 = .ok (.iload_n 3, 1) := by decide +kernel
theorem dX4_read_31 : decode cX4_read 31 = .ok (.sipush 900, 3) := by decide +kernel
theorem dX4_read_34 : decode cX4_read 34 = .ok (.if_icmp .ge 53, 3) := by decide +kernel
theorem dX4_read_37 : decode cX4_read 37 = .ok (.aload_n 0, 1) := by decide +kernel
theorem dX4_read_38 : decode cX4_read 38 = .ok (.getfield 12, 3) := by decide +kernel
theorem dX4_read_41 : decode cX4_read 41 = .ok (.getfield 55, 3) := by decide +kernel
theorem dX4_read_44 : decode cX4_read 44 = .ok (.ifCond .eq 43, 3) := by decide +kernel
theorem dX4_read_47 : decode cX4_read 47 = .ok (.aload_n 0, 1) := by decide +kernel
theorem dX4_read_48 : decode cX4_read 48 = .ok (.invokevirtual 59, 3) := by decide +kernel
theorem dX4_read_51 : decode cX4_read 51 = .ok (.ifCond .eq 15, 3) := by decide +kernel
theorem dX4_read_54 : decode cX4_read 54 = .ok (.aload_n 0, 1) := by decide +kernel
theorem dX4_read_55 : decode cX4_read 55 = .ok (.getfield 12, 3) := by decide +kernel
theorem dX4_read_58 : decode cX4_read 58 = .ok (.bipush 59, 2) := by decide +kernel
theorem dX4_read_60 : decode cX4_read 60 = .ok (.invokevirtual 63, 3) := by decide +kernel
theorem dX4_read_63 : decode cX4_read 63 = .ok (.ifCond .ne 5, 3) := by decide +kernel
theorem dX4_read_66 : decode cX4_read 66 = .ok (.iconst 0, 1) := by decide +kernel
theorem dX4_read_67 : decode cX4_read 67 = .ok (.ireturn, 1) := by decide +kernel
theorem dX4_read_68 : decode cX4_read 68 = .ok (.aload_n 0, 1) := by decide +kernel
theorem dX4_read_69 : decode cX4_read 69 = .ok (.getfield 32, 3) := by decide +kernel
theorem dX4_read_72 : decode cX4_read 72 = .ok (.dup, 1) := by decide +kernel
theorem dX4_read_73 : decode cX4_read 73 = .ok (.getfield 67, 3) := by decide +kernel
theorem dX4_read_76 : decode cX4_read 76 = .ok (.iconst 1, 1) := by decide +kernel
theorem dX4_read_77 : decode cX4_read 77 = .ok (.iadd, 1) := by decide +kernel
theorem dX4_read_78 : decode cX4_read 78 = .ok (.putfield 67, 3) := by decide +kernel
theorem dX4_read_81 : decode cX4_read 81 = .ok (.iinc 3 1, 3) := by decide +kernel
theorem dX4_read_84 : decode cX4_read 84 = .ok (.goto (-54), 3) := by decide +kernel
theorem dX4_read_87 : decode cX4_read 87 = .ok (.aload_n 0, 1) := by decide +kernel
theorem dX4_read_88 : decode cX4_read 88 = .ok (.getfield 43, 3) := by decide +kernel
theorem dX4_read_91 : decode cX4_read 91 = .ok (.invokevirtual 70, 3) := by decide +kernel
theorem dX4_read_94 : decode cX4_read 94 = .ok (.iconst 1, 1) := by decide +kernel
theorem dX4_read_95 : decode cX4_read 95 = .ok (.ireturn, 1) := by decide +kernel
theorem dX4_readBroken_0 : decode cX4_readBroken 0 = .ok (.aload_n 0, 1) := by decide +kernel
theorem dX4_readBroken_1 : decode cX4_readBroken 1 = .ok (.getfield 12, 3) := by decide +kernel
theorem dX4_readBroken_4 : decode cX4_readBroken 4 = .ok (.invokevirtual 97, 3) := by decide +kernel
theorem dX4_readBroken_7 : decode cX4_readBroken 7 = .ok (.aload_n 0, 1) := by decide +kernel
theorem dX4_readBroken_8 : decode cX4_readBroken 8 = .ok (.getfield 12, 3) := by decide +kernel
theorem dX4_readBroken_11 : decode cX4_readBroken 11 = .ok (.aload_n 0, 1) := by decide +kernel
theorem dX4_readBroken_12 : decode cX4_readBroken 12 = .ok (.getfield 32, 3) := by decide +kernel
theorem dX4_readBroken_15 : decode cX4_readBroken 15 = .ok (.getfield 125, 3) := by decide +kernel
theorem dX4_readBroken_18 : decode cX4_readBroken 18 = .ok (.iconst 1, 1) := by decide +kernel
theorem dX4_readBroken_19 : decode cX4_readBroken 19 = .ok (.isub, 1) := by decide +kernel
theorem dX4_readBroken_20 : decode cX4_readBroken 20 = .ok (.invokevirtual 115, 3) := by decide +kernel
theorem dX4_readBroken_23 : decode cX4_readBroken 23 = .ok (.istore_n 1, 1) := by decide +kernel
theorem dX4_readBroken_24 : decode cX4_readBroken 24 = .ok (.iload_n 1, 1) := by decide +kernel
theorem dX4_readBroken_25 : decode cX4_readBroken 25 = .ok (.iconst (-1), 1) := by decide +kernel
theorem dX4_readBroken_26 : decode cX4_readBroken 26 = .ok (.if_icmp .ne 5, 3) := by decide +kernel
theorem dX4_readBroken_29 : decode cX4_readBroken 29 = .ok (.iconst 0, 1) := by decide +kernel
theorem dX4_readBroken_30 : decode cX4_readBroken 30 = .ok (.ireturn, 1) := by decide +kernel
theorem dX4_readBroken_31 : decode cX4_readBroken 31 = .ok (.aload_n 0, 1) := by decide +kernel
theorem dX4_readBroken_32 : decode cX4_readBroken 32 = .ok (.getfield 43, 3) := by decide +kernel
theorem dX4_readBroken_35 : decode cX4_readBroken 35 = .ok (.iload_n 1, 1) := by decide +kernel
theorem dX4_readBroken_36 : decode cX4_readBroken 36 = .ok (.invokevirtual 184, 3) := by decide +kernel
theorem dX4_readBroken_39 : decode cX4_readBroken 39 = .ok (.pop, 1) := by decide +kernel
theorem dX4_readBroken_40 : decode cX4_readBroken 40 = .ok (.iconst 1, 1) := by decide +kernel
theorem dX4_readBroken_41 : decode cX4_readBroken 41 = .ok (.ireturn, 1) := by decide +kernel
theorem dX4_readFlag_0 : decode cX4_readFlag 0 = .ok (.iconst 1, 1) := by decide +kernel
theorem dX4_readFlag_1 : decode cX4_readFlag 1 = .ok (.iload_n 1, 1) := by decide +kernel
theorem dX4_readFlag_2 : decode cX4_readFlag 2 = .ok (.ishl, 1) := by decide +kernel
theorem dX4_readFlag_3 : decode cX4_readFlag 3 = .ok (.istore_n 2, 1) := by decide +kernel
theorem dX4_readFlag_4 : decode cX4_readFlag 4 = .ok (.aload_n 0, 1) := by decide +kernel
theorem dX4_readFlag_5 : decode cX4_readFlag 5 = .ok (.getfield 12, 3) := by decide +kernel
theorem dX4_readFlag_8 : decode cX4_readFlag 8 = .ok (.ldc 141, 2) := by decide +kernel
theorem dX4_readFlag_10 : decode cX4_readFlag 10 = .ok (.invokevirtual 83, 3) := by decide +kernel
theorem dX4_readFlag_13 : decode cX4_readFlag 13 = .ok (.ifCond .eq 48, 3) := by decide +kernel
theorem dX4_readFlag_16 : decode cX4_readFlag 16 = .ok (.aload_n 0, 1) := by decide +kernel
theorem dX4_readFlag_17 : decode cX4_readFlag 17 = .ok (.getfield 12, 3) := by decide +kernel
theorem dX4_readFlag_20 : decode cX4_readFlag 20 = .ok (.invokevirtual 97, 3) := by decide +kernel
theorem dX4_readFlag_23 : decode cX4_readFlag 23 = .ok (.aload_n 0, 1) := by decide +kernel
theorem dX4_readFlag_24 : decode cX4_readFlag 24 = .ok (.getfield 32, 3) := by decide +kernel
theorem dX4_readFlag_27 : decode cX4_readFlag 27 = .ok (.getfield 135, 3) := by decide +kernel
theorem dX4_readFlag_30 : decode cX4_readFlag 30 = .ok (.iload_n 1, 1) := by decide +kernel
theorem dX4_readFlag_31 : decode cX4_readFlag 31 = .ok (.aload_n 0, 1) := by decide +kernel
theorem dX4_readFlag_32 : decode cX4_readFlag 32 = .ok (.getfield 12, 3) := by decide +kernel
theorem dX4_readFlag_35 : decode cX4_readFlag 35 = .ok (.sipush 999, 3) := by decide +kernel
theorem dX4_readFlag_38 : decode cX4_readFlag 38 = .ok (.invokevirtual 115, 3) := by decide +kernel
theorem dX4_readFlag_41 : decode cX4_readFlag 41 = .ok (.iastore, 1) := by decide +kernel
theorem dX4_readFlag_42 : decode cX4_readFlag 42 = .ok (.aload_n 0, 1) := by decide +kernel
theorem dX4_readFlag_43 : decode cX4_readFlag 43 = .ok (.getfield 32, 3) := by decide +kernel
theorem dX4_readFlag_46 : decode cX4_readFlag 46 = .ok (.getfield 135, 3) := by decide +kernel
theorem dX4_readFlag_49 : decode cX4_readFlag 49 = .ok (.iload_n 1, 1) := by decide +kernel
theorem dX4_readFlag_50 : decode cX4_readFlag 50 = .ok (.iaload, 1) := by decide +kernel
theorem dX4_readFlag_51 : decode cX4_readFlag 51 = .ok (.iconst (-1), 1) := by decide +kernel
theorem dX4_readFlag_52 : decode cX4_readFlag 52 = .ok (.if_icmp .eq 7, 3) := by decide +kernel
theorem dX4_readFlag_55 : decode cX4_readFlag 55 = .ok (.iconst 1, 1) := by decide +kernel
theorem dX4_readFlag_56 : decode cX4_readFlag 56 = .ok (.goto 4, 3) := by decide +kernel
theorem dX4_readFlag_59 : decode cX4_readFlag 59 = .ok (.iconst 0, 1) := by decide +kernel
theorem dX4_readFlag_60 : decode cX4_readFlag 60 = .ok (.ireturn, 1) := by decide +kernel
theorem dX4_readFlag_61 : decode cX4_readFlag 61 = .ok (.aload_n 0, 1) := by decide +kernel
theorem dX4_readFlag_62 : decode cX4_readFlag 62 = .ok (.getfield 12, 3) := by decide +kernel
theorem dX4_readFlag_65 : decode cX4_readFlag 65 = .ok (.ldc 142, 2) := by decide +kernel
theorem dX4_readFlag_67 : decode cX4_readFlag 67 = .ok (.invokevirtual 83, 3) := by decide +kernel
theorem dX4_readFlag_70 : decode cX4_readFlag 70 = .ok (.ifCond .eq 19, 3) := by decide +kernel
theorem dX4_readFlag_73 : decode cX4_readFlag 73 = .ok (.aload_n 0, 1) := by decide +kernel
theorem dX4_readFlag_74 : decode cX4_readFlag 74 = .ok (.getfield 32, 3) := by decide +kernel
theorem dX4_readFlag_77 : decode cX4_readFlag 77 = .ok (.dup, 1) := by decide +kernel
theorem dX4_readFlag_78 : decode cX4_readFlag 78 = .ok (.getfield 144, 3) := by decide +kernel
theorem dX4_readFlag_81 : decode cX4_readFlag 81 = .ok (.iload_n 2, 1) := by decide +kernel
theorem dX4_readFlag_82 : decode cX4_readFlag 82 = .ok (.ior, 1) := by decide +kernel
theorem dX4_readFlag_83 : decode cX4_readFlag 83 = .ok (.putfield 144, 3) := by decide +kernel
theorem dX4_readFlag_86 : decode cX4_readFlag 86 = .ok (.goto 68, 3) := by decide +kernel
theorem dX4_readFlag_89 : decode cX4_readFlag 89 = .ok (.aload_n 0, 1) := by decide +kernel
theorem dX4_readFlag_90 : decode cX4_readFlag 90 = .ok (.getfield 12, 3) := by decide +kernel
theorem dX4_readFlag_93 : decode cX4_readFlag 93 = .ok (.ldc 147, 2) := by decide +kernel
theorem dX4_readFlag_95 : decode cX4_readFlag 95 = .ok (.invokevirtual 83, 3) := by decide +kernel
theorem dX4_readFlag_98 : decode cX4_readFlag 98 = .ok (.ifCond .eq 19, 3) := by decide +kernel
theorem dX4_readFlag_101 : decode cX4_readFlag 101 = .ok (.aload_n 0, 1) := by decide +kernel
theorem dX4_readFlag_102 : decode cX4_readFlag 102 = .ok (.getfield 32, 3) := by decide +kernel
theorem dX4_readFlag_105 : decode cX4_readFlag 105 = .ok (.dup, 1) := by decide +kernel
theorem dX4_readFlag_106 : decode cX4_readFlag 106 = .ok (.getfield 149, 3) := by decide +kernel
theorem dX4_readFlag_109 : decode cX4_readFlag 109 = .ok (.iload_n 2, 1) := by decide +kernel
theorem dX4_readFlag_110 : decode cX4_readFlag 110 = .ok (.ior, 1) := by decide +kernel
theorem dX4_readFlag_111 : decode cX4_readFlag 111 = .ok (.putfield 149, 3) := by decide +kernel
theorem dX4_readFlag_114 : decode cX4_readFlag 114 = .ok (.goto 40, 3) := by decide +kernel
theorem dX4_readFlag_117 : decode cX4_readFlag 117 = .ok (.aload_n 0, 1) := by decide +kernel
theorem dX4_readFlag_118 : decode cX4_readFlag 118 = .ok (.getfield 12, 3) := by decide +kernel
theorem dX4_readFlag_121 : decode cX4_readFlag 121 = .ok (.ldc 152, 2) := by decide +kernel
theorem dX4_readFlag_123 : decode cX4_readFlag 123 = .ok (.invokevirtual 83, 3) := by decide +kernel
theorem dX4_readFlag_126 : decode cX4_readFlag 126 = .ok (.ifCond .eq 19, 3) := by decide +kernel
theorem dX4_readFlag_129 : decode cX4_readFlag 129 = .ok (.aload_n 0, 1) := by decide +kernel
theorem dX4_readFlag_130 : decode cX4_readFlag 130 = .ok (.getfield 32, 3) := by decide +kernel
theorem dX4_readFlag_133 : decode cX4_readFlag 133 = .ok (.dup, 1) := by decide +kernel
theorem dX4_readFlag_134 : decode cX4_readFlag 134 = .ok (.getfield 154, 3) := by decide +kernel
theorem dX4_readFlag_137 : decode cX4_readFlag 137 = .ok (.iload_n 2, 1) := by decide +kernel
theorem dX4_readFlag_138 : decode cX4_readFlag 138 = .ok (.ior, 1) := by decide +kernel
theorem dX4_readFlag_139 : decode cX4_readFlag 139 = .ok (.putfield 154, 3) := by decide +kernel
theorem dX4_readFlag_142 : decode cX4_readFlag 142 = .ok (.goto 12, 3) := by decide +kernel
theorem dX4_readFlag_145 : decode cX4_readFlag 145 = .ok (.aload_n 0, 1) := by decide +kernel
theorem dX4_readFlag_146 : decode cX4_readFlag 146 = .ok (.getfield 12, 3) := by decide +kernel
theorem dX4_readFlag_149 : decode cX4_readFlag 149 = .ok (.iconst 2, 1) := by decide +kernel
theorem dX4_readFlag_150 : decode cX4_readFlag 150 = .ok (.invokevirtual 121, 3) := by decide +kernel
theorem dX4_readFlag_153 : decode cX4_readFlag 153 = .ok (.ireturn, 1) := by decide +kernel
theorem dX4_readFlag_154 : decode cX4_readFlag 154 = .ok (.aload_n 0, 1) := by decide +kernel
theorem dX4_readFlag_155 : decode cX4_readFlag 155 = .ok (.getfield 12, 3) := by decide +kernel
theorem dX4_readFlag_158 : decode cX4_readFlag 158 = .ok (.invokevirtual 97, 3) := by decide +kernel
theorem dX4_readFlag_161 : decode cX4_readFlag 161 = .ok (.iconst 1, 1) := by decide +kernel
theorem dX4_readFlag_162 : decode cX4_readFlag 162 = .ok (.ireturn, 1) := by decide +kernel
theorem dX4_readGuide_0 : decode cX4_readGuide 0 = .ok (.aload_n 0, 1) := by decide +kernel
theorem dX4_readGuide_1 : decode cX4_readGuide 1 = .ok (.getfield 32, 3) := by decide +kernel
theorem dX4_readGuide_4 : decode cX4_readGuide 4 = .ok (.getfield 157, 3) := by decide +kernel
theorem dX4_readGuide_7 : decode cX4_readGuide 7 = .ok (.istore_n 1, 1) := by decide +kernel
theorem dX4_readGuide_8 : decode cX4_readGuide 8 = .ok (.iload_n 1, 1) := by decide +kernel
theorem dX4_readGuide_9 : decode cX4_readGuide 9 = .ok (.iconst 5, 1) := by decide +kernel
theorem dX4_readGuide_10 : decode cX4_readGuide 10 = .ok (.if_icmp .lt 12, 3) := by decide +kernel
theorem dX4_readGuide_13 : decode cX4_readGuide 13 = .ok (.aload_n 0, 1) := by decide +kernel
theorem dX4_readGuide_14 : decode cX4_readGuide 14 = .ok (.getfield 12, 3) := by decide +kernel
theorem dX4_readGuide_17 : decode cX4_readGuide 17 = .ok (.iconst 4, 1) := by decide +kernel
theorem dX4_readGuide_18 : decode cX4_readGuide 18 = .ok (.invokevirtual 121, 3) := by decide +kernel
theorem dX4_readGuide_21 : decode cX4_readGuide 21 = .ok (.ireturn, 1) := by decide +kernel
theorem dX4_readGuide_22 : decode cX4_readGuide 22 = .ok (.aload_n 0, 1) := by decide +kernel
theorem dX4_readGuide_23 : decode cX4_readGuide 23 = .ok (.getfield 12, 3) := by decide +kernel
theorem dX4_readGuide_26 : decode cX4_readGuide 26 = .ok (.invokevirtual 97, 3) := by decide +kernel
theorem dX4_readGuide_29 : decode cX4_readGuide 29 = .ok (.aload_n 0, 1) := by decide +kernel
theorem dX4_readGuide_30 : decode cX4_readGuide 30 = .ok (.getfield 12, 3) := by decide +kernel
theorem dX4_readGuide_33 : decode cX4_readGuide 33 = .ok (.ldc 160, 2) := by decide +kernel
theorem dX4_readGuide_35 : decode cX4_readGuide 35 = .ok (.invokevirtual 162, 3) := by decide +kernel
theorem dX4_readGuide_38 : decode cX4_readGuide 38 = .ok (.ifCond .ne 5, 3) := by decide +kernel
theorem dX4_readGuide_41 : decode cX4_readGuide 41 = .ok (.iconst 0, 1) := by decide +kernel
theorem dX4_readGuide_42 : decode cX4_readGuide 42 = .ok (.ireturn, 1) := by decide +kernel
theorem dX4_readGuide_43 : decode cX4_readGuide 43 = .ok (.aload_n 0, 1) := by decide +kernel
theorem dX4_readGuide_44 : decode cX4_readGuide 44 = .ok (.getfield 32, 3) := by decide +kernel
theorem dX4_readGuide_47 : decode cX4_readGuide 47 = .ok (.getfield 165, 3) := by decide +kernel
theorem dX4_readGuide_50 : decode cX4_readGuide 50 = .ok (.iload_n 1, 1) := by decide +kernel
theorem dX4_readGuide_51 : decode cX4_readGuide 51 = .ok (.aload_n 0, 1) := by decide +kernel
theorem dX4_readGuide_52 : decode cX4_readGuide 52 = .ok (.getfield 12, 3) := by decide +kernel
theorem dX4_readGuide_55 : decode cX4_readGuide 55 = .ok (.bipush 99, 2) := by decide +kernel
theorem dX4_readGuide_57 : decode cX4_readGuide 57 = .ok (.invokevirtual 115, 3) := by decide +kernel
theorem dX4_readGuide_60 : decode cX4_readGuide 60 = .ok (.iastore, 1) := by decide +kernel
theorem dX4_readGuide_61 : decode cX4_readGuide 61 = .ok (.aload_n 0, 1) := by decide +kernel
theorem dX4_readGuide_62 : decode cX4_readGuide 62 = .ok (.getfield 32, 3) := by decide +kernel
theorem dX4_readGuide_65 : decode cX4_readGuide 65 = .ok (.getfield 167, 3) := by decide +kernel
theorem dX4_readGuide_68 : decode cX4_readGuide 68 = .ok (.iload_n 1, 1) := by decide +kernel
theorem dX4_readGuide_69 : decode cX4_readGuide 69 = .ok (.iconst 0, 1) := by decide +kernel
theorem dX4_readGuide_70 : decode cX4_readGuide 70 = .ok (.iastore, 1) := by decide +kernel
theorem dX4_readGuide_71 : decode cX4_readGuide 71 = .ok (.aload_n 0, 1) := by decide +kernel
theorem dX4_readGuide_72 : decode cX4_readGuide 72 = .ok (.getfield 32, 3) := by decide +kernel
theorem dX4_readGuide_75 : decode cX4_readGuide 75 = .ok (.getfield 165, 3) := by decide +kernel
theorem dX4_readGuide_78 : decode cX4_readGuide 78 = .ok (.iload_n 1, 1) := by decide +kernel
theorem dX4_readGuide_79 : decode cX4_readGuide 79 = .ok (.iaload, 1) := by decide +kernel
theorem dX4_readGuide_80 : decode cX4_readGuide 80 = .ok (.iconst (-1), 1) := by decide +kernel
theorem dX4_readGuide_81 : decode cX4_readGuide 81 = .ok (.if_icmp .eq 40, 3) := by decide +kernel
theorem dX4_readGuide_84 : decode cX4_readGuide 84 = .ok (.aload_n 0, 1) := by decide +kernel
theorem dX4_readGuide_85 : decode cX4_readGuide 85 = .ok (.getfield 12, 3) := by decide +kernel
theorem dX4_readGuide_88 : decode cX4_readGuide 88 = .ok (.ldc 170, 2) := by decide +kernel
theorem dX4_readGuide_90 : decode cX4_readGuide 90 = .ok (.invokevirtual 83, 3) := by decide +kernel
theorem dX4_readGuide_93 : decode cX4_readGuide 93 = .ok (.ifCond .eq 28, 3) := by decide +kernel
theorem dX4_readGuide_96 : decode cX4_readGuide 96 = .ok (.aload_n 0, 1) := by decide +kernel
theorem dX4_readGuide_97 : decode cX4_readGuide 97 = .ok (.getfield 12, 3) := by decide +kernel
theorem dX4_readGuide_100 : decode cX4_readGuide 100 = .ok (.invokevirtual 97, 3) := by decide +kernel
theorem dX4_readGuide_103 : decode cX4_readGuide 103 = .ok (.aload_n 0, 1) := by decide +kernel
theorem dX4_readGuide_104 : decode cX4_readGuide 104 = .ok (.getfield 32, 3) := by decide +kernel
theorem dX4_readGuide_107 : decode cX4_readGuide 107 = .ok (.getfield 167, 3) := by decide +kernel
theorem dX4_readGuide_110 : decode cX4_readGuide 110 = .ok (.iload_n 1, 1) := by decide +kernel
theorem dX4_readGuide_111 : decode cX4_readGuide 111 = .ok (.aload_n 0, 1) := by decide +kernel
theorem dX4_readGuide_112 : decode cX4_readGuide 112 = .ok (.getfield 12, 3) := by decide +kernel
theorem dX4_readGuide_115 : decode cX4_readGuide 115 = .ok (.bipush 99, 2) := by decide +kernel
theorem dX4_readGuide_117 : decode cX4_readGuide 117 = .ok (.invokevirtual 115, 3) := by decide +kernel
theorem dX4_readGuide_120 : decode cX4_readGuide 120 = .ok (.iastore, 1) := by decide +kernel
theorem dX4_readGuide_121 : decode cX4_readGuide 121 = .ok (.aload_n 0, 1) := by decide +kernel
theorem dX4_readGuide_122 : decode cX4_readGuide 122 = .ok (.getfield 32, 3) := by decide +kernel
theorem dX4_readGuide_125 : decode cX4_readGuide 125 = .ok (.dup, 1) := by decide +kernel
theorem dX4_readGuide_126 : decode cX4_readGuide 126 = .ok (.getfield 157, 3) := by decide +kernel
theorem dX4_readGuide_129 : decode cX4_readGuide 129 = .ok (.iconst 1, 1) := by decide +kernel
theorem dX4_readGuide_130 : decode cX4_readGuide 130 = .ok (.iadd, 1) := by decide +kernel
theorem dX4_readGuide_131 : decode cX4_readGuide 131 = .ok (.putfield 157, 3) := by decide +kernel
theorem dX4_readGuide_134 : decode cX4_readGuide 134 = .ok (.aload_n 0, 1) := by decide +kernel
theorem dX4_readGuide_135 : decode cX4_readGuide 135 = .ok (.getfield 32, 3) := by decide +kernel
theorem dX4_readGuide_138 : decode cX4_readGuide 138 = .ok (.getfield 165, 3) := by decide +kernel
theorem dX4_readGuide_141 : decode cX4_readGuide 141 = .ok (.iload_n 1, 1) := by decide +kernel
theorem dX4_readGuide_142 : decode cX4_readGuide 142 = .ok (.iaload, 1) := by decide +kernel
theorem dX4_readGuide_143 : decode cX4_readGuide 143 = .ok (.iconst (-1), 1) := by decide +kernel
theorem dX4_readGuide_144 : decode cX4_readGuide 144 = .ok (.if_icmp .eq 20, 3) := by decide +kernel
theorem dX4_readGuide_147 : decode cX4_readGuide 147 = .ok (.aload_n 0, 1) := by decide +kernel
theorem dX4_readGuide_148 : decode cX4_readGuide 148 = .ok (.getfield 32, 3) := by decide +kernel
theorem dX4_readGuide_151 : decode cX4_readGuide 151 = .ok (.getfield 167, 3) := by decide +kernel
theorem dX4_readGuide_154 : decode cX4_readGuide 154 = .ok (.iload_n 1, 1) := by decide +kernel
theorem dX4_readGuide_155 : decode cX4_readGuide 155 = .ok (.iaload, 1) := by decide +kernel
theorem dX4_readGuide_156 : decode cX4_readGuide 156 = .ok (.iconst (-1), 1) := by decide +kernel
theorem dX4_readGuide_157 : decode cX4_readGuide 157 = .ok (.if_icmp .eq 7, 3) := by decide +kernel
theorem dX4_readGuide_160 : decode cX4_readGuide 160 = .ok (.iconst 1, 1) := by decide +kernel
theorem dX4_readGuide_161 : decode cX4_readGuide 161 = .ok (.goto 4, 3) := by decide +kernel
theorem dX4_readGuide_164 : decode cX4_readGuide 164 = .ok (.iconst 0, 1) := by decide +kernel
theorem dX4_readGuide_165 : decode cX4_readGuide 165 = .ok (.ireturn, 1) := by decide +kernel
theorem dX4_readHold_0 : decode cX4_readHold 0 = .ok (.aload_n 0, 1) := by decide +kernel
theorem dX4_readHold_1 : decode cX4_readHold 1 = .ok (.getfield 32, 3) := by decide +kernel
theorem dX4_readHold_4 : decode cX4_readHold 4 = .ok (.getfield 125, 3) := by decide +kernel
theorem dX4_readHold_7 : decode cX4_readHold 7 = .ok (.istore_n 1, 1) := by decide +kernel
theorem dX4_readHold_8 : decode cX4_readHold 8 = .ok (.iload_n 1, 1) := by decide +kernel
theorem dX4_readHold_9 : decode cX4_readHold 9 = .ok (.bipush 14, 2) := by decide +kernel
theorem dX4_readHold_11 : decode cX4_readHold 11 = .ok (.if_icmp .lt 12, 3) := by decide +kernel
theorem dX4_readHold_14 : decode cX4_readHold 14 = .ok (.aload_n 0, 1) := by decide +kernel
theorem dX4_readHold_15 : decode cX4_readHold 15 = .ok (.getfield 12, 3) := by decide +kernel
theorem dX4_readHold_18 : decode cX4_readHold 18 = .ok (.iconst 4, 1) := by decide +kernel
theorem dX4_readHold_19 : decode cX4_readHold 19 = .ok (.invokevirtual 121, 3) := by decide +kernel
theorem dX4_readHold_22 : decode cX4_readHold 22 = .ok (.ireturn, 1) := by decide +kernel
theorem dX4_readHold_23 : decode cX4_readHold 23 = .ok (.aload_n 0, 1) := by decide +kernel
theorem dX4_readHold_24 : decode cX4_readHold 24 = .ok (.getfield 12, 3) := by decide +kernel
theorem dX4_readHold_27 : decode cX4_readHold 27 = .ok (.invokevirtual 97, 3) := by decide +kernel
theorem dX4_readHold_30 : decode cX4_readHold 30 = .ok (.aload_n 0, 1) := by decide +kernel
theorem dX4_readHold_31 : decode cX4_readHold 31 = .ok (.getfield 12, 3) := by decide +kernel
theorem dX4_readHold_34 : decode cX4_readHold 34 = .ok (.bipush 99, 2) := by decide +kernel
theorem dX4_readHold_36 : decode cX4_readHold 36 = .ok (.invokevirtual 115, 3) := by decide +kernel
theorem dX4_readHold_39 : decode cX4_readHold 39 = .ok (.istore_n 2, 1) := by decide +kernel
theorem dX4_readHold_40 : decode cX4_readHold 40 = .ok (.iload_n 2, 1) := by decide +kernel
theorem dX4_readHold_41 : decode cX4_readHold 41 = .ok (.iconst (-1), 1) := by decide +kernel
theorem dX4_readHold_42 : decode cX4_readHold 42 = .ok (.if_icmp .ne 5, 3) := by decide +kernel
theorem dX4_readHold_45 : decode cX4_readHold 45 = .ok (.iconst 0, 1) := by decide +kernel
theorem dX4_readHold_46 : decode cX4_readHold 46 = .ok (.ireturn, 1) := by decide +kernel
theorem dX4_readHold_47 : decode cX4_readHold 47 = .ok (.aload_n 0, 1) := by decide +kernel
theorem dX4_readHold_48 : decode cX4_readHold 48 = .ok (.getfield 12, 3) := by decide +kernel
theorem dX4_readHold_51 : decode cX4_readHold 51 = .ok (.bipush 99, 2) := by decide +kernel
theorem dX4_readHold_53 : decode cX4_readHold 53 = .ok (.invokevirtual 115, 3) := by decide +kernel
theorem dX4_readHold_56 : decode cX4_readHold 56 = .ok (.istore_n 3, 1) := by decide +kernel
theorem dX4_readHold_57 : decode cX4_readHold 57 = .ok (.iload_n 3, 1) := by decide +kernel
theorem dX4_readHold_58 : decode cX4_readHold 58 = .ok (.iconst (-1), 1) := by decide +kernel
theorem dX4_readHold_59 : decode cX4_readHold 59 = .ok (.if_icmp .ne 5, 3) := by decide +kernel
theorem dX4_readHold_62 : decode cX4_readHold 62 = .ok (.iconst 0, 1) := by decide +kernel
theorem dX4_readHold_63 : decode cX4_readHold 63 = .ok (.ireturn, 1) := by decide +kernel
theorem dX4_readHold_64 : decode cX4_readHold 64 = .ok (.aload_n 0, 1) := by decide +kernel
theorem dX4_readHold_65 : decode cX4_readHold 65 = .ok (.getfield 32, 3) := by decide +kernel
theorem dX4_readHold_68 : decode cX4_readHold 68 = .ok (.getfield 128, 3) := by decide +kernel
theorem dX4_readHold_71 : decode cX4_readHold 71 = .ok (.iload_n 1, 1) := by decide +kernel
theorem dX4_readHold_72 : decode cX4_readHold 72 = .ok (.iload_n 2, 1) := by decide +kernel
theorem dX4_readHold_73 : decode cX4_readHold 73 = .ok (.iastore, 1) := by decide +kernel
theorem dX4_readHold_74 : decode cX4_readHold 74 = .ok (.aload_n 0, 1) := by decide +kernel
theorem dX4_readHold_75 : decode cX4_readHold 75 = .ok (.getfield 32, 3) := by decide +kernel
theorem dX4_readHold_78 : decode cX4_readHold 78 = .ok (.getfield 132, 3) := by decide +kernel
theorem dX4_readHold_81 : decode cX4_readHold 81 = .ok (.iload_n 1, 1) := by decide +kernel
theorem dX4_readHold_82 : decode cX4_readHold 82 = .ok (.iload_n 3, 1) := by decide +kernel
theorem dX4_readHold_83 : decode cX4_readHold 83 = .ok (.iastore, 1) := by decide +kernel
theorem dX4_readHold_84 : decode cX4_readHold 84 = .ok (.aload_n 0, 1) := by decide +kernel
theorem dX4_readHold_85 : decode cX4_readHold 85 = .ok (.getfield 32, 3) := by decide +kernel
theorem dX4_readHold_88 : decode cX4_readHold 88 = .ok (.getfield 135, 3) := by decide +kernel
theorem dX4_readHold_91 : decode cX4_readHold 91 = .ok (.iload_n 1, 1) := by decide +kernel
theorem dX4_readHold_92 : decode cX4_readHold 92 = .ok (.iconst 0, 1) := by decide +kernel
theorem dX4_readHold_93 : decode cX4_readHold 93 = .ok (.iastore, 1) := by decide +kernel
theorem dX4_readHold_94 : decode cX4_readHold 94 = .ok (.aload_n 0, 1) := by decide +kernel
theorem dX4_readHold_95 : decode cX4_readHold 95 = .ok (.getfield 32, 3) := by decide +kernel
theorem dX4_readHold_98 : decode cX4_readHold 98 = .ok (.dup, 1) := by decide +kernel
theorem dX4_readHold_99 : decode cX4_readHold 99 = .ok (.getfield 125, 3) := by decide +kernel
theorem dX4_readHold_102 : decode cX4_readHold 102 = .ok (.iconst 1, 1) := by decide +kernel
theorem dX4_readHold_103 : decode cX4_readHold 103 = .ok (.iadd, 1) := by decide +kernel
theorem dX4_readHold_104 : decode cX4_readHold 104 = .ok (.putfield 125, 3) := by decide +kernel
theorem dX4_readHold_107 : decode cX4_readHold 107 = .ok (.iconst 0, 1) := by decide +kernel
theorem dX4_readHold_108 : decode cX4_readHold 108 = .ok (.istore 4, 2) := by decide +kernel
theorem dX4_readHold_110 : decode cX4_readHold 110 = .ok (.iload 4, 2) := by decide +kernel
theorem dX4_readHold_112 : decode cX4_readHold 112 = .ok (.sipush 900, 3) := by decide +kernel
theorem dX4_readHold_115 : decode cX4_readHold 115 = .ok (.if_icmp .ge 30, 3) := by decide +kernel
theorem dX4_readHold_118 : decode cX4_readHold 118 = .ok (.aload_n 0, 1) := by decide +kernel
theorem dX4_readHold_119 : decode cX4_readHold 119 = .ok (.getfield 12, 3) := by decide +kernel
theorem dX4_readHold_122 : decode cX4_readHold 122 = .ok (.getfield 55, 3) := by decide +kernel
theorem dX4_readHold_125 : decode cX4_readHold 125 = .ok (.iconst 1, 1) := by decide +kernel
theorem dX4_readHold_126 : decode cX4_readHold 126 = .ok (.if_icmp .ne 19, 3) := by decide +kernel
theorem dX4_readHold_129 : decode cX4_readHold 129 = .ok (.aload_n 0, 1) := by decide +kernel
theorem dX4_readHold_130 : decode cX4_readHold 130 = .ok (.iload_n 1, 1) := by decide +kernel
theorem dX4_readHold_131 : decode cX4_readHold 131 = .ok (.invokevirtual 138, 3) := by decide +kernel
theorem dX4_readHold_134 : decode cX4_readHold 134 = .ok (.ifCond .ne 5, 3) := by decide +kernel
theorem dX4_readHold_137 : decode cX4_readHold 137 = .ok (.iconst 0, 1) := by decide +kernel
theorem dX4_readHold_138 : decode cX4_readHold 138 = .ok (.ireturn, 1) := by decide +kernel
theorem dX4_readHold_139 : decode cX4_readHold 139 = .ok (.iinc 4 1, 3) := by decide +kernel
theorem dX4_readHold_142 : decode cX4_readHold 142 = .ok (.goto (-32), 3) := by decide +kernel
theorem dX4_readHold_145 : decode cX4_readHold 145 = .ok (.iconst 1, 1) := by decide +kernel
theorem dX4_readHold_146 : decode cX4_readHold 146 = .ok (.ireturn, 1) := by decide +kernel
theorem dX4_readLine_0 : decode cX4_readLine 0 = .ok (.aload_n 0, 1) := by decide +kernel
theorem dX4_readLine_1 : decode cX4_readLine 1 = .ok (.getfield 12, 3) := by decide +kernel
theorem dX4_readLine_4 : decode cX4_readLine 4 = .ok (.ldc 81, 2) := by decide +kernel
theorem dX4_readLine_6 : decode cX4_readLine 6 = .ok (.invokevirtual 83, 3) := by decide +kernel
theorem dX4_readLine_9 : decode cX4_readLine 9 = .ok (.ifCond .eq 8, 3) := by decide +kernel
theorem dX4_readLine_12 : decode cX4_readLine 12 = .ok (.aload_n 0, 1) := by decide +kernel
theorem dX4_readLine_13 : decode cX4_readLine 13 = .ok (.invokevirtual 87, 3) := by decide +kernel
theorem dX4_readLine_16 : decode cX4_readLine 16 = .ok (.ireturn, 1) := by decide +kernel
theorem dX4_readLine_17 : decode cX4_readLine 17 = .ok (.aload_n 0, 1) := by decide +kernel
theorem dX4_readLine_18 : decode cX4_readLine 18 = .ok (.getfield 12, 3) := by decide +kernel
theorem dX4_readLine_21 : decode cX4_readLine 21 = .ok (.ldc 90, 2) := by decide +kernel
theorem dX4_readLine_23 : decode cX4_readLine 23 = .ok (.invokevirtual 83, 3) := by decide +kernel
theorem dX4_readLine_26 : decode cX4_readLine 26 = .ok (.ifCond .eq 8, 3) := by decide +kernel
theorem dX4_readLine_29 : decode cX4_readLine 29 = .ok (.aload_n 0, 1) := by decide +kernel
theorem dX4_readLine_30 : decode cX4_readLine 30 = .ok (.invokevirtual 92, 3) := by decide +kernel
theorem dX4_readLine_33 : decode cX4_readLine 33 = .ok (.ireturn, 1) := by decide +kernel
theorem dX4_readLine_34 : decode cX4_readLine 34 = .ok (.aload_n 0, 1) := by decide +kernel
theorem dX4_readLine_35 : decode cX4_readLine 35 = .ok (.getfield 12, 3) := by decide +kernel
theorem dX4_readLine_38 : decode cX4_readLine 38 = .ok (.ldc 95, 2) := by decide +kernel
theorem dX4_readLine_40 : decode cX4_readLine 40 = .ok (.invokevirtual 83, 3) := by decide +kernel
theorem dX4_readLine_43 : decode cX4_readLine 43 = .ok (.ifCond .eq 43, 3) := by decide +kernel
theorem dX4_readLine_46 : decode cX4_readLine 46 = .ok (.aload_n 0, 1) := by decide +kernel
theorem dX4_readLine_47 : decode cX4_readLine 47 = .ok (.getfield 12, 3) := by decide +kernel
theorem dX4_readLine_50 : decode cX4_readLine 50 = .ok (.invokevirtual 97, 3) := by decide +kernel
theorem dX4_readLine_53 : decode cX4_readLine 53 = .ok (.aload_n 0, 1) := by decide +kernel
theorem dX4_readLine_54 : decode cX4_readLine 54 = .ok (.iconst 1, 1) := by decide +kernel
theorem dX4_readLine_55 : decode cX4_readLine 55 = .ok (.putfield 36, 3) := by decide +kernel
theorem dX4_readLine_58 : decode cX4_readLine 58 = .ok (.aload_n 0, 1) := by decide +kernel
theorem dX4_readLine_59 : decode cX4_readLine 59 = .ok (.getfield 12, 3) := by decide +kernel
theorem dX4_readLine_62 : decode cX4_readLine 62 = .ok (.bipush 58, 2) := by decide +kernel
theorem dX4_readLine_64 : decode cX4_readLine 64 = .ok (.invokevirtual 63, 3) := by decide +kernel
theorem dX4_readLine_67 : decode cX4_readLine 67 = .ok (.ifCond .eq 17, 3) := by decide +kernel
theorem dX4_readLine_70 : decode cX4_readLine 70 = .ok (.aload_n 0, 1) := by decide +kernel
theorem dX4_readLine_71 : decode cX4_readLine 71 = .ok (.getfield 23, 3) := by decide +kernel
theorem dX4_readLine_74 : decode cX4_readLine 74 = .ok (.invokevirtual 100, 3) := by decide +kernel
theorem dX4_readLine_77 : decode cX4_readLine 77 = .ok (.ifCond .eq 7, 3) := by decide +kernel
theorem dX4_readLine_80 : decode cX4_readLine 80 = .ok (.iconst 1, 1) := by decide +kernel
theorem dX4_readLine_81 : decode cX4_readLine 81 = .ok (.goto 4, 3) := by decide +kernel
theorem dX4_readLine_84 : decode cX4_readLine 84 = .ok (.iconst 0, 1) := by decide +kernel
theorem dX4_readLine_85 : decode cX4_readLine 85 = .ok (.ireturn, 1) := by decide +kernel
theorem dX4_readLine_86 : decode cX4_readLine 86 = .ok (.aload_n 0, 1) := by decide +kernel
theorem dX4_readLine_87 : decode cX4_readLine 87 = .ok (.getfield 12, 3) := by decide +kernel
theorem dX4_readLine_90 : decode cX4_readLine 90 = .ok (.ldc 103, 2) := by decide +kernel
theorem dX4_readLine_92 : decode cX4_readLine 92 = .ok (.invokevirtual 83, 3) := by decide +kernel
theorem dX4_readLine_95 : decode cX4_readLine 95 = .ok (.ifCond .eq 8, 3) := by decide +kernel
theorem dX4_readLine_98 : decode cX4_readLine 98 = .ok (.aload_n 0, 1) := by decide +kernel
theorem dX4_readLine_99 : decode cX4_readLine 99 = .ok (.invokevirtual 105, 3) := by decide +kernel
theorem dX4_readLine_102 : decode cX4_readLine 102 = .ok (.ireturn, 1) := by decide +kernel
theorem dX4_readLine_103 : decode cX4_readLine 103 = .ok (.aload_n 0, 1) := by decide +kernel
theorem dX4_readLine_104 : decode cX4_readLine 104 = .ok (.getfield 12, 3) := by decide +kernel
theorem dX4_readLine_107 : decode cX4_readLine 107 = .ok (.ldc 108, 2) := by decide +kernel
theorem dX4_readLine_109 : decode cX4_readLine 109 = .ok (.invokevirtual 83, 3) := by decide +kernel
theorem dX4_readLine_112 : decode cX4_readLine 112 = .ok (.ifCond .eq 8, 3) := by decide +kernel
theorem dX4_readLine_115 : decode cX4_readLine 115 = .ok (.aload_n 0, 1) := by decide +kernel
theorem dX4_readLine_116 : decode cX4_readLine 116 = .ok (.invokevirtual 110, 3) := by decide +kernel
theorem dX4_readLine_119 : decode cX4_readLine 119 = .ok (.ireturn, 1) := by decide +kernel
theorem dX4_readLine_120 : decode cX4_readLine 120 = .ok (.aload_n 0, 1) := by decide +kernel
theorem dX4_readLine_121 : decode cX4_readLine 121 = .ok (.getfield 12, 3) := by decide +kernel
theorem dX4_readLine_124 : decode cX4_readLine 124 = .ok (.ldc 113, 2) := by decide +kernel
theorem dX4_readLine_126 : decode cX4_readLine 126 = .ok (.invokevirtual 83, 3) := by decide +kernel
theorem dX4_readLine_129 : decode cX4_readLine 129 = .ok (.ifCond .eq 44, 3) := by decide +kernel
theorem dX4_readLine_132 : decode cX4_readLine 132 = .ok (.aload_n 0, 1) := by decide +kernel
theorem dX4_readLine_133 : decode cX4_readLine 133 = .ok (.getfield 12, 3) := by decide +kernel
theorem dX4_readLine_136 : decode cX4_readLine 136 = .ok (.invokevirtual 97, 3) := by decide +kernel
theorem dX4_readLine_139 : decode cX4_readLine 139 = .ok (.aload_n 0, 1) := by decide +kernel
theorem dX4_readLine_140 : decode cX4_readLine 140 = .ok (.getfield 43, 3) := by decide +kernel
theorem dX4_readLine_143 : decode cX4_readLine 143 = .ok (.aload_n 0, 1) := by decide +kernel
theorem dX4_readLine_144 : decode cX4_readLine 144 = .ok (.getfield 12, 3) := by decide +kernel
theorem dX4_readLine_147 : decode cX4_readLine 147 = .ok (.sipush 999, 3) := by decide +kernel
theorem dX4_readLine_150 : decode cX4_readLine 150 = .ok (.invokevirtual 115, 3) := by decide +kernel
theorem dX4_readLine_153 : decode cX4_readLine 153 = .ok (.putfield 119, 3) := by decide +kernel
theorem dX4_readLine_156 : decode cX4_readLine 156 = .ok (.aload_n 0, 1) := by decide +kernel
theorem dX4_readLine_157 : decode cX4_readLine 157 = .ok (.getfield 43, 3) := by decide +kernel
theorem dX4_readLine_160 : decode cX4_readLine 160 = .ok (.getfield 119, 3) := by decide +kernel
theorem dX4_readLine_163 : decode cX4_readLine 163 = .ok (.iconst (-1), 1) := by decide +kernel
theorem dX4_readLine_164 : decode cX4_readLine 164 = .ok (.if_icmp .eq 7, 3) := by decide +kernel
theorem dX4_readLine_167 : decode cX4_readLine 167 = .ok (.iconst 1, 1) := by decide +kernel
theorem dX4_readLine_168 : decode cX4_readLine 168 = .ok (.goto 4, 3) := by decide +kernel
theorem dX4_readLine_171 : decode cX4_readLine 171 = .ok (.iconst 0, 1) := by decide +kernel
theorem dX4_readLine_172 : decode cX4_readLine 172 = .ok (.ireturn, 1) := by decide +kernel
theorem dX4_readLine_173 : decode cX4_readLine 173 = .ok (.aload_n 0, 1) := by decide +kernel
theorem dX4_readLine_174 : decode cX4_readLine 174 = .ok (.getfield 12, 3) := by decide +kernel
theorem dX4_readLine_177 : decode cX4_readLine 177 = .ok (.iconst 2, 1) := by decide +kernel
theorem dX4_readLine_178 : decode cX4_readLine 178 = .ok (.invokevirtual 121, 3) := by decide +kernel
theorem dX4_readLine_181 : decode cX4_readLine 181 = .ok (.ireturn, 1) := by decide +kernel
theorem dX4_readUsed_0 : decode cX4_readUsed 0 = .ok (.aload_n 0, 1) := by decide +kernel
theorem dX4_readUsed_1 : decode cX4_readUsed 1 = .ok (.getfield 12, 3) := by decide +kernel
theorem dX4_readUsed_4 : decode cX4_readUsed 4 = .ok (.invokevirtual 97, 3) := by decide +kernel
theorem dX4_readUsed_7 : decode cX4_readUsed 7 = .ok (.aload_n 0, 1) := by decide +kernel
theorem dX4_readUsed_8 : decode cX4_readUsed 8 = .ok (.getfield 12, 3) := by decide +kernel
theorem dX4_readUsed_11 : decode cX4_readUsed 11 = .ok (.getfield 55, 3) := by decide +kernel
theorem dX4_readUsed_14 : decode cX4_readUsed 14 = .ok (.iconst 2, 1) := by decide +kernel
theorem dX4_readUsed_15 : decode cX4_readUsed 15 = .ok (.if_icmp .ne 49, 3) := by decide +kernel
theorem dX4_readUsed_18 : decode cX4_readUsed 18 = .ok (.aload_n 0, 1) := by decide +kernel
theorem dX4_readUsed_19 : decode cX4_readUsed 19 = .ok (.getfield 12, 3) := by decide +kernel
theorem dX4_readUsed_22 : decode cX4_readUsed 22 = .ok (.getfield 171, 3) := by decide +kernel
theorem dX4_readUsed_25 : decode cX4_readUsed 25 = .ok (.aload_n 0, 1) := by decide +kernel
theorem dX4_readUsed_26 : decode cX4_readUsed 26 = .ok (.getfield 32, 3) := by decide +kernel
theorem dX4_readUsed_29 : decode cX4_readUsed 29 = .ok (.getfield 125, 3) := by decide +kernel
theorem dX4_readUsed_32 : decode cX4_readUsed 32 = .ok (.if_icmp .ge 32, 3) := by decide +kernel
theorem dX4_readUsed_35 : decode cX4_readUsed 35 = .ok (.aload_n 0, 1) := by decide +kernel
theorem dX4_readUsed_36 : decode cX4_readUsed 36 = .ok (.getfield 32, 3) := by decide +kernel
theorem dX4_readUsed_39 : decode cX4_readUsed 39 = .ok (.invokevirtual 174, 3) := by decide +kernel
theorem dX4_readUsed_42 : decode cX4_readUsed 42 = .ok (.aload_n 0, 1) := by decide +kernel
theorem dX4_readUsed_43 : decode cX4_readUsed 43 = .ok (.getfield 12, 3) := by decide +kernel
theorem dX4_readUsed_46 : decode cX4_readUsed 46 = .ok (.getfield 171, 3) := by decide +kernel
theorem dX4_readUsed_49 : decode cX4_readUsed 49 = .ok (.ishr, 1) := by decide +kernel
theorem dX4_readUsed_50 : decode cX4_readUsed 50 = .ok (.iconst 1, 1) := by decide +kernel
theorem dX4_readUsed_51 : decode cX4_readUsed 51 = .ok (.iand, 1) := by decide +kernel
theorem dX4_readUsed_52 : decode cX4_readUsed 52 = .ok (.ifCond .ne 12, 3) := by decide +kernel
theorem dX4_readUsed_55 : decode cX4_readUsed 55 = .ok (.aload_n 0, 1) := by decide +kernel
theorem dX4_readUsed_56 : decode cX4_readUsed 56 = .ok (.getfield 12, 3) := by decide +kernel
theorem dX4_readUsed_59 : decode cX4_readUsed 59 = .ok (.iconst 3, 1) := by decide +kernel
theorem dX4_readUsed_60 : decode cX4_readUsed 60 = .ok (.invokevirtual 121, 3) := by decide +kernel
theorem dX4_readUsed_63 : decode cX4_readUsed 63 = .ok (.ireturn, 1) := by decide +kernel
theorem dX4_readUsed_64 : decode cX4_readUsed 64 = .ok (.aload_n 0, 1) := by decide +kernel
theorem dX4_readUsed_65 : decode cX4_readUsed 65 = .ok (.getfield 12, 3) := by decide +kernel
theorem dX4_readUsed_68 : decode cX4_readUsed 68 = .ok (.aload_n 0, 1) := by decide +kernel
theorem dX4_readUsed_69 : decode cX4_readUsed 69 = .ok (.getfield 32, 3) := by decide +kernel
theorem dX4_readUsed_72 : decode cX4_readUsed 72 = .ok (.getfield 125, 3) := by decide +kernel
theorem dX4_readUsed_75 : decode cX4_readUsed 75 = .ok (.iconst 1, 1) := by decide +kernel
theorem dX4_readUsed_76 : decode cX4_readUsed 76 = .ok (.isub, 1) := by decide +kernel
theorem dX4_readUsed_77 : decode cX4_readUsed 77 = .ok (.invokevirtual 115, 3) := by decide +kernel
theorem dX4_readUsed_80 : decode cX4_readUsed 80 = .ok (.istore_n 1, 1) := by decide +kernel
theorem dX4_readUsed_81 : decode cX4_readUsed 81 = .ok (.iload_n 1, 1) := by decide +kernel
theorem dX4_readUsed_82 : decode cX4_readUsed 82 = .ok (.iconst (-1), 1) := by decide +kernel
theorem dX4_readUsed_83 : decode cX4_readUsed 83 = .ok (.if_icmp .eq 15, 3) := by decide +kernel
theorem dX4_readUsed_86 : decode cX4_readUsed 86 = .ok (.aload_n 0, 1) := by decide +kernel
theorem dX4_readUsed_87 : decode cX4_readUsed 87 = .ok (.getfield 12, 3) := by decide +kernel
theorem dX4_readUsed_90 : decode cX4_readUsed 90 = .ok (.ldc 178, 2) := by decide +kernel
theorem dX4_readUsed_92 : decode cX4_readUsed 92 = .ok (.invokevirtual 162, 3) := by decide +kernel
theorem dX4_readUsed_95 : decode cX4_readUsed 95 = .ok (.ifCond .ne 5, 3) := by decide +kernel
theorem dX4_readUsed_98 : decode cX4_readUsed 98 = .ok (.iconst 0, 1) := by decide +kernel
theorem dX4_readUsed_99 : decode cX4_readUsed 99 = .ok (.ireturn, 1) := by decide +kernel
theorem dX4_readUsed_100 : decode cX4_readUsed 100 = .ok (.aload_n 0, 1) := by decide +kernel
theorem dX4_readUsed_101 : decode cX4_readUsed 101 = .ok (.getfield 12, 3) := by decide +kernel
theorem dX4_readUsed_104 : decode cX4_readUsed 104 = .ok (.aload_n 0, 1) := by decide +kernel
theorem dX4_readUsed_105 : decode cX4_readUsed 105 = .ok (.getfield 32, 3) := by decide +kernel
theorem dX4_readUsed_108 : decode cX4_readUsed 108 = .ok (.getfield 157, 3) := by decide +kernel
theorem dX4_readUsed_111 : decode cX4_readUsed 111 = .ok (.iconst 1, 1) := by decide +kernel
theorem dX4_readUsed_112 : decode cX4_readUsed 112 = .ok (.isub, 1) := by decide +kernel
theorem dX4_readUsed_113 : decode cX4_readUsed 113 = .ok (.invokevirtual 115, 3) := by decide +kernel
theorem dX4_readUsed_116 : decode cX4_readUsed 116 = .ok (.istore_n 2, 1) := by decide +kernel
theorem dX4_readUsed_117 : decode cX4_readUsed 117 = .ok (.iload_n 2, 1) := by decide +kernel
theorem dX4_readUsed_118 : decode cX4_readUsed 118 = .ok (.iconst (-1), 1) := by decide +kernel
theorem dX4_readUsed_119 : decode cX4_readUsed 119 = .ok (.if_icmp .ne 5, 3) := by decide +kernel
theorem dX4_readUsed_122 : decode cX4_readUsed 122 = .ok (.iconst 0, 1) := by decide +kernel
theorem dX4_readUsed_123 : decode cX4_readUsed 123 = .ok (.ireturn, 1) := by decide +kernel
theorem dX4_readUsed_124 : decode cX4_readUsed 124 = .ok (.aload_n 0, 1) := by decide +kernel
theorem dX4_readUsed_125 : decode cX4_readUsed 125 = .ok (.getfield 43, 3) := by decide +kernel
theorem dX4_readUsed_128 : decode cX4_readUsed 128 = .ok (.iconst 1, 1) := by decide +kernel
theorem dX4_readUsed_129 : decode cX4_readUsed 129 = .ok (.iload_n 1, 1) := by decide +kernel
theorem dX4_readUsed_130 : decode cX4_readUsed 130 = .ok (.ishl, 1) := by decide +kernel
theorem dX4_readUsed_131 : decode cX4_readUsed 131 = .ok (.iload_n 2, 1) := by decide +kernel
theorem dX4_readUsed_132 : decode cX4_readUsed 132 = .ok (.invokevirtual 180, 3) := by decide +kernel
theorem dX4_readUsed_135 : decode cX4_readUsed 135 = .ok (.pop, 1) := by decide +kernel
theorem dX4_readUsed_136 : decode cX4_readUsed 136 = .ok (.iconst 1, 1) := by decide +kernel
theorem dX4_readUsed_137 : decode cX4_readUsed 137 = .ok (.ireturn, 1) := by decide +kernel
theorem kw_2 : Cond.initialized "FootholdWall$Reader" ∈ gw := gw_of (tb_of 2 (by decide +kernel)) (by decide +kernel)
theorem kw_49 : Cond.fieldLink "FootholdWall$Reader" 55 "FootholdWall$Tokens" "kind" "I" ∈ gw := gw_of (tb_of 49 (by decide +kernel)) (by decide +kernel)
theorem kw_52 : Cond.fieldLink "FootholdWall$Reader" 171 "FootholdWall$Tokens" "value" "I" ∈ gw := gw_of (tb_of 52 (by decide +kernel)) (by decide +kernel)
theorem kw_108 : Cond.fieldLink "FootholdWall$Reader" 125 "FootholdWall$Wall" "holds" "I" ∈ gw := gw_of (tb_of 108 (by decide +kernel)) (by decide +kernel)
theorem kw_111 : Cond.fieldLink "FootholdWall$Reader" 157 "FootholdWall$Wall" "guides" "I" ∈ gw := gw_of (tb_of 111 (by decide +kernel)) (by decide +kernel)
theorem kw_114 : Cond.fieldLink "FootholdWall$Reader" 67 "FootholdWall$Wall" "lines" "I" ∈ gw := gw_of (tb_of 114 (by decide +kernel)) (by decide +kernel)
theorem kw_121 : Cond.fieldLink "FootholdWall$Reader" 144 "FootholdWall$Wall" "starts" "I" ∈ gw := gw_of (tb_of 121 (by decide +kernel)) (by decide +kernel)
theorem kw_129 : Cond.fieldLink "FootholdWall$Reader" 149 "FootholdWall$Wall" "tops" "I" ∈ gw := gw_of (tb_of 129 (by decide +kernel)) (by decide +kernel)
theorem kw_131 : Cond.fieldLink "FootholdWall$Reader" 154 "FootholdWall$Wall" "wides" "I" ∈ gw := gw_of (tb_of 131 (by decide +kernel)) (by decide +kernel)
theorem kw_133 : Cond.fieldLink "FootholdWall$Reader" 128 "FootholdWall$Wall" "x" "[I" ∈ gw := gw_of (tb_of 133 (by decide +kernel)) (by decide +kernel)
theorem kw_136 : Cond.fieldLink "FootholdWall$Reader" 132 "FootholdWall$Wall" "y" "[I" ∈ gw := gw_of (tb_of 136 (by decide +kernel)) (by decide +kernel)
theorem kw_139 : Cond.fieldLink "FootholdWall$Reader" 135 "FootholdWall$Wall" "ice" "[I" ∈ gw := gw_of (tb_of 139 (by decide +kernel)) (by decide +kernel)
theorem kw_143 : Cond.fieldLink "FootholdWall$Reader" 165 "FootholdWall$Wall" "leg" "[I" ∈ gw := gw_of (tb_of 143 (by decide +kernel)) (by decide +kernel)
theorem kw_146 : Cond.fieldLink "FootholdWall$Reader" 167 "FootholdWall$Wall" "weight" "[I" ∈ gw := gw_of (tb_of 146 (by decide +kernel)) (by decide +kernel)
theorem kw_190 : Cond.fieldLink "FootholdWall$Reader" 119 "FootholdWall$State" "day" "I" ∈ gw := gw_of (tb_of 190 (by decide +kernel)) (by decide +kernel)
theorem kw_211 : Cond.fieldLink "FootholdWall$Reader" 12 "FootholdWall$Reader" "tokens" "LFootholdWall$Tokens;" ∈ gw := gw_of (tb_of 211 (by decide +kernel)) (by decide +kernel)
theorem kw_213 : Cond.fieldLink "FootholdWall$Reader" 23 "FootholdWall$Reader" "lawReader" "LFootholdWall$LawReader;" ∈ gw := gw_of (tb_of 213 (by decide +kernel)) (by decide +kernel)
theorem kw_214 : Cond.fieldLink "FootholdWall$Reader" 32 "FootholdWall$Reader" "draft" "LFootholdWall$Wall;" ∈ gw := gw_of (tb_of 214 (by decide +kernel)) (by decide +kernel)
theorem kw_215 : Cond.fieldLink "FootholdWall$Reader" 36 "FootholdWall$Reader" "lawTold" "Z" ∈ gw := gw_of (tb_of 215 (by decide +kernel)) (by decide +kernel)
theorem kw_216 : Cond.fieldLink "FootholdWall$Reader" 43 "FootholdWall$Reader" "told" "LFootholdWall$State;" ∈ gw := gw_of (tb_of 216 (by decide +kernel)) (by decide +kernel)
theorem kw_437 : Cond.methodLink "FootholdWall$Reader" 47 yX9_forget ∈ gw := gw_of (tb_of 437 (by decide +kernel)) (by decide +kernel)
theorem kw_438 : Cond.instanceMethod yX9_forget ∈ gw := gw_of (tb_of 438 (by decide +kernel)) (by decide +kernel)
theorem kw_439 : Cond.selects "FootholdWall$Wall" yX9_forget yX9_forget ∈ gw := gw_of (tb_of 439 (by decide +kernel)) (by decide +kernel)
theorem kw_440 : Cond.code yX9_forget cX9_forget 1 none ∈ gw := gw_of (tb_of 440 (by decide +kernel)) (by decide +kernel)
theorem kw_441 : Cond.methodLink "FootholdWall$Reader" 50 yX6_forget ∈ gw := gw_of (tb_of 441 (by decide +kernel)) (by decide +kernel)
theorem kw_442 : Cond.instanceMethod yX6_forget ∈ gw := gw_of (tb_of 442 (by decide +kernel)) (by decide +kernel)
theorem kw_443 : Cond.selects "FootholdWall$State" yX6_forget yX6_forget ∈ gw := gw_of (tb_of 443 (by decide +kernel)) (by decide +kernel)
theorem kw_444 : Cond.code yX6_forget cX6_forget 1 none ∈ gw := gw_of (tb_of 444 (by decide +kernel)) (by decide +kernel)
theorem kw_445 : Cond.methodLink "FootholdWall$Reader" 51 yX7_begin ∈ gw := gw_of (tb_of 445 (by decide +kernel)) (by decide +kernel)
theorem kw_446 : Cond.instanceMethod yX7_begin ∈ gw := gw_of (tb_of 446 (by decide +kernel)) (by decide +kernel)
theorem kw_447 : Cond.selects "FootholdWall$Tokens" yX7_begin yX7_begin ∈ gw := gw_of (tb_of 447 (by decide +kernel)) (by decide +kernel)
theorem kw_448 : Cond.code yX7_begin cX7_begin 3 none ∈ gw := gw_of (tb_of 448 (by decide +kernel)) (by decide +kernel)
theorem kw_545 : Cond.methodLink "FootholdWall$Reader" 59 yX4_readLine ∈ gw := gw_of (tb_of 545 (by decide +kernel)) (by decide +kernel)
theorem kw_547 : Cond.instanceMethod yX4_readLine ∈ gw := gw_of (tb_of 547 (by decide +kernel)) (by decide +kernel)
theorem kw_548 : Cond.code yX4_readLine cX4_readLine 1 (some (.boolean)) ∈ gw := gw_of (tb_of 548 (by decide +kernel)) (by decide +kernel)
theorem kw_550 : Cond.methodLink "FootholdWall$Reader" 83 yX7_isWord ∈ gw := gw_of (tb_of 550 (by decide +kernel)) (by decide +kernel)
theorem kw_575 : Cond.methodLink "FootholdWall$Reader" 87 yX4_readHold ∈ gw := gw_of (tb_of 575 (by decide +kernel)) (by decide +kernel)
theorem kw_577 : Cond.instanceMethod yX4_readHold ∈ gw := gw_of (tb_of 577 (by decide +kernel)) (by decide +kernel)
theorem kw_578 : Cond.code yX4_readHold cX4_readHold 5 (some (.boolean)) ∈ gw := gw_of (tb_of 578 (by decide +kernel)) (by decide +kernel)
theorem kw_579 : Cond.methodLink "FootholdWall$Reader" 121 yX7_refuse ∈ gw := gw_of (tb_of 579 (by decide +kernel)) (by decide +kernel)
theorem kw_583 : Cond.methodLink "FootholdWall$Reader" 97 yX7_go ∈ gw := gw_of (tb_of 583 (by decide +kernel)) (by decide +kernel)
theorem kw_584 : Cond.methodLink "FootholdWall$Reader" 115 yX7_takeNumber ∈ gw := gw_of (tb_of 584 (by decide +kernel)) (by decide +kernel)
theorem kw_585 : Cond.instanceMethod yX7_takeNumber ∈ gw := gw_of (tb_of 585 (by decide +kernel)) (by decide +kernel)
theorem kw_586 : Cond.selects "FootholdWall$Tokens" yX7_takeNumber yX7_takeNumber ∈ gw := gw_of (tb_of 586 (by decide +kernel)) (by decide +kernel)
theorem kw_587 : Cond.code yX7_takeNumber cX7_takeNumber 3 (some (.int)) ∈ gw := gw_of (tb_of 587 (by decide +kernel)) (by decide +kernel)
theorem kw_589 : Cond.methodLink "FootholdWall$Reader" 138 yX4_readFlag ∈ gw := gw_of (tb_of 589 (by decide +kernel)) (by decide +kernel)
theorem kw_591 : Cond.instanceMethod yX4_readFlag ∈ gw := gw_of (tb_of 591 (by decide +kernel)) (by decide +kernel)
theorem kw_592 : Cond.code yX4_readFlag cX4_readFlag 3 (some (.boolean)) ∈ gw := gw_of (tb_of 592 (by decide +kernel)) (by decide +kernel)
theorem kw_598 : Cond.methodLink "FootholdWall$Reader" 92 yX4_readGuide ∈ gw := gw_of (tb_of 598 (by decide +kernel)) (by decide +kernel)
theorem kw_600 : Cond.instanceMethod yX4_readGuide ∈ gw := gw_of (tb_of 600 (by decide +kernel)) (by decide +kernel)
theorem kw_601 : Cond.code yX4_readGuide cX4_readGuide 2 (some (.boolean)) ∈ gw := gw_of (tb_of 601 (by decide +kernel)) (by decide +kernel)
theorem kw_603 : Cond.methodLink "FootholdWall$Reader" 162 yX7_takeWord ∈ gw := gw_of (tb_of 603 (by decide +kernel)) (by decide +kernel)
theorem kw_604 : Cond.instanceMethod yX7_takeWord ∈ gw := gw_of (tb_of 604 (by decide +kernel)) (by decide +kernel)
theorem kw_605 : Cond.selects "FootholdWall$Tokens" yX7_takeWord yX7_takeWord ∈ gw := gw_of (tb_of 605 (by decide +kernel)) (by decide +kernel)
theorem kw_606 : Cond.code yX7_takeWord cX7_takeWord 2 (some (.boolean)) ∈ gw := gw_of (tb_of 606 (by decide +kernel)) (by decide +kernel)
theorem kw_610 : Cond.methodLink "FootholdWall$Reader" 63 yX7_takeSign ∈ gw := gw_of (tb_of 610 (by decide +kernel)) (by decide +kernel)
theorem kw_618 : Cond.methodLink "FootholdWall$Reader" 100 yX3_read ∈ gw := gw_of (tb_of 618 (by decide +kernel)) (by decide +kernel)
theorem kw_619 : Cond.instanceMethod yX3_read ∈ gw := gw_of (tb_of 619 (by decide +kernel)) (by decide +kernel)
theorem kw_620 : Cond.selects "FootholdWall$LawReader" yX3_read yX3_read ∈ gw := gw_of (tb_of 620 (by decide +kernel)) (by decide +kernel)
theorem kw_621 : Cond.code yX3_read cX3_read 1 (some (.boolean)) ∈ gw := gw_of (tb_of 621 (by decide +kernel)) (by decide +kernel)
theorem kw_678 : Cond.methodLink "FootholdWall$Reader" 105 yX4_readUsed ∈ gw := gw_of (tb_of 678 (by decide +kernel)) (by decide +kernel)
theorem kw_680 : Cond.instanceMethod yX4_readUsed ∈ gw := gw_of (tb_of 680 (by decide +kernel)) (by decide +kernel)
theorem kw_681 : Cond.code yX4_readUsed cX4_readUsed 3 (some (.boolean)) ∈ gw := gw_of (tb_of 681 (by decide +kernel)) (by decide +kernel)
theorem kw_682 : Cond.methodLink "FootholdWall$Reader" 174 yX9_middles ∈ gw := gw_of (tb_of 682 (by decide +kernel)) (by decide +kernel)
theorem kw_687 : Cond.methodLink "FootholdWall$Reader" 180 yX6_use ∈ gw := gw_of (tb_of 687 (by decide +kernel)) (by decide +kernel)
theorem kw_698 : Cond.methodLink "FootholdWall$Reader" 110 yX4_readBroken ∈ gw := gw_of (tb_of 698 (by decide +kernel)) (by decide +kernel)
theorem kw_700 : Cond.instanceMethod yX4_readBroken ∈ gw := gw_of (tb_of 700 (by decide +kernel)) (by decide +kernel)
theorem kw_701 : Cond.code yX4_readBroken cX4_readBroken 2 (some (.boolean)) ∈ gw := gw_of (tb_of 701 (by decide +kernel)) (by decide +kernel)
theorem kw_702 : Cond.methodLink "FootholdWall$Reader" 184 yX6_breakDown ∈ gw := gw_of (tb_of 702 (by decide +kernel)) (by decide +kernel)
theorem kw_707 : Cond.methodLink "FootholdWall$Reader" 70 yX6_useSinceToday ∈ gw := gw_of (tb_of 707 (by decide +kernel)) (by decide +kernel)
theorem kw_708 : Cond.instanceMethod yX6_useSinceToday ∈ gw := gw_of (tb_of 708 (by decide +kernel)) (by decide +kernel)
theorem kw_709 : Cond.selects "FootholdWall$State" yX6_useSinceToday yX6_useSinceToday ∈ gw := gw_of (tb_of 709 (by decide +kernel)) (by decide +kernel)
theorem kw_710 : Cond.code yX6_useSinceToday cX6_useSinceToday 2 none ∈ gw := gw_of (tb_of 710 (by decide +kernel)) (by decide +kernel)
theorem ks_1 : Cond.selects RX4 yX4_readLine yX4_readLine ∈ gw := gw_of (pv_of 1 (by decide +kernel)) (by decide +kernel)
theorem ks_2 : Cond.selects RX4 yX4_readHold yX4_readHold ∈ gw := gw_of (pv_of 2 (by decide +kernel)) (by decide +kernel)
theorem ks_3 : Cond.selects RX4 yX4_readFlag yX4_readFlag ∈ gw := gw_of (pv_of 3 (by decide +kernel)) (by decide +kernel)
theorem ks_4 : Cond.selects RX4 yX4_readGuide yX4_readGuide ∈ gw := gw_of (pv_of 4 (by decide +kernel)) (by decide +kernel)
theorem ks_15 : Cond.selects RX4 yX4_readUsed yX4_readUsed ∈ gw := gw_of (pv_of 15 (by decide +kernel)) (by decide +kernel)
theorem ks_16 : Cond.selects RX4 yX4_readBroken yX4_readBroken ∈ gw := gw_of (pv_of 16 (by decide +kernel)) (by decide +kernel)
