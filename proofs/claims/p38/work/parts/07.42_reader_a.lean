theorem dX4_read_0 : decode cX4_read 0 = .ok (.aload_n 0, 1) := by decide +kernel
theorem dX4_read_1 : decode cX4_read 1 = .ok (.getfield 32, 3) := by decide +kernel
theorem dX4_read_4 : decode cX4_read 4 = .ok (.invokevirtual 47, 3) := by decide +kernel
theorem dX4_read_7 : decode cX4_read 7 = .ok (.aload_n 0, 1) := by decide +kernel
theorem dX4_read_8 : decode cX4_read 8 = .ok (.getfield 43, 3) := by decide +kernel
theorem dX4_read_11 : decode cX4_read 11 = .ok (.invokevirtual 50, 3) := by decide +kernel
theorem dX4_read_14 : decode cX4_read 14 = .ok (.aload_n 0, 1) := by decide +kernel
theorem dX4_read_15 : decode cX4_read 15 = .ok (.iconst 0, 1) := by decide +kernel
theorem dX4_read_16 : decode cX4_read 16 = .ok (.putfield 36, 3) := by decide +kernel
theorem dX4_read_19 : decode cX4_read 19 = .ok (.aload_n 0, 1) := by decide +kernel
theorem dX4_read_20 : decode cX4_read 20 = .ok (.getfield 12, 3) := by decide +kernel
theorem dX4_read_23 : decode cX4_read 23 = .ok (.aload_n 1, 1) := by decide +kernel
theorem dX4_read_24 : decode cX4_read 24 = .ok (.iload_n 2, 1) := by decide +kernel
theorem dX4_read_25 : decode cX4_read 25 = .ok (.invokevirtual 51, 3) := by decide +kernel
theorem dX4_read_28 : decode cX4_read 28 = .ok (.iconst 0, 1) := by decide +kernel
theorem dX4_read_29 : decode cX4_read 29 = .ok (.istore_n 3, 1) := by decide +kernel
theorem dX4_read_30 : decode cX4_read 30 = .ok (.iload_n 3, 1) := by decide +kernel
theorem dX4_read_31 : decode cX4_read 31 = .ok (.sipush 900, 3) := by decide +kernel
theorem dX4_read_34 : decode cX4_read 34 = .ok (.if_icmp .ge 53, 3) := by decide +kernel
theorem dX4_read_37 : decode cX4_read 37 = .ok (.aload_n 0, 1) := by decide +kernel
theorem dX4_read_38 : decode cX4_read 38 = .ok (.getfield 12, 3) := by decide +kernel
theorem dX4_read_41 : decode cX4_read 41 = .ok (.getfield 55, 3) := by decide +kernel
theorem dX4_read_44 : decode cX4_read 44 = .ok (.ifCond .eq 43, 3) := by decide +kernel
theorem dX4_read_47 : decode cX4_read 47 = .ok (.aload_n 0, 1) := by decide +kernel
theorem dX4_read_48 : decode cX4_read 48 = .ok (.invokevirtual 59, 3) := by decide +kernel
theorem dX4_read_51 : decode cX4_read 51 = .ok (.ifCond .eq 15, 3) := by decide +kernel
theorem dX4_read_54 : decode cX4_read 54 = .ok (.aload_n 0, 1) := by decide +kernel
theorem dX4_read_55 : decode cX4_read 55 = .ok (.getfield 12, 3) := by decide +kernel
theorem dX4_read_58 : decode cX4_read 58 = .ok (.bipush 59, 2) := by decide +kernel
theorem dX4_read_60 : decode cX4_read 60 = .ok (.invokevirtual 63, 3) := by decide +kernel
theorem dX4_read_63 : decode cX4_read 63 = .ok (.ifCond .ne 5, 3) := by decide +kernel
theorem dX4_read_66 : decode cX4_read 66 = .ok (.iconst 0, 1) := by decide +kernel
theorem dX4_read_67 : decode cX4_read 67 = .ok (.ireturn, 1) := by decide +kernel
theorem dX4_read_68 : decode cX4_read 68 = .ok (.aload_n 0, 1) := by decide +kernel
theorem dX4_read_69 : decode cX4_read 69 = .ok (.getfield 32, 3) := by decide +kernel
theorem dX4_read_72 : decode cX4_read 72 = .ok (.dup, 1) := by decide +kernel
theorem dX4_read_73 : decode cX4_read 73 = .ok (.getfield 67, 3) := by decide +kernel
theorem dX4_read_76 : decode cX4_read 76 = .ok (.iconst 1, 1) := by decide +kernel
theorem dX4_read_77 : decode cX4_read 77 = .ok (.iadd, 1) := by decide +kernel
theorem dX4_read_78 : decode cX4_read 78 = .ok (.putfield 67, 3) := by decide +kernel
theorem dX4_read_81 : decode cX4_read 81 = .ok (.iinc 3 1, 3) := by decide +kernel
theorem dX4_read_84 : decode cX4_read 84 = .ok (.goto (-54), 3) := by decide +kernel
theorem dX4_read_87 : decode cX4_read 87 = .ok (.aload_n 0, 1) := by decide +kernel
theorem dX4_read_88 : decode cX4_read 88 = .ok (.getfield 43, 3) := by decide +kernel
theorem dX4_read_91 : decode cX4_read 91 = .ok (.invokevirtual 70, 3) := by decide +kernel
theorem dX4_read_94 : decode cX4_read 94 = .ok (.iconst 1, 1) := by decide +kernel
theorem dX4_read_95 : decode cX4_read 95 = .ok (.ireturn, 1) := by decide +kernel
theorem dX4_readBroken_0 : decode cX4_readBroken 0 = .ok (.aload_n 0, 1) := by decide +kernel
theorem dX4_readBroken_1 : decode cX4_readBroken 1 = .ok (.getfield 12, 3) := by decide +kernel
theorem dX4_readBroken_4 : decode cX4_readBroken 4 = .ok (.invokevirtual 97, 3) := by decide +kernel
theorem dX4_readBroken_7 : decode cX4_readBroken 7 = .ok (.aload_n 0, 1) := by decide +kernel
theorem dX4_readBroken_8 : decode cX4_readBroken 8 = .ok (.getfield 12, 3) := by decide +kernel
theorem dX4_readBroken_11 : decode cX4_readBroken 11 = .ok (.aload_n 0, 1) := by decide +kernel
theorem dX4_readBroken_12 : decode cX4_readBroken 12 = .ok (.getfield 32, 3) := by decide +kernel
theorem dX4_readBroken_15 : decode cX4_readBroken 15 = .ok (.getfield 125, 3) := by decide +kernel
theorem dX4_readBroken_18 : decode cX4_readBroken 18 = .ok (.iconst 1, 1) := by decide +kernel
theorem dX4_readBroken_19 : decode cX4_readBroken 19 = .ok (.isub, 1) := by decide +kernel
theorem dX4_readBroken_20 : decode cX4_readBroken 20 = .ok (.invokevirtual 115, 3) := by decide +kernel
theorem dX4_readBroken_23 : decode cX4_readBroken 23 = .ok (.istore_n 1, 1) := by decide +kernel
theorem dX4_readBroken_24 : decode cX4_readBroken 24 = .ok (.iload_n 1, 1) := by decide +kernel
theorem dX4_readBroken_25 : decode cX4_readBroken 25 = .ok (.iconst (-1), 1) := by decide +kernel
theorem dX4_readBroken_26 : decode cX4_readBroken 26 = .ok (.if_icmp .ne 5, 3) := by decide +kernel
theorem dX4_readBroken_29 : decode cX4_readBroken 29 = .ok (.iconst 0, 1) := by decide +kernel
theorem dX4_readBroken_30 : decode cX4_readBroken 30 = .ok (.ireturn, 1) := by decide +kernel
theorem dX4_readBroken_31 : decode cX4_readBroken 31 = .ok (.aload_n 0, 1) := by decide +kernel
theorem dX4_readBroken_32 : decode cX4_readBroken 32 = .ok (.getfield 43, 3) := by decide +kernel
theorem dX4_readBroken_35 : decode cX4_readBroken 35 = .ok (.iload_n 1, 1) := by decide +kernel
theorem dX4_readBroken_36 : decode cX4_readBroken 36 = .ok (.invokevirtual 184, 3) := by decide +kernel
theorem dX4_readBroken_39 : decode cX4_readBroken 39 = .ok (.pop, 1) := by decide +kernel
theorem dX4_readBroken_40 : decode cX4_readBroken 40 = .ok (.iconst 1, 1) := by decide +kernel
theorem dX4_readBroken_41 : decode cX4_readBroken 41 = .ok (.ireturn, 1) := by decide +kernel
theorem dX4_readFlag_0 : decode cX4_readFlag 0 = .ok (.iconst 1, 1) := by decide +kernel
theorem dX4_readFlag_1 : decode cX4_readFlag 1 = .ok (.iload_n 1, 1) := by decide +kernel
theorem dX4_readFlag_2 : decode cX4_readFlag 2 = .ok (.ishl, 1) := by decide +kernel
theorem dX4_readFlag_3 : decode cX4_readFlag 3 = .ok (.istore_n 2, 1) := by decide +kernel
theorem dX4_readFlag_4 : decode cX4_readFlag 4 = .ok (.aload_n 0, 1) := by decide +kernel
theorem dX4_readFlag_5 : decode cX4_readFlag 5 = .ok (.getfield 12, 3) := by decide +kernel
theorem dX4_readFlag_8 : decode cX4_readFlag 8 = .ok (.ldc 141, 2) := by decide +kernel
theorem dX4_readFlag_10 : decode cX4_readFlag 10 = .ok (.invokevirtual 83, 3) := by decide +kernel
theorem dX4_readFlag_13 : decode cX4_readFlag 13 = .ok (.ifCond .eq 48, 3) := by decide +kernel
theorem dX4_readFlag_16 : decode cX4_readFlag 16 = .ok (.aload_n 0, 1) := by decide +kernel
theorem dX4_readFlag_17 : decode cX4_readFlag 17 = .ok (.getfield 12, 3) := by decide +kernel
theorem dX4_readFlag_20 : decode cX4_readFlag 20 = .ok (.invokevirtual 97, 3) := by decide +kernel
theorem dX4_readFlag_23 : decode cX4_readFlag 23 = .ok (.aload_n 0, 1) := by decide +kernel
theorem dX4_readFlag_24 : decode cX4_readFlag 24 = .ok (.getfield 32, 3) := by decide +kernel
theorem dX4_readFlag_27 : decode cX4_readFlag 27 = .ok (.getfield 135, 3) := by decide +kernel
theorem dX4_readFlag_30 : decode cX4_readFlag 30 = .ok (.iload_n 1, 1) := by decide +kernel
theorem dX4_readFlag_31 : decode cX4_readFlag 31 = .ok (.aload_n 0, 1) := by decide +kernel
theorem dX4_readFlag_32 : decode cX4_readFlag 32 = .ok (.getfield 12, 3) := by decide +kernel
theorem dX4_readFlag_35 : decode cX4_readFlag 35 = .ok (.sipush 999, 3) := by decide +kernel
theorem dX4_readFlag_38 : decode cX4_readFlag 38 = .ok (.invokevirtual 115, 3) := by decide +kernel
theorem dX4_readFlag_41 : decode cX4_readFlag 41 = .ok (.iastore, 1) := by decide +kernel
theorem dX4_readFlag_42 : decode cX4_readFlag 42 = .ok (.aload_n 0, 1) := by decide +kernel
theorem dX4_readFlag_43 : decode cX4_readFlag 43 = .ok (.getfield 32, 3) := by decide +kernel
theorem dX4_readFlag_46 : decode cX4_readFlag 46 = .ok (.getfield 135, 3) := by decide +kernel
theorem dX4_readFlag_49 : decode cX4_readFlag 49 = .ok (.iload_n 1, 1) := by decide +kernel
theorem dX4_readFlag_50 : decode cX4_readFlag 50 = .ok (.iaload, 1) := by decide +kernel
theorem dX4_readFlag_51 : decode cX4_readFlag 51 = .ok (.iconst (-1), 1) := by decide +kernel
theorem dX4_readFlag_52 : decode cX4_readFlag 52 = .ok (.if_icmp .eq 7, 3) := by decide +kernel
theorem dX4_readFlag_55 : decode cX4_readFlag 55 = .ok (.iconst 1, 1) := by decide +kernel
theorem dX4_readFlag_56 : decode cX4_readFlag 56 = .ok (.goto 4, 3) := by decide +kernel
theorem dX4_readFlag_59 : decode cX4_readFlag 59 = .ok (.iconst 0, 1) := by decide +kernel
theorem dX4_readFlag_60 : decode cX4_readFlag 60 = .ok (.ireturn, 1) := by decide +kernel
theorem dX4_readFlag_61 : decode cX4_readFlag 61 = .ok (.aload_n 0, 1) := by decide +kernel
theorem dX4_readFlag_62 : decode cX4_readFlag 62 = .ok (.getfield 12, 3) := by decide +kernel
theorem dX4_readFlag_65 : decode cX4_readFlag 65 = .ok (.ldc 142, 2) := by decide +kernel
theorem dX4_readFlag_67 : decode cX4_readFlag 67 = .ok (.invokevirtual 83, 3) := by decide +kernel
theorem dX4_readFlag_70 : decode cX4_readFlag 70 = .ok (.ifCond .eq 19, 3) := by decide +kernel
theorem dX4_readFlag_73 : decode cX4_readFlag 73 = .ok (.aload_n 0, 1) := by decide +kernel
theorem dX4_readFlag_74 : decode cX4_readFlag 74 = .ok (.getfield 32, 3) := by decide +kernel
theorem dX4_readFlag_77 : decode cX4_readFlag 77 = .ok (.dup, 1) := by decide +kernel
theorem dX4_readFlag_78 : decode cX4_readFlag 78 = .ok (.getfield 144, 3) := by decide +kernel
theorem dX4_readFlag_81 : decode cX4_readFlag 81 = .ok (.iload_n 2, 1) := by decide +kernel
theorem dX4_readFlag_82 : decode cX4_readFlag 82 = .ok (.ior, 1) := by decide +kernel
theorem dX4_readFlag_83 : decode cX4_readFlag 83 = .ok (.putfield 144, 3) := by decide +kernel
theorem dX4_readFlag_86 : decode cX4_readFlag 86 = .ok (.goto 68, 3) := by decide +kernel
theorem dX4_readFlag_89 : decode cX4_readFlag 89 = .ok (.aload_n 0, 1) := by decide +kernel
theorem dX4_readFlag_90 : decode cX4_readFlag 90 = .ok (.getfield 12, 3) := by decide +kernel
theorem dX4_readFlag_93 : decode cX4_readFlag 93 = .ok (.ldc 147, 2) := by decide +kernel
theorem dX4_readFlag_95 : decode cX4_readFlag 95 = .ok (.invokevirtual 83, 3) := by decide +kernel
theorem dX4_readFlag_98 : decode cX4_readFlag 98 = .ok (.ifCond .eq 19, 3) := by decide +kernel
theorem dX4_readFlag_101 : decode cX4_readFlag 101 = .ok (.aload_n 0, 1) := by decide +kernel
theorem dX4_readFlag_102 : decode cX4_readFlag 102 = .ok (.getfield 32, 3) := by decide +kernel
theorem dX4_readFlag_105 : decode cX4_readFlag 105 = .ok (.dup, 1) := by decide +kernel
theorem dX4_readFlag_106 : decode cX4_readFlag 106 = .ok (.getfield 149, 3) := by decide +kernel
theorem dX4_readFlag_109 : decode cX4_readFlag 109 = .ok (.iload_n 2, 1) := by decide +kernel
theorem dX4_readFlag_110 : decode cX4_readFlag 110 = .ok (.ior, 1) := by decide +kernel
theorem dX4_readFlag_111 : decode cX4_readFlag 111 = .ok (.putfield 149, 3) := by decide +kernel
theorem dX4_readFlag_114 : decode cX4_readFlag 114 = .ok (.goto 40, 3) := by decide +kernel
theorem dX4_readFlag_117 : decode cX4_readFlag 117 = .ok (.aload_n 0, 1) := by decide +kernel
theorem dX4_readFlag_118 : decode cX4_readFlag 118 = .ok (.getfield 12, 3) := by decide +kernel
theorem dX4_readFlag_121 : decode cX4_readFlag 121 = .ok (.ldc 152, 2) := by decide +kernel
theorem dX4_readFlag_123 : decode cX4_readFlag 123 = .ok (.invokevirtual 83, 3) := by decide +kernel
theorem dX4_readFlag_126 : decode cX4_readFlag 126 = .ok (.ifCond .eq 19, 3) := by decide +kernel
theorem dX4_readFlag_129 : decode cX4_readFlag 129 = .ok (.aload_n 0, 1) := by decide +kernel
theorem dX4_readFlag_130 : decode cX4_readFlag 130 = .ok (.getfield 32, 3) := by decide +kernel
theorem dX4_readFlag_133 : decode cX4_readFlag 133 = .ok (.dup, 1) := by decide +kernel
theorem dX4_readFlag_134 : decode cX4_readFlag 134 = .ok (.getfield 154, 3) := by decide +kernel
theorem dX4_readFlag_137 : decode cX4_readFlag 137 = .ok (.iload_n 2, 1) := by decide +kernel
theorem dX4_readFlag_138 : decode cX4_readFlag 138 = .ok (.ior, 1) := by decide +kernel
theorem dX4_readFlag_139 : decode cX4_readFlag 139 = .ok (.putfield 154, 3) := by decide +kernel
theorem dX4_readFlag_142 : decode cX4_readFlag 142 = .ok (.goto 12, 3) := by decide +kernel
theorem dX4_readFlag_145 : decode cX4_readFlag 145 = .ok (.aload_n 0, 1) := by decide +kernel
theorem dX4_readFlag_146 : decode cX4_readFlag 146 = .ok (.getfield 12, 3) := by decide +kernel
theorem dX4_readFlag_149 : decode cX4_readFlag 149 = .ok (.iconst 2, 1) := by decide +kernel
theorem dX4_readFlag_150 : decode cX4_readFlag 150 = .ok (.invokevirtual 121, 3) := by decide +kernel
theorem dX4_readFlag_153 : decode cX4_readFlag 153 = .ok (.ireturn, 1) := by decide +kernel
theorem dX4_readFlag_154 : decode cX4_readFlag 154 = .ok (.aload_n 0, 1) := by decide +kernel
theorem dX4_readFlag_155 : decode cX4_readFlag 155 = .ok (.getfield 12, 3) := by decide +kernel
theorem dX4_readFlag_158 : decode cX4_readFlag 158 = .ok (.invokevirtual 97, 3) := by decide +kernel
theorem dX4_readFlag_161 : decode cX4_readFlag 161 = .ok (.iconst 1, 1) := by decide +kernel
theorem dX4_readFlag_162 : decode cX4_readFlag 162 = .ok (.ireturn, 1) := by decide +kernel
theorem dX4_readGuide_0 : decode cX4_readGuide 0 = .ok (.aload_n 0, 1) := by decide +kernel
theorem dX4_readGuide_1 : decode cX4_readGuide 1 = .ok (.getfield 32, 3) := by decide +kernel
theorem dX4_readGuide_4 : decode cX4_readGuide 4 = .ok (.getfield 157, 3) := by decide +kernel
theorem dX4_readGuide_7 : decode cX4_readGuide 7 = .ok (.istore_n 1, 1) := by decide +kernel
theorem dX4_readGuide_8 : decode cX4_readGuide 8 = .ok (.iload_n 1, 1) := by decide +kernel
theorem dX4_readGuide_9 : decode cX4_readGuide 9 = .ok (.iconst 5, 1) := by decide +kernel
theorem dX4_readGuide_10 : decode cX4_readGuide 10 = .ok (.if_icmp .lt 12, 3) := by decide +kernel
theorem dX4_readGuide_13 : decode cX4_readGuide 13 = .ok (.aload_n 0, 1) := by decide +kernel
theorem dX4_readGuide_14 : decode cX4_readGuide 14 = .ok (.getfield 12, 3) := by decide +kernel
theorem dX4_readGuide_17 : decode cX4_readGuide 17 = .ok (.iconst 4, 1) := by decide +kernel
theorem dX4_readGuide_18 : decode cX4_readGuide 18 = .ok (.invokevirtual 121, 3) := by decide +kernel
theorem dX4_readGuide_21 : decode cX4_readGuide 21 = .ok (.ireturn, 1) := by decide +kernel
theorem dX4_readGuide_22 : decode cX4_readGuide 22 = .ok (.aload_n 0, 1) := by decide +kernel
theorem dX4_readGuide_23 : decode cX4_readGuide 23 = .ok (.getfield 12, 3) := by decide +kernel
theorem dX4_readGuide_26 : decode cX4_readGuide 26 = .ok (.invokevirtual 97, 3) := by decide +kernel
theorem dX4_readGuide_29 : decode cX4_readGuide 29 = .ok (.aload_n 0, 1) := by decide +kernel
theorem dX4_readGuide_30 : decode cX4_readGuide 30 = .ok (.getfield 12, 3) := by decide +kernel
theorem dX4_readGuide_33 : decode cX4_readGuide 33 = .ok (.ldc 160, 2) := by decide +kernel
theorem dX4_readGuide_35 : decode cX4_readGuide 35 = .ok (.invokevirtual 162, 3) := by decide +kernel
theorem dX4_readGuide_38 : decode cX4_readGuide 38 = .ok (.ifCond .ne 5, 3) := by decide +kernel
theorem dX4_readGuide_41 : decode cX4_readGuide 41 = .ok (.iconst 0, 1) := by decide +kernel
theorem dX4_readGuide_42 : decode cX4_readGuide 42 = .ok (.ireturn, 1) := by decide +kernel
theorem dX4_readGuide_43 : decode cX4_readGuide 43 = .ok (.aload_n 0, 1) := by decide +kernel
theorem dX4_readGuide_44 : decode cX4_readGuide 44 = .ok (.getfield 32, 3) := by decide +kernel
theorem dX4_readGuide_47 : decode cX4_readGuide 47 = .ok (.getfield 165, 3) := by decide +kernel
theorem dX4_readGuide_50 : decode cX4_readGuide 50 = .ok (.iload_n 1, 1) := by decide +kernel
theorem dX4_readGuide_51 : decode cX4_readGuide 51 = .ok (.aload_n 0, 1) := by decide +kernel
theorem dX4_readGuide_52 : decode cX4_readGuide 52 = .ok (.getfield 12, 3) := by decide +kernel
theorem dX4_readGuide_55 : decode cX4_readGuide 55 = .ok (.bipush 99, 2) := by decide +kernel
theorem dX4_readGuide_57 : decode cX4_readGuide 57 = .ok (.invokevirtual 115, 3) := by decide +kernel
theorem dX4_readGuide_60 : decode cX4_readGuide 60 = .ok (.iastore, 1) := by decide +kernel
theorem dX4_readGuide_61 : decode cX4_readGuide 61 = .ok (.aload_n 0, 1) := by decide +kernel
theorem dX4_readGuide_62 : decode cX4_readGuide 62 = .ok (.getfield 32, 3) := by decide +kernel
theorem dX4_readGuide_65 : decode cX4_readGuide 65 = .ok (.getfield 167, 3) := by decide +kernel
theorem dX4_readGuide_68 : decode cX4_readGuide 68 = .ok (.iload_n 1, 1) := by decide +kernel
theorem dX4_readGuide_69 : decode cX4_readGuide 69 = .ok (.iconst 0, 1) := by decide +kernel
theorem dX4_readGuide_70 : decode cX4_readGuide 70 = .ok (.iastore, 1) := by decide +kernel
theorem dX4_readGuide_71 : decode cX4_readGuide 71 = .ok (.aload_n 0, 1) := by decide +kernel
theorem dX4_readGuide_72 : decode cX4_readGuide 72 = .ok (.getfield 32, 3) := by decide +kernel
theorem dX4_readGuide_75 : decode cX4_readGuide 75 = .ok (.getfield 165, 3) := by decide +kernel
theorem dX4_readGuide_78 : decode cX4_readGuide 78 = .ok (.iload_n 1, 1) := by decide +kernel
theorem dX4_readGuide_79 : decode cX4_readGuide 79 = .ok (.iaload, 1) := by decide +kernel
theorem dX4_readGuide_80 : decode cX4_readGuide 80 = .ok (.iconst (-1), 1) := by decide +kernel
theorem dX4_readGuide_81 : decode cX4_readGuide 81 = .ok (.if_icmp .eq 40, 3) := by decide +kernel
theorem dX4_readGuide_84 : decode cX4_readGuide 84 = .ok (.aload_n 0, 1) := by decide +kernel
theorem dX4_readGuide_85 : decode cX4_readGuide 85 = .ok (.getfield 12, 3) := by decide +kernel
theorem dX4_readGuide_88 : decode cX4_readGuide 88 = .ok (.ldc 170, 2) := by decide +kernel
theorem dX4_readGuide_90 : decode cX4_readGuide 90 = .ok (.invokevirtual 83, 3) := by decide +kernel
theorem dX4_readGuide_93 : decode cX4_readGuide 93 = .ok (.ifCond .eq 28, 3) := by decide +kernel
theorem dX4_readGuide_96 : decode cX4_readGuide 96 = .ok (.aload_n 0, 1) := by decide +kernel
theorem dX4_readGuide_97 : decode cX4_readGuide 97 = .ok (.getfield 12, 3) := by decide +kernel
theorem dX4_readGuide_100 : decode cX4_readGuide 100 = .ok (.invokevirtual 97, 3) := by decide +kernel
theorem dX4_readGuide_103 : decode cX4_readGuide 103 = .ok (.aload_n 0, 1) := by decide +kernel
theorem dX4_readGuide_104 : decode cX4_readGuide 104 = .ok (.getfield 32, 3) := by decide +kernel
theorem dX4_readGuide_107 : decode cX4_readGuide 107 = .ok (.getfield 167, 3) := by decide +kernel
theorem dX4_readGuide_110 : decode cX4_readGuide 110 = .ok (.iload_n 1, 1) := by decide +kernel
theorem dX4_readGuide_111 : decode cX4_readGuide 111 = .ok (.aload_n 0, 1) := by decide +kernel
theorem dX4_readGuide_112 : decode cX4_readGuide 112 = .ok (.getfield 12, 3) := by decide +kernel
theorem dX4_readGuide_115 : decode cX4_readGuide 115 = .ok (.bipush 99, 2) := by decide +kernel
theorem dX4_readGuide_117 : decode cX4_readGuide 117 = .ok (.invokevirtual 115, 3) := by decide +kernel
theorem dX4_readGuide_120 : decode cX4_readGuide 120 = .ok (.iastore, 1) := by decide +kernel
theorem dX4_readGuide_121 : decode cX4_readGuide 121 = .ok (.aload_n 0, 1) := by decide +kernel
theorem dX4_readGuide_122 : decode cX4_readGuide 122 = .ok (.getfield 32, 3) := by decide +kernel
theorem dX4_readGuide_125 : decode cX4_readGuide 125 = .ok (.dup, 1) := by decide +kernel
theorem dX4_readGuide_126 : decode cX4_readGuide 126 = .ok (.getfield 157, 3) := by decide +kernel
theorem dX4_readGuide_129 : decode cX4_readGuide 129 = .ok (.iconst 1, 1) := by decide +kernel
theorem dX4_readGuide_130 : decode cX4_readGuide 130 = .ok (.iadd, 1) := by decide +kernel
theorem dX4_readGuide_131 : decode cX4_readGuide 131 = .ok (.putfield 157, 3) := by decide +kernel
theorem dX4_readGuide_134 : decode cX4_readGuide 134 = .ok (.aload_n 0, 1) := by decide +kernel
theorem dX4_readGuide_135 : decode cX4_readGuide 135 = .ok (.getfield 32, 3) := by decide +kernel
theorem dX4_readGuide_138 : decode cX4_readGuide 138 = .ok (.getfield 165, 3) := by decide +kernel
theorem dX4_readGuide_141 : decode cX4_readGuide 141 = .ok (.iload_n 1, 1) := by decide +kernel
theorem dX4_readGuide_142 : decode cX4_readGuide 142 = .ok (.iaload, 1) := by decide +kernel
theorem dX4_readGuide_143 : decode cX4_readGuide 143 = .ok (.iconst (-1), 1) := by decide +kernel
theorem dX4_readGuide_144 : decode cX4_readGuide 144 = .ok (.if_icmp .eq 20, 3) := by decide +kernel
theorem dX4_readGuide_147 : decode cX4_readGuide 147 = .ok (.aload_n 0, 1) := by decide +kernel
theorem dX4_readGuide_148 : decode cX4_readGuide 148 = .ok (.getfield 32, 3) := by decide +kernel
theorem dX4_readGuide_151 : decode cX4_readGuide 151 = .ok (.getfield 167, 3) := by decide +kernel
theorem dX4_readGuide_154 : decode cX4_readGuide 154 = .ok (.iload_n 1, 1) := by decide +kernel
theorem dX4_readGuide_155 : decode cX4_readGuide 155 = .ok (.iaload, 1) := by decide +kernel
theorem dX4_readGuide_156 : decode cX4_readGuide 156 = .ok (.iconst (-1), 1) := by decide +kernel
theorem dX4_readGuide_157 : decode cX4_readGuide 157 = .ok (.if_icmp .eq 7, 3) := by decide +kernel
theorem dX4_readGuide_160 : decode cX4_readGuide 160 = .ok (.iconst 1, 1) := by decide +kernel
theorem dX4_readGuide_161 : decode cX4_readGuide 161 = .ok (.goto 4, 3) := by decide +kernel
theorem dX4_readGuide_164 : decode cX4_readGuide 164 = .ok (.iconst 0, 1) := by decide +kernel
theorem dX4_readGuide_165 : decode cX4_readGuide 165 = .ok (.ireturn, 1) := by decide +kernel
theorem dX4_readHold_0 : decode cX4_readHold 0 = .ok (.aload_n 0, 1) := by decide +kernel
theorem dX4_readHold_1 : decode cX4_readHold 1 = .ok (.getfield 32, 3) := by decide +kernel
theorem dX4_readHold_4 : decode cX4_readHold 4 = .ok (.getfield 125, 3) := by decide +kernel
theorem dX4_readHold_7 : decode cX4_readHold 7 = .ok (.istore_n 1, 1) := by decide +kernel
theorem dX4_readHold_8 : decode cX4_readHold 8 = .ok (.iload_n 1, 1) := by decide +kernel
theorem dX4_readHold_9 : decode cX4_readHold 9 = .ok (.bipush 14, 2) := by decide +kernel
theorem dX4_readHold_11 : decode cX4_readHold 11 = .ok (.if_icmp .lt 12, 3) := by decide +kernel
theorem dX4_readHold_14 : decode cX4_readHold 14 = .ok (.aload_n 0, 1) := by decide +kernel
theorem dX4_readHold_15 : decode cX4_readHold 15 = .ok (.getfield 12, 3) := by decide +kernel
theorem dX4_readHold_18 : decode cX4_readHold 18 = .ok (.iconst 4, 1) := by decide +kernel
theorem dX4_readHold_19 : decode cX4_readHold 19 = .ok (.invokevirtual 121, 3) := by decide +kernel
theorem dX4_readHold_22 : decode cX4_readHold 22 = .ok (.ireturn, 1) := by decide +kernel
theorem dX4_readHold_23 : decode cX4_readHold 23 = .ok (.aload_n 0, 1) := by decide +kernel
theorem dX4_readHold_24 : decode cX4_readHold 24 = .ok (.getfield 12, 3) := by decide +kernel
theorem dX4_readHold_27 : decode cX4_readHold 27 = .ok (.invokevirtual 97, 3) := by decide +kernel
theorem dX4_readHold_30 : decode cX4_readHold 30 = .ok (.aload_n 0, 1) := by decide +kernel
theorem dX4_readHold_31 : decode cX4_readHold 31 = .ok (.getfield 12, 3) := by decide +kernel
theorem dX4_readHold_34 : decode cX4_readHold 34 = .ok (.bipush 99, 2) := by decide +kernel
theorem dX4_readHold_36 : decode cX4_readHold 36 = .ok (.invokevirtual 115, 3) := by decide +kernel
theorem dX4_readHold_39 : decode cX4_readHold 39 = .ok (.istore_n 2, 1) := by decide +kernel
theorem dX4_readHold_40 : decode cX4_readHold 40 = .ok (.iload_n 2, 1) := by decide +kernel
theorem dX4_readHold_41 : decode cX4_readHold 41 = .ok (.iconst (-1), 1) := by decide +kernel
theorem dX4_readHold_42 : decode cX4_readHold 42 = .ok (.if_icmp .ne 5, 3) := by decide +kernel
theorem dX4_readHold_45 : decode cX4_readHold 45 = .ok (.iconst 0, 1) := by decide +kernel
theorem dX4_readHold_46 : decode cX4_readHold 46 = .ok (.ireturn, 1) := by decide +kernel
theorem dX4_readHold_47 : decode cX4_readHold 47 = .ok (.aload_n 0, 1) := by decide +kernel
theorem dX4_readHold_48 : decode cX4_readHold 48 = .ok (.getfield 12, 3) := by decide +kernel
theorem dX4_readHold_51 : decode cX4_readHold 51 = .ok (.bipush 99, 2) := by decide +kernel
theorem dX4_readHold_53 : decode cX4_readHold 53 = .ok (.invokevirtual 115, 3) := by decide +kernel
theorem dX4_readHold_56 : decode cX4_readHold 56 = .ok (.istore_n 3, 1) := by decide +kernel
theorem dX4_readHold_57 : decode cX4_readHold 57 = .ok (.iload_n 3, 1) := by decide +kernel
theorem dX4_readHold_58 : decode cX4_readHold 58 = .ok (.iconst (-1), 1) := by decide +kernel
theorem dX4_readHold_59 : decode cX4_readHold 59 = .ok (.if_icmp .ne 5, 3) := by decide +kernel
theorem dX4_readHold_62 : decode cX4_readHold 62 = .ok (.iconst 0, 1) := by decide +kernel
theorem dX4_readHold_63 : decode cX4_readHold 63 = .ok (.ireturn, 1) := by decide +kernel
theorem dX4_readHold_64 : decode cX4_readHold 64 = .ok (.aload_n 0, 1) := by decide +kernel
theorem dX4_readHold_65 : decode cX4_readHold 65 = .ok (.getfield 32, 3) := by decide +kernel
theorem dX4_readHold_68 : decode cX4_readHold 68 = .ok (.getfield 128, 3) := by decide +kernel
theorem dX4_readHold_71 : decode cX4_readHold 71 = .ok (.iload_n 1, 1) := by decide +kernel
theorem dX4_readHold_72 : decode cX4_readHold 72 = .ok (.iload_n 2, 1) := by decide +kernel
theorem dX4_readHold_73 : decode cX4_readHold 73 = .ok (.iastore, 1) := by decide +kernel
theorem dX4_readHold_74 : decode cX4_readHold 74 = .ok (.aload_n 0, 1) := by decide +kernel
theorem dX4_readHold_75 : decode cX4_readHold 75 = .ok (.getfield 32, 3) := by decide +kernel
theorem dX4_readHold_78 : decode cX4_readHold 78 = .ok (.getfield 132, 3) := by decide +kernel
theorem dX4_readHold_81 : decode cX4_readHold 81 = .ok (.iload_n 1, 1) := by decide +kernel
theorem dX4_readHold_82 : decode cX4_readHold 82 = .ok (.iload_n 3, 1) := by decide +kernel
theorem dX4_readHold_83 : decode cX4_readHold 83 = .ok (.iastore, 1) := by decide +kernel
theorem dX4_readHold_84 : decode cX4_readHold 84 = .ok (.aload_n 0, 1) := by decide +kernel
theorem dX4_readHold_85 : decode cX4_readHold 85 = .ok (.getfield 32, 3) := by decide +kernel
theorem dX4_readHold_88 : decode cX4_readHold 88 = .ok (.getfield 135, 3) := by decide +kernel
theorem dX4_readHold_91 : decode cX4_readHold 91 = .ok (.iload_n 1, 1) := by decide +kernel
theorem dX4_readHold_92 : decode cX4_readHold 92 = .ok (.iconst 0, 1) := by decide +kernel
theorem dX4_readHold_93 : decode cX4_readHold 93 = .ok (.iastore, 1) := by decide +kernel
theorem dX4_readHold_94 : decode cX4_readHold 94 = .ok (.aload_n 0, 1) := by decide +kernel
theorem dX4_readHold_95 : decode cX4_readHold 95 = .ok (.getfield 32, 3) := by decide +kernel
theorem dX4_readHold_98 : decode cX4_readHold 98 = .ok (.dup, 1) := by decide +kernel
theorem dX4_readHold_99 : decode cX4_readHold 99 = .ok (.getfield 125, 3) := by decide +kernel
theorem dX4_readHold_102 : decode cX4_readHold 102 = .ok (.iconst 1, 1) := by decide +kernel
theorem dX4_readHold_103 : decode cX4_readHold 103 = .ok (.iadd, 1) := by decide +kernel
theorem dX4_readHold_104 : decode cX4_readHold 104 = .ok (.putfield 125, 3) := by decide +kernel
theorem dX4_readHold_107 : decode cX4_readHold 107 = .ok (.iconst 0, 1) := by decide +kernel
theorem dX4_readHold_108 : decode cX4_readHold 108 = .ok (.istore 4, 2) := by decide +kernel
theorem dX4_readHold_110 : decode cX4_readHold 110 = .ok (.iload 4, 2) := by decide +kernel
theorem dX4_readHold_112 : decode cX4_readHold 112 = .ok (.sipush 900, 3) := by decide +kernel
theorem dX4_readHold_115 : decode cX4_readHold 115 = .ok (.if_icmp .ge 30, 3) := by decide +kernel
theorem dX4_readHold_118 : decode cX4_readHold 118 = .ok (.aload_n 0, 1) := by decide +kernel
theorem dX4_readHold_119 : decode cX4_readHold 119 = .ok (.getfield 12, 3) := by decide +kernel
theorem dX4_readHold_122 : decode cX4_readHold 122 = .ok (.getfield 55, 3) := by decide +kernel
theorem dX4_readHold_125 : decode cX4_readHold 125 = .ok (.iconst 1, 1) := by decide +kernel
theorem dX4_readHold_126 : decode cX4_readHold 126 = .ok (.if_icmp .ne 19, 3) := by decide +kernel
theorem dX4_readHold_129 : decode cX4_readHold 129 = .ok (.aload_n 0, 1) := by decide +kernel
theorem dX4_readHold_130 : decode cX4_readHold 130 = .ok (.iload_n 1, 1) := by decide +kernel
theorem dX4_readHold_131 : decode cX4_readHold 131 = .ok (.invokevirtual 138, 3) := by decide +kernel
theorem dX4_readHold_134 : decode cX4_readHold 134 = .ok (.ifCond .ne 5, 3) := by decide +kernel
theorem dX4_readHold_137 : decode cX4_readHold 137 = .ok (.iconst 0, 1) := by decide +kernel
theorem dX4_readHold_138 : decode cX4_readHold 138 = .ok (.ireturn, 1) := by decide +kernel
theorem dX4_readHold_139 : decode cX4_readHold 139 = .ok (.iinc 4 1, 3) := by decide +kernel
theorem dX4_readHold_142 : decode cX4_readHold 142 = .ok (.goto (-32), 3) := by decide +kernel
theorem dX4_readHold_145 : decode cX4_readHold 145 = .ok (.iconst 1, 1) := by decide +kernel
theorem dX4_readHold_146 : decode cX4_readHold 146 = .ok (.ireturn, 1) := by decide +kernel
theorem dX4_readLine_0 : decode cX4_readLine 0 = .ok (.aload_n 0, 1) := by decide +kernel
theorem dX4_readLine_1 : decode cX4_readLine 1 = .ok (.getfield 12, 3) := by decide +kernel
theorem dX4_readLine_4 : decode cX4_readLine 4 = .ok (.ldc 81, 2) := by decide +kernel
theorem dX4_readLine_6 : decode cX4_readLine 6 = .ok (.invokevirtual 83, 3) := by decide +kernel
theorem dX4_readLine_9 : decode cX4_readLine 9 = .ok (.ifCond .eq 8, 3) := by decide +kernel
theorem dX4_readLine_12 : decode cX4_readLine 12 = .ok (.aload_n 0, 1) := by decide +kernel
theorem dX4_readLine_13 : decode cX4_readLine 13 = .ok (.invokevirtual 87, 3) := by decide +kernel
theorem dX4_readLine_16 : decode cX4_readLine 16 = .ok (.ireturn, 1) := by decide +kernel
theorem dX4_readLine_17 : decode cX4_readLine 17 = .ok (.aload_n 0, 1) := by decide +kernel
theorem dX4_readLine_18 : decode cX4_readLine 18 = .ok (.getfield 12, 3) := by decide +kernel
theorem dX4_readLine_21 : decode cX4_readLine 21 = .ok (.ldc 90, 2) := by decide +kernel
theorem dX4_readLine_23 : decode cX4_readLine 23 = .ok (.invokevirtual 83, 3) := by decide +kernel
theorem dX4_readLine_26 : decode cX4_readLine 26 = .ok (.ifCond .eq 8, 3) := by decide +kernel
theorem dX4_readLine_29 : decode cX4_readLine 29 = .ok (.aload_n 0, 1) := by decide +kernel
theorem dX4_readLine_30 : decode cX4_readLine 30 = .ok (.invokevirtual 92, 3) := by decide +kernel
theorem dX4_readLine_33 : decode cX4_readLine 33 = .ok (.ireturn, 1) := by decide +kernel
theorem dX4_readLine_34 : decode cX4_readLine 34 = .ok (.aload_n 0, 1) := by decide +kernel
theorem dX4_readLine_35 : decode cX4_readLine 35 = .ok (.getfield 12, 3) := by decide +kernel
theorem dX4_readLine_38 : decode cX4_readLine 38 = .ok (.ldc 95, 2) := by decide +kernel
theorem dX4_readLine_40 : decode cX4_readLine 40 = .ok (.invokevirtual 83, 3) := by decide +kernel
theorem dX4_readLine_43 : decode cX4_readLine 43 = .ok (.ifCond .eq 43, 3) := by decide +kernel
theorem dX4_readLine_46 : decode cX4_readLine 46 = .ok (.aload_n 0, 1) := by decide +kernel
theorem dX4_readLine_47 : decode cX4_readLine 47 = .ok (.getfield 12, 3) := by decide +kernel
theorem dX4_readLine_50 : decode cX4_readLine 50 = .ok (.invokevirtual 97, 3) := by decide +kernel
theorem dX4_readLine_53 : decode cX4_readLine 53 = .ok (.aload_n 0, 1) := by decide +kernel
theorem dX4_readLine_54 : decode cX4_readLine 54 = .ok (.iconst 1, 1) := by decide +kernel
theorem dX4_readLine_55 : decode cX4_readLine 55 = .ok (.putfield 36, 3) := by decide +kernel
theorem dX4_readLine_58 : decode cX4_readLine 58 = .ok (.aload_n 0, 1) := by decide +kernel
theorem dX4_readLine_59 : decode cX4_readLine 59 = .ok (.getfield 12, 3) := by decide +kernel
theorem dX4_readLine_62 : decode cX4_readLine 62 = .ok (.bipush 58, 2) := by decide +kernel
theorem dX4_readLine_64 : decode cX4_readLine 64 = .ok (.invokevirtual 63, 3) := by decide +kernel
theorem dX4_readLine_67 : decode cX4_readLine 67 = .ok (.ifCond .eq 17, 3) := by decide +kernel
theorem dX4_readLine_70 : decode cX4_readLine 70 = .ok (.aload_n 0, 1) := by decide +kernel
theorem dX4_readLine_71 : decode cX4_readLine 71 = .ok (.getfield 23, 3) := by decide +kernel
theorem dX4_readLine_74 : decode cX4_readLine 74 = .ok (.invokevirtual 100, 3) := by decide +kernel
theorem dX4_readLine_77 : decode cX4_readLine 77 = .ok (.ifCond .eq 7, 3) := by decide +kernel
theorem dX4_readLine_80 : decode cX4_readLine 80 = .ok (.iconst 1, 1) := by decide +kernel
theorem dX4_readLine_81 : decode cX4_readLine 81 = .ok (.goto 4, 3) := by decide +kernel
theorem dX4_readLine_84 : decode cX4_readLine 84 = .ok (.iconst 0, 1) := by decide +kernel
theorem dX4_readLine_85 : decode cX4_readLine 85 = .ok (.ireturn, 1) := by decide +kernel
theorem dX4_readLine_86 : decode cX4_readLine 86 = .ok (.aload_n 0, 1) := by decide +kernel
theorem dX4_readLine_87 : decode cX4_readLine 87 = .ok (.getfield 12, 3) := by decide +kernel
theorem dX4_readLine_90 : decode cX4_readLine 90 = .ok (.ldc 103, 2) := by decide +kernel
theorem dX4_readLine_92 : decode cX4_readLine 92 = .ok (.invokevirtual 83, 3) := by decide +kernel
theorem dX4_readLine_95 : decode cX4_readLine 95 = .ok (.ifCond .eq 8, 3) := by decide +kernel
theorem dX4_readLine_98 : decode cX4_readLine 98 = .ok (.aload_n 0, 1) := by decide +kernel
theorem dX4_readLine_99 : decode cX4_readLine 99 = .ok (.invokevirtual 105, 3) := by decide +kernel
theorem dX4_readLine_102 : decode cX4_readLine 102 = .ok (.ireturn, 1) := by decide +kernel
theorem dX4_readLine_103 : decode cX4_readLine 103 = .ok (.aload_n 0, 1) := by decide +kernel
theorem dX4_readLine_104 : decode cX4_readLine 104 = .ok (.getfield 12, 3) := by decide +kernel
theorem dX4_readLine_107 : decode cX4_readLine 107 = .ok (.ldc 108, 2) := by decide +kernel
theorem dX4_readLine_109 : decode cX4_readLine 109 = .ok (.invokevirtual 83, 3) := by decide +kernel
theorem dX4_readLine_112 : decode cX4_readLine 112 = .ok (.ifCond .eq 8, 3) := by decide +kernel
theorem dX4_readLine_115 : decode cX4_readLine 115 = .ok (.aload_n 0, 1) := by decide +kernel
theorem dX4_readLine_116 : decode cX4_readLine 116 = .ok (.invokevirtual 110, 3) := by decide +kernel
theorem dX4_readLine_119 : decode cX4_readLine 119 = .ok (.ireturn, 1) := by decide +kernel
theorem dX4_readLine_120 : decode cX4_readLine 120 = .ok (.aload_n 0, 1) := by decide +kernel
theorem dX4_readLine_121 : decode cX4_readLine 121 = .ok (.getfield 12, 3) := by decide +kernel
theorem dX4_readLine_124 : decode cX4_readLine 124 = .ok (.ldc 113, 2) := by decide +kernel
theorem dX4_readLine_126 : decode cX4_readLine 126 = .ok (.invokevirtual 83, 3) := by decide +kernel
theorem dX4_readLine_129 : decode cX4_readLine 129 = .ok (.ifCond .eq 44, 3) := by decide +kernel
theorem dX4_readLine_132 : decode cX4_readLine 132 = .ok (.aload_n 0, 1) := by decide +kernel
theorem dX4_readLine_133 : decode cX4_readLine 133 = .ok (.getfield 12, 3) := by decide +kernel
theorem dX4_readLine_136 : decode cX4_readLine 136 = .ok (.invokevirtual 97, 3) := by decide +kernel
theorem dX4_readLine_139 : decode cX4_readLine 139 = .ok (.aload_n 0, 1) := by decide +kernel
theorem dX4_readLine_140 : decode cX4_readLine 140 = .ok (.getfield 43, 3) := by decide +kernel
theorem dX4_readLine_143 : decode cX4_readLine 143 = .ok (.aload_n 0, 1) := by decide +kernel
theorem dX4_readLine_144 : decode cX4_readLine 144 = .ok (.getfield 12, 3) := by decide +kernel
theorem dX4_readLine_147 : decode cX4_readLine 147 = .ok (.sipush 999, 3) := by decide +kernel
theorem dX4_readLine_150 : decode cX4_readLine 150 = .ok (.invokevirtual 115, 3) := by decide +kernel
theorem dX4_readLine_153 : decode cX4_readLine 153 = .ok (.putfield 119, 3) := by decide +kernel
theorem dX4_readLine_156 : decode cX4_readLine 156 = .ok (.aload_n 0, 1) := by decide +kernel
theorem dX4_readLine_157 : decode cX4_readLine 157 = .ok (.getfield 43, 3) := by decide +kernel
theorem dX4_readLine_160 : decode cX4_readLine 160 = .ok (.getfield 119, 3) := by decide +kernel
theorem dX4_readLine_163 : decode cX4_readLine 163 = .ok (.iconst (-1), 1) := by decide +kernel
theorem dX4_readLine_164 : decode cX4_readLine 164 = .ok (.if_icmp .eq 7, 3) := by decide +kernel
theorem dX4_readLine_167 : decode cX4_readLine 167 = .ok (.iconst 1, 1) := by decide +kernel
theorem dX4_readLine_168 : decode cX4_readLine 168 = .ok (.goto 4, 3) := by decide +kernel
theorem dX4_readLine_171 : decode cX4_readLine 171 = .ok (.iconst 0, 1) := by decide +kernel
theorem dX4_readLine_172 : decode cX4_readLine 172 = .ok (.ireturn, 1) := by decide +kernel
theorem dX4_readLine_173 : decode cX4_readLine 173 = .ok (.aload_n 0, 1) := by decide +kernel
theorem dX4_readLine_174 : decode cX4_readLine 174 = .ok (.getfield 12, 3) := by decide +kernel
theorem dX4_readLine_177 : decode cX4_readLine 177 = .ok (.iconst 2, 1) := by decide +kernel
theorem dX4_readLine_178 : decode cX4_readLine 178 = .ok (.invokevirtual 121, 3) := by decide +kernel
theorem dX4_readLine_181 : decode cX4_readLine 181 = .ok (.ireturn, 1) := by decide +kernel
theorem dX4_readUsed_0 : decode cX4_readUsed 0 = .ok (.aload_n 0, 1) := by decide +kernel
theorem dX4_readUsed_1 : decode cX4_readUsed 1 = .ok (.getfield 12, 3) := by decide +kernel
theorem dX4_readUsed_4 : decode cX4_readUsed 4 = .ok (.invokevirtual 97, 3) := by decide +kernel
theorem dX4_readUsed_7 : decode cX4_readUsed 7 = .ok (.aload_n 0, 1) := by decide +kernel
theorem dX4_readUsed_8 : decode cX4_readUsed 8 = .ok (.getfield 12, 3) := by decide +kernel
theorem dX4_readUsed_11 : decode cX4_readUsed 11 = .ok (.getfield 55, 3) := by decide +kernel
theorem dX4_readUsed_14 : decode cX4_readUsed 14 = .ok (.iconst 2, 1) := by decide +kernel
theorem dX4_readUsed_15 : decode cX4_readUsed 15 = .ok (.if_icmp .ne 49, 3) := by decide +kernel
theorem dX4_readUsed_18 : decode cX4_readUsed 18 = .ok (.aload_n 0, 1) := by decide +kernel
theorem dX4_readUsed_19 : decode cX4_readUsed 19 = .ok (.getfield 12, 3) := by decide +kernel
theorem dX4_readUsed_22 : decode cX4_readUsed 22 = .ok (.getfield 171, 3) := by decide +kernel
theorem dX4_readUsed_25 : decode cX4_readUsed 25 = .ok (.aload_n 0, 1) := by decide +kernel
theorem dX4_readUsed_26 : decode cX4_readUsed 26 = .ok (.getfield 32, 3) := by decide +kernel
theorem dX4_readUsed_29 : decode cX4_readUsed 29 = .ok (.getfield 125, 3) := by decide +kernel
theorem dX4_readUsed_32 : decode cX4_readUsed 32 = .ok (.if_icmp .ge 32, 3) := by decide +kernel
theorem dX4_readUsed_35 : decode cX4_readUsed 35 = .ok (.aload_n 0, 1) := by decide +kernel
theorem dX4_readUsed_36 : decode cX4_readUsed 36 = .ok (.getfield 32, 3) := by decide +kernel
theorem dX4_readUsed_39 : decode cX4_readUsed 39 = .ok (.invokevirtual 174, 3) := by decide +kernel
theorem dX4_readUsed_42 : decode cX4_readUsed 42 = .ok (.aload_n 0, 1) := by decide +kernel
theorem dX4_readUsed_43 : decode cX4_readUsed 43 = .ok (.getfield 12, 3) := by decide +kernel
theorem dX4_readUsed_46 : decode cX4_readUsed 46 = .ok (.getfield 171, 3) := by decide +kernel
theorem dX4_readUsed_49 : decode cX4_readUsed 49 = .ok (.ishr, 1) := by decide +kernel
theorem dX4_readUsed_50 : decode cX4_readUsed 50 = .ok (.iconst 1, 1) := by decide +kernel
theorem dX4_readUsed_51 : decode cX4_readUsed 51 = .ok (.iand, 1) := by decide +kernel
theorem dX4_readUsed_52 : decode cX4_readUsed 52 = .ok (.ifCond .ne 12, 3) := by decide +kernel
theorem dX4_readUsed_55 : decode cX4_readUsed 55 = .ok (.aload_n 0, 1) := by decide +kernel
theorem dX4_readUsed_56 : decode cX4_readUsed 56 = .ok (.getfield 12, 3) := by decide +kernel
theorem dX4_readUsed_59 : decode cX4_readUsed 59 = .ok (.iconst 3, 1) := by decide +kernel
theorem dX4_readUsed_60 : decode cX4_readUsed 60 = .ok (.invokevirtual 121, 3) := by decide +kernel
theorem dX4_readUsed_63 : decode cX4_readUsed 63 = .ok (.ireturn, 1) := by decide +kernel
theorem dX4_readUsed_64 : decode cX4_readUsed 64 = .ok (.aload_n 0, 1) := by decide +kernel
theorem dX4_readUsed_65 : decode cX4_readUsed 65 = .ok (.getfield 12, 3) := by decide +kernel
theorem dX4_readUsed_68 : decode cX4_readUsed 68 = .ok (.aload_n 0, 1) := by decide +kernel
theorem dX4_readUsed_69 : decode cX4_readUsed 69 = .ok (.getfield 32, 3) := by decide +kernel
theorem dX4_readUsed_72 : decode cX4_readUsed 72 = .ok (.getfield 125, 3) := by decide +kernel
theorem dX4_readUsed_75 : decode cX4_readUsed 75 = .ok (.iconst 1, 1) := by decide +kernel
theorem dX4_readUsed_76 : decode cX4_readUsed 76 = .ok (.isub, 1) := by decide +kernel
theorem dX4_readUsed_77 : decode cX4_readUsed 77 = .ok (.invokevirtual 115, 3) := by decide +kernel
theorem dX4_readUsed_80 : decode cX4_readUsed 80 = .ok (.istore_n 1, 1) := by decide +kernel
theorem dX4_readUsed_81 : decode cX4_readUsed 81 = .ok (.iload_n 1, 1) := by decide +kernel
theorem dX4_readUsed_82 : decode cX4_readUsed 82 = .ok (.iconst (-1), 1) := by decide +kernel
theorem dX4_readUsed_83 : decode cX4_readUsed 83 = .ok (.if_icmp .eq 15, 3) := by decide +kernel
theorem dX4_readUsed_86 : decode cX4_readUsed 86 = .ok (.aload_n 0, 1) := by decide +kernel
theorem dX4_readUsed_87 : decode cX4_readUsed 87 = .ok (.getfield 12, 3) := by decide +kernel
theorem dX4_readUsed_90 : decode cX4_readUsed 90 = .ok (.ldc 178, 2) := by decide +kernel
theorem dX4_readUsed_92 : decode cX4_readUsed 92 = .ok (.invokevirtual 162, 3) := by decide +kernel
theorem dX4_readUsed_95 : decode cX4_readUsed 95 = .ok (.ifCond .ne 5, 3) := by decide +kernel
theorem dX4_readUsed_98 : decode cX4_readUsed 98 = .ok (.iconst 0, 1) := by decide +kernel
theorem dX4_readUsed_99 : decode cX4_readUsed 99 = .ok (.ireturn, 1) := by decide +kernel
theorem dX4_readUsed_100 : decode cX4_readUsed 100 = .ok (.aload_n 0, 1) := by decide +kernel
theorem dX4_readUsed_101 : decode cX4_readUsed 101 = .ok (.getfield 12, 3) := by decide +kernel
theorem dX4_readUsed_104 : decode cX4_readUsed 104 = .ok (.aload_n 0, 1) := by decide +kernel
theorem dX4_readUsed_105 : decode cX4_readUsed 105 = .ok (.getfield 32, 3) := by decide +kernel
theorem dX4_readUsed_108 : decode cX4_readUsed 108 = .ok (.getfield 157, 3) := by decide +kernel
theorem dX4_readUsed_111 : decode cX4_readUsed 111 = .ok (.iconst 1, 1) := by decide +kernel
theorem dX4_readUsed_112 : decode cX4_readUsed 112 = .ok (.isub, 1) := by decide +kernel
theorem dX4_readUsed_113 : decode cX4_readUsed 113 = .ok (.invokevirtual 115, 3) := by decide +kernel
theorem dX4_readUsed_116 : decode cX4_readUsed 116 = .ok (.istore_n 2, 1) := by decide +kernel
theorem dX4_readUsed_117 : decode cX4_readUsed 117 = .ok (.iload_n 2, 1) := by decide +kernel
theorem dX4_readUsed_118 : decode cX4_readUsed 118 = .ok (.iconst (-1), 1) := by decide +kernel
theorem dX4_readUsed_119 : decode cX4_readUsed 119 = .ok (.if_icmp .ne 5, 3) := by decide +kernel
theorem dX4_readUsed_122 : decode cX4_readUsed 122 = .ok (.iconst 0, 1) := by decide +kernel
theorem dX4_readUsed_123 : decode cX4_readUsed 123 = .ok (.ireturn, 1) := by decide +kernel
theorem dX4_readUsed_124 : decode cX4_readUsed 124 = .ok (.aload_n 0, 1) := by decide +kernel
theorem dX4_readUsed_125 : decode cX4_readUsed 125 = .ok (.getfield 43, 3) := by decide +kernel
theorem dX4_readUsed_128 : decode cX4_readUsed 128 = .ok (.iconst 1, 1) := by decide +kernel
theorem dX4_readUsed_129 : decode cX4_readUsed 129 = .ok (.iload_n 1, 1) := by decide +kernel
theorem dX4_readUsed_130 : decode cX4_readUsed 130 = .ok (.ishl, 1) := by decide +kernel
theorem dX4_readUsed_131 : decode cX4_readUsed 131 = .ok (.iload_n 2, 1) := by decide +kernel
theorem dX4_readUsed_132 : decode cX4_readUsed 132 = .ok (.invokevirtual 180, 3) := by decide +kernel
theorem dX4_readUsed_135 : decode cX4_readUsed 135 = .ok (.pop, 1) := by decide +kernel
theorem dX4_readUsed_136 : decode cX4_readUsed 136 = .ok (.iconst 1, 1) := by decide +kernel
theorem dX4_readUsed_137 : decode cX4_readUsed 137 = .ok (.ireturn, 1) := by decide +kernel
theorem kw_2 : Cond.initialized "FootholdWall$Reader" ∈ gw := gw_of (tb_of 2 (by decide +kernel)) (by decide +kernel)
theorem kw_49 : Cond.fieldLink "FootholdWall$Reader" 55 "FootholdWall$Tokens" "kind" "I" ∈ gw := gw_of (tb_of 49 (by decide +kernel)) (by decide +kernel)
theorem kw_52 : Cond.fieldLink "FootholdWall$Reader" 171 "FootholdWall$Tokens" "value" "I" ∈ gw := gw_of (tb_of 52 (by decide +kernel)) (by decide +kernel)
theorem kw_108 : Cond.fieldLink "FootholdWall$Reader" 125 "FootholdWall$Wall" "holds" "I" ∈ gw := gw_of (tb_of 108 (by decide +kernel)) (by decide +kernel)
theorem kw_111 : Cond.fieldLink "FootholdWall$Reader" 157 "FootholdWall$Wall" "guides" "I" ∈ gw := gw_of (tb_of 111 (by decide +kernel)) (by decide +kernel)
theorem kw_114 : Cond.fieldLink "FootholdWall$Reader" 67 "FootholdWall$Wall" "lines" "I" ∈ gw := gw_of (tb_of 114 (by decide +kernel)) (by decide +kernel)
theorem kw_121 : Cond.fieldLink "FootholdWall$Reader" 144 "FootholdWall$Wall" "starts" "I" ∈ gw := gw_of (tb_of 121 (by decide +kernel)) (by decide +kernel)
theorem kw_129 : Cond.fieldLink "FootholdWall$Reader" 149 "FootholdWall$Wall" "tops" "I" ∈ gw := gw_of (tb_of 129 (by decide +kernel)) (by decide +kernel)
theorem kw_131 : Cond.fieldLink "FootholdWall$Reader" 154 "FootholdWall$Wall" "wides" "I" ∈ gw := gw_of (tb_of 131 (by decide +kernel)) (by decide +kernel)
theorem kw_133 : Cond.fieldLink "FootholdWall$Reader" 128 "FootholdWall$Wall" "x" "[I" ∈ gw := gw_of (tb_of 133 (by decide +kernel)) (by decide +kernel)
theorem kw_136 : Cond.fieldLink "FootholdWall$Reader" 132 "FootholdWall$Wall" "y" "[I" ∈ gw := gw_of (tb_of 136 (by decide +kernel)) (by decide +kernel)
theorem kw_139 : Cond.fieldLink "FootholdWall$Reader" 135 "FootholdWall$Wall" "ice" "[I" ∈ gw := gw_of (tb_of 139 (by decide +kernel)) (by decide +kernel)
theorem kw_143 : Cond.fieldLink "FootholdWall$Reader" 165 "FootholdWall$Wall" "leg" "[I" ∈ gw := gw_of (tb_of 143 (by decide +kernel)) (by decide +kernel)
theorem kw_146 : Cond.fieldLink "FootholdWall$Reader" 167 "FootholdWall$Wall" "weight" "[I" ∈ gw := gw_of (tb_of 146 (by decide +kernel)) (by decide +kernel)
theorem kw_190 : Cond.fieldLink "FootholdWall$Reader" 119 "FootholdWall$State" "day" "I" ∈ gw := gw_of (tb_of 190 (by decide +kernel)) (by decide +kernel)
theorem kw_211 : Cond.fieldLink "FootholdWall$Reader" 12 "FootholdWall$Reader" "tokens" "LFootholdWall$Tokens;" ∈ gw := gw_of (tb_of 211 (by decide +kernel)) (by decide +kernel)
theorem kw_213 : Cond.fieldLink "FootholdWall$Reader" 23 "FootholdWall$Reader" "lawReader" "LFootholdWall$LawReader;" ∈ gw := gw_of (tb_of 213 (by decide +kernel)) (by decide +kernel)
theorem kw_214 : Cond.fieldLink "FootholdWall$Reader" 32 "FootholdWall$Reader" "draft" "LFootholdWall$Wall;" ∈ gw := gw_of (tb_of 214 (by decide +kernel)) (by decide +kernel)
theorem kw_215 : Cond.fieldLink "FootholdWall$Reader" 36 "FootholdWall$Reader" "lawTold" "Z" ∈ gw := gw_of (tb_of 215 (by decide +kernel)) (by decide +kernel)
theorem kw_216 : Cond.fieldLink "FootholdWall$Reader" 43 "FootholdWall$Reader" "told" "LFootholdWall$State;" ∈ gw := gw_of (tb_of 216 (by decide +kernel)) (by decide +kernel)
theorem kw_437 : Cond.methodLink "FootholdWall$Reader" 47 yX9_forget ∈ gw := gw_of (tb_of 437 (by decide +kernel)) (by decide +kernel)
theorem kw_438 : Cond.instanceMethod yX9_forget ∈ gw := gw_of (tb_of 438 (by decide +kernel)) (by decide +kernel)
theorem kw_439 : Cond.selects "FootholdWall$Wall" yX9_forget yX9_forget ∈ gw := gw_of (tb_of 439 (by decide +kernel)) (by decide +kernel)
theorem kw_440 : Cond.code yX9_forget cX9_forget 1 none ∈ gw := gw_of (tb_of 440 (by decide +kernel)) (by decide +kernel)
theorem kw_441 : Cond.methodLink "FootholdWall$Reader" 50 yX6_forget ∈ gw := gw_of (tb_of 441 (by decide +kernel)) (by decide +kernel)
theorem kw_442 : Cond.instanceMethod yX6_forget ∈ gw := gw_of (tb_of 442 (by decide +kernel)) (by decide +kernel)
theorem kw_443 : Cond.selects "FootholdWall$State" yX6_forget yX6_forget ∈ gw := gw_of (tb_of 443 (by decide +kernel)) (by decide +kernel)
theorem kw_444 : Cond.code yX6_forget cX6_forget 1 none ∈ gw := gw_of (tb_of 444 (by decide +kernel)) (by decide +kernel)
theorem kw_445 : Cond.methodLink "FootholdWall$Reader" 51 yX7_begin ∈ gw := gw_of (tb_of 445 (by decide +kernel)) (by decide +kernel)
theorem kw_446 : Cond.instanceMethod yX7_begin ∈ gw := gw_of (tb_of 446 (by decide +kernel)) (by decide +kernel)
theorem kw_447 : Cond.selects "FootholdWall$Tokens" yX7_begin yX7_begin ∈ gw := gw_of (tb_of 447 (by decide +kernel)) (by decide +kernel)
theorem kw_448 : Cond.code yX7_begin cX7_begin 3 none ∈ gw := gw_of (tb_of 448 (by decide +kernel)) (by decide +kernel)
theorem kw_545 : Cond.methodLink "FootholdWall$Reader" 59 yX4_readLine ∈ gw := gw_of (tb_of 545 (by decide +kernel)) (by decide +kernel)
theorem kw_547 : Cond.instanceMethod yX4_readLine ∈ gw := gw_of (tb_of 547 (by decide +kernel)) (by decide +kernel)
theorem kw_548 : Cond.code yX4_readLine cX4_readLine 1 (some (.boolean)) ∈ gw := gw_of (tb_of 548 (by decide +kernel)) (by decide +kernel)
theorem kw_550 : Cond.methodLink "FootholdWall$Reader" 83 yX7_isWord ∈ gw := gw_of (tb_of 550 (by decide +kernel)) (by decide +kernel)
theorem kw_575 : Cond.methodLink "FootholdWall$Reader" 87 yX4_readHold ∈ gw := gw_of (tb_of 575 (by decide +kernel)) (by decide +kernel)
theorem kw_577 : Cond.instanceMethod yX4_readHold ∈ gw := gw_of (tb_of 577 (by decide +kernel)) (by decide +kernel)
theorem kw_578 : Cond.code yX4_readHold cX4_readHold 5 (some (.boolean)) ∈ gw := gw_of (tb_of 578 (by decide +kernel)) (by decide +kernel)
theorem kw_579 : Cond.methodLink "FootholdWall$Reader" 121 yX7_refuse ∈ gw := gw_of (tb_of 579 (by decide +kernel)) (by decide +kernel)
theorem kw_583 : Cond.methodLink "FootholdWall$Reader" 97 yX7_go ∈ gw := gw_of (tb_of 583 (by decide +kernel)) (by decide +kernel)
theorem kw_584 : Cond.methodLink "FootholdWall$Reader" 115 yX7_takeNumber ∈ gw := gw_of (tb_of 584 (by decide +kernel)) (by decide +kernel)
theorem kw_585 : Cond.instanceMethod yX7_takeNumber ∈ gw := gw_of (tb_of 585 (by decide +kernel)) (by decide +kernel)
theorem kw_586 : Cond.selects "FootholdWall$Tokens" yX7_takeNumber yX7_takeNumber ∈ gw := gw_of (tb_of 586 (by decide +kernel)) (by decide +kernel)
theorem kw_587 : Cond.code yX7_takeNumber cX7_takeNumber 3 (some (.int)) ∈ gw := gw_of (tb_of 587 (by decide +kernel)) (by decide +kernel)
theorem kw_589 : Cond.methodLink "FootholdWall$Reader" 138 yX4_readFlag ∈ gw := gw_of (tb_of 589 (by decide +kernel)) (by decide +kernel)
theorem kw_591 : Cond.instanceMethod yX4_readFlag ∈ gw := gw_of (tb_of 591 (by decide +kernel)) (by decide +kernel)
theorem kw_592 : Cond.code yX4_readFlag cX4_readFlag 3 (some (.boolean)) ∈ gw := gw_of (tb_of 592 (by decide +kernel)) (by decide +kernel)
theorem kw_598 : Cond.methodLink "FootholdWall$Reader" 92 yX4_readGuide ∈ gw := gw_of (tb_of 598 (by decide +kernel)) (by decide +kernel)
theorem kw_600 : Cond.instanceMethod yX4_readGuide ∈ gw := gw_of (tb_of 600 (by decide +kernel)) (by decide +kernel)
theorem kw_601 : Cond.code yX4_readGuide cX4_readGuide 2 (some (.boolean)) ∈ gw := gw_of (tb_of 601 (by decide +kernel)) (by decide +kernel)
theorem kw_603 : Cond.methodLink "FootholdWall$Reader" 162 yX7_takeWord ∈ gw := gw_of (tb_of 603 (by decide +kernel)) (by decide +kernel)
theorem kw_604 : Cond.instanceMethod yX7_takeWord ∈ gw := gw_of (tb_of 604 (by decide +kernel)) (by decide +kernel)
theorem kw_605 : Cond.selects "FootholdWall$Tokens" yX7_takeWord yX7_takeWord ∈ gw := gw_of (tb_of 605 (by decide +kernel)) (by decide +kernel)
theorem kw_606 : Cond.code yX7_takeWord cX7_takeWord 2 (some (.boolean)) ∈ gw := gw_of (tb_of 606 (by decide +kernel)) (by decide +kernel)
theorem kw_610 : Cond.methodLink "FootholdWall$Reader" 63 yX7_takeSign ∈ gw := gw_of (tb_of 610 (by decide +kernel)) (by decide +kernel)
theorem kw_618 : Cond.methodLink "FootholdWall$Reader" 100 yX3_read ∈ gw := gw_of (tb_of 618 (by decide +kernel)) (by decide +kernel)
theorem kw_619 : Cond.instanceMethod yX3_read ∈ gw := gw_of (tb_of 619 (by decide +kernel)) (by decide +kernel)
theorem kw_620 : Cond.selects "FootholdWall$LawReader" yX3_read yX3_read ∈ gw := gw_of (tb_of 620 (by decide +kernel)) (by decide +kernel)
theorem kw_621 : Cond.code yX3_read cX3_read 1 (some (.boolean)) ∈ gw := gw_of (tb_of 621 (by decide +kernel)) (by decide +kernel)
theorem kw_678 : Cond.methodLink "FootholdWall$Reader" 105 yX4_readUsed ∈ gw := gw_of (tb_of 678 (by decide +kernel)) (by decide +kernel)
theorem kw_680 : Cond.instanceMethod yX4_readUsed ∈ gw := gw_of (tb_of 680 (by decide +kernel)) (by decide +kernel)
theorem kw_681 : Cond.code yX4_readUsed cX4_readUsed 3 (some (.boolean)) ∈ gw := gw_of (tb_of 681 (by decide +kernel)) (by decide +kernel)
theorem kw_682 : Cond.methodLink "FootholdWall$Reader" 174 yX9_middles ∈ gw := gw_of (tb_of 682 (by decide +kernel)) (by decide +kernel)
theorem kw_687 : Cond.methodLink "FootholdWall$Reader" 180 yX6_use ∈ gw := gw_of (tb_of 687 (by decide +kernel)) (by decide +kernel)
theorem kw_698 : Cond.methodLink "FootholdWall$Reader" 110 yX4_readBroken ∈ gw := gw_of (tb_of 698 (by decide +kernel)) (by decide +kernel)
theorem kw_700 : Cond.instanceMethod yX4_readBroken ∈ gw := gw_of (tb_of 700 (by decide +kernel)) (by decide +kernel)
theorem kw_701 : Cond.code yX4_readBroken cX4_readBroken 2 (some (.boolean)) ∈ gw := gw_of (tb_of 701 (by decide +kernel)) (by decide +kernel)
theorem kw_702 : Cond.methodLink "FootholdWall$Reader" 184 yX6_breakDown ∈ gw := gw_of (tb_of 702 (by decide +kernel)) (by decide +kernel)
theorem kw_707 : Cond.methodLink "FootholdWall$Reader" 70 yX6_useSinceToday ∈ gw := gw_of (tb_of 707 (by decide +kernel)) (by decide +kernel)
theorem kw_708 : Cond.instanceMethod yX6_useSinceToday ∈ gw := gw_of (tb_of 708 (by decide +kernel)) (by decide +kernel)
theorem kw_709 : Cond.selects "FootholdWall$State" yX6_useSinceToday yX6_useSinceToday ∈ gw := gw_of (tb_of 709 (by decide +kernel)) (by decide +kernel)
theorem kw_710 : Cond.code yX6_useSinceToday cX6_useSinceToday 2 none ∈ gw := gw_of (tb_of 710 (by decide +kernel)) (by decide +kernel)
theorem ks_1 : Cond.selects RX4 yX4_readLine yX4_readLine ∈ gw := gw_of (pv_of 1 (by decide +kernel)) (by decide +kernel)
theorem ks_2 : Cond.selects RX4 yX4_readHold yX4_readHold ∈ gw := gw_of (pv_of 2 (by decide +kernel)) (by decide +kernel)
theorem ks_3 : Cond.selects RX4 yX4_readFlag yX4_readFlag ∈ gw := gw_of (pv_of 3 (by decide +kernel)) (by decide +kernel)
theorem ks_4 : Cond.selects RX4 yX4_readGuide yX4_readGuide ∈ gw := gw_of (pv_of 4 (by decide +kernel)) (by decide +kernel)
theorem ks_15 : Cond.selects RX4 yX4_readUsed yX4_readUsed ∈ gw := gw_of (pv_of 15 (by decide +kernel)) (by decide +kernel)
theorem ks_16 : Cond.selects RX4 yX4_readBroken yX4_readBroken ∈ gw := gw_of (pv_of 16 (by decide +kernel)) (by decide +kernel)
set_option maxHeartbeats 4000000 in
set_option maxRecDepth 100000 in
theorem s_RD_readBroken (l : Launch) (D : va_G) (cs : CS) (kf : KF) (T : TF) (O : List Nat) (X : va_W) (a0 d : Nat) (t_a0 : T a0 = some (14, d, 0)) (t_d : T d = some (19, 100, 0)) (hO : okO T O [0, 14, 16, 17, 19]) : TK l D cs kf yX4_readBroken cX4_readBroken 2 (some (.boolean)) { frames := 6, cells := 0, slots := 0, locals := 133 } [.ref a0] T O X (Ti D cs (fun r u => u = (T, O, X) ∧ 0 ≤ r.toInt ∧ r.toInt ≤ 1)) := by
  refine tk_of (by decide) (Nat.le_of_ble_eq_true rfl) (fun p e s m below meth c ls A H locs hx hb hr hml hown hts hlocks hnm hkb hH hS hA hOX hks hE hl => ?_)
  have hown : s.vm.findClass RX4 = some m.cls := hown
  have hl : lv_has ls 2 [(0, .ref a0)] := hl
  refine lv_aload_n hx hb dX4_readBroken_0 rfl (lv_at hl 0 rfl) ?_
  refine t_get (ci := 4) (lst := ft4 d 0) (C := RX4) (F := TX4) (N := 5) hx hb hts uX4 hown hkb hH t_a0 (hO.no t_a0 (by decide)) (fun _ h9 => h9) rfl rfl 0 (by decide) rfl kw_211 (fun _ h9 => h9) dX4_readBroken_1 (fun v9 h9 => ?_)
  obtain ⟨v1, rfl, t_v1⟩ := h9
  refine tk_v hH hS hA (tr_V (n := 0) (As := []) hx hb hml hown hts hkb hH hOX hks hE hS hA (s_Tok_go l D cs kf T O X v1 t_v1 (hO.sub (by decide))) kw_583 kw_453 kw_454 kw_3 kw_455 (by decide +kernel) ⟨Nat.le_of_ble_eq_true rfl, Nat.le_of_ble_eq_true rfl⟩ (HT.recv (ci := 7) hkb hH t_v1 (hO.no t_v1 (by decide)) rfl) rfl rfl hl.1 (Nat.le_of_ble_eq_true rfl) dX4_readBroken_4 ⟨Nat.le_of_ble_eq_true rfl, Nat.le_of_ble_eq_true rfl⟩) (fun u H locs hz9 hH hS => ?_)
  have hz9 : u = (T, O, X) := hz9
  subst hz9
  have hH : HT D cs A T O X H := hH
  refine W.widen (k := 0) (n := 0) (Nat.le_of_ble_eq_true rfl) (Nat.le_of_ble_eq_true rfl) ?_
  refine lv_aload_n hx hb dX4_readBroken_7 rfl (lv_at hl 0 rfl) ?_
  refine t_get (ci := 4) (lst := ft4 d 0) (C := RX4) (F := TX4) (N := 5) hx hb hts uX4 hown hkb hH t_a0 (hO.no t_a0 (by decide)) (fun _ h9 => h9) rfl rfl 0 (by decide) rfl kw_211 (fun _ h9 => h9) dX4_readBroken_8 (fun v9 h9 => ?_)
  obtain ⟨v8, rfl, t_v8⟩ := h9
  refine lv_aload_n hx hb dX4_readBroken_11 rfl (lv_at hl 0 rfl) ?_
  refine t_get (ci := 4) (lst := ft4 d 0) (C := RX4) (F := TX4) (N := 5) hx hb hts uX4 hown hkb hH t_a0 (hO.no t_a0 (by decide)) (fun _ h9 => h9) rfl rfl 2 (by decide) rfl kw_214 (fun _ h9 => h9) dX4_readBroken_12 (fun v9 h9 => ?_)
  have h9 : v9 = .ref d := h9
  subst h9
  refine t_get (ci := 9) (lst := ft9d 100 0) (C := RX9) (F := TX9) (N := 14) hx hb hts uX9 hown hkb hH t_d (hO.no t_d (by decide)) (fun fs => (ob9d fs).mp) rfl rfl 0 (by decide) rfl kw_108 (fun _ h9 => h9) dX4_readBroken_15 (fun v9 h9 => ?_)
  obtain ⟨v15, rfl, l_v15, u_v15⟩ := h9
  refine lv_iconst (v := 1) hx hb dX4_readBroken_18 (by decide) ?_
  refine lv_isub hx hb dX4_readBroken_19 ?_
  refine lv_topi (fun v19 ev19 => ?_)
  have tv19 : v19.toInt = v15.toInt - (1) := by rw [ev19]; exact sub_i rfl (by decide : (1 : Int32).toInt = 1) (by omega) (by omega)
  refine tk_i hH hS hA (tr_V (n := 1) (As := [.int v19]) hx hb hml hown hts hkb hH hOX hks hE hS hA (s_Tok_takeNumber l D cs kf T O X v8 v19 t_v8 (hO.sub (by decide))) kw_584 kw_585 kw_586 kw_3 kw_587 (by decide +kernel) ⟨Nat.le_of_ble_eq_true rfl, Nat.le_of_ble_eq_true rfl⟩ (HT.recv (ci := 7) hkb hH t_v8 (hO.no t_v8 (by decide)) rfl) rfl rfl hl.1 (Nat.le_of_ble_eq_true rfl) dX4_readBroken_20 ⟨Nat.le_of_ble_eq_true rfl, Nat.le_of_ble_eq_true rfl⟩) (fun v20 u H locs hz9 hH hS => ?_)
  have hz9 : u = (T, O, X) := hz9
  subst hz9
  have hH : HT D cs A T O X H := hH
  refine W.widen (k := 0) (n := 0) (Nat.le_of_ble_eq_true rfl) (Nat.le_of_ble_eq_true rfl) ?_
  refine lv_istore_n (lv' := [(1, .int v20), (0, .ref a0)]) hx hb dX4_readBroken_23 rfl hl (by decide) rfl (fun ls hl => ?_)
  refine lv_iload_n hx hb dX4_readBroken_24 rfl (lv_at hl 0 rfl) ?_
  refine lv_iconst (v := (-1)) hx hb dX4_readBroken_25 (by decide) ?_
  refine lv_icmp_ne (tgt := 31) hx hb dX4_readBroken_26 (by decide) (fun c26 => ?_) (fun c26 => ?_)
  · skip
    have tc26 := f_ne (k := -1) (by decide) c26
    refine lv_aload_n hx hb dX4_readBroken_31 rfl (lv_at hl 1 rfl) ?_
    refine t_get (ci := 4) (lst := ft4 d 0) (C := RX4) (F := TX4) (N := 5) hx hb hts uX4 hown hkb hH t_a0 (hO.no t_a0 (by decide)) (fun _ h9 => h9) rfl rfl 4 (by decide) rfl kw_216 (fun _ h9 => h9) dX4_readBroken_32 (fun v9 h9 => ?_)
    obtain ⟨v32, rfl, t_v32⟩ := h9
    refine lv_iload_n hx hb dX4_readBroken_35 rfl (lv_at hl 0 rfl) ?_
    refine tk_i hH hS hA (tr_V (n := 1) (As := [.int v20]) hx hb hml hown hts hkb hH hOX hks hE hS hA (s_State_breakDown l D cs kf T O X v32 v20 t_v32 (hO.sub (by decide))) kw_702 kw_703 kw_704 kw_7 kw_705 (by decide +kernel) ⟨Nat.le_of_ble_eq_true rfl, Nat.le_of_ble_eq_true rfl⟩ (HT.recv (ci := 6) hkb hH t_v32 (hO.no t_v32 (by decide)) rfl) rfl rfl hl.1 (Nat.le_of_ble_eq_true rfl) dX4_readBroken_36 ⟨Nat.le_of_ble_eq_true rfl, Nat.le_of_ble_eq_true rfl⟩) (fun v36 u H locs hz9 hH hS => ?_)
    obtain ⟨rfl, l_v36, u_v36⟩ := hz9
    have hH : HT D cs A T O X H := hH
    refine W.widen (k := 0) (n := 0) (Nat.le_of_ble_eq_true rfl) (Nat.le_of_ble_eq_true rfl) ?_
    refine lv_pop hx hb dX4_readBroken_39 rfl ?_
    refine lv_iconst (v := 1) hx hb dX4_readBroken_40 (by decide) ?_
    exact te_z hx hb hr hlocks (by rfl) hH hS (⟨rfl, by decide, by decide⟩) dX4_readBroken_41
  · skip
    have tc26 := f_eq (k := -1) (by decide) c26
    refine lv_iconst (v := 0) hx hb dX4_readBroken_29 (by decide) ?_
    exact te_z hx hb hr hlocks (by rfl) hH hS (⟨rfl, by decide, by decide⟩) dX4_readBroken_30
set_option maxHeartbeats 4000000 in
set_option maxRecDepth 100000 in
theorem s_RD_readUsed (l : Launch) (D : va_G) (cs : CS) (kf : KF) (T : TF) (O : List Nat) (X : va_W) (a0 d : Nat) (t_a0 : T a0 = some (14, d, 0)) (t_d : T d = some (19, 100, 0)) (hO : okO T O [0, 1, 14, 16, 17, 19]) : TK l D cs kf yX4_readUsed cX4_readUsed 3 (some (.boolean)) { frames := 6, cells := 0, slots := 0, locals := 133 } [.ref a0] T O X (Ti D cs (fun r u => u = (T, O, X) ∧ 0 ≤ r.toInt ∧ r.toInt ≤ 1)) := by
  refine tk_of (by decide) (Nat.le_of_ble_eq_true rfl) (fun p e s m below meth c ls A H locs hx hb hr hml hown hts hlocks hnm hkb hH hS hA hOX hks hE hl => ?_)
  have hown : s.vm.findClass RX4 = some m.cls := hown
  have hl : lv_has ls 3 [(0, .ref a0)] := hl
  refine lv_aload_n hx hb dX4_readUsed_0 rfl (lv_at hl 0 rfl) ?_
  refine t_get (ci := 4) (lst := ft4 d 0) (C := RX4) (F := TX4) (N := 5) hx hb hts uX4 hown hkb hH t_a0 (hO.no t_a0 (by decide)) (fun _ h9 => h9) rfl rfl 0 (by decide) rfl kw_211 (fun _ h9 => h9) dX4_readUsed_1 (fun v9 h9 => ?_)
  obtain ⟨v1, rfl, t_v1⟩ := h9
  refine tk_v hH hS hA (tr_V (n := 0) (As := []) hx hb hml hown hts hkb hH hOX hks hE hS hA (s_Tok_go l D cs kf T O X v1 t_v1 (hO.sub (by decide))) kw_583 kw_453 kw_454 kw_3 kw_455 (by decide +kernel) ⟨Nat.le_of_ble_eq_true rfl, Nat.le_of_ble_eq_true rfl⟩ (HT.recv (ci := 7) hkb hH t_v1 (hO.no t_v1 (by decide)) rfl) rfl rfl hl.1 (Nat.le_of_ble_eq_true rfl) dX4_readUsed_4 ⟨Nat.le_of_ble_eq_true rfl, Nat.le_of_ble_eq_true rfl⟩) (fun u H locs hz9 hH hS => ?_)
  have hz9 : u = (T, O, X) := hz9
  subst hz9
  have hH : HT D cs A T O X H := hH
  refine W.widen (k := 0) (n := 0) (Nat.le_of_ble_eq_true rfl) (Nat.le_of_ble_eq_true rfl) ?_
  refine lv_aload_n hx hb dX4_readUsed_7 rfl (lv_at hl 0 rfl) ?_
  refine t_get (ci := 4) (lst := ft4 d 0) (C := RX4) (F := TX4) (N := 5) hx hb hts uX4 hown hkb hH t_a0 (hO.no t_a0 (by decide)) (fun _ h9 => h9) rfl rfl 0 (by decide) rfl kw_211 (fun _ h9 => h9) dX4_readUsed_8 (fun v9 h9 => ?_)
  obtain ⟨v8, rfl, t_v8⟩ := h9
  refine t_get (ci := 7) (lst := ft7 0 0) (C := RX7) (F := TX7) (N := 8) hx hb hts uX7 hown hkb hH t_v8 (hO.no t_v8 (by decide)) (fun _ h9 => ob7_ok h9) rfl rfl 4 (by decide) rfl kw_49 (fun _ h9 => h9) dX4_readUsed_11 (fun v9 h9 => ?_)
  obtain ⟨v11, rfl⟩ := h9
  refine lv_iconst (v := 2) hx hb dX4_readUsed_14 (by decide) ?_
  have J64 : ∀  (H : Heap) (locs : List Loc) (ls : Array Slot), HT D cs A T O X H → va_S A s.heap H locs → lv_has ls 3 [(0, .ref a0)] → W p l e { frames := 6, cells := 0, slots := 0, locals := 133 } s m [.ref a0].toArray below meth c H locs 0 0 (MQ below (Ti D cs (fun r u => u = (T, O, X) ∧ 0 ≤ r.toInt ∧ r.toInt ≤ 1) A) [.ref a0].toArray s 0 0 A) (F0 m 64 ls []) := by
    intro  H locs ls  hH hS hl
    refine lv_aload_n hx hb dX4_readUsed_64 rfl (lv_at hl 0 rfl) ?_
    refine t_get (ci := 4) (lst := ft4 d 0) (C := RX4) (F := TX4) (N := 5) hx hb hts uX4 hown hkb hH t_a0 (hO.no t_a0 (by decide)) (fun _ h9 => h9) rfl rfl 0 (by decide) rfl kw_211 (fun _ h9 => h9) dX4_readUsed_65 (fun v9 h9 => ?_)
    obtain ⟨v65, rfl, t_v65⟩ := h9
    refine lv_aload_n hx hb dX4_readUsed_68 rfl (lv_at hl 0 rfl) ?_
    refine t_get (ci := 4) (lst := ft4 d 0) (C := RX4) (F := TX4) (N := 5) hx hb hts uX4 hown hkb hH t_a0 (hO.no t_a0 (by decide)) (fun _ h9 => h9) rfl rfl 2 (by decide) rfl kw_214 (fun _ h9 => h9) dX4_readUsed_69 (fun v9 h9 => ?_)
    have h9 : v9 = .ref d := h9
    subst h9
    refine t_get (ci := 9) (lst := ft9d 100 0) (C := RX9) (F := TX9) (N := 14) hx hb hts uX9 hown hkb hH t_d (hO.no t_d (by decide)) (fun fs => (ob9d fs).mp) rfl rfl 0 (by decide) rfl kw_108 (fun _ h9 => h9) dX4_readUsed_72 (fun v9 h9 => ?_)
    obtain ⟨v72, rfl, l_v72, u_v72⟩ := h9
    refine lv_iconst (v := 1) hx hb dX4_readUsed_75 (by decide) ?_
    refine lv_isub hx hb dX4_readUsed_76 ?_
    refine lv_topi (fun v76 ev76 => ?_)
    have tv76 : v76.toInt = v72.toInt - (1) := by rw [ev76]; exact sub_i rfl (by decide : (1 : Int32).toInt = 1) (by omega) (by omega)
    refine tk_i hH hS hA (tr_V (n := 1) (As := [.int v76]) hx hb hml hown hts hkb hH hOX hks hE hS hA (s_Tok_takeNumber l D cs kf T O X v65 v76 t_v65 (hO.sub (by decide))) kw_584 kw_585 kw_586 kw_3 kw_587 (by decide +kernel) ⟨Nat.le_of_ble_eq_true rfl, Nat.le_of_ble_eq_true rfl⟩ (HT.recv (ci := 7) hkb hH t_v65 (hO.no t_v65 (by decide)) rfl) rfl rfl hl.1 (Nat.le_of_ble_eq_true rfl) dX4_readUsed_77 ⟨Nat.le_of_ble_eq_true rfl, Nat.le_of_ble_eq_true rfl⟩) (fun v77 u H locs hz9 hH hS => ?_)
    have hz9 : u = (T, O, X) := hz9
    subst hz9
    have hH : HT D cs A T O X H := hH
    refine W.widen (k := 0) (n := 0) (Nat.le_of_ble_eq_true rfl) (Nat.le_of_ble_eq_true rfl) ?_
    refine lv_istore_n (lv' := [(1, .int v77), (0, .ref a0)]) hx hb dX4_readUsed_80 rfl hl (by decide) rfl (fun ls hl => ?_)
    refine lv_iload_n hx hb dX4_readUsed_81 rfl (lv_at hl 0 rfl) ?_
    refine lv_iconst (v := (-1)) hx hb dX4_readUsed_82 (by decide) ?_
    have J98 : ∀  (H : Heap) (locs : List Loc) (ls : Array Slot), HT D cs A T O X H → va_S A s.heap H locs → lv_has ls 3 [] → W p l e { frames := 6, cells := 0, slots := 0, locals := 133 } s m [.ref a0].toArray below meth c H locs 0 0 (MQ below (Ti D cs (fun r u => u = (T, O, X) ∧ 0 ≤ r.toInt ∧ r.toInt ≤ 1) A) [.ref a0].toArray s 0 0 A) (F0 m 98 ls []) := by
      intro  H locs ls  hH hS hl
      refine lv_iconst (v := 0) hx hb dX4_readUsed_98 (by decide) ?_
      exact te_z hx hb hr hlocks (by rfl) hH hS (⟨rfl, by decide, by decide⟩) dX4_readUsed_99
    refine lv_icmp_eq (tgt := 98) hx hb dX4_readUsed_83 (by decide) (fun c83 => ?_) (fun c83 => ?_)
    · skip
      have tc83 := f_eq (k := -1) (by decide) c83
      exact J98  _ _ _  hH hS (lv_sub hl [] rfl)
    · skip
      have tc83 := f_ne (k := -1) (by decide) c83
      refine lv_aload_n hx hb dX4_readUsed_86 rfl (lv_at hl 1 rfl) ?_
      refine t_get (ci := 4) (lst := ft4 d 0) (C := RX4) (F := TX4) (N := 5) hx hb hts uX4 hown hkb hH t_a0 (hO.no t_a0 (by decide)) (fun _ h9 => h9) rfl rfl 0 (by decide) rfl kw_211 (fun _ h9 => h9) dX4_readUsed_87 (fun v9 h9 => ?_)
      obtain ⟨v87, rfl, t_v87⟩ := h9
      refine va_ldcS (q := kf.1 18) hx hb hown (hks ("FootholdWall$Reader", 178, "by", 18) (by decide +kernel)) dX4_readUsed_90 ?_
      refine tk_i hH hS hA (tr_V (n := 1) (As := [.ref (kf.1 18)]) hx hb hml hown hts hkb hH hOX hks hE hS hA (s_Tok_takeWord l D cs kf T O X v87 18 t_v87 (by decide) (hO.sub (by decide))) kw_603 kw_604 kw_605 kw_3 kw_606 (by decide +kernel) ⟨Nat.le_of_ble_eq_true rfl, Nat.le_of_ble_eq_true rfl⟩ (HT.recv (ci := 7) hkb hH t_v87 (hO.no t_v87 (by decide)) rfl) rfl rfl hl.1 (Nat.le_of_ble_eq_true rfl) dX4_readUsed_92 ⟨Nat.le_of_ble_eq_true rfl, Nat.le_of_ble_eq_true rfl⟩) (fun v92 u H locs hz9 hH hS => ?_)
      obtain ⟨rfl, l_v92, u_v92⟩ := hz9
      have hH : HT D cs A T O X H := hH
      refine W.widen (k := 0) (n := 0) (Nat.le_of_ble_eq_true rfl) (Nat.le_of_ble_eq_true rfl) ?_
      refine lv_if_ne (tgt := 100) hx hb dX4_readUsed_95 (by decide) (fun c95 => ?_) (fun c95 => ?_)
      · skip
        have tc95 := f_ne (k := 0) (by decide) c95
        refine lv_aload_n hx hb dX4_readUsed_100 rfl (lv_at hl 1 rfl) ?_
        refine t_get (ci := 4) (lst := ft4 d 0) (C := RX4) (F := TX4) (N := 5) hx hb hts uX4 hown hkb hH t_a0 (hO.no t_a0 (by decide)) (fun _ h9 => h9) rfl rfl 0 (by decide) rfl kw_211 (fun _ h9 => h9) dX4_readUsed_101 (fun v9 h9 => ?_)
        obtain ⟨v101, rfl, t_v101⟩ := h9
        refine lv_aload_n hx hb dX4_readUsed_104 rfl (lv_at hl 1 rfl) ?_
        refine t_get (ci := 4) (lst := ft4 d 0) (C := RX4) (F := TX4) (N := 5) hx hb hts uX4 hown hkb hH t_a0 (hO.no t_a0 (by decide)) (fun _ h9 => h9) rfl rfl 2 (by decide) rfl kw_214 (fun _ h9 => h9) dX4_readUsed_105 (fun v9 h9 => ?_)
        have h9 : v9 = .ref d := h9
        subst h9
        refine t_get (ci := 9) (lst := ft9d 100 0) (C := RX9) (F := TX9) (N := 14) hx hb hts uX9 hown hkb hH t_d (hO.no t_d (by decide)) (fun fs => (ob9d fs).mp) rfl rfl 1 (by decide) rfl kw_111 (fun _ h9 => h9) dX4_readUsed_108 (fun v9 h9 => ?_)
        obtain ⟨v108, rfl, l_v108, u_v108⟩ := h9
        refine lv_iconst (v := 1) hx hb dX4_readUsed_111 (by decide) ?_
        refine lv_isub hx hb dX4_readUsed_112 ?_
        refine lv_topi (fun v112 ev112 => ?_)
        have tv112 : v112.toInt = v108.toInt - (1) := by rw [ev112]; exact sub_i rfl (by decide : (1 : Int32).toInt = 1) (by omega) (by omega)
        refine tk_i hH hS hA (tr_V (n := 1) (As := [.int v112]) hx hb hml hown hts hkb hH hOX hks hE hS hA (s_Tok_takeNumber l D cs kf T O X v101 v112 t_v101 (hO.sub (by decide))) kw_584 kw_585 kw_586 kw_3 kw_587 (by decide +kernel) ⟨Nat.le_of_ble_eq_true rfl, Nat.le_of_ble_eq_true rfl⟩ (HT.recv (ci := 7) hkb hH t_v101 (hO.no t_v101 (by decide)) rfl) rfl rfl hl.1 (Nat.le_of_ble_eq_true rfl) dX4_readUsed_113 ⟨Nat.le_of_ble_eq_true rfl, Nat.le_of_ble_eq_true rfl⟩) (fun v113 u H locs hz9 hH hS => ?_)
        have hz9 : u = (T, O, X) := hz9
        subst hz9
        have hH : HT D cs A T O X H := hH
        refine W.widen (k := 0) (n := 0) (Nat.le_of_ble_eq_true rfl) (Nat.le_of_ble_eq_true rfl) ?_
        refine lv_istore_n (lv' := [(2, .int v113), (1, .int v77), (0, .ref a0)]) hx hb dX4_readUsed_116 rfl hl (by decide) rfl (fun ls hl => ?_)
        refine lv_iload_n hx hb dX4_readUsed_117 rfl (lv_at hl 0 rfl) ?_
        refine lv_iconst (v := (-1)) hx hb dX4_readUsed_118 (by decide) ?_
        refine lv_icmp_ne (tgt := 124) hx hb dX4_readUsed_119 (by decide) (fun c119 => ?_) (fun c119 => ?_)
        · skip
          have tc119 := f_ne (k := -1) (by decide) c119
          refine lv_aload_n hx hb dX4_readUsed_124 rfl (lv_at hl 2 rfl) ?_
          refine t_get (ci := 4) (lst := ft4 d 0) (C := RX4) (F := TX4) (N := 5) hx hb hts uX4 hown hkb hH t_a0 (hO.no t_a0 (by decide)) (fun _ h9 => h9) rfl rfl 4 (by decide) rfl kw_216 (fun _ h9 => h9) dX4_readUsed_125 (fun v9 h9 => ?_)
          obtain ⟨v125, rfl, t_v125⟩ := h9
          refine lv_iconst (v := 1) hx hb dX4_readUsed_128 (by decide) ?_
          refine lv_iload_n hx hb dX4_readUsed_129 rfl (lv_at hl 1 rfl) ?_
          refine lv_ishl hx hb dX4_readUsed_130 ?_
          refine lv_topi (fun v130 ev130 => ?_)
          refine lv_iload_n hx hb dX4_readUsed_131 rfl (lv_at hl 0 rfl) ?_
          refine tk_i hH hS hA (tr_V (n := 2) (As := [.int v130, .int v113]) hx hb hml hown hts hkb hH hOX hks hE hS hA (s_State_use l D cs kf T O X v125 v130 v113 t_v125 (hO.sub (by decide))) kw_687 kw_688 kw_689 kw_7 kw_690 (by decide +kernel) ⟨Nat.le_of_ble_eq_true rfl, Nat.le_of_ble_eq_true rfl⟩ (HT.recv (ci := 6) hkb hH t_v125 (hO.no t_v125 (by decide)) rfl) rfl rfl hl.1 (Nat.le_of_ble_eq_true rfl) dX4_readUsed_132 ⟨Nat.le_of_ble_eq_true rfl, Nat.le_of_ble_eq_true rfl⟩) (fun v132 u H locs hz9 hH hS => ?_)
          obtain ⟨rfl, l_v132, u_v132⟩ := hz9
          have hH : HT D cs A T O X H := hH
          refine W.widen (k := 0) (n := 0) (Nat.le_of_ble_eq_true rfl) (Nat.le_of_ble_eq_true rfl) ?_
          refine lv_pop hx hb dX4_readUsed_135 rfl ?_
          refine lv_iconst (v := 1) hx hb dX4_readUsed_136 (by decide) ?_
          exact te_z hx hb hr hlocks (by rfl) hH hS (⟨rfl, by decide, by decide⟩) dX4_readUsed_137
        · skip
          have tc119 := f_eq (k := -1) (by decide) c119
          refine lv_iconst (v := 0) hx hb dX4_readUsed_122 (by decide) ?_
          exact te_z hx hb hr hlocks (by rfl) hH hS (⟨rfl, by decide, by decide⟩) dX4_readUsed_123
      · skip
        have tc95 := f_eq (k := 0) (by decide) c95
        exact J98  _ _ _  hH hS (lv_sub hl [] rfl)
  refine lv_icmp_ne (tgt := 64) hx hb dX4_readUsed_15 (by decide) (fun c15 => ?_) (fun c15 => ?_)
  · skip
    have tc15 := f_ne (k := 2) (by decide) c15
    exact J64  _ _ _  hH hS (lv_sub hl [0] rfl)
  · skip
    have tc15 := f_eq (k := 2) (by decide) c15
    refine lv_aload_n hx hb dX4_readUsed_18 rfl (lv_at hl 0 rfl) ?_
    refine t_get (ci := 4) (lst := ft4 d 0) (C := RX4) (F := TX4) (N := 5) hx hb hts uX4 hown hkb hH t_a0 (hO.no t_a0 (by decide)) (fun _ h9 => h9) rfl rfl 0 (by decide) rfl kw_211 (fun _ h9 => h9) dX4_readUsed_19 (fun v9 h9 => ?_)
    obtain ⟨v19, rfl, t_v19⟩ := h9
    refine t_get (ci := 7) (lst := ft7 0 0) (C := RX7) (F := TX7) (N := 8) hx hb hts uX7 hown hkb hH t_v19 (hO.no t_v19 (by decide)) (fun _ h9 => ob7_ok h9) rfl rfl 5 (by decide) rfl kw_52 (fun _ h9 => h9) dX4_readUsed_22 (fun v9 h9 => ?_)
    obtain ⟨v22, rfl⟩ := h9
    refine lv_aload_n hx hb dX4_readUsed_25 rfl (lv_at hl 0 rfl) ?_
    refine t_get (ci := 4) (lst := ft4 d 0) (C := RX4) (F := TX4) (N := 5) hx hb hts uX4 hown hkb hH t_a0 (hO.no t_a0 (by decide)) (fun _ h9 => h9) rfl rfl 2 (by decide) rfl kw_214 (fun _ h9 => h9) dX4_readUsed_26 (fun v9 h9 => ?_)
    have h9 : v9 = .ref d := h9
    subst h9
    refine t_get (ci := 9) (lst := ft9d 100 0) (C := RX9) (F := TX9) (N := 14) hx hb hts uX9 hown hkb hH t_d (hO.no t_d (by decide)) (fun fs => (ob9d fs).mp) rfl rfl 0 (by decide) rfl kw_108 (fun _ h9 => h9) dX4_readUsed_29 (fun v9 h9 => ?_)
    obtain ⟨v29, rfl, l_v29, u_v29⟩ := h9
    refine lv_icmp_ge (tgt := 64) hx hb dX4_readUsed_32 (by decide) (fun c32 => ?_) (fun c32 => ?_)
    · skip
      have fuc32 := full_i v22
      have fvc32 := full_i v29
      have tc32 := g_le c32
      exact J64  _ _ _  hH hS (lv_sub hl [0] rfl)
    · skip
      have fuc32 := full_i v22
      have fvc32 := full_i v29
      have tc32 := g_nle c32
      refine lv_aload_n hx hb dX4_readUsed_35 rfl (lv_at hl 0 rfl) ?_
      refine t_get (ci := 4) (lst := ft4 d 0) (C := RX4) (F := TX4) (N := 5) hx hb hts uX4 hown hkb hH t_a0 (hO.no t_a0 (by decide)) (fun _ h9 => h9) rfl rfl 2 (by decide) rfl kw_214 (fun _ h9 => h9) dX4_readUsed_36 (fun v9 h9 => ?_)
      have h9 : v9 = .ref d := h9
      subst h9
      refine tk_i hH hS hA (tr_V (n := 0) (As := []) hx hb hml hown hts hkb hH hOX hks hE hS hA (s_Wall_middlesD l D cs kf T O X d t_d (hO.sub (by decide))) kw_682 kw_683 kw_684 kw_5 kw_685 (by decide +kernel) ⟨Nat.le_of_ble_eq_true rfl, Nat.le_of_ble_eq_true rfl⟩ (HT.recv (ci := 9) hkb hH t_d (hO.no t_d (by decide)) rfl) rfl rfl hl.1 (Nat.le_of_ble_eq_true rfl) dX4_readUsed_39 ⟨Nat.le_of_ble_eq_true rfl, Nat.le_of_ble_eq_true rfl⟩) (fun v39 u H locs hz9 hH hS => ?_)
      obtain ⟨rfl, l_v39, u_v39⟩ := hz9
      have hH : HT D cs A T O X H := hH
      refine W.widen (k := 0) (n := 0) (Nat.le_of_ble_eq_true rfl) (Nat.le_of_ble_eq_true rfl) ?_
      refine lv_aload_n hx hb dX4_readUsed_42 rfl (lv_at hl 0 rfl) ?_
      refine t_get (ci := 4) (lst := ft4 d 0) (C := RX4) (F := TX4) (N := 5) hx hb hts uX4 hown hkb hH t_a0 (hO.no t_a0 (by decide)) (fun _ h9 => h9) rfl rfl 0 (by decide) rfl kw_211 (fun _ h9 => h9) dX4_readUsed_43 (fun v9 h9 => ?_)
      obtain ⟨v43, rfl, t_v43⟩ := h9
      refine t_get (ci := 7) (lst := ft7 0 0) (C := RX7) (F := TX7) (N := 8) hx hb hts uX7 hown hkb hH t_v43 (hO.no t_v43 (by decide)) (fun _ h9 => ob7_ok h9) rfl rfl 5 (by decide) rfl kw_52 (fun _ h9 => h9) dX4_readUsed_46 (fun v9 h9 => ?_)
      obtain ⟨v46, rfl⟩ := h9
      refine lv_ishr hx hb dX4_readUsed_49 ?_
      refine lv_topi (fun v49 ev49 => ?_)
      have tv49 : 0 ≤ v49.toInt ∧ v49.toInt ≤ v39.toInt := by rw [ev49]; exact shr_b (by omega)
      refine lv_iconst (v := 1) hx hb dX4_readUsed_50 (by decide) ?_
      refine lv_iand hx hb dX4_readUsed_51 ?_
      refine lv_topi (fun v51 ev51 => ?_)
      have tv51 : 0 ≤ v51.toInt ∧ v51.toInt ≤ 1 := by rw [ev51]; exact and_r (by decide)
      refine lv_if_ne (tgt := 64) hx hb dX4_readUsed_52 (by decide) (fun c52 => ?_) (fun c52 => ?_)
      · skip
        have tc52 := f_ne (k := 0) (by decide) c52
        exact J64  _ _ _  hH hS (lv_sub hl [0] rfl)
      · skip
        have tc52 := f_eq (k := 0) (by decide) c52
        refine lv_aload_n hx hb dX4_readUsed_55 rfl (lv_at hl 0 rfl) ?_
        refine t_get (ci := 4) (lst := ft4 d 0) (C := RX4) (F := TX4) (N := 5) hx hb hts uX4 hown hkb hH t_a0 (hO.no t_a0 (by decide)) (fun _ h9 => h9) rfl rfl 0 (by decide) rfl kw_211 (fun _ h9 => h9) dX4_readUsed_56 (fun v9 h9 => ?_)
        obtain ⟨v56, rfl, t_v56⟩ := h9
        refine lv_iconst (v := 3) hx hb dX4_readUsed_59 (by decide) ?_
        refine tk_i hH hS hA (tr_V (n := 1) (As := [.int 3]) hx hb hml hown hts hkb hH hOX hks hE hS hA (s_Tok_refuse l D cs kf T O X v56 (3) t_v56 (hO.sub (by decide))) kw_579 kw_580 kw_581 kw_3 kw_582 (by decide +kernel) ⟨Nat.le_of_ble_eq_true rfl, Nat.le_of_ble_eq_true rfl⟩ (HT.recv (ci := 7) hkb hH t_v56 (hO.no t_v56 (by decide)) rfl) rfl rfl hl.1 (Nat.le_of_ble_eq_true rfl) dX4_readUsed_60 ⟨Nat.le_of_ble_eq_true rfl, Nat.le_of_ble_eq_true rfl⟩) (fun v60 u H locs hz9 hH hS => ?_)
        obtain ⟨rfl, l_v60, u_v60⟩ := hz9
        have hH : HT D cs A T O X H := hH
        refine W.widen (k := 0) (n := 0) (Nat.le_of_ble_eq_true rfl) (Nat.le_of_ble_eq_true rfl) ?_
        exact te_z hx hb hr hlocks (nar01 (by omega) (by omega)) hH hS (⟨rfl, by omega, by omega⟩) dX4_readUsed_63
set_option maxHeartbeats 4000000 in
set_option maxRecDepth 100000 in
theorem s_RD_readFlag (l : Launch) (D : va_G) (cs : CS) (kf : KF) (T : TF) (O : List Nat) (X : va_W) (a0 d : Nat) (x1 : Int32) (t_a0 : T a0 = some (14, d, 0)) (t_d : T d = some (19, 100, 0)) (l_x1 : 0 ≤ x1.toInt) (u_x1 : x1.toInt ≤ 13) (hO : okO T O [0, 1, 14, 17, 19]) : TK l D cs kf yX4_readFlag cX4_readFlag 3 (some (.boolean)) { frames := 6, cells := 0, slots := 0, locals := 133 } [.ref a0, .int x1] T O X (Ti D cs (fun r u => u = (T, O, X) ∧ 0 ≤ r.toInt ∧ r.toInt ≤ 1)) := by
  refine tk_of (by decide) (Nat.le_of_ble_eq_true rfl) (fun p e s m below meth c ls A H locs hx hb hr hml hown hts hlocks hnm hkb hH hS hA hOX hks hE hl => ?_)
  have hown : s.vm.findClass RX4 = some m.cls := hown
  have hl : lv_has ls 3 [(0, .ref a0), (1, .int x1)] := hl
  refine lv_iconst (v := 1) hx hb dX4_readFlag_0 (by decide) ?_
  refine lv_iload_n hx hb dX4_readFlag_1 rfl (lv_at hl 1 rfl) ?_
  refine lv_ishl hx hb dX4_readFlag_2 ?_
  refine lv_topi (fun v2 ev2 => ?_)
  have tv2 : 1 ≤ v2.toInt ∧ v2.toInt ≤ 8192 := by rw [ev2]; exact shl_b 13 (by decide) (by omega) (by omega)
  refine lv_istore_n (lv' := [(2, .int v2), (0, .ref a0), (1, .int x1)]) hx hb dX4_readFlag_3 rfl hl (by decide) rfl (fun ls hl => ?_)
  refine lv_aload_n hx hb dX4_readFlag_4 rfl (lv_at hl 1 rfl) ?_
  refine t_get (ci := 4) (lst := ft4 d 0) (C := RX4) (F := TX4) (N := 5) hx hb hts uX4 hown hkb hH t_a0 (hO.no t_a0 (by decide)) (fun _ h9 => h9) rfl rfl 0 (by decide) rfl kw_211 (fun _ h9 => h9) dX4_readFlag_5 (fun v9 h9 => ?_)
  obtain ⟨v5, rfl, t_v5⟩ := h9
  refine va_ldcS (q := kf.1 2) hx hb hown (hks ("FootholdWall$Reader", 141, "ice", 2) (by decide +kernel)) dX4_readFlag_8 ?_
  refine tk_i hH hS hA (tr_V (n := 1) (As := [.ref (kf.1 2)]) hx hb hml hown hts hkb hH hOX hks hE hS hA (s_Tok_isWord l D cs kf T O X v5 2 t_v5 (by decide) (hO.sub (by decide))) kw_550 kw_551 kw_552 kw_3 kw_553 (by decide +kernel) ⟨Nat.le_of_ble_eq_true rfl, Nat.le_of_ble_eq_true rfl⟩ (HT.recv (ci := 7) hkb hH t_v5 (hO.no t_v5 (by decide)) rfl) rfl rfl hl.1 (Nat.le_of_ble_eq_true rfl) dX4_readFlag_10 ⟨Nat.le_of_ble_eq_true rfl, Nat.le_of_ble_eq_true rfl⟩) (fun v10 u H locs hz9 hH hS => ?_)
  obtain ⟨rfl, l_v10, u_v10⟩ := hz9
  have hH : HT D cs A T O X H := hH
  refine W.widen (k := 0) (n := 0) (Nat.le_of_ble_eq_true rfl) (Nat.le_of_ble_eq_true rfl) ?_
  refine lv_if_eq (tgt := 61) hx hb dX4_readFlag_13 (by decide) (fun c13 => ?_) (fun c13 => ?_)
  · skip
    have tc13 := f_eq (k := 0) (by decide) c13
    refine lv_aload_n hx hb dX4_readFlag_61 rfl (lv_at hl 1 rfl) ?_
    refine t_get (ci := 4) (lst := ft4 d 0) (C := RX4) (F := TX4) (N := 5) hx hb hts uX4 hown hkb hH t_a0 (hO.no t_a0 (by decide)) (fun _ h9 => h9) rfl rfl 0 (by decide) rfl kw_211 (fun _ h9 => h9) dX4_readFlag_62 (fun v9 h9 => ?_)
    obtain ⟨v62, rfl, t_v62⟩ := h9
    refine va_ldcS (q := kf.1 3) hx hb hown (hks ("FootholdWall$Reader", 142, "start", 3) (by decide +kernel)) dX4_readFlag_65 ?_
    refine tk_i hH hS hA (tr_V (n := 1) (As := [.ref (kf.1 3)]) hx hb hml hown hts hkb hH hOX hks hE hS hA (s_Tok_isWord l D cs kf T O X v62 3 t_v62 (by decide) (hO.sub (by decide))) kw_550 kw_551 kw_552 kw_3 kw_553 (by decide +kernel) ⟨Nat.le_of_ble_eq_true rfl, Nat.le_of_ble_eq_true rfl⟩ (HT.recv (ci := 7) hkb hH t_v62 (hO.no t_v62 (by decide)) rfl) rfl rfl hl.1 (Nat.le_of_ble_eq_true rfl) dX4_readFlag_67 ⟨Nat.le_of_ble_eq_true rfl, Nat.le_of_ble_eq_true rfl⟩) (fun v67 u H locs hz9 hH hS => ?_)
    obtain ⟨rfl, l_v67, u_v67⟩ := hz9
    have hH : HT D cs A T O X H := hH
    refine W.widen (k := 0) (n := 0) (Nat.le_of_ble_eq_true rfl) (Nat.le_of_ble_eq_true rfl) ?_
    have J154 : ∀  (H : Heap) (locs : List Loc) (ls : Array Slot), HT D cs A T O X H → va_S A s.heap H locs → lv_has ls 3 [(0, .ref a0)] → W p l e { frames := 6, cells := 0, slots := 0, locals := 133 } s m [.ref a0, .int x1].toArray below meth c H locs 0 0 (MQ below (Ti D cs (fun r u => u = (T, O, X) ∧ 0 ≤ r.toInt ∧ r.toInt ≤ 1) A) [.ref a0, .int x1].toArray s 0 0 A) (F0 m 154 ls []) := by
      intro  H locs ls  hH hS hl
      refine lv_aload_n hx hb dX4_readFlag_154 rfl (lv_at hl 0 rfl) ?_
      refine t_get (ci := 4) (lst := ft4 d 0) (C := RX4) (F := TX4) (N := 5) hx hb hts uX4 hown hkb hH t_a0 (hO.no t_a0 (by decide)) (fun _ h9 => h9) rfl rfl 0 (by decide) rfl kw_211 (fun _ h9 => h9) dX4_readFlag_155 (fun v9 h9 => ?_)
      obtain ⟨v155, rfl, t_v155⟩ := h9
      refine tk_v hH hS hA (tr_V (n := 0) (As := []) hx hb hml hown hts hkb hH hOX hks hE hS hA (s_Tok_go l D cs kf T O X v155 t_v155 (hO.sub (by decide))) kw_583 kw_453 kw_454 kw_3 kw_455 (by decide +kernel) ⟨Nat.le_of_ble_eq_true rfl, Nat.le_of_ble_eq_true rfl⟩ (HT.recv (ci := 7) hkb hH t_v155 (hO.no t_v155 (by decide)) rfl) rfl rfl hl.1 (Nat.le_of_ble_eq_true rfl) dX4_readFlag_158 ⟨Nat.le_of_ble_eq_true rfl, Nat.le_of_ble_eq_true rfl⟩) (fun u H locs hz9 hH hS => ?_)
      have hz9 : u = (T, O, X) := hz9
      subst hz9
      have hH : HT D cs A T O X H := hH
      refine W.widen (k := 0) (n := 0) (Nat.le_of_ble_eq_true rfl) (Nat.le_of_ble_eq_true rfl) ?_
      refine lv_iconst (v := 1) hx hb dX4_readFlag_161 (by decide) ?_
      exact te_z hx hb hr hlocks (by rfl) hH hS (⟨rfl, by decide, by decide⟩) dX4_readFlag_162
    refine lv_if_eq (tgt := 89) hx hb dX4_readFlag_70 (by decide) (fun c70 => ?_) (fun c70 => ?_)
    · skip
      have tc70 := f_eq (k := 0) (by decide) c70
      refine lv_aload_n hx hb dX4_readFlag_89 rfl (lv_at hl 1 rfl) ?_
      refine t_get (ci := 4) (lst := ft4 d 0) (C := RX4) (F := TX4) (N := 5) hx hb hts uX4 hown hkb hH t_a0 (hO.no t_a0 (by decide)) (fun _ h9 => h9) rfl rfl 0 (by decide) rfl kw_211 (fun _ h9 => h9) dX4_readFlag_90 (fun v9 h9 => ?_)
      obtain ⟨v90, rfl, t_v90⟩ := h9
      refine va_ldcS (q := kf.1 4) hx hb hown (hks ("FootholdWall$Reader", 147, "top", 4) (by decide +kernel)) dX4_readFlag_93 ?_
      refine tk_i hH hS hA (tr_V (n := 1) (As := [.ref (kf.1 4)]) hx hb hml hown hts hkb hH hOX hks hE hS hA (s_Tok_isWord l D cs kf T O X v90 4 t_v90 (by decide) (hO.sub (by decide))) kw_550 kw_551 kw_552 kw_3 kw_553 (by decide +kernel) ⟨Nat.le_of_ble_eq_true rfl, Nat.le_of_ble_eq_true rfl⟩ (HT.recv (ci := 7) hkb hH t_v90 (hO.no t_v90 (by decide)) rfl) rfl rfl hl.1 (Nat.le_of_ble_eq_true rfl) dX4_readFlag_95 ⟨Nat.le_of_ble_eq_true rfl, Nat.le_of_ble_eq_true rfl⟩) (fun v95 u H locs hz9 hH hS => ?_)
      obtain ⟨rfl, l_v95, u_v95⟩ := hz9
      have hH : HT D cs A T O X H := hH
      refine W.widen (k := 0) (n := 0) (Nat.le_of_ble_eq_true rfl) (Nat.le_of_ble_eq_true rfl) ?_
      refine lv_if_eq (tgt := 117) hx hb dX4_readFlag_98 (by decide) (fun c98 => ?_) (fun c98 => ?_)
      · skip
        have tc98 := f_eq (k := 0) (by decide) c98
        refine lv_aload_n hx hb dX4_readFlag_117 rfl (lv_at hl 1 rfl) ?_
        refine t_get (ci := 4) (lst := ft4 d 0) (C := RX4) (F := TX4) (N := 5) hx hb hts uX4 hown hkb hH t_a0 (hO.no t_a0 (by decide)) (fun _ h9 => h9) rfl rfl 0 (by decide) rfl kw_211 (fun _ h9 => h9) dX4_readFlag_118 (fun v9 h9 => ?_)
        obtain ⟨v118, rfl, t_v118⟩ := h9
        refine va_ldcS (q := kf.1 5) hx hb hown (hks ("FootholdWall$Reader", 152, "wide", 5) (by decide +kernel)) dX4_readFlag_121 ?_
        refine tk_i hH hS hA (tr_V (n := 1) (As := [.ref (kf.1 5)]) hx hb hml hown hts hkb hH hOX hks hE hS hA (s_Tok_isWord l D cs kf T O X v118 5 t_v118 (by decide) (hO.sub (by decide))) kw_550 kw_551 kw_552 kw_3 kw_553 (by decide +kernel) ⟨Nat.le_of_ble_eq_true rfl, Nat.le_of_ble_eq_true rfl⟩ (HT.recv (ci := 7) hkb hH t_v118 (hO.no t_v118 (by decide)) rfl) rfl rfl hl.1 (Nat.le_of_ble_eq_true rfl) dX4_readFlag_123 ⟨Nat.le_of_ble_eq_true rfl, Nat.le_of_ble_eq_true rfl⟩) (fun v123 u H locs hz9 hH hS => ?_)
        obtain ⟨rfl, l_v123, u_v123⟩ := hz9
        have hH : HT D cs A T O X H := hH
        refine W.widen (k := 0) (n := 0) (Nat.le_of_ble_eq_true rfl) (Nat.le_of_ble_eq_true rfl) ?_
        refine lv_if_eq (tgt := 145) hx hb dX4_readFlag_126 (by decide) (fun c126 => ?_) (fun c126 => ?_)
        · skip
          have tc126 := f_eq (k := 0) (by decide) c126
          refine lv_aload_n hx hb dX4_readFlag_145 rfl (lv_at hl 1 rfl) ?_
          refine t_get (ci := 4) (lst := ft4 d 0) (C := RX4) (F := TX4) (N := 5) hx hb hts uX4 hown hkb hH t_a0 (hO.no t_a0 (by decide)) (fun _ h9 => h9) rfl rfl 0 (by decide) rfl kw_211 (fun _ h9 => h9) dX4_readFlag_146 (fun v9 h9 => ?_)
          obtain ⟨v146, rfl, t_v146⟩ := h9
          refine lv_iconst (v := 2) hx hb dX4_readFlag_149 (by decide) ?_
          refine tk_i hH hS hA (tr_V (n := 1) (As := [.int 2]) hx hb hml hown hts hkb hH hOX hks hE hS hA (s_Tok_refuse l D cs kf T O X v146 (2) t_v146 (hO.sub (by decide))) kw_579 kw_580 kw_581 kw_3 kw_582 (by decide +kernel) ⟨Nat.le_of_ble_eq_true rfl, Nat.le_of_ble_eq_true rfl⟩ (HT.recv (ci := 7) hkb hH t_v146 (hO.no t_v146 (by decide)) rfl) rfl rfl hl.1 (Nat.le_of_ble_eq_true rfl) dX4_readFlag_150 ⟨Nat.le_of_ble_eq_true rfl, Nat.le_of_ble_eq_true rfl⟩) (fun v150 u H locs hz9 hH hS => ?_)
          obtain ⟨rfl, l_v150, u_v150⟩ := hz9
          have hH : HT D cs A T O X H := hH
          refine W.widen (k := 0) (n := 0) (Nat.le_of_ble_eq_true rfl) (Nat.le_of_ble_eq_true rfl) ?_
          exact te_z hx hb hr hlocks (nar01 (by omega) (by omega)) hH hS (⟨rfl, by omega, by omega⟩) dX4_readFlag_153
        · skip
          have tc126 := f_ne (k := 0) (by decide) c126
          refine lv_aload_n hx hb dX4_readFlag_129 rfl (lv_at hl 1 rfl) ?_
          refine t_get (ci := 4) (lst := ft4 d 0) (C := RX4) (F := TX4) (N := 5) hx hb hts uX4 hown hkb hH t_a0 (hO.no t_a0 (by decide)) (fun _ h9 => h9) rfl rfl 2 (by decide) rfl kw_214 (fun _ h9 => h9) dX4_readFlag_130 (fun v9 h9 => ?_)
          have h9 : v9 = .ref d := h9
          subst h9
          refine lv_dup hx hb dX4_readFlag_133 rfl ?_
          refine t_get (ci := 9) (lst := ft9d 100 0) (C := RX9) (F := TX9) (N := 14) hx hb hts uX9 hown hkb hH t_d (hO.no t_d (by decide)) (fun fs => (ob9d fs).mp) rfl rfl 5 (by decide) rfl kw_131 (fun _ h9 => h9) dX4_readFlag_134 (fun v9 h9 => ?_)
          obtain ⟨v134, rfl, l_v134, u_v134⟩ := h9
          refine lv_iload_n hx hb dX4_readFlag_137 rfl (lv_at hl 0 rfl) ?_
          refine lv_ior hx hb dX4_readFlag_138 ?_
          refine lv_topi (fun v138 ev138 => ?_)
          have tv138 : 0 ≤ v138.toInt ∧ v138.toInt < 16384 := by rw [ev138]; exact or_b 14 (by decide) (by omega) (by omega) (by omega) (by omega)
          refine t_put (ci := 9) (lst := ft9d 100 0) (v := .int v138) (ty := tyX9 5) (C := RX9) (F := TX9) (N := 14) hx hb hts uX9 tyX9 tyX9_ok nmX9 hown hkb hH hS t_d (hO.no t_d (by decide)) (fun fs => (ob9d fs)) rfl rfl 5 (by decide) rfl (⟨_, rfl, by omega, by omega⟩) kw_131 (fun _ h9 => h9) rfl (tyX9_ok 5 (by decide)) rfl rfl dX4_readFlag_139 (fun H locs hH hS => ?_)
          refine lv_goto (tgt := 154) hx hb dX4_readFlag_142 (by decide) ?_
          exact J154  _ _ _  hH hS (lv_sub hl [1] rfl)
      · skip
        have tc98 := f_ne (k := 0) (by decide) c98
        refine lv_aload_n hx hb dX4_readFlag_101 rfl (lv_at hl 1 rfl) ?_
        refine t_get (ci := 4) (lst := ft4 d 0) (C := RX4) (F := TX4) (N := 5) hx hb hts uX4 hown hkb hH t_a0 (hO.no t_a0 (by decide)) (fun _ h9 => h9) rfl rfl 2 (by decide) rfl kw_214 (fun _ h9 => h9) dX4_readFlag_102 (fun v9 h9 => ?_)
        have h9 : v9 = .ref d := h9
        subst h9
        refine lv_dup hx hb dX4_readFlag_105 rfl ?_
        refine t_get (ci := 9) (lst := ft9d 100 0) (C := RX9) (F := TX9) (N := 14) hx hb hts uX9 hown hkb hH t_d (hO.no t_d (by decide)) (fun fs => (ob9d fs).mp) rfl rfl 4 (by decide) rfl kw_129 (fun _ h9 => h9) dX4_readFlag_106 (fun v9 h9 => ?_)
        obtain ⟨v106, rfl, l_v106, u_v106⟩ := h9
        refine lv_iload_n hx hb dX4_readFlag_109 rfl (lv_at hl 0 rfl) ?_
        refine lv_ior hx hb dX4_readFlag_110 ?_
        refine lv_topi (fun v110 ev110 => ?_)
        have tv110 : 0 ≤ v110.toInt ∧ v110.toInt < 16384 := by rw [ev110]; exact or_b 14 (by decide) (by omega) (by omega) (by omega) (by omega)
        refine t_put (ci := 9) (lst := ft9d 100 0) (v := .int v110) (ty := tyX9 4) (C := RX9) (F := TX9) (N := 14) hx hb hts uX9 tyX9 tyX9_ok nmX9 hown hkb hH hS t_d (hO.no t_d (by decide)) (fun fs => (ob9d fs)) rfl rfl 4 (by decide) rfl (⟨_, rfl, by omega, by omega⟩) kw_129 (fun _ h9 => h9) rfl (tyX9_ok 4 (by decide)) rfl rfl dX4_readFlag_111 (fun H locs hH hS => ?_)
        refine lv_goto (tgt := 154) hx hb dX4_readFlag_114 (by decide) ?_
        exact J154  _ _ _  hH hS (lv_sub hl [1] rfl)
    · skip
      have tc70 := f_ne (k := 0) (by decide) c70
      refine lv_aload_n hx hb dX4_readFlag_73 rfl (lv_at hl 1 rfl) ?_
      refine t_get (ci := 4) (lst := ft4 d 0) (C := RX4) (F := TX4) (N := 5) hx hb hts uX4 hown hkb hH t_a0 (hO.no t_a0 (by decide)) (fun _ h9 => h9) rfl rfl 2 (by decide) rfl kw_214 (fun _ h9 => h9) dX4_readFlag_74 (fun v9 h9 => ?_)
      have h9 : v9 = .ref d := h9
      subst h9
      refine lv_dup hx hb dX4_readFlag_77 rfl ?_
      refine t_get (ci := 9) (lst := ft9d 100 0) (C := RX9) (F := TX9) (N := 14) hx hb hts uX9 hown hkb hH t_d (hO.no t_d (by decide)) (fun fs => (ob9d fs).mp) rfl rfl 3 (by decide) rfl kw_121 (fun _ h9 => h9) dX4_readFlag_78 (fun v9 h9 => ?_)
      obtain ⟨v78, rfl, l_v78, u_v78⟩ := h9
      refine lv_iload_n hx hb dX4_readFlag_81 rfl (lv_at hl 0 rfl) ?_
      refine lv_ior hx hb dX4_readFlag_82 ?_
      refine lv_topi (fun v82 ev82 => ?_)
      have tv82 : 0 ≤ v82.toInt ∧ v82.toInt < 16384 := by rw [ev82]; exact or_b 14 (by decide) (by omega) (by omega) (by omega) (by omega)
      refine t_put (ci := 9) (lst := ft9d 100 0) (v := .int v82) (ty := tyX9 3) (C := RX9) (F := TX9) (N := 14) hx hb hts uX9 tyX9 tyX9_ok nmX9 hown hkb hH hS t_d (hO.no t_d (by decide)) (fun fs => (ob9d fs)) rfl rfl 3 (by decide) rfl (⟨_, rfl, by omega, by omega⟩) kw_121 (fun _ h9 => h9) rfl (tyX9_ok 3 (by decide)) rfl rfl dX4_readFlag_83 (fun H locs hH hS => ?_)
      refine lv_goto (tgt := 154) hx hb dX4_readFlag_86 (by decide) ?_
      exact J154  _ _ _  hH hS (lv_sub hl [1] rfl)
  · skip
    have tc13 := f_ne (k := 0) (by decide) c13
    refine lv_aload_n hx hb dX4_readFlag_16 rfl (lv_at hl 1 rfl) ?_
    refine t_get (ci := 4) (lst := ft4 d 0) (C := RX4) (F := TX4) (N := 5) hx hb hts uX4 hown hkb hH t_a0 (hO.no t_a0 (by decide)) (fun _ h9 => h9) rfl rfl 0 (by decide) rfl kw_211 (fun _ h9 => h9) dX4_readFlag_17 (fun v9 h9 => ?_)
    obtain ⟨v17, rfl, t_v17⟩ := h9
    refine tk_v hH hS hA (tr_V (n := 0) (As := []) hx hb hml hown hts hkb hH hOX hks hE hS hA (s_Tok_go l D cs kf T O X v17 t_v17 (hO.sub (by decide))) kw_583 kw_453 kw_454 kw_3 kw_455 (by decide +kernel) ⟨Nat.le_of_ble_eq_true rfl, Nat.le_of_ble_eq_true rfl⟩ (HT.recv (ci := 7) hkb hH t_v17 (hO.no t_v17 (by decide)) rfl) rfl rfl hl.1 (Nat.le_of_ble_eq_true rfl) dX4_readFlag_20 ⟨Nat.le_of_ble_eq_true rfl, Nat.le_of_ble_eq_true rfl⟩) (fun u H locs hz9 hH hS => ?_)
    have hz9 : u = (T, O, X) := hz9
    subst hz9
    have hH : HT D cs A T O X H := hH
    refine W.widen (k := 0) (n := 0) (Nat.le_of_ble_eq_true rfl) (Nat.le_of_ble_eq_true rfl) ?_
    refine lv_aload_n hx hb dX4_readFlag_23 rfl (lv_at hl 1 rfl) ?_
    refine t_get (ci := 4) (lst := ft4 d 0) (C := RX4) (F := TX4) (N := 5) hx hb hts uX4 hown hkb hH t_a0 (hO.no t_a0 (by decide)) (fun _ h9 => h9) rfl rfl 2 (by decide) rfl kw_214 (fun _ h9 => h9) dX4_readFlag_24 (fun v9 h9 => ?_)
    have h9 : v9 = .ref d := h9
    subst h9
    refine t_get (ci := 9) (lst := ft9d 100 0) (C := RX9) (F := TX9) (N := 14) hx hb hts uX9 hown hkb hH t_d (hO.no t_d (by decide)) (fun fs => (ob9d fs).mp) rfl rfl 8 (by decide) rfl kw_139 (fun _ h9 => h9) dX4_readFlag_27 (fun v9 h9 => ?_)
    obtain ⟨v27, rfl, t_v27⟩ := h9
    refine lv_iload_n hx hb dX4_readFlag_30 rfl (lv_at hl 2 rfl) ?_
    refine lv_aload_n hx hb dX4_readFlag_31 rfl (lv_at hl 1 rfl) ?_
    refine t_get (ci := 4) (lst := ft4 d 0) (C := RX4) (F := TX4) (N := 5) hx hb hts uX4 hown hkb hH t_a0 (hO.no t_a0 (by decide)) (fun _ h9 => h9) rfl rfl 0 (by decide) rfl kw_211 (fun _ h9 => h9) dX4_readFlag_32 (fun v9 h9 => ?_)
    obtain ⟨v32, rfl, t_v32⟩ := h9
    refine lv_sipush (v := 999) hx hb dX4_readFlag_35 (by decide) ?_
    refine tk_i hH hS hA (tr_V (n := 1) (As := [.int 999]) hx hb hml hown hts hkb hH hOX hks hE hS hA (s_Tok_takeNumber l D cs kf T O X v32 (999) t_v32 (hO.sub (by decide))) kw_584 kw_585 kw_586 kw_3 kw_587 (by decide +kernel) ⟨Nat.le_of_ble_eq_true rfl, Nat.le_of_ble_eq_true rfl⟩ (HT.recv (ci := 7) hkb hH t_v32 (hO.no t_v32 (by decide)) rfl) rfl rfl hl.1 (Nat.le_of_ble_eq_true rfl) dX4_readFlag_38 ⟨Nat.le_of_ble_eq_true rfl, Nat.le_of_ble_eq_true rfl⟩) (fun v38 u H locs hz9 hH hS => ?_)
    have hz9 : u = (T, O, X) := hz9
    subst hz9
    have hH : HT D cs A T O X H := hH
    refine W.widen (k := 0) (n := 0) (Nat.le_of_ble_eq_true rfl) (Nat.le_of_ble_eq_true rfl) ?_
    refine t_ist hx hb hkb hH hS t_v27 (hO.no t_v27 (by decide)) (by omega) (by omega) (cp_0 _) dX4_readFlag_41 (fun H locs hH hS => ?_)
    refine lv_aload_n hx hb dX4_readFlag_42 rfl (lv_at hl 1 rfl) ?_
    refine t_get (ci := 4) (lst := ft4 d 0) (C := RX4) (F := TX4) (N := 5) hx hb hts uX4 hown hkb hH t_a0 (hO.no t_a0 (by decide)) (fun _ h9 => h9) rfl rfl 2 (by decide) rfl kw_214 (fun _ h9 => h9) dX4_readFlag_43 (fun v9 h9 => ?_)
    have h9 : v9 = .ref d := h9
    subst h9
    refine t_get (ci := 9) (lst := ft9d 100 0) (C := RX9) (F := TX9) (N := 14) hx hb hts uX9 hown hkb hH t_d (hO.no t_d (by decide)) (fun fs => (ob9d fs).mp) rfl rfl 8 (by decide) rfl kw_139 (fun _ h9 => h9) dX4_readFlag_46 (fun v9 h9 => ?_)
    obtain ⟨v46, rfl, t_v46⟩ := h9
    refine lv_iload_n hx hb dX4_readFlag_49 rfl (lv_at hl 2 rfl) ?_
    refine t_ild hx hb hkb hH t_v46 (hO.no t_v46 (by decide)) (by omega) (by omega) dX4_readFlag_50 (fun v50 h9 => ?_)
    refine lv_iconst (v := (-1)) hx hb dX4_readFlag_51 (by decide) ?_
    have J60 : ∀ (k60_0 : Int32) (H : Heap) (locs : List Loc) (ls : Array Slot), (0 ≤ k60_0.toInt) → (k60_0.toInt ≤ 1) → HT D cs A T O X H → va_S A s.heap H locs → lv_has ls 3 [] → W p l e { frames := 6, cells := 0, slots := 0, locals := 133 } s m [.ref a0, .int x1].toArray below meth c H locs 0 0 (MQ below (Ti D cs (fun r u => u = (T, O, X) ∧ 0 ≤ r.toInt ∧ r.toInt ≤ 1) A) [.ref a0, .int x1].toArray s 0 0 A) (F0 m 60 ls [.int k60_0]) := by
      intro k60_0 H locs ls l_k60_0 u_k60_0 hH hS hl
      exact te_z hx hb hr hlocks (nar01 (by omega) (by omega)) hH hS (⟨rfl, by omega, by omega⟩) dX4_readFlag_60
    refine lv_icmp_eq (tgt := 59) hx hb dX4_readFlag_52 (by decide) (fun c52 => ?_) (fun c52 => ?_)
    · skip
      have tc52 := f_eq (k := -1) (by decide) c52
      refine lv_iconst (v := 0) hx hb dX4_readFlag_59 (by decide) ?_
      exact J60 0 _ _ _ (by decide) (by decide) hH hS (lv_sub hl [] rfl)
    · skip
      have tc52 := f_ne (k := -1) (by decide) c52
      refine lv_iconst (v := 1) hx hb dX4_readFlag_55 (by decide) ?_
      refine lv_goto (tgt := 60) hx hb dX4_readFlag_56 (by decide) ?_
      exact J60 1 _ _ _ (by decide) (by decide) hH hS (lv_sub hl [] rfl)
set_option maxHeartbeats 4000000 in
set_option maxRecDepth 100000 in
theorem s_RD_readHold (l : Launch) (D : va_G) (cs : CS) (kf : KF) (T : TF) (O : List Nat) (X : va_W) (a0 d : Nat) (t_a0 : T a0 = some (14, d, 0)) (t_d : T d = some (19, 100, 0)) (hO : okO T O [0, 1, 14, 17, 19]) : TK l D cs kf yX4_readHold cX4_readHold 5 (some (.boolean)) { frames := 7, cells := 0, slots := 0, locals := 155 } [.ref a0] T O X (Ti D cs (fun r u => u = (T, O, X) ∧ 0 ≤ r.toInt ∧ r.toInt ≤ 1)) := by
  refine tk_of (by decide) (Nat.le_of_ble_eq_true rfl) (fun p e s m below meth c ls A H locs hx hb hr hml hown hts hlocks hnm hkb hH hS hA hOX hks hE hl => ?_)
  have hown : s.vm.findClass RX4 = some m.cls := hown
  have hl : lv_has ls 5 [(0, .ref a0)] := hl
  have hO0 := hO
  obtain ⟨fs9, ho9, hH⟩ := hH.take t_d (hO0.no t_d (by decide))
  have hp0 : okL T (ft9d 100 0) fs9 := (fun fs => (ob9d fs).mp) _ ho9
  clear ho9
  obtain ⟨v9, fs9, rfl, h9, hp1⟩ := okL_i hp0
  obtain ⟨q0_0, rfl, l_q0_0, u_q0_0⟩ := h9
  obtain ⟨v9, fs9, rfl, h9, hp2⟩ := okL_i hp1
  obtain ⟨q0_1, rfl, l_q0_1, u_q0_1⟩ := h9
  obtain ⟨v9, fs9, rfl, h9, hp3⟩ := okL_i hp2
  obtain ⟨q0_2, rfl⟩ := h9
  obtain ⟨v9, fs9, rfl, h9, hp4⟩ := okL_i hp3
  obtain ⟨q0_3, rfl, l_q0_3, u_q0_3⟩ := h9
  obtain ⟨v9, fs9, rfl, h9, hp5⟩ := okL_i hp4
  obtain ⟨q0_4, rfl, l_q0_4, u_q0_4⟩ := h9
  obtain ⟨v9, fs9, rfl, h9, hp6⟩ := okL_i hp5
  obtain ⟨q0_5, rfl, l_q0_5, u_q0_5⟩ := h9
  obtain ⟨v9, fs9, rfl, h9, hp7⟩ := okL_i hp6
  obtain ⟨q0_6, rfl, t_q0_6⟩ := h9
  obtain ⟨v9, fs9, rfl, h9, hp8⟩ := okL_i hp7
  obtain ⟨q0_7, rfl, t_q0_7⟩ := h9
  obtain ⟨v9, fs9, rfl, h9, hp9⟩ := okL_i hp8
  obtain ⟨q0_8, rfl, t_q0_8⟩ := h9
  obtain ⟨v9, fs9, rfl, h9, hp10⟩ := okL_i hp9
  obtain ⟨q0_9, rfl, t_q0_9⟩ := h9
  obtain ⟨v9, fs9, rfl, h9, hp11⟩ := okL_i hp10
  obtain ⟨q0_10, rfl, t_q0_10⟩ := h9
  obtain ⟨v9, fs9, rfl, h9, hp12⟩ := okL_i hp11
  have h9 : v9 = .null := h9
  subst h9
  obtain ⟨v9, fs9, rfl, h9, hp13⟩ := okL_i hp12
  obtain ⟨q0_12, rfl, l_q0_12, u_q0_12⟩ := h9
  obtain ⟨v9, fs9, rfl, h9, hp14⟩ := okL_i hp13
  obtain ⟨q0_13, rfl, l_q0_13, u_q0_13⟩ := h9
  have hpz := okL_z hp14
  subst hpz
  have hH : HT D cs A T (d :: O) ((d, .inr (9, [.int q0_0, .int q0_1, .int q0_2, .int q0_3, .int q0_4, .int q0_5, .ref q0_6, .ref q0_7, .ref q0_8, .ref q0_9, .ref q0_10, .null, .int q0_12, .int q0_13])) :: X) H := hH
  have hO : okO T (d :: O) [0, 1, 14, 17] := okO.cons (hO0.sub (by decide)) t_d (by decide)
  refine lv_aload_n hx hb dX4_readHold_0 rfl (lv_at hl 0 rfl) ?_
  refine t_get (ci := 4) (lst := ft4 d 0) (C := RX4) (F := TX4) (N := 5) hx hb hts uX4 hown hkb hH t_a0 (hO.no t_a0 (by decide)) (fun _ h9 => h9) rfl rfl 2 (by decide) rfl kw_214 (fun _ h9 => h9) dX4_readHold_1 (fun v9 h9 => ?_)
  have h9 : v9 = .ref d := h9
  subst h9
  refine x_get (ci := 9) (C := RX9) (F := TX9) (N := 14) (v := .int q0_0) hx hb hts uX9 hown hkb hH rfl 0 (by decide) rfl kw_108 (fun _ h9 => h9) dX4_readHold_4 ?_
  refine lv_istore_n (lv' := [(1, .int q0_0), (0, .ref a0)]) hx hb dX4_readHold_7 rfl hl (by decide) rfl (fun ls hl => ?_)
  refine lv_iload_n hx hb dX4_readHold_8 rfl (lv_at hl 0 rfl) ?_
  refine lv_bipush (v := 14) hx hb dX4_readHold_9 (by decide) ?_
  refine lv_icmp_lt (tgt := 23) hx hb dX4_readHold_11 (by decide) (fun c11 => ?_) (fun c11 => ?_)
  · skip
    have tc11 := f_lt (k := 14) (by decide) c11
    refine lv_aload_n hx hb dX4_readHold_23 rfl (lv_at hl 1 rfl) ?_
    refine t_get (ci := 4) (lst := ft4 d 0) (C := RX4) (F := TX4) (N := 5) hx hb hts uX4 hown hkb hH t_a0 (hO.no t_a0 (by decide)) (fun _ h9 => h9) rfl rfl 0 (by decide) rfl kw_211 (fun _ h9 => h9) dX4_readHold_24 (fun v9 h9 => ?_)
    obtain ⟨v24, rfl, t_v24⟩ := h9
    refine tk_v hH hS hA (tr_V (n := 0) (As := []) hx hb hml hown hts hkb hH (ox_c hOX) hks hE hS hA (s_Tok_go l D cs kf T (d :: O) ((d, .inr (9, [.int q0_0, .int q0_1, .int q0_2, .int q0_3, .int q0_4, .int q0_5, .ref q0_6, .ref q0_7, .ref q0_8, .ref q0_9, .ref q0_10, .null, .int q0_12, .int q0_13])) :: X) v24 t_v24 (hO.sub (by decide))) kw_583 kw_453 kw_454 kw_3 kw_455 (by decide +kernel) ⟨Nat.le_of_ble_eq_true rfl, Nat.le_of_ble_eq_true rfl⟩ (HT.recv (ci := 7) hkb hH t_v24 (hO.no t_v24 (by decide)) rfl) rfl rfl hl.1 (Nat.le_of_ble_eq_true rfl) dX4_readHold_27 ⟨Nat.le_of_ble_eq_true rfl, Nat.le_of_ble_eq_true rfl⟩) (fun u H locs hz9 hH hS => ?_)
    have hz9 : u = (T, d :: O, (d, .inr (9, [.int q0_0, .int q0_1, .int q0_2, .int q0_3, .int q0_4, .int q0_5, .ref q0_6, .ref q0_7, .ref q0_8, .ref q0_9, .ref q0_10, .null, .int q0_12, .int q0_13])) :: X) := hz9
    subst hz9
    have hH : HT D cs A T (d :: O) ((d, .inr (9, [.int q0_0, .int q0_1, .int q0_2, .int q0_3, .int q0_4, .int q0_5, .ref q0_6, .ref q0_7, .ref q0_8, .ref q0_9, .ref q0_10, .null, .int q0_12, .int q0_13])) :: X) H := hH
    refine W.widen (k := 0) (n := 0) (Nat.le_of_ble_eq_true rfl) (Nat.le_of_ble_eq_true rfl) ?_
    refine lv_aload_n hx hb dX4_readHold_30 rfl (lv_at hl 1 rfl) ?_
    refine t_get (ci := 4) (lst := ft4 d 0) (C := RX4) (F := TX4) (N := 5) hx hb hts uX4 hown hkb hH t_a0 (hO.no t_a0 (by decide)) (fun _ h9 => h9) rfl rfl 0 (by decide) rfl kw_211 (fun _ h9 => h9) dX4_readHold_31 (fun v9 h9 => ?_)
    obtain ⟨v31, rfl, t_v31⟩ := h9
    refine lv_bipush (v := 99) hx hb dX4_readHold_34 (by decide) ?_
    refine tk_i hH hS hA (tr_V (n := 1) (As := [.int 99]) hx hb hml hown hts hkb hH (ox_c hOX) hks hE hS hA (s_Tok_takeNumber l D cs kf T (d :: O) ((d, .inr (9, [.int q0_0, .int q0_1, .int q0_2, .int q0_3, .int q0_4, .int q0_5, .ref q0_6, .ref q0_7, .ref q0_8, .ref q0_9, .ref q0_10, .null, .int q0_12, .int q0_13])) :: X) v31 (99) t_v31 (hO.sub (by decide))) kw_584 kw_585 kw_586 kw_3 kw_587 (by decide +kernel) ⟨Nat.le_of_ble_eq_true rfl, Nat.le_of_ble_eq_true rfl⟩ (HT.recv (ci := 7) hkb hH t_v31 (hO.no t_v31 (by decide)) rfl) rfl rfl hl.1 (Nat.le_of_ble_eq_true rfl) dX4_readHold_36 ⟨Nat.le_of_ble_eq_true rfl, Nat.le_of_ble_eq_true rfl⟩) (fun v36 u H locs hz9 hH hS => ?_)
    have hz9 : u = (T, d :: O, (d, .inr (9, [.int q0_0, .int q0_1, .int q0_2, .int q0_3, .int q0_4, .int q0_5, .ref q0_6, .ref q0_7, .ref q0_8, .ref q0_9, .ref q0_10, .null, .int q0_12, .int q0_13])) :: X) := hz9
    subst hz9
    have hH : HT D cs A T (d :: O) ((d, .inr (9, [.int q0_0, .int q0_1, .int q0_2, .int q0_3, .int q0_4, .int q0_5, .ref q0_6, .ref q0_7, .ref q0_8, .ref q0_9, .ref q0_10, .null, .int q0_12, .int q0_13])) :: X) H := hH
    refine W.widen (k := 0) (n := 0) (Nat.le_of_ble_eq_true rfl) (Nat.le_of_ble_eq_true rfl) ?_
    refine lv_istore_n (lv' := [(2, .int v36), (1, .int q0_0), (0, .ref a0)]) hx hb dX4_readHold_39 rfl hl (by decide) rfl (fun ls hl => ?_)
    refine lv_iload_n hx hb dX4_readHold_40 rfl (lv_at hl 0 rfl) ?_
    refine lv_iconst (v := (-1)) hx hb dX4_readHold_41 (by decide) ?_
    refine lv_icmp_ne (tgt := 47) hx hb dX4_readHold_42 (by decide) (fun c42 => ?_) (fun c42 => ?_)
    · skip
      have tc42 := f_ne (k := -1) (by decide) c42
      refine lv_aload_n hx hb dX4_readHold_47 rfl (lv_at hl 2 rfl) ?_
      refine t_get (ci := 4) (lst := ft4 d 0) (C := RX4) (F := TX4) (N := 5) hx hb hts uX4 hown hkb hH t_a0 (hO.no t_a0 (by decide)) (fun _ h9 => h9) rfl rfl 0 (by decide) rfl kw_211 (fun _ h9 => h9) dX4_readHold_48 (fun v9 h9 => ?_)
      obtain ⟨v48, rfl, t_v48⟩ := h9
      refine lv_bipush (v := 99) hx hb dX4_readHold_51 (by decide) ?_
      refine tk_i hH hS hA (tr_V (n := 1) (As := [.int 99]) hx hb hml hown hts hkb hH (ox_c hOX) hks hE hS hA (s_Tok_takeNumber l D cs kf T (d :: O) ((d, .inr (9, [.int q0_0, .int q0_1, .int q0_2, .int q0_3, .int q0_4, .int q0_5, .ref q0_6, .ref q0_7, .ref q0_8, .ref q0_9, .ref q0_10, .null, .int q0_12, .int q0_13])) :: X) v48 (99) t_v48 (hO.sub (by decide))) kw_584 kw_585 kw_586 kw_3 kw_587 (by decide +kernel) ⟨Nat.le_of_ble_eq_true rfl, Nat.le_of_ble_eq_true rfl⟩ (HT.recv (ci := 7) hkb hH t_v48 (hO.no t_v48 (by decide)) rfl) rfl rfl hl.1 (Nat.le_of_ble_eq_true rfl) dX4_readHold_53 ⟨Nat.le_of_ble_eq_true rfl, Nat.le_of_ble_eq_true rfl⟩) (fun v53 u H locs hz9 hH hS => ?_)
      have hz9 : u = (T, d :: O, (d, .inr (9, [.int q0_0, .int q0_1, .int q0_2, .int q0_3, .int q0_4, .int q0_5, .ref q0_6, .ref q0_7, .ref q0_8, .ref q0_9, .ref q0_10, .null, .int q0_12, .int q0_13])) :: X) := hz9
      subst hz9
      have hH : HT D cs A T (d :: O) ((d, .inr (9, [.int q0_0, .int q0_1, .int q0_2, .int q0_3, .int q0_4, .int q0_5, .ref q0_6, .ref q0_7, .ref q0_8, .ref q0_9, .ref q0_10, .null, .int q0_12, .int q0_13])) :: X) H := hH
      refine W.widen (k := 0) (n := 0) (Nat.le_of_ble_eq_true rfl) (Nat.le_of_ble_eq_true rfl) ?_
      refine lv_istore_n (lv' := [(3, .int v53), (2, .int v36), (1, .int q0_0), (0, .ref a0)]) hx hb dX4_readHold_56 rfl hl (by decide) rfl (fun ls hl => ?_)
      refine lv_iload_n hx hb dX4_readHold_57 rfl (lv_at hl 0 rfl) ?_
      refine lv_iconst (v := (-1)) hx hb dX4_readHold_58 (by decide) ?_
      refine lv_icmp_ne (tgt := 64) hx hb dX4_readHold_59 (by decide) (fun c59 => ?_) (fun c59 => ?_)
      · skip
        have tc59 := f_ne (k := -1) (by decide) c59
        refine lv_aload_n hx hb dX4_readHold_64 rfl (lv_at hl 3 rfl) ?_
        refine t_get (ci := 4) (lst := ft4 d 0) (C := RX4) (F := TX4) (N := 5) hx hb hts uX4 hown hkb hH t_a0 (hO.no t_a0 (by decide)) (fun _ h9 => h9) rfl rfl 2 (by decide) rfl kw_214 (fun _ h9 => h9) dX4_readHold_65 (fun v9 h9 => ?_)
        have h9 : v9 = .ref d := h9
        subst h9
        refine x_get (ci := 9) (C := RX9) (F := TX9) (N := 14) (v := .ref q0_6) hx hb hts uX9 hown hkb hH rfl 6 (by decide) rfl kw_133 (fun _ h9 => h9) dX4_readHold_68 ?_
        refine lv_iload_n hx hb dX4_readHold_71 rfl (lv_at hl 2 rfl) ?_
        refine lv_iload_n hx hb dX4_readHold_72 rfl (lv_at hl 1 rfl) ?_
        refine t_ist hx hb hkb hH hS t_q0_6 (hO.no t_q0_6 (by decide)) (by omega) (by omega) (cp_0 _) dX4_readHold_73 (fun H locs hH hS => ?_)
        refine lv_aload_n hx hb dX4_readHold_74 rfl (lv_at hl 3 rfl) ?_
        refine t_get (ci := 4) (lst := ft4 d 0) (C := RX4) (F := TX4) (N := 5) hx hb hts uX4 hown hkb hH t_a0 (hO.no t_a0 (by decide)) (fun _ h9 => h9) rfl rfl 2 (by decide) rfl kw_214 (fun _ h9 => h9) dX4_readHold_75 (fun v9 h9 => ?_)
        have h9 : v9 = .ref d := h9
        subst h9
        refine x_get (ci := 9) (C := RX9) (F := TX9) (N := 14) (v := .ref q0_7) hx hb hts uX9 hown hkb hH rfl 7 (by decide) rfl kw_136 (fun _ h9 => h9) dX4_readHold_78 ?_
        refine lv_iload_n hx hb dX4_readHold_81 rfl (lv_at hl 2 rfl) ?_
        refine lv_iload_n hx hb dX4_readHold_82 rfl (lv_at hl 0 rfl) ?_
        refine t_ist hx hb hkb hH hS t_q0_7 (hO.no t_q0_7 (by decide)) (by omega) (by omega) (cp_0 _) dX4_readHold_83 (fun H locs hH hS => ?_)
        refine lv_aload_n hx hb dX4_readHold_84 rfl (lv_at hl 3 rfl) ?_
        refine t_get (ci := 4) (lst := ft4 d 0) (C := RX4) (F := TX4) (N := 5) hx hb hts uX4 hown hkb hH t_a0 (hO.no t_a0 (by decide)) (fun _ h9 => h9) rfl rfl 2 (by decide) rfl kw_214 (fun _ h9 => h9) dX4_readHold_85 (fun v9 h9 => ?_)
        have h9 : v9 = .ref d := h9
        subst h9
        refine x_get (ci := 9) (C := RX9) (F := TX9) (N := 14) (v := .ref q0_8) hx hb hts uX9 hown hkb hH rfl 8 (by decide) rfl kw_139 (fun _ h9 => h9) dX4_readHold_88 ?_
        refine lv_iload_n hx hb dX4_readHold_91 rfl (lv_at hl 2 rfl) ?_
        refine lv_iconst (v := 0) hx hb dX4_readHold_92 (by decide) ?_
        refine t_ist hx hb hkb hH hS t_q0_8 (hO.no t_q0_8 (by decide)) (by omega) (by omega) (cp_0 _) dX4_readHold_93 (fun H locs hH hS => ?_)
        refine lv_aload_n hx hb dX4_readHold_94 rfl (lv_at hl 3 rfl) ?_
        refine t_get (ci := 4) (lst := ft4 d 0) (C := RX4) (F := TX4) (N := 5) hx hb hts uX4 hown hkb hH t_a0 (hO.no t_a0 (by decide)) (fun _ h9 => h9) rfl rfl 2 (by decide) rfl kw_214 (fun _ h9 => h9) dX4_readHold_95 (fun v9 h9 => ?_)
        have h9 : v9 = .ref d := h9
        subst h9
        refine lv_dup hx hb dX4_readHold_98 rfl ?_
        refine x_get (ci := 9) (C := RX9) (F := TX9) (N := 14) (v := .int q0_0) hx hb hts uX9 hown hkb hH rfl 0 (by decide) rfl kw_108 (fun _ h9 => h9) dX4_readHold_99 ?_
        refine lv_iconst (v := 1) hx hb dX4_readHold_102 (by decide) ?_
        refine lv_iadd hx hb dX4_readHold_103 ?_
        refine lv_topi (fun v103 ev103 => ?_)
        have tv103 : v103.toInt = q0_0.toInt + (1) := by rw [ev103]; exact add_i rfl (by decide : (1 : Int32).toInt = 1) (by omega) (by omega)
        refine x_put (ci := 9) (v := .int v103) (ty := tyX9 0) (C := RX9) (F := TX9) (N := 14) hx hb hts uX9 tyX9 tyX9_ok nmX9 hown hkb hH hS rfl 0 (by decide) kw_108 (fun _ h9 => h9) rfl (tyX9_ok 0 (by decide)) rfl rfl (Nat.le_of_ble_eq_true rfl) dX4_readHold_104 (fun H locs hH hS => ?_)
        have hH : HT D cs A T (d :: O) ((d, .inr (9, [.int v103, .int q0_1, .int q0_2, .int q0_3, .int q0_4, .int q0_5, .ref q0_6, .ref q0_7, .ref q0_8, .ref q0_9, .ref q0_10, .null, .int q0_12, .int q0_13])) :: X) H := hH
        refine lv_iconst (v := 0) hx hb dX4_readHold_107 (by decide) ?_
        have J110 : ∀ (n : Nat) (p110_4 : Int32) (f110_0 : Int32) (f110_1 : Int32) (f110_2 : Int32) (f110_3 : Int32) (f110_4 : Int32) (f110_5 : Int32) (f110_6 : Nat) (f110_7 : Nat) (f110_8 : Nat) (f110_9 : Nat) (f110_10 : Nat) (f110_12 : Int32) (f110_13 : Int32) (H : Heap) (locs : List Loc) (ls : Array Slot), (900 - p110_4.toInt).toNat = n → (T f110_6 = some (1, 14, 0)) → (T f110_7 = some (1, 14, 0)) → (T f110_8 = some (1, 14, 0)) → (T f110_9 = some (1, 5, 0)) → (T f110_10 = some (1, 5, 0)) → (0 ≤ p110_4.toInt) → (p110_4.toInt ≤ 900) → (0 ≤ f110_0.toInt) → (f110_0.toInt ≤ 14) → (0 ≤ f110_1.toInt) → (f110_1.toInt ≤ 5) → (0 ≤ f110_3.toInt) → (f110_3.toInt ≤ 16383) → (0 ≤ f110_4.toInt) → (f110_4.toInt ≤ 16383) → (0 ≤ f110_5.toInt) → (f110_5.toInt ≤ 16383) → (0 ≤ f110_12.toInt) → (f110_12.toInt ≤ 1) → (0 ≤ f110_13.toInt) → (f110_13.toInt ≤ 1) → HT D cs A T (d :: O) ((d, .inr (9, [.int f110_0, .int f110_1, .int f110_2, .int f110_3, .int f110_4, .int f110_5, .ref f110_6, .ref f110_7, .ref f110_8, .ref f110_9, .ref f110_10, .null, .int f110_12, .int f110_13])) :: X) H → va_S A s.heap H locs → lv_has ls 5 [(4, .int p110_4), (1, .int q0_0), (0, .ref a0)] → W p l e { frames := 7, cells := 0, slots := 0, locals := 155 } s m [.ref a0].toArray below meth c H locs 0 0 (MQ below (Ti D cs (fun r u => u = (T, O, X) ∧ 0 ≤ r.toInt ∧ r.toInt ≤ 1) A) [.ref a0].toArray s 0 0 A) (F0 m 110 ls []) := by
          intro n
          induction n using Nat.strongRecOn with
          | _ n ih110 =>
            intro p110_4 f110_0 f110_1 f110_2 f110_3 f110_4 f110_5 f110_6 f110_7 f110_8 f110_9 f110_10 f110_12 f110_13 H locs ls hm110 t_f110_6 t_f110_7 t_f110_8 t_f110_9 t_f110_10 l_p110_4 u_p110_4 l_f110_0 u_f110_0 l_f110_1 u_f110_1 l_f110_3 u_f110_3 l_f110_4 u_f110_4 l_f110_5 u_f110_5 l_f110_12 u_f110_12 l_f110_13 u_f110_13 hH hS hl
            refine lv_iload hx hb dX4_readHold_110 (lv_at hl 0 rfl) ?_
            refine lv_sipush (v := 900) hx hb dX4_readHold_112 (by decide) ?_
            have J145 : ∀  (H : Heap) (locs : List Loc) (ls : Array Slot), HT D cs A T (d :: O) ((d, .inr (9, [.int f110_0, .int f110_1, .int f110_2, .int f110_3, .int f110_4, .int f110_5, .ref f110_6, .ref f110_7, .ref f110_8, .ref f110_9, .ref f110_10, .null, .int f110_12, .int f110_13])) :: X) H → va_S A s.heap H locs → lv_has ls 5 [] → W p l e { frames := 7, cells := 0, slots := 0, locals := 155 } s m [.ref a0].toArray below meth c H locs 0 0 (MQ below (Ti D cs (fun r u => u = (T, O, X) ∧ 0 ≤ r.toInt ∧ r.toInt ≤ 1) A) [.ref a0].toArray s 0 0 A) (F0 m 145 ls []) := by
              intro  H locs ls  hH hS hl
              refine lv_iconst (v := 1) hx hb dX4_readHold_145 (by decide) ?_
              have hH : HT D cs A T O X H := HT.lay (ci := 9) hH t_d ((ob9d _).mpr (okL_c (⟨_, rfl, by omega, by omega⟩) (okL_c (⟨_, rfl, by omega, by omega⟩) (okL_c (⟨_, rfl⟩) (okL_c (⟨_, rfl, by omega, by omega⟩) (okL_c (⟨_, rfl, by omega, by omega⟩) (okL_c (⟨_, rfl, by omega, by omega⟩) (okL_c (⟨_, rfl, t_f110_6⟩) (okL_c (⟨_, rfl, t_f110_7⟩) (okL_c (⟨_, rfl, t_f110_8⟩) (okL_c (⟨_, rfl, t_f110_9⟩) (okL_c (⟨_, rfl, t_f110_10⟩) (okL_c (rfl) (okL_c (⟨_, rfl, by omega, by omega⟩) (okL_c (⟨_, rfl, by omega, by omega⟩) (okL_n))))))))))))))))
              have hO := hO0
              exact te_z hx hb hr hlocks (by rfl) hH hS (⟨rfl, by decide, by decide⟩) dX4_readHold_146
            refine lv_icmp_ge (tgt := 145) hx hb dX4_readHold_115 (by decide) (fun c115 => ?_) (fun c115 => ?_)
            · skip
              have tc115 := f_ge (k := 900) (by decide) c115
              exact J145  _ _ _  hH hS (lv_sub hl [] rfl)
            · skip
              have tc115 := f_nge (k := 900) (by decide) c115
              refine lv_aload_n hx hb dX4_readHold_118 rfl (lv_at hl 2 rfl) ?_
              refine t_get (ci := 4) (lst := ft4 d 0) (C := RX4) (F := TX4) (N := 5) hx hb hts uX4 hown hkb hH t_a0 (hO.no t_a0 (by decide)) (fun _ h9 => h9) rfl rfl 0 (by decide) rfl kw_211 (fun _ h9 => h9) dX4_readHold_119 (fun v9 h9 => ?_)
              obtain ⟨v119, rfl, t_v119⟩ := h9
              refine t_get (ci := 7) (lst := ft7 0 0) (C := RX7) (F := TX7) (N := 8) hx hb hts uX7 hown hkb hH t_v119 (hO.no t_v119 (by decide)) (fun _ h9 => ob7_ok h9) rfl rfl 4 (by decide) rfl kw_49 (fun _ h9 => h9) dX4_readHold_122 (fun v9 h9 => ?_)
              obtain ⟨v122, rfl⟩ := h9
              refine lv_iconst (v := 1) hx hb dX4_readHold_125 (by decide) ?_
              refine lv_icmp_ne (tgt := 145) hx hb dX4_readHold_126 (by decide) (fun c126 => ?_) (fun c126 => ?_)
              · skip
                have tc126 := f_ne (k := 1) (by decide) c126
                exact J145  _ _ _  hH hS (lv_sub hl [] rfl)
              · skip
                have tc126 := f_eq (k := 1) (by decide) c126
                refine lv_aload_n hx hb dX4_readHold_129 rfl (lv_at hl 2 rfl) ?_
                refine lv_iload_n hx hb dX4_readHold_130 rfl (lv_at hl 1 rfl) ?_
                have hH : HT D cs A T O X H := HT.lay (ci := 9) hH t_d ((ob9d _).mpr (okL_c (⟨_, rfl, by omega, by omega⟩) (okL_c (⟨_, rfl, by omega, by omega⟩) (okL_c (⟨_, rfl⟩) (okL_c (⟨_, rfl, by omega, by omega⟩) (okL_c (⟨_, rfl, by omega, by omega⟩) (okL_c (⟨_, rfl, by omega, by omega⟩) (okL_c (⟨_, rfl, t_f110_6⟩) (okL_c (⟨_, rfl, t_f110_7⟩) (okL_c (⟨_, rfl, t_f110_8⟩) (okL_c (⟨_, rfl, t_f110_9⟩) (okL_c (⟨_, rfl, t_f110_10⟩) (okL_c (rfl) (okL_c (⟨_, rfl, by omega, by omega⟩) (okL_c (⟨_, rfl, by omega, by omega⟩) (okL_n))))))))))))))))
                have hO := hO0
                refine tk_i hH hS hA (tr_V (n := 1) (As := [.int q0_0]) hx hb hml hown hts hkb hH hOX hks hE hS hA (s_RD_readFlag l D cs kf T O X a0 d q0_0 t_a0 t_d (by omega) (by omega) (hO.sub (by decide))) kw_589 kw_591 ks_3 kw_2 kw_592 (by decide +kernel) ⟨Nat.le_of_ble_eq_true rfl, Nat.le_of_ble_eq_true rfl⟩ (HT.recv (ci := 4) hkb hH t_a0 (hO.no t_a0 (by decide)) rfl) rfl rfl hl.1 (Nat.le_of_ble_eq_true rfl) dX4_readHold_131 ⟨Nat.le_of_ble_eq_true rfl, Nat.le_of_ble_eq_true rfl⟩) (fun v131 u H locs hz9 hH hS => ?_)
                obtain ⟨rfl, l_v131, u_v131⟩ := hz9
                have hH : HT D cs A T O X H := hH
                obtain ⟨fs9, ho9, hH⟩ := hH.take t_d (hO0.no t_d (by decide))
                have hp0 : okL T (ft9d 100 0) fs9 := (fun fs => (ob9d fs).mp) _ ho9
                clear ho9
                obtain ⟨v9, fs9, rfl, h9, hp1⟩ := okL_i hp0
                obtain ⟨q131_0, rfl, l_q131_0, u_q131_0⟩ := h9
                obtain ⟨v9, fs9, rfl, h9, hp2⟩ := okL_i hp1
                obtain ⟨q131_1, rfl, l_q131_1, u_q131_1⟩ := h9
                obtain ⟨v9, fs9, rfl, h9, hp3⟩ := okL_i hp2
                obtain ⟨q131_2, rfl⟩ := h9
                obtain ⟨v9, fs9, rfl, h9, hp4⟩ := okL_i hp3
                obtain ⟨q131_3, rfl, l_q131_3, u_q131_3⟩ := h9
                obtain ⟨v9, fs9, rfl, h9, hp5⟩ := okL_i hp4
                obtain ⟨q131_4, rfl, l_q131_4, u_q131_4⟩ := h9
                obtain ⟨v9, fs9, rfl, h9, hp6⟩ := okL_i hp5
                obtain ⟨q131_5, rfl, l_q131_5, u_q131_5⟩ := h9
                obtain ⟨v9, fs9, rfl, h9, hp7⟩ := okL_i hp6
                obtain ⟨q131_6, rfl, t_q131_6⟩ := h9
                obtain ⟨v9, fs9, rfl, h9, hp8⟩ := okL_i hp7
                obtain ⟨q131_7, rfl, t_q131_7⟩ := h9
                obtain ⟨v9, fs9, rfl, h9, hp9⟩ := okL_i hp8
                obtain ⟨q131_8, rfl, t_q131_8⟩ := h9
                obtain ⟨v9, fs9, rfl, h9, hp10⟩ := okL_i hp9
                obtain ⟨q131_9, rfl, t_q131_9⟩ := h9
                obtain ⟨v9, fs9, rfl, h9, hp11⟩ := okL_i hp10
                obtain ⟨q131_10, rfl, t_q131_10⟩ := h9
                obtain ⟨v9, fs9, rfl, h9, hp12⟩ := okL_i hp11
                have h9 : v9 = .null := h9
                subst h9
                obtain ⟨v9, fs9, rfl, h9, hp13⟩ := okL_i hp12
                obtain ⟨q131_12, rfl, l_q131_12, u_q131_12⟩ := h9
                obtain ⟨v9, fs9, rfl, h9, hp14⟩ := okL_i hp13
                obtain ⟨q131_13, rfl, l_q131_13, u_q131_13⟩ := h9
                have hpz := okL_z hp14
                subst hpz
                have hH : HT D cs A T (d :: O) ((d, .inr (9, [.int q131_0, .int q131_1, .int q131_2, .int q131_3, .int q131_4, .int q131_5, .ref q131_6, .ref q131_7, .ref q131_8, .ref q131_9, .ref q131_10, .null, .int q131_12, .int q131_13])) :: X) H := hH
                have hO : okO T (d :: O) [0, 1, 14, 17] := okO.cons (hO0.sub (by decide)) t_d (by decide)
                refine W.widen (k := 0) (n := 0) (Nat.le_of_ble_eq_true rfl) (Nat.le_of_ble_eq_true rfl) ?_
                refine lv_if_ne (tgt := 139) hx hb dX4_readHold_134 (by decide) (fun c134 => ?_) (fun c134 => ?_)
                · skip
                  have tc134 := f_ne (k := 0) (by decide) c134
                  obtain ⟨v139, ev139⟩ : ∃ y : Int32, y = p110_4 + 1 := ⟨_, rfl⟩
                  have tv139 : v139.toInt = p110_4.toInt + (1) := by rw [ev139]; exact add_i rfl (by decide) (by omega) (by omega)
                  refine lv_iinc (v := v139) (lv' := [(4, .int v139), (1, .int q0_0), (0, .ref a0)]) hx hb dX4_readHold_139 hl (k := 0) rfl (by rw [ev139]; rfl) (by decide) rfl (fun ls hl => ?_)
                  refine lv_goto (tgt := 110) hx hb dX4_readHold_142 (by decide) ?_
                  exact ih110 _ (by omega) v139 q131_0 q131_1 q131_2 q131_3 q131_4 q131_5 q131_6 q131_7 q131_8 q131_9 q131_10 q131_12 q131_13 _ _ _ rfl t_q131_6 t_q131_7 t_q131_8 t_q131_9 t_q131_10 (by omega) (by omega) (by omega) (by omega) (by omega) (by omega) (by omega) (by omega) (by omega) (by omega) (by omega) (by omega) (by omega) (by omega) (by omega) (by omega) hH hS (lv_sub hl [0, 1, 2] rfl)
                · skip
                  have tc134 := f_eq (k := 0) (by decide) c134
                  refine lv_iconst (v := 0) hx hb dX4_readHold_137 (by decide) ?_
                  have hH : HT D cs A T O X H := HT.lay (ci := 9) hH t_d ((ob9d _).mpr (okL_c (⟨_, rfl, by omega, by omega⟩) (okL_c (⟨_, rfl, by omega, by omega⟩) (okL_c (⟨_, rfl⟩) (okL_c (⟨_, rfl, by omega, by omega⟩) (okL_c (⟨_, rfl, by omega, by omega⟩) (okL_c (⟨_, rfl, by omega, by omega⟩) (okL_c (⟨_, rfl, t_q131_6⟩) (okL_c (⟨_, rfl, t_q131_7⟩) (okL_c (⟨_, rfl, t_q131_8⟩) (okL_c (⟨_, rfl, t_q131_9⟩) (okL_c (⟨_, rfl, t_q131_10⟩) (okL_c (rfl) (okL_c (⟨_, rfl, by omega, by omega⟩) (okL_c (⟨_, rfl, by omega, by omega⟩) (okL_n))))))))))))))))
                  have hO := hO0
                  exact te_z hx hb hr hlocks (by rfl) hH hS (⟨rfl, by decide, by decide⟩) dX4_readHold_138
        refine lv_istore (lv' := [(4, .int 0), (3, .int v53), (2, .int v36), (1, .int q0_0), (0, .ref a0)]) hx hb dX4_readHold_108 hl (by decide) rfl (fun ls hl => ?_)
        exact J110 _ 0 v103 q0_1 q0_2 q0_3 q0_4 q0_5 q0_6 q0_7 q0_8 q0_9 q0_10 q0_12 q0_13 _ _ _ rfl t_q0_6 t_q0_7 t_q0_8 t_q0_9 t_q0_10 (by decide) (by decide) (by omega) (by omega) (by omega) (by omega) (by omega) (by omega) (by omega) (by omega) (by omega) (by omega) (by omega) (by omega) (by omega) (by omega) hH hS (lv_sub hl [0, 3, 4] rfl)
      · skip
        have tc59 := f_eq (k := -1) (by decide) c59
        refine lv_iconst (v := 0) hx hb dX4_readHold_62 (by decide) ?_
        have hH : HT D cs A T O X H := HT.lay (ci := 9) hH t_d ((ob9d _).mpr (okL_c (⟨_, rfl, by omega, by omega⟩) (okL_c (⟨_, rfl, by omega, by omega⟩) (okL_c (⟨_, rfl⟩) (okL_c (⟨_, rfl, by omega, by omega⟩) (okL_c (⟨_, rfl, by omega, by omega⟩) (okL_c (⟨_, rfl, by omega, by omega⟩) (okL_c (⟨_, rfl, t_q0_6⟩) (okL_c (⟨_, rfl, t_q0_7⟩) (okL_c (⟨_, rfl, t_q0_8⟩) (okL_c (⟨_, rfl, t_q0_9⟩) (okL_c (⟨_, rfl, t_q0_10⟩) (okL_c (rfl) (okL_c (⟨_, rfl, by omega, by omega⟩) (okL_c (⟨_, rfl, by omega, by omega⟩) (okL_n))))))))))))))))
        have hO := hO0
        exact te_z hx hb hr hlocks (by rfl) hH hS (⟨rfl, by decide, by decide⟩) dX4_readHold_63
    · skip
      have tc42 := f_eq (k := -1) (by decide) c42
      refine lv_iconst (v := 0) hx hb dX4_readHold_45 (by decide) ?_
      have hH : HT D cs A T O X H := HT.lay (ci := 9) hH t_d ((ob9d _).mpr (okL_c (⟨_, rfl, by omega, by omega⟩) (okL_c (⟨_, rfl, by omega, by omega⟩) (okL_c (⟨_, rfl⟩) (okL_c (⟨_, rfl, by omega, by omega⟩) (okL_c (⟨_, rfl, by omega, by omega⟩) (okL_c (⟨_, rfl, by omega, by omega⟩) (okL_c (⟨_, rfl, t_q0_6⟩) (okL_c (⟨_, rfl, t_q0_7⟩) (okL_c (⟨_, rfl, t_q0_8⟩) (okL_c (⟨_, rfl, t_q0_9⟩) (okL_c (⟨_, rfl, t_q0_10⟩) (okL_c (rfl) (okL_c (⟨_, rfl, by omega, by omega⟩) (okL_c (⟨_, rfl, by omega, by omega⟩) (okL_n))))))))))))))))
      have hO := hO0
      exact te_z hx hb hr hlocks (by rfl) hH hS (⟨rfl, by decide, by decide⟩) dX4_readHold_46
  · skip
    have tc11 := f_nlt (k := 14) (by decide) c11
    refine lv_aload_n hx hb dX4_readHold_14 rfl (lv_at hl 1 rfl) ?_
    refine t_get (ci := 4) (lst := ft4 d 0) (C := RX4) (F := TX4) (N := 5) hx hb hts uX4 hown hkb hH t_a0 (hO.no t_a0 (by decide)) (fun _ h9 => h9) rfl rfl 0 (by decide) rfl kw_211 (fun _ h9 => h9) dX4_readHold_15 (fun v9 h9 => ?_)
    obtain ⟨v15, rfl, t_v15⟩ := h9
    refine lv_iconst (v := 4) hx hb dX4_readHold_18 (by decide) ?_
    refine tk_i hH hS hA (tr_V (n := 1) (As := [.int 4]) hx hb hml hown hts hkb hH (ox_c hOX) hks hE hS hA (s_Tok_refuse l D cs kf T (d :: O) ((d, .inr (9, [.int q0_0, .int q0_1, .int q0_2, .int q0_3, .int q0_4, .int q0_5, .ref q0_6, .ref q0_7, .ref q0_8, .ref q0_9, .ref q0_10, .null, .int q0_12, .int q0_13])) :: X) v15 (4) t_v15 (hO.sub (by decide))) kw_579 kw_580 kw_581 kw_3 kw_582 (by decide +kernel) ⟨Nat.le_of_ble_eq_true rfl, Nat.le_of_ble_eq_true rfl⟩ (HT.recv (ci := 7) hkb hH t_v15 (hO.no t_v15 (by decide)) rfl) rfl rfl hl.1 (Nat.le_of_ble_eq_true rfl) dX4_readHold_19 ⟨Nat.le_of_ble_eq_true rfl, Nat.le_of_ble_eq_true rfl⟩) (fun v19 u H locs hz9 hH hS => ?_)
    obtain ⟨rfl, l_v19, u_v19⟩ := hz9
    have hH : HT D cs A T (d :: O) ((d, .inr (9, [.int q0_0, .int q0_1, .int q0_2, .int q0_3, .int q0_4, .int q0_5, .ref q0_6, .ref q0_7, .ref q0_8, .ref q0_9, .ref q0_10, .null, .int q0_12, .int q0_13])) :: X) H := hH
    refine W.widen (k := 0) (n := 0) (Nat.le_of_ble_eq_true rfl) (Nat.le_of_ble_eq_true rfl) ?_
    have hH : HT D cs A T O X H := HT.lay (ci := 9) hH t_d ((ob9d _).mpr (okL_c (⟨_, rfl, by omega, by omega⟩) (okL_c (⟨_, rfl, by omega, by omega⟩) (okL_c (⟨_, rfl⟩) (okL_c (⟨_, rfl, by omega, by omega⟩) (okL_c (⟨_, rfl, by omega, by omega⟩) (okL_c (⟨_, rfl, by omega, by omega⟩) (okL_c (⟨_, rfl, t_q0_6⟩) (okL_c (⟨_, rfl, t_q0_7⟩) (okL_c (⟨_, rfl, t_q0_8⟩) (okL_c (⟨_, rfl, t_q0_9⟩) (okL_c (⟨_, rfl, t_q0_10⟩) (okL_c (rfl) (okL_c (⟨_, rfl, by omega, by omega⟩) (okL_c (⟨_, rfl, by omega, by omega⟩) (okL_n))))))))))))))))
    have hO := hO0
    exact te_z hx hb hr hlocks (nar01 (by omega) (by omega)) hH hS (⟨rfl, by omega, by omega⟩) dX4_readHold_22
set_option maxHeartbeats 4000000 in
set_option maxRecDepth 100000 in
theorem s_RD_readGuide (l : Launch) (D : va_G) (cs : CS) (kf : KF) (T : TF) (O : List Nat) (X : va_W) (a0 d : Nat) (t_a0 : T a0 = some (14, d, 0)) (t_d : T d = some (19, 100, 0)) (hO : okO T O [0, 1, 14, 17, 19]) : TK l D cs kf yX4_readGuide cX4_readGuide 2 (some (.boolean)) { frames := 6, cells := 0, slots := 0, locals := 133 } [.ref a0] T O X (Ti D cs (fun r u => u = (T, O, X) ∧ 0 ≤ r.toInt ∧ r.toInt ≤ 1)) := by
  refine tk_of (by decide) (Nat.le_of_ble_eq_true rfl) (fun p e s m below meth c ls A H locs hx hb hr hml hown hts hlocks hnm hkb hH hS hA hOX hks hE hl => ?_)
  have hown : s.vm.findClass RX4 = some m.cls := hown
  have hl : lv_has ls 2 [(0, .ref a0)] := hl
  have hO0 := hO
  obtain ⟨fs9, ho9, hH⟩ := hH.take t_d (hO0.no t_d (by decide))
  have hp0 : okL T (ft9d 100 0) fs9 := (fun fs => (ob9d fs).mp) _ ho9
  clear ho9
  obtain ⟨v9, fs9, rfl, h9, hp1⟩ := okL_i hp0
  obtain ⟨q0_0, rfl, l_q0_0, u_q0_0⟩ := h9
  obtain ⟨v9, fs9, rfl, h9, hp2⟩ := okL_i hp1
  obtain ⟨q0_1, rfl, l_q0_1, u_q0_1⟩ := h9
  obtain ⟨v9, fs9, rfl, h9, hp3⟩ := okL_i hp2
  obtain ⟨q0_2, rfl⟩ := h9
  obtain ⟨v9, fs9, rfl, h9, hp4⟩ := okL_i hp3
  obtain ⟨q0_3, rfl, l_q0_3, u_q0_3⟩ := h9
  obtain ⟨v9, fs9, rfl, h9, hp5⟩ := okL_i hp4
  obtain ⟨q0_4, rfl, l_q0_4, u_q0_4⟩ := h9
  obtain ⟨v9, fs9, rfl, h9, hp6⟩ := okL_i hp5
  obtain ⟨q0_5, rfl, l_q0_5, u_q0_5⟩ := h9
  obtain ⟨v9, fs9, rfl, h9, hp7⟩ := okL_i hp6
  obtain ⟨q0_6, rfl, t_q0_6⟩ := h9
  obtain ⟨v9, fs9, rfl, h9, hp8⟩ := okL_i hp7
  obtain ⟨q0_7, rfl, t_q0_7⟩ := h9
  obtain ⟨v9, fs9, rfl, h9, hp9⟩ := okL_i hp8
  obtain ⟨q0_8, rfl, t_q0_8⟩ := h9
  obtain ⟨v9, fs9, rfl, h9, hp10⟩ := okL_i hp9
  obtain ⟨q0_9, rfl, t_q0_9⟩ := h9
  obtain ⟨v9, fs9, rfl, h9, hp11⟩ := okL_i hp10
  obtain ⟨q0_10, rfl, t_q0_10⟩ := h9
  obtain ⟨v9, fs9, rfl, h9, hp12⟩ := okL_i hp11
  have h9 : v9 = .null := h9
  subst h9
  obtain ⟨v9, fs9, rfl, h9, hp13⟩ := okL_i hp12
  obtain ⟨q0_12, rfl, l_q0_12, u_q0_12⟩ := h9
  obtain ⟨v9, fs9, rfl, h9, hp14⟩ := okL_i hp13
  obtain ⟨q0_13, rfl, l_q0_13, u_q0_13⟩ := h9
  have hpz := okL_z hp14
  subst hpz
  have hH : HT D cs A T (d :: O) ((d, .inr (9, [.int q0_0, .int q0_1, .int q0_2, .int q0_3, .int q0_4, .int q0_5, .ref q0_6, .ref q0_7, .ref q0_8, .ref q0_9, .ref q0_10, .null, .int q0_12, .int q0_13])) :: X) H := hH
  have hO : okO T (d :: O) [0, 1, 14, 17] := okO.cons (hO0.sub (by decide)) t_d (by decide)
  refine lv_aload_n hx hb dX4_readGuide_0 rfl (lv_at hl 0 rfl) ?_
  refine t_get (ci := 4) (lst := ft4 d 0) (C := RX4) (F := TX4) (N := 5) hx hb hts uX4 hown hkb hH t_a0 (hO.no t_a0 (by decide)) (fun _ h9 => h9) rfl rfl 2 (by decide) rfl kw_214 (fun _ h9 => h9) dX4_readGuide_1 (fun v9 h9 => ?_)
  have h9 : v9 = .ref d := h9
  subst h9
  refine x_get (ci := 9) (C := RX9) (F := TX9) (N := 14) (v := .int q0_1) hx hb hts uX9 hown hkb hH rfl 1 (by decide) rfl kw_111 (fun _ h9 => h9) dX4_readGuide_4 ?_
  refine lv_istore_n (lv' := [(1, .int q0_1), (0, .ref a0)]) hx hb dX4_readGuide_7 rfl hl (by decide) rfl (fun ls hl => ?_)
  refine lv_iload_n hx hb dX4_readGuide_8 rfl (lv_at hl 0 rfl) ?_
  refine lv_iconst (v := 5) hx hb dX4_readGuide_9 (by decide) ?_
  refine lv_icmp_lt (tgt := 22) hx hb dX4_readGuide_10 (by decide) (fun c10 => ?_) (fun c10 => ?_)
  · skip
    have tc10 := f_lt (k := 5) (by decide) c10
    refine lv_aload_n hx hb dX4_readGuide_22 rfl (lv_at hl 1 rfl) ?_
    refine t_get (ci := 4) (lst := ft4 d 0) (C := RX4) (F := TX4) (N := 5) hx hb hts uX4 hown hkb hH t_a0 (hO.no t_a0 (by decide)) (fun _ h9 => h9) rfl rfl 0 (by decide) rfl kw_211 (fun _ h9 => h9) dX4_readGuide_23 (fun v9 h9 => ?_)
    obtain ⟨v23, rfl, t_v23⟩ := h9
    refine tk_v hH hS hA (tr_V (n := 0) (As := []) hx hb hml hown hts hkb hH (ox_c hOX) hks hE hS hA (s_Tok_go l D cs kf T (d :: O) ((d, .inr (9, [.int q0_0, .int q0_1, .int q0_2, .int q0_3, .int q0_4, .int q0_5, .ref q0_6, .ref q0_7, .ref q0_8, .ref q0_9, .ref q0_10, .null, .int q0_12, .int q0_13])) :: X) v23 t_v23 (hO.sub (by decide))) kw_583 kw_453 kw_454 kw_3 kw_455 (by decide +kernel) ⟨Nat.le_of_ble_eq_true rfl, Nat.le_of_ble_eq_true rfl⟩ (HT.recv (ci := 7) hkb hH t_v23 (hO.no t_v23 (by decide)) rfl) rfl rfl hl.1 (Nat.le_of_ble_eq_true rfl) dX4_readGuide_26 ⟨Nat.le_of_ble_eq_true rfl, Nat.le_of_ble_eq_true rfl⟩) (fun u H locs hz9 hH hS => ?_)
    have hz9 : u = (T, d :: O, (d, .inr (9, [.int q0_0, .int q0_1, .int q0_2, .int q0_3, .int q0_4, .int q0_5, .ref q0_6, .ref q0_7, .ref q0_8, .ref q0_9, .ref q0_10, .null, .int q0_12, .int q0_13])) :: X) := hz9
    subst hz9
    have hH : HT D cs A T (d :: O) ((d, .inr (9, [.int q0_0, .int q0_1, .int q0_2, .int q0_3, .int q0_4, .int q0_5, .ref q0_6, .ref q0_7, .ref q0_8, .ref q0_9, .ref q0_10, .null, .int q0_12, .int q0_13])) :: X) H := hH
    refine W.widen (k := 0) (n := 0) (Nat.le_of_ble_eq_true rfl) (Nat.le_of_ble_eq_true rfl) ?_
    refine lv_aload_n hx hb dX4_readGuide_29 rfl (lv_at hl 1 rfl) ?_
    refine t_get (ci := 4) (lst := ft4 d 0) (C := RX4) (F := TX4) (N := 5) hx hb hts uX4 hown hkb hH t_a0 (hO.no t_a0 (by decide)) (fun _ h9 => h9) rfl rfl 0 (by decide) rfl kw_211 (fun _ h9 => h9) dX4_readGuide_30 (fun v9 h9 => ?_)
    obtain ⟨v30, rfl, t_v30⟩ := h9
    refine va_ldcS (q := kf.1 7) hx hb hown (hks ("FootholdWall$Reader", 160, "leg", 7) (by decide +kernel)) dX4_readGuide_33 ?_
    refine tk_i hH hS hA (tr_V (n := 1) (As := [.ref (kf.1 7)]) hx hb hml hown hts hkb hH (ox_c hOX) hks hE hS hA (s_Tok_takeWord l D cs kf T (d :: O) ((d, .inr (9, [.int q0_0, .int q0_1, .int q0_2, .int q0_3, .int q0_4, .int q0_5, .ref q0_6, .ref q0_7, .ref q0_8, .ref q0_9, .ref q0_10, .null, .int q0_12, .int q0_13])) :: X) v30 7 t_v30 (by decide) (hO.sub (by decide))) kw_603 kw_604 kw_605 kw_3 kw_606 (by decide +kernel) ⟨Nat.le_of_ble_eq_true rfl, Nat.le_of_ble_eq_true rfl⟩ (HT.recv (ci := 7) hkb hH t_v30 (hO.no t_v30 (by decide)) rfl) rfl rfl hl.1 (Nat.le_of_ble_eq_true rfl) dX4_readGuide_35 ⟨Nat.le_of_ble_eq_true rfl, Nat.le_of_ble_eq_true rfl⟩) (fun v35 u H locs hz9 hH hS => ?_)
    obtain ⟨rfl, l_v35, u_v35⟩ := hz9
    have hH : HT D cs A T (d :: O) ((d, .inr (9, [.int q0_0, .int q0_1, .int q0_2, .int q0_3, .int q0_4, .int q0_5, .ref q0_6, .ref q0_7, .ref q0_8, .ref q0_9, .ref q0_10, .null, .int q0_12, .int q0_13])) :: X) H := hH
    refine W.widen (k := 0) (n := 0) (Nat.le_of_ble_eq_true rfl) (Nat.le_of_ble_eq_true rfl) ?_
    refine lv_if_ne (tgt := 43) hx hb dX4_readGuide_38 (by decide) (fun c38 => ?_) (fun c38 => ?_)
    · skip
      have tc38 := f_ne (k := 0) (by decide) c38
      refine lv_aload_n hx hb dX4_readGuide_43 rfl (lv_at hl 1 rfl) ?_
      refine t_get (ci := 4) (lst := ft4 d 0) (C := RX4) (F := TX4) (N := 5) hx hb hts uX4 hown hkb hH t_a0 (hO.no t_a0 (by decide)) (fun _ h9 => h9) rfl rfl 2 (by decide) rfl kw_214 (fun _ h9 => h9) dX4_readGuide_44 (fun v9 h9 => ?_)
      have h9 : v9 = .ref d := h9
      subst h9
      refine x_get (ci := 9) (C := RX9) (F := TX9) (N := 14) (v := .ref q0_9) hx hb hts uX9 hown hkb hH rfl 9 (by decide) rfl kw_143 (fun _ h9 => h9) dX4_readGuide_47 ?_
      refine lv_iload_n hx hb dX4_readGuide_50 rfl (lv_at hl 0 rfl) ?_
      refine lv_aload_n hx hb dX4_readGuide_51 rfl (lv_at hl 1 rfl) ?_
      refine t_get (ci := 4) (lst := ft4 d 0) (C := RX4) (F := TX4) (N := 5) hx hb hts uX4 hown hkb hH t_a0 (hO.no t_a0 (by decide)) (fun _ h9 => h9) rfl rfl 0 (by decide) rfl kw_211 (fun _ h9 => h9) dX4_readGuide_52 (fun v9 h9 => ?_)
      obtain ⟨v52, rfl, t_v52⟩ := h9
      refine lv_bipush (v := 99) hx hb dX4_readGuide_55 (by decide) ?_
      refine tk_i hH hS hA (tr_V (n := 1) (As := [.int 99]) hx hb hml hown hts hkb hH (ox_c hOX) hks hE hS hA (s_Tok_takeNumber l D cs kf T (d :: O) ((d, .inr (9, [.int q0_0, .int q0_1, .int q0_2, .int q0_3, .int q0_4, .int q0_5, .ref q0_6, .ref q0_7, .ref q0_8, .ref q0_9, .ref q0_10, .null, .int q0_12, .int q0_13])) :: X) v52 (99) t_v52 (hO.sub (by decide))) kw_584 kw_585 kw_586 kw_3 kw_587 (by decide +kernel) ⟨Nat.le_of_ble_eq_true rfl, Nat.le_of_ble_eq_true rfl⟩ (HT.recv (ci := 7) hkb hH t_v52 (hO.no t_v52 (by decide)) rfl) rfl rfl hl.1 (Nat.le_of_ble_eq_true rfl) dX4_readGuide_57 ⟨Nat.le_of_ble_eq_true rfl, Nat.le_of_ble_eq_true rfl⟩) (fun v57 u H locs hz9 hH hS => ?_)
      have hz9 : u = (T, d :: O, (d, .inr (9, [.int q0_0, .int q0_1, .int q0_2, .int q0_3, .int q0_4, .int q0_5, .ref q0_6, .ref q0_7, .ref q0_8, .ref q0_9, .ref q0_10, .null, .int q0_12, .int q0_13])) :: X) := hz9
      subst hz9
      have hH : HT D cs A T (d :: O) ((d, .inr (9, [.int q0_0, .int q0_1, .int q0_2, .int q0_3, .int q0_4, .int q0_5, .ref q0_6, .ref q0_7, .ref q0_8, .ref q0_9, .ref q0_10, .null, .int q0_12, .int q0_13])) :: X) H := hH
      refine W.widen (k := 0) (n := 0) (Nat.le_of_ble_eq_true rfl) (Nat.le_of_ble_eq_true rfl) ?_
      refine t_ist hx hb hkb hH hS t_q0_9 (hO.no t_q0_9 (by decide)) (by omega) (by omega) (cp_0 _) dX4_readGuide_60 (fun H locs hH hS => ?_)
      refine lv_aload_n hx hb dX4_readGuide_61 rfl (lv_at hl 1 rfl) ?_
      refine t_get (ci := 4) (lst := ft4 d 0) (C := RX4) (F := TX4) (N := 5) hx hb hts uX4 hown hkb hH t_a0 (hO.no t_a0 (by decide)) (fun _ h9 => h9) rfl rfl 2 (by decide) rfl kw_214 (fun _ h9 => h9) dX4_readGuide_62 (fun v9 h9 => ?_)
      have h9 : v9 = .ref d := h9
      subst h9
      refine x_get (ci := 9) (C := RX9) (F := TX9) (N := 14) (v := .ref q0_10) hx hb hts uX9 hown hkb hH rfl 10 (by decide) rfl kw_146 (fun _ h9 => h9) dX4_readGuide_65 ?_
      refine lv_iload_n hx hb dX4_readGuide_68 rfl (lv_at hl 0 rfl) ?_
      refine lv_iconst (v := 0) hx hb dX4_readGuide_69 (by decide) ?_
      refine t_ist hx hb hkb hH hS t_q0_10 (hO.no t_q0_10 (by decide)) (by omega) (by omega) (cp_0 _) dX4_readGuide_70 (fun H locs hH hS => ?_)
      refine lv_aload_n hx hb dX4_readGuide_71 rfl (lv_at hl 1 rfl) ?_
      refine t_get (ci := 4) (lst := ft4 d 0) (C := RX4) (F := TX4) (N := 5) hx hb hts uX4 hown hkb hH t_a0 (hO.no t_a0 (by decide)) (fun _ h9 => h9) rfl rfl 2 (by decide) rfl kw_214 (fun _ h9 => h9) dX4_readGuide_72 (fun v9 h9 => ?_)
      have h9 : v9 = .ref d := h9
      subst h9
      refine x_get (ci := 9) (C := RX9) (F := TX9) (N := 14) (v := .ref q0_9) hx hb hts uX9 hown hkb hH rfl 9 (by decide) rfl kw_143 (fun _ h9 => h9) dX4_readGuide_75 ?_
      refine lv_iload_n hx hb dX4_readGuide_78 rfl (lv_at hl 0 rfl) ?_
      refine t_ild hx hb hkb hH t_q0_9 (hO.no t_q0_9 (by decide)) (by omega) (by omega) dX4_readGuide_79 (fun v79 h9 => ?_)
      refine lv_iconst (v := (-1)) hx hb dX4_readGuide_80 (by decide) ?_
      have J121 : ∀  (H : Heap) (locs : List Loc) (ls : Array Slot), HT D cs A T (d :: O) ((d, .inr (9, [.int q0_0, .int q0_1, .int q0_2, .int q0_3, .int q0_4, .int q0_5, .ref q0_6, .ref q0_7, .ref q0_8, .ref q0_9, .ref q0_10, .null, .int q0_12, .int q0_13])) :: X) H → va_S A s.heap H locs → lv_has ls 2 [(1, .int q0_1), (0, .ref a0)] → W p l e { frames := 6, cells := 0, slots := 0, locals := 133 } s m [.ref a0].toArray below meth c H locs 0 0 (MQ below (Ti D cs (fun r u => u = (T, O, X) ∧ 0 ≤ r.toInt ∧ r.toInt ≤ 1) A) [.ref a0].toArray s 0 0 A) (F0 m 121 ls []) := by
        intro  H locs ls  hH hS hl
        refine lv_aload_n hx hb dX4_readGuide_121 rfl (lv_at hl 1 rfl) ?_
        refine t_get (ci := 4) (lst := ft4 d 0) (C := RX4) (F := TX4) (N := 5) hx hb hts uX4 hown hkb hH t_a0 (hO.no t_a0 (by decide)) (fun _ h9 => h9) rfl rfl 2 (by decide) rfl kw_214 (fun _ h9 => h9) dX4_readGuide_122 (fun v9 h9 => ?_)
        have h9 : v9 = .ref d := h9
        subst h9
        refine lv_dup hx hb dX4_readGuide_125 rfl ?_
        refine x_get (ci := 9) (C := RX9) (F := TX9) (N := 14) (v := .int q0_1) hx hb hts uX9 hown hkb hH rfl 1 (by decide) rfl kw_111 (fun _ h9 => h9) dX4_readGuide_126 ?_
        refine lv_iconst (v := 1) hx hb dX4_readGuide_129 (by decide) ?_
        refine lv_iadd hx hb dX4_readGuide_130 ?_
        refine lv_topi (fun v130 ev130 => ?_)
        have tv130 : v130.toInt = q0_1.toInt + (1) := by rw [ev130]; exact add_i rfl (by decide : (1 : Int32).toInt = 1) (by omega) (by omega)
        refine x_put (ci := 9) (v := .int v130) (ty := tyX9 1) (C := RX9) (F := TX9) (N := 14) hx hb hts uX9 tyX9 tyX9_ok nmX9 hown hkb hH hS rfl 1 (by decide) kw_111 (fun _ h9 => h9) rfl (tyX9_ok 1 (by decide)) rfl rfl (Nat.le_of_ble_eq_true rfl) dX4_readGuide_131 (fun H locs hH hS => ?_)
        have hH : HT D cs A T (d :: O) ((d, .inr (9, [.int q0_0, .int v130, .int q0_2, .int q0_3, .int q0_4, .int q0_5, .ref q0_6, .ref q0_7, .ref q0_8, .ref q0_9, .ref q0_10, .null, .int q0_12, .int q0_13])) :: X) H := hH
        refine lv_aload_n hx hb dX4_readGuide_134 rfl (lv_at hl 1 rfl) ?_
        refine t_get (ci := 4) (lst := ft4 d 0) (C := RX4) (F := TX4) (N := 5) hx hb hts uX4 hown hkb hH t_a0 (hO.no t_a0 (by decide)) (fun _ h9 => h9) rfl rfl 2 (by decide) rfl kw_214 (fun _ h9 => h9) dX4_readGuide_135 (fun v9 h9 => ?_)
        have h9 : v9 = .ref d := h9
        subst h9
        refine x_get (ci := 9) (C := RX9) (F := TX9) (N := 14) (v := .ref q0_9) hx hb hts uX9 hown hkb hH rfl 9 (by decide) rfl kw_143 (fun _ h9 => h9) dX4_readGuide_138 ?_
        refine lv_iload_n hx hb dX4_readGuide_141 rfl (lv_at hl 0 rfl) ?_
        refine t_ild hx hb hkb hH t_q0_9 (hO.no t_q0_9 (by decide)) (by omega) (by omega) dX4_readGuide_142 (fun v142 h9 => ?_)
        refine lv_iconst (v := (-1)) hx hb dX4_readGuide_143 (by decide) ?_
        have J165 : ∀ (k165_0 : Int32) (H : Heap) (locs : List Loc) (ls : Array Slot), (0 ≤ k165_0.toInt) → (k165_0.toInt ≤ 1) → HT D cs A T (d :: O) ((d, .inr (9, [.int q0_0, .int v130, .int q0_2, .int q0_3, .int q0_4, .int q0_5, .ref q0_6, .ref q0_7, .ref q0_8, .ref q0_9, .ref q0_10, .null, .int q0_12, .int q0_13])) :: X) H → va_S A s.heap H locs → lv_has ls 2 [] → W p l e { frames := 6, cells := 0, slots := 0, locals := 133 } s m [.ref a0].toArray below meth c H locs 0 0 (MQ below (Ti D cs (fun r u => u = (T, O, X) ∧ 0 ≤ r.toInt ∧ r.toInt ≤ 1) A) [.ref a0].toArray s 0 0 A) (F0 m 165 ls [.int k165_0]) := by
          intro k165_0 H locs ls l_k165_0 u_k165_0 hH hS hl
          have hH : HT D cs A T O X H := HT.lay (ci := 9) hH t_d ((ob9d _).mpr (okL_c (⟨_, rfl, by omega, by omega⟩) (okL_c (⟨_, rfl, by omega, by omega⟩) (okL_c (⟨_, rfl⟩) (okL_c (⟨_, rfl, by omega, by omega⟩) (okL_c (⟨_, rfl, by omega, by omega⟩) (okL_c (⟨_, rfl, by omega, by omega⟩) (okL_c (⟨_, rfl, t_q0_6⟩) (okL_c (⟨_, rfl, t_q0_7⟩) (okL_c (⟨_, rfl, t_q0_8⟩) (okL_c (⟨_, rfl, t_q0_9⟩) (okL_c (⟨_, rfl, t_q0_10⟩) (okL_c (rfl) (okL_c (⟨_, rfl, by omega, by omega⟩) (okL_c (⟨_, rfl, by omega, by omega⟩) (okL_n))))))))))))))))
          have hO := hO0
          exact te_z hx hb hr hlocks (nar01 (by omega) (by omega)) hH hS (⟨rfl, by omega, by omega⟩) dX4_readGuide_165
        have J164 : ∀  (H : Heap) (locs : List Loc) (ls : Array Slot), HT D cs A T (d :: O) ((d, .inr (9, [.int q0_0, .int v130, .int q0_2, .int q0_3, .int q0_4, .int q0_5, .ref q0_6, .ref q0_7, .ref q0_8, .ref q0_9, .ref q0_10, .null, .int q0_12, .int q0_13])) :: X) H → va_S A s.heap H locs → lv_has ls 2 [] → W p l e { frames := 6, cells := 0, slots := 0, locals := 133 } s m [.ref a0].toArray below meth c H locs 0 0 (MQ below (Ti D cs (fun r u => u = (T, O, X) ∧ 0 ≤ r.toInt ∧ r.toInt ≤ 1) A) [.ref a0].toArray s 0 0 A) (F0 m 164 ls []) := by
          intro  H locs ls  hH hS hl
          refine lv_iconst (v := 0) hx hb dX4_readGuide_164 (by decide) ?_
          exact J165 0 _ _ _ (by decide) (by decide) hH hS (lv_sub hl [] rfl)
        refine lv_icmp_eq (tgt := 164) hx hb dX4_readGuide_144 (by decide) (fun c144 => ?_) (fun c144 => ?_)
        · skip
          have tc144 := f_eq (k := -1) (by decide) c144
          exact J164  _ _ _  hH hS (lv_sub hl [] rfl)
        · skip
          have tc144 := f_ne (k := -1) (by decide) c144
          refine lv_aload_n hx hb dX4_readGuide_147 rfl (lv_at hl 1 rfl) ?_
          refine t_get (ci := 4) (lst := ft4 d 0) (C := RX4) (F := TX4) (N := 5) hx hb hts uX4 hown hkb hH t_a0 (hO.no t_a0 (by decide)) (fun _ h9 => h9) rfl rfl 2 (by decide) rfl kw_214 (fun _ h9 => h9) dX4_readGuide_148 (fun v9 h9 => ?_)
          have h9 : v9 = .ref d := h9
          subst h9
          refine x_get (ci := 9) (C := RX9) (F := TX9) (N := 14) (v := .ref q0_10) hx hb hts uX9 hown hkb hH rfl 10 (by decide) rfl kw_146 (fun _ h9 => h9) dX4_readGuide_151 ?_
          refine lv_iload_n hx hb dX4_readGuide_154 rfl (lv_at hl 0 rfl) ?_
          refine t_ild hx hb hkb hH t_q0_10 (hO.no t_q0_10 (by decide)) (by omega) (by omega) dX4_readGuide_155 (fun v155 h9 => ?_)
          refine lv_iconst (v := (-1)) hx hb dX4_readGuide_156 (by decide) ?_
          refine lv_icmp_eq (tgt := 164) hx hb dX4_readGuide_157 (by decide) (fun c157 => ?_) (fun c157 => ?_)
          · skip
            have tc157 := f_eq (k := -1) (by decide) c157
            exact J164  _ _ _  hH hS (lv_sub hl [] rfl)
          · skip
            have tc157 := f_ne (k := -1) (by decide) c157
            refine lv_iconst (v := 1) hx hb dX4_readGuide_160 (by decide) ?_
            refine lv_goto (tgt := 165) hx hb dX4_readGuide_161 (by decide) ?_
            exact J165 1 _ _ _ (by decide) (by decide) hH hS (lv_sub hl [] rfl)
      refine lv_icmp_eq (tgt := 121) hx hb dX4_readGuide_81 (by decide) (fun c81 => ?_) (fun c81 => ?_)
      · skip
        have tc81 := f_eq (k := -1) (by decide) c81
        exact J121  _ _ _  hH hS (lv_sub hl [0, 1] rfl)
      · skip
        have tc81 := f_ne (k := -1) (by decide) c81
        refine lv_aload_n hx hb dX4_readGuide_84 rfl (lv_at hl 1 rfl) ?_
        refine t_get (ci := 4) (lst := ft4 d 0) (C := RX4) (F := TX4) (N := 5) hx hb hts uX4 hown hkb hH t_a0 (hO.no t_a0 (by decide)) (fun _ h9 => h9) rfl rfl 0 (by decide) rfl kw_211 (fun _ h9 => h9) dX4_readGuide_85 (fun v9 h9 => ?_)
        obtain ⟨v85, rfl, t_v85⟩ := h9
        refine va_ldcS (q := kf.1 8) hx hb hown (hks ("FootholdWall$Reader", 170, "weight", 8) (by decide +kernel)) dX4_readGuide_88 ?_
        refine tk_i hH hS hA (tr_V (n := 1) (As := [.ref (kf.1 8)]) hx hb hml hown hts hkb hH (ox_c hOX) hks hE hS hA (s_Tok_isWord l D cs kf T (d :: O) ((d, .inr (9, [.int q0_0, .int q0_1, .int q0_2, .int q0_3, .int q0_4, .int q0_5, .ref q0_6, .ref q0_7, .ref q0_8, .ref q0_9, .ref q0_10, .null, .int q0_12, .int q0_13])) :: X) v85 8 t_v85 (by decide) (hO.sub (by decide))) kw_550 kw_551 kw_552 kw_3 kw_553 (by decide +kernel) ⟨Nat.le_of_ble_eq_true rfl, Nat.le_of_ble_eq_true rfl⟩ (HT.recv (ci := 7) hkb hH t_v85 (hO.no t_v85 (by decide)) rfl) rfl rfl hl.1 (Nat.le_of_ble_eq_true rfl) dX4_readGuide_90 ⟨Nat.le_of_ble_eq_true rfl, Nat.le_of_ble_eq_true rfl⟩) (fun v90 u H locs hz9 hH hS => ?_)
        obtain ⟨rfl, l_v90, u_v90⟩ := hz9
        have hH : HT D cs A T (d :: O) ((d, .inr (9, [.int q0_0, .int q0_1, .int q0_2, .int q0_3, .int q0_4, .int q0_5, .ref q0_6, .ref q0_7, .ref q0_8, .ref q0_9, .ref q0_10, .null, .int q0_12, .int q0_13])) :: X) H := hH
        refine W.widen (k := 0) (n := 0) (Nat.le_of_ble_eq_true rfl) (Nat.le_of_ble_eq_true rfl) ?_
        refine lv_if_eq (tgt := 121) hx hb dX4_readGuide_93 (by decide) (fun c93 => ?_) (fun c93 => ?_)
        · skip
          have tc93 := f_eq (k := 0) (by decide) c93
          exact J121  _ _ _  hH hS (lv_sub hl [0, 1] rfl)
        · skip
          have tc93 := f_ne (k := 0) (by decide) c93
          refine lv_aload_n hx hb dX4_readGuide_96 rfl (lv_at hl 1 rfl) ?_
          refine t_get (ci := 4) (lst := ft4 d 0) (C := RX4) (F := TX4) (N := 5) hx hb hts uX4 hown hkb hH t_a0 (hO.no t_a0 (by decide)) (fun _ h9 => h9) rfl rfl 0 (by decide) rfl kw_211 (fun _ h9 => h9) dX4_readGuide_97 (fun v9 h9 => ?_)
          obtain ⟨v97, rfl, t_v97⟩ := h9
          refine tk_v hH hS hA (tr_V (n := 0) (As := []) hx hb hml hown hts hkb hH (ox_c hOX) hks hE hS hA (s_Tok_go l D cs kf T (d :: O) ((d, .inr (9, [.int q0_0, .int q0_1, .int q0_2, .int q0_3, .int q0_4, .int q0_5, .ref q0_6, .ref q0_7, .ref q0_8, .ref q0_9, .ref q0_10, .null, .int q0_12, .int q0_13])) :: X) v97 t_v97 (hO.sub (by decide))) kw_583 kw_453 kw_454 kw_3 kw_455 (by decide +kernel) ⟨Nat.le_of_ble_eq_true rfl, Nat.le_of_ble_eq_true rfl⟩ (HT.recv (ci := 7) hkb hH t_v97 (hO.no t_v97 (by decide)) rfl) rfl rfl hl.1 (Nat.le_of_ble_eq_true rfl) dX4_readGuide_100 ⟨Nat.le_of_ble_eq_true rfl, Nat.le_of_ble_eq_true rfl⟩) (fun u H locs hz9 hH hS => ?_)
          have hz9 : u = (T, d :: O, (d, .inr (9, [.int q0_0, .int q0_1, .int q0_2, .int q0_3, .int q0_4, .int q0_5, .ref q0_6, .ref q0_7, .ref q0_8, .ref q0_9, .ref q0_10, .null, .int q0_12, .int q0_13])) :: X) := hz9
          subst hz9
          have hH : HT D cs A T (d :: O) ((d, .inr (9, [.int q0_0, .int q0_1, .int q0_2, .int q0_3, .int q0_4, .int q0_5, .ref q0_6, .ref q0_7, .ref q0_8, .ref q0_9, .ref q0_10, .null, .int q0_12, .int q0_13])) :: X) H := hH
          refine W.widen (k := 0) (n := 0) (Nat.le_of_ble_eq_true rfl) (Nat.le_of_ble_eq_true rfl) ?_
          refine lv_aload_n hx hb dX4_readGuide_103 rfl (lv_at hl 1 rfl) ?_
          refine t_get (ci := 4) (lst := ft4 d 0) (C := RX4) (F := TX4) (N := 5) hx hb hts uX4 hown hkb hH t_a0 (hO.no t_a0 (by decide)) (fun _ h9 => h9) rfl rfl 2 (by decide) rfl kw_214 (fun _ h9 => h9) dX4_readGuide_104 (fun v9 h9 => ?_)
          have h9 : v9 = .ref d := h9
          subst h9
          refine x_get (ci := 9) (C := RX9) (F := TX9) (N := 14) (v := .ref q0_10) hx hb hts uX9 hown hkb hH rfl 10 (by decide) rfl kw_146 (fun _ h9 => h9) dX4_readGuide_107 ?_
          refine lv_iload_n hx hb dX4_readGuide_110 rfl (lv_at hl 0 rfl) ?_
          refine lv_aload_n hx hb dX4_readGuide_111 rfl (lv_at hl 1 rfl) ?_
          refine t_get (ci := 4) (lst := ft4 d 0) (C := RX4) (F := TX4) (N := 5) hx hb hts uX4 hown hkb hH t_a0 (hO.no t_a0 (by decide)) (fun _ h9 => h9) rfl rfl 0 (by decide) rfl kw_211 (fun _ h9 => h9) dX4_readGuide_112 (fun v9 h9 => ?_)
          obtain ⟨v112, rfl, t_v112⟩ := h9
          refine lv_bipush (v := 99) hx hb dX4_readGuide_115 (by decide) ?_
          refine tk_i hH hS hA (tr_V (n := 1) (As := [.int 99]) hx hb hml hown hts hkb hH (ox_c hOX) hks hE hS hA (s_Tok_takeNumber l D cs kf T (d :: O) ((d, .inr (9, [.int q0_0, .int q0_1, .int q0_2, .int q0_3, .int q0_4, .int q0_5, .ref q0_6, .ref q0_7, .ref q0_8, .ref q0_9, .ref q0_10, .null, .int q0_12, .int q0_13])) :: X) v112 (99) t_v112 (hO.sub (by decide))) kw_584 kw_585 kw_586 kw_3 kw_587 (by decide +kernel) ⟨Nat.le_of_ble_eq_true rfl, Nat.le_of_ble_eq_true rfl⟩ (HT.recv (ci := 7) hkb hH t_v112 (hO.no t_v112 (by decide)) rfl) rfl rfl hl.1 (Nat.le_of_ble_eq_true rfl) dX4_readGuide_117 ⟨Nat.le_of_ble_eq_true rfl, Nat.le_of_ble_eq_true rfl⟩) (fun v117 u H locs hz9 hH hS => ?_)
          have hz9 : u = (T, d :: O, (d, .inr (9, [.int q0_0, .int q0_1, .int q0_2, .int q0_3, .int q0_4, .int q0_5, .ref q0_6, .ref q0_7, .ref q0_8, .ref q0_9, .ref q0_10, .null, .int q0_12, .int q0_13])) :: X) := hz9
          subst hz9
          have hH : HT D cs A T (d :: O) ((d, .inr (9, [.int q0_0, .int q0_1, .int q0_2, .int q0_3, .int q0_4, .int q0_5, .ref q0_6, .ref q0_7, .ref q0_8, .ref q0_9, .ref q0_10, .null, .int q0_12, .int q0_13])) :: X) H := hH
          refine W.widen (k := 0) (n := 0) (Nat.le_of_ble_eq_true rfl) (Nat.le_of_ble_eq_true rfl) ?_
          refine t_ist hx hb hkb hH hS t_q0_10 (hO.no t_q0_10 (by decide)) (by omega) (by omega) (cp_0 _) dX4_readGuide_120 (fun H locs hH hS => ?_)
          exact J121  _ _ _  hH hS (lv_sub hl [0, 1] rfl)
    · skip
      have tc38 := f_eq (k := 0) (by decide) c38
      refine lv_iconst (v := 0) hx hb dX4_readGuide_41 (by decide) ?_
      have hH : HT D cs A T O X H := HT.lay (ci := 9) hH t_d ((ob9d _).mpr (okL_c (⟨_, rfl, by omega, by omega⟩) (okL_c (⟨_, rfl, by omega, by omega⟩) (okL_c (⟨_, rfl⟩) (okL_c (⟨_, rfl, by omega, by omega⟩) (okL_c (⟨_, rfl, by omega, by omega⟩) (okL_c (⟨_, rfl, by omega, by omega⟩) (okL_c (⟨_, rfl, t_q0_6⟩) (okL_c (⟨_, rfl, t_q0_7⟩) (okL_c (⟨_, rfl, t_q0_8⟩) (okL_c (⟨_, rfl, t_q0_9⟩) (okL_c (⟨_, rfl, t_q0_10⟩) (okL_c (rfl) (okL_c (⟨_, rfl, by omega, by omega⟩) (okL_c (⟨_, rfl, by omega, by omega⟩) (okL_n))))))))))))))))
      have hO := hO0
      exact te_z hx hb hr hlocks (by rfl) hH hS (⟨rfl, by decide, by decide⟩) dX4_readGuide_42
  · skip
    have tc10 := f_nlt (k := 5) (by decide) c10
    refine lv_aload_n hx hb dX4_readGuide_13 rfl (lv_at hl 1 rfl) ?_
    refine t_get (ci := 4) (lst := ft4 d 0) (C := RX4) (F := TX4) (N := 5) hx hb hts uX4 hown hkb hH t_a0 (hO.no t_a0 (by decide)) (fun _ h9 => h9) rfl rfl 0 (by decide) rfl kw_211 (fun _ h9 => h9) dX4_readGuide_14 (fun v9 h9 => ?_)
    obtain ⟨v14, rfl, t_v14⟩ := h9
    refine lv_iconst (v := 4) hx hb dX4_readGuide_17 (by decide) ?_
    refine tk_i hH hS hA (tr_V (n := 1) (As := [.int 4]) hx hb hml hown hts hkb hH (ox_c hOX) hks hE hS hA (s_Tok_refuse l D cs kf T (d :: O) ((d, .inr (9, [.int q0_0, .int q0_1, .int q0_2, .int q0_3, .int q0_4, .int q0_5, .ref q0_6, .ref q0_7, .ref q0_8, .ref q0_9, .ref q0_10, .null, .int q0_12, .int q0_13])) :: X) v14 (4) t_v14 (hO.sub (by decide))) kw_579 kw_580 kw_581 kw_3 kw_582 (by decide +kernel) ⟨Nat.le_of_ble_eq_true rfl, Nat.le_of_ble_eq_true rfl⟩ (HT.recv (ci := 7) hkb hH t_v14 (hO.no t_v14 (by decide)) rfl) rfl rfl hl.1 (Nat.le_of_ble_eq_true rfl) dX4_readGuide_18 ⟨Nat.le_of_ble_eq_true rfl, Nat.le_of_ble_eq_true rfl⟩) (fun v18 u H locs hz9 hH hS => ?_)
    obtain ⟨rfl, l_v18, u_v18⟩ := hz9
    have hH : HT D cs A T (d :: O) ((d, .inr (9, [.int q0_0, .int q0_1, .int q0_2, .int q0_3, .int q0_4, .int q0_5, .ref q0_6, .ref q0_7, .ref q0_8, .ref q0_9, .ref q0_10, .null, .int q0_12, .int q0_13])) :: X) H := hH
    refine W.widen (k := 0) (n := 0) (Nat.le_of_ble_eq_true rfl) (Nat.le_of_ble_eq_true rfl) ?_
    have hH : HT D cs A T O X H := HT.lay (ci := 9) hH t_d ((ob9d _).mpr (okL_c (⟨_, rfl, by omega, by omega⟩) (okL_c (⟨_, rfl, by omega, by omega⟩) (okL_c (⟨_, rfl⟩) (okL_c (⟨_, rfl, by omega, by omega⟩) (okL_c (⟨_, rfl, by omega, by omega⟩) (okL_c (⟨_, rfl, by omega, by omega⟩) (okL_c (⟨_, rfl, t_q0_6⟩) (okL_c (⟨_, rfl, t_q0_7⟩) (okL_c (⟨_, rfl, t_q0_8⟩) (okL_c (⟨_, rfl, t_q0_9⟩) (okL_c (⟨_, rfl, t_q0_10⟩) (okL_c (rfl) (okL_c (⟨_, rfl, by omega, by omega⟩) (okL_c (⟨_, rfl, by omega, by omega⟩) (okL_n))))))))))))))))
    have hO := hO0
    exact te_z hx hb hr hlocks (nar01 (by omega) (by omega)) hH hS (⟨rfl, by omega, by omega⟩) dX4_readGuide_21
set_option maxHeartbeats 4000000 in
set_option maxRecDepth 100000 in
theorem s_RD_readLine (l : Launch) (D : va_G) (cs : CS) (kf : KF) (T : TF) (O : List Nat) (X : va_W) (a0 d : Nat) (t_a0 : T a0 = some (14, d, 0)) (t_d : T d = some (19, 100, 0)) (hO : okO T O [0, 1, 13, 14, 16, 17, 19]) : TK l D cs kf yX4_readLine cX4_readLine 1 (some (.boolean)) { frames := 31, cells := 0, slots := 0, locals := 706 } [.ref a0] T O X (Ti D cs (fun r u => u = (T, O, X) ∧ 0 ≤ r.toInt ∧ r.toInt ≤ 1)) := by
  refine tk_of (by decide) (Nat.le_of_ble_eq_true rfl) (fun p e s m below meth c ls A H locs hx hb hr hml hown hts hlocks hnm hkb hH hS hA hOX hks hE hl => ?_)
  have hown : s.vm.findClass RX4 = some m.cls := hown
  have hl : lv_has ls 1 [(0, .ref a0)] := hl
  refine lv_aload_n hx hb dX4_readLine_0 rfl (lv_at hl 0 rfl) ?_
  refine t_get (ci := 4) (lst := ft4 d 0) (C := RX4) (F := TX4) (N := 5) hx hb hts uX4 hown hkb hH t_a0 (hO.no t_a0 (by decide)) (fun _ h9 => h9) rfl rfl 0 (by decide) rfl kw_211 (fun _ h9 => h9) dX4_readLine_1 (fun v9 h9 => ?_)
  obtain ⟨v1, rfl, t_v1⟩ := h9
  refine va_ldcS (q := kf.1 1) hx hb hown (hks ("FootholdWall$Reader", 81, "hold", 1) (by decide +kernel)) dX4_readLine_4 ?_
  refine tk_i hH hS hA (tr_V (n := 1) (As := [.ref (kf.1 1)]) hx hb hml hown hts hkb hH hOX hks hE hS hA (s_Tok_isWord l D cs kf T O X v1 1 t_v1 (by decide) (hO.sub (by decide))) kw_550 kw_551 kw_552 kw_3 kw_553 (by decide +kernel) ⟨Nat.le_of_ble_eq_true rfl, Nat.le_of_ble_eq_true rfl⟩ (HT.recv (ci := 7) hkb hH t_v1 (hO.no t_v1 (by decide)) rfl) rfl rfl hl.1 (Nat.le_of_ble_eq_true rfl) dX4_readLine_6 ⟨Nat.le_of_ble_eq_true rfl, Nat.le_of_ble_eq_true rfl⟩) (fun v6 u H locs hz9 hH hS => ?_)
  obtain ⟨rfl, l_v6, u_v6⟩ := hz9
  have hH : HT D cs A T O X H := hH
  refine W.widen (k := 0) (n := 0) (Nat.le_of_ble_eq_true rfl) (Nat.le_of_ble_eq_true rfl) ?_
  refine lv_if_eq (tgt := 17) hx hb dX4_readLine_9 (by decide) (fun c9 => ?_) (fun c9 => ?_)
  · skip
    have tc9 := f_eq (k := 0) (by decide) c9
    refine lv_aload_n hx hb dX4_readLine_17 rfl (lv_at hl 0 rfl) ?_
    refine t_get (ci := 4) (lst := ft4 d 0) (C := RX4) (F := TX4) (N := 5) hx hb hts uX4 hown hkb hH t_a0 (hO.no t_a0 (by decide)) (fun _ h9 => h9) rfl rfl 0 (by decide) rfl kw_211 (fun _ h9 => h9) dX4_readLine_18 (fun v9 h9 => ?_)
    obtain ⟨v18, rfl, t_v18⟩ := h9
    refine va_ldcS (q := kf.1 6) hx hb hown (hks ("FootholdWall$Reader", 90, "guide", 6) (by decide +kernel)) dX4_readLine_21 ?_
    refine tk_i hH hS hA (tr_V (n := 1) (As := [.ref (kf.1 6)]) hx hb hml hown hts hkb hH hOX hks hE hS hA (s_Tok_isWord l D cs kf T O X v18 6 t_v18 (by decide) (hO.sub (by decide))) kw_550 kw_551 kw_552 kw_3 kw_553 (by decide +kernel) ⟨Nat.le_of_ble_eq_true rfl, Nat.le_of_ble_eq_true rfl⟩ (HT.recv (ci := 7) hkb hH t_v18 (hO.no t_v18 (by decide)) rfl) rfl rfl hl.1 (Nat.le_of_ble_eq_true rfl) dX4_readLine_23 ⟨Nat.le_of_ble_eq_true rfl, Nat.le_of_ble_eq_true rfl⟩) (fun v23 u H locs hz9 hH hS => ?_)
    obtain ⟨rfl, l_v23, u_v23⟩ := hz9
    have hH : HT D cs A T O X H := hH
    refine W.widen (k := 0) (n := 0) (Nat.le_of_ble_eq_true rfl) (Nat.le_of_ble_eq_true rfl) ?_
    refine lv_if_eq (tgt := 34) hx hb dX4_readLine_26 (by decide) (fun c26 => ?_) (fun c26 => ?_)
    · skip
      have tc26 := f_eq (k := 0) (by decide) c26
      refine lv_aload_n hx hb dX4_readLine_34 rfl (lv_at hl 0 rfl) ?_
      refine t_get (ci := 4) (lst := ft4 d 0) (C := RX4) (F := TX4) (N := 5) hx hb hts uX4 hown hkb hH t_a0 (hO.no t_a0 (by decide)) (fun _ h9 => h9) rfl rfl 0 (by decide) rfl kw_211 (fun _ h9 => h9) dX4_readLine_35 (fun v9 h9 => ?_)
      obtain ⟨v35, rfl, t_v35⟩ := h9
      refine va_ldcS (q := kf.1 9) hx hb hown (hks ("FootholdWall$Reader", 95, "step", 9) (by decide +kernel)) dX4_readLine_38 ?_
      refine tk_i hH hS hA (tr_V (n := 1) (As := [.ref (kf.1 9)]) hx hb hml hown hts hkb hH hOX hks hE hS hA (s_Tok_isWord l D cs kf T O X v35 9 t_v35 (by decide) (hO.sub (by decide))) kw_550 kw_551 kw_552 kw_3 kw_553 (by decide +kernel) ⟨Nat.le_of_ble_eq_true rfl, Nat.le_of_ble_eq_true rfl⟩ (HT.recv (ci := 7) hkb hH t_v35 (hO.no t_v35 (by decide)) rfl) rfl rfl hl.1 (Nat.le_of_ble_eq_true rfl) dX4_readLine_40 ⟨Nat.le_of_ble_eq_true rfl, Nat.le_of_ble_eq_true rfl⟩) (fun v40 u H locs hz9 hH hS => ?_)
      obtain ⟨rfl, l_v40, u_v40⟩ := hz9
      have hH : HT D cs A T O X H := hH
      refine W.widen (k := 0) (n := 0) (Nat.le_of_ble_eq_true rfl) (Nat.le_of_ble_eq_true rfl) ?_
      refine lv_if_eq (tgt := 86) hx hb dX4_readLine_43 (by decide) (fun c43 => ?_) (fun c43 => ?_)
      · skip
        have tc43 := f_eq (k := 0) (by decide) c43
        refine lv_aload_n hx hb dX4_readLine_86 rfl (lv_at hl 0 rfl) ?_
        refine t_get (ci := 4) (lst := ft4 d 0) (C := RX4) (F := TX4) (N := 5) hx hb hts uX4 hown hkb hH t_a0 (hO.no t_a0 (by decide)) (fun _ h9 => h9) rfl rfl 0 (by decide) rfl kw_211 (fun _ h9 => h9) dX4_readLine_87 (fun v9 h9 => ?_)
        obtain ⟨v87, rfl, t_v87⟩ := h9
        refine va_ldcS (q := kf.1 17) hx hb hown (hks ("FootholdWall$Reader", 103, "used", 17) (by decide +kernel)) dX4_readLine_90 ?_
        refine tk_i hH hS hA (tr_V (n := 1) (As := [.ref (kf.1 17)]) hx hb hml hown hts hkb hH hOX hks hE hS hA (s_Tok_isWord l D cs kf T O X v87 17 t_v87 (by decide) (hO.sub (by decide))) kw_550 kw_551 kw_552 kw_3 kw_553 (by decide +kernel) ⟨Nat.le_of_ble_eq_true rfl, Nat.le_of_ble_eq_true rfl⟩ (HT.recv (ci := 7) hkb hH t_v87 (hO.no t_v87 (by decide)) rfl) rfl rfl hl.1 (Nat.le_of_ble_eq_true rfl) dX4_readLine_92 ⟨Nat.le_of_ble_eq_true rfl, Nat.le_of_ble_eq_true rfl⟩) (fun v92 u H locs hz9 hH hS => ?_)
        obtain ⟨rfl, l_v92, u_v92⟩ := hz9
        have hH : HT D cs A T O X H := hH
        refine W.widen (k := 0) (n := 0) (Nat.le_of_ble_eq_true rfl) (Nat.le_of_ble_eq_true rfl) ?_
        refine lv_if_eq (tgt := 103) hx hb dX4_readLine_95 (by decide) (fun c95 => ?_) (fun c95 => ?_)
        · skip
          have tc95 := f_eq (k := 0) (by decide) c95
          refine lv_aload_n hx hb dX4_readLine_103 rfl (lv_at hl 0 rfl) ?_
          refine t_get (ci := 4) (lst := ft4 d 0) (C := RX4) (F := TX4) (N := 5) hx hb hts uX4 hown hkb hH t_a0 (hO.no t_a0 (by decide)) (fun _ h9 => h9) rfl rfl 0 (by decide) rfl kw_211 (fun _ h9 => h9) dX4_readLine_104 (fun v9 h9 => ?_)
          obtain ⟨v104, rfl, t_v104⟩ := h9
          refine va_ldcS (q := kf.1 19) hx hb hown (hks ("FootholdWall$Reader", 108, "broken", 19) (by decide +kernel)) dX4_readLine_107 ?_
          refine tk_i hH hS hA (tr_V (n := 1) (As := [.ref (kf.1 19)]) hx hb hml hown hts hkb hH hOX hks hE hS hA (s_Tok_isWord l D cs kf T O X v104 19 t_v104 (by decide) (hO.sub (by decide))) kw_550 kw_551 kw_552 kw_3 kw_553 (by decide +kernel) ⟨Nat.le_of_ble_eq_true rfl, Nat.le_of_ble_eq_true rfl⟩ (HT.recv (ci := 7) hkb hH t_v104 (hO.no t_v104 (by decide)) rfl) rfl rfl hl.1 (Nat.le_of_ble_eq_true rfl) dX4_readLine_109 ⟨Nat.le_of_ble_eq_true rfl, Nat.le_of_ble_eq_true rfl⟩) (fun v109 u H locs hz9 hH hS => ?_)
          obtain ⟨rfl, l_v109, u_v109⟩ := hz9
          have hH : HT D cs A T O X H := hH
          refine W.widen (k := 0) (n := 0) (Nat.le_of_ble_eq_true rfl) (Nat.le_of_ble_eq_true rfl) ?_
          refine lv_if_eq (tgt := 120) hx hb dX4_readLine_112 (by decide) (fun c112 => ?_) (fun c112 => ?_)
          · skip
            have tc112 := f_eq (k := 0) (by decide) c112
            refine lv_aload_n hx hb dX4_readLine_120 rfl (lv_at hl 0 rfl) ?_
            refine t_get (ci := 4) (lst := ft4 d 0) (C := RX4) (F := TX4) (N := 5) hx hb hts uX4 hown hkb hH t_a0 (hO.no t_a0 (by decide)) (fun _ h9 => h9) rfl rfl 0 (by decide) rfl kw_211 (fun _ h9 => h9) dX4_readLine_121 (fun v9 h9 => ?_)
            obtain ⟨v121, rfl, t_v121⟩ := h9
            refine va_ldcS (q := kf.1 14) hx hb hown (hks ("FootholdWall$Reader", 113, "day", 14) (by decide +kernel)) dX4_readLine_124 ?_
            refine tk_i hH hS hA (tr_V (n := 1) (As := [.ref (kf.1 14)]) hx hb hml hown hts hkb hH hOX hks hE hS hA (s_Tok_isWord l D cs kf T O X v121 14 t_v121 (by decide) (hO.sub (by decide))) kw_550 kw_551 kw_552 kw_3 kw_553 (by decide +kernel) ⟨Nat.le_of_ble_eq_true rfl, Nat.le_of_ble_eq_true rfl⟩ (HT.recv (ci := 7) hkb hH t_v121 (hO.no t_v121 (by decide)) rfl) rfl rfl hl.1 (Nat.le_of_ble_eq_true rfl) dX4_readLine_126 ⟨Nat.le_of_ble_eq_true rfl, Nat.le_of_ble_eq_true rfl⟩) (fun v126 u H locs hz9 hH hS => ?_)
            obtain ⟨rfl, l_v126, u_v126⟩ := hz9
            have hH : HT D cs A T O X H := hH
            refine W.widen (k := 0) (n := 0) (Nat.le_of_ble_eq_true rfl) (Nat.le_of_ble_eq_true rfl) ?_
            refine lv_if_eq (tgt := 173) hx hb dX4_readLine_129 (by decide) (fun c129 => ?_) (fun c129 => ?_)
            · skip
              have tc129 := f_eq (k := 0) (by decide) c129
              refine lv_aload_n hx hb dX4_readLine_173 rfl (lv_at hl 0 rfl) ?_
              refine t_get (ci := 4) (lst := ft4 d 0) (C := RX4) (F := TX4) (N := 5) hx hb hts uX4 hown hkb hH t_a0 (hO.no t_a0 (by decide)) (fun _ h9 => h9) rfl rfl 0 (by decide) rfl kw_211 (fun _ h9 => h9) dX4_readLine_174 (fun v9 h9 => ?_)
              obtain ⟨v174, rfl, t_v174⟩ := h9
              refine lv_iconst (v := 2) hx hb dX4_readLine_177 (by decide) ?_
              refine tk_i hH hS hA (tr_V (n := 1) (As := [.int 2]) hx hb hml hown hts hkb hH hOX hks hE hS hA (s_Tok_refuse l D cs kf T O X v174 (2) t_v174 (hO.sub (by decide))) kw_579 kw_580 kw_581 kw_3 kw_582 (by decide +kernel) ⟨Nat.le_of_ble_eq_true rfl, Nat.le_of_ble_eq_true rfl⟩ (HT.recv (ci := 7) hkb hH t_v174 (hO.no t_v174 (by decide)) rfl) rfl rfl hl.1 (Nat.le_of_ble_eq_true rfl) dX4_readLine_178 ⟨Nat.le_of_ble_eq_true rfl, Nat.le_of_ble_eq_true rfl⟩) (fun v178 u H locs hz9 hH hS => ?_)
              obtain ⟨rfl, l_v178, u_v178⟩ := hz9
              have hH : HT D cs A T O X H := hH
              refine W.widen (k := 0) (n := 0) (Nat.le_of_ble_eq_true rfl) (Nat.le_of_ble_eq_true rfl) ?_
              exact te_z hx hb hr hlocks (nar01 (by omega) (by omega)) hH hS (⟨rfl, by omega, by omega⟩) dX4_readLine_181
            · skip
              have tc129 := f_ne (k := 0) (by decide) c129
              refine lv_aload_n hx hb dX4_readLine_132 rfl (lv_at hl 0 rfl) ?_
              refine t_get (ci := 4) (lst := ft4 d 0) (C := RX4) (F := TX4) (N := 5) hx hb hts uX4 hown hkb hH t_a0 (hO.no t_a0 (by decide)) (fun _ h9 => h9) rfl rfl 0 (by decide) rfl kw_211 (fun _ h9 => h9) dX4_readLine_133 (fun v9 h9 => ?_)
              obtain ⟨v133, rfl, t_v133⟩ := h9
              refine tk_v hH hS hA (tr_V (n := 0) (As := []) hx hb hml hown hts hkb hH hOX hks hE hS hA (s_Tok_go l D cs kf T O X v133 t_v133 (hO.sub (by decide))) kw_583 kw_453 kw_454 kw_3 kw_455 (by decide +kernel) ⟨Nat.le_of_ble_eq_true rfl, Nat.le_of_ble_eq_true rfl⟩ (HT.recv (ci := 7) hkb hH t_v133 (hO.no t_v133 (by decide)) rfl) rfl rfl hl.1 (Nat.le_of_ble_eq_true rfl) dX4_readLine_136 ⟨Nat.le_of_ble_eq_true rfl, Nat.le_of_ble_eq_true rfl⟩) (fun u H locs hz9 hH hS => ?_)
              have hz9 : u = (T, O, X) := hz9
              subst hz9
              have hH : HT D cs A T O X H := hH
              refine W.widen (k := 0) (n := 0) (Nat.le_of_ble_eq_true rfl) (Nat.le_of_ble_eq_true rfl) ?_
              refine lv_aload_n hx hb dX4_readLine_139 rfl (lv_at hl 0 rfl) ?_
              refine t_get (ci := 4) (lst := ft4 d 0) (C := RX4) (F := TX4) (N := 5) hx hb hts uX4 hown hkb hH t_a0 (hO.no t_a0 (by decide)) (fun _ h9 => h9) rfl rfl 4 (by decide) rfl kw_216 (fun _ h9 => h9) dX4_readLine_140 (fun v9 h9 => ?_)
              obtain ⟨v140, rfl, t_v140⟩ := h9
              refine lv_aload_n hx hb dX4_readLine_143 rfl (lv_at hl 0 rfl) ?_
              refine t_get (ci := 4) (lst := ft4 d 0) (C := RX4) (F := TX4) (N := 5) hx hb hts uX4 hown hkb hH t_a0 (hO.no t_a0 (by decide)) (fun _ h9 => h9) rfl rfl 0 (by decide) rfl kw_211 (fun _ h9 => h9) dX4_readLine_144 (fun v9 h9 => ?_)
              obtain ⟨v144, rfl, t_v144⟩ := h9
              refine lv_sipush (v := 999) hx hb dX4_readLine_147 (by decide) ?_
              refine tk_i hH hS hA (tr_V (n := 1) (As := [.int 999]) hx hb hml hown hts hkb hH hOX hks hE hS hA (s_Tok_takeNumber l D cs kf T O X v144 (999) t_v144 (hO.sub (by decide))) kw_584 kw_585 kw_586 kw_3 kw_587 (by decide +kernel) ⟨Nat.le_of_ble_eq_true rfl, Nat.le_of_ble_eq_true rfl⟩ (HT.recv (ci := 7) hkb hH t_v144 (hO.no t_v144 (by decide)) rfl) rfl rfl hl.1 (Nat.le_of_ble_eq_true rfl) dX4_readLine_150 ⟨Nat.le_of_ble_eq_true rfl, Nat.le_of_ble_eq_true rfl⟩) (fun v150 u H locs hz9 hH hS => ?_)
              have hz9 : u = (T, O, X) := hz9
              subst hz9
              have hH : HT D cs A T O X H := hH
              refine W.widen (k := 0) (n := 0) (Nat.le_of_ble_eq_true rfl) (Nat.le_of_ble_eq_true rfl) ?_
              refine t_put (ci := 6) (lst := ft6 0 0) (v := .int v150) (ty := tyX6 2) (C := RX6) (F := TX6) (N := 6) hx hb hts uX6 tyX6 tyX6_ok nmX6 hown hkb hH hS t_v140 (hO.no t_v140 (by decide)) (fun _ => Iff.rfl) rfl rfl 2 (by decide) rfl (⟨_, rfl⟩) kw_190 (fun _ h9 => h9) rfl (tyX6_ok 2 (by decide)) rfl rfl dX4_readLine_153 (fun H locs hH hS => ?_)
              refine lv_aload_n hx hb dX4_readLine_156 rfl (lv_at hl 0 rfl) ?_
              refine t_get (ci := 4) (lst := ft4 d 0) (C := RX4) (F := TX4) (N := 5) hx hb hts uX4 hown hkb hH t_a0 (hO.no t_a0 (by decide)) (fun _ h9 => h9) rfl rfl 4 (by decide) rfl kw_216 (fun _ h9 => h9) dX4_readLine_157 (fun v9 h9 => ?_)
              obtain ⟨v157, rfl, t_v157⟩ := h9
              refine t_get (ci := 6) (lst := ft6 0 0) (C := RX6) (F := TX6) (N := 6) hx hb hts uX6 hown hkb hH t_v157 (hO.no t_v157 (by decide)) (fun _ h9 => h9) rfl rfl 2 (by decide) rfl kw_190 (fun _ h9 => h9) dX4_readLine_160 (fun v9 h9 => ?_)
              obtain ⟨v160, rfl⟩ := h9
              refine lv_iconst (v := (-1)) hx hb dX4_readLine_163 (by decide) ?_
              have J172 : ∀ (k172_0 : Int32) (H : Heap) (locs : List Loc) (ls : Array Slot), (0 ≤ k172_0.toInt) → (k172_0.toInt ≤ 1) → HT D cs A T O X H → va_S A s.heap H locs → lv_has ls 1 [] → W p l e { frames := 31, cells := 0, slots := 0, locals := 706 } s m [.ref a0].toArray below meth c H locs 0 0 (MQ below (Ti D cs (fun r u => u = (T, O, X) ∧ 0 ≤ r.toInt ∧ r.toInt ≤ 1) A) [.ref a0].toArray s 0 0 A) (F0 m 172 ls [.int k172_0]) := by
                intro k172_0 H locs ls l_k172_0 u_k172_0 hH hS hl
                exact te_z hx hb hr hlocks (nar01 (by omega) (by omega)) hH hS (⟨rfl, by omega, by omega⟩) dX4_readLine_172
              refine lv_icmp_eq (tgt := 171) hx hb dX4_readLine_164 (by decide) (fun c164 => ?_) (fun c164 => ?_)
              · skip
                have tc164 := f_eq (k := -1) (by decide) c164
                refine lv_iconst (v := 0) hx hb dX4_readLine_171 (by decide) ?_
                exact J172 0 _ _ _ (by decide) (by decide) hH hS (lv_sub hl [] rfl)
              · skip
                have tc164 := f_ne (k := -1) (by decide) c164
                refine lv_iconst (v := 1) hx hb dX4_readLine_167 (by decide) ?_
                refine lv_goto (tgt := 172) hx hb dX4_readLine_168 (by decide) ?_
                exact J172 1 _ _ _ (by decide) (by decide) hH hS (lv_sub hl [] rfl)
          · skip
            have tc112 := f_ne (k := 0) (by decide) c112
            refine lv_aload_n hx hb dX4_readLine_115 rfl (lv_at hl 0 rfl) ?_
            refine tk_i hH hS hA (tr_V (n := 0) (As := []) hx hb hml hown hts hkb hH hOX hks hE hS hA (s_RD_readBroken l D cs kf T O X a0 d t_a0 t_d (hO.sub (by decide))) kw_698 kw_700 ks_16 kw_2 kw_701 (by decide +kernel) ⟨Nat.le_of_ble_eq_true rfl, Nat.le_of_ble_eq_true rfl⟩ (HT.recv (ci := 4) hkb hH t_a0 (hO.no t_a0 (by decide)) rfl) rfl rfl hl.1 (Nat.le_of_ble_eq_true rfl) dX4_readLine_116 ⟨Nat.le_of_ble_eq_true rfl, Nat.le_of_ble_eq_true rfl⟩) (fun v116 u H locs hz9 hH hS => ?_)
            obtain ⟨rfl, l_v116, u_v116⟩ := hz9
            have hH : HT D cs A T O X H := hH
            refine W.widen (k := 0) (n := 0) (Nat.le_of_ble_eq_true rfl) (Nat.le_of_ble_eq_true rfl) ?_
            exact te_z hx hb hr hlocks (nar01 (by omega) (by omega)) hH hS (⟨rfl, by omega, by omega⟩) dX4_readLine_119
        · skip
          have tc95 := f_ne (k := 0) (by decide) c95
          refine lv_aload_n hx hb dX4_readLine_98 rfl (lv_at hl 0 rfl) ?_
          refine tk_i hH hS hA (tr_V (n := 0) (As := []) hx hb hml hown hts hkb hH hOX hks hE hS hA (s_RD_readUsed l D cs kf T O X a0 d t_a0 t_d (hO.sub (by decide))) kw_678 kw_680 ks_15 kw_2 kw_681 (by decide +kernel) ⟨Nat.le_of_ble_eq_true rfl, Nat.le_of_ble_eq_true rfl⟩ (HT.recv (ci := 4) hkb hH t_a0 (hO.no t_a0 (by decide)) rfl) rfl rfl hl.1 (Nat.le_of_ble_eq_true rfl) dX4_readLine_99 ⟨Nat.le_of_ble_eq_true rfl, Nat.le_of_ble_eq_true rfl⟩) (fun v99 u H locs hz9 hH hS => ?_)
          obtain ⟨rfl, l_v99, u_v99⟩ := hz9
          have hH : HT D cs A T O X H := hH
          refine W.widen (k := 0) (n := 0) (Nat.le_of_ble_eq_true rfl) (Nat.le_of_ble_eq_true rfl) ?_
          exact te_z hx hb hr hlocks (nar01 (by omega) (by omega)) hH hS (⟨rfl, by omega, by omega⟩) dX4_readLine_102
      · skip
        have tc43 := f_ne (k := 0) (by decide) c43
        refine lv_aload_n hx hb dX4_readLine_46 rfl (lv_at hl 0 rfl) ?_
        refine t_get (ci := 4) (lst := ft4 d 0) (C := RX4) (F := TX4) (N := 5) hx hb hts uX4 hown hkb hH t_a0 (hO.no t_a0 (by decide)) (fun _ h9 => h9) rfl rfl 0 (by decide) rfl kw_211 (fun _ h9 => h9) dX4_readLine_47 (fun v9 h9 => ?_)
        obtain ⟨v47, rfl, t_v47⟩ := h9
        refine tk_v hH hS hA (tr_V (n := 0) (As := []) hx hb hml hown hts hkb hH hOX hks hE hS hA (s_Tok_go l D cs kf T O X v47 t_v47 (hO.sub (by decide))) kw_583 kw_453 kw_454 kw_3 kw_455 (by decide +kernel) ⟨Nat.le_of_ble_eq_true rfl, Nat.le_of_ble_eq_true rfl⟩ (HT.recv (ci := 7) hkb hH t_v47 (hO.no t_v47 (by decide)) rfl) rfl rfl hl.1 (Nat.le_of_ble_eq_true rfl) dX4_readLine_50 ⟨Nat.le_of_ble_eq_true rfl, Nat.le_of_ble_eq_true rfl⟩) (fun u H locs hz9 hH hS => ?_)
        have hz9 : u = (T, O, X) := hz9
        subst hz9
        have hH : HT D cs A T O X H := hH
        refine W.widen (k := 0) (n := 0) (Nat.le_of_ble_eq_true rfl) (Nat.le_of_ble_eq_true rfl) ?_
        refine lv_aload_n hx hb dX4_readLine_53 rfl (lv_at hl 0 rfl) ?_
        refine lv_iconst (v := 1) hx hb dX4_readLine_54 (by decide) ?_
        refine t_put (ci := 4) (lst := ft4 d 0) (v := .int 1) (ty := tyX4 3) (C := RX4) (F := TX4) (N := 5) hx hb hts uX4 tyX4 tyX4_ok nmX4 hown hkb hH hS t_a0 (hO.no t_a0 (by decide)) (fun _ => Iff.rfl) rfl rfl 3 (by decide) rfl (⟨_, rfl, by decide, by decide⟩) kw_215 (fun _ h9 => h9) rfl (tyX4_ok 3 (by decide)) rfl rfl dX4_readLine_55 (fun H locs hH hS => ?_)
        refine lv_aload_n hx hb dX4_readLine_58 rfl (lv_at hl 0 rfl) ?_
        refine t_get (ci := 4) (lst := ft4 d 0) (C := RX4) (F := TX4) (N := 5) hx hb hts uX4 hown hkb hH t_a0 (hO.no t_a0 (by decide)) (fun _ h9 => h9) rfl rfl 0 (by decide) rfl kw_211 (fun _ h9 => h9) dX4_readLine_59 (fun v9 h9 => ?_)
        obtain ⟨v59, rfl, t_v59⟩ := h9
        refine lv_bipush (v := 58) hx hb dX4_readLine_62 (by decide) ?_
        refine tk_i hH hS hA (tr_V (n := 1) (As := [.int 58]) hx hb hml hown hts hkb hH hOX hks hE hS hA (s_Tok_takeSign l D cs kf T O X v59 (58) t_v59 (hO.sub (by decide))) kw_610 kw_611 kw_612 kw_3 kw_613 (by decide +kernel) ⟨Nat.le_of_ble_eq_true rfl, Nat.le_of_ble_eq_true rfl⟩ (HT.recv (ci := 7) hkb hH t_v59 (hO.no t_v59 (by decide)) rfl) rfl rfl hl.1 (Nat.le_of_ble_eq_true rfl) dX4_readLine_64 ⟨Nat.le_of_ble_eq_true rfl, Nat.le_of_ble_eq_true rfl⟩) (fun v64 u H locs hz9 hH hS => ?_)
        obtain ⟨rfl, l_v64, u_v64⟩ := hz9
        have hH : HT D cs A T O X H := hH
        refine W.widen (k := 0) (n := 0) (Nat.le_of_ble_eq_true rfl) (Nat.le_of_ble_eq_true rfl) ?_
        have J85 : ∀ (k85_0 : Int32) (H : Heap) (locs : List Loc) (ls : Array Slot), (0 ≤ k85_0.toInt) → (k85_0.toInt ≤ 1) → HT D cs A T O X H → va_S A s.heap H locs → lv_has ls 1 [] → W p l e { frames := 31, cells := 0, slots := 0, locals := 706 } s m [.ref a0].toArray below meth c H locs 0 0 (MQ below (Ti D cs (fun r u => u = (T, O, X) ∧ 0 ≤ r.toInt ∧ r.toInt ≤ 1) A) [.ref a0].toArray s 0 0 A) (F0 m 85 ls [.int k85_0]) := by
          intro k85_0 H locs ls l_k85_0 u_k85_0 hH hS hl
          exact te_z hx hb hr hlocks (nar01 (by omega) (by omega)) hH hS (⟨rfl, by omega, by omega⟩) dX4_readLine_85
        have J84 : ∀  (H : Heap) (locs : List Loc) (ls : Array Slot), HT D cs A T O X H → va_S A s.heap H locs → lv_has ls 1 [] → W p l e { frames := 31, cells := 0, slots := 0, locals := 706 } s m [.ref a0].toArray below meth c H locs 0 0 (MQ below (Ti D cs (fun r u => u = (T, O, X) ∧ 0 ≤ r.toInt ∧ r.toInt ≤ 1) A) [.ref a0].toArray s 0 0 A) (F0 m 84 ls []) := by
          intro  H locs ls  hH hS hl
          refine lv_iconst (v := 0) hx hb dX4_readLine_84 (by decide) ?_
          exact J85 0 _ _ _ (by decide) (by decide) hH hS (lv_sub hl [] rfl)
        refine lv_if_eq (tgt := 84) hx hb dX4_readLine_67 (by decide) (fun c67 => ?_) (fun c67 => ?_)
        · skip
          have tc67 := f_eq (k := 0) (by decide) c67
          exact J84  _ _ _  hH hS (lv_sub hl [] rfl)
        · skip
          have tc67 := f_ne (k := 0) (by decide) c67
          refine lv_aload_n hx hb dX4_readLine_70 rfl (lv_at hl 0 rfl) ?_
          refine t_get (ci := 4) (lst := ft4 d 0) (C := RX4) (F := TX4) (N := 5) hx hb hts uX4 hown hkb hH t_a0 (hO.no t_a0 (by decide)) (fun _ h9 => h9) rfl rfl 1 (by decide) rfl kw_213 (fun _ h9 => h9) dX4_readLine_71 (fun v9 h9 => ?_)
          obtain ⟨v71, rfl, t_v71⟩ := h9
          refine tk_i hH hS hA (tr_V (n := 0) (As := []) hx hb hml hown hts hkb hH hOX hks hE hS hA (s_LR_read l D cs kf T O X v71 t_v71 (hO.sub (by decide))) kw_618 kw_619 kw_620 kw_4 kw_621 (by decide +kernel) ⟨Nat.le_of_ble_eq_true rfl, Nat.le_of_ble_eq_true rfl⟩ (HT.recv (ci := 3) hkb hH t_v71 (hO.no t_v71 (by decide)) rfl) rfl rfl hl.1 (Nat.le_of_ble_eq_true rfl) dX4_readLine_74 ⟨Nat.le_of_ble_eq_true rfl, Nat.le_of_ble_eq_true rfl⟩) (fun v74 u H locs hz9 hH hS => ?_)
          obtain ⟨rfl, l_v74, u_v74⟩ := hz9
          have hH : HT D cs A T O X H := hH
          refine W.widen (k := 0) (n := 0) (Nat.le_of_ble_eq_true rfl) (Nat.le_of_ble_eq_true rfl) ?_
          refine lv_if_eq (tgt := 84) hx hb dX4_readLine_77 (by decide) (fun c77 => ?_) (fun c77 => ?_)
          · skip
            have tc77 := f_eq (k := 0) (by decide) c77
            exact J84  _ _ _  hH hS (lv_sub hl [] rfl)
          · skip
            have tc77 := f_ne (k := 0) (by decide) c77
            refine lv_iconst (v := 1) hx hb dX4_readLine_80 (by decide) ?_
            refine lv_goto (tgt := 85) hx hb dX4_readLine_81 (by decide) ?_
            exact J85 1 _ _ _ (by decide) (by decide) hH hS (lv_sub hl [] rfl)
    · skip
      have tc26 := f_ne (k := 0) (by decide) c26
      refine lv_aload_n hx hb dX4_readLine_29 rfl (lv_at hl 0 rfl) ?_
      refine tk_i hH hS hA (tr_V (n := 0) (As := []) hx hb hml hown hts hkb hH hOX hks hE hS hA (s_RD_readGuide l D cs kf T O X a0 d t_a0 t_d (hO.sub (by decide))) kw_598 kw_600 ks_4 kw_2 kw_601 (by decide +kernel) ⟨Nat.le_of_ble_eq_true rfl, Nat.le_of_ble_eq_true rfl⟩ (HT.recv (ci := 4) hkb hH t_a0 (hO.no t_a0 (by decide)) rfl) rfl rfl hl.1 (Nat.le_of_ble_eq_true rfl) dX4_readLine_30 ⟨Nat.le_of_ble_eq_true rfl, Nat.le_of_ble_eq_true rfl⟩) (fun v30 u H locs hz9 hH hS => ?_)
      obtain ⟨rfl, l_v30, u_v30⟩ := hz9
      have hH : HT D cs A T O X H := hH
      refine W.widen (k := 0) (n := 0) (Nat.le_of_ble_eq_true rfl) (Nat.le_of_ble_eq_true rfl) ?_
      exact te_z hx hb hr hlocks (nar01 (by omega) (by omega)) hH hS (⟨rfl, by omega, by omega⟩) dX4_readLine_33
  · skip
    have tc9 := f_ne (k := 0) (by decide) c9
    refine lv_aload_n hx hb dX4_readLine_12 rfl (lv_at hl 0 rfl) ?_
    refine tk_i hH hS hA (tr_V (n := 0) (As := []) hx hb hml hown hts hkb hH hOX hks hE hS hA (s_RD_readHold l D cs kf T O X a0 d t_a0 t_d (hO.sub (by decide))) kw_575 kw_577 ks_2 kw_2 kw_578 (by decide +kernel) ⟨Nat.le_of_ble_eq_true rfl, Nat.le_of_ble_eq_true rfl⟩ (HT.recv (ci := 4) hkb hH t_a0 (hO.no t_a0 (by decide)) rfl) rfl rfl hl.1 (Nat.le_of_ble_eq_true rfl) dX4_readLine_13 ⟨Nat.le_of_ble_eq_true rfl, Nat.le_of_ble_eq_true rfl⟩) (fun v13 u H locs hz9 hH hS => ?_)
    obtain ⟨rfl, l_v13, u_v13⟩ := hz9
    have hH : HT D cs A T O X H := hH
    refine W.widen (k := 0) (n := 0) (Nat.le_of_ble_eq_true rfl) (Nat.le_of_ble_eq_true rfl) ?_
    exact te_z hx hb hr hlocks (nar01 (by omega) (by omega)) hH hS (⟨rfl, by omega, by omega⟩) dX4_readLine_16
set_option maxHeartbeats 4000000 in
set_option maxRecDepth 100000 in
theorem s_RD_read (l : Launch) (D : va_G) (cs : CS) (kf : KF) (T : TF) (O : List Nat) (X : va_W) (a0 d : Nat) (a1 : Nat) (x2 : Int32) (t_a0 : T a0 = some (14, d, 0)) (t_d : T d = some (19, 100, 0)) (t_a1 : T a1 = some (0, 900, 0)) (l_x2 : 0 ≤ x2.toInt) (u_x2 : x2.toInt ≤ 900) (hO : okO T O [0, 1, 13, 14, 16, 17, 19]) : TK l D cs kf yX4_read cX4_read 4 (some (.boolean)) { frames := 32, cells := 0, slots := 0, locals := 726 } [.ref a0, .ref a1, .int x2] T O X (Ti D cs (fun r u => u = (T, O, X) ∧ 0 ≤ r.toInt ∧ r.toInt ≤ 1)) := by
  refine tk_of (by decide) (Nat.le_of_ble_eq_true rfl) (fun p e s m below meth c ls A H locs hx hb hr hml hown hts hlocks hnm hkb hH hS hA hOX hks hE hl => ?_)
  have hown : s.vm.findClass RX4 = some m.cls := hown
  have hl : lv_has ls 4 [(0, .ref a0), (1, .ref a1), (2, .int x2)] := hl
  refine lv_aload_n hx hb dX4_read_0 rfl (lv_at hl 0 rfl) ?_
  refine t_get (ci := 4) (lst := ft4 d 0) (C := RX4) (F := TX4) (N := 5) hx hb hts uX4 hown hkb hH t_a0 (hO.no t_a0 (by decide)) (fun _ h9 => h9) rfl rfl 2 (by decide) rfl kw_214 (fun _ h9 => h9) dX4_read_1 (fun v9 h9 => ?_)
  have h9 : v9 = .ref d := h9
  subst h9
  refine tk_v hH hS hA (tr_V (n := 0) (As := []) hx hb hml hown hts hkb hH hOX hks hE hS hA (s_Wall_forget l D cs kf T O X d t_d (hO.sub (by decide))) kw_437 kw_438 kw_439 kw_5 kw_440 (by decide +kernel) ⟨Nat.le_of_ble_eq_true rfl, Nat.le_of_ble_eq_true rfl⟩ (HT.recv (ci := 9) hkb hH t_d (hO.no t_d (by decide)) rfl) rfl rfl hl.1 (Nat.le_of_ble_eq_true rfl) dX4_read_4 ⟨Nat.le_of_ble_eq_true rfl, Nat.le_of_ble_eq_true rfl⟩) (fun u H locs hz9 hH hS => ?_)
  have hz9 : u = (T, O, X) := hz9
  subst hz9
  have hH : HT D cs A T O X H := hH
  refine W.widen (k := 0) (n := 0) (Nat.le_of_ble_eq_true rfl) (Nat.le_of_ble_eq_true rfl) ?_
  refine lv_aload_n hx hb dX4_read_7 rfl (lv_at hl 0 rfl) ?_
  refine t_get (ci := 4) (lst := ft4 d 0) (C := RX4) (F := TX4) (N := 5) hx hb hts uX4 hown hkb hH t_a0 (hO.no t_a0 (by decide)) (fun _ h9 => h9) rfl rfl 4 (by decide) rfl kw_216 (fun _ h9 => h9) dX4_read_8 (fun v9 h9 => ?_)
  obtain ⟨v8, rfl, t_v8⟩ := h9
  refine tk_v hH hS hA (tr_V (n := 0) (As := []) hx hb hml hown hts hkb hH hOX hks hE hS hA (s_State_forget l D cs kf T O X v8 t_v8 (hO.sub (by decide))) kw_441 kw_442 kw_443 kw_7 kw_444 (by decide +kernel) ⟨Nat.le_of_ble_eq_true rfl, Nat.le_of_ble_eq_true rfl⟩ (HT.recv (ci := 6) hkb hH t_v8 (hO.no t_v8 (by decide)) rfl) rfl rfl hl.1 (Nat.le_of_ble_eq_true rfl) dX4_read_11 ⟨Nat.le_of_ble_eq_true rfl, Nat.le_of_ble_eq_true rfl⟩) (fun u H locs hz9 hH hS => ?_)
  have hz9 : u = (T, O, X) := hz9
  subst hz9
  have hH : HT D cs A T O X H := hH
  refine W.widen (k := 0) (n := 0) (Nat.le_of_ble_eq_true rfl) (Nat.le_of_ble_eq_true rfl) ?_
  refine lv_aload_n hx hb dX4_read_14 rfl (lv_at hl 0 rfl) ?_
  refine lv_iconst (v := 0) hx hb dX4_read_15 (by decide) ?_
  refine t_put (ci := 4) (lst := ft4 d 0) (v := .int 0) (ty := tyX4 3) (C := RX4) (F := TX4) (N := 5) hx hb hts uX4 tyX4 tyX4_ok nmX4 hown hkb hH hS t_a0 (hO.no t_a0 (by decide)) (fun _ => Iff.rfl) rfl rfl 3 (by decide) rfl (⟨_, rfl, by decide, by decide⟩) kw_215 (fun _ h9 => h9) rfl (tyX4_ok 3 (by decide)) rfl rfl dX4_read_16 (fun H locs hH hS => ?_)
  refine lv_aload_n hx hb dX4_read_19 rfl (lv_at hl 0 rfl) ?_
  refine t_get (ci := 4) (lst := ft4 d 0) (C := RX4) (F := TX4) (N := 5) hx hb hts uX4 hown hkb hH t_a0 (hO.no t_a0 (by decide)) (fun _ h9 => h9) rfl rfl 0 (by decide) rfl kw_211 (fun _ h9 => h9) dX4_read_20 (fun v9 h9 => ?_)
  obtain ⟨v20, rfl, t_v20⟩ := h9
  refine lv_aload_n hx hb dX4_read_23 rfl (lv_at hl 1 rfl) ?_
  refine lv_iload_n hx hb dX4_read_24 rfl (lv_at hl 2 rfl) ?_
  refine tk_v hH hS hA (tr_V (n := 2) (As := [.ref a1, .int x2]) hx hb hml hown hts hkb hH hOX hks hE hS hA (s_Tok_begin l D cs kf T O X v20 a1 x2 t_v20 t_a1 (by omega) (hO.sub (by decide))) kw_445 kw_446 kw_447 kw_3 kw_448 (by decide +kernel) ⟨Nat.le_of_ble_eq_true rfl, Nat.le_of_ble_eq_true rfl⟩ (HT.recv (ci := 7) hkb hH t_v20 (hO.no t_v20 (by decide)) rfl) rfl rfl hl.1 (Nat.le_of_ble_eq_true rfl) dX4_read_25 ⟨Nat.le_of_ble_eq_true rfl, Nat.le_of_ble_eq_true rfl⟩) (fun u H locs hz9 hH hS => ?_)
  have hz9 : u = (T, O, X) := hz9
  subst hz9
  have hH : HT D cs A T O X H := hH
  refine W.widen (k := 0) (n := 0) (Nat.le_of_ble_eq_true rfl) (Nat.le_of_ble_eq_true rfl) ?_
  refine lv_iconst (v := 0) hx hb dX4_read_28 (by decide) ?_
  have J30 : ∀ (n : Nat) (p30_3 : Int32) (H : Heap) (locs : List Loc) (ls : Array Slot), (900 - p30_3.toInt).toNat = n → (0 ≤ p30_3.toInt) → (p30_3.toInt ≤ 900) → HT D cs A T O X H → va_S A s.heap H locs → lv_has ls 4 [(3, .int p30_3), (0, .ref a0)] → W p l e { frames := 32, cells := 0, slots := 0, locals := 726 } s m [.ref a0, .ref a1, .int x2].toArray below meth c H locs 0 0 (MQ below (Ti D cs (fun r u => u = (T, O, X) ∧ 0 ≤ r.toInt ∧ r.toInt ≤ 1) A) [.ref a0, .ref a1, .int x2].toArray s 0 0 A) (F0 m 30 ls []) := by
    intro n
    induction n using Nat.strongRecOn with
    | _ n ih30 =>
      intro p30_3 H locs ls hm30 l_p30_3 u_p30_3 hH hS hl
      refine lv_iload_n hx hb dX4_read_30 rfl (lv_at hl 0 rfl) ?_
      refine lv_sipush (v := 900) hx hb dX4_read_31 (by decide) ?_
      have J87 : ∀  (H : Heap) (locs : List Loc) (ls : Array Slot), HT D cs A T O X H → va_S A s.heap H locs → lv_has ls 4 [(0, .ref a0)] → W p l e { frames := 32, cells := 0, slots := 0, locals := 726 } s m [.ref a0, .ref a1, .int x2].toArray below meth c H locs 0 0 (MQ below (Ti D cs (fun r u => u = (T, O, X) ∧ 0 ≤ r.toInt ∧ r.toInt ≤ 1) A) [.ref a0, .ref a1, .int x2].toArray s 0 0 A) (F0 m 87 ls []) := by
        intro  H locs ls  hH hS hl
        refine lv_aload_n hx hb dX4_read_87 rfl (lv_at hl 0 rfl) ?_
        refine t_get (ci := 4) (lst := ft4 d 0) (C := RX4) (F := TX4) (N := 5) hx hb hts uX4 hown hkb hH t_a0 (hO.no t_a0 (by decide)) (fun _ h9 => h9) rfl rfl 4 (by decide) rfl kw_216 (fun _ h9 => h9) dX4_read_88 (fun v9 h9 => ?_)
        obtain ⟨v88, rfl, t_v88⟩ := h9
        refine tk_v hH hS hA (tr_V (n := 0) (As := []) hx hb hml hown hts hkb hH hOX hks hE hS hA (s_State_useSinceToday l D cs kf T O X v88 t_v88 (hO.sub (by decide))) kw_707 kw_708 kw_709 kw_7 kw_710 (by decide +kernel) ⟨Nat.le_of_ble_eq_true rfl, Nat.le_of_ble_eq_true rfl⟩ (HT.recv (ci := 6) hkb hH t_v88 (hO.no t_v88 (by decide)) rfl) rfl rfl hl.1 (Nat.le_of_ble_eq_true rfl) dX4_read_91 ⟨Nat.le_of_ble_eq_true rfl, Nat.le_of_ble_eq_true rfl⟩) (fun u H locs hz9 hH hS => ?_)
        have hz9 : u = (T, O, X) := hz9
        subst hz9
        have hH : HT D cs A T O X H := hH
        refine W.widen (k := 0) (n := 0) (Nat.le_of_ble_eq_true rfl) (Nat.le_of_ble_eq_true rfl) ?_
        refine lv_iconst (v := 1) hx hb dX4_read_94 (by decide) ?_
        exact te_z hx hb hr hlocks (by rfl) hH hS (⟨rfl, by decide, by decide⟩) dX4_read_95
      refine lv_icmp_ge (tgt := 87) hx hb dX4_read_34 (by decide) (fun c34 => ?_) (fun c34 => ?_)
      · skip
        have tc34 := f_ge (k := 900) (by decide) c34
        exact J87  _ _ _  hH hS (lv_sub hl [1] rfl)
      · skip
        have tc34 := f_nge (k := 900) (by decide) c34
        refine lv_aload_n hx hb dX4_read_37 rfl (lv_at hl 1 rfl) ?_
        refine t_get (ci := 4) (lst := ft4 d 0) (C := RX4) (F := TX4) (N := 5) hx hb hts uX4 hown hkb hH t_a0 (hO.no t_a0 (by decide)) (fun _ h9 => h9) rfl rfl 0 (by decide) rfl kw_211 (fun _ h9 => h9) dX4_read_38 (fun v9 h9 => ?_)
        obtain ⟨v38, rfl, t_v38⟩ := h9
        refine t_get (ci := 7) (lst := ft7 0 0) (C := RX7) (F := TX7) (N := 8) hx hb hts uX7 hown hkb hH t_v38 (hO.no t_v38 (by decide)) (fun _ h9 => ob7_ok h9) rfl rfl 4 (by decide) rfl kw_49 (fun _ h9 => h9) dX4_read_41 (fun v9 h9 => ?_)
        obtain ⟨v41, rfl⟩ := h9
        refine lv_if_eq (tgt := 87) hx hb dX4_read_44 (by decide) (fun c44 => ?_) (fun c44 => ?_)
        · skip
          have tc44 := f_eq (k := 0) (by decide) c44
          exact J87  _ _ _  hH hS (lv_sub hl [1] rfl)
        · skip
          have tc44 := f_ne (k := 0) (by decide) c44
          refine lv_aload_n hx hb dX4_read_47 rfl (lv_at hl 1 rfl) ?_
          refine tk_i hH hS hA (tr_V (n := 0) (As := []) hx hb hml hown hts hkb hH hOX hks hE hS hA (s_RD_readLine l D cs kf T O X a0 d t_a0 t_d (hO.sub (by decide))) kw_545 kw_547 ks_1 kw_2 kw_548 (by decide +kernel) ⟨Nat.le_of_ble_eq_true rfl, Nat.le_of_ble_eq_true rfl⟩ (HT.recv (ci := 4) hkb hH t_a0 (hO.no t_a0 (by decide)) rfl) rfl rfl hl.1 (Nat.le_of_ble_eq_true rfl) dX4_read_48 ⟨Nat.le_of_ble_eq_true rfl, Nat.le_of_ble_eq_true rfl⟩) (fun v48 u H locs hz9 hH hS => ?_)
          obtain ⟨rfl, l_v48, u_v48⟩ := hz9
          have hH : HT D cs A T O X H := hH
          refine W.widen (k := 0) (n := 0) (Nat.le_of_ble_eq_true rfl) (Nat.le_of_ble_eq_true rfl) ?_
          have J66 : ∀  (H : Heap) (locs : List Loc) (ls : Array Slot), HT D cs A T O X H → va_S A s.heap H locs → lv_has ls 4 [] → W p l e { frames := 32, cells := 0, slots := 0, locals := 726 } s m [.ref a0, .ref a1, .int x2].toArray below meth c H locs 0 0 (MQ below (Ti D cs (fun r u => u = (T, O, X) ∧ 0 ≤ r.toInt ∧ r.toInt ≤ 1) A) [.ref a0, .ref a1, .int x2].toArray s 0 0 A) (F0 m 66 ls []) := by
            intro  H locs ls  hH hS hl
            refine lv_iconst (v := 0) hx hb dX4_read_66 (by decide) ?_
            exact te_z hx hb hr hlocks (by rfl) hH hS (⟨rfl, by decide, by decide⟩) dX4_read_67
          refine lv_if_eq (tgt := 66) hx hb dX4_read_51 (by decide) (fun c51 => ?_) (fun c51 => ?_)
          · skip
            have tc51 := f_eq (k := 0) (by decide) c51
            exact J66  _ _ _  hH hS (lv_sub hl [] rfl)
          · skip
            have tc51 := f_ne (k := 0) (by decide) c51
            refine lv_aload_n hx hb dX4_read_54 rfl (lv_at hl 1 rfl) ?_
            refine t_get (ci := 4) (lst := ft4 d 0) (C := RX4) (F := TX4) (N := 5) hx hb hts uX4 hown hkb hH t_a0 (hO.no t_a0 (by decide)) (fun _ h9 => h9) rfl rfl 0 (by decide) rfl kw_211 (fun _ h9 => h9) dX4_read_55 (fun v9 h9 => ?_)
            obtain ⟨v55, rfl, t_v55⟩ := h9
            refine lv_bipush (v := 59) hx hb dX4_read_58 (by decide) ?_
            refine tk_i hH hS hA (tr_V (n := 1) (As := [.int 59]) hx hb hml hown hts hkb hH hOX hks hE hS hA (s_Tok_takeSign l D cs kf T O X v55 (59) t_v55 (hO.sub (by decide))) kw_610 kw_611 kw_612 kw_3 kw_613 (by decide +kernel) ⟨Nat.le_of_ble_eq_true rfl, Nat.le_of_ble_eq_true rfl⟩ (HT.recv (ci := 7) hkb hH t_v55 (hO.no t_v55 (by decide)) rfl) rfl rfl hl.1 (Nat.le_of_ble_eq_true rfl) dX4_read_60 ⟨Nat.le_of_ble_eq_true rfl, Nat.le_of_ble_eq_true rfl⟩) (fun v60 u H locs hz9 hH hS => ?_)
            obtain ⟨rfl, l_v60, u_v60⟩ := hz9
            have hH : HT D cs A T O X H := hH
            refine W.widen (k := 0) (n := 0) (Nat.le_of_ble_eq_true rfl) (Nat.le_of_ble_eq_true rfl) ?_
            refine lv_if_ne (tgt := 68) hx hb dX4_read_63 (by decide) (fun c63 => ?_) (fun c63 => ?_)
            · skip
              have tc63 := f_ne (k := 0) (by decide) c63
              refine lv_aload_n hx hb dX4_read_68 rfl (lv_at hl 1 rfl) ?_
              refine t_get (ci := 4) (lst := ft4 d 0) (C := RX4) (F := TX4) (N := 5) hx hb hts uX4 hown hkb hH t_a0 (hO.no t_a0 (by decide)) (fun _ h9 => h9) rfl rfl 2 (by decide) rfl kw_214 (fun _ h9 => h9) dX4_read_69 (fun v9 h9 => ?_)
              have h9 : v9 = .ref d := h9
              subst h9
              refine lv_dup hx hb dX4_read_72 rfl ?_
              refine t_get (ci := 9) (lst := ft9d 100 0) (C := RX9) (F := TX9) (N := 14) hx hb hts uX9 hown hkb hH t_d (hO.no t_d (by decide)) (fun fs => (ob9d fs).mp) rfl rfl 2 (by decide) rfl kw_114 (fun _ h9 => h9) dX4_read_73 (fun v9 h9 => ?_)
              obtain ⟨v73, rfl⟩ := h9
              refine lv_iconst (v := 1) hx hb dX4_read_76 (by decide) ?_
              refine lv_iadd hx hb dX4_read_77 ?_
              refine lv_topi (fun v77 ev77 => ?_)
              refine t_put (ci := 9) (lst := ft9d 100 0) (v := .int v77) (ty := tyX9 2) (C := RX9) (F := TX9) (N := 14) hx hb hts uX9 tyX9 tyX9_ok nmX9 hown hkb hH hS t_d (hO.no t_d (by decide)) (fun fs => (ob9d fs)) rfl rfl 2 (by decide) rfl (⟨_, rfl⟩) kw_114 (fun _ h9 => h9) rfl (tyX9_ok 2 (by decide)) rfl rfl dX4_read_78 (fun H locs hH hS => ?_)
              obtain ⟨v81, ev81⟩ : ∃ y : Int32, y = p30_3 + 1 := ⟨_, rfl⟩
              have tv81 : v81.toInt = p30_3.toInt + (1) := by rw [ev81]; exact add_i rfl (by decide) (by omega) (by omega)
              refine lv_iinc (v := v81) (lv' := [(3, .int v81), (0, .ref a0)]) hx hb dX4_read_81 hl (k := 0) rfl (by rw [ev81]; rfl) (by decide) rfl (fun ls hl => ?_)
              refine lv_goto (tgt := 30) hx hb dX4_read_84 (by decide) ?_
              exact ih30 _ (by omega) v81 _ _ _ rfl (by omega) (by omega) hH hS (lv_sub hl [0, 1] rfl)
            · skip
              have tc63 := f_eq (k := 0) (by decide) c63
              exact J66  _ _ _  hH hS (lv_sub hl [] rfl)
  refine lv_istore_n (lv' := [(3, .int 0), (0, .ref a0), (1, .ref a1), (2, .int x2)]) hx hb dX4_read_29 rfl hl (by decide) rfl (fun ls hl => ?_)
  exact J30 _ 0 _ _ _ rfl (by decide) (by decide) hH hS (lv_sub hl [0, 1] rfl)
theorem dX11_fault_0 : decode cX11_fault 0 = .ok (.iload_n 1, 1) := by decide +kernel
theorem dX11_fault_1 : decode cX11_fault 1 = .ok (.ifCond .ne 14, 3) := by decide +kernel
theorem dX11_fault_4 : decode cX11_fault 4 = .ok (.aload_n 0, 1) := by decide +kernel
theorem dX11_fault_5 : decode cX11_fault 5 = .ok (.getfield 20, 3) := by decide +kernel
theorem dX11_fault_8 : decode cX11_fault 8 = .ok (.getfield 119, 3) := by decide +kernel
theorem dX11_fault_11 : decode cX11_fault 11 = .ok (.getfield 123, 3) := by decide +kernel
theorem dX11_fault_14 : decode cX11_fault 14 = .ok (.ireturn, 1) := by decide +kernel
theorem dX11_fault_15 : decode cX11_fault 15 = .ok (.iload_n 1, 1) := by decide +kernel
theorem dX11_fault_16 : decode cX11_fault 16 = .ok (.iconst 1, 1) := by decide +kernel
theorem dX11_fault_17 : decode cX11_fault 17 = .ok (.if_icmp .ne 16, 3) := by decide +kernel
theorem dX11_fault_20 : decode cX11_fault 20 = .ok (.aload_n 0, 1) := by decide +kernel
theorem dX11_fault_21 : decode cX11_fault 21 = .ok (.getfield 20, 3) := by decide +kernel
theorem dX11_fault_24 : decode cX11_fault 24 = .ok (.getfield 119, 3) := by decide +kernel
theorem dX11_fault_27 : decode cX11_fault 27 = .ok (.getfield 142, 3) := by decide +kernel
theorem dX11_fault_30 : decode cX11_fault 30 = .ok (.goto 4, 3) := by decide +kernel
theorem dX11_fault_33 : decode cX11_fault 33 = .ok (.iconst (-1), 1) := by decide +kernel
theorem dX11_fault_34 : decode cX11_fault 34 = .ok (.ireturn, 1) := by decide +kernel
theorem kw_55 : Cond.fieldLink "FootholdWall" 123 "FootholdWall$Tokens" "fault" "I" ∈ gw := gw_of (tb_of 55 (by decide +kernel)) (by decide +kernel)
theorem kw_57 : Cond.fieldLink "FootholdWall" 142 "FootholdWall$Tokens" "place" "I" ∈ gw := gw_of (tb_of 57 (by decide +kernel)) (by decide +kernel)
theorem kw_212 : Cond.fieldLink "FootholdWall" 119 "FootholdWall$Reader" "tokens" "LFootholdWall$Tokens;" ∈ gw := gw_of (tb_of 212 (by decide +kernel)) (by decide +kernel)
theorem kw_362 : Cond.fieldLink "FootholdWall" 20 "FootholdWall" "reader" "LFootholdWall$Reader;" ∈ gw := gw_of (tb_of 362 (by decide +kernel)) (by decide +kernel)
set_option maxHeartbeats 4000000 in
set_option maxRecDepth 100000 in
theorem s_FW_fault (l : Launch) (D : va_G) (cs : CS) (kf : KF) (T : TF) (O : List Nat) (X : va_W) (a0 w hw gw ch gq : Nat) (x1 : Int32) (t_a0 : T a0 = some (21, w, ch)) (t_w : isW T w hw gw) (t_ch : T ch = some (10, gq, 0)) (hO : okO T O [14, 17, 21]) : TK l D cs kf yX11_fault cX11_fault 2 (some (.int)) { frames := 0, cells := 0, slots := 0, locals := 0 } [.ref a0, .int x1] T O X (Ti D cs (fun r u => u = (T, O, X))) := by
  refine tk_of (by decide) (Nat.le_of_ble_eq_true rfl) (fun p e s m below meth c ls A H locs hx hb hr hml hown hts hlocks hnm hkb hH hS hA hOX hks hE hl => ?_)
  have hown : s.vm.findClass RX11 = some m.cls := hown
  have hl : lv_has ls 2 [(0, .ref a0), (1, .int x1)] := hl
  have b1_w := t_w.2.1
  have b2_w := t_w.2.2
  refine lv_iload_n hx hb dX11_fault_0 rfl (lv_at hl 1 rfl) ?_
  refine lv_if_ne (tgt := 15) hx hb dX11_fault_1 (by decide) (fun c1 => ?_) (fun c1 => ?_)
  · skip
    have tc1 := f_ne (k := 0) (by decide) c1
    refine lv_iload_n hx hb dX11_fault_15 rfl (lv_at hl 1 rfl) ?_
    refine lv_iconst (v := 1) hx hb dX11_fault_16 (by decide) ?_
    have J34 : ∀ (k34_0 : Int32) (H : Heap) (locs : List Loc) (ls : Array Slot), HT D cs A T O X H → va_S A s.heap H locs → lv_has ls 2 [] → W p l e { frames := 0, cells := 0, slots := 0, locals := 0 } s m [.ref a0, .int x1].toArray below meth c H locs 0 0 (MQ below (Ti D cs (fun r u => u = (T, O, X)) A) [.ref a0, .int x1].toArray s 0 0 A) (F0 m 34 ls [.int k34_0]) := by
      intro k34_0 H locs ls  hH hS hl
      exact te_i hx hb hr hlocks hH hS (rfl) dX11_fault_34
    refine lv_icmp_ne (tgt := 33) hx hb dX11_fault_17 (by decide) (fun c17 => ?_) (fun c17 => ?_)
    · skip
      have tc17 := f_ne (k := 1) (by decide) c17
      refine lv_iconst (v := (-1)) hx hb dX11_fault_33 (by decide) ?_
      exact J34 (-1) _ _ _  hH hS (lv_sub hl [] rfl)
    · skip
      have tc17 := f_eq (k := 1) (by decide) c17
      refine lv_aload_n hx hb dX11_fault_20 rfl (lv_at hl 0 rfl) ?_
      refine t_get (ci := 11) (lst := ft11 w ch) (C := RX11) (F := TX11) (N := 20) hx hb hts uX11 hown hkb hH t_a0 (hO.no t_a0 (by decide)) (fun _ h9 => h9) rfl rfl 2 (by decide) rfl kw_362 (fun _ h9 => h9) dX11_fault_21 (fun v9 h9 => ?_)
      obtain ⟨v21, dv21, rfl, t_v21, t_dv21⟩ := h9
      refine t_get (ci := 4) (lst := ft4 dv21 0) (C := RX4) (F := TX4) (N := 5) hx hb hts uX4 hown hkb hH t_v21 (hO.no t_v21 (by decide)) (fun _ h9 => h9) rfl rfl 0 (by decide) rfl kw_212 (fun _ h9 => h9) dX11_fault_24 (fun v9 h9 => ?_)
      obtain ⟨v24, rfl, t_v24⟩ := h9
      refine t_get (ci := 7) (lst := ft7 0 0) (C := RX7) (F := TX7) (N := 8) hx hb hts uX7 hown hkb hH t_v24 (hO.no t_v24 (by decide)) (fun _ h9 => ob7_ok h9) rfl rfl 7 (by decide) rfl kw_57 (fun _ h9 => h9) dX11_fault_27 (fun v9 h9 => ?_)
      obtain ⟨v27, rfl⟩ := h9
      refine lv_goto (tgt := 34) hx hb dX11_fault_30 (by decide) ?_
      exact J34 v27 _ _ _  hH hS (lv_sub hl [] rfl)
  · skip
    have tc1 := f_eq (k := 0) (by decide) c1
    refine lv_aload_n hx hb dX11_fault_4 rfl (lv_at hl 0 rfl) ?_
    refine t_get (ci := 11) (lst := ft11 w ch) (C := RX11) (F := TX11) (N := 20) hx hb hts uX11 hown hkb hH t_a0 (hO.no t_a0 (by decide)) (fun _ h9 => h9) rfl rfl 2 (by decide) rfl kw_362 (fun _ h9 => h9) dX11_fault_5 (fun v9 h9 => ?_)
    obtain ⟨v5, dv5, rfl, t_v5, t_dv5⟩ := h9
    refine t_get (ci := 4) (lst := ft4 dv5 0) (C := RX4) (F := TX4) (N := 5) hx hb hts uX4 hown hkb hH t_v5 (hO.no t_v5 (by decide)) (fun _ h9 => h9) rfl rfl 0 (by decide) rfl kw_212 (fun _ h9 => h9) dX11_fault_8 (fun v9 h9 => ?_)
    obtain ⟨v8, rfl, t_v8⟩ := h9
    refine t_get (ci := 7) (lst := ft7 0 0) (C := RX7) (F := TX7) (N := 8) hx hb hts uX7 hown hkb hH t_v8 (hO.no t_v8 (by decide)) (fun _ h9 => ob7_ok h9) rfl rfl 6 (by decide) rfl kw_55 (fun _ h9 => h9) dX11_fault_11 (fun v9 h9 => ?_)
    obtain ⟨v11, rfl⟩ := h9
    exact te_i hx hb hr hlocks hH hS (rfl) dX11_fault_14
/-! what makes cells -/
def Tadd (T : TF) (r : Nat) (tg : Tg) : TF := fun q => if q = r then some tg else T q
theorem Tadd_r {T : TF} {r : Nat} {tg : Tg} : Tadd T r tg r = some tg := if_pos rfl
theorem Tadd_le {T : TF} {r : Nat} {tg : Tg} (h : T r = none) : Tle T (Tadd T r tg) := fun a t ha => by
  unfold Tadd
  rw [if_neg (fun z => by rw [z, h] at ha; cases ha)]
  exact ha
theorem Tle.rf {T : TF} : Tle T T := fun _ _ h => h
theorem Tle.tr {T T1 T2 : TF} (h1 : Tle T T1) (h2 : Tle T1 T2) : Tle T T2 := fun a t h => h2 a t (h1 a t h)
/-- more is told, of the kinds that are made alone -/
def Tgr (T T2 : TF) : Prop := Tle T T2 ∧ ∀ (b : Nat) (tg : Tg), T2 b = some tg → T b = some tg ∨ tg.1 = 1 ∨ tg.1 = 12 ∨ tg.1 = 19
theorem Tgr.rf {T : TF} : Tgr T T := ⟨Tle.rf, fun _ _ h => Or.inl h⟩
theorem Tgr.tr {T T1 T2 : TF} (h1 : Tgr T T1) (h2 : Tgr T1 T2) : Tgr T T2 := ⟨h1.1.tr h2.1, fun b tg h => (h2.2 b tg h).elim (h1.2 b tg) Or.inr⟩
theorem Tgr_add {T : TF} {r : Nat} {tg : Tg} (h : T r = none) (hk : tg.1 = 1 ∨ tg.1 = 12 ∨ tg.1 = 19) : Tgr T (Tadd T r tg) := ⟨Tadd_le h, fun b t hb => by
  unfold Tadd at hb
  split at hb
  · cases hb; exact Or.inr hk
  · exact Or.inl hb⟩
section ThMake
variable {p : Program} {l : Launch} {e : Env} {R : Room} {s : State} {m : MethodId} {args : Array Value} {below : List Frame} {meth : Method} {c : Code} {H : Heap} {locs : List Loc} {cells slots : Nat} {Q : State → Prop}
variable {cc : ByteArray} {pc : Nat} {ls : Array Slot} {rest : List Value} {D : va_G} {A : Nat → Prop} {a : Nat} {cs : CS} {T : TF} {O : List Nat} {X : va_W} {H0 : Heap}
/-- a new address isn't told yet -/
theorem new_none {ws : va_W} {q : Nat} {e0 : va_E} (hD : va_D A ((X ++ ws) ++ [(q, e0)])) (hOX : ∀ o ∈ O, ∃ (k : Nat) (e : va_E), X[k]? = some (o, e)) (h3 : ∀ (a : Nat) (tg : Tg), T a = some tg → a ∉ O → ∃ (k : Nat) (e : va_E), ws[k]? = some (a, e) ∧ sp cs T tg e) : T q = none := by
  have hq : ((X ++ ws) ++ [(q, e0)])[(X ++ ws).length]? = some (q, e0) := by rw [List.getElem?_append_right (Nat.le_refl _)]; simp
  cases ht : T q with
  | none => rfl
  | some tg =>
    exfalso
    by_cases ho : q ∈ O
    · obtain ⟨k, e1, hx⟩ := hOX q ho
      have hl : k < X.length := (List.getElem?_eq_some_iff.mp hx).1
      have h1 : ((X ++ ws) ++ [(q, e0)])[k]? = some (q, e1) := by rw [List.append_assoc, List.getElem?_append_left hl]; exact hx
      have := hD.1 _ _ _ _ h1 hq rfl
      rw [List.length_append] at this
      omega
    · obtain ⟨k, e1, hk, -⟩ := h3 q tg ht ho
      have hl : k < ws.length := (List.getElem?_eq_some_iff.mp hk).1
      have h1 : ((X ++ ws) ++ [(q, e0)])[X.length + k]? = some (q, e1) := by rw [List.getElem?_append_left (by rw [List.length_append]; omega)]; exact ap_r hk
      have := hD.1 _ _ _ _ h1 hq rfl
      rw [List.length_append] at this
      omega
/-- a new cell of a kind -/
theorem HT.push {ws : va_W} {H1 : Heap} {q : Nat} {e0 : va_E} {tg : Tg} (hP : va_P D cls ((X ++ ws) ++ [(q, e0)]) H1) (hD : va_D A ((X ++ ws) ++ [(q, e0)])) (hOX : ∀ o ∈ O, ∃ (k : Nat) (e : va_E), X[k]? = some (o, e)) (h3 : ∀ (a : Nat) (tg : Tg), T a = some tg → a ∉ O → ∃ (k : Nat) (e : va_E), ws[k]? = some (a, e) ∧ sp cs T tg e) (h4 : ∀ (k : Nat) (q : Nat × va_E), ws[k]? = some q → ∃ tg, T q.1 = some tg) (hs : sp cs (Tadd T q tg) tg e0) : HT D cs A (Tadd T q tg) O X H1 := by
  have hno := new_none hD hOX h3
  rw [List.append_assoc] at hP hD
  refine ⟨ws ++ [(q, e0)], hP, hD, fun b tb hb hO => ?_, fun k x hk => ?_⟩
  · by_cases hbq : b = q
    · subst hbq
      have : tb = tg := Option.some.inj (hb.symm.trans Tadd_r)
      subst this
      exact ⟨ws.length, e0, by rw [List.getElem?_append_right (Nat.le_refl _)]; simp, hs⟩
    · have hb2 : T b = some tb := by unfold Tadd at hb; rw [if_neg hbq] at hb; exact hb
      obtain ⟨k, eb, hk, hsb⟩ := h3 b tb hb2 hO
      exact ⟨k, eb, by rw [List.getElem?_append_left (List.getElem?_eq_some_iff.mp hk).1]; exact hk, sp_le (Tadd_le hno) hsb⟩
  · by_cases h1 : k < ws.length
    · rw [List.getElem?_append_left h1] at hk
      obtain ⟨t, ht⟩ := h4 _ _ hk
      exact ⟨t, Tadd_le hno _ _ ht⟩
    · rw [List.getElem?_append_right (by omega)] at hk
      have hz : k - ws.length < 1 := (List.getElem?_eq_some_iff.mp hk).1
      rw [show k - ws.length = 0 by omega] at hk
      cases hk
      exact ⟨tg, Tadd_r⟩
/-- newarray of ints, straight into its kind -/
theorem t_newI {n : Int32} {N' k : Nat} (hx : p.tables.exec = Jvm.exec) (hb : c.code = cc) (hts : ∀ w ∈ gw, w.before args s = true) (harr : Cond.arrayClass .int ∈ gw) (hkb : kb D (tyc cs) s) (hH : HT D cs A T O X H) (hOX : ∀ o ∈ O, ∃ (k : Nat) (e : va_E), X[k]? = some (o, e)) (hS : va_S A H0 H locs) (hA : ∀ q, H0.size ≤ q → A q) (hn : n.toInt = (N' : Int)) (hbd : N' ≤ 1000000) (hz : cp k 0) (hcells : cells + 1 ≤ R.cells) (hslots : slots + N' ≤ R.slots) (hdg : decode cc pc = .ok (.newarray .int, 2))
    (kk : ∀ (r : Nat) (T' : TF) (H1 : Heap), Tgr T T' → T' r = some (1, N', k) → HT D cs A T' O X H1 → va_S A H0 H1 locs → W p l e R s m args below meth c H1 locs (cells + 1) (slots + N') Q (F0 m (pc + 2) ls (.ref r :: rest))) : W p l e R s m args below meth c H locs cells slots Q (F0 m pc ls (.int n :: rest)) := by
  obtain ⟨ws, hP, hD, h3, h4⟩ := hH
  have z : (0 : Int32).toInt = 0 := by decide
  have c1 : n.toNatClampNeg = n.toInt.toNat := rfl
  refine n_a (atype := .int) (t := .int) (a0 := (N', .inl (fun _ => 0))) 1 rfl (fun _ _ h => h) hx hb (hts _ harr) rfl hkb.1 hP hD hS hA (fun _ => rfl) (fun q => by have := Int32.lt_iff_toInt_lt.mp q; omega) (by omega) (by show N' * 4 ≤ 536870912; omega) hcells hslots hdg (fun q H1 hP hD hS => ?_)
  exact kk q (Tadd T q (1, N', k)) H1 (Tgr_add (new_none hD hOX h3) (Or.inl rfl)) Tadd_r (HT.push hP hD hOX h3 h4 (show sp cs _ (1, N', k) _ from ⟨_, rfl, fun _ => hz⟩)) hS
/-- a new object stands first among the exact ones -/
theorem x_new {own C : String} {F : u_T} {N ci index : Nat} {fs : List Value} (hx : p.tables.exec = Jvm.exec) (hb : c.code = cc) (hts : ∀ w ∈ gw, w.before args s = true) (hin : ∀ w ∈ u_ws C F N, w ∈ gw) (ty : Nat → FieldType) (hty : ∀ k, k < N → parseFieldDescriptor (F k).2.2.1 = some (ty k)) (hown : s.vm.findClass own = some m.cls) (hcl : Cond.classLink own index C ∈ gw) (hinst : Cond.instantiable C N ∈ gw) (hini : Cond.initialized C ∈ gw) (hkb : kb D (tyc cs) s) (hH : HT D cs A T O X H) (hOX : ∀ o ∈ O, ∃ (k : Nat) (e : va_E), X[k]? = some (o, e)) (hS : va_S A H0 H locs) (hA : ∀ q, H0.size ≤ q → A q) (hc : cls[ci]? = some (C, F, N)) (hfs : ∀ j, j < N → defaultValue (ty j) = vp_V fs j) (hcells : cells + 1 ≤ R.cells) (hslots : slots + N ≤ R.slots) (hdg : decode cc pc = .ok (.new index, 3))
    (kk : ∀ (q : Nat) (H1 : Heap), T q = none → HT D cs A T O ((q, .inr (ci, fs)) :: X) H1 → va_S A H0 H1 locs → W p l e R s m args below meth c H1 locs (cells + 1) (slots + N) Q (F0 m (pc + 3) ls (.ref q :: rest))) : W p l e R s m args below meth c H locs cells slots Q (F0 m pc ls rest) := by
  obtain ⟨ws, hP, hD, h3, h4⟩ := hH
  refine va_new (D := D) hx hb hts hin ty hty hown (hts _ hcl) (hts _ hinst) (hts _ hini) hkb.1 hP hD hS hA hc hfs hcells hslots hdg (fun q H1 hP hD hS => ?_)
  have hno := new_none hD hOX h3
  have hg : ∀ (k : Nat) (x : Nat × va_E), (((q, Sum.inr (ci, fs)) :: X) ++ ws)[k]? = some x → ((X ++ ws) ++ [(q, Sum.inr (ci, fs))])[if k = 0 then (X ++ ws).length else k - 1]? = some x := by
    intro k x hk
    cases k with
    | zero => rw [if_pos rfl, List.getElem?_append_right (Nat.le_refl _)]; simpa using hk
    | succ k =>
      have hk : (X ++ ws)[k]? = some x := hk
      rw [if_neg (by omega), show k + 1 - 1 = k by omega, List.getElem?_append_left (List.getElem?_eq_some_iff.mp hk).1]
      exact hk
  refine kk q H1 hno ⟨ws, hP.by _ hg, hD.by _ hg ?_, h3, h4⟩ hS
  intro i1 i2 hi1 hi2 he
  simp only [List.length_append, List.length_cons] at hi1 hi2 he
  split at he <;> split at he <;> omega
/-- an exact object of a new address is laid into its kind -/
theorem HT.seal {q ci p0 q0 : Nat} {fs : List Value} (h : HT D cs A T O ((q, .inr (ci, fs)) :: X) H) (hno : T q = none) (hob : ob (Tadd T q (ci + 10, p0, q0)) ci p0 q0 fs) : HT D cs A (Tadd T q (ci + 10, p0, q0)) O X H := by
  obtain ⟨ws, hP, hD, h3, h4⟩ := h
  have hg : ∀ (k : Nat) (x : Nat × va_E), (X ++ (ws ++ [(q, Sum.inr (ci, fs))]))[k]? = some x → (((q, Sum.inr (ci, fs)) :: X) ++ ws)[if k < X.length + ws.length then k + 1 else 0]? = some x := by
    intro k x hk
    rw [← List.append_assoc] at hk
    by_cases h1 : k < X.length + ws.length
    · rw [if_pos h1]
      rw [List.getElem?_append_left (by rw [List.length_append]; exact h1)] at hk
      exact hk
    · rw [if_neg h1]
      rw [List.getElem?_append_right (by rw [List.length_append]; omega)] at hk
      have hz : k - (X ++ ws).length < 1 := (List.getElem?_eq_some_iff.mp hk).1
      rw [show k - (X ++ ws).length = 0 by omega] at hk
      simpa using hk
  refine ⟨ws ++ [(q, .inr (ci, fs))], hP.by _ hg, hD.by _ hg ?_, fun b tb hb hO => ?_, fun k x hk => ?_⟩
  · intro i1 i2 hi1 hi2 he
    simp only [List.length_append, List.length_cons, List.length_nil] at hi1 hi2
    split at he <;> split at he <;> omega
  · by_cases hbq : b = q
    · subst hbq
      have : tb = (ci + 10, p0, q0) := Option.some.inj (hb.symm.trans Tadd_r)
      subst this
      exact ⟨ws.length, _, by rw [List.getElem?_append_right (Nat.le_refl _)]; simp, ⟨fs, rfl, hob⟩⟩
    · have hb2 : T b = some tb := by unfold Tadd at hb; rw [if_neg hbq] at hb; exact hb
      obtain ⟨k, eb, hk, hsb⟩ := h3 b tb hb2 hO
      exact ⟨k, eb, by rw [List.getElem?_append_left (List.getElem?_eq_some_iff.mp hk).1]; exact hk, sp_le (Tadd_le hno) hsb⟩
  · by_cases h1 : k < ws.length
    · rw [List.getElem?_append_left h1] at hk
      obtain ⟨t, ht⟩ := h4 _ _ hk
      exact ⟨t, Tadd_le hno _ _ ht⟩
    · rw [List.getElem?_append_right (by omega)] at hk
      have hz : k - ws.length < 1 := (List.getElem?_eq_some_iff.mp hk).1
      rw [show k - ws.length = 0 by omega] at hk
      cases hk
      exact ⟨_, Tadd_r⟩
end ThMake
theorem dX12_between_0 : decode cX12_between 0 = .ok (.iload_n 0, 1) := by decide +kernel
theorem dX12_between_1 : decode cX12_between 1 = .ok (.sipush 3002, 3) := by decide +kernel
theorem dX12_between_4 : decode cX12_between 4 = .ok (.if_icmp .gt 70, 3) := by decide +kernel
theorem dX12_between_7 : decode cX12_between 7 = .ok (.iload_n 0, 1) := by decide +kernel
theorem dX12_between_8 : decode cX12_between 8 = .ok (.sipush 3000, 3) := by decide +kernel
theorem dX12_between_11 : decode cX12_between 11 = .ok (.if_icmp .ne 11, 3) := by decide +kernel
theorem dX12_between_14 : decode cX12_between 14 = .ok (.iload_n 1, 1) := by decide +kernel
theorem dX12_between_15 : decode cX12_between 15 = .ok (.i2l, 1) := by decide +kernel
theorem dX12_between_16 : decode cX12_between 16 = .ok (.iload_n 2, 1) := by decide +kernel
theorem dX12_between_17 : decode cX12_between 17 = .ok (.i2l, 1) := by decide +kernel
theorem dX12_between_18 : decode cX12_between 18 = .ok (.ladd, 1) := by decide +kernel
theorem dX12_between_19 : decode cX12_between 19 = .ok (.goto 23, 3) := by decide +kernel
theorem dX12_between_22 : decode cX12_between 22 = .ok (.iload_n 0, 1) := by decide +kernel
theorem dX12_between_23 : decode cX12_between 23 = .ok (.sipush 3001, 3) := by decide +kernel
theorem dX12_between_26 : decode cX12_between 26 = .ok (.if_icmp .ne 11, 3) := by decide +kernel
theorem dX12_between_29 : decode cX12_between 29 = .ok (.iload_n 1, 1) := by decide +kernel
theorem dX12_between_30 : decode cX12_between 30 = .ok (.i2l, 1) := by decide +kernel
theorem dX12_between_31 : decode cX12_between 31 = .ok (.iload_n 2, 1) := by decide +kernel
theorem dX12_between_32 : decode cX12_between 32 = .ok (.i2l, 1) := by decide +kernel
theorem dX12_between_33 : decode cX12_between 33 = .ok (.lsub, 1) := by decide +kernel
theorem dX12_between_34 : decode cX12_between 34 = .ok (.goto 8, 3) := by decide +kernel
theorem dX12_between_37 : decode cX12_between 37 = .ok (.iload_n 1, 1) := by decide +kernel
theorem dX12_between_38 : decode cX12_between 38 = .ok (.i2l, 1) := by decide +kernel
theorem dX12_between_39 : decode cX12_between 39 = .ok (.iload_n 2, 1) := by decide +kernel
theorem dX12_between_40 : decode cX12_between 40 = .ok (.i2l, 1) := by decide +kernel
theorem dX12_between_41 : decode cX12_between 41 = .ok (.lmul, 1) := by decide +kernel
theorem dX12_between_42 : decode cX12_between 42 = .ok (.lstore_n 3, 1) := by decide +kernel
theorem dX12_between_43 : decode cX12_between 43 = .ok (.lload_n 3, 1) := by decide +kernel
theorem dX12_between_44 : decode cX12_between 44 = .ok (.ldc2_w 234, 3) := by decide +kernel
theorem dX12_between_47 : decode cX12_between 47 = .ok (.lcmp, 1) := by decide +kernel
theorem dX12_between_48 : decode cX12_between 48 = .ok (.ifCond .le 9, 3) := by decide +kernel
theorem dX12_between_51 : decode cX12_between 51 = .ok (.ldc2_w 234, 3) := by decide +kernel
theorem dX12_between_54 : decode cX12_between 54 = .ok (.goto 18, 3) := by decide +kernel
theorem dX12_between_57 : decode cX12_between 57 = .ok (.lload_n 3, 1) := by decide +kernel
theorem dX12_between_58 : decode cX12_between 58 = .ok (.ldc2_w 236, 3) := by decide +kernel
theorem dX12_between_61 : decode cX12_between 61 = .ok (.lcmp, 1) := by decide +kernel
theorem dX12_between_62 : decode cX12_between 62 = .ok (.ifCond .ge 9, 3) := by decide +kernel
theorem dX12_between_65 : decode cX12_between 65 = .ok (.ldc2_w 236, 3) := by decide +kernel
theorem dX12_between_68 : decode cX12_between 68 = .ok (.goto 4, 3) := by decide +kernel
theorem dX12_between_71 : decode cX12_between 71 = .ok (.lload_n 3, 1) := by decide +kernel
theorem dX12_between_72 : decode cX12_between 72 = .ok (.l2i, 1) := by decide +kernel
theorem dX12_between_73 : decode cX12_between 73 = .ok (.ireturn, 1) := by decide +kernel
theorem dX12_between_74 : decode cX12_between 74 = .ok (.iload_n 0, 1) := by decide +kernel
theorem dX12_between_75 : decode cX12_between 75 = .ok (.sipush 3003, 3) := by decide +kernel
theorem dX12_between_78 : decode cX12_between 78 = .ok (.if_icmp .ne 16, 3) := by decide +kernel
theorem dX12_between_81 : decode cX12_between 81 = .ok (.iload_n 1, 1) := by decide +kernel
theorem dX12_between_82 : decode cX12_between 82 = .ok (.iload_n 2, 1) := by decide +kernel
theorem dX12_between_83 : decode cX12_between 83 = .ok (.if_icmp .ne 7, 3) := by decide +kernel
theorem dX12_between_86 : decode cX12_between 86 = .ok (.iconst 1, 1) := by decide +kernel
theorem dX12_between_87 : decode cX12_between 87 = .ok (.goto 80, 3) := by decide +kernel
theorem dX12_between_90 : decode cX12_between 90 = .ok (.iconst 0, 1) := by decide +kernel
theorem dX12_between_91 : decode cX12_between 91 = .ok (.goto 76, 3) := by decide +kernel
theorem dX12_between_94 : decode cX12_between 94 = .ok (.iload_n 0, 1) := by decide +kernel
theorem dX12_between_95 : decode cX12_between 95 = .ok (.sipush 3004, 3) := by decide +kernel
theorem dX12_between_98 : decode cX12_between 98 = .ok (.if_icmp .ne 16, 3) := by decide +kernel
theorem dX12_between_101 : decode cX12_between 101 = .ok (.iload_n 1, 1) := by decide +kernel
theorem dX12_between_102 : decode cX12_between 102 = .ok (.iload_n 2, 1) := by decide +kernel
theorem dX12_between_103 : decode cX12_between 103 = .ok (.if_icmp .ge 7, 3) := by decide +kernel
theorem dX12_between_106 : decode cX12_between 106 = .ok (.iconst 1, 1) := by decide +kernel
theorem dX12_between_107 : decode cX12_between 107 = .ok (.goto 60, 3) := by decide +kernel
theorem dX12_between_110 : decode cX12_between 110 = .ok (.iconst 0, 1) := by decide +kernel
theorem dX12_between_111 : decode cX12_between 111 = .ok (.goto 56, 3) := by decide +kernel
theorem dX12_between_114 : decode cX12_between 114 = .ok (.iload_n 0, 1) := by decide +kernel
theorem dX12_between_115 : decode cX12_between 115 = .ok (.sipush 3005, 3) := by decide +kernel
theorem dX12_between_118 : decode cX12_between 118 = .ok (.if_icmp .ne 16, 3) := by decide +kernel
theorem dX12_between_121 : decode cX12_between 121 = .ok (.iload_n 1, 1) := by decide +kernel
theorem dX12_between_122 : decode cX12_between 122 = .ok (.iload_n 2, 1) := by decide +kernel
theorem dX12_between_123 : decode cX12_between 123 = .ok (.if_icmp .le 7, 3) := by decide +kernel
theorem dX12_between_126 : decode cX12_between 126 = .ok (.iconst 1, 1) := by decide +kernel
theorem dX12_between_127 : decode cX12_between 127 = .ok (.goto 40, 3) := by decide +kernel
theorem dX12_between_130 : decode cX12_between 130 = .ok (.iconst 0, 1) := by decide +kernel
theorem dX12_between_131 : decode cX12_between 131 = .ok (.goto 36, 3) := by decide +kernel
theorem dX12_between_134 : decode cX12_between 134 = .ok (.iload_n 0, 1) := by decide +kernel
theorem dX12_between_135 : decode cX12_between 135 = .ok (.sipush 3006, 3) := by decide +kernel
theorem dX12_between_138 : decode cX12_between 138 = .ok (.if_icmp .ne 18, 3) := by decide +kernel
theorem dX12_between_141 : decode cX12_between 141 = .ok (.iload_n 1, 1) := by decide +kernel
theorem dX12_between_142 : decode cX12_between 142 = .ok (.iload_n 2, 1) := by decide +kernel
theorem dX12_between_143 : decode cX12_between 143 = .ok (.iadd, 1) := by decide +kernel
theorem dX12_between_144 : decode cX12_between 144 = .ok (.iconst 2, 1) := by decide +kernel
theorem dX12_between_145 : decode cX12_between 145 = .ok (.if_icmp .ne 7, 3) := by decide +kernel
theorem dX12_between_148 : decode cX12_between 148 = .ok (.iconst 1, 1) := by decide +kernel
theorem dX12_between_149 : decode cX12_between 149 = .ok (.goto 18, 3) := by decide +kernel
theorem dX12_between_152 : decode cX12_between 152 = .ok (.iconst 0, 1) := by decide +kernel
theorem dX12_between_153 : decode cX12_between 153 = .ok (.goto 14, 3) := by decide +kernel
theorem dX12_between_156 : decode cX12_between 156 = .ok (.iload_n 1, 1) := by decide +kernel
theorem dX12_between_157 : decode cX12_between 157 = .ok (.iload_n 2, 1) := by decide +kernel
theorem dX12_between_158 : decode cX12_between 158 = .ok (.iadd, 1) := by decide +kernel
theorem dX12_between_159 : decode cX12_between 159 = .ok (.ifCond .le 7, 3) := by decide +kernel
theorem dX12_between_162 : decode cX12_between 162 = .ok (.iconst 1, 1) := by decide +kernel
theorem dX12_between_163 : decode cX12_between 163 = .ok (.goto 4, 3) := by decide +kernel
theorem dX12_between_166 : decode cX12_between 166 = .ok (.iconst 0, 1) := by decide +kernel
theorem dX12_between_167 : decode cX12_between 167 = .ok (.istore_n 3, 1) := by decide +kernel
theorem dX12_between_168 : decode cX12_between 168 = .ok (.iload_n 3, 1) := by decide +kernel
theorem dX12_between_169 : decode cX12_between 169 = .ok (.ifCond .eq 7, 3) := by decide +kernel
theorem dX12_between_172 : decode cX12_between 172 = .ok (.iconst 1, 1) := by decide +kernel
theorem dX12_between_173 : decode cX12_between 173 = .ok (.goto 4, 3) := by decide +kernel
theorem dX12_between_176 : decode cX12_between 176 = .ok (.iconst 0, 1) := by decide +kernel
theorem dX12_between_177 : decode cX12_between 177 = .ok (.ireturn, 1) := by decide +kernel
theorem dX12_bitsOf_0 : decode cX12_bitsOf 0 = .ok (.iconst 0, 1) := by decide +kernel
theorem dX12_bitsOf_1 : decode cX12_bitsOf 1 = .ok (.istore_n 1, 1) := by decide +kernel
theorem dX12_bitsOf_2 : decode cX12_bitsOf 2 = .ok (.iconst 0, 1) := by decide +kernel
theorem dX12_bitsOf_3 : decode cX12_bitsOf 3 = .ok (.istore_n 2, 1) := by decide +kernel
theorem dX12_bitsOf_4 : decode cX12_bitsOf 4 = .ok (.iload_n 2, 1) := by decide +kernel
theorem dX12_bitsOf_5 : decode cX12_bitsOf 5 = .ok (.bipush 14, 2) := by decide +kernel
theorem dX12_bitsOf_7 : decode cX12_bitsOf 7 = .ok (.if_icmp .ge 17, 3) := by decide +kernel
theorem dX12_bitsOf_10 : decode cX12_bitsOf 10 = .ok (.iload_n 1, 1) := by decide +kernel
theorem dX12_bitsOf_11 : decode cX12_bitsOf 11 = .ok (.iload_n 0, 1) := by decide +kernel
theorem dX12_bitsOf_12 : decode cX12_bitsOf 12 = .ok (.iload_n 2, 1) := by decide +kernel
theorem dX12_bitsOf_13 : decode cX12_bitsOf 13 = .ok (.ishr, 1) := by decide +kernel
theorem dX12_bitsOf_14 : decode cX12_bitsOf 14 = .ok (.iconst 1, 1) := by decide +kernel
theorem dX12_bitsOf_15 : decode cX12_bitsOf 15 = .ok (.iand, 1) := by decide +kernel
theorem dX12_bitsOf_16 : decode cX12_bitsOf 16 = .ok (.iadd, 1) := by decide +kernel
theorem dX12_bitsOf_17 : decode cX12_bitsOf 17 = .ok (.istore_n 1, 1) := by decide +kernel
theorem dX12_bitsOf_18 : decode cX12_bitsOf 18 = .ok (.iinc 2 1, 3) := by decide +kernel
theorem dX12_bitsOf_21 : decode cX12_bitsOf 21 = .ok (.goto (-17), 3) := by decide +kernel
theorem dX12_bitsOf_24 : decode cX12_bitsOf 24 = .ok (.iload_n 1, 1) := by decide +kernel
theorem dX12_bitsOf_25 : decode cX12_bitsOf 25 = .ok (.ireturn, 1) := by decide +kernel
theorem dX12_cut_0 : decode cX12_cut 0 = .ok (.iload_n 2, 1) := by decide +kernel
theorem dX12_cut_1 : decode cX12_cut 1 = .ok (.ifCond .ne 10, 3) := by decide +kernel
theorem dX12_cut_4 : decode cX12_cut 4 = .ok (.lload_n 0, 1) := by decide +kernel
theorem dX12_cut_5 : decode cX12_cut 5 = .ok (.l2i, 1) := by decide +kernel
theorem dX12_cut_6 : decode cX12_cut 6 = .ok (.i2b, 1) := by decide +kernel
theorem dX12_cut_7 : decode cX12_cut 7 = .ok (.i2l, 1) := by decide +kernel
theorem dX12_cut_8 : decode cX12_cut 8 = .ok (.goto 27, 3) := by decide +kernel
theorem dX12_cut_11 : decode cX12_cut 11 = .ok (.iload_n 2, 1) := by decide +kernel
theorem dX12_cut_12 : decode cX12_cut 12 = .ok (.iconst 1, 1) := by decide +kernel
theorem dX12_cut_13 : decode cX12_cut 13 = .ok (.if_icmp .ne 10, 3) := by decide +kernel
theorem dX12_cut_16 : decode cX12_cut 16 = .ok (.lload_n 0, 1) := by decide +kernel
theorem dX12_cut_17 : decode cX12_cut 17 = .ok (.l2i, 1) := by decide +kernel
theorem dX12_cut_18 : decode cX12_cut 18 = .ok (.i2s, 1) := by decide +kernel
theorem dX12_cut_19 : decode cX12_cut 19 = .ok (.i2l, 1) := by decide +kernel
theorem dX12_cut_20 : decode cX12_cut 20 = .ok (.goto 15, 3) := by decide +kernel
theorem dX12_cut_23 : decode cX12_cut 23 = .ok (.iload_n 2, 1) := by decide +kernel
theorem dX12_cut_24 : decode cX12_cut 24 = .ok (.iconst 2, 1) := by decide +kernel
theorem dX12_cut_25 : decode cX12_cut 25 = .ok (.if_icmp .ne 9, 3) := by decide +kernel
theorem dX12_cut_28 : decode cX12_cut 28 = .ok (.lload_n 0, 1) := by decide +kernel
theorem dX12_cut_29 : decode cX12_cut 29 = .ok (.l2i, 1) := by decide +kernel
theorem dX12_cut_30 : decode cX12_cut 30 = .ok (.i2l, 1) := by decide +kernel
theorem dX12_cut_31 : decode cX12_cut 31 = .ok (.goto 4, 3) := by decide +kernel
theorem dX12_cut_34 : decode cX12_cut 34 = .ok (.lload_n 0, 1) := by decide +kernel
theorem dX12_cut_35 : decode cX12_cut 35 = .ok (.lreturn, 1) := by decide +kernel
theorem dX12_far_0 : decode cX12_far 0 = .ok (.iload_n 0, 1) := by decide +kernel
theorem dX12_far_1 : decode cX12_far 1 = .ok (.ifCond .ge 8, 3) := by decide +kernel
theorem dX12_far_4 : decode cX12_far 4 = .ok (.iload_n 0, 1) := by decide +kernel
theorem dX12_far_5 : decode cX12_far 5 = .ok (.ineg, 1) := by decide +kernel
theorem dX12_far_6 : decode cX12_far 6 = .ok (.goto 4, 3) := by decide +kernel
theorem dX12_far_9 : decode cX12_far 9 = .ok (.iload_n 0, 1) := by decide +kernel
theorem dX12_far_10 : decode cX12_far 10 = .ok (.ireturn, 1) := by decide +kernel
theorem dX12_isDigit_0 : decode cX12_isDigit 0 = .ok (.iload_n 0, 1) := by decide +kernel
theorem dX12_isDigit_1 : decode cX12_isDigit 1 = .ok (.bipush 48, 2) := by decide +kernel
theorem dX12_isDigit_3 : decode cX12_isDigit 3 = .ok (.if_icmp .lt 13, 3) := by decide +kernel
theorem dX12_isDigit_6 : decode cX12_isDigit 6 = .ok (.iload_n 0, 1) := by decide +kernel
theorem dX12_isDigit_7 : decode cX12_isDigit 7 = .ok (.bipush 57, 2) := by decide +kernel
theorem dX12_isDigit_9 : decode cX12_isDigit 9 = .ok (.if_icmp .gt 7, 3) := by decide +kernel
theorem dX12_isDigit_12 : decode cX12_isDigit 12 = .ok (.iconst 1, 1) := by decide +kernel
theorem dX12_isDigit_13 : decode cX12_isDigit 13 = .ok (.goto 4, 3) := by decide +kernel
theorem dX12_isDigit_16 : decode cX12_isDigit 16 = .ok (.iconst 0, 1) := by decide +kernel
theorem dX12_isDigit_17 : decode cX12_isDigit 17 = .ok (.ireturn, 1) := by decide +kernel
theorem dX12_isIn_0 : decode cX12_isIn 0 = .ok (.lload_n 0, 1) := by decide +kernel
theorem dX12_isIn_1 : decode cX12_isIn 1 = .ok (.iload_n 2, 1) := by decide +kernel
theorem dX12_isIn_2 : decode cX12_isIn 2 = .ok (.lshr, 1) := by decide +kernel
theorem dX12_isIn_3 : decode cX12_isIn 3 = .ok (.lconst 1, 1) := by decide +kernel
theorem dX12_isIn_4 : decode cX12_isIn 4 = .ok (.land, 1) := by decide +kernel
theorem dX12_isIn_5 : decode cX12_isIn 5 = .ok (.lconst 1, 1) := by decide +kernel
theorem dX12_isIn_6 : decode cX12_isIn 6 = .ok (.lcmp, 1) := by decide +kernel
theorem dX12_isIn_7 : decode cX12_isIn 7 = .ok (.ifCond .ne 7, 3) := by decide +kernel
theorem dX12_isIn_10 : decode cX12_isIn 10 = .ok (.iconst 1, 1) := by decide +kernel
theorem dX12_isIn_11 : decode cX12_isIn 11 = .ok (.goto 4, 3) := by decide +kernel
theorem dX12_isIn_14 : decode cX12_isIn 14 = .ok (.iconst 0, 1) := by decide +kernel
theorem dX12_isIn_15 : decode cX12_isIn 15 = .ok (.ireturn, 1) := by decide +kernel
theorem dX12_isSmall_0 : decode cX12_isSmall 0 = .ok (.iload_n 0, 1) := by decide +kernel
theorem dX12_isSmall_1 : decode cX12_isSmall 1 = .ok (.bipush 97, 2) := by decide +kernel
theorem dX12_isSmall_3 : decode cX12_isSmall 3 = .ok (.if_icmp .lt 13, 3) := by decide +kernel
theorem dX12_isSmall_6 : decode cX12_isSmall 6 = .ok (.iload_n 0, 1) := by decide +kernel
theorem dX12_isSmall_7 : decode cX12_isSmall 7 = .ok (.bipush 122, 2) := by decide +kernel
theorem dX12_isSmall_9 : decode cX12_isSmall 9 = .ok (.if_icmp .gt 7, 3) := by decide +kernel
theorem dX12_isSmall_12 : decode cX12_isSmall 12 = .ok (.iconst 1, 1) := by decide +kernel
theorem dX12_isSmall_13 : decode cX12_isSmall 13 = .ok (.goto 4, 3) := by decide +kernel
theorem dX12_isSmall_16 : decode cX12_isSmall 16 = .ok (.iconst 0, 1) := by decide +kernel
theorem dX12_isSmall_17 : decode cX12_isSmall 17 = .ok (.ireturn, 1) := by decide +kernel
theorem dX12_within_0 : decode cX12_within 0 = .ok (.lload_n 0, 1) := by decide +kernel
theorem dX12_within_1 : decode cX12_within 1 = .ok (.lload_n 2, 1) := by decide +kernel
theorem dX12_within_2 : decode cX12_within 2 = .ok (.lcmp, 1) := by decide +kernel
theorem dX12_within_3 : decode cX12_within 3 = .ok (.ifCond .lt 14, 3) := by decide +kernel
theorem dX12_within_6 : decode cX12_within 6 = .ok (.lload_n 0, 1) := by decide +kernel
theorem dX12_within_7 : decode cX12_within 7 = .ok (.lload 4, 2) := by decide +kernel
theorem dX12_within_9 : decode cX12_within 9 = .ok (.lcmp, 1) := by decide +kernel
theorem dX12_within_10 : decode cX12_within 10 = .ok (.ifCond .gt 7, 3) := by decide +kernel
theorem dX12_within_13 : decode cX12_within 13 = .ok (.iconst 1, 1) := by decide +kernel
theorem dX12_within_14 : decode cX12_within 14 = .ok (.goto 4, 3) := by decide +kernel
theorem dX12_within_17 : decode cX12_within 17 = .ok (.iconst 0, 1) := by decide +kernel
theorem dX12_within_18 : decode cX12_within 18 = .ok (.ireturn, 1) := by decide +kernel
theorem kw_1496 : Cond.constantLong "FootholdWallModel" 234 1000000 ∈ gw := gw_of (tb_of 1496 (by decide +kernel)) (by decide +kernel)
theorem kw_1497 : Cond.constantLong "FootholdWallModel" 236 (-1000000) ∈ gw := gw_of (tb_of 1497 (by decide +kernel)) (by decide +kernel)
set_option maxHeartbeats 4000000 in
set_option maxRecDepth 100000 in
theorem s_M_within (l : Launch) (D : va_G) (cs : CS) (kf : KF) (T : TF) (O : List Nat) (X : va_W) (x0 : Int64) (x1 : Int64) (x2 : Int64)  (hO : okO T O []) : TK l D cs kf yX12_within cX12_within 6 (some (.boolean)) { frames := 0, cells := 0, slots := 0, locals := 0 } [.long x0, .long x1, .long x2] T O X (Ti D cs (fun r u => u = (T, O, X) ∧ 0 ≤ r.toInt ∧ r.toInt ≤ 1 ∧ (r.toInt = 0 ∨ (x1.toInt ≤ x0.toInt ∧ x0.toInt ≤ x2.toInt)) ∧ (¬ r.toInt = 0 ∨ x0.toInt < x1.toInt ∨ x2.toInt < x0.toInt))) := by
  refine tk_of (by decide) (Nat.le_of_ble_eq_true rfl) (fun p e s m below meth c ls A H locs hx hb hr hml hown hts hlocks hnm hkb hH hS hA hOX hks hE hl => ?_)
  have hown : s.vm.findClass RX12 = some m.cls := hown
  have hl : lv_has ls 6 [(0, .long x0), (2, .long x1), (4, .long x2)] := hl
  refine lv_lload_n hx hb dX12_within_0 rfl (lv_at hl 0 rfl) ?_
  refine lv_lload_n hx hb dX12_within_1 rfl (lv_at hl 1 rfl) ?_
  refine W.lcmp hx hb dX12_within_2 ?_
  have J18 : ∀ (k18_0 : Int32) (H : Heap) (locs : List Loc) (ls : Array Slot), (0 ≤ k18_0.toInt) → (k18_0.toInt ≤ 1) → (k18_0.toInt = 0 ∨ (x1.toInt ≤ x0.toInt ∧ x0.toInt ≤ x2.toInt)) → (¬ k18_0.toInt = 0 ∨ x0.toInt < x1.toInt ∨ x2.toInt < x0.toInt) → HT D cs A T O X H → va_S A s.heap H locs → lv_has ls 6 [] → W p l e { frames := 0, cells := 0, slots := 0, locals := 0 } s m [.long x0, .long x1, .long x2].toArray below meth c H locs 0 0 (MQ below (Ti D cs (fun r u => u = (T, O, X) ∧ 0 ≤ r.toInt ∧ r.toInt ≤ 1 ∧ (r.toInt = 0 ∨ (x1.toInt ≤ x0.toInt ∧ x0.toInt ≤ x2.toInt)) ∧ (¬ r.toInt = 0 ∨ x0.toInt < x1.toInt ∨ x2.toInt < x0.toInt)) A) [.long x0, .long x1, .long x2].toArray s 0 0 A) (F0 m 18 ls [.int k18_0]) := by
    intro k18_0 H locs ls l_k18_0 u_k18_0 ix18_0 ix18_1 hH hS hl
    exact te_z hx hb hr hlocks (nar01 (by omega) (by omega)) hH hS (⟨rfl, by omega, by omega, by omega, by omega⟩) dX12_within_18
  have J17 : ∀  (H : Heap) (locs : List Loc) (ls : Array Slot), (x0.toInt < x1.toInt ∨ x2.toInt < x0.toInt) → HT D cs A T O X H → va_S A s.heap H locs → lv_has ls 6 [] → W p l e { frames := 0, cells := 0, slots := 0, locals := 0 } s m [.long x0, .long x1, .long x2].toArray below meth c H locs 0 0 (MQ below (Ti D cs (fun r u => u = (T, O, X) ∧ 0 ≤ r.toInt ∧ r.toInt ≤ 1 ∧ (r.toInt = 0 ∨ (x1.toInt ≤ x0.toInt ∧ x0.toInt ≤ x2.toInt)) ∧ (¬ r.toInt = 0 ∨ x0.toInt < x1.toInt ∨ x2.toInt < x0.toInt)) A) [.long x0, .long x1, .long x2].toArray s 0 0 A) (F0 m 17 ls []) := by
    intro  H locs ls i17 hH hS hl
    refine lv_iconst (v := 0) hx hb dX12_within_17 (by decide) ?_
    have z_0 : (0 : Int32).toInt = 0 := by decide
    exact J18 0 _ _ _ (by decide) (by decide) (by omega) (by omega) hH hS (lv_sub hl [] rfl)
  refine lv_if_lt (tgt := 17) hx hb dX12_within_3 (by decide) (fun c3 => ?_) (fun c3 => ?_)
  · skip
    have tc3 := lt_l c3
    exact J17  _ _ _ (by omega) hH hS (lv_sub hl [] rfl)
  · skip
    have tc3 := nlt_l c3
    refine lv_lload_n hx hb dX12_within_6 rfl (lv_at hl 0 rfl) ?_
    refine lv_lload hx hb dX12_within_7 (lv_at hl 2 rfl) ?_
    refine W.lcmp hx hb dX12_within_9 ?_
    refine lv_if_gt (tgt := 17) hx hb dX12_within_10 (by decide) (fun c10 => ?_) (fun c10 => ?_)
    · skip
      have tc10 := gt_l c10
      exact J17  _ _ _ (by omega) hH hS (lv_sub hl [] rfl)
    · skip
      have tc10 := ngt_l c10
      refine lv_iconst (v := 1) hx hb dX12_within_13 (by decide) ?_
      refine lv_goto (tgt := 18) hx hb dX12_within_14 (by decide) ?_
      have z_1 : (1 : Int32).toInt = 1 := by decide
      exact J18 1 _ _ _ (by decide) (by decide) (by omega) (by omega) hH hS (lv_sub hl [] rfl)
set_option maxHeartbeats 4000000 in
set_option maxRecDepth 100000 in
theorem s_M_isIn (l : Launch) (D : va_G) (cs : CS) (kf : KF) (T : TF) (O : List Nat) (X : va_W) (x0 : Int64) (x1 : Int32)  (hO : okO T O []) : TK l D cs kf yX12_isIn cX12_isIn 3 (some (.boolean)) { frames := 0, cells := 0, slots := 0, locals := 0 } [.long x0, .int x1] T O X (Ti D cs (fun r u => u = (T, O, X) ∧ 0 ≤ r.toInt ∧ r.toInt ≤ 1)) := by
  refine tk_of (by decide) (Nat.le_of_ble_eq_true rfl) (fun p e s m below meth c ls A H locs hx hb hr hml hown hts hlocks hnm hkb hH hS hA hOX hks hE hl => ?_)
  have hown : s.vm.findClass RX12 = some m.cls := hown
  have hl : lv_has ls 3 [(0, .long x0), (2, .int x1)] := hl
  refine lv_lload_n hx hb dX12_isIn_0 rfl (lv_at hl 0 rfl) ?_
  refine lv_iload_n hx hb dX12_isIn_1 rfl (lv_at hl 1 rfl) ?_
  refine lv_lshr hx hb dX12_isIn_2 rfl ?_
  refine lv_topl (fun v2 ev2 => ?_)
  refine lv_lconst (v := 1) hx hb dX12_isIn_3 (by decide) ?_
  refine lv_land hx hb dX12_isIn_4 ?_
  refine lv_topl (fun v4 ev4 => ?_)
  refine lv_lconst (v := 1) hx hb dX12_isIn_5 (by decide) ?_
  refine W.lcmp hx hb dX12_isIn_6 ?_
  have J15 : ∀ (k15_0 : Int32) (H : Heap) (locs : List Loc) (ls : Array Slot), (0 ≤ k15_0.toInt) → (k15_0.toInt ≤ 1) → HT D cs A T O X H → va_S A s.heap H locs → lv_has ls 3 [] → W p l e { frames := 0, cells := 0, slots := 0, locals := 0 } s m [.long x0, .int x1].toArray below meth c H locs 0 0 (MQ below (Ti D cs (fun r u => u = (T, O, X) ∧ 0 ≤ r.toInt ∧ r.toInt ≤ 1) A) [.long x0, .int x1].toArray s 0 0 A) (F0 m 15 ls [.int k15_0]) := by
    intro k15_0 H locs ls l_k15_0 u_k15_0 hH hS hl
    exact te_z hx hb hr hlocks (nar01 (by omega) (by omega)) hH hS (⟨rfl, by omega, by omega⟩) dX12_isIn_15
  refine lv_if_ne (tgt := 14) hx hb dX12_isIn_7 (by decide) (fun c7 => ?_) (fun c7 => ?_)
  · skip
    have tc7 := ne_l c7
    have kc7_1 : (1 : Int64).toInt = 1 := by decide
    refine lv_iconst (v := 0) hx hb dX12_isIn_14 (by decide) ?_
    exact J15 0 _ _ _ (by decide) (by decide) hH hS (lv_sub hl [] rfl)
  · skip
    have tc7 := eq_l c7
    have kc7_1 : (1 : Int64).toInt = 1 := by decide
    refine lv_iconst (v := 1) hx hb dX12_isIn_10 (by decide) ?_
    refine lv_goto (tgt := 15) hx hb dX12_isIn_11 (by decide) ?_
    exact J15 1 _ _ _ (by decide) (by decide) hH hS (lv_sub hl [] rfl)
set_option maxHeartbeats 4000000 in
set_option maxRecDepth 100000 in
theorem s_M_far (l : Launch) (D : va_G) (cs : CS) (kf : KF) (T : TF) (O : List Nat) (X : va_W) (x0 : Int32)  (hO : okO T O []) : TK l D cs kf yX12_far cX12_far 1 (some (.int)) { frames := 0, cells := 0, slots := 0, locals := 0 } [.int x0] T O X (Ti D cs (fun r u => u = (T, O, X))) := by
  refine tk_of (by decide) (Nat.le_of_ble_eq_true rfl) (fun p e s m below meth c ls A H locs hx hb hr hml hown hts hlocks hnm hkb hH hS hA hOX hks hE hl => ?_)
  have hown : s.vm.findClass RX12 = some m.cls := hown
  have hl : lv_has ls 1 [(0, .int x0)] := hl
  refine lv_iload_n hx hb dX12_far_0 rfl (lv_at hl 0 rfl) ?_
  have J10 : ∀ (k10_0 : Int32) (H : Heap) (locs : List Loc) (ls : Array Slot), HT D cs A T O X H → va_S A s.heap H locs → lv_has ls 1 [] → W p l e { frames := 0, cells := 0, slots := 0, locals := 0 } s m [.int x0].toArray below meth c H locs 0 0 (MQ below (Ti D cs (fun r u => u = (T, O, X)) A) [.int x0].toArray s 0 0 A) (F0 m 10 ls [.int k10_0]) := by
    intro k10_0 H locs ls  hH hS hl
    exact te_i hx hb hr hlocks hH hS (rfl) dX12_far_10
  refine lv_if_ge (tgt := 9) hx hb dX12_far_1 (by decide) (fun c1 => ?_) (fun c1 => ?_)
  · skip
    have tc1 := f_ge (k := 0) (by decide) c1
    refine lv_iload_n hx hb dX12_far_9 rfl (lv_at hl 0 rfl) ?_
    exact J10 x0 _ _ _  hH hS (lv_sub hl [] rfl)
  · skip
    have tc1 := f_nge (k := 0) (by decide) c1
    refine lv_iload_n hx hb dX12_far_4 rfl (lv_at hl 0 rfl) ?_
    refine lv_ineg hx hb dX12_far_5 ?_
    refine lv_topi (fun v5 ev5 => ?_)
    refine lv_goto (tgt := 10) hx hb dX12_far_6 (by decide) ?_
    exact J10 v5 _ _ _  hH hS (lv_sub hl [] rfl)
set_option maxHeartbeats 4000000 in
set_option maxRecDepth 100000 in
theorem s_M_isSmall (l : Launch) (D : va_G) (cs : CS) (kf : KF) (T : TF) (O : List Nat) (X : va_W) (x0 : Int32)  (hO : okO T O []) : TK l D cs kf yX12_isSmall cX12_isSmall 1 (some (.boolean)) { frames := 0, cells := 0, slots := 0, locals := 0 } [.int x0] T O X (Ti D cs (fun r u => u = (T, O, X) ∧ 0 ≤ r.toInt ∧ r.toInt ≤ 1)) := by
  refine tk_of (by decide) (Nat.le_of_ble_eq_true rfl) (fun p e s m below meth c ls A H locs hx hb hr hml hown hts hlocks hnm hkb hH hS hA hOX hks hE hl => ?_)
  have hown : s.vm.findClass RX12 = some m.cls := hown
  have hl : lv_has ls 1 [(0, .int x0)] := hl
  refine lv_iload_n hx hb dX12_isSmall_0 rfl (lv_at hl 0 rfl) ?_
  refine lv_bipush (v := 97) hx hb dX12_isSmall_1 (by decide) ?_
  have J17 : ∀ (k17_0 : Int32) (H : Heap) (locs : List Loc) (ls : Array Slot), (0 ≤ k17_0.toInt) → (k17_0.toInt ≤ 1) → HT D cs A T O X H → va_S A s.heap H locs → lv_has ls 1 [] → W p l e { frames := 0, cells := 0, slots := 0, locals := 0 } s m [.int x0].toArray below meth c H locs 0 0 (MQ below (Ti D cs (fun r u => u = (T, O, X) ∧ 0 ≤ r.toInt ∧ r.toInt ≤ 1) A) [.int x0].toArray s 0 0 A) (F0 m 17 ls [.int k17_0]) := by
    intro k17_0 H locs ls l_k17_0 u_k17_0 hH hS hl
    exact te_z hx hb hr hlocks (nar01 (by omega) (by omega)) hH hS (⟨rfl, by omega, by omega⟩) dX12_isSmall_17
  have J16 : ∀  (H : Heap) (locs : List Loc) (ls : Array Slot), HT D cs A T O X H → va_S A s.heap H locs → lv_has ls 1 [] → W p l e { frames := 0, cells := 0, slots := 0, locals := 0 } s m [.int x0].toArray below meth c H locs 0 0 (MQ below (Ti D cs (fun r u => u = (T, O, X) ∧ 0 ≤ r.toInt ∧ r.toInt ≤ 1) A) [.int x0].toArray s 0 0 A) (F0 m 16 ls []) := by
    intro  H locs ls  hH hS hl
    refine lv_iconst (v := 0) hx hb dX12_isSmall_16 (by decide) ?_
    exact J17 0 _ _ _ (by decide) (by decide) hH hS (lv_sub hl [] rfl)
  refine lv_icmp_lt (tgt := 16) hx hb dX12_isSmall_3 (by decide) (fun c3 => ?_) (fun c3 => ?_)
  · skip
    have tc3 := f_lt (k := 97) (by decide) c3
    exact J16  _ _ _  hH hS (lv_sub hl [] rfl)
  · skip
    have tc3 := f_nlt (k := 97) (by decide) c3
    refine lv_iload_n hx hb dX12_isSmall_6 rfl (lv_at hl 0 rfl) ?_
    refine lv_bipush (v := 122) hx hb dX12_isSmall_7 (by decide) ?_
    refine lv_icmp_gt (tgt := 16) hx hb dX12_isSmall_9 (by decide) (fun c9 => ?_) (fun c9 => ?_)
    · skip
      have tc9 := f_gt (k := 122) (by decide) c9
      exact J16  _ _ _  hH hS (lv_sub hl [] rfl)
    · skip
      have tc9 := f_ngt (k := 122) (by decide) c9
      refine lv_iconst (v := 1) hx hb dX12_isSmall_12 (by decide) ?_
      refine lv_goto (tgt := 17) hx hb dX12_isSmall_13 (by decide) ?_
      exact J17 1 _ _ _ (by decide) (by decide) hH hS (lv_sub hl [] rfl)
set_option maxHeartbeats 4000000 in
set_option maxRecDepth 100000 in
theorem s_M_isDigit (l : Launch) (D : va_G) (cs : CS) (kf : KF) (T : TF) (O : List Nat) (X : va_W) (x0 : Int32)  (hO : okO T O []) : TK l D cs kf yX12_isDigit cX12_isDigit 1 (some (.boolean)) { frames := 0, cells := 0, slots := 0, locals := 0 } [.int x0] T O X (Ti D cs (fun r u => u = (T, O, X) ∧ 0 ≤ r.toInt ∧ r.toInt ≤ 1)) := by
  refine tk_of (by decide) (Nat.le_of_ble_eq_true rfl) (fun p e s m below meth c ls A H locs hx hb hr hml hown hts hlocks hnm hkb hH hS hA hOX hks hE hl => ?_)
  have hown : s.vm.findClass RX12 = some m.cls := hown
  have hl : lv_has ls 1 [(0, .int x0)] := hl
  refine lv_iload_n hx hb dX12_isDigit_0 rfl (lv_at hl 0 rfl) ?_
  refine lv_bipush (v := 48) hx hb dX12_isDigit_1 (by decide) ?_
  have J17 : ∀ (k17_0 : Int32) (H : Heap) (locs : List Loc) (ls : Array Slot), (0 ≤ k17_0.toInt) → (k17_0.toInt ≤ 1) → HT D cs A T O X H → va_S A s.heap H locs → lv_has ls 1 [] → W p l e { frames := 0, cells := 0, slots := 0, locals := 0 } s m [.int x0].toArray below meth c H locs 0 0 (MQ below (Ti D cs (fun r u => u = (T, O, X) ∧ 0 ≤ r.toInt ∧ r.toInt ≤ 1) A) [.int x0].toArray s 0 0 A) (F0 m 17 ls [.int k17_0]) := by
    intro k17_0 H locs ls l_k17_0 u_k17_0 hH hS hl
    exact te_z hx hb hr hlocks (nar01 (by omega) (by omega)) hH hS (⟨rfl, by omega, by omega⟩) dX12_isDigit_17
  have J16 : ∀  (H : Heap) (locs : List Loc) (ls : Array Slot), HT D cs A T O X H → va_S A s.heap H locs → lv_has ls 1 [] → W p l e { frames := 0, cells := 0, slots := 0, locals := 0 } s m [.int x0].toArray below meth c H locs 0 0 (MQ below (Ti D cs (fun r u => u = (T, O, X) ∧ 0 ≤ r.toInt ∧ r.toInt ≤ 1) A) [.int x0].toArray s 0 0 A) (F0 m 16 ls []) := by
    intro  H locs ls  hH hS hl
    refine lv_iconst (v := 0) hx hb dX12_isDigit_16 (by decide) ?_
    exact J17 0 _ _ _ (by decide) (by decide) hH hS (lv_sub hl [] rfl)
  refine lv_icmp_lt (tgt := 16) hx hb dX12_isDigit_3 (by decide) (fun c3 => ?_) (fun c3 => ?_)
  · skip
    have tc3 := f_lt (k := 48) (by decide) c3
    exact J16  _ _ _  hH hS (lv_sub hl [] rfl)
  · skip
    have tc3 := f_nlt (k := 48) (by decide) c3
    refine lv_iload_n hx hb dX12_isDigit_6 rfl (lv_at hl 0 rfl) ?_
    refine lv_bipush (v := 57) hx hb dX12_isDigit_7 (by decide) ?_
    refine lv_icmp_gt (tgt := 16) hx hb dX12_isDigit_9 (by decide) (fun c9 => ?_) (fun c9 => ?_)
    · skip
      have tc9 := f_gt (k := 57) (by decide) c9
      exact J16  _ _ _  hH hS (lv_sub hl [] rfl)
    · skip
      have tc9 := f_ngt (k := 57) (by decide) c9
      refine lv_iconst (v := 1) hx hb dX12_isDigit_12 (by decide) ?_
      refine lv_goto (tgt := 17) hx hb dX12_isDigit_13 (by decide) ?_
      exact J17 1 _ _ _ (by decide) (by decide) hH hS (lv_sub hl [] rfl)
set_option maxHeartbeats 4000000 in
set_option maxRecDepth 100000 in
theorem s_M_between (l : Launch) (D : va_G) (cs : CS) (kf : KF) (T : TF) (O : List Nat) (X : va_W) (x0 : Int32) (x1 : Int32) (x2 : Int32)  (hO : okO T O []) : TK l D cs kf yX12_between cX12_between 5 (some (.int)) { frames := 0, cells := 0, slots := 0, locals := 0 } [.int x0, .int x1, .int x2] T O X (Ti D cs (fun r u => u = (T, O, X))) := by
  refine tk_of (by decide) (Nat.le_of_ble_eq_true rfl) (fun p e s m below meth c ls A H locs hx hb hr hml hown hts hlocks hnm hkb hH hS hA hOX hks hE hl => ?_)
  have hown : s.vm.findClass RX12 = some m.cls := hown
  have hl : lv_has ls 5 [(0, .int x0), (1, .int x1), (2, .int x2)] := hl
  refine lv_iload_n hx hb dX12_between_0 rfl (lv_at hl 0 rfl) ?_
  refine lv_sipush (v := 3002) hx hb dX12_between_1 (by decide) ?_
  refine lv_icmp_gt (tgt := 74) hx hb dX12_between_4 (by decide) (fun c4 => ?_) (fun c4 => ?_)
  · skip
    have tc4 := f_gt (k := 3002) (by decide) c4
    refine lv_iload_n hx hb dX12_between_74 rfl (lv_at hl 0 rfl) ?_
    refine lv_sipush (v := 3003) hx hb dX12_between_75 (by decide) ?_
    have J167 : ∀ (k167_0 : Int32) (H : Heap) (locs : List Loc) (ls : Array Slot), (0 ≤ k167_0.toInt) → (k167_0.toInt ≤ 1) → HT D cs A T O X H → va_S A s.heap H locs → lv_has ls 5 [] → W p l e { frames := 0, cells := 0, slots := 0, locals := 0 } s m [.int x0, .int x1, .int x2].toArray below meth c H locs 0 0 (MQ below (Ti D cs (fun r u => u = (T, O, X)) A) [.int x0, .int x1, .int x2].toArray s 0 0 A) (F0 m 167 ls [.int k167_0]) := by
      intro k167_0 H locs ls l_k167_0 u_k167_0 hH hS hl
      refine lv_istore_n (lv' := [(3, .int k167_0)]) hx hb dX12_between_167 rfl hl (by decide) rfl (fun ls hl => ?_)
      refine lv_iload_n hx hb dX12_between_168 rfl (lv_at hl 0 rfl) ?_
      have J177 : ∀ (k177_0 : Int32) (H : Heap) (locs : List Loc) (ls : Array Slot), (0 ≤ k177_0.toInt) → (k177_0.toInt ≤ 1) → HT D cs A T O X H → va_S A s.heap H locs → lv_has ls 5 [] → W p l e { frames := 0, cells := 0, slots := 0, locals := 0 } s m [.int x0, .int x1, .int x2].toArray below meth c H locs 0 0 (MQ below (Ti D cs (fun r u => u = (T, O, X)) A) [.int x0, .int x1, .int x2].toArray s 0 0 A) (F0 m 177 ls [.int k177_0]) := by
        intro k177_0 H locs ls l_k177_0 u_k177_0 hH hS hl
        exact te_i hx hb hr hlocks hH hS (rfl) dX12_between_177
      refine lv_if_eq (tgt := 176) hx hb dX12_between_169 (by decide) (fun c169 => ?_) (fun c169 => ?_)
      · skip
        have tc169 := f_eq (k := 0) (by decide) c169
        refine lv_iconst (v := 0) hx hb dX12_between_176 (by decide) ?_
        exact J177 0 _ _ _ (by decide) (by decide) hH hS (lv_sub hl [] rfl)
      · skip
        have tc169 := f_ne (k := 0) (by decide) c169
        refine lv_iconst (v := 1) hx hb dX12_between_172 (by decide) ?_
        refine lv_goto (tgt := 177) hx hb dX12_between_173 (by decide) ?_
        exact J177 1 _ _ _ (by decide) (by decide) hH hS (lv_sub hl [] rfl)
    refine lv_icmp_ne (tgt := 94) hx hb dX12_between_78 (by decide) (fun c78 => ?_) (fun c78 => ?_)
    · skip
      have tc78 := f_ne (k := 3003) (by decide) c78
      refine lv_iload_n hx hb dX12_between_94 rfl (lv_at hl 0 rfl) ?_
      refine lv_sipush (v := 3004) hx hb dX12_between_95 (by decide) ?_
      refine lv_icmp_ne (tgt := 114) hx hb dX12_between_98 (by decide) (fun c98 => ?_) (fun c98 => ?_)
      · skip
        have tc98 := f_ne (k := 3004) (by decide) c98
        refine lv_iload_n hx hb dX12_between_114 rfl (lv_at hl 0 rfl) ?_
        refine lv_sipush (v := 3005) hx hb dX12_between_115 (by decide) ?_
        refine lv_icmp_ne (tgt := 134) hx hb dX12_between_118 (by decide) (fun c118 => ?_) (fun c118 => ?_)
        · skip
          have tc118 := f_ne (k := 3005) (by decide) c118
          refine lv_iload_n hx hb dX12_between_134 rfl (lv_at hl 0 rfl) ?_
          refine lv_sipush (v := 3006) hx hb dX12_between_135 (by decide) ?_
          refine lv_icmp_ne (tgt := 156) hx hb dX12_between_138 (by decide) (fun c138 => ?_) (fun c138 => ?_)
          · skip
            have tc138 := f_ne (k := 3006) (by decide) c138
            refine lv_iload_n hx hb dX12_between_156 rfl (lv_at hl 1 rfl) ?_
            refine lv_iload_n hx hb dX12_between_157 rfl (lv_at hl 2 rfl) ?_
            refine lv_iadd hx hb dX12_between_158 ?_
            refine lv_topi (fun v158 ev158 => ?_)
            refine lv_if_le (tgt := 166) hx hb dX12_between_159 (by decide) (fun c159 => ?_) (fun c159 => ?_)
            · skip
              have tc159 := f_le (k := 0) (by decide) c159
              refine lv_iconst (v := 0) hx hb dX12_between_166 (by decide) ?_
              exact J167 0 _ _ _ (by decide) (by decide) hH hS (lv_sub hl [] rfl)
            · skip
              have tc159 := f_nle (k := 0) (by decide) c159
              refine lv_iconst (v := 1) hx hb dX12_between_162 (by decide) ?_
              refine lv_goto (tgt := 167) hx hb dX12_between_163 (by decide) ?_
              exact J167 1 _ _ _ (by decide) (by decide) hH hS (lv_sub hl [] rfl)
          · skip
            have tc138 := f_eq (k := 3006) (by decide) c138
            refine lv_iload_n hx hb dX12_between_141 rfl (lv_at hl 1 rfl) ?_
            refine lv_iload_n hx hb dX12_between_142 rfl (lv_at hl 2 rfl) ?_
            refine lv_iadd hx hb dX12_between_143 ?_
            refine lv_topi (fun v143 ev143 => ?_)
            refine lv_iconst (v := 2) hx hb dX12_between_144 (by decide) ?_
            refine lv_icmp_ne (tgt := 152) hx hb dX12_between_145 (by decide) (fun c145 => ?_) (fun c145 => ?_)
            · skip
              have tc145 := f_ne (k := 2) (by decide) c145
              refine lv_iconst (v := 0) hx hb dX12_between_152 (by decide) ?_
              refine lv_goto (tgt := 167) hx hb dX12_between_153 (by decide) ?_
              exact J167 0 _ _ _ (by decide) (by decide) hH hS (lv_sub hl [] rfl)
            · skip
              have tc145 := f_eq (k := 2) (by decide) c145
              refine lv_iconst (v := 1) hx hb dX12_between_148 (by decide) ?_
              refine lv_goto (tgt := 167) hx hb dX12_between_149 (by decide) ?_
              exact J167 1 _ _ _ (by decide) (by decide) hH hS (lv_sub hl [] rfl)
        · skip
          have tc118 := f_eq (k := 3005) (by decide) c118
          refine lv_iload_n hx hb dX12_between_121 rfl (lv_at hl 1 rfl) ?_
          refine lv_iload_n hx hb dX12_between_122 rfl (lv_at hl 2 rfl) ?_
          refine lv_icmp_le (tgt := 130) hx hb dX12_between_123 (by decide) (fun c123 => ?_) (fun c123 => ?_)
          · skip
            have fuc123 := full_i x1
            have fvc123 := full_i x2
            have tc123 := g_le c123
            refine lv_iconst (v := 0) hx hb dX12_between_130 (by decide) ?_
            refine lv_goto (tgt := 167) hx hb dX12_between_131 (by decide) ?_
            exact J167 0 _ _ _ (by decide) (by decide) hH hS (lv_sub hl [] rfl)
          · skip
            have fuc123 := full_i x1
            have fvc123 := full_i x2
            have tc123 := g_nle c123
            refine lv_iconst (v := 1) hx hb dX12_between_126 (by decide) ?_
            refine lv_goto (tgt := 167) hx hb dX12_between_127 (by decide) ?_
            exact J167 1 _ _ _ (by decide) (by decide) hH hS (lv_sub hl [] rfl)
      · skip
        have tc98 := f_eq (k := 3004) (by decide) c98
        refine lv_iload_n hx hb dX12_between_101 rfl (lv_at hl 1 rfl) ?_
        refine lv_iload_n hx hb dX12_between_102 rfl (lv_at hl 2 rfl) ?_
        refine lv_icmp_ge (tgt := 110) hx hb dX12_between_103 (by decide) (fun c103 => ?_) (fun c103 => ?_)
        · skip
          have fuc103 := full_i x1
          have fvc103 := full_i x2
          have tc103 := g_le c103
          refine lv_iconst (v := 0) hx hb dX12_between_110 (by decide) ?_
          refine lv_goto (tgt := 167) hx hb dX12_between_111 (by decide) ?_
          exact J167 0 _ _ _ (by decide) (by decide) hH hS (lv_sub hl [] rfl)
        · skip
          have fuc103 := full_i x1
          have fvc103 := full_i x2
          have tc103 := g_nle c103
          refine lv_iconst (v := 1) hx hb dX12_between_106 (by decide) ?_
          refine lv_goto (tgt := 167) hx hb dX12_between_107 (by decide) ?_
          exact J167 1 _ _ _ (by decide) (by decide) hH hS (lv_sub hl [] rfl)
    · skip
      have tc78 := f_eq (k := 3003) (by decide) c78
      refine lv_iload_n hx hb dX12_between_81 rfl (lv_at hl 1 rfl) ?_
      refine lv_iload_n hx hb dX12_between_82 rfl (lv_at hl 2 rfl) ?_
      refine lv_icmp_ne (tgt := 90) hx hb dX12_between_83 (by decide) (fun c83 => ?_) (fun c83 => ?_)
      · skip
        have fuc83 := full_i x1
        have fvc83 := full_i x2
        have tc83 := g_ne c83
        refine lv_iconst (v := 0) hx hb dX12_between_90 (by decide) ?_
        refine lv_goto (tgt := 167) hx hb dX12_between_91 (by decide) ?_
        exact J167 0 _ _ _ (by decide) (by decide) hH hS (lv_sub hl [] rfl)
      · skip
        have fuc83 := full_i x1
        have fvc83 := full_i x2
        have tc83 := g_eq c83
        refine lv_iconst (v := 1) hx hb dX12_between_86 (by decide) ?_
        refine lv_goto (tgt := 167) hx hb dX12_between_87 (by decide) ?_
        exact J167 1 _ _ _ (by decide) (by decide) hH hS (lv_sub hl [] rfl)
  · skip
    have tc4 := f_ngt (k := 3002) (by decide) c4
    refine lv_iload_n hx hb dX12_between_7 rfl (lv_at hl 0 rfl) ?_
    refine lv_sipush (v := 3000) hx hb dX12_between_8 (by decide) ?_
    have J42 : ∀ (k42_0 : Int64) (H : Heap) (locs : List Loc) (ls : Array Slot), HT D cs A T O X H → va_S A s.heap H locs → lv_has ls 5 [] → W p l e { frames := 0, cells := 0, slots := 0, locals := 0 } s m [.int x0, .int x1, .int x2].toArray below meth c H locs 0 0 (MQ below (Ti D cs (fun r u => u = (T, O, X)) A) [.int x0, .int x1, .int x2].toArray s 0 0 A) (F0 m 42 ls [.long k42_0]) := by
      intro k42_0 H locs ls  hH hS hl
      refine lv_lstore_n (lv' := [(3, .long k42_0)]) hx hb dX12_between_42 rfl hl (by decide) rfl (fun ls hl => ?_)
      refine lv_lload_n hx hb dX12_between_43 rfl (lv_at hl 0 rfl) ?_
      refine lv_ldc2 hx hb hown (hts _ kw_1496) dX12_between_44 ?_
      refine W.lcmp hx hb dX12_between_47 ?_
      have J72 : ∀ (k72_0 : Int64) (H : Heap) (locs : List Loc) (ls : Array Slot), HT D cs A T O X H → va_S A s.heap H locs → lv_has ls 5 [] → W p l e { frames := 0, cells := 0, slots := 0, locals := 0 } s m [.int x0, .int x1, .int x2].toArray below meth c H locs 0 0 (MQ below (Ti D cs (fun r u => u = (T, O, X)) A) [.int x0, .int x1, .int x2].toArray s 0 0 A) (F0 m 72 ls [.long k72_0]) := by
        intro k72_0 H locs ls  hH hS hl
        refine lv_l2i hx hb dX12_between_72 rfl ?_
        refine lv_topi (fun v72 ev72 => ?_)
        exact te_i hx hb hr hlocks hH hS (rfl) dX12_between_73
      refine lv_if_le (tgt := 57) hx hb dX12_between_48 (by decide) (fun c48 => ?_) (fun c48 => ?_)
      · skip
        have tc48 := le_l c48
        have kc48_1000000 : (1000000 : Int64).toInt = 1000000 := by decide
        refine lv_lload_n hx hb dX12_between_57 rfl (lv_at hl 0 rfl) ?_
        refine lv_ldc2 hx hb hown (hts _ kw_1497) dX12_between_58 ?_
        refine W.lcmp hx hb dX12_between_61 ?_
        refine lv_if_ge (tgt := 71) hx hb dX12_between_62 (by decide) (fun c62 => ?_) (fun c62 => ?_)
        · skip
          have tc62 := ge_l c62
          have kc62_m1000000 : ((-1000000) : Int64).toInt = -1000000 := by decide
          refine lv_lload_n hx hb dX12_between_71 rfl (lv_at hl 0 rfl) ?_
          exact J72 k42_0 _ _ _  hH hS (lv_sub hl [] rfl)
        · skip
          have tc62 := nge_l c62
          have kc62_m1000000 : ((-1000000) : Int64).toInt = -1000000 := by decide
          refine lv_ldc2 hx hb hown (hts _ kw_1497) dX12_between_65 ?_
          refine lv_goto (tgt := 72) hx hb dX12_between_68 (by decide) ?_
          exact J72 (-1000000) _ _ _  hH hS (lv_sub hl [] rfl)
      · skip
        have tc48 := nle_l c48
        have kc48_1000000 : (1000000 : Int64).toInt = 1000000 := by decide
        refine lv_ldc2 hx hb hown (hts _ kw_1496) dX12_between_51 ?_
        refine lv_goto (tgt := 72) hx hb dX12_between_54 (by decide) ?_
        exact J72 1000000 _ _ _  hH hS (lv_sub hl [] rfl)
    refine lv_icmp_ne (tgt := 22) hx hb dX12_between_11 (by decide) (fun c11 => ?_) (fun c11 => ?_)
    · skip
      have tc11 := f_ne (k := 3000) (by decide) c11
      refine lv_iload_n hx hb dX12_between_22 rfl (lv_at hl 0 rfl) ?_
      refine lv_sipush (v := 3001) hx hb dX12_between_23 (by decide) ?_
      refine lv_icmp_ne (tgt := 37) hx hb dX12_between_26 (by decide) (fun c26 => ?_) (fun c26 => ?_)
      · skip
        have tc26 := f_ne (k := 3001) (by decide) c26
        refine lv_iload_n hx hb dX12_between_37 rfl (lv_at hl 1 rfl) ?_
        refine lv_i2l hx hb dX12_between_38 rfl ?_
        refine lv_iload_n hx hb dX12_between_39 rfl (lv_at hl 2 rfl) ?_
        refine lv_i2l hx hb dX12_between_40 rfl ?_
        refine lv_lmul hx hb dX12_between_41 ?_
        refine lv_topl (fun v41 ev41 => ?_)
        exact J42 v41 _ _ _  hH hS (lv_sub hl [] rfl)
      · skip
        have tc26 := f_eq (k := 3001) (by decide) c26
        refine lv_iload_n hx hb dX12_between_29 rfl (lv_at hl 1 rfl) ?_
        refine lv_i2l hx hb dX12_between_30 rfl ?_
        refine lv_iload_n hx hb dX12_between_31 rfl (lv_at hl 2 rfl) ?_
        refine lv_i2l hx hb dX12_between_32 rfl ?_
        refine lv_lsub hx hb dX12_between_33 ?_
        refine lv_topl (fun v33 ev33 => ?_)
        refine lv_goto (tgt := 42) hx hb dX12_between_34 (by decide) ?_
        exact J42 v33 _ _ _  hH hS (lv_sub hl [] rfl)
    · skip
      have tc11 := f_eq (k := 3000) (by decide) c11
      refine lv_iload_n hx hb dX12_between_14 rfl (lv_at hl 1 rfl) ?_
      refine lv_i2l hx hb dX12_between_15 rfl ?_
      refine lv_iload_n hx hb dX12_between_16 rfl (lv_at hl 2 rfl) ?_
      refine lv_i2l hx hb dX12_between_17 rfl ?_
      refine lv_ladd hx hb dX12_between_18 ?_
      refine lv_topl (fun v18 ev18 => ?_)
      refine lv_goto (tgt := 42) hx hb dX12_between_19 (by decide) ?_
      exact J42 v18 _ _ _  hH hS (lv_sub hl [] rfl)
set_option maxHeartbeats 4000000 in
set_option maxRecDepth 100000 in
theorem s_M_cut (l : Launch) (D : va_G) (cs : CS) (kf : KF) (T : TF) (O : List Nat) (X : va_W) (x0 : Int64) (x1 : Int32)  (hO : okO T O []) : TK l D cs kf yX12_cut cX12_cut 3 (some (.long)) { frames := 0, cells := 0, slots := 0, locals := 0 } [.long x0, .int x1] T O X (Tl D cs (fun _ u => u = (T, O, X))) := by
  refine tk_of (by decide) (Nat.le_of_ble_eq_true rfl) (fun p e s m below meth c ls A H locs hx hb hr hml hown hts hlocks hnm hkb hH hS hA hOX hks hE hl => ?_)
  have hown : s.vm.findClass RX12 = some m.cls := hown
  have hl : lv_has ls 3 [(0, .long x0), (2, .int x1)] := hl
  refine lv_iload_n hx hb dX12_cut_0 rfl (lv_at hl 1 rfl) ?_
  have J35 : ∀ (k35_0 : Int64) (H : Heap) (locs : List Loc) (ls : Array Slot), HT D cs A T O X H → va_S A s.heap H locs → lv_has ls 3 [] → W p l e { frames := 0, cells := 0, slots := 0, locals := 0 } s m [.long x0, .int x1].toArray below meth c H locs 0 0 (MQ below (Tl D cs (fun _ u => u = (T, O, X)) A) [.long x0, .int x1].toArray s 0 0 A) (F0 m 35 ls [.long k35_0]) := by
    intro k35_0 H locs ls  hH hS hl
    exact te_l hx hb hr hlocks hH hS rfl dX12_cut_35
  refine lv_if_ne (tgt := 11) hx hb dX12_cut_1 (by decide) (fun c1 => ?_) (fun c1 => ?_)
  · skip
    have tc1 := f_ne (k := 0) (by decide) c1
    refine lv_iload_n hx hb dX12_cut_11 rfl (lv_at hl 1 rfl) ?_
    refine lv_iconst (v := 1) hx hb dX12_cut_12 (by decide) ?_
    refine lv_icmp_ne (tgt := 23) hx hb dX12_cut_13 (by decide) (fun c13 => ?_) (fun c13 => ?_)
    · skip
      have tc13 := f_ne (k := 1) (by decide) c13
      refine lv_iload_n hx hb dX12_cut_23 rfl (lv_at hl 1 rfl) ?_
      refine lv_iconst (v := 2) hx hb dX12_cut_24 (by decide) ?_
      refine lv_icmp_ne (tgt := 34) hx hb dX12_cut_25 (by decide) (fun c25 => ?_) (fun c25 => ?_)
      · skip
        have tc25 := f_ne (k := 2) (by decide) c25
        refine lv_lload_n hx hb dX12_cut_34 rfl (lv_at hl 0 rfl) ?_
        exact J35 x0 _ _ _  hH hS (lv_sub hl [] rfl)
      · skip
        have tc25 := f_eq (k := 2) (by decide) c25
        refine lv_lload_n hx hb dX12_cut_28 rfl (lv_at hl 0 rfl) ?_
        refine lv_l2i hx hb dX12_cut_29 rfl ?_
        refine lv_topi (fun v29 ev29 => ?_)
        refine lv_i2l hx hb dX12_cut_30 rfl ?_
        refine lv_goto (tgt := 35) hx hb dX12_cut_31 (by decide) ?_
        exact J35 v29.toInt64 _ _ _  hH hS (lv_sub hl [] rfl)
    · skip
      have tc13 := f_eq (k := 1) (by decide) c13
      refine lv_lload_n hx hb dX12_cut_16 rfl (lv_at hl 0 rfl) ?_
      refine lv_l2i hx hb dX12_cut_17 rfl ?_
      refine lv_topi (fun v17 ev17 => ?_)
      refine lv_i2s hx hb dX12_cut_18 rfl ?_
      refine lv_topi (fun v18 ev18 => ?_)
      refine lv_i2l hx hb dX12_cut_19 rfl ?_
      refine lv_goto (tgt := 35) hx hb dX12_cut_20 (by decide) ?_
      exact J35 v18.toInt64 _ _ _  hH hS (lv_sub hl [] rfl)
  · skip
    have tc1 := f_eq (k := 0) (by decide) c1
    refine lv_lload_n hx hb dX12_cut_4 rfl (lv_at hl 0 rfl) ?_
    refine lv_l2i hx hb dX12_cut_5 rfl ?_
    refine lv_topi (fun v5 ev5 => ?_)
    refine lv_i2b hx hb dX12_cut_6 rfl ?_
    refine lv_topi (fun v6 ev6 => ?_)
    refine lv_i2l hx hb dX12_cut_7 rfl ?_
    refine lv_goto (tgt := 35) hx hb dX12_cut_8 (by decide) ?_
    exact J35 v6.toInt64 _ _ _  hH hS (lv_sub hl [] rfl)
set_option maxHeartbeats 4000000 in
set_option maxRecDepth 100000 in
theorem s_M_bitsOf (l : Launch) (D : va_G) (cs : CS) (kf : KF) (T : TF) (O : List Nat) (X : va_W) (x0 : Int32)  (hO : okO T O []) : TK l D cs kf yX12_bitsOf cX12_bitsOf 3 (some (.int)) { frames := 0, cells := 0, slots := 0, locals := 0 } [.int x0] T O X (Ti D cs (fun r u => u = (T, O, X))) := by
  refine tk_of (by decide) (Nat.le_of_ble_eq_true rfl) (fun p e s m below meth c ls A H locs hx hb hr hml hown hts hlocks hnm hkb hH hS hA hOX hks hE hl => ?_)
  have hown : s.vm.findClass RX12 = some m.cls := hown
  have hl : lv_has ls 3 [(0, .int x0)] := hl
  refine lv_iconst (v := 0) hx hb dX12_bitsOf_0 (by decide) ?_
  refine lv_istore_n (lv' := [(1, .int 0), (0, .int x0)]) hx hb dX12_bitsOf_1 rfl hl (by decide) rfl (fun ls hl => ?_)
  refine lv_iconst (v := 0) hx hb dX12_bitsOf_2 (by decide) ?_
  have J4 : ∀ (n : Nat) (p4_2 : Int32) (p4_1 : Int32) (H : Heap) (locs : List Loc) (ls : Array Slot), (14 - p4_2.toInt).toNat = n → (0 ≤ p4_2.toInt) → (p4_2.toInt ≤ 14) → HT D cs A T O X H → va_S A s.heap H locs → lv_has ls 3 [(2, .int p4_2), (1, .int p4_1), (0, .int x0)] → W p l e { frames := 0, cells := 0, slots := 0, locals := 0 } s m [.int x0].toArray below meth c H locs 0 0 (MQ below (Ti D cs (fun r u => u = (T, O, X)) A) [.int x0].toArray s 0 0 A) (F0 m 4 ls []) := by
    intro n
    induction n using Nat.strongRecOn with
    | _ n ih4 =>
      intro p4_2 p4_1 H locs ls hm4 l_p4_2 u_p4_2 hH hS hl
      refine lv_iload_n hx hb dX12_bitsOf_4 rfl (lv_at hl 0 rfl) ?_
      refine lv_bipush (v := 14) hx hb dX12_bitsOf_5 (by decide) ?_
      refine lv_icmp_ge (tgt := 24) hx hb dX12_bitsOf_7 (by decide) (fun c7 => ?_) (fun c7 => ?_)
      · skip
        have tc7 := f_ge (k := 14) (by decide) c7
        refine lv_iload_n hx hb dX12_bitsOf_24 rfl (lv_at hl 1 rfl) ?_
        exact te_i hx hb hr hlocks hH hS (rfl) dX12_bitsOf_25
      · skip
        have tc7 := f_nge (k := 14) (by decide) c7
        refine lv_iload_n hx hb dX12_bitsOf_10 rfl (lv_at hl 1 rfl) ?_
        refine lv_iload_n hx hb dX12_bitsOf_11 rfl (lv_at hl 2 rfl) ?_
        refine lv_iload_n hx hb dX12_bitsOf_12 rfl (lv_at hl 0 rfl) ?_
        refine lv_ishr hx hb dX12_bitsOf_13 ?_
        refine lv_topi (fun v13 ev13 => ?_)
        refine lv_iconst (v := 1) hx hb dX12_bitsOf_14 (by decide) ?_
        refine lv_iand hx hb dX12_bitsOf_15 ?_
        refine lv_topi (fun v15 ev15 => ?_)
        have tv15 : 0 ≤ v15.toInt ∧ v15.toInt ≤ 1 := by rw [ev15]; exact and_r (by decide)
        refine lv_iadd hx hb dX12_bitsOf_16 ?_
        refine lv_topi (fun v16 ev16 => ?_)
        refine lv_istore_n (lv' := [(1, .int v16), (2, .int p4_2), (0, .int x0)]) hx hb dX12_bitsOf_17 rfl hl (by decide) rfl (fun ls hl => ?_)
        obtain ⟨v18, ev18⟩ : ∃ y : Int32, y = p4_2 + 1 := ⟨_, rfl⟩
        have tv18 : v18.toInt = p4_2.toInt + (1) := by rw [ev18]; exact add_i rfl (by decide) (by omega) (by omega)
        refine lv_iinc (v := v18) (lv' := [(2, .int v18), (1, .int v16), (0, .int x0)]) hx hb dX12_bitsOf_18 hl (k := 1) rfl (by rw [ev18]; rfl) (by decide) rfl (fun ls hl => ?_)
        refine lv_goto (tgt := 4) hx hb dX12_bitsOf_21 (by decide) ?_
        exact ih4 _ (by omega) v18 v16 _ _ _ rfl (by omega) (by omega) hH hS (lv_sub hl [0, 1, 2] rfl)
  refine lv_istore_n (lv' := [(2, .int 0), (1, .int 0), (0, .int x0)]) hx hb dX12_bitsOf_3 rfl hl (by decide) rfl (fun ls hl => ?_)
  exact J4 _ 0 0 _ _ _ rfl (by decide) (by decide) hH hS (lv_sub hl [0, 1, 2] rfl)
/-! another wall of a FootholdWall -/
theorem isW.le {T T' : TF} (h : Tle T T') {a x g : Nat} (hw : isW T a x g) : isW T' a x g := ⟨h _ _ hw.1, hw.2⟩
theorem okO.le {T T' : TF} (h : Tle T T') {O K : List Nat} (ho : okO T O K) : okO T' O K := fun o hm => by
  obtain ⟨tg, h1, h2⟩ := ho o hm
  exact ⟨tg, h _ _ h1, h2⟩
/-- kept when the cell a of kind 21 is told anew -/
def mon1 (P : FT) : Prop := ∀ (T : TF) (a w w2 q : Nat) (v : Value), T a = some (21, w, q) → P T v → P (Tadd T a (21, w2, q)) v
theorem re_ne {T : TF} {a w w2 q b : Nat} {tg : Tg} (ha : T a = some (21, w, q)) (hk : tg.1 ≠ 21) (h : T b = some tg) : Tadd T a (21, w2, q) b = some tg := by
  unfold Tadd
  rw [if_neg (fun z => by rw [z, ha] at h; cases h; exact hk rfl)]
  exact h
theorem nI_ (lo hi : Int) : mon1 (fI lo hi) := fun _ _ _ _ _ _ _ h => h
theorem nA : mon1 fA := fun _ _ _ _ _ _ _ h => h
theorem nE (n : Nat) : mon1 (fE n) := fun _ _ _ _ _ _ _ h => h
theorem nN : mon1 fN := fun _ _ _ _ _ _ _ h => h
theorem nP (n : Nat) : mon1 (fP n) := fun _ _ _ _ _ _ _ h => h
theorem nR {tg : Tg} (hk : tg.1 ≠ 21) : mon1 (fR tg) := fun _ _ _ _ _ _ ha ⟨b, x, t⟩ => ⟨b, x, re_ne ha hk t⟩
theorem nRd : mon1 fRd := fun _ _ _ _ _ _ ha ⟨b, d, x, t, u⟩ => ⟨b, d, x, re_ne ha (by show 14 ≠ 21; decide) t, re_ne ha (by show 19 ≠ 21; decide) u⟩
theorem isW.re {T : TF} {a w w2 q b x g : Nat} (ha : T a = some (21, w, q)) (h : isW T b x g) : isW (Tadd T a (21, w2, q)) b x g := ⟨re_ne ha (by show 19 ≠ 21; decide) h.1, h.2⟩
theorem nW : mon1 fW := fun _ _ _ _ _ _ ha ⟨b, x, g, q, t⟩ => ⟨b, x, g, q, isW.re ha t⟩
theorem nL : mon1 fLw := fun _ _ _ _ _ _ ha q => q.elim Or.inl (fun ⟨b, n, x, t, u⟩ => Or.inr ⟨b, n, x, re_ne ha (by show 12 ≠ 21; decide) t, u⟩)
theorem nTR (n : Nat) : mon1 (fTR n) := fun _ _ _ _ _ _ ha ⟨b, g, e, t, u⟩ => ⟨b, g, e, re_ne ha (by show 6 ≠ 21; decide) t, re_ne ha (by show 10 ≠ 21; decide) u⟩
theorem nSo (n : Nat) : mon1 (fSo n) := fun _ _ _ _ _ _ _ h => h
theorem nSz (n : Nat) : mon1 (fSz n) := fun _ _ _ _ _ _ _ h => h
theorem nRS (n : Nat) : mon1 (fRS n) := fun _ _ _ _ _ _ ha ⟨b, e, t⟩ => ⟨b, e, re_ne ha (by show 9 ≠ 21; decide) t⟩
theorem nRM (n : Nat) : mon1 (fRM n) := fun _ _ _ _ _ _ ha ⟨b, e, t⟩ => ⟨b, e, re_ne ha (by show 9 ≠ 21; decide) t⟩
def mons1 (l : List FT) : Prop := ∀ P ∈ l, mon1 P
theorem m1_n : mons1 [] := fun _ h => absurd h List.not_mem_nil
theorem m1_c {P : FT} {l : List FT} (h : mon1 P) (hl : mons1 l) : mons1 (P :: l) := fun Q hQ => (List.mem_cons.mp hQ).elim (fun q => q ▸ h) (hl Q)
theorem ft1_1 (p q : Nat) : mons1 (ft1 p q) := m1_c (nR (by show 1 ≠ 21; decide)) (m1_c (nR (by show 1 ≠ 21; decide)) (m1_c (nA) (m1_c (nR (by show 1 ≠ 21; decide)) (m1_c (nI_ _ _) (m1_c (nA) (m1_c (nR (by show 1 ≠ 21; decide)) (m1_n)))))))
theorem ft2_1 (p q : Nat) : mons1 (ft2 p q) := m1_c (nR (by show 1 ≠ 21; decide)) (m1_c (nR (by show 1 ≠ 21; decide)) (m1_c (nR (by show 1 ≠ 21; decide)) (m1_n)))
theorem ft3_1 (p q : Nat) : mons1 (ft3 p q) := m1_c (nR (by show 17 ≠ 21; decide)) (m1_c (nR (by show 1 ≠ 21; decide)) (m1_c (nI_ _ _) (m1_n)))
theorem ft4_1 (p q : Nat) : mons1 (ft4 p q) := m1_c (nR (by show 17 ≠ 21; decide)) (m1_c (nR (by show 13 ≠ 21; decide)) (m1_c (nP _) (m1_c (nI_ _ _) (m1_c (nR (by show 16 ≠ 21; decide)) (m1_n)))))
theorem ft5_1 (p q : Nat) : mons1 (ft5 p q) := m1_c (nW) (m1_c (nA) (m1_c (nA) (m1_c (nA) (m1_c (nR (by show 1 ≠ 21; decide)) (m1_c (nR (by show 1 ≠ 21; decide)) (m1_n))))))
theorem ft6_1 (p q : Nat) : mons1 (ft6 p q) := m1_c (nA) (m1_c (nA) (m1_c (nA) (m1_c (nA) (m1_c (nR (by show 1 ≠ 21; decide)) (m1_c (nR (by show 1 ≠ 21; decide)) (m1_n))))))
theorem ft8_1 (p q : Nat) : mons1 (ft8 p q) := m1_c (nR (by show 2 ≠ 21; decide)) (m1_c (nSo _) (m1_c (nSz _) (m1_n)))
theorem ft10_1 (p q : Nat) : mons1 (ft10 p q) := m1_c (nR (by show 1 ≠ 21; decide)) (m1_c (nR (by show 1 ≠ 21; decide)) (m1_c (nI_ _ _) (m1_c (nR (by show 2 ≠ 21; decide)) (m1_c (nR (by show 1 ≠ 21; decide)) (m1_c (nR (by show 1 ≠ 21; decide)) (m1_c (nI_ _ _) (m1_n)))))))
theorem ft11_1 (p q : Nat) : mons1 (ft11 p q) := m1_c (nR (by show 0 ≠ 21; decide)) (m1_c (nI_ _ _) (m1_c (nRd) (m1_c (nP _) (m1_c (nR (by show 16 ≠ 21; decide)) (m1_c (nR (by show 16 ≠ 21; decide)) (m1_c (nR (by show 4 ≠ 21; decide)) (m1_c (nI_ _ _) (m1_c (nI_ _ _) (m1_c (nR (by show 5 ≠ 21; decide)) (m1_c (nR (by show 4 ≠ 21; decide)) (m1_c (nTR _) (m1_c (nR (by show 7 ≠ 21; decide)) (m1_c (nR (by show 15 ≠ 21; decide)) (m1_c (nR (by show 20 ≠ 21; decide)) (m1_c (nR (by show 11 ≠ 21; decide)) (m1_c (nP _) (m1_c (nR (by show 1 ≠ 21; decide)) (m1_c (nR (by show 1 ≠ 21; decide)) (m1_c (nA) (m1_n))))))))))))))))))))
theorem ft12_1 (p q : Nat) : mons1 (ft12 p q) := m1_c (nA) (m1_c (nR (by show 8 ≠ 21; decide)) (m1_c (nR (by show 3 ≠ 21; decide)) (m1_c (nR (by show 1 ≠ 21; decide)) (m1_c (nR (by show 8 ≠ 21; decide)) (m1_c (nI_ _ _) (m1_c (nA) (m1_c (nA) (m1_c (nA) (m1_c (nA) (m1_c (nI_ _ _) (m1_c (nA) (m1_c (nA) (m1_c (nA) (m1_c (nA) (m1_c (nR (by show 1 ≠ 21; decide)) (m1_c (nA) (m1_c (nR (by show 9 ≠ 21; decide)) (m1_c (nR (by show 9 ≠ 21; decide)) (m1_c (nR (by show 1 ≠ 21; decide)) (m1_c (nI_ _ _) (m1_c (nR (by show 1 ≠ 21; decide)) (m1_c (nR (by show 1 ≠ 21; decide)) (m1_c (nA) (m1_c (nA) (m1_c (nA) (m1_c (nR (by show 2 ≠ 21; decide)) (m1_c (nR (by show 3 ≠ 21; decide)) (m1_c (nR (by show 0 ≠ 21; decide)) (m1_c (nR (by show 1 ≠ 21; decide)) (m1_c (nR (by show 1 ≠ 21; decide)) (m1_c (nR (by show 1 ≠ 21; decide)) (m1_c (nA) (m1_c (nRS _) (m1_c (nRM _) (m1_c (nR (by show 2 ≠ 21; decide)) (m1_n))))))))))))))))))))))))))))))))))))
theorem ft9w_1 (p q : Nat) : mons1 (ft9w p q) := m1_c (nE _) (m1_c (nE _) (m1_c (nA) (m1_c (nI_ _ _) (m1_c (nI_ _ _) (m1_c (nI_ _ _) (m1_c (nR (by show 1 ≠ 21; decide)) (m1_c (nR (by show 1 ≠ 21; decide)) (m1_c (nR (by show 1 ≠ 21; decide)) (m1_c (nR (by show 1 ≠ 21; decide)) (m1_c (nR (by show 1 ≠ 21; decide)) (m1_c (nL) (m1_c (nI_ _ _) (m1_c (nI_ _ _) (m1_n))))))))))))))
theorem ft9d_1 (p q : Nat) : mons1 (ft9d p q) := m1_c (nI_ _ _) (m1_c (nI_ _ _) (m1_c (nA) (m1_c (nI_ _ _) (m1_c (nI_ _ _) (m1_c (nI_ _ _) (m1_c (nR (by show 1 ≠ 21; decide)) (m1_c (nR (by show 1 ≠ 21; decide)) (m1_c (nR (by show 1 ≠ 21; decide)) (m1_c (nR (by show 1 ≠ 21; decide)) (m1_c (nR (by show 1 ≠ 21; decide)) (m1_c (nN) (m1_c (nI_ _ _) (m1_c (nI_ _ _) (m1_n))))))))))))))
theorem ft9_1 (p q : Nat) : mons1 (ft9 p q) := by
  unfold ft9
  split
  · exact ft9d_1 p q
  · exact ft9w_1 p q
theorem fts_1 (c p q : Nat) : mons1 (fts c p q) := by
  unfold fts
  split <;> first | exact ft1_1 p q | exact ft2_1 p q | exact ft3_1 p q | exact ft4_1 p q | exact ft5_1 p q | exact ft6_1 p q | exact ft8_1 p q | exact ft9_1 p q | exact ft10_1 p q | exact ft11_1 p q | exact ft12_1 p q | exact m1_n
theorem ob_re {T : TF} {a w w2 q0 : Nat} (ha : T a = some (21, w, q0)) {c p q : Nat} {fs : List Value} (ho : ob T c p q fs) : ob (Tadd T a (21, w2, q0)) c p q fs := by
  unfold ob at ho ⊢
  split at ho
  · obtain ⟨b, b2, d, n, x, e1, t1, t2, t3, r⟩ := ho
    exact ⟨b, b2, d, n, x, e1, re_ne ha (by show 1 ≠ 21; decide) t1, re_ne ha (by show 1 ≠ 21; decide) t2, re_ne ha (by show 1 ≠ 21; decide) t3, r⟩
  · obtain ⟨b, n, x1, x2, x3, x4, x5, x6, x7, e1, t, r⟩ := ho
    exact ⟨b, n, x1, x2, x3, x4, x5, x6, x7, e1, re_ne ha (by show 0 ≠ 21; decide) t, r⟩
  · exact ⟨ho.1, fun k P v h1 h2 => fts_1 _ _ _ P (List.mem_of_getElem? h1) T a w w2 q0 v ha (ho.2 k P v h1 h2)⟩
theorem sp_re {cs : CS} {T : TF} {a w w2 q : Nat} (ha : T a = some (21, w, q)) {tg : Tg} {e : va_E} (hs : sp cs T tg e) : sp cs (Tadd T a (21, w2, q)) tg e := by
  unfold sp at hs ⊢
  split at hs
  · exact hs
  · exact hs
  · exact hs
  · exact hs
  · obtain ⟨f, e1, g⟩ := hs
    exact ⟨f, e1, fun j hj => by obtain ⟨b, x, y⟩ := g j hj; exact ⟨b, x, re_ne ha (by show 16 ≠ 21; decide) y⟩⟩
  · obtain ⟨f, e1, g⟩ := hs
    exact ⟨f, e1, fun j b hj => by obtain ⟨x, g2, y⟩ := g j b hj; exact ⟨x, g2, isW.re ha y⟩⟩
  · obtain ⟨f, e1, g, gi⟩ := hs
    exact ⟨f, e1, fun j hj => by obtain ⟨b, x, y⟩ := g j hj; exact ⟨b, x, re_ne ha (by show 18 ≠ 21; decide) y⟩, gi⟩
  · obtain ⟨f, e1, g⟩ := hs
    exact ⟨f, e1, fun j hj => by obtain ⟨b, x, y⟩ := g j hj; exact ⟨b, x, re_ne ha (by show 15 ≠ 21; decide) y⟩⟩
  · exact hs
  · exact hs
  · obtain ⟨fs, e1, g⟩ := hs
    exact ⟨fs, e1, ob_re ha g⟩
/-- a FootholdWall that is taken out gets another wall, and is laid back so -/
theorem HT.re {D : va_G} {cs : CS} {A : Nat → Prop} {T : TF} {O : List Nat} {X : va_W} {H : Heap} {a w w2 q : Nat} {fs : List Value} (h : HT D cs A T (a :: O) ((a, .inr (11, fs)) :: X) H) (ha : T a = some (21, w, q)) (hob : ob T 11 w2 q fs) : HT D cs A (Tadd T a (21, w2, q)) O X H := by
  obtain ⟨ws, hP, hD, h3, h4⟩ := h
  refine HT.lay (T := Tadd T a (21, w2, q)) (ci := 11) (p := w2) (q := q) (fs := fs) ⟨ws, hP, hD, fun b tb hb hO => ?_, fun k x hk => ?_⟩ Tadd_r (ob_re ha hob)
  · have hba : b ≠ a := fun z => hO (z ▸ List.mem_cons_self)
    have hb2 : T b = some tb := by unfold Tadd at hb; rw [if_neg hba] at hb; exact hb
    obtain ⟨k, eb, hk, hsb⟩ := h3 b tb hb2 hO
    exact ⟨k, eb, hk, sp_re ha hsb⟩
  · obtain ⟨t, ht⟩ := h4 k x hk
    by_cases hx : x.1 = a
    · exact ⟨_, by rw [hx]; exact Tadd_r⟩
    · exact ⟨t, by unfold Tadd; rw [if_neg hx]; exact ht⟩
/-! another length of the tape: the kind 10 is told anew -/
def Trc (T T2 : TF) : Prop := ∀ (b : Nat) (tg : Tg), T b = some tg → tg.1 ≠ 10 → tg.1 ≠ 6 → tg.1 ≠ 18 → T2 b = some tg
def mon3 (P : FT) : Prop := ∀ (T T2 : TF) (v : Value), Trc T T2 → P T v → P T2 v
theorem g3I (lo hi : Int) : mon3 (fI lo hi) := fun _ _ _ _ h => h
theorem g3A : mon3 fA := fun _ _ _ _ h => h
theorem g3E (n : Nat) : mon3 (fE n) := fun _ _ _ _ h => h
theorem g3N : mon3 fN := fun _ _ _ _ h => h
theorem g3P (n : Nat) : mon3 (fP n) := fun _ _ _ _ h => h
theorem g3R {tg : Tg} (h1 : tg.1 ≠ 10) (h2 : tg.1 ≠ 6) (h3 : tg.1 ≠ 18) : mon3 (fR tg) := fun _ _ _ h ⟨b, x, t⟩ => ⟨b, x, h _ _ t h1 h2 h3⟩
theorem g3Rd : mon3 fRd := fun _ _ _ h ⟨b, d, x, t, u⟩ => ⟨b, d, x, h _ _ t (by show 14 ≠ 10; decide) (by show 14 ≠ 6; decide) (by show 14 ≠ 18; decide), h _ _ u (by show 19 ≠ 10; decide) (by show 19 ≠ 6; decide) (by show 19 ≠ 18; decide)⟩
theorem isW.gc {T T2 : TF} (h : Trc T T2) {b x g : Nat} (hw : isW T b x g) : isW T2 b x g := ⟨h _ _ hw.1 (by show 19 ≠ 10; decide) (by show 19 ≠ 6; decide) (by show 19 ≠ 18; decide), hw.2⟩
theorem g3W : mon3 fW := fun _ _ _ h ⟨b, x, g, q, t⟩ => ⟨b, x, g, q, isW.gc h t⟩
theorem g3L : mon3 fLw := fun _ _ _ h q => q.elim Or.inl (fun ⟨b, n, x, t, u⟩ => Or.inr ⟨b, n, x, h _ _ t (by show 12 ≠ 10; decide) (by show 12 ≠ 6; decide) (by show 12 ≠ 18; decide), u⟩)
theorem g3So (n : Nat) : mon3 (fSo n) := fun _ _ _ _ h => h
theorem g3Sz (n : Nat) : mon3 (fSz n) := fun _ _ _ _ h => h
theorem g3RS (n : Nat) : mon3 (fRS n) := fun _ _ _ h ⟨b, e, t⟩ => ⟨b, e, h _ _ t (by show 9 ≠ 10; decide) (by show 9 ≠ 6; decide) (by show 9 ≠ 18; decide)⟩
theorem g3RM (n : Nat) : mon3 (fRM n) := fun _ _ _ h ⟨b, e, t⟩ => ⟨b, e, h _ _ t (by show 9 ≠ 10; decide) (by show 9 ≠ 6; decide) (by show 9 ≠ 18; decide)⟩
def mons3 (l : List FT) : Prop := ∀ P ∈ l, mon3 P
theorem m3_n : mons3 [] := fun _ h => absurd h List.not_mem_nil
theorem m3_c {P : FT} {l : List FT} (h : mon3 P) (hl : mons3 l) : mons3 (P :: l) := fun Q hQ => (List.mem_cons.mp hQ).elim (fun q => q ▸ h) (hl Q)
theorem ft1_3 (p q : Nat) : mons3 (ft1 p q) := m3_c (g3R (by show 1 ≠ 10; decide) (by show 1 ≠ 6; decide) (by show 1 ≠ 18; decide)) (m3_c (g3R (by show 1 ≠ 10; decide) (by show 1 ≠ 6; decide) (by show 1 ≠ 18; decide)) (m3_c (g3A) (m3_c (g3R (by show 1 ≠ 10; decide) (by show 1 ≠ 6; decide) (by show 1 ≠ 18; decide)) (m3_c (g3I _ _) (m3_c (g3A) (m3_c (g3R (by show 1 ≠ 10; decide) (by show 1 ≠ 6; decide) (by show 1 ≠ 18; decide)) (m3_n)))))))
theorem ft2_3 (p q : Nat) : mons3 (ft2 p q) := m3_c (g3R (by show 1 ≠ 10; decide) (by show 1 ≠ 6; decide) (by show 1 ≠ 18; decide)) (m3_c (g3R (by show 1 ≠ 10; decide) (by show 1 ≠ 6; decide) (by show 1 ≠ 18; decide)) (m3_c (g3R (by show 1 ≠ 10; decide) (by show 1 ≠ 6; decide) (by show 1 ≠ 18; decide)) (m3_n)))
theorem ft3_3 (p q : Nat) : mons3 (ft3 p q) := m3_c (g3R (by show 17 ≠ 10; decide) (by show 17 ≠ 6; decide) (by show 17 ≠ 18; decide)) (m3_c (g3R (by show 1 ≠ 10; decide) (by show 1 ≠ 6; decide) (by show 1 ≠ 18; decide)) (m3_c (g3I _ _) (m3_n)))
theorem ft4_3 (p q : Nat) : mons3 (ft4 p q) := m3_c (g3R (by show 17 ≠ 10; decide) (by show 17 ≠ 6; decide) (by show 17 ≠ 18; decide)) (m3_c (g3R (by show 13 ≠ 10; decide) (by show 13 ≠ 6; decide) (by show 13 ≠ 18; decide)) (m3_c (g3P _) (m3_c (g3I _ _) (m3_c (g3R (by show 16 ≠ 10; decide) (by show 16 ≠ 6; decide) (by show 16 ≠ 18; decide)) (m3_n)))))
theorem ft5_3 (p q : Nat) : mons3 (ft5 p q) := m3_c (g3W) (m3_c (g3A) (m3_c (g3A) (m3_c (g3A) (m3_c (g3R (by show 1 ≠ 10; decide) (by show 1 ≠ 6; decide) (by show 1 ≠ 18; decide)) (m3_c (g3R (by show 1 ≠ 10; decide) (by show 1 ≠ 6; decide) (by show 1 ≠ 18; decide)) (m3_n))))))
theorem ft6_3 (p q : Nat) : mons3 (ft6 p q) := m3_c (g3A) (m3_c (g3A) (m3_c (g3A) (m3_c (g3A) (m3_c (g3R (by show 1 ≠ 10; decide) (by show 1 ≠ 6; decide) (by show 1 ≠ 18; decide)) (m3_c (g3R (by show 1 ≠ 10; decide) (by show 1 ≠ 6; decide) (by show 1 ≠ 18; decide)) (m3_n))))))
theorem ft8_3 (p q : Nat) : mons3 (ft8 p q) := m3_c (g3R (by show 2 ≠ 10; decide) (by show 2 ≠ 6; decide) (by show 2 ≠ 18; decide)) (m3_c (g3So _) (m3_c (g3Sz _) (m3_n)))
theorem ft10_3 (p q : Nat) : mons3 (ft10 p q) := m3_c (g3R (by show 1 ≠ 10; decide) (by show 1 ≠ 6; decide) (by show 1 ≠ 18; decide)) (m3_c (g3R (by show 1 ≠ 10; decide) (by show 1 ≠ 6; decide) (by show 1 ≠ 18; decide)) (m3_c (g3I _ _) (m3_c (g3R (by show 2 ≠ 10; decide) (by show 2 ≠ 6; decide) (by show 2 ≠ 18; decide)) (m3_c (g3R (by show 1 ≠ 10; decide) (by show 1 ≠ 6; decide) (by show 1 ≠ 18; decide)) (m3_c (g3R (by show 1 ≠ 10; decide) (by show 1 ≠ 6; decide) (by show 1 ≠ 18; decide)) (m3_c (g3I _ _) (m3_n)))))))
theorem ft12_3 (p q : Nat) : mons3 (ft12 p q) := m3_c (g3A) (m3_c (g3R (by show 8 ≠ 10; decide) (by show 8 ≠ 6; decide) (by show 8 ≠ 18; decide)) (m3_c (g3R (by show 3 ≠ 10; decide) (by show 3 ≠ 6; decide) (by show 3 ≠ 18; decide)) (m3_c (g3R (by show 1 ≠ 10; decide) (by show 1 ≠ 6; decide) (by show 1 ≠ 18; decide)) (m3_c (g3R (by show 8 ≠ 10; decide) (by show 8 ≠ 6; decide) (by show 8 ≠ 18; decide)) (m3_c (g3I _ _) (m3_c (g3A) (m3_c (g3A) (m3_c (g3A) (m3_c (g3A) (m3_c (g3I _ _) (m3_c (g3A) (m3_c (g3A) (m3_c (g3A) (m3_c (g3A) (m3_c (g3R (by show 1 ≠ 10; decide) (by show 1 ≠ 6; decide) (by show 1 ≠ 18; decide)) (m3_c (g3A) (m3_c (g3R (by show 9 ≠ 10; decide) (by show 9 ≠ 6; decide) (by show 9 ≠ 18; decide)) (m3_c (g3R (by show 9 ≠ 10; decide) (by show 9 ≠ 6; decide) (by show 9 ≠ 18; decide)) (m3_c (g3R (by show 1 ≠ 10; decide) (by show 1 ≠ 6; decide) (by show 1 ≠ 18; decide)) (m3_c (g3I _ _) (m3_c (g3R (by show 1 ≠ 10; decide) (by show 1 ≠ 6; decide) (by show 1 ≠ 18; decide)) (m3_c (g3R (by show 1 ≠ 10; decide) (by show 1 ≠ 6; decide) (by show 1 ≠ 18; decide)) (m3_c (g3A) (m3_c (g3A) (m3_c (g3A) (m3_c (g3R (by show 2 ≠ 10; decide) (by show 2 ≠ 6; decide) (by show 2 ≠ 18; decide)) (m3_c (g3R (by show 3 ≠ 10; decide) (by show 3 ≠ 6; decide) (by show 3 ≠ 18; decide)) (m3_c (g3R (by show 0 ≠ 10; decide) (by show 0 ≠ 6; decide) (by show 0 ≠ 18; decide)) (m3_c (g3R (by show 1 ≠ 10; decide) (by show 1 ≠ 6; decide) (by show 1 ≠ 18; decide)) (m3_c (g3R (by show 1 ≠ 10; decide) (by show 1 ≠ 6; decide) (by show 1 ≠ 18; decide)) (m3_c (g3R (by show 1 ≠ 10; decide) (by show 1 ≠ 6; decide) (by show 1 ≠ 18; decide)) (m3_c (g3A) (m3_c (g3RS _) (m3_c (g3RM _) (m3_c (g3R (by show 2 ≠ 10; decide) (by show 2 ≠ 6; decide) (by show 2 ≠ 18; decide)) (m3_n))))))))))))))))))))))))))))))))))))
theorem ft9w_3 (p q : Nat) : mons3 (ft9w p q) := m3_c (g3E _) (m3_c (g3E _) (m3_c (g3A) (m3_c (g3I _ _) (m3_c (g3I _ _) (m3_c (g3I _ _) (m3_c (g3R (by show 1 ≠ 10; decide) (by show 1 ≠ 6; decide) (by show 1 ≠ 18; decide)) (m3_c (g3R (by show 1 ≠ 10; decide) (by show 1 ≠ 6; decide) (by show 1 ≠ 18; decide)) (m3_c (g3R (by show 1 ≠ 10; decide) (by show 1 ≠ 6; decide) (by show 1 ≠ 18; decide)) (m3_c (g3R (by show 1 ≠ 10; decide) (by show 1 ≠ 6; decide) (by show 1 ≠ 18; decide)) (m3_c (g3R (by show 1 ≠ 10; decide) (by show 1 ≠ 6; decide) (by show 1 ≠ 18; decide)) (m3_c (g3L) (m3_c (g3I _ _) (m3_c (g3I _ _) (m3_n))))))))))))))
theorem ft9d_3 (p q : Nat) : mons3 (ft9d p q) := m3_c (g3I _ _) (m3_c (g3I _ _) (m3_c (g3A) (m3_c (g3I _ _) (m3_c (g3I _ _) (m3_c (g3I _ _) (m3_c (g3R (by show 1 ≠ 10; decide) (by show 1 ≠ 6; decide) (by show 1 ≠ 18; decide)) (m3_c (g3R (by show 1 ≠ 10; decide) (by show 1 ≠ 6; decide) (by show 1 ≠ 18; decide)) (m3_c (g3R (by show 1 ≠ 10; decide) (by show 1 ≠ 6; decide) (by show 1 ≠ 18; decide)) (m3_c (g3R (by show 1 ≠ 10; decide) (by show 1 ≠ 6; decide) (by show 1 ≠ 18; decide)) (m3_c (g3R (by show 1 ≠ 10; decide) (by show 1 ≠ 6; decide) (by show 1 ≠ 18; decide)) (m3_c (g3N) (m3_c (g3I _ _) (m3_c (g3I _ _) (m3_n))))))))))))))
theorem ft9_3 (p q : Nat) : mons3 (ft9 p q) := by
  unfold ft9
  split
  · exact ft9d_3 p q
  · exact ft9w_3 p q
theorem fts_3 (c p q : Nat) (hc : c ≠ 11) : mons3 (fts c p q) := by
  unfold fts
  split <;> first | exact ft1_3 p q | exact ft2_3 p q | exact ft3_3 p q | exact ft4_3 p q | exact ft5_3 p q | exact ft6_3 p q | exact ft8_3 p q | exact ft9_3 p q | exact ft10_3 p q | exact ft12_3 p q | exact absurd rfl hc | exact m3_n
theorem ob_gc {T T2 : TF} (h : Trc T T2) {c p q : Nat} (hc : c ≠ 11) {fs : List Value} (ho : ob T c p q fs) : ob T2 c p q fs := by
  unfold ob at ho ⊢
  split at ho
  · obtain ⟨b, b2, d, n, x, e1, t1, t2, t3, r⟩ := ho
    exact ⟨b, b2, d, n, x, e1, h _ _ t1 (by show 1 ≠ 10; decide) (by show 1 ≠ 6; decide) (by show 1 ≠ 18; decide), h _ _ t2 (by show 1 ≠ 10; decide) (by show 1 ≠ 6; decide) (by show 1 ≠ 18; decide), h _ _ t3 (by show 1 ≠ 10; decide) (by show 1 ≠ 6; decide) (by show 1 ≠ 18; decide), r⟩
  · obtain ⟨b, n, x1, x2, x3, x4, x5, x6, x7, e1, t, r⟩ := ho
    exact ⟨b, n, x1, x2, x3, x4, x5, x6, x7, e1, h _ _ t (by show 0 ≠ 10; decide) (by show 0 ≠ 6; decide) (by show 0 ≠ 18; decide), r⟩
  · exact ⟨ho.1, fun k P v h1 h2 => fts_3 _ _ _ hc P (List.mem_of_getElem? h1) T T2 v h (ho.2 k P v h1 h2)⟩
theorem sp_gc {cs : CS} {T T2 : TF} (h : Trc T T2) {tg : Tg} (h21 : tg.1 ≠ 21) (h6 : tg.1 ≠ 6) {e : va_E} (hs : sp cs T tg e) : sp cs T2 tg e := by
  unfold sp at hs ⊢
  split at hs
  · exact hs
  · exact hs
  · exact hs
  · exact hs
  · obtain ⟨f, e1, g⟩ := hs
    exact ⟨f, e1, fun j hj => by obtain ⟨b, x, y⟩ := g j hj; exact ⟨b, x, h _ _ y (by show 16 ≠ 10; decide) (by show 16 ≠ 6; decide) (by show 16 ≠ 18; decide)⟩⟩
  · obtain ⟨f, e1, g⟩ := hs
    exact ⟨f, e1, fun j b hj => by obtain ⟨x, g2, y⟩ := g j b hj; exact ⟨x, g2, isW.gc h y⟩⟩
  · exact absurd rfl h6
  · obtain ⟨f, e1, g⟩ := hs
    exact ⟨f, e1, fun j hj => by obtain ⟨b, x, y⟩ := g j hj; exact ⟨b, x, h _ _ y (by show 15 ≠ 10; decide) (by show 15 ≠ 6; decide) (by show 15 ≠ 18; decide)⟩⟩
  · exact hs
  · exact hs
  · rename_i c p q
    obtain ⟨fs, e1, g⟩ := hs
    exact ⟨fs, e1, ob_gc h (fun z => h21 (by show c + 10 = 21; omega)) g⟩
/-! exact cells by their places; contracts whose end tells how much was made -/
section ThRows6
variable {p : Program} {l : Launch} {e : Env} {R : Room} {s : State} {m : MethodId} {args : Array Value} {below : List Frame} {meth : Method} {c : Code} {H : Heap} {locs : List Loc} {cells slots : Nat} {Q : State → Prop}
variable {cc : ByteArray} {pc : Nat} {ls : Array Slot} {rest : List Value} {D : va_G} {A : Nat → Prop} {a : Nat} {cs : CS} {T : TF} {O : List Nat} {X : va_W} {H0 : Heap}
theorem ox_n {O : List Nat} {X : va_W} {a : Nat} {e0 : va_E} (h : ∀ o ∈ O, ∃ (k : Nat) (e : va_E), X[k]? = some (o, e)) : ∀ o ∈ O, ∃ (k : Nat) (e : va_E), ((a, e0) :: X)[k]? = some (o, e) := fun o ho => by
  obtain ⟨k, e1, h1⟩ := h o ho
  exact ⟨k + 1, e1, h1⟩
theorem ox_map {O : List Nat} {X X' : va_W} (hO : ∀ o ∈ O, ∃ (k : Nat) (e : va_E), X[k]? = some (o, e)) (h : X'.map Prod.fst = X.map Prod.fst) : ∀ o ∈ O, ∃ (k : Nat) (e : va_E), X'[k]? = some (o, e) := fun o ho => by
  obtain ⟨k, e1, h1⟩ := hO o ho
  have h2 : (X'.map Prod.fst)[k]? = some o := by rw [h, List.getElem?_map, h1]; rfl
  rw [List.getElem?_map] at h2
  cases h3 : X'[k]? with
  | none => rw [h3] at h2; cases h2
  | some q =>
    rw [h3] at h2
    cases h2
    exact ⟨k, q.2, h3⟩
theorem ap_l {X ws : va_W} {i : Nat} {q : Nat × va_E} (h : X[i]? = some q) : (X ++ ws)[i]? = some q := by rw [List.getElem?_append_left (List.getElem?_eq_some_iff.mp h).1]; exact h
theorem ap_setl {X ws : va_W} {i : Nat} {q0 q : Nat × va_E} (h : X[i]? = some q0) : (X ++ ws).set i q = X.set i q ++ ws := List.set_append_left _ _ (List.getElem?_eq_some_iff.mp h).1
theorem x_getk {own ref C : String} {F : u_T} {N ci index : Nat} {fs : List Value} {v : Value} (hx : p.tables.exec = Jvm.exec) (hb : c.code = cc) (hts : ∀ w ∈ gw, w.before args s = true) (hin : ∀ w ∈ u_ws C F N, w ∈ gw) (hown : s.vm.findClass own = some m.cls) (hkb : kb D (tyc cs) s) (hH : HT D cs A T O X H) (i : Nat) (hi : X[i]? = some (a, .inr (ci, fs))) (hc : cls[ci]? = some (C, F, N)) (k : Nat) (hk : k < N) (hv : fs[k]? = some v) (hlink : Cond.fieldLink own index ref (F k).2.1 (F k).2.2.1 ∈ gw) (hsame : ∀ x, s.fieldFound? (F k).1 (F k).2.1 (F k).2.2.1 = some x → s.fieldFound? ref (F k).2.1 (F k).2.2.1 = some x) (hdg : decode cc pc = .ok (.getfield index, 3))
    (kk : W p l e R s m args below meth c H locs cells slots Q (F0 m (pc + 3) ls (v :: rest))) : W p l e R s m args below meth c H locs cells slots Q (F0 m pc ls (.ref a :: rest)) := by
  obtain ⟨ws, hP, hD, h3, h4⟩ := hH
  exact va_get (D := D) hx hb hts hin hown hkb.1 hP i (ap_l hi) hc k hk (hts _ hlink) hsame hv hdg kk
theorem x_putk {own ref C : String} {F : u_T} {N ci index : Nat} {fs : List Value} {v : Value} {ty : FieldType} (hx : p.tables.exec = Jvm.exec) (hb : c.code = cc) (hts : ∀ w ∈ gw, w.before args s = true) (hin : ∀ w ∈ u_ws C F N, w ∈ gw) (ty0 : Nat → FieldType) (hty : ∀ k, k < N → parseFieldDescriptor (F k).2.2.1 = some (ty0 k)) (hnm : ∀ a, a < N → ∀ b, b < N → a ≠ b → (F a).2.1 ≠ (F b).2.1) (hown : s.vm.findClass own = some m.cls) (hkb : kb D (tyc cs) s) (hH : HT D cs A T O X H) (hS : va_S A H0 H locs) (i : Nat) (hi : X[i]? = some (a, .inr (ci, fs))) (hc : cls[ci]? = some (C, F, N)) (k : Nat) (hk : k < N) (hlink : Cond.fieldLink own index ref (F k).2.1 (F k).2.2.1 ∈ gw) (hsame : ∀ x, s.fieldFound? (F k).1 (F k).2.1 (F k).2.2.1 = some x → s.fieldFound? ref (F k).2.1 (F k).2.2.1 = some x) (hfin : (F k).2.2.2 = false) (hd : parseFieldDescriptor (F k).2.2.1 = some ty) (hn : narrow ty v = v) (hfit : fits ty v = true) (hl : k < fs.length) (hdg : decode cc pc = .ok (.putfield index, 3))
    (kk : ∀ (H1 : Heap) (locs1 : List Loc), HT D cs A T O (X.set i (a, .inr (ci, fs.set k v))) H1 → va_S A H0 H1 locs1 → W p l e R s m args below meth c H1 locs1 cells slots Q (F0 m (pc + 3) ls rest)) : W p l e R s m args below meth c H locs cells slots Q (F0 m pc ls (v :: .ref a :: rest)) := by
  obtain ⟨ws, hP, hD, h3, h4⟩ := hH
  exact va_put (D := D) hx hb hts hin ty0 hty hnm hown hkb.1 hP hD hS i (ap_l hi) hc k hk (hts _ hlink) hsame hfin hd hn hfit hl hdg (fun H1 locs1 hP hD hS => by
    rw [ap_setl hi] at hP hD
    exact kk H1 locs1 ⟨ws, hP, hD, h3, h4⟩ hS)
theorem x_putkF {own ref C : String} {F : u_T} {N ci index : Nat} {fs : List Value} {v : Value} {ty : FieldType} (hx : p.tables.exec = Jvm.exec) (hb : c.code = cc) (hts : ∀ w ∈ gw, w.before args s = true) (hin : ∀ w ∈ u_ws C F N, w ∈ gw) (ty0 : Nat → FieldType) (hty : ∀ k, k < N → parseFieldDescriptor (F k).2.2.1 = some (ty0 k)) (hnm : ∀ a, a < N → ∀ b, b < N → a ≠ b → (F a).2.1 ≠ (F b).2.1) (hown : s.vm.findClass own = some m.cls) (hkb : kb D (tyc cs) s) (hH : HT D cs A T O X H) (hS : va_S A H0 H locs) (i : Nat) (hi : X[i]? = some (a, .inr (ci, fs))) (hc : cls[ci]? = some (C, F, N)) (k : Nat) (hk : k < N) (hlink : Cond.fieldLink own index ref (F k).2.1 (F k).2.2.1 ∈ gw) (hsame : ∀ x, s.fieldFound? (F k).1 (F k).2.1 (F k).2.2.1 = some x → s.fieldFound? ref (F k).2.1 (F k).2.2.1 = some x) (hfin : (F k).2.2.2 = true) (hin2 : meth.name = "<init>") (hdecl : (F k).1 = own) (hd : parseFieldDescriptor (F k).2.2.1 = some ty) (hn : narrow ty v = v) (hfit : fits ty v = true) (hl : k < fs.length) (hdg : decode cc pc = .ok (.putfield index, 3))
    (kk : ∀ (H1 : Heap) (locs1 : List Loc), HT D cs A T O (X.set i (a, .inr (ci, fs.set k v))) H1 → va_S A H0 H1 locs1 → W p l e R s m args below meth c H1 locs1 cells slots Q (F0 m (pc + 3) ls rest)) : W p l e R s m args below meth c H locs cells slots Q (F0 m pc ls (v :: .ref a :: rest)) := by
  obtain ⟨ws, hP, hD, h3, h4⟩ := hH
  exact va_putF (D := D) hx hb hts hin ty0 hty hnm hown hkb.1 hP hD hS i (ap_l hi) hc k hk (hts _ hlink) hsame hfin hin2 hdecl hd hn hfit hl hdg (fun H1 locs1 hP hD hS => by
    rw [ap_setl hi] at hP hD
    exact kk H1 locs1 ⟨ws, hP, hD, h3, h4⟩ hS)
theorem x_recv {ci : Nat} {b : Nat} {C : String} {F : u_T} {N : Nat} {fs : List Value} (hkb : kb D (tyc cs) s) (hH : HT D cs A T O X H) (i : Nat) (hi : X[i]? = some (b, .inr (ci, fs))) (hc : cls[ci]? = some (C, F, N)) : ∃ cell : Cell, H[b]? = some cell ∧ cell.vm.isStatics = false ∧ s.vm.findClass C = some cell.cls := by
  obtain ⟨ws, hP, hD, h3, h4⟩ := hH
  exact va_recv hkb.1 hP hc (ap_l hi)
/-- arrays that are exact -/
theorem xa_ild {n : Nat} {f : Nat → Int32} {j : Int32} (hx : p.tables.exec = Jvm.exec) (hb : c.code = cc) (hkb : kb D (tyc cs) s) (hH : HT D cs A T O X H) (i : Nat) (hi : X[i]? = some (a, .inl (cs.2.1, n, .inl f))) (h0 : 0 ≤ j.toInt) (h1 : j.toInt < n) (hdg : decode cc pc = .ok (.iaload, 1))
    (kk : W p l e R s m args below meth c H locs cells slots Q (F0 m (pc + 1) ls (.int (f j.toNatClampNeg) :: rest))) : W p l e R s m args below meth c H locs cells slots Q (F0 m pc ls (.int j :: .ref a :: rest)) := by
  obtain ⟨ws, hP, hD, h3, h4⟩ := hH
  exact va_iald hx hb hkb.1 hP i 1 (ap_l hi) rfl (in_t h0 h1) hdg kk
theorem xa_bld {n : Nat} {f : Nat → Int32} {j : Int32} (hx : p.tables.exec = Jvm.exec) (hb : c.code = cc) (hkb : kb D (tyc cs) s) (hH : HT D cs A T O X H) (i : Nat) (hi : X[i]? = some (a, .inl (cs.1, n, .inl f))) (h0 : 0 ≤ j.toInt) (h1 : j.toInt < n) (hdg : decode cc pc = .ok (.baload, 1))
    (kk : W p l e R s m args below meth c H locs cells slots Q (F0 m (pc + 1) ls (.int (f j.toNatClampNeg) :: rest))) : W p l e R s m args below meth c H locs cells slots Q (F0 m pc ls (.int j :: .ref a :: rest)) := by
  obtain ⟨ws, hP, hD, h3, h4⟩ := hH
  exact va_bald hx hb hkb.1 hP i 0 (ap_l hi) rfl (in_t h0 h1) hdg kk
theorem xa_ist {n : Nat} {f : Nat → Int32} {j x : Int32} (hx : p.tables.exec = Jvm.exec) (hb : c.code = cc) (hkb : kb D (tyc cs) s) (hH : HT D cs A T O X H) (hS : va_S A H0 H locs) (i : Nat) (hi : X[i]? = some (a, .inl (cs.2.1, n, .inl f))) (h0 : 0 ≤ j.toInt) (h1 : j.toInt < n) (hdg : decode cc pc = .ok (.iastore, 1))
    (kk : ∀ (H1 : Heap) (locs1 : List Loc), HT D cs A T O (X.set i (a, .inl (cs.2.1, n, .inl (upd f j.toNatClampNeg x)))) H1 → va_S A H0 H1 locs1 → W p l e R s m args below meth c H1 locs1 cells slots Q (F0 m (pc + 1) ls rest)) : W p l e R s m args below meth c H locs cells slots Q (F0 m pc ls (.int x :: .int j :: .ref a :: rest)) := by
  obtain ⟨ws, hP, hD, h3, h4⟩ := hH
  exact va_iast hx hb hkb.1 hP hD hS i 1 (ap_l hi) rfl (in_t h0 h1) hdg (fun H1 locs1 hP hD hS => by
    rw [ap_setl hi] at hP hD
    exact kk H1 locs1 ⟨ws, hP, hD, h3, h4⟩ hS)
theorem xa_bst {n : Nat} {f : Nat → Int32} {j x : Int32} (hx : p.tables.exec = Jvm.exec) (hb : c.code = cc) (hkb : kb D (tyc cs) s) (hH : HT D cs A T O X H) (hS : va_S A H0 H locs) (i : Nat) (hi : X[i]? = some (a, .inl (cs.1, n, .inl f))) (h0 : 0 ≤ j.toInt) (h1 : j.toInt < n) (hdg : decode cc pc = .ok (.bastore, 1))
    (kk : ∀ (H1 : Heap) (locs1 : List Loc), HT D cs A T O (X.set i (a, .inl (cs.1, n, .inl (upd f j.toNatClampNeg (vp_nar .byte x))))) H1 → va_S A H0 H1 locs1 → W p l e R s m args below meth c H1 locs1 cells slots Q (F0 m (pc + 1) ls rest)) : W p l e R s m args below meth c H locs cells slots Q (F0 m pc ls (.int x :: .int j :: .ref a :: rest)) := by
  obtain ⟨ws, hP, hD, h3, h4⟩ := hH
  exact va_bast hx hb hkb.1 hP hD hS i 0 (ap_l hi) rfl (in_t h0 h1) hdg (fun H1 locs1 hP hD hS => by
    rw [ap_setl hi] at hP hD
    exact kk H1 locs1 ⟨ws, hP, hD, h3, h4⟩ hS)
/-- an array is taken out, and laid back -/
theorem HT.takeA {tg : Tg} (h : HT D cs A T O X H) (ha : T a = some tg) (ho : a ∉ O) : ∃ e0 : va_E, sp cs T tg e0 ∧ HT D cs A T (a :: O) ((a, e0) :: X) H := by
  obtain ⟨ws, hP, hD, h3, h4⟩ := h
  obtain ⟨j, e0, hj, hs⟩ := h3 a _ ha ho
  have hl : j < ws.length := (List.getElem?_eq_some_iff.mp hj).1
  have hg : ∀ (k : Nat) (x : Nat × va_E), (((a, e0) :: X) ++ ws.eraseIdx j)[k]? = some x → (X ++ ws)[if k = 0 then X.length + j else if k ≤ X.length then k - 1 else if k - 1 - X.length < j then k - 1 else k]? = some x := by
    intro k x hk
    cases k with
    | zero => rw [if_pos rfl, ap_r hj]; simpa using hk
    | succ k =>
      rw [if_neg (by omega)]
      have hk : (X ++ ws.eraseIdx j)[k]? = some x := hk
      by_cases h1 : k < X.length
      · rw [if_pos (by omega)]
        rw [List.getElem?_append_left h1] at hk
        rw [show k + 1 - 1 = k by omega, List.getElem?_append_left h1]
        exact hk
      · rw [if_neg (by omega)]
        rw [List.getElem?_append_right (by omega), List.getElem?_eraseIdx] at hk
        by_cases h2 : k - X.length < j
        · rw [if_pos h2] at hk
          rw [if_pos (by omega), List.getElem?_append_right (by omega)]
          exact hk
        · rw [if_neg h2] at hk
          rw [if_neg (by omega), List.getElem?_append_right (by omega), show k + 1 - X.length = k - X.length + 1 by omega]
          exact hk
  refine ⟨e0, hs, ws.eraseIdx j, hP.by _ hg, hD.by _ hg ?_, fun b tb hb hO => ?_, fun k x hk => ?_⟩
  · intro i1 i2 hi1 hi2 he
    rw [List.length_append, List.length_cons, List.length_eraseIdx, if_pos hl] at hi1 hi2
    split at he <;> split at he <;> (try split at he) <;> (try split at he) <;> (try split at he) <;> (try split at he) <;> omega
  · have hb2 : b ∉ O := fun z => hO (List.mem_cons_of_mem _ z)
    have hba : b ≠ a := fun z => hO (z ▸ List.mem_cons_self)
    obtain ⟨k, eb, hk, hsb⟩ := h3 b tb hb hb2
    have hkj : k ≠ j := fun z => by
      subst z
      rw [hj] at hk
      exact hba (Prod.mk.inj (Option.some.inj hk)).1.symm
    by_cases h1 : k < j
    · exact ⟨k, eb, by rw [List.getElem?_eraseIdx, if_pos h1]; exact hk, hsb⟩
    · exact ⟨k - 1, eb, by rw [List.getElem?_eraseIdx, if_neg (by omega), show k - 1 + 1 = k by omega]; exact hk, hsb⟩
  · rw [List.getElem?_eraseIdx] at hk
    split at hk
    · exact h4 _ _ hk
    · exact h4 _ _ hk
theorem HT.layA {tg : Tg} {e0 : va_E} (h : HT D cs A T (a :: O) ((a, e0) :: X) H) (ha : T a = some tg) (hs : sp cs T tg e0) : HT D cs A T O X H := by
  obtain ⟨ws, hP, hD, h3, h4⟩ := h
  have hg : ∀ (k : Nat) (x : Nat × va_E), (X ++ (ws ++ [(a, e0)]))[k]? = some x → (((a, e0) :: X) ++ ws)[if k < X.length + ws.length then k + 1 else 0]? = some x := by
    intro k x hk
    rw [← List.append_assoc] at hk
    by_cases h1 : k < X.length + ws.length
    · rw [if_pos h1]
      rw [List.getElem?_append_left (by rw [List.length_append]; exact h1)] at hk
      exact hk
    · rw [if_neg h1]
      rw [List.getElem?_append_right (by rw [List.length_append]; omega)] at hk
      have hz : k - (X ++ ws).length < 1 := (List.getElem?_eq_some_iff.mp hk).1
      rw [show k - (X ++ ws).length = 0 by omega] at hk
      simpa using hk
  refine ⟨ws ++ [(a, e0)], hP.by _ hg, hD.by _ hg ?_, fun b tb hb hO => ?_, fun k x hk => ?_⟩
  · intro i1 i2 hi1 hi2 he
    simp only [List.length_append, List.length_cons, List.length_nil] at hi1 hi2
    split at he <;> split at he <;> omega
  · by_cases hba : b = a
    · subst hba
      have : tb = tg := Option.some.inj (hb.symm.trans ha)
      subst this
      exact ⟨ws.length, _, by rw [List.getElem?_append_right (Nat.le_refl _)]; simp, hs⟩
    · obtain ⟨k, eb, hk, hsb⟩ := h3 b tb hb (fun z => (List.mem_cons.mp z).elim hba hO)
      exact ⟨k, eb, by rw [List.getElem?_append_left (List.getElem?_eq_some_iff.mp hk).1]; exact hk, hsb⟩
  · by_cases h1 : k < ws.length
    · rw [List.getElem?_append_left h1] at hk
      exact h4 _ _ hk
    · rw [List.getElem?_append_right (by omega)] at hk
      have hz : k - ws.length < 1 := (List.getElem?_eq_some_iff.mp hk).1
      rw [show k - ws.length = 0 by omega] at hk
      cases hk
      exact ⟨_, ha⟩
/-- a new address is in no kind yet -/
theorem HT.none {e0 : va_E} (h : HT D cs A T O ((a, e0) :: X) H) (hOX : ∀ o ∈ O, ∃ (k : Nat) (e : va_E), X[k]? = some (o, e)) : T a = none := by
  obtain ⟨ws, hP, hD, h3, h4⟩ := h
  cases ht : T a with
  | none => rfl
  | some tg =>
    exfalso
    have h0 : (((a, e0) :: X) ++ ws)[0]? = some (a, e0) := rfl
    by_cases ho : a ∈ O
    · obtain ⟨k, e1, hx⟩ := hOX a ho
      have h1 : (((a, e0) :: X) ++ ws)[k + 1]? = some (a, e1) := ap_l (X := (a, e0) :: X) (i := k + 1) hx
      have := hD.1 _ _ _ _ h0 h1 rfl
      omega
    · obtain ⟨k, e1, hk, -⟩ := h3 a tg ht ho
      have h1 : (((a, e0) :: X) ++ ws)[((a, e0) :: X).length + k]? = some (a, e1) := ap_r hk
      have := hD.1 _ _ _ _ h0 h1 rfl
      rw [List.length_cons] at this
      omega
/-- the reference's arrays -/
def p8 (i x : Int32) : Prop := (i.toInt = 1 → 0 ≤ x.toInt ∧ x.toInt ≤ 14) ∧ (i.toInt = 2 → 0 ≤ x.toInt ∧ x.toInt ≤ 5) ∧ (i.toInt = 4 → 0 ≤ x.toInt ∧ x.toInt ≤ 16383) ∧ (i.toInt = 5 → 0 ≤ x.toInt ∧ x.toInt ≤ 16383) ∧ (i.toInt = 6 → 0 ≤ x.toInt ∧ x.toInt ≤ 16383) ∧ (i.toInt = 90 → 0 ≤ x.toInt ∧ x.toInt ≤ 10) ∧ (i.toInt = 401 → 0 ≤ x.toInt ∧ x.toInt ≤ 900)
theorem p8_far {i x : Int32} (h : 7 ≤ i.toInt) (h2 : i.toInt ≠ 90 ∧ i.toInt ≤ 400) : p8 i x := ⟨fun _ => by omega, fun _ => by omega, fun _ => by omega, fun _ => by omega, fun _ => by omega, fun _ => by omega, fun _ => by omega⟩
theorem p8_90 {i x : Int32} (h : i.toInt = 90) (h0 : 0 ≤ x.toInt) (h1 : x.toInt ≤ 10) : p8 i x := ⟨fun _ => by omega, fun _ => by omega, fun _ => by omega, fun _ => by omega, fun _ => by omega, fun _ => ⟨h0, h1⟩, fun _ => by omega⟩
theorem toN_eq {i : Int32} {k : Nat} (h : i.toInt = (k : Int)) : i.toNatClampNeg = k := by
  have : i.toNatClampNeg = i.toInt.toNat := rfl
  omega
theorem B8.at {n : Nat} {f : Nat → Int32} (h : B8 n f) (hn : 0 < n) (i : Int32) : p8 i (f i.toNatClampNeg) := by
  obtain ⟨a1, a2, a3, a4, a5, a6, a7, -⟩ := h 0 (by omega)
  simp only [Nat.zero_mul, Nat.zero_add] at a1 a2 a3 a4 a5 a6 a7
  exact ⟨fun h => by rw [toN_eq (k := 1) h]; exact a1, fun h => by rw [toN_eq (k := 2) h]; exact a2, fun h => by rw [toN_eq (k := 4) h]; exact a3, fun h => by rw [toN_eq (k := 5) h]; exact a4, fun h => by rw [toN_eq (k := 6) h]; exact a5, fun h => by rw [toN_eq (k := 90) h]; exact a6, fun h => by rw [toN_eq (k := 401) h]; exact a7⟩
theorem dpn_eq {f g : Nat → Int32} (h : ∀ j, 402 ≤ j → f j = g j) (k : Nat) : dpn f k = dpn g k := by
  induction k with
  | zero => rfl
  | succ k ih =>
    unfold dpn
    rw [ih, h (402 + k) (by omega)]
theorem wfc_eq {f g : Nat → Int32} (h : ∀ j, 401 ≤ j → f j = g j) (w : wfc f) : wfc g := by
  intro k hk h1
  rw [← h 401 (by omega)] at hk
  rw [← h (402 + k) (by omega)] at h1 ⊢
  rw [← dpn_eq (fun j hj => h j (by omega))]
  exact w k hk h1
theorem B8.put {n : Nat} {f : Nat → Int32} (h : B8 n f) {i x : Int32} (h0 : 0 ≤ i.toInt) (h1 : i.toInt ≤ 400) (hp : p8 i x) : B8 n (upd f i.toNatClampNeg x) := by
  have hi : i.toNatClampNeg = i.toInt.toNat := rfl
  intro z hz
  have hs := h z hz
  by_cases h00 : z = 0
  · subst h00
    obtain ⟨a1, a2, a3, a4, a5, a6, a7, a8⟩ := hs
    obtain ⟨q1, q2, q3, q4, q5, q6, q7⟩ := hp
    simp only [Nat.zero_mul, Nat.zero_add] at a1 a2 a3 a4 a5 a6 a7
    have hu : ∀ j : Nat, upd f i.toNatClampNeg x (0 * 1302 + j) = if j = i.toInt.toNat then x else f j := fun j => by
      unfold upd
      rw [Nat.zero_mul, Nat.zero_add, hi]
    refine ⟨?_, ?_, ?_, ?_, ?_, ?_, ?_, ?_⟩
    · simp only [hu]; split
      · exact q1 (by omega)
      · exact a1
    · simp only [hu]; split
      · exact q2 (by omega)
      · exact a2
    · simp only [hu]; split
      · exact q3 (by omega)
      · exact a3
    · simp only [hu]; split
      · exact q4 (by omega)
      · exact a4
    · simp only [hu]; split
      · exact q5 (by omega)
      · exact a5
    · simp only [hu]; split
      · exact q6 (by omega)
      · exact a6
    · simp only [hu]; rw [if_neg (by omega)]
      exact a7
    · refine wfc_eq (fun j hj => ?_) a8
      show f (0 * 1302 + j) = upd f i.toNatClampNeg x (0 * 1302 + j)
      rw [hu, if_neg (by omega), Nat.zero_mul, Nat.zero_add]
  · have hf : (fun j => upd f i.toNatClampNeg x (z * 1302 + j)) = fun j => f (z * 1302 + j) := by
      funext j
      unfold upd
      rw [if_neg (by omega)]
    rw [hf]
    exact hs
theorem t_ild8 {n k : Nat} {i : Int32} (hx : p.tables.exec = Jvm.exec) (hb : c.code = cc) (hkb : kb D (tyc cs) s) (hH : HT D cs A T O X H) (ha : T a = some (8, n, k)) (hno : a ∉ O) (hn : 0 < n) (h0 : 0 ≤ i.toInt) (h1 : i.toInt < n) (hdg : decode cc pc = .ok (.iaload, 1))
    (kk : ∀ x : Int32, p8 i x → (n = 3906 → (i = 1 → x = nI (k / 6)) ∧ (i = 2 → x = nI (k % 6))) → W p l e R s m args below meth c H locs cells slots Q (F0 m (pc + 1) ls (.int x :: rest))) : W p l e R s m args below meth c H locs cells slots Q (F0 m pc ls (.int i :: .ref a :: rest)) := by
  obtain ⟨ws, hP, hD, h3, h4⟩ := hH
  obtain ⟨j, e0, hj, hs⟩ := h3 a _ ha hno
  obtain ⟨f, rfl, hf, hg⟩ : ∃ f : Nat → Int32, e0 = .inl (cs.2.1, n, .inl f) ∧ B8 n f ∧ (n = 3906 → f 1 = nI (k / 6) ∧ f 2 = nI (k % 6)) := hs
  exact va_iald hx hb hkb.1 hP (X.length + j) 1 (ap_r hj) rfl (in_t h0 h1) hdg (kk _ (hf.at hn i) (fun q => ⟨fun z => by rw [z]; exact (hg q).1, fun z => by rw [z]; exact (hg q).2⟩))
theorem t_ist8 {n k : Nat} {i x : Int32} (hx : p.tables.exec = Jvm.exec) (hb : c.code = cc) (hkb : kb D (tyc cs) s) (hH : HT D cs A T O X H) (hS : va_S A H0 H locs) (ha : T a = some (8, n, k)) (hno : a ∉ O) (hn : 0 < n) (h0 : 0 ≤ i.toInt) (h1 : i.toInt < n) (h2 : i.toInt ≤ 400) (h2b : 3 ≤ i.toInt) (hv : p8 i x) (hdg : decode cc pc = .ok (.iastore, 1))
    (kk : ∀ (H1 : Heap) (locs1 : List Loc), HT D cs A T O X H1 → va_S A H0 H1 locs1 → W p l e R s m args below meth c H1 locs1 cells slots Q (F0 m (pc + 1) ls rest)) : W p l e R s m args below meth c H locs cells slots Q (F0 m pc ls (.int x :: .int i :: .ref a :: rest)) := by
  obtain ⟨ws, hP, hD, h3, h4⟩ := hH
  obtain ⟨j, e0, hj, hs⟩ := h3 a _ ha hno
  obtain ⟨f, rfl, hf, hg⟩ : ∃ f : Nat → Int32, e0 = .inl (cs.2.1, n, .inl f) ∧ B8 n f ∧ (n = 3906 → f 1 = nI (k / 6) ∧ f 2 = nI (k % 6)) := hs
  have hi : i.toNatClampNeg = i.toInt.toNat := rfl
  refine va_iast hx hb hkb.1 hP hD hS (X.length + j) 1 (ap_r hj) rfl (in_t h0 h1) hdg (fun H1 locs1 hP hD hS => ?_)
  exact kk H1 locs1 (HT.put hj ha h3 h4 (show sp cs T (8, n, k) _ from ⟨_, rfl, hf.put h0 h2 hv, fun q => ⟨(if_neg (by omega)).trans (hg q).1, (if_neg (by omega)).trans (hg q).2⟩⟩) hP hD) hS
theorem t_ild9 {n k : Nat} {i : Int32} (hx : p.tables.exec = Jvm.exec) (hb : c.code = cc) (hkb : kb D (tyc cs) s) (hH : HT D cs A T O X H) (ha : T a = some (9, n, k)) (hno : a ∉ O) (h0 : 0 ≤ i.toInt) (h1 : i.toInt < n) (hn4 : n ≠ 4) (hdg : decode cc pc = .ok (.iaload, 1))
    (kk : ∀ x : Int32, cp k x → W p l e R s m args below meth c H locs cells slots Q (F0 m (pc + 1) ls (.int x :: rest))) : W p l e R s m args below meth c H locs cells slots Q (F0 m pc ls (.int i :: .ref a :: rest)) := by
  obtain ⟨ws, hP, hD, h3, h4⟩ := hH
  obtain ⟨j, e0, hj, hs⟩ := h3 a _ ha hno
  obtain ⟨f, rfl, hf, -⟩ : ∃ f : Nat → Int32, e0 = .inl (cs.2.1, n, .inl f) ∧ (n ≠ 4 → ∀ j, cp k (f j)) ∧ (n = 4 → ∀ j, j < 4 → ((f j).toInt = pvr k j ∧ -1 ≤ (f j).toInt ∧ (f j).toInt ≤ 40)) := hs
  have hf := hf hn4
  exact va_iald hx hb hkb.1 hP (X.length + j) 1 (ap_r hj) rfl (in_t h0 h1) hdg (kk _ (hf _))
theorem t_ist9 {n k : Nat} {i x : Int32} (hx : p.tables.exec = Jvm.exec) (hb : c.code = cc) (hkb : kb D (tyc cs) s) (hH : HT D cs A T O X H) (hS : va_S A H0 H locs) (ha : T a = some (9, n, k)) (hno : a ∉ O) (h0 : 0 ≤ i.toInt) (h1 : i.toInt < n) (hv : cp k x) (hn4 : n ≠ 4) (hdg : decode cc pc = .ok (.iastore, 1))
    (kk : ∀ (H1 : Heap) (locs1 : List Loc), HT D cs A T O X H1 → va_S A H0 H1 locs1 → W p l e R s m args below meth c H1 locs1 cells slots Q (F0 m (pc + 1) ls rest)) : W p l e R s m args below meth c H locs cells slots Q (F0 m pc ls (.int x :: .int i :: .ref a :: rest)) := by
  obtain ⟨ws, hP, hD, h3, h4⟩ := hH
  obtain ⟨j, e0, hj, hs⟩ := h3 a _ ha hno
  obtain ⟨f, rfl, hf, -⟩ : ∃ f : Nat → Int32, e0 = .inl (cs.2.1, n, .inl f) ∧ (n ≠ 4 → ∀ j, cp k (f j)) ∧ (n = 4 → ∀ j, j < 4 → ((f j).toInt = pvr k j ∧ -1 ≤ (f j).toInt ∧ (f j).toInt ≤ 40)) := hs
  have hf := hf hn4
  refine va_iast hx hb hkb.1 hP hD hS (X.length + j) 1 (ap_r hj) rfl (in_t h0 h1) hdg (fun H1 locs1 hP hD hS => ?_)
  refine kk H1 locs1 (HT.put hj ha h3 h4 (show sp cs T (9, n, k) _ from ⟨_, rfl, fun _ q => ?_, fun q => absurd q hn4⟩) hP hD) hS
  unfold upd
  split
  · exact hv
  · exact hf q
theorem t_ild4 {k : Nat} {i : Int32} (hx : p.tables.exec = Jvm.exec) (hb : c.code = cc) (hkb : kb D (tyc cs) s) (hH : HT D cs A T O X H) (ha : T a = some (9, 4, k)) (hno : a ∉ O) (h0 : 0 ≤ i.toInt) (h1 : i.toInt < 4) (hdg : decode cc pc = .ok (.iaload, 1))
    (kk : ∀ x : Int32, x.toInt = pvr k i.toInt.toNat → -1 ≤ x.toInt → x.toInt ≤ 40 → W p l e R s m args below meth c H locs cells slots Q (F0 m (pc + 1) ls (.int x :: rest))) : W p l e R s m args below meth c H locs cells slots Q (F0 m pc ls (.int i :: .ref a :: rest)) := by
  obtain ⟨ws, hP, hD, h3, h4⟩ := hH
  obtain ⟨j, e0, hj, hs⟩ := h3 a _ ha hno
  obtain ⟨f, rfl, -, hf⟩ : ∃ f : Nat → Int32, e0 = .inl (cs.2.1, 4, .inl f) ∧ (4 ≠ 4 → ∀ j, cp k (f j)) ∧ (4 = 4 → ∀ j, j < 4 → ((f j).toInt = pvr k j ∧ -1 ≤ (f j).toInt ∧ (f j).toInt ≤ 40)) := hs
  have hq := hf rfl i.toInt.toNat (by omega)
  exact va_iald hx hb hkb.1 hP (X.length + j) 1 (ap_r hj) rfl (in_t h0 h1) hdg (kk _ hq.1 hq.2.1 hq.2.2)
end ThRows6
section ThDyn
variable {p : Program} {l : Launch} {e : Env} {R : Room} {s : State} {m : MethodId} {args : Array Value} {below : List Frame} {meth : Method} {c : Code} {H : Heap} {locs : List Loc} {cells slots : Nat} {Q : State → Prop}
variable {cc : ByteArray} {pc : Nat} {ls : Array Slot} {rest : List Value} {D : va_G} {A : Nat → Prop} {a : Nat} {cs : CS} {T : TF} {O : List Nat} {X : va_W} {H0 : Heap}
/-- a constructor's call -/
theorem tr_I {kf : KF} {own : String} {idx n n' nL : Nat} {y : MethodName} {yb : ByteArray} {rm : Room} {b : Addr} {As st : List Value} {Qm : (Nat → Prop) → Array Value → State → Outcome → State → Prop}
    (hx : p.tables.exec = Jvm.exec) (hb : c.code = cc) (hml : c.maxLocals = nL) (hown : s.vm.findClass own = some m.cls) (hts : ∀ w ∈ gw, w.before args s = true) (hkb : kb D (tyc cs) s) (hH : HT D cs A T O X H) (hOX : ∀ o ∈ O, ∃ (k : Nat) (e : va_E), X[k]? = some (o, e)) (hks : kS kf s) (hE : kE kf A s s.heap) (hS : va_S A s.heap H locs) (hA : ∀ q, s.heap.size ≤ q → A q)
    (hM : TK l D cs kf y yb n' none rm (.ref b :: As) T O X Qm) (h1 : Cond.methodLink own idx y ∈ gw) (h2 : Cond.instanceMethod y ∈ gw) (h4 : Cond.initialized y.cls ∈ gw) (h5 : Cond.code y yb n' none ∈ gw) (hy1 : y.name = "<init>")
    (hd : y.cls ≠ "java/lang/invoke/MethodHandle" ∧ y.cls ≠ "java/lang/invoke/VarHandle" ∧ (parseMethodDescriptor y.desc).map (fun d => d.parameters.length) = some n) (hR : rm.frames + 1 ≤ R.frames ∧ 8 + (n' + 11) + rm.locals ≤ R.locals)
    (hn : As.length = n) (hst : st = As.reverse ++ .ref b :: rest) (hsz : ls.size = nL) (hW : (rest.map fun v => v.category).sum ≤ 8) (hdg : decode cc pc = .ok (.invokespecial idx, 3)) (hf : cells + rm.cells ≤ R.cells ∧ slots + rm.slots ≤ R.slots) :
    va_Run p l e R s m args below meth c H locs cells slots rm.cells rm.slots (F0 m pc ls st) rest (Qm (AT T O X H.size) (Value.ref b :: As).toArray) (AT T O X H.size) := by
  subst hst
  exact va_runI (As := As) (rest := rest) ⟨hx, hb, hml, hown, hts⟩ (hM H.size) (cwI n hts (gi_M h5) rfl rfl rfl (hts _ h4) (hts _ h1) (hts _ h2) hy1 hd hR) ⟨prT.blind, fun U hU hW => ⟨rfl, by rw [hU], by rw [hU]; exact hH.weaken (fun _ _ => trivial), kb.warm hW hkb, hOX, kS.warm hW hks, by rw [hU]; exact (kE.moved hW.alike (hE.kept hS.2.1)).narrow (hH.in hS hA)⟩⟩ rfl hn hsz rfl (lv_room hW) hdg hf
/-- contracts whose end tells how much was made -/
def TKD (l : Launch) (D : va_G) (cs : CS) (kf : KF) (y : MethodName) (b : ByteArray) (n : Nat) (r : Option FieldType) (rm : Room) (as : List Value) (T : TF) (O : List Nat) (X : va_W) (Q : Nat → Nat → (Nat → Prop) → Array Value → State → Outcome → State → Prop) : Prop :=
  ∀ sz : Nat, MetFree l y (headSpec (wl y b n r) rm) (va_Pc as (prT D cs kf T O X sz)) (fun _ _ _ _ _ => True) (fun a st o t => ∃ k n, Q k n (AT T O X sz) a st o t ∧ ∃ L, FrameEnd st o t L k n ∧ ∀ q ∈ L, AT T O X sz q.base)
def MQD (below : List Frame) (Q : Nat → Nat → Array Value → State → Outcome → State → Prop) (a : Array Value) (s : State) (free : Addr → Prop) : State → Prop := fun t => ∃ k n, MQ below (Q k n) a s k n free t
theorem W.imp {Q' : State → Prop} {g : JFrame} (h : ∀ t, Q t → Q' t) (k : W p l e R s m args below meth c H locs cells slots Q g) : W p l e R s m args below meth c H locs cells slots Q' g := fun T hT X => by
  obtain ⟨t, a1, b1⟩ := k T hT X
  exact ⟨t, a1, h t b1⟩
theorem tkd_of {kf : KF} {y : MethodName} {b : ByteArray} {n : Nat} {r : Option FieldType} {rm : Room} {as : List Value} {Qd : Nat → Nat → (Nat → Prop) → Array Value → State → Outcome → State → Prop} (hy : plainName y.cls = true) (hlen : (lg_sl as).length ≤ n)
    (body : ∀ (p : Program) (e : Env) (s : State) (m : MethodId) (below : List Frame) (meth : Method) (c : Code) (ls : Array Slot) (A : Nat → Prop) (H : Heap) (locs : List Loc), p.tables.exec = Jvm.exec → c.code = b → meth.sig.returnType = r → c.maxLocals = n → s.vm.findClass y.cls = some m.cls → (∀ w ∈ gw, w.before as.toArray s = true) → meth.locks = false → meth.name = y.name → kb D (tyc cs) s → HT D cs A T O X H → va_S A s.heap H locs → (∀ q : Nat, s.heap.size ≤ q → A q) → (∀ o ∈ O, ∃ (k : Nat) (e : va_E), X[k]? = some (o, e)) → kS kf s → kE kf A s s.heap → lv_has ls n (lv_args 0 as) →
      W p l e rm s m as.toArray below meth c H locs 0 0 (MQD below (fun k n => Qd k n A) as.toArray s A) (F0 m 0 ls [])) : TKD l D cs kf y b n r rm as T O X Qd := by
  intro sz
  refine MetFree.of_bodyS (code := b) (maxLocals := n) (ret := r) hy (fun args s m h hn => ?_) (fun p e s m args below meth c s₁ B hml hv _ => ?_)
  · obtain ⟨meth, c, h1, h2, h3, h4, h5, h6, -, -⟩ := Cond.code_spec hn (atoms_spec (ws := wl y b n r) h _ List.mem_cons_self)
    exact ⟨meth, c, h1, h2, h3, h4, h5, h6⟩
  · obtain ⟨rfl, hsz, hH, hK, hOX, hks, hE⟩ := hv
    have hts := atoms_spec (ws := wl y b n r) B.pre
    subst hsz
    have hh0 : s₁.heap = s.heap := by rw [B.state]; rfl
    have k := body p e s m below meth c _ _ _ [] B.exec B.bytes B.returns hml (findClass_of_methodNamed B.named) (fun w hw => hts w (List.mem_cons_of_mem _ hw)) B.notSynchronized (name_of_methodNamed B.named B.method).1 hK (hH.self hOX) va_S.rf (fun q h => Or.inr (Or.inr h)) hOX hks hE (lv_entry as hlen)
    rw [← lg_entry_eq] at k
    obtain ⟨t, a1, kk, nn, o, b1, b2, b3, b4⟩ := k s₁ hh0 (Stand.of_body B)
    exact ⟨t, o, a1, b1, b2, kk, nn, b3, b4⟩
def RunD (p : Program) (l : Launch) (e : Env) (R : Room) (s : State) (m : MethodId) (args : Array Value) (below : List Frame) (meth : Method) (c : Code) (H : Heap) (locs : List Loc) (cells slots : Nat) (g : JFrame) (rest : List Value) (Qa : Nat → Nat → State → Outcome → State → Prop) (free : Addr → Prop) : Prop :=
  ∀ T : State, T.heap = H → Stand p l e R s m args below meth c T locs cells slots → ∃ (v : Option Value) (st₀ t T' : State) (L : List Loc) (k n : Nat), st₀.heap = H ∧ Stand p l e R s m args below meth c T' (locs ++ L) (cells + k) (slots + n) ∧ (∀ q ∈ L, free q.base) ∧ T'.heap = t.heap ∧ T'.vm = t.vm ∧ Qa k n st₀ (.returned v) t ∧
    Goes p e below T g T' { g with pc := g.pc + 3, stack := v.toList ++ rest }
def PostD (Qc : Nat → Nat → Array Value → State → Outcome → State → Prop) (free : Addr → Prop) : Pt → Array Value → Option Value → Pt → Prop := fun A a v B =>
  ∃ (k n : Nat) (g : JFrame) (mk : MethodId) (t : State) (L : List Loc), B.U.heap = t.heap ∧ B.U.vm = t.vm ∧ Qc k n a (A.U.calling g mk a) (.returned v) t ∧ B.locs = A.locs ++ L ∧ (∀ q ∈ L, free q.base) ∧ B.cells = A.cells + k ∧ B.slots = A.slots + n
theorem back_D {kf : KF} {own : String} {idx n n' : Nat} {y : MethodName} {yb : ByteArray} {r : Option FieldType} {rm : Room} {As : List Value} {sz : Nat} {Qm : Nat → Nat → (Nat → Prop) → Array Value → State → Outcome → State → Prop}
    (hts : ∀ w ∈ gw, w.before args s = true) (hM : TKD l D cs kf y yb n' r rm As T O X Qm) (cb : CallB R s args own idx y yb n' r (wl y yb n' r) rm rm.cells rm.slots n) : Back l R p e below s args y 3 8 (PreOf R rm.cells rm.slots (va_Pc As (prT D cs kf T O X sz))) (PostD (fun k n => Qm k n (AT T O X sz)) (AT T O X sz)) := by
  obtain ⟨hrc, hrs, hfr, hlo, hws, hcw, -, hini, -⟩ := cb
  refine Back.of_free (S := headSpec (wl y yb n' r) rm) (P := va_Pc As (prT D cs kf T O X sz)) (K := fun _ _ _ _ _ => True) (bytes := yb) (maxL := n') (ret := r)
    (E := fun a st o t L k n => Qm k n (AT T O X sz) a st o t ∧ ∀ q ∈ L, AT T O X sz q.base) (hM sz) hfr hlo ?_ ?_ (fun _ _ _ _ _ _ _ _ _ => trivial) ?_ ?_
  · intro m meth c A a X hp
    exact ⟨atoms_intro fun w hw => hws w hw _ _ X.warmed, hws _ hcw _ _ X.warmed, word_at X.warmed (Or.inl (by first | rfl | simp [Cond.onTables, Cond.keeps, Cond.steady])) hini, hp.1, hp.2.1⟩
  · intro m meth c A a g mk X hp
    exact prT.blind _ _ _ _ hp.2.2
  · intro a st o t ⟨k, n, hq, L, hF, hL⟩
    exact ⟨L, k, n, hF, hq, hL⟩
  · intro m meth c A a g mk v t L k n X hp hq hF ⟨e1, hL⟩
    exact ⟨k, n, g, mk, t, L, rfl, rfl, e1, rfl, hL, rfl, rfl⟩
theorem tr_VD {kf : KF} {own C : String} {idx n n' nL : Nat} {y : MethodName} {yb : ByteArray} {r : Option FieldType} {rm : Room} {b : Addr} {As st : List Value} {Qm : Nat → Nat → (Nat → Prop) → Array Value → State → Outcome → State → Prop}
    (hx : p.tables.exec = Jvm.exec) (hb : c.code = cc) (hml : c.maxLocals = nL) (hown : s.vm.findClass own = some m.cls) (hts : ∀ w ∈ gw, w.before args s = true) (hkb : kb D (tyc cs) s) (hH : HT D cs A T O X H) (hOX : ∀ o ∈ O, ∃ (k : Nat) (e : va_E), X[k]? = some (o, e)) (hks : kS kf s) (hE : kE kf A s s.heap) (hS : va_S A s.heap H locs) (hA : ∀ q, s.heap.size ≤ q → A q)
    (hM : TKD l D cs kf y yb n' r rm (.ref b :: As) T O X Qm) (h1 : Cond.methodLink own idx y ∈ gw) (h2 : Cond.instanceMethod y ∈ gw) (h3 : Cond.selects C y y ∈ gw) (h4 : Cond.initialized C ∈ gw) (h5 : Cond.code y yb n' r ∈ gw)
    (hd : y.cls = C ∧ y.cls ≠ "java/lang/invoke/MethodHandle" ∧ y.cls ≠ "java/lang/invoke/VarHandle" ∧ (parseMethodDescriptor y.desc).map (fun d => d.parameters.length) = some n) (hR : rm.frames + 1 ≤ R.frames ∧ 8 + (n' + 11) + rm.locals ≤ R.locals)
    (he : ∃ cell : Cell, H[b]? = some cell ∧ cell.vm.isStatics = false ∧ s.vm.findClass C = some cell.cls) (hn : As.length = n) (hst : st = As.reverse ++ .ref b :: rest) (hsz : ls.size = nL) (hW : (rest.map fun v => v.category).sum ≤ 8) (hdg : decode cc pc = .ok (.invokevirtual idx, 3)) (hf : cells + rm.cells ≤ R.cells ∧ slots + rm.slots ≤ R.slots) :
    RunD p l e R s m args below meth c H locs cells slots (F0 m pc ls st) rest (fun k n => Qm k n (AT T O X H.size) (Value.ref b :: As).toArray) (AT T O X H.size) := by
  subst hst
  have hG : GoodIn gw (wsV own idx C y (wl y yb n' r)) := gi_app (fun w hw => by
    simp only [List.mem_cons, List.not_mem_nil, or_false] at hw
    rcases hw with rfl | rfl | rfl | rfl
    · exact h1
    · exact h2
    · exact h3
    · exact h4) (gi_M h5)
  have cw := cwV (R := R) (rm := rm) n hts hG rfl rfl rfl hd hR
  have hK := back_D (p := p) (e := e) (below := below) (sz := H.size) hts hM cw.1
  obtain ⟨⟨-, -, -, -, -, -, hcode, -, hy, hlen, hl⟩, hin, hse⟩ := cw
  obtain ⟨cellB, hcB, hoB, hclB⟩ := he
  intro T' hT X'
  obtain ⟨v, vm₁, ⟨U', l2, c2, s2⟩, hW₁, X2, ⟨k, nn, g', mk, t, L, e1, e2, hq, g1, hL, g2, g3⟩, st⟩ := callV X' hx (C := C) (bytes := yb) (maxL := n') (ret := r) hown hl hin hse hcode hy hK (by rw [hT]; exact hcB) hoB hclB rfl (hsz.trans hml.symm) (argsL := As) (rest := rest) (fun sig h => hn.trans (hlen sig h)) rfl (lv_room hW) (by rw [hb]; exact hdg)
    (fun vm₁ hW₁ => ⟨hf.1, hf.2, rfl, by rw [show (T'.setVm vm₁).heap = H from hT], by rw [show (T'.setVm vm₁).heap = H from hT]; exact hH.weaken (fun _ _ => trivial), kb.warm hW₁ hkb, hOX, kS.warm hW₁ hks, by rw [show (T'.setVm vm₁).heap = H from hT]; exact (kE.moved hW₁.alike (hE.kept hS.2.1)).narrow (hH.in hS hA)⟩)
  dsimp only [Pt.U, Pt.locs, Pt.cells, Pt.slots] at X2 e1 e2 g1 g2 g3 st
  subst g1; subst g2; subst g3
  exact ⟨v, (T'.setVm vm₁).calling g' mk (Value.ref b :: As).toArray, t, U', L, k, nn, hT, X2, hL, e1, e2, hq, st⟩
theorem tk_iD {post : Nat → Nat → Int32 → TX → Prop} {st : List Value} {av : Array Value} (hH : HT D cs A T O X H) (hS : va_S A H0 H locs) (hA : ∀ q, H0.size ≤ q → A q)
    (hr : RunD p l e R s m args below meth c H locs cells slots (F0 m pc ls st) rest (fun k n => Ti D cs (post k n) (AT T O X H.size) av) (AT T O X H.size))
    (kk : ∀ (r : Int32) (k n : Nat) (u : TX) (H1 : Heap) (locs1 : List Loc), post k n r u → HT D cs A u.1 u.2.1 u.2.2 H1 → va_S A H0 H1 locs1 → W p l e R s m args below meth c H1 locs1 (cells + k) (slots + n) Q (F0 m (pc + 3) ls (.int r :: rest))) : W p l e R s m args below meth c H locs cells slots Q (F0 m pc ls st) := by
  have hFc := hH.in hS hA
  intro T' hT X'
  obtain ⟨v, st₀, t, T2, L, k, n, h0, X2, hL, e1, e2, ⟨⟨r, u, hv, hp, hb⟩, hz, hk⟩, st⟩ := hr T' hT X'
  cases hv
  rw [h0] at hz hk
  have hB : HT D cs (AT T O X H.size) u.1 u.2.1 u.2.2 t.heap := hb
  rw [← e1] at hB hz
  obtain ⟨t2, a1, b1⟩ := kk r k n u T2.heap (locs ++ L) hp (hB.weaken hFc) ⟨Nat.le_trans hS.1 hz, fun q h1 h2 => by rw [e1, hk q (Nat.lt_of_lt_of_le h1 hS.1) (fun z => h2 (hFc q z))]; exact hS.2.1 q h1 h2, fun q hq => by
      rcases List.mem_append.mp hq with h | h
      · exact hS.2.2 q h
      · exact hFc _ (hL q h)⟩ T2 rfl X2
  exact ⟨t2, st t2 a1, b1⟩
theorem tk_vD {post : Nat → Nat → TX → Prop} {st : List Value} {av : Array Value} (hH : HT D cs A T O X H) (hS : va_S A H0 H locs) (hA : ∀ q, H0.size ≤ q → A q)
    (hr : RunD p l e R s m args below meth c H locs cells slots (F0 m pc ls st) rest (fun k n => Tv D cs (post k n) (AT T O X H.size) av) (AT T O X H.size))
    (kk : ∀ (k n : Nat) (u : TX) (H1 : Heap) (locs1 : List Loc), post k n u → HT D cs A u.1 u.2.1 u.2.2 H1 → va_S A H0 H1 locs1 → W p l e R s m args below meth c H1 locs1 (cells + k) (slots + n) Q (F0 m (pc + 3) ls rest)) : W p l e R s m args below meth c H locs cells slots Q (F0 m pc ls st) := by
  have hFc := hH.in hS hA
  intro T' hT X'
  obtain ⟨v, st₀, t, T2, L, k, n, h0, X2, hL, e1, e2, ⟨⟨u, hv, hp, hb⟩, hz, hk⟩, st⟩ := hr T' hT X'
  cases hv
  rw [h0] at hz hk
  have hB : HT D cs (AT T O X H.size) u.1 u.2.1 u.2.2 t.heap := hb
  rw [← e1] at hB hz
  obtain ⟨t2, a1, b1⟩ := kk k n u T2.heap (locs ++ L) hp (hB.weaken hFc) ⟨Nat.le_trans hS.1 hz, fun q h1 h2 => by rw [e1, hk q (Nat.lt_of_lt_of_le h1 hS.1) (fun z => h2 (hFc q z))]; exact hS.2.1 q h1 h2, fun q hq => by
      rcases List.mem_append.mp hq with h | h
      · exact hS.2.2 q h
      · exact hFc _ (hL q h)⟩ T2 rfl X2
  exact ⟨t2, st t2 a1, b1⟩
theorem te_iD {post : Nat → Nat → Int32 → TX → Prop} {v : Int32} (hx : p.tables.exec = Jvm.exec) (hb : c.code = cc) (hr : meth.sig.returnType = some .int) (hlocks : meth.locks = false) (hH : HT D cs A T O X H) (hS : va_S A s.heap H locs) (hp : post cells slots v (T, O, X)) (hdg : decode cc pc = .ok (.ireturn, 1)) : W p l e R s m args below meth c H locs cells slots (MQD below (fun k n => Ti D cs (post k n) A) args s A) (F0 m pc ls [.int v]) :=
  W.imp (fun _ h => ⟨cells, slots, h⟩) (te_i (post := post cells slots) hx hb hr hlocks hH hS hp hdg)
theorem te_vD {post : Nat → Nat → TX → Prop} (hx : p.tables.exec = Jvm.exec) (hb : c.code = cc) (hr : meth.sig.returnType = none) (hlocks : meth.locks = false) (hH : HT D cs A T O X H) (hS : va_S A s.heap H locs) (hp : post cells slots (T, O, X)) (hdg : decode cc pc = .ok (.return_, 1)) : W p l e R s m args below meth c H locs cells slots (MQD below (fun k n => Tv D cs (post k n) A) args s A) (F0 m pc ls []) :=
  W.imp (fun _ h => ⟨cells, slots, h⟩) (te_v (post := post cells slots) hx hb hr hlocks hH hS hp hdg)
theorem te_ra {post : TX × Nat → Prop} {v : Nat} {ty : FieldType} (hx : p.tables.exec = Jvm.exec) (hb : c.code = cc) (hr : meth.sig.returnType = some (.array ty)) (hlocks : meth.locks = false) (hH : HT D cs A T O X H) (hS : va_S A s.heap H locs) (hp : post ((T, O, X), v)) (hdg : decode cc pc = .ok (.areturn, 1)) : W p l e R s m args below meth c H locs cells slots (MQ below (Tr D cs post A) args s cells slots A) (F0 m pc ls [.ref v]) :=
  W.aret hx hb hr (Or.inr ⟨ty, rfl⟩) (Or.inr ⟨v, rfl⟩) (fun t ht _ => ⟨⟨((T, O, X), v), v, rfl, hp, rfl, by show HT D cs A T O X t.heap; rw [ht]; exact hH⟩, hS.F ht⟩) hS.2.2 hdg hlocks
end ThDyn
/-! clones, casts, arrays of walls; shifts and powers -/
section ThRows7
variable {p : Program} {l : Launch} {e : Env} {R : Room} {s : State} {m : MethodId} {args : Array Value} {below : List Frame} {meth : Method} {c : Code} {H : Heap} {locs : List Loc} {cells slots : Nat} {Q : State → Prop}
variable {cc : ByteArray} {pc : Nat} {ls : Array Slot} {rest : List Value} {D : va_G} {A : Nat → Prop} {a : Nat} {cs : CS} {T : TF} {O : List Nat} {X : va_W} {H0 : Heap}
theorem fc_I (hkb : kb D (tyc cs) s) : s.vm.findClass "[I" = some cs.2.1 := (hkb.1.2 1 (cs.2.1, .int) rfl).2
theorem t_cloneI {own : String} {index n k : Nat} (hx : p.tables.exec = Jvm.exec) (hb : c.code = cc) (hml : c.maxLocals = ls.size) (hown : s.vm.findClass own = some m.cls)
    (hlink : (Cond.methodLink own index ⟨"[I", "clone", "()Ljava/lang/Object;"⟩).before args s = true) (hsame : (Cond.sameMethod "[I" "java/lang/Object" "clone" "()Ljava/lang/Object;").before args s = true)
    (hnat : (Cond.native ⟨"java/lang/Object", "clone", "()Ljava/lang/Object;"⟩).before args s = true) (hinst : (Cond.instanceMethod ⟨"java/lang/Object", "clone", "()Ljava/lang/Object;"⟩).before args s = true)
    (hsel : (Cond.selects "[I" ⟨"[I", "clone", "()Ljava/lang/Object;"⟩ ⟨"java/lang/Object", "clone", "()Ljava/lang/Object;"⟩).before args s = true)
    (hkb : kb D (tyc cs) s) (hH : HT D cs A T O X H) (hOX : ∀ o ∈ O, ∃ (k : Nat) (e : va_E), X[k]? = some (o, e)) (hS : va_S A H0 H locs) (hA : ∀ q, H0.size ≤ q → A q) (ha : T a = some (1, n, k)) (hno : a ∉ O)
    (hframes : 1 ≤ R.frames) (hlocals : (rest.map fun v => v.category).sum + 14 ≤ R.locals) (hcells : cells + 1 ≤ R.cells) (hslots : slots + n ≤ R.slots) (hdg : decode cc pc = .ok (.invokevirtual index, 3))
    (kk : ∀ (r : Nat) (T' : TF) (H1 : Heap), Tgr T T' → T' r = some (1, n, k) → HT D cs A T' O X H1 → va_S A H0 H1 locs → W p l e R s m args below meth c H1 locs (cells + 1) (slots + n) Q (F0 m (pc + 3) ls (.ref r :: rest))) : W p l e R s m args below meth c H locs cells slots Q (F0 m pc ls (.ref a :: rest)) := by
  obtain ⟨ws, hP, hD, h3, h4⟩ := hH
  obtain ⟨j, e0, hj, hs⟩ := h3 a _ ha hno
  obtain ⟨f, rfl, hf⟩ : ∃ f : Nat → Int32, e0 = .inl (cs.2.1, n, .inl f) ∧ ∀ j, cp k (f j) := hs
  refine va_clone hx hb hml hown hlink hsame hnat hinst hsel hkb.2.2.2.2.2.2.2.2.2.2 hkb.1 hP hD hS hA (X.length + j) 1 (ap_r hj) rfl (fc_I hkb) (fun i v h => ?_) hframes hlocals hcells hslots hdg (fun q H1 hK2 hP hD hS => ?_)
  · have hlt := (Array.getElem?_eq_some_iff.mp h).1
    rw [vp_cell_i, arrV_size] at hlt
    rw [vp_cell_i, arrV_read _ _ hlt] at h
    cases h
    rfl
  · exact kk q (Tadd T q (1, n, k)) H1 (Tgr_add (new_none hD hOX h3) (Or.inl rfl)) Tadd_r (HT.push hP hD hOX h3 h4 (show sp cs _ (1, n, k) _ from ⟨f, rfl, hf⟩)) hS
theorem t_castI {own : String} {index n k : Nat} (hx : p.tables.exec = Jvm.exec) (hb : c.code = cc) (hown : s.vm.findClass own = some m.cls) (hlink : (Cond.classLink own index "[I").before args s = true) (hkb : kb D (tyc cs) s) (hH : HT D cs A T O X H) (ha : T a = some (1, n, k)) (hno : a ∉ O) (hdg : decode cc pc = .ok (.checkcast index, 3))
    (kk : W p l e R s m args below meth c H locs cells slots Q (F0 m (pc + 3) ls (.ref a :: rest))) : W p l e R s m args below meth c H locs cells slots Q (F0 m pc ls (.ref a :: rest)) := by
  obtain ⟨ws, hP, hD, h3, h4⟩ := hH
  obtain ⟨j, e0, hj, hs⟩ := h3 a _ ha hno
  obtain ⟨f, rfl, hf⟩ : ∃ f : Nat → Int32, e0 = .inl (cs.2.1, n, .inl f) ∧ ∀ j, cp k (f j) := hs
  exact va_castA hx hb hown hlink hP (X.length + j) (ap_r hj) (fc_I hkb) hdg kk
theorem xa_wld {n : Nat} {f : Nat → Option Nat} {j : Int32} (hx : p.tables.exec = Jvm.exec) (hb : c.code = cc) (hkb : kb D (tyc cs) s) (hH : HT D cs A T O X H) (i : Nat) (hi : X[i]? = some (a, .inl (cs.2.2.2.2.2.1, n, .inr (.inr (.inr (.inr f)))))) (hsp : ∀ j a, f j = some a → ∃ h g, isW T a h g) (h0 : 0 ≤ j.toInt) (h1 : j.toInt < n) (hdg : decode cc pc = .ok (.aaload, 1))
    (k1 : f j.toNatClampNeg = none → W p l e R s m args below meth c H locs cells slots Q (F0 m (pc + 1) ls (.null :: rest))) (k2 : ∀ r h g : Nat, f j.toNatClampNeg = some r → isW T r h g → W p l e R s m args below meth c H locs cells slots Q (F0 m (pc + 1) ls (.ref r :: rest))) : W p l e R s m args below meth c H locs cells slots Q (F0 m pc ls (.int j :: .ref a :: rest)) := by
  obtain ⟨ws, hP, hD, h3, h4⟩ := hH
  refine va_aldq (C := RX9) hx hb hkb.1 hP i 5 (ap_l hi) rfl (in_t h0 h1) hdg ?_
  cases hr : f j.toNatClampNeg with
  | none => exact k1 hr
  | some r =>
    obtain ⟨h, g, hw⟩ := hsp _ r hr
    exact k2 r h g hr hw
theorem xa_wld1 {n r : Nat} {f : Nat → Option Nat} {j : Int32} (hx : p.tables.exec = Jvm.exec) (hb : c.code = cc) (hkb : kb D (tyc cs) s) (hH : HT D cs A T O X H) (i : Nat) (hi : X[i]? = some (a, .inl (cs.2.2.2.2.2.1, n, .inr (.inr (.inr (.inr f)))))) (h0 : 0 ≤ j.toInt) (h1 : j.toInt < n) (hr : f j.toNatClampNeg = some r) (hdg : decode cc pc = .ok (.aaload, 1))
    (kk : W p l e R s m args below meth c H locs cells slots Q (F0 m (pc + 1) ls (.ref r :: rest))) : W p l e R s m args below meth c H locs cells slots Q (F0 m pc ls (.int j :: .ref a :: rest)) := by
  obtain ⟨ws, hP, hD, h3, h4⟩ := hH
  refine va_aldq (C := RX9) hx hb hkb.1 hP i 5 (ap_l hi) rfl (in_t h0 h1) hdg ?_
  rw [hr]
  exact kk
theorem TK.mono {kf : KF} {y : MethodName} {b : ByteArray} {n : Nat} {r : Option FieldType} {rm : Room} {as : List Value} {post post' : Int32 → TX → Prop} (h : TK l D cs kf y b n r rm as T O X (Ti D cs post)) (hp : ∀ v u, post v u → post' v u) : TK l D cs kf y b n r rm as T O X (Ti D cs post') := by
  intro sz p e ha hc hk s m args below hf happ hP hK
  obtain ⟨z, o, h1, h2, h3, ⟨⟨⟨v, u, e1, e2, e3⟩, e4⟩, h5⟩⟩ := h sz p e ha hc hk s m args below hf happ hP hK
  exact ⟨z, o, h1, h2, h3, ⟨⟨v, u, e1, hp v u e2, e3⟩, e4⟩, h5⟩
end ThRows7
/-- all but the FootholdWall stay as they are -/
def Tre (T T2 : TF) (a : Nat) : Prop := (∀ (b : Nat) (tg : Tg), T b = some tg → tg.1 ≠ 21 → T2 b = some tg) ∧ ∀ (b : Nat) (tg : Tg), T2 b = some tg → T b = some tg ∨ tg.1 = 1 ∨ tg.1 = 12 ∨ tg.1 = 19 ∨ (tg.1 = 21 ∧ b = a)
theorem Tre.rf {T : TF} {a : Nat} : Tre T T a := ⟨fun _ _ h _ => h, fun _ _ h => Or.inl h⟩
theorem Tre.of {T T2 : TF} {a : Nat} (h : Tgr T T2) : Tre T T2 a := ⟨fun b tg hb _ => h.1 b tg hb, fun b tg hb => (h.2 b tg hb).elim Or.inl (fun q => Or.inr (by omega))⟩
theorem Tre.tr {T T1 T2 : TF} {a : Nat} (h1 : Tre T T1 a) (h2 : Tre T1 T2 a) : Tre T T2 a := ⟨fun b tg hb hk => h2.1 b tg (h1.1 b tg hb hk) hk, fun b tg hb => (h2.2 b tg hb).elim (h1.2 b tg) Or.inr⟩
theorem Tre.add {T : TF} {a w w2 q : Nat} (ha : T a = some (21, w, q)) : Tre T (Tadd T a (21, w2, q)) a := ⟨fun b tg hb hk => re_ne ha hk hb, fun b tg hb => by
  unfold Tadd at hb
  split at hb
  · rename_i hba
    cases hb
    exact Or.inr (Or.inr (Or.inr (Or.inr ⟨rfl, hba⟩)))
  · exact Or.inl hb⟩
theorem ushr_n {x y : Int32} (k : Nat) (hk : y.toUInt32 &&& Int32.toUInt32 31 = UInt32.ofNat k) (h31 : k < 32) (h : 0 ≤ x.toInt) : (x.toUInt32 >>> (y.toUInt32 &&& Int32.toUInt32 31)).toInt32.toInt = x.toInt / 2 ^ k := by
  rw [hk]
  obtain ⟨h1, h2⟩ := nn_i h
  have e : (x.toUInt32 >>> UInt32.ofNat k).toNat = x.toBitVec.toNat >>> k := by
    rw [UInt32.toNat_shiftRight]
    have : (UInt32.ofNat k).toNat % 32 = k := by rw [UInt32.toNat_ofNat']; omega
    rw [this]
    rfl
  have hb : ((x.toUInt32 >>> UInt32.ofNat k).toInt32).toBitVec.toNat = x.toBitVec.toNat >>> k := by
    show (x.toUInt32 >>> UInt32.ofNat k).toBitVec.toNat = _
    exact e
  have hle : x.toBitVec.toNat >>> k ≤ x.toBitVec.toNat := Nat.shiftRight_le _ _
  have := nn_of (x := (x.toUInt32 >>> UInt32.ofNat k).toInt32) (by rw [hb]; omega)
  rw [this, hb, h1, Nat.shiftRight_eq_div_pow]
  exact_mod_cast rfl
theorem nat_and_pow {n k : Nat} (h0 : 2 ^ k ≤ n) (h1 : n < 2 ^ (k + 1)) : n &&& 2 ^ k = 2 ^ k := by
  apply Nat.eq_of_testBit_eq
  intro i
  rw [Nat.testBit_and, Nat.testBit_two_pow]
  by_cases hi : k = i
  · subst hi
    rw [Nat.testBit_of_two_pow_le_and_two_pow_add_one_gt h0 h1]
    simp
  · simp [hi]
theorem and_pow {x c : Int32} (k : Nat) (hk : k ≤ 30) (hc : c.toInt = 2 ^ k) (h0 : (2 : Int) ^ k ≤ x.toInt) (h1 : x.toInt < 2 ^ (k + 1)) : (x &&& c).toInt = 2 ^ k := by
  have hp : (0 : Int) < 2 ^ k := Int.pow_pos (by decide)
  obtain ⟨a1, a2⟩ := nn_i (x := x) (by omega)
  obtain ⟨b1, b2⟩ := nn_i (x := c) (by omega)
  have ec : c.toBitVec.toNat = 2 ^ k := by
    have : (c.toBitVec.toNat : Int) = ((2 ^ k : Nat) : Int) := by rw [← b1, hc]; norm_cast
    exact_mod_cast this
  have g0 : 2 ^ k ≤ x.toBitVec.toNat := by
    have : ((2 ^ k : Nat) : Int) ≤ (x.toBitVec.toNat : Int) := by rw [← a1]; exact_mod_cast h0
    exact_mod_cast this
  have g1 : x.toBitVec.toNat < 2 ^ (k + 1) := by
    have : (x.toBitVec.toNat : Int) < ((2 ^ (k + 1) : Nat) : Int) := by rw [← a1]; exact_mod_cast h1
    exact_mod_cast this
  have e : (x &&& c).toBitVec.toNat = 2 ^ k := by rw [Int32.toBitVec_and, BitVec.toNat_and, ec, nat_and_pow g0 g1]
  have := nn_of (x := x &&& c) (by rw [e]; omega)
  rw [this, e]
  norm_cast
theorem a31_tab : ∀ k, k < 32 → nI k &&& 31 = nI k := by decide +kernel
/-- a bit of a number that isn't below 0 -/
theorem bit_le {x h v w : Int32} (hx : 0 ≤ x.toInt) (h0 : 0 ≤ h.toInt) (h1 : h.toInt ≤ 30) (ev : v = x >>> (h &&& 31)) (ew : w = v &&& 1) (hw : w.toInt ≠ 0) : ((1 : Int32) <<< (h &&& 31)).toInt ≤ x.toInt := by
  have e := is_nI h0
  have ek : h &&& 31 = nI h.toInt.toNat := by
    have := a31_tab h.toInt.toNat (by omega)
    rw [← e] at this
    rw [this]
    exact e
  have hv : v.toInt = x.toInt / 2 ^ h.toInt.toNat := by
    rw [ev]
    exact shr_c h.toInt.toNat ek (by omega)
  have hs : ((1 : Int32) <<< (h &&& 31)).toInt = 2 ^ h.toInt.toNat := by
    have := sh_tab h.toInt.toNat (by omega)
    rw [← e] at this
    exact this
  rw [hs]
  have hp : (0 : Int) < 2 ^ h.toInt.toNat := Int.pow_pos (by decide)
  rcases Int.lt_or_le x.toInt (2 ^ h.toInt.toNat) with q | q
  · exfalso
    rw [Int.ediv_eq_zero_of_lt hx q] at hv
    have v0 : v = 0 := Int32.toInt_inj.mp (by rw [hv]; decide)
    rw [ew, v0] at hw
    exact hw (by decide)
  · exact q
/-- a power of two above another one -/
theorem p2_lt {n m j i : Nat} (hn : n = 2 ^ j) (hm : m = 2 ^ i) (h : n < m) : j < i := by
  rw [hn, hm] at h
  exact (Nat.pow_lt_pow_iff_right (by decide)).mp h
theorem p2_le {n j : Nat} (hn : n = 2 ^ j) (hj : j ≤ 14) : 1 ≤ n ∧ n ≤ 16384 := by
  rw [hn]
  exact ⟨Nat.pow_pos (by decide), Nat.pow_le_pow_right (by decide) hj⟩
def hobP (x r : Int) : Prop := (x = 0 ∧ r = 0) ∨ ∃ j : Nat, j ≤ 13 ∧ r = 2 ^ j
/-- the room of a Chains: twice its highest bit, or one -/
theorem hob_size {x r v s0 : Int32} (h : hobP x.toInt r.toInt) (hv : v.toInt = 2 * r.toInt) (hs : s0.toInt = max 1 v.toInt) : ∃ j : Nat, j ≤ 14 ∧ s0.toInt.toNat = 2 ^ j := by
  rcases h with ⟨-, h⟩ | ⟨j, hj, h⟩
  · exact ⟨0, by omega, by omega⟩
  · have hp : (0 : Int) < 2 ^ j := Int.pow_pos (by decide)
    refine ⟨j + 1, by omega, ?_⟩
    have h2 : s0.toInt = ((2 ^ (j + 1) : Nat) : Int) := by
      rw [Nat.pow_succ]
      have : ((2 ^ j * 2 : Nat) : Int) = 2 ^ j * 2 := by norm_cast
      omega
    omega
theorem dJ6_highestOneBit_0f7a4_0 : decode cJ6_highestOneBit_0f7a4 0 = .ok (.iload_n 0, 1) := by decide +kernel
theorem dJ6_highestOneBit_0f7a4_1 : decode cJ6_highestOneBit_0f7a4 1 = .ok (.ldc 127, 2) := by decide +kernel
theorem dJ6_highestOneBit_0f7a4_3 : decode cJ6_highestOneBit_0f7a4 3 = .ok (.iload_n 0, 1) := by decide +kernel
theorem dJ6_highestOneBit_0f7a4_4 : decode cJ6_highestOneBit_0f7a4 4 = .ok (.invokestatic 51, 3) := by decide +kernel
theorem dJ6_highestOneBit_0f7a4_7 : decode cJ6_highestOneBit_0f7a4 7 = .ok (.iushr, 1) := by decide +kernel
theorem dJ6_highestOneBit_0f7a4_8 : decode cJ6_highestOneBit_0f7a4 8 = .ok (.iand, 1) := by decide +kernel
theorem dJ6_highestOneBit_0f7a4_9 : decode cJ6_highestOneBit_0f7a4 9 = .ok (.ireturn, 1) := by decide +kernel
theorem kw_1083 : Cond.constant "java/lang/Integer" 127 (-2147483648) ∈ gw := gw_of (tb_of 1083 (by decide +kernel)) (by decide +kernel)
theorem kw_1084 : Cond.methodLink "java/lang/Integer" 51 yJ6_numberOfLeadingZeros_0f7a4 ∈ gw := gw_of (tb_of 1084 (by decide +kernel)) (by decide +kernel)
theorem kw_1085 : Cond.static yJ6_numberOfLeadingZeros_0f7a4 ∈ gw := gw_of (tb_of 1085 (by decide +kernel)) (by decide +kernel)
theorem kw_1086 : Cond.code yJ6_numberOfLeadingZeros_0f7a4 cJ6_numberOfLeadingZeros_0f7a4 2 (some (.int)) ∈ gw := gw_of (tb_of 1086 (by decide +kernel)) (by decide +kernel)
set_option maxHeartbeats 4000000 in
set_option maxRecDepth 100000 in
theorem s_nlz_0 (l : Launch) (D : va_G) (cs : CS) (kf : KF) (T : TF) (O : List Nat) (X : va_W) (x0 : Int32) (l_x0 : 1 ≤ x0.toInt) (u_x0 : x0.toInt ≤ 1) (hO : okO T O []) : TK l D cs kf yJ6_numberOfLeadingZeros_0f7a4 cJ6_numberOfLeadingZeros_0f7a4 2 (some (.int)) { frames := 0, cells := 0, slots := 0, locals := 0 } [.int x0] T O X (Ti D cs (fun r u => u = (T, O, X) ∧ 31 ≤ r.toInt ∧ r.toInt ≤ 31)) := by
  refine tk_of (by decide) (Nat.le_of_ble_eq_true rfl) (fun p e s m below meth c ls A H locs hx hb hr hml hown hts hlocks hnm hkb hH hS hA hOX hks hE hl => ?_)
  have hown : s.vm.findClass RJ6 = some m.cls := hown
  have hl : lv_has ls 2 [(0, .int x0)] := hl
  refine lv_iload_n hx hb dJ6_numberOfLeadingZeros_0f7a4_0 rfl (lv_at hl 0 rfl) ?_
  refine lv_if_gt (tgt := 15) hx hb dJ6_numberOfLeadingZeros_0f7a4_1 (by decide) (fun c1 => ?_) (fun c1 => ?_)
  · skip
    have tc1 := f_gt (k := 0) (by decide) c1
    refine lv_bipush (v := 31) hx hb dJ6_numberOfLeadingZeros_0f7a4_15 (by decide) ?_
    refine lv_istore_n (lv' := [(1, .int 31), (0, .int x0)]) hx hb dJ6_numberOfLeadingZeros_0f7a4_17 rfl hl (by decide) rfl (fun ls hl => ?_)
    refine lv_iload_n hx hb dJ6_numberOfLeadingZeros_0f7a4_18 rfl (lv_at hl 1 rfl) ?_
    refine lv_ldcw hx hb hown (hts _ kw_861) dJ6_numberOfLeadingZeros_0f7a4_19 ?_
    refine lv_icmp_lt (tgt := 33) hx hb dJ6_numberOfLeadingZeros_0f7a4_22 (by decide) (fun c22 => ?_) (fun c22 => ?_)
    · skip
      have tc22 := f_lt (k := 65536) (by decide) c22
      refine lv_iload_n hx hb dJ6_numberOfLeadingZeros_0f7a4_33 rfl (lv_at hl 1 rfl) ?_
      refine lv_sipush (v := 256) hx hb dJ6_numberOfLeadingZeros_0f7a4_34 (by decide) ?_
      refine lv_icmp_lt (tgt := 48) hx hb dJ6_numberOfLeadingZeros_0f7a4_37 (by decide) (fun c37 => ?_) (fun c37 => ?_)
      · skip
        have tc37 := f_lt (k := 256) (by decide) c37
        refine lv_iload_n hx hb dJ6_numberOfLeadingZeros_0f7a4_48 rfl (lv_at hl 1 rfl) ?_
        refine lv_bipush (v := 16) hx hb dJ6_numberOfLeadingZeros_0f7a4_49 (by decide) ?_
        refine lv_icmp_lt (tgt := 61) hx hb dJ6_numberOfLeadingZeros_0f7a4_51 (by decide) (fun c51 => ?_) (fun c51 => ?_)
        · skip
          have tc51 := f_lt (k := 16) (by decide) c51
          refine lv_iload_n hx hb dJ6_numberOfLeadingZeros_0f7a4_61 rfl (lv_at hl 1 rfl) ?_
          refine lv_iconst (v := 4) hx hb dJ6_numberOfLeadingZeros_0f7a4_62 (by decide) ?_
          refine lv_icmp_lt (tgt := 73) hx hb dJ6_numberOfLeadingZeros_0f7a4_63 (by decide) (fun c63 => ?_) (fun c63 => ?_)
          · skip
            have tc63 := f_lt (k := 4) (by decide) c63
            refine lv_iload_n hx hb dJ6_numberOfLeadingZeros_0f7a4_73 rfl (lv_at hl 0 rfl) ?_
            refine lv_iload_n hx hb dJ6_numberOfLeadingZeros_0f7a4_74 rfl (lv_at hl 1 rfl) ?_
            refine lv_iconst (v := 1) hx hb dJ6_numberOfLeadingZeros_0f7a4_75 (by decide) ?_
            refine lv_iushr hx hb dJ6_numberOfLeadingZeros_0f7a4_76 rfl ?_
            refine lv_topi (fun v76 ev76 => ?_)
            have tv76 : v76.toInt = x0.toInt / 2 := by rw [ev76]; exact ushr_n 1 (by decide +kernel) (by decide) (by omega)
            refine lv_isub hx hb dJ6_numberOfLeadingZeros_0f7a4_77 ?_
            refine lv_topi (fun v77 ev77 => ?_)
            have tv77 : v77.toInt = (31) - v76.toInt := by rw [ev77]; exact sub_i (by decide : (31 : Int32).toInt = 31) rfl (by omega) (by omega)
            exact te_i hx hb hr hlocks hH hS (⟨rfl, by omega, by omega⟩) dJ6_numberOfLeadingZeros_0f7a4_78
          · skip
            have tc63 := f_nlt (k := 4) (by decide) c63
            exfalso; omega
        · skip
          have tc51 := f_nlt (k := 16) (by decide) c51
          exfalso; omega
      · skip
        have tc37 := f_nlt (k := 256) (by decide) c37
        exfalso; omega
    · skip
      have tc22 := f_nlt (k := 65536) (by decide) c22
      exfalso; omega
  · skip
    have tc1 := f_ngt (k := 0) (by decide) c1
    exfalso; omega
set_option maxHeartbeats 4000000 in
set_option maxRecDepth 100000 in
theorem s_nlz_1 (l : Launch) (D : va_G) (cs : CS) (kf : KF) (T : TF) (O : List Nat) (X : va_W) (x0 : Int32) (l_x0 : 2 ≤ x0.toInt) (u_x0 : x0.toInt ≤ 3) (hO : okO T O []) : TK l D cs kf yJ6_numberOfLeadingZeros_0f7a4 cJ6_numberOfLeadingZeros_0f7a4 2 (some (.int)) { frames := 0, cells := 0, slots := 0, locals := 0 } [.int x0] T O X (Ti D cs (fun r u => u = (T, O, X) ∧ 30 ≤ r.toInt ∧ r.toInt ≤ 30)) := by
  refine tk_of (by decide) (Nat.le_of_ble_eq_true rfl) (fun p e s m below meth c ls A H locs hx hb hr hml hown hts hlocks hnm hkb hH hS hA hOX hks hE hl => ?_)
  have hown : s.vm.findClass RJ6 = some m.cls := hown
  have hl : lv_has ls 2 [(0, .int x0)] := hl
  refine lv_iload_n hx hb dJ6_numberOfLeadingZeros_0f7a4_0 rfl (lv_at hl 0 rfl) ?_
  refine lv_if_gt (tgt := 15) hx hb dJ6_numberOfLeadingZeros_0f7a4_1 (by decide) (fun c1 => ?_) (fun c1 => ?_)
  · skip
    have tc1 := f_gt (k := 0) (by decide) c1
    refine lv_bipush (v := 31) hx hb dJ6_numberOfLeadingZeros_0f7a4_15 (by decide) ?_
    refine lv_istore_n (lv' := [(1, .int 31), (0, .int x0)]) hx hb dJ6_numberOfLeadingZeros_0f7a4_17 rfl hl (by decide) rfl (fun ls hl => ?_)
    refine lv_iload_n hx hb dJ6_numberOfLeadingZeros_0f7a4_18 rfl (lv_at hl 1 rfl) ?_
    refine lv_ldcw hx hb hown (hts _ kw_861) dJ6_numberOfLeadingZeros_0f7a4_19 ?_
    refine lv_icmp_lt (tgt := 33) hx hb dJ6_numberOfLeadingZeros_0f7a4_22 (by decide) (fun c22 => ?_) (fun c22 => ?_)
    · skip
      have tc22 := f_lt (k := 65536) (by decide) c22
      refine lv_iload_n hx hb dJ6_numberOfLeadingZeros_0f7a4_33 rfl (lv_at hl 1 rfl) ?_
      refine lv_sipush (v := 256) hx hb dJ6_numberOfLeadingZeros_0f7a4_34 (by decide) ?_
      refine lv_icmp_lt (tgt := 48) hx hb dJ6_numberOfLeadingZeros_0f7a4_37 (by decide) (fun c37 => ?_) (fun c37 => ?_)
      · skip
        have tc37 := f_lt (k := 256) (by decide) c37
        refine lv_iload_n hx hb dJ6_numberOfLeadingZeros_0f7a4_48 rfl (lv_at hl 1 rfl) ?_
        refine lv_bipush (v := 16) hx hb dJ6_numberOfLeadingZeros_0f7a4_49 (by decide) ?_
        refine lv_icmp_lt (tgt := 61) hx hb dJ6_numberOfLeadingZeros_0f7a4_51 (by decide) (fun c51 => ?_) (fun c51 => ?_)
        · skip
          have tc51 := f_lt (k := 16) (by decide) c51
          refine lv_iload_n hx hb dJ6_numberOfLeadingZeros_0f7a4_61 rfl (lv_at hl 1 rfl) ?_
          refine lv_iconst (v := 4) hx hb dJ6_numberOfLeadingZeros_0f7a4_62 (by decide) ?_
          refine lv_icmp_lt (tgt := 73) hx hb dJ6_numberOfLeadingZeros_0f7a4_63 (by decide) (fun c63 => ?_) (fun c63 => ?_)
          · skip
            have tc63 := f_lt (k := 4) (by decide) c63
            refine lv_iload_n hx hb dJ6_numberOfLeadingZeros_0f7a4_73 rfl (lv_at hl 0 rfl) ?_
            refine lv_iload_n hx hb dJ6_numberOfLeadingZeros_0f7a4_74 rfl (lv_at hl 1 rfl) ?_
            refine lv_iconst (v := 1) hx hb dJ6_numberOfLeadingZeros_0f7a4_75 (by decide) ?_
            refine lv_iushr hx hb dJ6_numberOfLeadingZeros_0f7a4_76 rfl ?_
            refine lv_topi (fun v76 ev76 => ?_)
            have tv76 : v76.toInt = x0.toInt / 2 := by rw [ev76]; exact ushr_n 1 (by decide +kernel) (by decide) (by omega)
            refine lv_isub hx hb dJ6_numberOfLeadingZeros_0f7a4_77 ?_
            refine lv_topi (fun v77 ev77 => ?_)
            have tv77 : v77.toInt = (31) - v76.toInt := by rw [ev77]; exact sub_i (by decide : (31 : Int32).toInt = 31) rfl (by omega) (by omega)
            exact te_i hx hb hr hlocks hH hS (⟨rfl, by omega, by omega⟩) dJ6_numberOfLeadingZeros_0f7a4_78
          · skip
            have tc63 := f_nlt (k := 4) (by decide) c63
            exfalso; omega
        · skip
          have tc51 := f_nlt (k := 16) (by decide) c51
          exfalso; omega
      · skip
        have tc37 := f_nlt (k := 256) (by decide) c37
        exfalso; omega
    · skip
      have tc22 := f_nlt (k := 65536) (by decide) c22
      exfalso; omega
  · skip
    have tc1 := f_ngt (k := 0) (by decide) c1
    exfalso; omega
set_option maxHeartbeats 4000000 in
set_option maxRecDepth 100000 in
theorem s_nlz_2 (l : Launch) (D : va_G) (cs : CS) (kf : KF) (T : TF) (O : List Nat) (X : va_W) (x0 : Int32) (l_x0 : 4 ≤ x0.toInt) (u_x0 : x0.toInt ≤ 7) (hO : okO T O []) : TK l D cs kf yJ6_numberOfLeadingZeros_0f7a4 cJ6_numberOfLeadingZeros_0f7a4 2 (some (.int)) { frames := 0, cells := 0, slots := 0, locals := 0 } [.int x0] T O X (Ti D cs (fun r u => u = (T, O, X) ∧ 29 ≤ r.toInt ∧ r.toInt ≤ 29)) := by
  refine tk_of (by decide) (Nat.le_of_ble_eq_true rfl) (fun p e s m below meth c ls A H locs hx hb hr hml hown hts hlocks hnm hkb hH hS hA hOX hks hE hl => ?_)
  have hown : s.vm.findClass RJ6 = some m.cls := hown
  have hl : lv_has ls 2 [(0, .int x0)] := hl
  refine lv_iload_n hx hb dJ6_numberOfLeadingZeros_0f7a4_0 rfl (lv_at hl 0 rfl) ?_
  refine lv_if_gt (tgt := 15) hx hb dJ6_numberOfLeadingZeros_0f7a4_1 (by decide) (fun c1 => ?_) (fun c1 => ?_)
  · skip
    have tc1 := f_gt (k := 0) (by decide) c1
    refine lv_bipush (v := 31) hx hb dJ6_numberOfLeadingZeros_0f7a4_15 (by decide) ?_
    refine lv_istore_n (lv' := [(1, .int 31), (0, .int x0)]) hx hb dJ6_numberOfLeadingZeros_0f7a4_17 rfl hl (by decide) rfl (fun ls hl => ?_)
    refine lv_iload_n hx hb dJ6_numberOfLeadingZeros_0f7a4_18 rfl (lv_at hl 1 rfl) ?_
    refine lv_ldcw hx hb hown (hts _ kw_861) dJ6_numberOfLeadingZeros_0f7a4_19 ?_
    refine lv_icmp_lt (tgt := 33) hx hb dJ6_numberOfLeadingZeros_0f7a4_22 (by decide) (fun c22 => ?_) (fun c22 => ?_)
    · skip
      have tc22 := f_lt (k := 65536) (by decide) c22
      refine lv_iload_n hx hb dJ6_numberOfLeadingZeros_0f7a4_33 rfl (lv_at hl 1 rfl) ?_
      refine lv_sipush (v := 256) hx hb dJ6_numberOfLeadingZeros_0f7a4_34 (by decide) ?_
      refine lv_icmp_lt (tgt := 48) hx hb dJ6_numberOfLeadingZeros_0f7a4_37 (by decide) (fun c37 => ?_) (fun c37 => ?_)
      · skip
        have tc37 := f_lt (k := 256) (by decide) c37
        refine lv_iload_n hx hb dJ6_numberOfLeadingZeros_0f7a4_48 rfl (lv_at hl 1 rfl) ?_
        refine lv_bipush (v := 16) hx hb dJ6_numberOfLeadingZeros_0f7a4_49 (by decide) ?_
        refine lv_icmp_lt (tgt := 61) hx hb dJ6_numberOfLeadingZeros_0f7a4_51 (by decide) (fun c51 => ?_) (fun c51 => ?_)
        · skip
          have tc51 := f_lt (k := 16) (by decide) c51
          refine lv_iload_n hx hb dJ6_numberOfLeadingZeros_0f7a4_61 rfl (lv_at hl 1 rfl) ?_
          refine lv_iconst (v := 4) hx hb dJ6_numberOfLeadingZeros_0f7a4_62 (by decide) ?_
          refine lv_icmp_lt (tgt := 73) hx hb dJ6_numberOfLeadingZeros_0f7a4_63 (by decide) (fun c63 => ?_) (fun c63 => ?_)
          · skip
            have tc63 := f_lt (k := 4) (by decide) c63
            exfalso; omega
          · skip
            have tc63 := f_nlt (k := 4) (by decide) c63
            refine lv_iinc (v := 29) (lv' := [(1, .int 29), (0, .int x0)]) hx hb dJ6_numberOfLeadingZeros_0f7a4_66 hl (k := 0) rfl (by decide) (by decide) rfl (fun ls hl => ?_)
            refine lv_iload_n hx hb dJ6_numberOfLeadingZeros_0f7a4_69 rfl (lv_at hl 1 rfl) ?_
            refine lv_iconst (v := 2) hx hb dJ6_numberOfLeadingZeros_0f7a4_70 (by decide) ?_
            refine lv_iushr hx hb dJ6_numberOfLeadingZeros_0f7a4_71 rfl ?_
            refine lv_topi (fun v71 ev71 => ?_)
            have tv71 : v71.toInt = x0.toInt / 4 := by rw [ev71]; exact ushr_n 2 (by decide +kernel) (by decide) (by omega)
            refine lv_istore_n (lv' := [(0, .int v71), (1, .int 29)]) hx hb dJ6_numberOfLeadingZeros_0f7a4_72 rfl hl (by decide) rfl (fun ls hl => ?_)
            refine lv_iload_n hx hb dJ6_numberOfLeadingZeros_0f7a4_73 rfl (lv_at hl 1 rfl) ?_
            refine lv_iload_n hx hb dJ6_numberOfLeadingZeros_0f7a4_74 rfl (lv_at hl 0 rfl) ?_
            refine lv_iconst (v := 1) hx hb dJ6_numberOfLeadingZeros_0f7a4_75 (by decide) ?_
            refine lv_iushr hx hb dJ6_numberOfLeadingZeros_0f7a4_76 rfl ?_
            refine lv_topi (fun v76 ev76 => ?_)
            have tv76 : v76.toInt = v71.toInt / 2 := by rw [ev76]; exact ushr_n 1 (by decide +kernel) (by decide) (by omega)
            refine lv_isub hx hb dJ6_numberOfLeadingZeros_0f7a4_77 ?_
            refine lv_topi (fun v77 ev77 => ?_)
            have tv77 : v77.toInt = (29) - v76.toInt := by rw [ev77]; exact sub_i (by decide : (29 : Int32).toInt = 29) rfl (by omega) (by omega)
            exact te_i hx hb hr hlocks hH hS (⟨rfl, by omega, by omega⟩) dJ6_numberOfLeadingZeros_0f7a4_78
        · skip
          have tc51 := f_nlt (k := 16) (by decide) c51
          exfalso; omega
      · skip
        have tc37 := f_nlt (k := 256) (by decide) c37
        exfalso; omega
    · skip
      have tc22 := f_nlt (k := 65536) (by decide) c22
      exfalso; omega
  · skip
    have tc1 := f_ngt (k := 0) (by decide) c1
    exfalso; omega
set_option maxHeartbeats 4000000 in
set_option maxRecDepth 100000 in
theorem s_nlz_3 (l : Launch) (D : va_G) (cs : CS) (kf : KF) (T : TF) (O : List Nat) (X : va_W) (x0 : Int32) (l_x0 : 8 ≤ x0.toInt) (u_x0 : x0.toInt ≤ 15) (hO : okO T O []) : TK l D cs kf yJ6_numberOfLeadingZeros_0f7a4 cJ6_numberOfLeadingZeros_0f7a4 2 (some (.int)) { frames := 0, cells := 0, slots := 0, locals := 0 } [.int x0] T O X (Ti D cs (fun r u => u = (T, O, X) ∧ 28 ≤ r.toInt ∧ r.toInt ≤ 28)) := by
  refine tk_of (by decide) (Nat.le_of_ble_eq_true rfl) (fun p e s m below meth c ls A H locs hx hb hr hml hown hts hlocks hnm hkb hH hS hA hOX hks hE hl => ?_)
  have hown : s.vm.findClass RJ6 = some m.cls := hown
  have hl : lv_has ls 2 [(0, .int x0)] := hl
  refine lv_iload_n hx hb dJ6_numberOfLeadingZeros_0f7a4_0 rfl (lv_at hl 0 rfl) ?_
  refine lv_if_gt (tgt := 15) hx hb dJ6_numberOfLeadingZeros_0f7a4_1 (by decide) (fun c1 => ?_) (fun c1 => ?_)
  · skip
    have tc1 := f_gt (k := 0) (by decide) c1
    refine lv_bipush (v := 31) hx hb dJ6_numberOfLeadingZeros_0f7a4_15 (by decide) ?_
    refine lv_istore_n (lv' := [(1, .int 31), (0, .int x0)]) hx hb dJ6_numberOfLeadingZeros_0f7a4_17 rfl hl (by decide) rfl (fun ls hl => ?_)
    refine lv_iload_n hx hb dJ6_numberOfLeadingZeros_0f7a4_18 rfl (lv_at hl 1 rfl) ?_
    refine lv_ldcw hx hb hown (hts _ kw_861) dJ6_numberOfLeadingZeros_0f7a4_19 ?_
    refine lv_icmp_lt (tgt := 33) hx hb dJ6_numberOfLeadingZeros_0f7a4_22 (by decide) (fun c22 => ?_) (fun c22 => ?_)
    · skip
      have tc22 := f_lt (k := 65536) (by decide) c22
      refine lv_iload_n hx hb dJ6_numberOfLeadingZeros_0f7a4_33 rfl (lv_at hl 1 rfl) ?_
      refine lv_sipush (v := 256) hx hb dJ6_numberOfLeadingZeros_0f7a4_34 (by decide) ?_
      refine lv_icmp_lt (tgt := 48) hx hb dJ6_numberOfLeadingZeros_0f7a4_37 (by decide) (fun c37 => ?_) (fun c37 => ?_)
      · skip
        have tc37 := f_lt (k := 256) (by decide) c37
        refine lv_iload_n hx hb dJ6_numberOfLeadingZeros_0f7a4_48 rfl (lv_at hl 1 rfl) ?_
        refine lv_bipush (v := 16) hx hb dJ6_numberOfLeadingZeros_0f7a4_49 (by decide) ?_
        refine lv_icmp_lt (tgt := 61) hx hb dJ6_numberOfLeadingZeros_0f7a4_51 (by decide) (fun c51 => ?_) (fun c51 => ?_)
        · skip
          have tc51 := f_lt (k := 16) (by decide) c51
          refine lv_iload_n hx hb dJ6_numberOfLeadingZeros_0f7a4_61 rfl (lv_at hl 1 rfl) ?_
          refine lv_iconst (v := 4) hx hb dJ6_numberOfLeadingZeros_0f7a4_62 (by decide) ?_
          refine lv_icmp_lt (tgt := 73) hx hb dJ6_numberOfLeadingZeros_0f7a4_63 (by decide) (fun c63 => ?_) (fun c63 => ?_)
          · skip
            have tc63 := f_lt (k := 4) (by decide) c63
            exfalso; omega
          · skip
            have tc63 := f_nlt (k := 4) (by decide) c63
            refine lv_iinc (v := 29) (lv' := [(1, .int 29), (0, .int x0)]) hx hb dJ6_numberOfLeadingZeros_0f7a4_66 hl (k := 0) rfl (by decide) (by decide) rfl (fun ls hl => ?_)
            refine lv_iload_n hx hb dJ6_numberOfLeadingZeros_0f7a4_69 rfl (lv_at hl 1 rfl) ?_
            refine lv_iconst (v := 2) hx hb dJ6_numberOfLeadingZeros_0f7a4_70 (by decide) ?_
            refine lv_iushr hx hb dJ6_numberOfLeadingZeros_0f7a4_71 rfl ?_
            refine lv_topi (fun v71 ev71 => ?_)
            have tv71 : v71.toInt = x0.toInt / 4 := by rw [ev71]; exact ushr_n 2 (by decide +kernel) (by decide) (by omega)
            refine lv_istore_n (lv' := [(0, .int v71), (1, .int 29)]) hx hb dJ6_numberOfLeadingZeros_0f7a4_72 rfl hl (by decide) rfl (fun ls hl => ?_)
            refine lv_iload_n hx hb dJ6_numberOfLeadingZeros_0f7a4_73 rfl (lv_at hl 1 rfl) ?_
            refine lv_iload_n hx hb dJ6_numberOfLeadingZeros_0f7a4_74 rfl (lv_at hl 0 rfl) ?_
            refine lv_iconst (v := 1) hx hb dJ6_numberOfLeadingZeros_0f7a4_75 (by decide) ?_
            refine lv_iushr hx hb dJ6_numberOfLeadingZeros_0f7a4_76 rfl ?_
            refine lv_topi (fun v76 ev76 => ?_)
            have tv76 : v76.toInt = v71.toInt / 2 := by rw [ev76]; exact ushr_n 1 (by decide +kernel) (by decide) (by omega)
            refine lv_isub hx hb dJ6_numberOfLeadingZeros_0f7a4_77 ?_
            refine lv_topi (fun v77 ev77 => ?_)
            have tv77 : v77.toInt = (29) - v76.toInt := by rw [ev77]; exact sub_i (by decide : (29 : Int32).toInt = 29) rfl (by omega) (by omega)
            exact te_i hx hb hr hlocks hH hS (⟨rfl, by omega, by omega⟩) dJ6_numberOfLeadingZeros_0f7a4_78
        · skip
          have tc51 := f_nlt (k := 16) (by decide) c51
          exfalso; omega
      · skip
        have tc37 := f_nlt (k := 256) (by decide) c37
        exfalso; omega
    · skip
      have tc22 := f_nlt (k := 65536) (by decide) c22
      exfalso; omega
  · skip
    have tc1 := f_ngt (k := 0) (by decide) c1
    exfalso; omega
set_option maxHeartbeats 4000000 in
set_option maxRecDepth 100000 in
theorem s_nlz_4 (l : Launch) (D : va_G) (cs : CS) (kf : KF) (T : TF) (O : List Nat) (X : va_W) (x0 : Int32) (l_x0 : 16 ≤ x0.toInt) (u_x0 : x0.toInt ≤ 31) (hO : okO T O []) : TK l D cs kf yJ6_numberOfLeadingZeros_0f7a4 cJ6_numberOfLeadingZeros_0f7a4 2 (some (.int)) { frames := 0, cells := 0, slots := 0, locals := 0 } [.int x0] T O X (Ti D cs (fun r u => u = (T, O, X) ∧ 27 ≤ r.toInt ∧ r.toInt ≤ 27)) := by
  refine tk_of (by decide) (Nat.le_of_ble_eq_true rfl) (fun p e s m below meth c ls A H locs hx hb hr hml hown hts hlocks hnm hkb hH hS hA hOX hks hE hl => ?_)
  have hown : s.vm.findClass RJ6 = some m.cls := hown
  have hl : lv_has ls 2 [(0, .int x0)] := hl
  refine lv_iload_n hx hb dJ6_numberOfLeadingZeros_0f7a4_0 rfl (lv_at hl 0 rfl) ?_
  refine lv_if_gt (tgt := 15) hx hb dJ6_numberOfLeadingZeros_0f7a4_1 (by decide) (fun c1 => ?_) (fun c1 => ?_)
  · skip
    have tc1 := f_gt (k := 0) (by decide) c1
    refine lv_bipush (v := 31) hx hb dJ6_numberOfLeadingZeros_0f7a4_15 (by decide) ?_
    refine lv_istore_n (lv' := [(1, .int 31), (0, .int x0)]) hx hb dJ6_numberOfLeadingZeros_0f7a4_17 rfl hl (by decide) rfl (fun ls hl => ?_)
    refine lv_iload_n hx hb dJ6_numberOfLeadingZeros_0f7a4_18 rfl (lv_at hl 1 rfl) ?_
    refine lv_ldcw hx hb hown (hts _ kw_861) dJ6_numberOfLeadingZeros_0f7a4_19 ?_
    refine lv_icmp_lt (tgt := 33) hx hb dJ6_numberOfLeadingZeros_0f7a4_22 (by decide) (fun c22 => ?_) (fun c22 => ?_)
    · skip
      have tc22 := f_lt (k := 65536) (by decide) c22
      refine lv_iload_n hx hb dJ6_numberOfLeadingZeros_0f7a4_33 rfl (lv_at hl 1 rfl) ?_
      refine lv_sipush (v := 256) hx hb dJ6_numberOfLeadingZeros_0f7a4_34 (by decide) ?_
      refine lv_icmp_lt (tgt := 48) hx hb dJ6_numberOfLeadingZeros_0f7a4_37 (by decide) (fun c37 => ?_) (fun c37 => ?_)
      · skip
        have tc37 := f_lt (k := 256) (by decide) c37
        refine lv_iload_n hx hb dJ6_numberOfLeadingZeros_0f7a4_48 rfl (lv_at hl 1 rfl) ?_
        refine lv_bipush (v := 16) hx hb dJ6_numberOfLeadingZeros_0f7a4_49 (by decide) ?_
        refine lv_icmp_lt (tgt := 61) hx hb dJ6_numberOfLeadingZeros_0f7a4_51 (by decide) (fun c51 => ?_) (fun c51 => ?_)
        · skip
          have tc51 := f_lt (k := 16) (by decide) c51
          exfalso; omega
        · skip
          have tc51 := f_nlt (k := 16) (by decide) c51
          refine lv_iinc (v := 27) (lv' := [(1, .int 27), (0, .int x0)]) hx hb dJ6_numberOfLeadingZeros_0f7a4_54 hl (k := 0) rfl (by decide) (by decide) rfl (fun ls hl => ?_)
          refine lv_iload_n hx hb dJ6_numberOfLeadingZeros_0f7a4_57 rfl (lv_at hl 1 rfl) ?_
          refine lv_iconst (v := 4) hx hb dJ6_numberOfLeadingZeros_0f7a4_58 (by decide) ?_
          refine lv_iushr hx hb dJ6_numberOfLeadingZeros_0f7a4_59 rfl ?_
          refine lv_topi (fun v59 ev59 => ?_)
          have tv59 : v59.toInt = x0.toInt / 16 := by rw [ev59]; exact ushr_n 4 (by decide +kernel) (by decide) (by omega)
          refine lv_istore_n (lv' := [(0, .int v59), (1, .int 27)]) hx hb dJ6_numberOfLeadingZeros_0f7a4_60 rfl hl (by decide) rfl (fun ls hl => ?_)
          refine lv_iload_n hx hb dJ6_numberOfLeadingZeros_0f7a4_61 rfl (lv_at hl 0 rfl) ?_
          refine lv_iconst (v := 4) hx hb dJ6_numberOfLeadingZeros_0f7a4_62 (by decide) ?_
          refine lv_icmp_lt (tgt := 73) hx hb dJ6_numberOfLeadingZeros_0f7a4_63 (by decide) (fun c63 => ?_) (fun c63 => ?_)
          · skip
            have tc63 := f_lt (k := 4) (by decide) c63
            refine lv_iload_n hx hb dJ6_numberOfLeadingZeros_0f7a4_73 rfl (lv_at hl 1 rfl) ?_
            refine lv_iload_n hx hb dJ6_numberOfLeadingZeros_0f7a4_74 rfl (lv_at hl 0 rfl) ?_
            refine lv_iconst (v := 1) hx hb dJ6_numberOfLeadingZeros_0f7a4_75 (by decide) ?_
            refine lv_iushr hx hb dJ6_numberOfLeadingZeros_0f7a4_76 rfl ?_
            refine lv_topi (fun v76 ev76 => ?_)
            have tv76 : v76.toInt = v59.toInt / 2 := by rw [ev76]; exact ushr_n 1 (by decide +kernel) (by decide) (by omega)
            refine lv_isub hx hb dJ6_numberOfLeadingZeros_0f7a4_77 ?_
            refine lv_topi (fun v77 ev77 => ?_)
            have tv77 : v77.toInt = (27) - v76.toInt := by rw [ev77]; exact sub_i (by decide : (27 : Int32).toInt = 27) rfl (by omega) (by omega)
            exact te_i hx hb hr hlocks hH hS (⟨rfl, by omega, by omega⟩) dJ6_numberOfLeadingZeros_0f7a4_78
          · skip
            have tc63 := f_nlt (k := 4) (by decide) c63
            exfalso; omega
      · skip
        have tc37 := f_nlt (k := 256) (by decide) c37
        exfalso; omega
    · skip
      have tc22 := f_nlt (k := 65536) (by decide) c22
      exfalso; omega
  · skip
    have tc1 := f_ngt (k := 0) (by decide) c1
    exfalso; omega
set_option maxHeartbeats 4000000 in
set_option maxRecDepth 100000 in
theorem s_nlz_5 (l : Launch) (D : va_G) (cs : CS) (kf : KF) (T : TF) (O : List Nat) (X : va_W) (x0 : Int32) (l_x0 : 32 ≤ x0.toInt) (u_x0 : x0.toInt ≤ 63) (hO : okO T O []) : TK l D cs kf yJ6_numberOfLeadingZeros_0f7a4 cJ6_numberOfLeadingZeros_0f7a4 2 (some (.int)) { frames := 0, cells := 0, slots := 0, locals := 0 } [.int x0] T O X (Ti D cs (fun r u => u = (T, O, X) ∧ 26 ≤ r.toInt ∧ r.toInt ≤ 26)) := by
  refine tk_of (by decide) (Nat.le_of_ble_eq_true rfl) (fun p e s m below meth c ls A H locs hx hb hr hml hown hts hlocks hnm hkb hH hS hA hOX hks hE hl => ?_)
  have hown : s.vm.findClass RJ6 = some m.cls := hown
  have hl : lv_has ls 2 [(0, .int x0)] := hl
  refine lv_iload_n hx hb dJ6_numberOfLeadingZeros_0f7a4_0 rfl (lv_at hl 0 rfl) ?_
  refine lv_if_gt (tgt := 15) hx hb dJ6_numberOfLeadingZeros_0f7a4_1 (by decide) (fun c1 => ?_) (fun c1 => ?_)
  · skip
    have tc1 := f_gt (k := 0) (by decide) c1
    refine lv_bipush (v := 31) hx hb dJ6_numberOfLeadingZeros_0f7a4_15 (by decide) ?_
    refine lv_istore_n (lv' := [(1, .int 31), (0, .int x0)]) hx hb dJ6_numberOfLeadingZeros_0f7a4_17 rfl hl (by decide) rfl (fun ls hl => ?_)
    refine lv_iload_n hx hb dJ6_numberOfLeadingZeros_0f7a4_18 rfl (lv_at hl 1 rfl) ?_
    refine lv_ldcw hx hb hown (hts _ kw_861) dJ6_numberOfLeadingZeros_0f7a4_19 ?_
    refine lv_icmp_lt (tgt := 33) hx hb dJ6_numberOfLeadingZeros_0f7a4_22 (by decide) (fun c22 => ?_) (fun c22 => ?_)
    · skip
      have tc22 := f_lt (k := 65536) (by decide) c22
      refine lv_iload_n hx hb dJ6_numberOfLeadingZeros_0f7a4_33 rfl (lv_at hl 1 rfl) ?_
      refine lv_sipush (v := 256) hx hb dJ6_numberOfLeadingZeros_0f7a4_34 (by decide) ?_
      refine lv_icmp_lt (tgt := 48) hx hb dJ6_numberOfLeadingZeros_0f7a4_37 (by decide) (fun c37 => ?_) (fun c37 => ?_)
      · skip
        have tc37 := f_lt (k := 256) (by decide) c37
        refine lv_iload_n hx hb dJ6_numberOfLeadingZeros_0f7a4_48 rfl (lv_at hl 1 rfl) ?_
        refine lv_bipush (v := 16) hx hb dJ6_numberOfLeadingZeros_0f7a4_49 (by decide) ?_
        refine lv_icmp_lt (tgt := 61) hx hb dJ6_numberOfLeadingZeros_0f7a4_51 (by decide) (fun c51 => ?_) (fun c51 => ?_)
        · skip
          have tc51 := f_lt (k := 16) (by decide) c51
          exfalso; omega
        · skip
          have tc51 := f_nlt (k := 16) (by decide) c51
          refine lv_iinc (v := 27) (lv' := [(1, .int 27), (0, .int x0)]) hx hb dJ6_numberOfLeadingZeros_0f7a4_54 hl (k := 0) rfl (by decide) (by decide) rfl (fun ls hl => ?_)
          refine lv_iload_n hx hb dJ6_numberOfLeadingZeros_0f7a4_57 rfl (lv_at hl 1 rfl) ?_
          refine lv_iconst (v := 4) hx hb dJ6_numberOfLeadingZeros_0f7a4_58 (by decide) ?_
          refine lv_iushr hx hb dJ6_numberOfLeadingZeros_0f7a4_59 rfl ?_
          refine lv_topi (fun v59 ev59 => ?_)
          have tv59 : v59.toInt = x0.toInt / 16 := by rw [ev59]; exact ushr_n 4 (by decide +kernel) (by decide) (by omega)
          refine lv_istore_n (lv' := [(0, .int v59), (1, .int 27)]) hx hb dJ6_numberOfLeadingZeros_0f7a4_60 rfl hl (by decide) rfl (fun ls hl => ?_)
          refine lv_iload_n hx hb dJ6_numberOfLeadingZeros_0f7a4_61 rfl (lv_at hl 0 rfl) ?_
          refine lv_iconst (v := 4) hx hb dJ6_numberOfLeadingZeros_0f7a4_62 (by decide) ?_
          refine lv_icmp_lt (tgt := 73) hx hb dJ6_numberOfLeadingZeros_0f7a4_63 (by decide) (fun c63 => ?_) (fun c63 => ?_)
          · skip
            have tc63 := f_lt (k := 4) (by decide) c63
            refine lv_iload_n hx hb dJ6_numberOfLeadingZeros_0f7a4_73 rfl (lv_at hl 1 rfl) ?_
            refine lv_iload_n hx hb dJ6_numberOfLeadingZeros_0f7a4_74 rfl (lv_at hl 0 rfl) ?_
            refine lv_iconst (v := 1) hx hb dJ6_numberOfLeadingZeros_0f7a4_75 (by decide) ?_
            refine lv_iushr hx hb dJ6_numberOfLeadingZeros_0f7a4_76 rfl ?_
            refine lv_topi (fun v76 ev76 => ?_)
            have tv76 : v76.toInt = v59.toInt / 2 := by rw [ev76]; exact ushr_n 1 (by decide +kernel) (by decide) (by omega)
            refine lv_isub hx hb dJ6_numberOfLeadingZeros_0f7a4_77 ?_
            refine lv_topi (fun v77 ev77 => ?_)
            have tv77 : v77.toInt = (27) - v76.toInt := by rw [ev77]; exact sub_i (by decide : (27 : Int32).toInt = 27) rfl (by omega) (by omega)
            exact te_i hx hb hr hlocks hH hS (⟨rfl, by omega, by omega⟩) dJ6_numberOfLeadingZeros_0f7a4_78
          · skip
            have tc63 := f_nlt (k := 4) (by decide) c63
            exfalso; omega
      · skip
        have tc37 := f_nlt (k := 256) (by decide) c37
        exfalso; omega
    · skip
      have tc22 := f_nlt (k := 65536) (by decide) c22
      exfalso; omega
  · skip
    have tc1 := f_ngt (k := 0) (by decide) c1
    exfalso; omega
set_option maxHeartbeats 4000000 in
set_option maxRecDepth 100000 in
theorem s_nlz_6 (l : Launch) (D : va_G) (cs : CS) (kf : KF) (T : TF) (O : List Nat) (X : va_W) (x0 : Int32) (l_x0 : 64 ≤ x0.toInt) (u_x0 : x0.toInt ≤ 127) (hO : okO T O []) : TK l D cs kf yJ6_numberOfLeadingZeros_0f7a4 cJ6_numberOfLeadingZeros_0f7a4 2 (some (.int)) { frames := 0, cells := 0, slots := 0, locals := 0 } [.int x0] T O X (Ti D cs (fun r u => u = (T, O, X) ∧ 25 ≤ r.toInt ∧ r.toInt ≤ 25)) := by
  refine tk_of (by decide) (Nat.le_of_ble_eq_true rfl) (fun p e s m below meth c ls A H locs hx hb hr hml hown hts hlocks hnm hkb hH hS hA hOX hks hE hl => ?_)
  have hown : s.vm.findClass RJ6 = some m.cls := hown
  have hl : lv_has ls 2 [(0, .int x0)] := hl
  refine lv_iload_n hx hb dJ6_numberOfLeadingZeros_0f7a4_0 rfl (lv_at hl 0 rfl) ?_
  refine lv_if_gt (tgt := 15) hx hb dJ6_numberOfLeadingZeros_0f7a4_1 (by decide) (fun c1 => ?_) (fun c1 => ?_)
  · skip
    have tc1 := f_gt (k := 0) (by decide) c1
    refine lv_bipush (v := 31) hx hb dJ6_numberOfLeadingZeros_0f7a4_15 (by decide) ?_
    refine lv_istore_n (lv' := [(1, .int 31), (0, .int x0)]) hx hb dJ6_numberOfLeadingZeros_0f7a4_17 rfl hl (by decide) rfl (fun ls hl => ?_)
    refine lv_iload_n hx hb dJ6_numberOfLeadingZeros_0f7a4_18 rfl (lv_at hl 1 rfl) ?_
    refine lv_ldcw hx hb hown (hts _ kw_861) dJ6_numberOfLeadingZeros_0f7a4_19 ?_
    refine lv_icmp_lt (tgt := 33) hx hb dJ6_numberOfLeadingZeros_0f7a4_22 (by decide) (fun c22 => ?_) (fun c22 => ?_)
    · skip
      have tc22 := f_lt (k := 65536) (by decide) c22
      refine lv_iload_n hx hb dJ6_numberOfLeadingZeros_0f7a4_33 rfl (lv_at hl 1 rfl) ?_
      refine lv_sipush (v := 256) hx hb dJ6_numberOfLeadingZeros_0f7a4_34 (by decide) ?_
      refine lv_icmp_lt (tgt := 48) hx hb dJ6_numberOfLeadingZeros_0f7a4_37 (by decide) (fun c37 => ?_) (fun c37 => ?_)
      · skip
        have tc37 := f_lt (k := 256) (by decide) c37
        refine lv_iload_n hx hb dJ6_numberOfLeadingZeros_0f7a4_48 rfl (lv_at hl 1 rfl) ?_
        refine lv_bipush (v := 16) hx hb dJ6_numberOfLeadingZeros_0f7a4_49 (by decide) ?_
        refine lv_icmp_lt (tgt := 61) hx hb dJ6_numberOfLeadingZeros_0f7a4_51 (by decide) (fun c51 => ?_) (fun c51 => ?_)
        · skip
          have tc51 := f_lt (k := 16) (by decide) c51
          exfalso; omega
        · skip
          have tc51 := f_nlt (k := 16) (by decide) c51
          refine lv_iinc (v := 27) (lv' := [(1, .int 27), (0, .int x0)]) hx hb dJ6_numberOfLeadingZeros_0f7a4_54 hl (k := 0) rfl (by decide) (by decide) rfl (fun ls hl => ?_)
          refine lv_iload_n hx hb dJ6_numberOfLeadingZeros_0f7a4_57 rfl (lv_at hl 1 rfl) ?_
          refine lv_iconst (v := 4) hx hb dJ6_numberOfLeadingZeros_0f7a4_58 (by decide) ?_
          refine lv_iushr hx hb dJ6_numberOfLeadingZeros_0f7a4_59 rfl ?_
          refine lv_topi (fun v59 ev59 => ?_)
          have tv59 : v59.toInt = x0.toInt / 16 := by rw [ev59]; exact ushr_n 4 (by decide +kernel) (by decide) (by omega)
          refine lv_istore_n (lv' := [(0, .int v59), (1, .int 27)]) hx hb dJ6_numberOfLeadingZeros_0f7a4_60 rfl hl (by decide) rfl (fun ls hl => ?_)
          refine lv_iload_n hx hb dJ6_numberOfLeadingZeros_0f7a4_61 rfl (lv_at hl 0 rfl) ?_
          refine lv_iconst (v := 4) hx hb dJ6_numberOfLeadingZeros_0f7a4_62 (by decide) ?_
          refine lv_icmp_lt (tgt := 73) hx hb dJ6_numberOfLeadingZeros_0f7a4_63 (by decide) (fun c63 => ?_) (fun c63 => ?_)
          · skip
            have tc63 := f_lt (k := 4) (by decide) c63
            exfalso; omega
          · skip
            have tc63 := f_nlt (k := 4) (by decide) c63
            refine lv_iinc (v := 25) (lv' := [(1, .int 25), (0, .int v59)]) hx hb dJ6_numberOfLeadingZeros_0f7a4_66 hl (k := 1) rfl (by decide) (by decide) rfl (fun ls hl => ?_)
            refine lv_iload_n hx hb dJ6_numberOfLeadingZeros_0f7a4_69 rfl (lv_at hl 1 rfl) ?_
            refine lv_iconst (v := 2) hx hb dJ6_numberOfLeadingZeros_0f7a4_70 (by decide) ?_
            refine lv_iushr hx hb dJ6_numberOfLeadingZeros_0f7a4_71 rfl ?_
            refine lv_topi (fun v71 ev71 => ?_)
            have tv71 : v71.toInt = v59.toInt / 4 := by rw [ev71]; exact ushr_n 2 (by decide +kernel) (by decide) (by omega)
            refine lv_istore_n (lv' := [(0, .int v71), (1, .int 25)]) hx hb dJ6_numberOfLeadingZeros_0f7a4_72 rfl hl (by decide) rfl (fun ls hl => ?_)
            refine lv_iload_n hx hb dJ6_numberOfLeadingZeros_0f7a4_73 rfl (lv_at hl 1 rfl) ?_
            refine lv_iload_n hx hb dJ6_numberOfLeadingZeros_0f7a4_74 rfl (lv_at hl 0 rfl) ?_
            refine lv_iconst (v := 1) hx hb dJ6_numberOfLeadingZeros_0f7a4_75 (by decide) ?_
            refine lv_iushr hx hb dJ6_numberOfLeadingZeros_0f7a4_76 rfl ?_
            refine lv_topi (fun v76 ev76 => ?_)
            have tv76 : v76.toInt = v71.toInt / 2 := by rw [ev76]; exact ushr_n 1 (by decide +kernel) (by decide) (by omega)
            refine lv_isub hx hb dJ6_numberOfLeadingZeros_0f7a4_77 ?_
            refine lv_topi (fun v77 ev77 => ?_)
            have tv77 : v77.toInt = (25) - v76.toInt := by rw [ev77]; exact sub_i (by decide : (25 : Int32).toInt = 25) rfl (by omega) (by omega)
            exact te_i hx hb hr hlocks hH hS (⟨rfl, by omega, by omega⟩) dJ6_numberOfLeadingZeros_0f7a4_78
      · skip
        have tc37 := f_nlt (k := 256) (by decide) c37
        exfalso; omega
    · skip
      have tc22 := f_nlt (k := 65536) (by decide) c22
      exfalso; omega
  · skip
    have tc1 := f_ngt (k := 0) (by decide) c1
    exfalso; omega
set_option maxHeartbeats 4000000 in
set_option maxRecDepth 100000 in
theorem s_nlz_7 (l : Launch) (D : va_G) (cs : CS) (kf : KF) (T : TF) (O : List Nat) (X : va_W) (x0 : Int32) (l_x0 : 128 ≤ x0.toInt) (u_x0 : x0.toInt ≤ 255) (hO : okO T O []) : TK l D cs kf yJ6_numberOfLeadingZeros_0f7a4 cJ6_numberOfLeadingZeros_0f7a4 2 (some (.int)) { frames := 0, cells := 0, slots := 0, locals := 0 } [.int x0] T O X (Ti D cs (fun r u => u = (T, O, X) ∧ 24 ≤ r.toInt ∧ r.toInt ≤ 24)) := by
  refine tk_of (by decide) (Nat.le_of_ble_eq_true rfl) (fun p e s m below meth c ls A H locs hx hb hr hml hown hts hlocks hnm hkb hH hS hA hOX hks hE hl => ?_)
  have hown : s.vm.findClass RJ6 = some m.cls := hown
  have hl : lv_has ls 2 [(0, .int x0)] := hl
  refine lv_iload_n hx hb dJ6_numberOfLeadingZeros_0f7a4_0 rfl (lv_at hl 0 rfl) ?_
  refine lv_if_gt (tgt := 15) hx hb dJ6_numberOfLeadingZeros_0f7a4_1 (by decide) (fun c1 => ?_) (fun c1 => ?_)
  · skip
    have tc1 := f_gt (k := 0) (by decide) c1
    refine lv_bipush (v := 31) hx hb dJ6_numberOfLeadingZeros_0f7a4_15 (by decide) ?_
    refine lv_istore_n (lv' := [(1, .int 31), (0, .int x0)]) hx hb dJ6_numberOfLeadingZeros_0f7a4_17 rfl hl (by decide) rfl (fun ls hl => ?_)
    refine lv_iload_n hx hb dJ6_numberOfLeadingZeros_0f7a4_18 rfl (lv_at hl 1 rfl) ?_
    refine lv_ldcw hx hb hown (hts _ kw_861) dJ6_numberOfLeadingZeros_0f7a4_19 ?_
    refine lv_icmp_lt (tgt := 33) hx hb dJ6_numberOfLeadingZeros_0f7a4_22 (by decide) (fun c22 => ?_) (fun c22 => ?_)
    · skip
      have tc22 := f_lt (k := 65536) (by decide) c22
      refine lv_iload_n hx hb dJ6_numberOfLeadingZeros_0f7a4_33 rfl (lv_at hl 1 rfl) ?_
      refine lv_sipush (v := 256) hx hb dJ6_numberOfLeadingZeros_0f7a4_34 (by decide) ?_
      refine lv_icmp_lt (tgt := 48) hx hb dJ6_numberOfLeadingZeros_0f7a4_37 (by decide) (fun c37 => ?_) (fun c37 => ?_)
      · skip
        have tc37 := f_lt (k := 256) (by decide) c37
        refine lv_iload_n hx hb dJ6_numberOfLeadingZeros_0f7a4_48 rfl (lv_at hl 1 rfl) ?_
        refine lv_bipush (v := 16) hx hb dJ6_numberOfLeadingZeros_0f7a4_49 (by decide) ?_
        refine lv_icmp_lt (tgt := 61) hx hb dJ6_numberOfLeadingZeros_0f7a4_51 (by decide) (fun c51 => ?_) (fun c51 => ?_)
        · skip
          have tc51 := f_lt (k := 16) (by decide) c51
          exfalso; omega
        · skip
          have tc51 := f_nlt (k := 16) (by decide) c51
          refine lv_iinc (v := 27) (lv' := [(1, .int 27), (0, .int x0)]) hx hb dJ6_numberOfLeadingZeros_0f7a4_54 hl (k := 0) rfl (by decide) (by decide) rfl (fun ls hl => ?_)
          refine lv_iload_n hx hb dJ6_numberOfLeadingZeros_0f7a4_57 rfl (lv_at hl 1 rfl) ?_
          refine lv_iconst (v := 4) hx hb dJ6_numberOfLeadingZeros_0f7a4_58 (by decide) ?_
          refine lv_iushr hx hb dJ6_numberOfLeadingZeros_0f7a4_59 rfl ?_
          refine lv_topi (fun v59 ev59 => ?_)
          have tv59 : v59.toInt = x0.toInt / 16 := by rw [ev59]; exact ushr_n 4 (by decide +kernel) (by decide) (by omega)
          refine lv_istore_n (lv' := [(0, .int v59), (1, .int 27)]) hx hb dJ6_numberOfLeadingZeros_0f7a4_60 rfl hl (by decide) rfl (fun ls hl => ?_)
          refine lv_iload_n hx hb dJ6_numberOfLeadingZeros_0f7a4_61 rfl (lv_at hl 0 rfl) ?_
          refine lv_iconst (v := 4) hx hb dJ6_numberOfLeadingZeros_0f7a4_62 (by decide) ?_
          refine lv_icmp_lt (tgt := 73) hx hb dJ6_numberOfLeadingZeros_0f7a4_63 (by decide) (fun c63 => ?_) (fun c63 => ?_)
          · skip
            have tc63 := f_lt (k := 4) (by decide) c63
            exfalso; omega
          · skip
            have tc63 := f_nlt (k := 4) (by decide) c63
            refine lv_iinc (v := 25) (lv' := [(1, .int 25), (0, .int v59)]) hx hb dJ6_numberOfLeadingZeros_0f7a4_66 hl (k := 1) rfl (by decide) (by decide) rfl (fun ls hl => ?_)
            refine lv_iload_n hx hb dJ6_numberOfLeadingZeros_0f7a4_69 rfl (lv_at hl 1 rfl) ?_
            refine lv_iconst (v := 2) hx hb dJ6_numberOfLeadingZeros_0f7a4_70 (by decide) ?_
            refine lv_iushr hx hb dJ6_numberOfLeadingZeros_0f7a4_71 rfl ?_
            refine lv_topi (fun v71 ev71 => ?_)
            have tv71 : v71.toInt = v59.toInt / 4 := by rw [ev71]; exact ushr_n 2 (by decide +kernel) (by decide) (by omega)
            refine lv_istore_n (lv' := [(0, .int v71), (1, .int 25)]) hx hb dJ6_numberOfLeadingZeros_0f7a4_72 rfl hl (by decide) rfl (fun ls hl => ?_)
            refine lv_iload_n hx hb dJ6_numberOfLeadingZeros_0f7a4_73 rfl (lv_at hl 1 rfl) ?_
            refine lv_iload_n hx hb dJ6_numberOfLeadingZeros_0f7a4_74 rfl (lv_at hl 0 rfl) ?_
            refine lv_iconst (v := 1) hx hb dJ6_numberOfLeadingZeros_0f7a4_75 (by decide) ?_
            refine lv_iushr hx hb dJ6_numberOfLeadingZeros_0f7a4_76 rfl ?_
            refine lv_topi (fun v76 ev76 => ?_)
            have tv76 : v76.toInt = v71.toInt / 2 := by rw [ev76]; exact ushr_n 1 (by decide +kernel) (by decide) (by omega)
            refine lv_isub hx hb dJ6_numberOfLeadingZeros_0f7a4_77 ?_
            refine lv_topi (fun v77 ev77 => ?_)
            have tv77 : v77.toInt = (25) - v76.toInt := by rw [ev77]; exact sub_i (by decide : (25 : Int32).toInt = 25) rfl (by omega) (by omega)
            exact te_i hx hb hr hlocks hH hS (⟨rfl, by omega, by omega⟩) dJ6_numberOfLeadingZeros_0f7a4_78
      · skip
        have tc37 := f_nlt (k := 256) (by decide) c37
        exfalso; omega
    · skip
      have tc22 := f_nlt (k := 65536) (by decide) c22
      exfalso; omega
  · skip
    have tc1 := f_ngt (k := 0) (by decide) c1
    exfalso; omega
set_option maxHeartbeats 4000000 in
set_option maxRecDepth 100000 in
theorem s_nlz_8 (l : Launch) (D : va_G) (cs : CS) (kf : KF) (T : TF) (O : List Nat) (X : va_W) (x0 : Int32) (l_x0 : 256 ≤ x0.toInt) (u_x0 : x0.toInt ≤ 511) (hO : okO T O []) : TK l D cs kf yJ6_numberOfLeadingZeros_0f7a4 cJ6_numberOfLeadingZeros_0f7a4 2 (some (.int)) { frames := 0, cells := 0, slots := 0, locals := 0 } [.int x0] T O X (Ti D cs (fun r u => u = (T, O, X) ∧ 23 ≤ r.toInt ∧ r.toInt ≤ 23)) := by
  refine tk_of (by decide) (Nat.le_of_ble_eq_true rfl) (fun p e s m below meth c ls A H locs hx hb hr hml hown hts hlocks hnm hkb hH hS hA hOX hks hE hl => ?_)
  have hown : s.vm.findClass RJ6 = some m.cls := hown
  have hl : lv_has ls 2 [(0, .int x0)] := hl
  refine lv_iload_n hx hb dJ6_numberOfLeadingZeros_0f7a4_0 rfl (lv_at hl 0 rfl) ?_
  refine lv_if_gt (tgt := 15) hx hb dJ6_numberOfLeadingZeros_0f7a4_1 (by decide) (fun c1 => ?_) (fun c1 => ?_)
  · skip
    have tc1 := f_gt (k := 0) (by decide) c1
    refine lv_bipush (v := 31) hx hb dJ6_numberOfLeadingZeros_0f7a4_15 (by decide) ?_
    refine lv_istore_n (lv' := [(1, .int 31), (0, .int x0)]) hx hb dJ6_numberOfLeadingZeros_0f7a4_17 rfl hl (by decide) rfl (fun ls hl => ?_)
    refine lv_iload_n hx hb dJ6_numberOfLeadingZeros_0f7a4_18 rfl (lv_at hl 1 rfl) ?_
    refine lv_ldcw hx hb hown (hts _ kw_861) dJ6_numberOfLeadingZeros_0f7a4_19 ?_
    refine lv_icmp_lt (tgt := 33) hx hb dJ6_numberOfLeadingZeros_0f7a4_22 (by decide) (fun c22 => ?_) (fun c22 => ?_)
    · skip
      have tc22 := f_lt (k := 65536) (by decide) c22
      refine lv_iload_n hx hb dJ6_numberOfLeadingZeros_0f7a4_33 rfl (lv_at hl 1 rfl) ?_
      refine lv_sipush (v := 256) hx hb dJ6_numberOfLeadingZeros_0f7a4_34 (by decide) ?_
      refine lv_icmp_lt (tgt := 48) hx hb dJ6_numberOfLeadingZeros_0f7a4_37 (by decide) (fun c37 => ?_) (fun c37 => ?_)
      · skip
        have tc37 := f_lt (k := 256) (by decide) c37
        exfalso; omega
      · skip
        have tc37 := f_nlt (k := 256) (by decide) c37
        refine lv_iinc (v := 23) (lv' := [(1, .int 23), (0, .int x0)]) hx hb dJ6_numberOfLeadingZeros_0f7a4_40 hl (k := 0) rfl (by decide) (by decide) rfl (fun ls hl => ?_)
        refine lv_iload_n hx hb dJ6_numberOfLeadingZeros_0f7a4_43 rfl (lv_at hl 1 rfl) ?_
        refine lv_bipush (v := 8) hx hb dJ6_numberOfLeadingZeros_0f7a4_44 (by decide) ?_
        refine lv_iushr hx hb dJ6_numberOfLeadingZeros_0f7a4_46 rfl ?_
        refine lv_topi (fun v46 ev46 => ?_)
        have tv46 : v46.toInt = x0.toInt / 256 := by rw [ev46]; exact ushr_n 8 (by decide +kernel) (by decide) (by omega)
        refine lv_istore_n (lv' := [(0, .int v46), (1, .int 23)]) hx hb dJ6_numberOfLeadingZeros_0f7a4_47 rfl hl (by decide) rfl (fun ls hl => ?_)
        refine lv_iload_n hx hb dJ6_numberOfLeadingZeros_0f7a4_48 rfl (lv_at hl 0 rfl) ?_
        refine lv_bipush (v := 16) hx hb dJ6_numberOfLeadingZeros_0f7a4_49 (by decide) ?_
        refine lv_icmp_lt (tgt := 61) hx hb dJ6_numberOfLeadingZeros_0f7a4_51 (by decide) (fun c51 => ?_) (fun c51 => ?_)
        · skip
          have tc51 := f_lt (k := 16) (by decide) c51
          refine lv_iload_n hx hb dJ6_numberOfLeadingZeros_0f7a4_61 rfl (lv_at hl 0 rfl) ?_
          refine lv_iconst (v := 4) hx hb dJ6_numberOfLeadingZeros_0f7a4_62 (by decide) ?_
          refine lv_icmp_lt (tgt := 73) hx hb dJ6_numberOfLeadingZeros_0f7a4_63 (by decide) (fun c63 => ?_) (fun c63 => ?_)
          · skip
            have tc63 := f_lt (k := 4) (by decide) c63
            refine lv_iload_n hx hb dJ6_numberOfLeadingZeros_0f7a4_73 rfl (lv_at hl 1 rfl) ?_
            refine lv_iload_n hx hb dJ6_numberOfLeadingZeros_0f7a4_74 rfl (lv_at hl 0 rfl) ?_
            refine lv_iconst (v := 1) hx hb dJ6_numberOfLeadingZeros_0f7a4_75 (by decide) ?_
            refine lv_iushr hx hb dJ6_numberOfLeadingZeros_0f7a4_76 rfl ?_
            refine lv_topi (fun v76 ev76 => ?_)
            have tv76 : v76.toInt = v46.toInt / 2 := by rw [ev76]; exact ushr_n 1 (by decide +kernel) (by decide) (by omega)
            refine lv_isub hx hb dJ6_numberOfLeadingZeros_0f7a4_77 ?_
            refine lv_topi (fun v77 ev77 => ?_)
            have tv77 : v77.toInt = (23) - v76.toInt := by rw [ev77]; exact sub_i (by decide : (23 : Int32).toInt = 23) rfl (by omega) (by omega)
            exact te_i hx hb hr hlocks hH hS (⟨rfl, by omega, by omega⟩) dJ6_numberOfLeadingZeros_0f7a4_78
          · skip
            have tc63 := f_nlt (k := 4) (by decide) c63
            exfalso; omega
        · skip
          have tc51 := f_nlt (k := 16) (by decide) c51
          exfalso; omega
    · skip
      have tc22 := f_nlt (k := 65536) (by decide) c22
      exfalso; omega
  · skip
    have tc1 := f_ngt (k := 0) (by decide) c1
    exfalso; omega
set_option maxHeartbeats 4000000 in
set_option maxRecDepth 100000 in
theorem s_nlz_9 (l : Launch) (D : va_G) (cs : CS) (kf : KF) (T : TF) (O : List Nat) (X : va_W) (x0 : Int32) (l_x0 : 512 ≤ x0.toInt) (u_x0 : x0.toInt ≤ 1023) (hO : okO T O []) : TK l D cs kf yJ6_numberOfLeadingZeros_0f7a4 cJ6_numberOfLeadingZeros_0f7a4 2 (some (.int)) { frames := 0, cells := 0, slots := 0, locals := 0 } [.int x0] T O X (Ti D cs (fun r u => u = (T, O, X) ∧ 22 ≤ r.toInt ∧ r.toInt ≤ 22)) := by
  refine tk_of (by decide) (Nat.le_of_ble_eq_true rfl) (fun p e s m below meth c ls A H locs hx hb hr hml hown hts hlocks hnm hkb hH hS hA hOX hks hE hl => ?_)
  have hown : s.vm.findClass RJ6 = some m.cls := hown
  have hl : lv_has ls 2 [(0, .int x0)] := hl
  refine lv_iload_n hx hb dJ6_numberOfLeadingZeros_0f7a4_0 rfl (lv_at hl 0 rfl) ?_
  refine lv_if_gt (tgt := 15) hx hb dJ6_numberOfLeadingZeros_0f7a4_1 (by decide) (fun c1 => ?_) (fun c1 => ?_)
  · skip
    have tc1 := f_gt (k := 0) (by decide) c1
    refine lv_bipush (v := 31) hx hb dJ6_numberOfLeadingZeros_0f7a4_15 (by decide) ?_
    refine lv_istore_n (lv' := [(1, .int 31), (0, .int x0)]) hx hb dJ6_numberOfLeadingZeros_0f7a4_17 rfl hl (by decide) rfl (fun ls hl => ?_)
    refine lv_iload_n hx hb dJ6_numberOfLeadingZeros_0f7a4_18 rfl (lv_at hl 1 rfl) ?_
    refine lv_ldcw hx hb hown (hts _ kw_861) dJ6_numberOfLeadingZeros_0f7a4_19 ?_
    refine lv_icmp_lt (tgt := 33) hx hb dJ6_numberOfLeadingZeros_0f7a4_22 (by decide) (fun c22 => ?_) (fun c22 => ?_)
    · skip
      have tc22 := f_lt (k := 65536) (by decide) c22
      refine lv_iload_n hx hb dJ6_numberOfLeadingZeros_0f7a4_33 rfl (lv_at hl 1 rfl) ?_
      refine lv_sipush (v := 256) hx hb dJ6_numberOfLeadingZeros_0f7a4_34 (by decide) ?_
      refine lv_icmp_lt (tgt := 48) hx hb dJ6_numberOfLeadingZeros_0f7a4_37 (by decide) (fun c37 => ?_) (fun c37 => ?_)
      · skip
        have tc37 := f_lt (k := 256) (by decide) c37
        exfalso; omega
      · skip
        have tc37 := f_nlt (k := 256) (by decide) c37
        refine lv_iinc (v := 23) (lv' := [(1, .int 23), (0, .int x0)]) hx hb dJ6_numberOfLeadingZeros_0f7a4_40 hl (k := 0) rfl (by decide) (by decide) rfl (fun ls hl => ?_)
        refine lv_iload_n hx hb dJ6_numberOfLeadingZeros_0f7a4_43 rfl (lv_at hl 1 rfl) ?_
        refine lv_bipush (v := 8) hx hb dJ6_numberOfLeadingZeros_0f7a4_44 (by decide) ?_
        refine lv_iushr hx hb dJ6_numberOfLeadingZeros_0f7a4_46 rfl ?_
        refine lv_topi (fun v46 ev46 => ?_)
        have tv46 : v46.toInt = x0.toInt / 256 := by rw [ev46]; exact ushr_n 8 (by decide +kernel) (by decide) (by omega)
        refine lv_istore_n (lv' := [(0, .int v46), (1, .int 23)]) hx hb dJ6_numberOfLeadingZeros_0f7a4_47 rfl hl (by decide) rfl (fun ls hl => ?_)
        refine lv_iload_n hx hb dJ6_numberOfLeadingZeros_0f7a4_48 rfl (lv_at hl 0 rfl) ?_
        refine lv_bipush (v := 16) hx hb dJ6_numberOfLeadingZeros_0f7a4_49 (by decide) ?_
        refine lv_icmp_lt (tgt := 61) hx hb dJ6_numberOfLeadingZeros_0f7a4_51 (by decide) (fun c51 => ?_) (fun c51 => ?_)
        · skip
          have tc51 := f_lt (k := 16) (by decide) c51
          refine lv_iload_n hx hb dJ6_numberOfLeadingZeros_0f7a4_61 rfl (lv_at hl 0 rfl) ?_
          refine lv_iconst (v := 4) hx hb dJ6_numberOfLeadingZeros_0f7a4_62 (by decide) ?_
          refine lv_icmp_lt (tgt := 73) hx hb dJ6_numberOfLeadingZeros_0f7a4_63 (by decide) (fun c63 => ?_) (fun c63 => ?_)
          · skip
            have tc63 := f_lt (k := 4) (by decide) c63
            refine lv_iload_n hx hb dJ6_numberOfLeadingZeros_0f7a4_73 rfl (lv_at hl 1 rfl) ?_
            refine lv_iload_n hx hb dJ6_numberOfLeadingZeros_0f7a4_74 rfl (lv_at hl 0 rfl) ?_
            refine lv_iconst (v := 1) hx hb dJ6_numberOfLeadingZeros_0f7a4_75 (by decide) ?_
            refine lv_iushr hx hb dJ6_numberOfLeadingZeros_0f7a4_76 rfl ?_
            refine lv_topi (fun v76 ev76 => ?_)
            have tv76 : v76.toInt = v46.toInt / 2 := by rw [ev76]; exact ushr_n 1 (by decide +kernel) (by decide) (by omega)
            refine lv_isub hx hb dJ6_numberOfLeadingZeros_0f7a4_77 ?_
            refine lv_topi (fun v77 ev77 => ?_)
            have tv77 : v77.toInt = (23) - v76.toInt := by rw [ev77]; exact sub_i (by decide : (23 : Int32).toInt = 23) rfl (by omega) (by omega)
            exact te_i hx hb hr hlocks hH hS (⟨rfl, by omega, by omega⟩) dJ6_numberOfLeadingZeros_0f7a4_78
          · skip
            have tc63 := f_nlt (k := 4) (by decide) c63
            exfalso; omega
        · skip
          have tc51 := f_nlt (k := 16) (by decide) c51
          exfalso; omega
    · skip
      have tc22 := f_nlt (k := 65536) (by decide) c22
      exfalso; omega
  · skip
    have tc1 := f_ngt (k := 0) (by decide) c1
    exfalso; omega
set_option maxHeartbeats 4000000 in
set_option maxRecDepth 100000 in
theorem s_nlz_10 (l : Launch) (D : va_G) (cs : CS) (kf : KF) (T : TF) (O : List Nat) (X : va_W) (x0 : Int32) (l_x0 : 1024 ≤ x0.toInt) (u_x0 : x0.toInt ≤ 2047) (hO : okO T O []) : TK l D cs kf yJ6_numberOfLeadingZeros_0f7a4 cJ6_numberOfLeadingZeros_0f7a4 2 (some (.int)) { frames := 0, cells := 0, slots := 0, locals := 0 } [.int x0] T O X (Ti D cs (fun r u => u = (T, O, X) ∧ 21 ≤ r.toInt ∧ r.toInt ≤ 21)) := by
  refine tk_of (by decide) (Nat.le_of_ble_eq_true rfl) (fun p e s m below meth c ls A H locs hx hb hr hml hown hts hlocks hnm hkb hH hS hA hOX hks hE hl => ?_)
  have hown : s.vm.findClass RJ6 = some m.cls := hown
  have hl : lv_has ls 2 [(0, .int x0)] := hl
  refine lv_iload_n hx hb dJ6_numberOfLeadingZeros_0f7a4_0 rfl (lv_at hl 0 rfl) ?_
  refine lv_if_gt (tgt := 15) hx hb dJ6_numberOfLeadingZeros_0f7a4_1 (by decide) (fun c1 => ?_) (fun c1 => ?_)
  · skip
    have tc1 := f_gt (k := 0) (by decide) c1
    refine lv_bipush (v := 31) hx hb dJ6_numberOfLeadingZeros_0f7a4_15 (by decide) ?_
    refine lv_istore_n (lv' := [(1, .int 31), (0, .int x0)]) hx hb dJ6_numberOfLeadingZeros_0f7a4_17 rfl hl (by decide) rfl (fun ls hl => ?_)
    refine lv_iload_n hx hb dJ6_numberOfLeadingZeros_0f7a4_18 rfl (lv_at hl 1 rfl) ?_
    refine lv_ldcw hx hb hown (hts _ kw_861) dJ6_numberOfLeadingZeros_0f7a4_19 ?_
    refine lv_icmp_lt (tgt := 33) hx hb dJ6_numberOfLeadingZeros_0f7a4_22 (by decide) (fun c22 => ?_) (fun c22 => ?_)
    · skip
      have tc22 := f_lt (k := 65536) (by decide) c22
      refine lv_iload_n hx hb dJ6_numberOfLeadingZeros_0f7a4_33 rfl (lv_at hl 1 rfl) ?_
      refine lv_sipush (v := 256) hx hb dJ6_numberOfLeadingZeros_0f7a4_34 (by decide) ?_
      refine lv_icmp_lt (tgt := 48) hx hb dJ6_numberOfLeadingZeros_0f7a4_37 (by decide) (fun c37 => ?_) (fun c37 => ?_)
      · skip
        have tc37 := f_lt (k := 256) (by decide) c37
        exfalso; omega
      · skip
        have tc37 := f_nlt (k := 256) (by decide) c37
        refine lv_iinc (v := 23) (lv' := [(1, .int 23), (0, .int x0)]) hx hb dJ6_numberOfLeadingZeros_0f7a4_40 hl (k := 0) rfl (by decide) (by decide) rfl (fun ls hl => ?_)
        refine lv_iload_n hx hb dJ6_numberOfLeadingZeros_0f7a4_43 rfl (lv_at hl 1 rfl) ?_
        refine lv_bipush (v := 8) hx hb dJ6_numberOfLeadingZeros_0f7a4_44 (by decide) ?_
        refine lv_iushr hx hb dJ6_numberOfLeadingZeros_0f7a4_46 rfl ?_
        refine lv_topi (fun v46 ev46 => ?_)
        have tv46 : v46.toInt = x0.toInt / 256 := by rw [ev46]; exact ushr_n 8 (by decide +kernel) (by decide) (by omega)
        refine lv_istore_n (lv' := [(0, .int v46), (1, .int 23)]) hx hb dJ6_numberOfLeadingZeros_0f7a4_47 rfl hl (by decide) rfl (fun ls hl => ?_)
        refine lv_iload_n hx hb dJ6_numberOfLeadingZeros_0f7a4_48 rfl (lv_at hl 0 rfl) ?_
        refine lv_bipush (v := 16) hx hb dJ6_numberOfLeadingZeros_0f7a4_49 (by decide) ?_
        refine lv_icmp_lt (tgt := 61) hx hb dJ6_numberOfLeadingZeros_0f7a4_51 (by decide) (fun c51 => ?_) (fun c51 => ?_)
        · skip
          have tc51 := f_lt (k := 16) (by decide) c51
          refine lv_iload_n hx hb dJ6_numberOfLeadingZeros_0f7a4_61 rfl (lv_at hl 0 rfl) ?_
          refine lv_iconst (v := 4) hx hb dJ6_numberOfLeadingZeros_0f7a4_62 (by decide) ?_
          refine lv_icmp_lt (tgt := 73) hx hb dJ6_numberOfLeadingZeros_0f7a4_63 (by decide) (fun c63 => ?_) (fun c63 => ?_)
          · skip
            have tc63 := f_lt (k := 4) (by decide) c63
            exfalso; omega
          · skip
            have tc63 := f_nlt (k := 4) (by decide) c63
            refine lv_iinc (v := 21) (lv' := [(1, .int 21), (0, .int v46)]) hx hb dJ6_numberOfLeadingZeros_0f7a4_66 hl (k := 1) rfl (by decide) (by decide) rfl (fun ls hl => ?_)
            refine lv_iload_n hx hb dJ6_numberOfLeadingZeros_0f7a4_69 rfl (lv_at hl 1 rfl) ?_
            refine lv_iconst (v := 2) hx hb dJ6_numberOfLeadingZeros_0f7a4_70 (by decide) ?_
            refine lv_iushr hx hb dJ6_numberOfLeadingZeros_0f7a4_71 rfl ?_
            refine lv_topi (fun v71 ev71 => ?_)
            have tv71 : v71.toInt = v46.toInt / 4 := by rw [ev71]; exact ushr_n 2 (by decide +kernel) (by decide) (by omega)
            refine lv_istore_n (lv' := [(0, .int v71), (1, .int 21)]) hx hb dJ6_numberOfLeadingZeros_0f7a4_72 rfl hl (by decide) rfl (fun ls hl => ?_)
            refine lv_iload_n hx hb dJ6_numberOfLeadingZeros_0f7a4_73 rfl (lv_at hl 1 rfl) ?_
            refine lv_iload_n hx hb dJ6_numberOfLeadingZeros_0f7a4_74 rfl (lv_at hl 0 rfl) ?_
            refine lv_iconst (v := 1) hx hb dJ6_numberOfLeadingZeros_0f7a4_75 (by decide) ?_
            refine lv_iushr hx hb dJ6_numberOfLeadingZeros_0f7a4_76 rfl ?_
            refine lv_topi (fun v76 ev76 => ?_)
            have tv76 : v76.toInt = v71.toInt / 2 := by rw [ev76]; exact ushr_n 1 (by decide +kernel) (by decide) (by omega)
            refine lv_isub hx hb dJ6_numberOfLeadingZeros_0f7a4_77 ?_
            refine lv_topi (fun v77 ev77 => ?_)
            have tv77 : v77.toInt = (21) - v76.toInt := by rw [ev77]; exact sub_i (by decide : (21 : Int32).toInt = 21) rfl (by omega) (by omega)
            exact te_i hx hb hr hlocks hH hS (⟨rfl, by omega, by omega⟩) dJ6_numberOfLeadingZeros_0f7a4_78
        · skip
          have tc51 := f_nlt (k := 16) (by decide) c51
          exfalso; omega
    · skip
      have tc22 := f_nlt (k := 65536) (by decide) c22
      exfalso; omega
  · skip
    have tc1 := f_ngt (k := 0) (by decide) c1
    exfalso; omega
set_option maxHeartbeats 4000000 in
set_option maxRecDepth 100000 in
theorem s_nlz_11 (l : Launch) (D : va_G) (cs : CS) (kf : KF) (T : TF) (O : List Nat) (X : va_W) (x0 : Int32) (l_x0 : 2048 ≤ x0.toInt) (u_x0 : x0.toInt ≤ 4095) (hO : okO T O []) : TK l D cs kf yJ6_numberOfLeadingZeros_0f7a4 cJ6_numberOfLeadingZeros_0f7a4 2 (some (.int)) { frames := 0, cells := 0, slots := 0, locals := 0 } [.int x0] T O X (Ti D cs (fun r u => u = (T, O, X) ∧ 20 ≤ r.toInt ∧ r.toInt ≤ 20)) := by
  refine tk_of (by decide) (Nat.le_of_ble_eq_true rfl) (fun p e s m below meth c ls A H locs hx hb hr hml hown hts hlocks hnm hkb hH hS hA hOX hks hE hl => ?_)
  have hown : s.vm.findClass RJ6 = some m.cls := hown
  have hl : lv_has ls 2 [(0, .int x0)] := hl
  refine lv_iload_n hx hb dJ6_numberOfLeadingZeros_0f7a4_0 rfl (lv_at hl 0 rfl) ?_
  refine lv_if_gt (tgt := 15) hx hb dJ6_numberOfLeadingZeros_0f7a4_1 (by decide) (fun c1 => ?_) (fun c1 => ?_)
  · skip
    have tc1 := f_gt (k := 0) (by decide) c1
    refine lv_bipush (v := 31) hx hb dJ6_numberOfLeadingZeros_0f7a4_15 (by decide) ?_
    refine lv_istore_n (lv' := [(1, .int 31), (0, .int x0)]) hx hb dJ6_numberOfLeadingZeros_0f7a4_17 rfl hl (by decide) rfl (fun ls hl => ?_)
    refine lv_iload_n hx hb dJ6_numberOfLeadingZeros_0f7a4_18 rfl (lv_at hl 1 rfl) ?_
    refine lv_ldcw hx hb hown (hts _ kw_861) dJ6_numberOfLeadingZeros_0f7a4_19 ?_
    refine lv_icmp_lt (tgt := 33) hx hb dJ6_numberOfLeadingZeros_0f7a4_22 (by decide) (fun c22 => ?_) (fun c22 => ?_)
    · skip
      have tc22 := f_lt (k := 65536) (by decide) c22
      refine lv_iload_n hx hb dJ6_numberOfLeadingZeros_0f7a4_33 rfl (lv_at hl 1 rfl) ?_
      refine lv_sipush (v := 256) hx hb dJ6_numberOfLeadingZeros_0f7a4_34 (by decide) ?_
      refine lv_icmp_lt (tgt := 48) hx hb dJ6_numberOfLeadingZeros_0f7a4_37 (by decide) (fun c37 => ?_) (fun c37 => ?_)
      · skip
        have tc37 := f_lt (k := 256) (by decide) c37
        exfalso; omega
      · skip
        have tc37 := f_nlt (k := 256) (by decide) c37
        refine lv_iinc (v := 23) (lv' := [(1, .int 23), (0, .int x0)]) hx hb dJ6_numberOfLeadingZeros_0f7a4_40 hl (k := 0) rfl (by decide) (by decide) rfl (fun ls hl => ?_)
        refine lv_iload_n hx hb dJ6_numberOfLeadingZeros_0f7a4_43 rfl (lv_at hl 1 rfl) ?_
        refine lv_bipush (v := 8) hx hb dJ6_numberOfLeadingZeros_0f7a4_44 (by decide) ?_
        refine lv_iushr hx hb dJ6_numberOfLeadingZeros_0f7a4_46 rfl ?_
        refine lv_topi (fun v46 ev46 => ?_)
        have tv46 : v46.toInt = x0.toInt / 256 := by rw [ev46]; exact ushr_n 8 (by decide +kernel) (by decide) (by omega)
        refine lv_istore_n (lv' := [(0, .int v46), (1, .int 23)]) hx hb dJ6_numberOfLeadingZeros_0f7a4_47 rfl hl (by decide) rfl (fun ls hl => ?_)
        refine lv_iload_n hx hb dJ6_numberOfLeadingZeros_0f7a4_48 rfl (lv_at hl 0 rfl) ?_
        refine lv_bipush (v := 16) hx hb dJ6_numberOfLeadingZeros_0f7a4_49 (by decide) ?_
        refine lv_icmp_lt (tgt := 61) hx hb dJ6_numberOfLeadingZeros_0f7a4_51 (by decide) (fun c51 => ?_) (fun c51 => ?_)
        · skip
          have tc51 := f_lt (k := 16) (by decide) c51
          refine lv_iload_n hx hb dJ6_numberOfLeadingZeros_0f7a4_61 rfl (lv_at hl 0 rfl) ?_
          refine lv_iconst (v := 4) hx hb dJ6_numberOfLeadingZeros_0f7a4_62 (by decide) ?_
          refine lv_icmp_lt (tgt := 73) hx hb dJ6_numberOfLeadingZeros_0f7a4_63 (by decide) (fun c63 => ?_) (fun c63 => ?_)
          · skip
            have tc63 := f_lt (k := 4) (by decide) c63
            exfalso; omega
          · skip
            have tc63 := f_nlt (k := 4) (by decide) c63
            refine lv_iinc (v := 21) (lv' := [(1, .int 21), (0, .int v46)]) hx hb dJ6_numberOfLeadingZeros_0f7a4_66 hl (k := 1) rfl (by decide) (by decide) rfl (fun ls hl => ?_)
            refine lv_iload_n hx hb dJ6_numberOfLeadingZeros_0f7a4_69 rfl (lv_at hl 1 rfl) ?_
            refine lv_iconst (v := 2) hx hb dJ6_numberOfLeadingZeros_0f7a4_70 (by decide) ?_
            refine lv_iushr hx hb dJ6_numberOfLeadingZeros_0f7a4_71 rfl ?_
            refine lv_topi (fun v71 ev71 => ?_)
            have tv71 : v71.toInt = v46.toInt / 4 := by rw [ev71]; exact ushr_n 2 (by decide +kernel) (by decide) (by omega)
            refine lv_istore_n (lv' := [(0, .int v71), (1, .int 21)]) hx hb dJ6_numberOfLeadingZeros_0f7a4_72 rfl hl (by decide) rfl (fun ls hl => ?_)
            refine lv_iload_n hx hb dJ6_numberOfLeadingZeros_0f7a4_73 rfl (lv_at hl 1 rfl) ?_
            refine lv_iload_n hx hb dJ6_numberOfLeadingZeros_0f7a4_74 rfl (lv_at hl 0 rfl) ?_
            refine lv_iconst (v := 1) hx hb dJ6_numberOfLeadingZeros_0f7a4_75 (by decide) ?_
            refine lv_iushr hx hb dJ6_numberOfLeadingZeros_0f7a4_76 rfl ?_
            refine lv_topi (fun v76 ev76 => ?_)
            have tv76 : v76.toInt = v71.toInt / 2 := by rw [ev76]; exact ushr_n 1 (by decide +kernel) (by decide) (by omega)
            refine lv_isub hx hb dJ6_numberOfLeadingZeros_0f7a4_77 ?_
            refine lv_topi (fun v77 ev77 => ?_)
            have tv77 : v77.toInt = (21) - v76.toInt := by rw [ev77]; exact sub_i (by decide : (21 : Int32).toInt = 21) rfl (by omega) (by omega)
            exact te_i hx hb hr hlocks hH hS (⟨rfl, by omega, by omega⟩) dJ6_numberOfLeadingZeros_0f7a4_78
        · skip
          have tc51 := f_nlt (k := 16) (by decide) c51
          exfalso; omega
    · skip
      have tc22 := f_nlt (k := 65536) (by decide) c22
      exfalso; omega
  · skip
    have tc1 := f_ngt (k := 0) (by decide) c1
    exfalso; omega
set_option maxHeartbeats 4000000 in
set_option maxRecDepth 100000 in
theorem s_nlz_12 (l : Launch) (D : va_G) (cs : CS) (kf : KF) (T : TF) (O : List Nat) (X : va_W) (x0 : Int32) (l_x0 : 4096 ≤ x0.toInt) (u_x0 : x0.toInt ≤ 8191) (hO : okO T O []) : TK l D cs kf yJ6_numberOfLeadingZeros_0f7a4 cJ6_numberOfLeadingZeros_0f7a4 2 (some (.int)) { frames := 0, cells := 0, slots := 0, locals := 0 } [.int x0] T O X (Ti D cs (fun r u => u = (T, O, X) ∧ 19 ≤ r.toInt ∧ r.toInt ≤ 19)) := by
  refine tk_of (by decide) (Nat.le_of_ble_eq_true rfl) (fun p e s m below meth c ls A H locs hx hb hr hml hown hts hlocks hnm hkb hH hS hA hOX hks hE hl => ?_)
  have hown : s.vm.findClass RJ6 = some m.cls := hown
  have hl : lv_has ls 2 [(0, .int x0)] := hl
  refine lv_iload_n hx hb dJ6_numberOfLeadingZeros_0f7a4_0 rfl (lv_at hl 0 rfl) ?_
  refine lv_if_gt (tgt := 15) hx hb dJ6_numberOfLeadingZeros_0f7a4_1 (by decide) (fun c1 => ?_) (fun c1 => ?_)
  · skip
    have tc1 := f_gt (k := 0) (by decide) c1
    refine lv_bipush (v := 31) hx hb dJ6_numberOfLeadingZeros_0f7a4_15 (by decide) ?_
    refine lv_istore_n (lv' := [(1, .int 31), (0, .int x0)]) hx hb dJ6_numberOfLeadingZeros_0f7a4_17 rfl hl (by decide) rfl (fun ls hl => ?_)
    refine lv_iload_n hx hb dJ6_numberOfLeadingZeros_0f7a4_18 rfl (lv_at hl 1 rfl) ?_
    refine lv_ldcw hx hb hown (hts _ kw_861) dJ6_numberOfLeadingZeros_0f7a4_19 ?_
    refine lv_icmp_lt (tgt := 33) hx hb dJ6_numberOfLeadingZeros_0f7a4_22 (by decide) (fun c22 => ?_) (fun c22 => ?_)
    · skip
      have tc22 := f_lt (k := 65536) (by decide) c22
      refine lv_iload_n hx hb dJ6_numberOfLeadingZeros_0f7a4_33 rfl (lv_at hl 1 rfl) ?_
      refine lv_sipush (v := 256) hx hb dJ6_numberOfLeadingZeros_0f7a4_34 (by decide) ?_
      refine lv_icmp_lt (tgt := 48) hx hb dJ6_numberOfLeadingZeros_0f7a4_37 (by decide) (fun c37 => ?_) (fun c37 => ?_)
      · skip
        have tc37 := f_lt (k := 256) (by decide) c37
        exfalso; omega
      · skip
        have tc37 := f_nlt (k := 256) (by decide) c37
        refine lv_iinc (v := 23) (lv' := [(1, .int 23), (0, .int x0)]) hx hb dJ6_numberOfLeadingZeros_0f7a4_40 hl (k := 0) rfl (by decide) (by decide) rfl (fun ls hl => ?_)
        refine lv_iload_n hx hb dJ6_numberOfLeadingZeros_0f7a4_43 rfl (lv_at hl 1 rfl) ?_
        refine lv_bipush (v := 8) hx hb dJ6_numberOfLeadingZeros_0f7a4_44 (by decide) ?_
        refine lv_iushr hx hb dJ6_numberOfLeadingZeros_0f7a4_46 rfl ?_
        refine lv_topi (fun v46 ev46 => ?_)
        have tv46 : v46.toInt = x0.toInt / 256 := by rw [ev46]; exact ushr_n 8 (by decide +kernel) (by decide) (by omega)
        refine lv_istore_n (lv' := [(0, .int v46), (1, .int 23)]) hx hb dJ6_numberOfLeadingZeros_0f7a4_47 rfl hl (by decide) rfl (fun ls hl => ?_)
        refine lv_iload_n hx hb dJ6_numberOfLeadingZeros_0f7a4_48 rfl (lv_at hl 0 rfl) ?_
        refine lv_bipush (v := 16) hx hb dJ6_numberOfLeadingZeros_0f7a4_49 (by decide) ?_
        refine lv_icmp_lt (tgt := 61) hx hb dJ6_numberOfLeadingZeros_0f7a4_51 (by decide) (fun c51 => ?_) (fun c51 => ?_)
        · skip
          have tc51 := f_lt (k := 16) (by decide) c51
          exfalso; omega
        · skip
          have tc51 := f_nlt (k := 16) (by decide) c51
          refine lv_iinc (v := 19) (lv' := [(1, .int 19), (0, .int v46)]) hx hb dJ6_numberOfLeadingZeros_0f7a4_54 hl (k := 1) rfl (by decide) (by decide) rfl (fun ls hl => ?_)
          refine lv_iload_n hx hb dJ6_numberOfLeadingZeros_0f7a4_57 rfl (lv_at hl 1 rfl) ?_
          refine lv_iconst (v := 4) hx hb dJ6_numberOfLeadingZeros_0f7a4_58 (by decide) ?_
          refine lv_iushr hx hb dJ6_numberOfLeadingZeros_0f7a4_59 rfl ?_
          refine lv_topi (fun v59 ev59 => ?_)
          have tv59 : v59.toInt = v46.toInt / 16 := by rw [ev59]; exact ushr_n 4 (by decide +kernel) (by decide) (by omega)
          refine lv_istore_n (lv' := [(0, .int v59), (1, .int 19)]) hx hb dJ6_numberOfLeadingZeros_0f7a4_60 rfl hl (by decide) rfl (fun ls hl => ?_)
          refine lv_iload_n hx hb dJ6_numberOfLeadingZeros_0f7a4_61 rfl (lv_at hl 0 rfl) ?_
          refine lv_iconst (v := 4) hx hb dJ6_numberOfLeadingZeros_0f7a4_62 (by decide) ?_
          refine lv_icmp_lt (tgt := 73) hx hb dJ6_numberOfLeadingZeros_0f7a4_63 (by decide) (fun c63 => ?_) (fun c63 => ?_)
          · skip
            have tc63 := f_lt (k := 4) (by decide) c63
            refine lv_iload_n hx hb dJ6_numberOfLeadingZeros_0f7a4_73 rfl (lv_at hl 1 rfl) ?_
            refine lv_iload_n hx hb dJ6_numberOfLeadingZeros_0f7a4_74 rfl (lv_at hl 0 rfl) ?_
            refine lv_iconst (v := 1) hx hb dJ6_numberOfLeadingZeros_0f7a4_75 (by decide) ?_
            refine lv_iushr hx hb dJ6_numberOfLeadingZeros_0f7a4_76 rfl ?_
            refine lv_topi (fun v76 ev76 => ?_)
            have tv76 : v76.toInt = v59.toInt / 2 := by rw [ev76]; exact ushr_n 1 (by decide +kernel) (by decide) (by omega)
            refine lv_isub hx hb dJ6_numberOfLeadingZeros_0f7a4_77 ?_
            refine lv_topi (fun v77 ev77 => ?_)
            have tv77 : v77.toInt = (19) - v76.toInt := by rw [ev77]; exact sub_i (by decide : (19 : Int32).toInt = 19) rfl (by omega) (by omega)
            exact te_i hx hb hr hlocks hH hS (⟨rfl, by omega, by omega⟩) dJ6_numberOfLeadingZeros_0f7a4_78
          · skip
            have tc63 := f_nlt (k := 4) (by decide) c63
            exfalso; omega
    · skip
      have tc22 := f_nlt (k := 65536) (by decide) c22
      exfalso; omega
  · skip
    have tc1 := f_ngt (k := 0) (by decide) c1
    exfalso; omega
set_option maxHeartbeats 4000000 in
set_option maxRecDepth 100000 in
theorem s_nlz_13 (l : Launch) (D : va_G) (cs : CS) (kf : KF) (T : TF) (O : List Nat) (X : va_W) (x0 : Int32) (l_x0 : 8192 ≤ x0.toInt) (u_x0 : x0.toInt ≤ 16383) (hO : okO T O []) : TK l D cs kf yJ6_numberOfLeadingZeros_0f7a4 cJ6_numberOfLeadingZeros_0f7a4 2 (some (.int)) { frames := 0, cells := 0, slots := 0, locals := 0 } [.int x0] T O X (Ti D cs (fun r u => u = (T, O, X) ∧ 18 ≤ r.toInt ∧ r.toInt ≤ 18)) := by
  refine tk_of (by decide) (Nat.le_of_ble_eq_true rfl) (fun p e s m below meth c ls A H locs hx hb hr hml hown hts hlocks hnm hkb hH hS hA hOX hks hE hl => ?_)
  have hown : s.vm.findClass RJ6 = some m.cls := hown
  have hl : lv_has ls 2 [(0, .int x0)] := hl
  refine lv_iload_n hx hb dJ6_numberOfLeadingZeros_0f7a4_0 rfl (lv_at hl 0 rfl) ?_
  refine lv_if_gt (tgt := 15) hx hb dJ6_numberOfLeadingZeros_0f7a4_1 (by decide) (fun c1 => ?_) (fun c1 => ?_)
  · skip
    have tc1 := f_gt (k := 0) (by decide) c1
    refine lv_bipush (v := 31) hx hb dJ6_numberOfLeadingZeros_0f7a4_15 (by decide) ?_
    refine lv_istore_n (lv' := [(1, .int 31), (0, .int x0)]) hx hb dJ6_numberOfLeadingZeros_0f7a4_17 rfl hl (by decide) rfl (fun ls hl => ?_)
    refine lv_iload_n hx hb dJ6_numberOfLeadingZeros_0f7a4_18 rfl (lv_at hl 1 rfl) ?_
    refine lv_ldcw hx hb hown (hts _ kw_861) dJ6_numberOfLeadingZeros_0f7a4_19 ?_
    refine lv_icmp_lt (tgt := 33) hx hb dJ6_numberOfLeadingZeros_0f7a4_22 (by decide) (fun c22 => ?_) (fun c22 => ?_)
    · skip
      have tc22 := f_lt (k := 65536) (by decide) c22
      refine lv_iload_n hx hb dJ6_numberOfLeadingZeros_0f7a4_33 rfl (lv_at hl 1 rfl) ?_
      refine lv_sipush (v := 256) hx hb dJ6_numberOfLeadingZeros_0f7a4_34 (by decide) ?_
      refine lv_icmp_lt (tgt := 48) hx hb dJ6_numberOfLeadingZeros_0f7a4_37 (by decide) (fun c37 => ?_) (fun c37 => ?_)
      · skip
        have tc37 := f_lt (k := 256) (by decide) c37
        exfalso; omega
      · skip
        have tc37 := f_nlt (k := 256) (by decide) c37
        refine lv_iinc (v := 23) (lv' := [(1, .int 23), (0, .int x0)]) hx hb dJ6_numberOfLeadingZeros_0f7a4_40 hl (k := 0) rfl (by decide) (by decide) rfl (fun ls hl => ?_)
        refine lv_iload_n hx hb dJ6_numberOfLeadingZeros_0f7a4_43 rfl (lv_at hl 1 rfl) ?_
        refine lv_bipush (v := 8) hx hb dJ6_numberOfLeadingZeros_0f7a4_44 (by decide) ?_
        refine lv_iushr hx hb dJ6_numberOfLeadingZeros_0f7a4_46 rfl ?_
        refine lv_topi (fun v46 ev46 => ?_)
        have tv46 : v46.toInt = x0.toInt / 256 := by rw [ev46]; exact ushr_n 8 (by decide +kernel) (by decide) (by omega)
        refine lv_istore_n (lv' := [(0, .int v46), (1, .int 23)]) hx hb dJ6_numberOfLeadingZeros_0f7a4_47 rfl hl (by decide) rfl (fun ls hl => ?_)
        refine lv_iload_n hx hb dJ6_numberOfLeadingZeros_0f7a4_48 rfl (lv_at hl 0 rfl) ?_
        refine lv_bipush (v := 16) hx hb dJ6_numberOfLeadingZeros_0f7a4_49 (by decide) ?_
        refine lv_icmp_lt (tgt := 61) hx hb dJ6_numberOfLeadingZeros_0f7a4_51 (by decide) (fun c51 => ?_) (fun c51 => ?_)
        · skip
          have tc51 := f_lt (k := 16) (by decide) c51
          exfalso; omega
        · skip
          have tc51 := f_nlt (k := 16) (by decide) c51
          refine lv_iinc (v := 19) (lv' := [(1, .int 19), (0, .int v46)]) hx hb dJ6_numberOfLeadingZeros_0f7a4_54 hl (k := 1) rfl (by decide) (by decide) rfl (fun ls hl => ?_)
          refine lv_iload_n hx hb dJ6_numberOfLeadingZeros_0f7a4_57 rfl (lv_at hl 1 rfl) ?_
          refine lv_iconst (v := 4) hx hb dJ6_numberOfLeadingZeros_0f7a4_58 (by decide) ?_
          refine lv_iushr hx hb dJ6_numberOfLeadingZeros_0f7a4_59 rfl ?_
          refine lv_topi (fun v59 ev59 => ?_)
          have tv59 : v59.toInt = v46.toInt / 16 := by rw [ev59]; exact ushr_n 4 (by decide +kernel) (by decide) (by omega)
          refine lv_istore_n (lv' := [(0, .int v59), (1, .int 19)]) hx hb dJ6_numberOfLeadingZeros_0f7a4_60 rfl hl (by decide) rfl (fun ls hl => ?_)
          refine lv_iload_n hx hb dJ6_numberOfLeadingZeros_0f7a4_61 rfl (lv_at hl 0 rfl) ?_
          refine lv_iconst (v := 4) hx hb dJ6_numberOfLeadingZeros_0f7a4_62 (by decide) ?_
          refine lv_icmp_lt (tgt := 73) hx hb dJ6_numberOfLeadingZeros_0f7a4_63 (by decide) (fun c63 => ?_) (fun c63 => ?_)
          · skip
            have tc63 := f_lt (k := 4) (by decide) c63
            refine lv_iload_n hx hb dJ6_numberOfLeadingZeros_0f7a4_73 rfl (lv_at hl 1 rfl) ?_
            refine lv_iload_n hx hb dJ6_numberOfLeadingZeros_0f7a4_74 rfl (lv_at hl 0 rfl) ?_
            refine lv_iconst (v := 1) hx hb dJ6_numberOfLeadingZeros_0f7a4_75 (by decide) ?_
            refine lv_iushr hx hb dJ6_numberOfLeadingZeros_0f7a4_76 rfl ?_
            refine lv_topi (fun v76 ev76 => ?_)
            have tv76 : v76.toInt = v59.toInt / 2 := by rw [ev76]; exact ushr_n 1 (by decide +kernel) (by decide) (by omega)
            refine lv_isub hx hb dJ6_numberOfLeadingZeros_0f7a4_77 ?_
            refine lv_topi (fun v77 ev77 => ?_)
            have tv77 : v77.toInt = (19) - v76.toInt := by rw [ev77]; exact sub_i (by decide : (19 : Int32).toInt = 19) rfl (by omega) (by omega)
            exact te_i hx hb hr hlocks hH hS (⟨rfl, by omega, by omega⟩) dJ6_numberOfLeadingZeros_0f7a4_78
          · skip
            have tc63 := f_nlt (k := 4) (by decide) c63
            exfalso; omega
    · skip
      have tc22 := f_nlt (k := 65536) (by decide) c22
      exfalso; omega
  · skip
    have tc1 := f_ngt (k := 0) (by decide) c1
    exfalso; omega
set_option maxHeartbeats 4000000 in
set_option maxRecDepth 100000 in
theorem s_nlz_z (l : Launch) (D : va_G) (cs : CS) (kf : KF) (T : TF) (O : List Nat) (X : va_W) (x0 : Int32) (l_x0 : 0 ≤ x0.toInt) (u_x0 : x0.toInt ≤ 0) (hO : okO T O []) : TK l D cs kf yJ6_numberOfLeadingZeros_0f7a4 cJ6_numberOfLeadingZeros_0f7a4 2 (some (.int)) { frames := 0, cells := 0, slots := 0, locals := 0 } [.int x0] T O X (Ti D cs (fun r u => u = (T, O, X) ∧ 32 ≤ r.toInt ∧ r.toInt ≤ 32)) := by
  refine tk_of (by decide) (Nat.le_of_ble_eq_true rfl) (fun p e s m below meth c ls A H locs hx hb hr hml hown hts hlocks hnm hkb hH hS hA hOX hks hE hl => ?_)
  have hown : s.vm.findClass RJ6 = some m.cls := hown
  have hl : lv_has ls 2 [(0, .int x0)] := hl
  refine lv_iload_n hx hb dJ6_numberOfLeadingZeros_0f7a4_0 rfl (lv_at hl 0 rfl) ?_
  refine lv_if_gt (tgt := 15) hx hb dJ6_numberOfLeadingZeros_0f7a4_1 (by decide) (fun c1 => ?_) (fun c1 => ?_)
  · skip
    have tc1 := f_gt (k := 0) (by decide) c1
    exfalso; omega
  · skip
    have tc1 := f_ngt (k := 0) (by decide) c1
    refine lv_iload_n hx hb dJ6_numberOfLeadingZeros_0f7a4_4 rfl (lv_at hl 0 rfl) ?_
    refine lv_if_ne (tgt := 13) hx hb dJ6_numberOfLeadingZeros_0f7a4_5 (by decide) (fun c5 => ?_) (fun c5 => ?_)
    · skip
      have tc5 := f_ne (k := 0) (by decide) c5
      exfalso; omega
    · skip
      have tc5 := f_eq (k := 0) (by decide) c5
      refine lv_bipush (v := 32) hx hb dJ6_numberOfLeadingZeros_0f7a4_8 (by decide) ?_
      refine lv_goto (tgt := 14) hx hb dJ6_numberOfLeadingZeros_0f7a4_10 (by decide) ?_
      exact te_i hx hb hr hlocks hH hS (⟨rfl, by decide, by decide⟩) dJ6_numberOfLeadingZeros_0f7a4_14
set_option maxHeartbeats 4000000 in
set_option maxRecDepth 100000 in
theorem s_hob_z (l : Launch) (D : va_G) (cs : CS) (kf : KF) (T : TF) (O : List Nat) (X : va_W) (x0 : Int32) (l_x0 : 0 ≤ x0.toInt) (u_x0 : x0.toInt ≤ 0) (hO : okO T O []) : TK l D cs kf yJ6_highestOneBit_0f7a4 cJ6_highestOneBit_0f7a4 1 (some (.int)) { frames := 1, cells := 0, slots := 0, locals := 21 } [.int x0] T O X (Ti D cs (fun r u => u = (T, O, X) ∧ 0 ≤ r.toInt ∧ r.toInt ≤ 0)) := by
  refine tk_of (by decide) (Nat.le_of_ble_eq_true rfl) (fun p e s m below meth c ls A H locs hx hb hr hml hown hts hlocks hnm hkb hH hS hA hOX hks hE hl => ?_)
  have hown : s.vm.findClass RJ6 = some m.cls := hown
  have hl : lv_has ls 1 [(0, .int x0)] := hl
  refine lv_iload_n hx hb dJ6_highestOneBit_0f7a4_0 rfl (lv_at hl 0 rfl) ?_
  refine lv_ldc hx hb hown (hts _ kw_1083) dJ6_highestOneBit_0f7a4_1 ?_
  refine lv_iload_n hx hb dJ6_highestOneBit_0f7a4_3 rfl (lv_at hl 0 rfl) ?_
  refine tk_i hH hS hA (tr_S (n := 1) (As := [.int x0]) hx hb hml hown hts hkb hH hOX hks hE hS hA (s_nlz_z l D cs kf T O X x0 (by omega) (by omega) (hO.sub (by decide))) kw_1084 kw_1085 kw_20 kw_1086 (by decide +kernel) ⟨Nat.le_of_ble_eq_true rfl, Nat.le_of_ble_eq_true rfl⟩ rfl rfl hl.1 (Nat.le_of_ble_eq_true rfl) dJ6_highestOneBit_0f7a4_4 ⟨Nat.le_of_ble_eq_true rfl, Nat.le_of_ble_eq_true rfl⟩) (fun v4 u H locs hz9 hH hS => ?_)
  obtain ⟨rfl, l_v4, u_v4⟩ := hz9
  refine lv_topc (y := 32) (eq_c (by decide) l_v4 u_v4) ?_
  have hH : HT D cs A T O X H := hH
  refine W.widen (k := 0) (n := 0) (Nat.le_of_ble_eq_true rfl) (Nat.le_of_ble_eq_true rfl) ?_
  refine lv_iushr hx hb dJ6_highestOneBit_0f7a4_7 rfl ?_
  refine lv_topc (y := (-2147483648)) (by decide +kernel) ?_
  refine lv_iand hx hb dJ6_highestOneBit_0f7a4_8 ?_
  refine lv_topi (fun v8 ev8 => ?_)
  have tv8 : 0 ≤ v8.toInt ∧ v8.toInt ≤ x0.toInt := by rw [ev8]; exact and_l (by omega)
  exact te_i hx hb hr hlocks hH hS (⟨rfl, by omega, by omega⟩) dJ6_highestOneBit_0f7a4_9
set_option maxHeartbeats 4000000 in
set_option maxRecDepth 100000 in
theorem s_hob_0 (l : Launch) (D : va_G) (cs : CS) (kf : KF) (T : TF) (O : List Nat) (X : va_W) (x0 : Int32) (l_x0 : 1 ≤ x0.toInt) (u_x0 : x0.toInt ≤ 1) (hO : okO T O []) : TK l D cs kf yJ6_highestOneBit_0f7a4 cJ6_highestOneBit_0f7a4 1 (some (.int)) { frames := 1, cells := 0, slots := 0, locals := 21 } [.int x0] T O X (Ti D cs (fun r u => u = (T, O, X) ∧ 1 ≤ r.toInt ∧ r.toInt ≤ 1)) := by
  refine tk_of (by decide) (Nat.le_of_ble_eq_true rfl) (fun p e s m below meth c ls A H locs hx hb hr hml hown hts hlocks hnm hkb hH hS hA hOX hks hE hl => ?_)
  have hown : s.vm.findClass RJ6 = some m.cls := hown
  have hl : lv_has ls 1 [(0, .int x0)] := hl
  refine lv_iload_n hx hb dJ6_highestOneBit_0f7a4_0 rfl (lv_at hl 0 rfl) ?_
  refine lv_ldc hx hb hown (hts _ kw_1083) dJ6_highestOneBit_0f7a4_1 ?_
  refine lv_iload_n hx hb dJ6_highestOneBit_0f7a4_3 rfl (lv_at hl 0 rfl) ?_
  refine tk_i hH hS hA (tr_S (n := 1) (As := [.int x0]) hx hb hml hown hts hkb hH hOX hks hE hS hA (s_nlz_0 l D cs kf T O X x0 (by omega) (by omega) (hO.sub (by decide))) kw_1084 kw_1085 kw_20 kw_1086 (by decide +kernel) ⟨Nat.le_of_ble_eq_true rfl, Nat.le_of_ble_eq_true rfl⟩ rfl rfl hl.1 (Nat.le_of_ble_eq_true rfl) dJ6_highestOneBit_0f7a4_4 ⟨Nat.le_of_ble_eq_true rfl, Nat.le_of_ble_eq_true rfl⟩) (fun v4 u H locs hz9 hH hS => ?_)
  obtain ⟨rfl, l_v4, u_v4⟩ := hz9
  refine lv_topc (y := 31) (eq_c (by decide) l_v4 u_v4) ?_
  have hH : HT D cs A T O X H := hH
  refine W.widen (k := 0) (n := 0) (Nat.le_of_ble_eq_true rfl) (Nat.le_of_ble_eq_true rfl) ?_
  refine lv_iushr hx hb dJ6_highestOneBit_0f7a4_7 rfl ?_
  refine lv_topc (y := 1) (by decide +kernel) ?_
  refine lv_iand hx hb dJ6_highestOneBit_0f7a4_8 ?_
  refine lv_topi (fun v8 ev8 => ?_)
  have tv8 : v8.toInt = 1 := by rw [ev8]; exact and_pow 0 (by decide) (by decide) (by omega) (by omega)
  exact te_i hx hb hr hlocks hH hS (⟨rfl, by omega, by omega⟩) dJ6_highestOneBit_0f7a4_9
set_option maxHeartbeats 4000000 in
set_option maxRecDepth 100000 in
theorem s_hob_1 (l : Launch) (D : va_G) (cs : CS) (kf : KF) (T : TF) (O : List Nat) (X : va_W) (x0 : Int32) (l_x0 : 2 ≤ x0.toInt) (u_x0 : x0.toInt ≤ 3) (hO : okO T O []) : TK l D cs kf yJ6_highestOneBit_0f7a4 cJ6_highestOneBit_0f7a4 1 (some (.int)) { frames := 1, cells := 0, slots := 0, locals := 21 } [.int x0] T O X (Ti D cs (fun r u => u = (T, O, X) ∧ 2 ≤ r.toInt ∧ r.toInt ≤ 2)) := by
  refine tk_of (by decide) (Nat.le_of_ble_eq_true rfl) (fun p e s m below meth c ls A H locs hx hb hr hml hown hts hlocks hnm hkb hH hS hA hOX hks hE hl => ?_)
  have hown : s.vm.findClass RJ6 = some m.cls := hown
  have hl : lv_has ls 1 [(0, .int x0)] := hl
  refine lv_iload_n hx hb dJ6_highestOneBit_0f7a4_0 rfl (lv_at hl 0 rfl) ?_
  refine lv_ldc hx hb hown (hts _ kw_1083) dJ6_highestOneBit_0f7a4_1 ?_
  refine lv_iload_n hx hb dJ6_highestOneBit_0f7a4_3 rfl (lv_at hl 0 rfl) ?_
  refine tk_i hH hS hA (tr_S (n := 1) (As := [.int x0]) hx hb hml hown hts hkb hH hOX hks hE hS hA (s_nlz_1 l D cs kf T O X x0 (by omega) (by omega) (hO.sub (by decide))) kw_1084 kw_1085 kw_20 kw_1086 (by decide +kernel) ⟨Nat.le_of_ble_eq_true rfl, Nat.le_of_ble_eq_true rfl⟩ rfl rfl hl.1 (Nat.le_of_ble_eq_true rfl) dJ6_highestOneBit_0f7a4_4 ⟨Nat.le_of_ble_eq_true rfl, Nat.le_of_ble_eq_true rfl⟩) (fun v4 u H locs hz9 hH hS => ?_)
  obtain ⟨rfl, l_v4, u_v4⟩ := hz9
  refine lv_topc (y := 30) (eq_c (by decide) l_v4 u_v4) ?_
  have hH : HT D cs A T O X H := hH
  refine W.widen (k := 0) (n := 0) (Nat.le_of_ble_eq_true rfl) (Nat.le_of_ble_eq_true rfl) ?_
  refine lv_iushr hx hb dJ6_highestOneBit_0f7a4_7 rfl ?_
  refine lv_topc (y := 2) (by decide +kernel) ?_
  refine lv_iand hx hb dJ6_highestOneBit_0f7a4_8 ?_
  refine lv_topi (fun v8 ev8 => ?_)
  have tv8 : v8.toInt = 2 := by rw [ev8]; exact and_pow 1 (by decide) (by decide) (by omega) (by omega)
  exact te_i hx hb hr hlocks hH hS (⟨rfl, by omega, by omega⟩) dJ6_highestOneBit_0f7a4_9
set_option maxHeartbeats 4000000 in
set_option maxRecDepth 100000 in
theorem s_hob_2 (l : Launch) (D : va_G) (cs : CS) (kf : KF) (T : TF) (O : List Nat) (X : va_W) (x0 : Int32) (l_x0 : 4 ≤ x0.toInt) (u_x0 : x0.toInt ≤ 7) (hO : okO T O []) : TK l D cs kf yJ6_highestOneBit_0f7a4 cJ6_highestOneBit_0f7a4 1 (some (.int)) { frames := 1, cells := 0, slots := 0, locals := 21 } [.int x0] T O X (Ti D cs (fun r u => u = (T, O, X) ∧ 4 ≤ r.toInt ∧ r.toInt ≤ 4)) := by
  refine tk_of (by decide) (Nat.le_of_ble_eq_true rfl) (fun p e s m below meth c ls A H locs hx hb hr hml hown hts hlocks hnm hkb hH hS hA hOX hks hE hl => ?_)
  have hown : s.vm.findClass RJ6 = some m.cls := hown
  have hl : lv_has ls 1 [(0, .int x0)] := hl
  refine lv_iload_n hx hb dJ6_highestOneBit_0f7a4_0 rfl (lv_at hl 0 rfl) ?_
  refine lv_ldc hx hb hown (hts _ kw_1083) dJ6_highestOneBit_0f7a4_1 ?_
  refine lv_iload_n hx hb dJ6_highestOneBit_0f7a4_3 rfl (lv_at hl 0 rfl) ?_
  refine tk_i hH hS hA (tr_S (n := 1) (As := [.int x0]) hx hb hml hown hts hkb hH hOX hks hE hS hA (s_nlz_2 l D cs kf T O X x0 (by omega) (by omega) (hO.sub (by decide))) kw_1084 kw_1085 kw_20 kw_1086 (by decide +kernel) ⟨Nat.le_of_ble_eq_true rfl, Nat.le_of_ble_eq_true rfl⟩ rfl rfl hl.1 (Nat.le_of_ble_eq_true rfl) dJ6_highestOneBit_0f7a4_4 ⟨Nat.le_of_ble_eq_true rfl, Nat.le_of_ble_eq_true rfl⟩) (fun v4 u H locs hz9 hH hS => ?_)
  obtain ⟨rfl, l_v4, u_v4⟩ := hz9
  refine lv_topc (y := 29) (eq_c (by decide) l_v4 u_v4) ?_
  have hH : HT D cs A T O X H := hH
  refine W.widen (k := 0) (n := 0) (Nat.le_of_ble_eq_true rfl) (Nat.le_of_ble_eq_true rfl) ?_
  refine lv_iushr hx hb dJ6_highestOneBit_0f7a4_7 rfl ?_
  refine lv_topc (y := 4) (by decide +kernel) ?_
  refine lv_iand hx hb dJ6_highestOneBit_0f7a4_8 ?_
  refine lv_topi (fun v8 ev8 => ?_)
  have tv8 : v8.toInt = 4 := by rw [ev8]; exact and_pow 2 (by decide) (by decide) (by omega) (by omega)
  exact te_i hx hb hr hlocks hH hS (⟨rfl, by omega, by omega⟩) dJ6_highestOneBit_0f7a4_9
set_option maxHeartbeats 4000000 in
set_option maxRecDepth 100000 in
theorem s_hob_3 (l : Launch) (D : va_G) (cs : CS) (kf : KF) (T : TF) (O : List Nat) (X : va_W) (x0 : Int32) (l_x0 : 8 ≤ x0.toInt) (u_x0 : x0.toInt ≤ 15) (hO : okO T O []) : TK l D cs kf yJ6_highestOneBit_0f7a4 cJ6_highestOneBit_0f7a4 1 (some (.int)) { frames := 1, cells := 0, slots := 0, locals := 21 } [.int x0] T O X (Ti D cs (fun r u => u = (T, O, X) ∧ 8 ≤ r.toInt ∧ r.toInt ≤ 8)) := by
  refine tk_of (by decide) (Nat.le_of_ble_eq_true rfl) (fun p e s m below meth c ls A H locs hx hb hr hml hown hts hlocks hnm hkb hH hS hA hOX hks hE hl => ?_)
  have hown : s.vm.findClass RJ6 = some m.cls := hown
  have hl : lv_has ls 1 [(0, .int x0)] := hl
  refine lv_iload_n hx hb dJ6_highestOneBit_0f7a4_0 rfl (lv_at hl 0 rfl) ?_
  refine lv_ldc hx hb hown (hts _ kw_1083) dJ6_highestOneBit_0f7a4_1 ?_
  refine lv_iload_n hx hb dJ6_highestOneBit_0f7a4_3 rfl (lv_at hl 0 rfl) ?_
  refine tk_i hH hS hA (tr_S (n := 1) (As := [.int x0]) hx hb hml hown hts hkb hH hOX hks hE hS hA (s_nlz_3 l D cs kf T O X x0 (by omega) (by omega) (hO.sub (by decide))) kw_1084 kw_1085 kw_20 kw_1086 (by decide +kernel) ⟨Nat.le_of_ble_eq_true rfl, Nat.le_of_ble_eq_true rfl⟩ rfl rfl hl.1 (Nat.le_of_ble_eq_true rfl) dJ6_highestOneBit_0f7a4_4 ⟨Nat.le_of_ble_eq_true rfl, Nat.le_of_ble_eq_true rfl⟩) (fun v4 u H locs hz9 hH hS => ?_)
  obtain ⟨rfl, l_v4, u_v4⟩ := hz9
  refine lv_topc (y := 28) (eq_c (by decide) l_v4 u_v4) ?_
  have hH : HT D cs A T O X H := hH
  refine W.widen (k := 0) (n := 0) (Nat.le_of_ble_eq_true rfl) (Nat.le_of_ble_eq_true rfl) ?_
  refine lv_iushr hx hb dJ6_highestOneBit_0f7a4_7 rfl ?_
  refine lv_topc (y := 8) (by decide +kernel) ?_
  refine lv_iand hx hb dJ6_highestOneBit_0f7a4_8 ?_
  refine lv_topi (fun v8 ev8 => ?_)
  have tv8 : v8.toInt = 8 := by rw [ev8]; exact and_pow 3 (by decide) (by decide) (by omega) (by omega)
  exact te_i hx hb hr hlocks hH hS (⟨rfl, by omega, by omega⟩) dJ6_highestOneBit_0f7a4_9
set_option maxHeartbeats 4000000 in
set_option maxRecDepth 100000 in
theorem s_hob_4 (l : Launch) (D : va_G) (cs : CS) (kf : KF) (T : TF) (O : List Nat) (X : va_W) (x0 : Int32) (l_x0 : 16 ≤ x0.toInt) (u_x0 : x0.toInt ≤ 31) (hO : okO T O []) : TK l D cs kf yJ6_highestOneBit_0f7a4 cJ6_highestOneBit_0f7a4 1 (some (.int)) { frames := 1, cells := 0, slots := 0, locals := 21 } [.int x0] T O X (Ti D cs (fun r u => u = (T, O, X) ∧ 16 ≤ r.toInt ∧ r.toInt ≤ 16)) := by
  refine tk_of (by decide) (Nat.le_of_ble_eq_true rfl) (fun p e s m below meth c ls A H locs hx hb hr hml hown hts hlocks hnm hkb hH hS hA hOX hks hE hl => ?_)
  have hown : s.vm.findClass RJ6 = some m.cls := hown
  have hl : lv_has ls 1 [(0, .int x0)] := hl
  refine lv_iload_n hx hb dJ6_highestOneBit_0f7a4_0 rfl (lv_at hl 0 rfl) ?_
  refine lv_ldc hx hb hown (hts _ kw_1083) dJ6_highestOneBit_0f7a4_1 ?_
  refine lv_iload_n hx hb dJ6_highestOneBit_0f7a4_3 rfl (lv_at hl 0 rfl) ?_
  refine tk_i hH hS hA (tr_S (n := 1) (As := [.int x0]) hx hb hml hown hts hkb hH hOX hks hE hS hA (s_nlz_4 l D cs kf T O X x0 (by omega) (by omega) (hO.sub (by decide))) kw_1084 kw_1085 kw_20 kw_1086 (by decide +kernel) ⟨Nat.le_of_ble_eq_true rfl, Nat.le_of_ble_eq_true rfl⟩ rfl rfl hl.1 (Nat.le_of_ble_eq_true rfl) dJ6_highestOneBit_0f7a4_4 ⟨Nat.le_of_ble_eq_true rfl, Nat.le_of_ble_eq_true rfl⟩) (fun v4 u H locs hz9 hH hS => ?_)
  obtain ⟨rfl, l_v4, u_v4⟩ := hz9
  refine lv_topc (y := 27) (eq_c (by decide) l_v4 u_v4) ?_
  have hH : HT D cs A T O X H := hH
  refine W.widen (k := 0) (n := 0) (Nat.le_of_ble_eq_true rfl) (Nat.le_of_ble_eq_true rfl) ?_
  refine lv_iushr hx hb dJ6_highestOneBit_0f7a4_7 rfl ?_
  refine lv_topc (y := 16) (by decide +kernel) ?_
  refine lv_iand hx hb dJ6_highestOneBit_0f7a4_8 ?_
  refine lv_topi (fun v8 ev8 => ?_)
  have tv8 : v8.toInt = 16 := by rw [ev8]; exact and_pow 4 (by decide) (by decide) (by omega) (by omega)
  exact te_i hx hb hr hlocks hH hS (⟨rfl, by omega, by omega⟩) dJ6_highestOneBit_0f7a4_9
set_option maxHeartbeats 4000000 in
set_option maxRecDepth 100000 in
theorem s_hob_5 (l : Launch) (D : va_G) (cs : CS) (kf : KF) (T : TF) (O : List Nat) (X : va_W) (x0 : Int32) (l_x0 : 32 ≤ x0.toInt) (u_x0 : x0.toInt ≤ 63) (hO : okO T O []) : TK l D cs kf yJ6_highestOneBit_0f7a4 cJ6_highestOneBit_0f7a4 1 (some (.int)) { frames := 1, cells := 0, slots := 0, locals := 21 } [.int x0] T O X (Ti D cs (fun r u => u = (T, O, X) ∧ 32 ≤ r.toInt ∧ r.toInt ≤ 32)) := by
  refine tk_of (by decide) (Nat.le_of_ble_eq_true rfl) (fun p e s m below meth c ls A H locs hx hb hr hml hown hts hlocks hnm hkb hH hS hA hOX hks hE hl => ?_)
  have hown : s.vm.findClass RJ6 = some m.cls := hown
  have hl : lv_has ls 1 [(0, .int x0)] := hl
  refine lv_iload_n hx hb dJ6_highestOneBit_0f7a4_0 rfl (lv_at hl 0 rfl) ?_
  refine lv_ldc hx hb hown (hts _ kw_1083) dJ6_highestOneBit_0f7a4_1 ?_
  refine lv_iload_n hx hb dJ6_highestOneBit_0f7a4_3 rfl (lv_at hl 0 rfl) ?_
  refine tk_i hH hS hA (tr_S (n := 1) (As := [.int x0]) hx hb hml hown hts hkb hH hOX hks hE hS hA (s_nlz_5 l D cs kf T O X x0 (by omega) (by omega) (hO.sub (by decide))) kw_1084 kw_1085 kw_20 kw_1086 (by decide +kernel) ⟨Nat.le_of_ble_eq_true rfl, Nat.le_of_ble_eq_true rfl⟩ rfl rfl hl.1 (Nat.le_of_ble_eq_true rfl) dJ6_highestOneBit_0f7a4_4 ⟨Nat.le_of_ble_eq_true rfl, Nat.le_of_ble_eq_true rfl⟩) (fun v4 u H locs hz9 hH hS => ?_)
  obtain ⟨rfl, l_v4, u_v4⟩ := hz9
  refine lv_topc (y := 26) (eq_c (by decide) l_v4 u_v4) ?_
  have hH : HT D cs A T O X H := hH
  refine W.widen (k := 0) (n := 0) (Nat.le_of_ble_eq_true rfl) (Nat.le_of_ble_eq_true rfl) ?_
  refine lv_iushr hx hb dJ6_highestOneBit_0f7a4_7 rfl ?_
  refine lv_topc (y := 32) (by decide +kernel) ?_
  refine lv_iand hx hb dJ6_highestOneBit_0f7a4_8 ?_
  refine lv_topi (fun v8 ev8 => ?_)
  have tv8 : v8.toInt = 32 := by rw [ev8]; exact and_pow 5 (by decide) (by decide) (by omega) (by omega)
  exact te_i hx hb hr hlocks hH hS (⟨rfl, by omega, by omega⟩) dJ6_highestOneBit_0f7a4_9
set_option maxHeartbeats 4000000 in
set_option maxRecDepth 100000 in
theorem s_hob_6 (l : Launch) (D : va_G) (cs : CS) (kf : KF) (T : TF) (O : List Nat) (X : va_W) (x0 : Int32) (l_x0 : 64 ≤ x0.toInt) (u_x0 : x0.toInt ≤ 127) (hO : okO T O []) : TK l D cs kf yJ6_highestOneBit_0f7a4 cJ6_highestOneBit_0f7a4 1 (some (.int)) { frames := 1, cells := 0, slots := 0, locals := 21 } [.int x0] T O X (Ti D cs (fun r u => u = (T, O, X) ∧ 64 ≤ r.toInt ∧ r.toInt ≤ 64)) := by
  refine tk_of (by decide) (Nat.le_of_ble_eq_true rfl) (fun p e s m below meth c ls A H locs hx hb hr hml hown hts hlocks hnm hkb hH hS hA hOX hks hE hl => ?_)
  have hown : s.vm.findClass RJ6 = some m.cls := hown
  have hl : lv_has ls 1 [(0, .int x0)] := hl
  refine lv_iload_n hx hb dJ6_highestOneBit_0f7a4_0 rfl (lv_at hl 0 rfl) ?_
  refine lv_ldc hx hb hown (hts _ kw_1083) dJ6_highestOneBit_0f7a4_1 ?_
  refine lv_iload_n hx hb dJ6_highestOneBit_0f7a4_3 rfl (lv_at hl 0 rfl) ?_
  refine tk_i hH hS hA (tr_S (n := 1) (As := [.int x0]) hx hb hml hown hts hkb hH hOX hks hE hS hA (s_nlz_6 l D cs kf T O X x0 (by omega) (by omega) (hO.sub (by decide))) kw_1084 kw_1085 kw_20 kw_1086 (by decide +kernel) ⟨Nat.le_of_ble_eq_true rfl, Nat.le_of_ble_eq_true rfl⟩ rfl rfl hl.1 (Nat.le_of_ble_eq_true rfl) dJ6_highestOneBit_0f7a4_4 ⟨Nat.le_of_ble_eq_true rfl, Nat.le_of_ble_eq_true rfl⟩) (fun v4 u H locs hz9 hH hS => ?_)
  obtain ⟨rfl, l_v4, u_v4⟩ := hz9
  refine lv_topc (y := 25) (eq_c (by decide) l_v4 u_v4) ?_
  have hH : HT D cs A T O X H := hH
  refine W.widen (k := 0) (n := 0) (Nat.le_of_ble_eq_true rfl) (Nat.le_of_ble_eq_true rfl) ?_
  refine lv_iushr hx hb dJ6_highestOneBit_0f7a4_7 rfl ?_
  refine lv_topc (y := 64) (by decide +kernel) ?_
  refine lv_iand hx hb dJ6_highestOneBit_0f7a4_8 ?_
  refine lv_topi (fun v8 ev8 => ?_)
  have tv8 : v8.toInt = 64 := by rw [ev8]; exact and_pow 6 (by decide) (by decide) (by omega) (by omega)
  exact te_i hx hb hr hlocks hH hS (⟨rfl, by omega, by omega⟩) dJ6_highestOneBit_0f7a4_9
set_option maxHeartbeats 4000000 in
set_option maxRecDepth 100000 in
theorem s_hob_7 (l : Launch) (D : va_G) (cs : CS) (kf : KF) (T : TF) (O : List Nat) (X : va_W) (x0 : Int32) (l_x0 : 128 ≤ x0.toInt) (u_x0 : x0.toInt ≤ 255) (hO : okO T O []) : TK l D cs kf yJ6_highestOneBit_0f7a4 cJ6_highestOneBit_0f7a4 1 (some (.int)) { frames := 1, cells := 0, slots := 0, locals := 21 } [.int x0] T O X (Ti D cs (fun r u => u = (T, O, X) ∧ 128 ≤ r.toInt ∧ r.toInt ≤ 128)) := by
  refine tk_of (by decide) (Nat.le_of_ble_eq_true rfl) (fun p e s m below meth c ls A H locs hx hb hr hml hown hts hlocks hnm hkb hH hS hA hOX hks hE hl => ?_)
  have hown : s.vm.findClass RJ6 = some m.cls := hown
  have hl : lv_has ls 1 [(0, .int x0)] := hl
  refine lv_iload_n hx hb dJ6_highestOneBit_0f7a4_0 rfl (lv_at hl 0 rfl) ?_
  refine lv_ldc hx hb hown (hts _ kw_1083) dJ6_highestOneBit_0f7a4_1 ?_
  refine lv_iload_n hx hb dJ6_highestOneBit_0f7a4_3 rfl (lv_at hl 0 rfl) ?_
  refine tk_i hH hS hA (tr_S (n := 1) (As := [.int x0]) hx hb hml hown hts hkb hH hOX hks hE hS hA (s_nlz_7 l D cs kf T O X x0 (by omega) (by omega) (hO.sub (by decide))) kw_1084 kw_1085 kw_20 kw_1086 (by decide +kernel) ⟨Nat.le_of_ble_eq_true rfl, Nat.le_of_ble_eq_true rfl⟩ rfl rfl hl.1 (Nat.le_of_ble_eq_true rfl) dJ6_highestOneBit_0f7a4_4 ⟨Nat.le_of_ble_eq_true rfl, Nat.le_of_ble_eq_true rfl⟩) (fun v4 u H locs hz9 hH hS => ?_)
  obtain ⟨rfl, l_v4, u_v4⟩ := hz9
  refine lv_topc (y := 24) (eq_c (by decide) l_v4 u_v4) ?_
  have hH : HT D cs A T O X H := hH
  refine W.widen (k := 0) (n := 0) (Nat.le_of_ble_eq_true rfl) (Nat.le_of_ble_eq_true rfl) ?_
  refine lv_iushr hx hb dJ6_highestOneBit_0f7a4_7 rfl ?_
  refine lv_topc (y := 128) (by decide +kernel) ?_
  refine lv_iand hx hb dJ6_highestOneBit_0f7a4_8 ?_
  refine lv_topi (fun v8 ev8 => ?_)
  have tv8 : v8.toInt = 128 := by rw [ev8]; exact and_pow 7 (by decide) (by decide) (by omega) (by omega)
  exact te_i hx hb hr hlocks hH hS (⟨rfl, by omega, by omega⟩) dJ6_highestOneBit_0f7a4_9
set_option maxHeartbeats 4000000 in
set_option maxRecDepth 100000 in
theorem s_hob_8 (l : Launch) (D : va_G) (cs : CS) (kf : KF) (T : TF) (O : List Nat) (X : va_W) (x0 : Int32) (l_x0 : 256 ≤ x0.toInt) (u_x0 : x0.toInt ≤ 511) (hO : okO T O []) : TK l D cs kf yJ6_highestOneBit_0f7a4 cJ6_highestOneBit_0f7a4 1 (some (.int)) { frames := 1, cells := 0, slots := 0, locals := 21 } [.int x0] T O X (Ti D cs (fun r u => u = (T, O, X) ∧ 256 ≤ r.toInt ∧ r.toInt ≤ 256)) := by
  refine tk_of (by decide) (Nat.le_of_ble_eq_true rfl) (fun p e s m below meth c ls A H locs hx hb hr hml hown hts hlocks hnm hkb hH hS hA hOX hks hE hl => ?_)
  have hown : s.vm.findClass RJ6 = some m.cls := hown
  have hl : lv_has ls 1 [(0, .int x0)] := hl
  refine lv_iload_n hx hb dJ6_highestOneBit_0f7a4_0 rfl (lv_at hl 0 rfl) ?_
  refine lv_ldc hx hb hown (hts _ kw_1083) dJ6_highestOneBit_0f7a4_1 ?_
  refine lv_iload_n hx hb dJ6_highestOneBit_0f7a4_3 rfl (lv_at hl 0 rfl) ?_
  refine tk_i hH hS hA (tr_S (n := 1) (As := [.int x0]) hx hb hml hown hts hkb hH hOX hks hE hS hA (s_nlz_8 l D cs kf T O X x0 (by omega) (by omega) (hO.sub (by decide))) kw_1084 kw_1085 kw_20 kw_1086 (by decide +kernel) ⟨Nat.le_of_ble_eq_true rfl, Nat.le_of_ble_eq_true rfl⟩ rfl rfl hl.1 (Nat.le_of_ble_eq_true rfl) dJ6_highestOneBit_0f7a4_4 ⟨Nat.le_of_ble_eq_true rfl, Nat.le_of_ble_eq_true rfl⟩) (fun v4 u H locs hz9 hH hS => ?_)
  obtain ⟨rfl, l_v4, u_v4⟩ := hz9
  refine lv_topc (y := 23) (eq_c (by decide) l_v4 u_v4) ?_
  have hH : HT D cs A T O X H := hH
  refine W.widen (k := 0) (n := 0) (Nat.le_of_ble_eq_true rfl) (Nat.le_of_ble_eq_true rfl) ?_
  refine lv_iushr hx hb dJ6_highestOneBit_0f7a4_7 rfl ?_
  refine lv_topc (y := 256) (by decide +kernel) ?_
  refine lv_iand hx hb dJ6_highestOneBit_0f7a4_8 ?_
  refine lv_topi (fun v8 ev8 => ?_)
  have tv8 : v8.toInt = 256 := by rw [ev8]; exact and_pow 8 (by decide) (by decide) (by omega) (by omega)
  exact te_i hx hb hr hlocks hH hS (⟨rfl, by omega, by omega⟩) dJ6_highestOneBit_0f7a4_9
set_option maxHeartbeats 4000000 in
set_option maxRecDepth 100000 in
theorem s_hob_9 (l : Launch) (D : va_G) (cs : CS) (kf : KF) (T : TF) (O : List Nat) (X : va_W) (x0 : Int32) (l_x0 : 512 ≤ x0.toInt) (u_x0 : x0.toInt ≤ 1023) (hO : okO T O []) : TK l D cs kf yJ6_highestOneBit_0f7a4 cJ6_highestOneBit_0f7a4 1 (some (.int)) { frames := 1, cells := 0, slots := 0, locals := 21 } [.int x0] T O X (Ti D cs (fun r u => u = (T, O, X) ∧ 512 ≤ r.toInt ∧ r.toInt ≤ 512)) := by
  refine tk_of (by decide) (Nat.le_of_ble_eq_true rfl) (fun p e s m below meth c ls A H locs hx hb hr hml hown hts hlocks hnm hkb hH hS hA hOX hks hE hl => ?_)
  have hown : s.vm.findClass RJ6 = some m.cls := hown
  have hl : lv_has ls 1 [(0, .int x0)] := hl
  refine lv_iload_n hx hb dJ6_highestOneBit_0f7a4_0 rfl (lv_at hl 0 rfl) ?_
  refine lv_ldc hx hb hown (hts _ kw_1083) dJ6_highestOneBit_0f7a4_1 ?_
  refine lv_iload_n hx hb dJ6_highestOneBit_0f7a4_3 rfl (lv_at hl 0 rfl) ?_
  refine tk_i hH hS hA (tr_S (n := 1) (As := [.int x0]) hx hb hml hown hts hkb hH hOX hks hE hS hA (s_nlz_9 l D cs kf T O X x0 (by omega) (by omega) (hO.sub (by decide))) kw_1084 kw_1085 kw_20 kw_1086 (by decide +kernel) ⟨Nat.le_of_ble_eq_true rfl, Nat.le_of_ble_eq_true rfl⟩ rfl rfl hl.1 (Nat.le_of_ble_eq_true rfl) dJ6_highestOneBit_0f7a4_4 ⟨Nat.le_of_ble_eq_true rfl, Nat.le_of_ble_eq_true rfl⟩) (fun v4 u H locs hz9 hH hS => ?_)
  obtain ⟨rfl, l_v4, u_v4⟩ := hz9
  refine lv_topc (y := 22) (eq_c (by decide) l_v4 u_v4) ?_
  have hH : HT D cs A T O X H := hH
  refine W.widen (k := 0) (n := 0) (Nat.le_of_ble_eq_true rfl) (Nat.le_of_ble_eq_true rfl) ?_
  refine lv_iushr hx hb dJ6_highestOneBit_0f7a4_7 rfl ?_
  refine lv_topc (y := 512) (by decide +kernel) ?_
  refine lv_iand hx hb dJ6_highestOneBit_0f7a4_8 ?_
  refine lv_topi (fun v8 ev8 => ?_)
  have tv8 : v8.toInt = 512 := by rw [ev8]; exact and_pow 9 (by decide) (by decide) (by omega) (by omega)
  exact te_i hx hb hr hlocks hH hS (⟨rfl, by omega, by omega⟩) dJ6_highestOneBit_0f7a4_9
set_option maxHeartbeats 4000000 in
set_option maxRecDepth 100000 in
theorem s_hob_10 (l : Launch) (D : va_G) (cs : CS) (kf : KF) (T : TF) (O : List Nat) (X : va_W) (x0 : Int32) (l_x0 : 1024 ≤ x0.toInt) (u_x0 : x0.toInt ≤ 2047) (hO : okO T O []) : TK l D cs kf yJ6_highestOneBit_0f7a4 cJ6_highestOneBit_0f7a4 1 (some (.int)) { frames := 1, cells := 0, slots := 0, locals := 21 } [.int x0] T O X (Ti D cs (fun r u => u = (T, O, X) ∧ 1024 ≤ r.toInt ∧ r.toInt ≤ 1024)) := by
  refine tk_of (by decide) (Nat.le_of_ble_eq_true rfl) (fun p e s m below meth c ls A H locs hx hb hr hml hown hts hlocks hnm hkb hH hS hA hOX hks hE hl => ?_)
  have hown : s.vm.findClass RJ6 = some m.cls := hown
  have hl : lv_has ls 1 [(0, .int x0)] := hl
  refine lv_iload_n hx hb dJ6_highestOneBit_0f7a4_0 rfl (lv_at hl 0 rfl) ?_
  refine lv_ldc hx hb hown (hts _ kw_1083) dJ6_highestOneBit_0f7a4_1 ?_
  refine lv_iload_n hx hb dJ6_highestOneBit_0f7a4_3 rfl (lv_at hl 0 rfl) ?_
  refine tk_i hH hS hA (tr_S (n := 1) (As := [.int x0]) hx hb hml hown hts hkb hH hOX hks hE hS hA (s_nlz_10 l D cs kf T O X x0 (by omega) (by omega) (hO.sub (by decide))) kw_1084 kw_1085 kw_20 kw_1086 (by decide +kernel) ⟨Nat.le_of_ble_eq_true rfl, Nat.le_of_ble_eq_true rfl⟩ rfl rfl hl.1 (Nat.le_of_ble_eq_true rfl) dJ6_highestOneBit_0f7a4_4 ⟨Nat.le_of_ble_eq_true rfl, Nat.le_of_ble_eq_true rfl⟩) (fun v4 u H locs hz9 hH hS => ?_)
  obtain ⟨rfl, l_v4, u_v4⟩ := hz9
  refine lv_topc (y := 21) (eq_c (by decide) l_v4 u_v4) ?_
  have hH : HT D cs A T O X H := hH
  refine W.widen (k := 0) (n := 0) (Nat.le_of_ble_eq_true rfl) (Nat.le_of_ble_eq_true rfl) ?_
  refine lv_iushr hx hb dJ6_highestOneBit_0f7a4_7 rfl ?_
  refine lv_topc (y := 1024) (by decide +kernel) ?_
  refine lv_iand hx hb dJ6_highestOneBit_0f7a4_8 ?_
  refine lv_topi (fun v8 ev8 => ?_)
  have tv8 : v8.toInt = 1024 := by rw [ev8]; exact and_pow 10 (by decide) (by decide) (by omega) (by omega)
  exact te_i hx hb hr hlocks hH hS (⟨rfl, by omega, by omega⟩) dJ6_highestOneBit_0f7a4_9
set_option maxHeartbeats 4000000 in
set_option maxRecDepth 100000 in
theorem s_hob_11 (l : Launch) (D : va_G) (cs : CS) (kf : KF) (T : TF) (O : List Nat) (X : va_W) (x0 : Int32) (l_x0 : 2048 ≤ x0.toInt) (u_x0 : x0.toInt ≤ 4095) (hO : okO T O []) : TK l D cs kf yJ6_highestOneBit_0f7a4 cJ6_highestOneBit_0f7a4 1 (some (.int)) { frames := 1, cells := 0, slots := 0, locals := 21 } [.int x0] T O X (Ti D cs (fun r u => u = (T, O, X) ∧ 2048 ≤ r.toInt ∧ r.toInt ≤ 2048)) := by
  refine tk_of (by decide) (Nat.le_of_ble_eq_true rfl) (fun p e s m below meth c ls A H locs hx hb hr hml hown hts hlocks hnm hkb hH hS hA hOX hks hE hl => ?_)
  have hown : s.vm.findClass RJ6 = some m.cls := hown
  have hl : lv_has ls 1 [(0, .int x0)] := hl
  refine lv_iload_n hx hb dJ6_highestOneBit_0f7a4_0 rfl (lv_at hl 0 rfl) ?_
  refine lv_ldc hx hb hown (hts _ kw_1083) dJ6_highestOneBit_0f7a4_1 ?_
  refine lv_iload_n hx hb dJ6_highestOneBit_0f7a4_3 rfl (lv_at hl 0 rfl) ?_
  refine tk_i hH hS hA (tr_S (n := 1) (As := [.int x0]) hx hb hml hown hts hkb hH hOX hks hE hS hA (s_nlz_11 l D cs kf T O X x0 (by omega) (by omega) (hO.sub (by decide))) kw_1084 kw_1085 kw_20 kw_1086 (by decide +kernel) ⟨Nat.le_of_ble_eq_true rfl, Nat.le_of_ble_eq_true rfl⟩ rfl rfl hl.1 (Nat.le_of_ble_eq_true rfl) dJ6_highestOneBit_0f7a4_4 ⟨Nat.le_of_ble_eq_true rfl, Nat.le_of_ble_eq_true rfl⟩) (fun v4 u H locs hz9 hH hS => ?_)
  obtain ⟨rfl, l_v4, u_v4⟩ := hz9
  refine lv_topc (y := 20) (eq_c (by decide) l_v4 u_v4) ?_
  have hH : HT D cs A T O X H := hH
  refine W.widen (k := 0) (n := 0) (Nat.le_of_ble_eq_true rfl) (Nat.le_of_ble_eq_true rfl) ?_
  refine lv_iushr hx hb dJ6_highestOneBit_0f7a4_7 rfl ?_
  refine lv_topc (y := 2048) (by decide +kernel) ?_
  refine lv_iand hx hb dJ6_highestOneBit_0f7a4_8 ?_
  refine lv_topi (fun v8 ev8 => ?_)
  have tv8 : v8.toInt = 2048 := by rw [ev8]; exact and_pow 11 (by decide) (by decide) (by omega) (by omega)
  exact te_i hx hb hr hlocks hH hS (⟨rfl, by omega, by omega⟩) dJ6_highestOneBit_0f7a4_9
set_option maxHeartbeats 4000000 in
set_option maxRecDepth 100000 in
theorem s_hob_12 (l : Launch) (D : va_G) (cs : CS) (kf : KF) (T : TF) (O : List Nat) (X : va_W) (x0 : Int32) (l_x0 : 4096 ≤ x0.toInt) (u_x0 : x0.toInt ≤ 8191) (hO : okO T O []) : TK l D cs kf yJ6_highestOneBit_0f7a4 cJ6_highestOneBit_0f7a4 1 (some (.int)) { frames := 1, cells := 0, slots := 0, locals := 21 } [.int x0] T O X (Ti D cs (fun r u => u = (T, O, X) ∧ 4096 ≤ r.toInt ∧ r.toInt ≤ 4096)) := by
  refine tk_of (by decide) (Nat.le_of_ble_eq_true rfl) (fun p e s m below meth c ls A H locs hx hb hr hml hown hts hlocks hnm hkb hH hS hA hOX hks hE hl => ?_)
  have hown : s.vm.findClass RJ6 = some m.cls := hown
  have hl : lv_has ls 1 [(0, .int x0)] := hl
  refine lv_iload_n hx hb dJ6_highestOneBit_0f7a4_0 rfl (lv_at hl 0 rfl) ?_
  refine lv_ldc hx hb hown (hts _ kw_1083) dJ6_highestOneBit_0f7a4_1 ?_
  refine lv_iload_n hx hb dJ6_highestOneBit_0f7a4_3 rfl (lv_at hl 0 rfl) ?_
  refine tk_i hH hS hA (tr_S (n := 1) (As := [.int x0]) hx hb hml hown hts hkb hH hOX hks hE hS hA (s_nlz_12 l D cs kf T O X x0 (by omega) (by omega) (hO.sub (by decide))) kw_1084 kw_1085 kw_20 kw_1086 (by decide +kernel) ⟨Nat.le_of_ble_eq_true rfl, Nat.le_of_ble_eq_true rfl⟩ rfl rfl hl.1 (Nat.le_of_ble_eq_true rfl) dJ6_highestOneBit_0f7a4_4 ⟨Nat.le_of_ble_eq_true rfl, Nat.le_of_ble_eq_true rfl⟩) (fun v4 u H locs hz9 hH hS => ?_)
  obtain ⟨rfl, l_v4, u_v4⟩ := hz9
  refine lv_topc (y := 19) (eq_c (by decide) l_v4 u_v4) ?_
  have hH : HT D cs A T O X H := hH
  refine W.widen (k := 0) (n := 0) (Nat.le_of_ble_eq_true rfl) (Nat.le_of_ble_eq_true rfl) ?_
  refine lv_iushr hx hb dJ6_highestOneBit_0f7a4_7 rfl ?_
  refine lv_topc (y := 4096) (by decide +kernel) ?_
  refine lv_iand hx hb dJ6_highestOneBit_0f7a4_8 ?_
  refine lv_topi (fun v8 ev8 => ?_)
  have tv8 : v8.toInt = 4096 := by rw [ev8]; exact and_pow 12 (by decide) (by decide) (by omega) (by omega)
  exact te_i hx hb hr hlocks hH hS (⟨rfl, by omega, by omega⟩) dJ6_highestOneBit_0f7a4_9
set_option maxHeartbeats 4000000 in
set_option maxRecDepth 100000 in
theorem s_hob_13 (l : Launch) (D : va_G) (cs : CS) (kf : KF) (T : TF) (O : List Nat) (X : va_W) (x0 : Int32) (l_x0 : 8192 ≤ x0.toInt) (u_x0 : x0.toInt ≤ 16383) (hO : okO T O []) : TK l D cs kf yJ6_highestOneBit_0f7a4 cJ6_highestOneBit_0f7a4 1 (some (.int)) { frames := 1, cells := 0, slots := 0, locals := 21 } [.int x0] T O X (Ti D cs (fun r u => u = (T, O, X) ∧ 8192 ≤ r.toInt ∧ r.toInt ≤ 8192)) := by
  refine tk_of (by decide) (Nat.le_of_ble_eq_true rfl) (fun p e s m below meth c ls A H locs hx hb hr hml hown hts hlocks hnm hkb hH hS hA hOX hks hE hl => ?_)
  have hown : s.vm.findClass RJ6 = some m.cls := hown
  have hl : lv_has ls 1 [(0, .int x0)] := hl
  refine lv_iload_n hx hb dJ6_highestOneBit_0f7a4_0 rfl (lv_at hl 0 rfl) ?_
  refine lv_ldc hx hb hown (hts _ kw_1083) dJ6_highestOneBit_0f7a4_1 ?_
  refine lv_iload_n hx hb dJ6_highestOneBit_0f7a4_3 rfl (lv_at hl 0 rfl) ?_
  refine tk_i hH hS hA (tr_S (n := 1) (As := [.int x0]) hx hb hml hown hts hkb hH hOX hks hE hS hA (s_nlz_13 l D cs kf T O X x0 (by omega) (by omega) (hO.sub (by decide))) kw_1084 kw_1085 kw_20 kw_1086 (by decide +kernel) ⟨Nat.le_of_ble_eq_true rfl, Nat.le_of_ble_eq_true rfl⟩ rfl rfl hl.1 (Nat.le_of_ble_eq_true rfl) dJ6_highestOneBit_0f7a4_4 ⟨Nat.le_of_ble_eq_true rfl, Nat.le_of_ble_eq_true rfl⟩) (fun v4 u H locs hz9 hH hS => ?_)
  obtain ⟨rfl, l_v4, u_v4⟩ := hz9
  refine lv_topc (y := 18) (eq_c (by decide) l_v4 u_v4) ?_
  have hH : HT D cs A T O X H := hH
  refine W.widen (k := 0) (n := 0) (Nat.le_of_ble_eq_true rfl) (Nat.le_of_ble_eq_true rfl) ?_
  refine lv_iushr hx hb dJ6_highestOneBit_0f7a4_7 rfl ?_
  refine lv_topc (y := 8192) (by decide +kernel) ?_
  refine lv_iand hx hb dJ6_highestOneBit_0f7a4_8 ?_
  refine lv_topi (fun v8 ev8 => ?_)
  have tv8 : v8.toInt = 8192 := by rw [ev8]; exact and_pow 13 (by decide) (by decide) (by omega) (by omega)
  exact te_i hx hb hr hlocks hH hS (⟨rfl, by omega, by omega⟩) dJ6_highestOneBit_0f7a4_9
theorem s_hob (l : Launch) (D : va_G) (cs : CS) (kf : KF) (T : TF) (O : List Nat) (X : va_W) (x0 : Int32) (l_x0 : 0 ≤ x0.toInt) (u_x0 : x0.toInt ≤ 16383) (hO : okO T O []) : TK l D cs kf yJ6_highestOneBit_0f7a4 cJ6_highestOneBit_0f7a4 1 (some (.int)) { frames := 1, cells := 0, slots := 0, locals := 21 } [.int x0] T O X (Ti D cs (fun r u => u = (T, O, X) ∧ 0 ≤ r.toInt ∧ r.toInt ≤ 8192 ∧ (r.toInt ≤ x0.toInt) ∧ (x0.toInt < 2 * r.toInt ∨ x0.toInt = 0) ∧ (hobP x0.toInt r.toInt))) := by
  by_cases c0 : x0.toInt ≤ 0
  · exact TK.mono (s_hob_z l D cs kf T O X x0 (by omega) (by omega) hO) (fun r u h => ⟨h.1, by have := h.2; omega, by have := h.2; omega, by have := h.2; omega, by have := h.2; omega, by have := h.2; exact Or.inl ⟨by omega, by omega⟩⟩)
  by_cases c1 : x0.toInt ≤ 1
  · exact TK.mono (s_hob_0 l D cs kf T O X x0 (by omega) (by omega) hO) (fun r u h => ⟨h.1, by have := h.2; omega, by have := h.2; omega, by have := h.2; omega, by have := h.2; omega, by have := h.2; exact Or.inr ⟨0, by decide, by omega⟩⟩)
  by_cases c2 : x0.toInt ≤ 3
  · exact TK.mono (s_hob_1 l D cs kf T O X x0 (by omega) (by omega) hO) (fun r u h => ⟨h.1, by have := h.2; omega, by have := h.2; omega, by have := h.2; omega, by have := h.2; omega, by have := h.2; exact Or.inr ⟨1, by decide, by omega⟩⟩)
  by_cases c3 : x0.toInt ≤ 7
  · exact TK.mono (s_hob_2 l D cs kf T O X x0 (by omega) (by omega) hO) (fun r u h => ⟨h.1, by have := h.2; omega, by have := h.2; omega, by have := h.2; omega, by have := h.2; omega, by have := h.2; exact Or.inr ⟨2, by decide, by omega⟩⟩)
  by_cases c4 : x0.toInt ≤ 15
  · exact TK.mono (s_hob_3 l D cs kf T O X x0 (by omega) (by omega) hO) (fun r u h => ⟨h.1, by have := h.2; omega, by have := h.2; omega, by have := h.2; omega, by have := h.2; omega, by have := h.2; exact Or.inr ⟨3, by decide, by omega⟩⟩)
  by_cases c5 : x0.toInt ≤ 31
  · exact TK.mono (s_hob_4 l D cs kf T O X x0 (by omega) (by omega) hO) (fun r u h => ⟨h.1, by have := h.2; omega, by have := h.2; omega, by have := h.2; omega, by have := h.2; omega, by have := h.2; exact Or.inr ⟨4, by decide, by omega⟩⟩)
  by_cases c6 : x0.toInt ≤ 63
  · exact TK.mono (s_hob_5 l D cs kf T O X x0 (by omega) (by omega) hO) (fun r u h => ⟨h.1, by have := h.2; omega, by have := h.2; omega, by have := h.2; omega, by have := h.2; omega, by have := h.2; exact Or.inr ⟨5, by decide, by omega⟩⟩)
  by_cases c7 : x0.toInt ≤ 127
  · exact TK.mono (s_hob_6 l D cs kf T O X x0 (by omega) (by omega) hO) (fun r u h => ⟨h.1, by have := h.2; omega, by have := h.2; omega, by have := h.2; omega, by have := h.2; omega, by have := h.2; exact Or.inr ⟨6, by decide, by omega⟩⟩)
  by_cases c8 : x0.toInt ≤ 255
  · exact TK.mono (s_hob_7 l D cs kf T O X x0 (by omega) (by omega) hO) (fun r u h => ⟨h.1, by have := h.2; omega, by have := h.2; omega, by have := h.2; omega, by have := h.2; omega, by have := h.2; exact Or.inr ⟨7, by decide, by omega⟩⟩)
  by_cases c9 : x0.toInt ≤ 511
  · exact TK.mono (s_hob_8 l D cs kf T O X x0 (by omega) (by omega) hO) (fun r u h => ⟨h.1, by have := h.2; omega, by have := h.2; omega, by have := h.2; omega, by have := h.2; omega, by have := h.2; exact Or.inr ⟨8, by decide, by omega⟩⟩)
  by_cases c10 : x0.toInt ≤ 1023
  · exact TK.mono (s_hob_9 l D cs kf T O X x0 (by omega) (by omega) hO) (fun r u h => ⟨h.1, by have := h.2; omega, by have := h.2; omega, by have := h.2; omega, by have := h.2; omega, by have := h.2; exact Or.inr ⟨9, by decide, by omega⟩⟩)
  by_cases c11 : x0.toInt ≤ 2047
  · exact TK.mono (s_hob_10 l D cs kf T O X x0 (by omega) (by omega) hO) (fun r u h => ⟨h.1, by have := h.2; omega, by have := h.2; omega, by have := h.2; omega, by have := h.2; omega, by have := h.2; exact Or.inr ⟨10, by decide, by omega⟩⟩)
  by_cases c12 : x0.toInt ≤ 4095
  · exact TK.mono (s_hob_11 l D cs kf T O X x0 (by omega) (by omega) hO) (fun r u h => ⟨h.1, by have := h.2; omega, by have := h.2; omega, by have := h.2; omega, by have := h.2; omega, by have := h.2; exact Or.inr ⟨11, by decide, by omega⟩⟩)
  by_cases c13 : x0.toInt ≤ 8191
  · exact TK.mono (s_hob_12 l D cs kf T O X x0 (by omega) (by omega) hO) (fun r u h => ⟨h.1, by have := h.2; omega, by have := h.2; omega, by have := h.2; omega, by have := h.2; omega, by have := h.2; exact Or.inr ⟨12, by decide, by omega⟩⟩)
  exact TK.mono (s_hob_13 l D cs kf T O X x0 (by omega) (by omega) hO) (fun r u h => ⟨h.1, by have := h.2; omega, by have := h.2; omega, by have := h.2; omega, by have := h.2; omega, by have := h.2; exact Or.inr ⟨13, by decide, by omega⟩⟩)
theorem dJ7_copyOf_59c91_0 : decode cJ7_copyOf_59c91 0 = .ok (.iload_n 1, 1) := by decide +kernel
theorem dJ7_copyOf_59c91_1 : decode cJ7_copyOf_59c91 1 = .ok (.aload_n 0, 1) := by decide +kernel
theorem dJ7_copyOf_59c91_2 : decode cJ7_copyOf_59c91 2 = .ok (.arraylength, 1) := by decide +kernel
theorem dJ7_copyOf_59c91_3 : decode cJ7_copyOf_59c91 3 = .ok (.if_icmp .ne 11, 3) := by decide +kernel
theorem dJ7_copyOf_59c91_6 : decode cJ7_copyOf_59c91 6 = .ok (.aload_n 0, 1) := by decide +kernel
theorem dJ7_copyOf_59c91_7 : decode cJ7_copyOf_59c91 7 = .ok (.invokevirtual 316, 3) := by decide +kernel
theorem dJ7_copyOf_59c91_10 : decode cJ7_copyOf_59c91 10 = .ok (.checkcast 317, 3) := by decide +kernel
theorem dJ7_copyOf_59c91_13 : decode cJ7_copyOf_59c91 13 = .ok (.areturn, 1) := by decide +kernel
theorem dJ7_copyOf_59c91_14 : decode cJ7_copyOf_59c91 14 = .ok (.iload_n 1, 1) := by decide +kernel
theorem dJ7_copyOf_59c91_15 : decode cJ7_copyOf_59c91 15 = .ok (.newarray .int, 2) := by decide +kernel
theorem dJ7_copyOf_59c91_17 : decode cJ7_copyOf_59c91 17 = .ok (.astore_n 2, 1) := by decide +kernel
theorem dJ7_copyOf_59c91_18 : decode cJ7_copyOf_59c91 18 = .ok (.aload_n 0, 1) := by decide +kernel
theorem dJ7_copyOf_59c91_19 : decode cJ7_copyOf_59c91 19 = .ok (.iconst 0, 1) := by decide +kernel
theorem dJ7_copyOf_59c91_20 : decode cJ7_copyOf_59c91 20 = .ok (.aload_n 2, 1) := by decide +kernel
theorem dJ7_copyOf_59c91_21 : decode cJ7_copyOf_59c91 21 = .ok (.iconst 0, 1) := by decide +kernel
theorem dJ7_copyOf_59c91_22 : decode cJ7_copyOf_59c91 22 = .ok (.aload_n 0, 1) := by decide +kernel
theorem dJ7_copyOf_59c91_23 : decode cJ7_copyOf_59c91 23 = .ok (.arraylength, 1) := by decide +kernel
theorem dJ7_copyOf_59c91_24 : decode cJ7_copyOf_59c91 24 = .ok (.iload_n 1, 1) := by decide +kernel
theorem dJ7_copyOf_59c91_25 : decode cJ7_copyOf_59c91 25 = .ok (.invokestatic 304, 3) := by decide +kernel
theorem dJ7_copyOf_59c91_28 : decode cJ7_copyOf_59c91 28 = .ok (.invokestatic 150, 3) := by decide +kernel
theorem dJ7_copyOf_59c91_31 : decode cJ7_copyOf_59c91 31 = .ok (.aload_n 2, 1) := by decide +kernel
theorem dJ7_copyOf_59c91_32 : decode cJ7_copyOf_59c91 32 = .ok (.areturn, 1) := by decide +kernel
theorem dX2_init_0 : decode cX2_init 0 = .ok (.aload_n 0, 1) := by decide +kernel
theorem dX2_init_1 : decode cX2_init 1 = .ok (.invokespecial 1, 3) := by decide +kernel
theorem dX2_init_4 : decode cX2_init 4 = .ok (.aload_n 0, 1) := by decide +kernel
theorem dX2_init_5 : decode cX2_init 5 = .ok (.bipush 8, 2) := by decide +kernel
theorem dX2_init_7 : decode cX2_init 7 = .ok (.newarray .int, 2) := by decide +kernel
theorem dX2_init_9 : decode cX2_init 9 = .ok (.putfield 9, 3) := by decide +kernel
theorem dX2_init_12 : decode cX2_init 12 = .ok (.aload_n 0, 1) := by decide +kernel
theorem dX2_init_13 : decode cX2_init 13 = .ok (.bipush 24, 2) := by decide +kernel
theorem dX2_init_15 : decode cX2_init 15 = .ok (.newarray .int, 2) := by decide +kernel
theorem dX2_init_17 : decode cX2_init 17 = .ok (.putfield 13, 3) := by decide +kernel
theorem dX2_init_20 : decode cX2_init 20 = .ok (.aload_n 0, 1) := by decide +kernel
theorem dX2_init_21 : decode cX2_init 21 = .ok (.aload_n 1, 1) := by decide +kernel
theorem dX2_init_22 : decode cX2_init 22 = .ok (.putfield 16, 3) := by decide +kernel
theorem dX2_init_25 : decode cX2_init 25 = .ok (.return_, 1) := by decide +kernel
theorem dX3_made_0 : decode cX3_made 0 = .ok (.new 27, 3) := by decide +kernel
theorem dX3_made_3 : decode cX3_made 3 = .ok (.dup, 1) := by decide +kernel
theorem dX3_made_4 : decode cX3_made 4 = .ok (.aload_n 0, 1) := by decide +kernel
theorem dX3_made_5 : decode cX3_made 5 = .ok (.getfield 9, 3) := by decide +kernel
theorem dX3_made_8 : decode cX3_made 8 = .ok (.aload_n 0, 1) := by decide +kernel
theorem dX3_made_9 : decode cX3_made 9 = .ok (.getfield 15, 3) := by decide +kernel
theorem dX3_made_12 : decode cX3_made 12 = .ok (.invokestatic 29, 3) := by decide +kernel
theorem dX3_made_15 : decode cX3_made 15 = .ok (.invokespecial 35, 3) := by decide +kernel
theorem dX3_made_18 : decode cX3_made 18 = .ok (.areturn, 1) := by decide +kernel
theorem kw_22 : Cond.initialized "java/util/Arrays" ∈ gw := gw_of (tb_of 22 (by decide +kernel)) (by decide +kernel)
theorem kw_30 : Cond.instanceMethod objectInit ∈ gw := gw_of (tb_of 30 (by decide +kernel)) (by decide +kernel)
theorem kw_31 : Cond.code objectInit ⟨#[0xb1]⟩ 1 none ∈ gw := gw_of (tb_of 31 (by decide +kernel)) (by decide +kernel)
theorem kw_92 : Cond.arrayClass .int ∈ gw := gw_of (tb_of 92 (by decide +kernel)) (by decide +kernel)
theorem kw_719 : Cond.classLink "FootholdWall$LawReader" 27 "FootholdWall$Law" ∈ gw := gw_of (tb_of 719 (by decide +kernel)) (by decide +kernel)
theorem kw_720 : Cond.instantiable "FootholdWall$Law" 3 ∈ gw := gw_of (tb_of 720 (by decide +kernel)) (by decide +kernel)
theorem kw_721 : Cond.methodLink "FootholdWall$LawReader" 29 yJ7_copyOf_59c91 ∈ gw := gw_of (tb_of 721 (by decide +kernel)) (by decide +kernel)
theorem kw_722 : Cond.static yJ7_copyOf_59c91 ∈ gw := gw_of (tb_of 722 (by decide +kernel)) (by decide +kernel)
theorem kw_723 : Cond.code yJ7_copyOf_59c91 cJ7_copyOf_59c91 3 (some (.array .int)) ∈ gw := gw_of (tb_of 723 (by decide +kernel)) (by decide +kernel)
theorem kw_724 : Cond.methodLink "java/util/Arrays" 316 ⟨"[I", "clone", "()Ljava/lang/Object;"⟩ ∈ gw := gw_of (tb_of 724 (by decide +kernel)) (by decide +kernel)
theorem kw_725 : Cond.sameMethod "[I" "java/lang/Object" "clone" "()Ljava/lang/Object;" ∈ gw := gw_of (tb_of 725 (by decide +kernel)) (by decide +kernel)
theorem kw_726 : Cond.native ⟨"java/lang/Object", "clone", "()Ljava/lang/Object;"⟩ ∈ gw := gw_of (tb_of 726 (by decide +kernel)) (by decide +kernel)
theorem kw_727 : Cond.instanceMethod ⟨"java/lang/Object", "clone", "()Ljava/lang/Object;"⟩ ∈ gw := gw_of (tb_of 727 (by decide +kernel)) (by decide +kernel)
theorem kw_728 : Cond.selects "[I" ⟨"[I", "clone", "()Ljava/lang/Object;"⟩ ⟨"java/lang/Object", "clone", "()Ljava/lang/Object;"⟩ ∈ gw := gw_of (tb_of 728 (by decide +kernel)) (by decide +kernel)
theorem kw_730 : Cond.classLink "java/util/Arrays" 317 "[I" ∈ gw := gw_of (tb_of 730 (by decide +kernel)) (by decide +kernel)
theorem kw_731 : Cond.methodLink "java/util/Arrays" 304 Lib.Math.min.name ∈ gw := gw_of (tb_of 731 (by decide +kernel)) (by decide +kernel)
theorem kw_732 : Cond.methodLink "java/util/Arrays" 150 arraycopyName ∈ gw := gw_of (tb_of 732 (by decide +kernel)) (by decide +kernel)
theorem kw_735 : Cond.methodLink "FootholdWall$LawReader" 35 yX2_init ∈ gw := gw_of (tb_of 735 (by decide +kernel)) (by decide +kernel)
theorem kw_736 : Cond.instanceMethod yX2_init ∈ gw := gw_of (tb_of 736 (by decide +kernel)) (by decide +kernel)
theorem kw_737 : Cond.code yX2_init cX2_init 2 none ∈ gw := gw_of (tb_of 737 (by decide +kernel)) (by decide +kernel)
theorem kw_738 : Cond.methodLink "FootholdWall$Law" 1 objectInit ∈ gw := gw_of (tb_of 738 (by decide +kernel)) (by decide +kernel)
