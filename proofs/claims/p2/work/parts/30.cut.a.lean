theorem dX1_fewest_0 : decode cX1_fewest 0 = .ok (.iload_n 2, 1) := by decide +kernel
theorem dX1_fewest_1 : decode cX1_fewest 1 = .ok (.aload_n 1, 1) := by decide +kernel
theorem dX1_fewest_2 : decode cX1_fewest 2 = .ok (.getfield 34, 3) := by decide +kernel
theorem dX1_fewest_5 : decode cX1_fewest 5 = .ok (.getfield 40, 3) := by decide +kernel
theorem dX1_fewest_8 : decode cX1_fewest 8 = .ok (.iand, 1) := by decide +kernel
theorem dX1_fewest_9 : decode cX1_fewest 9 = .ok (.istore 4, 2) := by decide +kernel
theorem dX1_fewest_11 : decode cX1_fewest 11 = .ok (.iload_n 2, 1) := by decide +kernel
theorem dX1_fewest_12 : decode cX1_fewest 12 = .ok (.iload 4, 2) := by decide +kernel
theorem dX1_fewest_14 : decode cX1_fewest 14 = .ok (.iconst (-1), 1) := by decide +kernel
theorem dX1_fewest_15 : decode cX1_fewest 15 = .ok (.ixor, 1) := by decide +kernel
theorem dX1_fewest_16 : decode cX1_fewest 16 = .ok (.iand, 1) := by decide +kernel
theorem dX1_fewest_17 : decode cX1_fewest 17 = .ok (.iload_n 3, 1) := by decide +kernel
theorem dX1_fewest_18 : decode cX1_fewest 18 = .ok (.iconst (-1), 1) := by decide +kernel
theorem dX1_fewest_19 : decode cX1_fewest 19 = .ok (.ixor, 1) := by decide +kernel
theorem dX1_fewest_20 : decode cX1_fewest 20 = .ok (.iand, 1) := by decide +kernel
theorem dX1_fewest_21 : decode cX1_fewest 21 = .ok (.istore 5, 2) := by decide +kernel
theorem dX1_fewest_23 : decode cX1_fewest 23 = .ok (.aload_n 1, 1) := by decide +kernel
theorem dX1_fewest_24 : decode cX1_fewest 24 = .ok (.iload_n 2, 1) := by decide +kernel
theorem dX1_fewest_25 : decode cX1_fewest 25 = .ok (.aload_n 1, 1) := by decide +kernel
theorem dX1_fewest_26 : decode cX1_fewest 26 = .ok (.getfield 34, 3) := by decide +kernel
theorem dX1_fewest_29 : decode cX1_fewest 29 = .ok (.getfield 45, 3) := by decide +kernel
theorem dX1_fewest_32 : decode cX1_fewest 32 = .ok (.iand, 1) := by decide +kernel
theorem dX1_fewest_33 : decode cX1_fewest 33 = .ok (.iload 5, 2) := by decide +kernel
theorem dX1_fewest_35 : decode cX1_fewest 35 = .ok (.iload_n 2, 1) := by decide +kernel
theorem dX1_fewest_36 : decode cX1_fewest 36 = .ok (.iconst 0, 1) := by decide +kernel
theorem dX1_fewest_37 : decode cX1_fewest 37 = .ok (.invokevirtual 48, 3) := by decide +kernel
theorem dX1_fewest_40 : decode cX1_fewest 40 = .ok (.istore 6, 2) := by decide +kernel
theorem dX1_fewest_42 : decode cX1_fewest 42 = .ok (.iload 6, 2) := by decide +kernel
theorem dX1_fewest_44 : decode cX1_fewest 44 = .ok (.iload 4, 2) := by decide +kernel
theorem dX1_fewest_46 : decode cX1_fewest 46 = .ok (.iand, 1) := by decide +kernel
theorem dX1_fewest_47 : decode cX1_fewest 47 = .ok (.ifCond .eq 6, 3) := by decide +kernel
theorem dX1_fewest_50 : decode cX1_fewest 50 = .ok (.bipush 99, 2) := by decide +kernel
theorem dX1_fewest_52 : decode cX1_fewest 52 = .ok (.ireturn, 1) := by decide +kernel
theorem dX1_fewest_53 : decode cX1_fewest 53 = .ok (.iconst 0, 1) := by decide +kernel
theorem dX1_fewest_54 : decode cX1_fewest 54 = .ok (.istore 7, 2) := by decide +kernel
theorem dX1_fewest_56 : decode cX1_fewest 56 = .ok (.iload 7, 2) := by decide +kernel
theorem dX1_fewest_58 : decode cX1_fewest 58 = .ok (.bipush 14, 2) := by decide +kernel
theorem dX1_fewest_60 : decode cX1_fewest 60 = .ok (.if_icmp .ge 54, 3) := by decide +kernel
theorem dX1_fewest_63 : decode cX1_fewest 63 = .ok (.iload_n 2, 1) := by decide +kernel
theorem dX1_fewest_64 : decode cX1_fewest 64 = .ok (.iload_n 3, 1) := by decide +kernel
theorem dX1_fewest_65 : decode cX1_fewest 65 = .ok (.iand, 1) := by decide +kernel
theorem dX1_fewest_66 : decode cX1_fewest 66 = .ok (.iconst 1, 1) := by decide +kernel
theorem dX1_fewest_67 : decode cX1_fewest 67 = .ok (.iload 7, 2) := by decide +kernel
theorem dX1_fewest_69 : decode cX1_fewest 69 = .ok (.ishl, 1) := by decide +kernel
theorem dX1_fewest_70 : decode cX1_fewest 70 = .ok (.iand, 1) := by decide +kernel
theorem dX1_fewest_71 : decode cX1_fewest 71 = .ok (.ifCond .eq 37, 3) := by decide +kernel
theorem dX1_fewest_74 : decode cX1_fewest 74 = .ok (.aload_n 0, 1) := by decide +kernel
theorem dX1_fewest_75 : decode cX1_fewest 75 = .ok (.getfield 9, 3) := by decide +kernel
theorem dX1_fewest_78 : decode cX1_fewest 78 = .ok (.iload 7, 2) := by decide +kernel
theorem dX1_fewest_80 : decode cX1_fewest 80 = .ok (.aload_n 1, 1) := by decide +kernel
theorem dX1_fewest_81 : decode cX1_fewest 81 = .ok (.aload_n 1, 1) := by decide +kernel
theorem dX1_fewest_82 : decode cX1_fewest 82 = .ok (.iload 7, 2) := by decide +kernel
theorem dX1_fewest_84 : decode cX1_fewest 84 = .ok (.iload_n 2, 1) := by decide +kernel
theorem dX1_fewest_85 : decode cX1_fewest 85 = .ok (.invokevirtual 52, 3) := by decide +kernel
theorem dX1_fewest_88 : decode cX1_fewest 88 = .ok (.iload 5, 2) := by decide +kernel
theorem dX1_fewest_90 : decode cX1_fewest 90 = .ok (.iload_n 2, 1) := by decide +kernel
theorem dX1_fewest_91 : decode cX1_fewest 91 = .ok (.iconst 0, 1) := by decide +kernel
theorem dX1_fewest_92 : decode cX1_fewest 92 = .ok (.invokevirtual 48, 3) := by decide +kernel
theorem dX1_fewest_95 : decode cX1_fewest 95 = .ok (.iload_n 3, 1) := by decide +kernel
theorem dX1_fewest_96 : decode cX1_fewest 96 = .ok (.iload 4, 2) := by decide +kernel
theorem dX1_fewest_98 : decode cX1_fewest 98 = .ok (.ior, 1) := by decide +kernel
theorem dX1_fewest_99 : decode cX1_fewest 99 = .ok (.iand, 1) := by decide +kernel
theorem dX1_fewest_100 : decode cX1_fewest 100 = .ok (.iconst 1, 1) := by decide +kernel
theorem dX1_fewest_101 : decode cX1_fewest 101 = .ok (.iload 7, 2) := by decide +kernel
theorem dX1_fewest_103 : decode cX1_fewest 103 = .ok (.ishl, 1) := by decide +kernel
theorem dX1_fewest_104 : decode cX1_fewest 104 = .ok (.iconst (-1), 1) := by decide +kernel
theorem dX1_fewest_105 : decode cX1_fewest 105 = .ok (.ixor, 1) := by decide +kernel
theorem dX1_fewest_106 : decode cX1_fewest 106 = .ok (.iand, 1) := by decide +kernel
theorem dX1_fewest_107 : decode cX1_fewest 107 = .ok (.iastore, 1) := by decide +kernel
theorem dX1_fewest_108 : decode cX1_fewest 108 = .ok (.iinc 7 1, 3) := by decide +kernel
theorem dX1_fewest_111 : decode cX1_fewest 111 = .ok (.goto (-55), 3) := by decide +kernel
theorem dX1_fewest_114 : decode cX1_fewest 114 = .ok (.aload_n 0, 1) := by decide +kernel
theorem dX1_fewest_115 : decode cX1_fewest 115 = .ok (.iconst 0, 1) := by decide +kernel
theorem dX1_fewest_116 : decode cX1_fewest 116 = .ok (.putfield 18, 3) := by decide +kernel
theorem dX1_fewest_119 : decode cX1_fewest 119 = .ok (.iconst 0, 1) := by decide +kernel
theorem dX1_fewest_120 : decode cX1_fewest 120 = .ok (.istore 7, 2) := by decide +kernel
theorem dX1_fewest_122 : decode cX1_fewest 122 = .ok (.iload 7, 2) := by decide +kernel
theorem dX1_fewest_124 : decode cX1_fewest 124 = .ok (.bipush 14, 2) := by decide +kernel
theorem dX1_fewest_126 : decode cX1_fewest 126 = .ok (.if_icmp .ge 22, 3) := by decide +kernel
theorem dX1_fewest_129 : decode cX1_fewest 129 = .ok (.aload_n 0, 1) := by decide +kernel
theorem dX1_fewest_130 : decode cX1_fewest 130 = .ok (.iload 6, 2) := by decide +kernel
theorem dX1_fewest_132 : decode cX1_fewest 132 = .ok (.iload_n 3, 1) := by decide +kernel
theorem dX1_fewest_133 : decode cX1_fewest 133 = .ok (.iand, 1) := by decide +kernel
theorem dX1_fewest_134 : decode cX1_fewest 134 = .ok (.iload 4, 2) := by decide +kernel
theorem dX1_fewest_136 : decode cX1_fewest 136 = .ok (.invokevirtual 56, 3) := by decide +kernel
theorem dX1_fewest_139 : decode cX1_fewest 139 = .ok (.ifCond .eq 9, 3) := by decide +kernel
theorem dX1_fewest_142 : decode cX1_fewest 142 = .ok (.iinc 7 1, 3) := by decide +kernel
theorem dX1_fewest_145 : decode cX1_fewest 145 = .ok (.goto (-23), 3) := by decide +kernel
theorem dX1_fewest_148 : decode cX1_fewest 148 = .ok (.iload 7, 2) := by decide +kernel
theorem dX1_fewest_150 : decode cX1_fewest 150 = .ok (.ireturn, 1) := by decide +kernel
theorem dX1_lay_0 : decode cX1_lay 0 = .ok (.iload_n 1, 1) := by decide +kernel
theorem dX1_lay_1 : decode cX1_lay 1 = .ok (.istore_n 2, 1) := by decide +kernel
theorem dX1_lay_2 : decode cX1_lay 2 = .ok (.iconst 0, 1) := by decide +kernel
theorem dX1_lay_3 : decode cX1_lay 3 = .ok (.istore_n 3, 1) := by decide +kernel
theorem dX1_lay_4 : decode cX1_lay 4 = .ok (.iload_n 3, 1) := by decide +kernel
theorem dX1_lay_5 : decode cX1_lay 5 = .ok (.bipush 28, 2) := by decide +kernel
theorem dX1_lay_7 : decode cX1_lay 7 = .ok (.if_icmp .ge 110, 3) := by decide +kernel
theorem dX1_lay_10 : decode cX1_lay 10 = .ok (.iload_n 2, 1) := by decide +kernel
theorem dX1_lay_11 : decode cX1_lay 11 = .ok (.iconst (-1), 1) := by decide +kernel
theorem dX1_lay_12 : decode cX1_lay 12 = .ok (.if_icmp .eq 105, 3) := by decide +kernel
theorem dX1_lay_15 : decode cX1_lay 15 = .ok (.aload_n 0, 1) := by decide +kernel
theorem dX1_lay_16 : decode cX1_lay 16 = .ok (.getfield 31, 3) := by decide +kernel
theorem dX1_lay_19 : decode cX1_lay 19 = .ok (.iload_n 2, 1) := by decide +kernel
theorem dX1_lay_20 : decode cX1_lay 20 = .ok (.iaload, 1) := by decide +kernel
theorem dX1_lay_21 : decode cX1_lay 21 = .ok (.istore 4, 2) := by decide +kernel
theorem dX1_lay_23 : decode cX1_lay 23 = .ok (.iload_n 2, 1) := by decide +kernel
theorem dX1_lay_24 : decode cX1_lay 24 = .ok (.bipush 14, 2) := by decide +kernel
theorem dX1_lay_26 : decode cX1_lay 26 = .ok (.irem, 1) := by decide +kernel
theorem dX1_lay_27 : decode cX1_lay 27 = .ok (.istore 5, 2) := by decide +kernel
theorem dX1_lay_29 : decode cX1_lay 29 = .ok (.iload_n 2, 1) := by decide +kernel
theorem dX1_lay_30 : decode cX1_lay 30 = .ok (.bipush 14, 2) := by decide +kernel
theorem dX1_lay_32 : decode cX1_lay 32 = .ok (.if_icmp .lt 26, 3) := by decide +kernel
theorem dX1_lay_35 : decode cX1_lay 35 = .ok (.iload 4, 2) := by decide +kernel
theorem dX1_lay_37 : decode cX1_lay 37 = .ok (.iload 5, 2) := by decide +kernel
theorem dX1_lay_39 : decode cX1_lay 39 = .ok (.if_icmp .ne 69, 3) := by decide +kernel
theorem dX1_lay_42 : decode cX1_lay 42 = .ok (.aload_n 0, 1) := by decide +kernel
theorem dX1_lay_43 : decode cX1_lay 43 = .ok (.dup, 1) := by decide +kernel
theorem dX1_lay_44 : decode cX1_lay 44 = .ok (.getfield 18, 3) := by decide +kernel
theorem dX1_lay_47 : decode cX1_lay 47 = .ok (.iconst 1, 1) := by decide +kernel
theorem dX1_lay_48 : decode cX1_lay 48 = .ok (.iload 5, 2) := by decide +kernel
theorem dX1_lay_50 : decode cX1_lay 50 = .ok (.ishl, 1) := by decide +kernel
theorem dX1_lay_51 : decode cX1_lay 51 = .ok (.ior, 1) := by decide +kernel
theorem dX1_lay_52 : decode cX1_lay 52 = .ok (.putfield 18, 3) := by decide +kernel
theorem dX1_lay_55 : decode cX1_lay 55 = .ok (.goto 53, 3) := by decide +kernel
theorem dX1_lay_58 : decode cX1_lay 58 = .ok (.iload 4, 2) := by decide +kernel
theorem dX1_lay_60 : decode cX1_lay 60 = .ok (.bipush 14, 2) := by decide +kernel
theorem dX1_lay_62 : decode cX1_lay 62 = .ok (.iload 5, 2) := by decide +kernel
theorem dX1_lay_64 : decode cX1_lay 64 = .ok (.iadd, 1) := by decide +kernel
theorem dX1_lay_65 : decode cX1_lay 65 = .ok (.if_icmp .ne 21, 3) := by decide +kernel
theorem dX1_lay_68 : decode cX1_lay 68 = .ok (.aload_n 0, 1) := by decide +kernel
theorem dX1_lay_69 : decode cX1_lay 69 = .ok (.dup, 1) := by decide +kernel
theorem dX1_lay_70 : decode cX1_lay 70 = .ok (.getfield 18, 3) := by decide +kernel
theorem dX1_lay_73 : decode cX1_lay 73 = .ok (.iconst 1, 1) := by decide +kernel
theorem dX1_lay_74 : decode cX1_lay 74 = .ok (.iload 5, 2) := by decide +kernel
theorem dX1_lay_76 : decode cX1_lay 76 = .ok (.ishl, 1) := by decide +kernel
theorem dX1_lay_77 : decode cX1_lay 77 = .ok (.iconst (-1), 1) := by decide +kernel
theorem dX1_lay_78 : decode cX1_lay 78 = .ok (.ixor, 1) := by decide +kernel
theorem dX1_lay_79 : decode cX1_lay 79 = .ok (.iand, 1) := by decide +kernel
theorem dX1_lay_80 : decode cX1_lay 80 = .ok (.putfield 18, 3) := by decide +kernel
theorem dX1_lay_83 : decode cX1_lay 83 = .ok (.goto 25, 3) := by decide +kernel
theorem dX1_lay_86 : decode cX1_lay 86 = .ok (.aload_n 0, 1) := by decide +kernel
theorem dX1_lay_87 : decode cX1_lay 87 = .ok (.getfield 15, 3) := by decide +kernel
theorem dX1_lay_90 : decode cX1_lay 90 = .ok (.iload 5, 2) := by decide +kernel
theorem dX1_lay_92 : decode cX1_lay 92 = .ok (.iload 4, 2) := by decide +kernel
theorem dX1_lay_94 : decode cX1_lay 94 = .ok (.iconst (-1), 1) := by decide +kernel
theorem dX1_lay_95 : decode cX1_lay 95 = .ok (.if_icmp .ne 7, 3) := by decide +kernel
theorem dX1_lay_98 : decode cX1_lay 98 = .ok (.iconst (-1), 1) := by decide +kernel
theorem dX1_lay_99 : decode cX1_lay 99 = .ok (.goto 8, 3) := by decide +kernel
theorem dX1_lay_102 : decode cX1_lay 102 = .ok (.iload 4, 2) := by decide +kernel
theorem dX1_lay_104 : decode cX1_lay 104 = .ok (.bipush 14, 2) := by decide +kernel
theorem dX1_lay_106 : decode cX1_lay 106 = .ok (.isub, 1) := by decide +kernel
theorem dX1_lay_107 : decode cX1_lay 107 = .ok (.iastore, 1) := by decide +kernel
theorem dX1_lay_108 : decode cX1_lay 108 = .ok (.iload 4, 2) := by decide +kernel
theorem dX1_lay_110 : decode cX1_lay 110 = .ok (.istore_n 2, 1) := by decide +kernel
theorem dX1_lay_111 : decode cX1_lay 111 = .ok (.iinc 3 1, 3) := by decide +kernel
theorem dX1_lay_114 : decode cX1_lay 114 = .ok (.goto (-110), 3) := by decide +kernel
theorem dX1_lay_117 : decode cX1_lay 117 = .ok (.return_, 1) := by decide +kernel
theorem dX1_layOneMore_0 : decode cX1_layOneMore 0 = .ok (.aload_n 0, 1) := by decide +kernel
theorem dX1_layOneMore_1 : decode cX1_layOneMore 1 = .ok (.iconst 0, 1) := by decide +kernel
theorem dX1_layOneMore_2 : decode cX1_layOneMore 2 = .ok (.putfield 25, 3) := by decide +kernel
theorem dX1_layOneMore_5 : decode cX1_layOneMore 5 = .ok (.aload_n 0, 1) := by decide +kernel
theorem dX1_layOneMore_6 : decode cX1_layOneMore 6 = .ok (.iconst 0, 1) := by decide +kernel
theorem dX1_layOneMore_7 : decode cX1_layOneMore 7 = .ok (.putfield 28, 3) := by decide +kernel
theorem dX1_layOneMore_10 : decode cX1_layOneMore 10 = .ok (.iconst 0, 1) := by decide +kernel
theorem dX1_layOneMore_11 : decode cX1_layOneMore 11 = .ok (.istore_n 3, 1) := by decide +kernel
theorem dX1_layOneMore_12 : decode cX1_layOneMore 12 = .ok (.iload_n 3, 1) := by decide +kernel
theorem dX1_layOneMore_13 : decode cX1_layOneMore 13 = .ok (.bipush 14, 2) := by decide +kernel
theorem dX1_layOneMore_15 : decode cX1_layOneMore 15 = .ok (.if_icmp .ge 23, 3) := by decide +kernel
theorem dX1_layOneMore_18 : decode cX1_layOneMore 18 = .ok (.iload_n 1, 1) := by decide +kernel
theorem dX1_layOneMore_19 : decode cX1_layOneMore 19 = .ok (.iload_n 3, 1) := by decide +kernel
theorem dX1_layOneMore_20 : decode cX1_layOneMore 20 = .ok (.ishr, 1) := by decide +kernel
theorem dX1_layOneMore_21 : decode cX1_layOneMore 21 = .ok (.iconst 1, 1) := by decide +kernel
theorem dX1_layOneMore_22 : decode cX1_layOneMore 22 = .ok (.iand, 1) := by decide +kernel
theorem dX1_layOneMore_23 : decode cX1_layOneMore 23 = .ok (.ifCond .eq 9, 3) := by decide +kernel
theorem dX1_layOneMore_26 : decode cX1_layOneMore 26 = .ok (.aload_n 0, 1) := by decide +kernel
theorem dX1_layOneMore_27 : decode cX1_layOneMore 27 = .ok (.iload_n 3, 1) := by decide +kernel
theorem dX1_layOneMore_28 : decode cX1_layOneMore 28 = .ok (.iconst (-1), 1) := by decide +kernel
theorem dX1_layOneMore_29 : decode cX1_layOneMore 29 = .ok (.invokevirtual 74, 3) := by decide +kernel
theorem dX1_layOneMore_32 : decode cX1_layOneMore 32 = .ok (.iinc 3 1, 3) := by decide +kernel
theorem dX1_layOneMore_35 : decode cX1_layOneMore 35 = .ok (.goto (-23), 3) := by decide +kernel
theorem dX1_layOneMore_38 : decode cX1_layOneMore 38 = .ok (.iconst 0, 1) := by decide +kernel
theorem dX1_layOneMore_39 : decode cX1_layOneMore 39 = .ok (.istore_n 3, 1) := by decide +kernel
theorem dX1_layOneMore_40 : decode cX1_layOneMore 40 = .ok (.iload_n 3, 1) := by decide +kernel
theorem dX1_layOneMore_41 : decode cX1_layOneMore 41 = .ok (.bipush 28, 2) := by decide +kernel
theorem dX1_layOneMore_43 : decode cX1_layOneMore 43 = .ok (.if_icmp .ge 135, 3) := by decide +kernel
theorem dX1_layOneMore_46 : decode cX1_layOneMore 46 = .ok (.iload_n 3, 1) := by decide +kernel
theorem dX1_layOneMore_47 : decode cX1_layOneMore 47 = .ok (.aload_n 0, 1) := by decide +kernel
theorem dX1_layOneMore_48 : decode cX1_layOneMore 48 = .ok (.getfield 25, 3) := by decide +kernel
theorem dX1_layOneMore_51 : decode cX1_layOneMore 51 = .ok (.if_icmp .ge 127, 3) := by decide +kernel
theorem dX1_layOneMore_54 : decode cX1_layOneMore 54 = .ok (.aload_n 0, 1) := by decide +kernel
theorem dX1_layOneMore_55 : decode cX1_layOneMore 55 = .ok (.getfield 22, 3) := by decide +kernel
theorem dX1_layOneMore_58 : decode cX1_layOneMore 58 = .ok (.iload_n 3, 1) := by decide +kernel
theorem dX1_layOneMore_59 : decode cX1_layOneMore 59 = .ok (.iaload, 1) := by decide +kernel
theorem dX1_layOneMore_60 : decode cX1_layOneMore 60 = .ok (.istore 4, 2) := by decide +kernel
theorem dX1_layOneMore_62 : decode cX1_layOneMore 62 = .ok (.iload 4, 2) := by decide +kernel
theorem dX1_layOneMore_64 : decode cX1_layOneMore 64 = .ok (.bipush 14, 2) := by decide +kernel
theorem dX1_layOneMore_66 : decode cX1_layOneMore 66 = .ok (.irem, 1) := by decide +kernel
theorem dX1_layOneMore_67 : decode cX1_layOneMore 67 = .ok (.istore 5, 2) := by decide +kernel
theorem dX1_layOneMore_69 : decode cX1_layOneMore 69 = .ok (.aload_n 0, 1) := by decide +kernel
theorem dX1_layOneMore_70 : decode cX1_layOneMore 70 = .ok (.getfield 18, 3) := by decide +kernel
theorem dX1_layOneMore_73 : decode cX1_layOneMore 73 = .ok (.iload 5, 2) := by decide +kernel
theorem dX1_layOneMore_75 : decode cX1_layOneMore 75 = .ok (.ishr, 1) := by decide +kernel
theorem dX1_layOneMore_76 : decode cX1_layOneMore 76 = .ok (.iconst 1, 1) := by decide +kernel
theorem dX1_layOneMore_77 : decode cX1_layOneMore 77 = .ok (.iand, 1) := by decide +kernel
theorem dX1_layOneMore_78 : decode cX1_layOneMore 78 = .ok (.ifCond .eq 7, 3) := by decide +kernel
theorem dX1_layOneMore_81 : decode cX1_layOneMore 81 = .ok (.iconst 1, 1) := by decide +kernel
theorem dX1_layOneMore_82 : decode cX1_layOneMore 82 = .ok (.goto 4, 3) := by decide +kernel
theorem dX1_layOneMore_85 : decode cX1_layOneMore 85 = .ok (.iconst 0, 1) := by decide +kernel
theorem dX1_layOneMore_86 : decode cX1_layOneMore 86 = .ok (.istore 6, 2) := by decide +kernel
theorem dX1_layOneMore_88 : decode cX1_layOneMore 88 = .ok (.iload 4, 2) := by decide +kernel
theorem dX1_layOneMore_90 : decode cX1_layOneMore 90 = .ok (.bipush 14, 2) := by decide +kernel
theorem dX1_layOneMore_92 : decode cX1_layOneMore 92 = .ok (.if_icmp .ge 29, 3) := by decide +kernel
theorem dX1_layOneMore_95 : decode cX1_layOneMore 95 = .ok (.aload_n 0, 1) := by decide +kernel
theorem dX1_layOneMore_96 : decode cX1_layOneMore 96 = .ok (.iload 4, 2) := by decide +kernel
theorem dX1_layOneMore_98 : decode cX1_layOneMore 98 = .ok (.iload 6, 2) := by decide +kernel
theorem dX1_layOneMore_100 : decode cX1_layOneMore 100 = .ok (.ifCond .eq 13, 3) := by decide +kernel
theorem dX1_layOneMore_103 : decode cX1_layOneMore 103 = .ok (.aload_n 0, 1) := by decide +kernel
theorem dX1_layOneMore_104 : decode cX1_layOneMore 104 = .ok (.getfield 15, 3) := by decide +kernel
theorem dX1_layOneMore_107 : decode cX1_layOneMore 107 = .ok (.iload 5, 2) := by decide +kernel
theorem dX1_layOneMore_109 : decode cX1_layOneMore 109 = .ok (.iaload, 1) := by decide +kernel
theorem dX1_layOneMore_110 : decode cX1_layOneMore 110 = .ok (.goto 5, 3) := by decide +kernel
theorem dX1_layOneMore_113 : decode cX1_layOneMore 113 = .ok (.iload 5, 2) := by decide +kernel
theorem dX1_layOneMore_115 : decode cX1_layOneMore 115 = .ok (.invokevirtual 78, 3) := by decide +kernel
theorem dX1_layOneMore_118 : decode cX1_layOneMore 118 = .ok (.goto 54, 3) := by decide +kernel
theorem dX1_layOneMore_121 : decode cX1_layOneMore 121 = .ok (.aload_n 0, 1) := by decide +kernel
theorem dX1_layOneMore_122 : decode cX1_layOneMore 122 = .ok (.getfield 9, 3) := by decide +kernel
theorem dX1_layOneMore_125 : decode cX1_layOneMore 125 = .ok (.iload 5, 2) := by decide +kernel
theorem dX1_layOneMore_127 : decode cX1_layOneMore 127 = .ok (.iaload, 1) := by decide +kernel
theorem dX1_layOneMore_128 : decode cX1_layOneMore 128 = .ok (.iload_n 2, 1) := by decide +kernel
theorem dX1_layOneMore_129 : decode cX1_layOneMore 129 = .ok (.iand, 1) := by decide +kernel
theorem dX1_layOneMore_130 : decode cX1_layOneMore 130 = .ok (.ifCond .eq 11, 3) := by decide +kernel
theorem dX1_layOneMore_133 : decode cX1_layOneMore 133 = .ok (.aload_n 0, 1) := by decide +kernel
theorem dX1_layOneMore_134 : decode cX1_layOneMore 134 = .ok (.iload 4, 2) := by decide +kernel
theorem dX1_layOneMore_136 : decode cX1_layOneMore 136 = .ok (.invokevirtual 81, 3) := by decide +kernel
theorem dX1_layOneMore_139 : decode cX1_layOneMore 139 = .ok (.iconst 1, 1) := by decide +kernel
theorem dX1_layOneMore_140 : decode cX1_layOneMore 140 = .ok (.ireturn, 1) := by decide +kernel
theorem dX1_layOneMore_141 : decode cX1_layOneMore 141 = .ok (.aload_n 0, 1) := by decide +kernel
theorem dX1_layOneMore_142 : decode cX1_layOneMore 142 = .ok (.iload 4, 2) := by decide +kernel
theorem dX1_layOneMore_144 : decode cX1_layOneMore 144 = .ok (.aload_n 0, 1) := by decide +kernel
theorem dX1_layOneMore_145 : decode cX1_layOneMore 145 = .ok (.getfield 9, 3) := by decide +kernel
theorem dX1_layOneMore_148 : decode cX1_layOneMore 148 = .ok (.iload 5, 2) := by decide +kernel
theorem dX1_layOneMore_150 : decode cX1_layOneMore 150 = .ok (.iaload, 1) := by decide +kernel
theorem dX1_layOneMore_151 : decode cX1_layOneMore 151 = .ok (.iload_n 2, 1) := by decide +kernel
theorem dX1_layOneMore_152 : decode cX1_layOneMore 152 = .ok (.iconst (-1), 1) := by decide +kernel
theorem dX1_layOneMore_153 : decode cX1_layOneMore 153 = .ok (.ixor, 1) := by decide +kernel
theorem dX1_layOneMore_154 : decode cX1_layOneMore 154 = .ok (.iand, 1) := by decide +kernel
theorem dX1_layOneMore_155 : decode cX1_layOneMore 155 = .ok (.iload 6, 2) := by decide +kernel
theorem dX1_layOneMore_157 : decode cX1_layOneMore 157 = .ok (.ifCond .eq 10, 3) := by decide +kernel
theorem dX1_layOneMore_160 : decode cX1_layOneMore 160 = .ok (.iconst 1, 1) := by decide +kernel
theorem dX1_layOneMore_161 : decode cX1_layOneMore 161 = .ok (.iload 5, 2) := by decide +kernel
theorem dX1_layOneMore_163 : decode cX1_layOneMore 163 = .ok (.ishl, 1) := by decide +kernel
theorem dX1_layOneMore_164 : decode cX1_layOneMore 164 = .ok (.goto 4, 3) := by decide +kernel
theorem dX1_layOneMore_167 : decode cX1_layOneMore 167 = .ok (.iconst 0, 1) := by decide +kernel
theorem dX1_layOneMore_168 : decode cX1_layOneMore 168 = .ok (.ior, 1) := by decide +kernel
theorem dX1_layOneMore_169 : decode cX1_layOneMore 169 = .ok (.invokevirtual 85, 3) := by decide +kernel
theorem dX1_layOneMore_172 : decode cX1_layOneMore 172 = .ok (.iinc 3 1, 3) := by decide +kernel
theorem dX1_layOneMore_175 : decode cX1_layOneMore 175 = .ok (.goto (-135), 3) := by decide +kernel
theorem dX1_layOneMore_178 : decode cX1_layOneMore 178 = .ok (.iconst 0, 1) := by decide +kernel
theorem dX1_layOneMore_179 : decode cX1_layOneMore 179 = .ok (.ireturn, 1) := by decide +kernel
theorem dX1_leastSet_0 : decode cX1_leastSet 0 = .ok (.iload_n 2, 1) := by decide +kernel
theorem dX1_leastSet_1 : decode cX1_leastSet 1 = .ok (.aload_n 1, 1) := by decide +kernel
theorem dX1_leastSet_2 : decode cX1_leastSet 2 = .ok (.getfield 34, 3) := by decide +kernel
theorem dX1_leastSet_5 : decode cX1_leastSet 5 = .ok (.invokevirtual 60, 3) := by decide +kernel
theorem dX1_leastSet_8 : decode cX1_leastSet 8 = .ok (.iand, 1) := by decide +kernel
theorem dX1_leastSet_9 : decode cX1_leastSet 9 = .ok (.istore_n 3, 1) := by decide +kernel
theorem dX1_leastSet_10 : decode cX1_leastSet 10 = .ok (.aload_n 0, 1) := by decide +kernel
theorem dX1_leastSet_11 : decode cX1_leastSet 11 = .ok (.aload_n 1, 1) := by decide +kernel
theorem dX1_leastSet_12 : decode cX1_leastSet 12 = .ok (.iload_n 2, 1) := by decide +kernel
theorem dX1_leastSet_13 : decode cX1_leastSet 13 = .ok (.iload_n 3, 1) := by decide +kernel
theorem dX1_leastSet_14 : decode cX1_leastSet 14 = .ok (.invokevirtual 64, 3) := by decide +kernel
theorem dX1_leastSet_17 : decode cX1_leastSet 17 = .ok (.istore 4, 2) := by decide +kernel
theorem dX1_leastSet_19 : decode cX1_leastSet 19 = .ok (.iload 4, 2) := by decide +kernel
theorem dX1_leastSet_21 : decode cX1_leastSet 21 = .ok (.bipush 99, 2) := by decide +kernel
theorem dX1_leastSet_23 : decode cX1_leastSet 23 = .ok (.if_icmp .ne 5, 3) := by decide +kernel
theorem dX1_leastSet_26 : decode cX1_leastSet 26 = .ok (.iconst (-1), 1) := by decide +kernel
theorem dX1_leastSet_27 : decode cX1_leastSet 27 = .ok (.ireturn, 1) := by decide +kernel
theorem dX1_leastSet_28 : decode cX1_leastSet 28 = .ok (.bipush 13, 2) := by decide +kernel
theorem dX1_leastSet_30 : decode cX1_leastSet 30 = .ok (.istore 5, 2) := by decide +kernel
theorem dX1_leastSet_32 : decode cX1_leastSet 32 = .ok (.iload 5, 2) := by decide +kernel
theorem dX1_leastSet_34 : decode cX1_leastSet 34 = .ok (.ifCond .lt 50, 3) := by decide +kernel
theorem dX1_leastSet_37 : decode cX1_leastSet 37 = .ok (.iload_n 3, 1) := by decide +kernel
theorem dX1_leastSet_38 : decode cX1_leastSet 38 = .ok (.invokestatic 68, 3) := by decide +kernel
theorem dX1_leastSet_41 : decode cX1_leastSet 41 = .ok (.iload 4, 2) := by decide +kernel
theorem dX1_leastSet_43 : decode cX1_leastSet 43 = .ok (.if_icmp .le 41, 3) := by decide +kernel
theorem dX1_leastSet_46 : decode cX1_leastSet 46 = .ok (.iload_n 3, 1) := by decide +kernel
theorem dX1_leastSet_47 : decode cX1_leastSet 47 = .ok (.iconst 1, 1) := by decide +kernel
theorem dX1_leastSet_48 : decode cX1_leastSet 48 = .ok (.iload 5, 2) := by decide +kernel
theorem dX1_leastSet_50 : decode cX1_leastSet 50 = .ok (.ishl, 1) := by decide +kernel
theorem dX1_leastSet_51 : decode cX1_leastSet 51 = .ok (.iconst (-1), 1) := by decide +kernel
theorem dX1_leastSet_52 : decode cX1_leastSet 52 = .ok (.ixor, 1) := by decide +kernel
theorem dX1_leastSet_53 : decode cX1_leastSet 53 = .ok (.iand, 1) := by decide +kernel
theorem dX1_leastSet_54 : decode cX1_leastSet 54 = .ok (.istore 6, 2) := by decide +kernel
theorem dX1_leastSet_56 : decode cX1_leastSet 56 = .ok (.iload 6, 2) := by decide +kernel
theorem dX1_leastSet_58 : decode cX1_leastSet 58 = .ok (.iload_n 3, 1) := by decide +kernel
theorem dX1_leastSet_59 : decode cX1_leastSet 59 = .ok (.if_icmp .eq 19, 3) := by decide +kernel
theorem dX1_leastSet_62 : decode cX1_leastSet 62 = .ok (.aload_n 0, 1) := by decide +kernel
theorem dX1_leastSet_63 : decode cX1_leastSet 63 = .ok (.aload_n 1, 1) := by decide +kernel
theorem dX1_leastSet_64 : decode cX1_leastSet 64 = .ok (.iload_n 2, 1) := by decide +kernel
theorem dX1_leastSet_65 : decode cX1_leastSet 65 = .ok (.iload 6, 2) := by decide +kernel
theorem dX1_leastSet_67 : decode cX1_leastSet 67 = .ok (.invokevirtual 64, 3) := by decide +kernel
theorem dX1_leastSet_70 : decode cX1_leastSet 70 = .ok (.iload 4, 2) := by decide +kernel
theorem dX1_leastSet_72 : decode cX1_leastSet 72 = .ok (.if_icmp .ne 6, 3) := by decide +kernel
theorem dX1_leastSet_75 : decode cX1_leastSet 75 = .ok (.iload 6, 2) := by decide +kernel
theorem dX1_leastSet_77 : decode cX1_leastSet 77 = .ok (.istore_n 3, 1) := by decide +kernel
theorem dX1_leastSet_78 : decode cX1_leastSet 78 = .ok (.iinc 5 (-1), 3) := by decide +kernel
theorem dX1_leastSet_81 : decode cX1_leastSet 81 = .ok (.goto (-49), 3) := by decide +kernel
theorem dX1_leastSet_84 : decode cX1_leastSet 84 = .ok (.iload_n 3, 1) := by decide +kernel
theorem dX1_leastSet_85 : decode cX1_leastSet 85 = .ok (.ireturn, 1) := by decide +kernel
theorem dX1_visit_0 : decode cX1_visit 0 = .ok (.aload_n 0, 1) := by decide +kernel
theorem dX1_visit_1 : decode cX1_visit 1 = .ok (.getfield 28, 3) := by decide +kernel
theorem dX1_visit_4 : decode cX1_visit 4 = .ok (.iload_n 1, 1) := by decide +kernel
theorem dX1_visit_5 : decode cX1_visit 5 = .ok (.ishr, 1) := by decide +kernel
theorem dX1_visit_6 : decode cX1_visit 6 = .ok (.iconst 1, 1) := by decide +kernel
theorem dX1_visit_7 : decode cX1_visit 7 = .ok (.iand, 1) := by decide +kernel
theorem dX1_visit_8 : decode cX1_visit 8 = .ok (.ifCond .ne 51, 3) := by decide +kernel
theorem dX1_visit_11 : decode cX1_visit 11 = .ok (.aload_n 0, 1) := by decide +kernel
theorem dX1_visit_12 : decode cX1_visit 12 = .ok (.getfield 25, 3) := by decide +kernel
theorem dX1_visit_15 : decode cX1_visit 15 = .ok (.bipush 28, 2) := by decide +kernel
theorem dX1_visit_17 : decode cX1_visit 17 = .ok (.if_icmp .ge 42, 3) := by decide +kernel
theorem dX1_visit_20 : decode cX1_visit 20 = .ok (.aload_n 0, 1) := by decide +kernel
theorem dX1_visit_21 : decode cX1_visit 21 = .ok (.dup, 1) := by decide +kernel
theorem dX1_visit_22 : decode cX1_visit 22 = .ok (.getfield 28, 3) := by decide +kernel
theorem dX1_visit_25 : decode cX1_visit 25 = .ok (.iconst 1, 1) := by decide +kernel
theorem dX1_visit_26 : decode cX1_visit 26 = .ok (.iload_n 1, 1) := by decide +kernel
theorem dX1_visit_27 : decode cX1_visit 27 = .ok (.ishl, 1) := by decide +kernel
theorem dX1_visit_28 : decode cX1_visit 28 = .ok (.ior, 1) := by decide +kernel
theorem dX1_visit_29 : decode cX1_visit 29 = .ok (.putfield 28, 3) := by decide +kernel
theorem dX1_visit_32 : decode cX1_visit 32 = .ok (.aload_n 0, 1) := by decide +kernel
theorem dX1_visit_33 : decode cX1_visit 33 = .ok (.getfield 31, 3) := by decide +kernel
theorem dX1_visit_36 : decode cX1_visit 36 = .ok (.iload_n 1, 1) := by decide +kernel
theorem dX1_visit_37 : decode cX1_visit 37 = .ok (.iload_n 2, 1) := by decide +kernel
theorem dX1_visit_38 : decode cX1_visit 38 = .ok (.iastore, 1) := by decide +kernel
theorem dX1_visit_39 : decode cX1_visit 39 = .ok (.aload_n 0, 1) := by decide +kernel
theorem dX1_visit_40 : decode cX1_visit 40 = .ok (.getfield 22, 3) := by decide +kernel
theorem dX1_visit_43 : decode cX1_visit 43 = .ok (.aload_n 0, 1) := by decide +kernel
theorem dX1_visit_44 : decode cX1_visit 44 = .ok (.getfield 25, 3) := by decide +kernel
theorem dX1_visit_47 : decode cX1_visit 47 = .ok (.iload_n 1, 1) := by decide +kernel
theorem dX1_visit_48 : decode cX1_visit 48 = .ok (.iastore, 1) := by decide +kernel
theorem dX1_visit_49 : decode cX1_visit 49 = .ok (.aload_n 0, 1) := by decide +kernel
theorem dX1_visit_50 : decode cX1_visit 50 = .ok (.dup, 1) := by decide +kernel
theorem dX1_visit_51 : decode cX1_visit 51 = .ok (.getfield 25, 3) := by decide +kernel
theorem dX1_visit_54 : decode cX1_visit 54 = .ok (.iconst 1, 1) := by decide +kernel
theorem dX1_visit_55 : decode cX1_visit 55 = .ok (.iadd, 1) := by decide +kernel
theorem dX1_visit_56 : decode cX1_visit 56 = .ok (.putfield 25, 3) := by decide +kernel
theorem dX1_visit_59 : decode cX1_visit 59 = .ok (.return_, 1) := by decide +kernel
theorem dX1_visitBeyond_0 : decode cX1_visitBeyond 0 = .ok (.iload_n 2, 1) := by decide +kernel
theorem dX1_visitBeyond_1 : decode cX1_visitBeyond 1 = .ok (.iconst (-1), 1) := by decide +kernel
theorem dX1_visitBeyond_2 : decode cX1_visitBeyond 2 = .ok (.if_icmp .eq 12, 3) := by decide +kernel
theorem dX1_visitBeyond_5 : decode cX1_visitBeyond 5 = .ok (.aload_n 0, 1) := by decide +kernel
theorem dX1_visitBeyond_6 : decode cX1_visitBeyond 6 = .ok (.bipush 14, 2) := by decide +kernel
theorem dX1_visitBeyond_8 : decode cX1_visitBeyond 8 = .ok (.iload_n 2, 1) := by decide +kernel
theorem dX1_visitBeyond_9 : decode cX1_visitBeyond 9 = .ok (.iadd, 1) := by decide +kernel
theorem dX1_visitBeyond_10 : decode cX1_visitBeyond 10 = .ok (.iload_n 1, 1) := by decide +kernel
theorem dX1_visitBeyond_11 : decode cX1_visitBeyond 11 = .ok (.invokevirtual 74, 3) := by decide +kernel
theorem dX1_visitBeyond_14 : decode cX1_visitBeyond 14 = .ok (.return_, 1) := by decide +kernel
theorem dX1_visitNear_0 : decode cX1_visitNear 0 = .ok (.iconst 0, 1) := by decide +kernel
theorem dX1_visitNear_1 : decode cX1_visitNear 1 = .ok (.istore_n 3, 1) := by decide +kernel
theorem dX1_visitNear_2 : decode cX1_visitNear 2 = .ok (.iload_n 3, 1) := by decide +kernel
theorem dX1_visitNear_3 : decode cX1_visitNear 3 = .ok (.bipush 14, 2) := by decide +kernel
theorem dX1_visitNear_5 : decode cX1_visitNear 5 = .ok (.if_icmp .ge 23, 3) := by decide +kernel
theorem dX1_visitNear_8 : decode cX1_visitNear 8 = .ok (.iload_n 2, 1) := by decide +kernel
theorem dX1_visitNear_9 : decode cX1_visitNear 9 = .ok (.iload_n 3, 1) := by decide +kernel
theorem dX1_visitNear_10 : decode cX1_visitNear 10 = .ok (.ishr, 1) := by decide +kernel
theorem dX1_visitNear_11 : decode cX1_visitNear 11 = .ok (.iconst 1, 1) := by decide +kernel
theorem dX1_visitNear_12 : decode cX1_visitNear 12 = .ok (.iand, 1) := by decide +kernel
theorem dX1_visitNear_13 : decode cX1_visitNear 13 = .ok (.ifCond .eq 9, 3) := by decide +kernel
theorem dX1_visitNear_16 : decode cX1_visitNear 16 = .ok (.aload_n 0, 1) := by decide +kernel
theorem dX1_visitNear_17 : decode cX1_visitNear 17 = .ok (.iload_n 3, 1) := by decide +kernel
theorem dX1_visitNear_18 : decode cX1_visitNear 18 = .ok (.iload_n 1, 1) := by decide +kernel
theorem dX1_visitNear_19 : decode cX1_visitNear 19 = .ok (.invokevirtual 74, 3) := by decide +kernel
theorem dX1_visitNear_22 : decode cX1_visitNear 22 = .ok (.iinc 3 1, 3) := by decide +kernel
theorem dX1_visitNear_25 : decode cX1_visitNear 25 = .ok (.goto (-23), 3) := by decide +kernel
theorem dX1_visitNear_28 : decode cX1_visitNear 28 = .ok (.return_, 1) := by decide +kernel
theorem kw_10 : Cond.initialized "FootholdWall$Cut" ∈ gw := gw_of (tb_of 10 (by decide +kernel)) (by decide +kernel)
theorem kw_117 : Cond.fieldLink "FootholdWall$Cut" 45 "FootholdWall$Wall" "starts" "I" ∈ gw := gw_of (tb_of 117 (by decide +kernel)) (by decide +kernel)
theorem kw_124 : Cond.fieldLink "FootholdWall$Cut" 40 "FootholdWall$Wall" "tops" "I" ∈ gw := gw_of (tb_of 124 (by decide +kernel)) (by decide +kernel)
theorem kw_245 : Cond.fieldLink "FootholdWall$Cut" 34 "FootholdWall$Rows" "wall" "LFootholdWall$Wall;" ∈ gw := gw_of (tb_of 245 (by decide +kernel)) (by decide +kernel)
theorem kw_302 : Cond.fieldLink "FootholdWall$Cut" 9 "FootholdWall$Cut" "near" "[I" ∈ gw := gw_of (tb_of 302 (by decide +kernel)) (by decide +kernel)
theorem kw_303 : Cond.fieldLink "FootholdWall$Cut" 15 "FootholdWall$Cut" "ahead" "[I" ∈ gw := gw_of (tb_of 303 (by decide +kernel)) (by decide +kernel)
theorem kw_304 : Cond.fieldLink "FootholdWall$Cut" 18 "FootholdWall$Cut" "laid" "I" ∈ gw := gw_of (tb_of 304 (by decide +kernel)) (by decide +kernel)
theorem kw_305 : Cond.fieldLink "FootholdWall$Cut" 22 "FootholdWall$Cut" "queue" "[I" ∈ gw := gw_of (tb_of 305 (by decide +kernel)) (by decide +kernel)
theorem kw_306 : Cond.fieldLink "FootholdWall$Cut" 25 "FootholdWall$Cut" "queued" "I" ∈ gw := gw_of (tb_of 306 (by decide +kernel)) (by decide +kernel)
theorem kw_307 : Cond.fieldLink "FootholdWall$Cut" 28 "FootholdWall$Cut" "seen" "I" ∈ gw := gw_of (tb_of 307 (by decide +kernel)) (by decide +kernel)
theorem kw_308 : Cond.fieldLink "FootholdWall$Cut" 31 "FootholdWall$Cut" "cameFrom" "[I" ∈ gw := gw_of (tb_of 308 (by decide +kernel)) (by decide +kernel)
theorem kw_1015 : Cond.instanceMethod yX1_fewest ∈ gw := gw_of (tb_of 1015 (by decide +kernel)) (by decide +kernel)
theorem kw_1016 : Cond.selects "FootholdWall$Cut" yX1_fewest yX1_fewest ∈ gw := gw_of (tb_of 1016 (by decide +kernel)) (by decide +kernel)
theorem kw_1017 : Cond.code yX1_fewest cX1_fewest 8 (some (.int)) ∈ gw := gw_of (tb_of 1017 (by decide +kernel)) (by decide +kernel)
theorem kw_1018 : Cond.methodLink "FootholdWall$Cut" 48 yX5_spread ∈ gw := gw_of (tb_of 1018 (by decide +kernel)) (by decide +kernel)
theorem kw_1019 : Cond.methodLink "FootholdWall$Cut" 52 yX5_stepped ∈ gw := gw_of (tb_of 1019 (by decide +kernel)) (by decide +kernel)
theorem kw_1020 : Cond.methodLink "FootholdWall$Cut" 56 yX1_layOneMore ∈ gw := gw_of (tb_of 1020 (by decide +kernel)) (by decide +kernel)
theorem kw_1022 : Cond.instanceMethod yX1_layOneMore ∈ gw := gw_of (tb_of 1022 (by decide +kernel)) (by decide +kernel)
theorem kw_1023 : Cond.code yX1_layOneMore cX1_layOneMore 7 (some (.boolean)) ∈ gw := gw_of (tb_of 1023 (by decide +kernel)) (by decide +kernel)
theorem kw_1024 : Cond.methodLink "FootholdWall$Cut" 74 yX1_visit ∈ gw := gw_of (tb_of 1024 (by decide +kernel)) (by decide +kernel)
theorem kw_1026 : Cond.instanceMethod yX1_visit ∈ gw := gw_of (tb_of 1026 (by decide +kernel)) (by decide +kernel)
theorem kw_1027 : Cond.code yX1_visit cX1_visit 3 none ∈ gw := gw_of (tb_of 1027 (by decide +kernel)) (by decide +kernel)
theorem kw_1028 : Cond.methodLink "FootholdWall$Cut" 78 yX1_visitBeyond ∈ gw := gw_of (tb_of 1028 (by decide +kernel)) (by decide +kernel)
theorem kw_1030 : Cond.instanceMethod yX1_visitBeyond ∈ gw := gw_of (tb_of 1030 (by decide +kernel)) (by decide +kernel)
theorem kw_1031 : Cond.code yX1_visitBeyond cX1_visitBeyond 3 none ∈ gw := gw_of (tb_of 1031 (by decide +kernel)) (by decide +kernel)
theorem kw_1032 : Cond.methodLink "FootholdWall$Cut" 81 yX1_lay ∈ gw := gw_of (tb_of 1032 (by decide +kernel)) (by decide +kernel)
theorem kw_1034 : Cond.instanceMethod yX1_lay ∈ gw := gw_of (tb_of 1034 (by decide +kernel)) (by decide +kernel)
theorem kw_1035 : Cond.code yX1_lay cX1_lay 6 none ∈ gw := gw_of (tb_of 1035 (by decide +kernel)) (by decide +kernel)
theorem kw_1036 : Cond.methodLink "FootholdWall$Cut" 85 yX1_visitNear ∈ gw := gw_of (tb_of 1036 (by decide +kernel)) (by decide +kernel)
theorem kw_1038 : Cond.instanceMethod yX1_visitNear ∈ gw := gw_of (tb_of 1038 (by decide +kernel)) (by decide +kernel)
theorem kw_1039 : Cond.code yX1_visitNear cX1_visitNear 4 none ∈ gw := gw_of (tb_of 1039 (by decide +kernel)) (by decide +kernel)
theorem kw_1048 : Cond.methodLink "FootholdWall$Cut" 60 yX9_middles ∈ gw := gw_of (tb_of 1048 (by decide +kernel)) (by decide +kernel)
theorem kw_1049 : Cond.methodLink "FootholdWall$Cut" 64 yX1_fewest ∈ gw := gw_of (tb_of 1049 (by decide +kernel)) (by decide +kernel)
theorem kw_1050 : Cond.methodLink "FootholdWall$Cut" 68 yJ6_bitCount_0f7a4 ∈ gw := gw_of (tb_of 1050 (by decide +kernel)) (by decide +kernel)
theorem ks_32 : Cond.selects RX1 yX1_layOneMore yX1_layOneMore ∈ gw := gw_of (pv_of 32 (by decide +kernel)) (by decide +kernel)
theorem ks_33 : Cond.selects RX1 yX1_visit yX1_visit ∈ gw := gw_of (pv_of 33 (by decide +kernel)) (by decide +kernel)
theorem ks_34 : Cond.selects RX1 yX1_visitBeyond yX1_visitBeyond ∈ gw := gw_of (pv_of 34 (by decide +kernel)) (by decide +kernel)
theorem ks_35 : Cond.selects RX1 yX1_lay yX1_lay ∈ gw := gw_of (pv_of 35 (by decide +kernel)) (by decide +kernel)
theorem ks_36 : Cond.selects RX1 yX1_visitNear yX1_visitNear ∈ gw := gw_of (pv_of 36 (by decide +kernel)) (by decide +kernel)
