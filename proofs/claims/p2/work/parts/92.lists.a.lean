theorem dX12_lists_0 : decode cX12_lists 0 = .ok (.aload_n 0, 1) := by decide +kernel
theorem dX12_lists_1 : decode cX12_lists 1 = .ok (.iconst 0, 1) := by decide +kernel
theorem dX12_lists_2 : decode cX12_lists 2 = .ok (.putfield 1, 3) := by decide +kernel
theorem dX12_lists_5 : decode cX12_lists 5 = .ok (.iload_n 1, 1) := by decide +kernel
theorem dX12_lists_6 : decode cX12_lists 6 = .ok (.i2l, 1) := by decide +kernel
theorem dX12_lists_7 : decode cX12_lists 7 = .ok (.lconst 0, 1) := by decide +kernel
theorem dX12_lists_8 : decode cX12_lists 8 = .ok (.ldc2_w 275, 3) := by decide +kernel
theorem dX12_lists_11 : decode cX12_lists 11 = .ok (.invokestatic 144, 3) := by decide +kernel
theorem dX12_lists_14 : decode cX12_lists 14 = .ok (.ifCond .eq 12, 3) := by decide +kernel
theorem dX12_lists_17 : decode cX12_lists 17 = .ok (.aload_n 0, 1) := by decide +kernel
theorem dX12_lists_18 : decode cX12_lists 18 = .ok (.iload_n 2, 1) := by decide +kernel
theorem dX12_lists_19 : decode cX12_lists 19 = .ok (.i2l, 1) := by decide +kernel
theorem dX12_lists_20 : decode cX12_lists 20 = .ok (.invokevirtual 222, 3) := by decide +kernel
theorem dX12_lists_23 : decode cX12_lists 23 = .ok (.ifCond .ne 6, 3) := by decide +kernel
theorem dX12_lists_26 : decode cX12_lists 26 = .ok (.bipush (-2), 2) := by decide +kernel
theorem dX12_lists_28 : decode cX12_lists 28 = .ok (.ireturn, 1) := by decide +kernel
theorem dX12_lists_29 : decode cX12_lists 29 = .ok (.aload_n 0, 1) := by decide +kernel
theorem dX12_lists_30 : decode cX12_lists 30 = .ok (.iload_n 1, 1) := by decide +kernel
theorem dX12_lists_31 : decode cX12_lists 31 = .ok (.invokevirtual 289, 3) := by decide +kernel
theorem dX12_lists_34 : decode cX12_lists 34 = .ok (.istore_n 3, 1) := by decide +kernel
theorem dX12_lists_35 : decode cX12_lists 35 = .ok (.iload_n 3, 1) := by decide +kernel
theorem dX12_lists_36 : decode cX12_lists 36 = .ok (.ifCond .eq 5, 3) := by decide +kernel
theorem dX12_lists_39 : decode cX12_lists 39 = .ok (.iload_n 3, 1) := by decide +kernel
theorem dX12_lists_40 : decode cX12_lists 40 = .ok (.ireturn, 1) := by decide +kernel
theorem dX12_lists_41 : decode cX12_lists 41 = .ok (.aload_n 0, 1) := by decide +kernel
theorem dX12_lists_42 : decode cX12_lists 42 = .ok (.iload_n 2, 1) := by decide +kernel
theorem dX12_lists_43 : decode cX12_lists 43 = .ok (.invokevirtual 304, 3) := by decide +kernel
theorem dX12_lists_46 : decode cX12_lists 46 = .ok (.ifCond .ne 6, 3) := by decide +kernel
theorem dX12_lists_49 : decode cX12_lists 49 = .ok (.bipush (-5), 2) := by decide +kernel
theorem dX12_lists_51 : decode cX12_lists 51 = .ok (.ireturn, 1) := by decide +kernel
theorem dX12_lists_52 : decode cX12_lists 52 = .ok (.aload_n 0, 1) := by decide +kernel
theorem dX12_lists_53 : decode cX12_lists 53 = .ok (.getfield 266, 3) := by decide +kernel
theorem dX12_lists_56 : decode cX12_lists 56 = .ok (.iconst 1, 1) := by decide +kernel
theorem dX12_lists_57 : decode cX12_lists 57 = .ok (.iadd, 1) := by decide +kernel
theorem dX12_lists_58 : decode cX12_lists 58 = .ok (.aload_n 0, 1) := by decide +kernel
theorem dX12_lists_59 : decode cX12_lists 59 = .ok (.getfield 72, 3) := by decide +kernel
theorem dX12_lists_62 : decode cX12_lists 62 = .ok (.iload_n 1, 1) := by decide +kernel
theorem dX12_lists_63 : decode cX12_lists 63 = .ok (.iaload, 1) := by decide +kernel
theorem dX12_lists_64 : decode cX12_lists 64 = .ok (.if_icmp .ge 12, 3) := by decide +kernel
theorem dX12_lists_67 : decode cX12_lists 67 = .ok (.aload_n 0, 1) := by decide +kernel
theorem dX12_lists_68 : decode cX12_lists 68 = .ok (.getfield 266, 3) := by decide +kernel
theorem dX12_lists_71 : decode cX12_lists 71 = .ok (.iconst 1, 1) := by decide +kernel
theorem dX12_lists_72 : decode cX12_lists 72 = .ok (.iadd, 1) := by decide +kernel
theorem dX12_lists_73 : decode cX12_lists 73 = .ok (.goto 9, 3) := by decide +kernel
theorem dX12_lists_76 : decode cX12_lists 76 = .ok (.aload_n 0, 1) := by decide +kernel
theorem dX12_lists_77 : decode cX12_lists 77 = .ok (.getfield 72, 3) := by decide +kernel
theorem dX12_lists_80 : decode cX12_lists 80 = .ok (.iload_n 1, 1) := by decide +kernel
theorem dX12_lists_81 : decode cX12_lists 81 = .ok (.iaload, 1) := by decide +kernel
theorem dX12_lists_82 : decode cX12_lists 82 = .ok (.istore 4, 2) := by decide +kernel
theorem dX12_lists_84 : decode cX12_lists 84 = .ok (.iconst 0, 1) := by decide +kernel
theorem dX12_lists_85 : decode cX12_lists 85 = .ok (.istore 5, 2) := by decide +kernel
theorem dX12_lists_87 : decode cX12_lists 87 = .ok (.iload 5, 2) := by decide +kernel
theorem dX12_lists_89 : decode cX12_lists 89 = .ok (.iload 4, 2) := by decide +kernel
theorem dX12_lists_91 : decode cX12_lists 91 = .ok (.if_icmp .ge 41, 3) := by decide +kernel
theorem dX12_lists_94 : decode cX12_lists 94 = .ok (.aload_n 0, 1) := by decide +kernel
theorem dX12_lists_95 : decode cX12_lists 95 = .ok (.getfield 75, 3) := by decide +kernel
theorem dX12_lists_98 : decode cX12_lists 98 = .ok (.bipush 40, 2) := by decide +kernel
theorem dX12_lists_100 : decode cX12_lists 100 = .ok (.iload_n 1, 1) := by decide +kernel
theorem dX12_lists_101 : decode cX12_lists 101 = .ok (.imul, 1) := by decide +kernel
theorem dX12_lists_102 : decode cX12_lists 102 = .ok (.iload 5, 2) := by decide +kernel
theorem dX12_lists_104 : decode cX12_lists 104 = .ok (.iadd, 1) := by decide +kernel
theorem dX12_lists_105 : decode cX12_lists 105 = .ok (.iload 5, 2) := by decide +kernel
theorem dX12_lists_107 : decode cX12_lists 107 = .ok (.ifCond .ne 8, 3) := by decide +kernel
theorem dX12_lists_110 : decode cX12_lists 110 = .ok (.iload_n 2, 1) := by decide +kernel
theorem dX12_lists_111 : decode cX12_lists 111 = .ok (.i2l, 1) := by decide +kernel
theorem dX12_lists_112 : decode cX12_lists 112 = .ok (.goto 13, 3) := by decide +kernel
theorem dX12_lists_115 : decode cX12_lists 115 = .ok (.aload_n 0, 1) := by decide +kernel
theorem dX12_lists_116 : decode cX12_lists 116 = .ok (.getfield 39, 3) := by decide +kernel
theorem dX12_lists_119 : decode cX12_lists 119 = .ok (.iload 5, 2) := by decide +kernel
theorem dX12_lists_121 : decode cX12_lists 121 = .ok (.iconst 1, 1) := by decide +kernel
theorem dX12_lists_122 : decode cX12_lists 122 = .ok (.isub, 1) := by decide +kernel
theorem dX12_lists_123 : decode cX12_lists 123 = .ok (.iaload, 1) := by decide +kernel
theorem dX12_lists_124 : decode cX12_lists 124 = .ok (.i2l, 1) := by decide +kernel
theorem dX12_lists_125 : decode cX12_lists 125 = .ok (.lastore, 1) := by decide +kernel
theorem dX12_lists_126 : decode cX12_lists 126 = .ok (.iinc 5 1, 3) := by decide +kernel
theorem dX12_lists_129 : decode cX12_lists 129 = .ok (.goto (-42), 3) := by decide +kernel
theorem dX12_lists_132 : decode cX12_lists 132 = .ok (.iload 4, 2) := by decide +kernel
theorem dX12_lists_134 : decode cX12_lists 134 = .ok (.ireturn, 1) := by decide +kernel
