theorem dX12_keeps_5 : decode cX12_keeps 5 = .ok (.if_icmp .ge 24, 3) := by decide +kernel
theorem dX12_keeps_8 : decode cX12_keeps 8 = .ok (.aload_n 0, 1) := by decide +kernel
theorem dX12_keeps_9 : decode cX12_keeps 9 = .ok (.getfield 42, 3) := by decide +kernel
theorem dX12_keeps_12 : decode cX12_keeps 12 = .ok (.iload_n 1, 1) := by decide +kernel
theorem dX12_keeps_13 : decode cX12_keeps 13 = .ok (.aload_n 0, 1) := by decide +kernel
theorem dX12_keeps_14 : decode cX12_keeps 14 = .ok (.getfield 13, 3) := by decide +kernel
theorem dX12_keeps_17 : decode cX12_keeps 17 = .ok (.bipush 59, 2) := by decide +kernel
theorem dX12_keeps_19 : decode cX12_keeps 19 = .ok (.iload_n 1, 1) := by decide +kernel
theorem dX12_keeps_20 : decode cX12_keeps 20 = .ok (.iadd, 1) := by decide +kernel
theorem dX12_keeps_21 : decode cX12_keeps 21 = .ok (.iaload, 1) := by decide +kernel
theorem dX12_keeps_22 : decode cX12_keeps 22 = .ok (.iastore, 1) := by decide +kernel
theorem dX12_keeps_23 : decode cX12_keeps 23 = .ok (.iinc 1 1, 3) := by decide +kernel
theorem dX12_keeps_26 : decode cX12_keeps 26 = .ok (.goto (-24), 3) := by decide +kernel
theorem dX12_keeps_29 : decode cX12_keeps 29 = .ok (.return_, 1) := by decide +kernel
theorem dX12_leastLeg_0 : decode cX12_leastLeg 0 = .ok (.aload_n 0, 1) := by decide +kernel
theorem dX12_leastLeg_1 : decode cX12_leastLeg 1 = .ok (.iconst 0, 1) := by decide +kernel
theorem dX12_leastLeg_2 : decode cX12_leastLeg 2 = .ok (.putfield 1, 3) := by decide +kernel
theorem dX12_leastLeg_5 : decode cX12_leastLeg 5 = .ok (.aload_n 0, 1) := by decide +kernel
theorem dX12_leastLeg_6 : decode cX12_leastLeg 6 = .ok (.iload_n 1, 1) := by decide +kernel
theorem dX12_leastLeg_7 : decode cX12_leastLeg 7 = .ok (.i2l, 1) := by decide +kernel
theorem dX12_leastLeg_8 : decode cX12_leastLeg 8 = .ok (.invokevirtual 222, 3) := by decide +kernel
theorem dX12_leastLeg_11 : decode cX12_leastLeg 11 = .ok (.ifCond .ne 6, 3) := by decide +kernel
theorem dX12_leastLeg_14 : decode cX12_leastLeg 14 = .ok (.bipush (-2), 2) := by decide +kernel
theorem dX12_leastLeg_16 : decode cX12_leastLeg 16 = .ok (.ireturn, 1) := by decide +kernel
theorem dX12_leaves_0 : decode cX12_leaves 0 = .ok (.aload_n 0, 1) := by decide +kernel
theorem dX12_leaves_1 : decode cX12_leaves 1 = .ok (.iconst 0, 1) := by decide +kernel
theorem dX12_leaves_2 : decode cX12_leaves 2 = .ok (.putfield 1, 3) := by decide +kernel
theorem dX12_leaves_5 : decode cX12_leaves 5 = .ok (.aload_n 0, 1) := by decide +kernel
theorem dX12_leaves_6 : decode cX12_leaves 6 = .ok (.iload_n 1, 1) := by decide +kernel
theorem dX12_leaves_7 : decode cX12_leaves 7 = .ok (.i2l, 1) := by decide +kernel
theorem dX12_leaves_8 : decode cX12_leaves 8 = .ok (.invokevirtual 222, 3) := by decide +kernel
theorem dX12_leaves_11 : decode cX12_leaves 11 = .ok (.ifCond .eq 12, 3) := by decide +kernel
theorem dX12_leaves_23 : decode cX12_leaves 23 = .ok (.bipush (-2), 2) := by decide +kernel
theorem dX12_leaves_25 : decode cX12_leaves 25 = .ok (.ireturn, 1) := by decide +kernel
theorem dX12_lists_0 : decode cX12_lists 0 = .ok (.aload_n 0, 1) := by decide +kernel
theorem dX12_lists_1 : decode cX12_lists 1 = .ok (.iconst 0, 1) := by decide +kernel
theorem dX12_lists_2 : decode cX12_lists 2 = .ok (.putfield 1, 3) := by decide +kernel
theorem dX12_lists_5 : decode cX12_lists 5 = .ok (.iload_n 1, 1) := by decide +kernel
theorem dX12_lists_6 : decode cX12_lists 6 = .ok (.i2l, 1) := by decide +kernel
theorem dX12_lists_7 : decode cX12_lists 7 = .ok (.lconst 0, 1) := by decide +kernel
theorem dX12_lists_8 : decode cX12_lists 8 = .ok (.ldc2_w 275, 3) := by decide +kernel
theorem dX12_lists_11 : decode cX12_lists 11 = .ok (.invokestatic 144, 3) := by decide +kernel
theorem dX12_lists_14 : decode cX12_lists 14 = .ok (.ifCond .eq 12, 3) := by decide +kernel
theorem dX12_lists_17 : decode cX12_lists 17 = .ok (.aload_n 0, 1) := by decide +kernel
theorem dX12_lists_18 : decode cX12_lists 18 = .ok (.iload_n 2, 1) := by decide +kernel
theorem dX12_lists_19 : decode cX12_lists 19 = .ok (.i2l, 1) := by decide +kernel
theorem dX12_lists_20 : decode cX12_lists 20 = .ok (.invokevirtual 222, 3) := by decide +kernel
theorem dX12_lists_23 : decode cX12_lists 23 = .ok (.ifCond .ne 6, 3) := by decide +kernel
theorem dX12_lists_26 : decode cX12_lists 26 = .ok (.bipush (-2), 2) := by decide +kernel
theorem dX12_lists_28 : decode cX12_lists 28 = .ok (.ireturn, 1) := by decide +kernel
theorem dX12_needed_0 : decode cX12_needed 0 = .ok (.aload_n 0, 1) := by decide +kernel
theorem dX12_needed_1 : decode cX12_needed 1 = .ok (.iconst 0, 1) := by decide +kernel
theorem dX12_needed_2 : decode cX12_needed 2 = .ok (.putfield 1, 3) := by decide +kernel
theorem dX12_needed_5 : decode cX12_needed 5 = .ok (.aload_n 0, 1) := by decide +kernel
theorem dX12_needed_6 : decode cX12_needed 6 = .ok (.iload_n 1, 1) := by decide +kernel
theorem dX12_needed_7 : decode cX12_needed 7 = .ok (.i2l, 1) := by decide +kernel
theorem dX12_needed_8 : decode cX12_needed 8 = .ok (.invokevirtual 222, 3) := by decide +kernel
theorem dX12_needed_11 : decode cX12_needed 11 = .ok (.ifCond .eq 11, 3) := by decide +kernel
theorem dX12_needed_22 : decode cX12_needed 22 = .ok (.bipush (-2), 2) := by decide +kernel
theorem dX12_needed_24 : decode cX12_needed 24 = .ok (.ireturn, 1) := by decide +kernel
theorem dX12_needers_0 : decode cX12_needers 0 = .ok (.aload_n 0, 1) := by decide +kernel
theorem dX12_needers_1 : decode cX12_needers 1 = .ok (.iconst 0, 1) := by decide +kernel
theorem dX12_needers_2 : decode cX12_needers 2 = .ok (.putfield 1, 3) := by decide +kernel
theorem dX12_needers_5 : decode cX12_needers 5 = .ok (.aload_n 0, 1) := by decide +kernel
theorem dX12_needers_6 : decode cX12_needers 6 = .ok (.iload_n 1, 1) := by decide +kernel
theorem dX12_needers_7 : decode cX12_needers 7 = .ok (.i2l, 1) := by decide +kernel
theorem dX12_needers_8 : decode cX12_needers 8 = .ok (.invokevirtual 218, 3) := by decide +kernel
theorem dX12_needers_11 : decode cX12_needers 11 = .ok (.ifCond .ne 6, 3) := by decide +kernel
theorem dX12_needers_14 : decode cX12_needers 14 = .ok (.bipush (-2), 2) := by decide +kernel
theorem dX12_needers_16 : decode cX12_needers 16 = .ok (.ireturn, 1) := by decide +kernel
theorem dX12_newYear_0 : decode cX12_newYear 0 = .ok (.aload_n 0, 1) := by decide +kernel
theorem dX12_newYear_1 : decode cX12_newYear 1 = .ok (.iconst 0, 1) := by decide +kernel
theorem dX12_newYear_2 : decode cX12_newYear 2 = .ok (.putfield 1, 3) := by decide +kernel
theorem dX12_newYear_5 : decode cX12_newYear 5 = .ok (.aload_n 0, 1) := by decide +kernel
theorem dX12_newYear_6 : decode cX12_newYear 6 = .ok (.invokevirtual 295, 3) := by decide +kernel
theorem dX12_newYear_9 : decode cX12_newYear 9 = .ok (.aload_n 0, 1) := by decide +kernel
theorem dX12_newYear_10 : decode cX12_newYear 10 = .ok (.invokevirtual 315, 3) := by decide +kernel
theorem dX12_newYear_13 : decode cX12_newYear 13 = .ok (.istore_n 1, 1) := by decide +kernel
theorem dX12_newYear_14 : decode cX12_newYear 14 = .ok (.iconst 0, 1) := by decide +kernel
theorem dX12_newYear_15 : decode cX12_newYear 15 = .ok (.istore_n 2, 1) := by decide +kernel
theorem dX12_newYear_16 : decode cX12_newYear 16 = .ok (.iload_n 2, 1) := by decide +kernel
theorem dX12_newYear_17 : decode cX12_newYear 17 = .ok (.bipush 14, 2) := by decide +kernel
theorem dX12_newYear_19 : decode cX12_newYear 19 = .ok (.if_icmp .ge 29, 3) := by decide +kernel
theorem dX12_newYear_22 : decode cX12_newYear 22 = .ok (.aload_n 0, 1) := by decide +kernel
theorem dX12_newYear_23 : decode cX12_newYear 23 = .ok (.getfield 13, 3) := by decide +kernel
theorem dX12_newYear_26 : decode cX12_newYear 26 = .ok (.bipush 59, 2) := by decide +kernel
theorem dX12_newYear_28 : decode cX12_newYear 28 = .ok (.iload_n 2, 1) := by decide +kernel
theorem dX12_newYear_29 : decode cX12_newYear 29 = .ok (.iadd, 1) := by decide +kernel
theorem dX12_newYear_30 : decode cX12_newYear 30 = .ok (.iconst (-1), 1) := by decide +kernel
theorem dX12_newYear_31 : decode cX12_newYear 31 = .ok (.iastore, 1) := by decide +kernel
theorem dX12_newYear_32 : decode cX12_newYear 32 = .ok (.aload_n 0, 1) := by decide +kernel
theorem dX12_newYear_33 : decode cX12_newYear 33 = .ok (.getfield 13, 3) := by decide +kernel
theorem dX12_newYear_36 : decode cX12_newYear 36 = .ok (.bipush 73, 2) := by decide +kernel
theorem dX12_newYear_38 : decode cX12_newYear 38 = .ok (.iload_n 2, 1) := by decide +kernel
theorem dX12_newYear_39 : decode cX12_newYear 39 = .ok (.iadd, 1) := by decide +kernel
theorem dX12_newYear_40 : decode cX12_newYear 40 = .ok (.iconst (-1), 1) := by decide +kernel
theorem dX12_newYear_41 : decode cX12_newYear 41 = .ok (.iastore, 1) := by decide +kernel
theorem dX12_newYear_42 : decode cX12_newYear 42 = .ok (.iinc 2 1, 3) := by decide +kernel
theorem dX12_newYear_45 : decode cX12_newYear 45 = .ok (.goto (-29), 3) := by decide +kernel
theorem dX12_newYear_48 : decode cX12_newYear 48 = .ok (.aload_n 0, 1) := by decide +kernel
theorem dX12_newYear_49 : decode cX12_newYear 49 = .ok (.getfield 13, 3) := by decide +kernel
theorem dX12_newYear_52 : decode cX12_newYear 52 = .ok (.bipush 88, 2) := by decide +kernel
theorem dX12_newYear_54 : decode cX12_newYear 54 = .ok (.iconst 0, 1) := by decide +kernel
theorem dX12_newYear_55 : decode cX12_newYear 55 = .ok (.iastore, 1) := by decide +kernel
theorem dX12_newYear_56 : decode cX12_newYear 56 = .ok (.aload_n 0, 1) := by decide +kernel
theorem dX12_newYear_57 : decode cX12_newYear 57 = .ok (.getfield 13, 3) := by decide +kernel
theorem dX12_newYear_60 : decode cX12_newYear 60 = .ok (.bipush 89, 2) := by decide +kernel
theorem dX12_newYear_62 : decode cX12_newYear 62 = .ok (.dup2, 1) := by decide +kernel
theorem dX12_newYear_63 : decode cX12_newYear 63 = .ok (.iaload, 1) := by decide +kernel
theorem dX12_newYear_64 : decode cX12_newYear 64 = .ok (.iconst 1, 1) := by decide +kernel
theorem dX12_newYear_65 : decode cX12_newYear 65 = .ok (.iadd, 1) := by decide +kernel
theorem dX12_newYear_66 : decode cX12_newYear 66 = .ok (.iastore, 1) := by decide +kernel
theorem dX12_newYear_67 : decode cX12_newYear 67 = .ok (.aload_n 0, 1) := by decide +kernel
theorem dX12_newYear_68 : decode cX12_newYear 68 = .ok (.invokevirtual 301, 3) := by decide +kernel
theorem dX12_newYear_71 : decode cX12_newYear 71 = .ok (.iload_n 1, 1) := by decide +kernel
theorem dX12_newYear_72 : decode cX12_newYear 72 = .ok (.ireturn, 1) := by decide +kernel
theorem dX12_next_0 : decode cX12_next 0 = .ok (.aload_n 0, 1) := by decide +kernel
theorem dX12_next_1 : decode cX12_next 1 = .ok (.aload_n 0, 1) := by decide +kernel
theorem dX12_next_2 : decode cX12_next 2 = .ok (.getfield 103, 3) := by decide +kernel
theorem dX12_next_5 : decode cX12_next 5 = .ok (.putfield 100, 3) := by decide +kernel
theorem dX12_next_8 : decode cX12_next 8 = .ok (.aload_n 0, 1) := by decide +kernel
theorem dX12_next_9 : decode cX12_next 9 = .ok (.aload_n 0, 1) := by decide +kernel
theorem dX12_next_10 : decode cX12_next 10 = .ok (.getfield 100, 3) := by decide +kernel
theorem dX12_next_13 : decode cX12_next 13 = .ok (.invokevirtual 106, 3) := by decide +kernel
theorem dX12_next_16 : decode cX12_next 16 = .ok (.bipush 10, 2) := by decide +kernel
theorem dX12_next_18 : decode cX12_next 18 = .ok (.if_icmp .eq 16, 3) := by decide +kernel
theorem dX12_next_21 : decode cX12_next 21 = .ok (.aload_n 0, 1) := by decide +kernel
theorem dX12_next_22 : decode cX12_next 22 = .ok (.aload_n 0, 1) := by decide +kernel
theorem dX12_next_23 : decode cX12_next 23 = .ok (.getfield 100, 3) := by decide +kernel
theorem dX12_next_26 : decode cX12_next 26 = .ok (.invokevirtual 106, 3) := by decide +kernel
theorem dX12_next_29 : decode cX12_next 29 = .ok (.bipush 32, 2) := by decide +kernel
theorem dX12_next_31 : decode cX12_next 31 = .ok (.if_icmp .ne 16, 3) := by decide +kernel
theorem dX12_next_47 : decode cX12_next 47 = .ok (.aload_n 0, 1) := by decide +kernel
theorem dX12_next_48 : decode cX12_next 48 = .ok (.aload_n 0, 1) := by decide +kernel
theorem dX12_next_49 : decode cX12_next 49 = .ok (.getfield 100, 3) := by decide +kernel
theorem dX12_next_52 : decode cX12_next 52 = .ok (.putfield 103, 3) := by decide +kernel
theorem dX12_next_55 : decode cX12_next 55 = .ok (.aload_n 0, 1) := by decide +kernel
theorem dX12_next_56 : decode cX12_next 56 = .ok (.getfield 100, 3) := by decide +kernel
theorem dX12_next_59 : decode cX12_next 59 = .ok (.aload_n 0, 1) := by decide +kernel
theorem dX12_next_60 : decode cX12_next 60 = .ok (.getfield 85, 3) := by decide +kernel
theorem dX12_next_63 : decode cX12_next 63 = .ok (.if_icmp .lt 12, 3) := by decide +kernel
theorem dX12_next_66 : decode cX12_next 66 = .ok (.aload_n 0, 1) := by decide +kernel
theorem dX12_next_67 : decode cX12_next 67 = .ok (.bipush 22, 2) := by decide +kernel
theorem dX12_next_69 : decode cX12_next 69 = .ok (.putfield 110, 3) := by decide +kernel
theorem dX12_next_72 : decode cX12_next 72 = .ok (.goto 222, 3) := by decide +kernel
theorem dX12_next_294 : decode cX12_next 294 = .ok (.return_, 1) := by decide +kernel
theorem dX12_noTray_0 : decode cX12_noTray 0 = .ok (.iload_n 1, 1) := by decide +kernel
theorem dX12_noTray_1 : decode cX12_noTray 1 = .ok (.i2l, 1) := by decide +kernel
theorem dX12_noTray_2 : decode cX12_noTray 2 = .ok (.lconst 0, 1) := by decide +kernel
theorem dX12_noTray_3 : decode cX12_noTray 3 = .ok (.ldc2_w 275, 3) := by decide +kernel
theorem dX12_noTray_6 : decode cX12_noTray 6 = .ok (.invokestatic 144, 3) := by decide +kernel
theorem dX12_noTray_9 : decode cX12_noTray 9 = .ok (.ifCond .ne 8, 3) := by decide +kernel
theorem dX12_noTray_12 : decode cX12_noTray 12 = .ok (.bipush (-2), 2) := by decide +kernel
theorem dX12_noTray_14 : decode cX12_noTray 14 = .ok (.goto 19, 3) := by decide +kernel
theorem dX12_noTray_17 : decode cX12_noTray 17 = .ok (.aload_n 0, 1) := by decide +kernel
theorem dX12_noTray_18 : decode cX12_noTray 18 = .ok (.getfield 69, 3) := by decide +kernel
theorem dX12_noTray_21 : decode cX12_noTray 21 = .ok (.iload_n 1, 1) := by decide +kernel
theorem dX12_noTray_22 : decode cX12_noTray 22 = .ok (.iaload, 1) := by decide +kernel
theorem dX12_noTray_23 : decode cX12_noTray 23 = .ok (.iconst (-1), 1) := by decide +kernel
theorem dX12_noTray_24 : decode cX12_noTray 24 = .ok (.if_icmp .ne 8, 3) := by decide +kernel
theorem dX12_noTray_27 : decode cX12_noTray 27 = .ok (.bipush (-6), 2) := by decide +kernel
theorem dX12_noTray_29 : decode cX12_noTray 29 = .ok (.goto 4, 3) := by decide +kernel
theorem dX12_noTray_33 : decode cX12_noTray 33 = .ok (.ireturn, 1) := by decide +kernel
theorem dX12_notes_0 : decode cX12_notes 0 = .ok (.aload_n 0, 1) := by decide +kernel
theorem dX12_notes_1 : decode cX12_notes 1 = .ok (.getfield 13, 3) := by decide +kernel
theorem dX12_notes_4 : decode cX12_notes 4 = .ok (.bipush 90, 2) := by decide +kernel
theorem dX12_notes_6 : decode cX12_notes 6 = .ok (.iaload, 1) := by decide +kernel
theorem dX12_notes_7 : decode cX12_notes 7 = .ok (.bipush 10, 2) := by decide +kernel
theorem dX12_notes_9 : decode cX12_notes 9 = .ok (.if_icmp .ne 47, 3) := by decide +kernel
theorem dX12_notes_56 : decode cX12_notes 56 = .ok (.iconst 0, 1) := by decide +kernel
theorem dX12_notes_57 : decode cX12_notes 57 = .ok (.istore_n 1, 1) := by decide +kernel
theorem dX12_notes_58 : decode cX12_notes 58 = .ok (.iload_n 1, 1) := by decide +kernel
theorem dX12_notes_59 : decode cX12_notes 59 = .ok (.bipush 31, 2) := by decide +kernel
theorem dX12_notes_61 : decode cX12_notes 61 = .ok (.if_icmp .ge 35, 3) := by decide +kernel
theorem dX12_notes_64 : decode cX12_notes 64 = .ok (.aload_n 0, 1) := by decide +kernel
theorem dX12_notes_65 : decode cX12_notes 65 = .ok (.getfield 13, 3) := by decide +kernel
theorem dX12_notes_68 : decode cX12_notes 68 = .ok (.bipush 91, 2) := by decide +kernel
theorem dX12_notes_70 : decode cX12_notes 70 = .ok (.bipush 31, 2) := by decide +kernel
theorem dX12_notes_72 : decode cX12_notes 72 = .ok (.aload_n 0, 1) := by decide +kernel
theorem dX12_notes_73 : decode cX12_notes 73 = .ok (.getfield 13, 3) := by decide +kernel
theorem dX12_notes_76 : decode cX12_notes 76 = .ok (.bipush 90, 2) := by decide +kernel
theorem dX12_notes_78 : decode cX12_notes 78 = .ok (.iaload, 1) := by decide +kernel
theorem dX12_notes_79 : decode cX12_notes 79 = .ok (.imul, 1) := by decide +kernel
theorem dX12_notes_80 : decode cX12_notes 80 = .ok (.iadd, 1) := by decide +kernel
theorem dX12_notes_81 : decode cX12_notes 81 = .ok (.iload_n 1, 1) := by decide +kernel
theorem dX12_notes_82 : decode cX12_notes 82 = .ok (.iadd, 1) := by decide +kernel
theorem dX12_notes_83 : decode cX12_notes 83 = .ok (.aload_n 0, 1) := by decide +kernel
theorem dX12_notes_84 : decode cX12_notes 84 = .ok (.getfield 42, 3) := by decide +kernel
theorem dX12_notes_87 : decode cX12_notes 87 = .ok (.iload_n 1, 1) := by decide +kernel
theorem dX12_notes_88 : decode cX12_notes 88 = .ok (.iaload, 1) := by decide +kernel
theorem dX12_notes_89 : decode cX12_notes 89 = .ok (.iastore, 1) := by decide +kernel
theorem dX12_notes_90 : decode cX12_notes 90 = .ok (.iinc 1 1, 3) := by decide +kernel
theorem dX12_notes_93 : decode cX12_notes 93 = .ok (.goto (-35), 3) := by decide +kernel
theorem dX12_notes_96 : decode cX12_notes 96 = .ok (.aload_n 0, 1) := by decide +kernel
theorem dX12_notes_97 : decode cX12_notes 97 = .ok (.getfield 13, 3) := by decide +kernel
theorem dX12_notes_100 : decode cX12_notes 100 = .ok (.bipush 90, 2) := by decide +kernel
theorem dX12_notes_102 : decode cX12_notes 102 = .ok (.dup2, 1) := by decide +kernel
theorem dX12_notes_103 : decode cX12_notes 103 = .ok (.iaload, 1) := by decide +kernel
theorem dX12_notes_104 : decode cX12_notes 104 = .ok (.iconst 1, 1) := by decide +kernel
theorem dX12_notes_105 : decode cX12_notes 105 = .ok (.iadd, 1) := by decide +kernel
theorem dX12_notes_106 : decode cX12_notes 106 = .ok (.iastore, 1) := by decide +kernel
theorem dX12_notes_107 : decode cX12_notes 107 = .ok (.return_, 1) := by decide +kernel
theorem dX12_numbers_0 : decode cX12_numbers 0 = .ok (.aload_n 0, 1) := by decide +kernel
theorem dX12_numbers_1 : decode cX12_numbers 1 = .ok (.iconst 0, 1) := by decide +kernel
theorem dX12_numbers_2 : decode cX12_numbers 2 = .ok (.putfield 1, 3) := by decide +kernel
theorem dX12_numbers_5 : decode cX12_numbers 5 = .ok (.iload_n 1, 1) := by decide +kernel
theorem dX12_numbers_6 : decode cX12_numbers 6 = .ok (.i2l, 1) := by decide +kernel
theorem dX12_numbers_7 : decode cX12_numbers 7 = .ok (.lconst 0, 1) := by decide +kernel
theorem dX12_numbers_8 : decode cX12_numbers 8 = .ok (.ldc2_w 275, 3) := by decide +kernel
theorem dX12_numbers_11 : decode cX12_numbers 11 = .ok (.invokestatic 144, 3) := by decide +kernel
theorem dX12_numbers_14 : decode cX12_numbers 14 = .ok (.ifCond .eq 15, 3) := by decide +kernel
theorem dX12_numbers_17 : decode cX12_numbers 17 = .ok (.iload_n 2, 1) := by decide +kernel
theorem dX12_numbers_18 : decode cX12_numbers 18 = .ok (.i2l, 1) := by decide +kernel
theorem dX12_numbers_19 : decode cX12_numbers 19 = .ok (.lconst 0, 1) := by decide +kernel
theorem dX12_numbers_20 : decode cX12_numbers 20 = .ok (.ldc2_w 275, 3) := by decide +kernel
theorem dX12_numbers_23 : decode cX12_numbers 23 = .ok (.invokestatic 144, 3) := by decide +kernel
theorem dX12_numbers_26 : decode cX12_numbers 26 = .ok (.ifCond .ne 6, 3) := by decide +kernel
theorem dX12_numbers_29 : decode cX12_numbers 29 = .ok (.bipush (-2), 2) := by decide +kernel
theorem dX12_numbers_31 : decode cX12_numbers 31 = .ok (.ireturn, 1) := by decide +kernel
theorem dX12_numbers_32 : decode cX12_numbers 32 = .ok (.iload_n 3, 1) := by decide +kernel
theorem dX12_numbers_33 : decode cX12_numbers 33 = .ok (.i2l, 1) := by decide +kernel
theorem dX12_numbers_34 : decode cX12_numbers 34 = .ok (.lconst 0, 1) := by decide +kernel
theorem dX12_numbers_35 : decode cX12_numbers 35 = .ok (.ldc2_w 324, 3) := by decide +kernel
theorem dX12_numbers_38 : decode cX12_numbers 38 = .ok (.invokestatic 144, 3) := by decide +kernel
theorem dX12_numbers_41 : decode cX12_numbers 41 = .ok (.ifCond .ne 6, 3) := by decide +kernel
theorem dX12_numbers_44 : decode cX12_numbers 44 = .ok (.bipush (-3), 2) := by decide +kernel
theorem dX12_numbers_46 : decode cX12_numbers 46 = .ok (.ireturn, 1) := by decide +kernel
theorem dX12_numbers_47 : decode cX12_numbers 47 = .ok (.aload_n 0, 1) := by decide +kernel
theorem dX12_numbers_48 : decode cX12_numbers 48 = .ok (.getfield 69, 3) := by decide +kernel
theorem dX12_numbers_51 : decode cX12_numbers 51 = .ok (.iload_n 1, 1) := by decide +kernel
theorem dX12_numbers_52 : decode cX12_numbers 52 = .ok (.iload_n 2, 1) := by decide +kernel
theorem dX12_numbers_53 : decode cX12_numbers 53 = .ok (.iastore, 1) := by decide +kernel
theorem dX12_numbers_54 : decode cX12_numbers 54 = .ok (.aload_n 0, 1) := by decide +kernel
theorem dX12_numbers_55 : decode cX12_numbers 55 = .ok (.getfield 72, 3) := by decide +kernel
theorem dX12_numbers_58 : decode cX12_numbers 58 = .ok (.iload_n 1, 1) := by decide +kernel
theorem dX12_numbers_59 : decode cX12_numbers 59 = .ok (.iload_n 3, 1) := by decide +kernel
theorem dX12_numbers_60 : decode cX12_numbers 60 = .ok (.iastore, 1) := by decide +kernel
theorem dX12_numbers_61 : decode cX12_numbers 61 = .ok (.iconst 0, 1) := by decide +kernel
theorem dX12_numbers_62 : decode cX12_numbers 62 = .ok (.istore 4, 2) := by decide +kernel
theorem dX12_numbers_64 : decode cX12_numbers 64 = .ok (.iload 4, 2) := by decide +kernel
theorem dX12_numbers_66 : decode cX12_numbers 66 = .ok (.iload_n 3, 1) := by decide +kernel
theorem dX12_numbers_67 : decode cX12_numbers 67 = .ok (.if_icmp .ge 22, 3) := by decide +kernel
theorem dX12_numbers_70 : decode cX12_numbers 70 = .ok (.aload_n 0, 1) := by decide +kernel
theorem dX12_numbers_71 : decode cX12_numbers 71 = .ok (.getfield 75, 3) := by decide +kernel
theorem dX12_numbers_74 : decode cX12_numbers 74 = .ok (.bipush 40, 2) := by decide +kernel
theorem dX12_numbers_76 : decode cX12_numbers 76 = .ok (.iload_n 1, 1) := by decide +kernel
theorem dX12_numbers_77 : decode cX12_numbers 77 = .ok (.imul, 1) := by decide +kernel
theorem dX12_numbers_78 : decode cX12_numbers 78 = .ok (.iload 4, 2) := by decide +kernel
theorem dX12_numbers_80 : decode cX12_numbers 80 = .ok (.iadd, 1) := by decide +kernel
theorem dX12_numbers_81 : decode cX12_numbers 81 = .ok (.lconst 0, 1) := by decide +kernel
theorem dX12_numbers_82 : decode cX12_numbers 82 = .ok (.lastore, 1) := by decide +kernel
theorem dX12_numbers_83 : decode cX12_numbers 83 = .ok (.iinc 4 1, 3) := by decide +kernel
theorem dX12_numbers_86 : decode cX12_numbers 86 = .ok (.goto (-22), 3) := by decide +kernel
theorem dX12_numbers_89 : decode cX12_numbers 89 = .ok (.iconst 0, 1) := by decide +kernel
theorem dX12_numbers_90 : decode cX12_numbers 90 = .ok (.ireturn, 1) := by decide +kernel
theorem dX12_openSet_0 : decode cX12_openSet 0 = .ok (.iconst 0, 1) := by decide +kernel
theorem dX12_openSet_1 : decode cX12_openSet 1 = .ok (.istore_n 1, 1) := by decide +kernel
theorem dX12_openSet_2 : decode cX12_openSet 2 = .ok (.iconst 0, 1) := by decide +kernel
theorem dX12_openSet_3 : decode cX12_openSet 3 = .ok (.istore_n 2, 1) := by decide +kernel
theorem dX12_openSet_4 : decode cX12_openSet 4 = .ok (.iload_n 2, 1) := by decide +kernel
theorem dX12_openSet_5 : decode cX12_openSet 5 = .ok (.aload_n 0, 1) := by decide +kernel
theorem dX12_openSet_6 : decode cX12_openSet 6 = .ok (.getfield 13, 3) := by decide +kernel
theorem dX12_openSet_9 : decode cX12_openSet 9 = .ok (.iconst 1, 1) := by decide +kernel
theorem dX12_openSet_10 : decode cX12_openSet 10 = .ok (.iaload, 1) := by decide +kernel
theorem dX12_openSet_11 : decode cX12_openSet 11 = .ok (.if_icmp .ge 27, 3) := by decide +kernel
theorem dX12_openSet_38 : decode cX12_openSet 38 = .ok (.iload_n 1, 1) := by decide +kernel
theorem dX12_openSet_39 : decode cX12_openSet 39 = .ok (.ireturn, 1) := by decide +kernel
theorem dX12_opens_0 : decode cX12_opens 0 = .ok (.aload_n 0, 1) := by decide +kernel
theorem dX12_opens_1 : decode cX12_opens 1 = .ok (.iconst 0, 1) := by decide +kernel
theorem dX12_opens_2 : decode cX12_opens 2 = .ok (.putfield 1, 3) := by decide +kernel
theorem dX12_opens_5 : decode cX12_opens 5 = .ok (.aload_n 0, 1) := by decide +kernel
theorem dX12_opens_6 : decode cX12_opens 6 = .ok (.iload_n 1, 1) := by decide +kernel
theorem dX12_opens_7 : decode cX12_opens 7 = .ok (.i2l, 1) := by decide +kernel
theorem dX12_opens_8 : decode cX12_opens 8 = .ok (.invokevirtual 222, 3) := by decide +kernel
theorem dX12_opens_11 : decode cX12_opens 11 = .ok (.ifCond .ne 6, 3) := by decide +kernel
theorem dX12_opens_14 : decode cX12_opens 14 = .ok (.bipush (-2), 2) := by decide +kernel
theorem dX12_opens_16 : decode cX12_opens 16 = .ok (.ireturn, 1) := by decide +kernel
theorem dX12_order_0 : decode cX12_order 0 = .ok (.aload_n 0, 1) := by decide +kernel
theorem dX12_order_1 : decode cX12_order 1 = .ok (.iconst 0, 1) := by decide +kernel
theorem dX12_order_2 : decode cX12_order 2 = .ok (.putfield 1, 3) := by decide +kernel
theorem dX12_order_5 : decode cX12_order 5 = .ok (.aload_n 0, 1) := by decide +kernel
theorem dX12_order_6 : decode cX12_order 6 = .ok (.iload_n 1, 1) := by decide +kernel
theorem dX12_order_7 : decode cX12_order 7 = .ok (.i2l, 1) := by decide +kernel
theorem dX12_order_8 : decode cX12_order 8 = .ok (.invokevirtual 222, 3) := by decide +kernel
theorem dX12_order_11 : decode cX12_order 11 = .ok (.ifCond .eq 21, 3) := by decide +kernel
theorem dX12_order_32 : decode cX12_order 32 = .ok (.bipush (-2), 2) := by decide +kernel
theorem dX12_order_34 : decode cX12_order 34 = .ok (.ireturn, 1) := by decide +kernel
theorem dX12_parties_0 : decode cX12_parties 0 = .ok (.aload_n 0, 1) := by decide +kernel
theorem dX12_parties_1 : decode cX12_parties 1 = .ok (.iconst 0, 1) := by decide +kernel
theorem dX12_parties_2 : decode cX12_parties 2 = .ok (.putfield 1, 3) := by decide +kernel
theorem dX12_parties_5 : decode cX12_parties 5 = .ok (.aload_n 0, 1) := by decide +kernel
theorem dX12_parties_6 : decode cX12_parties 6 = .ok (.iload_n 1, 1) := by decide +kernel
theorem dX12_parties_7 : decode cX12_parties 7 = .ok (.i2l, 1) := by decide +kernel
theorem dX12_parties_8 : decode cX12_parties 8 = .ok (.invokevirtual 222, 3) := by decide +kernel
theorem dX12_parties_11 : decode cX12_parties 11 = .ok (.ifCond .ne 6, 3) := by decide +kernel
theorem dX12_parties_14 : decode cX12_parties 14 = .ok (.bipush (-2), 2) := by decide +kernel
theorem dX12_parties_16 : decode cX12_parties 16 = .ok (.ireturn, 1) := by decide +kernel
theorem dX12_plain_0 : decode cX12_plain 0 = .ok (.iconst 0, 1) := by decide +kernel
theorem dX12_plain_1 : decode cX12_plain 1 = .ok (.istore_n 1, 1) := by decide +kernel
theorem dX12_plain_2 : decode cX12_plain 2 = .ok (.iload_n 1, 1) := by decide +kernel
theorem dX12_plain_3 : decode cX12_plain 3 = .ok (.sipush 1302, 3) := by decide +kernel
theorem dX12_plain_6 : decode cX12_plain 6 = .ok (.if_icmp .ge 13, 3) := by decide +kernel
theorem dX12_plain_9 : decode cX12_plain 9 = .ok (.aload_n 0, 1) := by decide +kernel
theorem dX12_plain_10 : decode cX12_plain 10 = .ok (.iload_n 1, 1) := by decide +kernel
theorem dX12_plain_11 : decode cX12_plain 11 = .ok (.iconst 0, 1) := by decide +kernel
theorem dX12_plain_12 : decode cX12_plain 12 = .ok (.iastore, 1) := by decide +kernel
theorem dX12_plain_13 : decode cX12_plain 13 = .ok (.iinc 1 1, 3) := by decide +kernel
theorem dX12_plain_16 : decode cX12_plain 16 = .ok (.goto (-14), 3) := by decide +kernel
theorem dX12_plain_19 : decode cX12_plain 19 = .ok (.iconst 0, 1) := by decide +kernel
theorem dX12_plain_20 : decode cX12_plain 20 = .ok (.istore_n 1, 1) := by decide +kernel
theorem dX12_plain_21 : decode cX12_plain 21 = .ok (.iload_n 1, 1) := by decide +kernel
theorem dX12_plain_22 : decode cX12_plain 22 = .ok (.bipush 14, 2) := by decide +kernel
theorem dX12_plain_24 : decode cX12_plain 24 = .ok (.if_icmp .ge 23, 3) := by decide +kernel
theorem dX12_plain_27 : decode cX12_plain 27 = .ok (.aload_n 0, 1) := by decide +kernel
theorem dX12_plain_28 : decode cX12_plain 28 = .ok (.bipush 59, 2) := by decide +kernel
theorem dX12_plain_30 : decode cX12_plain 30 = .ok (.iload_n 1, 1) := by decide +kernel
theorem dX12_plain_31 : decode cX12_plain 31 = .ok (.iadd, 1) := by decide +kernel
theorem dX12_plain_32 : decode cX12_plain 32 = .ok (.iconst (-1), 1) := by decide +kernel
theorem dX12_plain_33 : decode cX12_plain 33 = .ok (.iastore, 1) := by decide +kernel
theorem dX12_plain_34 : decode cX12_plain 34 = .ok (.aload_n 0, 1) := by decide +kernel
theorem dX12_plain_35 : decode cX12_plain 35 = .ok (.bipush 73, 2) := by decide +kernel
theorem dX12_plain_37 : decode cX12_plain 37 = .ok (.iload_n 1, 1) := by decide +kernel
theorem dX12_plain_38 : decode cX12_plain 38 = .ok (.iadd, 1) := by decide +kernel
theorem dX12_plain_39 : decode cX12_plain 39 = .ok (.iconst (-1), 1) := by decide +kernel
theorem dX12_plain_40 : decode cX12_plain 40 = .ok (.iastore, 1) := by decide +kernel
theorem dX12_plain_41 : decode cX12_plain 41 = .ok (.iinc 1 1, 3) := by decide +kernel
theorem dX12_plain_44 : decode cX12_plain 44 = .ok (.goto (-23), 3) := by decide +kernel
theorem dX12_plain_47 : decode cX12_plain 47 = .ok (.return_, 1) := by decide +kernel
theorem dX12_rain_0 : decode cX12_rain 0 = .ok (.aload_n 0, 1) := by decide +kernel
theorem dX12_rain_1 : decode cX12_rain 1 = .ok (.iconst 0, 1) := by decide +kernel
theorem dX12_rain_2 : decode cX12_rain 2 = .ok (.putfield 1, 3) := by decide +kernel
theorem dX12_rain_5 : decode cX12_rain 5 = .ok (.iload_n 1, 1) := by decide +kernel
theorem dX12_rain_6 : decode cX12_rain 6 = .ok (.i2l, 1) := by decide +kernel
theorem dX12_rain_7 : decode cX12_rain 7 = .ok (.lconst 1, 1) := by decide +kernel
theorem dX12_rain_8 : decode cX12_rain 8 = .ok (.ldc2_w 309, 3) := by decide +kernel
theorem dX12_rain_11 : decode cX12_rain 11 = .ok (.invokestatic 144, 3) := by decide +kernel
theorem dX12_rain_14 : decode cX12_rain 14 = .ok (.ifCond .ne 6, 3) := by decide +kernel
theorem dX12_rain_17 : decode cX12_rain 17 = .ok (.bipush (-3), 2) := by decide +kernel
theorem dX12_rain_19 : decode cX12_rain 19 = .ok (.ireturn, 1) := by decide +kernel
theorem dX12_rain_20 : decode cX12_rain 20 = .ok (.aload_n 0, 1) := by decide +kernel
theorem dX12_rain_21 : decode cX12_rain 21 = .ok (.invokevirtual 295, 3) := by decide +kernel
theorem dX12_rain_24 : decode cX12_rain 24 = .ok (.iconst 0, 1) := by decide +kernel
theorem dX12_rain_25 : decode cX12_rain 25 = .ok (.istore_n 2, 1) := by decide +kernel
theorem dX12_rain_26 : decode cX12_rain 26 = .ok (.iconst 0, 1) := by decide +kernel
theorem dX12_rain_27 : decode cX12_rain 27 = .ok (.istore_n 3, 1) := by decide +kernel
theorem dX12_rain_28 : decode cX12_rain 28 = .ok (.iload_n 3, 1) := by decide +kernel
theorem dX12_rain_29 : decode cX12_rain 29 = .ok (.iload_n 1, 1) := by decide +kernel
theorem dX12_rain_30 : decode cX12_rain 30 = .ok (.if_icmp .ge 24, 3) := by decide +kernel
theorem dX12_rain_33 : decode cX12_rain 33 = .ok (.iload_n 2, 1) := by decide +kernel
theorem dX12_rain_34 : decode cX12_rain 34 = .ok (.aload_n 0, 1) := by decide +kernel
theorem dX12_rain_35 : decode cX12_rain 35 = .ok (.invokevirtual 311, 3) := by decide +kernel
theorem dX12_rain_38 : decode cX12_rain 38 = .ok (.ifCond .eq 7, 3) := by decide +kernel
theorem dX12_rain_45 : decode cX12_rain 45 = .ok (.iconst 0, 1) := by decide +kernel
theorem dX12_rain_46 : decode cX12_rain 46 = .ok (.iadd, 1) := by decide +kernel
theorem dX12_rain_47 : decode cX12_rain 47 = .ok (.istore_n 2, 1) := by decide +kernel
theorem dX12_rain_48 : decode cX12_rain 48 = .ok (.iinc 3 1, 3) := by decide +kernel
theorem dX12_rain_51 : decode cX12_rain 51 = .ok (.goto (-23), 3) := by decide +kernel
theorem dX12_rain_54 : decode cX12_rain 54 = .ok (.iload_n 2, 1) := by decide +kernel
theorem dX12_rain_55 : decode cX12_rain 55 = .ok (.ifCond .le 7, 3) := by decide +kernel
theorem dX12_rain_62 : decode cX12_rain 62 = .ok (.iload_n 2, 1) := by decide +kernel
theorem dX12_rain_63 : decode cX12_rain 63 = .ok (.ireturn, 1) := by decide +kernel
theorem dX12_rains_0 : decode cX12_rains 0 = .ok (.iconst (-1), 1) := by decide +kernel
theorem dX12_rains_1 : decode cX12_rains 1 = .ok (.istore_n 1, 1) := by decide +kernel
theorem dX12_rains_2 : decode cX12_rains 2 = .ok (.iconst 0, 1) := by decide +kernel
theorem dX12_rains_3 : decode cX12_rains 3 = .ok (.istore_n 2, 1) := by decide +kernel
theorem dX12_rains_4 : decode cX12_rains 4 = .ok (.iload_n 2, 1) := by decide +kernel
theorem dX12_rains_5 : decode cX12_rains 5 = .ok (.aload_n 0, 1) := by decide +kernel
theorem dX12_rains_6 : decode cX12_rains 6 = .ok (.getfield 13, 3) := by decide +kernel
theorem dX12_rains_9 : decode cX12_rains 9 = .ok (.iconst 1, 1) := by decide +kernel
theorem dX12_rains_10 : decode cX12_rains 10 = .ok (.iaload, 1) := by decide +kernel
theorem dX12_rains_11 : decode cX12_rains 11 = .ok (.if_icmp .ge 50, 3) := by decide +kernel
theorem dX12_rains_61 : decode cX12_rains 61 = .ok (.iload_n 1, 1) := by decide +kernel
theorem dX12_rains_62 : decode cX12_rains 62 = .ok (.iconst (-1), 1) := by decide +kernel
theorem dX12_rains_63 : decode cX12_rains 63 = .ok (.if_icmp .ne 5, 3) := by decide +kernel
theorem dX12_rains_66 : decode cX12_rains 66 = .ok (.iconst 0, 1) := by decide +kernel
theorem dX12_rains_67 : decode cX12_rains 67 = .ok (.ireturn, 1) := by decide +kernel
theorem dX12_reach_0 : decode cX12_reach 0 = .ok (.aload_n 0, 1) := by decide +kernel
theorem dX12_reach_1 : decode cX12_reach 1 = .ok (.iconst 0, 1) := by decide +kernel
theorem dX12_reach_2 : decode cX12_reach 2 = .ok (.putfield 1, 3) := by decide +kernel
theorem dX12_reach_5 : decode cX12_reach 5 = .ok (.aload_n 0, 1) := by decide +kernel
theorem dX12_reach_6 : decode cX12_reach 6 = .ok (.iload_n 1, 1) := by decide +kernel
theorem dX12_reach_7 : decode cX12_reach 7 = .ok (.i2l, 1) := by decide +kernel
theorem dX12_reach_8 : decode cX12_reach 8 = .ok (.invokevirtual 222, 3) := by decide +kernel
theorem dX12_reach_11 : decode cX12_reach 11 = .ok (.ifCond .ne 6, 3) := by decide +kernel
theorem dX12_reach_14 : decode cX12_reach 14 = .ok (.bipush (-2), 2) := by decide +kernel
theorem dX12_reach_16 : decode cX12_reach 16 = .ok (.ireturn, 1) := by decide +kernel
theorem dX12_restore_0 : decode cX12_restore 0 = .ok (.aload_n 0, 1) := by decide +kernel
theorem dX12_restore_1 : decode cX12_restore 1 = .ok (.iconst 0, 1) := by decide +kernel
theorem dX12_restore_2 : decode cX12_restore 2 = .ok (.putfield 1, 3) := by decide +kernel
theorem dX12_restore_5 : decode cX12_restore 5 = .ok (.iload_n 1, 1) := by decide +kernel
theorem dX12_restore_6 : decode cX12_restore 6 = .ok (.i2l, 1) := by decide +kernel
theorem dX12_restore_7 : decode cX12_restore 7 = .ok (.lconst 0, 1) := by decide +kernel
theorem dX12_restore_8 : decode cX12_restore 8 = .ok (.lconst 1, 1) := by decide +kernel
theorem dX12_restore_9 : decode cX12_restore 9 = .ok (.invokestatic 144, 3) := by decide +kernel
theorem dX12_restore_12 : decode cX12_restore 12 = .ok (.ifCond .ne 6, 3) := by decide +kernel
theorem dX12_restore_15 : decode cX12_restore 15 = .ok (.bipush (-2), 2) := by decide +kernel
theorem dX12_restore_17 : decode cX12_restore 17 = .ok (.ireturn, 1) := by decide +kernel
theorem dX12_restore_18 : decode cX12_restore 18 = .ok (.aload_n 0, 1) := by decide +kernel
theorem dX12_restore_19 : decode cX12_restore 19 = .ok (.getfield 17, 3) := by decide +kernel
theorem dX12_restore_22 : decode cX12_restore 22 = .ok (.iload_n 1, 1) := by decide +kernel
