theorem dX12_breaks_0 : decode cX12_breaks 0 = .ok (.aload_n 0, 1) := by decide +kernel
theorem dX12_breaks_1 : decode cX12_breaks 1 = .ok (.iconst 0, 1) := by decide +kernel
theorem dX12_breaks_2 : decode cX12_breaks 2 = .ok (.putfield 1, 3) := by decide +kernel
theorem dX12_breaks_5 : decode cX12_breaks 5 = .ok (.aload_n 0, 1) := by decide +kernel
theorem dX12_breaks_6 : decode cX12_breaks 6 = .ok (.iload_n 1, 1) := by decide +kernel
theorem dX12_breaks_7 : decode cX12_breaks 7 = .ok (.i2l, 1) := by decide +kernel
theorem dX12_breaks_8 : decode cX12_breaks 8 = .ok (.invokevirtual 218, 3) := by decide +kernel
theorem dX12_breaks_11 : decode cX12_breaks 11 = .ok (.ifCond .ne 6, 3) := by decide +kernel
theorem dX12_breaks_14 : decode cX12_breaks 14 = .ok (.bipush (-2), 2) := by decide +kernel
theorem dX12_breaks_16 : decode cX12_breaks 16 = .ok (.ireturn, 1) := by decide +kernel
theorem dX12_breaks_17 : decode cX12_breaks 17 = .ok (.aload_n 0, 1) := by decide +kernel
theorem dX12_breaks_18 : decode cX12_breaks 18 = .ok (.getfield 13, 3) := by decide +kernel
theorem dX12_breaks_21 : decode cX12_breaks 21 = .ok (.bipush 87, 2) := by decide +kernel
theorem dX12_breaks_23 : decode cX12_breaks 23 = .ok (.iaload, 1) := by decide +kernel
theorem dX12_breaks_24 : decode cX12_breaks 24 = .ok (.i2l, 1) := by decide +kernel
theorem dX12_breaks_25 : decode cX12_breaks 25 = .ok (.iload_n 1, 1) := by decide +kernel
theorem dX12_breaks_26 : decode cX12_breaks 26 = .ok (.invokestatic 186, 3) := by decide +kernel
theorem dX12_breaks_29 : decode cX12_breaks 29 = .ok (.ifCond .eq 6, 3) := by decide +kernel
theorem dX12_breaks_32 : decode cX12_breaks 32 = .ok (.bipush (-5), 2) := by decide +kernel
theorem dX12_breaks_34 : decode cX12_breaks 34 = .ok (.ireturn, 1) := by decide +kernel
theorem dX12_breaks_35 : decode cX12_breaks 35 = .ok (.aload_n 0, 1) := by decide +kernel
theorem dX12_breaks_36 : decode cX12_breaks 36 = .ok (.invokevirtual 295, 3) := by decide +kernel
theorem dX12_breaks_39 : decode cX12_breaks 39 = .ok (.aload_n 0, 1) := by decide +kernel
theorem dX12_breaks_40 : decode cX12_breaks 40 = .ok (.getfield 13, 3) := by decide +kernel
theorem dX12_breaks_43 : decode cX12_breaks 43 = .ok (.bipush 59, 2) := by decide +kernel
theorem dX12_breaks_45 : decode cX12_breaks 45 = .ok (.iload_n 1, 1) := by decide +kernel
theorem dX12_breaks_46 : decode cX12_breaks 46 = .ok (.iadd, 1) := by decide +kernel
theorem dX12_breaks_47 : decode cX12_breaks 47 = .ok (.iaload, 1) := by decide +kernel
theorem dX12_breaks_48 : decode cX12_breaks 48 = .ok (.iconst (-1), 1) := by decide +kernel
theorem dX12_breaks_49 : decode cX12_breaks 49 = .ok (.if_icmp .ne 7, 3) := by decide +kernel
theorem dX12_breaks_52 : decode cX12_breaks 52 = .ok (.iconst 0, 1) := by decide +kernel
theorem dX12_breaks_53 : decode cX12_breaks 53 = .ok (.goto 4, 3) := by decide +kernel
theorem dX12_breaks_56 : decode cX12_breaks 56 = .ok (.iconst 1, 1) := by decide +kernel
theorem dX12_breaks_57 : decode cX12_breaks 57 = .ok (.istore_n 2, 1) := by decide +kernel
theorem dX12_breaks_58 : decode cX12_breaks 58 = .ok (.aload_n 0, 1) := by decide +kernel
theorem dX12_breaks_59 : decode cX12_breaks 59 = .ok (.getfield 13, 3) := by decide +kernel
theorem dX12_breaks_62 : decode cX12_breaks 62 = .ok (.iload_n 1, 1) := by decide +kernel
theorem dX12_breaks_63 : decode cX12_breaks 63 = .ok (.invokestatic 202, 3) := by decide +kernel
theorem dX12_breaks_66 : decode cX12_breaks 66 = .ok (.aload_n 0, 1) := by decide +kernel
theorem dX12_breaks_67 : decode cX12_breaks 67 = .ok (.invokevirtual 301, 3) := by decide +kernel
theorem dX12_breaks_70 : decode cX12_breaks 70 = .ok (.iload_n 2, 1) := by decide +kernel
theorem dX12_breaks_71 : decode cX12_breaks 71 = .ok (.ireturn, 1) := by decide +kernel
theorem dX12_days_0 : decode cX12_days 0 = .ok (.aload_n 0, 1) := by decide +kernel
theorem dX12_days_1 : decode cX12_days 1 = .ok (.iconst 0, 1) := by decide +kernel
theorem dX12_days_2 : decode cX12_days 2 = .ok (.putfield 1, 3) := by decide +kernel
theorem dX12_days_5 : decode cX12_days 5 = .ok (.iload_n 1, 1) := by decide +kernel
theorem dX12_days_6 : decode cX12_days 6 = .ok (.i2l, 1) := by decide +kernel
theorem dX12_days_7 : decode cX12_days 7 = .ok (.lconst 1, 1) := by decide +kernel
theorem dX12_days_8 : decode cX12_days 8 = .ok (.ldc2_w 307, 3) := by decide +kernel
theorem dX12_days_11 : decode cX12_days 11 = .ok (.invokestatic 144, 3) := by decide +kernel
theorem dX12_days_14 : decode cX12_days 14 = .ok (.ifCond .ne 6, 3) := by decide +kernel
theorem dX12_days_17 : decode cX12_days 17 = .ok (.bipush (-3), 2) := by decide +kernel
theorem dX12_days_19 : decode cX12_days 19 = .ok (.ireturn, 1) := by decide +kernel
theorem dX12_days_20 : decode cX12_days 20 = .ok (.aload_n 0, 1) := by decide +kernel
theorem dX12_days_21 : decode cX12_days 21 = .ok (.invokevirtual 295, 3) := by decide +kernel
theorem dX12_days_24 : decode cX12_days 24 = .ok (.aload_n 0, 1) := by decide +kernel
theorem dX12_days_25 : decode cX12_days 25 = .ok (.getfield 13, 3) := by decide +kernel
theorem dX12_days_28 : decode cX12_days 28 = .ok (.bipush 88, 2) := by decide +kernel
theorem dX12_days_30 : decode cX12_days 30 = .ok (.dup2, 1) := by decide +kernel
theorem dX12_days_31 : decode cX12_days 31 = .ok (.iaload, 1) := by decide +kernel
theorem dX12_days_32 : decode cX12_days 32 = .ok (.iload_n 1, 1) := by decide +kernel
theorem dX12_days_33 : decode cX12_days 33 = .ok (.iadd, 1) := by decide +kernel
theorem dX12_days_34 : decode cX12_days 34 = .ok (.iastore, 1) := by decide +kernel
theorem dX12_days_35 : decode cX12_days 35 = .ok (.aload_n 0, 1) := by decide +kernel
theorem dX12_days_36 : decode cX12_days 36 = .ok (.invokevirtual 301, 3) := by decide +kernel
theorem dX12_days_39 : decode cX12_days 39 = .ok (.aload_n 0, 1) := by decide +kernel
theorem dX12_days_40 : decode cX12_days 40 = .ok (.getfield 13, 3) := by decide +kernel
theorem dX12_days_43 : decode cX12_days 43 = .ok (.bipush 88, 2) := by decide +kernel
theorem dX12_days_45 : decode cX12_days 45 = .ok (.iaload, 1) := by decide +kernel
theorem dX12_days_46 : decode cX12_days 46 = .ok (.ireturn, 1) := by decide +kernel
theorem dX12_draw_0 : decode cX12_draw 0 = .ok (.aload_n 0, 1) := by decide +kernel
theorem dX12_draw_1 : decode cX12_draw 1 = .ok (.ldc_w 320, 3) := by decide +kernel
theorem dX12_draw_4 : decode cX12_draw 4 = .ok (.aload_n 0, 1) := by decide +kernel
theorem dX12_draw_5 : decode cX12_draw 5 = .ok (.getfield 321, 3) := by decide +kernel
theorem dX12_draw_8 : decode cX12_draw 8 = .ok (.imul, 1) := by decide +kernel
theorem dX12_draw_9 : decode cX12_draw 9 = .ok (.sipush 12345, 3) := by decide +kernel
theorem dX12_draw_12 : decode cX12_draw 12 = .ok (.iadd, 1) := by decide +kernel
theorem dX12_draw_13 : decode cX12_draw 13 = .ok (.putfield 321, 3) := by decide +kernel
theorem dX12_draw_16 : decode cX12_draw 16 = .ok (.aload_n 0, 1) := by decide +kernel
theorem dX12_draw_17 : decode cX12_draw 17 = .ok (.getfield 321, 3) := by decide +kernel
theorem dX12_draw_20 : decode cX12_draw 20 = .ok (.bipush 16, 2) := by decide +kernel
theorem dX12_draw_22 : decode cX12_draw 22 = .ok (.iushr, 1) := by decide +kernel
theorem dX12_draw_23 : decode cX12_draw 23 = .ok (.iload_n 1, 1) := by decide +kernel
theorem dX12_draw_24 : decode cX12_draw 24 = .ok (.irem, 1) := by decide +kernel
theorem dX12_draw_25 : decode cX12_draw 25 = .ok (.ireturn, 1) := by decide +kernel
theorem dX12_isAhead_0 : decode cX12_isAhead 0 = .ok (.iconst 0, 1) := by decide +kernel
theorem dX12_isAhead_1 : decode cX12_isAhead 1 = .ok (.istore_n 1, 1) := by decide +kernel
theorem dX12_isAhead_2 : decode cX12_isAhead 2 = .ok (.iload_n 1, 1) := by decide +kernel
theorem dX12_isAhead_3 : decode cX12_isAhead 3 = .ok (.bipush 31, 2) := by decide +kernel
theorem dX12_isAhead_5 : decode cX12_isAhead 5 = .ok (.if_icmp .ge 24, 3) := by decide +kernel
theorem dX12_isAhead_8 : decode cX12_isAhead 8 = .ok (.aload_n 0, 1) := by decide +kernel
theorem dX12_isAhead_9 : decode cX12_isAhead 9 = .ok (.getfield 13, 3) := by decide +kernel
theorem dX12_isAhead_12 : decode cX12_isAhead 12 = .ok (.bipush 59, 2) := by decide +kernel
theorem dX12_isAhead_14 : decode cX12_isAhead 14 = .ok (.iload_n 1, 1) := by decide +kernel
theorem dX12_isAhead_15 : decode cX12_isAhead 15 = .ok (.iadd, 1) := by decide +kernel
theorem dX12_isAhead_16 : decode cX12_isAhead 16 = .ok (.aload_n 0, 1) := by decide +kernel
theorem dX12_isAhead_17 : decode cX12_isAhead 17 = .ok (.getfield 45, 3) := by decide +kernel
theorem dX12_isAhead_20 : decode cX12_isAhead 20 = .ok (.iload_n 1, 1) := by decide +kernel
theorem dX12_isAhead_21 : decode cX12_isAhead 21 = .ok (.iaload, 1) := by decide +kernel
theorem dX12_isAhead_22 : decode cX12_isAhead 22 = .ok (.iastore, 1) := by decide +kernel
theorem dX12_isAhead_23 : decode cX12_isAhead 23 = .ok (.iinc 1 1, 3) := by decide +kernel
theorem dX12_isAhead_26 : decode cX12_isAhead 26 = .ok (.goto (-24), 3) := by decide +kernel
theorem dX12_isAhead_29 : decode cX12_isAhead 29 = .ok (.return_, 1) := by decide +kernel
theorem dX12_keeps_0 : decode cX12_keeps 0 = .ok (.iconst 0, 1) := by decide +kernel
theorem dX12_keeps_1 : decode cX12_keeps 1 = .ok (.istore_n 1, 1) := by decide +kernel
theorem dX12_keeps_2 : decode cX12_keeps 2 = .ok (.iload_n 1, 1) := by decide +kernel
theorem dX12_keeps_3 : decode cX12_keeps 3 = .ok (.bipush 31, 2) := by decide +kernel
theorem dX12_keeps_5 : decode cX12_keeps 5 = .ok (.if_icmp .ge 24, 3) := by decide +kernel
theorem dX12_keeps_8 : decode cX12_keeps 8 = .ok (.aload_n 0, 1) := by decide +kernel
theorem dX12_keeps_9 : decode cX12_keeps 9 = .ok (.getfield 42, 3) := by decide +kernel
theorem dX12_keeps_12 : decode cX12_keeps 12 = .ok (.iload_n 1, 1) := by decide +kernel
theorem dX12_keeps_13 : decode cX12_keeps 13 = .ok (.aload_n 0, 1) := by decide +kernel
theorem dX12_keeps_14 : decode cX12_keeps 14 = .ok (.getfield 13, 3) := by decide +kernel
theorem dX12_keeps_17 : decode cX12_keeps 17 = .ok (.bipush 59, 2) := by decide +kernel
theorem dX12_keeps_19 : decode cX12_keeps 19 = .ok (.iload_n 1, 1) := by decide +kernel
theorem dX12_keeps_20 : decode cX12_keeps 20 = .ok (.iadd, 1) := by decide +kernel
theorem dX12_keeps_21 : decode cX12_keeps 21 = .ok (.iaload, 1) := by decide +kernel
theorem dX12_keeps_22 : decode cX12_keeps 22 = .ok (.iastore, 1) := by decide +kernel
theorem dX12_keeps_23 : decode cX12_keeps 23 = .ok (.iinc 1 1, 3) := by decide +kernel
theorem dX12_keeps_26 : decode cX12_keeps 26 = .ok (.goto (-24), 3) := by decide +kernel
theorem dX12_keeps_29 : decode cX12_keeps 29 = .ok (.return_, 1) := by decide +kernel
theorem dX12_keepsAhead_0 : decode cX12_keepsAhead 0 = .ok (.iconst 0, 1) := by decide +kernel
theorem dX12_keepsAhead_1 : decode cX12_keepsAhead 1 = .ok (.istore_n 1, 1) := by decide +kernel
theorem dX12_keepsAhead_2 : decode cX12_keepsAhead 2 = .ok (.iload_n 1, 1) := by decide +kernel
theorem dX12_keepsAhead_3 : decode cX12_keepsAhead 3 = .ok (.bipush 31, 2) := by decide +kernel
theorem dX12_keepsAhead_5 : decode cX12_keepsAhead 5 = .ok (.if_icmp .ge 24, 3) := by decide +kernel
theorem dX12_keepsAhead_8 : decode cX12_keepsAhead 8 = .ok (.aload_n 0, 1) := by decide +kernel
theorem dX12_keepsAhead_9 : decode cX12_keepsAhead 9 = .ok (.getfield 45, 3) := by decide +kernel
theorem dX12_keepsAhead_12 : decode cX12_keepsAhead 12 = .ok (.iload_n 1, 1) := by decide +kernel
theorem dX12_keepsAhead_13 : decode cX12_keepsAhead 13 = .ok (.aload_n 0, 1) := by decide +kernel
theorem dX12_keepsAhead_14 : decode cX12_keepsAhead 14 = .ok (.getfield 13, 3) := by decide +kernel
theorem dX12_keepsAhead_17 : decode cX12_keepsAhead 17 = .ok (.bipush 59, 2) := by decide +kernel
theorem dX12_keepsAhead_19 : decode cX12_keepsAhead 19 = .ok (.iload_n 1, 1) := by decide +kernel
theorem dX12_keepsAhead_20 : decode cX12_keepsAhead 20 = .ok (.iadd, 1) := by decide +kernel
theorem dX12_keepsAhead_21 : decode cX12_keepsAhead 21 = .ok (.iaload, 1) := by decide +kernel
theorem dX12_keepsAhead_22 : decode cX12_keepsAhead 22 = .ok (.iastore, 1) := by decide +kernel
theorem dX12_keepsAhead_23 : decode cX12_keepsAhead 23 = .ok (.iinc 1 1, 3) := by decide +kernel
theorem dX12_keepsAhead_26 : decode cX12_keepsAhead 26 = .ok (.goto (-24), 3) := by decide +kernel
theorem dX12_keepsAhead_29 : decode cX12_keepsAhead 29 = .ok (.return_, 1) := by decide +kernel
theorem dX12_newYear_0 : decode cX12_newYear 0 = .ok (.aload_n 0, 1) := by decide +kernel
theorem dX12_newYear_1 : decode cX12_newYear 1 = .ok (.iconst 0, 1) := by decide +kernel
theorem dX12_newYear_2 : decode cX12_newYear 2 = .ok (.putfield 1, 3) := by decide +kernel
theorem dX12_newYear_5 : decode cX12_newYear 5 = .ok (.aload_n 0, 1) := by decide +kernel
theorem dX12_newYear_6 : decode cX12_newYear 6 = .ok (.invokevirtual 295, 3) := by decide +kernel
theorem dX12_newYear_9 : decode cX12_newYear 9 = .ok (.aload_n 0, 1) := by decide +kernel
theorem dX12_newYear_10 : decode cX12_newYear 10 = .ok (.invokevirtual 315, 3) := by decide +kernel
theorem dX12_newYear_13 : decode cX12_newYear 13 = .ok (.istore_n 1, 1) := by decide +kernel
theorem dX12_newYear_14 : decode cX12_newYear 14 = .ok (.iconst 0, 1) := by decide +kernel
theorem dX12_newYear_15 : decode cX12_newYear 15 = .ok (.istore_n 2, 1) := by decide +kernel
theorem dX12_newYear_16 : decode cX12_newYear 16 = .ok (.iload_n 2, 1) := by decide +kernel
theorem dX12_newYear_17 : decode cX12_newYear 17 = .ok (.bipush 14, 2) := by decide +kernel
theorem dX12_newYear_19 : decode cX12_newYear 19 = .ok (.if_icmp .ge 29, 3) := by decide +kernel
theorem dX12_newYear_22 : decode cX12_newYear 22 = .ok (.aload_n 0, 1) := by decide +kernel
theorem dX12_newYear_23 : decode cX12_newYear 23 = .ok (.getfield 13, 3) := by decide +kernel
theorem dX12_newYear_26 : decode cX12_newYear 26 = .ok (.bipush 59, 2) := by decide +kernel
theorem dX12_newYear_28 : decode cX12_newYear 28 = .ok (.iload_n 2, 1) := by decide +kernel
theorem dX12_newYear_29 : decode cX12_newYear 29 = .ok (.iadd, 1) := by decide +kernel
theorem dX12_newYear_30 : decode cX12_newYear 30 = .ok (.iconst (-1), 1) := by decide +kernel
theorem dX12_newYear_31 : decode cX12_newYear 31 = .ok (.iastore, 1) := by decide +kernel
theorem dX12_newYear_32 : decode cX12_newYear 32 = .ok (.aload_n 0, 1) := by decide +kernel
theorem dX12_newYear_33 : decode cX12_newYear 33 = .ok (.getfield 13, 3) := by decide +kernel
theorem dX12_newYear_36 : decode cX12_newYear 36 = .ok (.bipush 73, 2) := by decide +kernel
theorem dX12_newYear_38 : decode cX12_newYear 38 = .ok (.iload_n 2, 1) := by decide +kernel
theorem dX12_newYear_39 : decode cX12_newYear 39 = .ok (.iadd, 1) := by decide +kernel
theorem dX12_newYear_40 : decode cX12_newYear 40 = .ok (.iconst (-1), 1) := by decide +kernel
theorem dX12_newYear_41 : decode cX12_newYear 41 = .ok (.iastore, 1) := by decide +kernel
theorem dX12_newYear_42 : decode cX12_newYear 42 = .ok (.iinc 2 1, 3) := by decide +kernel
theorem dX12_newYear_45 : decode cX12_newYear 45 = .ok (.goto (-29), 3) := by decide +kernel
theorem dX12_newYear_48 : decode cX12_newYear 48 = .ok (.aload_n 0, 1) := by decide +kernel
theorem dX12_newYear_49 : decode cX12_newYear 49 = .ok (.getfield 13, 3) := by decide +kernel
theorem dX12_newYear_52 : decode cX12_newYear 52 = .ok (.bipush 88, 2) := by decide +kernel
theorem dX12_newYear_54 : decode cX12_newYear 54 = .ok (.iconst 0, 1) := by decide +kernel
theorem dX12_newYear_55 : decode cX12_newYear 55 = .ok (.iastore, 1) := by decide +kernel
theorem dX12_newYear_56 : decode cX12_newYear 56 = .ok (.aload_n 0, 1) := by decide +kernel
theorem dX12_newYear_57 : decode cX12_newYear 57 = .ok (.getfield 13, 3) := by decide +kernel
theorem dX12_newYear_60 : decode cX12_newYear 60 = .ok (.bipush 89, 2) := by decide +kernel
theorem dX12_newYear_62 : decode cX12_newYear 62 = .ok (.dup2, 1) := by decide +kernel
theorem dX12_newYear_63 : decode cX12_newYear 63 = .ok (.iaload, 1) := by decide +kernel
theorem dX12_newYear_64 : decode cX12_newYear 64 = .ok (.iconst 1, 1) := by decide +kernel
theorem dX12_newYear_65 : decode cX12_newYear 65 = .ok (.iadd, 1) := by decide +kernel
theorem dX12_newYear_66 : decode cX12_newYear 66 = .ok (.iastore, 1) := by decide +kernel
theorem dX12_newYear_67 : decode cX12_newYear 67 = .ok (.aload_n 0, 1) := by decide +kernel
theorem dX12_newYear_68 : decode cX12_newYear 68 = .ok (.invokevirtual 301, 3) := by decide +kernel
theorem dX12_newYear_71 : decode cX12_newYear 71 = .ok (.iload_n 1, 1) := by decide +kernel
theorem dX12_newYear_72 : decode cX12_newYear 72 = .ok (.ireturn, 1) := by decide +kernel
theorem dX12_noTray_0 : decode cX12_noTray 0 = .ok (.iload_n 1, 1) := by decide +kernel
theorem dX12_noTray_1 : decode cX12_noTray 1 = .ok (.i2l, 1) := by decide +kernel
theorem dX12_noTray_2 : decode cX12_noTray 2 = .ok (.lconst 0, 1) := by decide +kernel
theorem dX12_noTray_3 : decode cX12_noTray 3 = .ok (.ldc2_w 275, 3) := by decide +kernel
theorem dX12_noTray_6 : decode cX12_noTray 6 = .ok (.invokestatic 144, 3) := by decide +kernel
theorem dX12_noTray_9 : decode cX12_noTray 9 = .ok (.ifCond .ne 8, 3) := by decide +kernel
theorem dX12_noTray_12 : decode cX12_noTray 12 = .ok (.bipush (-2), 2) := by decide +kernel
theorem dX12_noTray_14 : decode cX12_noTray 14 = .ok (.goto 19, 3) := by decide +kernel
theorem dX12_noTray_17 : decode cX12_noTray 17 = .ok (.aload_n 0, 1) := by decide +kernel
theorem dX12_noTray_18 : decode cX12_noTray 18 = .ok (.getfield 69, 3) := by decide +kernel
theorem dX12_noTray_21 : decode cX12_noTray 21 = .ok (.iload_n 1, 1) := by decide +kernel
theorem dX12_noTray_22 : decode cX12_noTray 22 = .ok (.iaload, 1) := by decide +kernel
theorem dX12_noTray_23 : decode cX12_noTray 23 = .ok (.iconst (-1), 1) := by decide +kernel
theorem dX12_noTray_24 : decode cX12_noTray 24 = .ok (.if_icmp .ne 8, 3) := by decide +kernel
theorem dX12_noTray_27 : decode cX12_noTray 27 = .ok (.bipush (-6), 2) := by decide +kernel
theorem dX12_noTray_29 : decode cX12_noTray 29 = .ok (.goto 4, 3) := by decide +kernel
theorem dX12_noTray_32 : decode cX12_noTray 32 = .ok (.iconst 0, 1) := by decide +kernel
theorem dX12_noTray_33 : decode cX12_noTray 33 = .ok (.ireturn, 1) := by decide +kernel
theorem dX12_notes_0 : decode cX12_notes 0 = .ok (.aload_n 0, 1) := by decide +kernel
theorem dX12_notes_1 : decode cX12_notes 1 = .ok (.getfield 13, 3) := by decide +kernel
theorem dX12_notes_4 : decode cX12_notes 4 = .ok (.bipush 90, 2) := by decide +kernel
theorem dX12_notes_6 : decode cX12_notes 6 = .ok (.iaload, 1) := by decide +kernel
theorem dX12_notes_7 : decode cX12_notes 7 = .ok (.bipush 10, 2) := by decide +kernel
theorem dX12_notes_9 : decode cX12_notes 9 = .ok (.if_icmp .ne 47, 3) := by decide +kernel
theorem dX12_notes_12 : decode cX12_notes 12 = .ok (.iconst 0, 1) := by decide +kernel
theorem dX12_notes_13 : decode cX12_notes 13 = .ok (.istore_n 1, 1) := by decide +kernel
theorem dX12_notes_14 : decode cX12_notes 14 = .ok (.iload_n 1, 1) := by decide +kernel
theorem dX12_notes_15 : decode cX12_notes 15 = .ok (.sipush 279, 3) := by decide +kernel
theorem dX12_notes_18 : decode cX12_notes 18 = .ok (.if_icmp .ge 27, 3) := by decide +kernel
theorem dX12_notes_21 : decode cX12_notes 21 = .ok (.aload_n 0, 1) := by decide +kernel
theorem dX12_notes_22 : decode cX12_notes 22 = .ok (.getfield 13, 3) := by decide +kernel
theorem dX12_notes_25 : decode cX12_notes 25 = .ok (.bipush 91, 2) := by decide +kernel
theorem dX12_notes_27 : decode cX12_notes 27 = .ok (.iload_n 1, 1) := by decide +kernel
theorem dX12_notes_28 : decode cX12_notes 28 = .ok (.iadd, 1) := by decide +kernel
theorem dX12_notes_29 : decode cX12_notes 29 = .ok (.aload_n 0, 1) := by decide +kernel
theorem dX12_notes_30 : decode cX12_notes 30 = .ok (.getfield 13, 3) := by decide +kernel
theorem dX12_notes_33 : decode cX12_notes 33 = .ok (.bipush 122, 2) := by decide +kernel
theorem dX12_notes_35 : decode cX12_notes 35 = .ok (.iload_n 1, 1) := by decide +kernel
theorem dX12_notes_36 : decode cX12_notes 36 = .ok (.iadd, 1) := by decide +kernel
theorem dX12_notes_37 : decode cX12_notes 37 = .ok (.iaload, 1) := by decide +kernel
theorem dX12_notes_38 : decode cX12_notes 38 = .ok (.iastore, 1) := by decide +kernel
theorem dX12_notes_39 : decode cX12_notes 39 = .ok (.iinc 1 1, 3) := by decide +kernel
theorem dX12_notes_42 : decode cX12_notes 42 = .ok (.goto (-28), 3) := by decide +kernel
theorem dX12_notes_45 : decode cX12_notes 45 = .ok (.aload_n 0, 1) := by decide +kernel
theorem dX12_notes_46 : decode cX12_notes 46 = .ok (.getfield 13, 3) := by decide +kernel
theorem dX12_notes_49 : decode cX12_notes 49 = .ok (.bipush 90, 2) := by decide +kernel
theorem dX12_notes_51 : decode cX12_notes 51 = .ok (.dup2, 1) := by decide +kernel
theorem dX12_notes_52 : decode cX12_notes 52 = .ok (.iaload, 1) := by decide +kernel
theorem dX12_notes_53 : decode cX12_notes 53 = .ok (.iconst 1, 1) := by decide +kernel
theorem dX12_notes_54 : decode cX12_notes 54 = .ok (.isub, 1) := by decide +kernel
theorem dX12_notes_55 : decode cX12_notes 55 = .ok (.iastore, 1) := by decide +kernel
theorem dX12_notes_56 : decode cX12_notes 56 = .ok (.iconst 0, 1) := by decide +kernel
theorem dX12_notes_57 : decode cX12_notes 57 = .ok (.istore_n 1, 1) := by decide +kernel
theorem dX12_notes_58 : decode cX12_notes 58 = .ok (.iload_n 1, 1) := by decide +kernel
theorem dX12_notes_59 : decode cX12_notes 59 = .ok (.bipush 31, 2) := by decide +kernel
theorem dX12_notes_61 : decode cX12_notes 61 = .ok (.if_icmp .ge 35, 3) := by decide +kernel
theorem dX12_notes_64 : decode cX12_notes 64 = .ok (.aload_n 0, 1) := by decide +kernel
theorem dX12_notes_65 : decode cX12_notes 65 = .ok (.getfield 13, 3) := by decide +kernel
theorem dX12_notes_68 : decode cX12_notes 68 = .ok (.bipush 91, 2) := by decide +kernel
theorem dX12_notes_70 : decode cX12_notes 70 = .ok (.bipush 31, 2) := by decide +kernel
theorem dX12_notes_72 : decode cX12_notes 72 = .ok (.aload_n 0, 1) := by decide +kernel
theorem dX12_notes_73 : decode cX12_notes 73 = .ok (.getfield 13, 3) := by decide +kernel
theorem dX12_notes_76 : decode cX12_notes 76 = .ok (.bipush 90, 2) := by decide +kernel
theorem dX12_notes_78 : decode cX12_notes 78 = .ok (.iaload, 1) := by decide +kernel
theorem dX12_notes_79 : decode cX12_notes 79 = .ok (.imul, 1) := by decide +kernel
theorem dX12_notes_80 : decode cX12_notes 80 = .ok (.iadd, 1) := by decide +kernel
theorem dX12_notes_81 : decode cX12_notes 81 = .ok (.iload_n 1, 1) := by decide +kernel
theorem dX12_notes_82 : decode cX12_notes 82 = .ok (.iadd, 1) := by decide +kernel
theorem dX12_notes_83 : decode cX12_notes 83 = .ok (.aload_n 0, 1) := by decide +kernel
theorem dX12_notes_84 : decode cX12_notes 84 = .ok (.getfield 42, 3) := by decide +kernel
theorem dX12_notes_87 : decode cX12_notes 87 = .ok (.iload_n 1, 1) := by decide +kernel
theorem dX12_notes_88 : decode cX12_notes 88 = .ok (.iaload, 1) := by decide +kernel
theorem dX12_notes_89 : decode cX12_notes 89 = .ok (.iastore, 1) := by decide +kernel
theorem dX12_notes_90 : decode cX12_notes 90 = .ok (.iinc 1 1, 3) := by decide +kernel
theorem dX12_notes_93 : decode cX12_notes 93 = .ok (.goto (-35), 3) := by decide +kernel
theorem dX12_notes_96 : decode cX12_notes 96 = .ok (.aload_n 0, 1) := by decide +kernel
theorem dX12_notes_97 : decode cX12_notes 97 = .ok (.getfield 13, 3) := by decide +kernel
theorem dX12_notes_100 : decode cX12_notes 100 = .ok (.bipush 90, 2) := by decide +kernel
theorem dX12_notes_102 : decode cX12_notes 102 = .ok (.dup2, 1) := by decide +kernel
theorem dX12_notes_103 : decode cX12_notes 103 = .ok (.iaload, 1) := by decide +kernel
theorem dX12_notes_104 : decode cX12_notes 104 = .ok (.iconst 1, 1) := by decide +kernel
theorem dX12_notes_105 : decode cX12_notes 105 = .ok (.iadd, 1) := by decide +kernel
theorem dX12_notes_106 : decode cX12_notes 106 = .ok (.iastore, 1) := by decide +kernel
theorem dX12_notes_107 : decode cX12_notes 107 = .ok (.return_, 1) := by decide +kernel
theorem dX12_rain_0 : decode cX12_rain 0 = .ok (.aload_n 0, 1) := by decide +kernel
theorem dX12_rain_1 : decode cX12_rain 1 = .ok (.iconst 0, 1) := by decide +kernel
theorem dX12_rain_2 : decode cX12_rain 2 = .ok (.putfield 1, 3) := by decide +kernel
theorem dX12_rain_5 : decode cX12_rain 5 = .ok (.iload_n 1, 1) := by decide +kernel
theorem dX12_rain_6 : decode cX12_rain 6 = .ok (.i2l, 1) := by decide +kernel
theorem dX12_rain_7 : decode cX12_rain 7 = .ok (.lconst 1, 1) := by decide +kernel
theorem dX12_rain_8 : decode cX12_rain 8 = .ok (.ldc2_w 309, 3) := by decide +kernel
theorem dX12_rain_11 : decode cX12_rain 11 = .ok (.invokestatic 144, 3) := by decide +kernel
theorem dX12_rain_14 : decode cX12_rain 14 = .ok (.ifCond .ne 6, 3) := by decide +kernel
theorem dX12_rain_17 : decode cX12_rain 17 = .ok (.bipush (-3), 2) := by decide +kernel
theorem dX12_rain_19 : decode cX12_rain 19 = .ok (.ireturn, 1) := by decide +kernel
theorem dX12_rain_20 : decode cX12_rain 20 = .ok (.aload_n 0, 1) := by decide +kernel
theorem dX12_rain_21 : decode cX12_rain 21 = .ok (.invokevirtual 295, 3) := by decide +kernel
theorem dX12_rain_24 : decode cX12_rain 24 = .ok (.iconst 0, 1) := by decide +kernel
theorem dX12_rain_25 : decode cX12_rain 25 = .ok (.istore_n 2, 1) := by decide +kernel
theorem dX12_rain_26 : decode cX12_rain 26 = .ok (.iconst 0, 1) := by decide +kernel
theorem dX12_rain_27 : decode cX12_rain 27 = .ok (.istore_n 3, 1) := by decide +kernel
theorem dX12_rain_28 : decode cX12_rain 28 = .ok (.iload_n 3, 1) := by decide +kernel
theorem dX12_rain_29 : decode cX12_rain 29 = .ok (.iload_n 1, 1) := by decide +kernel
theorem dX12_rain_30 : decode cX12_rain 30 = .ok (.if_icmp .ge 24, 3) := by decide +kernel
theorem dX12_rain_33 : decode cX12_rain 33 = .ok (.iload_n 2, 1) := by decide +kernel
theorem dX12_rain_34 : decode cX12_rain 34 = .ok (.aload_n 0, 1) := by decide +kernel
theorem dX12_rain_35 : decode cX12_rain 35 = .ok (.invokevirtual 311, 3) := by decide +kernel
theorem dX12_rain_38 : decode cX12_rain 38 = .ok (.ifCond .eq 7, 3) := by decide +kernel
theorem dX12_rain_41 : decode cX12_rain 41 = .ok (.iconst 1, 1) := by decide +kernel
theorem dX12_rain_42 : decode cX12_rain 42 = .ok (.goto 4, 3) := by decide +kernel
theorem dX12_rain_45 : decode cX12_rain 45 = .ok (.iconst 0, 1) := by decide +kernel
theorem dX12_rain_46 : decode cX12_rain 46 = .ok (.iadd, 1) := by decide +kernel
theorem dX12_rain_47 : decode cX12_rain 47 = .ok (.istore_n 2, 1) := by decide +kernel
theorem dX12_rain_48 : decode cX12_rain 48 = .ok (.iinc 3 1, 3) := by decide +kernel
theorem dX12_rain_51 : decode cX12_rain 51 = .ok (.goto (-23), 3) := by decide +kernel
theorem dX12_rain_54 : decode cX12_rain 54 = .ok (.iload_n 2, 1) := by decide +kernel
theorem dX12_rain_55 : decode cX12_rain 55 = .ok (.ifCond .le 7, 3) := by decide +kernel
theorem dX12_rain_58 : decode cX12_rain 58 = .ok (.aload_n 0, 1) := by decide +kernel
theorem dX12_rain_59 : decode cX12_rain 59 = .ok (.invokevirtual 301, 3) := by decide +kernel
theorem dX12_rain_62 : decode cX12_rain 62 = .ok (.iload_n 2, 1) := by decide +kernel
theorem dX12_rain_63 : decode cX12_rain 63 = .ok (.ireturn, 1) := by decide +kernel
theorem dX12_rains_0 : decode cX12_rains 0 = .ok (.iconst (-1), 1) := by decide +kernel
theorem dX12_rains_1 : decode cX12_rains 1 = .ok (.istore_n 1, 1) := by decide +kernel
theorem dX12_rains_2 : decode cX12_rains 2 = .ok (.iconst 0, 1) := by decide +kernel
theorem dX12_rains_3 : decode cX12_rains 3 = .ok (.istore_n 2, 1) := by decide +kernel
theorem dX12_rains_4 : decode cX12_rains 4 = .ok (.iload_n 2, 1) := by decide +kernel
theorem dX12_rains_5 : decode cX12_rains 5 = .ok (.aload_n 0, 1) := by decide +kernel
theorem dX12_rains_6 : decode cX12_rains 6 = .ok (.getfield 13, 3) := by decide +kernel
theorem dX12_rains_9 : decode cX12_rains 9 = .ok (.iconst 1, 1) := by decide +kernel
theorem dX12_rains_10 : decode cX12_rains 10 = .ok (.iaload, 1) := by decide +kernel
theorem dX12_rains_11 : decode cX12_rains 11 = .ok (.if_icmp .ge 50, 3) := by decide +kernel
theorem dX12_rains_14 : decode cX12_rains 14 = .ok (.aload_n 0, 1) := by decide +kernel
theorem dX12_rains_15 : decode cX12_rains 15 = .ok (.getfield 13, 3) := by decide +kernel
theorem dX12_rains_18 : decode cX12_rains 18 = .ok (.bipush 59, 2) := by decide +kernel
theorem dX12_rains_20 : decode cX12_rains 20 = .ok (.iload_n 2, 1) := by decide +kernel
theorem dX12_rains_21 : decode cX12_rains 21 = .ok (.iadd, 1) := by decide +kernel
theorem dX12_rains_22 : decode cX12_rains 22 = .ok (.iaload, 1) := by decide +kernel
theorem dX12_rains_23 : decode cX12_rains 23 = .ok (.iconst (-1), 1) := by decide +kernel
theorem dX12_rains_24 : decode cX12_rains 24 = .ok (.if_icmp .eq 31, 3) := by decide +kernel
theorem dX12_rains_27 : decode cX12_rains 27 = .ok (.iload_n 1, 1) := by decide +kernel
theorem dX12_rains_28 : decode cX12_rains 28 = .ok (.iconst (-1), 1) := by decide +kernel
theorem dX12_rains_29 : decode cX12_rains 29 = .ok (.if_icmp .eq 24, 3) := by decide +kernel
theorem dX12_rains_32 : decode cX12_rains 32 = .ok (.aload_n 0, 1) := by decide +kernel
theorem dX12_rains_33 : decode cX12_rains 33 = .ok (.getfield 13, 3) := by decide +kernel
theorem dX12_rains_36 : decode cX12_rains 36 = .ok (.bipush 73, 2) := by decide +kernel
theorem dX12_rains_38 : decode cX12_rains 38 = .ok (.iload_n 2, 1) := by decide +kernel
theorem dX12_rains_39 : decode cX12_rains 39 = .ok (.iadd, 1) := by decide +kernel
theorem dX12_rains_40 : decode cX12_rains 40 = .ok (.iaload, 1) := by decide +kernel
theorem dX12_rains_41 : decode cX12_rains 41 = .ok (.aload_n 0, 1) := by decide +kernel
theorem dX12_rains_42 : decode cX12_rains 42 = .ok (.getfield 13, 3) := by decide +kernel
theorem dX12_rains_45 : decode cX12_rains 45 = .ok (.bipush 73, 2) := by decide +kernel
theorem dX12_rains_47 : decode cX12_rains 47 = .ok (.iload_n 1, 1) := by decide +kernel
theorem dX12_rains_48 : decode cX12_rains 48 = .ok (.iadd, 1) := by decide +kernel
theorem dX12_rains_49 : decode cX12_rains 49 = .ok (.iaload, 1) := by decide +kernel
theorem dX12_rains_50 : decode cX12_rains 50 = .ok (.if_icmp .ge 5, 3) := by decide +kernel
theorem dX12_rains_53 : decode cX12_rains 53 = .ok (.iload_n 2, 1) := by decide +kernel
theorem dX12_rains_54 : decode cX12_rains 54 = .ok (.istore_n 1, 1) := by decide +kernel
theorem dX12_rains_55 : decode cX12_rains 55 = .ok (.iinc 2 1, 3) := by decide +kernel
theorem dX12_rains_58 : decode cX12_rains 58 = .ok (.goto (-54), 3) := by decide +kernel
theorem dX12_rains_61 : decode cX12_rains 61 = .ok (.iload_n 1, 1) := by decide +kernel
theorem dX12_rains_62 : decode cX12_rains 62 = .ok (.iconst (-1), 1) := by decide +kernel
theorem dX12_rains_63 : decode cX12_rains 63 = .ok (.if_icmp .ne 5, 3) := by decide +kernel
theorem dX12_rains_66 : decode cX12_rains 66 = .ok (.iconst 0, 1) := by decide +kernel
theorem dX12_rains_67 : decode cX12_rains 67 = .ok (.ireturn, 1) := by decide +kernel
theorem dX12_rains_68 : decode cX12_rains 68 = .ok (.aload_n 0, 1) := by decide +kernel
theorem dX12_rains_69 : decode cX12_rains 69 = .ok (.getfield 13, 3) := by decide +kernel
theorem dX12_rains_72 : decode cX12_rains 72 = .ok (.bipush 59, 2) := by decide +kernel
theorem dX12_rains_74 : decode cX12_rains 74 = .ok (.iload_n 1, 1) := by decide +kernel
theorem dX12_rains_75 : decode cX12_rains 75 = .ok (.iadd, 1) := by decide +kernel
theorem dX12_rains_76 : decode cX12_rains 76 = .ok (.iconst (-1), 1) := by decide +kernel
theorem dX12_rains_77 : decode cX12_rains 77 = .ok (.iastore, 1) := by decide +kernel
theorem dX12_rains_78 : decode cX12_rains 78 = .ok (.aload_n 0, 1) := by decide +kernel
theorem dX12_rains_79 : decode cX12_rains 79 = .ok (.getfield 13, 3) := by decide +kernel
theorem dX12_rains_82 : decode cX12_rains 82 = .ok (.bipush 73, 2) := by decide +kernel
theorem dX12_rains_84 : decode cX12_rains 84 = .ok (.iload_n 1, 1) := by decide +kernel
theorem dX12_rains_85 : decode cX12_rains 85 = .ok (.iadd, 1) := by decide +kernel
theorem dX12_rains_86 : decode cX12_rains 86 = .ok (.iconst (-1), 1) := by decide +kernel
theorem dX12_rains_87 : decode cX12_rains 87 = .ok (.iastore, 1) := by decide +kernel
theorem dX12_rains_88 : decode cX12_rains 88 = .ok (.iconst 1, 1) := by decide +kernel
theorem dX12_rains_89 : decode cX12_rains 89 = .ok (.ireturn, 1) := by decide +kernel
theorem dX12_undo_0 : decode cX12_undo 0 = .ok (.aload_n 0, 1) := by decide +kernel
theorem dX12_undo_1 : decode cX12_undo 1 = .ok (.iconst 0, 1) := by decide +kernel
theorem dX12_undo_2 : decode cX12_undo 2 = .ok (.putfield 1, 3) := by decide +kernel
theorem dX12_undo_5 : decode cX12_undo 5 = .ok (.iload_n 1, 1) := by decide +kernel
theorem dX12_undo_6 : decode cX12_undo 6 = .ok (.i2l, 1) := by decide +kernel
theorem dX12_undo_7 : decode cX12_undo 7 = .ok (.lconst 1, 1) := by decide +kernel
theorem dX12_undo_8 : decode cX12_undo 8 = .ok (.ldc2_w 318, 3) := by decide +kernel
theorem dX12_undo_11 : decode cX12_undo 11 = .ok (.invokestatic 144, 3) := by decide +kernel
theorem dX12_undo_14 : decode cX12_undo 14 = .ok (.ifCond .eq 14, 3) := by decide +kernel
theorem dX12_undo_17 : decode cX12_undo 17 = .ok (.iload_n 1, 1) := by decide +kernel
theorem dX12_undo_18 : decode cX12_undo 18 = .ok (.aload_n 0, 1) := by decide +kernel
theorem dX12_undo_19 : decode cX12_undo 19 = .ok (.getfield 13, 3) := by decide +kernel
theorem dX12_undo_22 : decode cX12_undo 22 = .ok (.bipush 90, 2) := by decide +kernel
theorem dX12_undo_24 : decode cX12_undo 24 = .ok (.iaload, 1) := by decide +kernel
theorem dX12_undo_25 : decode cX12_undo 25 = .ok (.if_icmp .le 6, 3) := by decide +kernel
theorem dX12_undo_28 : decode cX12_undo 28 = .ok (.bipush (-3), 2) := by decide +kernel
theorem dX12_undo_30 : decode cX12_undo 30 = .ok (.ireturn, 1) := by decide +kernel
theorem dX12_undo_31 : decode cX12_undo 31 = .ok (.aload_n 0, 1) := by decide +kernel
theorem dX12_undo_32 : decode cX12_undo 32 = .ok (.getfield 13, 3) := by decide +kernel
theorem dX12_undo_35 : decode cX12_undo 35 = .ok (.bipush 90, 2) := by decide +kernel
theorem dX12_undo_37 : decode cX12_undo 37 = .ok (.dup2, 1) := by decide +kernel
theorem dX12_undo_38 : decode cX12_undo 38 = .ok (.iaload, 1) := by decide +kernel
theorem dX12_undo_39 : decode cX12_undo 39 = .ok (.iload_n 1, 1) := by decide +kernel
theorem dX12_undo_40 : decode cX12_undo 40 = .ok (.isub, 1) := by decide +kernel
theorem dX12_undo_41 : decode cX12_undo 41 = .ok (.iastore, 1) := by decide +kernel
theorem dX12_undo_42 : decode cX12_undo 42 = .ok (.iconst 0, 1) := by decide +kernel
theorem dX12_undo_43 : decode cX12_undo 43 = .ok (.istore_n 2, 1) := by decide +kernel
theorem dX12_undo_44 : decode cX12_undo 44 = .ok (.iload_n 2, 1) := by decide +kernel
theorem dX12_undo_45 : decode cX12_undo 45 = .ok (.bipush 31, 2) := by decide +kernel
theorem dX12_undo_47 : decode cX12_undo 47 = .ok (.if_icmp .ge 38, 3) := by decide +kernel
theorem dX12_undo_50 : decode cX12_undo 50 = .ok (.aload_n 0, 1) := by decide +kernel
theorem dX12_undo_51 : decode cX12_undo 51 = .ok (.getfield 13, 3) := by decide +kernel
theorem dX12_undo_54 : decode cX12_undo 54 = .ok (.bipush 59, 2) := by decide +kernel
theorem dX12_undo_56 : decode cX12_undo 56 = .ok (.iload_n 2, 1) := by decide +kernel
theorem dX12_undo_57 : decode cX12_undo 57 = .ok (.iadd, 1) := by decide +kernel
theorem dX12_undo_58 : decode cX12_undo 58 = .ok (.aload_n 0, 1) := by decide +kernel
theorem dX12_undo_59 : decode cX12_undo 59 = .ok (.getfield 13, 3) := by decide +kernel
theorem dX12_undo_62 : decode cX12_undo 62 = .ok (.bipush 91, 2) := by decide +kernel
theorem dX12_undo_64 : decode cX12_undo 64 = .ok (.bipush 31, 2) := by decide +kernel
theorem dX12_undo_66 : decode cX12_undo 66 = .ok (.aload_n 0, 1) := by decide +kernel
theorem dX12_undo_67 : decode cX12_undo 67 = .ok (.getfield 13, 3) := by decide +kernel
theorem dX12_undo_70 : decode cX12_undo 70 = .ok (.bipush 90, 2) := by decide +kernel
theorem dX12_undo_72 : decode cX12_undo 72 = .ok (.iaload, 1) := by decide +kernel
theorem dX12_undo_73 : decode cX12_undo 73 = .ok (.imul, 1) := by decide +kernel
theorem dX12_undo_74 : decode cX12_undo 74 = .ok (.iadd, 1) := by decide +kernel
theorem dX12_undo_75 : decode cX12_undo 75 = .ok (.iload_n 2, 1) := by decide +kernel
theorem dX12_undo_76 : decode cX12_undo 76 = .ok (.iadd, 1) := by decide +kernel
theorem dX12_undo_77 : decode cX12_undo 77 = .ok (.iaload, 1) := by decide +kernel
theorem dX12_undo_78 : decode cX12_undo 78 = .ok (.iastore, 1) := by decide +kernel
theorem dX12_undo_79 : decode cX12_undo 79 = .ok (.iinc 2 1, 3) := by decide +kernel
theorem dX12_undo_82 : decode cX12_undo 82 = .ok (.goto (-38), 3) := by decide +kernel
theorem dX12_undo_85 : decode cX12_undo 85 = .ok (.aload_n 0, 1) := by decide +kernel
theorem dX12_undo_86 : decode cX12_undo 86 = .ok (.getfield 13, 3) := by decide +kernel
theorem dX12_undo_89 : decode cX12_undo 89 = .ok (.bipush 90, 2) := by decide +kernel
theorem dX12_undo_91 : decode cX12_undo 91 = .ok (.iaload, 1) := by decide +kernel
theorem dX12_undo_92 : decode cX12_undo 92 = .ok (.ireturn, 1) := by decide +kernel
theorem dX12_usesRow_0 : decode cX12_usesRow 0 = .ok (.iconst 0, 1) := by decide +kernel
theorem dX12_usesRow_1 : decode cX12_usesRow 1 = .ok (.istore_n 2, 1) := by decide +kernel
theorem dX12_usesRow_2 : decode cX12_usesRow 2 = .ok (.iconst 0, 1) := by decide +kernel
theorem dX12_usesRow_3 : decode cX12_usesRow 3 = .ok (.istore_n 3, 1) := by decide +kernel
theorem dX12_usesRow_4 : decode cX12_usesRow 4 = .ok (.iload_n 3, 1) := by decide +kernel
theorem dX12_usesRow_5 : decode cX12_usesRow 5 = .ok (.aload_n 0, 1) := by decide +kernel
theorem dX12_usesRow_6 : decode cX12_usesRow 6 = .ok (.getfield 266, 3) := by decide +kernel
theorem dX12_usesRow_9 : decode cX12_usesRow 9 = .ok (.if_icmp .ge 68, 3) := by decide +kernel
theorem dX12_usesRow_12 : decode cX12_usesRow 12 = .ok (.aload_n 0, 1) := by decide +kernel
theorem dX12_usesRow_13 : decode cX12_usesRow 13 = .ok (.invokevirtual 272, 3) := by decide +kernel
theorem dX12_usesRow_16 : decode cX12_usesRow 16 = .ok (.i2l, 1) := by decide +kernel
theorem dX12_usesRow_17 : decode cX12_usesRow 17 = .ok (.aload_n 0, 1) := by decide +kernel
theorem dX12_usesRow_18 : decode cX12_usesRow 18 = .ok (.getfield 39, 3) := by decide +kernel
theorem dX12_usesRow_21 : decode cX12_usesRow 21 = .ok (.iload_n 3, 1) := by decide +kernel
theorem dX12_usesRow_22 : decode cX12_usesRow 22 = .ok (.iaload, 1) := by decide +kernel
theorem dX12_usesRow_23 : decode cX12_usesRow 23 = .ok (.invokestatic 186, 3) := by decide +kernel
theorem dX12_usesRow_26 : decode cX12_usesRow 26 = .ok (.ifCond .eq 6, 3) := by decide +kernel
theorem dX12_usesRow_29 : decode cX12_usesRow 29 = .ok (.goto 42, 3) := by decide +kernel
theorem dX12_usesRow_32 : decode cX12_usesRow 32 = .ok (.aload_n 0, 1) := by decide +kernel
theorem dX12_usesRow_33 : decode cX12_usesRow 33 = .ok (.getfield 13, 3) := by decide +kernel
theorem dX12_usesRow_36 : decode cX12_usesRow 36 = .ok (.bipush 59, 2) := by decide +kernel
theorem dX12_usesRow_38 : decode cX12_usesRow 38 = .ok (.aload_n 0, 1) := by decide +kernel
theorem dX12_usesRow_39 : decode cX12_usesRow 39 = .ok (.getfield 39, 3) := by decide +kernel
theorem dX12_usesRow_42 : decode cX12_usesRow 42 = .ok (.iload_n 3, 1) := by decide +kernel
theorem dX12_usesRow_43 : decode cX12_usesRow 43 = .ok (.iaload, 1) := by decide +kernel
theorem dX12_usesRow_44 : decode cX12_usesRow 44 = .ok (.iadd, 1) := by decide +kernel
theorem dX12_usesRow_45 : decode cX12_usesRow 45 = .ok (.iload_n 1, 1) := by decide +kernel
theorem dX12_usesRow_46 : decode cX12_usesRow 46 = .ok (.iastore, 1) := by decide +kernel
theorem dX12_usesRow_47 : decode cX12_usesRow 47 = .ok (.aload_n 0, 1) := by decide +kernel
theorem dX12_usesRow_48 : decode cX12_usesRow 48 = .ok (.getfield 13, 3) := by decide +kernel
theorem dX12_usesRow_51 : decode cX12_usesRow 51 = .ok (.bipush 73, 2) := by decide +kernel
theorem dX12_usesRow_53 : decode cX12_usesRow 53 = .ok (.aload_n 0, 1) := by decide +kernel
theorem dX12_usesRow_54 : decode cX12_usesRow 54 = .ok (.getfield 39, 3) := by decide +kernel
theorem dX12_usesRow_57 : decode cX12_usesRow 57 = .ok (.iload_n 3, 1) := by decide +kernel
theorem dX12_usesRow_58 : decode cX12_usesRow 58 = .ok (.iaload, 1) := by decide +kernel
theorem dX12_usesRow_59 : decode cX12_usesRow 59 = .ok (.iadd, 1) := by decide +kernel
theorem dX12_usesRow_60 : decode cX12_usesRow 60 = .ok (.aload_n 0, 1) := by decide +kernel
theorem dX12_usesRow_61 : decode cX12_usesRow 61 = .ok (.getfield 13, 3) := by decide +kernel
theorem dX12_usesRow_64 : decode cX12_usesRow 64 = .ok (.bipush 88, 2) := by decide +kernel
theorem dX12_usesRow_66 : decode cX12_usesRow 66 = .ok (.iaload, 1) := by decide +kernel
theorem dX12_usesRow_67 : decode cX12_usesRow 67 = .ok (.iastore, 1) := by decide +kernel
theorem dX12_usesRow_68 : decode cX12_usesRow 68 = .ok (.iinc 2 1, 3) := by decide +kernel
theorem dX12_usesRow_71 : decode cX12_usesRow 71 = .ok (.iinc 3 1, 3) := by decide +kernel
theorem dX12_usesRow_74 : decode cX12_usesRow 74 = .ok (.goto (-70), 3) := by decide +kernel
theorem dX12_usesRow_77 : decode cX12_usesRow 77 = .ok (.iload_n 2, 1) := by decide +kernel
theorem dX12_usesRow_78 : decode cX12_usesRow 78 = .ok (.ireturn, 1) := by decide +kernel
theorem kw_1242 : Cond.fieldLink "FootholdWallModel" 39 "FootholdWallModel" "row" "[I" ∈ gw := gw_of (tb_of 1242 (by decide +kernel)) (by decide +kernel)
theorem kw_1243 : Cond.fieldLink "FootholdWallModel" 266 "FootholdWallModel" "rowMany1" "I" ∈ gw := gw_of (tb_of 1243 (by decide +kernel)) (by decide +kernel)
theorem kw_1244 : Cond.fieldLink "FootholdWallModel" 42 "FootholdWallModel" "was" "[I" ∈ gw := gw_of (tb_of 1244 (by decide +kernel)) (by decide +kernel)
theorem kw_1245 : Cond.fieldLink "FootholdWallModel" 45 "FootholdWallModel" "ahead" "[I" ∈ gw := gw_of (tb_of 1245 (by decide +kernel)) (by decide +kernel)
theorem kw_1248 : Cond.fieldLink "FootholdWallModel" 321 "FootholdWallModel" "x" "I" ∈ gw := gw_of (tb_of 1248 (by decide +kernel)) (by decide +kernel)
theorem kw_1256 : Cond.fieldLink "FootholdWallModel" 69 "FootholdWallModel" "rowSort" "[I" ∈ gw := gw_of (tb_of 1256 (by decide +kernel)) (by decide +kernel)
theorem kw_1527 : Cond.constantLong "FootholdWallModel" 275 3 ∈ gw := gw_of (tb_of 1527 (by decide +kernel)) (by decide +kernel)
theorem kw_1536 : Cond.methodLink "FootholdWallModel" 272 yX12_ends ∈ gw := gw_of (tb_of 1536 (by decide +kernel)) (by decide +kernel)
theorem kw_1538 : Cond.instanceMethod yX12_ends ∈ gw := gw_of (tb_of 1538 (by decide +kernel)) (by decide +kernel)
theorem kw_1539 : Cond.code yX12_ends cX12_ends 1 (some (.int)) ∈ gw := gw_of (tb_of 1539 (by decide +kernel)) (by decide +kernel)
theorem kw_1544 : Cond.methodLink "FootholdWallModel" 295 yX12_keeps ∈ gw := gw_of (tb_of 1544 (by decide +kernel)) (by decide +kernel)
theorem kw_1546 : Cond.instanceMethod yX12_keeps ∈ gw := gw_of (tb_of 1546 (by decide +kernel)) (by decide +kernel)
theorem kw_1547 : Cond.code yX12_keeps cX12_keeps 2 none ∈ gw := gw_of (tb_of 1547 (by decide +kernel)) (by decide +kernel)
theorem kw_1552 : Cond.methodLink "FootholdWallModel" 301 yX12_notes ∈ gw := gw_of (tb_of 1552 (by decide +kernel)) (by decide +kernel)
theorem kw_1554 : Cond.instanceMethod yX12_notes ∈ gw := gw_of (tb_of 1554 (by decide +kernel)) (by decide +kernel)
theorem kw_1555 : Cond.code yX12_notes cX12_notes 2 none ∈ gw := gw_of (tb_of 1555 (by decide +kernel)) (by decide +kernel)
theorem kw_1576 : Cond.constantLong "FootholdWallModel" 307 99 ∈ gw := gw_of (tb_of 1576 (by decide +kernel)) (by decide +kernel)
theorem kw_1581 : Cond.constantLong "FootholdWallModel" 309 14 ∈ gw := gw_of (tb_of 1581 (by decide +kernel)) (by decide +kernel)
theorem kw_1582 : Cond.methodLink "FootholdWallModel" 311 yX12_rains ∈ gw := gw_of (tb_of 1582 (by decide +kernel)) (by decide +kernel)
theorem kw_1584 : Cond.instanceMethod yX12_rains ∈ gw := gw_of (tb_of 1584 (by decide +kernel)) (by decide +kernel)
theorem kw_1585 : Cond.code yX12_rains cX12_rains 3 (some (.boolean)) ∈ gw := gw_of (tb_of 1585 (by decide +kernel)) (by decide +kernel)
theorem kw_1602 : Cond.constantLong "FootholdWallModel" 318 10 ∈ gw := gw_of (tb_of 1602 (by decide +kernel)) (by decide +kernel)
theorem kw_1612 : Cond.constant "FootholdWallModel" 320 1103515245 ∈ gw := gw_of (tb_of 1612 (by decide +kernel)) (by decide +kernel)
theorem ks_78 : Cond.selects RX12 yX12_ends yX12_ends ∈ gw := gw_of (pv_of 78 (by decide +kernel)) (by decide +kernel)
theorem ks_79 : Cond.selects RX12 yX12_keeps yX12_keeps ∈ gw := gw_of (pv_of 79 (by decide +kernel)) (by decide +kernel)
theorem ks_81 : Cond.selects RX12 yX12_notes yX12_notes ∈ gw := gw_of (pv_of 81 (by decide +kernel)) (by decide +kernel)
theorem ks_85 : Cond.selects RX12 yX12_rains yX12_rains ∈ gw := gw_of (pv_of 85 (by decide +kernel)) (by decide +kernel)
