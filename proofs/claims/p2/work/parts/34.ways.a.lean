theorem dX11_able_0 : decode cX11_able 0 = .ok (.iconst 0, 1) := by decide +kernel
theorem dX11_able_1 : decode cX11_able 1 = .ok (.istore_n 1, 1) := by decide +kernel
theorem dX11_able_2 : decode cX11_able 2 = .ok (.iconst 0, 1) := by decide +kernel
theorem dX11_able_3 : decode cX11_able 3 = .ok (.istore_n 2, 1) := by decide +kernel
theorem dX11_able_4 : decode cX11_able 4 = .ok (.iload_n 2, 1) := by decide +kernel
theorem dX11_able_5 : decode cX11_able 5 = .ok (.aload_n 0, 1) := by decide +kernel
theorem dX11_able_6 : decode cX11_able 6 = .ok (.getfield 29, 3) := by decide +kernel
theorem dX11_able_9 : decode cX11_able 9 = .ok (.getfield 216, 3) := by decide +kernel
theorem dX11_able_12 : decode cX11_able 12 = .ok (.if_icmp .ge 30, 3) := by decide +kernel
theorem dX11_able_15 : decode cX11_able 15 = .ok (.aload_n 0, 1) := by decide +kernel
theorem dX11_able_16 : decode cX11_able 16 = .ok (.iload_n 2, 1) := by decide +kernel
theorem dX11_able_17 : decode cX11_able 17 = .ok (.invokevirtual 202, 3) := by decide +kernel
theorem dX11_able_20 : decode cX11_able 20 = .ok (.aload_n 0, 1) := by decide +kernel
theorem dX11_able_21 : decode cX11_able 21 = .ok (.invokevirtual 206, 3) := by decide +kernel
theorem dX11_able_24 : decode cX11_able 24 = .ok (.invokevirtual 332, 3) := by decide +kernel
theorem dX11_able_27 : decode cX11_able 27 = .ok (.ifCond .eq 9, 3) := by decide +kernel
theorem dX11_able_30 : decode cX11_able 30 = .ok (.iload_n 1, 1) := by decide +kernel
theorem dX11_able_31 : decode cX11_able 31 = .ok (.iconst 1, 1) := by decide +kernel
theorem dX11_able_32 : decode cX11_able 32 = .ok (.iload_n 2, 1) := by decide +kernel
theorem dX11_able_33 : decode cX11_able 33 = .ok (.ishl, 1) := by decide +kernel
theorem dX11_able_34 : decode cX11_able 34 = .ok (.ior, 1) := by decide +kernel
theorem dX11_able_35 : decode cX11_able 35 = .ok (.istore_n 1, 1) := by decide +kernel
theorem dX11_able_36 : decode cX11_able 36 = .ok (.iinc 2 1, 3) := by decide +kernel
theorem dX11_able_39 : decode cX11_able 39 = .ok (.goto (-35), 3) := by decide +kernel
theorem dX11_able_42 : decode cX11_able 42 = .ok (.iload_n 1, 1) := by decide +kernel
theorem dX11_able_43 : decode cX11_able 43 = .ok (.ireturn, 1) := by decide +kernel
theorem dX11_dearest_0 : decode cX11_dearest 0 = .ok (.aload_n 0, 1) := by decide +kernel
theorem dX11_dearest_1 : decode cX11_dearest 1 = .ok (.iload_n 1, 1) := by decide +kernel
theorem dX11_dearest_2 : decode cX11_dearest 2 = .ok (.invokevirtual 186, 3) := by decide +kernel
theorem dX11_dearest_5 : decode cX11_dearest 5 = .ok (.ifCond .ne 6, 3) := by decide +kernel
theorem dX11_dearest_8 : decode cX11_dearest 8 = .ok (.bipush (-2), 2) := by decide +kernel
theorem dX11_dearest_10 : decode cX11_dearest 10 = .ok (.ireturn, 1) := by decide +kernel
theorem dX11_dearest_11 : decode cX11_dearest 11 = .ok (.aload_n 0, 1) := by decide +kernel
theorem dX11_dearest_12 : decode cX11_dearest 12 = .ok (.iload_n 1, 1) := by decide +kernel
theorem dX11_dearest_13 : decode cX11_dearest 13 = .ok (.invokevirtual 202, 3) := by decide +kernel
theorem dX11_dearest_16 : decode cX11_dearest 16 = .ok (.astore_n 2, 1) := by decide +kernel
theorem dX11_dearest_17 : decode cX11_dearest 17 = .ok (.aload_n 0, 1) := by decide +kernel
theorem dX11_dearest_18 : decode cX11_dearest 18 = .ok (.invokevirtual 206, 3) := by decide +kernel
theorem dX11_dearest_21 : decode cX11_dearest 21 = .ok (.istore_n 3, 1) := by decide +kernel
theorem dX11_dearest_22 : decode cX11_dearest 22 = .ok (.iload_n 3, 1) := by decide +kernel
theorem dX11_dearest_23 : decode cX11_dearest 23 = .ok (.aload_n 0, 1) := by decide +kernel
theorem dX11_dearest_24 : decode cX11_dearest 24 = .ok (.getfield 29, 3) := by decide +kernel
theorem dX11_dearest_27 : decode cX11_dearest 27 = .ok (.invokevirtual 265, 3) := by decide +kernel
theorem dX11_dearest_30 : decode cX11_dearest 30 = .ok (.iand, 1) := by decide +kernel
theorem dX11_dearest_31 : decode cX11_dearest 31 = .ok (.istore 4, 2) := by decide +kernel
theorem dX11_dearest_33 : decode cX11_dearest 33 = .ok (.aload_n 0, 1) := by decide +kernel
theorem dX11_dearest_34 : decode cX11_dearest 34 = .ok (.getfield 89, 3) := by decide +kernel
theorem dX11_dearest_37 : decode cX11_dearest 37 = .ok (.aload_n 2, 1) := by decide +kernel
theorem dX11_dearest_38 : decode cX11_dearest 38 = .ok (.iload_n 3, 1) := by decide +kernel
theorem dX11_dearest_39 : decode cX11_dearest 39 = .ok (.iload 4, 2) := by decide +kernel
theorem dX11_dearest_41 : decode cX11_dearest 41 = .ok (.invokevirtual 322, 3) := by decide +kernel
theorem dX11_dearest_44 : decode cX11_dearest 44 = .ok (.istore 5, 2) := by decide +kernel
theorem dX11_dearest_46 : decode cX11_dearest 46 = .ok (.iload 5, 2) := by decide +kernel
theorem dX11_dearest_48 : decode cX11_dearest 48 = .ok (.ifCond .eq 10, 3) := by decide +kernel
theorem dX11_dearest_51 : decode cX11_dearest 51 = .ok (.iload 5, 2) := by decide +kernel
theorem dX11_dearest_53 : decode cX11_dearest 53 = .ok (.bipush 99, 2) := by decide +kernel
theorem dX11_dearest_55 : decode cX11_dearest 55 = .ok (.if_icmp .ne 5, 3) := by decide +kernel
theorem dX11_dearest_58 : decode cX11_dearest 58 = .ok (.iconst (-1), 1) := by decide +kernel
theorem dX11_dearest_59 : decode cX11_dearest 59 = .ok (.ireturn, 1) := by decide +kernel
theorem dX11_dearest_60 : decode cX11_dearest 60 = .ok (.iconst 0, 1) := by decide +kernel
theorem dX11_dearest_61 : decode cX11_dearest 61 = .ok (.istore 6, 2) := by decide +kernel
theorem dX11_dearest_63 : decode cX11_dearest 63 = .ok (.iload 6, 2) := by decide +kernel
theorem dX11_dearest_65 : decode cX11_dearest 65 = .ok (.aload_n 0, 1) := by decide +kernel
theorem dX11_dearest_66 : decode cX11_dearest 66 = .ok (.getfield 29, 3) := by decide +kernel
theorem dX11_dearest_69 : decode cX11_dearest 69 = .ok (.getfield 213, 3) := by decide +kernel
theorem dX11_dearest_72 : decode cX11_dearest 72 = .ok (.if_icmp .ge 45, 3) := by decide +kernel
theorem dX11_dearest_75 : decode cX11_dearest 75 = .ok (.iload 4, 2) := by decide +kernel
theorem dX11_dearest_77 : decode cX11_dearest 77 = .ok (.iload 6, 2) := by decide +kernel
theorem dX11_dearest_79 : decode cX11_dearest 79 = .ok (.ishr, 1) := by decide +kernel
theorem dX11_dearest_80 : decode cX11_dearest 80 = .ok (.iconst 1, 1) := by decide +kernel
theorem dX11_dearest_81 : decode cX11_dearest 81 = .ok (.iand, 1) := by decide +kernel
theorem dX11_dearest_82 : decode cX11_dearest 82 = .ok (.ifCond .eq 29, 3) := by decide +kernel
theorem dX11_dearest_85 : decode cX11_dearest 85 = .ok (.aload_n 0, 1) := by decide +kernel
theorem dX11_dearest_86 : decode cX11_dearest 86 = .ok (.getfield 89, 3) := by decide +kernel
theorem dX11_dearest_89 : decode cX11_dearest 89 = .ok (.aload_n 2, 1) := by decide +kernel
theorem dX11_dearest_90 : decode cX11_dearest 90 = .ok (.iload_n 3, 1) := by decide +kernel
theorem dX11_dearest_91 : decode cX11_dearest 91 = .ok (.iconst 1, 1) := by decide +kernel
theorem dX11_dearest_92 : decode cX11_dearest 92 = .ok (.iload 6, 2) := by decide +kernel
theorem dX11_dearest_94 : decode cX11_dearest 94 = .ok (.ishl, 1) := by decide +kernel
theorem dX11_dearest_95 : decode cX11_dearest 95 = .ok (.iconst (-1), 1) := by decide +kernel
theorem dX11_dearest_96 : decode cX11_dearest 96 = .ok (.ixor, 1) := by decide +kernel
theorem dX11_dearest_97 : decode cX11_dearest 97 = .ok (.iand, 1) := by decide +kernel
theorem dX11_dearest_98 : decode cX11_dearest 98 = .ok (.iload 4, 2) := by decide +kernel
theorem dX11_dearest_100 : decode cX11_dearest 100 = .ok (.invokevirtual 322, 3) := by decide +kernel
theorem dX11_dearest_103 : decode cX11_dearest 103 = .ok (.iload 5, 2) := by decide +kernel
theorem dX11_dearest_105 : decode cX11_dearest 105 = .ok (.if_icmp .ge 6, 3) := by decide +kernel
theorem dX11_dearest_108 : decode cX11_dearest 108 = .ok (.iload 6, 2) := by decide +kernel
theorem dX11_dearest_110 : decode cX11_dearest 110 = .ok (.ireturn, 1) := by decide +kernel
theorem dX11_dearest_111 : decode cX11_dearest 111 = .ok (.iinc 6 1, 3) := by decide +kernel
theorem dX11_dearest_114 : decode cX11_dearest 114 = .ok (.goto (-51), 3) := by decide +kernel
theorem dX11_dearest_117 : decode cX11_dearest 117 = .ok (.iconst (-1), 1) := by decide +kernel
theorem dX11_dearest_118 : decode cX11_dearest 118 = .ok (.ireturn, 1) := by decide +kernel
theorem dX11_highest_0 : decode cX11_highest 0 = .ok (.aload_n 0, 1) := by decide +kernel
theorem dX11_highest_1 : decode cX11_highest 1 = .ok (.iload_n 1, 1) := by decide +kernel
theorem dX11_highest_2 : decode cX11_highest 2 = .ok (.invokevirtual 186, 3) := by decide +kernel
theorem dX11_highest_5 : decode cX11_highest 5 = .ok (.ifCond .ne 6, 3) := by decide +kernel
theorem dX11_highest_8 : decode cX11_highest 8 = .ok (.bipush (-2), 2) := by decide +kernel
theorem dX11_highest_10 : decode cX11_highest 10 = .ok (.ireturn, 1) := by decide +kernel
theorem dX11_highest_11 : decode cX11_highest 11 = .ok (.aload_n 0, 1) := by decide +kernel
theorem dX11_highest_12 : decode cX11_highest 12 = .ok (.iload_n 1, 1) := by decide +kernel
theorem dX11_highest_13 : decode cX11_highest 13 = .ok (.invokevirtual 202, 3) := by decide +kernel
theorem dX11_highest_16 : decode cX11_highest 16 = .ok (.aload_n 0, 1) := by decide +kernel
theorem dX11_highest_17 : decode cX11_highest 17 = .ok (.invokevirtual 206, 3) := by decide +kernel
theorem dX11_highest_20 : decode cX11_highest 20 = .ok (.invokevirtual 210, 3) := by decide +kernel
theorem dX11_highest_23 : decode cX11_highest 23 = .ok (.istore_n 2, 1) := by decide +kernel
theorem dX11_highest_24 : decode cX11_highest 24 = .ok (.iconst (-1), 1) := by decide +kernel
theorem dX11_highest_25 : decode cX11_highest 25 = .ok (.istore_n 3, 1) := by decide +kernel
theorem dX11_highest_26 : decode cX11_highest 26 = .ok (.iconst 0, 1) := by decide +kernel
theorem dX11_highest_27 : decode cX11_highest 27 = .ok (.istore 4, 2) := by decide +kernel
theorem dX11_highest_29 : decode cX11_highest 29 = .ok (.iload 4, 2) := by decide +kernel
theorem dX11_highest_31 : decode cX11_highest 31 = .ok (.aload_n 0, 1) := by decide +kernel
theorem dX11_highest_32 : decode cX11_highest 32 = .ok (.getfield 29, 3) := by decide +kernel
theorem dX11_highest_35 : decode cX11_highest 35 = .ok (.getfield 213, 3) := by decide +kernel
theorem dX11_highest_38 : decode cX11_highest 38 = .ok (.if_icmp .ge 33, 3) := by decide +kernel
theorem dX11_highest_41 : decode cX11_highest 41 = .ok (.iload_n 2, 1) := by decide +kernel
theorem dX11_highest_42 : decode cX11_highest 42 = .ok (.iload 4, 2) := by decide +kernel
theorem dX11_highest_44 : decode cX11_highest 44 = .ok (.ishr, 1) := by decide +kernel
theorem dX11_highest_45 : decode cX11_highest 45 = .ok (.iconst 1, 1) := by decide +kernel
theorem dX11_highest_46 : decode cX11_highest 46 = .ok (.iand, 1) := by decide +kernel
theorem dX11_highest_47 : decode cX11_highest 47 = .ok (.ifCond .eq 18, 3) := by decide +kernel
theorem dX11_highest_50 : decode cX11_highest 50 = .ok (.iload_n 3, 1) := by decide +kernel
theorem dX11_highest_51 : decode cX11_highest 51 = .ok (.aload_n 0, 1) := by decide +kernel
theorem dX11_highest_52 : decode cX11_highest 52 = .ok (.getfield 29, 3) := by decide +kernel
theorem dX11_highest_55 : decode cX11_highest 55 = .ok (.getfield 152, 3) := by decide +kernel
theorem dX11_highest_58 : decode cX11_highest 58 = .ok (.iload 4, 2) := by decide +kernel
theorem dX11_highest_60 : decode cX11_highest 60 = .ok (.iaload, 1) := by decide +kernel
theorem dX11_highest_61 : decode cX11_highest 61 = .ok (.invokestatic 338, 3) := by decide +kernel
theorem dX11_highest_64 : decode cX11_highest 64 = .ok (.istore_n 3, 1) := by decide +kernel
theorem dX11_highest_65 : decode cX11_highest 65 = .ok (.iinc 4 1, 3) := by decide +kernel
theorem dX11_highest_68 : decode cX11_highest 68 = .ok (.goto (-39), 3) := by decide +kernel
theorem dX11_highest_71 : decode cX11_highest 71 = .ok (.iload_n 3, 1) := by decide +kernel
theorem dX11_highest_72 : decode cX11_highest 72 = .ok (.ireturn, 1) := by decide +kernel
theorem dX11_leastLeg_0 : decode cX11_leastLeg 0 = .ok (.aload_n 0, 1) := by decide +kernel
theorem dX11_leastLeg_1 : decode cX11_leastLeg 1 = .ok (.iload_n 1, 1) := by decide +kernel
theorem dX11_leastLeg_2 : decode cX11_leastLeg 2 = .ok (.invokevirtual 186, 3) := by decide +kernel
theorem dX11_leastLeg_5 : decode cX11_leastLeg 5 = .ok (.ifCond .ne 6, 3) := by decide +kernel
theorem dX11_leastLeg_8 : decode cX11_leastLeg 8 = .ok (.bipush (-2), 2) := by decide +kernel
theorem dX11_leastLeg_10 : decode cX11_leastLeg 10 = .ok (.ireturn, 1) := by decide +kernel
theorem dX11_leastLeg_11 : decode cX11_leastLeg 11 = .ok (.aload_n 0, 1) := by decide +kernel
theorem dX11_leastLeg_12 : decode cX11_leastLeg 12 = .ok (.invokevirtual 206, 3) := by decide +kernel
theorem dX11_leastLeg_15 : decode cX11_leastLeg 15 = .ok (.istore_n 2, 1) := by decide +kernel
theorem dX11_leastLeg_16 : decode cX11_leastLeg 16 = .ok (.iconst 0, 1) := by decide +kernel
theorem dX11_leastLeg_17 : decode cX11_leastLeg 17 = .ok (.istore_n 3, 1) := by decide +kernel
theorem dX11_leastLeg_18 : decode cX11_leastLeg 18 = .ok (.iload_n 3, 1) := by decide +kernel
theorem dX11_leastLeg_19 : decode cX11_leastLeg 19 = .ok (.bipush 100, 2) := by decide +kernel
theorem dX11_leastLeg_21 : decode cX11_leastLeg 21 = .ok (.if_icmp .ge 50, 3) := by decide +kernel
theorem dX11_leastLeg_24 : decode cX11_leastLeg 24 = .ok (.aload_n 0, 1) := by decide +kernel
theorem dX11_leastLeg_25 : decode cX11_leastLeg 25 = .ok (.getfield 75, 3) := by decide +kernel
theorem dX11_leastLeg_28 : decode cX11_leastLeg 28 = .ok (.aload_n 0, 1) := by decide +kernel
theorem dX11_leastLeg_29 : decode cX11_leastLeg 29 = .ok (.getfield 29, 3) := by decide +kernel
theorem dX11_leastLeg_32 : decode cX11_leastLeg 32 = .ok (.iload_n 3, 1) := by decide +kernel
theorem dX11_leastLeg_33 : decode cX11_leastLeg 33 = .ok (.aload_n 0, 1) := by decide +kernel
theorem dX11_leastLeg_34 : decode cX11_leastLeg 34 = .ok (.getfield 29, 3) := by decide +kernel
theorem dX11_leastLeg_37 : decode cX11_leastLeg 37 = .ok (.getfield 192, 3) := by decide +kernel
theorem dX11_leastLeg_40 : decode cX11_leastLeg 40 = .ok (.iload_n 1, 1) := by decide +kernel
theorem dX11_leastLeg_41 : decode cX11_leastLeg 41 = .ok (.iaload, 1) := by decide +kernel
theorem dX11_leastLeg_42 : decode cX11_leastLeg 42 = .ok (.aload_n 0, 1) := by decide +kernel
theorem dX11_leastLeg_43 : decode cX11_leastLeg 43 = .ok (.getfield 36, 3) := by decide +kernel
theorem dX11_leastLeg_46 : decode cX11_leastLeg 46 = .ok (.getfield 161, 3) := by decide +kernel
theorem dX11_leastLeg_49 : decode cX11_leastLeg 49 = .ok (.invokevirtual 225, 3) := by decide +kernel
theorem dX11_leastLeg_52 : decode cX11_leastLeg 52 = .ok (.aload_n 0, 1) := by decide +kernel
theorem dX11_leastLeg_53 : decode cX11_leastLeg 53 = .ok (.getfield 75, 3) := by decide +kernel
theorem dX11_leastLeg_56 : decode cX11_leastLeg 56 = .ok (.iload_n 2, 1) := by decide +kernel
theorem dX11_leastLeg_57 : decode cX11_leastLeg 57 = .ok (.invokevirtual 332, 3) := by decide +kernel
theorem dX11_leastLeg_60 : decode cX11_leastLeg 60 = .ok (.ifCond .eq 5, 3) := by decide +kernel
theorem dX11_leastLeg_63 : decode cX11_leastLeg 63 = .ok (.iload_n 3, 1) := by decide +kernel
theorem dX11_leastLeg_64 : decode cX11_leastLeg 64 = .ok (.ireturn, 1) := by decide +kernel
theorem dX11_leastLeg_65 : decode cX11_leastLeg 65 = .ok (.iinc 3 1, 3) := by decide +kernel
theorem dX11_leastLeg_68 : decode cX11_leastLeg 68 = .ok (.goto (-50), 3) := by decide +kernel
theorem dX11_leastLeg_71 : decode cX11_leastLeg 71 = .ok (.iconst (-1), 1) := by decide +kernel
theorem dX11_leastLeg_72 : decode cX11_leastLeg 72 = .ok (.ireturn, 1) := by decide +kernel
theorem dX11_leaves_0 : decode cX11_leaves 0 = .ok (.aload_n 0, 1) := by decide +kernel
theorem dX11_leaves_1 : decode cX11_leaves 1 = .ok (.iload_n 1, 1) := by decide +kernel
theorem dX11_leaves_2 : decode cX11_leaves 2 = .ok (.invokevirtual 186, 3) := by decide +kernel
theorem dX11_leaves_5 : decode cX11_leaves 5 = .ok (.ifCond .eq 11, 3) := by decide +kernel
theorem dX11_leaves_8 : decode cX11_leaves 8 = .ok (.aload_n 0, 1) := by decide +kernel
theorem dX11_leaves_9 : decode cX11_leaves 9 = .ok (.iload_n 2, 1) := by decide +kernel
theorem dX11_leaves_10 : decode cX11_leaves 10 = .ok (.invokevirtual 186, 3) := by decide +kernel
theorem dX11_leaves_13 : decode cX11_leaves 13 = .ok (.ifCond .ne 6, 3) := by decide +kernel
theorem dX11_leaves_16 : decode cX11_leaves 16 = .ok (.bipush (-2), 2) := by decide +kernel
theorem dX11_leaves_18 : decode cX11_leaves 18 = .ok (.ireturn, 1) := by decide +kernel
theorem dX11_leaves_19 : decode cX11_leaves 19 = .ok (.aload_n 0, 1) := by decide +kernel
theorem dX11_leaves_20 : decode cX11_leaves 20 = .ok (.invokevirtual 206, 3) := by decide +kernel
theorem dX11_leaves_23 : decode cX11_leaves 23 = .ok (.istore_n 3, 1) := by decide +kernel
theorem dX11_leaves_24 : decode cX11_leaves 24 = .ok (.aload_n 0, 1) := by decide +kernel
theorem dX11_leaves_25 : decode cX11_leaves 25 = .ok (.getfield 82, 3) := by decide +kernel
theorem dX11_leaves_28 : decode cX11_leaves 28 = .ok (.aload_n 0, 1) := by decide +kernel
theorem dX11_leaves_29 : decode cX11_leaves 29 = .ok (.iload_n 2, 1) := by decide +kernel
theorem dX11_leaves_30 : decode cX11_leaves 30 = .ok (.invokevirtual 202, 3) := by decide +kernel
theorem dX11_leaves_33 : decode cX11_leaves 33 = .ok (.iload_n 3, 1) := by decide +kernel
theorem dX11_leaves_34 : decode cX11_leaves 34 = .ok (.invokevirtual 271, 3) := by decide +kernel
theorem dX11_leaves_37 : decode cX11_leaves 37 = .ok (.ifCond .ne 6, 3) := by decide +kernel
theorem dX11_leaves_40 : decode cX11_leaves 40 = .ok (.bipush (-5), 2) := by decide +kernel
theorem dX11_leaves_42 : decode cX11_leaves 42 = .ok (.ireturn, 1) := by decide +kernel
theorem dX11_leaves_43 : decode cX11_leaves 43 = .ok (.iload_n 3, 1) := by decide +kernel
theorem dX11_leaves_44 : decode cX11_leaves 44 = .ok (.aload_n 0, 1) := by decide +kernel
theorem dX11_leaves_45 : decode cX11_leaves 45 = .ok (.getfield 82, 3) := by decide +kernel
theorem dX11_leaves_48 : decode cX11_leaves 48 = .ok (.invokevirtual 275, 3) := by decide +kernel
theorem dX11_leaves_51 : decode cX11_leaves 51 = .ok (.aload_n 0, 1) := by decide +kernel
theorem dX11_leaves_52 : decode cX11_leaves 52 = .ok (.getfield 29, 3) := by decide +kernel
theorem dX11_leaves_55 : decode cX11_leaves 55 = .ok (.invokevirtual 265, 3) := by decide +kernel
theorem dX11_leaves_58 : decode cX11_leaves 58 = .ok (.iand, 1) := by decide +kernel
theorem dX11_leaves_59 : decode cX11_leaves 59 = .ok (.iconst (-1), 1) := by decide +kernel
theorem dX11_leaves_60 : decode cX11_leaves 60 = .ok (.ixor, 1) := by decide +kernel
theorem dX11_leaves_61 : decode cX11_leaves 61 = .ok (.iand, 1) := by decide +kernel
theorem dX11_leaves_62 : decode cX11_leaves 62 = .ok (.istore 4, 2) := by decide +kernel
theorem dX11_leaves_64 : decode cX11_leaves 64 = .ok (.aload_n 0, 1) := by decide +kernel
theorem dX11_leaves_65 : decode cX11_leaves 65 = .ok (.iload_n 1, 1) := by decide +kernel
theorem dX11_leaves_66 : decode cX11_leaves 66 = .ok (.invokevirtual 202, 3) := by decide +kernel
theorem dX11_leaves_69 : decode cX11_leaves 69 = .ok (.iload 4, 2) := by decide +kernel
theorem dX11_leaves_71 : decode cX11_leaves 71 = .ok (.invokevirtual 332, 3) := by decide +kernel
theorem dX11_leaves_74 : decode cX11_leaves 74 = .ok (.ifCond .eq 7, 3) := by decide +kernel
theorem dX11_leaves_77 : decode cX11_leaves 77 = .ok (.iconst 1, 1) := by decide +kernel
theorem dX11_leaves_78 : decode cX11_leaves 78 = .ok (.goto 4, 3) := by decide +kernel
theorem dX11_leaves_81 : decode cX11_leaves 81 = .ok (.iconst 0, 1) := by decide +kernel
theorem dX11_leaves_82 : decode cX11_leaves 82 = .ok (.ireturn, 1) := by decide +kernel
theorem dX11_needed_0 : decode cX11_needed 0 = .ok (.aload_n 0, 1) := by decide +kernel
theorem dX11_needed_1 : decode cX11_needed 1 = .ok (.iload_n 1, 1) := by decide +kernel
theorem dX11_needed_2 : decode cX11_needed 2 = .ok (.invokevirtual 186, 3) := by decide +kernel
theorem dX11_needed_5 : decode cX11_needed 5 = .ok (.ifCond .ne 6, 3) := by decide +kernel
theorem dX11_needed_8 : decode cX11_needed 8 = .ok (.bipush (-2), 2) := by decide +kernel
theorem dX11_needed_10 : decode cX11_needed 10 = .ok (.ireturn, 1) := by decide +kernel
theorem dX11_needed_11 : decode cX11_needed 11 = .ok (.iconst 0, 1) := by decide +kernel
theorem dX11_needed_12 : decode cX11_needed 12 = .ok (.istore_n 2, 1) := by decide +kernel
theorem dX11_needed_13 : decode cX11_needed 13 = .ok (.iconst 0, 1) := by decide +kernel
theorem dX11_needed_14 : decode cX11_needed 14 = .ok (.istore_n 3, 1) := by decide +kernel
theorem dX11_needed_15 : decode cX11_needed 15 = .ok (.iload_n 3, 1) := by decide +kernel
theorem dX11_needed_16 : decode cX11_needed 16 = .ok (.aload_n 0, 1) := by decide +kernel
theorem dX11_needed_17 : decode cX11_needed 17 = .ok (.getfield 29, 3) := by decide +kernel
theorem dX11_needed_20 : decode cX11_needed 20 = .ok (.getfield 213, 3) := by decide +kernel
theorem dX11_needed_23 : decode cX11_needed 23 = .ok (.if_icmp .ge 24, 3) := by decide +kernel
theorem dX11_needed_26 : decode cX11_needed 26 = .ok (.aload_n 0, 1) := by decide +kernel
theorem dX11_needed_27 : decode cX11_needed 27 = .ok (.iload_n 1, 1) := by decide +kernel
theorem dX11_needed_28 : decode cX11_needed 28 = .ok (.iload_n 3, 1) := by decide +kernel
theorem dX11_needed_29 : decode cX11_needed 29 = .ok (.invokevirtual 329, 3) := by decide +kernel
theorem dX11_needed_32 : decode cX11_needed 32 = .ok (.ifCond .eq 9, 3) := by decide +kernel
theorem dX11_needed_35 : decode cX11_needed 35 = .ok (.iload_n 2, 1) := by decide +kernel
theorem dX11_needed_36 : decode cX11_needed 36 = .ok (.iconst 1, 1) := by decide +kernel
theorem dX11_needed_37 : decode cX11_needed 37 = .ok (.iload_n 3, 1) := by decide +kernel
theorem dX11_needed_38 : decode cX11_needed 38 = .ok (.ishl, 1) := by decide +kernel
theorem dX11_needed_39 : decode cX11_needed 39 = .ok (.ior, 1) := by decide +kernel
theorem dX11_needed_40 : decode cX11_needed 40 = .ok (.istore_n 2, 1) := by decide +kernel
theorem dX11_needed_41 : decode cX11_needed 41 = .ok (.iinc 3 1, 3) := by decide +kernel
theorem dX11_needed_44 : decode cX11_needed 44 = .ok (.goto (-29), 3) := by decide +kernel
theorem dX11_needed_47 : decode cX11_needed 47 = .ok (.iload_n 2, 1) := by decide +kernel
theorem dX11_needed_48 : decode cX11_needed 48 = .ok (.ireturn, 1) := by decide +kernel
theorem dX11_needers_0 : decode cX11_needers 0 = .ok (.aload_n 0, 1) := by decide +kernel
theorem dX11_needers_1 : decode cX11_needers 1 = .ok (.iload_n 1, 1) := by decide +kernel
theorem dX11_needers_2 : decode cX11_needers 2 = .ok (.invokevirtual 145, 3) := by decide +kernel
theorem dX11_needers_5 : decode cX11_needers 5 = .ok (.ifCond .ne 6, 3) := by decide +kernel
theorem dX11_needers_8 : decode cX11_needers 8 = .ok (.bipush (-2), 2) := by decide +kernel
theorem dX11_needers_10 : decode cX11_needers 10 = .ok (.ireturn, 1) := by decide +kernel
theorem dX11_needers_11 : decode cX11_needers 11 = .ok (.iconst 0, 1) := by decide +kernel
theorem dX11_needers_12 : decode cX11_needers 12 = .ok (.istore_n 2, 1) := by decide +kernel
theorem dX11_needers_13 : decode cX11_needers 13 = .ok (.iconst 0, 1) := by decide +kernel
theorem dX11_needers_14 : decode cX11_needers 14 = .ok (.istore_n 3, 1) := by decide +kernel
theorem dX11_needers_15 : decode cX11_needers 15 = .ok (.iload_n 3, 1) := by decide +kernel
theorem dX11_needers_16 : decode cX11_needers 16 = .ok (.aload_n 0, 1) := by decide +kernel
theorem dX11_needers_17 : decode cX11_needers 17 = .ok (.getfield 29, 3) := by decide +kernel
theorem dX11_needers_20 : decode cX11_needers 20 = .ok (.getfield 216, 3) := by decide +kernel
theorem dX11_needers_23 : decode cX11_needers 23 = .ok (.if_icmp .ge 24, 3) := by decide +kernel
theorem dX11_needers_26 : decode cX11_needers 26 = .ok (.aload_n 0, 1) := by decide +kernel
theorem dX11_needers_27 : decode cX11_needers 27 = .ok (.iload_n 3, 1) := by decide +kernel
theorem dX11_needers_28 : decode cX11_needers 28 = .ok (.iload_n 1, 1) := by decide +kernel
theorem dX11_needers_29 : decode cX11_needers 29 = .ok (.invokevirtual 329, 3) := by decide +kernel
theorem dX11_needers_32 : decode cX11_needers 32 = .ok (.ifCond .eq 9, 3) := by decide +kernel
theorem dX11_needers_35 : decode cX11_needers 35 = .ok (.iload_n 2, 1) := by decide +kernel
theorem dX11_needers_36 : decode cX11_needers 36 = .ok (.iconst 1, 1) := by decide +kernel
theorem dX11_needers_37 : decode cX11_needers 37 = .ok (.iload_n 3, 1) := by decide +kernel
theorem dX11_needers_38 : decode cX11_needers 38 = .ok (.ishl, 1) := by decide +kernel
theorem dX11_needers_39 : decode cX11_needers 39 = .ok (.ior, 1) := by decide +kernel
theorem dX11_needers_40 : decode cX11_needers 40 = .ok (.istore_n 2, 1) := by decide +kernel
theorem dX11_needers_41 : decode cX11_needers 41 = .ok (.iinc 3 1, 3) := by decide +kernel
theorem dX11_needers_44 : decode cX11_needers 44 = .ok (.goto (-29), 3) := by decide +kernel
theorem dX11_needers_47 : decode cX11_needers 47 = .ok (.iload_n 2, 1) := by decide +kernel
theorem dX11_needers_48 : decode cX11_needers 48 = .ok (.ireturn, 1) := by decide +kernel
theorem dX11_needs_0 : decode cX11_needs 0 = .ok (.aload_n 0, 1) := by decide +kernel
theorem dX11_needs_1 : decode cX11_needs 1 = .ok (.invokevirtual 206, 3) := by decide +kernel
theorem dX11_needs_4 : decode cX11_needs 4 = .ok (.istore_n 3, 1) := by decide +kernel
theorem dX11_needs_5 : decode cX11_needs 5 = .ok (.iload_n 3, 1) := by decide +kernel
theorem dX11_needs_6 : decode cX11_needs 6 = .ok (.aload_n 0, 1) := by decide +kernel
theorem dX11_needs_7 : decode cX11_needs 7 = .ok (.getfield 29, 3) := by decide +kernel
theorem dX11_needs_10 : decode cX11_needs 10 = .ok (.invokevirtual 265, 3) := by decide +kernel
theorem dX11_needs_13 : decode cX11_needs 13 = .ok (.iand, 1) := by decide +kernel
theorem dX11_needs_14 : decode cX11_needs 14 = .ok (.iload_n 2, 1) := by decide +kernel
theorem dX11_needs_15 : decode cX11_needs 15 = .ok (.ishr, 1) := by decide +kernel
theorem dX11_needs_16 : decode cX11_needs 16 = .ok (.iconst 1, 1) := by decide +kernel
theorem dX11_needs_17 : decode cX11_needs 17 = .ok (.iand, 1) := by decide +kernel
theorem dX11_needs_18 : decode cX11_needs 18 = .ok (.ifCond .ne 5, 3) := by decide +kernel
theorem dX11_needs_21 : decode cX11_needs 21 = .ok (.iconst 0, 1) := by decide +kernel
theorem dX11_needs_22 : decode cX11_needs 22 = .ok (.ireturn, 1) := by decide +kernel
theorem dX11_needs_23 : decode cX11_needs 23 = .ok (.aload_n 0, 1) := by decide +kernel
theorem dX11_needs_24 : decode cX11_needs 24 = .ok (.iload_n 1, 1) := by decide +kernel
theorem dX11_needs_25 : decode cX11_needs 25 = .ok (.invokevirtual 202, 3) := by decide +kernel
theorem dX11_needs_28 : decode cX11_needs 28 = .ok (.astore 4, 2) := by decide +kernel
theorem dX11_needs_30 : decode cX11_needs 30 = .ok (.aload 4, 2) := by decide +kernel
theorem dX11_needs_32 : decode cX11_needs 32 = .ok (.iload_n 3, 1) := by decide +kernel
theorem dX11_needs_33 : decode cX11_needs 33 = .ok (.invokevirtual 332, 3) := by decide +kernel
theorem dX11_needs_36 : decode cX11_needs 36 = .ok (.ifCond .eq 22, 3) := by decide +kernel
theorem dX11_needs_39 : decode cX11_needs 39 = .ok (.aload 4, 2) := by decide +kernel
theorem dX11_needs_41 : decode cX11_needs 41 = .ok (.iload_n 3, 1) := by decide +kernel
theorem dX11_needs_42 : decode cX11_needs 42 = .ok (.iconst 1, 1) := by decide +kernel
theorem dX11_needs_43 : decode cX11_needs 43 = .ok (.iload_n 2, 1) := by decide +kernel
theorem dX11_needs_44 : decode cX11_needs 44 = .ok (.ishl, 1) := by decide +kernel
theorem dX11_needs_45 : decode cX11_needs 45 = .ok (.iconst (-1), 1) := by decide +kernel
theorem dX11_needs_46 : decode cX11_needs 46 = .ok (.ixor, 1) := by decide +kernel
theorem dX11_needs_47 : decode cX11_needs 47 = .ok (.iand, 1) := by decide +kernel
theorem dX11_needs_48 : decode cX11_needs 48 = .ok (.invokevirtual 332, 3) := by decide +kernel
theorem dX11_needs_51 : decode cX11_needs 51 = .ok (.ifCond .ne 7, 3) := by decide +kernel
theorem dX11_needs_54 : decode cX11_needs 54 = .ok (.iconst 1, 1) := by decide +kernel
theorem dX11_needs_55 : decode cX11_needs 55 = .ok (.goto 4, 3) := by decide +kernel
theorem dX11_needs_58 : decode cX11_needs 58 = .ok (.iconst 0, 1) := by decide +kernel
theorem dX11_needs_59 : decode cX11_needs 59 = .ok (.ireturn, 1) := by decide +kernel
theorem dX11_opens_0 : decode cX11_opens 0 = .ok (.aload_n 0, 1) := by decide +kernel
theorem dX11_opens_1 : decode cX11_opens 1 = .ok (.iload_n 1, 1) := by decide +kernel
theorem dX11_opens_2 : decode cX11_opens 2 = .ok (.invokevirtual 186, 3) := by decide +kernel
theorem dX11_opens_5 : decode cX11_opens 5 = .ok (.ifCond .ne 6, 3) := by decide +kernel
theorem dX11_opens_8 : decode cX11_opens 8 = .ok (.bipush (-2), 2) := by decide +kernel
theorem dX11_opens_10 : decode cX11_opens 10 = .ok (.ireturn, 1) := by decide +kernel
theorem dX11_opens_11 : decode cX11_opens 11 = .ok (.iconst 0, 1) := by decide +kernel
theorem dX11_opens_12 : decode cX11_opens 12 = .ok (.istore_n 2, 1) := by decide +kernel
theorem dX11_opens_13 : decode cX11_opens 13 = .ok (.iconst 0, 1) := by decide +kernel
theorem dX11_opens_14 : decode cX11_opens 14 = .ok (.istore_n 3, 1) := by decide +kernel
theorem dX11_opens_15 : decode cX11_opens 15 = .ok (.iload_n 3, 1) := by decide +kernel
theorem dX11_opens_16 : decode cX11_opens 16 = .ok (.sipush 200, 3) := by decide +kernel
theorem dX11_opens_19 : decode cX11_opens 19 = .ok (.if_icmp .ge 97, 3) := by decide +kernel
theorem dX11_opens_22 : decode cX11_opens 22 = .ok (.aload_n 0, 1) := by decide +kernel
theorem dX11_opens_23 : decode cX11_opens 23 = .ok (.getfield 36, 3) := by decide +kernel
theorem dX11_opens_26 : decode cX11_opens 26 = .ok (.getfield 161, 3) := by decide +kernel
theorem dX11_opens_29 : decode cX11_opens 29 = .ok (.iload_n 3, 1) := by decide +kernel
theorem dX11_opens_30 : decode cX11_opens 30 = .ok (.iadd, 1) := by decide +kernel
theorem dX11_opens_31 : decode cX11_opens 31 = .ok (.istore 4, 2) := by decide +kernel
theorem dX11_opens_33 : decode cX11_opens 33 = .ok (.aload_n 0, 1) := by decide +kernel
theorem dX11_opens_34 : decode cX11_opens 34 = .ok (.iload 4, 2) := by decide +kernel
theorem dX11_opens_36 : decode cX11_opens 36 = .ok (.invokevirtual 168, 3) := by decide +kernel
theorem dX11_opens_39 : decode cX11_opens 39 = .ok (.istore 5, 2) := by decide +kernel
theorem dX11_opens_41 : decode cX11_opens 41 = .ok (.iload_n 3, 1) := by decide +kernel
theorem dX11_opens_42 : decode cX11_opens 42 = .ok (.ifCond .eq 19, 3) := by decide +kernel
theorem dX11_opens_45 : decode cX11_opens 45 = .ok (.iload 5, 2) := by decide +kernel
theorem dX11_opens_47 : decode cX11_opens 47 = .ok (.iload_n 2, 1) := by decide +kernel
theorem dX11_opens_48 : decode cX11_opens 48 = .ok (.if_icmp .ne 13, 3) := by decide +kernel
theorem dX11_opens_51 : decode cX11_opens 51 = .ok (.aload_n 0, 1) := by decide +kernel
theorem dX11_opens_52 : decode cX11_opens 52 = .ok (.getfield 29, 3) := by decide +kernel
theorem dX11_opens_55 : decode cX11_opens 55 = .ok (.invokevirtual 341, 3) := by decide +kernel
theorem dX11_opens_58 : decode cX11_opens 58 = .ok (.ifCond .eq 49, 3) := by decide +kernel
theorem dX11_opens_61 : decode cX11_opens 61 = .ok (.aload_n 0, 1) := by decide +kernel
theorem dX11_opens_62 : decode cX11_opens 62 = .ok (.getfield 75, 3) := by decide +kernel
theorem dX11_opens_65 : decode cX11_opens 65 = .ok (.aload_n 0, 1) := by decide +kernel
theorem dX11_opens_66 : decode cX11_opens 66 = .ok (.getfield 29, 3) := by decide +kernel
theorem dX11_opens_69 : decode cX11_opens 69 = .ok (.aload_n 0, 1) := by decide +kernel
theorem dX11_opens_70 : decode cX11_opens 70 = .ok (.getfield 29, 3) := by decide +kernel
theorem dX11_opens_73 : decode cX11_opens 73 = .ok (.getfield 189, 3) := by decide +kernel
theorem dX11_opens_76 : decode cX11_opens 76 = .ok (.iload_n 1, 1) := by decide +kernel
theorem dX11_opens_77 : decode cX11_opens 77 = .ok (.iaload, 1) := by decide +kernel
theorem dX11_opens_78 : decode cX11_opens 78 = .ok (.aload_n 0, 1) := by decide +kernel
theorem dX11_opens_79 : decode cX11_opens 79 = .ok (.getfield 29, 3) := by decide +kernel
theorem dX11_opens_82 : decode cX11_opens 82 = .ok (.getfield 192, 3) := by decide +kernel
theorem dX11_opens_85 : decode cX11_opens 85 = .ok (.iload_n 1, 1) := by decide +kernel
theorem dX11_opens_86 : decode cX11_opens 86 = .ok (.iaload, 1) := by decide +kernel
theorem dX11_opens_87 : decode cX11_opens 87 = .ok (.iload 4, 2) := by decide +kernel
theorem dX11_opens_89 : decode cX11_opens 89 = .ok (.invokevirtual 225, 3) := by decide +kernel
theorem dX11_opens_92 : decode cX11_opens 92 = .ok (.aload_n 0, 1) := by decide +kernel
theorem dX11_opens_93 : decode cX11_opens 93 = .ok (.getfield 75, 3) := by decide +kernel
theorem dX11_opens_96 : decode cX11_opens 96 = .ok (.iload 5, 2) := by decide +kernel
theorem dX11_opens_98 : decode cX11_opens 98 = .ok (.invokevirtual 332, 3) := by decide +kernel
theorem dX11_opens_101 : decode cX11_opens 101 = .ok (.ifCond .eq 6, 3) := by decide +kernel
theorem dX11_opens_104 : decode cX11_opens 104 = .ok (.iload 4, 2) := by decide +kernel
theorem dX11_opens_106 : decode cX11_opens 106 = .ok (.ireturn, 1) := by decide +kernel
theorem dX11_opens_107 : decode cX11_opens 107 = .ok (.iload 5, 2) := by decide +kernel
theorem dX11_opens_109 : decode cX11_opens 109 = .ok (.istore_n 2, 1) := by decide +kernel
theorem dX11_opens_110 : decode cX11_opens 110 = .ok (.iinc 3 1, 3) := by decide +kernel
theorem dX11_opens_113 : decode cX11_opens 113 = .ok (.goto (-98), 3) := by decide +kernel
theorem dX11_opens_116 : decode cX11_opens 116 = .ok (.iconst (-1), 1) := by decide +kernel
theorem dX11_opens_117 : decode cX11_opens 117 = .ok (.ireturn, 1) := by decide +kernel
theorem dX11_parties_0 : decode cX11_parties 0 = .ok (.aload_n 0, 1) := by decide +kernel
theorem dX11_parties_1 : decode cX11_parties 1 = .ok (.iload_n 1, 1) := by decide +kernel
theorem dX11_parties_2 : decode cX11_parties 2 = .ok (.invokevirtual 186, 3) := by decide +kernel
theorem dX11_parties_5 : decode cX11_parties 5 = .ok (.ifCond .eq 29, 3) := by decide +kernel
theorem dX11_parties_8 : decode cX11_parties 8 = .ok (.aload_n 0, 1) := by decide +kernel
theorem dX11_parties_9 : decode cX11_parties 9 = .ok (.getfield 89, 3) := by decide +kernel
theorem dX11_parties_12 : decode cX11_parties 12 = .ok (.aload_n 0, 1) := by decide +kernel
theorem dX11_parties_13 : decode cX11_parties 13 = .ok (.iload_n 1, 1) := by decide +kernel
theorem dX11_parties_14 : decode cX11_parties 14 = .ok (.invokevirtual 202, 3) := by decide +kernel
theorem dX11_parties_17 : decode cX11_parties 17 = .ok (.aload_n 0, 1) := by decide +kernel
theorem dX11_parties_18 : decode cX11_parties 18 = .ok (.invokevirtual 206, 3) := by decide +kernel
theorem dX11_parties_21 : decode cX11_parties 21 = .ok (.aload_n 0, 1) := by decide +kernel
theorem dX11_parties_22 : decode cX11_parties 22 = .ok (.getfield 29, 3) := by decide +kernel
theorem dX11_parties_25 : decode cX11_parties 25 = .ok (.invokevirtual 265, 3) := by decide +kernel
theorem dX11_parties_28 : decode cX11_parties 28 = .ok (.invokevirtual 322, 3) := by decide +kernel
theorem dX11_parties_31 : decode cX11_parties 31 = .ok (.goto 5, 3) := by decide +kernel
theorem dX11_parties_34 : decode cX11_parties 34 = .ok (.bipush (-2), 2) := by decide +kernel
theorem dX11_parties_36 : decode cX11_parties 36 = .ok (.ireturn, 1) := by decide +kernel
theorem dX11_saved_0 : decode cX11_saved 0 = .ok (.aload_n 0, 1) := by decide +kernel
theorem dX11_saved_1 : decode cX11_saved 1 = .ok (.iload_n 1, 1) := by decide +kernel
theorem dX11_saved_2 : decode cX11_saved 2 = .ok (.invokevirtual 186, 3) := by decide +kernel
theorem dX11_saved_5 : decode cX11_saved 5 = .ok (.ifCond .eq 22, 3) := by decide +kernel
theorem dX11_saved_8 : decode cX11_saved 8 = .ok (.aload_n 0, 1) := by decide +kernel
theorem dX11_saved_9 : decode cX11_saved 9 = .ok (.getfield 82, 3) := by decide +kernel
theorem dX11_saved_12 : decode cX11_saved 12 = .ok (.aload_n 0, 1) := by decide +kernel
theorem dX11_saved_13 : decode cX11_saved 13 = .ok (.iload_n 1, 1) := by decide +kernel
theorem dX11_saved_14 : decode cX11_saved 14 = .ok (.invokevirtual 202, 3) := by decide +kernel
theorem dX11_saved_17 : decode cX11_saved 17 = .ok (.aload_n 0, 1) := by decide +kernel
theorem dX11_saved_18 : decode cX11_saved 18 = .ok (.invokevirtual 206, 3) := by decide +kernel
theorem dX11_saved_21 : decode cX11_saved 21 = .ok (.invokevirtual 349, 3) := by decide +kernel
theorem dX11_saved_24 : decode cX11_saved 24 = .ok (.goto 5, 3) := by decide +kernel
theorem dX11_saved_27 : decode cX11_saved 27 = .ok (.bipush (-2), 2) := by decide +kernel
theorem dX11_saved_29 : decode cX11_saved 29 = .ok (.ireturn, 1) := by decide +kernel
theorem dX11_shut_0 : decode cX11_shut 0 = .ok (.aload_n 0, 1) := by decide +kernel
theorem dX11_shut_1 : decode cX11_shut 1 = .ok (.iload_n 1, 1) := by decide +kernel
theorem dX11_shut_2 : decode cX11_shut 2 = .ok (.invokevirtual 186, 3) := by decide +kernel
theorem dX11_shut_5 : decode cX11_shut 5 = .ok (.ifCond .eq 12, 3) := by decide +kernel
theorem dX11_shut_8 : decode cX11_shut 8 = .ok (.iload_n 2, 1) := by decide +kernel
theorem dX11_shut_9 : decode cX11_shut 9 = .ok (.ifCond .lt 8, 3) := by decide +kernel
theorem dX11_shut_12 : decode cX11_shut 12 = .ok (.iload_n 2, 1) := by decide +kernel
theorem dX11_shut_13 : decode cX11_shut 13 = .ok (.iconst 1, 1) := by decide +kernel
theorem dX11_shut_14 : decode cX11_shut 14 = .ok (.if_icmp .le 6, 3) := by decide +kernel
theorem dX11_shut_17 : decode cX11_shut 17 = .ok (.bipush (-2), 2) := by decide +kernel
theorem dX11_shut_19 : decode cX11_shut 19 = .ok (.ireturn, 1) := by decide +kernel
theorem dX11_shut_20 : decode cX11_shut 20 = .ok (.aload_n 0, 1) := by decide +kernel
theorem dX11_shut_21 : decode cX11_shut 21 = .ok (.getfield 89, 3) := by decide +kernel
theorem dX11_shut_24 : decode cX11_shut 24 = .ok (.aload_n 0, 1) := by decide +kernel
theorem dX11_shut_25 : decode cX11_shut 25 = .ok (.iload_n 1, 1) := by decide +kernel
theorem dX11_shut_26 : decode cX11_shut 26 = .ok (.invokevirtual 202, 3) := by decide +kernel
theorem dX11_shut_29 : decode cX11_shut 29 = .ok (.aload_n 0, 1) := by decide +kernel
theorem dX11_shut_30 : decode cX11_shut 30 = .ok (.invokevirtual 206, 3) := by decide +kernel
theorem dX11_shut_33 : decode cX11_shut 33 = .ok (.invokevirtual 326, 3) := by decide +kernel
theorem dX11_shut_36 : decode cX11_shut 36 = .ok (.istore_n 3, 1) := by decide +kernel
theorem dX11_shut_37 : decode cX11_shut 37 = .ok (.iload_n 3, 1) := by decide +kernel
theorem dX11_shut_38 : decode cX11_shut 38 = .ok (.iconst (-1), 1) := by decide +kernel
theorem dX11_shut_39 : decode cX11_shut 39 = .ok (.if_icmp .eq 8, 3) := by decide +kernel
theorem dX11_shut_42 : decode cX11_shut 42 = .ok (.iload_n 2, 1) := by decide +kernel
theorem dX11_shut_43 : decode cX11_shut 43 = .ok (.iconst 1, 1) := by decide +kernel
theorem dX11_shut_44 : decode cX11_shut 44 = .ok (.if_icmp .ne 7, 3) := by decide +kernel
theorem dX11_shut_47 : decode cX11_shut 47 = .ok (.iload_n 3, 1) := by decide +kernel
theorem dX11_shut_48 : decode cX11_shut 48 = .ok (.goto 7, 3) := by decide +kernel
theorem dX11_shut_51 : decode cX11_shut 51 = .ok (.iload_n 3, 1) := by decide +kernel
theorem dX11_shut_52 : decode cX11_shut 52 = .ok (.invokestatic 243, 3) := by decide +kernel
theorem dX11_shut_55 : decode cX11_shut 55 = .ok (.ireturn, 1) := by decide +kernel
theorem dX11_together_0 : decode cX11_together 0 = .ok (.aload_n 0, 1) := by decide +kernel
theorem dX11_together_1 : decode cX11_together 1 = .ok (.iload_n 1, 1) := by decide +kernel
theorem dX11_together_2 : decode cX11_together 2 = .ok (.invokevirtual 186, 3) := by decide +kernel
theorem dX11_together_5 : decode cX11_together 5 = .ok (.ifCond .eq 11, 3) := by decide +kernel
theorem dX11_together_8 : decode cX11_together 8 = .ok (.aload_n 0, 1) := by decide +kernel
theorem dX11_together_9 : decode cX11_together 9 = .ok (.iload_n 2, 1) := by decide +kernel
theorem dX11_together_10 : decode cX11_together 10 = .ok (.invokevirtual 186, 3) := by decide +kernel
theorem dX11_together_13 : decode cX11_together 13 = .ok (.ifCond .ne 6, 3) := by decide +kernel
theorem dX11_together_16 : decode cX11_together 16 = .ok (.bipush (-2), 2) := by decide +kernel
theorem dX11_together_18 : decode cX11_together 18 = .ok (.ireturn, 1) := by decide +kernel
theorem dX11_together_19 : decode cX11_together 19 = .ok (.aload_n 0, 1) := by decide +kernel
theorem dX11_together_20 : decode cX11_together 20 = .ok (.iload_n 1, 1) := by decide +kernel
theorem dX11_together_21 : decode cX11_together 21 = .ok (.invokevirtual 202, 3) := by decide +kernel
theorem dX11_together_24 : decode cX11_together 24 = .ok (.astore_n 3, 1) := by decide +kernel
theorem dX11_together_25 : decode cX11_together 25 = .ok (.aload_n 0, 1) := by decide +kernel
theorem dX11_together_26 : decode cX11_together 26 = .ok (.iload_n 2, 1) := by decide +kernel
theorem dX11_together_27 : decode cX11_together 27 = .ok (.invokevirtual 202, 3) := by decide +kernel
theorem dX11_together_30 : decode cX11_together 30 = .ok (.astore 4, 2) := by decide +kernel
theorem dX11_together_32 : decode cX11_together 32 = .ok (.aload_n 0, 1) := by decide +kernel
theorem dX11_together_33 : decode cX11_together 33 = .ok (.invokevirtual 206, 3) := by decide +kernel
theorem dX11_together_36 : decode cX11_together 36 = .ok (.istore 5, 2) := by decide +kernel
theorem dX11_together_38 : decode cX11_together 38 = .ok (.iload 5, 2) := by decide +kernel
theorem dX11_together_40 : decode cX11_together 40 = .ok (.aload_n 0, 1) := by decide +kernel
theorem dX11_together_41 : decode cX11_together 41 = .ok (.getfield 29, 3) := by decide +kernel
theorem dX11_together_44 : decode cX11_together 44 = .ok (.invokevirtual 265, 3) := by decide +kernel
theorem dX11_together_47 : decode cX11_together 47 = .ok (.iand, 1) := by decide +kernel
theorem dX11_together_48 : decode cX11_together 48 = .ok (.istore 6, 2) := by decide +kernel
theorem dX11_together_50 : decode cX11_together 50 = .ok (.iload 5, 2) := by decide +kernel
theorem dX11_together_52 : decode cX11_together 52 = .ok (.iload 6, 2) := by decide +kernel
theorem dX11_together_54 : decode cX11_together 54 = .ok (.iconst (-1), 1) := by decide +kernel
theorem dX11_together_55 : decode cX11_together 55 = .ok (.ixor, 1) := by decide +kernel
theorem dX11_together_56 : decode cX11_together 56 = .ok (.iand, 1) := by decide +kernel
theorem dX11_together_57 : decode cX11_together 57 = .ok (.istore 7, 2) := by decide +kernel
theorem dX11_together_59 : decode cX11_together 59 = .ok (.aload_n 3, 1) := by decide +kernel
theorem dX11_together_60 : decode cX11_together 60 = .ok (.iload 5, 2) := by decide +kernel
theorem dX11_together_62 : decode cX11_together 62 = .ok (.invokevirtual 332, 3) := by decide +kernel
theorem dX11_together_65 : decode cX11_together 65 = .ok (.ifCond .eq 13, 3) := by decide +kernel
theorem dX11_together_68 : decode cX11_together 68 = .ok (.aload 4, 2) := by decide +kernel
theorem dX11_together_70 : decode cX11_together 70 = .ok (.iload 5, 2) := by decide +kernel
theorem dX11_together_72 : decode cX11_together 72 = .ok (.invokevirtual 332, 3) := by decide +kernel
theorem dX11_together_75 : decode cX11_together 75 = .ok (.ifCond .ne 5, 3) := by decide +kernel
theorem dX11_together_78 : decode cX11_together 78 = .ok (.iconst 0, 1) := by decide +kernel
theorem dX11_together_79 : decode cX11_together 79 = .ok (.ireturn, 1) := by decide +kernel
theorem dX11_together_80 : decode cX11_together 80 = .ok (.iconst 1, 1) := by decide +kernel
theorem dX11_together_81 : decode cX11_together 81 = .ok (.iload 6, 2) := by decide +kernel
theorem dX11_together_83 : decode cX11_together 83 = .ok (.invokestatic 243, 3) := by decide +kernel
theorem dX11_together_86 : decode cX11_together 86 = .ok (.ishl, 1) := by decide +kernel
theorem dX11_together_87 : decode cX11_together 87 = .ok (.istore 8, 2) := by decide +kernel
theorem dX11_together_89 : decode cX11_together 89 = .ok (.iconst 0, 1) := by decide +kernel
theorem dX11_together_90 : decode cX11_together 90 = .ok (.istore 9, 2) := by decide +kernel
theorem dX11_together_92 : decode cX11_together 92 = .ok (.iconst 0, 1) := by decide +kernel
theorem dX11_together_93 : decode cX11_together 93 = .ok (.istore 10, 2) := by decide +kernel
theorem dX11_together_95 : decode cX11_together 95 = .ok (.iload 10, 2) := by decide +kernel
theorem dX11_together_97 : decode cX11_together 97 = .ok (.iload 8, 2) := by decide +kernel
theorem dX11_together_99 : decode cX11_together 99 = .ok (.if_icmp .ge 51, 3) := by decide +kernel
theorem dX11_together_102 : decode cX11_together 102 = .ok (.aload_n 3, 1) := by decide +kernel
theorem dX11_together_103 : decode cX11_together 103 = .ok (.iload 7, 2) := by decide +kernel
theorem dX11_together_105 : decode cX11_together 105 = .ok (.iload 9, 2) := by decide +kernel
theorem dX11_together_107 : decode cX11_together 107 = .ok (.ior, 1) := by decide +kernel
theorem dX11_together_108 : decode cX11_together 108 = .ok (.invokevirtual 332, 3) := by decide +kernel
theorem dX11_together_111 : decode cX11_together 111 = .ok (.ifCond .eq 23, 3) := by decide +kernel
theorem dX11_together_114 : decode cX11_together 114 = .ok (.aload 4, 2) := by decide +kernel
theorem dX11_together_116 : decode cX11_together 116 = .ok (.iload 7, 2) := by decide +kernel
theorem dX11_together_118 : decode cX11_together 118 = .ok (.iload 6, 2) := by decide +kernel
theorem dX11_together_120 : decode cX11_together 120 = .ok (.iload 9, 2) := by decide +kernel
theorem dX11_together_122 : decode cX11_together 122 = .ok (.iconst (-1), 1) := by decide +kernel
theorem dX11_together_123 : decode cX11_together 123 = .ok (.ixor, 1) := by decide +kernel
theorem dX11_together_124 : decode cX11_together 124 = .ok (.iand, 1) := by decide +kernel
theorem dX11_together_125 : decode cX11_together 125 = .ok (.ior, 1) := by decide +kernel
theorem dX11_together_126 : decode cX11_together 126 = .ok (.invokevirtual 332, 3) := by decide +kernel
theorem dX11_together_129 : decode cX11_together 129 = .ok (.ifCond .eq 5, 3) := by decide +kernel
theorem dX11_together_132 : decode cX11_together 132 = .ok (.iconst 1, 1) := by decide +kernel
theorem dX11_together_133 : decode cX11_together 133 = .ok (.ireturn, 1) := by decide +kernel
theorem dX11_together_134 : decode cX11_together 134 = .ok (.iload 9, 2) := by decide +kernel
theorem dX11_together_136 : decode cX11_together 136 = .ok (.iload 6, 2) := by decide +kernel
theorem dX11_together_138 : decode cX11_together 138 = .ok (.isub, 1) := by decide +kernel
theorem dX11_together_139 : decode cX11_together 139 = .ok (.iload 6, 2) := by decide +kernel
theorem dX11_together_141 : decode cX11_together 141 = .ok (.iand, 1) := by decide +kernel
theorem dX11_together_142 : decode cX11_together 142 = .ok (.istore 9, 2) := by decide +kernel
theorem dX11_together_144 : decode cX11_together 144 = .ok (.iinc 10 1, 3) := by decide +kernel
theorem dX11_together_147 : decode cX11_together 147 = .ok (.goto (-52), 3) := by decide +kernel
theorem dX11_together_150 : decode cX11_together 150 = .ok (.iconst 0, 1) := by decide +kernel
theorem dX11_together_151 : decode cX11_together 151 = .ok (.ireturn, 1) := by decide +kernel
theorem dX11_way_0 : decode cX11_way 0 = .ok (.aload_n 0, 1) := by decide +kernel
theorem dX11_way_1 : decode cX11_way 1 = .ok (.iload_n 1, 1) := by decide +kernel
theorem dX11_way_2 : decode cX11_way 2 = .ok (.invokevirtual 186, 3) := by decide +kernel
theorem dX11_way_5 : decode cX11_way 5 = .ok (.ifCond .eq 12, 3) := by decide +kernel
theorem dX11_way_8 : decode cX11_way 8 = .ok (.iload_n 2, 1) := by decide +kernel
theorem dX11_way_9 : decode cX11_way 9 = .ok (.bipush 14, 2) := by decide +kernel
theorem dX11_way_11 : decode cX11_way 11 = .ok (.invokestatic 299, 3) := by decide +kernel
theorem dX11_way_14 : decode cX11_way 14 = .ok (.ifCond .ne 6, 3) := by decide +kernel
theorem dX11_way_17 : decode cX11_way 17 = .ok (.bipush (-2), 2) := by decide +kernel
theorem dX11_way_19 : decode cX11_way 19 = .ok (.ireturn, 1) := by decide +kernel
theorem dX11_way_20 : decode cX11_way 20 = .ok (.aload_n 0, 1) := by decide +kernel
theorem dX11_way_21 : decode cX11_way 21 = .ok (.getfield 82, 3) := by decide +kernel
theorem dX11_way_24 : decode cX11_way 24 = .ok (.getfield 303, 3) := by decide +kernel
theorem dX11_way_27 : decode cX11_way 27 = .ok (.aload_n 0, 1) := by decide +kernel
theorem dX11_way_28 : decode cX11_way 28 = .ok (.getfield 82, 3) := by decide +kernel
theorem dX11_way_31 : decode cX11_way 31 = .ok (.aload_n 0, 1) := by decide +kernel
theorem dX11_way_32 : decode cX11_way 32 = .ok (.iload_n 1, 1) := by decide +kernel
theorem dX11_way_33 : decode cX11_way 33 = .ok (.invokevirtual 202, 3) := by decide +kernel
theorem dX11_way_36 : decode cX11_way 36 = .ok (.aload_n 0, 1) := by decide +kernel
theorem dX11_way_37 : decode cX11_way 37 = .ok (.invokevirtual 206, 3) := by decide +kernel
theorem dX11_way_40 : decode cX11_way 40 = .ok (.invokevirtual 271, 3) := by decide +kernel
theorem dX11_way_43 : decode cX11_way 43 = .ok (.iload_n 2, 1) := by decide +kernel
theorem dX11_way_44 : decode cX11_way 44 = .ok (.invokestatic 306, 3) := by decide +kernel
theorem dX11_way_47 : decode cX11_way 47 = .ok (.ireturn, 1) := by decide +kernel
theorem dX11_ways_0 : decode cX11_ways 0 = .ok (.aload_n 0, 1) := by decide +kernel
theorem dX11_ways_1 : decode cX11_ways 1 = .ok (.iload_n 1, 1) := by decide +kernel
theorem dX11_ways_2 : decode cX11_ways 2 = .ok (.invokevirtual 186, 3) := by decide +kernel
theorem dX11_ways_5 : decode cX11_ways 5 = .ok (.ifCond .eq 22, 3) := by decide +kernel
theorem dX11_ways_8 : decode cX11_ways 8 = .ok (.aload_n 0, 1) := by decide +kernel
theorem dX11_ways_9 : decode cX11_ways 9 = .ok (.getfield 82, 3) := by decide +kernel
theorem dX11_ways_12 : decode cX11_ways 12 = .ok (.aload_n 0, 1) := by decide +kernel
theorem dX11_ways_13 : decode cX11_ways 13 = .ok (.iload_n 1, 1) := by decide +kernel
theorem dX11_ways_14 : decode cX11_ways 14 = .ok (.invokevirtual 202, 3) := by decide +kernel
theorem dX11_ways_17 : decode cX11_ways 17 = .ok (.aload_n 0, 1) := by decide +kernel
theorem dX11_ways_18 : decode cX11_ways 18 = .ok (.invokevirtual 206, 3) := by decide +kernel
theorem dX11_ways_21 : decode cX11_ways 21 = .ok (.invokevirtual 310, 3) := by decide +kernel
theorem dX11_ways_24 : decode cX11_ways 24 = .ok (.goto 6, 3) := by decide +kernel
theorem dX11_ways_27 : decode cX11_ways 27 = .ok (.ldc2_w 314, 3) := by decide +kernel
theorem dX11_ways_30 : decode cX11_ways 30 = .ok (.lreturn, 1) := by decide +kernel
theorem kw_274 : Cond.fieldLink "FootholdWall" 303 "FootholdWall$Ways" "path" "[I" ∈ gw := gw_of (tb_of 274 (by decide +kernel)) (by decide +kernel)
theorem kw_373 : Cond.fieldLink "FootholdWall" 75 "FootholdWall" "otherRows" "LFootholdWall$Rows;" ∈ gw := gw_of (tb_of 373 (by decide +kernel)) (by decide +kernel)
theorem kw_375 : Cond.fieldLink "FootholdWall" 89 "FootholdWall" "cut" "LFootholdWall$Cut;" ∈ gw := gw_of (tb_of 375 (by decide +kernel)) (by decide +kernel)
theorem kw_970 : Cond.methodLink "FootholdWall" 299 yX11_asksRow ∈ gw := gw_of (tb_of 970 (by decide +kernel)) (by decide +kernel)
theorem kw_971 : Cond.static yX11_asksRow ∈ gw := gw_of (tb_of 971 (by decide +kernel)) (by decide +kernel)
theorem kw_972 : Cond.code yX11_asksRow cX11_asksRow 2 (some (.boolean)) ∈ gw := gw_of (tb_of 972 (by decide +kernel)) (by decide +kernel)
theorem kw_973 : Cond.methodLink "FootholdWall" 306 yX11_ofRow ∈ gw := gw_of (tb_of 973 (by decide +kernel)) (by decide +kernel)
theorem kw_974 : Cond.static yX11_ofRow ∈ gw := gw_of (tb_of 974 (by decide +kernel)) (by decide +kernel)
theorem kw_975 : Cond.code yX11_ofRow cX11_ofRow 4 (some (.int)) ∈ gw := gw_of (tb_of 975 (by decide +kernel)) (by decide +kernel)
theorem kw_980 : Cond.methodLink "FootholdWall" 310 yX10_howMany ∈ gw := gw_of (tb_of 980 (by decide +kernel)) (by decide +kernel)
theorem kw_981 : Cond.instanceMethod yX10_howMany ∈ gw := gw_of (tb_of 981 (by decide +kernel)) (by decide +kernel)
theorem kw_982 : Cond.selects "FootholdWall$Ways" yX10_howMany yX10_howMany ∈ gw := gw_of (tb_of 982 (by decide +kernel)) (by decide +kernel)
theorem kw_983 : Cond.code yX10_howMany cX10_howMany 6 (some (.long)) ∈ gw := gw_of (tb_of 983 (by decide +kernel)) (by decide +kernel)
theorem kw_988 : Cond.constantLong "FootholdWall" 314 (-2) ∈ gw := gw_of (tb_of 988 (by decide +kernel)) (by decide +kernel)
theorem kw_1014 : Cond.methodLink "FootholdWall" 322 yX1_fewest ∈ gw := gw_of (tb_of 1014 (by decide +kernel)) (by decide +kernel)
theorem kw_1044 : Cond.methodLink "FootholdWall" 326 yX1_leastSet ∈ gw := gw_of (tb_of 1044 (by decide +kernel)) (by decide +kernel)
theorem kw_1045 : Cond.instanceMethod yX1_leastSet ∈ gw := gw_of (tb_of 1045 (by decide +kernel)) (by decide +kernel)
theorem kw_1046 : Cond.selects "FootholdWall$Cut" yX1_leastSet yX1_leastSet ∈ gw := gw_of (tb_of 1046 (by decide +kernel)) (by decide +kernel)
theorem kw_1047 : Cond.code yX1_leastSet cX1_leastSet 7 (some (.int)) ∈ gw := gw_of (tb_of 1047 (by decide +kernel)) (by decide +kernel)
theorem kw_1055 : Cond.methodLink "FootholdWall" 329 yX11_needs ∈ gw := gw_of (tb_of 1055 (by decide +kernel)) (by decide +kernel)
theorem kw_1057 : Cond.instanceMethod yX11_needs ∈ gw := gw_of (tb_of 1057 (by decide +kernel)) (by decide +kernel)
theorem kw_1058 : Cond.code yX11_needs cX11_needs 5 (some (.boolean)) ∈ gw := gw_of (tb_of 1058 (by decide +kernel)) (by decide +kernel)
theorem kw_1059 : Cond.methodLink "FootholdWall" 332 yX5_getsUp ∈ gw := gw_of (tb_of 1059 (by decide +kernel)) (by decide +kernel)
theorem kw_1060 : Cond.instanceMethod yX5_getsUp ∈ gw := gw_of (tb_of 1060 (by decide +kernel)) (by decide +kernel)
theorem kw_1061 : Cond.selects "FootholdWall$Rows" yX5_getsUp yX5_getsUp ∈ gw := gw_of (tb_of 1061 (by decide +kernel)) (by decide +kernel)
theorem kw_1062 : Cond.code yX5_getsUp cX5_getsUp 2 (some (.boolean)) ∈ gw := gw_of (tb_of 1062 (by decide +kernel)) (by decide +kernel)
theorem kw_1105 : Cond.methodLink "FootholdWall" 338 Lib.Math.max.name ∈ gw := gw_of (tb_of 1105 (by decide +kernel)) (by decide +kernel)
theorem kw_1118 : Cond.methodLink "FootholdWall" 341 yX9_asksDay ∈ gw := gw_of (tb_of 1118 (by decide +kernel)) (by decide +kernel)
theorem kw_1150 : Cond.methodLink "FootholdWall" 349 yX10_leastUsed ∈ gw := gw_of (tb_of 1150 (by decide +kernel)) (by decide +kernel)
theorem kw_1151 : Cond.instanceMethod yX10_leastUsed ∈ gw := gw_of (tb_of 1151 (by decide +kernel)) (by decide +kernel)
theorem kw_1152 : Cond.selects "FootholdWall$Ways" yX10_leastUsed yX10_leastUsed ∈ gw := gw_of (tb_of 1152 (by decide +kernel)) (by decide +kernel)
theorem kw_1153 : Cond.code yX10_leastUsed cX10_leastUsed 8 (some (.int)) ∈ gw := gw_of (tb_of 1153 (by decide +kernel)) (by decide +kernel)
theorem ks_37 : Cond.selects RX11 yX11_needs yX11_needs ∈ gw := gw_of (pv_of 37 (by decide +kernel)) (by decide +kernel)
