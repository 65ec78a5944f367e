theorem dJ9_floorMod_7cf53_0 : decode cJ9_floorMod_7cf53 0 = .ok (.iload_n 0, 1) := by decide +kernel
theorem dJ9_floorMod_7cf53_1 : decode cJ9_floorMod_7cf53 1 = .ok (.iload_n 1, 1) := by decide +kernel
theorem dJ9_floorMod_7cf53_2 : decode cJ9_floorMod_7cf53 2 = .ok (.irem, 1) := by decide +kernel
theorem dJ9_floorMod_7cf53_3 : decode cJ9_floorMod_7cf53 3 = .ok (.istore_n 2, 1) := by decide +kernel
theorem dJ9_floorMod_7cf53_4 : decode cJ9_floorMod_7cf53 4 = .ok (.iload_n 0, 1) := by decide +kernel
theorem dJ9_floorMod_7cf53_5 : decode cJ9_floorMod_7cf53 5 = .ok (.iload_n 1, 1) := by decide +kernel
theorem dJ9_floorMod_7cf53_6 : decode cJ9_floorMod_7cf53 6 = .ok (.ixor, 1) := by decide +kernel
theorem dJ9_floorMod_7cf53_7 : decode cJ9_floorMod_7cf53 7 = .ok (.ifCond .ge 11, 3) := by decide +kernel
theorem dJ9_floorMod_7cf53_10 : decode cJ9_floorMod_7cf53 10 = .ok (.iload_n 2, 1) := by decide +kernel
theorem dJ9_floorMod_7cf53_11 : decode cJ9_floorMod_7cf53 11 = .ok (.ifCond .eq 7, 3) := by decide +kernel
theorem dJ9_floorMod_7cf53_14 : decode cJ9_floorMod_7cf53 14 = .ok (.iload_n 2, 1) := by decide +kernel
theorem dJ9_floorMod_7cf53_15 : decode cJ9_floorMod_7cf53 15 = .ok (.iload_n 1, 1) := by decide +kernel
theorem dJ9_floorMod_7cf53_16 : decode cJ9_floorMod_7cf53 16 = .ok (.iadd, 1) := by decide +kernel
theorem dJ9_floorMod_7cf53_17 : decode cJ9_floorMod_7cf53 17 = .ok (.ireturn, 1) := by decide +kernel
theorem dJ9_floorMod_7cf53_18 : decode cJ9_floorMod_7cf53 18 = .ok (.iload_n 2, 1) := by decide +kernel
theorem dJ9_floorMod_7cf53_19 : decode cJ9_floorMod_7cf53 19 = .ok (.ireturn, 1) := by decide +kernel
theorem dX11_breaks_0 : decode cX11_breaks 0 = .ok (.aload_n 0, 1) := by decide +kernel
theorem dX11_breaks_1 : decode cX11_breaks 1 = .ok (.iload_n 1, 1) := by decide +kernel
theorem dX11_breaks_2 : decode cX11_breaks 2 = .ok (.invokevirtual 145, 3) := by decide +kernel
theorem dX11_breaks_5 : decode cX11_breaks 5 = .ok (.ifCond .ne 6, 3) := by decide +kernel
theorem dX11_breaks_8 : decode cX11_breaks 8 = .ok (.bipush (-2), 2) := by decide +kernel
theorem dX11_breaks_10 : decode cX11_breaks 10 = .ok (.ireturn, 1) := by decide +kernel
theorem dX11_breaks_11 : decode cX11_breaks 11 = .ok (.aload_n 0, 1) := by decide +kernel
theorem dX11_breaks_12 : decode cX11_breaks 12 = .ok (.getfield 36, 3) := by decide +kernel
theorem dX11_breaks_15 : decode cX11_breaks 15 = .ok (.getfield 180, 3) := by decide +kernel
theorem dX11_breaks_18 : decode cX11_breaks 18 = .ok (.iload_n 1, 1) := by decide +kernel
theorem dX11_breaks_19 : decode cX11_breaks 19 = .ok (.ishr, 1) := by decide +kernel
theorem dX11_breaks_20 : decode cX11_breaks 20 = .ok (.iconst 1, 1) := by decide +kernel
theorem dX11_breaks_21 : decode cX11_breaks 21 = .ok (.iand, 1) := by decide +kernel
theorem dX11_breaks_22 : decode cX11_breaks 22 = .ok (.ifCond .eq 6, 3) := by decide +kernel
theorem dX11_breaks_25 : decode cX11_breaks 25 = .ok (.bipush (-5), 2) := by decide +kernel
theorem dX11_breaks_27 : decode cX11_breaks 27 = .ok (.ireturn, 1) := by decide +kernel
theorem dX11_breaks_28 : decode cX11_breaks 28 = .ok (.aload_n 0, 1) := by decide +kernel
theorem dX11_breaks_29 : decode cX11_breaks 29 = .ok (.getfield 40, 3) := by decide +kernel
theorem dX11_breaks_32 : decode cX11_breaks 32 = .ok (.aload_n 0, 1) := by decide +kernel
theorem dX11_breaks_33 : decode cX11_breaks 33 = .ok (.getfield 36, 3) := by decide +kernel
theorem dX11_breaks_36 : decode cX11_breaks 36 = .ok (.invokevirtual 135, 3) := by decide +kernel
theorem dX11_breaks_39 : decode cX11_breaks 39 = .ok (.aload_n 0, 1) := by decide +kernel
theorem dX11_breaks_40 : decode cX11_breaks 40 = .ok (.getfield 36, 3) := by decide +kernel
theorem dX11_breaks_43 : decode cX11_breaks 43 = .ok (.iload_n 1, 1) := by decide +kernel
theorem dX11_breaks_44 : decode cX11_breaks 44 = .ok (.invokevirtual 281, 3) := by decide +kernel
theorem dX11_breaks_47 : decode cX11_breaks 47 = .ok (.istore_n 2, 1) := by decide +kernel
theorem dX11_breaks_48 : decode cX11_breaks 48 = .ok (.aload_n 0, 1) := by decide +kernel
theorem dX11_breaks_49 : decode cX11_breaks 49 = .ok (.invokevirtual 256, 3) := by decide +kernel
theorem dX11_breaks_52 : decode cX11_breaks 52 = .ok (.iload_n 2, 1) := by decide +kernel
theorem dX11_breaks_53 : decode cX11_breaks 53 = .ok (.ireturn, 1) := by decide +kernel
theorem dX11_climb_0 : decode cX11_climb 0 = .ok (.iload_n 1, 1) := by decide +kernel
theorem dX11_climb_1 : decode cX11_climb 1 = .ok (.invokestatic 229, 3) := by decide +kernel
theorem dX11_climb_4 : decode cX11_climb 4 = .ok (.ifCond .ne 6, 3) := by decide +kernel
theorem dX11_climb_7 : decode cX11_climb 7 = .ok (.bipush (-2), 2) := by decide +kernel
theorem dX11_climb_9 : decode cX11_climb 9 = .ok (.ireturn, 1) := by decide +kernel
theorem dX11_climb_10 : decode cX11_climb 10 = .ok (.aload_n 0, 1) := by decide +kernel
theorem dX11_climb_11 : decode cX11_climb 11 = .ok (.getfield 62, 3) := by decide +kernel
theorem dX11_climb_14 : decode cX11_climb 14 = .ok (.iload_n 1, 1) := by decide +kernel
theorem dX11_climb_15 : decode cX11_climb 15 = .ok (.aaload, 1) := by decide +kernel
theorem dX11_climb_16 : decode cX11_climb 16 = .ok (.astore_n 2, 1) := by decide +kernel
theorem dX11_climb_17 : decode cX11_climb 17 = .ok (.aload_n 2, 1) := by decide +kernel
theorem dX11_climb_18 : decode cX11_climb 18 = .ok (.invokevirtual 232, 3) := by decide +kernel
theorem dX11_climb_21 : decode cX11_climb 21 = .ok (.ifCond .eq 6, 3) := by decide +kernel
theorem dX11_climb_24 : decode cX11_climb 24 = .ok (.bipush (-6), 2) := by decide +kernel
theorem dX11_climb_26 : decode cX11_climb 26 = .ok (.ireturn, 1) := by decide +kernel
theorem dX11_climb_27 : decode cX11_climb 27 = .ok (.aload_n 0, 1) := by decide +kernel
theorem dX11_climb_28 : decode cX11_climb 28 = .ok (.aload_n 2, 1) := by decide +kernel
theorem dX11_climb_29 : decode cX11_climb 29 = .ok (.invokevirtual 236, 3) := by decide +kernel
theorem dX11_climb_32 : decode cX11_climb 32 = .ok (.ifCond .eq 6, 3) := by decide +kernel
theorem dX11_climb_35 : decode cX11_climb 35 = .ok (.bipush (-5), 2) := by decide +kernel
theorem dX11_climb_37 : decode cX11_climb 37 = .ok (.ireturn, 1) := by decide +kernel
theorem dX11_climb_38 : decode cX11_climb 38 = .ok (.aload_n 0, 1) := by decide +kernel
theorem dX11_climb_39 : decode cX11_climb 39 = .ok (.getfield 40, 3) := by decide +kernel
theorem dX11_climb_42 : decode cX11_climb 42 = .ok (.aload_n 0, 1) := by decide +kernel
theorem dX11_climb_43 : decode cX11_climb 43 = .ok (.getfield 36, 3) := by decide +kernel
theorem dX11_climb_46 : decode cX11_climb 46 = .ok (.invokevirtual 135, 3) := by decide +kernel
theorem dX11_climb_49 : decode cX11_climb 49 = .ok (.aload_n 0, 1) := by decide +kernel
theorem dX11_climb_50 : decode cX11_climb 50 = .ok (.getfield 36, 3) := by decide +kernel
theorem dX11_climb_53 : decode cX11_climb 53 = .ok (.aload_n 0, 1) := by decide +kernel
theorem dX11_climb_54 : decode cX11_climb 54 = .ok (.aload_n 2, 1) := by decide +kernel
theorem dX11_climb_55 : decode cX11_climb 55 = .ok (.invokevirtual 240, 3) := by decide +kernel
theorem dX11_climb_58 : decode cX11_climb 58 = .ok (.aload_n 2, 1) := by decide +kernel
theorem dX11_climb_59 : decode cX11_climb 59 = .ok (.iconst 0, 1) := by decide +kernel
theorem dX11_climb_60 : decode cX11_climb 60 = .ok (.invokevirtual 248, 3) := by decide +kernel
theorem dX11_climb_63 : decode cX11_climb 63 = .ok (.l2i, 1) := by decide +kernel
theorem dX11_climb_64 : decode cX11_climb 64 = .ok (.invokevirtual 252, 3) := by decide +kernel
theorem dX11_climb_67 : decode cX11_climb 67 = .ok (.istore_n 3, 1) := by decide +kernel
theorem dX11_climb_68 : decode cX11_climb 68 = .ok (.aload_n 0, 1) := by decide +kernel
theorem dX11_climb_69 : decode cX11_climb 69 = .ok (.invokevirtual 256, 3) := by decide +kernel
theorem dX11_climb_72 : decode cX11_climb 72 = .ok (.iload_n 3, 1) := by decide +kernel
theorem dX11_climb_73 : decode cX11_climb 73 = .ok (.ireturn, 1) := by decide +kernel
theorem dX11_days_0 : decode cX11_days 0 = .ok (.iload_n 1, 1) := by decide +kernel
theorem dX11_days_1 : decode cX11_days 1 = .ok (.iconst 1, 1) := by decide +kernel
theorem dX11_days_2 : decode cX11_days 2 = .ok (.if_icmp .lt 9, 3) := by decide +kernel
theorem dX11_days_5 : decode cX11_days 5 = .ok (.iload_n 1, 1) := by decide +kernel
theorem dX11_days_6 : decode cX11_days 6 = .ok (.bipush 99, 2) := by decide +kernel
theorem dX11_days_8 : decode cX11_days 8 = .ok (.if_icmp .le 6, 3) := by decide +kernel
theorem dX11_days_11 : decode cX11_days 11 = .ok (.bipush (-3), 2) := by decide +kernel
theorem dX11_days_13 : decode cX11_days 13 = .ok (.ireturn, 1) := by decide +kernel
theorem dX11_days_14 : decode cX11_days 14 = .ok (.aload_n 0, 1) := by decide +kernel
theorem dX11_days_15 : decode cX11_days 15 = .ok (.getfield 40, 3) := by decide +kernel
theorem dX11_days_18 : decode cX11_days 18 = .ok (.aload_n 0, 1) := by decide +kernel
theorem dX11_days_19 : decode cX11_days 19 = .ok (.getfield 36, 3) := by decide +kernel
theorem dX11_days_22 : decode cX11_days 22 = .ok (.invokevirtual 135, 3) := by decide +kernel
theorem dX11_days_25 : decode cX11_days 25 = .ok (.aload_n 0, 1) := by decide +kernel
theorem dX11_days_26 : decode cX11_days 26 = .ok (.getfield 36, 3) := by decide +kernel
theorem dX11_days_29 : decode cX11_days 29 = .ok (.dup, 1) := by decide +kernel
theorem dX11_days_30 : decode cX11_days 30 = .ok (.getfield 161, 3) := by decide +kernel
theorem dX11_days_33 : decode cX11_days 33 = .ok (.iload_n 1, 1) := by decide +kernel
theorem dX11_days_34 : decode cX11_days 34 = .ok (.iadd, 1) := by decide +kernel
theorem dX11_days_35 : decode cX11_days 35 = .ok (.putfield 161, 3) := by decide +kernel
theorem dX11_days_38 : decode cX11_days 38 = .ok (.aload_n 0, 1) := by decide +kernel
theorem dX11_days_39 : decode cX11_days 39 = .ok (.invokevirtual 256, 3) := by decide +kernel
theorem dX11_days_42 : decode cX11_days 42 = .ok (.aload_n 0, 1) := by decide +kernel
theorem dX11_days_43 : decode cX11_days 43 = .ok (.getfield 36, 3) := by decide +kernel
theorem dX11_days_46 : decode cX11_days 46 = .ok (.getfield 161, 3) := by decide +kernel
theorem dX11_days_49 : decode cX11_days 49 = .ok (.ireturn, 1) := by decide +kernel
theorem dX11_goUp_0 : decode cX11_goUp 0 = .ok (.aload_n 0, 1) := by decide +kernel
theorem dX11_goUp_1 : decode cX11_goUp 1 = .ok (.getfield 82, 3) := by decide +kernel
theorem dX11_goUp_4 : decode cX11_goUp 4 = .ok (.aload_n 0, 1) := by decide +kernel
theorem dX11_goUp_5 : decode cX11_goUp 5 = .ok (.iload_n 1, 1) := by decide +kernel
theorem dX11_goUp_6 : decode cX11_goUp 6 = .ok (.invokevirtual 202, 3) := by decide +kernel
theorem dX11_goUp_9 : decode cX11_goUp 9 = .ok (.aload_n 0, 1) := by decide +kernel
theorem dX11_goUp_10 : decode cX11_goUp 10 = .ok (.invokevirtual 206, 3) := by decide +kernel
theorem dX11_goUp_13 : decode cX11_goUp 13 = .ok (.invokevirtual 271, 3) := by decide +kernel
theorem dX11_goUp_16 : decode cX11_goUp 16 = .ok (.ifCond .ne 5, 3) := by decide +kernel
theorem dX11_goUp_19 : decode cX11_goUp 19 = .ok (.iconst (-1), 1) := by decide +kernel
theorem dX11_goUp_20 : decode cX11_goUp 20 = .ok (.ireturn, 1) := by decide +kernel
theorem dX11_goUp_21 : decode cX11_goUp 21 = .ok (.aload_n 0, 1) := by decide +kernel
theorem dX11_goUp_22 : decode cX11_goUp 22 = .ok (.getfield 36, 3) := by decide +kernel
theorem dX11_goUp_25 : decode cX11_goUp 25 = .ok (.aload_n 0, 1) := by decide +kernel
theorem dX11_goUp_26 : decode cX11_goUp 26 = .ok (.getfield 82, 3) := by decide +kernel
theorem dX11_goUp_29 : decode cX11_goUp 29 = .ok (.invokevirtual 275, 3) := by decide +kernel
theorem dX11_goUp_32 : decode cX11_goUp 32 = .ok (.aload_n 0, 1) := by decide +kernel
theorem dX11_goUp_33 : decode cX11_goUp 33 = .ok (.getfield 29, 3) := by decide +kernel
theorem dX11_goUp_36 : decode cX11_goUp 36 = .ok (.invokevirtual 265, 3) := by decide +kernel
theorem dX11_goUp_39 : decode cX11_goUp 39 = .ok (.iand, 1) := by decide +kernel
theorem dX11_goUp_40 : decode cX11_goUp 40 = .ok (.iload_n 1, 1) := by decide +kernel
theorem dX11_goUp_41 : decode cX11_goUp 41 = .ok (.invokevirtual 252, 3) := by decide +kernel
theorem dX11_goUp_44 : decode cX11_goUp 44 = .ok (.ireturn, 1) := by decide +kernel
theorem dX11_goes_0 : decode cX11_goes 0 = .ok (.aload_n 0, 1) := by decide +kernel
theorem dX11_goes_1 : decode cX11_goes 1 = .ok (.iload_n 1, 1) := by decide +kernel
theorem dX11_goes_2 : decode cX11_goes 2 = .ok (.invokevirtual 186, 3) := by decide +kernel
theorem dX11_goes_5 : decode cX11_goes 5 = .ok (.ifCond .ne 6, 3) := by decide +kernel
theorem dX11_goes_8 : decode cX11_goes 8 = .ok (.bipush (-2), 2) := by decide +kernel
theorem dX11_goes_10 : decode cX11_goes 10 = .ok (.ireturn, 1) := by decide +kernel
theorem dX11_goes_11 : decode cX11_goes 11 = .ok (.aload_n 0, 1) := by decide +kernel
theorem dX11_goes_12 : decode cX11_goes 12 = .ok (.getfield 40, 3) := by decide +kernel
theorem dX11_goes_15 : decode cX11_goes 15 = .ok (.aload_n 0, 1) := by decide +kernel
theorem dX11_goes_16 : decode cX11_goes 16 = .ok (.getfield 36, 3) := by decide +kernel
theorem dX11_goes_19 : decode cX11_goes 19 = .ok (.invokevirtual 135, 3) := by decide +kernel
theorem dX11_goes_22 : decode cX11_goes 22 = .ok (.aload_n 0, 1) := by decide +kernel
theorem dX11_goes_23 : decode cX11_goes 23 = .ok (.iload_n 1, 1) := by decide +kernel
theorem dX11_goes_24 : decode cX11_goes 24 = .ok (.invokevirtual 268, 3) := by decide +kernel
theorem dX11_goes_27 : decode cX11_goes 27 = .ok (.istore_n 2, 1) := by decide +kernel
theorem dX11_goes_28 : decode cX11_goes 28 = .ok (.iload_n 2, 1) := by decide +kernel
theorem dX11_goes_29 : decode cX11_goes 29 = .ok (.iconst (-1), 1) := by decide +kernel
theorem dX11_goes_30 : decode cX11_goes 30 = .ok (.if_icmp .ne 6, 3) := by decide +kernel
theorem dX11_goes_33 : decode cX11_goes 33 = .ok (.bipush (-5), 2) := by decide +kernel
theorem dX11_goes_35 : decode cX11_goes 35 = .ok (.ireturn, 1) := by decide +kernel
theorem dX11_goes_36 : decode cX11_goes 36 = .ok (.aload_n 0, 1) := by decide +kernel
theorem dX11_goes_37 : decode cX11_goes 37 = .ok (.invokevirtual 256, 3) := by decide +kernel
theorem dX11_goes_40 : decode cX11_goes 40 = .ok (.iload_n 2, 1) := by decide +kernel
theorem dX11_goes_41 : decode cX11_goes 41 = .ok (.ireturn, 1) := by decide +kernel
theorem dX11_judge_0 : decode cX11_judge 0 = .ok (.iload_n 1, 1) := by decide +kernel
theorem dX11_judge_1 : decode cX11_judge 1 = .ok (.invokestatic 229, 3) := by decide +kernel
theorem dX11_judge_4 : decode cX11_judge 4 = .ok (.ifCond .eq 12, 3) := by decide +kernel
theorem dX11_judge_7 : decode cX11_judge 7 = .ok (.iload_n 2, 1) := by decide +kernel
theorem dX11_judge_8 : decode cX11_judge 8 = .ok (.ifCond .lt 8, 3) := by decide +kernel
theorem dX11_judge_11 : decode cX11_judge 11 = .ok (.iload_n 2, 1) := by decide +kernel
theorem dX11_judge_12 : decode cX11_judge 12 = .ok (.iconst 2, 1) := by decide +kernel
theorem dX11_judge_13 : decode cX11_judge 13 = .ok (.if_icmp .le 6, 3) := by decide +kernel
theorem dX11_judge_16 : decode cX11_judge 16 = .ok (.bipush (-2), 2) := by decide +kernel
theorem dX11_judge_18 : decode cX11_judge 18 = .ok (.ireturn, 1) := by decide +kernel
theorem dX11_judge_19 : decode cX11_judge 19 = .ok (.aload_n 0, 1) := by decide +kernel
theorem dX11_judge_20 : decode cX11_judge 20 = .ok (.getfield 62, 3) := by decide +kernel
theorem dX11_judge_23 : decode cX11_judge 23 = .ok (.iload_n 1, 1) := by decide +kernel
theorem dX11_judge_24 : decode cX11_judge 24 = .ok (.aaload, 1) := by decide +kernel
theorem dX11_judge_25 : decode cX11_judge 25 = .ok (.astore_n 3, 1) := by decide +kernel
theorem dX11_judge_26 : decode cX11_judge 26 = .ok (.aload_n 3, 1) := by decide +kernel
theorem dX11_judge_27 : decode cX11_judge 27 = .ok (.invokevirtual 232, 3) := by decide +kernel
theorem dX11_judge_30 : decode cX11_judge 30 = .ok (.ifCond .eq 6, 3) := by decide +kernel
theorem dX11_judge_33 : decode cX11_judge 33 = .ok (.bipush (-6), 2) := by decide +kernel
theorem dX11_judge_35 : decode cX11_judge 35 = .ok (.ireturn, 1) := by decide +kernel
theorem dX11_judge_36 : decode cX11_judge 36 = .ok (.aload_n 0, 1) := by decide +kernel
theorem dX11_judge_37 : decode cX11_judge 37 = .ok (.aload_n 3, 1) := by decide +kernel
theorem dX11_judge_38 : decode cX11_judge 38 = .ok (.invokevirtual 236, 3) := by decide +kernel
theorem dX11_judge_41 : decode cX11_judge 41 = .ok (.istore 4, 2) := by decide +kernel
theorem dX11_judge_43 : decode cX11_judge 43 = .ok (.iload_n 2, 1) := by decide +kernel
theorem dX11_judge_44 : decode cX11_judge 44 = .ok (.ifCond .ne 17, 3) := by decide +kernel
theorem dX11_judge_47 : decode cX11_judge 47 = .ok (.iload 4, 2) := by decide +kernel
theorem dX11_judge_49 : decode cX11_judge 49 = .ok (.ifCond .ne 7, 3) := by decide +kernel
theorem dX11_judge_52 : decode cX11_judge 52 = .ok (.iconst (-1), 1) := by decide +kernel
theorem dX11_judge_53 : decode cX11_judge 53 = .ok (.goto 7, 3) := by decide +kernel
theorem dX11_judge_56 : decode cX11_judge 56 = .ok (.iload 4, 2) := by decide +kernel
theorem dX11_judge_58 : decode cX11_judge 58 = .ok (.iconst 3, 1) := by decide +kernel
theorem dX11_judge_59 : decode cX11_judge 59 = .ok (.ishr, 1) := by decide +kernel
theorem dX11_judge_60 : decode cX11_judge 60 = .ok (.ireturn, 1) := by decide +kernel
theorem dX11_judge_61 : decode cX11_judge 61 = .ok (.iload_n 2, 1) := by decide +kernel
theorem dX11_judge_62 : decode cX11_judge 62 = .ok (.iconst 1, 1) := by decide +kernel
theorem dX11_judge_63 : decode cX11_judge 63 = .ok (.if_icmp .ne 9, 3) := by decide +kernel
theorem dX11_judge_66 : decode cX11_judge 66 = .ok (.iload 4, 2) := by decide +kernel
theorem dX11_judge_68 : decode cX11_judge 68 = .ok (.bipush 7, 2) := by decide +kernel
theorem dX11_judge_70 : decode cX11_judge 70 = .ok (.iand, 1) := by decide +kernel
theorem dX11_judge_71 : decode cX11_judge 71 = .ok (.ireturn, 1) := by decide +kernel
theorem dX11_judge_72 : decode cX11_judge 72 = .ok (.iload 4, 2) := by decide +kernel
theorem dX11_judge_74 : decode cX11_judge 74 = .ok (.ifCond .ne 14, 3) := by decide +kernel
theorem dX11_judge_77 : decode cX11_judge 77 = .ok (.aload_n 0, 1) := by decide +kernel
theorem dX11_judge_78 : decode cX11_judge 78 = .ok (.aload_n 3, 1) := by decide +kernel
theorem dX11_judge_79 : decode cX11_judge 79 = .ok (.invokevirtual 240, 3) := by decide +kernel
theorem dX11_judge_82 : decode cX11_judge 82 = .ok (.invokestatic 243, 3) := by decide +kernel
theorem dX11_judge_85 : decode cX11_judge 85 = .ok (.goto 4, 3) := by decide +kernel
theorem dX11_judge_88 : decode cX11_judge 88 = .ok (.iconst 0, 1) := by decide +kernel
theorem dX11_judge_89 : decode cX11_judge 89 = .ok (.ireturn, 1) := by decide +kernel
theorem dX11_newYear_0 : decode cX11_newYear 0 = .ok (.aload_n 0, 1) := by decide +kernel
theorem dX11_newYear_1 : decode cX11_newYear 1 = .ok (.getfield 40, 3) := by decide +kernel
theorem dX11_newYear_4 : decode cX11_newYear 4 = .ok (.aload_n 0, 1) := by decide +kernel
theorem dX11_newYear_5 : decode cX11_newYear 5 = .ok (.getfield 36, 3) := by decide +kernel
theorem dX11_newYear_8 : decode cX11_newYear 8 = .ok (.invokevirtual 135, 3) := by decide +kernel
theorem dX11_newYear_11 : decode cX11_newYear 11 = .ok (.aload_n 0, 1) := by decide +kernel
theorem dX11_newYear_12 : decode cX11_newYear 12 = .ok (.getfield 36, 3) := by decide +kernel
theorem dX11_newYear_15 : decode cX11_newYear 15 = .ok (.getfield 222, 3) := by decide +kernel
theorem dX11_newYear_18 : decode cX11_newYear 18 = .ok (.invokestatic 243, 3) := by decide +kernel
theorem dX11_newYear_21 : decode cX11_newYear 21 = .ok (.istore_n 1, 1) := by decide +kernel
theorem dX11_newYear_22 : decode cX11_newYear 22 = .ok (.aload_n 0, 1) := by decide +kernel
theorem dX11_newYear_23 : decode cX11_newYear 23 = .ok (.getfield 36, 3) := by decide +kernel
theorem dX11_newYear_26 : decode cX11_newYear 26 = .ok (.iconst 0, 1) := by decide +kernel
theorem dX11_newYear_27 : decode cX11_newYear 27 = .ok (.putfield 222, 3) := by decide +kernel
theorem dX11_newYear_30 : decode cX11_newYear 30 = .ok (.aload_n 0, 1) := by decide +kernel
theorem dX11_newYear_31 : decode cX11_newYear 31 = .ok (.getfield 36, 3) := by decide +kernel
theorem dX11_newYear_34 : decode cX11_newYear 34 = .ok (.iconst 0, 1) := by decide +kernel
theorem dX11_newYear_35 : decode cX11_newYear 35 = .ok (.putfield 161, 3) := by decide +kernel
theorem dX11_newYear_38 : decode cX11_newYear 38 = .ok (.aload_n 0, 1) := by decide +kernel
theorem dX11_newYear_39 : decode cX11_newYear 39 = .ok (.getfield 36, 3) := by decide +kernel
theorem dX11_newYear_42 : decode cX11_newYear 42 = .ok (.dup, 1) := by decide +kernel
theorem dX11_newYear_43 : decode cX11_newYear 43 = .ok (.getfield 284, 3) := by decide +kernel
theorem dX11_newYear_46 : decode cX11_newYear 46 = .ok (.iconst 1, 1) := by decide +kernel
theorem dX11_newYear_47 : decode cX11_newYear 47 = .ok (.iadd, 1) := by decide +kernel
theorem dX11_newYear_48 : decode cX11_newYear 48 = .ok (.putfield 284, 3) := by decide +kernel
theorem dX11_newYear_51 : decode cX11_newYear 51 = .ok (.aload_n 0, 1) := by decide +kernel
theorem dX11_newYear_52 : decode cX11_newYear 52 = .ok (.invokevirtual 256, 3) := by decide +kernel
theorem dX11_newYear_55 : decode cX11_newYear 55 = .ok (.iload_n 1, 1) := by decide +kernel
theorem dX11_newYear_56 : decode cX11_newYear 56 = .ok (.ireturn, 1) := by decide +kernel
theorem dX11_rain_0 : decode cX11_rain 0 = .ok (.iload_n 1, 1) := by decide +kernel
theorem dX11_rain_1 : decode cX11_rain 1 = .ok (.iconst 1, 1) := by decide +kernel
theorem dX11_rain_2 : decode cX11_rain 2 = .ok (.if_icmp .lt 9, 3) := by decide +kernel
theorem dX11_rain_5 : decode cX11_rain 5 = .ok (.iload_n 1, 1) := by decide +kernel
theorem dX11_rain_6 : decode cX11_rain 6 = .ok (.bipush 14, 2) := by decide +kernel
theorem dX11_rain_8 : decode cX11_rain 8 = .ok (.if_icmp .le 6, 3) := by decide +kernel
theorem dX11_rain_11 : decode cX11_rain 11 = .ok (.bipush (-3), 2) := by decide +kernel
theorem dX11_rain_13 : decode cX11_rain 13 = .ok (.ireturn, 1) := by decide +kernel
theorem dX11_rain_14 : decode cX11_rain 14 = .ok (.aload_n 0, 1) := by decide +kernel
theorem dX11_rain_15 : decode cX11_rain 15 = .ok (.getfield 40, 3) := by decide +kernel
theorem dX11_rain_18 : decode cX11_rain 18 = .ok (.aload_n 0, 1) := by decide +kernel
theorem dX11_rain_19 : decode cX11_rain 19 = .ok (.getfield 36, 3) := by decide +kernel
theorem dX11_rain_22 : decode cX11_rain 22 = .ok (.invokevirtual 135, 3) := by decide +kernel
theorem dX11_rain_25 : decode cX11_rain 25 = .ok (.aload_n 0, 1) := by decide +kernel
theorem dX11_rain_26 : decode cX11_rain 26 = .ok (.getfield 36, 3) := by decide +kernel
theorem dX11_rain_29 : decode cX11_rain 29 = .ok (.iload_n 1, 1) := by decide +kernel
theorem dX11_rain_30 : decode cX11_rain 30 = .ok (.invokevirtual 278, 3) := by decide +kernel
theorem dX11_rain_33 : decode cX11_rain 33 = .ok (.istore_n 2, 1) := by decide +kernel
theorem dX11_rain_34 : decode cX11_rain 34 = .ok (.iload_n 2, 1) := by decide +kernel
theorem dX11_rain_35 : decode cX11_rain 35 = .ok (.ifCond .le 7, 3) := by decide +kernel
theorem dX11_rain_38 : decode cX11_rain 38 = .ok (.aload_n 0, 1) := by decide +kernel
theorem dX11_rain_39 : decode cX11_rain 39 = .ok (.invokevirtual 256, 3) := by decide +kernel
theorem dX11_rain_42 : decode cX11_rain 42 = .ok (.iload_n 2, 1) := by decide +kernel
theorem dX11_rain_43 : decode cX11_rain 43 = .ok (.ireturn, 1) := by decide +kernel
theorem dX11_remember_0 : decode cX11_remember 0 = .ok (.aload_n 0, 1) := by decide +kernel
theorem dX11_remember_1 : decode cX11_remember 1 = .ok (.getfield 43, 3) := by decide +kernel
theorem dX11_remember_4 : decode cX11_remember 4 = .ok (.aload_n 0, 1) := by decide +kernel
theorem dX11_remember_5 : decode cX11_remember 5 = .ok (.getfield 50, 3) := by decide +kernel
theorem dX11_remember_8 : decode cX11_remember 8 = .ok (.aaload, 1) := by decide +kernel
theorem dX11_remember_9 : decode cX11_remember 9 = .ok (.astore_n 1, 1) := by decide +kernel
theorem dX11_remember_10 : decode cX11_remember 10 = .ok (.aload_n 0, 1) := by decide +kernel
theorem dX11_remember_11 : decode cX11_remember 11 = .ok (.getfield 43, 3) := by decide +kernel
theorem dX11_remember_14 : decode cX11_remember 14 = .ok (.aload_n 0, 1) := by decide +kernel
theorem dX11_remember_15 : decode cX11_remember 15 = .ok (.getfield 50, 3) := by decide +kernel
theorem dX11_remember_18 : decode cX11_remember 18 = .ok (.aload_n 0, 1) := by decide +kernel
theorem dX11_remember_19 : decode cX11_remember 19 = .ok (.getfield 40, 3) := by decide +kernel
theorem dX11_remember_22 : decode cX11_remember 22 = .ok (.aastore, 1) := by decide +kernel
theorem dX11_remember_23 : decode cX11_remember 23 = .ok (.aload_n 0, 1) := by decide +kernel
theorem dX11_remember_24 : decode cX11_remember 24 = .ok (.aload_n 1, 1) := by decide +kernel
theorem dX11_remember_25 : decode cX11_remember 25 = .ok (.putfield 40, 3) := by decide +kernel
theorem dX11_remember_28 : decode cX11_remember 28 = .ok (.aload_n 0, 1) := by decide +kernel
theorem dX11_remember_29 : decode cX11_remember 29 = .ok (.aload_n 0, 1) := by decide +kernel
theorem dX11_remember_30 : decode cX11_remember 30 = .ok (.getfield 50, 3) := by decide +kernel
theorem dX11_remember_33 : decode cX11_remember 33 = .ok (.iconst 1, 1) := by decide +kernel
theorem dX11_remember_34 : decode cX11_remember 34 = .ok (.iadd, 1) := by decide +kernel
theorem dX11_remember_35 : decode cX11_remember 35 = .ok (.bipush 10, 2) := by decide +kernel
theorem dX11_remember_37 : decode cX11_remember 37 = .ok (.irem, 1) := by decide +kernel
theorem dX11_remember_38 : decode cX11_remember 38 = .ok (.putfield 50, 3) := by decide +kernel
theorem dX11_remember_41 : decode cX11_remember 41 = .ok (.aload_n 0, 1) := by decide +kernel
theorem dX11_remember_42 : decode cX11_remember 42 = .ok (.aload_n 0, 1) := by decide +kernel
theorem dX11_remember_43 : decode cX11_remember 43 = .ok (.getfield 47, 3) := by decide +kernel
theorem dX11_remember_46 : decode cX11_remember 46 = .ok (.iconst 1, 1) := by decide +kernel
theorem dX11_remember_47 : decode cX11_remember 47 = .ok (.iadd, 1) := by decide +kernel
theorem dX11_remember_48 : decode cX11_remember 48 = .ok (.bipush 10, 2) := by decide +kernel
theorem dX11_remember_50 : decode cX11_remember 50 = .ok (.invokestatic 292, 3) := by decide +kernel
theorem dX11_remember_53 : decode cX11_remember 53 = .ok (.putfield 47, 3) := by decide +kernel
theorem dX11_remember_56 : decode cX11_remember 56 = .ok (.return_, 1) := by decide +kernel
theorem dX11_season_0 : decode cX11_season 0 = .ok (.iload_n 2, 1) := by decide +kernel
theorem dX11_season_1 : decode cX11_season 1 = .ok (.iconst 1, 1) := by decide +kernel
theorem dX11_season_2 : decode cX11_season 2 = .ok (.if_icmp .lt 9, 3) := by decide +kernel
theorem dX11_season_5 : decode cX11_season 5 = .ok (.iload_n 2, 1) := by decide +kernel
theorem dX11_season_6 : decode cX11_season 6 = .ok (.bipush 40, 2) := by decide +kernel
theorem dX11_season_8 : decode cX11_season 8 = .ok (.if_icmp .le 6, 3) := by decide +kernel
theorem dX11_season_11 : decode cX11_season 11 = .ok (.bipush (-3), 2) := by decide +kernel
theorem dX11_season_13 : decode cX11_season 13 = .ok (.ireturn, 1) := by decide +kernel
theorem dX11_season_14 : decode cX11_season 14 = .ok (.aload_n 0, 1) := by decide +kernel
theorem dX11_season_15 : decode cX11_season 15 = .ok (.getfield 29, 3) := by decide +kernel
theorem dX11_season_18 : decode cX11_season 18 = .ok (.getfield 216, 3) := by decide +kernel
theorem dX11_season_21 : decode cX11_season 21 = .ok (.ifCond .ne 6, 3) := by decide +kernel
theorem dX11_season_24 : decode cX11_season 24 = .ok (.bipush (-5), 2) := by decide +kernel
theorem dX11_season_26 : decode cX11_season 26 = .ok (.ireturn, 1) := by decide +kernel
theorem dX11_season_27 : decode cX11_season 27 = .ok (.aload_n 0, 1) := by decide +kernel
theorem dX11_season_28 : decode cX11_season 28 = .ok (.getfield 40, 3) := by decide +kernel
theorem dX11_season_31 : decode cX11_season 31 = .ok (.aload_n 0, 1) := by decide +kernel
theorem dX11_season_32 : decode cX11_season 32 = .ok (.getfield 36, 3) := by decide +kernel
theorem dX11_season_35 : decode cX11_season 35 = .ok (.invokevirtual 135, 3) := by decide +kernel
theorem dX11_season_38 : decode cX11_season 38 = .ok (.iload_n 1, 1) := by decide +kernel
theorem dX11_season_39 : decode cX11_season 39 = .ok (.istore_n 3, 1) := by decide +kernel
theorem dX11_season_40 : decode cX11_season 40 = .ok (.iconst 0, 1) := by decide +kernel
theorem dX11_season_41 : decode cX11_season 41 = .ok (.istore 4, 2) := by decide +kernel
theorem dX11_season_43 : decode cX11_season 43 = .ok (.iconst 0, 1) := by decide +kernel
theorem dX11_season_44 : decode cX11_season 44 = .ok (.istore 5, 2) := by decide +kernel
theorem dX11_season_46 : decode cX11_season 46 = .ok (.iconst 0, 1) := by decide +kernel
theorem dX11_season_47 : decode cX11_season 47 = .ok (.istore 6, 2) := by decide +kernel
theorem dX11_season_49 : decode cX11_season 49 = .ok (.iload 6, 2) := by decide +kernel
theorem dX11_season_51 : decode cX11_season 51 = .ok (.iload_n 2, 1) := by decide +kernel
theorem dX11_season_52 : decode cX11_season 52 = .ok (.if_icmp .ge 130, 3) := by decide +kernel
theorem dX11_season_55 : decode cX11_season 55 = .ok (.iload_n 3, 1) := by decide +kernel
theorem dX11_season_56 : decode cX11_season 56 = .ok (.invokestatic 295, 3) := by decide +kernel
theorem dX11_season_59 : decode cX11_season 59 = .ok (.istore_n 3, 1) := by decide +kernel
theorem dX11_season_60 : decode cX11_season 60 = .ok (.iload_n 3, 1) := by decide +kernel
theorem dX11_season_61 : decode cX11_season 61 = .ok (.bipush 16, 2) := by decide +kernel
theorem dX11_season_63 : decode cX11_season 63 = .ok (.iushr, 1) := by decide +kernel
theorem dX11_season_64 : decode cX11_season 64 = .ok (.iconst 4, 1) := by decide +kernel
theorem dX11_season_65 : decode cX11_season 65 = .ok (.irem, 1) := by decide +kernel
theorem dX11_season_66 : decode cX11_season 66 = .ok (.istore 7, 2) := by decide +kernel
theorem dX11_season_68 : decode cX11_season 68 = .ok (.iload 7, 2) := by decide +kernel
theorem dX11_season_70 : decode cX11_season 70 = .ok (.ifCond .ne 22, 3) := by decide +kernel
theorem dX11_season_73 : decode cX11_season 73 = .ok (.aload_n 0, 1) := by decide +kernel
theorem dX11_season_74 : decode cX11_season 74 = .ok (.getfield 36, 3) := by decide +kernel
theorem dX11_season_77 : decode cX11_season 77 = .ok (.dup, 1) := by decide +kernel
theorem dX11_season_78 : decode cX11_season 78 = .ok (.getfield 161, 3) := by decide +kernel
theorem dX11_season_81 : decode cX11_season 81 = .ok (.iconst 1, 1) := by decide +kernel
theorem dX11_season_82 : decode cX11_season 82 = .ok (.iadd, 1) := by decide +kernel
theorem dX11_season_83 : decode cX11_season 83 = .ok (.putfield 161, 3) := by decide +kernel
theorem dX11_season_86 : decode cX11_season 86 = .ok (.iconst 1, 1) := by decide +kernel
theorem dX11_season_87 : decode cX11_season 87 = .ok (.istore 5, 2) := by decide +kernel
theorem dX11_season_89 : decode cX11_season 89 = .ok (.goto 87, 3) := by decide +kernel
theorem dX11_season_92 : decode cX11_season 92 = .ok (.iload 7, 2) := by decide +kernel
theorem dX11_season_94 : decode cX11_season 94 = .ok (.iconst 3, 1) := by decide +kernel
theorem dX11_season_95 : decode cX11_season 95 = .ok (.if_icmp .ne 27, 3) := by decide +kernel
theorem dX11_season_98 : decode cX11_season 98 = .ok (.iload 5, 2) := by decide +kernel
theorem dX11_season_100 : decode cX11_season 100 = .ok (.aload_n 0, 1) := by decide +kernel
theorem dX11_season_101 : decode cX11_season 101 = .ok (.getfield 36, 3) := by decide +kernel
theorem dX11_season_104 : decode cX11_season 104 = .ok (.iconst 1, 1) := by decide +kernel
theorem dX11_season_105 : decode cX11_season 105 = .ok (.invokevirtual 278, 3) := by decide +kernel
theorem dX11_season_108 : decode cX11_season 108 = .ok (.ifCond .le 7, 3) := by decide +kernel
theorem dX11_season_111 : decode cX11_season 111 = .ok (.iconst 1, 1) := by decide +kernel
theorem dX11_season_112 : decode cX11_season 112 = .ok (.goto 4, 3) := by decide +kernel
theorem dX11_season_115 : decode cX11_season 115 = .ok (.iconst 0, 1) := by decide +kernel
theorem dX11_season_116 : decode cX11_season 116 = .ok (.ior, 1) := by decide +kernel
theorem dX11_season_117 : decode cX11_season 117 = .ok (.istore 5, 2) := by decide +kernel
theorem dX11_season_119 : decode cX11_season 119 = .ok (.goto 57, 3) := by decide +kernel
theorem dX11_season_122 : decode cX11_season 122 = .ok (.iload_n 3, 1) := by decide +kernel
theorem dX11_season_123 : decode cX11_season 123 = .ok (.invokestatic 295, 3) := by decide +kernel
theorem dX11_season_126 : decode cX11_season 126 = .ok (.istore_n 3, 1) := by decide +kernel
theorem dX11_season_127 : decode cX11_season 127 = .ok (.aload_n 0, 1) := by decide +kernel
theorem dX11_season_128 : decode cX11_season 128 = .ok (.iload_n 3, 1) := by decide +kernel
theorem dX11_season_129 : decode cX11_season 129 = .ok (.bipush 16, 2) := by decide +kernel
theorem dX11_season_131 : decode cX11_season 131 = .ok (.iushr, 1) := by decide +kernel
theorem dX11_season_132 : decode cX11_season 132 = .ok (.aload_n 0, 1) := by decide +kernel
theorem dX11_season_133 : decode cX11_season 133 = .ok (.getfield 29, 3) := by decide +kernel
theorem dX11_season_136 : decode cX11_season 136 = .ok (.getfield 216, 3) := by decide +kernel
theorem dX11_season_139 : decode cX11_season 139 = .ok (.irem, 1) := by decide +kernel
theorem dX11_season_140 : decode cX11_season 140 = .ok (.invokevirtual 268, 3) := by decide +kernel
theorem dX11_season_143 : decode cX11_season 143 = .ok (.iconst (-1), 1) := by decide +kernel
theorem dX11_season_144 : decode cX11_season 144 = .ok (.if_icmp .eq 7, 3) := by decide +kernel
theorem dX11_season_147 : decode cX11_season 147 = .ok (.iconst 1, 1) := by decide +kernel
theorem dX11_season_148 : decode cX11_season 148 = .ok (.goto 4, 3) := by decide +kernel
theorem dX11_season_151 : decode cX11_season 151 = .ok (.iconst 0, 1) := by decide +kernel
theorem dX11_season_152 : decode cX11_season 152 = .ok (.istore 8, 2) := by decide +kernel
theorem dX11_season_154 : decode cX11_season 154 = .ok (.iload 5, 2) := by decide +kernel
theorem dX11_season_156 : decode cX11_season 156 = .ok (.iload 8, 2) := by decide +kernel
theorem dX11_season_158 : decode cX11_season 158 = .ok (.ior, 1) := by decide +kernel
theorem dX11_season_159 : decode cX11_season 159 = .ok (.istore 5, 2) := by decide +kernel
theorem dX11_season_161 : decode cX11_season 161 = .ok (.iload 4, 2) := by decide +kernel
theorem dX11_season_163 : decode cX11_season 163 = .ok (.iload 8, 2) := by decide +kernel
theorem dX11_season_165 : decode cX11_season 165 = .ok (.ifCond .eq 7, 3) := by decide +kernel
theorem dX11_season_168 : decode cX11_season 168 = .ok (.iconst 1, 1) := by decide +kernel
theorem dX11_season_169 : decode cX11_season 169 = .ok (.goto 4, 3) := by decide +kernel
theorem dX11_season_172 : decode cX11_season 172 = .ok (.iconst 0, 1) := by decide +kernel
theorem dX11_season_173 : decode cX11_season 173 = .ok (.iadd, 1) := by decide +kernel
theorem dX11_season_174 : decode cX11_season 174 = .ok (.istore 4, 2) := by decide +kernel
theorem dX11_season_176 : decode cX11_season 176 = .ok (.iinc 6 1, 3) := by decide +kernel
theorem dX11_season_179 : decode cX11_season 179 = .ok (.goto (-130), 3) := by decide +kernel
theorem dX11_season_182 : decode cX11_season 182 = .ok (.iload 5, 2) := by decide +kernel
theorem dX11_season_184 : decode cX11_season 184 = .ok (.ifCond .eq 7, 3) := by decide +kernel
theorem dX11_season_187 : decode cX11_season 187 = .ok (.aload_n 0, 1) := by decide +kernel
theorem dX11_season_188 : decode cX11_season 188 = .ok (.invokevirtual 256, 3) := by decide +kernel
theorem dX11_season_191 : decode cX11_season 191 = .ok (.iload 4, 2) := by decide +kernel
theorem dX11_season_193 : decode cX11_season 193 = .ok (.ireturn, 1) := by decide +kernel
theorem dX11_toldSet_0 : decode cX11_toldSet 0 = .ok (.iconst 0, 1) := by decide +kernel
theorem dX11_toldSet_1 : decode cX11_toldSet 1 = .ok (.istore_n 2, 1) := by decide +kernel
theorem dX11_toldSet_2 : decode cX11_toldSet 2 = .ok (.iconst 1, 1) := by decide +kernel
theorem dX11_toldSet_3 : decode cX11_toldSet 3 = .ok (.istore_n 3, 1) := by decide +kernel
theorem dX11_toldSet_4 : decode cX11_toldSet 4 = .ok (.iload_n 3, 1) := by decide +kernel
theorem dX11_toldSet_5 : decode cX11_toldSet 5 = .ok (.aload_n 1, 1) := by decide +kernel
theorem dX11_toldSet_6 : decode cX11_toldSet 6 = .ok (.getfield 259, 3) := by decide +kernel
theorem dX11_toldSet_9 : decode cX11_toldSet 9 = .ok (.if_icmp .ge 20, 3) := by decide +kernel
theorem dX11_toldSet_12 : decode cX11_toldSet 12 = .ok (.iload_n 2, 1) := by decide +kernel
theorem dX11_toldSet_13 : decode cX11_toldSet 13 = .ok (.iconst 1, 1) := by decide +kernel
theorem dX11_toldSet_14 : decode cX11_toldSet 14 = .ok (.aload_n 1, 1) := by decide +kernel
theorem dX11_toldSet_15 : decode cX11_toldSet 15 = .ok (.iload_n 3, 1) := by decide +kernel
theorem dX11_toldSet_16 : decode cX11_toldSet 16 = .ok (.invokevirtual 248, 3) := by decide +kernel
theorem dX11_toldSet_19 : decode cX11_toldSet 19 = .ok (.l2i, 1) := by decide +kernel
theorem dX11_toldSet_20 : decode cX11_toldSet 20 = .ok (.ishl, 1) := by decide +kernel
theorem dX11_toldSet_21 : decode cX11_toldSet 21 = .ok (.ior, 1) := by decide +kernel
theorem dX11_toldSet_22 : decode cX11_toldSet 22 = .ok (.istore_n 2, 1) := by decide +kernel
theorem dX11_toldSet_23 : decode cX11_toldSet 23 = .ok (.iinc 3 1, 3) := by decide +kernel
theorem dX11_toldSet_26 : decode cX11_toldSet 26 = .ok (.goto (-22), 3) := by decide +kernel
theorem dX11_toldSet_29 : decode cX11_toldSet 29 = .ok (.iload_n 2, 1) := by decide +kernel
theorem dX11_toldSet_30 : decode cX11_toldSet 30 = .ok (.aload_n 0, 1) := by decide +kernel
theorem dX11_toldSet_31 : decode cX11_toldSet 31 = .ok (.getfield 29, 3) := by decide +kernel
theorem dX11_toldSet_34 : decode cX11_toldSet 34 = .ok (.invokevirtual 265, 3) := by decide +kernel
theorem dX11_toldSet_37 : decode cX11_toldSet 37 = .ok (.iand, 1) := by decide +kernel
theorem dX11_toldSet_38 : decode cX11_toldSet 38 = .ok (.ireturn, 1) := by decide +kernel
theorem dX11_undo_0 : decode cX11_undo 0 = .ok (.iload_n 1, 1) := by decide +kernel
theorem dX11_undo_1 : decode cX11_undo 1 = .ok (.iconst 1, 1) := by decide +kernel
theorem dX11_undo_2 : decode cX11_undo 2 = .ok (.if_icmp .lt 11, 3) := by decide +kernel
theorem dX11_undo_5 : decode cX11_undo 5 = .ok (.iload_n 1, 1) := by decide +kernel
theorem dX11_undo_6 : decode cX11_undo 6 = .ok (.aload_n 0, 1) := by decide +kernel
theorem dX11_undo_7 : decode cX11_undo 7 = .ok (.getfield 47, 3) := by decide +kernel
theorem dX11_undo_10 : decode cX11_undo 10 = .ok (.if_icmp .le 6, 3) := by decide +kernel
theorem dX11_undo_13 : decode cX11_undo 13 = .ok (.bipush (-3), 2) := by decide +kernel
theorem dX11_undo_15 : decode cX11_undo 15 = .ok (.ireturn, 1) := by decide +kernel
theorem dX11_undo_16 : decode cX11_undo 16 = .ok (.aload_n 0, 1) := by decide +kernel
theorem dX11_undo_17 : decode cX11_undo 17 = .ok (.aload_n 0, 1) := by decide +kernel
theorem dX11_undo_18 : decode cX11_undo 18 = .ok (.getfield 50, 3) := by decide +kernel
theorem dX11_undo_21 : decode cX11_undo 21 = .ok (.iload_n 1, 1) := by decide +kernel
theorem dX11_undo_22 : decode cX11_undo 22 = .ok (.isub, 1) := by decide +kernel
theorem dX11_undo_23 : decode cX11_undo 23 = .ok (.bipush 10, 2) := by decide +kernel
theorem dX11_undo_25 : decode cX11_undo 25 = .ok (.invokestatic 287, 3) := by decide +kernel
theorem dX11_undo_28 : decode cX11_undo 28 = .ok (.putfield 50, 3) := by decide +kernel
theorem dX11_undo_31 : decode cX11_undo 31 = .ok (.aload_n 0, 1) := by decide +kernel
theorem dX11_undo_32 : decode cX11_undo 32 = .ok (.dup, 1) := by decide +kernel
theorem dX11_undo_33 : decode cX11_undo 33 = .ok (.getfield 47, 3) := by decide +kernel
theorem dX11_undo_36 : decode cX11_undo 36 = .ok (.iload_n 1, 1) := by decide +kernel
theorem dX11_undo_37 : decode cX11_undo 37 = .ok (.isub, 1) := by decide +kernel
theorem dX11_undo_38 : decode cX11_undo 38 = .ok (.putfield 47, 3) := by decide +kernel
theorem dX11_undo_41 : decode cX11_undo 41 = .ok (.aload_n 0, 1) := by decide +kernel
theorem dX11_undo_42 : decode cX11_undo 42 = .ok (.getfield 36, 3) := by decide +kernel
theorem dX11_undo_45 : decode cX11_undo 45 = .ok (.aload_n 0, 1) := by decide +kernel
theorem dX11_undo_46 : decode cX11_undo 46 = .ok (.getfield 43, 3) := by decide +kernel
theorem dX11_undo_49 : decode cX11_undo 49 = .ok (.aload_n 0, 1) := by decide +kernel
theorem dX11_undo_50 : decode cX11_undo 50 = .ok (.getfield 50, 3) := by decide +kernel
theorem dX11_undo_53 : decode cX11_undo 53 = .ok (.aaload, 1) := by decide +kernel
theorem dX11_undo_54 : decode cX11_undo 54 = .ok (.invokevirtual 135, 3) := by decide +kernel
theorem dX11_undo_57 : decode cX11_undo 57 = .ok (.aload_n 0, 1) := by decide +kernel
theorem dX11_undo_58 : decode cX11_undo 58 = .ok (.getfield 47, 3) := by decide +kernel
theorem dX11_undo_61 : decode cX11_undo 61 = .ok (.ireturn, 1) := by decide +kernel
theorem dX11_verdictOn_0 : decode cX11_verdictOn 0 = .ok (.aload_n 1, 1) := by decide +kernel
theorem dX11_verdictOn_1 : decode cX11_verdictOn 1 = .ok (.iconst 0, 1) := by decide +kernel
theorem dX11_verdictOn_2 : decode cX11_verdictOn 2 = .ok (.invokevirtual 248, 3) := by decide +kernel
theorem dX11_verdictOn_5 : decode cX11_verdictOn 5 = .ok (.lstore_n 2, 1) := by decide +kernel
theorem dX11_verdictOn_6 : decode cX11_verdictOn 6 = .ok (.aload_n 1, 1) := by decide +kernel
theorem dX11_verdictOn_7 : decode cX11_verdictOn 7 = .ok (.getfield 259, 3) := by decide +kernel
theorem dX11_verdictOn_10 : decode cX11_verdictOn 10 = .ok (.ifCond .eq 22, 3) := by decide +kernel
theorem dX11_verdictOn_13 : decode cX11_verdictOn 13 = .ok (.lload_n 2, 1) := by decide +kernel
theorem dX11_verdictOn_14 : decode cX11_verdictOn 14 = .ok (.lconst 0, 1) := by decide +kernel
theorem dX11_verdictOn_15 : decode cX11_verdictOn 15 = .ok (.lcmp, 1) := by decide +kernel
theorem dX11_verdictOn_16 : decode cX11_verdictOn 16 = .ok (.ifCond .lt 16, 3) := by decide +kernel
theorem dX11_verdictOn_19 : decode cX11_verdictOn 19 = .ok (.lload_n 2, 1) := by decide +kernel
theorem dX11_verdictOn_20 : decode cX11_verdictOn 20 = .ok (.aload_n 0, 1) := by decide +kernel
theorem dX11_verdictOn_21 : decode cX11_verdictOn 21 = .ok (.getfield 29, 3) := by decide +kernel
theorem dX11_verdictOn_24 : decode cX11_verdictOn 24 = .ok (.getfield 216, 3) := by decide +kernel
theorem dX11_verdictOn_27 : decode cX11_verdictOn 27 = .ok (.i2l, 1) := by decide +kernel
theorem dX11_verdictOn_28 : decode cX11_verdictOn 28 = .ok (.lcmp, 1) := by decide +kernel
theorem dX11_verdictOn_29 : decode cX11_verdictOn 29 = .ok (.ifCond .lt 5, 3) := by decide +kernel
theorem dX11_verdictOn_32 : decode cX11_verdictOn 32 = .ok (.iconst 1, 1) := by decide +kernel
theorem dX11_verdictOn_33 : decode cX11_verdictOn 33 = .ok (.ireturn, 1) := by decide +kernel
theorem dX11_verdictOn_34 : decode cX11_verdictOn 34 = .ok (.aload_n 0, 1) := by decide +kernel
theorem dX11_verdictOn_35 : decode cX11_verdictOn 35 = .ok (.lload_n 2, 1) := by decide +kernel
theorem dX11_verdictOn_36 : decode cX11_verdictOn 36 = .ok (.l2i, 1) := by decide +kernel
theorem dX11_verdictOn_37 : decode cX11_verdictOn 37 = .ok (.invokevirtual 202, 3) := by decide +kernel
theorem dX11_verdictOn_40 : decode cX11_verdictOn 40 = .ok (.astore 4, 2) := by decide +kernel
theorem dX11_verdictOn_42 : decode cX11_verdictOn 42 = .ok (.aload_n 0, 1) := by decide +kernel
theorem dX11_verdictOn_43 : decode cX11_verdictOn 43 = .ok (.invokevirtual 206, 3) := by decide +kernel
theorem dX11_verdictOn_46 : decode cX11_verdictOn 46 = .ok (.istore 5, 2) := by decide +kernel
theorem dX11_verdictOn_48 : decode cX11_verdictOn 48 = .ok (.iconst 0, 1) := by decide +kernel
theorem dX11_verdictOn_49 : decode cX11_verdictOn 49 = .ok (.istore 6, 2) := by decide +kernel
theorem dX11_verdictOn_51 : decode cX11_verdictOn 51 = .ok (.iconst (-1), 1) := by decide +kernel
theorem dX11_verdictOn_52 : decode cX11_verdictOn 52 = .ok (.istore 7, 2) := by decide +kernel
theorem dX11_verdictOn_54 : decode cX11_verdictOn 54 = .ok (.iconst 1, 1) := by decide +kernel
theorem dX11_verdictOn_55 : decode cX11_verdictOn 55 = .ok (.istore 8, 2) := by decide +kernel
theorem dX11_verdictOn_57 : decode cX11_verdictOn 57 = .ok (.iload 8, 2) := by decide +kernel
theorem dX11_verdictOn_59 : decode cX11_verdictOn 59 = .ok (.aload_n 1, 1) := by decide +kernel
theorem dX11_verdictOn_60 : decode cX11_verdictOn 60 = .ok (.getfield 259, 3) := by decide +kernel
theorem dX11_verdictOn_63 : decode cX11_verdictOn 63 = .ok (.if_icmp .ge 153, 3) := by decide +kernel
theorem dX11_verdictOn_66 : decode cX11_verdictOn 66 = .ok (.aload_n 1, 1) := by decide +kernel
theorem dX11_verdictOn_67 : decode cX11_verdictOn 67 = .ok (.iload 8, 2) := by decide +kernel
theorem dX11_verdictOn_69 : decode cX11_verdictOn 69 = .ok (.invokevirtual 248, 3) := by decide +kernel
theorem dX11_verdictOn_72 : decode cX11_verdictOn 72 = .ok (.lstore 9, 2) := by decide +kernel
theorem dX11_verdictOn_74 : decode cX11_verdictOn 74 = .ok (.lload 9, 2) := by decide +kernel
theorem dX11_verdictOn_76 : decode cX11_verdictOn 76 = .ok (.lconst 0, 1) := by decide +kernel
theorem dX11_verdictOn_77 : decode cX11_verdictOn 77 = .ok (.lcmp, 1) := by decide +kernel
theorem dX11_verdictOn_78 : decode cX11_verdictOn 78 = .ok (.ifCond .lt 17, 3) := by decide +kernel
theorem dX11_verdictOn_81 : decode cX11_verdictOn 81 = .ok (.lload 9, 2) := by decide +kernel
theorem dX11_verdictOn_83 : decode cX11_verdictOn 83 = .ok (.aload_n 0, 1) := by decide +kernel
theorem dX11_verdictOn_84 : decode cX11_verdictOn 84 = .ok (.getfield 29, 3) := by decide +kernel
theorem dX11_verdictOn_87 : decode cX11_verdictOn 87 = .ok (.getfield 213, 3) := by decide +kernel
theorem dX11_verdictOn_90 : decode cX11_verdictOn 90 = .ok (.i2l, 1) := by decide +kernel
theorem dX11_verdictOn_91 : decode cX11_verdictOn 91 = .ok (.lcmp, 1) := by decide +kernel
theorem dX11_verdictOn_92 : decode cX11_verdictOn 92 = .ok (.ifCond .lt 11, 3) := by decide +kernel
theorem dX11_verdictOn_95 : decode cX11_verdictOn 95 = .ok (.iload 8, 2) := by decide +kernel
theorem dX11_verdictOn_97 : decode cX11_verdictOn 97 = .ok (.bipush 8, 2) := by decide +kernel
theorem dX11_verdictOn_99 : decode cX11_verdictOn 99 = .ok (.imul, 1) := by decide +kernel
theorem dX11_verdictOn_100 : decode cX11_verdictOn 100 = .ok (.iconst 1, 1) := by decide +kernel
theorem dX11_verdictOn_101 : decode cX11_verdictOn 101 = .ok (.iadd, 1) := by decide +kernel
theorem dX11_verdictOn_102 : decode cX11_verdictOn 102 = .ok (.ireturn, 1) := by decide +kernel
theorem dX11_verdictOn_103 : decode cX11_verdictOn 103 = .ok (.lload 9, 2) := by decide +kernel
theorem dX11_verdictOn_105 : decode cX11_verdictOn 105 = .ok (.l2i, 1) := by decide +kernel
theorem dX11_verdictOn_106 : decode cX11_verdictOn 106 = .ok (.istore 11, 2) := by decide +kernel
theorem dX11_verdictOn_108 : decode cX11_verdictOn 108 = .ok (.iload 5, 2) := by decide +kernel
theorem dX11_verdictOn_110 : decode cX11_verdictOn 110 = .ok (.iload 6, 2) := by decide +kernel
theorem dX11_verdictOn_112 : decode cX11_verdictOn 112 = .ok (.iconst (-1), 1) := by decide +kernel
theorem dX11_verdictOn_113 : decode cX11_verdictOn 113 = .ok (.ixor, 1) := by decide +kernel
theorem dX11_verdictOn_114 : decode cX11_verdictOn 114 = .ok (.iand, 1) := by decide +kernel
theorem dX11_verdictOn_115 : decode cX11_verdictOn 115 = .ok (.iload 11, 2) := by decide +kernel
theorem dX11_verdictOn_117 : decode cX11_verdictOn 117 = .ok (.ishr, 1) := by decide +kernel
theorem dX11_verdictOn_118 : decode cX11_verdictOn 118 = .ok (.iconst 1, 1) := by decide +kernel
theorem dX11_verdictOn_119 : decode cX11_verdictOn 119 = .ok (.iand, 1) := by decide +kernel
theorem dX11_verdictOn_120 : decode cX11_verdictOn 120 = .ok (.ifCond .ne 11, 3) := by decide +kernel
theorem dX11_verdictOn_123 : decode cX11_verdictOn 123 = .ok (.iload 8, 2) := by decide +kernel
theorem dX11_verdictOn_125 : decode cX11_verdictOn 125 = .ok (.bipush 8, 2) := by decide +kernel
theorem dX11_verdictOn_127 : decode cX11_verdictOn 127 = .ok (.imul, 1) := by decide +kernel
theorem dX11_verdictOn_128 : decode cX11_verdictOn 128 = .ok (.iconst 2, 1) := by decide +kernel
theorem dX11_verdictOn_129 : decode cX11_verdictOn 129 = .ok (.iadd, 1) := by decide +kernel
theorem dX11_verdictOn_130 : decode cX11_verdictOn 130 = .ok (.ireturn, 1) := by decide +kernel
theorem dX11_verdictOn_131 : decode cX11_verdictOn 131 = .ok (.iload 7, 2) := by decide +kernel
theorem dX11_verdictOn_133 : decode cX11_verdictOn 133 = .ok (.iconst (-1), 1) := by decide +kernel
theorem dX11_verdictOn_134 : decode cX11_verdictOn 134 = .ok (.if_icmp .ne 13, 3) := by decide +kernel
theorem dX11_verdictOn_137 : decode cX11_verdictOn 137 = .ok (.aload_n 0, 1) := by decide +kernel
theorem dX11_verdictOn_138 : decode cX11_verdictOn 138 = .ok (.getfield 29, 3) := by decide +kernel
theorem dX11_verdictOn_141 : decode cX11_verdictOn 141 = .ok (.getfield 155, 3) := by decide +kernel
theorem dX11_verdictOn_144 : decode cX11_verdictOn 144 = .ok (.goto 33, 3) := by decide +kernel
theorem dX11_verdictOn_147 : decode cX11_verdictOn 147 = .ok (.aload_n 0, 1) := by decide +kernel
theorem dX11_verdictOn_148 : decode cX11_verdictOn 148 = .ok (.getfield 29, 3) := by decide +kernel
theorem dX11_verdictOn_151 : decode cX11_verdictOn 151 = .ok (.getfield 158, 3) := by decide +kernel
theorem dX11_verdictOn_154 : decode cX11_verdictOn 154 = .ok (.iload 7, 2) := by decide +kernel
theorem dX11_verdictOn_156 : decode cX11_verdictOn 156 = .ok (.ishr, 1) := by decide +kernel
theorem dX11_verdictOn_157 : decode cX11_verdictOn 157 = .ok (.iconst 1, 1) := by decide +kernel
theorem dX11_verdictOn_158 : decode cX11_verdictOn 158 = .ok (.iand, 1) := by decide +kernel
theorem dX11_verdictOn_159 : decode cX11_verdictOn 159 = .ok (.ifCond .eq 7, 3) := by decide +kernel
theorem dX11_verdictOn_162 : decode cX11_verdictOn 162 = .ok (.iconst 0, 1) := by decide +kernel
theorem dX11_verdictOn_163 : decode cX11_verdictOn 163 = .ok (.goto 14, 3) := by decide +kernel
theorem dX11_verdictOn_166 : decode cX11_verdictOn 166 = .ok (.aload 4, 2) := by decide +kernel
theorem dX11_verdictOn_168 : decode cX11_verdictOn 168 = .ok (.iload 7, 2) := by decide +kernel
theorem dX11_verdictOn_170 : decode cX11_verdictOn 170 = .ok (.iconst 1, 1) := by decide +kernel
theorem dX11_verdictOn_171 : decode cX11_verdictOn 171 = .ok (.iload 11, 2) := by decide +kernel
theorem dX11_verdictOn_173 : decode cX11_verdictOn 173 = .ok (.ishl, 1) := by decide +kernel
theorem dX11_verdictOn_174 : decode cX11_verdictOn 174 = .ok (.invokevirtual 262, 3) := by decide +kernel
theorem dX11_verdictOn_177 : decode cX11_verdictOn 177 = .ok (.istore 12, 2) := by decide +kernel
theorem dX11_verdictOn_179 : decode cX11_verdictOn 179 = .ok (.iload 12, 2) := by decide +kernel
theorem dX11_verdictOn_181 : decode cX11_verdictOn 181 = .ok (.iload 11, 2) := by decide +kernel
theorem dX11_verdictOn_183 : decode cX11_verdictOn 183 = .ok (.ishr, 1) := by decide +kernel
theorem dX11_verdictOn_184 : decode cX11_verdictOn 184 = .ok (.iconst 1, 1) := by decide +kernel
theorem dX11_verdictOn_185 : decode cX11_verdictOn 185 = .ok (.iand, 1) := by decide +kernel
theorem dX11_verdictOn_186 : decode cX11_verdictOn 186 = .ok (.ifCond .ne 11, 3) := by decide +kernel
theorem dX11_verdictOn_189 : decode cX11_verdictOn 189 = .ok (.iload 8, 2) := by decide +kernel
theorem dX11_verdictOn_191 : decode cX11_verdictOn 191 = .ok (.bipush 8, 2) := by decide +kernel
theorem dX11_verdictOn_193 : decode cX11_verdictOn 193 = .ok (.imul, 1) := by decide +kernel
theorem dX11_verdictOn_194 : decode cX11_verdictOn 194 = .ok (.iconst 3, 1) := by decide +kernel
theorem dX11_verdictOn_195 : decode cX11_verdictOn 195 = .ok (.iadd, 1) := by decide +kernel
theorem dX11_verdictOn_196 : decode cX11_verdictOn 196 = .ok (.ireturn, 1) := by decide +kernel
theorem dX11_verdictOn_197 : decode cX11_verdictOn 197 = .ok (.iload 6, 2) := by decide +kernel
theorem dX11_verdictOn_199 : decode cX11_verdictOn 199 = .ok (.iconst 1, 1) := by decide +kernel
theorem dX11_verdictOn_200 : decode cX11_verdictOn 200 = .ok (.iload 11, 2) := by decide +kernel
theorem dX11_verdictOn_202 : decode cX11_verdictOn 202 = .ok (.ishl, 1) := by decide +kernel
theorem dX11_verdictOn_203 : decode cX11_verdictOn 203 = .ok (.ior, 1) := by decide +kernel
theorem dX11_verdictOn_204 : decode cX11_verdictOn 204 = .ok (.istore 6, 2) := by decide +kernel
theorem dX11_verdictOn_206 : decode cX11_verdictOn 206 = .ok (.iload 11, 2) := by decide +kernel
theorem dX11_verdictOn_208 : decode cX11_verdictOn 208 = .ok (.istore 7, 2) := by decide +kernel
theorem dX11_verdictOn_210 : decode cX11_verdictOn 210 = .ok (.iinc 8 1, 3) := by decide +kernel
theorem dX11_verdictOn_213 : decode cX11_verdictOn 213 = .ok (.goto (-156), 3) := by decide +kernel
theorem dX11_verdictOn_216 : decode cX11_verdictOn 216 = .ok (.iload 7, 2) := by decide +kernel
theorem dX11_verdictOn_218 : decode cX11_verdictOn 218 = .ok (.iconst (-1), 1) := by decide +kernel
theorem dX11_verdictOn_219 : decode cX11_verdictOn 219 = .ok (.if_icmp .eq 22, 3) := by decide +kernel
theorem dX11_verdictOn_222 : decode cX11_verdictOn 222 = .ok (.aload_n 0, 1) := by decide +kernel
theorem dX11_verdictOn_223 : decode cX11_verdictOn 223 = .ok (.getfield 29, 3) := by decide +kernel
theorem dX11_verdictOn_226 : decode cX11_verdictOn 226 = .ok (.getfield 158, 3) := by decide +kernel
theorem dX11_verdictOn_229 : decode cX11_verdictOn 229 = .ok (.iload 7, 2) := by decide +kernel
theorem dX11_verdictOn_231 : decode cX11_verdictOn 231 = .ok (.ishr, 1) := by decide +kernel
theorem dX11_verdictOn_232 : decode cX11_verdictOn 232 = .ok (.iconst 1, 1) := by decide +kernel
theorem dX11_verdictOn_233 : decode cX11_verdictOn 233 = .ok (.iand, 1) := by decide +kernel
theorem dX11_verdictOn_234 : decode cX11_verdictOn 234 = .ok (.ifCond .eq 7, 3) := by decide +kernel
theorem dX11_verdictOn_237 : decode cX11_verdictOn 237 = .ok (.iconst 1, 1) := by decide +kernel
theorem dX11_verdictOn_238 : decode cX11_verdictOn 238 = .ok (.goto 4, 3) := by decide +kernel
theorem dX11_verdictOn_241 : decode cX11_verdictOn 241 = .ok (.iconst 0, 1) := by decide +kernel
theorem dX11_verdictOn_242 : decode cX11_verdictOn 242 = .ok (.istore 8, 2) := by decide +kernel
theorem dX11_verdictOn_244 : decode cX11_verdictOn 244 = .ok (.iload 8, 2) := by decide +kernel
theorem dX11_verdictOn_246 : decode cX11_verdictOn 246 = .ok (.ifCond .eq 7, 3) := by decide +kernel
theorem dX11_verdictOn_249 : decode cX11_verdictOn 249 = .ok (.iconst 0, 1) := by decide +kernel
theorem dX11_verdictOn_250 : decode cX11_verdictOn 250 = .ok (.goto 12, 3) := by decide +kernel
theorem dX11_verdictOn_253 : decode cX11_verdictOn 253 = .ok (.aload_n 1, 1) := by decide +kernel
theorem dX11_verdictOn_254 : decode cX11_verdictOn 254 = .ok (.getfield 259, 3) := by decide +kernel
theorem dX11_verdictOn_257 : decode cX11_verdictOn 257 = .ok (.bipush 8, 2) := by decide +kernel
theorem dX11_verdictOn_259 : decode cX11_verdictOn 259 = .ok (.imul, 1) := by decide +kernel
theorem dX11_verdictOn_260 : decode cX11_verdictOn 260 = .ok (.iconst 4, 1) := by decide +kernel
theorem dX11_verdictOn_261 : decode cX11_verdictOn 261 = .ok (.iadd, 1) := by decide +kernel
theorem dX11_verdictOn_262 : decode cX11_verdictOn 262 = .ok (.ireturn, 1) := by decide +kernel
theorem kw_12 : Cond.initialized "FootholdWall$Tray" ∈ gw := gw_of (tb_of 12 (by decide +kernel)) (by decide +kernel)
theorem kw_193 : Cond.fieldLink "FootholdWall" 284 "FootholdWall$State" "years" "I" ∈ gw := gw_of (tb_of 193 (by decide +kernel)) (by decide +kernel)
theorem kw_352 : Cond.fieldLink "FootholdWall" 259 "FootholdWall$Tray" "size" "I" ∈ gw := gw_of (tb_of 352 (by decide +kernel)) (by decide +kernel)
theorem kw_365 : Cond.fieldLink "FootholdWall" 40 "FootholdWall" "before" "LFootholdWall$State;" ∈ gw := gw_of (tb_of 365 (by decide +kernel)) (by decide +kernel)
theorem kw_366 : Cond.fieldLink "FootholdWall" 43 "FootholdWall" "past" "[LFootholdWall$State;" ∈ gw := gw_of (tb_of 366 (by decide +kernel)) (by decide +kernel)
theorem kw_367 : Cond.fieldLink "FootholdWall" 47 "FootholdWall" "pastCount" "I" ∈ gw := gw_of (tb_of 367 (by decide +kernel)) (by decide +kernel)
theorem kw_368 : Cond.fieldLink "FootholdWall" 50 "FootholdWall" "pastNext" "I" ∈ gw := gw_of (tb_of 368 (by decide +kernel)) (by decide +kernel)
theorem kw_371 : Cond.fieldLink "FootholdWall" 62 "FootholdWall" "trays" "[LFootholdWall$Tray;" ∈ gw := gw_of (tb_of 371 (by decide +kernel)) (by decide +kernel)
theorem kw_374 : Cond.fieldLink "FootholdWall" 82 "FootholdWall" "ways" "LFootholdWall$Ways;" ∈ gw := gw_of (tb_of 374 (by decide +kernel)) (by decide +kernel)
theorem kw_688 : Cond.instanceMethod yX6_use ∈ gw := gw_of (tb_of 688 (by decide +kernel)) (by decide +kernel)
theorem kw_689 : Cond.selects "FootholdWall$State" yX6_use yX6_use ∈ gw := gw_of (tb_of 689 (by decide +kernel)) (by decide +kernel)
theorem kw_690 : Cond.code yX6_use cX6_use 4 (some (.int)) ∈ gw := gw_of (tb_of 690 (by decide +kernel)) (by decide +kernel)
theorem kw_703 : Cond.instanceMethod yX6_breakDown ∈ gw := gw_of (tb_of 703 (by decide +kernel)) (by decide +kernel)
theorem kw_704 : Cond.selects "FootholdWall$State" yX6_breakDown yX6_breakDown ∈ gw := gw_of (tb_of 704 (by decide +kernel)) (by decide +kernel)
theorem kw_705 : Cond.code yX6_breakDown cX6_breakDown 3 (some (.int)) ∈ gw := gw_of (tb_of 705 (by decide +kernel)) (by decide +kernel)
theorem kw_757 : Cond.methodLink "FootholdWall" 135 yX6_take ∈ gw := gw_of (tb_of 757 (by decide +kernel)) (by decide +kernel)
theorem kw_758 : Cond.instanceMethod yX6_take ∈ gw := gw_of (tb_of 758 (by decide +kernel)) (by decide +kernel)
theorem kw_759 : Cond.selects "FootholdWall$State" yX6_take yX6_take ∈ gw := gw_of (tb_of 759 (by decide +kernel)) (by decide +kernel)
theorem kw_760 : Cond.code yX6_take cX6_take 2 none ∈ gw := gw_of (tb_of 760 (by decide +kernel)) (by decide +kernel)
theorem kw_871 : Cond.methodLink "FootholdWall" 229 yX11_isTray ∈ gw := gw_of (tb_of 871 (by decide +kernel)) (by decide +kernel)
theorem kw_872 : Cond.static yX11_isTray ∈ gw := gw_of (tb_of 872 (by decide +kernel)) (by decide +kernel)
theorem kw_873 : Cond.code yX11_isTray cX11_isTray 1 (some (.boolean)) ∈ gw := gw_of (tb_of 873 (by decide +kernel)) (by decide +kernel)
theorem kw_874 : Cond.methodLink "FootholdWall" 232 yX8_isMissing ∈ gw := gw_of (tb_of 874 (by decide +kernel)) (by decide +kernel)
theorem kw_875 : Cond.instanceMethod yX8_isMissing ∈ gw := gw_of (tb_of 875 (by decide +kernel)) (by decide +kernel)
theorem kw_876 : Cond.selects "FootholdWall$Tray" yX8_isMissing yX8_isMissing ∈ gw := gw_of (tb_of 876 (by decide +kernel)) (by decide +kernel)
theorem kw_877 : Cond.code yX8_isMissing cX8_isMissing 1 (some (.boolean)) ∈ gw := gw_of (tb_of 877 (by decide +kernel)) (by decide +kernel)
theorem kw_878 : Cond.methodLink "FootholdWall" 236 yX11_verdictOn ∈ gw := gw_of (tb_of 878 (by decide +kernel)) (by decide +kernel)
theorem kw_880 : Cond.instanceMethod yX11_verdictOn ∈ gw := gw_of (tb_of 880 (by decide +kernel)) (by decide +kernel)
theorem kw_881 : Cond.code yX11_verdictOn cX11_verdictOn 13 (some (.int)) ∈ gw := gw_of (tb_of 881 (by decide +kernel)) (by decide +kernel)
theorem kw_882 : Cond.methodLink "FootholdWall" 248 yX8_at ∈ gw := gw_of (tb_of 882 (by decide +kernel)) (by decide +kernel)
theorem kw_883 : Cond.instanceMethod yX8_at ∈ gw := gw_of (tb_of 883 (by decide +kernel)) (by decide +kernel)
theorem kw_884 : Cond.selects "FootholdWall$Tray" yX8_at yX8_at ∈ gw := gw_of (tb_of 884 (by decide +kernel)) (by decide +kernel)
theorem kw_885 : Cond.code yX8_at cX8_at 2 (some (.long)) ∈ gw := gw_of (tb_of 885 (by decide +kernel)) (by decide +kernel)
theorem kw_887 : Cond.methodLink "FootholdWall" 262 yX5_stepped ∈ gw := gw_of (tb_of 887 (by decide +kernel)) (by decide +kernel)
theorem kw_888 : Cond.methodLink "FootholdWall" 240 yX11_toldSet ∈ gw := gw_of (tb_of 888 (by decide +kernel)) (by decide +kernel)
theorem kw_890 : Cond.instanceMethod yX11_toldSet ∈ gw := gw_of (tb_of 890 (by decide +kernel)) (by decide +kernel)
theorem kw_891 : Cond.code yX11_toldSet cX11_toldSet 4 (some (.int)) ∈ gw := gw_of (tb_of 891 (by decide +kernel)) (by decide +kernel)
theorem kw_892 : Cond.methodLink "FootholdWall" 265 yX9_middles ∈ gw := gw_of (tb_of 892 (by decide +kernel)) (by decide +kernel)
theorem kw_893 : Cond.methodLink "FootholdWall" 243 yJ6_bitCount_0f7a4 ∈ gw := gw_of (tb_of 893 (by decide +kernel)) (by decide +kernel)
theorem kw_898 : Cond.methodLink "FootholdWall" 252 yX6_use ∈ gw := gw_of (tb_of 898 (by decide +kernel)) (by decide +kernel)
theorem kw_899 : Cond.methodLink "FootholdWall" 256 yX11_remember ∈ gw := gw_of (tb_of 899 (by decide +kernel)) (by decide +kernel)
theorem kw_901 : Cond.instanceMethod yX11_remember ∈ gw := gw_of (tb_of 901 (by decide +kernel)) (by decide +kernel)
theorem kw_902 : Cond.code yX11_remember cX11_remember 2 none ∈ gw := gw_of (tb_of 902 (by decide +kernel)) (by decide +kernel)
theorem kw_903 : Cond.methodLink "FootholdWall" 292 Lib.Math.min.name ∈ gw := gw_of (tb_of 903 (by decide +kernel)) (by decide +kernel)
theorem kw_908 : Cond.methodLink "FootholdWall" 268 yX11_goUp ∈ gw := gw_of (tb_of 908 (by decide +kernel)) (by decide +kernel)
theorem kw_910 : Cond.instanceMethod yX11_goUp ∈ gw := gw_of (tb_of 910 (by decide +kernel)) (by decide +kernel)
theorem kw_911 : Cond.code yX11_goUp cX11_goUp 2 (some (.int)) ∈ gw := gw_of (tb_of 911 (by decide +kernel)) (by decide +kernel)
theorem kw_912 : Cond.methodLink "FootholdWall" 271 yX10_find ∈ gw := gw_of (tb_of 912 (by decide +kernel)) (by decide +kernel)
theorem kw_913 : Cond.instanceMethod yX10_find ∈ gw := gw_of (tb_of 913 (by decide +kernel)) (by decide +kernel)
theorem kw_914 : Cond.selects "FootholdWall$Ways" yX10_find yX10_find ∈ gw := gw_of (tb_of 914 (by decide +kernel)) (by decide +kernel)
theorem kw_915 : Cond.code yX10_find cX10_find 6 (some (.int)) ∈ gw := gw_of (tb_of 915 (by decide +kernel)) (by decide +kernel)
theorem kw_926 : Cond.methodLink "FootholdWall" 275 yX10_pathSet ∈ gw := gw_of (tb_of 926 (by decide +kernel)) (by decide +kernel)
theorem kw_927 : Cond.instanceMethod yX10_pathSet ∈ gw := gw_of (tb_of 927 (by decide +kernel)) (by decide +kernel)
theorem kw_928 : Cond.selects "FootholdWall$Ways" yX10_pathSet yX10_pathSet ∈ gw := gw_of (tb_of 928 (by decide +kernel)) (by decide +kernel)
theorem kw_929 : Cond.code yX10_pathSet cX10_pathSet 3 (some (.int)) ∈ gw := gw_of (tb_of 929 (by decide +kernel)) (by decide +kernel)
theorem kw_938 : Cond.methodLink "FootholdWall" 278 yX6_comeBack ∈ gw := gw_of (tb_of 938 (by decide +kernel)) (by decide +kernel)
theorem kw_939 : Cond.instanceMethod yX6_comeBack ∈ gw := gw_of (tb_of 939 (by decide +kernel)) (by decide +kernel)
theorem kw_940 : Cond.selects "FootholdWall$State" yX6_comeBack yX6_comeBack ∈ gw := gw_of (tb_of 940 (by decide +kernel)) (by decide +kernel)
theorem kw_941 : Cond.code yX6_comeBack cX6_comeBack 6 (some (.int)) ∈ gw := gw_of (tb_of 941 (by decide +kernel)) (by decide +kernel)
theorem kw_946 : Cond.methodLink "FootholdWall" 281 yX6_breakDown ∈ gw := gw_of (tb_of 946 (by decide +kernel)) (by decide +kernel)
theorem kw_955 : Cond.methodLink "FootholdWall" 287 yJ9_floorMod_7cf53 ∈ gw := gw_of (tb_of 955 (by decide +kernel)) (by decide +kernel)
theorem kw_956 : Cond.static yJ9_floorMod_7cf53 ∈ gw := gw_of (tb_of 956 (by decide +kernel)) (by decide +kernel)
theorem kw_957 : Cond.code yJ9_floorMod_7cf53 cJ9_floorMod_7cf53 3 (some (.int)) ∈ gw := gw_of (tb_of 957 (by decide +kernel)) (by decide +kernel)
theorem kw_962 : Cond.methodLink "FootholdWall" 295 yX11_drawn ∈ gw := gw_of (tb_of 962 (by decide +kernel)) (by decide +kernel)
theorem kw_963 : Cond.static yX11_drawn ∈ gw := gw_of (tb_of 963 (by decide +kernel)) (by decide +kernel)
theorem kw_964 : Cond.code yX11_drawn cX11_drawn 1 (some (.int)) ∈ gw := gw_of (tb_of 964 (by decide +kernel)) (by decide +kernel)
theorem ks_23 : Cond.selects RX11 yX11_verdictOn yX11_verdictOn ∈ gw := gw_of (pv_of 23 (by decide +kernel)) (by decide +kernel)
theorem ks_24 : Cond.selects RX11 yX11_toldSet yX11_toldSet ∈ gw := gw_of (pv_of 24 (by decide +kernel)) (by decide +kernel)
theorem ks_25 : Cond.selects RX11 yX11_remember yX11_remember ∈ gw := gw_of (pv_of 25 (by decide +kernel)) (by decide +kernel)
theorem ks_26 : Cond.selects RX11 yX11_goUp yX11_goUp ∈ gw := gw_of (pv_of 26 (by decide +kernel)) (by decide +kernel)
