theorem dX5_aim_0 : decode cX5_aim 0 = .ok (.aload_n 1, 1) := by decide +kernel
theorem dX5_aim_1 : decode cX5_aim 1 = .ok (.aload_n 0, 1) := by decide +kernel
theorem dX5_aim_2 : decode cX5_aim 2 = .ok (.getfield 28, 3) := by decide +kernel
theorem dX5_aim_5 : decode cX5_aim 5 = .ok (.if_acmp .ne 46, 3) := by decide +kernel
theorem dX5_aim_8 : decode cX5_aim 8 = .ok (.iload_n 3, 1) := by decide +kernel
theorem dX5_aim_9 : decode cX5_aim 9 = .ok (.aload_n 0, 1) := by decide +kernel
theorem dX5_aim_10 : decode cX5_aim 10 = .ok (.getfield 15, 3) := by decide +kernel
theorem dX5_aim_13 : decode cX5_aim 13 = .ok (.if_icmp .ne 38, 3) := by decide +kernel
theorem dX5_aim_16 : decode cX5_aim 16 = .ok (.iload_n 2, 1) := by decide +kernel
theorem dX5_aim_17 : decode cX5_aim 17 = .ok (.aload_n 0, 1) := by decide +kernel
theorem dX5_aim_18 : decode cX5_aim 18 = .ok (.getfield 9, 3) := by decide +kernel
theorem dX5_aim_21 : decode cX5_aim 21 = .ok (.if_icmp .eq 10, 3) := by decide +kernel
theorem dX5_aim_24 : decode cX5_aim 24 = .ok (.aload_n 1, 1) := by decide +kernel
theorem dX5_aim_25 : decode cX5_aim 25 = .ok (.invokevirtual 32, 3) := by decide +kernel
theorem dX5_aim_28 : decode cX5_aim 28 = .ok (.ifCond .ne 23, 3) := by decide +kernel
theorem dX5_aim_31 : decode cX5_aim 31 = .ok (.iload 4, 2) := by decide +kernel
theorem dX5_aim_33 : decode cX5_aim 33 = .ok (.aload_n 0, 1) := by decide +kernel
theorem dX5_aim_34 : decode cX5_aim 34 = .ok (.getfield 18, 3) := by decide +kernel
theorem dX5_aim_37 : decode cX5_aim 37 = .ok (.if_icmp .eq 10, 3) := by decide +kernel
theorem dX5_aim_40 : decode cX5_aim 40 = .ok (.aload_n 1, 1) := by decide +kernel
theorem dX5_aim_41 : decode cX5_aim 41 = .ok (.invokevirtual 38, 3) := by decide +kernel
theorem dX5_aim_44 : decode cX5_aim 44 = .ok (.ifCond .ne 7, 3) := by decide +kernel
theorem dX5_aim_47 : decode cX5_aim 47 = .ok (.iconst 1, 1) := by decide +kernel
theorem dX5_aim_48 : decode cX5_aim 48 = .ok (.goto 4, 3) := by decide +kernel
theorem dX5_aim_51 : decode cX5_aim 51 = .ok (.iconst 0, 1) := by decide +kernel
theorem dX5_aim_52 : decode cX5_aim 52 = .ok (.istore 5, 2) := by decide +kernel
theorem dX5_aim_54 : decode cX5_aim 54 = .ok (.iload 5, 2) := by decide +kernel
theorem dX5_aim_56 : decode cX5_aim 56 = .ok (.ifCond .ne 38, 3) := by decide +kernel
theorem dX5_aim_59 : decode cX5_aim 59 = .ok (.iconst 0, 1) := by decide +kernel
theorem dX5_aim_60 : decode cX5_aim 60 = .ok (.istore 6, 2) := by decide +kernel
theorem dX5_aim_62 : decode cX5_aim 62 = .ok (.iload 6, 2) := by decide +kernel
theorem dX5_aim_64 : decode cX5_aim 64 = .ok (.bipush 14, 2) := by decide +kernel
theorem dX5_aim_66 : decode cX5_aim 66 = .ok (.if_icmp .ge 28, 3) := by decide +kernel
theorem dX5_aim_69 : decode cX5_aim 69 = .ok (.aload_n 0, 1) := by decide +kernel
theorem dX5_aim_70 : decode cX5_aim 70 = .ok (.getfield 21, 3) := by decide +kernel
theorem dX5_aim_73 : decode cX5_aim 73 = .ok (.iload 6, 2) := by decide +kernel
theorem dX5_aim_75 : decode cX5_aim 75 = .ok (.iconst 1, 1) := by decide +kernel
theorem dX5_aim_76 : decode cX5_aim 76 = .ok (.iload 6, 2) := by decide +kernel
theorem dX5_aim_78 : decode cX5_aim 78 = .ok (.ishl, 1) := by decide +kernel
theorem dX5_aim_79 : decode cX5_aim 79 = .ok (.iastore, 1) := by decide +kernel
theorem dX5_aim_80 : decode cX5_aim 80 = .ok (.aload_n 0, 1) := by decide +kernel
theorem dX5_aim_81 : decode cX5_aim 81 = .ok (.getfield 25, 3) := by decide +kernel
theorem dX5_aim_84 : decode cX5_aim 84 = .ok (.iload 6, 2) := by decide +kernel
theorem dX5_aim_86 : decode cX5_aim 86 = .ok (.iconst 0, 1) := by decide +kernel
theorem dX5_aim_87 : decode cX5_aim 87 = .ok (.iastore, 1) := by decide +kernel
theorem dX5_aim_88 : decode cX5_aim 88 = .ok (.iinc 6 1, 3) := by decide +kernel
theorem dX5_aim_91 : decode cX5_aim 91 = .ok (.goto (-29), 3) := by decide +kernel
theorem dX5_aim_94 : decode cX5_aim 94 = .ok (.aload_n 0, 1) := by decide +kernel
theorem dX5_aim_95 : decode cX5_aim 95 = .ok (.aload_n 1, 1) := by decide +kernel
theorem dX5_aim_96 : decode cX5_aim 96 = .ok (.putfield 28, 3) := by decide +kernel
theorem dX5_aim_99 : decode cX5_aim 99 = .ok (.aload_n 0, 1) := by decide +kernel
theorem dX5_aim_100 : decode cX5_aim 100 = .ok (.iload_n 2, 1) := by decide +kernel
theorem dX5_aim_101 : decode cX5_aim 101 = .ok (.putfield 9, 3) := by decide +kernel
theorem dX5_aim_104 : decode cX5_aim 104 = .ok (.aload_n 0, 1) := by decide +kernel
theorem dX5_aim_105 : decode cX5_aim 105 = .ok (.iload_n 3, 1) := by decide +kernel
theorem dX5_aim_106 : decode cX5_aim 106 = .ok (.putfield 15, 3) := by decide +kernel
theorem dX5_aim_109 : decode cX5_aim 109 = .ok (.aload_n 0, 1) := by decide +kernel
theorem dX5_aim_110 : decode cX5_aim 110 = .ok (.iload 4, 2) := by decide +kernel
theorem dX5_aim_112 : decode cX5_aim 112 = .ok (.putfield 18, 3) := by decide +kernel
theorem dX5_aim_115 : decode cX5_aim 115 = .ok (.return_, 1) := by decide +kernel
theorem dX5_getsUp_0 : decode cX5_getsUp 0 = .ok (.aload_n 0, 1) := by decide +kernel
theorem dX5_getsUp_1 : decode cX5_getsUp 1 = .ok (.aload_n 0, 1) := by decide +kernel
theorem dX5_getsUp_2 : decode cX5_getsUp 2 = .ok (.getfield 28, 3) := by decide +kernel
theorem dX5_getsUp_5 : decode cX5_getsUp 5 = .ok (.getfield 58, 3) := by decide +kernel
theorem dX5_getsUp_8 : decode cX5_getsUp 8 = .ok (.iload_n 1, 1) := by decide +kernel
theorem dX5_getsUp_9 : decode cX5_getsUp 9 = .ok (.iand, 1) := by decide +kernel
theorem dX5_getsUp_10 : decode cX5_getsUp 10 = .ok (.iload_n 1, 1) := by decide +kernel
theorem dX5_getsUp_11 : decode cX5_getsUp 11 = .ok (.aload_n 0, 1) := by decide +kernel
theorem dX5_getsUp_12 : decode cX5_getsUp 12 = .ok (.getfield 28, 3) := by decide +kernel
theorem dX5_getsUp_15 : decode cX5_getsUp 15 = .ok (.getfield 61, 3) := by decide +kernel
theorem dX5_getsUp_18 : decode cX5_getsUp 18 = .ok (.iconst (-1), 1) := by decide +kernel
theorem dX5_getsUp_19 : decode cX5_getsUp 19 = .ok (.ixor, 1) := by decide +kernel
theorem dX5_getsUp_20 : decode cX5_getsUp 20 = .ok (.iand, 1) := by decide +kernel
theorem dX5_getsUp_21 : decode cX5_getsUp 21 = .ok (.iload_n 1, 1) := by decide +kernel
theorem dX5_getsUp_22 : decode cX5_getsUp 22 = .ok (.aload_n 0, 1) := by decide +kernel
theorem dX5_getsUp_23 : decode cX5_getsUp 23 = .ok (.getfield 28, 3) := by decide +kernel
theorem dX5_getsUp_26 : decode cX5_getsUp 26 = .ok (.getfield 61, 3) := by decide +kernel
theorem dX5_getsUp_29 : decode cX5_getsUp 29 = .ok (.invokevirtual 64, 3) := by decide +kernel
theorem dX5_getsUp_32 : decode cX5_getsUp 32 = .ok (.aload_n 0, 1) := by decide +kernel
theorem dX5_getsUp_33 : decode cX5_getsUp 33 = .ok (.getfield 28, 3) := by decide +kernel
theorem dX5_getsUp_36 : decode cX5_getsUp 36 = .ok (.getfield 61, 3) := by decide +kernel
theorem dX5_getsUp_39 : decode cX5_getsUp 39 = .ok (.iand, 1) := by decide +kernel
theorem dX5_getsUp_40 : decode cX5_getsUp 40 = .ok (.ifCond .eq 7, 3) := by decide +kernel
theorem dX5_getsUp_43 : decode cX5_getsUp 43 = .ok (.iconst 1, 1) := by decide +kernel
theorem dX5_getsUp_44 : decode cX5_getsUp 44 = .ok (.goto 4, 3) := by decide +kernel
theorem dX5_getsUp_47 : decode cX5_getsUp 47 = .ok (.iconst 0, 1) := by decide +kernel
theorem dX5_getsUp_48 : decode cX5_getsUp 48 = .ok (.ireturn, 1) := by decide +kernel
theorem dX5_reached_0 : decode cX5_reached 0 = .ok (.aload_n 0, 1) := by decide +kernel
theorem dX5_reached_1 : decode cX5_reached 1 = .ok (.aload_n 0, 1) := by decide +kernel
theorem dX5_reached_2 : decode cX5_reached 2 = .ok (.getfield 28, 3) := by decide +kernel
theorem dX5_reached_5 : decode cX5_reached 5 = .ok (.getfield 58, 3) := by decide +kernel
theorem dX5_reached_8 : decode cX5_reached 8 = .ok (.iload_n 1, 1) := by decide +kernel
theorem dX5_reached_9 : decode cX5_reached 9 = .ok (.iand, 1) := by decide +kernel
theorem dX5_reached_10 : decode cX5_reached 10 = .ok (.iload_n 1, 1) := by decide +kernel
theorem dX5_reached_11 : decode cX5_reached 11 = .ok (.aload_n 0, 1) := by decide +kernel
theorem dX5_reached_12 : decode cX5_reached 12 = .ok (.getfield 28, 3) := by decide +kernel
theorem dX5_reached_15 : decode cX5_reached 15 = .ok (.getfield 61, 3) := by decide +kernel
theorem dX5_reached_18 : decode cX5_reached 18 = .ok (.iconst (-1), 1) := by decide +kernel
theorem dX5_reached_19 : decode cX5_reached 19 = .ok (.ixor, 1) := by decide +kernel
theorem dX5_reached_20 : decode cX5_reached 20 = .ok (.iand, 1) := by decide +kernel
theorem dX5_reached_21 : decode cX5_reached 21 = .ok (.iload_n 1, 1) := by decide +kernel
theorem dX5_reached_22 : decode cX5_reached 22 = .ok (.iconst 0, 1) := by decide +kernel
theorem dX5_reached_23 : decode cX5_reached 23 = .ok (.invokevirtual 64, 3) := by decide +kernel
theorem dX5_reached_26 : decode cX5_reached 26 = .ok (.ireturn, 1) := by decide +kernel
theorem dX5_spread_0 : decode cX5_spread 0 = .ok (.iload_n 1, 1) := by decide +kernel
theorem dX5_spread_1 : decode cX5_spread 1 = .ok (.istore 5, 2) := by decide +kernel
theorem dX5_spread_3 : decode cX5_spread 3 = .ok (.iload_n 1, 1) := by decide +kernel
theorem dX5_spread_4 : decode cX5_spread 4 = .ok (.iload_n 2, 1) := by decide +kernel
theorem dX5_spread_5 : decode cX5_spread 5 = .ok (.iand, 1) := by decide +kernel
theorem dX5_spread_6 : decode cX5_spread 6 = .ok (.istore 6, 2) := by decide +kernel
theorem dX5_spread_8 : decode cX5_spread 8 = .ok (.iconst 0, 1) := by decide +kernel
theorem dX5_spread_9 : decode cX5_spread 9 = .ok (.istore 7, 2) := by decide +kernel
theorem dX5_spread_11 : decode cX5_spread 11 = .ok (.iload 7, 2) := by decide +kernel
theorem dX5_spread_13 : decode cX5_spread 13 = .ok (.bipush 14, 2) := by decide +kernel
theorem dX5_spread_15 : decode cX5_spread 15 = .ok (.if_icmp .ge 60, 3) := by decide +kernel
theorem dX5_spread_18 : decode cX5_spread 18 = .ok (.iload 6, 2) := by decide +kernel
theorem dX5_spread_20 : decode cX5_spread 20 = .ok (.ifCond .eq 55, 3) := by decide +kernel
theorem dX5_spread_23 : decode cX5_spread 23 = .ok (.iload 5, 2) := by decide +kernel
theorem dX5_spread_25 : decode cX5_spread 25 = .ok (.iload 4, 2) := by decide +kernel
theorem dX5_spread_27 : decode cX5_spread 27 = .ok (.iand, 1) := by decide +kernel
theorem dX5_spread_28 : decode cX5_spread 28 = .ok (.ifCond .ne 47, 3) := by decide +kernel
theorem dX5_spread_31 : decode cX5_spread 31 = .ok (.aload_n 0, 1) := by decide +kernel
theorem dX5_spread_32 : decode cX5_spread 32 = .ok (.iload 6, 2) := by decide +kernel
theorem dX5_spread_34 : decode cX5_spread 34 = .ok (.invokestatic 48, 3) := by decide +kernel
theorem dX5_spread_37 : decode cX5_spread 37 = .ok (.iload_n 3, 1) := by decide +kernel
theorem dX5_spread_38 : decode cX5_spread 38 = .ok (.iload 5, 2) := by decide +kernel
theorem dX5_spread_40 : decode cX5_spread 40 = .ok (.iconst (-1), 1) := by decide +kernel
theorem dX5_spread_41 : decode cX5_spread 41 = .ok (.ixor, 1) := by decide +kernel
theorem dX5_spread_42 : decode cX5_spread 42 = .ok (.iand, 1) := by decide +kernel
theorem dX5_spread_43 : decode cX5_spread 43 = .ok (.invokevirtual 54, 3) := by decide +kernel
theorem dX5_spread_46 : decode cX5_spread 46 = .ok (.istore 8, 2) := by decide +kernel
theorem dX5_spread_48 : decode cX5_spread 48 = .ok (.iload 5, 2) := by decide +kernel
theorem dX5_spread_50 : decode cX5_spread 50 = .ok (.iload 8, 2) := by decide +kernel
theorem dX5_spread_52 : decode cX5_spread 52 = .ok (.ior, 1) := by decide +kernel
theorem dX5_spread_53 : decode cX5_spread 53 = .ok (.istore 5, 2) := by decide +kernel
theorem dX5_spread_55 : decode cX5_spread 55 = .ok (.iload 6, 2) := by decide +kernel
theorem dX5_spread_57 : decode cX5_spread 57 = .ok (.iload 6, 2) := by decide +kernel
theorem dX5_spread_59 : decode cX5_spread 59 = .ok (.iconst 1, 1) := by decide +kernel
theorem dX5_spread_60 : decode cX5_spread 60 = .ok (.isub, 1) := by decide +kernel
theorem dX5_spread_61 : decode cX5_spread 61 = .ok (.iand, 1) := by decide +kernel
theorem dX5_spread_62 : decode cX5_spread 62 = .ok (.iload 8, 2) := by decide +kernel
theorem dX5_spread_64 : decode cX5_spread 64 = .ok (.iload_n 2, 1) := by decide +kernel
theorem dX5_spread_65 : decode cX5_spread 65 = .ok (.iand, 1) := by decide +kernel
theorem dX5_spread_66 : decode cX5_spread 66 = .ok (.ior, 1) := by decide +kernel
theorem dX5_spread_67 : decode cX5_spread 67 = .ok (.istore 6, 2) := by decide +kernel
theorem dX5_spread_69 : decode cX5_spread 69 = .ok (.iinc 7 1, 3) := by decide +kernel
theorem dX5_spread_72 : decode cX5_spread 72 = .ok (.goto (-61), 3) := by decide +kernel
theorem dX5_spread_75 : decode cX5_spread 75 = .ok (.iload 5, 2) := by decide +kernel
theorem dX5_spread_77 : decode cX5_spread 77 = .ok (.ireturn, 1) := by decide +kernel
theorem dX5_stepped_0 : decode cX5_stepped 0 = .ok (.iload_n 1, 1) := by decide +kernel
theorem dX5_stepped_1 : decode cX5_stepped 1 = .ok (.ifCond .lt 14, 3) := by decide +kernel
theorem dX5_stepped_4 : decode cX5_stepped 4 = .ok (.iload_n 1, 1) := by decide +kernel
theorem dX5_stepped_5 : decode cX5_stepped 5 = .ok (.aload_n 0, 1) := by decide +kernel
theorem dX5_stepped_6 : decode cX5_stepped 6 = .ok (.getfield 28, 3) := by decide +kernel
theorem dX5_stepped_9 : decode cX5_stepped 9 = .ok (.getfield 41, 3) := by decide +kernel
theorem dX5_stepped_12 : decode cX5_stepped 12 = .ok (.if_icmp .lt 5, 3) := by decide +kernel
theorem dX5_stepped_15 : decode cX5_stepped 15 = .ok (.iconst 0, 1) := by decide +kernel
theorem dX5_stepped_16 : decode cX5_stepped 16 = .ok (.ireturn, 1) := by decide +kernel
theorem dX5_stepped_17 : decode cX5_stepped 17 = .ok (.iload_n 2, 1) := by decide +kernel
theorem dX5_stepped_18 : decode cX5_stepped 18 = .ok (.aload_n 0, 1) := by decide +kernel
theorem dX5_stepped_19 : decode cX5_stepped 19 = .ok (.getfield 21, 3) := by decide +kernel
theorem dX5_stepped_22 : decode cX5_stepped 22 = .ok (.iload_n 1, 1) := by decide +kernel
theorem dX5_stepped_23 : decode cX5_stepped 23 = .ok (.iaload, 1) := by decide +kernel
theorem dX5_stepped_24 : decode cX5_stepped 24 = .ok (.iconst (-1), 1) := by decide +kernel
theorem dX5_stepped_25 : decode cX5_stepped 25 = .ok (.ixor, 1) := by decide +kernel
theorem dX5_stepped_26 : decode cX5_stepped 26 = .ok (.iand, 1) := by decide +kernel
theorem dX5_stepped_27 : decode cX5_stepped 27 = .ok (.istore_n 3, 1) := by decide +kernel
theorem dX5_stepped_28 : decode cX5_stepped 28 = .ok (.iconst 0, 1) := by decide +kernel
theorem dX5_stepped_29 : decode cX5_stepped 29 = .ok (.istore 4, 2) := by decide +kernel
theorem dX5_stepped_31 : decode cX5_stepped 31 = .ok (.iload 4, 2) := by decide +kernel
theorem dX5_stepped_33 : decode cX5_stepped 33 = .ok (.aload_n 0, 1) := by decide +kernel
theorem dX5_stepped_34 : decode cX5_stepped 34 = .ok (.getfield 28, 3) := by decide +kernel
theorem dX5_stepped_37 : decode cX5_stepped 37 = .ok (.getfield 41, 3) := by decide +kernel
theorem dX5_stepped_40 : decode cX5_stepped 40 = .ok (.if_icmp .ge 60, 3) := by decide +kernel
theorem dX5_stepped_43 : decode cX5_stepped 43 = .ok (.iload_n 3, 1) := by decide +kernel
theorem dX5_stepped_44 : decode cX5_stepped 44 = .ok (.ifCond .eq 56, 3) := by decide +kernel
theorem dX5_stepped_47 : decode cX5_stepped 47 = .ok (.iload_n 3, 1) := by decide +kernel
theorem dX5_stepped_48 : decode cX5_stepped 48 = .ok (.iload 4, 2) := by decide +kernel
theorem dX5_stepped_50 : decode cX5_stepped 50 = .ok (.ishr, 1) := by decide +kernel
theorem dX5_stepped_51 : decode cX5_stepped 51 = .ok (.iconst 1, 1) := by decide +kernel
theorem dX5_stepped_52 : decode cX5_stepped 52 = .ok (.iand, 1) := by decide +kernel
theorem dX5_stepped_53 : decode cX5_stepped 53 = .ok (.ifCond .eq 41, 3) := by decide +kernel
theorem dX5_stepped_56 : decode cX5_stepped 56 = .ok (.aload_n 0, 1) := by decide +kernel
theorem dX5_stepped_57 : decode cX5_stepped 57 = .ok (.getfield 28, 3) := by decide +kernel
theorem dX5_stepped_60 : decode cX5_stepped 60 = .ok (.iload_n 1, 1) := by decide +kernel
theorem dX5_stepped_61 : decode cX5_stepped 61 = .ok (.iload 4, 2) := by decide +kernel
theorem dX5_stepped_63 : decode cX5_stepped 63 = .ok (.aload_n 0, 1) := by decide +kernel
theorem dX5_stepped_64 : decode cX5_stepped 64 = .ok (.getfield 9, 3) := by decide +kernel
theorem dX5_stepped_67 : decode cX5_stepped 67 = .ok (.aload_n 0, 1) := by decide +kernel
theorem dX5_stepped_68 : decode cX5_stepped 68 = .ok (.getfield 15, 3) := by decide +kernel
theorem dX5_stepped_71 : decode cX5_stepped 71 = .ok (.aload_n 0, 1) := by decide +kernel
theorem dX5_stepped_72 : decode cX5_stepped 72 = .ok (.getfield 18, 3) := by decide +kernel
theorem dX5_stepped_75 : decode cX5_stepped 75 = .ok (.invokevirtual 44, 3) := by decide +kernel
theorem dX5_stepped_78 : decode cX5_stepped 78 = .ok (.ifCond .eq 16, 3) := by decide +kernel
theorem dX5_stepped_81 : decode cX5_stepped 81 = .ok (.aload_n 0, 1) := by decide +kernel
theorem dX5_stepped_82 : decode cX5_stepped 82 = .ok (.getfield 25, 3) := by decide +kernel
theorem dX5_stepped_85 : decode cX5_stepped 85 = .ok (.iload_n 1, 1) := by decide +kernel
theorem dX5_stepped_86 : decode cX5_stepped 86 = .ok (.dup2, 1) := by decide +kernel
theorem dX5_stepped_87 : decode cX5_stepped 87 = .ok (.iaload, 1) := by decide +kernel
theorem dX5_stepped_88 : decode cX5_stepped 88 = .ok (.iconst 1, 1) := by decide +kernel
theorem dX5_stepped_89 : decode cX5_stepped 89 = .ok (.iload 4, 2) := by decide +kernel
theorem dX5_stepped_91 : decode cX5_stepped 91 = .ok (.ishl, 1) := by decide +kernel
theorem dX5_stepped_92 : decode cX5_stepped 92 = .ok (.ior, 1) := by decide +kernel
theorem dX5_stepped_93 : decode cX5_stepped 93 = .ok (.iastore, 1) := by decide +kernel
theorem dX5_stepped_94 : decode cX5_stepped 94 = .ok (.iinc 4 1, 3) := by decide +kernel
theorem dX5_stepped_97 : decode cX5_stepped 97 = .ok (.goto (-66), 3) := by decide +kernel
theorem dX5_stepped_100 : decode cX5_stepped 100 = .ok (.aload_n 0, 1) := by decide +kernel
theorem dX5_stepped_101 : decode cX5_stepped 101 = .ok (.getfield 21, 3) := by decide +kernel
theorem dX5_stepped_104 : decode cX5_stepped 104 = .ok (.iload_n 1, 1) := by decide +kernel
theorem dX5_stepped_105 : decode cX5_stepped 105 = .ok (.dup2, 1) := by decide +kernel
theorem dX5_stepped_106 : decode cX5_stepped 106 = .ok (.iaload, 1) := by decide +kernel
theorem dX5_stepped_107 : decode cX5_stepped 107 = .ok (.iload_n 3, 1) := by decide +kernel
theorem dX5_stepped_108 : decode cX5_stepped 108 = .ok (.ior, 1) := by decide +kernel
theorem dX5_stepped_109 : decode cX5_stepped 109 = .ok (.iastore, 1) := by decide +kernel
theorem dX5_stepped_110 : decode cX5_stepped 110 = .ok (.aload_n 0, 1) := by decide +kernel
theorem dX5_stepped_111 : decode cX5_stepped 111 = .ok (.getfield 25, 3) := by decide +kernel
theorem dX5_stepped_114 : decode cX5_stepped 114 = .ok (.iload_n 1, 1) := by decide +kernel
theorem dX5_stepped_115 : decode cX5_stepped 115 = .ok (.iaload, 1) := by decide +kernel
theorem dX5_stepped_116 : decode cX5_stepped 116 = .ok (.iload_n 2, 1) := by decide +kernel
theorem dX5_stepped_117 : decode cX5_stepped 117 = .ok (.iand, 1) := by decide +kernel
theorem dX5_stepped_118 : decode cX5_stepped 118 = .ok (.ireturn, 1) := by decide +kernel
theorem kw_5 : Cond.initialized "FootholdWall$Wall" ∈ gw := gw_of (tb_of 5 (by decide +kernel)) (by decide +kernel)
theorem kw_8 : Cond.initialized "FootholdWall$Rows" ∈ gw := gw_of (tb_of 8 (by decide +kernel)) (by decide +kernel)
theorem kw_107 : Cond.fieldLink "FootholdWall$Rows" 41 "FootholdWall$Wall" "holds" "I" ∈ gw := gw_of (tb_of 107 (by decide +kernel)) (by decide +kernel)
theorem kw_120 : Cond.fieldLink "FootholdWall$Rows" 58 "FootholdWall$Wall" "starts" "I" ∈ gw := gw_of (tb_of 120 (by decide +kernel)) (by decide +kernel)
theorem kw_127 : Cond.fieldLink "FootholdWall$Rows" 61 "FootholdWall$Wall" "tops" "I" ∈ gw := gw_of (tb_of 127 (by decide +kernel)) (by decide +kernel)
theorem kw_244 : Cond.fieldLink "FootholdWall$Rows" 28 "FootholdWall$Rows" "wall" "LFootholdWall$Wall;" ∈ gw := gw_of (tb_of 244 (by decide +kernel)) (by decide +kernel)
theorem kw_248 : Cond.fieldLink "FootholdWall$Rows" 9 "FootholdWall$Rows" "leg" "I" ∈ gw := gw_of (tb_of 248 (by decide +kernel)) (by decide +kernel)
theorem kw_249 : Cond.fieldLink "FootholdWall$Rows" 15 "FootholdWall$Rows" "weight" "I" ∈ gw := gw_of (tb_of 249 (by decide +kernel)) (by decide +kernel)
theorem kw_250 : Cond.fieldLink "FootholdWall$Rows" 18 "FootholdWall$Rows" "day" "I" ∈ gw := gw_of (tb_of 250 (by decide +kernel)) (by decide +kernel)
theorem kw_251 : Cond.fieldLink "FootholdWall$Rows" 21 "FootholdWall$Rows" "asked" "[I" ∈ gw := gw_of (tb_of 251 (by decide +kernel)) (by decide +kernel)
theorem kw_252 : Cond.fieldLink "FootholdWall$Rows" 25 "FootholdWall$Rows" "row" "[I" ∈ gw := gw_of (tb_of 252 (by decide +kernel)) (by decide +kernel)
theorem kw_808 : Cond.instanceMethod yX9_mayStep ∈ gw := gw_of (tb_of 808 (by decide +kernel)) (by decide +kernel)
theorem kw_809 : Cond.selects "FootholdWall$Wall" yX9_mayStep yX9_mayStep ∈ gw := gw_of (tb_of 809 (by decide +kernel)) (by decide +kernel)
theorem kw_810 : Cond.code yX9_mayStep cX9_mayStep 10 (some (.boolean)) ∈ gw := gw_of (tb_of 810 (by decide +kernel)) (by decide +kernel)
theorem kw_838 : Cond.methodLink "FootholdWall$Rows" 32 yX9_asksLeg ∈ gw := gw_of (tb_of 838 (by decide +kernel)) (by decide +kernel)
theorem kw_839 : Cond.instanceMethod yX9_asksLeg ∈ gw := gw_of (tb_of 839 (by decide +kernel)) (by decide +kernel)
theorem kw_840 : Cond.selects "FootholdWall$Wall" yX9_asksLeg yX9_asksLeg ∈ gw := gw_of (tb_of 840 (by decide +kernel)) (by decide +kernel)
theorem kw_841 : Cond.code yX9_asksLeg cX9_asksLeg 1 (some (.boolean)) ∈ gw := gw_of (tb_of 841 (by decide +kernel)) (by decide +kernel)
theorem kw_842 : Cond.methodLink "FootholdWall$Rows" 38 yX9_asksDay ∈ gw := gw_of (tb_of 842 (by decide +kernel)) (by decide +kernel)
theorem kw_843 : Cond.instanceMethod yX9_asksDay ∈ gw := gw_of (tb_of 843 (by decide +kernel)) (by decide +kernel)
theorem kw_844 : Cond.selects "FootholdWall$Wall" yX9_asksDay yX9_asksDay ∈ gw := gw_of (tb_of 844 (by decide +kernel)) (by decide +kernel)
theorem kw_845 : Cond.code yX9_asksDay cX9_asksDay 1 (some (.boolean)) ∈ gw := gw_of (tb_of 845 (by decide +kernel)) (by decide +kernel)
theorem kw_854 : Cond.methodLink "FootholdWall$Rows" 64 yX5_spread ∈ gw := gw_of (tb_of 854 (by decide +kernel)) (by decide +kernel)
theorem kw_855 : Cond.instanceMethod yX5_spread ∈ gw := gw_of (tb_of 855 (by decide +kernel)) (by decide +kernel)
theorem kw_856 : Cond.selects "FootholdWall$Rows" yX5_spread yX5_spread ∈ gw := gw_of (tb_of 856 (by decide +kernel)) (by decide +kernel)
theorem kw_857 : Cond.code yX5_spread cX5_spread 9 (some (.int)) ∈ gw := gw_of (tb_of 857 (by decide +kernel)) (by decide +kernel)
theorem kw_858 : Cond.methodLink "FootholdWall$Rows" 48 yJ6_numberOfTrailingZeros_0f7a4 ∈ gw := gw_of (tb_of 858 (by decide +kernel)) (by decide +kernel)
theorem kw_859 : Cond.static yJ6_numberOfTrailingZeros_0f7a4 ∈ gw := gw_of (tb_of 859 (by decide +kernel)) (by decide +kernel)
theorem kw_860 : Cond.code yJ6_numberOfTrailingZeros_0f7a4 cJ6_numberOfTrailingZeros_0f7a4 2 (some (.int)) ∈ gw := gw_of (tb_of 860 (by decide +kernel)) (by decide +kernel)
theorem kw_862 : Cond.methodLink "FootholdWall$Rows" 54 yX5_stepped ∈ gw := gw_of (tb_of 862 (by decide +kernel)) (by decide +kernel)
theorem kw_863 : Cond.instanceMethod yX5_stepped ∈ gw := gw_of (tb_of 863 (by decide +kernel)) (by decide +kernel)
theorem kw_864 : Cond.selects "FootholdWall$Rows" yX5_stepped yX5_stepped ∈ gw := gw_of (tb_of 864 (by decide +kernel)) (by decide +kernel)
theorem kw_865 : Cond.code yX5_stepped cX5_stepped 5 (some (.int)) ∈ gw := gw_of (tb_of 865 (by decide +kernel)) (by decide +kernel)
theorem kw_866 : Cond.methodLink "FootholdWall$Rows" 44 yX9_mayStep ∈ gw := gw_of (tb_of 866 (by decide +kernel)) (by decide +kernel)
