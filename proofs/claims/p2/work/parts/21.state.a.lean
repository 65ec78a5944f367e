theorem dX6_breakDown_0 : decode cX6_breakDown 0 = .ok (.aload_n 0, 1) := by decide +kernel
theorem dX6_breakDown_1 : decode cX6_breakDown 1 = .ok (.getfield 9, 3) := by decide +kernel
theorem dX6_breakDown_4 : decode cX6_breakDown 4 = .ok (.iload_n 1, 1) := by decide +kernel
theorem dX6_breakDown_5 : decode cX6_breakDown 5 = .ok (.ishr, 1) := by decide +kernel
theorem dX6_breakDown_6 : decode cX6_breakDown 6 = .ok (.iconst 1, 1) := by decide +kernel
theorem dX6_breakDown_7 : decode cX6_breakDown 7 = .ok (.iand, 1) := by decide +kernel
theorem dX6_breakDown_8 : decode cX6_breakDown 8 = .ok (.istore_n 2, 1) := by decide +kernel
theorem dX6_breakDown_9 : decode cX6_breakDown 9 = .ok (.aload_n 0, 1) := by decide +kernel
theorem dX6_breakDown_10 : decode cX6_breakDown 10 = .ok (.dup, 1) := by decide +kernel
theorem dX6_breakDown_11 : decode cX6_breakDown 11 = .ok (.getfield 9, 3) := by decide +kernel
theorem dX6_breakDown_14 : decode cX6_breakDown 14 = .ok (.iconst 1, 1) := by decide +kernel
theorem dX6_breakDown_15 : decode cX6_breakDown 15 = .ok (.iload_n 1, 1) := by decide +kernel
theorem dX6_breakDown_16 : decode cX6_breakDown 16 = .ok (.ishl, 1) := by decide +kernel
theorem dX6_breakDown_17 : decode cX6_breakDown 17 = .ok (.iconst (-1), 1) := by decide +kernel
theorem dX6_breakDown_18 : decode cX6_breakDown 18 = .ok (.ixor, 1) := by decide +kernel
theorem dX6_breakDown_19 : decode cX6_breakDown 19 = .ok (.iand, 1) := by decide +kernel
theorem dX6_breakDown_20 : decode cX6_breakDown 20 = .ok (.putfield 9, 3) := by decide +kernel
theorem dX6_breakDown_23 : decode cX6_breakDown 23 = .ok (.aload_n 0, 1) := by decide +kernel
theorem dX6_breakDown_24 : decode cX6_breakDown 24 = .ok (.dup, 1) := by decide +kernel
theorem dX6_breakDown_25 : decode cX6_breakDown 25 = .ok (.getfield 15, 3) := by decide +kernel
theorem dX6_breakDown_28 : decode cX6_breakDown 28 = .ok (.iconst 1, 1) := by decide +kernel
theorem dX6_breakDown_29 : decode cX6_breakDown 29 = .ok (.iload_n 1, 1) := by decide +kernel
theorem dX6_breakDown_30 : decode cX6_breakDown 30 = .ok (.ishl, 1) := by decide +kernel
theorem dX6_breakDown_31 : decode cX6_breakDown 31 = .ok (.ior, 1) := by decide +kernel
theorem dX6_breakDown_32 : decode cX6_breakDown 32 = .ok (.putfield 15, 3) := by decide +kernel
theorem dX6_breakDown_35 : decode cX6_breakDown 35 = .ok (.iload_n 2, 1) := by decide +kernel
theorem dX6_breakDown_36 : decode cX6_breakDown 36 = .ok (.ireturn, 1) := by decide +kernel
theorem dX6_comeBack_0 : decode cX6_comeBack 0 = .ok (.iconst 0, 1) := by decide +kernel
theorem dX6_comeBack_1 : decode cX6_comeBack 1 = .ok (.istore_n 2, 1) := by decide +kernel
theorem dX6_comeBack_2 : decode cX6_comeBack 2 = .ok (.iconst 0, 1) := by decide +kernel
theorem dX6_comeBack_3 : decode cX6_comeBack 3 = .ok (.istore_n 3, 1) := by decide +kernel
theorem dX6_comeBack_4 : decode cX6_comeBack 4 = .ok (.iload_n 3, 1) := by decide +kernel
theorem dX6_comeBack_5 : decode cX6_comeBack 5 = .ok (.iload_n 1, 1) := by decide +kernel
theorem dX6_comeBack_6 : decode cX6_comeBack 6 = .ok (.if_icmp .ge 89, 3) := by decide +kernel
theorem dX6_comeBack_9 : decode cX6_comeBack 9 = .ok (.aload_n 0, 1) := by decide +kernel
theorem dX6_comeBack_10 : decode cX6_comeBack 10 = .ok (.getfield 9, 3) := by decide +kernel
theorem dX6_comeBack_13 : decode cX6_comeBack 13 = .ok (.ifCond .eq 82, 3) := by decide +kernel
theorem dX6_comeBack_16 : decode cX6_comeBack 16 = .ok (.iconst (-1), 1) := by decide +kernel
theorem dX6_comeBack_17 : decode cX6_comeBack 17 = .ok (.istore 4, 2) := by decide +kernel
theorem dX6_comeBack_19 : decode cX6_comeBack 19 = .ok (.iconst 0, 1) := by decide +kernel
theorem dX6_comeBack_20 : decode cX6_comeBack 20 = .ok (.istore 5, 2) := by decide +kernel
theorem dX6_comeBack_22 : decode cX6_comeBack 22 = .ok (.iload 5, 2) := by decide +kernel
theorem dX6_comeBack_24 : decode cX6_comeBack 24 = .ok (.bipush 14, 2) := by decide +kernel
theorem dX6_comeBack_26 : decode cX6_comeBack 26 = .ok (.if_icmp .ge 45, 3) := by decide +kernel
theorem dX6_comeBack_29 : decode cX6_comeBack 29 = .ok (.aload_n 0, 1) := by decide +kernel
theorem dX6_comeBack_30 : decode cX6_comeBack 30 = .ok (.iload 5, 2) := by decide +kernel
theorem dX6_comeBack_32 : decode cX6_comeBack 32 = .ok (.invokevirtual 37, 3) := by decide +kernel
theorem dX6_comeBack_35 : decode cX6_comeBack 35 = .ok (.ifCond .eq 30, 3) := by decide +kernel
theorem dX6_comeBack_38 : decode cX6_comeBack 38 = .ok (.iload 4, 2) := by decide +kernel
theorem dX6_comeBack_40 : decode cX6_comeBack 40 = .ok (.iconst (-1), 1) := by decide +kernel
theorem dX6_comeBack_41 : decode cX6_comeBack 41 = .ok (.if_icmp .eq 20, 3) := by decide +kernel
theorem dX6_comeBack_44 : decode cX6_comeBack 44 = .ok (.aload_n 0, 1) := by decide +kernel
theorem dX6_comeBack_45 : decode cX6_comeBack 45 = .ok (.getfield 28, 3) := by decide +kernel
theorem dX6_comeBack_48 : decode cX6_comeBack 48 = .ok (.iload 5, 2) := by decide +kernel
theorem dX6_comeBack_50 : decode cX6_comeBack 50 = .ok (.iaload, 1) := by decide +kernel
theorem dX6_comeBack_51 : decode cX6_comeBack 51 = .ok (.aload_n 0, 1) := by decide +kernel
theorem dX6_comeBack_52 : decode cX6_comeBack 52 = .ok (.getfield 28, 3) := by decide +kernel
theorem dX6_comeBack_55 : decode cX6_comeBack 55 = .ok (.iload 4, 2) := by decide +kernel
theorem dX6_comeBack_57 : decode cX6_comeBack 57 = .ok (.iaload, 1) := by decide +kernel
theorem dX6_comeBack_58 : decode cX6_comeBack 58 = .ok (.if_icmp .ge 7, 3) := by decide +kernel
theorem dX6_comeBack_61 : decode cX6_comeBack 61 = .ok (.iload 5, 2) := by decide +kernel
theorem dX6_comeBack_63 : decode cX6_comeBack 63 = .ok (.istore 4, 2) := by decide +kernel
theorem dX6_comeBack_65 : decode cX6_comeBack 65 = .ok (.iinc 5 1, 3) := by decide +kernel
theorem dX6_comeBack_68 : decode cX6_comeBack 68 = .ok (.goto (-46), 3) := by decide +kernel
theorem dX6_comeBack_71 : decode cX6_comeBack 71 = .ok (.aload_n 0, 1) := by decide +kernel
theorem dX6_comeBack_72 : decode cX6_comeBack 72 = .ok (.dup, 1) := by decide +kernel
theorem dX6_comeBack_73 : decode cX6_comeBack 73 = .ok (.getfield 9, 3) := by decide +kernel
theorem dX6_comeBack_76 : decode cX6_comeBack 76 = .ok (.iconst 1, 1) := by decide +kernel
theorem dX6_comeBack_77 : decode cX6_comeBack 77 = .ok (.iload 4, 2) := by decide +kernel
theorem dX6_comeBack_79 : decode cX6_comeBack 79 = .ok (.ishl, 1) := by decide +kernel
theorem dX6_comeBack_80 : decode cX6_comeBack 80 = .ok (.iconst (-1), 1) := by decide +kernel
theorem dX6_comeBack_81 : decode cX6_comeBack 81 = .ok (.ixor, 1) := by decide +kernel
theorem dX6_comeBack_82 : decode cX6_comeBack 82 = .ok (.iand, 1) := by decide +kernel
theorem dX6_comeBack_83 : decode cX6_comeBack 83 = .ok (.putfield 9, 3) := by decide +kernel
theorem dX6_comeBack_86 : decode cX6_comeBack 86 = .ok (.iinc 2 1, 3) := by decide +kernel
theorem dX6_comeBack_89 : decode cX6_comeBack 89 = .ok (.iinc 3 1, 3) := by decide +kernel
theorem dX6_comeBack_92 : decode cX6_comeBack 92 = .ok (.goto (-88), 3) := by decide +kernel
theorem dX6_comeBack_95 : decode cX6_comeBack 95 = .ok (.iload_n 2, 1) := by decide +kernel
theorem dX6_comeBack_96 : decode cX6_comeBack 96 = .ok (.ireturn, 1) := by decide +kernel
theorem dX6_forget_0 : decode cX6_forget 0 = .ok (.aload_n 0, 1) := by decide +kernel
theorem dX6_forget_1 : decode cX6_forget 1 = .ok (.iconst 0, 1) := by decide +kernel
theorem dX6_forget_2 : decode cX6_forget 2 = .ok (.putfield 9, 3) := by decide +kernel
theorem dX6_forget_5 : decode cX6_forget 5 = .ok (.aload_n 0, 1) := by decide +kernel
theorem dX6_forget_6 : decode cX6_forget 6 = .ok (.iconst 0, 1) := by decide +kernel
theorem dX6_forget_7 : decode cX6_forget 7 = .ok (.putfield 15, 3) := by decide +kernel
theorem dX6_forget_10 : decode cX6_forget 10 = .ok (.aload_n 0, 1) := by decide +kernel
theorem dX6_forget_11 : decode cX6_forget 11 = .ok (.iconst 0, 1) := by decide +kernel
theorem dX6_forget_12 : decode cX6_forget 12 = .ok (.putfield 18, 3) := by decide +kernel
theorem dX6_forget_15 : decode cX6_forget 15 = .ok (.aload_n 0, 1) := by decide +kernel
theorem dX6_forget_16 : decode cX6_forget 16 = .ok (.iconst 0, 1) := by decide +kernel
theorem dX6_forget_17 : decode cX6_forget 17 = .ok (.putfield 21, 3) := by decide +kernel
theorem dX6_forget_20 : decode cX6_forget 20 = .ok (.return_, 1) := by decide +kernel
theorem dX6_isUsed_0 : decode cX6_isUsed 0 = .ok (.aload_n 0, 1) := by decide +kernel
theorem dX6_isUsed_1 : decode cX6_isUsed 1 = .ok (.getfield 9, 3) := by decide +kernel
theorem dX6_isUsed_4 : decode cX6_isUsed 4 = .ok (.iload_n 1, 1) := by decide +kernel
theorem dX6_isUsed_5 : decode cX6_isUsed 5 = .ok (.ishr, 1) := by decide +kernel
theorem dX6_isUsed_6 : decode cX6_isUsed 6 = .ok (.iconst 1, 1) := by decide +kernel
theorem dX6_isUsed_7 : decode cX6_isUsed 7 = .ok (.iand, 1) := by decide +kernel
theorem dX6_isUsed_8 : decode cX6_isUsed 8 = .ok (.ifCond .eq 7, 3) := by decide +kernel
theorem dX6_isUsed_11 : decode cX6_isUsed 11 = .ok (.iconst 1, 1) := by decide +kernel
theorem dX6_isUsed_12 : decode cX6_isUsed 12 = .ok (.goto 4, 3) := by decide +kernel
theorem dX6_isUsed_15 : decode cX6_isUsed 15 = .ok (.iconst 0, 1) := by decide +kernel
theorem dX6_isUsed_16 : decode cX6_isUsed 16 = .ok (.ireturn, 1) := by decide +kernel
theorem dX6_take_0 : decode cX6_take 0 = .ok (.aload_n 0, 1) := by decide +kernel
theorem dX6_take_1 : decode cX6_take 1 = .ok (.aload_n 1, 1) := by decide +kernel
theorem dX6_take_2 : decode cX6_take 2 = .ok (.getfield 9, 3) := by decide +kernel
theorem dX6_take_5 : decode cX6_take 5 = .ok (.putfield 9, 3) := by decide +kernel
theorem dX6_take_8 : decode cX6_take 8 = .ok (.aload_n 0, 1) := by decide +kernel
theorem dX6_take_9 : decode cX6_take 9 = .ok (.aload_n 1, 1) := by decide +kernel
theorem dX6_take_10 : decode cX6_take 10 = .ok (.getfield 15, 3) := by decide +kernel
theorem dX6_take_13 : decode cX6_take 13 = .ok (.putfield 15, 3) := by decide +kernel
theorem dX6_take_16 : decode cX6_take 16 = .ok (.aload_n 0, 1) := by decide +kernel
theorem dX6_take_17 : decode cX6_take 17 = .ok (.aload_n 1, 1) := by decide +kernel
theorem dX6_take_18 : decode cX6_take 18 = .ok (.getfield 18, 3) := by decide +kernel
theorem dX6_take_21 : decode cX6_take 21 = .ok (.putfield 18, 3) := by decide +kernel
theorem dX6_take_24 : decode cX6_take 24 = .ok (.aload_n 0, 1) := by decide +kernel
theorem dX6_take_25 : decode cX6_take 25 = .ok (.aload_n 1, 1) := by decide +kernel
theorem dX6_take_26 : decode cX6_take 26 = .ok (.getfield 21, 3) := by decide +kernel
theorem dX6_take_29 : decode cX6_take 29 = .ok (.putfield 21, 3) := by decide +kernel
theorem dX6_take_32 : decode cX6_take 32 = .ok (.aload_n 1, 1) := by decide +kernel
theorem dX6_take_33 : decode cX6_take 33 = .ok (.getfield 24, 3) := by decide +kernel
theorem dX6_take_36 : decode cX6_take 36 = .ok (.iconst 0, 1) := by decide +kernel
theorem dX6_take_37 : decode cX6_take 37 = .ok (.aload_n 0, 1) := by decide +kernel
theorem dX6_take_38 : decode cX6_take 38 = .ok (.getfield 24, 3) := by decide +kernel
theorem dX6_take_41 : decode cX6_take 41 = .ok (.iconst 0, 1) := by decide +kernel
theorem dX6_take_42 : decode cX6_take 42 = .ok (.bipush 14, 2) := by decide +kernel
theorem dX6_take_44 : decode cX6_take 44 = .ok (.invokestatic 31, 3) := by decide +kernel
theorem dX6_take_47 : decode cX6_take 47 = .ok (.aload_n 1, 1) := by decide +kernel
theorem dX6_take_48 : decode cX6_take 48 = .ok (.getfield 28, 3) := by decide +kernel
theorem dX6_take_51 : decode cX6_take 51 = .ok (.iconst 0, 1) := by decide +kernel
theorem dX6_take_52 : decode cX6_take 52 = .ok (.aload_n 0, 1) := by decide +kernel
theorem dX6_take_53 : decode cX6_take 53 = .ok (.getfield 28, 3) := by decide +kernel
theorem dX6_take_56 : decode cX6_take 56 = .ok (.iconst 0, 1) := by decide +kernel
theorem dX6_take_57 : decode cX6_take 57 = .ok (.bipush 14, 2) := by decide +kernel
theorem dX6_take_59 : decode cX6_take 59 = .ok (.invokestatic 31, 3) := by decide +kernel
theorem dX6_take_62 : decode cX6_take 62 = .ok (.return_, 1) := by decide +kernel
theorem dX6_use_0 : decode cX6_use 0 = .ok (.iconst 0, 1) := by decide +kernel
theorem dX6_use_1 : decode cX6_use 1 = .ok (.istore_n 3, 1) := by decide +kernel
theorem dX6_use_2 : decode cX6_use 2 = .ok (.iload_n 3, 1) := by decide +kernel
theorem dX6_use_3 : decode cX6_use 3 = .ok (.bipush 14, 2) := by decide +kernel
theorem dX6_use_5 : decode cX6_use 5 = .ok (.if_icmp .ge 34, 3) := by decide +kernel
theorem dX6_use_8 : decode cX6_use 8 = .ok (.iload_n 1, 1) := by decide +kernel
theorem dX6_use_9 : decode cX6_use 9 = .ok (.iload_n 3, 1) := by decide +kernel
theorem dX6_use_10 : decode cX6_use 10 = .ok (.ishr, 1) := by decide +kernel
theorem dX6_use_11 : decode cX6_use 11 = .ok (.iconst 1, 1) := by decide +kernel
theorem dX6_use_12 : decode cX6_use 12 = .ok (.iand, 1) := by decide +kernel
theorem dX6_use_13 : decode cX6_use 13 = .ok (.ifCond .eq 20, 3) := by decide +kernel
theorem dX6_use_16 : decode cX6_use 16 = .ok (.aload_n 0, 1) := by decide +kernel
theorem dX6_use_17 : decode cX6_use 17 = .ok (.getfield 24, 3) := by decide +kernel
theorem dX6_use_20 : decode cX6_use 20 = .ok (.iload_n 3, 1) := by decide +kernel
theorem dX6_use_21 : decode cX6_use 21 = .ok (.iload_n 2, 1) := by decide +kernel
theorem dX6_use_22 : decode cX6_use 22 = .ok (.iastore, 1) := by decide +kernel
theorem dX6_use_23 : decode cX6_use 23 = .ok (.aload_n 0, 1) := by decide +kernel
theorem dX6_use_24 : decode cX6_use 24 = .ok (.getfield 28, 3) := by decide +kernel
theorem dX6_use_27 : decode cX6_use 27 = .ok (.iload_n 3, 1) := by decide +kernel
theorem dX6_use_28 : decode cX6_use 28 = .ok (.aload_n 0, 1) := by decide +kernel
theorem dX6_use_29 : decode cX6_use 29 = .ok (.getfield 18, 3) := by decide +kernel
theorem dX6_use_32 : decode cX6_use 32 = .ok (.iastore, 1) := by decide +kernel
theorem dX6_use_33 : decode cX6_use 33 = .ok (.iinc 3 1, 3) := by decide +kernel
theorem dX6_use_36 : decode cX6_use 36 = .ok (.goto (-34), 3) := by decide +kernel
theorem dX6_use_39 : decode cX6_use 39 = .ok (.aload_n 0, 1) := by decide +kernel
theorem dX6_use_40 : decode cX6_use 40 = .ok (.dup, 1) := by decide +kernel
theorem dX6_use_41 : decode cX6_use 41 = .ok (.getfield 9, 3) := by decide +kernel
theorem dX6_use_44 : decode cX6_use 44 = .ok (.iload_n 1, 1) := by decide +kernel
theorem dX6_use_45 : decode cX6_use 45 = .ok (.ior, 1) := by decide +kernel
theorem dX6_use_46 : decode cX6_use 46 = .ok (.putfield 9, 3) := by decide +kernel
theorem dX6_use_49 : decode cX6_use 49 = .ok (.iload_n 1, 1) := by decide +kernel
theorem dX6_use_50 : decode cX6_use 50 = .ok (.invokestatic 41, 3) := by decide +kernel
theorem dX6_use_53 : decode cX6_use 53 = .ok (.ireturn, 1) := by decide +kernel
theorem dX6_useSinceToday_0 : decode cX6_useSinceToday 0 = .ok (.iconst 0, 1) := by decide +kernel
theorem dX6_useSinceToday_1 : decode cX6_useSinceToday 1 = .ok (.istore_n 1, 1) := by decide +kernel
theorem dX6_useSinceToday_2 : decode cX6_useSinceToday 2 = .ok (.iload_n 1, 1) := by decide +kernel
theorem dX6_useSinceToday_3 : decode cX6_useSinceToday 3 = .ok (.bipush 14, 2) := by decide +kernel
theorem dX6_useSinceToday_5 : decode cX6_useSinceToday 5 = .ok (.if_icmp .ge 19, 3) := by decide +kernel
theorem dX6_useSinceToday_8 : decode cX6_useSinceToday 8 = .ok (.aload_n 0, 1) := by decide +kernel
theorem dX6_useSinceToday_9 : decode cX6_useSinceToday 9 = .ok (.getfield 28, 3) := by decide +kernel
theorem dX6_useSinceToday_12 : decode cX6_useSinceToday 12 = .ok (.iload_n 1, 1) := by decide +kernel
theorem dX6_useSinceToday_13 : decode cX6_useSinceToday 13 = .ok (.aload_n 0, 1) := by decide +kernel
theorem dX6_useSinceToday_14 : decode cX6_useSinceToday 14 = .ok (.getfield 18, 3) := by decide +kernel
theorem dX6_useSinceToday_17 : decode cX6_useSinceToday 17 = .ok (.iastore, 1) := by decide +kernel
theorem dX6_useSinceToday_18 : decode cX6_useSinceToday 18 = .ok (.iinc 1 1, 3) := by decide +kernel
theorem dX6_useSinceToday_21 : decode cX6_useSinceToday 21 = .ok (.goto (-19), 3) := by decide +kernel
theorem dX6_useSinceToday_24 : decode cX6_useSinceToday 24 = .ok (.return_, 1) := by decide +kernel
theorem dX6_usedBy_0 : decode cX6_usedBy 0 = .ok (.iconst 0, 1) := by decide +kernel
theorem dX6_usedBy_1 : decode cX6_usedBy 1 = .ok (.istore_n 2, 1) := by decide +kernel
theorem dX6_usedBy_2 : decode cX6_usedBy 2 = .ok (.iconst 0, 1) := by decide +kernel
theorem dX6_usedBy_3 : decode cX6_usedBy 3 = .ok (.istore_n 3, 1) := by decide +kernel
theorem dX6_usedBy_4 : decode cX6_usedBy 4 = .ok (.iload_n 3, 1) := by decide +kernel
theorem dX6_usedBy_5 : decode cX6_usedBy 5 = .ok (.bipush 14, 2) := by decide +kernel
theorem dX6_usedBy_7 : decode cX6_usedBy 7 = .ok (.if_icmp .ge 33, 3) := by decide +kernel
theorem dX6_usedBy_10 : decode cX6_usedBy 10 = .ok (.aload_n 0, 1) := by decide +kernel
theorem dX6_usedBy_11 : decode cX6_usedBy 11 = .ok (.iload_n 3, 1) := by decide +kernel
theorem dX6_usedBy_12 : decode cX6_usedBy 12 = .ok (.invokevirtual 37, 3) := by decide +kernel
theorem dX6_usedBy_15 : decode cX6_usedBy 15 = .ok (.ifCond .eq 19, 3) := by decide +kernel
theorem dX6_usedBy_18 : decode cX6_usedBy 18 = .ok (.aload_n 0, 1) := by decide +kernel
theorem dX6_usedBy_19 : decode cX6_usedBy 19 = .ok (.getfield 24, 3) := by decide +kernel
theorem dX6_usedBy_22 : decode cX6_usedBy 22 = .ok (.iload_n 3, 1) := by decide +kernel
theorem dX6_usedBy_23 : decode cX6_usedBy 23 = .ok (.iaload, 1) := by decide +kernel
theorem dX6_usedBy_24 : decode cX6_usedBy 24 = .ok (.iload_n 1, 1) := by decide +kernel
theorem dX6_usedBy_25 : decode cX6_usedBy 25 = .ok (.if_icmp .ne 9, 3) := by decide +kernel
theorem dX6_usedBy_28 : decode cX6_usedBy 28 = .ok (.iload_n 2, 1) := by decide +kernel
theorem dX6_usedBy_29 : decode cX6_usedBy 29 = .ok (.iconst 1, 1) := by decide +kernel
theorem dX6_usedBy_30 : decode cX6_usedBy 30 = .ok (.iload_n 3, 1) := by decide +kernel
theorem dX6_usedBy_31 : decode cX6_usedBy 31 = .ok (.ishl, 1) := by decide +kernel
theorem dX6_usedBy_32 : decode cX6_usedBy 32 = .ok (.ior, 1) := by decide +kernel
theorem dX6_usedBy_33 : decode cX6_usedBy 33 = .ok (.istore_n 2, 1) := by decide +kernel
theorem dX6_usedBy_34 : decode cX6_usedBy 34 = .ok (.iinc 3 1, 3) := by decide +kernel
theorem dX6_usedBy_37 : decode cX6_usedBy 37 = .ok (.goto (-33), 3) := by decide +kernel
theorem dX6_usedBy_40 : decode cX6_usedBy 40 = .ok (.iload_n 2, 1) := by decide +kernel
theorem dX6_usedBy_41 : decode cX6_usedBy 41 = .ok (.ireturn, 1) := by decide +kernel
theorem kw_7 : Cond.initialized "FootholdWall$State" ∈ gw := gw_of (tb_of 7 (by decide +kernel)) (by decide +kernel)
theorem kw_20 : Cond.initialized "java/lang/Integer" ∈ gw := gw_of (tb_of 20 (by decide +kernel)) (by decide +kernel)
theorem kw_23 : Cond.initialized "java/lang/System" ∈ gw := gw_of (tb_of 23 (by decide +kernel)) (by decide +kernel)
theorem kw_185 : Cond.fieldLink "FootholdWall$State" 9 "FootholdWall$State" "used" "I" ∈ gw := gw_of (tb_of 185 (by decide +kernel)) (by decide +kernel)
theorem kw_187 : Cond.fieldLink "FootholdWall$State" 15 "FootholdWall$State" "broken" "I" ∈ gw := gw_of (tb_of 187 (by decide +kernel)) (by decide +kernel)
theorem kw_189 : Cond.fieldLink "FootholdWall$State" 18 "FootholdWall$State" "day" "I" ∈ gw := gw_of (tb_of 189 (by decide +kernel)) (by decide +kernel)
theorem kw_192 : Cond.fieldLink "FootholdWall$State" 21 "FootholdWall$State" "years" "I" ∈ gw := gw_of (tb_of 192 (by decide +kernel)) (by decide +kernel)
theorem kw_194 : Cond.fieldLink "FootholdWall$State" 24 "FootholdWall$State" "by" "[I" ∈ gw := gw_of (tb_of 194 (by decide +kernel)) (by decide +kernel)
theorem kw_196 : Cond.fieldLink "FootholdWall$State" 28 "FootholdWall$State" "since" "[I" ∈ gw := gw_of (tb_of 196 (by decide +kernel)) (by decide +kernel)
theorem kw_691 : Cond.methodLink "FootholdWall$State" 41 yJ6_bitCount_0f7a4 ∈ gw := gw_of (tb_of 691 (by decide +kernel)) (by decide +kernel)
theorem kw_692 : Cond.static yJ6_bitCount_0f7a4 ∈ gw := gw_of (tb_of 692 (by decide +kernel)) (by decide +kernel)
theorem kw_693 : Cond.code yJ6_bitCount_0f7a4 cJ6_bitCount_0f7a4 1 (some (.int)) ∈ gw := gw_of (tb_of 693 (by decide +kernel)) (by decide +kernel)
theorem kw_733 : Cond.static arraycopyName ∈ gw := gw_of (tb_of 733 (by decide +kernel)) (by decide +kernel)
theorem kw_734 : Cond.native arraycopyName ∈ gw := gw_of (tb_of 734 (by decide +kernel)) (by decide +kernel)
theorem kw_761 : Cond.methodLink "FootholdWall$State" 31 arraycopyName ∈ gw := gw_of (tb_of 761 (by decide +kernel)) (by decide +kernel)
theorem kw_787 : Cond.instanceMethod yX6_isUsed ∈ gw := gw_of (tb_of 787 (by decide +kernel)) (by decide +kernel)
theorem kw_788 : Cond.selects "FootholdWall$State" yX6_isUsed yX6_isUsed ∈ gw := gw_of (tb_of 788 (by decide +kernel)) (by decide +kernel)
theorem kw_789 : Cond.code yX6_isUsed cX6_isUsed 2 (some (.boolean)) ∈ gw := gw_of (tb_of 789 (by decide +kernel)) (by decide +kernel)
theorem kw_802 : Cond.methodLink "FootholdWall$State" 37 yX6_isUsed ∈ gw := gw_of (tb_of 802 (by decide +kernel)) (by decide +kernel)
