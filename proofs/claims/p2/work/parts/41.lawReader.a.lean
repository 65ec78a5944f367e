theorem dX3_aimSkip_0 : decode cX3_aimSkip 0 = .ok (.iload_n 1, 1) := by decide +kernel
theorem dX3_aimSkip_1 : decode cX3_aimSkip 1 = .ok (.ifCond .lt 32, 3) := by decide +kernel
theorem dX3_aimSkip_4 : decode cX3_aimSkip 4 = .ok (.iload_n 1, 1) := by decide +kernel
theorem dX3_aimSkip_5 : decode cX3_aimSkip 5 = .ok (.sipush 900, 3) := by decide +kernel
theorem dX3_aimSkip_8 : decode cX3_aimSkip 8 = .ok (.if_icmp .ge 25, 3) := by decide +kernel
theorem dX3_aimSkip_11 : decode cX3_aimSkip 11 = .ok (.aload_n 0, 1) := by decide +kernel
theorem dX3_aimSkip_12 : decode cX3_aimSkip 12 = .ok (.getfield 9, 3) := by decide +kernel
theorem dX3_aimSkip_15 : decode cX3_aimSkip 15 = .ok (.iload_n 1, 1) := by decide +kernel
theorem dX3_aimSkip_16 : decode cX3_aimSkip 16 = .ok (.aload_n 0, 1) := by decide +kernel
theorem dX3_aimSkip_17 : decode cX3_aimSkip 17 = .ok (.getfield 9, 3) := by decide +kernel
theorem dX3_aimSkip_20 : decode cX3_aimSkip 20 = .ok (.iload_n 1, 1) := by decide +kernel
theorem dX3_aimSkip_21 : decode cX3_aimSkip 21 = .ok (.iaload, 1) := by decide +kernel
theorem dX3_aimSkip_22 : decode cX3_aimSkip 22 = .ok (.bipush 15, 2) := by decide +kernel
theorem dX3_aimSkip_24 : decode cX3_aimSkip 24 = .ok (.iand, 1) := by decide +kernel
theorem dX3_aimSkip_25 : decode cX3_aimSkip 25 = .ok (.aload_n 0, 1) := by decide +kernel
theorem dX3_aimSkip_26 : decode cX3_aimSkip 26 = .ok (.getfield 15, 3) := by decide +kernel
theorem dX3_aimSkip_29 : decode cX3_aimSkip 29 = .ok (.iconst 4, 1) := by decide +kernel
theorem dX3_aimSkip_30 : decode cX3_aimSkip 30 = .ok (.ishl, 1) := by decide +kernel
theorem dX3_aimSkip_31 : decode cX3_aimSkip 31 = .ok (.ior, 1) := by decide +kernel
theorem dX3_aimSkip_32 : decode cX3_aimSkip 32 = .ok (.iastore, 1) := by decide +kernel
theorem dX3_aimSkip_33 : decode cX3_aimSkip 33 = .ok (.return_, 1) := by decide +kernel
theorem dX3_enter_0 : decode cX3_enter 0 = .ok (.iload_n 1, 1) := by decide +kernel
theorem dX3_enter_1 : decode cX3_enter 1 = .ok (.bipush 6, 2) := by decide +kernel
theorem dX3_enter_3 : decode cX3_enter 3 = .ok (.if_icmp .lt 12, 3) := by decide +kernel
theorem dX3_enter_6 : decode cX3_enter 6 = .ok (.aload_n 0, 1) := by decide +kernel
theorem dX3_enter_7 : decode cX3_enter 7 = .ok (.getfield 19, 3) := by decide +kernel
theorem dX3_enter_10 : decode cX3_enter 10 = .ok (.iconst 4, 1) := by decide +kernel
theorem dX3_enter_11 : decode cX3_enter 11 = .ok (.invokevirtual 80, 3) := by decide +kernel
theorem dX3_enter_14 : decode cX3_enter 14 = .ok (.ireturn, 1) := by decide +kernel
theorem dX3_enter_15 : decode cX3_enter 15 = .ok (.aload_n 0, 1) := by decide +kernel
theorem dX3_enter_16 : decode cX3_enter 16 = .ok (.getfield 19, 3) := by decide +kernel
theorem dX3_enter_19 : decode cX3_enter 19 = .ok (.invokevirtual 49, 3) := by decide +kernel
theorem dX3_enter_22 : decode cX3_enter 22 = .ok (.iconst 1, 1) := by decide +kernel
theorem dX3_enter_23 : decode cX3_enter 23 = .ok (.ireturn, 1) := by decide +kernel
theorem dX3_factHere_0 : decode cX3_factHere 0 = .ok (.aload_n 0, 1) := by decide +kernel
theorem dX3_factHere_1 : decode cX3_factHere 1 = .ok (.getfield 19, 3) := by decide +kernel
theorem dX3_factHere_4 : decode cX3_factHere 4 = .ok (.ldc 99, 2) := by decide +kernel
theorem dX3_factHere_6 : decode cX3_factHere 6 = .ok (.invokevirtual 43, 3) := by decide +kernel
theorem dX3_factHere_9 : decode cX3_factHere 9 = .ok (.ifCond .eq 5, 3) := by decide +kernel
theorem dX3_factHere_12 : decode cX3_factHere 12 = .ok (.iconst 0, 1) := by decide +kernel
theorem dX3_factHere_13 : decode cX3_factHere 13 = .ok (.ireturn, 1) := by decide +kernel
theorem dX3_factHere_14 : decode cX3_factHere 14 = .ok (.aload_n 0, 1) := by decide +kernel
theorem dX3_factHere_15 : decode cX3_factHere 15 = .ok (.getfield 19, 3) := by decide +kernel
theorem dX3_factHere_18 : decode cX3_factHere 18 = .ok (.ldc 101, 2) := by decide +kernel
theorem dX3_factHere_20 : decode cX3_factHere 20 = .ok (.invokevirtual 43, 3) := by decide +kernel
theorem dX3_factHere_23 : decode cX3_factHere 23 = .ok (.ifCond .eq 5, 3) := by decide +kernel
theorem dX3_factHere_26 : decode cX3_factHere 26 = .ok (.iconst 1, 1) := by decide +kernel
theorem dX3_factHere_27 : decode cX3_factHere 27 = .ok (.ireturn, 1) := by decide +kernel
theorem dX3_factHere_28 : decode cX3_factHere 28 = .ok (.aload_n 0, 1) := by decide +kernel
theorem dX3_factHere_29 : decode cX3_factHere 29 = .ok (.getfield 19, 3) := by decide +kernel
theorem dX3_factHere_32 : decode cX3_factHere 32 = .ok (.ldc 103, 2) := by decide +kernel
theorem dX3_factHere_34 : decode cX3_factHere 34 = .ok (.invokevirtual 43, 3) := by decide +kernel
theorem dX3_factHere_37 : decode cX3_factHere 37 = .ok (.ifCond .eq 5, 3) := by decide +kernel
theorem dX3_factHere_40 : decode cX3_factHere 40 = .ok (.iconst 2, 1) := by decide +kernel
theorem dX3_factHere_41 : decode cX3_factHere 41 = .ok (.ireturn, 1) := by decide +kernel
theorem dX3_factHere_42 : decode cX3_factHere 42 = .ok (.aload_n 0, 1) := by decide +kernel
theorem dX3_factHere_43 : decode cX3_factHere 43 = .ok (.getfield 19, 3) := by decide +kernel
theorem dX3_factHere_46 : decode cX3_factHere 46 = .ok (.ldc 105, 2) := by decide +kernel
theorem dX3_factHere_48 : decode cX3_factHere 48 = .ok (.invokevirtual 43, 3) := by decide +kernel
theorem dX3_factHere_51 : decode cX3_factHere 51 = .ok (.ifCond .eq 5, 3) := by decide +kernel
theorem dX3_factHere_54 : decode cX3_factHere 54 = .ok (.iconst 3, 1) := by decide +kernel
theorem dX3_factHere_55 : decode cX3_factHere 55 = .ok (.ireturn, 1) := by decide +kernel
theorem dX3_factHere_56 : decode cX3_factHere 56 = .ok (.aload_n 0, 1) := by decide +kernel
theorem dX3_factHere_57 : decode cX3_factHere 57 = .ok (.getfield 19, 3) := by decide +kernel
theorem dX3_factHere_60 : decode cX3_factHere 60 = .ok (.ldc 107, 2) := by decide +kernel
theorem dX3_factHere_62 : decode cX3_factHere 62 = .ok (.invokevirtual 43, 3) := by decide +kernel
theorem dX3_factHere_65 : decode cX3_factHere 65 = .ok (.ifCond .eq 5, 3) := by decide +kernel
theorem dX3_factHere_68 : decode cX3_factHere 68 = .ok (.iconst 4, 1) := by decide +kernel
theorem dX3_factHere_69 : decode cX3_factHere 69 = .ok (.ireturn, 1) := by decide +kernel
theorem dX3_factHere_70 : decode cX3_factHere 70 = .ok (.aload_n 0, 1) := by decide +kernel
theorem dX3_factHere_71 : decode cX3_factHere 71 = .ok (.getfield 19, 3) := by decide +kernel
theorem dX3_factHere_74 : decode cX3_factHere 74 = .ok (.ldc 109, 2) := by decide +kernel
theorem dX3_factHere_76 : decode cX3_factHere 76 = .ok (.invokevirtual 43, 3) := by decide +kernel
theorem dX3_factHere_79 : decode cX3_factHere 79 = .ok (.ifCond .eq 5, 3) := by decide +kernel
theorem dX3_factHere_82 : decode cX3_factHere 82 = .ok (.iconst 5, 1) := by decide +kernel
theorem dX3_factHere_83 : decode cX3_factHere 83 = .ok (.ireturn, 1) := by decide +kernel
theorem dX3_factHere_84 : decode cX3_factHere 84 = .ok (.aload_n 0, 1) := by decide +kernel
theorem dX3_factHere_85 : decode cX3_factHere 85 = .ok (.getfield 19, 3) := by decide +kernel
theorem dX3_factHere_88 : decode cX3_factHere 88 = .ok (.ldc 111, 2) := by decide +kernel
theorem dX3_factHere_90 : decode cX3_factHere 90 = .ok (.invokevirtual 43, 3) := by decide +kernel
theorem dX3_factHere_93 : decode cX3_factHere 93 = .ok (.ifCond .eq 8, 3) := by decide +kernel
theorem dX3_factHere_96 : decode cX3_factHere 96 = .ok (.bipush 6, 2) := by decide +kernel
theorem dX3_factHere_98 : decode cX3_factHere 98 = .ok (.goto 4, 3) := by decide +kernel
theorem dX3_factHere_101 : decode cX3_factHere 101 = .ok (.iconst (-1), 1) := by decide +kernel
theorem dX3_factHere_102 : decode cX3_factHere 102 = .ok (.ireturn, 1) := by decide +kernel
theorem dX3_put_0 : decode cX3_put 0 = .ok (.aload_n 0, 1) := by decide +kernel
theorem dX3_put_1 : decode cX3_put 1 = .ok (.getfield 15, 3) := by decide +kernel
theorem dX3_put_4 : decode cX3_put 4 = .ok (.sipush 900, 3) := by decide +kernel
theorem dX3_put_7 : decode cX3_put 7 = .ok (.if_icmp .ge 27, 3) := by decide +kernel
theorem dX3_put_10 : decode cX3_put 10 = .ok (.aload_n 0, 1) := by decide +kernel
theorem dX3_put_11 : decode cX3_put 11 = .ok (.getfield 9, 3) := by decide +kernel
theorem dX3_put_14 : decode cX3_put 14 = .ok (.aload_n 0, 1) := by decide +kernel
theorem dX3_put_15 : decode cX3_put 15 = .ok (.getfield 15, 3) := by decide +kernel
theorem dX3_put_18 : decode cX3_put 18 = .ok (.iload_n 1, 1) := by decide +kernel
theorem dX3_put_19 : decode cX3_put 19 = .ok (.iload_n 2, 1) := by decide +kernel
theorem dX3_put_20 : decode cX3_put 20 = .ok (.iconst 4, 1) := by decide +kernel
theorem dX3_put_21 : decode cX3_put 21 = .ok (.ishl, 1) := by decide +kernel
theorem dX3_put_22 : decode cX3_put 22 = .ok (.ior, 1) := by decide +kernel
theorem dX3_put_23 : decode cX3_put 23 = .ok (.iastore, 1) := by decide +kernel
theorem dX3_put_24 : decode cX3_put 24 = .ok (.aload_n 0, 1) := by decide +kernel
theorem dX3_put_25 : decode cX3_put 25 = .ok (.dup, 1) := by decide +kernel
theorem dX3_put_26 : decode cX3_put 26 = .ok (.getfield 15, 3) := by decide +kernel
theorem dX3_put_29 : decode cX3_put 29 = .ok (.iconst 1, 1) := by decide +kernel
theorem dX3_put_30 : decode cX3_put 30 = .ok (.iadd, 1) := by decide +kernel
theorem dX3_put_31 : decode cX3_put 31 = .ok (.putfield 15, 3) := by decide +kernel
theorem dX3_put_34 : decode cX3_put 34 = .ok (.return_, 1) := by decide +kernel
theorem dX3_read_0 : decode cX3_read 0 = .ok (.aload_n 0, 1) := by decide +kernel
theorem dX3_read_1 : decode cX3_read 1 = .ok (.iconst 0, 1) := by decide +kernel
theorem dX3_read_2 : decode cX3_read 2 = .ok (.putfield 15, 3) := by decide +kernel
theorem dX3_read_5 : decode cX3_read 5 = .ok (.aload_n 0, 1) := by decide +kernel
theorem dX3_read_6 : decode cX3_read 6 = .ok (.iconst 0, 1) := by decide +kernel
theorem dX3_read_7 : decode cX3_read 7 = .ok (.invokevirtual 23, 3) := by decide +kernel
theorem dX3_read_10 : decode cX3_read 10 = .ok (.ireturn, 1) := by decide +kernel
theorem dX3_readAtom_0 : decode cX3_readAtom 0 = .ok (.aload_n 0, 1) := by decide +kernel
theorem dX3_readAtom_1 : decode cX3_readAtom 1 = .ok (.getfield 19, 3) := by decide +kernel
theorem dX3_readAtom_4 : decode cX3_readAtom 4 = .ok (.bipush 40, 2) := by decide +kernel
theorem dX3_readAtom_6 : decode cX3_readAtom 6 = .ok (.invokevirtual 70, 3) := by decide +kernel
theorem dX3_readAtom_9 : decode cX3_readAtom 9 = .ok (.ifCond .eq 39, 3) := by decide +kernel
theorem dX3_readAtom_12 : decode cX3_readAtom 12 = .ok (.aload_n 0, 1) := by decide +kernel
theorem dX3_readAtom_13 : decode cX3_readAtom 13 = .ok (.iload_n 1, 1) := by decide +kernel
theorem dX3_readAtom_14 : decode cX3_readAtom 14 = .ok (.invokevirtual 67, 3) := by decide +kernel
theorem dX3_readAtom_17 : decode cX3_readAtom 17 = .ok (.ifCond .eq 29, 3) := by decide +kernel
theorem dX3_readAtom_20 : decode cX3_readAtom 20 = .ok (.aload_n 0, 1) := by decide +kernel
theorem dX3_readAtom_21 : decode cX3_readAtom 21 = .ok (.iload_n 1, 1) := by decide +kernel
theorem dX3_readAtom_22 : decode cX3_readAtom 22 = .ok (.iconst 1, 1) := by decide +kernel
theorem dX3_readAtom_23 : decode cX3_readAtom 23 = .ok (.iadd, 1) := by decide +kernel
theorem dX3_readAtom_24 : decode cX3_readAtom 24 = .ok (.invokevirtual 77, 3) := by decide +kernel
theorem dX3_readAtom_27 : decode cX3_readAtom 27 = .ok (.ifCond .eq 19, 3) := by decide +kernel
theorem dX3_readAtom_30 : decode cX3_readAtom 30 = .ok (.aload_n 0, 1) := by decide +kernel
theorem dX3_readAtom_31 : decode cX3_readAtom 31 = .ok (.getfield 19, 3) := by decide +kernel
theorem dX3_readAtom_34 : decode cX3_readAtom 34 = .ok (.bipush 41, 2) := by decide +kernel
theorem dX3_readAtom_36 : decode cX3_readAtom 36 = .ok (.invokevirtual 74, 3) := by decide +kernel
theorem dX3_readAtom_39 : decode cX3_readAtom 39 = .ok (.ifCond .eq 7, 3) := by decide +kernel
theorem dX3_readAtom_42 : decode cX3_readAtom 42 = .ok (.iconst 1, 1) := by decide +kernel
theorem dX3_readAtom_43 : decode cX3_readAtom 43 = .ok (.goto 4, 3) := by decide +kernel
theorem dX3_readAtom_46 : decode cX3_readAtom 46 = .ok (.iconst 0, 1) := by decide +kernel
theorem dX3_readAtom_47 : decode cX3_readAtom 47 = .ok (.ireturn, 1) := by decide +kernel
theorem dX3_readAtom_48 : decode cX3_readAtom 48 = .ok (.aload_n 0, 1) := by decide +kernel
theorem dX3_readAtom_49 : decode cX3_readAtom 49 = .ok (.getfield 19, 3) := by decide +kernel
theorem dX3_readAtom_52 : decode cX3_readAtom 52 = .ok (.getfield 89, 3) := by decide +kernel
theorem dX3_readAtom_55 : decode cX3_readAtom 55 = .ok (.iconst 2, 1) := by decide +kernel
theorem dX3_readAtom_56 : decode cX3_readAtom 56 = .ok (.if_icmp .ne 24, 3) := by decide +kernel
theorem dX3_readAtom_59 : decode cX3_readAtom 59 = .ok (.aload_n 0, 1) := by decide +kernel
theorem dX3_readAtom_60 : decode cX3_readAtom 60 = .ok (.iconst 0, 1) := by decide +kernel
theorem dX3_readAtom_61 : decode cX3_readAtom 61 = .ok (.aload_n 0, 1) := by decide +kernel
theorem dX3_readAtom_62 : decode cX3_readAtom 62 = .ok (.getfield 19, 3) := by decide +kernel
theorem dX3_readAtom_65 : decode cX3_readAtom 65 = .ok (.getfield 92, 3) := by decide +kernel
theorem dX3_readAtom_68 : decode cX3_readAtom 68 = .ok (.invokevirtual 52, 3) := by decide +kernel
theorem dX3_readAtom_71 : decode cX3_readAtom 71 = .ok (.aload_n 0, 1) := by decide +kernel
theorem dX3_readAtom_72 : decode cX3_readAtom 72 = .ok (.getfield 19, 3) := by decide +kernel
theorem dX3_readAtom_75 : decode cX3_readAtom 75 = .ok (.invokevirtual 49, 3) := by decide +kernel
theorem dX3_readAtom_78 : decode cX3_readAtom 78 = .ok (.iconst 1, 1) := by decide +kernel
theorem dX3_readAtom_79 : decode cX3_readAtom 79 = .ok (.ireturn, 1) := by decide +kernel
theorem dX3_readAtom_80 : decode cX3_readAtom 80 = .ok (.aload_n 0, 1) := by decide +kernel
theorem dX3_readAtom_81 : decode cX3_readAtom 81 = .ok (.invokevirtual 95, 3) := by decide +kernel
theorem dX3_readAtom_84 : decode cX3_readAtom 84 = .ok (.istore_n 2, 1) := by decide +kernel
theorem dX3_readAtom_85 : decode cX3_readAtom 85 = .ok (.iload_n 2, 1) := by decide +kernel
theorem dX3_readAtom_86 : decode cX3_readAtom 86 = .ok (.iconst (-1), 1) := by decide +kernel
theorem dX3_readAtom_87 : decode cX3_readAtom 87 = .ok (.if_icmp .ne 12, 3) := by decide +kernel
theorem dX3_readAtom_90 : decode cX3_readAtom 90 = .ok (.aload_n 0, 1) := by decide +kernel
theorem dX3_readAtom_91 : decode cX3_readAtom 91 = .ok (.getfield 19, 3) := by decide +kernel
theorem dX3_readAtom_94 : decode cX3_readAtom 94 = .ok (.iconst 2, 1) := by decide +kernel
theorem dX3_readAtom_95 : decode cX3_readAtom 95 = .ok (.invokevirtual 80, 3) := by decide +kernel
theorem dX3_readAtom_98 : decode cX3_readAtom 98 = .ok (.ireturn, 1) := by decide +kernel
theorem dX3_readAtom_99 : decode cX3_readAtom 99 = .ok (.aload_n 0, 1) := by decide +kernel
theorem dX3_readAtom_100 : decode cX3_readAtom 100 = .ok (.iconst 1, 1) := by decide +kernel
theorem dX3_readAtom_101 : decode cX3_readAtom 101 = .ok (.iload_n 2, 1) := by decide +kernel
theorem dX3_readAtom_102 : decode cX3_readAtom 102 = .ok (.invokevirtual 52, 3) := by decide +kernel
theorem dX3_readAtom_105 : decode cX3_readAtom 105 = .ok (.aload_n 0, 1) := by decide +kernel
theorem dX3_readAtom_106 : decode cX3_readAtom 106 = .ok (.getfield 19, 3) := by decide +kernel
theorem dX3_readAtom_109 : decode cX3_readAtom 109 = .ok (.invokevirtual 49, 3) := by decide +kernel
theorem dX3_readAtom_112 : decode cX3_readAtom 112 = .ok (.iconst 1, 1) := by decide +kernel
theorem dX3_readAtom_113 : decode cX3_readAtom 113 = .ok (.ireturn, 1) := by decide +kernel
theorem dX3_readBoth_0 : decode cX3_readBoth 0 = .ok (.aload_n 0, 1) := by decide +kernel
theorem dX3_readBoth_1 : decode cX3_readBoth 1 = .ok (.iload_n 1, 1) := by decide +kernel
theorem dX3_readBoth_2 : decode cX3_readBoth 2 = .ok (.invokevirtual 60, 3) := by decide +kernel
theorem dX3_readBoth_5 : decode cX3_readBoth 5 = .ok (.istore_n 2, 1) := by decide +kernel
theorem dX3_readBoth_6 : decode cX3_readBoth 6 = .ok (.iconst 0, 1) := by decide +kernel
theorem dX3_readBoth_7 : decode cX3_readBoth 7 = .ok (.istore_n 3, 1) := by decide +kernel
theorem dX3_readBoth_8 : decode cX3_readBoth 8 = .ok (.iload_n 3, 1) := by decide +kernel
theorem dX3_readBoth_9 : decode cX3_readBoth 9 = .ok (.sipush 900, 3) := by decide +kernel
theorem dX3_readBoth_12 : decode cX3_readBoth 12 = .ok (.if_icmp .ge 56, 3) := by decide +kernel
theorem dX3_readBoth_15 : decode cX3_readBoth 15 = .ok (.iload_n 2, 1) := by decide +kernel
theorem dX3_readBoth_16 : decode cX3_readBoth 16 = .ok (.ifCond .eq 52, 3) := by decide +kernel
theorem dX3_readBoth_19 : decode cX3_readBoth 19 = .ok (.aload_n 0, 1) := by decide +kernel
theorem dX3_readBoth_20 : decode cX3_readBoth 20 = .ok (.getfield 19, 3) := by decide +kernel
theorem dX3_readBoth_23 : decode cX3_readBoth 23 = .ok (.ldc 63, 2) := by decide +kernel
theorem dX3_readBoth_25 : decode cX3_readBoth 25 = .ok (.invokevirtual 43, 3) := by decide +kernel
theorem dX3_readBoth_28 : decode cX3_readBoth 28 = .ok (.ifCond .eq 40, 3) := by decide +kernel
theorem dX3_readBoth_31 : decode cX3_readBoth 31 = .ok (.aload_n 0, 1) := by decide +kernel
theorem dX3_readBoth_32 : decode cX3_readBoth 32 = .ok (.getfield 19, 3) := by decide +kernel
theorem dX3_readBoth_35 : decode cX3_readBoth 35 = .ok (.invokevirtual 49, 3) := by decide +kernel
theorem dX3_readBoth_38 : decode cX3_readBoth 38 = .ok (.aload_n 0, 1) := by decide +kernel
theorem dX3_readBoth_39 : decode cX3_readBoth 39 = .ok (.getfield 15, 3) := by decide +kernel
theorem dX3_readBoth_42 : decode cX3_readBoth 42 = .ok (.istore 4, 2) := by decide +kernel
theorem dX3_readBoth_44 : decode cX3_readBoth 44 = .ok (.aload_n 0, 1) := by decide +kernel
theorem dX3_readBoth_45 : decode cX3_readBoth 45 = .ok (.iconst 3, 1) := by decide +kernel
theorem dX3_readBoth_46 : decode cX3_readBoth 46 = .ok (.iconst 0, 1) := by decide +kernel
theorem dX3_readBoth_47 : decode cX3_readBoth 47 = .ok (.invokevirtual 52, 3) := by decide +kernel
theorem dX3_readBoth_50 : decode cX3_readBoth 50 = .ok (.aload_n 0, 1) := by decide +kernel
theorem dX3_readBoth_51 : decode cX3_readBoth 51 = .ok (.iload_n 1, 1) := by decide +kernel
theorem dX3_readBoth_52 : decode cX3_readBoth 52 = .ok (.invokevirtual 60, 3) := by decide +kernel
theorem dX3_readBoth_55 : decode cX3_readBoth 55 = .ok (.istore_n 2, 1) := by decide +kernel
theorem dX3_readBoth_56 : decode cX3_readBoth 56 = .ok (.aload_n 0, 1) := by decide +kernel
theorem dX3_readBoth_57 : decode cX3_readBoth 57 = .ok (.iload 4, 2) := by decide +kernel
theorem dX3_readBoth_59 : decode cX3_readBoth 59 = .ok (.invokevirtual 56, 3) := by decide +kernel
theorem dX3_readBoth_62 : decode cX3_readBoth 62 = .ok (.iinc 3 1, 3) := by decide +kernel
theorem dX3_readBoth_65 : decode cX3_readBoth 65 = .ok (.goto (-57), 3) := by decide +kernel
theorem dX3_readBoth_68 : decode cX3_readBoth 68 = .ok (.iload_n 2, 1) := by decide +kernel
theorem dX3_readBoth_69 : decode cX3_readBoth 69 = .ok (.ireturn, 1) := by decide +kernel
theorem dX3_readSum_0 : decode cX3_readSum 0 = .ok (.aload_n 0, 1) := by decide +kernel
theorem dX3_readSum_1 : decode cX3_readSum 1 = .ok (.iload_n 1, 1) := by decide +kernel
theorem dX3_readSum_2 : decode cX3_readSum 2 = .ok (.invokevirtual 83, 3) := by decide +kernel
theorem dX3_readSum_5 : decode cX3_readSum 5 = .ok (.istore_n 2, 1) := by decide +kernel
theorem dX3_readSum_6 : decode cX3_readSum 6 = .ok (.iconst 0, 1) := by decide +kernel
theorem dX3_readSum_7 : decode cX3_readSum 7 = .ok (.istore_n 3, 1) := by decide +kernel
theorem dX3_readSum_8 : decode cX3_readSum 8 = .ok (.iload_n 3, 1) := by decide +kernel
theorem dX3_readSum_9 : decode cX3_readSum 9 = .ok (.sipush 900, 3) := by decide +kernel
theorem dX3_readSum_12 : decode cX3_readSum 12 = .ok (.if_icmp .ge 77, 3) := by decide +kernel
theorem dX3_readSum_15 : decode cX3_readSum 15 = .ok (.iload_n 2, 1) := by decide +kernel
theorem dX3_readSum_16 : decode cX3_readSum 16 = .ok (.ifCond .eq 73, 3) := by decide +kernel
theorem dX3_readSum_19 : decode cX3_readSum 19 = .ok (.aload_n 0, 1) := by decide +kernel
theorem dX3_readSum_20 : decode cX3_readSum 20 = .ok (.getfield 19, 3) := by decide +kernel
theorem dX3_readSum_23 : decode cX3_readSum 23 = .ok (.bipush 43, 2) := by decide +kernel
theorem dX3_readSum_25 : decode cX3_readSum 25 = .ok (.invokevirtual 70, 3) := by decide +kernel
theorem dX3_readSum_28 : decode cX3_readSum 28 = .ok (.ifCond .ne 15, 3) := by decide +kernel
theorem dX3_readSum_31 : decode cX3_readSum 31 = .ok (.aload_n 0, 1) := by decide +kernel
theorem dX3_readSum_32 : decode cX3_readSum 32 = .ok (.getfield 19, 3) := by decide +kernel
theorem dX3_readSum_35 : decode cX3_readSum 35 = .ok (.bipush 45, 2) := by decide +kernel
theorem dX3_readSum_37 : decode cX3_readSum 37 = .ok (.invokevirtual 70, 3) := by decide +kernel
theorem dX3_readSum_40 : decode cX3_readSum 40 = .ok (.ifCond .eq 49, 3) := by decide +kernel
theorem dX3_readSum_43 : decode cX3_readSum 43 = .ok (.aload_n 0, 1) := by decide +kernel
theorem dX3_readSum_44 : decode cX3_readSum 44 = .ok (.getfield 19, 3) := by decide +kernel
theorem dX3_readSum_47 : decode cX3_readSum 47 = .ok (.bipush 43, 2) := by decide +kernel
theorem dX3_readSum_49 : decode cX3_readSum 49 = .ok (.invokevirtual 70, 3) := by decide +kernel
theorem dX3_readSum_52 : decode cX3_readSum 52 = .ok (.ifCond .eq 7, 3) := by decide +kernel
theorem dX3_readSum_55 : decode cX3_readSum 55 = .ok (.iconst 5, 1) := by decide +kernel
theorem dX3_readSum_56 : decode cX3_readSum 56 = .ok (.goto 5, 3) := by decide +kernel
theorem dX3_readSum_59 : decode cX3_readSum 59 = .ok (.bipush 6, 2) := by decide +kernel
theorem dX3_readSum_61 : decode cX3_readSum 61 = .ok (.istore 4, 2) := by decide +kernel
theorem dX3_readSum_63 : decode cX3_readSum 63 = .ok (.aload_n 0, 1) := by decide +kernel
theorem dX3_readSum_64 : decode cX3_readSum 64 = .ok (.getfield 19, 3) := by decide +kernel
theorem dX3_readSum_67 : decode cX3_readSum 67 = .ok (.invokevirtual 49, 3) := by decide +kernel
theorem dX3_readSum_70 : decode cX3_readSum 70 = .ok (.aload_n 0, 1) := by decide +kernel
theorem dX3_readSum_71 : decode cX3_readSum 71 = .ok (.iload_n 1, 1) := by decide +kernel
theorem dX3_readSum_72 : decode cX3_readSum 72 = .ok (.invokevirtual 83, 3) := by decide +kernel
theorem dX3_readSum_75 : decode cX3_readSum 75 = .ok (.istore_n 2, 1) := by decide +kernel
theorem dX3_readSum_76 : decode cX3_readSum 76 = .ok (.aload_n 0, 1) := by decide +kernel
theorem dX3_readSum_77 : decode cX3_readSum 77 = .ok (.iload 4, 2) := by decide +kernel
theorem dX3_readSum_79 : decode cX3_readSum 79 = .ok (.iconst 0, 1) := by decide +kernel
theorem dX3_readSum_80 : decode cX3_readSum 80 = .ok (.invokevirtual 52, 3) := by decide +kernel
theorem dX3_readSum_83 : decode cX3_readSum 83 = .ok (.iinc 3 1, 3) := by decide +kernel
theorem dX3_readSum_86 : decode cX3_readSum 86 = .ok (.goto (-78), 3) := by decide +kernel
theorem dX3_readSum_89 : decode cX3_readSum 89 = .ok (.iload_n 2, 1) := by decide +kernel
theorem dX3_readSum_90 : decode cX3_readSum 90 = .ok (.ireturn, 1) := by decide +kernel
theorem dX3_readTerm_0 : decode cX3_readTerm 0 = .ok (.aload_n 0, 1) := by decide +kernel
theorem dX3_readTerm_1 : decode cX3_readTerm 1 = .ok (.iload_n 1, 1) := by decide +kernel
theorem dX3_readTerm_2 : decode cX3_readTerm 2 = .ok (.invokevirtual 86, 3) := by decide +kernel
theorem dX3_readTerm_5 : decode cX3_readTerm 5 = .ok (.istore_n 2, 1) := by decide +kernel
theorem dX3_readTerm_6 : decode cX3_readTerm 6 = .ok (.iconst 0, 1) := by decide +kernel
theorem dX3_readTerm_7 : decode cX3_readTerm 7 = .ok (.istore_n 3, 1) := by decide +kernel
theorem dX3_readTerm_8 : decode cX3_readTerm 8 = .ok (.iload_n 3, 1) := by decide +kernel
theorem dX3_readTerm_9 : decode cX3_readTerm 9 = .ok (.sipush 900, 3) := by decide +kernel
theorem dX3_readTerm_12 : decode cX3_readTerm 12 = .ok (.if_icmp .ge 45, 3) := by decide +kernel
theorem dX3_readTerm_15 : decode cX3_readTerm 15 = .ok (.iload_n 2, 1) := by decide +kernel
theorem dX3_readTerm_16 : decode cX3_readTerm 16 = .ok (.ifCond .eq 41, 3) := by decide +kernel
theorem dX3_readTerm_19 : decode cX3_readTerm 19 = .ok (.aload_n 0, 1) := by decide +kernel
theorem dX3_readTerm_20 : decode cX3_readTerm 20 = .ok (.getfield 19, 3) := by decide +kernel
theorem dX3_readTerm_23 : decode cX3_readTerm 23 = .ok (.bipush 42, 2) := by decide +kernel
theorem dX3_readTerm_25 : decode cX3_readTerm 25 = .ok (.invokevirtual 70, 3) := by decide +kernel
theorem dX3_readTerm_28 : decode cX3_readTerm 28 = .ok (.ifCond .eq 29, 3) := by decide +kernel
theorem dX3_readTerm_31 : decode cX3_readTerm 31 = .ok (.aload_n 0, 1) := by decide +kernel
theorem dX3_readTerm_32 : decode cX3_readTerm 32 = .ok (.getfield 19, 3) := by decide +kernel
theorem dX3_readTerm_35 : decode cX3_readTerm 35 = .ok (.invokevirtual 49, 3) := by decide +kernel
theorem dX3_readTerm_38 : decode cX3_readTerm 38 = .ok (.aload_n 0, 1) := by decide +kernel
theorem dX3_readTerm_39 : decode cX3_readTerm 39 = .ok (.iload_n 1, 1) := by decide +kernel
theorem dX3_readTerm_40 : decode cX3_readTerm 40 = .ok (.invokevirtual 86, 3) := by decide +kernel
theorem dX3_readTerm_43 : decode cX3_readTerm 43 = .ok (.istore_n 2, 1) := by decide +kernel
theorem dX3_readTerm_44 : decode cX3_readTerm 44 = .ok (.aload_n 0, 1) := by decide +kernel
theorem dX3_readTerm_45 : decode cX3_readTerm 45 = .ok (.bipush 7, 2) := by decide +kernel
theorem dX3_readTerm_47 : decode cX3_readTerm 47 = .ok (.iconst 0, 1) := by decide +kernel
theorem dX3_readTerm_48 : decode cX3_readTerm 48 = .ok (.invokevirtual 52, 3) := by decide +kernel
theorem dX3_readTerm_51 : decode cX3_readTerm 51 = .ok (.iinc 3 1, 3) := by decide +kernel
theorem dX3_readTerm_54 : decode cX3_readTerm 54 = .ok (.goto (-46), 3) := by decide +kernel
theorem dX3_readTerm_57 : decode cX3_readTerm 57 = .ok (.iload_n 2, 1) := by decide +kernel
theorem dX3_readTerm_58 : decode cX3_readTerm 58 = .ok (.ireturn, 1) := by decide +kernel
theorem dX3_readTruth_0 : decode cX3_readTruth 0 = .ok (.aload_n 0, 1) := by decide +kernel
theorem dX3_readTruth_1 : decode cX3_readTruth 1 = .ok (.iload_n 1, 1) := by decide +kernel
theorem dX3_readTruth_2 : decode cX3_readTruth 2 = .ok (.invokevirtual 38, 3) := by decide +kernel
theorem dX3_readTruth_5 : decode cX3_readTruth 5 = .ok (.istore_n 2, 1) := by decide +kernel
theorem dX3_readTruth_6 : decode cX3_readTruth 6 = .ok (.iconst 0, 1) := by decide +kernel
theorem dX3_readTruth_7 : decode cX3_readTruth 7 = .ok (.istore_n 3, 1) := by decide +kernel
theorem dX3_readTruth_8 : decode cX3_readTruth 8 = .ok (.iload_n 3, 1) := by decide +kernel
theorem dX3_readTruth_9 : decode cX3_readTruth 9 = .ok (.sipush 900, 3) := by decide +kernel
theorem dX3_readTruth_12 : decode cX3_readTruth 12 = .ok (.if_icmp .ge 56, 3) := by decide +kernel
theorem dX3_readTruth_15 : decode cX3_readTruth 15 = .ok (.iload_n 2, 1) := by decide +kernel
theorem dX3_readTruth_16 : decode cX3_readTruth 16 = .ok (.ifCond .eq 52, 3) := by decide +kernel
theorem dX3_readTruth_19 : decode cX3_readTruth 19 = .ok (.aload_n 0, 1) := by decide +kernel
theorem dX3_readTruth_20 : decode cX3_readTruth 20 = .ok (.getfield 19, 3) := by decide +kernel
theorem dX3_readTruth_23 : decode cX3_readTruth 23 = .ok (.ldc 41, 2) := by decide +kernel
theorem dX3_readTruth_25 : decode cX3_readTruth 25 = .ok (.invokevirtual 43, 3) := by decide +kernel
theorem dX3_readTruth_28 : decode cX3_readTruth 28 = .ok (.ifCond .eq 40, 3) := by decide +kernel
theorem dX3_readTruth_31 : decode cX3_readTruth 31 = .ok (.aload_n 0, 1) := by decide +kernel
theorem dX3_readTruth_32 : decode cX3_readTruth 32 = .ok (.getfield 19, 3) := by decide +kernel
theorem dX3_readTruth_35 : decode cX3_readTruth 35 = .ok (.invokevirtual 49, 3) := by decide +kernel
theorem dX3_readTruth_38 : decode cX3_readTruth 38 = .ok (.aload_n 0, 1) := by decide +kernel
theorem dX3_readTruth_39 : decode cX3_readTruth 39 = .ok (.getfield 15, 3) := by decide +kernel
theorem dX3_readTruth_42 : decode cX3_readTruth 42 = .ok (.istore 4, 2) := by decide +kernel
theorem dX3_readTruth_44 : decode cX3_readTruth 44 = .ok (.aload_n 0, 1) := by decide +kernel
theorem dX3_readTruth_45 : decode cX3_readTruth 45 = .ok (.iconst 4, 1) := by decide +kernel
theorem dX3_readTruth_46 : decode cX3_readTruth 46 = .ok (.iconst 0, 1) := by decide +kernel
theorem dX3_readTruth_47 : decode cX3_readTruth 47 = .ok (.invokevirtual 52, 3) := by decide +kernel
theorem dX3_readTruth_50 : decode cX3_readTruth 50 = .ok (.aload_n 0, 1) := by decide +kernel
theorem dX3_readTruth_51 : decode cX3_readTruth 51 = .ok (.iload_n 1, 1) := by decide +kernel
theorem dX3_readTruth_52 : decode cX3_readTruth 52 = .ok (.invokevirtual 38, 3) := by decide +kernel
theorem dX3_readTruth_55 : decode cX3_readTruth 55 = .ok (.istore_n 2, 1) := by decide +kernel
theorem dX3_readTruth_56 : decode cX3_readTruth 56 = .ok (.aload_n 0, 1) := by decide +kernel
theorem dX3_readTruth_57 : decode cX3_readTruth 57 = .ok (.iload 4, 2) := by decide +kernel
theorem dX3_readTruth_59 : decode cX3_readTruth 59 = .ok (.invokevirtual 56, 3) := by decide +kernel
theorem dX3_readTruth_62 : decode cX3_readTruth 62 = .ok (.iinc 3 1, 3) := by decide +kernel
theorem dX3_readTruth_65 : decode cX3_readTruth 65 = .ok (.goto (-57), 3) := by decide +kernel
theorem dX3_readTruth_68 : decode cX3_readTruth 68 = .ok (.iload_n 2, 1) := by decide +kernel
theorem dX3_readTruth_69 : decode cX3_readTruth 69 = .ok (.ireturn, 1) := by decide +kernel
theorem dX3_readUnit_0 : decode cX3_readUnit 0 = .ok (.aload_n 0, 1) := by decide +kernel
theorem dX3_readUnit_1 : decode cX3_readUnit 1 = .ok (.getfield 19, 3) := by decide +kernel
theorem dX3_readUnit_4 : decode cX3_readUnit 4 = .ok (.ldc 65, 2) := by decide +kernel
theorem dX3_readUnit_6 : decode cX3_readUnit 6 = .ok (.invokevirtual 43, 3) := by decide +kernel
theorem dX3_readUnit_9 : decode cX3_readUnit 9 = .ok (.ifCond .eq 31, 3) := by decide +kernel
theorem dX3_readUnit_12 : decode cX3_readUnit 12 = .ok (.aload_n 0, 1) := by decide +kernel
theorem dX3_readUnit_13 : decode cX3_readUnit 13 = .ok (.iload_n 1, 1) := by decide +kernel
theorem dX3_readUnit_14 : decode cX3_readUnit 14 = .ok (.invokevirtual 67, 3) := by decide +kernel
theorem dX3_readUnit_17 : decode cX3_readUnit 17 = .ok (.ifCond .eq 13, 3) := by decide +kernel
theorem dX3_readUnit_20 : decode cX3_readUnit 20 = .ok (.aload_n 0, 1) := by decide +kernel
theorem dX3_readUnit_21 : decode cX3_readUnit 21 = .ok (.iload_n 1, 1) := by decide +kernel
theorem dX3_readUnit_22 : decode cX3_readUnit 22 = .ok (.iconst 1, 1) := by decide +kernel
theorem dX3_readUnit_23 : decode cX3_readUnit 23 = .ok (.iadd, 1) := by decide +kernel
theorem dX3_readUnit_24 : decode cX3_readUnit 24 = .ok (.invokevirtual 60, 3) := by decide +kernel
theorem dX3_readUnit_27 : decode cX3_readUnit 27 = .ok (.ifCond .ne 5, 3) := by decide +kernel
theorem dX3_readUnit_30 : decode cX3_readUnit 30 = .ok (.iconst 0, 1) := by decide +kernel
theorem dX3_readUnit_31 : decode cX3_readUnit 31 = .ok (.ireturn, 1) := by decide +kernel
theorem dX3_readUnit_32 : decode cX3_readUnit 32 = .ok (.aload_n 0, 1) := by decide +kernel
theorem dX3_readUnit_33 : decode cX3_readUnit 33 = .ok (.iconst 2, 1) := by decide +kernel
theorem dX3_readUnit_34 : decode cX3_readUnit 34 = .ok (.iconst 0, 1) := by decide +kernel
theorem dX3_readUnit_35 : decode cX3_readUnit 35 = .ok (.invokevirtual 52, 3) := by decide +kernel
theorem dX3_readUnit_38 : decode cX3_readUnit 38 = .ok (.iconst 1, 1) := by decide +kernel
theorem dX3_readUnit_39 : decode cX3_readUnit 39 = .ok (.ireturn, 1) := by decide +kernel
theorem dX3_readUnit_40 : decode cX3_readUnit 40 = .ok (.aload_n 0, 1) := by decide +kernel
theorem dX3_readUnit_41 : decode cX3_readUnit 41 = .ok (.getfield 19, 3) := by decide +kernel
theorem dX3_readUnit_44 : decode cX3_readUnit 44 = .ok (.bipush 91, 2) := by decide +kernel
theorem dX3_readUnit_46 : decode cX3_readUnit 46 = .ok (.invokevirtual 70, 3) := by decide +kernel
theorem dX3_readUnit_49 : decode cX3_readUnit 49 = .ok (.ifCond .eq 39, 3) := by decide +kernel
theorem dX3_readUnit_52 : decode cX3_readUnit 52 = .ok (.aload_n 0, 1) := by decide +kernel
theorem dX3_readUnit_53 : decode cX3_readUnit 53 = .ok (.iload_n 1, 1) := by decide +kernel
theorem dX3_readUnit_54 : decode cX3_readUnit 54 = .ok (.invokevirtual 67, 3) := by decide +kernel
theorem dX3_readUnit_57 : decode cX3_readUnit 57 = .ok (.ifCond .eq 29, 3) := by decide +kernel
theorem dX3_readUnit_60 : decode cX3_readUnit 60 = .ok (.aload_n 0, 1) := by decide +kernel
theorem dX3_readUnit_61 : decode cX3_readUnit 61 = .ok (.iload_n 1, 1) := by decide +kernel
theorem dX3_readUnit_62 : decode cX3_readUnit 62 = .ok (.iconst 1, 1) := by decide +kernel
theorem dX3_readUnit_63 : decode cX3_readUnit 63 = .ok (.iadd, 1) := by decide +kernel
theorem dX3_readUnit_64 : decode cX3_readUnit 64 = .ok (.invokevirtual 23, 3) := by decide +kernel
theorem dX3_readUnit_67 : decode cX3_readUnit 67 = .ok (.ifCond .eq 19, 3) := by decide +kernel
theorem dX3_readUnit_70 : decode cX3_readUnit 70 = .ok (.aload_n 0, 1) := by decide +kernel
theorem dX3_readUnit_71 : decode cX3_readUnit 71 = .ok (.getfield 19, 3) := by decide +kernel
theorem dX3_readUnit_74 : decode cX3_readUnit 74 = .ok (.bipush 93, 2) := by decide +kernel
theorem dX3_readUnit_76 : decode cX3_readUnit 76 = .ok (.invokevirtual 74, 3) := by decide +kernel
theorem dX3_readUnit_79 : decode cX3_readUnit 79 = .ok (.ifCond .eq 7, 3) := by decide +kernel
theorem dX3_readUnit_82 : decode cX3_readUnit 82 = .ok (.iconst 1, 1) := by decide +kernel
theorem dX3_readUnit_83 : decode cX3_readUnit 83 = .ok (.goto 4, 3) := by decide +kernel
theorem dX3_readUnit_86 : decode cX3_readUnit 86 = .ok (.iconst 0, 1) := by decide +kernel
theorem dX3_readUnit_87 : decode cX3_readUnit 87 = .ok (.ireturn, 1) := by decide +kernel
theorem dX3_readUnit_88 : decode cX3_readUnit 88 = .ok (.aload_n 0, 1) := by decide +kernel
theorem dX3_readUnit_89 : decode cX3_readUnit 89 = .ok (.iload_n 1, 1) := by decide +kernel
theorem dX3_readUnit_90 : decode cX3_readUnit 90 = .ok (.invokevirtual 77, 3) := by decide +kernel
theorem dX3_readUnit_93 : decode cX3_readUnit 93 = .ok (.ifCond .ne 5, 3) := by decide +kernel
theorem dX3_readUnit_96 : decode cX3_readUnit 96 = .ok (.iconst 0, 1) := by decide +kernel
theorem dX3_readUnit_97 : decode cX3_readUnit 97 = .ok (.ireturn, 1) := by decide +kernel
theorem dX3_readUnit_98 : decode cX3_readUnit 98 = .ok (.aload_n 0, 1) := by decide +kernel
theorem dX3_readUnit_99 : decode cX3_readUnit 99 = .ok (.getfield 19, 3) := by decide +kernel
theorem dX3_readUnit_102 : decode cX3_readUnit 102 = .ok (.bipush 61, 2) := by decide +kernel
theorem dX3_readUnit_104 : decode cX3_readUnit 104 = .ok (.invokevirtual 70, 3) := by decide +kernel
theorem dX3_readUnit_107 : decode cX3_readUnit 107 = .ok (.ifCond .eq 8, 3) := by decide +kernel
theorem dX3_readUnit_110 : decode cX3_readUnit 110 = .ok (.bipush 8, 2) := by decide +kernel
theorem dX3_readUnit_112 : decode cX3_readUnit 112 = .ok (.goto 22, 3) := by decide +kernel
theorem dX3_readUnit_115 : decode cX3_readUnit 115 = .ok (.aload_n 0, 1) := by decide +kernel
theorem dX3_readUnit_116 : decode cX3_readUnit 116 = .ok (.getfield 19, 3) := by decide +kernel
theorem dX3_readUnit_119 : decode cX3_readUnit 119 = .ok (.bipush 60, 2) := by decide +kernel
theorem dX3_readUnit_121 : decode cX3_readUnit 121 = .ok (.invokevirtual 70, 3) := by decide +kernel
theorem dX3_readUnit_124 : decode cX3_readUnit 124 = .ok (.ifCond .eq 8, 3) := by decide +kernel
theorem dX3_readUnit_127 : decode cX3_readUnit 127 = .ok (.bipush 9, 2) := by decide +kernel
theorem dX3_readUnit_129 : decode cX3_readUnit 129 = .ok (.goto 5, 3) := by decide +kernel
theorem dX3_readUnit_132 : decode cX3_readUnit 132 = .ok (.bipush 10, 2) := by decide +kernel
theorem dX3_readUnit_134 : decode cX3_readUnit 134 = .ok (.istore_n 2, 1) := by decide +kernel
theorem dX3_readUnit_135 : decode cX3_readUnit 135 = .ok (.iload_n 2, 1) := by decide +kernel
theorem dX3_readUnit_136 : decode cX3_readUnit 136 = .ok (.bipush 10, 2) := by decide +kernel
theorem dX3_readUnit_138 : decode cX3_readUnit 138 = .ok (.if_icmp .ne 24, 3) := by decide +kernel
theorem dX3_readUnit_141 : decode cX3_readUnit 141 = .ok (.aload_n 0, 1) := by decide +kernel
theorem dX3_readUnit_142 : decode cX3_readUnit 142 = .ok (.getfield 19, 3) := by decide +kernel
theorem dX3_readUnit_145 : decode cX3_readUnit 145 = .ok (.bipush 62, 2) := by decide +kernel
theorem dX3_readUnit_147 : decode cX3_readUnit 147 = .ok (.invokevirtual 70, 3) := by decide +kernel
theorem dX3_readUnit_150 : decode cX3_readUnit 150 = .ok (.ifCond .ne 12, 3) := by decide +kernel
theorem dX3_readUnit_153 : decode cX3_readUnit 153 = .ok (.aload_n 0, 1) := by decide +kernel
theorem dX3_readUnit_154 : decode cX3_readUnit 154 = .ok (.getfield 19, 3) := by decide +kernel
theorem dX3_readUnit_157 : decode cX3_readUnit 157 = .ok (.iconst 2, 1) := by decide +kernel
theorem dX3_readUnit_158 : decode cX3_readUnit 158 = .ok (.invokevirtual 80, 3) := by decide +kernel
theorem dX3_readUnit_161 : decode cX3_readUnit 161 = .ok (.ireturn, 1) := by decide +kernel
theorem dX3_readUnit_162 : decode cX3_readUnit 162 = .ok (.aload_n 0, 1) := by decide +kernel
theorem dX3_readUnit_163 : decode cX3_readUnit 163 = .ok (.getfield 19, 3) := by decide +kernel
theorem dX3_readUnit_166 : decode cX3_readUnit 166 = .ok (.invokevirtual 49, 3) := by decide +kernel
theorem dX3_readUnit_169 : decode cX3_readUnit 169 = .ok (.aload_n 0, 1) := by decide +kernel
theorem dX3_readUnit_170 : decode cX3_readUnit 170 = .ok (.iload_n 1, 1) := by decide +kernel
theorem dX3_readUnit_171 : decode cX3_readUnit 171 = .ok (.invokevirtual 77, 3) := by decide +kernel
theorem dX3_readUnit_174 : decode cX3_readUnit 174 = .ok (.ifCond .ne 5, 3) := by decide +kernel
theorem dX3_readUnit_177 : decode cX3_readUnit 177 = .ok (.iconst 0, 1) := by decide +kernel
theorem dX3_readUnit_178 : decode cX3_readUnit 178 = .ok (.ireturn, 1) := by decide +kernel
theorem dX3_readUnit_179 : decode cX3_readUnit 179 = .ok (.aload_n 0, 1) := by decide +kernel
theorem dX3_readUnit_180 : decode cX3_readUnit 180 = .ok (.iload_n 2, 1) := by decide +kernel
theorem dX3_readUnit_181 : decode cX3_readUnit 181 = .ok (.iconst 0, 1) := by decide +kernel
theorem dX3_readUnit_182 : decode cX3_readUnit 182 = .ok (.invokevirtual 52, 3) := by decide +kernel
theorem dX3_readUnit_185 : decode cX3_readUnit 185 = .ok (.iconst 1, 1) := by decide +kernel
theorem dX3_readUnit_186 : decode cX3_readUnit 186 = .ok (.ireturn, 1) := by decide +kernel
theorem kw_4 : Cond.initialized "FootholdWall$LawReader" ∈ gw := gw_of (tb_of 4 (by decide +kernel)) (by decide +kernel)
theorem kw_50 : Cond.fieldLink "FootholdWall$LawReader" 89 "FootholdWall$Tokens" "kind" "I" ∈ gw := gw_of (tb_of 50 (by decide +kernel)) (by decide +kernel)
theorem kw_53 : Cond.fieldLink "FootholdWall$LawReader" 92 "FootholdWall$Tokens" "value" "I" ∈ gw := gw_of (tb_of 53 (by decide +kernel)) (by decide +kernel)
theorem kw_82 : Cond.fieldLink "FootholdWall$LawReader" 19 "FootholdWall$LawReader" "tokens" "LFootholdWall$Tokens;" ∈ gw := gw_of (tb_of 82 (by decide +kernel)) (by decide +kernel)
theorem kw_83 : Cond.fieldLink "FootholdWall$LawReader" 9 "FootholdWall$LawReader" "code" "[I" ∈ gw := gw_of (tb_of 83 (by decide +kernel)) (by decide +kernel)
theorem kw_84 : Cond.fieldLink "FootholdWall$LawReader" 15 "FootholdWall$LawReader" "length" "I" ∈ gw := gw_of (tb_of 84 (by decide +kernel)) (by decide +kernel)
theorem kw_611 : Cond.instanceMethod yX7_takeSign ∈ gw := gw_of (tb_of 611 (by decide +kernel)) (by decide +kernel)
theorem kw_612 : Cond.selects "FootholdWall$Tokens" yX7_takeSign yX7_takeSign ∈ gw := gw_of (tb_of 612 (by decide +kernel)) (by decide +kernel)
theorem kw_613 : Cond.code yX7_takeSign cX7_takeSign 2 (some (.boolean)) ∈ gw := gw_of (tb_of 613 (by decide +kernel)) (by decide +kernel)
theorem kw_622 : Cond.methodLink "FootholdWall$LawReader" 23 yX3_readTruth ∈ gw := gw_of (tb_of 622 (by decide +kernel)) (by decide +kernel)
theorem kw_624 : Cond.instanceMethod yX3_readTruth ∈ gw := gw_of (tb_of 624 (by decide +kernel)) (by decide +kernel)
theorem kw_625 : Cond.code yX3_readTruth cX3_readTruth 5 (some (.boolean)) ∈ gw := gw_of (tb_of 625 (by decide +kernel)) (by decide +kernel)
theorem kw_626 : Cond.methodLink "FootholdWall$LawReader" 38 yX3_readBoth ∈ gw := gw_of (tb_of 626 (by decide +kernel)) (by decide +kernel)
theorem kw_628 : Cond.instanceMethod yX3_readBoth ∈ gw := gw_of (tb_of 628 (by decide +kernel)) (by decide +kernel)
theorem kw_629 : Cond.code yX3_readBoth cX3_readBoth 5 (some (.boolean)) ∈ gw := gw_of (tb_of 629 (by decide +kernel)) (by decide +kernel)
theorem kw_630 : Cond.methodLink "FootholdWall$LawReader" 60 yX3_readUnit ∈ gw := gw_of (tb_of 630 (by decide +kernel)) (by decide +kernel)
theorem kw_632 : Cond.instanceMethod yX3_readUnit ∈ gw := gw_of (tb_of 632 (by decide +kernel)) (by decide +kernel)
theorem kw_633 : Cond.code yX3_readUnit cX3_readUnit 3 (some (.boolean)) ∈ gw := gw_of (tb_of 633 (by decide +kernel)) (by decide +kernel)
theorem kw_635 : Cond.methodLink "FootholdWall$LawReader" 43 yX7_isWord ∈ gw := gw_of (tb_of 635 (by decide +kernel)) (by decide +kernel)
theorem kw_636 : Cond.methodLink "FootholdWall$LawReader" 67 yX3_enter ∈ gw := gw_of (tb_of 636 (by decide +kernel)) (by decide +kernel)
theorem kw_638 : Cond.instanceMethod yX3_enter ∈ gw := gw_of (tb_of 638 (by decide +kernel)) (by decide +kernel)
theorem kw_639 : Cond.code yX3_enter cX3_enter 2 (some (.boolean)) ∈ gw := gw_of (tb_of 639 (by decide +kernel)) (by decide +kernel)
theorem kw_640 : Cond.methodLink "FootholdWall$LawReader" 80 yX7_refuse ∈ gw := gw_of (tb_of 640 (by decide +kernel)) (by decide +kernel)
theorem kw_641 : Cond.methodLink "FootholdWall$LawReader" 49 yX7_go ∈ gw := gw_of (tb_of 641 (by decide +kernel)) (by decide +kernel)
theorem kw_642 : Cond.methodLink "FootholdWall$LawReader" 52 yX3_put ∈ gw := gw_of (tb_of 642 (by decide +kernel)) (by decide +kernel)
theorem kw_644 : Cond.instanceMethod yX3_put ∈ gw := gw_of (tb_of 644 (by decide +kernel)) (by decide +kernel)
theorem kw_645 : Cond.code yX3_put cX3_put 3 none ∈ gw := gw_of (tb_of 645 (by decide +kernel)) (by decide +kernel)
theorem kw_646 : Cond.methodLink "FootholdWall$LawReader" 70 yX7_isSign ∈ gw := gw_of (tb_of 646 (by decide +kernel)) (by decide +kernel)
theorem kw_647 : Cond.methodLink "FootholdWall$LawReader" 74 yX7_takeSign ∈ gw := gw_of (tb_of 647 (by decide +kernel)) (by decide +kernel)
theorem kw_648 : Cond.methodLink "FootholdWall$LawReader" 77 yX3_readSum ∈ gw := gw_of (tb_of 648 (by decide +kernel)) (by decide +kernel)
theorem kw_650 : Cond.instanceMethod yX3_readSum ∈ gw := gw_of (tb_of 650 (by decide +kernel)) (by decide +kernel)
theorem kw_651 : Cond.code yX3_readSum cX3_readSum 5 (some (.boolean)) ∈ gw := gw_of (tb_of 651 (by decide +kernel)) (by decide +kernel)
theorem kw_652 : Cond.methodLink "FootholdWall$LawReader" 83 yX3_readTerm ∈ gw := gw_of (tb_of 652 (by decide +kernel)) (by decide +kernel)
theorem kw_654 : Cond.instanceMethod yX3_readTerm ∈ gw := gw_of (tb_of 654 (by decide +kernel)) (by decide +kernel)
theorem kw_655 : Cond.code yX3_readTerm cX3_readTerm 4 (some (.boolean)) ∈ gw := gw_of (tb_of 655 (by decide +kernel)) (by decide +kernel)
theorem kw_656 : Cond.methodLink "FootholdWall$LawReader" 86 yX3_readAtom ∈ gw := gw_of (tb_of 656 (by decide +kernel)) (by decide +kernel)
theorem kw_658 : Cond.instanceMethod yX3_readAtom ∈ gw := gw_of (tb_of 658 (by decide +kernel)) (by decide +kernel)
theorem kw_659 : Cond.code yX3_readAtom cX3_readAtom 3 (some (.boolean)) ∈ gw := gw_of (tb_of 659 (by decide +kernel)) (by decide +kernel)
theorem kw_660 : Cond.methodLink "FootholdWall$LawReader" 95 yX3_factHere ∈ gw := gw_of (tb_of 660 (by decide +kernel)) (by decide +kernel)
theorem kw_662 : Cond.instanceMethod yX3_factHere ∈ gw := gw_of (tb_of 662 (by decide +kernel)) (by decide +kernel)
theorem kw_663 : Cond.code yX3_factHere cX3_factHere 1 (some (.int)) ∈ gw := gw_of (tb_of 663 (by decide +kernel)) (by decide +kernel)
theorem kw_672 : Cond.methodLink "FootholdWall$LawReader" 56 yX3_aimSkip ∈ gw := gw_of (tb_of 672 (by decide +kernel)) (by decide +kernel)
theorem kw_674 : Cond.instanceMethod yX3_aimSkip ∈ gw := gw_of (tb_of 674 (by decide +kernel)) (by decide +kernel)
theorem kw_675 : Cond.code yX3_aimSkip cX3_aimSkip 2 none ∈ gw := gw_of (tb_of 675 (by decide +kernel)) (by decide +kernel)
theorem ks_5 : Cond.selects RX3 yX3_readTruth yX3_readTruth ∈ gw := gw_of (pv_of 5 (by decide +kernel)) (by decide +kernel)
theorem ks_6 : Cond.selects RX3 yX3_readBoth yX3_readBoth ∈ gw := gw_of (pv_of 6 (by decide +kernel)) (by decide +kernel)
theorem ks_7 : Cond.selects RX3 yX3_readUnit yX3_readUnit ∈ gw := gw_of (pv_of 7 (by decide +kernel)) (by decide +kernel)
theorem ks_8 : Cond.selects RX3 yX3_enter yX3_enter ∈ gw := gw_of (pv_of 8 (by decide +kernel)) (by decide +kernel)
theorem ks_9 : Cond.selects RX3 yX3_put yX3_put ∈ gw := gw_of (pv_of 9 (by decide +kernel)) (by decide +kernel)
theorem ks_10 : Cond.selects RX3 yX3_readSum yX3_readSum ∈ gw := gw_of (pv_of 10 (by decide +kernel)) (by decide +kernel)
theorem ks_11 : Cond.selects RX3 yX3_readTerm yX3_readTerm ∈ gw := gw_of (pv_of 11 (by decide +kernel)) (by decide +kernel)
theorem ks_12 : Cond.selects RX3 yX3_readAtom yX3_readAtom ∈ gw := gw_of (pv_of 12 (by decide +kernel)) (by decide +kernel)
theorem ks_13 : Cond.selects RX3 yX3_factHere yX3_factHere ∈ gw := gw_of (pv_of 13 (by decide +kernel)) (by decide +kernel)
theorem ks_14 : Cond.selects RX3 yX3_aimSkip yX3_aimSkip ∈ gw := gw_of (pv_of 14 (by decide +kernel)) (by decide +kernel)
