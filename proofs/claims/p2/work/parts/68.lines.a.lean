theorem dX12_breaksOf_0 : decode cX12_breaksOf 0 = .ok (.aload_n 0, 1) := by decide +kernel
theorem dX12_breaksOf_1 : decode cX12_breaksOf 1 = .ok (.bipush 87, 2) := by decide +kernel
theorem dX12_breaksOf_3 : decode cX12_breaksOf 3 = .ok (.dup2, 1) := by decide +kernel
theorem dX12_breaksOf_4 : decode cX12_breaksOf 4 = .ok (.iaload, 1) := by decide +kernel
theorem dX12_breaksOf_5 : decode cX12_breaksOf 5 = .ok (.iconst 1, 1) := by decide +kernel
theorem dX12_breaksOf_6 : decode cX12_breaksOf 6 = .ok (.iload_n 1, 1) := by decide +kernel
theorem dX12_breaksOf_7 : decode cX12_breaksOf 7 = .ok (.ishl, 1) := by decide +kernel
theorem dX12_breaksOf_8 : decode cX12_breaksOf 8 = .ok (.ior, 1) := by decide +kernel
theorem dX12_breaksOf_9 : decode cX12_breaksOf 9 = .ok (.iastore, 1) := by decide +kernel
theorem dX12_breaksOf_10 : decode cX12_breaksOf 10 = .ok (.aload_n 0, 1) := by decide +kernel
theorem dX12_breaksOf_11 : decode cX12_breaksOf 11 = .ok (.bipush 59, 2) := by decide +kernel
theorem dX12_breaksOf_13 : decode cX12_breaksOf 13 = .ok (.iload_n 1, 1) := by decide +kernel
theorem dX12_breaksOf_14 : decode cX12_breaksOf 14 = .ok (.iadd, 1) := by decide +kernel
theorem dX12_breaksOf_15 : decode cX12_breaksOf 15 = .ok (.iconst (-1), 1) := by decide +kernel
theorem dX12_breaksOf_16 : decode cX12_breaksOf 16 = .ok (.iastore, 1) := by decide +kernel
theorem dX12_breaksOf_17 : decode cX12_breaksOf 17 = .ok (.aload_n 0, 1) := by decide +kernel
theorem dX12_breaksOf_18 : decode cX12_breaksOf 18 = .ok (.bipush 73, 2) := by decide +kernel
theorem dX12_breaksOf_20 : decode cX12_breaksOf 20 = .ok (.iload_n 1, 1) := by decide +kernel
theorem dX12_breaksOf_21 : decode cX12_breaksOf 21 = .ok (.iadd, 1) := by decide +kernel
theorem dX12_breaksOf_22 : decode cX12_breaksOf 22 = .ok (.iconst (-1), 1) := by decide +kernel
theorem dX12_breaksOf_23 : decode cX12_breaksOf 23 = .ok (.iastore, 1) := by decide +kernel
theorem dX12_breaksOf_24 : decode cX12_breaksOf 24 = .ok (.return_, 1) := by decide +kernel
theorem dX12_plain_0 : decode cX12_plain 0 = .ok (.iconst 0, 1) := by decide +kernel
theorem dX12_plain_1 : decode cX12_plain 1 = .ok (.istore_n 1, 1) := by decide +kernel
theorem dX12_plain_2 : decode cX12_plain 2 = .ok (.iload_n 1, 1) := by decide +kernel
theorem dX12_plain_3 : decode cX12_plain 3 = .ok (.sipush 1302, 3) := by decide +kernel
theorem dX12_plain_6 : decode cX12_plain 6 = .ok (.if_icmp .ge 13, 3) := by decide +kernel
theorem dX12_plain_9 : decode cX12_plain 9 = .ok (.aload_n 0, 1) := by decide +kernel
theorem dX12_plain_10 : decode cX12_plain 10 = .ok (.iload_n 1, 1) := by decide +kernel
theorem dX12_plain_11 : decode cX12_plain 11 = .ok (.iconst 0, 1) := by decide +kernel
theorem dX12_plain_12 : decode cX12_plain 12 = .ok (.iastore, 1) := by decide +kernel
theorem dX12_plain_13 : decode cX12_plain 13 = .ok (.iinc 1 1, 3) := by decide +kernel
theorem dX12_plain_16 : decode cX12_plain 16 = .ok (.goto (-14), 3) := by decide +kernel
theorem dX12_plain_19 : decode cX12_plain 19 = .ok (.iconst 0, 1) := by decide +kernel
theorem dX12_plain_20 : decode cX12_plain 20 = .ok (.istore_n 1, 1) := by decide +kernel
theorem dX12_plain_21 : decode cX12_plain 21 = .ok (.iload_n 1, 1) := by decide +kernel
theorem dX12_plain_22 : decode cX12_plain 22 = .ok (.bipush 14, 2) := by decide +kernel
theorem dX12_plain_24 : decode cX12_plain 24 = .ok (.if_icmp .ge 23, 3) := by decide +kernel
theorem dX12_plain_27 : decode cX12_plain 27 = .ok (.aload_n 0, 1) := by decide +kernel
theorem dX12_plain_28 : decode cX12_plain 28 = .ok (.bipush 59, 2) := by decide +kernel
theorem dX12_plain_30 : decode cX12_plain 30 = .ok (.iload_n 1, 1) := by decide +kernel
theorem dX12_plain_31 : decode cX12_plain 31 = .ok (.iadd, 1) := by decide +kernel
theorem dX12_plain_32 : decode cX12_plain 32 = .ok (.iconst (-1), 1) := by decide +kernel
theorem dX12_plain_33 : decode cX12_plain 33 = .ok (.iastore, 1) := by decide +kernel
theorem dX12_plain_34 : decode cX12_plain 34 = .ok (.aload_n 0, 1) := by decide +kernel
theorem dX12_plain_35 : decode cX12_plain 35 = .ok (.bipush 73, 2) := by decide +kernel
theorem dX12_plain_37 : decode cX12_plain 37 = .ok (.iload_n 1, 1) := by decide +kernel
theorem dX12_plain_38 : decode cX12_plain 38 = .ok (.iadd, 1) := by decide +kernel
theorem dX12_plain_39 : decode cX12_plain 39 = .ok (.iconst (-1), 1) := by decide +kernel
theorem dX12_plain_40 : decode cX12_plain 40 = .ok (.iastore, 1) := by decide +kernel
theorem dX12_plain_41 : decode cX12_plain 41 = .ok (.iinc 1 1, 3) := by decide +kernel
theorem dX12_plain_44 : decode cX12_plain 44 = .ok (.goto (-23), 3) := by decide +kernel
theorem dX12_plain_47 : decode cX12_plain 47 = .ok (.return_, 1) := by decide +kernel
theorem dX12_readFlag_0 : decode cX12_readFlag 0 = .ok (.aload_n 0, 1) := by decide +kernel
theorem dX12_readFlag_1 : decode cX12_readFlag 1 = .ok (.bipush 9, 2) := by decide +kernel
theorem dX12_readFlag_3 : decode cX12_readFlag 3 = .ok (.invokevirtual 155, 3) := by decide +kernel
theorem dX12_readFlag_6 : decode cX12_readFlag 6 = .ok (.ifCond .eq 18, 3) := by decide +kernel
theorem dX12_readFlag_9 : decode cX12_readFlag 9 = .ok (.aload_n 0, 1) := by decide +kernel
theorem dX12_readFlag_10 : decode cX12_readFlag 10 = .ok (.getfield 24, 3) := by decide +kernel
theorem dX12_readFlag_13 : decode cX12_readFlag 13 = .ok (.iconst 4, 1) := by decide +kernel
theorem dX12_readFlag_14 : decode cX12_readFlag 14 = .ok (.dup2, 1) := by decide +kernel
theorem dX12_readFlag_15 : decode cX12_readFlag 15 = .ok (.iaload, 1) := by decide +kernel
theorem dX12_readFlag_16 : decode cX12_readFlag 16 = .ok (.iconst 1, 1) := by decide +kernel
theorem dX12_readFlag_17 : decode cX12_readFlag 17 = .ok (.iload_n 1, 1) := by decide +kernel
theorem dX12_readFlag_18 : decode cX12_readFlag 18 = .ok (.ishl, 1) := by decide +kernel
theorem dX12_readFlag_19 : decode cX12_readFlag 19 = .ok (.ior, 1) := by decide +kernel
theorem dX12_readFlag_20 : decode cX12_readFlag 20 = .ok (.iastore, 1) := by decide +kernel
theorem dX12_readFlag_21 : decode cX12_readFlag 21 = .ok (.goto 92, 3) := by decide +kernel
theorem dX12_readFlag_24 : decode cX12_readFlag 24 = .ok (.aload_n 0, 1) := by decide +kernel
theorem dX12_readFlag_25 : decode cX12_readFlag 25 = .ok (.bipush 10, 2) := by decide +kernel
theorem dX12_readFlag_27 : decode cX12_readFlag 27 = .ok (.invokevirtual 155, 3) := by decide +kernel
theorem dX12_readFlag_30 : decode cX12_readFlag 30 = .ok (.ifCond .eq 18, 3) := by decide +kernel
theorem dX12_readFlag_33 : decode cX12_readFlag 33 = .ok (.aload_n 0, 1) := by decide +kernel
theorem dX12_readFlag_34 : decode cX12_readFlag 34 = .ok (.getfield 24, 3) := by decide +kernel
theorem dX12_readFlag_37 : decode cX12_readFlag 37 = .ok (.iconst 5, 1) := by decide +kernel
theorem dX12_readFlag_38 : decode cX12_readFlag 38 = .ok (.dup2, 1) := by decide +kernel
theorem dX12_readFlag_39 : decode cX12_readFlag 39 = .ok (.iaload, 1) := by decide +kernel
theorem dX12_readFlag_40 : decode cX12_readFlag 40 = .ok (.iconst 1, 1) := by decide +kernel
theorem dX12_readFlag_41 : decode cX12_readFlag 41 = .ok (.iload_n 1, 1) := by decide +kernel
theorem dX12_readFlag_42 : decode cX12_readFlag 42 = .ok (.ishl, 1) := by decide +kernel
theorem dX12_readFlag_43 : decode cX12_readFlag 43 = .ok (.ior, 1) := by decide +kernel
theorem dX12_readFlag_44 : decode cX12_readFlag 44 = .ok (.iastore, 1) := by decide +kernel
theorem dX12_readFlag_45 : decode cX12_readFlag 45 = .ok (.goto 68, 3) := by decide +kernel
theorem dX12_readFlag_48 : decode cX12_readFlag 48 = .ok (.aload_n 0, 1) := by decide +kernel
theorem dX12_readFlag_49 : decode cX12_readFlag 49 = .ok (.bipush 11, 2) := by decide +kernel
theorem dX12_readFlag_51 : decode cX12_readFlag 51 = .ok (.invokevirtual 155, 3) := by decide +kernel
theorem dX12_readFlag_54 : decode cX12_readFlag 54 = .ok (.ifCond .eq 19, 3) := by decide +kernel
theorem dX12_readFlag_57 : decode cX12_readFlag 57 = .ok (.aload_n 0, 1) := by decide +kernel
theorem dX12_readFlag_58 : decode cX12_readFlag 58 = .ok (.getfield 24, 3) := by decide +kernel
theorem dX12_readFlag_61 : decode cX12_readFlag 61 = .ok (.bipush 6, 2) := by decide +kernel
theorem dX12_readFlag_63 : decode cX12_readFlag 63 = .ok (.dup2, 1) := by decide +kernel
theorem dX12_readFlag_64 : decode cX12_readFlag 64 = .ok (.iaload, 1) := by decide +kernel
theorem dX12_readFlag_65 : decode cX12_readFlag 65 = .ok (.iconst 1, 1) := by decide +kernel
theorem dX12_readFlag_66 : decode cX12_readFlag 66 = .ok (.iload_n 1, 1) := by decide +kernel
theorem dX12_readFlag_67 : decode cX12_readFlag 67 = .ok (.ishl, 1) := by decide +kernel
theorem dX12_readFlag_68 : decode cX12_readFlag 68 = .ok (.ior, 1) := by decide +kernel
theorem dX12_readFlag_69 : decode cX12_readFlag 69 = .ok (.iastore, 1) := by decide +kernel
theorem dX12_readFlag_70 : decode cX12_readFlag 70 = .ok (.goto 43, 3) := by decide +kernel
theorem dX12_readFlag_73 : decode cX12_readFlag 73 = .ok (.aload_n 0, 1) := by decide +kernel
theorem dX12_readFlag_74 : decode cX12_readFlag 74 = .ok (.bipush 12, 2) := by decide +kernel
theorem dX12_readFlag_76 : decode cX12_readFlag 76 = .ok (.invokevirtual 155, 3) := by decide +kernel
theorem dX12_readFlag_79 : decode cX12_readFlag 79 = .ok (.ifCond .eq 32, 3) := by decide +kernel
theorem dX12_readFlag_82 : decode cX12_readFlag 82 = .ok (.aload_n 0, 1) := by decide +kernel
theorem dX12_readFlag_83 : decode cX12_readFlag 83 = .ok (.iconst 0, 1) := by decide +kernel
theorem dX12_readFlag_84 : decode cX12_readFlag 84 = .ok (.sipush 999, 3) := by decide +kernel
theorem dX12_readFlag_87 : decode cX12_readFlag 87 = .ok (.invokevirtual 179, 3) := by decide +kernel
theorem dX12_readFlag_90 : decode cX12_readFlag 90 = .ok (.istore_n 2, 1) := by decide +kernel
theorem dX12_readFlag_91 : decode cX12_readFlag 91 = .ok (.aload_n 0, 1) := by decide +kernel
theorem dX12_readFlag_92 : decode cX12_readFlag 92 = .ok (.getfield 128, 3) := by decide +kernel
theorem dX12_readFlag_95 : decode cX12_readFlag 95 = .ok (.ifCond .ne 13, 3) := by decide +kernel
theorem dX12_readFlag_98 : decode cX12_readFlag 98 = .ok (.aload_n 0, 1) := by decide +kernel
theorem dX12_readFlag_99 : decode cX12_readFlag 99 = .ok (.getfield 24, 3) := by decide +kernel
theorem dX12_readFlag_102 : decode cX12_readFlag 102 = .ok (.bipush 35, 2) := by decide +kernel
theorem dX12_readFlag_104 : decode cX12_readFlag 104 = .ok (.iload_n 1, 1) := by decide +kernel
theorem dX12_readFlag_105 : decode cX12_readFlag 105 = .ok (.iadd, 1) := by decide +kernel
theorem dX12_readFlag_106 : decode cX12_readFlag 106 = .ok (.iload_n 2, 1) := by decide +kernel
theorem dX12_readFlag_107 : decode cX12_readFlag 107 = .ok (.iastore, 1) := by decide +kernel
theorem dX12_readFlag_108 : decode cX12_readFlag 108 = .ok (.goto 5, 3) := by decide +kernel
theorem dX12_readFlag_111 : decode cX12_readFlag 111 = .ok (.iconst 0, 1) := by decide +kernel
theorem dX12_readFlag_112 : decode cX12_readFlag 112 = .ok (.ireturn, 1) := by decide +kernel
theorem dX12_readFlag_113 : decode cX12_readFlag 113 = .ok (.aload_n 0, 1) := by decide +kernel
theorem dX12_readFlag_114 : decode cX12_readFlag 114 = .ok (.getfield 128, 3) := by decide +kernel
theorem dX12_readFlag_117 : decode cX12_readFlag 117 = .ok (.ifCond .ne 7, 3) := by decide +kernel
theorem dX12_readFlag_120 : decode cX12_readFlag 120 = .ok (.iconst 1, 1) := by decide +kernel
theorem dX12_readFlag_121 : decode cX12_readFlag 121 = .ok (.goto 4, 3) := by decide +kernel
theorem dX12_readFlag_124 : decode cX12_readFlag 124 = .ok (.iconst 0, 1) := by decide +kernel
theorem dX12_readFlag_125 : decode cX12_readFlag 125 = .ok (.ireturn, 1) := by decide +kernel
theorem dX12_readGuide_0 : decode cX12_readGuide 0 = .ok (.aload_n 0, 1) := by decide +kernel
theorem dX12_readGuide_1 : decode cX12_readGuide 1 = .ok (.getfield 24, 3) := by decide +kernel
theorem dX12_readGuide_4 : decode cX12_readGuide 4 = .ok (.iconst 2, 1) := by decide +kernel
theorem dX12_readGuide_5 : decode cX12_readGuide 5 = .ok (.iaload, 1) := by decide +kernel
theorem dX12_readGuide_6 : decode cX12_readGuide 6 = .ok (.istore_n 1, 1) := by decide +kernel
theorem dX12_readGuide_7 : decode cX12_readGuide 7 = .ok (.iload_n 1, 1) := by decide +kernel
theorem dX12_readGuide_8 : decode cX12_readGuide 8 = .ok (.iconst 5, 1) := by decide +kernel
theorem dX12_readGuide_9 : decode cX12_readGuide 9 = .ok (.if_icmp .ne 8, 3) := by decide +kernel
theorem dX12_readGuide_12 : decode cX12_readGuide 12 = .ok (.aload_n 0, 1) := by decide +kernel
theorem dX12_readGuide_13 : decode cX12_readGuide 13 = .ok (.iconst 4, 1) := by decide +kernel
theorem dX12_readGuide_14 : decode cX12_readGuide 14 = .ok (.invokevirtual 140, 3) := by decide +kernel
theorem dX12_readGuide_17 : decode cX12_readGuide 17 = .ok (.aload_n 0, 1) := by decide +kernel
theorem dX12_readGuide_18 : decode cX12_readGuide 18 = .ok (.getfield 128, 3) := by decide +kernel
theorem dX12_readGuide_21 : decode cX12_readGuide 21 = .ok (.ifCond .eq 4, 3) := by decide +kernel
theorem dX12_readGuide_24 : decode cX12_readGuide 24 = .ok (.return_, 1) := by decide +kernel
theorem dX12_readGuide_25 : decode cX12_readGuide 25 = .ok (.aload_n 0, 1) := by decide +kernel
theorem dX12_readGuide_26 : decode cX12_readGuide 26 = .ok (.invokevirtual 137, 3) := by decide +kernel
theorem dX12_readGuide_29 : decode cX12_readGuide 29 = .ok (.aload_n 0, 1) := by decide +kernel
theorem dX12_readGuide_30 : decode cX12_readGuide 30 = .ok (.iconst 2, 1) := by decide +kernel
theorem dX12_readGuide_31 : decode cX12_readGuide 31 = .ok (.invokevirtual 155, 3) := by decide +kernel
theorem dX12_readGuide_34 : decode cX12_readGuide 34 = .ok (.ifCond .ne 8, 3) := by decide +kernel
theorem dX12_readGuide_37 : decode cX12_readGuide 37 = .ok (.aload_n 0, 1) := by decide +kernel
theorem dX12_readGuide_38 : decode cX12_readGuide 38 = .ok (.iconst 2, 1) := by decide +kernel
theorem dX12_readGuide_39 : decode cX12_readGuide 39 = .ok (.invokevirtual 140, 3) := by decide +kernel
theorem dX12_readGuide_42 : decode cX12_readGuide 42 = .ok (.aload_n 0, 1) := by decide +kernel
theorem dX12_readGuide_43 : decode cX12_readGuide 43 = .ok (.iconst 0, 1) := by decide +kernel
theorem dX12_readGuide_44 : decode cX12_readGuide 44 = .ok (.bipush 99, 2) := by decide +kernel
theorem dX12_readGuide_46 : decode cX12_readGuide 46 = .ok (.invokevirtual 179, 3) := by decide +kernel
theorem dX12_readGuide_49 : decode cX12_readGuide 49 = .ok (.istore_n 2, 1) := by decide +kernel
theorem dX12_readGuide_50 : decode cX12_readGuide 50 = .ok (.aload_n 0, 1) := by decide +kernel
theorem dX12_readGuide_51 : decode cX12_readGuide 51 = .ok (.iconst 3, 1) := by decide +kernel
theorem dX12_readGuide_52 : decode cX12_readGuide 52 = .ok (.invokevirtual 155, 3) := by decide +kernel
theorem dX12_readGuide_55 : decode cX12_readGuide 55 = .ok (.ifCond .eq 13, 3) := by decide +kernel
theorem dX12_readGuide_58 : decode cX12_readGuide 58 = .ok (.aload_n 0, 1) := by decide +kernel
theorem dX12_readGuide_59 : decode cX12_readGuide 59 = .ok (.iconst 0, 1) := by decide +kernel
theorem dX12_readGuide_60 : decode cX12_readGuide 60 = .ok (.bipush 99, 2) := by decide +kernel
theorem dX12_readGuide_62 : decode cX12_readGuide 62 = .ok (.invokevirtual 179, 3) := by decide +kernel
theorem dX12_readGuide_65 : decode cX12_readGuide 65 = .ok (.goto 4, 3) := by decide +kernel
theorem dX12_readGuide_68 : decode cX12_readGuide 68 = .ok (.iconst 0, 1) := by decide +kernel
theorem dX12_readGuide_69 : decode cX12_readGuide 69 = .ok (.istore_n 3, 1) := by decide +kernel
theorem dX12_readGuide_70 : decode cX12_readGuide 70 = .ok (.aload_n 0, 1) := by decide +kernel
theorem dX12_readGuide_71 : decode cX12_readGuide 71 = .ok (.getfield 128, 3) := by decide +kernel
theorem dX12_readGuide_74 : decode cX12_readGuide 74 = .ok (.ifCond .eq 4, 3) := by decide +kernel
theorem dX12_readGuide_77 : decode cX12_readGuide 77 = .ok (.return_, 1) := by decide +kernel
theorem dX12_readGuide_78 : decode cX12_readGuide 78 = .ok (.aload_n 0, 1) := by decide +kernel
theorem dX12_readGuide_79 : decode cX12_readGuide 79 = .ok (.getfield 24, 3) := by decide +kernel
theorem dX12_readGuide_82 : decode cX12_readGuide 82 = .ok (.bipush 49, 2) := by decide +kernel
theorem dX12_readGuide_84 : decode cX12_readGuide 84 = .ok (.iload_n 1, 1) := by decide +kernel
theorem dX12_readGuide_85 : decode cX12_readGuide 85 = .ok (.iadd, 1) := by decide +kernel
theorem dX12_readGuide_86 : decode cX12_readGuide 86 = .ok (.iload_n 2, 1) := by decide +kernel
theorem dX12_readGuide_87 : decode cX12_readGuide 87 = .ok (.iastore, 1) := by decide +kernel
theorem dX12_readGuide_88 : decode cX12_readGuide 88 = .ok (.aload_n 0, 1) := by decide +kernel
theorem dX12_readGuide_89 : decode cX12_readGuide 89 = .ok (.getfield 24, 3) := by decide +kernel
theorem dX12_readGuide_92 : decode cX12_readGuide 92 = .ok (.bipush 54, 2) := by decide +kernel
theorem dX12_readGuide_94 : decode cX12_readGuide 94 = .ok (.iload_n 1, 1) := by decide +kernel
theorem dX12_readGuide_95 : decode cX12_readGuide 95 = .ok (.iadd, 1) := by decide +kernel
theorem dX12_readGuide_96 : decode cX12_readGuide 96 = .ok (.iload_n 3, 1) := by decide +kernel
theorem dX12_readGuide_97 : decode cX12_readGuide 97 = .ok (.iastore, 1) := by decide +kernel
theorem dX12_readGuide_98 : decode cX12_readGuide 98 = .ok (.aload_n 0, 1) := by decide +kernel
theorem dX12_readGuide_99 : decode cX12_readGuide 99 = .ok (.getfield 24, 3) := by decide +kernel
theorem dX12_readGuide_102 : decode cX12_readGuide 102 = .ok (.iconst 2, 1) := by decide +kernel
theorem dX12_readGuide_103 : decode cX12_readGuide 103 = .ok (.dup2, 1) := by decide +kernel
theorem dX12_readGuide_104 : decode cX12_readGuide 104 = .ok (.iaload, 1) := by decide +kernel
theorem dX12_readGuide_105 : decode cX12_readGuide 105 = .ok (.iconst 1, 1) := by decide +kernel
theorem dX12_readGuide_106 : decode cX12_readGuide 106 = .ok (.iadd, 1) := by decide +kernel
theorem dX12_readGuide_107 : decode cX12_readGuide 107 = .ok (.iastore, 1) := by decide +kernel
theorem dX12_readGuide_108 : decode cX12_readGuide 108 = .ok (.return_, 1) := by decide +kernel
theorem dX12_readHold_0 : decode cX12_readHold 0 = .ok (.aload_n 0, 1) := by decide +kernel
theorem dX12_readHold_1 : decode cX12_readHold 1 = .ok (.getfield 24, 3) := by decide +kernel
theorem dX12_readHold_4 : decode cX12_readHold 4 = .ok (.iconst 1, 1) := by decide +kernel
theorem dX12_readHold_5 : decode cX12_readHold 5 = .ok (.iaload, 1) := by decide +kernel
theorem dX12_readHold_6 : decode cX12_readHold 6 = .ok (.istore_n 1, 1) := by decide +kernel
theorem dX12_readHold_7 : decode cX12_readHold 7 = .ok (.iload_n 1, 1) := by decide +kernel
theorem dX12_readHold_8 : decode cX12_readHold 8 = .ok (.bipush 14, 2) := by decide +kernel
theorem dX12_readHold_10 : decode cX12_readHold 10 = .ok (.if_icmp .ne 8, 3) := by decide +kernel
theorem dX12_readHold_13 : decode cX12_readHold 13 = .ok (.aload_n 0, 1) := by decide +kernel
theorem dX12_readHold_14 : decode cX12_readHold 14 = .ok (.iconst 4, 1) := by decide +kernel
theorem dX12_readHold_15 : decode cX12_readHold 15 = .ok (.invokevirtual 140, 3) := by decide +kernel
theorem dX12_readHold_18 : decode cX12_readHold 18 = .ok (.aload_n 0, 1) := by decide +kernel
theorem dX12_readHold_19 : decode cX12_readHold 19 = .ok (.getfield 128, 3) := by decide +kernel
theorem dX12_readHold_22 : decode cX12_readHold 22 = .ok (.ifCond .eq 4, 3) := by decide +kernel
theorem dX12_readHold_25 : decode cX12_readHold 25 = .ok (.return_, 1) := by decide +kernel
theorem dX12_readHold_26 : decode cX12_readHold 26 = .ok (.aload_n 0, 1) := by decide +kernel
theorem dX12_readHold_27 : decode cX12_readHold 27 = .ok (.invokevirtual 137, 3) := by decide +kernel
theorem dX12_readHold_30 : decode cX12_readHold 30 = .ok (.aload_n 0, 1) := by decide +kernel
theorem dX12_readHold_31 : decode cX12_readHold 31 = .ok (.iconst 0, 1) := by decide +kernel
theorem dX12_readHold_32 : decode cX12_readHold 32 = .ok (.bipush 99, 2) := by decide +kernel
theorem dX12_readHold_34 : decode cX12_readHold 34 = .ok (.invokevirtual 179, 3) := by decide +kernel
theorem dX12_readHold_37 : decode cX12_readHold 37 = .ok (.istore_n 2, 1) := by decide +kernel
theorem dX12_readHold_38 : decode cX12_readHold 38 = .ok (.aload_n 0, 1) := by decide +kernel
theorem dX12_readHold_39 : decode cX12_readHold 39 = .ok (.iconst 0, 1) := by decide +kernel
theorem dX12_readHold_40 : decode cX12_readHold 40 = .ok (.bipush 99, 2) := by decide +kernel
theorem dX12_readHold_42 : decode cX12_readHold 42 = .ok (.invokevirtual 179, 3) := by decide +kernel
theorem dX12_readHold_45 : decode cX12_readHold 45 = .ok (.istore_n 3, 1) := by decide +kernel
theorem dX12_readHold_46 : decode cX12_readHold 46 = .ok (.aload_n 0, 1) := by decide +kernel
theorem dX12_readHold_47 : decode cX12_readHold 47 = .ok (.getfield 128, 3) := by decide +kernel
theorem dX12_readHold_50 : decode cX12_readHold 50 = .ok (.ifCond .eq 4, 3) := by decide +kernel
theorem dX12_readHold_53 : decode cX12_readHold 53 = .ok (.return_, 1) := by decide +kernel
theorem dX12_readHold_54 : decode cX12_readHold 54 = .ok (.aload_n 0, 1) := by decide +kernel
theorem dX12_readHold_55 : decode cX12_readHold 55 = .ok (.getfield 24, 3) := by decide +kernel
theorem dX12_readHold_58 : decode cX12_readHold 58 = .ok (.bipush 7, 2) := by decide +kernel
theorem dX12_readHold_60 : decode cX12_readHold 60 = .ok (.iload_n 1, 1) := by decide +kernel
theorem dX12_readHold_61 : decode cX12_readHold 61 = .ok (.iadd, 1) := by decide +kernel
theorem dX12_readHold_62 : decode cX12_readHold 62 = .ok (.iload_n 2, 1) := by decide +kernel
theorem dX12_readHold_63 : decode cX12_readHold 63 = .ok (.iastore, 1) := by decide +kernel
theorem dX12_readHold_64 : decode cX12_readHold 64 = .ok (.aload_n 0, 1) := by decide +kernel
theorem dX12_readHold_65 : decode cX12_readHold 65 = .ok (.getfield 24, 3) := by decide +kernel
theorem dX12_readHold_68 : decode cX12_readHold 68 = .ok (.bipush 21, 2) := by decide +kernel
theorem dX12_readHold_70 : decode cX12_readHold 70 = .ok (.iload_n 1, 1) := by decide +kernel
theorem dX12_readHold_71 : decode cX12_readHold 71 = .ok (.iadd, 1) := by decide +kernel
theorem dX12_readHold_72 : decode cX12_readHold 72 = .ok (.iload_n 3, 1) := by decide +kernel
theorem dX12_readHold_73 : decode cX12_readHold 73 = .ok (.iastore, 1) := by decide +kernel
theorem dX12_readHold_74 : decode cX12_readHold 74 = .ok (.aload_n 0, 1) := by decide +kernel
theorem dX12_readHold_75 : decode cX12_readHold 75 = .ok (.iload_n 1, 1) := by decide +kernel
theorem dX12_readHold_76 : decode cX12_readHold 76 = .ok (.invokevirtual 183, 3) := by decide +kernel
theorem dX12_readHold_79 : decode cX12_readHold 79 = .ok (.ifCond .eq 6, 3) := by decide +kernel
theorem dX12_readHold_82 : decode cX12_readHold 82 = .ok (.goto (-8), 3) := by decide +kernel
theorem dX12_readHold_85 : decode cX12_readHold 85 = .ok (.aload_n 0, 1) := by decide +kernel
theorem dX12_readHold_86 : decode cX12_readHold 86 = .ok (.getfield 128, 3) := by decide +kernel
theorem dX12_readHold_89 : decode cX12_readHold 89 = .ok (.ifCond .ne 13, 3) := by decide +kernel
theorem dX12_readHold_92 : decode cX12_readHold 92 = .ok (.aload_n 0, 1) := by decide +kernel
theorem dX12_readHold_93 : decode cX12_readHold 93 = .ok (.getfield 24, 3) := by decide +kernel
theorem dX12_readHold_96 : decode cX12_readHold 96 = .ok (.iconst 1, 1) := by decide +kernel
theorem dX12_readHold_97 : decode cX12_readHold 97 = .ok (.dup2, 1) := by decide +kernel
theorem dX12_readHold_98 : decode cX12_readHold 98 = .ok (.iaload, 1) := by decide +kernel
theorem dX12_readHold_99 : decode cX12_readHold 99 = .ok (.iconst 1, 1) := by decide +kernel
theorem dX12_readHold_100 : decode cX12_readHold 100 = .ok (.iadd, 1) := by decide +kernel
theorem dX12_readHold_101 : decode cX12_readHold 101 = .ok (.iastore, 1) := by decide +kernel
theorem dX12_readHold_102 : decode cX12_readHold 102 = .ok (.return_, 1) := by decide +kernel
theorem dX12_readLine_0 : decode cX12_readLine 0 = .ok (.aload_n 0, 1) := by decide +kernel
theorem dX12_readLine_1 : decode cX12_readLine 1 = .ok (.iconst 0, 1) := by decide +kernel
theorem dX12_readLine_2 : decode cX12_readLine 2 = .ok (.invokevirtual 134, 3) := by decide +kernel
theorem dX12_readLine_5 : decode cX12_readLine 5 = .ok (.ifCond .eq 10, 3) := by decide +kernel
theorem dX12_readLine_8 : decode cX12_readLine 8 = .ok (.aload_n 0, 1) := by decide +kernel
theorem dX12_readLine_9 : decode cX12_readLine 9 = .ok (.invokevirtual 190, 3) := by decide +kernel
theorem dX12_readLine_12 : decode cX12_readLine 12 = .ok (.goto 130, 3) := by decide +kernel
theorem dX12_readLine_15 : decode cX12_readLine 15 = .ok (.aload_n 0, 1) := by decide +kernel
theorem dX12_readLine_16 : decode cX12_readLine 16 = .ok (.iconst 1, 1) := by decide +kernel
theorem dX12_readLine_17 : decode cX12_readLine 17 = .ok (.invokevirtual 134, 3) := by decide +kernel
theorem dX12_readLine_20 : decode cX12_readLine 20 = .ok (.ifCond .eq 10, 3) := by decide +kernel
theorem dX12_readLine_23 : decode cX12_readLine 23 = .ok (.aload_n 0, 1) := by decide +kernel
theorem dX12_readLine_24 : decode cX12_readLine 24 = .ok (.invokevirtual 193, 3) := by decide +kernel
theorem dX12_readLine_27 : decode cX12_readLine 27 = .ok (.goto 115, 3) := by decide +kernel
theorem dX12_readLine_30 : decode cX12_readLine 30 = .ok (.aload_n 0, 1) := by decide +kernel
theorem dX12_readLine_31 : decode cX12_readLine 31 = .ok (.iconst 4, 1) := by decide +kernel
theorem dX12_readLine_32 : decode cX12_readLine 32 = .ok (.invokevirtual 134, 3) := by decide +kernel
theorem dX12_readLine_35 : decode cX12_readLine 35 = .ok (.ifCond .eq 10, 3) := by decide +kernel
theorem dX12_readLine_38 : decode cX12_readLine 38 = .ok (.aload_n 0, 1) := by decide +kernel
theorem dX12_readLine_39 : decode cX12_readLine 39 = .ok (.invokevirtual 196, 3) := by decide +kernel
theorem dX12_readLine_42 : decode cX12_readLine 42 = .ok (.goto 100, 3) := by decide +kernel
theorem dX12_readLine_45 : decode cX12_readLine 45 = .ok (.aload_n 0, 1) := by decide +kernel
theorem dX12_readLine_46 : decode cX12_readLine 46 = .ok (.iconst 5, 1) := by decide +kernel
theorem dX12_readLine_47 : decode cX12_readLine 47 = .ok (.invokevirtual 134, 3) := by decide +kernel
theorem dX12_readLine_50 : decode cX12_readLine 50 = .ok (.ifCond .eq 10, 3) := by decide +kernel
theorem dX12_readLine_53 : decode cX12_readLine 53 = .ok (.aload_n 0, 1) := by decide +kernel
theorem dX12_readLine_54 : decode cX12_readLine 54 = .ok (.invokevirtual 199, 3) := by decide +kernel
theorem dX12_readLine_57 : decode cX12_readLine 57 = .ok (.goto 85, 3) := by decide +kernel
theorem dX12_readLine_60 : decode cX12_readLine 60 = .ok (.aload_n 0, 1) := by decide +kernel
theorem dX12_readLine_61 : decode cX12_readLine 61 = .ok (.bipush 7, 2) := by decide +kernel
theorem dX12_readLine_63 : decode cX12_readLine 63 = .ok (.invokevirtual 155, 3) := by decide +kernel
theorem dX12_readLine_66 : decode cX12_readLine 66 = .ok (.ifCond .eq 35, 3) := by decide +kernel
theorem dX12_readLine_69 : decode cX12_readLine 69 = .ok (.aload_n 0, 1) := by decide +kernel
theorem dX12_readLine_70 : decode cX12_readLine 70 = .ok (.iconst 0, 1) := by decide +kernel
theorem dX12_readLine_71 : decode cX12_readLine 71 = .ok (.aload_n 0, 1) := by decide +kernel
theorem dX12_readLine_72 : decode cX12_readLine 72 = .ok (.getfield 24, 3) := by decide +kernel
theorem dX12_readLine_75 : decode cX12_readLine 75 = .ok (.iconst 1, 1) := by decide +kernel
theorem dX12_readLine_76 : decode cX12_readLine 76 = .ok (.iaload, 1) := by decide +kernel
theorem dX12_readLine_77 : decode cX12_readLine 77 = .ok (.iconst 1, 1) := by decide +kernel
theorem dX12_readLine_78 : decode cX12_readLine 78 = .ok (.isub, 1) := by decide +kernel
theorem dX12_readLine_79 : decode cX12_readLine 79 = .ok (.invokevirtual 179, 3) := by decide +kernel
theorem dX12_readLine_82 : decode cX12_readLine 82 = .ok (.istore_n 1, 1) := by decide +kernel
theorem dX12_readLine_83 : decode cX12_readLine 83 = .ok (.aload_n 0, 1) := by decide +kernel
theorem dX12_readLine_84 : decode cX12_readLine 84 = .ok (.getfield 128, 3) := by decide +kernel
theorem dX12_readLine_87 : decode cX12_readLine 87 = .ok (.ifCond .ne 11, 3) := by decide +kernel
theorem dX12_readLine_90 : decode cX12_readLine 90 = .ok (.aload_n 0, 1) := by decide +kernel
theorem dX12_readLine_91 : decode cX12_readLine 91 = .ok (.getfield 24, 3) := by decide +kernel
theorem dX12_readLine_94 : decode cX12_readLine 94 = .ok (.iload_n 1, 1) := by decide +kernel
theorem dX12_readLine_95 : decode cX12_readLine 95 = .ok (.invokestatic 202, 3) := by decide +kernel
theorem dX12_readLine_98 : decode cX12_readLine 98 = .ok (.goto 44, 3) := by decide +kernel
theorem dX12_readLine_101 : decode cX12_readLine 101 = .ok (.aload_n 0, 1) := by decide +kernel
theorem dX12_readLine_102 : decode cX12_readLine 102 = .ok (.bipush 8, 2) := by decide +kernel
theorem dX12_readLine_104 : decode cX12_readLine 104 = .ok (.invokevirtual 155, 3) := by decide +kernel
theorem dX12_readLine_107 : decode cX12_readLine 107 = .ok (.ifCond .eq 30, 3) := by decide +kernel
theorem dX12_readLine_110 : decode cX12_readLine 110 = .ok (.aload_n 0, 1) := by decide +kernel
theorem dX12_readLine_111 : decode cX12_readLine 111 = .ok (.iconst 0, 1) := by decide +kernel
theorem dX12_readLine_112 : decode cX12_readLine 112 = .ok (.sipush 999, 3) := by decide +kernel
theorem dX12_readLine_115 : decode cX12_readLine 115 = .ok (.invokevirtual 179, 3) := by decide +kernel
theorem dX12_readLine_118 : decode cX12_readLine 118 = .ok (.istore_n 1, 1) := by decide +kernel
theorem dX12_readLine_119 : decode cX12_readLine 119 = .ok (.aload_n 0, 1) := by decide +kernel
theorem dX12_readLine_120 : decode cX12_readLine 120 = .ok (.getfield 128, 3) := by decide +kernel
theorem dX12_readLine_123 : decode cX12_readLine 123 = .ok (.ifCond .ne 11, 3) := by decide +kernel
theorem dX12_readLine_126 : decode cX12_readLine 126 = .ok (.aload_n 0, 1) := by decide +kernel
theorem dX12_readLine_127 : decode cX12_readLine 127 = .ok (.getfield 24, 3) := by decide +kernel
theorem dX12_readLine_130 : decode cX12_readLine 130 = .ok (.bipush 88, 2) := by decide +kernel
theorem dX12_readLine_132 : decode cX12_readLine 132 = .ok (.iload_n 1, 1) := by decide +kernel
theorem dX12_readLine_133 : decode cX12_readLine 133 = .ok (.iastore, 1) := by decide +kernel
theorem dX12_readLine_134 : decode cX12_readLine 134 = .ok (.goto 8, 3) := by decide +kernel
theorem dX12_readLine_137 : decode cX12_readLine 137 = .ok (.aload_n 0, 1) := by decide +kernel
theorem dX12_readLine_138 : decode cX12_readLine 138 = .ok (.iconst 2, 1) := by decide +kernel
theorem dX12_readLine_139 : decode cX12_readLine 139 = .ok (.invokevirtual 140, 3) := by decide +kernel
theorem dX12_readLine_142 : decode cX12_readLine 142 = .ok (.return_, 1) := by decide +kernel
theorem dX12_readStep_0 : decode cX12_readStep 0 = .ok (.aload_n 0, 1) := by decide +kernel
theorem dX12_readStep_1 : decode cX12_readStep 1 = .ok (.invokevirtual 137, 3) := by decide +kernel
theorem dX12_readStep_4 : decode cX12_readStep 4 = .ok (.aload_n 0, 1) := by decide +kernel
theorem dX12_readStep_5 : decode cX12_readStep 5 = .ok (.bipush 31, 2) := by decide +kernel
theorem dX12_readStep_7 : decode cX12_readStep 7 = .ok (.invokevirtual 155, 3) := by decide +kernel
theorem dX12_readStep_10 : decode cX12_readStep 10 = .ok (.ifCond .ne 8, 3) := by decide +kernel
theorem dX12_readStep_13 : decode cX12_readStep 13 = .ok (.aload_n 0, 1) := by decide +kernel
theorem dX12_readStep_14 : decode cX12_readStep 14 = .ok (.iconst 2, 1) := by decide +kernel
theorem dX12_readStep_15 : decode cX12_readStep 15 = .ok (.invokevirtual 140, 3) := by decide +kernel
theorem dX12_readStep_18 : decode cX12_readStep 18 = .ok (.aload_n 0, 1) := by decide +kernel
theorem dX12_readStep_19 : decode cX12_readStep 19 = .ok (.getfield 24, 3) := by decide +kernel
theorem dX12_readStep_22 : decode cX12_readStep 22 = .ok (.sipush 401, 3) := by decide +kernel
theorem dX12_readStep_25 : decode cX12_readStep 25 = .ok (.iconst 0, 1) := by decide +kernel
theorem dX12_readStep_26 : decode cX12_readStep 26 = .ok (.iastore, 1) := by decide +kernel
theorem dX12_readStep_27 : decode cX12_readStep 27 = .ok (.aload_n 0, 1) := by decide +kernel
theorem dX12_readStep_28 : decode cX12_readStep 28 = .ok (.iconst 0, 1) := by decide +kernel
theorem dX12_readStep_29 : decode cX12_readStep 29 = .ok (.invokevirtual 173, 3) := by decide +kernel
theorem dX12_readStep_32 : decode cX12_readStep 32 = .ok (.aload_n 0, 1) := by decide +kernel
theorem dX12_readStep_33 : decode cX12_readStep 33 = .ok (.getfield 128, 3) := by decide +kernel
theorem dX12_readStep_36 : decode cX12_readStep 36 = .ok (.ifCond .ne 10, 3) := by decide +kernel
theorem dX12_readStep_39 : decode cX12_readStep 39 = .ok (.aload_n 0, 1) := by decide +kernel
theorem dX12_readStep_40 : decode cX12_readStep 40 = .ok (.getfield 24, 3) := by decide +kernel
theorem dX12_readStep_43 : decode cX12_readStep 43 = .ok (.iconst 3, 1) := by decide +kernel
theorem dX12_readStep_44 : decode cX12_readStep 44 = .ok (.iconst 1, 1) := by decide +kernel
theorem dX12_readStep_45 : decode cX12_readStep 45 = .ok (.iastore, 1) := by decide +kernel
theorem dX12_readStep_46 : decode cX12_readStep 46 = .ok (.return_, 1) := by decide +kernel
theorem dX12_readUsed_0 : decode cX12_readUsed 0 = .ok (.aload_n 0, 1) := by decide +kernel
theorem dX12_readUsed_1 : decode cX12_readUsed 1 = .ok (.invokevirtual 137, 3) := by decide +kernel
theorem dX12_readUsed_4 : decode cX12_readUsed 4 = .ok (.aload_n 0, 1) := by decide +kernel
theorem dX12_readUsed_5 : decode cX12_readUsed 5 = .ok (.bipush 21, 2) := by decide +kernel
theorem dX12_readUsed_7 : decode cX12_readUsed 7 = .ok (.invokevirtual 134, 3) := by decide +kernel
theorem dX12_readUsed_10 : decode cX12_readUsed 10 = .ok (.ifCond .eq 53, 3) := by decide +kernel
theorem dX12_readUsed_13 : decode cX12_readUsed 13 = .ok (.aload_n 0, 1) := by decide +kernel
theorem dX12_readUsed_14 : decode cX12_readUsed 14 = .ok (.getfield 123, 3) := by decide +kernel
theorem dX12_readUsed_17 : decode cX12_readUsed 17 = .ok (.i2l, 1) := by decide +kernel
theorem dX12_readUsed_18 : decode cX12_readUsed 18 = .ok (.lconst 0, 1) := by decide +kernel
theorem dX12_readUsed_19 : decode cX12_readUsed 19 = .ok (.aload_n 0, 1) := by decide +kernel
theorem dX12_readUsed_20 : decode cX12_readUsed 20 = .ok (.getfield 24, 3) := by decide +kernel
theorem dX12_readUsed_23 : decode cX12_readUsed 23 = .ok (.iconst 1, 1) := by decide +kernel
theorem dX12_readUsed_24 : decode cX12_readUsed 24 = .ok (.iaload, 1) := by decide +kernel
theorem dX12_readUsed_25 : decode cX12_readUsed 25 = .ok (.iconst 1, 1) := by decide +kernel
theorem dX12_readUsed_26 : decode cX12_readUsed 26 = .ok (.isub, 1) := by decide +kernel
theorem dX12_readUsed_27 : decode cX12_readUsed 27 = .ok (.i2l, 1) := by decide +kernel
theorem dX12_readUsed_28 : decode cX12_readUsed 28 = .ok (.invokestatic 144, 3) := by decide +kernel
theorem dX12_readUsed_31 : decode cX12_readUsed 31 = .ok (.ifCond .eq 32, 3) := by decide +kernel
theorem dX12_readUsed_34 : decode cX12_readUsed 34 = .ok (.aload_n 0, 1) := by decide +kernel
theorem dX12_readUsed_35 : decode cX12_readUsed 35 = .ok (.getfield 24, 3) := by decide +kernel
theorem dX12_readUsed_38 : decode cX12_readUsed 38 = .ok (.iconst 4, 1) := by decide +kernel
theorem dX12_readUsed_39 : decode cX12_readUsed 39 = .ok (.iaload, 1) := by decide +kernel
theorem dX12_readUsed_40 : decode cX12_readUsed 40 = .ok (.aload_n 0, 1) := by decide +kernel
theorem dX12_readUsed_41 : decode cX12_readUsed 41 = .ok (.getfield 24, 3) := by decide +kernel
theorem dX12_readUsed_44 : decode cX12_readUsed 44 = .ok (.iconst 5, 1) := by decide +kernel
theorem dX12_readUsed_45 : decode cX12_readUsed 45 = .ok (.iaload, 1) := by decide +kernel
theorem dX12_readUsed_46 : decode cX12_readUsed 46 = .ok (.ior, 1) := by decide +kernel
theorem dX12_readUsed_47 : decode cX12_readUsed 47 = .ok (.i2l, 1) := by decide +kernel
theorem dX12_readUsed_48 : decode cX12_readUsed 48 = .ok (.aload_n 0, 1) := by decide +kernel
theorem dX12_readUsed_49 : decode cX12_readUsed 49 = .ok (.getfield 123, 3) := by decide +kernel
theorem dX12_readUsed_52 : decode cX12_readUsed 52 = .ok (.invokestatic 186, 3) := by decide +kernel
theorem dX12_readUsed_55 : decode cX12_readUsed 55 = .ok (.ifCond .eq 8, 3) := by decide +kernel
theorem dX12_readUsed_58 : decode cX12_readUsed 58 = .ok (.aload_n 0, 1) := by decide +kernel
theorem dX12_readUsed_59 : decode cX12_readUsed 59 = .ok (.iconst 3, 1) := by decide +kernel
theorem dX12_readUsed_60 : decode cX12_readUsed 60 = .ok (.invokevirtual 140, 3) := by decide +kernel
theorem dX12_readUsed_63 : decode cX12_readUsed 63 = .ok (.aload_n 0, 1) := by decide +kernel
theorem dX12_readUsed_64 : decode cX12_readUsed 64 = .ok (.iconst 0, 1) := by decide +kernel
theorem dX12_readUsed_65 : decode cX12_readUsed 65 = .ok (.aload_n 0, 1) := by decide +kernel
theorem dX12_readUsed_66 : decode cX12_readUsed 66 = .ok (.getfield 24, 3) := by decide +kernel
theorem dX12_readUsed_69 : decode cX12_readUsed 69 = .ok (.iconst 1, 1) := by decide +kernel
theorem dX12_readUsed_70 : decode cX12_readUsed 70 = .ok (.iaload, 1) := by decide +kernel
theorem dX12_readUsed_71 : decode cX12_readUsed 71 = .ok (.iconst 1, 1) := by decide +kernel
theorem dX12_readUsed_72 : decode cX12_readUsed 72 = .ok (.isub, 1) := by decide +kernel
theorem dX12_readUsed_73 : decode cX12_readUsed 73 = .ok (.invokevirtual 179, 3) := by decide +kernel
theorem dX12_readUsed_76 : decode cX12_readUsed 76 = .ok (.istore_n 1, 1) := by decide +kernel
theorem dX12_readUsed_77 : decode cX12_readUsed 77 = .ok (.aload_n 0, 1) := by decide +kernel
theorem dX12_readUsed_78 : decode cX12_readUsed 78 = .ok (.bipush 6, 2) := by decide +kernel
theorem dX12_readUsed_80 : decode cX12_readUsed 80 = .ok (.invokevirtual 155, 3) := by decide +kernel
theorem dX12_readUsed_83 : decode cX12_readUsed 83 = .ok (.ifCond .ne 8, 3) := by decide +kernel
theorem dX12_readUsed_86 : decode cX12_readUsed 86 = .ok (.aload_n 0, 1) := by decide +kernel
theorem dX12_readUsed_87 : decode cX12_readUsed 87 = .ok (.iconst 2, 1) := by decide +kernel
theorem dX12_readUsed_88 : decode cX12_readUsed 88 = .ok (.invokevirtual 140, 3) := by decide +kernel
theorem dX12_readUsed_91 : decode cX12_readUsed 91 = .ok (.aload_n 0, 1) := by decide +kernel
theorem dX12_readUsed_92 : decode cX12_readUsed 92 = .ok (.iconst 0, 1) := by decide +kernel
theorem dX12_readUsed_93 : decode cX12_readUsed 93 = .ok (.aload_n 0, 1) := by decide +kernel
theorem dX12_readUsed_94 : decode cX12_readUsed 94 = .ok (.getfield 24, 3) := by decide +kernel
theorem dX12_readUsed_97 : decode cX12_readUsed 97 = .ok (.iconst 2, 1) := by decide +kernel
theorem dX12_readUsed_98 : decode cX12_readUsed 98 = .ok (.iaload, 1) := by decide +kernel
theorem dX12_readUsed_99 : decode cX12_readUsed 99 = .ok (.iconst 1, 1) := by decide +kernel
theorem dX12_readUsed_100 : decode cX12_readUsed 100 = .ok (.isub, 1) := by decide +kernel
theorem dX12_readUsed_101 : decode cX12_readUsed 101 = .ok (.invokevirtual 179, 3) := by decide +kernel
theorem dX12_readUsed_104 : decode cX12_readUsed 104 = .ok (.istore_n 2, 1) := by decide +kernel
theorem dX12_readUsed_105 : decode cX12_readUsed 105 = .ok (.aload_n 0, 1) := by decide +kernel
theorem dX12_readUsed_106 : decode cX12_readUsed 106 = .ok (.getfield 128, 3) := by decide +kernel
theorem dX12_readUsed_109 : decode cX12_readUsed 109 = .ok (.ifCond .ne 28, 3) := by decide +kernel
theorem dX12_readUsed_112 : decode cX12_readUsed 112 = .ok (.aload_n 0, 1) := by decide +kernel
theorem dX12_readUsed_113 : decode cX12_readUsed 113 = .ok (.getfield 24, 3) := by decide +kernel
theorem dX12_readUsed_116 : decode cX12_readUsed 116 = .ok (.bipush 87, 2) := by decide +kernel
theorem dX12_readUsed_118 : decode cX12_readUsed 118 = .ok (.iaload, 1) := by decide +kernel
theorem dX12_readUsed_119 : decode cX12_readUsed 119 = .ok (.i2l, 1) := by decide +kernel
theorem dX12_readUsed_120 : decode cX12_readUsed 120 = .ok (.iload_n 1, 1) := by decide +kernel
theorem dX12_readUsed_121 : decode cX12_readUsed 121 = .ok (.invokestatic 186, 3) := by decide +kernel
theorem dX12_readUsed_124 : decode cX12_readUsed 124 = .ok (.ifCond .ne 13, 3) := by decide +kernel
theorem dX12_readUsed_127 : decode cX12_readUsed 127 = .ok (.aload_n 0, 1) := by decide +kernel
theorem dX12_readUsed_128 : decode cX12_readUsed 128 = .ok (.getfield 24, 3) := by decide +kernel
theorem dX12_readUsed_131 : decode cX12_readUsed 131 = .ok (.bipush 59, 2) := by decide +kernel
theorem dX12_readUsed_133 : decode cX12_readUsed 133 = .ok (.iload_n 1, 1) := by decide +kernel
theorem dX12_readUsed_134 : decode cX12_readUsed 134 = .ok (.iadd, 1) := by decide +kernel
theorem dX12_readUsed_135 : decode cX12_readUsed 135 = .ok (.iload_n 2, 1) := by decide +kernel
theorem dX12_readUsed_136 : decode cX12_readUsed 136 = .ok (.iastore, 1) := by decide +kernel
theorem dX12_readUsed_137 : decode cX12_readUsed 137 = .ok (.return_, 1) := by decide +kernel
theorem kw_1374 : Cond.methodLink "FootholdWallModel" 190 yX12_readHold ∈ gw := gw_of (tb_of 1374 (by decide +kernel)) (by decide +kernel)
theorem kw_1376 : Cond.instanceMethod yX12_readHold ∈ gw := gw_of (tb_of 1376 (by decide +kernel)) (by decide +kernel)
theorem kw_1377 : Cond.code yX12_readHold cX12_readHold 4 none ∈ gw := gw_of (tb_of 1377 (by decide +kernel)) (by decide +kernel)
theorem kw_1382 : Cond.methodLink "FootholdWallModel" 179 yX12_takes ∈ gw := gw_of (tb_of 1382 (by decide +kernel)) (by decide +kernel)
theorem kw_1384 : Cond.instanceMethod yX12_takes ∈ gw := gw_of (tb_of 1384 (by decide +kernel)) (by decide +kernel)
theorem kw_1385 : Cond.code yX12_takes cX12_takes 4 (some (.int)) ∈ gw := gw_of (tb_of 1385 (by decide +kernel)) (by decide +kernel)
theorem kw_1386 : Cond.methodLink "FootholdWallModel" 183 yX12_readFlag ∈ gw := gw_of (tb_of 1386 (by decide +kernel)) (by decide +kernel)
theorem kw_1388 : Cond.instanceMethod yX12_readFlag ∈ gw := gw_of (tb_of 1388 (by decide +kernel)) (by decide +kernel)
theorem kw_1389 : Cond.code yX12_readFlag cX12_readFlag 3 (some (.boolean)) ∈ gw := gw_of (tb_of 1389 (by decide +kernel)) (by decide +kernel)
theorem kw_1394 : Cond.methodLink "FootholdWallModel" 193 yX12_readGuide ∈ gw := gw_of (tb_of 1394 (by decide +kernel)) (by decide +kernel)
theorem kw_1396 : Cond.instanceMethod yX12_readGuide ∈ gw := gw_of (tb_of 1396 (by decide +kernel)) (by decide +kernel)
theorem kw_1397 : Cond.code yX12_readGuide cX12_readGuide 4 none ∈ gw := gw_of (tb_of 1397 (by decide +kernel)) (by decide +kernel)
theorem kw_1398 : Cond.methodLink "FootholdWallModel" 196 yX12_readStep ∈ gw := gw_of (tb_of 1398 (by decide +kernel)) (by decide +kernel)
theorem kw_1400 : Cond.instanceMethod yX12_readStep ∈ gw := gw_of (tb_of 1400 (by decide +kernel)) (by decide +kernel)
theorem kw_1401 : Cond.code yX12_readStep cX12_readStep 1 none ∈ gw := gw_of (tb_of 1401 (by decide +kernel)) (by decide +kernel)
theorem kw_1436 : Cond.methodLink "FootholdWallModel" 199 yX12_readUsed ∈ gw := gw_of (tb_of 1436 (by decide +kernel)) (by decide +kernel)
theorem kw_1438 : Cond.instanceMethod yX12_readUsed ∈ gw := gw_of (tb_of 1438 (by decide +kernel)) (by decide +kernel)
theorem kw_1439 : Cond.code yX12_readUsed cX12_readUsed 3 none ∈ gw := gw_of (tb_of 1439 (by decide +kernel)) (by decide +kernel)
theorem kw_1440 : Cond.methodLink "FootholdWallModel" 186 yX12_isIn ∈ gw := gw_of (tb_of 1440 (by decide +kernel)) (by decide +kernel)
theorem kw_1441 : Cond.static yX12_isIn ∈ gw := gw_of (tb_of 1441 (by decide +kernel)) (by decide +kernel)
theorem kw_1442 : Cond.code yX12_isIn cX12_isIn 3 (some (.boolean)) ∈ gw := gw_of (tb_of 1442 (by decide +kernel)) (by decide +kernel)
theorem kw_1443 : Cond.methodLink "FootholdWallModel" 202 yX12_breaksOf ∈ gw := gw_of (tb_of 1443 (by decide +kernel)) (by decide +kernel)
theorem kw_1444 : Cond.static yX12_breaksOf ∈ gw := gw_of (tb_of 1444 (by decide +kernel)) (by decide +kernel)
theorem kw_1445 : Cond.code yX12_breaksOf cX12_breaksOf 2 none ∈ gw := gw_of (tb_of 1445 (by decide +kernel)) (by decide +kernel)
theorem ks_48 : Cond.selects RX12 yX12_readHold yX12_readHold ∈ gw := gw_of (pv_of 48 (by decide +kernel)) (by decide +kernel)
theorem ks_50 : Cond.selects RX12 yX12_takes yX12_takes ∈ gw := gw_of (pv_of 50 (by decide +kernel)) (by decide +kernel)
theorem ks_51 : Cond.selects RX12 yX12_readFlag yX12_readFlag ∈ gw := gw_of (pv_of 51 (by decide +kernel)) (by decide +kernel)
theorem ks_53 : Cond.selects RX12 yX12_readGuide yX12_readGuide ∈ gw := gw_of (pv_of 53 (by decide +kernel)) (by decide +kernel)
theorem ks_54 : Cond.selects RX12 yX12_readStep yX12_readStep ∈ gw := gw_of (pv_of 54 (by decide +kernel)) (by decide +kernel)
theorem ks_63 : Cond.selects RX12 yX12_readUsed yX12_readUsed ∈ gw := gw_of (pv_of 63 (by decide +kernel)) (by decide +kernel)
