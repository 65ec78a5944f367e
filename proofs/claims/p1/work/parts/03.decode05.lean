theorem dX12_ends_7 : decode cX12_ends 7 = .ok (.getfield 13, 3) := by decide +kernel
theorem dX12_ends_10 : decode cX12_ends 10 = .ok (.iconst 5, 1) := by decide +kernel
theorem dX12_ends_11 : decode cX12_ends 11 = .ok (.iaload, 1) := by decide +kernel
theorem dX12_ends_12 : decode cX12_ends 12 = .ok (.ior, 1) := by decide +kernel
theorem dX12_ends_13 : decode cX12_ends 13 = .ok (.ireturn, 1) := by decide +kernel
theorem dX12_fault_0 : decode cX12_fault 0 = .ok (.aload_n 0, 1) := by decide +kernel
theorem dX12_fault_1 : decode cX12_fault 1 = .ok (.iconst 0, 1) := by decide +kernel
theorem dX12_fault_2 : decode cX12_fault 2 = .ok (.putfield 1, 3) := by decide +kernel
theorem dX12_fault_5 : decode cX12_fault 5 = .ok (.iload_n 1, 1) := by decide +kernel
theorem dX12_fault_6 : decode cX12_fault 6 = .ok (.ifCond .ne 10, 3) := by decide +kernel
theorem dX12_fault_9 : decode cX12_fault 9 = .ok (.aload_n 0, 1) := by decide +kernel
theorem dX12_fault_10 : decode cX12_fault 10 = .ok (.getfield 209, 3) := by decide +kernel
theorem dX12_fault_13 : decode cX12_fault 13 = .ok (.goto 16, 3) := by decide +kernel
theorem dX12_fault_16 : decode cX12_fault 16 = .ok (.iload_n 1, 1) := by decide +kernel
theorem dX12_fault_17 : decode cX12_fault 17 = .ok (.iconst 1, 1) := by decide +kernel
theorem dX12_fault_18 : decode cX12_fault 18 = .ok (.if_icmp .ne 10, 3) := by decide +kernel
theorem dX12_fault_21 : decode cX12_fault 21 = .ok (.aload_n 0, 1) := by decide +kernel
theorem dX12_fault_22 : decode cX12_fault 22 = .ok (.getfield 27, 3) := by decide +kernel
theorem dX12_fault_25 : decode cX12_fault 25 = .ok (.goto 4, 3) := by decide +kernel
theorem dX12_fault_28 : decode cX12_fault 28 = .ok (.iconst (-1), 1) := by decide +kernel
theorem dX12_fault_29 : decode cX12_fault 29 = .ok (.ireturn, 1) := by decide +kernel
theorem dX12_feed_0 : decode cX12_feed 0 = .ok (.aload_n 0, 1) := by decide +kernel
theorem dX12_feed_1 : decode cX12_feed 1 = .ok (.iconst 0, 1) := by decide +kernel
theorem dX12_feed_2 : decode cX12_feed 2 = .ok (.putfield 1, 3) := by decide +kernel
theorem dX12_feed_5 : decode cX12_feed 5 = .ok (.aload_n 0, 1) := by decide +kernel
theorem dX12_feed_6 : decode cX12_feed 6 = .ok (.getfield 82, 3) := by decide +kernel
theorem dX12_feed_9 : decode cX12_feed 9 = .ok (.bipush 20, 2) := by decide +kernel
theorem dX12_feed_11 : decode cX12_feed 11 = .ok (.iadd, 1) := by decide +kernel
theorem dX12_feed_12 : decode cX12_feed 12 = .ok (.sipush 900, 3) := by decide +kernel
theorem dX12_feed_15 : decode cX12_feed 15 = .ok (.if_icmp .le 6, 3) := by decide +kernel
theorem dX12_feed_21 : decode cX12_feed 21 = .ok (.iconst 0, 1) := by decide +kernel
theorem dX12_feed_22 : decode cX12_feed 22 = .ok (.istore 6, 2) := by decide +kernel
theorem dX12_feed_24 : decode cX12_feed 24 = .ok (.iload 6, 2) := by decide +kernel
theorem dX12_feed_26 : decode cX12_feed 26 = .ok (.bipush 20, 2) := by decide +kernel
theorem dX12_feed_28 : decode cX12_feed 28 = .ok (.if_icmp .ge 93, 3) := by decide +kernel
theorem dX12_feed_31 : decode cX12_feed 31 = .ok (.iload 6, 2) := by decide +kernel
theorem dX12_feed_33 : decode cX12_feed 33 = .ok (.iconst 4, 1) := by decide +kernel
theorem dX12_feed_34 : decode cX12_feed 34 = .ok (.if_icmp .ge 7, 3) := by decide +kernel
theorem dX12_feed_37 : decode cX12_feed 37 = .ok (.iload_n 1, 1) := by decide +kernel
theorem dX12_feed_38 : decode cX12_feed 38 = .ok (.goto 39, 3) := by decide +kernel
theorem dX12_feed_41 : decode cX12_feed 41 = .ok (.iload 6, 2) := by decide +kernel
theorem dX12_feed_43 : decode cX12_feed 43 = .ok (.bipush 8, 2) := by decide +kernel
theorem dX12_feed_45 : decode cX12_feed 45 = .ok (.if_icmp .ge 7, 3) := by decide +kernel
theorem dX12_feed_48 : decode cX12_feed 48 = .ok (.iload_n 2, 1) := by decide +kernel
theorem dX12_feed_49 : decode cX12_feed 49 = .ok (.goto 28, 3) := by decide +kernel
theorem dX12_feed_52 : decode cX12_feed 52 = .ok (.iload 6, 2) := by decide +kernel
theorem dX12_feed_54 : decode cX12_feed 54 = .ok (.bipush 12, 2) := by decide +kernel
theorem dX12_feed_56 : decode cX12_feed 56 = .ok (.if_icmp .ge 7, 3) := by decide +kernel
theorem dX12_feed_59 : decode cX12_feed 59 = .ok (.iload_n 3, 1) := by decide +kernel
theorem dX12_feed_60 : decode cX12_feed 60 = .ok (.goto 17, 3) := by decide +kernel
theorem dX12_feed_63 : decode cX12_feed 63 = .ok (.iload 6, 2) := by decide +kernel
theorem dX12_feed_65 : decode cX12_feed 65 = .ok (.bipush 16, 2) := by decide +kernel
theorem dX12_feed_67 : decode cX12_feed 67 = .ok (.if_icmp .ge 8, 3) := by decide +kernel
theorem dX12_feed_70 : decode cX12_feed 70 = .ok (.iload 4, 2) := by decide +kernel
theorem dX12_feed_72 : decode cX12_feed 72 = .ok (.goto 5, 3) := by decide +kernel
theorem dX12_feed_75 : decode cX12_feed 75 = .ok (.iload 5, 2) := by decide +kernel
theorem dX12_feed_77 : decode cX12_feed 77 = .ok (.istore 7, 2) := by decide +kernel
theorem dX12_feed_79 : decode cX12_feed 79 = .ok (.aload_n 0, 1) := by decide +kernel
theorem dX12_feed_80 : decode cX12_feed 80 = .ok (.getfield 21, 3) := by decide +kernel
theorem dX12_feed_83 : decode cX12_feed 83 = .ok (.aload_n 0, 1) := by decide +kernel
theorem dX12_feed_84 : decode cX12_feed 84 = .ok (.getfield 82, 3) := by decide +kernel
theorem dX12_feed_87 : decode cX12_feed 87 = .ok (.iload 7, 2) := by decide +kernel
theorem dX12_feed_89 : decode cX12_feed 89 = .ok (.bipush 24, 2) := by decide +kernel
theorem dX12_feed_91 : decode cX12_feed 91 = .ok (.bipush 8, 2) := by decide +kernel
theorem dX12_feed_93 : decode cX12_feed 93 = .ok (.iload 6, 2) := by decide +kernel
theorem dX12_feed_95 : decode cX12_feed 95 = .ok (.iconst 4, 1) := by decide +kernel
theorem dX12_feed_96 : decode cX12_feed 96 = .ok (.irem, 1) := by decide +kernel
theorem dX12_feed_97 : decode cX12_feed 97 = .ok (.imul, 1) := by decide +kernel
theorem dX12_feed_98 : decode cX12_feed 98 = .ok (.isub, 1) := by decide +kernel
theorem dX12_feed_99 : decode cX12_feed 99 = .ok (.ishr, 1) := by decide +kernel
theorem dX12_feed_100 : decode cX12_feed 100 = .ok (.sipush 255, 3) := by decide +kernel
theorem dX12_feed_103 : decode cX12_feed 103 = .ok (.iand, 1) := by decide +kernel
theorem dX12_feed_104 : decode cX12_feed 104 = .ok (.iastore, 1) := by decide +kernel
theorem dX12_feed_105 : decode cX12_feed 105 = .ok (.aload_n 0, 1) := by decide +kernel
theorem dX12_feed_106 : decode cX12_feed 106 = .ok (.dup, 1) := by decide +kernel
theorem dX12_feed_107 : decode cX12_feed 107 = .ok (.getfield 82, 3) := by decide +kernel
theorem dX12_feed_110 : decode cX12_feed 110 = .ok (.iconst 1, 1) := by decide +kernel
theorem dX12_feed_111 : decode cX12_feed 111 = .ok (.iadd, 1) := by decide +kernel
theorem dX12_feed_112 : decode cX12_feed 112 = .ok (.putfield 82, 3) := by decide +kernel
theorem dX12_feed_115 : decode cX12_feed 115 = .ok (.iinc 6 1, 3) := by decide +kernel
theorem dX12_feed_118 : decode cX12_feed 118 = .ok (.goto (-94), 3) := by decide +kernel
theorem dX12_feed_121 : decode cX12_feed 121 = .ok (.aload_n 0, 1) := by decide +kernel
theorem dX12_feed_122 : decode cX12_feed 122 = .ok (.getfield 82, 3) := by decide +kernel
theorem dX12_feed_125 : decode cX12_feed 125 = .ok (.ireturn, 1) := by decide +kernel
theorem dX12_goes_0 : decode cX12_goes 0 = .ok (.aload_n 0, 1) := by decide +kernel
theorem dX12_goes_1 : decode cX12_goes 1 = .ok (.iconst 0, 1) := by decide +kernel
theorem dX12_goes_2 : decode cX12_goes 2 = .ok (.putfield 1, 3) := by decide +kernel
theorem dX12_goes_5 : decode cX12_goes 5 = .ok (.aload_n 0, 1) := by decide +kernel
theorem dX12_goes_6 : decode cX12_goes 6 = .ok (.iload_n 1, 1) := by decide +kernel
theorem dX12_goes_7 : decode cX12_goes 7 = .ok (.i2l, 1) := by decide +kernel
theorem dX12_goes_8 : decode cX12_goes 8 = .ok (.invokevirtual 222, 3) := by decide +kernel
theorem dX12_goes_11 : decode cX12_goes 11 = .ok (.ifCond .ne 6, 3) := by decide +kernel
theorem dX12_goes_14 : decode cX12_goes 14 = .ok (.bipush (-2), 2) := by decide +kernel
theorem dX12_goes_16 : decode cX12_goes 16 = .ok (.ireturn, 1) := by decide +kernel
theorem dX12_goesTurn_0 : decode cX12_goesTurn 0 = .ok (.iload_n 2, 1) := by decide +kernel
theorem dX12_goesTurn_1 : decode cX12_goesTurn 1 = .ok (.ifCond .ne 47, 3) := by decide +kernel
theorem dX12_goesTurn_4 : decode cX12_goesTurn 4 = .ok (.iload_n 3, 1) := by decide +kernel
theorem dX12_goesTurn_5 : decode cX12_goesTurn 5 = .ok (.aload_n 0, 1) := by decide +kernel
theorem dX12_goesTurn_6 : decode cX12_goesTurn 6 = .ok (.getfield 387, 3) := by decide +kernel
theorem dX12_goesTurn_9 : decode cX12_goesTurn 9 = .ok (.if_icmp .gt 4, 3) := by decide +kernel
theorem dX12_goesTurn_13 : decode cX12_goesTurn 13 = .ok (.aload_n 0, 1) := by decide +kernel
theorem dX12_goesTurn_14 : decode cX12_goesTurn 14 = .ok (.iload_n 3, 1) := by decide +kernel
theorem dX12_goesTurn_15 : decode cX12_goesTurn 15 = .ok (.putfield 387, 3) := by decide +kernel
theorem dX12_goesTurn_18 : decode cX12_goesTurn 18 = .ok (.iconst 0, 1) := by decide +kernel
theorem dX12_goesTurn_19 : decode cX12_goesTurn 19 = .ok (.istore 4, 2) := by decide +kernel
theorem dX12_goesTurn_21 : decode cX12_goesTurn 21 = .ok (.iload 4, 2) := by decide +kernel
theorem dX12_goesTurn_23 : decode cX12_goesTurn 23 = .ok (.iload_n 1, 1) := by decide +kernel
theorem dX12_goesTurn_24 : decode cX12_goesTurn 24 = .ok (.if_icmp .ge 23, 3) := by decide +kernel
theorem dX12_goesTurn_47 : decode cX12_goesTurn 47 = .ok (.return_, 1) := by decide +kernel
theorem dX12_guide_0 : decode cX12_guide 0 = .ok (.aload_n 0, 1) := by decide +kernel
theorem dX12_guide_1 : decode cX12_guide 1 = .ok (.iconst 0, 1) := by decide +kernel
theorem dX12_guide_2 : decode cX12_guide 2 = .ok (.putfield 1, 3) := by decide +kernel
theorem dX12_guide_5 : decode cX12_guide 5 = .ok (.aload_n 0, 1) := by decide +kernel
theorem dX12_guide_6 : decode cX12_guide 6 = .ok (.iload_n 1, 1) := by decide +kernel
theorem dX12_guide_7 : decode cX12_guide 7 = .ok (.i2l, 1) := by decide +kernel
theorem dX12_guide_8 : decode cX12_guide 8 = .ok (.invokevirtual 222, 3) := by decide +kernel
theorem dX12_guide_11 : decode cX12_guide 11 = .ok (.ifCond .ne 6, 3) := by decide +kernel
theorem dX12_guide_14 : decode cX12_guide 14 = .ok (.bipush (-2), 2) := by decide +kernel
theorem dX12_guide_16 : decode cX12_guide 16 = .ok (.ireturn, 1) := by decide +kernel
theorem dX12_highest_0 : decode cX12_highest 0 = .ok (.aload_n 0, 1) := by decide +kernel
theorem dX12_highest_1 : decode cX12_highest 1 = .ok (.iconst 0, 1) := by decide +kernel
theorem dX12_highest_2 : decode cX12_highest 2 = .ok (.putfield 1, 3) := by decide +kernel
theorem dX12_highest_5 : decode cX12_highest 5 = .ok (.aload_n 0, 1) := by decide +kernel
theorem dX12_highest_6 : decode cX12_highest 6 = .ok (.iload_n 1, 1) := by decide +kernel
theorem dX12_highest_7 : decode cX12_highest 7 = .ok (.i2l, 1) := by decide +kernel
theorem dX12_highest_8 : decode cX12_highest 8 = .ok (.invokevirtual 222, 3) := by decide +kernel
theorem dX12_highest_11 : decode cX12_highest 11 = .ok (.ifCond .ne 6, 3) := by decide +kernel
theorem dX12_highest_14 : decode cX12_highest 14 = .ok (.bipush (-2), 2) := by decide +kernel
theorem dX12_highest_16 : decode cX12_highest 16 = .ok (.ireturn, 1) := by decide +kernel
theorem dX12_hold_0 : decode cX12_hold 0 = .ok (.aload_n 0, 1) := by decide +kernel
theorem dX12_hold_1 : decode cX12_hold 1 = .ok (.iconst 0, 1) := by decide +kernel
theorem dX12_hold_2 : decode cX12_hold 2 = .ok (.putfield 1, 3) := by decide +kernel
theorem dX12_hold_5 : decode cX12_hold 5 = .ok (.aload_n 0, 1) := by decide +kernel
theorem dX12_hold_6 : decode cX12_hold 6 = .ok (.iload_n 1, 1) := by decide +kernel
theorem dX12_hold_7 : decode cX12_hold 7 = .ok (.i2l, 1) := by decide +kernel
theorem dX12_hold_8 : decode cX12_hold 8 = .ok (.invokevirtual 218, 3) := by decide +kernel
theorem dX12_hold_11 : decode cX12_hold 11 = .ok (.ifCond .ne 6, 3) := by decide +kernel
theorem dX12_hold_14 : decode cX12_hold 14 = .ok (.bipush (-8), 2) := by decide +kernel
theorem dX12_hold_16 : decode cX12_hold 16 = .ok (.ireturn, 1) := by decide +kernel
theorem dX12_idle_0 : decode cX12_idle 0 = .ok (.aload_n 0, 1) := by decide +kernel
theorem dX12_idle_1 : decode cX12_idle 1 = .ok (.iconst 0, 1) := by decide +kernel
theorem dX12_idle_2 : decode cX12_idle 2 = .ok (.putfield 1, 3) := by decide +kernel
theorem dX12_idle_5 : decode cX12_idle 5 = .ok (.aload_n 0, 1) := by decide +kernel
theorem dX12_idle_6 : decode cX12_idle 6 = .ok (.iload_n 1, 1) := by decide +kernel
theorem dX12_idle_7 : decode cX12_idle 7 = .ok (.i2l, 1) := by decide +kernel
theorem dX12_idle_8 : decode cX12_idle 8 = .ok (.invokevirtual 222, 3) := by decide +kernel
theorem dX12_idle_11 : decode cX12_idle 11 = .ok (.ifCond .ne 6, 3) := by decide +kernel
theorem dX12_idle_14 : decode cX12_idle 14 = .ok (.bipush (-2), 2) := by decide +kernel
theorem dX12_idle_16 : decode cX12_idle 16 = .ok (.ireturn, 1) := by decide +kernel
theorem dX12_image_0 : decode cX12_image 0 = .ok (.aload_n 0, 1) := by decide +kernel
theorem dX12_image_1 : decode cX12_image 1 = .ok (.iconst 0, 1) := by decide +kernel
theorem dX12_image_2 : decode cX12_image 2 = .ok (.putfield 1, 3) := by decide +kernel
theorem dX12_image_5 : decode cX12_image 5 = .ok (.iload_n 1, 1) := by decide +kernel
theorem dX12_image_6 : decode cX12_image 6 = .ok (.i2l, 1) := by decide +kernel
theorem dX12_image_7 : decode cX12_image 7 = .ok (.lconst 0, 1) := by decide +kernel
theorem dX12_image_8 : decode cX12_image 8 = .ok (.lconst 1, 1) := by decide +kernel
theorem dX12_image_9 : decode cX12_image 9 = .ok (.invokestatic 144, 3) := by decide +kernel
theorem dX12_image_12 : decode cX12_image 12 = .ok (.ifCond .ne 6, 3) := by decide +kernel
theorem dX12_image_15 : decode cX12_image 15 = .ok (.bipush (-2), 2) := by decide +kernel
theorem dX12_image_17 : decode cX12_image 17 = .ok (.ireturn, 1) := by decide +kernel
theorem dX12_image_18 : decode cX12_image 18 = .ok (.iconst 0, 1) := by decide +kernel
theorem dX12_image_19 : decode cX12_image 19 = .ok (.istore_n 2, 1) := by decide +kernel
theorem dX12_image_20 : decode cX12_image 20 = .ok (.iload_n 2, 1) := by decide +kernel
theorem dX12_image_21 : decode cX12_image 21 = .ok (.sipush 1302, 3) := by decide +kernel
theorem dX12_image_24 : decode cX12_image 24 = .ok (.if_icmp .ge 29, 3) := by decide +kernel
theorem dX12_image_27 : decode cX12_image 27 = .ok (.aload_n 0, 1) := by decide +kernel
theorem dX12_image_28 : decode cX12_image 28 = .ok (.getfield 13, 3) := by decide +kernel
theorem dX12_image_31 : decode cX12_image 31 = .ok (.sipush 1302, 3) := by decide +kernel
theorem dX12_image_34 : decode cX12_image 34 = .ok (.iload_n 1, 1) := by decide +kernel
theorem dX12_image_35 : decode cX12_image 35 = .ok (.iconst 1, 1) := by decide +kernel
theorem dX12_image_36 : decode cX12_image 36 = .ok (.iadd, 1) := by decide +kernel
theorem dX12_image_37 : decode cX12_image 37 = .ok (.imul, 1) := by decide +kernel
theorem dX12_image_38 : decode cX12_image 38 = .ok (.iload_n 2, 1) := by decide +kernel
theorem dX12_image_39 : decode cX12_image 39 = .ok (.iadd, 1) := by decide +kernel
theorem dX12_image_40 : decode cX12_image 40 = .ok (.aload_n 0, 1) := by decide +kernel
theorem dX12_image_41 : decode cX12_image 41 = .ok (.getfield 13, 3) := by decide +kernel
theorem dX12_image_44 : decode cX12_image 44 = .ok (.iload_n 2, 1) := by decide +kernel
theorem dX12_image_45 : decode cX12_image 45 = .ok (.iaload, 1) := by decide +kernel
theorem dX12_image_46 : decode cX12_image 46 = .ok (.iastore, 1) := by decide +kernel
theorem dX12_image_47 : decode cX12_image 47 = .ok (.iinc 2 1, 3) := by decide +kernel
theorem dX12_image_50 : decode cX12_image 50 = .ok (.goto (-30), 3) := by decide +kernel
theorem dX12_image_53 : decode cX12_image 53 = .ok (.aload_n 0, 1) := by decide +kernel
theorem dX12_image_54 : decode cX12_image 54 = .ok (.getfield 17, 3) := by decide +kernel
theorem dX12_image_57 : decode cX12_image 57 = .ok (.iload_n 1, 1) := by decide +kernel
theorem dX12_image_58 : decode cX12_image 58 = .ok (.iconst 1, 1) := by decide +kernel
theorem dX12_image_59 : decode cX12_image 59 = .ok (.bastore, 1) := by decide +kernel
theorem dX12_image_60 : decode cX12_image 60 = .ok (.iconst 0, 1) := by decide +kernel
theorem dX12_image_61 : decode cX12_image 61 = .ok (.ireturn, 1) := by decide +kernel
theorem dX12_inTurn_0 : decode cX12_inTurn 0 = .ok (.aload_n 0, 1) := by decide +kernel
theorem dX12_inTurn_1 : decode cX12_inTurn 1 = .ok (.iconst 0, 1) := by decide +kernel
theorem dX12_inTurn_2 : decode cX12_inTurn 2 = .ok (.putfield 1, 3) := by decide +kernel
theorem dX12_inTurn_5 : decode cX12_inTurn 5 = .ok (.iload_n 1, 1) := by decide +kernel
theorem dX12_inTurn_6 : decode cX12_inTurn 6 = .ok (.i2l, 1) := by decide +kernel
theorem dX12_inTurn_7 : decode cX12_inTurn 7 = .ok (.lconst 0, 1) := by decide +kernel
theorem dX12_inTurn_8 : decode cX12_inTurn 8 = .ok (.iconst 1, 1) := by decide +kernel
theorem dX12_inTurn_9 : decode cX12_inTurn 9 = .ok (.aload_n 0, 1) := by decide +kernel
theorem dX12_inTurn_10 : decode cX12_inTurn 10 = .ok (.getfield 13, 3) := by decide +kernel
theorem dX12_inTurn_13 : decode cX12_inTurn 13 = .ok (.iconst 2, 1) := by decide +kernel
theorem dX12_inTurn_14 : decode cX12_inTurn 14 = .ok (.iaload, 1) := by decide +kernel
theorem dX12_inTurn_15 : decode cX12_inTurn 15 = .ok (.ishl, 1) := by decide +kernel
theorem dX12_inTurn_16 : decode cX12_inTurn 16 = .ok (.iconst 1, 1) := by decide +kernel
theorem dX12_inTurn_17 : decode cX12_inTurn 17 = .ok (.isub, 1) := by decide +kernel
theorem dX12_inTurn_18 : decode cX12_inTurn 18 = .ok (.i2l, 1) := by decide +kernel
theorem dX12_inTurn_19 : decode cX12_inTurn 19 = .ok (.invokestatic 144, 3) := by decide +kernel
theorem dX12_inTurn_22 : decode cX12_inTurn 22 = .ok (.ifCond .ne 6, 3) := by decide +kernel
theorem dX12_inTurn_25 : decode cX12_inTurn 25 = .ok (.bipush (-3), 2) := by decide +kernel
theorem dX12_inTurn_27 : decode cX12_inTurn 27 = .ok (.ireturn, 1) := by decide +kernel
theorem dX12_inTurn_28 : decode cX12_inTurn 28 = .ok (.iload_n 2, 1) := by decide +kernel
theorem dX12_inTurn_29 : decode cX12_inTurn 29 = .ok (.ifCond .eq 20, 3) := by decide +kernel
theorem dX12_inTurn_32 : decode cX12_inTurn 32 = .ok (.iload_n 2, 1) := by decide +kernel
theorem dX12_inTurn_33 : decode cX12_inTurn 33 = .ok (.i2l, 1) := by decide +kernel
theorem dX12_inTurn_34 : decode cX12_inTurn 34 = .ok (.ldc2_w 318, 3) := by decide +kernel
theorem dX12_inTurn_37 : decode cX12_inTurn 37 = .ok (.ldc2_w 309, 3) := by decide +kernel
theorem dX12_inTurn_40 : decode cX12_inTurn 40 = .ok (.invokestatic 144, 3) := by decide +kernel
theorem dX12_inTurn_43 : decode cX12_inTurn 43 = .ok (.ifCond .ne 6, 3) := by decide +kernel
theorem dX12_inTurn_46 : decode cX12_inTurn 46 = .ok (.bipush (-2), 2) := by decide +kernel
theorem dX12_inTurn_48 : decode cX12_inTurn 48 = .ok (.ireturn, 1) := by decide +kernel
theorem dX12_inTurn_49 : decode cX12_inTurn 49 = .ok (.aload_n 0, 1) := by decide +kernel
theorem dX12_inTurn_50 : decode cX12_inTurn 50 = .ok (.iconst (-1), 1) := by decide +kernel
theorem dX12_inTurn_51 : decode cX12_inTurn 51 = .ok (.putfield 387, 3) := by decide +kernel
theorem dX12_inTurn_54 : decode cX12_inTurn 54 = .ok (.aload_n 0, 1) := by decide +kernel
theorem dX12_inTurn_55 : decode cX12_inTurn 55 = .ok (.iconst 0, 1) := by decide +kernel
theorem dX12_inTurn_56 : decode cX12_inTurn 56 = .ok (.iload_n 1, 1) := by decide +kernel
theorem dX12_inTurn_57 : decode cX12_inTurn 57 = .ok (.iconst 0, 1) := by decide +kernel
theorem dX12_inTurn_58 : decode cX12_inTurn 58 = .ok (.invokevirtual 390, 3) := by decide +kernel
theorem dX12_inTurn_61 : decode cX12_inTurn 61 = .ok (.iload_n 2, 1) := by decide +kernel
theorem dX12_inTurn_62 : decode cX12_inTurn 62 = .ok (.ifCond .ne 10, 3) := by decide +kernel
theorem dX12_inTurn_65 : decode cX12_inTurn 65 = .ok (.aload_n 0, 1) := by decide +kernel
theorem dX12_inTurn_66 : decode cX12_inTurn 66 = .ok (.getfield 387, 3) := by decide +kernel
theorem dX12_inTurn_69 : decode cX12_inTurn 69 = .ok (.goto 27, 3) := by decide +kernel
theorem dX12_inTurn_72 : decode cX12_inTurn 72 = .ok (.iload_n 2, 1) := by decide +kernel
theorem dX12_inTurn_73 : decode cX12_inTurn 73 = .ok (.bipush 10, 2) := by decide +kernel
theorem dX12_inTurn_75 : decode cX12_inTurn 75 = .ok (.isub, 1) := by decide +kernel
theorem dX12_inTurn_76 : decode cX12_inTurn 76 = .ok (.iload_n 1, 1) := by decide +kernel
theorem dX12_inTurn_77 : decode cX12_inTurn 77 = .ok (.invokestatic 334, 3) := by decide +kernel
theorem dX12_inTurn_80 : decode cX12_inTurn 80 = .ok (.if_icmp .ge 15, 3) := by decide +kernel
theorem dX12_inTurn_95 : decode cX12_inTurn 95 = .ok (.iconst (-1), 1) := by decide +kernel
theorem dX12_inTurn_96 : decode cX12_inTurn 96 = .ok (.ireturn, 1) := by decide +kernel
theorem dX12_init_0 : decode cX12_init 0 = .ok (.aload_n 0, 1) := by decide +kernel
theorem dX12_init_1 : decode cX12_init 1 = .ok (.invokespecial 7, 3) := by decide +kernel
theorem dX12_init_4 : decode cX12_init 4 = .ok (.aload_n 0, 1) := by decide +kernel
theorem dX12_init_5 : decode cX12_init 5 = .ok (.sipush 3906, 3) := by decide +kernel
theorem dX12_init_8 : decode cX12_init 8 = .ok (.newarray .int, 2) := by decide +kernel
theorem dX12_init_10 : decode cX12_init 10 = .ok (.putfield 13, 3) := by decide +kernel
theorem dX12_init_13 : decode cX12_init 13 = .ok (.aload_n 0, 1) := by decide +kernel
theorem dX12_init_14 : decode cX12_init 14 = .ok (.iconst 2, 1) := by decide +kernel
theorem dX12_init_15 : decode cX12_init 15 = .ok (.newarray .boolean, 2) := by decide +kernel
theorem dX12_init_17 : decode cX12_init 17 = .ok (.putfield 17, 3) := by decide +kernel
theorem dX12_init_20 : decode cX12_init 20 = .ok (.aload_n 0, 1) := by decide +kernel
theorem dX12_init_21 : decode cX12_init 21 = .ok (.sipush 900, 3) := by decide +kernel
theorem dX12_init_24 : decode cX12_init 24 = .ok (.newarray .int, 2) := by decide +kernel
theorem dX12_init_26 : decode cX12_init 26 = .ok (.putfield 21, 3) := by decide +kernel
theorem dX12_init_29 : decode cX12_init 29 = .ok (.aload_n 0, 1) := by decide +kernel
theorem dX12_init_30 : decode cX12_init 30 = .ok (.sipush 1302, 3) := by decide +kernel
theorem dX12_init_33 : decode cX12_init 33 = .ok (.newarray .int, 2) := by decide +kernel
theorem dX12_init_35 : decode cX12_init 35 = .ok (.putfield 24, 3) := by decide +kernel
theorem dX12_init_38 : decode cX12_init 38 = .ok (.aload_n 0, 1) := by decide +kernel
theorem dX12_init_39 : decode cX12_init 39 = .ok (.iconst (-1), 1) := by decide +kernel
theorem dX12_init_40 : decode cX12_init 40 = .ok (.putfield 27, 3) := by decide +kernel
theorem dX12_init_43 : decode cX12_init 43 = .ok (.aload_n 0, 1) := by decide +kernel
theorem dX12_init_44 : decode cX12_init 44 = .ok (.sipush 900, 3) := by decide +kernel
theorem dX12_init_47 : decode cX12_init 47 = .ok (.newarray .int, 2) := by decide +kernel
theorem dX12_init_49 : decode cX12_init 49 = .ok (.putfield 30, 3) := by decide +kernel
theorem dX12_init_52 : decode cX12_init 52 = .ok (.aload_n 0, 1) := by decide +kernel
theorem dX12_init_53 : decode cX12_init 53 = .ok (.bipush 14, 2) := by decide +kernel
theorem dX12_init_55 : decode cX12_init 55 = .ok (.newarray .int, 2) := by decide +kernel
theorem dX12_init_57 : decode cX12_init 57 = .ok (.putfield 33, 3) := by decide +kernel
theorem dX12_init_60 : decode cX12_init 60 = .ok (.aload_n 0, 1) := by decide +kernel
theorem dX12_init_61 : decode cX12_init 61 = .ok (.bipush 14, 2) := by decide +kernel
theorem dX12_init_63 : decode cX12_init 63 = .ok (.newarray .int, 2) := by decide +kernel
theorem dX12_init_65 : decode cX12_init 65 = .ok (.putfield 36, 3) := by decide +kernel
theorem dX12_init_68 : decode cX12_init 68 = .ok (.aload_n 0, 1) := by decide +kernel
theorem dX12_init_69 : decode cX12_init 69 = .ok (.bipush 14, 2) := by decide +kernel
theorem dX12_init_71 : decode cX12_init 71 = .ok (.newarray .int, 2) := by decide +kernel
theorem dX12_init_73 : decode cX12_init 73 = .ok (.putfield 39, 3) := by decide +kernel
theorem dX12_init_76 : decode cX12_init 76 = .ok (.aload_n 0, 1) := by decide +kernel
theorem dX12_init_77 : decode cX12_init 77 = .ok (.bipush 31, 2) := by decide +kernel
theorem dX12_init_79 : decode cX12_init 79 = .ok (.newarray .int, 2) := by decide +kernel
theorem dX12_init_81 : decode cX12_init 81 = .ok (.putfield 42, 3) := by decide +kernel
theorem dX12_init_84 : decode cX12_init 84 = .ok (.aload_n 0, 1) := by decide +kernel
theorem dX12_init_85 : decode cX12_init 85 = .ok (.bipush 31, 2) := by decide +kernel
theorem dX12_init_87 : decode cX12_init 87 = .ok (.newarray .int, 2) := by decide +kernel
theorem dX12_init_89 : decode cX12_init 89 = .ok (.putfield 45, 3) := by decide +kernel
theorem dX12_init_92 : decode cX12_init 92 = .ok (.aload_n 0, 1) := by decide +kernel
theorem dX12_init_93 : decode cX12_init 93 = .ok (.ldc 48, 2) := by decide +kernel
theorem dX12_init_95 : decode cX12_init 95 = .ok (.newarray .long, 2) := by decide +kernel
theorem dX12_init_97 : decode cX12_init 97 = .ok (.putfield 49, 3) := by decide +kernel
theorem dX12_init_100 : decode cX12_init 100 = .ok (.aload_n 0, 1) := by decide +kernel
theorem dX12_init_101 : decode cX12_init 101 = .ok (.sipush 16384, 3) := by decide +kernel
theorem dX12_init_104 : decode cX12_init 104 = .ok (.newarray .boolean, 2) := by decide +kernel
theorem dX12_init_106 : decode cX12_init 106 = .ok (.putfield 53, 3) := by decide +kernel
theorem dX12_init_109 : decode cX12_init 109 = .ok (.aload_n 0, 1) := by decide +kernel
theorem dX12_init_110 : decode cX12_init 110 = .ok (.ldc 48, 2) := by decide +kernel
theorem dX12_init_112 : decode cX12_init 112 = .ok (.newarray .byte, 2) := by decide +kernel
theorem dX12_init_114 : decode cX12_init 114 = .ok (.putfield 56, 3) := by decide +kernel
theorem dX12_init_117 : decode cX12_init 117 = .ok (.aload_n 0, 1) := by decide +kernel
theorem dX12_init_118 : decode cX12_init 118 = .ok (.iconst 5, 1) := by decide +kernel
theorem dX12_init_119 : decode cX12_init 119 = .ok (.newarray .int, 2) := by decide +kernel
theorem dX12_init_121 : decode cX12_init 121 = .ok (.putfield 60, 3) := by decide +kernel
theorem dX12_init_124 : decode cX12_init 124 = .ok (.aload_n 0, 1) := by decide +kernel
theorem dX12_init_125 : decode cX12_init 125 = .ok (.iconst 5, 1) := by decide +kernel
theorem dX12_init_126 : decode cX12_init 126 = .ok (.newarray .int, 2) := by decide +kernel
theorem dX12_init_128 : decode cX12_init 128 = .ok (.putfield 63, 3) := by decide +kernel
theorem dX12_init_131 : decode cX12_init 131 = .ok (.aload_n 0, 1) := by decide +kernel
theorem dX12_init_132 : decode cX12_init 132 = .ok (.sipush 186, 3) := by decide +kernel
theorem dX12_init_135 : decode cX12_init 135 = .ok (.newarray .int, 2) := by decide +kernel
theorem dX12_init_137 : decode cX12_init 137 = .ok (.putfield 66, 3) := by decide +kernel
theorem dX12_init_140 : decode cX12_init 140 = .ok (.aload_n 0, 1) := by decide +kernel
theorem dX12_init_141 : decode cX12_init 141 = .ok (.iconst 4, 1) := by decide +kernel
theorem dX12_init_142 : decode cX12_init 142 = .ok (.newarray .int, 2) := by decide +kernel
theorem dX12_init_144 : decode cX12_init 144 = .ok (.dup, 1) := by decide +kernel
theorem dX12_init_145 : decode cX12_init 145 = .ok (.iconst 0, 1) := by decide +kernel
theorem dX12_init_146 : decode cX12_init 146 = .ok (.iconst (-1), 1) := by decide +kernel
theorem dX12_init_147 : decode cX12_init 147 = .ok (.iastore, 1) := by decide +kernel
theorem dX12_init_148 : decode cX12_init 148 = .ok (.dup, 1) := by decide +kernel
theorem dX12_init_149 : decode cX12_init 149 = .ok (.iconst 1, 1) := by decide +kernel
theorem dX12_init_150 : decode cX12_init 150 = .ok (.iconst (-1), 1) := by decide +kernel
theorem dX12_init_151 : decode cX12_init 151 = .ok (.iastore, 1) := by decide +kernel
theorem dX12_init_152 : decode cX12_init 152 = .ok (.dup, 1) := by decide +kernel
theorem dX12_init_153 : decode cX12_init 153 = .ok (.iconst 2, 1) := by decide +kernel
theorem dX12_init_154 : decode cX12_init 154 = .ok (.iconst (-1), 1) := by decide +kernel
theorem dX12_init_155 : decode cX12_init 155 = .ok (.iastore, 1) := by decide +kernel
theorem dX12_init_156 : decode cX12_init 156 = .ok (.dup, 1) := by decide +kernel
theorem dX12_init_157 : decode cX12_init 157 = .ok (.iconst 3, 1) := by decide +kernel
theorem dX12_init_158 : decode cX12_init 158 = .ok (.iconst (-1), 1) := by decide +kernel
theorem dX12_init_159 : decode cX12_init 159 = .ok (.iastore, 1) := by decide +kernel
theorem dX12_init_160 : decode cX12_init 160 = .ok (.putfield 69, 3) := by decide +kernel
theorem dX12_init_163 : decode cX12_init 163 = .ok (.aload_n 0, 1) := by decide +kernel
theorem dX12_init_164 : decode cX12_init 164 = .ok (.iconst 4, 1) := by decide +kernel
theorem dX12_init_165 : decode cX12_init 165 = .ok (.newarray .int, 2) := by decide +kernel
theorem dX12_init_167 : decode cX12_init 167 = .ok (.putfield 72, 3) := by decide +kernel
theorem dX12_init_170 : decode cX12_init 170 = .ok (.aload_n 0, 1) := by decide +kernel
theorem dX12_init_171 : decode cX12_init 171 = .ok (.sipush 160, 3) := by decide +kernel
theorem dX12_init_174 : decode cX12_init 174 = .ok (.newarray .long, 2) := by decide +kernel
theorem dX12_init_176 : decode cX12_init 176 = .ok (.putfield 75, 3) := by decide +kernel
theorem dX12_init_179 : decode cX12_init 179 = .ok (.aload_n 0, 1) := by decide +kernel
theorem dX12_init_180 : decode cX12_init 180 = .ok (.getfield 13, 3) := by decide +kernel
theorem dX12_init_183 : decode cX12_init 183 = .ok (.invokestatic 78, 3) := by decide +kernel
theorem dX12_init_186 : decode cX12_init 186 = .ok (.return_, 1) := by decide +kernel
theorem dX12_isGuide_0 : decode cX12_isGuide 0 = .ok (.lload_n 1, 1) := by decide +kernel
theorem dX12_isGuide_1 : decode cX12_isGuide 1 = .ok (.lconst 0, 1) := by decide +kernel
theorem dX12_isGuide_2 : decode cX12_isGuide 2 = .ok (.aload_n 0, 1) := by decide +kernel
theorem dX12_isGuide_3 : decode cX12_isGuide 3 = .ok (.getfield 13, 3) := by decide +kernel
theorem dX12_isGuide_6 : decode cX12_isGuide 6 = .ok (.iconst 2, 1) := by decide +kernel
theorem dX12_isGuide_7 : decode cX12_isGuide 7 = .ok (.iaload, 1) := by decide +kernel
theorem dX12_isGuide_8 : decode cX12_isGuide 8 = .ok (.iconst 1, 1) := by decide +kernel
theorem dX12_isGuide_9 : decode cX12_isGuide 9 = .ok (.isub, 1) := by decide +kernel
theorem dX12_isGuide_10 : decode cX12_isGuide 10 = .ok (.i2l, 1) := by decide +kernel
theorem dX12_isGuide_11 : decode cX12_isGuide 11 = .ok (.invokestatic 144, 3) := by decide +kernel
theorem dX12_isGuide_14 : decode cX12_isGuide 14 = .ok (.ireturn, 1) := by decide +kernel
theorem dX12_isHold_0 : decode cX12_isHold 0 = .ok (.lload_n 1, 1) := by decide +kernel
theorem dX12_isHold_1 : decode cX12_isHold 1 = .ok (.lconst 0, 1) := by decide +kernel
theorem dX12_isHold_2 : decode cX12_isHold 2 = .ok (.aload_n 0, 1) := by decide +kernel
theorem dX12_isHold_3 : decode cX12_isHold 3 = .ok (.getfield 13, 3) := by decide +kernel
theorem dX12_isHold_6 : decode cX12_isHold 6 = .ok (.iconst 1, 1) := by decide +kernel
theorem dX12_isHold_7 : decode cX12_isHold 7 = .ok (.iaload, 1) := by decide +kernel
theorem dX12_isHold_8 : decode cX12_isHold 8 = .ok (.iconst 1, 1) := by decide +kernel
theorem dX12_isHold_9 : decode cX12_isHold 9 = .ok (.isub, 1) := by decide +kernel
theorem dX12_isHold_10 : decode cX12_isHold 10 = .ok (.i2l, 1) := by decide +kernel
theorem dX12_isHold_11 : decode cX12_isHold 11 = .ok (.invokestatic 144, 3) := by decide +kernel
theorem dX12_isHold_14 : decode cX12_isHold 14 = .ok (.ireturn, 1) := by decide +kernel
theorem dX12_isSetOf_0 : decode cX12_isSetOf 0 = .ok (.iload_n 1, 1) := by decide +kernel
theorem dX12_isSetOf_1 : decode cX12_isSetOf 1 = .ok (.aload_n 0, 1) := by decide +kernel
theorem dX12_isSetOf_2 : decode cX12_isSetOf 2 = .ok (.invokevirtual 372, 3) := by decide +kernel
theorem dX12_isSetOf_5 : decode cX12_isSetOf 5 = .ok (.aload_n 0, 1) := by decide +kernel
theorem dX12_isSetOf_6 : decode cX12_isSetOf 6 = .ok (.invokevirtual 272, 3) := by decide +kernel
theorem dX12_isSetOf_9 : decode cX12_isSetOf 9 = .ok (.iconst (-1), 1) := by decide +kernel
theorem dX12_isSetOf_10 : decode cX12_isSetOf 10 = .ok (.ixor, 1) := by decide +kernel
theorem dX12_isSetOf_11 : decode cX12_isSetOf 11 = .ok (.iand, 1) := by decide +kernel
theorem dX12_isSetOf_12 : decode cX12_isSetOf 12 = .ok (.iconst (-1), 1) := by decide +kernel
theorem dX12_isSetOf_13 : decode cX12_isSetOf 13 = .ok (.ixor, 1) := by decide +kernel
theorem dX12_isSetOf_14 : decode cX12_isSetOf 14 = .ok (.iand, 1) := by decide +kernel
theorem dX12_isSetOf_15 : decode cX12_isSetOf 15 = .ok (.ifCond .ne 7, 3) := by decide +kernel
theorem dX12_isSetOf_18 : decode cX12_isSetOf 18 = .ok (.iconst 1, 1) := by decide +kernel
theorem dX12_isSetOf_19 : decode cX12_isSetOf 19 = .ok (.goto 4, 3) := by decide +kernel
theorem dX12_isSetOf_22 : decode cX12_isSetOf 22 = .ok (.iconst 0, 1) := by decide +kernel
theorem dX12_isSetOf_23 : decode cX12_isSetOf 23 = .ok (.ireturn, 1) := by decide +kernel
theorem dX12_judge_0 : decode cX12_judge 0 = .ok (.aload_n 0, 1) := by decide +kernel
theorem dX12_judge_1 : decode cX12_judge 1 = .ok (.iconst 0, 1) := by decide +kernel
theorem dX12_judge_2 : decode cX12_judge 2 = .ok (.putfield 1, 3) := by decide +kernel
theorem dX12_judge_5 : decode cX12_judge 5 = .ok (.iload_n 2, 1) := by decide +kernel
theorem dX12_judge_6 : decode cX12_judge 6 = .ok (.i2l, 1) := by decide +kernel
theorem dX12_judge_7 : decode cX12_judge 7 = .ok (.lconst 0, 1) := by decide +kernel
theorem dX12_judge_8 : decode cX12_judge 8 = .ok (.ldc2_w 287, 3) := by decide +kernel
theorem dX12_judge_11 : decode cX12_judge 11 = .ok (.invokestatic 144, 3) := by decide +kernel
theorem dX12_judge_14 : decode cX12_judge 14 = .ok (.ifCond .ne 6, 3) := by decide +kernel
theorem dX12_judge_17 : decode cX12_judge 17 = .ok (.bipush (-2), 2) := by decide +kernel
theorem dX12_judge_19 : decode cX12_judge 19 = .ok (.ireturn, 1) := by decide +kernel
theorem dX12_judge_20 : decode cX12_judge 20 = .ok (.aload_n 0, 1) := by decide +kernel
theorem dX12_judge_21 : decode cX12_judge 21 = .ok (.iload_n 1, 1) := by decide +kernel
theorem dX12_judge_22 : decode cX12_judge 22 = .ok (.invokevirtual 289, 3) := by decide +kernel
theorem dX12_judge_25 : decode cX12_judge 25 = .ok (.istore_n 3, 1) := by decide +kernel
theorem dX12_judge_26 : decode cX12_judge 26 = .ok (.iload_n 3, 1) := by decide +kernel
theorem dX12_judge_27 : decode cX12_judge 27 = .ok (.ifCond .eq 5, 3) := by decide +kernel
theorem dX12_judge_30 : decode cX12_judge 30 = .ok (.iload_n 3, 1) := by decide +kernel
theorem dX12_judge_31 : decode cX12_judge 31 = .ok (.ireturn, 1) := by decide +kernel
theorem dX12_keeps_0 : decode cX12_keeps 0 = .ok (.iconst 0, 1) := by decide +kernel
theorem dX12_keeps_1 : decode cX12_keeps 1 = .ok (.istore_n 1, 1) := by decide +kernel
theorem dX12_keeps_2 : decode cX12_keeps 2 = .ok (.iload_n 1, 1) := by decide +kernel
theorem dX12_keeps_3 : decode cX12_keeps 3 = .ok (.bipush 31, 2) := by decide +kernel
