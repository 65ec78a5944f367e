theorem dX12_able_0 : decode cX12_able 0 = .ok (.aload_n 0, 1) := by decide +kernel
theorem dX12_able_1 : decode cX12_able 1 = .ok (.iconst 0, 1) := by decide +kernel
theorem dX12_able_2 : decode cX12_able 2 = .ok (.putfield 1, 3) := by decide +kernel
theorem dX12_able_5 : decode cX12_able 5 = .ok (.iconst 0, 1) := by decide +kernel
theorem dX12_able_6 : decode cX12_able 6 = .ok (.istore_n 1, 1) := by decide +kernel
theorem dX12_able_7 : decode cX12_able 7 = .ok (.iconst 0, 1) := by decide +kernel
theorem dX12_able_8 : decode cX12_able 8 = .ok (.istore_n 2, 1) := by decide +kernel
theorem dX12_able_9 : decode cX12_able 9 = .ok (.iload_n 2, 1) := by decide +kernel
theorem dX12_able_10 : decode cX12_able 10 = .ok (.aload_n 0, 1) := by decide +kernel
theorem dX12_able_11 : decode cX12_able 11 = .ok (.getfield 13, 3) := by decide +kernel
theorem dX12_able_14 : decode cX12_able 14 = .ok (.iconst 2, 1) := by decide +kernel
theorem dX12_able_15 : decode cX12_able 15 = .ok (.iaload, 1) := by decide +kernel
theorem dX12_able_16 : decode cX12_able 16 = .ok (.if_icmp .ge 35, 3) := by decide +kernel
theorem dX12_able_19 : decode cX12_able 19 = .ok (.aload_n 0, 1) := by decide +kernel
theorem dX12_able_20 : decode cX12_able 20 = .ok (.iload_n 2, 1) := by decide +kernel
theorem dX12_able_21 : decode cX12_able 21 = .ok (.invokevirtual 257, 3) := by decide +kernel
theorem dX12_able_24 : decode cX12_able 24 = .ok (.iload_n 1, 1) := by decide +kernel
theorem dX12_able_25 : decode cX12_able 25 = .ok (.aload_n 0, 1) := by decide +kernel
theorem dX12_able_26 : decode cX12_able 26 = .ok (.aload_n 0, 1) := by decide +kernel
theorem dX12_able_27 : decode cX12_able 27 = .ok (.invokevirtual 260, 3) := by decide +kernel
theorem dX12_able_30 : decode cX12_able 30 = .ok (.invokevirtual 354, 3) := by decide +kernel
theorem dX12_able_33 : decode cX12_able 33 = .ok (.ifCond .eq 9, 3) := by decide +kernel
theorem dX12_able_36 : decode cX12_able 36 = .ok (.iconst 1, 1) := by decide +kernel
theorem dX12_able_37 : decode cX12_able 37 = .ok (.iload_n 2, 1) := by decide +kernel
theorem dX12_able_38 : decode cX12_able 38 = .ok (.ishl, 1) := by decide +kernel
theorem dX12_able_39 : decode cX12_able 39 = .ok (.goto 4, 3) := by decide +kernel
theorem dX12_able_42 : decode cX12_able 42 = .ok (.iconst 0, 1) := by decide +kernel
theorem dX12_able_43 : decode cX12_able 43 = .ok (.ior, 1) := by decide +kernel
theorem dX12_able_44 : decode cX12_able 44 = .ok (.istore_n 1, 1) := by decide +kernel
theorem dX12_able_45 : decode cX12_able 45 = .ok (.iinc 2 1, 3) := by decide +kernel
theorem dX12_able_48 : decode cX12_able 48 = .ok (.goto (-39), 3) := by decide +kernel
theorem dX12_able_51 : decode cX12_able 51 = .ok (.iload_n 1, 1) := by decide +kernel
theorem dX12_able_52 : decode cX12_able 52 = .ok (.ireturn, 1) := by decide +kernel
theorem dX12_dearest_0 : decode cX12_dearest 0 = .ok (.aload_n 0, 1) := by decide +kernel
theorem dX12_dearest_1 : decode cX12_dearest 1 = .ok (.iconst 0, 1) := by decide +kernel
theorem dX12_dearest_2 : decode cX12_dearest 2 = .ok (.putfield 1, 3) := by decide +kernel
theorem dX12_dearest_5 : decode cX12_dearest 5 = .ok (.aload_n 0, 1) := by decide +kernel
theorem dX12_dearest_6 : decode cX12_dearest 6 = .ok (.iload_n 1, 1) := by decide +kernel
theorem dX12_dearest_7 : decode cX12_dearest 7 = .ok (.i2l, 1) := by decide +kernel
theorem dX12_dearest_8 : decode cX12_dearest 8 = .ok (.invokevirtual 222, 3) := by decide +kernel
theorem dX12_dearest_11 : decode cX12_dearest 11 = .ok (.ifCond .ne 6, 3) := by decide +kernel
theorem dX12_dearest_14 : decode cX12_dearest 14 = .ok (.bipush (-2), 2) := by decide +kernel
theorem dX12_dearest_16 : decode cX12_dearest 16 = .ok (.ireturn, 1) := by decide +kernel
theorem dX12_dearest_17 : decode cX12_dearest 17 = .ok (.aload_n 0, 1) := by decide +kernel
theorem dX12_dearest_18 : decode cX12_dearest 18 = .ok (.iload_n 1, 1) := by decide +kernel
theorem dX12_dearest_19 : decode cX12_dearest 19 = .ok (.invokevirtual 257, 3) := by decide +kernel
theorem dX12_dearest_22 : decode cX12_dearest 22 = .ok (.aload_n 0, 1) := by decide +kernel
theorem dX12_dearest_23 : decode cX12_dearest 23 = .ok (.invokevirtual 260, 3) := by decide +kernel
theorem dX12_dearest_26 : decode cX12_dearest 26 = .ok (.istore_n 2, 1) := by decide +kernel
theorem dX12_dearest_27 : decode cX12_dearest 27 = .ok (.aload_n 0, 1) := by decide +kernel
theorem dX12_dearest_28 : decode cX12_dearest 28 = .ok (.iload_n 2, 1) := by decide +kernel
theorem dX12_dearest_29 : decode cX12_dearest 29 = .ok (.invokevirtual 360, 3) := by decide +kernel
theorem dX12_dearest_32 : decode cX12_dearest 32 = .ok (.istore_n 3, 1) := by decide +kernel
theorem dX12_dearest_33 : decode cX12_dearest 33 = .ok (.iconst 0, 1) := by decide +kernel
theorem dX12_dearest_34 : decode cX12_dearest 34 = .ok (.istore 4, 2) := by decide +kernel
theorem dX12_dearest_36 : decode cX12_dearest 36 = .ok (.iload 4, 2) := by decide +kernel
theorem dX12_dearest_38 : decode cX12_dearest 38 = .ok (.aload_n 0, 1) := by decide +kernel
theorem dX12_dearest_39 : decode cX12_dearest 39 = .ok (.getfield 13, 3) := by decide +kernel
theorem dX12_dearest_42 : decode cX12_dearest 42 = .ok (.iconst 1, 1) := by decide +kernel
theorem dX12_dearest_43 : decode cX12_dearest 43 = .ok (.iaload, 1) := by decide +kernel
theorem dX12_dearest_44 : decode cX12_dearest 44 = .ok (.if_icmp .ge 45, 3) := by decide +kernel
theorem dX12_dearest_47 : decode cX12_dearest 47 = .ok (.iload_n 2, 1) := by decide +kernel
theorem dX12_dearest_48 : decode cX12_dearest 48 = .ok (.aload_n 0, 1) := by decide +kernel
theorem dX12_dearest_49 : decode cX12_dearest 49 = .ok (.invokevirtual 272, 3) := by decide +kernel
theorem dX12_dearest_52 : decode cX12_dearest 52 = .ok (.iconst (-1), 1) := by decide +kernel
theorem dX12_dearest_53 : decode cX12_dearest 53 = .ok (.ixor, 1) := by decide +kernel
theorem dX12_dearest_54 : decode cX12_dearest 54 = .ok (.iand, 1) := by decide +kernel
theorem dX12_dearest_55 : decode cX12_dearest 55 = .ok (.i2l, 1) := by decide +kernel
theorem dX12_dearest_56 : decode cX12_dearest 56 = .ok (.iload 4, 2) := by decide +kernel
theorem dX12_dearest_58 : decode cX12_dearest 58 = .ok (.invokestatic 186, 3) := by decide +kernel
theorem dX12_dearest_61 : decode cX12_dearest 61 = .ok (.ifCond .eq 22, 3) := by decide +kernel
theorem dX12_dearest_64 : decode cX12_dearest 64 = .ok (.aload_n 0, 1) := by decide +kernel
theorem dX12_dearest_65 : decode cX12_dearest 65 = .ok (.iload_n 2, 1) := by decide +kernel
theorem dX12_dearest_66 : decode cX12_dearest 66 = .ok (.iconst 1, 1) := by decide +kernel
theorem dX12_dearest_67 : decode cX12_dearest 67 = .ok (.iload 4, 2) := by decide +kernel
theorem dX12_dearest_69 : decode cX12_dearest 69 = .ok (.ishl, 1) := by decide +kernel
theorem dX12_dearest_70 : decode cX12_dearest 70 = .ok (.iconst (-1), 1) := by decide +kernel
theorem dX12_dearest_71 : decode cX12_dearest 71 = .ok (.ixor, 1) := by decide +kernel
theorem dX12_dearest_72 : decode cX12_dearest 72 = .ok (.iand, 1) := by decide +kernel
theorem dX12_dearest_73 : decode cX12_dearest 73 = .ok (.invokevirtual 360, 3) := by decide +kernel
theorem dX12_dearest_76 : decode cX12_dearest 76 = .ok (.iload_n 3, 1) := by decide +kernel
theorem dX12_dearest_77 : decode cX12_dearest 77 = .ok (.if_icmp .ge 6, 3) := by decide +kernel
theorem dX12_dearest_80 : decode cX12_dearest 80 = .ok (.iload 4, 2) := by decide +kernel
theorem dX12_dearest_82 : decode cX12_dearest 82 = .ok (.ireturn, 1) := by decide +kernel
theorem dX12_dearest_83 : decode cX12_dearest 83 = .ok (.iinc 4 1, 3) := by decide +kernel
theorem dX12_dearest_86 : decode cX12_dearest 86 = .ok (.goto (-50), 3) := by decide +kernel
theorem dX12_dearest_89 : decode cX12_dearest 89 = .ok (.iconst (-1), 1) := by decide +kernel
theorem dX12_dearest_90 : decode cX12_dearest 90 = .ok (.ireturn, 1) := by decide +kernel
theorem dX12_idle_0 : decode cX12_idle 0 = .ok (.aload_n 0, 1) := by decide +kernel
theorem dX12_idle_1 : decode cX12_idle 1 = .ok (.iconst 0, 1) := by decide +kernel
theorem dX12_idle_2 : decode cX12_idle 2 = .ok (.putfield 1, 3) := by decide +kernel
theorem dX12_idle_5 : decode cX12_idle 5 = .ok (.aload_n 0, 1) := by decide +kernel
theorem dX12_idle_6 : decode cX12_idle 6 = .ok (.iload_n 1, 1) := by decide +kernel
theorem dX12_idle_7 : decode cX12_idle 7 = .ok (.i2l, 1) := by decide +kernel
theorem dX12_idle_8 : decode cX12_idle 8 = .ok (.invokevirtual 222, 3) := by decide +kernel
theorem dX12_idle_11 : decode cX12_idle 11 = .ok (.ifCond .ne 6, 3) := by decide +kernel
theorem dX12_idle_14 : decode cX12_idle 14 = .ok (.bipush (-2), 2) := by decide +kernel
theorem dX12_idle_16 : decode cX12_idle 16 = .ok (.ireturn, 1) := by decide +kernel
theorem dX12_idle_17 : decode cX12_idle 17 = .ok (.aload_n 0, 1) := by decide +kernel
theorem dX12_idle_18 : decode cX12_idle 18 = .ok (.iload_n 1, 1) := by decide +kernel
theorem dX12_idle_19 : decode cX12_idle 19 = .ok (.invokevirtual 351, 3) := by decide +kernel
theorem dX12_idle_22 : decode cX12_idle 22 = .ok (.iconst 0, 1) := by decide +kernel
theorem dX12_idle_23 : decode cX12_idle 23 = .ok (.istore_n 2, 1) := by decide +kernel
theorem dX12_idle_24 : decode cX12_idle 24 = .ok (.iconst 0, 1) := by decide +kernel
theorem dX12_idle_25 : decode cX12_idle 25 = .ok (.istore_n 3, 1) := by decide +kernel
theorem dX12_idle_26 : decode cX12_idle 26 = .ok (.iload_n 3, 1) := by decide +kernel
theorem dX12_idle_27 : decode cX12_idle 27 = .ok (.iconst 1, 1) := by decide +kernel
theorem dX12_idle_28 : decode cX12_idle 28 = .ok (.aload_n 0, 1) := by decide +kernel
theorem dX12_idle_29 : decode cX12_idle 29 = .ok (.getfield 13, 3) := by decide +kernel
theorem dX12_idle_32 : decode cX12_idle 32 = .ok (.iconst 1, 1) := by decide +kernel
theorem dX12_idle_33 : decode cX12_idle 33 = .ok (.iaload, 1) := by decide +kernel
theorem dX12_idle_34 : decode cX12_idle 34 = .ok (.ishl, 1) := by decide +kernel
theorem dX12_idle_35 : decode cX12_idle 35 = .ok (.if_icmp .ge 23, 3) := by decide +kernel
theorem dX12_idle_38 : decode cX12_idle 38 = .ok (.aload_n 0, 1) := by decide +kernel
theorem dX12_idle_39 : decode cX12_idle 39 = .ok (.iload_n 3, 1) := by decide +kernel
theorem dX12_idle_40 : decode cX12_idle 40 = .ok (.invokevirtual 337, 3) := by decide +kernel
theorem dX12_idle_43 : decode cX12_idle 43 = .ok (.lconst 0, 1) := by decide +kernel
theorem dX12_idle_44 : decode cX12_idle 44 = .ok (.lcmp, 1) := by decide +kernel
theorem dX12_idle_45 : decode cX12_idle 45 = .ok (.ifCond .le 7, 3) := by decide +kernel
theorem dX12_idle_48 : decode cX12_idle 48 = .ok (.iload_n 2, 1) := by decide +kernel
theorem dX12_idle_49 : decode cX12_idle 49 = .ok (.iload_n 3, 1) := by decide +kernel
theorem dX12_idle_50 : decode cX12_idle 50 = .ok (.ior, 1) := by decide +kernel
theorem dX12_idle_51 : decode cX12_idle 51 = .ok (.istore_n 2, 1) := by decide +kernel
theorem dX12_idle_52 : decode cX12_idle 52 = .ok (.iinc 3 1, 3) := by decide +kernel
theorem dX12_idle_55 : decode cX12_idle 55 = .ok (.goto (-29), 3) := by decide +kernel
theorem dX12_idle_58 : decode cX12_idle 58 = .ok (.aload_n 0, 1) := by decide +kernel
theorem dX12_idle_59 : decode cX12_idle 59 = .ok (.invokevirtual 260, 3) := by decide +kernel
theorem dX12_idle_62 : decode cX12_idle 62 = .ok (.iload_n 2, 1) := by decide +kernel
theorem dX12_idle_63 : decode cX12_idle 63 = .ok (.iconst (-1), 1) := by decide +kernel
theorem dX12_idle_64 : decode cX12_idle 64 = .ok (.ixor, 1) := by decide +kernel
theorem dX12_idle_65 : decode cX12_idle 65 = .ok (.iand, 1) := by decide +kernel
theorem dX12_idle_66 : decode cX12_idle 66 = .ok (.ireturn, 1) := by decide +kernel
theorem dX12_isSetOf_0 : decode cX12_isSetOf 0 = .ok (.iload_n 1, 1) := by decide +kernel
theorem dX12_isSetOf_1 : decode cX12_isSetOf 1 = .ok (.aload_n 0, 1) := by decide +kernel
theorem dX12_isSetOf_2 : decode cX12_isSetOf 2 = .ok (.invokevirtual 372, 3) := by decide +kernel
theorem dX12_isSetOf_5 : decode cX12_isSetOf 5 = .ok (.aload_n 0, 1) := by decide +kernel
theorem dX12_isSetOf_6 : decode cX12_isSetOf 6 = .ok (.invokevirtual 272, 3) := by decide +kernel
theorem dX12_isSetOf_9 : decode cX12_isSetOf 9 = .ok (.iconst (-1), 1) := by decide +kernel
theorem dX12_isSetOf_10 : decode cX12_isSetOf 10 = .ok (.ixor, 1) := by decide +kernel
theorem dX12_isSetOf_11 : decode cX12_isSetOf 11 = .ok (.iand, 1) := by decide +kernel
theorem dX12_isSetOf_12 : decode cX12_isSetOf 12 = .ok (.iconst (-1), 1) := by decide +kernel
theorem dX12_isSetOf_13 : decode cX12_isSetOf 13 = .ok (.ixor, 1) := by decide +kernel
theorem dX12_isSetOf_14 : decode cX12_isSetOf 14 = .ok (.iand, 1) := by decide +kernel
theorem dX12_isSetOf_15 : decode cX12_isSetOf 15 = .ok (.ifCond .ne 7, 3) := by decide +kernel
theorem dX12_isSetOf_18 : decode cX12_isSetOf 18 = .ok (.iconst 1, 1) := by decide +kernel
theorem dX12_isSetOf_19 : decode cX12_isSetOf 19 = .ok (.goto 4, 3) := by decide +kernel
theorem dX12_isSetOf_22 : decode cX12_isSetOf 22 = .ok (.iconst 0, 1) := by decide +kernel
theorem dX12_isSetOf_23 : decode cX12_isSetOf 23 = .ok (.ireturn, 1) := by decide +kernel
theorem dX12_leastLeg_0 : decode cX12_leastLeg 0 = .ok (.aload_n 0, 1) := by decide +kernel
theorem dX12_leastLeg_1 : decode cX12_leastLeg 1 = .ok (.iconst 0, 1) := by decide +kernel
theorem dX12_leastLeg_2 : decode cX12_leastLeg 2 = .ok (.putfield 1, 3) := by decide +kernel
theorem dX12_leastLeg_5 : decode cX12_leastLeg 5 = .ok (.aload_n 0, 1) := by decide +kernel
theorem dX12_leastLeg_6 : decode cX12_leastLeg 6 = .ok (.iload_n 1, 1) := by decide +kernel
theorem dX12_leastLeg_7 : decode cX12_leastLeg 7 = .ok (.i2l, 1) := by decide +kernel
theorem dX12_leastLeg_8 : decode cX12_leastLeg 8 = .ok (.invokevirtual 222, 3) := by decide +kernel
theorem dX12_leastLeg_11 : decode cX12_leastLeg 11 = .ok (.ifCond .ne 6, 3) := by decide +kernel
theorem dX12_leastLeg_14 : decode cX12_leastLeg 14 = .ok (.bipush (-2), 2) := by decide +kernel
theorem dX12_leastLeg_16 : decode cX12_leastLeg 16 = .ok (.ireturn, 1) := by decide +kernel
theorem dX12_leastLeg_17 : decode cX12_leastLeg 17 = .ok (.iconst 0, 1) := by decide +kernel
theorem dX12_leastLeg_18 : decode cX12_leastLeg 18 = .ok (.istore_n 2, 1) := by decide +kernel
theorem dX12_leastLeg_19 : decode cX12_leastLeg 19 = .ok (.iload_n 2, 1) := by decide +kernel
theorem dX12_leastLeg_20 : decode cX12_leastLeg 20 = .ok (.bipush 100, 2) := by decide +kernel
theorem dX12_leastLeg_22 : decode cX12_leastLeg 22 = .ok (.if_icmp .ge 28, 3) := by decide +kernel
theorem dX12_leastLeg_25 : decode cX12_leastLeg 25 = .ok (.aload_n 0, 1) := by decide +kernel
theorem dX12_leastLeg_26 : decode cX12_leastLeg 26 = .ok (.iload_n 1, 1) := by decide +kernel
theorem dX12_leastLeg_27 : decode cX12_leastLeg 27 = .ok (.iload_n 2, 1) := by decide +kernel
theorem dX12_leastLeg_28 : decode cX12_leastLeg 28 = .ok (.invokevirtual 250, 3) := by decide +kernel
theorem dX12_leastLeg_31 : decode cX12_leastLeg 31 = .ok (.aload_n 0, 1) := by decide +kernel
theorem dX12_leastLeg_32 : decode cX12_leastLeg 32 = .ok (.aload_n 0, 1) := by decide +kernel
theorem dX12_leastLeg_33 : decode cX12_leastLeg 33 = .ok (.invokevirtual 260, 3) := by decide +kernel
theorem dX12_leastLeg_36 : decode cX12_leastLeg 36 = .ok (.invokevirtual 354, 3) := by decide +kernel
theorem dX12_leastLeg_39 : decode cX12_leastLeg 39 = .ok (.ifCond .eq 5, 3) := by decide +kernel
theorem dX12_leastLeg_42 : decode cX12_leastLeg 42 = .ok (.iload_n 2, 1) := by decide +kernel
theorem dX12_leastLeg_43 : decode cX12_leastLeg 43 = .ok (.ireturn, 1) := by decide +kernel
theorem dX12_leastLeg_44 : decode cX12_leastLeg 44 = .ok (.iinc 2 1, 3) := by decide +kernel
theorem dX12_leastLeg_47 : decode cX12_leastLeg 47 = .ok (.goto (-28), 3) := by decide +kernel
theorem dX12_leastLeg_50 : decode cX12_leastLeg 50 = .ok (.iconst (-1), 1) := by decide +kernel
theorem dX12_leastLeg_51 : decode cX12_leastLeg 51 = .ok (.ireturn, 1) := by decide +kernel
theorem dX12_opens_0 : decode cX12_opens 0 = .ok (.aload_n 0, 1) := by decide +kernel
theorem dX12_opens_1 : decode cX12_opens 1 = .ok (.iconst 0, 1) := by decide +kernel
theorem dX12_opens_2 : decode cX12_opens 2 = .ok (.putfield 1, 3) := by decide +kernel
theorem dX12_opens_5 : decode cX12_opens 5 = .ok (.aload_n 0, 1) := by decide +kernel
theorem dX12_opens_6 : decode cX12_opens 6 = .ok (.iload_n 1, 1) := by decide +kernel
theorem dX12_opens_7 : decode cX12_opens 7 = .ok (.i2l, 1) := by decide +kernel
theorem dX12_opens_8 : decode cX12_opens 8 = .ok (.invokevirtual 222, 3) := by decide +kernel
theorem dX12_opens_11 : decode cX12_opens 11 = .ok (.ifCond .ne 6, 3) := by decide +kernel
theorem dX12_opens_14 : decode cX12_opens 14 = .ok (.bipush (-2), 2) := by decide +kernel
theorem dX12_opens_16 : decode cX12_opens 16 = .ok (.ireturn, 1) := by decide +kernel
theorem dX12_opens_17 : decode cX12_opens 17 = .ok (.aload_n 0, 1) := by decide +kernel
theorem dX12_opens_18 : decode cX12_opens 18 = .ok (.invokevirtual 366, 3) := by decide +kernel
theorem dX12_opens_21 : decode cX12_opens 21 = .ok (.iconst (-1), 1) := by decide +kernel
theorem dX12_opens_22 : decode cX12_opens 22 = .ok (.istore_n 2, 1) := by decide +kernel
theorem dX12_opens_23 : decode cX12_opens 23 = .ok (.iconst 0, 1) := by decide +kernel
theorem dX12_opens_24 : decode cX12_opens 24 = .ok (.istore_n 3, 1) := by decide +kernel
theorem dX12_opens_25 : decode cX12_opens 25 = .ok (.iload_n 3, 1) := by decide +kernel
theorem dX12_opens_26 : decode cX12_opens 26 = .ok (.sipush 200, 3) := by decide +kernel
theorem dX12_opens_29 : decode cX12_opens 29 = .ok (.if_icmp .gt 49, 3) := by decide +kernel
theorem dX12_opens_32 : decode cX12_opens 32 = .ok (.iload_n 2, 1) := by decide +kernel
theorem dX12_opens_33 : decode cX12_opens 33 = .ok (.iconst (-1), 1) := by decide +kernel
theorem dX12_opens_34 : decode cX12_opens 34 = .ok (.if_icmp .ne 44, 3) := by decide +kernel
theorem dX12_opens_37 : decode cX12_opens 37 = .ok (.aload_n 0, 1) := by decide +kernel
theorem dX12_opens_38 : decode cX12_opens 38 = .ok (.iload_n 1, 1) := by decide +kernel
theorem dX12_opens_39 : decode cX12_opens 39 = .ok (.invokevirtual 257, 3) := by decide +kernel
theorem dX12_opens_42 : decode cX12_opens 42 = .ok (.aload_n 0, 1) := by decide +kernel
theorem dX12_opens_43 : decode cX12_opens 43 = .ok (.aload_n 0, 1) := by decide +kernel
theorem dX12_opens_44 : decode cX12_opens 44 = .ok (.invokevirtual 260, 3) := by decide +kernel
theorem dX12_opens_47 : decode cX12_opens 47 = .ok (.invokevirtual 354, 3) := by decide +kernel
theorem dX12_opens_50 : decode cX12_opens 50 = .ok (.ifCond .eq 11, 3) := by decide +kernel
theorem dX12_opens_53 : decode cX12_opens 53 = .ok (.aload_n 0, 1) := by decide +kernel
theorem dX12_opens_54 : decode cX12_opens 54 = .ok (.getfield 13, 3) := by decide +kernel
theorem dX12_opens_57 : decode cX12_opens 57 = .ok (.bipush 88, 2) := by decide +kernel
theorem dX12_opens_59 : decode cX12_opens 59 = .ok (.iaload, 1) := by decide +kernel
theorem dX12_opens_60 : decode cX12_opens 60 = .ok (.istore_n 2, 1) := by decide +kernel
theorem dX12_opens_61 : decode cX12_opens 61 = .ok (.aload_n 0, 1) := by decide +kernel
theorem dX12_opens_62 : decode cX12_opens 62 = .ok (.getfield 13, 3) := by decide +kernel
theorem dX12_opens_65 : decode cX12_opens 65 = .ok (.bipush 88, 2) := by decide +kernel
theorem dX12_opens_67 : decode cX12_opens 67 = .ok (.dup2, 1) := by decide +kernel
theorem dX12_opens_68 : decode cX12_opens 68 = .ok (.iaload, 1) := by decide +kernel
theorem dX12_opens_69 : decode cX12_opens 69 = .ok (.iconst 1, 1) := by decide +kernel
theorem dX12_opens_70 : decode cX12_opens 70 = .ok (.iadd, 1) := by decide +kernel
theorem dX12_opens_71 : decode cX12_opens 71 = .ok (.iastore, 1) := by decide +kernel
theorem dX12_opens_72 : decode cX12_opens 72 = .ok (.iinc 3 1, 3) := by decide +kernel
theorem dX12_opens_75 : decode cX12_opens 75 = .ok (.goto (-50), 3) := by decide +kernel
theorem dX12_opens_78 : decode cX12_opens 78 = .ok (.aload_n 0, 1) := by decide +kernel
theorem dX12_opens_79 : decode cX12_opens 79 = .ok (.invokevirtual 369, 3) := by decide +kernel
theorem dX12_opens_82 : decode cX12_opens 82 = .ok (.iload_n 2, 1) := by decide +kernel
theorem dX12_opens_83 : decode cX12_opens 83 = .ok (.ireturn, 1) := by decide +kernel
theorem dX12_saved_0 : decode cX12_saved 0 = .ok (.aload_n 0, 1) := by decide +kernel
theorem dX12_saved_1 : decode cX12_saved 1 = .ok (.iconst 0, 1) := by decide +kernel
theorem dX12_saved_2 : decode cX12_saved 2 = .ok (.putfield 1, 3) := by decide +kernel
theorem dX12_saved_5 : decode cX12_saved 5 = .ok (.aload_n 0, 1) := by decide +kernel
theorem dX12_saved_6 : decode cX12_saved 6 = .ok (.iload_n 1, 1) := by decide +kernel
theorem dX12_saved_7 : decode cX12_saved 7 = .ok (.i2l, 1) := by decide +kernel
theorem dX12_saved_8 : decode cX12_saved 8 = .ok (.invokevirtual 222, 3) := by decide +kernel
theorem dX12_saved_11 : decode cX12_saved 11 = .ok (.ifCond .ne 6, 3) := by decide +kernel
theorem dX12_saved_14 : decode cX12_saved 14 = .ok (.bipush (-2), 2) := by decide +kernel
theorem dX12_saved_16 : decode cX12_saved 16 = .ok (.ireturn, 1) := by decide +kernel
theorem dX12_saved_17 : decode cX12_saved 17 = .ok (.aload_n 0, 1) := by decide +kernel
theorem dX12_saved_18 : decode cX12_saved 18 = .ok (.iload_n 1, 1) := by decide +kernel
theorem dX12_saved_19 : decode cX12_saved 19 = .ok (.invokevirtual 351, 3) := by decide +kernel
theorem dX12_saved_22 : decode cX12_saved 22 = .ok (.iconst (-1), 1) := by decide +kernel
theorem dX12_saved_23 : decode cX12_saved 23 = .ok (.istore_n 2, 1) := by decide +kernel
theorem dX12_saved_24 : decode cX12_saved 24 = .ok (.iconst 0, 1) := by decide +kernel
theorem dX12_saved_25 : decode cX12_saved 25 = .ok (.istore_n 3, 1) := by decide +kernel
theorem dX12_saved_26 : decode cX12_saved 26 = .ok (.iload_n 3, 1) := by decide +kernel
theorem dX12_saved_27 : decode cX12_saved 27 = .ok (.iconst 1, 1) := by decide +kernel
theorem dX12_saved_28 : decode cX12_saved 28 = .ok (.aload_n 0, 1) := by decide +kernel
theorem dX12_saved_29 : decode cX12_saved 29 = .ok (.getfield 13, 3) := by decide +kernel
theorem dX12_saved_32 : decode cX12_saved 32 = .ok (.iconst 1, 1) := by decide +kernel
theorem dX12_saved_33 : decode cX12_saved 33 = .ok (.iaload, 1) := by decide +kernel
theorem dX12_saved_34 : decode cX12_saved 34 = .ok (.ishl, 1) := by decide +kernel
theorem dX12_saved_35 : decode cX12_saved 35 = .ok (.if_icmp .ge 70, 3) := by decide +kernel
theorem dX12_saved_38 : decode cX12_saved 38 = .ok (.iload_n 3, 1) := by decide +kernel
theorem dX12_saved_39 : decode cX12_saved 39 = .ok (.aload_n 0, 1) := by decide +kernel
theorem dX12_saved_40 : decode cX12_saved 40 = .ok (.invokevirtual 272, 3) := by decide +kernel
theorem dX12_saved_43 : decode cX12_saved 43 = .ok (.iconst (-1), 1) := by decide +kernel
theorem dX12_saved_44 : decode cX12_saved 44 = .ok (.ixor, 1) := by decide +kernel
theorem dX12_saved_45 : decode cX12_saved 45 = .ok (.iand, 1) := by decide +kernel
theorem dX12_saved_46 : decode cX12_saved 46 = .ok (.istore 4, 2) := by decide +kernel
theorem dX12_saved_48 : decode cX12_saved 48 = .ok (.aload_n 0, 1) := by decide +kernel
theorem dX12_saved_49 : decode cX12_saved 49 = .ok (.iload_n 3, 1) := by decide +kernel
theorem dX12_saved_50 : decode cX12_saved 50 = .ok (.invokevirtual 337, 3) := by decide +kernel
theorem dX12_saved_53 : decode cX12_saved 53 = .ok (.lconst 0, 1) := by decide +kernel
theorem dX12_saved_54 : decode cX12_saved 54 = .ok (.lcmp, 1) := by decide +kernel
theorem dX12_saved_55 : decode cX12_saved 55 = .ok (.ifCond .ne 6, 3) := by decide +kernel
theorem dX12_saved_58 : decode cX12_saved 58 = .ok (.goto 41, 3) := by decide +kernel
theorem dX12_saved_61 : decode cX12_saved 61 = .ok (.iload_n 2, 1) := by decide +kernel
theorem dX12_saved_62 : decode cX12_saved 62 = .ok (.iconst (-1), 1) := by decide +kernel
theorem dX12_saved_63 : decode cX12_saved 63 = .ok (.if_icmp .eq 33, 3) := by decide +kernel
theorem dX12_saved_66 : decode cX12_saved 66 = .ok (.iload 4, 2) := by decide +kernel
theorem dX12_saved_68 : decode cX12_saved 68 = .ok (.invokestatic 334, 3) := by decide +kernel
theorem dX12_saved_71 : decode cX12_saved 71 = .ok (.iload_n 2, 1) := by decide +kernel
theorem dX12_saved_72 : decode cX12_saved 72 = .ok (.invokestatic 334, 3) := by decide +kernel
theorem dX12_saved_75 : decode cX12_saved 75 = .ok (.if_icmp .lt 21, 3) := by decide +kernel
theorem dX12_saved_78 : decode cX12_saved 78 = .ok (.iload 4, 2) := by decide +kernel
theorem dX12_saved_80 : decode cX12_saved 80 = .ok (.invokestatic 334, 3) := by decide +kernel
theorem dX12_saved_83 : decode cX12_saved 83 = .ok (.iload_n 2, 1) := by decide +kernel
theorem dX12_saved_84 : decode cX12_saved 84 = .ok (.invokestatic 334, 3) := by decide +kernel
theorem dX12_saved_87 : decode cX12_saved 87 = .ok (.if_icmp .ne 12, 3) := by decide +kernel
theorem dX12_saved_90 : decode cX12_saved 90 = .ok (.iload 4, 2) := by decide +kernel
theorem dX12_saved_92 : decode cX12_saved 92 = .ok (.iload_n 2, 1) := by decide +kernel
theorem dX12_saved_93 : decode cX12_saved 93 = .ok (.if_icmp .ge 6, 3) := by decide +kernel
theorem dX12_saved_96 : decode cX12_saved 96 = .ok (.iload 4, 2) := by decide +kernel
theorem dX12_saved_98 : decode cX12_saved 98 = .ok (.istore_n 2, 1) := by decide +kernel
theorem dX12_saved_99 : decode cX12_saved 99 = .ok (.iinc 3 1, 3) := by decide +kernel
theorem dX12_saved_102 : decode cX12_saved 102 = .ok (.goto (-76), 3) := by decide +kernel
theorem dX12_saved_105 : decode cX12_saved 105 = .ok (.iload_n 2, 1) := by decide +kernel
theorem dX12_saved_106 : decode cX12_saved 106 = .ok (.ireturn, 1) := by decide +kernel
theorem dX12_together_0 : decode cX12_together 0 = .ok (.aload_n 0, 1) := by decide +kernel
theorem dX12_together_1 : decode cX12_together 1 = .ok (.iconst 0, 1) := by decide +kernel
theorem dX12_together_2 : decode cX12_together 2 = .ok (.putfield 1, 3) := by decide +kernel
theorem dX12_together_5 : decode cX12_together 5 = .ok (.aload_n 0, 1) := by decide +kernel
theorem dX12_together_6 : decode cX12_together 6 = .ok (.iload_n 1, 1) := by decide +kernel
theorem dX12_together_7 : decode cX12_together 7 = .ok (.i2l, 1) := by decide +kernel
theorem dX12_together_8 : decode cX12_together 8 = .ok (.invokevirtual 222, 3) := by decide +kernel
theorem dX12_together_11 : decode cX12_together 11 = .ok (.ifCond .eq 12, 3) := by decide +kernel
theorem dX12_together_14 : decode cX12_together 14 = .ok (.aload_n 0, 1) := by decide +kernel
theorem dX12_together_15 : decode cX12_together 15 = .ok (.iload_n 2, 1) := by decide +kernel
theorem dX12_together_16 : decode cX12_together 16 = .ok (.i2l, 1) := by decide +kernel
theorem dX12_together_17 : decode cX12_together 17 = .ok (.invokevirtual 222, 3) := by decide +kernel
theorem dX12_together_20 : decode cX12_together 20 = .ok (.ifCond .ne 6, 3) := by decide +kernel
theorem dX12_together_23 : decode cX12_together 23 = .ok (.bipush (-2), 2) := by decide +kernel
theorem dX12_together_25 : decode cX12_together 25 = .ok (.ireturn, 1) := by decide +kernel
theorem dX12_together_26 : decode cX12_together 26 = .ok (.aload_n 0, 1) := by decide +kernel
theorem dX12_together_27 : decode cX12_together 27 = .ok (.iload_n 1, 1) := by decide +kernel
theorem dX12_together_28 : decode cX12_together 28 = .ok (.invokevirtual 351, 3) := by decide +kernel
theorem dX12_together_31 : decode cX12_together 31 = .ok (.iconst 0, 1) := by decide +kernel
theorem dX12_together_32 : decode cX12_together 32 = .ok (.istore_n 3, 1) := by decide +kernel
theorem dX12_together_33 : decode cX12_together 33 = .ok (.iload_n 3, 1) := by decide +kernel
theorem dX12_together_34 : decode cX12_together 34 = .ok (.iconst 1, 1) := by decide +kernel
theorem dX12_together_35 : decode cX12_together 35 = .ok (.aload_n 0, 1) := by decide +kernel
theorem dX12_together_36 : decode cX12_together 36 = .ok (.getfield 13, 3) := by decide +kernel
theorem dX12_together_39 : decode cX12_together 39 = .ok (.iconst 1, 1) := by decide +kernel
theorem dX12_together_40 : decode cX12_together 40 = .ok (.iaload, 1) := by decide +kernel
theorem dX12_together_41 : decode cX12_together 41 = .ok (.ishl, 1) := by decide +kernel
theorem dX12_together_42 : decode cX12_together 42 = .ok (.if_icmp .ge 16, 3) := by decide +kernel
theorem dX12_together_45 : decode cX12_together 45 = .ok (.aload_n 0, 1) := by decide +kernel
theorem dX12_together_46 : decode cX12_together 46 = .ok (.getfield 53, 3) := by decide +kernel
theorem dX12_together_49 : decode cX12_together 49 = .ok (.iload_n 3, 1) := by decide +kernel
theorem dX12_together_50 : decode cX12_together 50 = .ok (.iconst 0, 1) := by decide +kernel
theorem dX12_together_51 : decode cX12_together 51 = .ok (.bastore, 1) := by decide +kernel
theorem dX12_together_52 : decode cX12_together 52 = .ok (.iinc 3 1, 3) := by decide +kernel
theorem dX12_together_55 : decode cX12_together 55 = .ok (.goto (-22), 3) := by decide +kernel
theorem dX12_together_58 : decode cX12_together 58 = .ok (.iconst 0, 1) := by decide +kernel
theorem dX12_together_59 : decode cX12_together 59 = .ok (.istore_n 3, 1) := by decide +kernel
theorem dX12_together_60 : decode cX12_together 60 = .ok (.iload_n 3, 1) := by decide +kernel
theorem dX12_together_61 : decode cX12_together 61 = .ok (.iconst 1, 1) := by decide +kernel
theorem dX12_together_62 : decode cX12_together 62 = .ok (.aload_n 0, 1) := by decide +kernel
theorem dX12_together_63 : decode cX12_together 63 = .ok (.getfield 13, 3) := by decide +kernel
theorem dX12_together_66 : decode cX12_together 66 = .ok (.iconst 1, 1) := by decide +kernel
theorem dX12_together_67 : decode cX12_together 67 = .ok (.iaload, 1) := by decide +kernel
theorem dX12_together_68 : decode cX12_together 68 = .ok (.ishl, 1) := by decide +kernel
theorem dX12_together_69 : decode cX12_together 69 = .ok (.if_icmp .ge 33, 3) := by decide +kernel
theorem dX12_together_72 : decode cX12_together 72 = .ok (.aload_n 0, 1) := by decide +kernel
theorem dX12_together_73 : decode cX12_together 73 = .ok (.iload_n 3, 1) := by decide +kernel
theorem dX12_together_74 : decode cX12_together 74 = .ok (.invokevirtual 337, 3) := by decide +kernel
theorem dX12_together_77 : decode cX12_together 77 = .ok (.lconst 0, 1) := by decide +kernel
theorem dX12_together_78 : decode cX12_together 78 = .ok (.lcmp, 1) := by decide +kernel
theorem dX12_together_79 : decode cX12_together 79 = .ok (.ifCond .le 17, 3) := by decide +kernel
theorem dX12_together_82 : decode cX12_together 82 = .ok (.aload_n 0, 1) := by decide +kernel
theorem dX12_together_83 : decode cX12_together 83 = .ok (.getfield 53, 3) := by decide +kernel
theorem dX12_together_86 : decode cX12_together 86 = .ok (.iload_n 3, 1) := by decide +kernel
theorem dX12_together_87 : decode cX12_together 87 = .ok (.aload_n 0, 1) := by decide +kernel
theorem dX12_together_88 : decode cX12_together 88 = .ok (.invokevirtual 272, 3) := by decide +kernel
theorem dX12_together_91 : decode cX12_together 91 = .ok (.iconst (-1), 1) := by decide +kernel
theorem dX12_together_92 : decode cX12_together 92 = .ok (.ixor, 1) := by decide +kernel
theorem dX12_together_93 : decode cX12_together 93 = .ok (.iand, 1) := by decide +kernel
theorem dX12_together_94 : decode cX12_together 94 = .ok (.iconst 1, 1) := by decide +kernel
theorem dX12_together_95 : decode cX12_together 95 = .ok (.bastore, 1) := by decide +kernel
theorem dX12_together_96 : decode cX12_together 96 = .ok (.iinc 3 1, 3) := by decide +kernel
theorem dX12_together_99 : decode cX12_together 99 = .ok (.goto (-39), 3) := by decide +kernel
theorem dX12_together_102 : decode cX12_together 102 = .ok (.aload_n 0, 1) := by decide +kernel
theorem dX12_together_103 : decode cX12_together 103 = .ok (.iload_n 2, 1) := by decide +kernel
theorem dX12_together_104 : decode cX12_together 104 = .ok (.invokevirtual 257, 3) := by decide +kernel
theorem dX12_together_107 : decode cX12_together 107 = .ok (.aload_n 0, 1) := by decide +kernel
theorem dX12_together_108 : decode cX12_together 108 = .ok (.invokevirtual 260, 3) := by decide +kernel
theorem dX12_together_111 : decode cX12_together 111 = .ok (.istore_n 3, 1) := by decide +kernel
theorem dX12_together_112 : decode cX12_together 112 = .ok (.iconst 0, 1) := by decide +kernel
theorem dX12_together_113 : decode cX12_together 113 = .ok (.istore 4, 2) := by decide +kernel
theorem dX12_together_115 : decode cX12_together 115 = .ok (.iload 4, 2) := by decide +kernel
theorem dX12_together_117 : decode cX12_together 117 = .ok (.iconst 1, 1) := by decide +kernel
theorem dX12_together_118 : decode cX12_together 118 = .ok (.aload_n 0, 1) := by decide +kernel
theorem dX12_together_119 : decode cX12_together 119 = .ok (.getfield 13, 3) := by decide +kernel
theorem dX12_together_122 : decode cX12_together 122 = .ok (.iconst 1, 1) := by decide +kernel
theorem dX12_together_123 : decode cX12_together 123 = .ok (.iaload, 1) := by decide +kernel
theorem dX12_together_124 : decode cX12_together 124 = .ok (.ishl, 1) := by decide +kernel
theorem dX12_together_125 : decode cX12_together 125 = .ok (.if_icmp .ge 34, 3) := by decide +kernel
theorem dX12_together_128 : decode cX12_together 128 = .ok (.aload_n 0, 1) := by decide +kernel
theorem dX12_together_129 : decode cX12_together 129 = .ok (.getfield 53, 3) := by decide +kernel
theorem dX12_together_132 : decode cX12_together 132 = .ok (.iload 4, 2) := by decide +kernel
theorem dX12_together_134 : decode cX12_together 134 = .ok (.baload, 1) := by decide +kernel
theorem dX12_together_135 : decode cX12_together 135 = .ok (.ifCond .eq 18, 3) := by decide +kernel
theorem dX12_together_138 : decode cX12_together 138 = .ok (.aload_n 0, 1) := by decide +kernel
theorem dX12_together_139 : decode cX12_together 139 = .ok (.iload_n 3, 1) := by decide +kernel
theorem dX12_together_140 : decode cX12_together 140 = .ok (.iload 4, 2) := by decide +kernel
theorem dX12_together_142 : decode cX12_together 142 = .ok (.iconst (-1), 1) := by decide +kernel
theorem dX12_together_143 : decode cX12_together 143 = .ok (.ixor, 1) := by decide +kernel
theorem dX12_together_144 : decode cX12_together 144 = .ok (.iand, 1) := by decide +kernel
theorem dX12_together_145 : decode cX12_together 145 = .ok (.invokevirtual 354, 3) := by decide +kernel
theorem dX12_together_148 : decode cX12_together 148 = .ok (.ifCond .eq 5, 3) := by decide +kernel
theorem dX12_together_151 : decode cX12_together 151 = .ok (.iconst 1, 1) := by decide +kernel
theorem dX12_together_152 : decode cX12_together 152 = .ok (.ireturn, 1) := by decide +kernel
theorem dX12_together_153 : decode cX12_together 153 = .ok (.iinc 4 1, 3) := by decide +kernel
theorem dX12_together_156 : decode cX12_together 156 = .ok (.goto (-41), 3) := by decide +kernel
theorem dX12_together_159 : decode cX12_together 159 = .ok (.iconst 0, 1) := by decide +kernel
theorem dX12_together_160 : decode cX12_together 160 = .ok (.ireturn, 1) := by decide +kernel
theorem kw_1250 : Cond.fieldLink "FootholdWallModel" 53 "FootholdWallModel" "uses" "[Z" ∈ gw := gw_of (tb_of 1250 (by decide +kernel)) (by decide +kernel)
theorem kw_1704 : Cond.methodLink "FootholdWallModel" 366 yX12_keepsAhead ∈ gw := gw_of (tb_of 1704 (by decide +kernel)) (by decide +kernel)
theorem kw_1706 : Cond.instanceMethod yX12_keepsAhead ∈ gw := gw_of (tb_of 1706 (by decide +kernel)) (by decide +kernel)
theorem kw_1707 : Cond.code yX12_keepsAhead cX12_keepsAhead 2 none ∈ gw := gw_of (tb_of 1707 (by decide +kernel)) (by decide +kernel)
theorem kw_1708 : Cond.methodLink "FootholdWallModel" 369 yX12_isAhead ∈ gw := gw_of (tb_of 1708 (by decide +kernel)) (by decide +kernel)
theorem kw_1710 : Cond.instanceMethod yX12_isAhead ∈ gw := gw_of (tb_of 1710 (by decide +kernel)) (by decide +kernel)
theorem kw_1711 : Cond.code yX12_isAhead cX12_isAhead 2 none ∈ gw := gw_of (tb_of 1711 (by decide +kernel)) (by decide +kernel)
theorem kw_1724 : Cond.methodLink "FootholdWallModel" 372 yX12_thereSet ∈ gw := gw_of (tb_of 1724 (by decide +kernel)) (by decide +kernel)
theorem kw_1726 : Cond.instanceMethod yX12_thereSet ∈ gw := gw_of (tb_of 1726 (by decide +kernel)) (by decide +kernel)
theorem kw_1727 : Cond.code yX12_thereSet cX12_thereSet 3 (some (.int)) ∈ gw := gw_of (tb_of 1727 (by decide +kernel)) (by decide +kernel)
theorem ks_96 : Cond.selects RX12 yX12_keepsAhead yX12_keepsAhead ∈ gw := gw_of (pv_of 96 (by decide +kernel)) (by decide +kernel)
theorem ks_97 : Cond.selects RX12 yX12_isAhead yX12_isAhead ∈ gw := gw_of (pv_of 97 (by decide +kernel)) (by decide +kernel)
theorem ks_99 : Cond.selects RX12 yX12_thereSet yX12_thereSet ∈ gw := gw_of (pv_of 99 (by decide +kernel)) (by decide +kernel)
