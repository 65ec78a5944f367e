theorem dX12_cutOf_0 : decode cX12_cutOf 0 = .ok (.iload_n 1, 1) := by decide +kernel
theorem dX12_cutOf_1 : decode cX12_cutOf 1 = .ok (.aload_n 0, 1) := by decide +kernel
theorem dX12_cutOf_2 : decode cX12_cutOf 2 = .ok (.invokevirtual 272, 3) := by decide +kernel
theorem dX12_cutOf_5 : decode cX12_cutOf 5 = .ok (.iconst (-1), 1) := by decide +kernel
theorem dX12_cutOf_6 : decode cX12_cutOf 6 = .ok (.ixor, 1) := by decide +kernel
theorem dX12_cutOf_7 : decode cX12_cutOf 7 = .ok (.iand, 1) := by decide +kernel
theorem dX12_cutOf_8 : decode cX12_cutOf 8 = .ok (.istore_n 2, 1) := by decide +kernel
theorem dX12_cutOf_9 : decode cX12_cutOf 9 = .ok (.aload_n 0, 1) := by decide +kernel
theorem dX12_cutOf_10 : decode cX12_cutOf 10 = .ok (.iload_n 1, 1) := by decide +kernel
theorem dX12_cutOf_11 : decode cX12_cutOf 11 = .ok (.aload_n 0, 1) := by decide +kernel
theorem dX12_cutOf_12 : decode cX12_cutOf 12 = .ok (.invokevirtual 272, 3) := by decide +kernel
theorem dX12_cutOf_15 : decode cX12_cutOf 15 = .ok (.iand, 1) := by decide +kernel
theorem dX12_cutOf_16 : decode cX12_cutOf 16 = .ok (.invokevirtual 354, 3) := by decide +kernel
theorem dX12_cutOf_19 : decode cX12_cutOf 19 = .ok (.ifCond .eq 5, 3) := by decide +kernel
theorem dX12_cutOf_22 : decode cX12_cutOf 22 = .ok (.iconst (-1), 1) := by decide +kernel
theorem dX12_cutOf_23 : decode cX12_cutOf 23 = .ok (.ireturn, 1) := by decide +kernel
theorem dX12_cutOf_24 : decode cX12_cutOf 24 = .ok (.iconst (-1), 1) := by decide +kernel
theorem dX12_cutOf_25 : decode cX12_cutOf 25 = .ok (.istore_n 3, 1) := by decide +kernel
theorem dX12_cutOf_26 : decode cX12_cutOf 26 = .ok (.iconst 0, 1) := by decide +kernel
theorem dX12_cutOf_27 : decode cX12_cutOf 27 = .ok (.istore 4, 2) := by decide +kernel
theorem dX12_cutOf_29 : decode cX12_cutOf 29 = .ok (.iload 4, 2) := by decide +kernel
theorem dX12_cutOf_31 : decode cX12_cutOf 31 = .ok (.iload_n 2, 1) := by decide +kernel
theorem dX12_cutOf_32 : decode cX12_cutOf 32 = .ok (.if_icmp .gt 54, 3) := by decide +kernel
theorem dX12_cutOf_35 : decode cX12_cutOf 35 = .ok (.iload 4, 2) := by decide +kernel
theorem dX12_cutOf_37 : decode cX12_cutOf 37 = .ok (.iload_n 2, 1) := by decide +kernel
theorem dX12_cutOf_38 : decode cX12_cutOf 38 = .ok (.iconst (-1), 1) := by decide +kernel
theorem dX12_cutOf_39 : decode cX12_cutOf 39 = .ok (.ixor, 1) := by decide +kernel
theorem dX12_cutOf_40 : decode cX12_cutOf 40 = .ok (.iand, 1) := by decide +kernel
theorem dX12_cutOf_41 : decode cX12_cutOf 41 = .ok (.ifCond .ne 39, 3) := by decide +kernel
theorem dX12_cutOf_44 : decode cX12_cutOf 44 = .ok (.iload_n 3, 1) := by decide +kernel
theorem dX12_cutOf_45 : decode cX12_cutOf 45 = .ok (.iconst (-1), 1) := by decide +kernel
theorem dX12_cutOf_46 : decode cX12_cutOf 46 = .ok (.if_icmp .eq 18, 3) := by decide +kernel
theorem dX12_cutOf_49 : decode cX12_cutOf 49 = .ok (.iload 4, 2) := by decide +kernel
theorem dX12_cutOf_51 : decode cX12_cutOf 51 = .ok (.invokestatic 334, 3) := by decide +kernel
theorem dX12_cutOf_54 : decode cX12_cutOf 54 = .ok (.iload_n 3, 1) := by decide +kernel
theorem dX12_cutOf_55 : decode cX12_cutOf 55 = .ok (.invokestatic 334, 3) := by decide +kernel
theorem dX12_cutOf_58 : decode cX12_cutOf 58 = .ok (.if_icmp .lt 6, 3) := by decide +kernel
theorem dX12_cutOf_61 : decode cX12_cutOf 61 = .ok (.goto 19, 3) := by decide +kernel
theorem dX12_cutOf_64 : decode cX12_cutOf 64 = .ok (.aload_n 0, 1) := by decide +kernel
theorem dX12_cutOf_65 : decode cX12_cutOf 65 = .ok (.iload_n 1, 1) := by decide +kernel
theorem dX12_cutOf_66 : decode cX12_cutOf 66 = .ok (.iload 4, 2) := by decide +kernel
theorem dX12_cutOf_68 : decode cX12_cutOf 68 = .ok (.iconst (-1), 1) := by decide +kernel
theorem dX12_cutOf_69 : decode cX12_cutOf 69 = .ok (.ixor, 1) := by decide +kernel
theorem dX12_cutOf_70 : decode cX12_cutOf 70 = .ok (.iand, 1) := by decide +kernel
theorem dX12_cutOf_71 : decode cX12_cutOf 71 = .ok (.invokevirtual 354, 3) := by decide +kernel
theorem dX12_cutOf_74 : decode cX12_cutOf 74 = .ok (.ifCond .ne 6, 3) := by decide +kernel
theorem dX12_cutOf_77 : decode cX12_cutOf 77 = .ok (.iload 4, 2) := by decide +kernel
theorem dX12_cutOf_79 : decode cX12_cutOf 79 = .ok (.istore_n 3, 1) := by decide +kernel
theorem dX12_cutOf_80 : decode cX12_cutOf 80 = .ok (.iinc 4 1, 3) := by decide +kernel
theorem dX12_cutOf_83 : decode cX12_cutOf 83 = .ok (.goto (-54), 3) := by decide +kernel
theorem dX12_cutOf_86 : decode cX12_cutOf 86 = .ok (.iload_n 3, 1) := by decide +kernel
theorem dX12_cutOf_87 : decode cX12_cutOf 87 = .ok (.ireturn, 1) := by decide +kernel
theorem dX12_highest_0 : decode cX12_highest 0 = .ok (.aload_n 0, 1) := by decide +kernel
theorem dX12_highest_1 : decode cX12_highest 1 = .ok (.iconst 0, 1) := by decide +kernel
theorem dX12_highest_2 : decode cX12_highest 2 = .ok (.putfield 1, 3) := by decide +kernel
theorem dX12_highest_5 : decode cX12_highest 5 = .ok (.aload_n 0, 1) := by decide +kernel
theorem dX12_highest_6 : decode cX12_highest 6 = .ok (.iload_n 1, 1) := by decide +kernel
theorem dX12_highest_7 : decode cX12_highest 7 = .ok (.i2l, 1) := by decide +kernel
theorem dX12_highest_8 : decode cX12_highest 8 = .ok (.invokevirtual 222, 3) := by decide +kernel
theorem dX12_highest_11 : decode cX12_highest 11 = .ok (.ifCond .ne 6, 3) := by decide +kernel
theorem dX12_highest_14 : decode cX12_highest 14 = .ok (.bipush (-2), 2) := by decide +kernel
theorem dX12_highest_16 : decode cX12_highest 16 = .ok (.ireturn, 1) := by decide +kernel
theorem dX12_highest_17 : decode cX12_highest 17 = .ok (.aload_n 0, 1) := by decide +kernel
theorem dX12_highest_18 : decode cX12_highest 18 = .ok (.iload_n 1, 1) := by decide +kernel
theorem dX12_highest_19 : decode cX12_highest 19 = .ok (.invokevirtual 257, 3) := by decide +kernel
theorem dX12_highest_22 : decode cX12_highest 22 = .ok (.aload_n 0, 1) := by decide +kernel
theorem dX12_highest_23 : decode cX12_highest 23 = .ok (.aload_n 0, 1) := by decide +kernel
theorem dX12_highest_24 : decode cX12_highest 24 = .ok (.invokevirtual 260, 3) := by decide +kernel
theorem dX12_highest_27 : decode cX12_highest 27 = .ok (.invokevirtual 254, 3) := by decide +kernel
theorem dX12_highest_30 : decode cX12_highest 30 = .ok (.istore_n 2, 1) := by decide +kernel
theorem dX12_highest_31 : decode cX12_highest 31 = .ok (.iconst (-1), 1) := by decide +kernel
theorem dX12_highest_32 : decode cX12_highest 32 = .ok (.istore_n 3, 1) := by decide +kernel
theorem dX12_highest_33 : decode cX12_highest 33 = .ok (.iconst 0, 1) := by decide +kernel
theorem dX12_highest_34 : decode cX12_highest 34 = .ok (.istore 4, 2) := by decide +kernel
theorem dX12_highest_36 : decode cX12_highest 36 = .ok (.iload 4, 2) := by decide +kernel
theorem dX12_highest_38 : decode cX12_highest 38 = .ok (.aload_n 0, 1) := by decide +kernel
theorem dX12_highest_39 : decode cX12_highest 39 = .ok (.getfield 13, 3) := by decide +kernel
theorem dX12_highest_42 : decode cX12_highest 42 = .ok (.iconst 1, 1) := by decide +kernel
theorem dX12_highest_43 : decode cX12_highest 43 = .ok (.iaload, 1) := by decide +kernel
theorem dX12_highest_44 : decode cX12_highest 44 = .ok (.if_icmp .ge 44, 3) := by decide +kernel
theorem dX12_highest_47 : decode cX12_highest 47 = .ok (.iload_n 2, 1) := by decide +kernel
theorem dX12_highest_48 : decode cX12_highest 48 = .ok (.i2l, 1) := by decide +kernel
theorem dX12_highest_49 : decode cX12_highest 49 = .ok (.iload 4, 2) := by decide +kernel
theorem dX12_highest_51 : decode cX12_highest 51 = .ok (.invokestatic 186, 3) := by decide +kernel
theorem dX12_highest_54 : decode cX12_highest 54 = .ok (.ifCond .eq 28, 3) := by decide +kernel
theorem dX12_highest_57 : decode cX12_highest 57 = .ok (.aload_n 0, 1) := by decide +kernel
theorem dX12_highest_58 : decode cX12_highest 58 = .ok (.getfield 13, 3) := by decide +kernel
theorem dX12_highest_61 : decode cX12_highest 61 = .ok (.bipush 21, 2) := by decide +kernel
theorem dX12_highest_63 : decode cX12_highest 63 = .ok (.iload 4, 2) := by decide +kernel
theorem dX12_highest_65 : decode cX12_highest 65 = .ok (.iadd, 1) := by decide +kernel
theorem dX12_highest_66 : decode cX12_highest 66 = .ok (.iaload, 1) := by decide +kernel
theorem dX12_highest_67 : decode cX12_highest 67 = .ok (.iload_n 3, 1) := by decide +kernel
theorem dX12_highest_68 : decode cX12_highest 68 = .ok (.if_icmp .le 14, 3) := by decide +kernel
theorem dX12_highest_71 : decode cX12_highest 71 = .ok (.aload_n 0, 1) := by decide +kernel
theorem dX12_highest_72 : decode cX12_highest 72 = .ok (.getfield 13, 3) := by decide +kernel
theorem dX12_highest_75 : decode cX12_highest 75 = .ok (.bipush 21, 2) := by decide +kernel
theorem dX12_highest_77 : decode cX12_highest 77 = .ok (.iload 4, 2) := by decide +kernel
theorem dX12_highest_79 : decode cX12_highest 79 = .ok (.iadd, 1) := by decide +kernel
theorem dX12_highest_80 : decode cX12_highest 80 = .ok (.iaload, 1) := by decide +kernel
theorem dX12_highest_81 : decode cX12_highest 81 = .ok (.istore_n 3, 1) := by decide +kernel
theorem dX12_highest_82 : decode cX12_highest 82 = .ok (.iinc 4 1, 3) := by decide +kernel
theorem dX12_highest_85 : decode cX12_highest 85 = .ok (.goto (-49), 3) := by decide +kernel
theorem dX12_highest_88 : decode cX12_highest 88 = .ok (.iload_n 3, 1) := by decide +kernel
theorem dX12_highest_89 : decode cX12_highest 89 = .ok (.ireturn, 1) := by decide +kernel
theorem dX12_needed_0 : decode cX12_needed 0 = .ok (.aload_n 0, 1) := by decide +kernel
theorem dX12_needed_1 : decode cX12_needed 1 = .ok (.iconst 0, 1) := by decide +kernel
theorem dX12_needed_2 : decode cX12_needed 2 = .ok (.putfield 1, 3) := by decide +kernel
theorem dX12_needed_5 : decode cX12_needed 5 = .ok (.aload_n 0, 1) := by decide +kernel
theorem dX12_needed_6 : decode cX12_needed 6 = .ok (.iload_n 1, 1) := by decide +kernel
theorem dX12_needed_7 : decode cX12_needed 7 = .ok (.i2l, 1) := by decide +kernel
theorem dX12_needed_8 : decode cX12_needed 8 = .ok (.invokevirtual 222, 3) := by decide +kernel
theorem dX12_needed_11 : decode cX12_needed 11 = .ok (.ifCond .eq 11, 3) := by decide +kernel
theorem dX12_needed_14 : decode cX12_needed 14 = .ok (.aload_n 0, 1) := by decide +kernel
theorem dX12_needed_15 : decode cX12_needed 15 = .ok (.iload_n 1, 1) := by decide +kernel
theorem dX12_needed_16 : decode cX12_needed 16 = .ok (.invokevirtual 363, 3) := by decide +kernel
theorem dX12_needed_19 : decode cX12_needed 19 = .ok (.goto 5, 3) := by decide +kernel
theorem dX12_needed_22 : decode cX12_needed 22 = .ok (.bipush (-2), 2) := by decide +kernel
theorem dX12_needed_24 : decode cX12_needed 24 = .ok (.ireturn, 1) := by decide +kernel
theorem dX12_neededBy_0 : decode cX12_neededBy 0 = .ok (.aload_n 0, 1) := by decide +kernel
theorem dX12_neededBy_1 : decode cX12_neededBy 1 = .ok (.iload_n 1, 1) := by decide +kernel
theorem dX12_neededBy_2 : decode cX12_neededBy 2 = .ok (.invokevirtual 257, 3) := by decide +kernel
theorem dX12_neededBy_5 : decode cX12_neededBy 5 = .ok (.aload_n 0, 1) := by decide +kernel
theorem dX12_neededBy_6 : decode cX12_neededBy 6 = .ok (.invokevirtual 260, 3) := by decide +kernel
theorem dX12_neededBy_9 : decode cX12_neededBy 9 = .ok (.istore_n 2, 1) := by decide +kernel
theorem dX12_neededBy_10 : decode cX12_neededBy 10 = .ok (.iconst 0, 1) := by decide +kernel
theorem dX12_neededBy_11 : decode cX12_neededBy 11 = .ok (.istore_n 3, 1) := by decide +kernel
theorem dX12_neededBy_12 : decode cX12_neededBy 12 = .ok (.iconst 0, 1) := by decide +kernel
theorem dX12_neededBy_13 : decode cX12_neededBy 13 = .ok (.istore 4, 2) := by decide +kernel
theorem dX12_neededBy_15 : decode cX12_neededBy 15 = .ok (.iload 4, 2) := by decide +kernel
theorem dX12_neededBy_17 : decode cX12_neededBy 17 = .ok (.aload_n 0, 1) := by decide +kernel
theorem dX12_neededBy_18 : decode cX12_neededBy 18 = .ok (.getfield 13, 3) := by decide +kernel
theorem dX12_neededBy_21 : decode cX12_neededBy 21 = .ok (.iconst 1, 1) := by decide +kernel
theorem dX12_neededBy_22 : decode cX12_neededBy 22 = .ok (.iaload, 1) := by decide +kernel
theorem dX12_neededBy_23 : decode cX12_neededBy 23 = .ok (.if_icmp .ge 56, 3) := by decide +kernel
theorem dX12_neededBy_26 : decode cX12_neededBy 26 = .ok (.aload_n 0, 1) := by decide +kernel
theorem dX12_neededBy_27 : decode cX12_neededBy 27 = .ok (.iload_n 2, 1) := by decide +kernel
theorem dX12_neededBy_28 : decode cX12_neededBy 28 = .ok (.invokevirtual 354, 3) := by decide +kernel
theorem dX12_neededBy_31 : decode cX12_neededBy 31 = .ok (.ifCond .eq 48, 3) := by decide +kernel
theorem dX12_neededBy_34 : decode cX12_neededBy 34 = .ok (.iload_n 2, 1) := by decide +kernel
theorem dX12_neededBy_35 : decode cX12_neededBy 35 = .ok (.aload_n 0, 1) := by decide +kernel
theorem dX12_neededBy_36 : decode cX12_neededBy 36 = .ok (.invokevirtual 272, 3) := by decide +kernel
theorem dX12_neededBy_39 : decode cX12_neededBy 39 = .ok (.iconst (-1), 1) := by decide +kernel
theorem dX12_neededBy_40 : decode cX12_neededBy 40 = .ok (.ixor, 1) := by decide +kernel
theorem dX12_neededBy_41 : decode cX12_neededBy 41 = .ok (.iand, 1) := by decide +kernel
theorem dX12_neededBy_42 : decode cX12_neededBy 42 = .ok (.i2l, 1) := by decide +kernel
theorem dX12_neededBy_43 : decode cX12_neededBy 43 = .ok (.iload 4, 2) := by decide +kernel
theorem dX12_neededBy_45 : decode cX12_neededBy 45 = .ok (.invokestatic 186, 3) := by decide +kernel
theorem dX12_neededBy_48 : decode cX12_neededBy 48 = .ok (.ifCond .eq 25, 3) := by decide +kernel
theorem dX12_neededBy_51 : decode cX12_neededBy 51 = .ok (.aload_n 0, 1) := by decide +kernel
theorem dX12_neededBy_52 : decode cX12_neededBy 52 = .ok (.iload_n 2, 1) := by decide +kernel
theorem dX12_neededBy_53 : decode cX12_neededBy 53 = .ok (.iconst 1, 1) := by decide +kernel
theorem dX12_neededBy_54 : decode cX12_neededBy 54 = .ok (.iload 4, 2) := by decide +kernel
theorem dX12_neededBy_56 : decode cX12_neededBy 56 = .ok (.ishl, 1) := by decide +kernel
theorem dX12_neededBy_57 : decode cX12_neededBy 57 = .ok (.iconst (-1), 1) := by decide +kernel
theorem dX12_neededBy_58 : decode cX12_neededBy 58 = .ok (.ixor, 1) := by decide +kernel
theorem dX12_neededBy_59 : decode cX12_neededBy 59 = .ok (.iand, 1) := by decide +kernel
theorem dX12_neededBy_60 : decode cX12_neededBy 60 = .ok (.invokevirtual 354, 3) := by decide +kernel
theorem dX12_neededBy_63 : decode cX12_neededBy 63 = .ok (.ifCond .ne 10, 3) := by decide +kernel
theorem dX12_neededBy_66 : decode cX12_neededBy 66 = .ok (.iload_n 3, 1) := by decide +kernel
theorem dX12_neededBy_67 : decode cX12_neededBy 67 = .ok (.iconst 1, 1) := by decide +kernel
theorem dX12_neededBy_68 : decode cX12_neededBy 68 = .ok (.iload 4, 2) := by decide +kernel
theorem dX12_neededBy_70 : decode cX12_neededBy 70 = .ok (.ishl, 1) := by decide +kernel
theorem dX12_neededBy_71 : decode cX12_neededBy 71 = .ok (.ior, 1) := by decide +kernel
theorem dX12_neededBy_72 : decode cX12_neededBy 72 = .ok (.istore_n 3, 1) := by decide +kernel
theorem dX12_neededBy_73 : decode cX12_neededBy 73 = .ok (.iinc 4 1, 3) := by decide +kernel
theorem dX12_neededBy_76 : decode cX12_neededBy 76 = .ok (.goto (-61), 3) := by decide +kernel
theorem dX12_neededBy_79 : decode cX12_neededBy 79 = .ok (.iload_n 3, 1) := by decide +kernel
theorem dX12_neededBy_80 : decode cX12_neededBy 80 = .ok (.ireturn, 1) := by decide +kernel
theorem dX12_needers_0 : decode cX12_needers 0 = .ok (.aload_n 0, 1) := by decide +kernel
theorem dX12_needers_1 : decode cX12_needers 1 = .ok (.iconst 0, 1) := by decide +kernel
theorem dX12_needers_2 : decode cX12_needers 2 = .ok (.putfield 1, 3) := by decide +kernel
theorem dX12_needers_5 : decode cX12_needers 5 = .ok (.aload_n 0, 1) := by decide +kernel
theorem dX12_needers_6 : decode cX12_needers 6 = .ok (.iload_n 1, 1) := by decide +kernel
theorem dX12_needers_7 : decode cX12_needers 7 = .ok (.i2l, 1) := by decide +kernel
theorem dX12_needers_8 : decode cX12_needers 8 = .ok (.invokevirtual 218, 3) := by decide +kernel
theorem dX12_needers_11 : decode cX12_needers 11 = .ok (.ifCond .ne 6, 3) := by decide +kernel
theorem dX12_needers_14 : decode cX12_needers 14 = .ok (.bipush (-2), 2) := by decide +kernel
theorem dX12_needers_16 : decode cX12_needers 16 = .ok (.ireturn, 1) := by decide +kernel
theorem dX12_needers_17 : decode cX12_needers 17 = .ok (.iconst 0, 1) := by decide +kernel
theorem dX12_needers_18 : decode cX12_needers 18 = .ok (.istore_n 2, 1) := by decide +kernel
theorem dX12_needers_19 : decode cX12_needers 19 = .ok (.iconst 0, 1) := by decide +kernel
theorem dX12_needers_20 : decode cX12_needers 20 = .ok (.istore_n 3, 1) := by decide +kernel
theorem dX12_needers_21 : decode cX12_needers 21 = .ok (.iload_n 3, 1) := by decide +kernel
theorem dX12_needers_22 : decode cX12_needers 22 = .ok (.aload_n 0, 1) := by decide +kernel
theorem dX12_needers_23 : decode cX12_needers 23 = .ok (.getfield 13, 3) := by decide +kernel
theorem dX12_needers_26 : decode cX12_needers 26 = .ok (.iconst 2, 1) := by decide +kernel
theorem dX12_needers_27 : decode cX12_needers 27 = .ok (.iaload, 1) := by decide +kernel
theorem dX12_needers_28 : decode cX12_needers 28 = .ok (.if_icmp .ge 32, 3) := by decide +kernel
theorem dX12_needers_31 : decode cX12_needers 31 = .ok (.iload_n 2, 1) := by decide +kernel
theorem dX12_needers_32 : decode cX12_needers 32 = .ok (.aload_n 0, 1) := by decide +kernel
theorem dX12_needers_33 : decode cX12_needers 33 = .ok (.iload_n 3, 1) := by decide +kernel
theorem dX12_needers_34 : decode cX12_needers 34 = .ok (.invokevirtual 363, 3) := by decide +kernel
theorem dX12_needers_37 : decode cX12_needers 37 = .ok (.i2l, 1) := by decide +kernel
theorem dX12_needers_38 : decode cX12_needers 38 = .ok (.iload_n 1, 1) := by decide +kernel
theorem dX12_needers_39 : decode cX12_needers 39 = .ok (.invokestatic 186, 3) := by decide +kernel
theorem dX12_needers_42 : decode cX12_needers 42 = .ok (.ifCond .eq 9, 3) := by decide +kernel
theorem dX12_needers_45 : decode cX12_needers 45 = .ok (.iconst 1, 1) := by decide +kernel
theorem dX12_needers_46 : decode cX12_needers 46 = .ok (.iload_n 3, 1) := by decide +kernel
theorem dX12_needers_47 : decode cX12_needers 47 = .ok (.ishl, 1) := by decide +kernel
theorem dX12_needers_48 : decode cX12_needers 48 = .ok (.goto 4, 3) := by decide +kernel
theorem dX12_needers_51 : decode cX12_needers 51 = .ok (.iconst 0, 1) := by decide +kernel
theorem dX12_needers_52 : decode cX12_needers 52 = .ok (.ior, 1) := by decide +kernel
theorem dX12_needers_53 : decode cX12_needers 53 = .ok (.istore_n 2, 1) := by decide +kernel
theorem dX12_needers_54 : decode cX12_needers 54 = .ok (.iinc 3 1, 3) := by decide +kernel
theorem dX12_needers_57 : decode cX12_needers 57 = .ok (.goto (-36), 3) := by decide +kernel
theorem dX12_needers_60 : decode cX12_needers 60 = .ok (.iload_n 2, 1) := by decide +kernel
theorem dX12_needers_61 : decode cX12_needers 61 = .ok (.ireturn, 1) := by decide +kernel
theorem dX12_parties_0 : decode cX12_parties 0 = .ok (.aload_n 0, 1) := by decide +kernel
theorem dX12_parties_1 : decode cX12_parties 1 = .ok (.iconst 0, 1) := by decide +kernel
theorem dX12_parties_2 : decode cX12_parties 2 = .ok (.putfield 1, 3) := by decide +kernel
theorem dX12_parties_5 : decode cX12_parties 5 = .ok (.aload_n 0, 1) := by decide +kernel
theorem dX12_parties_6 : decode cX12_parties 6 = .ok (.iload_n 1, 1) := by decide +kernel
theorem dX12_parties_7 : decode cX12_parties 7 = .ok (.i2l, 1) := by decide +kernel
theorem dX12_parties_8 : decode cX12_parties 8 = .ok (.invokevirtual 222, 3) := by decide +kernel
theorem dX12_parties_11 : decode cX12_parties 11 = .ok (.ifCond .ne 6, 3) := by decide +kernel
theorem dX12_parties_14 : decode cX12_parties 14 = .ok (.bipush (-2), 2) := by decide +kernel
theorem dX12_parties_16 : decode cX12_parties 16 = .ok (.ireturn, 1) := by decide +kernel
theorem dX12_parties_17 : decode cX12_parties 17 = .ok (.aload_n 0, 1) := by decide +kernel
theorem dX12_parties_18 : decode cX12_parties 18 = .ok (.iload_n 1, 1) := by decide +kernel
theorem dX12_parties_19 : decode cX12_parties 19 = .ok (.invokevirtual 257, 3) := by decide +kernel
theorem dX12_parties_22 : decode cX12_parties 22 = .ok (.aload_n 0, 1) := by decide +kernel
theorem dX12_parties_23 : decode cX12_parties 23 = .ok (.aload_n 0, 1) := by decide +kernel
theorem dX12_parties_24 : decode cX12_parties 24 = .ok (.invokevirtual 260, 3) := by decide +kernel
theorem dX12_parties_27 : decode cX12_parties 27 = .ok (.invokevirtual 360, 3) := by decide +kernel
theorem dX12_parties_30 : decode cX12_parties 30 = .ok (.ireturn, 1) := by decide +kernel
theorem dX12_partiesBy_0 : decode cX12_partiesBy 0 = .ok (.aload_n 0, 1) := by decide +kernel
theorem dX12_partiesBy_1 : decode cX12_partiesBy 1 = .ok (.iload_n 1, 1) := by decide +kernel
theorem dX12_partiesBy_2 : decode cX12_partiesBy 2 = .ok (.invokevirtual 357, 3) := by decide +kernel
theorem dX12_partiesBy_5 : decode cX12_partiesBy 5 = .ok (.istore_n 2, 1) := by decide +kernel
theorem dX12_partiesBy_6 : decode cX12_partiesBy 6 = .ok (.iload_n 2, 1) := by decide +kernel
theorem dX12_partiesBy_7 : decode cX12_partiesBy 7 = .ok (.iconst (-1), 1) := by decide +kernel
theorem dX12_partiesBy_8 : decode cX12_partiesBy 8 = .ok (.if_icmp .ne 8, 3) := by decide +kernel
theorem dX12_partiesBy_11 : decode cX12_partiesBy 11 = .ok (.bipush 99, 2) := by decide +kernel
theorem dX12_partiesBy_13 : decode cX12_partiesBy 13 = .ok (.goto 7, 3) := by decide +kernel
theorem dX12_partiesBy_16 : decode cX12_partiesBy 16 = .ok (.iload_n 2, 1) := by decide +kernel
theorem dX12_partiesBy_17 : decode cX12_partiesBy 17 = .ok (.invokestatic 334, 3) := by decide +kernel
theorem dX12_partiesBy_20 : decode cX12_partiesBy 20 = .ok (.ireturn, 1) := by decide +kernel
theorem dX12_shut_0 : decode cX12_shut 0 = .ok (.aload_n 0, 1) := by decide +kernel
theorem dX12_shut_1 : decode cX12_shut 1 = .ok (.iconst 0, 1) := by decide +kernel
theorem dX12_shut_2 : decode cX12_shut 2 = .ok (.putfield 1, 3) := by decide +kernel
theorem dX12_shut_5 : decode cX12_shut 5 = .ok (.aload_n 0, 1) := by decide +kernel
theorem dX12_shut_6 : decode cX12_shut 6 = .ok (.iload_n 1, 1) := by decide +kernel
theorem dX12_shut_7 : decode cX12_shut 7 = .ok (.i2l, 1) := by decide +kernel
theorem dX12_shut_8 : decode cX12_shut 8 = .ok (.invokevirtual 222, 3) := by decide +kernel
theorem dX12_shut_11 : decode cX12_shut 11 = .ok (.ifCond .eq 13, 3) := by decide +kernel
theorem dX12_shut_14 : decode cX12_shut 14 = .ok (.iload_n 2, 1) := by decide +kernel
theorem dX12_shut_15 : decode cX12_shut 15 = .ok (.i2l, 1) := by decide +kernel
theorem dX12_shut_16 : decode cX12_shut 16 = .ok (.lconst 0, 1) := by decide +kernel
theorem dX12_shut_17 : decode cX12_shut 17 = .ok (.lconst 1, 1) := by decide +kernel
theorem dX12_shut_18 : decode cX12_shut 18 = .ok (.invokestatic 144, 3) := by decide +kernel
theorem dX12_shut_21 : decode cX12_shut 21 = .ok (.ifCond .ne 6, 3) := by decide +kernel
theorem dX12_shut_24 : decode cX12_shut 24 = .ok (.bipush (-2), 2) := by decide +kernel
theorem dX12_shut_26 : decode cX12_shut 26 = .ok (.ireturn, 1) := by decide +kernel
theorem dX12_shut_27 : decode cX12_shut 27 = .ok (.aload_n 0, 1) := by decide +kernel
theorem dX12_shut_28 : decode cX12_shut 28 = .ok (.iload_n 1, 1) := by decide +kernel
theorem dX12_shut_29 : decode cX12_shut 29 = .ok (.invokevirtual 257, 3) := by decide +kernel
theorem dX12_shut_32 : decode cX12_shut 32 = .ok (.aload_n 0, 1) := by decide +kernel
theorem dX12_shut_33 : decode cX12_shut 33 = .ok (.aload_n 0, 1) := by decide +kernel
theorem dX12_shut_34 : decode cX12_shut 34 = .ok (.invokevirtual 260, 3) := by decide +kernel
theorem dX12_shut_37 : decode cX12_shut 37 = .ok (.invokevirtual 357, 3) := by decide +kernel
theorem dX12_shut_40 : decode cX12_shut 40 = .ok (.istore_n 3, 1) := by decide +kernel
theorem dX12_shut_41 : decode cX12_shut 41 = .ok (.iload_n 3, 1) := by decide +kernel
theorem dX12_shut_42 : decode cX12_shut 42 = .ok (.iconst (-1), 1) := by decide +kernel
theorem dX12_shut_43 : decode cX12_shut 43 = .ok (.if_icmp .eq 8, 3) := by decide +kernel
theorem dX12_shut_46 : decode cX12_shut 46 = .ok (.iload_n 2, 1) := by decide +kernel
theorem dX12_shut_47 : decode cX12_shut 47 = .ok (.iconst 1, 1) := by decide +kernel
theorem dX12_shut_48 : decode cX12_shut 48 = .ok (.if_icmp .ne 7, 3) := by decide +kernel
theorem dX12_shut_51 : decode cX12_shut 51 = .ok (.iload_n 3, 1) := by decide +kernel
theorem dX12_shut_52 : decode cX12_shut 52 = .ok (.goto 7, 3) := by decide +kernel
theorem dX12_shut_55 : decode cX12_shut 55 = .ok (.iload_n 3, 1) := by decide +kernel
theorem dX12_shut_56 : decode cX12_shut 56 = .ok (.invokestatic 334, 3) := by decide +kernel
theorem dX12_shut_59 : decode cX12_shut 59 = .ok (.ireturn, 1) := by decide +kernel
theorem kw_1652 : Cond.methodLink "FootholdWallModel" 360 yX12_partiesBy ∈ gw := gw_of (tb_of 1652 (by decide +kernel)) (by decide +kernel)
theorem kw_1654 : Cond.instanceMethod yX12_partiesBy ∈ gw := gw_of (tb_of 1654 (by decide +kernel)) (by decide +kernel)
theorem kw_1655 : Cond.code yX12_partiesBy cX12_partiesBy 3 (some (.int)) ∈ gw := gw_of (tb_of 1655 (by decide +kernel)) (by decide +kernel)
theorem kw_1656 : Cond.methodLink "FootholdWallModel" 357 yX12_cutOf ∈ gw := gw_of (tb_of 1656 (by decide +kernel)) (by decide +kernel)
theorem kw_1658 : Cond.instanceMethod yX12_cutOf ∈ gw := gw_of (tb_of 1658 (by decide +kernel)) (by decide +kernel)
theorem kw_1659 : Cond.code yX12_cutOf cX12_cutOf 5 (some (.int)) ∈ gw := gw_of (tb_of 1659 (by decide +kernel)) (by decide +kernel)
theorem kw_1660 : Cond.methodLink "FootholdWallModel" 354 yX12_hasClimb ∈ gw := gw_of (tb_of 1660 (by decide +kernel)) (by decide +kernel)
theorem kw_1662 : Cond.instanceMethod yX12_hasClimb ∈ gw := gw_of (tb_of 1662 (by decide +kernel)) (by decide +kernel)
theorem kw_1663 : Cond.code yX12_hasClimb cX12_hasClimb 2 (some (.boolean)) ∈ gw := gw_of (tb_of 1663 (by decide +kernel)) (by decide +kernel)
theorem kw_1672 : Cond.methodLink "FootholdWallModel" 363 yX12_neededBy ∈ gw := gw_of (tb_of 1672 (by decide +kernel)) (by decide +kernel)
theorem kw_1674 : Cond.instanceMethod yX12_neededBy ∈ gw := gw_of (tb_of 1674 (by decide +kernel)) (by decide +kernel)
theorem kw_1675 : Cond.code yX12_neededBy cX12_neededBy 5 (some (.int)) ∈ gw := gw_of (tb_of 1675 (by decide +kernel)) (by decide +kernel)
theorem ks_92 : Cond.selects RX12 yX12_partiesBy yX12_partiesBy ∈ gw := gw_of (pv_of 92 (by decide +kernel)) (by decide +kernel)
theorem ks_93 : Cond.selects RX12 yX12_cutOf yX12_cutOf ∈ gw := gw_of (pv_of 93 (by decide +kernel)) (by decide +kernel)
theorem ks_94 : Cond.selects RX12 yX12_hasClimb yX12_hasClimb ∈ gw := gw_of (pv_of 94 (by decide +kernel)) (by decide +kernel)
theorem ks_95 : Cond.selects RX12 yX12_neededBy yX12_neededBy ∈ gw := gw_of (pv_of 95 (by decide +kernel)) (by decide +kernel)
