theorem dX12_numbers_0 : decode cX12_numbers 0 = .ok (.aload_n 0, 1) := by decide +kernel
theorem dX12_numbers_1 : decode cX12_numbers 1 = .ok (.iconst 0, 1) := by decide +kernel
theorem dX12_numbers_2 : decode cX12_numbers 2 = .ok (.putfield 1, 3) := by decide +kernel
theorem dX12_numbers_5 : decode cX12_numbers 5 = .ok (.iload_n 1, 1) := by decide +kernel
theorem dX12_numbers_6 : decode cX12_numbers 6 = .ok (.i2l, 1) := by decide +kernel
theorem dX12_numbers_7 : decode cX12_numbers 7 = .ok (.lconst 0, 1) := by decide +kernel
theorem dX12_numbers_8 : decode cX12_numbers 8 = .ok (.ldc2_w 275, 3) := by decide +kernel
theorem dX12_numbers_11 : decode cX12_numbers 11 = .ok (.invokestatic 144, 3) := by decide +kernel
theorem dX12_numbers_14 : decode cX12_numbers 14 = .ok (.ifCond .eq 15, 3) := by decide +kernel
theorem dX12_numbers_17 : decode cX12_numbers 17 = .ok (.iload_n 2, 1) := by decide +kernel
theorem dX12_numbers_18 : decode cX12_numbers 18 = .ok (.i2l, 1) := by decide +kernel
theorem dX12_numbers_19 : decode cX12_numbers 19 = .ok (.lconst 0, 1) := by decide +kernel
theorem dX12_numbers_20 : decode cX12_numbers 20 = .ok (.ldc2_w 275, 3) := by decide +kernel
theorem dX12_numbers_23 : decode cX12_numbers 23 = .ok (.invokestatic 144, 3) := by decide +kernel
theorem dX12_numbers_26 : decode cX12_numbers 26 = .ok (.ifCond .ne 6, 3) := by decide +kernel
theorem dX12_numbers_29 : decode cX12_numbers 29 = .ok (.bipush (-2), 2) := by decide +kernel
theorem dX12_numbers_31 : decode cX12_numbers 31 = .ok (.ireturn, 1) := by decide +kernel
theorem dX12_numbers_32 : decode cX12_numbers 32 = .ok (.iload_n 3, 1) := by decide +kernel
theorem dX12_numbers_33 : decode cX12_numbers 33 = .ok (.i2l, 1) := by decide +kernel
theorem dX12_numbers_34 : decode cX12_numbers 34 = .ok (.lconst 0, 1) := by decide +kernel
theorem dX12_numbers_35 : decode cX12_numbers 35 = .ok (.ldc2_w 324, 3) := by decide +kernel
theorem dX12_numbers_38 : decode cX12_numbers 38 = .ok (.invokestatic 144, 3) := by decide +kernel
theorem dX12_numbers_41 : decode cX12_numbers 41 = .ok (.ifCond .ne 6, 3) := by decide +kernel
theorem dX12_numbers_44 : decode cX12_numbers 44 = .ok (.bipush (-3), 2) := by decide +kernel
theorem dX12_numbers_46 : decode cX12_numbers 46 = .ok (.ireturn, 1) := by decide +kernel
theorem dX12_numbers_47 : decode cX12_numbers 47 = .ok (.aload_n 0, 1) := by decide +kernel
theorem dX12_numbers_48 : decode cX12_numbers 48 = .ok (.getfield 69, 3) := by decide +kernel
theorem dX12_numbers_51 : decode cX12_numbers 51 = .ok (.iload_n 1, 1) := by decide +kernel
theorem dX12_numbers_52 : decode cX12_numbers 52 = .ok (.iload_n 2, 1) := by decide +kernel
theorem dX12_numbers_53 : decode cX12_numbers 53 = .ok (.iastore, 1) := by decide +kernel
theorem dX12_numbers_54 : decode cX12_numbers 54 = .ok (.aload_n 0, 1) := by decide +kernel
theorem dX12_numbers_55 : decode cX12_numbers 55 = .ok (.getfield 72, 3) := by decide +kernel
theorem dX12_numbers_58 : decode cX12_numbers 58 = .ok (.iload_n 1, 1) := by decide +kernel
theorem dX12_numbers_59 : decode cX12_numbers 59 = .ok (.iload_n 3, 1) := by decide +kernel
theorem dX12_numbers_60 : decode cX12_numbers 60 = .ok (.iastore, 1) := by decide +kernel
theorem dX12_numbers_61 : decode cX12_numbers 61 = .ok (.iconst 0, 1) := by decide +kernel
theorem dX12_numbers_62 : decode cX12_numbers 62 = .ok (.istore 4, 2) := by decide +kernel
theorem dX12_numbers_64 : decode cX12_numbers 64 = .ok (.iload 4, 2) := by decide +kernel
theorem dX12_numbers_66 : decode cX12_numbers 66 = .ok (.iload_n 3, 1) := by decide +kernel
theorem dX12_numbers_67 : decode cX12_numbers 67 = .ok (.if_icmp .ge 22, 3) := by decide +kernel
theorem dX12_numbers_70 : decode cX12_numbers 70 = .ok (.aload_n 0, 1) := by decide +kernel
theorem dX12_numbers_71 : decode cX12_numbers 71 = .ok (.getfield 75, 3) := by decide +kernel
theorem dX12_numbers_74 : decode cX12_numbers 74 = .ok (.bipush 40, 2) := by decide +kernel
theorem dX12_numbers_76 : decode cX12_numbers 76 = .ok (.iload_n 1, 1) := by decide +kernel
theorem dX12_numbers_77 : decode cX12_numbers 77 = .ok (.imul, 1) := by decide +kernel
theorem dX12_numbers_78 : decode cX12_numbers 78 = .ok (.iload 4, 2) := by decide +kernel
theorem dX12_numbers_80 : decode cX12_numbers 80 = .ok (.iadd, 1) := by decide +kernel
theorem dX12_numbers_81 : decode cX12_numbers 81 = .ok (.lconst 0, 1) := by decide +kernel
theorem dX12_numbers_82 : decode cX12_numbers 82 = .ok (.lastore, 1) := by decide +kernel
theorem dX12_numbers_83 : decode cX12_numbers 83 = .ok (.iinc 4 1, 3) := by decide +kernel
theorem dX12_numbers_86 : decode cX12_numbers 86 = .ok (.goto (-22), 3) := by decide +kernel
theorem dX12_numbers_89 : decode cX12_numbers 89 = .ok (.iconst 0, 1) := by decide +kernel
theorem dX12_numbers_90 : decode cX12_numbers 90 = .ok (.ireturn, 1) := by decide +kernel
theorem dX12_write_0 : decode cX12_write 0 = .ok (.aload_n 0, 1) := by decide +kernel
theorem dX12_write_1 : decode cX12_write 1 = .ok (.iconst 0, 1) := by decide +kernel
theorem dX12_write_2 : decode cX12_write 2 = .ok (.putfield 1, 3) := by decide +kernel
theorem dX12_write_5 : decode cX12_write 5 = .ok (.aload_n 0, 1) := by decide +kernel
theorem dX12_write_6 : decode cX12_write 6 = .ok (.iload_n 1, 1) := by decide +kernel
theorem dX12_write_7 : decode cX12_write 7 = .ok (.invokevirtual 289, 3) := by decide +kernel
theorem dX12_write_10 : decode cX12_write 10 = .ok (.istore 5, 2) := by decide +kernel
theorem dX12_write_12 : decode cX12_write 12 = .ok (.iload 5, 2) := by decide +kernel
theorem dX12_write_14 : decode cX12_write 14 = .ok (.ifCond .eq 7, 3) := by decide +kernel
theorem dX12_write_17 : decode cX12_write 17 = .ok (.iload 5, 2) := by decide +kernel
theorem dX12_write_19 : decode cX12_write 19 = .ok (.i2l, 1) := by decide +kernel
theorem dX12_write_20 : decode cX12_write 20 = .ok (.lreturn, 1) := by decide +kernel
theorem dX12_write_21 : decode cX12_write 21 = .ok (.iload_n 2, 1) := by decide +kernel
theorem dX12_write_22 : decode cX12_write 22 = .ok (.i2l, 1) := by decide +kernel
theorem dX12_write_23 : decode cX12_write 23 = .ok (.lconst 0, 1) := by decide +kernel
theorem dX12_write_24 : decode cX12_write 24 = .ok (.aload_n 0, 1) := by decide +kernel
theorem dX12_write_25 : decode cX12_write 25 = .ok (.getfield 72, 3) := by decide +kernel
theorem dX12_write_28 : decode cX12_write 28 = .ok (.iload_n 1, 1) := by decide +kernel
theorem dX12_write_29 : decode cX12_write 29 = .ok (.iaload, 1) := by decide +kernel
theorem dX12_write_30 : decode cX12_write 30 = .ok (.iconst 1, 1) := by decide +kernel
theorem dX12_write_31 : decode cX12_write 31 = .ok (.isub, 1) := by decide +kernel
theorem dX12_write_32 : decode cX12_write 32 = .ok (.i2l, 1) := by decide +kernel
theorem dX12_write_33 : decode cX12_write 33 = .ok (.invokestatic 144, 3) := by decide +kernel
theorem dX12_write_36 : decode cX12_write 36 = .ok (.ifCond .ne 7, 3) := by decide +kernel
theorem dX12_write_39 : decode cX12_write 39 = .ok (.ldc2_w 394, 3) := by decide +kernel
theorem dX12_write_42 : decode cX12_write 42 = .ok (.lreturn, 1) := by decide +kernel
theorem dX12_write_43 : decode cX12_write 43 = .ok (.aload_n 0, 1) := by decide +kernel
theorem dX12_write_44 : decode cX12_write 44 = .ok (.getfield 75, 3) := by decide +kernel
theorem dX12_write_47 : decode cX12_write 47 = .ok (.bipush 40, 2) := by decide +kernel
theorem dX12_write_49 : decode cX12_write 49 = .ok (.iload_n 1, 1) := by decide +kernel
theorem dX12_write_50 : decode cX12_write 50 = .ok (.imul, 1) := by decide +kernel
theorem dX12_write_51 : decode cX12_write 51 = .ok (.iload_n 2, 1) := by decide +kernel
theorem dX12_write_52 : decode cX12_write 52 = .ok (.iadd, 1) := by decide +kernel
theorem dX12_write_53 : decode cX12_write 53 = .ok (.lload_n 3, 1) := by decide +kernel
theorem dX12_write_54 : decode cX12_write 54 = .ok (.aload_n 0, 1) := by decide +kernel
theorem dX12_write_55 : decode cX12_write 55 = .ok (.getfield 69, 3) := by decide +kernel
theorem dX12_write_58 : decode cX12_write 58 = .ok (.iload_n 1, 1) := by decide +kernel
theorem dX12_write_59 : decode cX12_write 59 = .ok (.iaload, 1) := by decide +kernel
theorem dX12_write_60 : decode cX12_write 60 = .ok (.invokestatic 396, 3) := by decide +kernel
theorem dX12_write_63 : decode cX12_write 63 = .ok (.lastore, 1) := by decide +kernel
theorem dX12_write_64 : decode cX12_write 64 = .ok (.aload_n 0, 1) := by decide +kernel
theorem dX12_write_65 : decode cX12_write 65 = .ok (.getfield 75, 3) := by decide +kernel
theorem dX12_write_68 : decode cX12_write 68 = .ok (.bipush 40, 2) := by decide +kernel
theorem dX12_write_70 : decode cX12_write 70 = .ok (.iload_n 1, 1) := by decide +kernel
theorem dX12_write_71 : decode cX12_write 71 = .ok (.imul, 1) := by decide +kernel
theorem dX12_write_72 : decode cX12_write 72 = .ok (.iload_n 2, 1) := by decide +kernel
theorem dX12_write_73 : decode cX12_write 73 = .ok (.iadd, 1) := by decide +kernel
theorem dX12_write_74 : decode cX12_write 74 = .ok (.laload, 1) := by decide +kernel
theorem dX12_write_75 : decode cX12_write 75 = .ok (.lreturn, 1) := by decide +kernel
theorem kw_1257 : Cond.fieldLink "FootholdWallModel" 72 "FootholdWallModel" "rowMany" "[I" ∈ gw := gw_of (tb_of 1257 (by decide +kernel)) (by decide +kernel)
theorem kw_1258 : Cond.fieldLink "FootholdWallModel" 75 "FootholdWallModel" "numbers" "[J" ∈ gw := gw_of (tb_of 1258 (by decide +kernel)) (by decide +kernel)
theorem kw_1523 : Cond.methodLink "FootholdWallModel" 289 yX12_noTray ∈ gw := gw_of (tb_of 1523 (by decide +kernel)) (by decide +kernel)
theorem kw_1525 : Cond.instanceMethod yX12_noTray ∈ gw := gw_of (tb_of 1525 (by decide +kernel)) (by decide +kernel)
theorem kw_1526 : Cond.code yX12_noTray cX12_noTray 2 (some (.int)) ∈ gw := gw_of (tb_of 1526 (by decide +kernel)) (by decide +kernel)
theorem kw_1607 : Cond.constantLong "FootholdWallModel" 324 40 ∈ gw := gw_of (tb_of 1607 (by decide +kernel)) (by decide +kernel)
theorem kw_1768 : Cond.constantLong "FootholdWallModel" 394 (-7) ∈ gw := gw_of (tb_of 1768 (by decide +kernel)) (by decide +kernel)
theorem kw_1769 : Cond.methodLink "FootholdWallModel" 396 yX12_cut ∈ gw := gw_of (tb_of 1769 (by decide +kernel)) (by decide +kernel)
theorem kw_1770 : Cond.static yX12_cut ∈ gw := gw_of (tb_of 1770 (by decide +kernel)) (by decide +kernel)
theorem kw_1771 : Cond.code yX12_cut cX12_cut 3 (some (.long)) ∈ gw := gw_of (tb_of 1771 (by decide +kernel)) (by decide +kernel)
theorem ks_75 : Cond.selects RX12 yX12_noTray yX12_noTray ∈ gw := gw_of (pv_of 75 (by decide +kernel)) (by decide +kernel)
