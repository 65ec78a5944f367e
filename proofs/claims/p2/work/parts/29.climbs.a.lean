theorem dX10_climbsOn_0 : decode cX10_climbsOn 0 = .ok (.iload 4, 2) := by decide +kernel
theorem dX10_climbsOn_2 : decode cX10_climbsOn 2 = .ok (.ifCond .gt 5, 3) := by decide +kernel
theorem dX10_climbsOn_5 : decode cX10_climbsOn 5 = .ok (.lconst 0, 1) := by decide +kernel
theorem dX10_climbsOn_6 : decode cX10_climbsOn 6 = .ok (.lreturn, 1) := by decide +kernel
theorem dX10_climbsOn_7 : decode cX10_climbsOn 7 = .ok (.aload_n 0, 1) := by decide +kernel
theorem dX10_climbsOn_8 : decode cX10_climbsOn 8 = .ok (.iconst 1, 1) := by decide +kernel
theorem dX10_climbsOn_9 : decode cX10_climbsOn 9 = .ok (.iload_n 2, 1) := by decide +kernel
theorem dX10_climbsOn_10 : decode cX10_climbsOn 10 = .ok (.ishl, 1) := by decide +kernel
theorem dX10_climbsOn_11 : decode cX10_climbsOn 11 = .ok (.invokevirtual 92, 3) := by decide +kernel
theorem dX10_climbsOn_14 : decode cX10_climbsOn 14 = .ok (.i2l, 1) := by decide +kernel
theorem dX10_climbsOn_15 : decode cX10_climbsOn 15 = .ok (.lstore 5, 2) := by decide +kernel
theorem dX10_climbsOn_17 : decode cX10_climbsOn 17 = .ok (.aload_n 1, 1) := by decide +kernel
theorem dX10_climbsOn_18 : decode cX10_climbsOn 18 = .ok (.iload_n 2, 1) := by decide +kernel
theorem dX10_climbsOn_19 : decode cX10_climbsOn 19 = .ok (.iload_n 3, 1) := by decide +kernel
theorem dX10_climbsOn_20 : decode cX10_climbsOn 20 = .ok (.invokevirtual 49, 3) := by decide +kernel
theorem dX10_climbsOn_23 : decode cX10_climbsOn 23 = .ok (.istore 7, 2) := by decide +kernel
theorem dX10_climbsOn_25 : decode cX10_climbsOn 25 = .ok (.iload 4, 2) := by decide +kernel
theorem dX10_climbsOn_27 : decode cX10_climbsOn 27 = .ok (.iconst 2, 1) := by decide +kernel
theorem dX10_climbsOn_28 : decode cX10_climbsOn 28 = .ok (.if_icmp .gt 25, 3) := by decide +kernel
theorem dX10_climbsOn_31 : decode cX10_climbsOn 31 = .ok (.iload 4, 2) := by decide +kernel
theorem dX10_climbsOn_33 : decode cX10_climbsOn 33 = .ok (.iconst 1, 1) := by decide +kernel
theorem dX10_climbsOn_34 : decode cX10_climbsOn 34 = .ok (.if_icmp .ne 8, 3) := by decide +kernel
theorem dX10_climbsOn_37 : decode cX10_climbsOn 37 = .ok (.lload 5, 2) := by decide +kernel
theorem dX10_climbsOn_39 : decode cX10_climbsOn 39 = .ok (.goto 13, 3) := by decide +kernel
theorem dX10_climbsOn_42 : decode cX10_climbsOn 42 = .ok (.lload 5, 2) := by decide +kernel
theorem dX10_climbsOn_44 : decode cX10_climbsOn 44 = .ok (.aload_n 0, 1) := by decide +kernel
theorem dX10_climbsOn_45 : decode cX10_climbsOn 45 = .ok (.iload 7, 2) := by decide +kernel
theorem dX10_climbsOn_47 : decode cX10_climbsOn 47 = .ok (.invokevirtual 92, 3) := by decide +kernel
theorem dX10_climbsOn_50 : decode cX10_climbsOn 50 = .ok (.i2l, 1) := by decide +kernel
theorem dX10_climbsOn_51 : decode cX10_climbsOn 51 = .ok (.ladd, 1) := by decide +kernel
theorem dX10_climbsOn_52 : decode cX10_climbsOn 52 = .ok (.lreturn, 1) := by decide +kernel
theorem dX10_climbsOn_53 : decode cX10_climbsOn 53 = .ok (.iconst 0, 1) := by decide +kernel
theorem dX10_climbsOn_54 : decode cX10_climbsOn 54 = .ok (.istore 8, 2) := by decide +kernel
theorem dX10_climbsOn_56 : decode cX10_climbsOn 56 = .ok (.iload 8, 2) := by decide +kernel
theorem dX10_climbsOn_58 : decode cX10_climbsOn 58 = .ok (.bipush 14, 2) := by decide +kernel
theorem dX10_climbsOn_60 : decode cX10_climbsOn 60 = .ok (.if_icmp .ge 43, 3) := by decide +kernel
theorem dX10_climbsOn_63 : decode cX10_climbsOn 63 = .ok (.iload 7, 2) := by decide +kernel
theorem dX10_climbsOn_65 : decode cX10_climbsOn 65 = .ok (.iload 8, 2) := by decide +kernel
theorem dX10_climbsOn_67 : decode cX10_climbsOn 67 = .ok (.ishr, 1) := by decide +kernel
theorem dX10_climbsOn_68 : decode cX10_climbsOn 68 = .ok (.iconst 1, 1) := by decide +kernel
theorem dX10_climbsOn_69 : decode cX10_climbsOn 69 = .ok (.iand, 1) := by decide +kernel
theorem dX10_climbsOn_70 : decode cX10_climbsOn 70 = .ok (.ifCond .eq 27, 3) := by decide +kernel
theorem dX10_climbsOn_73 : decode cX10_climbsOn 73 = .ok (.lload 5, 2) := by decide +kernel
theorem dX10_climbsOn_75 : decode cX10_climbsOn 75 = .ok (.aload_n 0, 1) := by decide +kernel
theorem dX10_climbsOn_76 : decode cX10_climbsOn 76 = .ok (.aload_n 1, 1) := by decide +kernel
theorem dX10_climbsOn_77 : decode cX10_climbsOn 77 = .ok (.iload 8, 2) := by decide +kernel
theorem dX10_climbsOn_79 : decode cX10_climbsOn 79 = .ok (.iload_n 3, 1) := by decide +kernel
theorem dX10_climbsOn_80 : decode cX10_climbsOn 80 = .ok (.iconst 1, 1) := by decide +kernel
theorem dX10_climbsOn_81 : decode cX10_climbsOn 81 = .ok (.iload 8, 2) := by decide +kernel
theorem dX10_climbsOn_83 : decode cX10_climbsOn 83 = .ok (.ishl, 1) := by decide +kernel
theorem dX10_climbsOn_84 : decode cX10_climbsOn 84 = .ok (.iconst (-1), 1) := by decide +kernel
theorem dX10_climbsOn_85 : decode cX10_climbsOn 85 = .ok (.ixor, 1) := by decide +kernel
theorem dX10_climbsOn_86 : decode cX10_climbsOn 86 = .ok (.iand, 1) := by decide +kernel
theorem dX10_climbsOn_87 : decode cX10_climbsOn 87 = .ok (.iload 4, 2) := by decide +kernel
theorem dX10_climbsOn_89 : decode cX10_climbsOn 89 = .ok (.iconst 1, 1) := by decide +kernel
theorem dX10_climbsOn_90 : decode cX10_climbsOn 90 = .ok (.isub, 1) := by decide +kernel
theorem dX10_climbsOn_91 : decode cX10_climbsOn 91 = .ok (.invokevirtual 88, 3) := by decide +kernel
theorem dX10_climbsOn_94 : decode cX10_climbsOn 94 = .ok (.ladd, 1) := by decide +kernel
theorem dX10_climbsOn_95 : decode cX10_climbsOn 95 = .ok (.lstore 5, 2) := by decide +kernel
theorem dX10_climbsOn_97 : decode cX10_climbsOn 97 = .ok (.iinc 8 1, 3) := by decide +kernel
theorem dX10_climbsOn_100 : decode cX10_climbsOn 100 = .ok (.goto (-44), 3) := by decide +kernel
theorem dX10_climbsOn_103 : decode cX10_climbsOn 103 = .ok (.lload 5, 2) := by decide +kernel
theorem dX10_climbsOn_105 : decode cX10_climbsOn 105 = .ok (.lreturn, 1) := by decide +kernel
theorem dX10_endingFrom_0 : decode cX10_endingFrom 0 = .ok (.iconst 0, 1) := by decide +kernel
theorem dX10_endingFrom_1 : decode cX10_endingFrom 1 = .ok (.istore_n 2, 1) := by decide +kernel
theorem dX10_endingFrom_2 : decode cX10_endingFrom 2 = .ok (.iconst 0, 1) := by decide +kernel
theorem dX10_endingFrom_3 : decode cX10_endingFrom 3 = .ok (.istore_n 3, 1) := by decide +kernel
theorem dX10_endingFrom_4 : decode cX10_endingFrom 4 = .ok (.iload_n 3, 1) := by decide +kernel
theorem dX10_endingFrom_5 : decode cX10_endingFrom 5 = .ok (.aload_n 0, 1) := by decide +kernel
theorem dX10_endingFrom_6 : decode cX10_endingFrom 6 = .ok (.getfield 32, 3) := by decide +kernel
theorem dX10_endingFrom_9 : decode cX10_endingFrom 9 = .ok (.if_icmp .ge 23, 3) := by decide +kernel
theorem dX10_endingFrom_12 : decode cX10_endingFrom 12 = .ok (.iload_n 2, 1) := by decide +kernel
theorem dX10_endingFrom_13 : decode cX10_endingFrom 13 = .ok (.iload_n 1, 1) := by decide +kernel
theorem dX10_endingFrom_14 : decode cX10_endingFrom 14 = .ok (.aload_n 0, 1) := by decide +kernel
theorem dX10_endingFrom_15 : decode cX10_endingFrom 15 = .ok (.getfield 29, 3) := by decide +kernel
theorem dX10_endingFrom_18 : decode cX10_endingFrom 18 = .ok (.iload_n 3, 1) := by decide +kernel
theorem dX10_endingFrom_19 : decode cX10_endingFrom 19 = .ok (.iaload, 1) := by decide +kernel
theorem dX10_endingFrom_20 : decode cX10_endingFrom 20 = .ok (.iand, 1) := by decide +kernel
theorem dX10_endingFrom_21 : decode cX10_endingFrom 21 = .ok (.invokestatic 85, 3) := by decide +kernel
theorem dX10_endingFrom_24 : decode cX10_endingFrom 24 = .ok (.iadd, 1) := by decide +kernel
theorem dX10_endingFrom_25 : decode cX10_endingFrom 25 = .ok (.istore_n 2, 1) := by decide +kernel
theorem dX10_endingFrom_26 : decode cX10_endingFrom 26 = .ok (.iinc 3 1, 3) := by decide +kernel
theorem dX10_endingFrom_29 : decode cX10_endingFrom 29 = .ok (.goto (-25), 3) := by decide +kernel
theorem dX10_endingFrom_32 : decode cX10_endingFrom 32 = .ok (.iload_n 2, 1) := by decide +kernel
theorem dX10_endingFrom_33 : decode cX10_endingFrom 33 = .ok (.ireturn, 1) := by decide +kernel
theorem dX10_leadingTo_0 : decode cX10_leadingTo 0 = .ok (.iconst 0, 1) := by decide +kernel
theorem dX10_leadingTo_1 : decode cX10_leadingTo 1 = .ok (.istore_n 3, 1) := by decide +kernel
theorem dX10_leadingTo_2 : decode cX10_leadingTo 2 = .ok (.iconst 0, 1) := by decide +kernel
theorem dX10_leadingTo_3 : decode cX10_leadingTo 3 = .ok (.istore 4, 2) := by decide +kernel
theorem dX10_leadingTo_5 : decode cX10_leadingTo 5 = .ok (.iload 4, 2) := by decide +kernel
theorem dX10_leadingTo_7 : decode cX10_leadingTo 7 = .ok (.bipush 14, 2) := by decide +kernel
theorem dX10_leadingTo_9 : decode cX10_leadingTo 9 = .ok (.if_icmp .ge 37, 3) := by decide +kernel
theorem dX10_leadingTo_12 : decode cX10_leadingTo 12 = .ok (.iload_n 1, 1) := by decide +kernel
theorem dX10_leadingTo_13 : decode cX10_leadingTo 13 = .ok (.iload 4, 2) := by decide +kernel
theorem dX10_leadingTo_15 : decode cX10_leadingTo 15 = .ok (.ishr, 1) := by decide +kernel
theorem dX10_leadingTo_16 : decode cX10_leadingTo 16 = .ok (.iconst 1, 1) := by decide +kernel
theorem dX10_leadingTo_17 : decode cX10_leadingTo 17 = .ok (.iand, 1) := by decide +kernel
theorem dX10_leadingTo_18 : decode cX10_leadingTo 18 = .ok (.ifCond .eq 22, 3) := by decide +kernel
theorem dX10_leadingTo_21 : decode cX10_leadingTo 21 = .ok (.aload_n 0, 1) := by decide +kernel
theorem dX10_leadingTo_22 : decode cX10_leadingTo 22 = .ok (.iload 4, 2) := by decide +kernel
theorem dX10_leadingTo_24 : decode cX10_leadingTo 24 = .ok (.iconst 1, 1) := by decide +kernel
theorem dX10_leadingTo_25 : decode cX10_leadingTo 25 = .ok (.iload_n 2, 1) := by decide +kernel
theorem dX10_leadingTo_26 : decode cX10_leadingTo 26 = .ok (.ishl, 1) := by decide +kernel
theorem dX10_leadingTo_27 : decode cX10_leadingTo 27 = .ok (.invokevirtual 49, 3) := by decide +kernel
theorem dX10_leadingTo_30 : decode cX10_leadingTo 30 = .ok (.ifCond .eq 10, 3) := by decide +kernel
theorem dX10_leadingTo_33 : decode cX10_leadingTo 33 = .ok (.iload_n 3, 1) := by decide +kernel
theorem dX10_leadingTo_34 : decode cX10_leadingTo 34 = .ok (.iconst 1, 1) := by decide +kernel
theorem dX10_leadingTo_35 : decode cX10_leadingTo 35 = .ok (.iload 4, 2) := by decide +kernel
theorem dX10_leadingTo_37 : decode cX10_leadingTo 37 = .ok (.ishl, 1) := by decide +kernel
theorem dX10_leadingTo_38 : decode cX10_leadingTo 38 = .ok (.ior, 1) := by decide +kernel
theorem dX10_leadingTo_39 : decode cX10_leadingTo 39 = .ok (.istore_n 3, 1) := by decide +kernel
theorem dX10_leadingTo_40 : decode cX10_leadingTo 40 = .ok (.iinc 4 1, 3) := by decide +kernel
theorem dX10_leadingTo_43 : decode cX10_leadingTo 43 = .ok (.goto (-38), 3) := by decide +kernel
theorem dX10_leadingTo_46 : decode cX10_leadingTo 46 = .ok (.iload_n 3, 1) := by decide +kernel
theorem dX10_leadingTo_47 : decode cX10_leadingTo 47 = .ok (.ireturn, 1) := by decide +kernel
theorem kw_278 : Cond.fieldLink "FootholdWall$Ways" 29 "FootholdWall$Ways" "into" "[I" ∈ gw := gw_of (tb_of 278 (by decide +kernel)) (by decide +kernel)
theorem kw_279 : Cond.fieldLink "FootholdWall$Ways" 32 "FootholdWall$Ways" "tops" "I" ∈ gw := gw_of (tb_of 279 (by decide +kernel)) (by decide +kernel)
theorem kw_1001 : Cond.methodLink "FootholdWall$Ways" 85 yJ6_bitCount_0f7a4 ∈ gw := gw_of (tb_of 1001 (by decide +kernel)) (by decide +kernel)
theorem kw_1002 : Cond.methodLink "FootholdWall$Ways" 88 yX10_climbsOn ∈ gw := gw_of (tb_of 1002 (by decide +kernel)) (by decide +kernel)
theorem kw_1004 : Cond.instanceMethod yX10_climbsOn ∈ gw := gw_of (tb_of 1004 (by decide +kernel)) (by decide +kernel)
theorem kw_1005 : Cond.code yX10_climbsOn cX10_climbsOn 9 (some (.long)) ∈ gw := gw_of (tb_of 1005 (by decide +kernel)) (by decide +kernel)
theorem kw_1006 : Cond.methodLink "FootholdWall$Ways" 92 yX10_endingFrom ∈ gw := gw_of (tb_of 1006 (by decide +kernel)) (by decide +kernel)
theorem kw_1008 : Cond.instanceMethod yX10_endingFrom ∈ gw := gw_of (tb_of 1008 (by decide +kernel)) (by decide +kernel)
theorem kw_1009 : Cond.code yX10_endingFrom cX10_endingFrom 4 (some (.int)) ∈ gw := gw_of (tb_of 1009 (by decide +kernel)) (by decide +kernel)
theorem ks_30 : Cond.selects RX10 yX10_climbsOn yX10_climbsOn ∈ gw := gw_of (pv_of 30 (by decide +kernel)) (by decide +kernel)
theorem ks_31 : Cond.selects RX10 yX10_endingFrom yX10_endingFrom ∈ gw := gw_of (pv_of 31 (by decide +kernel)) (by decide +kernel)
