theorem dX0_begunOver_0 : decode cX0_begunOver 0 = .ok (.iconst 0, 1) := by decide +kernel
theorem dX0_begunOver_1 : decode cX0_begunOver 1 = .ok (.istore 4, 2) := by decide +kernel
theorem dX0_begunOver_3 : decode cX0_begunOver 3 = .ok (.iconst 1, 1) := by decide +kernel
theorem dX0_begunOver_4 : decode cX0_begunOver 4 = .ok (.iload_n 2, 1) := by decide +kernel
theorem dX0_begunOver_5 : decode cX0_begunOver 5 = .ok (.invokestatic 37, 3) := by decide +kernel
theorem dX0_begunOver_8 : decode cX0_begunOver 8 = .ok (.ishl, 1) := by decide +kernel
theorem dX0_begunOver_9 : decode cX0_begunOver 9 = .ok (.istore 5, 2) := by decide +kernel
theorem dX0_begunOver_11 : decode cX0_begunOver 11 = .ok (.iconst 0, 1) := by decide +kernel
theorem dX0_begunOver_12 : decode cX0_begunOver 12 = .ok (.istore 6, 2) := by decide +kernel
theorem dX0_begunOver_14 : decode cX0_begunOver 14 = .ok (.iconst 0, 1) := by decide +kernel
theorem dX0_begunOver_15 : decode cX0_begunOver 15 = .ok (.istore 7, 2) := by decide +kernel
theorem dX0_begunOver_17 : decode cX0_begunOver 17 = .ok (.iload 7, 2) := by decide +kernel
theorem dX0_begunOver_19 : decode cX0_begunOver 19 = .ok (.iload 5, 2) := by decide +kernel
theorem dX0_begunOver_21 : decode cX0_begunOver 21 = .ok (.if_icmp .ge 59, 3) := by decide +kernel
theorem dX0_begunOver_24 : decode cX0_begunOver 24 = .ok (.iload_n 1, 1) := by decide +kernel
theorem dX0_begunOver_25 : decode cX0_begunOver 25 = .ok (.iload 6, 2) := by decide +kernel
theorem dX0_begunOver_27 : decode cX0_begunOver 27 = .ok (.ior, 1) := by decide +kernel
theorem dX0_begunOver_28 : decode cX0_begunOver 28 = .ok (.istore 8, 2) := by decide +kernel
theorem dX0_begunOver_30 : decode cX0_begunOver 30 = .ok (.iload 8, 2) := by decide +kernel
theorem dX0_begunOver_32 : decode cX0_begunOver 32 = .ok (.invokestatic 37, 3) := by decide +kernel
theorem dX0_begunOver_35 : decode cX0_begunOver 35 = .ok (.iload_n 3, 1) := by decide +kernel
theorem dX0_begunOver_36 : decode cX0_begunOver 36 = .ok (.if_icmp .ne 30, 3) := by decide +kernel
theorem dX0_begunOver_39 : decode cX0_begunOver 39 = .ok (.iload 8, 2) := by decide +kernel
theorem dX0_begunOver_41 : decode cX0_begunOver 41 = .ok (.ifCond .lt 25, 3) := by decide +kernel
theorem dX0_begunOver_44 : decode cX0_begunOver 44 = .ok (.iload 8, 2) := by decide +kernel
theorem dX0_begunOver_46 : decode cX0_begunOver 46 = .ok (.aload_n 0, 1) := by decide +kernel
theorem dX0_begunOver_47 : decode cX0_begunOver 47 = .ok (.getfield 9, 3) := by decide +kernel
theorem dX0_begunOver_50 : decode cX0_begunOver 50 = .ok (.arraylength, 1) := by decide +kernel
theorem dX0_begunOver_51 : decode cX0_begunOver 51 = .ok (.if_icmp .ge 15, 3) := by decide +kernel
theorem dX0_begunOver_54 : decode cX0_begunOver 54 = .ok (.iload 4, 2) := by decide +kernel
theorem dX0_begunOver_56 : decode cX0_begunOver 56 = .ok (.aload_n 0, 1) := by decide +kernel
theorem dX0_begunOver_57 : decode cX0_begunOver 57 = .ok (.getfield 9, 3) := by decide +kernel
theorem dX0_begunOver_60 : decode cX0_begunOver 60 = .ok (.iload 8, 2) := by decide +kernel
theorem dX0_begunOver_62 : decode cX0_begunOver 62 = .ok (.iaload, 1) := by decide +kernel
theorem dX0_begunOver_63 : decode cX0_begunOver 63 = .ok (.ior, 1) := by decide +kernel
theorem dX0_begunOver_64 : decode cX0_begunOver 64 = .ok (.istore 4, 2) := by decide +kernel
theorem dX0_begunOver_66 : decode cX0_begunOver 66 = .ok (.iload 6, 2) := by decide +kernel
theorem dX0_begunOver_68 : decode cX0_begunOver 68 = .ok (.iload_n 2, 1) := by decide +kernel
theorem dX0_begunOver_69 : decode cX0_begunOver 69 = .ok (.isub, 1) := by decide +kernel
theorem dX0_begunOver_70 : decode cX0_begunOver 70 = .ok (.iload_n 2, 1) := by decide +kernel
theorem dX0_begunOver_71 : decode cX0_begunOver 71 = .ok (.iand, 1) := by decide +kernel
theorem dX0_begunOver_72 : decode cX0_begunOver 72 = .ok (.istore 6, 2) := by decide +kernel
theorem dX0_begunOver_74 : decode cX0_begunOver 74 = .ok (.iinc 7 1, 3) := by decide +kernel
theorem dX0_begunOver_77 : decode cX0_begunOver 77 = .ok (.goto (-60), 3) := by decide +kernel
theorem dX0_begunOver_80 : decode cX0_begunOver 80 = .ok (.iload 4, 2) := by decide +kernel
theorem dX0_begunOver_82 : decode cX0_begunOver 82 = .ok (.ireturn, 1) := by decide +kernel
theorem dX0_growFrom_0 : decode cX0_growFrom 0 = .ok (.aload_n 0, 1) := by decide +kernel
theorem dX0_growFrom_1 : decode cX0_growFrom 1 = .ok (.getfield 9, 3) := by decide +kernel
theorem dX0_growFrom_4 : decode cX0_growFrom 4 = .ok (.iload_n 1, 1) := by decide +kernel
theorem dX0_growFrom_5 : decode cX0_growFrom 5 = .ok (.iaload, 1) := by decide +kernel
theorem dX0_growFrom_6 : decode cX0_growFrom 6 = .ok (.istore_n 2, 1) := by decide +kernel
theorem dX0_growFrom_7 : decode cX0_growFrom 7 = .ok (.iconst 0, 1) := by decide +kernel
theorem dX0_growFrom_8 : decode cX0_growFrom 8 = .ok (.istore_n 3, 1) := by decide +kernel
theorem dX0_growFrom_9 : decode cX0_growFrom 9 = .ok (.iload_n 3, 1) := by decide +kernel
theorem dX0_growFrom_10 : decode cX0_growFrom 10 = .ok (.bipush 14, 2) := by decide +kernel
theorem dX0_growFrom_12 : decode cX0_growFrom 12 = .ok (.if_icmp .ge 55, 3) := by decide +kernel
theorem dX0_growFrom_15 : decode cX0_growFrom 15 = .ok (.iload_n 2, 1) := by decide +kernel
theorem dX0_growFrom_16 : decode cX0_growFrom 16 = .ok (.ifCond .eq 51, 3) := by decide +kernel
theorem dX0_growFrom_19 : decode cX0_growFrom 19 = .ok (.aload_n 0, 1) := by decide +kernel
theorem dX0_growFrom_20 : decode cX0_growFrom 20 = .ok (.getfield 15, 3) := by decide +kernel
theorem dX0_growFrom_23 : decode cX0_growFrom 23 = .ok (.iload_n 1, 1) := by decide +kernel
theorem dX0_growFrom_24 : decode cX0_growFrom 24 = .ok (.iconst (-1), 1) := by decide +kernel
theorem dX0_growFrom_25 : decode cX0_growFrom 25 = .ok (.ixor, 1) := by decide +kernel
theorem dX0_growFrom_26 : decode cX0_growFrom 26 = .ok (.iand, 1) := by decide +kernel
theorem dX0_growFrom_27 : decode cX0_growFrom 27 = .ok (.iload_n 3, 1) := by decide +kernel
theorem dX0_growFrom_28 : decode cX0_growFrom 28 = .ok (.ishr, 1) := by decide +kernel
theorem dX0_growFrom_29 : decode cX0_growFrom 29 = .ok (.iconst 1, 1) := by decide +kernel
theorem dX0_growFrom_30 : decode cX0_growFrom 30 = .ok (.iand, 1) := by decide +kernel
theorem dX0_growFrom_31 : decode cX0_growFrom 31 = .ok (.ifCond .eq 30, 3) := by decide +kernel
theorem dX0_growFrom_34 : decode cX0_growFrom 34 = .ok (.aload_n 0, 1) := by decide +kernel
theorem dX0_growFrom_35 : decode cX0_growFrom 35 = .ok (.getfield 19, 3) := by decide +kernel
theorem dX0_growFrom_38 : decode cX0_growFrom 38 = .ok (.iload_n 3, 1) := by decide +kernel
theorem dX0_growFrom_39 : decode cX0_growFrom 39 = .ok (.iaload, 1) := by decide +kernel
theorem dX0_growFrom_40 : decode cX0_growFrom 40 = .ok (.iload_n 2, 1) := by decide +kernel
theorem dX0_growFrom_41 : decode cX0_growFrom 41 = .ok (.iand, 1) := by decide +kernel
theorem dX0_growFrom_42 : decode cX0_growFrom 42 = .ok (.ifCond .eq 19, 3) := by decide +kernel
theorem dX0_growFrom_45 : decode cX0_growFrom 45 = .ok (.aload_n 0, 1) := by decide +kernel
theorem dX0_growFrom_46 : decode cX0_growFrom 46 = .ok (.getfield 9, 3) := by decide +kernel
theorem dX0_growFrom_49 : decode cX0_growFrom 49 = .ok (.iload_n 1, 1) := by decide +kernel
theorem dX0_growFrom_50 : decode cX0_growFrom 50 = .ok (.iconst 1, 1) := by decide +kernel
theorem dX0_growFrom_51 : decode cX0_growFrom 51 = .ok (.iload_n 3, 1) := by decide +kernel
theorem dX0_growFrom_52 : decode cX0_growFrom 52 = .ok (.ishl, 1) := by decide +kernel
theorem dX0_growFrom_53 : decode cX0_growFrom 53 = .ok (.ior, 1) := by decide +kernel
theorem dX0_growFrom_54 : decode cX0_growFrom 54 = .ok (.dup2, 1) := by decide +kernel
theorem dX0_growFrom_55 : decode cX0_growFrom 55 = .ok (.iaload, 1) := by decide +kernel
theorem dX0_growFrom_56 : decode cX0_growFrom 56 = .ok (.iconst 1, 1) := by decide +kernel
theorem dX0_growFrom_57 : decode cX0_growFrom 57 = .ok (.iload_n 3, 1) := by decide +kernel
theorem dX0_growFrom_58 : decode cX0_growFrom 58 = .ok (.ishl, 1) := by decide +kernel
theorem dX0_growFrom_59 : decode cX0_growFrom 59 = .ok (.ior, 1) := by decide +kernel
theorem dX0_growFrom_60 : decode cX0_growFrom 60 = .ok (.iastore, 1) := by decide +kernel
theorem dX0_growFrom_61 : decode cX0_growFrom 61 = .ok (.iinc 3 1, 3) := by decide +kernel
theorem dX0_growFrom_64 : decode cX0_growFrom 64 = .ok (.goto (-55), 3) := by decide +kernel
theorem dX0_growFrom_67 : decode cX0_growFrom 67 = .ok (.return_, 1) := by decide +kernel
theorem dX0_leadingOn_0 : decode cX0_leadingOn 0 = .ok (.iload_n 2, 1) := by decide +kernel
theorem dX0_leadingOn_1 : decode cX0_leadingOn 1 = .ok (.istore_n 3, 1) := by decide +kernel
theorem dX0_leadingOn_2 : decode cX0_leadingOn 2 = .ok (.iconst 1, 1) := by decide +kernel
theorem dX0_leadingOn_3 : decode cX0_leadingOn 3 = .ok (.istore 4, 2) := by decide +kernel
theorem dX0_leadingOn_5 : decode cX0_leadingOn 5 = .ok (.iconst 0, 1) := by decide +kernel
theorem dX0_leadingOn_6 : decode cX0_leadingOn 6 = .ok (.istore 5, 2) := by decide +kernel
theorem dX0_leadingOn_8 : decode cX0_leadingOn 8 = .ok (.iload 5, 2) := by decide +kernel
theorem dX0_leadingOn_10 : decode cX0_leadingOn 10 = .ok (.bipush 14, 2) := by decide +kernel
theorem dX0_leadingOn_12 : decode cX0_leadingOn 12 = .ok (.if_icmp .ge 76, 3) := by decide +kernel
theorem dX0_leadingOn_15 : decode cX0_leadingOn 15 = .ok (.iload 4, 2) := by decide +kernel
theorem dX0_leadingOn_17 : decode cX0_leadingOn 17 = .ok (.ifCond .eq 71, 3) := by decide +kernel
theorem dX0_leadingOn_20 : decode cX0_leadingOn 20 = .ok (.iload_n 3, 1) := by decide +kernel
theorem dX0_leadingOn_21 : decode cX0_leadingOn 21 = .ok (.istore 6, 2) := by decide +kernel
theorem dX0_leadingOn_23 : decode cX0_leadingOn 23 = .ok (.iconst 0, 1) := by decide +kernel
theorem dX0_leadingOn_24 : decode cX0_leadingOn 24 = .ok (.istore 7, 2) := by decide +kernel
theorem dX0_leadingOn_26 : decode cX0_leadingOn 26 = .ok (.iload 7, 2) := by decide +kernel
theorem dX0_leadingOn_28 : decode cX0_leadingOn 28 = .ok (.bipush 14, 2) := by decide +kernel
theorem dX0_leadingOn_30 : decode cX0_leadingOn 30 = .ok (.if_icmp .ge 39, 3) := by decide +kernel
theorem dX0_leadingOn_33 : decode cX0_leadingOn 33 = .ok (.iload_n 1, 1) := by decide +kernel
theorem dX0_leadingOn_34 : decode cX0_leadingOn 34 = .ok (.iload_n 3, 1) := by decide +kernel
theorem dX0_leadingOn_35 : decode cX0_leadingOn 35 = .ok (.iconst (-1), 1) := by decide +kernel
theorem dX0_leadingOn_36 : decode cX0_leadingOn 36 = .ok (.ixor, 1) := by decide +kernel
theorem dX0_leadingOn_37 : decode cX0_leadingOn 37 = .ok (.iand, 1) := by decide +kernel
theorem dX0_leadingOn_38 : decode cX0_leadingOn 38 = .ok (.iload 7, 2) := by decide +kernel
theorem dX0_leadingOn_40 : decode cX0_leadingOn 40 = .ok (.ishr, 1) := by decide +kernel
theorem dX0_leadingOn_41 : decode cX0_leadingOn 41 = .ok (.iconst 1, 1) := by decide +kernel
theorem dX0_leadingOn_42 : decode cX0_leadingOn 42 = .ok (.iand, 1) := by decide +kernel
theorem dX0_leadingOn_43 : decode cX0_leadingOn 43 = .ok (.ifCond .eq 20, 3) := by decide +kernel
theorem dX0_leadingOn_46 : decode cX0_leadingOn 46 = .ok (.aload_n 0, 1) := by decide +kernel
theorem dX0_leadingOn_47 : decode cX0_leadingOn 47 = .ok (.iload 7, 2) := by decide +kernel
theorem dX0_leadingOn_49 : decode cX0_leadingOn 49 = .ok (.iload_n 3, 1) := by decide +kernel
theorem dX0_leadingOn_50 : decode cX0_leadingOn 50 = .ok (.invokevirtual 40, 3) := by decide +kernel
theorem dX0_leadingOn_53 : decode cX0_leadingOn 53 = .ok (.ifCond .eq 10, 3) := by decide +kernel
theorem dX0_leadingOn_56 : decode cX0_leadingOn 56 = .ok (.iload_n 3, 1) := by decide +kernel
theorem dX0_leadingOn_57 : decode cX0_leadingOn 57 = .ok (.iconst 1, 1) := by decide +kernel
theorem dX0_leadingOn_58 : decode cX0_leadingOn 58 = .ok (.iload 7, 2) := by decide +kernel
theorem dX0_leadingOn_60 : decode cX0_leadingOn 60 = .ok (.ishl, 1) := by decide +kernel
theorem dX0_leadingOn_61 : decode cX0_leadingOn 61 = .ok (.ior, 1) := by decide +kernel
theorem dX0_leadingOn_62 : decode cX0_leadingOn 62 = .ok (.istore_n 3, 1) := by decide +kernel
theorem dX0_leadingOn_63 : decode cX0_leadingOn 63 = .ok (.iinc 7 1, 3) := by decide +kernel
theorem dX0_leadingOn_66 : decode cX0_leadingOn 66 = .ok (.goto (-40), 3) := by decide +kernel
theorem dX0_leadingOn_69 : decode cX0_leadingOn 69 = .ok (.iload_n 3, 1) := by decide +kernel
theorem dX0_leadingOn_70 : decode cX0_leadingOn 70 = .ok (.iload 6, 2) := by decide +kernel
theorem dX0_leadingOn_72 : decode cX0_leadingOn 72 = .ok (.if_icmp .eq 7, 3) := by decide +kernel
theorem dX0_leadingOn_75 : decode cX0_leadingOn 75 = .ok (.iconst 1, 1) := by decide +kernel
theorem dX0_leadingOn_76 : decode cX0_leadingOn 76 = .ok (.goto 4, 3) := by decide +kernel
theorem dX0_leadingOn_79 : decode cX0_leadingOn 79 = .ok (.iconst 0, 1) := by decide +kernel
theorem dX0_leadingOn_80 : decode cX0_leadingOn 80 = .ok (.istore 4, 2) := by decide +kernel
theorem dX0_leadingOn_82 : decode cX0_leadingOn 82 = .ok (.iinc 5 1, 3) := by decide +kernel
theorem dX0_leadingOn_85 : decode cX0_leadingOn 85 = .ok (.goto (-77), 3) := by decide +kernel
theorem dX0_leadingOn_88 : decode cX0_leadingOn 88 = .ok (.iload_n 3, 1) := by decide +kernel
theorem dX0_leadingOn_89 : decode cX0_leadingOn 89 = .ok (.iload_n 2, 1) := by decide +kernel
theorem dX0_leadingOn_90 : decode cX0_leadingOn 90 = .ok (.iconst (-1), 1) := by decide +kernel
theorem dX0_leadingOn_91 : decode cX0_leadingOn 91 = .ok (.ixor, 1) := by decide +kernel
theorem dX0_leadingOn_92 : decode cX0_leadingOn 92 = .ok (.iand, 1) := by decide +kernel
theorem dX0_leadingOn_93 : decode cX0_leadingOn 93 = .ok (.ireturn, 1) := by decide +kernel
theorem kw_330 : Cond.fieldLink "FootholdWall$Chains" 9 "FootholdWall$Chains" "heads" "[I" ∈ gw := gw_of (tb_of 330 (by decide +kernel)) (by decide +kernel)
theorem kw_331 : Cond.fieldLink "FootholdWall$Chains" 15 "FootholdWall$Chains" "all" "I" ∈ gw := gw_of (tb_of 331 (by decide +kernel)) (by decide +kernel)
theorem kw_332 : Cond.fieldLink "FootholdWall$Chains" 19 "FootholdWall$Chains" "row" "[I" ∈ gw := gw_of (tb_of 332 (by decide +kernel)) (by decide +kernel)
theorem kw_1075 : Cond.methodLink "FootholdWall$Chains" 40 yX5_stepped ∈ gw := gw_of (tb_of 1075 (by decide +kernel)) (by decide +kernel)
theorem kw_1088 : Cond.methodLink "FootholdWall$Chains" 37 yJ6_bitCount_0f7a4 ∈ gw := gw_of (tb_of 1088 (by decide +kernel)) (by decide +kernel)
