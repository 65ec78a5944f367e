theorem dX11_idle_0 : decode cX11_idle 0 = .ok (.aload_n 0, 1) := by decide +kernel
theorem dX11_idle_1 : decode cX11_idle 1 = .ok (.iload_n 1, 1) := by decide +kernel
theorem dX11_idle_2 : decode cX11_idle 2 = .ok (.invokevirtual 186, 3) := by decide +kernel
theorem dX11_idle_5 : decode cX11_idle 5 = .ok (.ifCond .ne 6, 3) := by decide +kernel
theorem dX11_idle_8 : decode cX11_idle 8 = .ok (.bipush (-2), 2) := by decide +kernel
theorem dX11_idle_10 : decode cX11_idle 10 = .ok (.ireturn, 1) := by decide +kernel
theorem dX11_idle_11 : decode cX11_idle 11 = .ok (.aload_n 0, 1) := by decide +kernel
theorem dX11_idle_12 : decode cX11_idle 12 = .ok (.invokevirtual 206, 3) := by decide +kernel
theorem dX11_idle_15 : decode cX11_idle 15 = .ok (.istore_n 2, 1) := by decide +kernel
theorem dX11_idle_16 : decode cX11_idle 16 = .ok (.iload_n 2, 1) := by decide +kernel
theorem dX11_idle_17 : decode cX11_idle 17 = .ok (.aload_n 0, 1) := by decide +kernel
theorem dX11_idle_18 : decode cX11_idle 18 = .ok (.getfield 96, 3) := by decide +kernel
theorem dX11_idle_21 : decode cX11_idle 21 = .ok (.aload_n 0, 1) := by decide +kernel
theorem dX11_idle_22 : decode cX11_idle 22 = .ok (.iload_n 1, 1) := by decide +kernel
theorem dX11_idle_23 : decode cX11_idle 23 = .ok (.invokevirtual 202, 3) := by decide +kernel
theorem dX11_idle_26 : decode cX11_idle 26 = .ok (.iload_n 2, 1) := by decide +kernel
theorem dX11_idle_27 : decode cX11_idle 27 = .ok (.invokevirtual 335, 3) := by decide +kernel
theorem dX11_idle_30 : decode cX11_idle 30 = .ok (.iconst (-1), 1) := by decide +kernel
theorem dX11_idle_31 : decode cX11_idle 31 = .ok (.ixor, 1) := by decide +kernel
theorem dX11_idle_32 : decode cX11_idle 32 = .ok (.iand, 1) := by decide +kernel
theorem dX11_idle_33 : decode cX11_idle 33 = .ok (.ireturn, 1) := by decide +kernel
theorem dX11_order_0 : decode cX11_order 0 = .ok (.aload_n 0, 1) := by decide +kernel
theorem dX11_order_1 : decode cX11_order 1 = .ok (.iload_n 1, 1) := by decide +kernel
theorem dX11_order_2 : decode cX11_order 2 = .ok (.invokevirtual 186, 3) := by decide +kernel
theorem dX11_order_5 : decode cX11_order 5 = .ok (.ifCond .eq 12, 3) := by decide +kernel
theorem dX11_order_8 : decode cX11_order 8 = .ok (.iload_n 3, 1) := by decide +kernel
theorem dX11_order_9 : decode cX11_order 9 = .ok (.bipush 14, 2) := by decide +kernel
theorem dX11_order_11 : decode cX11_order 11 = .ok (.invokestatic 299, 3) := by decide +kernel
theorem dX11_order_14 : decode cX11_order 14 = .ok (.ifCond .ne 6, 3) := by decide +kernel
theorem dX11_order_17 : decode cX11_order 17 = .ok (.bipush (-2), 2) := by decide +kernel
theorem dX11_order_19 : decode cX11_order 19 = .ok (.ireturn, 1) := by decide +kernel
theorem dX11_order_20 : decode cX11_order 20 = .ok (.aload_n 0, 1) := by decide +kernel
theorem dX11_order_21 : decode cX11_order 21 = .ok (.aload_n 0, 1) := by decide +kernel
theorem dX11_order_22 : decode cX11_order 22 = .ok (.getfield 36, 3) := by decide +kernel
theorem dX11_order_25 : decode cX11_order 25 = .ok (.getfield 161, 3) := by decide +kernel
theorem dX11_order_28 : decode cX11_order 28 = .ok (.invokevirtual 164, 3) := by decide +kernel
theorem dX11_order_31 : decode cX11_order 31 = .ok (.istore 4, 2) := by decide +kernel
theorem dX11_order_33 : decode cX11_order 33 = .ok (.iload_n 2, 1) := by decide +kernel
theorem dX11_order_34 : decode cX11_order 34 = .ok (.iload 4, 2) := by decide +kernel
theorem dX11_order_36 : decode cX11_order 36 = .ok (.aload_n 0, 1) := by decide +kernel
theorem dX11_order_37 : decode cX11_order 37 = .ok (.getfield 29, 3) := by decide +kernel
theorem dX11_order_40 : decode cX11_order 40 = .ok (.invokevirtual 265, 3) := by decide +kernel
theorem dX11_order_43 : decode cX11_order 43 = .ok (.iand, 1) := by decide +kernel
theorem dX11_order_44 : decode cX11_order 44 = .ok (.iconst (-1), 1) := by decide +kernel
theorem dX11_order_45 : decode cX11_order 45 = .ok (.ixor, 1) := by decide +kernel
theorem dX11_order_46 : decode cX11_order 46 = .ok (.iand, 1) := by decide +kernel
theorem dX11_order_47 : decode cX11_order 47 = .ok (.ifCond .eq 6, 3) := by decide +kernel
theorem dX11_order_50 : decode cX11_order 50 = .ok (.bipush (-3), 2) := by decide +kernel
theorem dX11_order_52 : decode cX11_order 52 = .ok (.ireturn, 1) := by decide +kernel
theorem dX11_order_53 : decode cX11_order 53 = .ok (.aload_n 0, 1) := by decide +kernel
theorem dX11_order_54 : decode cX11_order 54 = .ok (.getfield 96, 3) := by decide +kernel
theorem dX11_order_57 : decode cX11_order 57 = .ok (.getfield 345, 3) := by decide +kernel
theorem dX11_order_60 : decode cX11_order 60 = .ok (.aload_n 0, 1) := by decide +kernel
theorem dX11_order_61 : decode cX11_order 61 = .ok (.getfield 96, 3) := by decide +kernel
theorem dX11_order_64 : decode cX11_order 64 = .ok (.aload_n 0, 1) := by decide +kernel
theorem dX11_order_65 : decode cX11_order 65 = .ok (.iload_n 1, 1) := by decide +kernel
theorem dX11_order_66 : decode cX11_order 66 = .ok (.invokevirtual 202, 3) := by decide +kernel
theorem dX11_order_69 : decode cX11_order 69 = .ok (.iload_n 2, 1) := by decide +kernel
theorem dX11_order_70 : decode cX11_order 70 = .ok (.iload 4, 2) := by decide +kernel
theorem dX11_order_72 : decode cX11_order 72 = .ok (.invokevirtual 346, 3) := by decide +kernel
theorem dX11_order_75 : decode cX11_order 75 = .ok (.iload_n 3, 1) := by decide +kernel
theorem dX11_order_76 : decode cX11_order 76 = .ok (.invokestatic 306, 3) := by decide +kernel
theorem dX11_order_79 : decode cX11_order 79 = .ok (.ireturn, 1) := by decide +kernel
theorem dX11_whose_0 : decode cX11_whose 0 = .ok (.aload_n 0, 1) := by decide +kernel
theorem dX11_whose_1 : decode cX11_whose 1 = .ok (.aload_n 0, 1) := by decide +kernel
theorem dX11_whose_2 : decode cX11_whose 2 = .ok (.getfield 36, 3) := by decide +kernel
theorem dX11_whose_5 : decode cX11_whose 5 = .ok (.getfield 161, 3) := by decide +kernel
theorem dX11_whose_8 : decode cX11_whose 8 = .ok (.invokevirtual 164, 3) := by decide +kernel
theorem dX11_whose_11 : decode cX11_whose 11 = .ok (.istore_n 2, 1) := by decide +kernel
theorem dX11_whose_12 : decode cX11_whose 12 = .ok (.iload_n 1, 1) := by decide +kernel
theorem dX11_whose_13 : decode cX11_whose 13 = .ok (.iload_n 2, 1) := by decide +kernel
theorem dX11_whose_14 : decode cX11_whose 14 = .ok (.aload_n 0, 1) := by decide +kernel
theorem dX11_whose_15 : decode cX11_whose 15 = .ok (.getfield 29, 3) := by decide +kernel
theorem dX11_whose_18 : decode cX11_whose 18 = .ok (.invokevirtual 265, 3) := by decide +kernel
theorem dX11_whose_21 : decode cX11_whose 21 = .ok (.iand, 1) := by decide +kernel
theorem dX11_whose_22 : decode cX11_whose 22 = .ok (.iconst (-1), 1) := by decide +kernel
theorem dX11_whose_23 : decode cX11_whose 23 = .ok (.ixor, 1) := by decide +kernel
theorem dX11_whose_24 : decode cX11_whose 24 = .ok (.iand, 1) := by decide +kernel
theorem dX11_whose_25 : decode cX11_whose 25 = .ok (.ifCond .eq 6, 3) := by decide +kernel
theorem dX11_whose_28 : decode cX11_whose 28 = .ok (.bipush (-3), 2) := by decide +kernel
theorem dX11_whose_30 : decode cX11_whose 30 = .ok (.ireturn, 1) := by decide +kernel
theorem dX11_whose_31 : decode cX11_whose 31 = .ok (.iconst 0, 1) := by decide +kernel
theorem dX11_whose_32 : decode cX11_whose 32 = .ok (.istore_n 3, 1) := by decide +kernel
theorem dX11_whose_33 : decode cX11_whose 33 = .ok (.iconst 0, 1) := by decide +kernel
theorem dX11_whose_34 : decode cX11_whose 34 = .ok (.istore 4, 2) := by decide +kernel
theorem dX11_whose_36 : decode cX11_whose 36 = .ok (.iload 4, 2) := by decide +kernel
theorem dX11_whose_38 : decode cX11_whose 38 = .ok (.aload_n 0, 1) := by decide +kernel
theorem dX11_whose_39 : decode cX11_whose 39 = .ok (.getfield 29, 3) := by decide +kernel
theorem dX11_whose_42 : decode cX11_whose 42 = .ok (.getfield 216, 3) := by decide +kernel
theorem dX11_whose_45 : decode cX11_whose 45 = .ok (.if_icmp .ge 35, 3) := by decide +kernel
theorem dX11_whose_48 : decode cX11_whose 48 = .ok (.aload_n 0, 1) := by decide +kernel
theorem dX11_whose_49 : decode cX11_whose 49 = .ok (.getfield 96, 3) := by decide +kernel
theorem dX11_whose_52 : decode cX11_whose 52 = .ok (.aload_n 0, 1) := by decide +kernel
theorem dX11_whose_53 : decode cX11_whose 53 = .ok (.iload 4, 2) := by decide +kernel
theorem dX11_whose_55 : decode cX11_whose 55 = .ok (.invokevirtual 202, 3) := by decide +kernel
theorem dX11_whose_58 : decode cX11_whose 58 = .ok (.iload_n 1, 1) := by decide +kernel
theorem dX11_whose_59 : decode cX11_whose 59 = .ok (.iload_n 2, 1) := by decide +kernel
theorem dX11_whose_60 : decode cX11_whose 60 = .ok (.invokevirtual 344, 3) := by decide +kernel
theorem dX11_whose_63 : decode cX11_whose 63 = .ok (.iconst (-1), 1) := by decide +kernel
theorem dX11_whose_64 : decode cX11_whose 64 = .ok (.if_icmp .eq 10, 3) := by decide +kernel
theorem dX11_whose_67 : decode cX11_whose 67 = .ok (.iload_n 3, 1) := by decide +kernel
theorem dX11_whose_68 : decode cX11_whose 68 = .ok (.iconst 1, 1) := by decide +kernel
theorem dX11_whose_69 : decode cX11_whose 69 = .ok (.iload 4, 2) := by decide +kernel
theorem dX11_whose_71 : decode cX11_whose 71 = .ok (.ishl, 1) := by decide +kernel
theorem dX11_whose_72 : decode cX11_whose 72 = .ok (.ior, 1) := by decide +kernel
theorem dX11_whose_73 : decode cX11_whose 73 = .ok (.istore_n 3, 1) := by decide +kernel
theorem dX11_whose_74 : decode cX11_whose 74 = .ok (.iinc 4 1, 3) := by decide +kernel
theorem dX11_whose_77 : decode cX11_whose 77 = .ok (.goto (-41), 3) := by decide +kernel
theorem dX11_whose_80 : decode cX11_whose 80 = .ok (.iload_n 3, 1) := by decide +kernel
theorem dX11_whose_81 : decode cX11_whose 81 = .ok (.ireturn, 1) := by decide +kernel
theorem kw_334 : Cond.fieldLink "FootholdWall" 345 "FootholdWall$Chains" "path" "[I" ∈ gw := gw_of (tb_of 334 (by decide +kernel)) (by decide +kernel)
theorem kw_376 : Cond.fieldLink "FootholdWall" 96 "FootholdWall" "chains" "LFootholdWall$Chains;" ∈ gw := gw_of (tb_of 376 (by decide +kernel)) (by decide +kernel)
theorem kw_1067 : Cond.methodLink "FootholdWall" 335 yX0_inClimbs ∈ gw := gw_of (tb_of 1067 (by decide +kernel)) (by decide +kernel)
theorem kw_1068 : Cond.instanceMethod yX0_inClimbs ∈ gw := gw_of (tb_of 1068 (by decide +kernel)) (by decide +kernel)
theorem kw_1069 : Cond.selects "FootholdWall$Chains" yX0_inClimbs yX0_inClimbs ∈ gw := gw_of (tb_of 1069 (by decide +kernel)) (by decide +kernel)
theorem kw_1070 : Cond.code yX0_inClimbs cX0_inClimbs 10 (some (.int)) ∈ gw := gw_of (tb_of 1070 (by decide +kernel)) (by decide +kernel)
theorem kw_1127 : Cond.methodLink "FootholdWall" 344 yX0_fewest ∈ gw := gw_of (tb_of 1127 (by decide +kernel)) (by decide +kernel)
theorem kw_1136 : Cond.methodLink "FootholdWall" 346 yX0_first ∈ gw := gw_of (tb_of 1136 (by decide +kernel)) (by decide +kernel)
theorem kw_1137 : Cond.instanceMethod yX0_first ∈ gw := gw_of (tb_of 1137 (by decide +kernel)) (by decide +kernel)
theorem kw_1138 : Cond.selects "FootholdWall$Chains" yX0_first yX0_first ∈ gw := gw_of (tb_of 1138 (by decide +kernel)) (by decide +kernel)
theorem kw_1139 : Cond.code yX0_first cX0_first 12 (some (.int)) ∈ gw := gw_of (tb_of 1139 (by decide +kernel)) (by decide +kernel)
