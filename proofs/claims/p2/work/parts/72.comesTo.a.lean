theorem dX12_comesTo_0 : decode cX12_comesTo 0 = .ok (.iload_n 1, 1) := by decide +kernel
theorem dX12_comesTo_1 : decode cX12_comesTo 1 = .ok (.aload_n 0, 1) := by decide +kernel
theorem dX12_comesTo_2 : decode cX12_comesTo 2 = .ok (.getfield 13, 3) := by decide +kernel
theorem dX12_comesTo_5 : decode cX12_comesTo 5 = .ok (.iconst 4, 1) := by decide +kernel
theorem dX12_comesTo_6 : decode cX12_comesTo 6 = .ok (.iaload, 1) := by decide +kernel
theorem dX12_comesTo_7 : decode cX12_comesTo 7 = .ok (.iand, 1) := by decide +kernel
theorem dX12_comesTo_8 : decode cX12_comesTo 8 = .ok (.istore_n 2, 1) := by decide +kernel
theorem dX12_comesTo_9 : decode cX12_comesTo 9 = .ok (.iconst 0, 1) := by decide +kernel
theorem dX12_comesTo_10 : decode cX12_comesTo 10 = .ok (.istore_n 3, 1) := by decide +kernel
theorem dX12_comesTo_11 : decode cX12_comesTo 11 = .ok (.iload_n 3, 1) := by decide +kernel
theorem dX12_comesTo_12 : decode cX12_comesTo 12 = .ok (.iload_n 2, 1) := by decide +kernel
theorem dX12_comesTo_13 : decode cX12_comesTo 13 = .ok (.if_icmp .eq 50, 3) := by decide +kernel
theorem dX12_comesTo_16 : decode cX12_comesTo 16 = .ok (.iload_n 2, 1) := by decide +kernel
theorem dX12_comesTo_17 : decode cX12_comesTo 17 = .ok (.istore_n 3, 1) := by decide +kernel
theorem dX12_comesTo_18 : decode cX12_comesTo 18 = .ok (.iconst 0, 1) := by decide +kernel
theorem dX12_comesTo_19 : decode cX12_comesTo 19 = .ok (.istore 4, 2) := by decide +kernel
theorem dX12_comesTo_21 : decode cX12_comesTo 21 = .ok (.iload 4, 2) := by decide +kernel
theorem dX12_comesTo_23 : decode cX12_comesTo 23 = .ok (.aload_n 0, 1) := by decide +kernel
theorem dX12_comesTo_24 : decode cX12_comesTo 24 = .ok (.getfield 13, 3) := by decide +kernel
theorem dX12_comesTo_27 : decode cX12_comesTo 27 = .ok (.iconst 1, 1) := by decide +kernel
theorem dX12_comesTo_28 : decode cX12_comesTo 28 = .ok (.iaload, 1) := by decide +kernel
theorem dX12_comesTo_29 : decode cX12_comesTo 29 = .ok (.if_icmp .ge 31, 3) := by decide +kernel
theorem dX12_comesTo_32 : decode cX12_comesTo 32 = .ok (.iload_n 3, 1) := by decide +kernel
theorem dX12_comesTo_33 : decode cX12_comesTo 33 = .ok (.i2l, 1) := by decide +kernel
theorem dX12_comesTo_34 : decode cX12_comesTo 34 = .ok (.iload 4, 2) := by decide +kernel
theorem dX12_comesTo_36 : decode cX12_comesTo 36 = .ok (.invokestatic 186, 3) := by decide +kernel
theorem dX12_comesTo_39 : decode cX12_comesTo 39 = .ok (.ifCond .eq 15, 3) := by decide +kernel
theorem dX12_comesTo_42 : decode cX12_comesTo 42 = .ok (.iload_n 2, 1) := by decide +kernel
theorem dX12_comesTo_43 : decode cX12_comesTo 43 = .ok (.aload_n 0, 1) := by decide +kernel
theorem dX12_comesTo_44 : decode cX12_comesTo 44 = .ok (.getfield 33, 3) := by decide +kernel
theorem dX12_comesTo_47 : decode cX12_comesTo 47 = .ok (.iload 4, 2) := by decide +kernel
theorem dX12_comesTo_49 : decode cX12_comesTo 49 = .ok (.iaload, 1) := by decide +kernel
theorem dX12_comesTo_50 : decode cX12_comesTo 50 = .ok (.iload_n 1, 1) := by decide +kernel
theorem dX12_comesTo_51 : decode cX12_comesTo 51 = .ok (.iand, 1) := by decide +kernel
theorem dX12_comesTo_52 : decode cX12_comesTo 52 = .ok (.ior, 1) := by decide +kernel
theorem dX12_comesTo_53 : decode cX12_comesTo 53 = .ok (.istore_n 2, 1) := by decide +kernel
theorem dX12_comesTo_54 : decode cX12_comesTo 54 = .ok (.iinc 4 1, 3) := by decide +kernel
theorem dX12_comesTo_57 : decode cX12_comesTo 57 = .ok (.goto (-36), 3) := by decide +kernel
theorem dX12_comesTo_60 : decode cX12_comesTo 60 = .ok (.goto (-49), 3) := by decide +kernel
theorem dX12_comesTo_63 : decode cX12_comesTo 63 = .ok (.iload_n 2, 1) := by decide +kernel
theorem dX12_comesTo_64 : decode cX12_comesTo 64 = .ok (.ireturn, 1) := by decide +kernel
theorem dX12_hasClimb_0 : decode cX12_hasClimb 0 = .ok (.aload_n 0, 1) := by decide +kernel
theorem dX12_hasClimb_1 : decode cX12_hasClimb 1 = .ok (.iload_n 1, 1) := by decide +kernel
theorem dX12_hasClimb_2 : decode cX12_hasClimb 2 = .ok (.invokevirtual 254, 3) := by decide +kernel
theorem dX12_hasClimb_5 : decode cX12_hasClimb 5 = .ok (.aload_n 0, 1) := by decide +kernel
theorem dX12_hasClimb_6 : decode cX12_hasClimb 6 = .ok (.getfield 13, 3) := by decide +kernel
theorem dX12_hasClimb_9 : decode cX12_hasClimb 9 = .ok (.iconst 5, 1) := by decide +kernel
theorem dX12_hasClimb_10 : decode cX12_hasClimb 10 = .ok (.iaload, 1) := by decide +kernel
theorem dX12_hasClimb_11 : decode cX12_hasClimb 11 = .ok (.iand, 1) := by decide +kernel
theorem dX12_hasClimb_12 : decode cX12_hasClimb 12 = .ok (.ifCond .eq 7, 3) := by decide +kernel
theorem dX12_hasClimb_15 : decode cX12_hasClimb 15 = .ok (.iconst 1, 1) := by decide +kernel
theorem dX12_hasClimb_16 : decode cX12_hasClimb 16 = .ok (.goto 4, 3) := by decide +kernel
theorem dX12_hasClimb_19 : decode cX12_hasClimb 19 = .ok (.iconst 0, 1) := by decide +kernel
theorem dX12_hasClimb_20 : decode cX12_hasClimb 20 = .ok (.ireturn, 1) := by decide +kernel
theorem dX12_laysGuide_0 : decode cX12_laysGuide 0 = .ok (.aload_n 0, 1) := by decide +kernel
theorem dX12_laysGuide_1 : decode cX12_laysGuide 1 = .ok (.iload_n 1, 1) := by decide +kernel
theorem dX12_laysGuide_2 : decode cX12_laysGuide 2 = .ok (.aload_n 0, 1) := by decide +kernel
theorem dX12_laysGuide_3 : decode cX12_laysGuide 3 = .ok (.getfield 13, 3) := by decide +kernel
theorem dX12_laysGuide_6 : decode cX12_laysGuide 6 = .ok (.bipush 49, 2) := by decide +kernel
theorem dX12_laysGuide_8 : decode cX12_laysGuide 8 = .ok (.iload_n 1, 1) := by decide +kernel
theorem dX12_laysGuide_9 : decode cX12_laysGuide 9 = .ok (.iadd, 1) := by decide +kernel
theorem dX12_laysGuide_10 : decode cX12_laysGuide 10 = .ok (.iaload, 1) := by decide +kernel
theorem dX12_laysGuide_11 : decode cX12_laysGuide 11 = .ok (.invokevirtual 250, 3) := by decide +kernel
theorem dX12_laysGuide_14 : decode cX12_laysGuide 14 = .ok (.return_, 1) := by decide +kernel
theorem dX12_laysSteps_0 : decode cX12_laysSteps 0 = .ok (.aload_n 0, 1) := by decide +kernel
theorem dX12_laysSteps_1 : decode cX12_laysSteps 1 = .ok (.iload_n 2, 1) := by decide +kernel
theorem dX12_laysSteps_2 : decode cX12_laysSteps 2 = .ok (.putfield 231, 3) := by decide +kernel
theorem dX12_laysSteps_5 : decode cX12_laysSteps 5 = .ok (.iconst 0, 1) := by decide +kernel
theorem dX12_laysSteps_6 : decode cX12_laysSteps 6 = .ok (.istore_n 3, 1) := by decide +kernel
theorem dX12_laysSteps_7 : decode cX12_laysSteps 7 = .ok (.iload_n 3, 1) := by decide +kernel
theorem dX12_laysSteps_8 : decode cX12_laysSteps 8 = .ok (.aload_n 0, 1) := by decide +kernel
theorem dX12_laysSteps_9 : decode cX12_laysSteps 9 = .ok (.getfield 13, 3) := by decide +kernel
theorem dX12_laysSteps_12 : decode cX12_laysSteps 12 = .ok (.iconst 1, 1) := by decide +kernel
theorem dX12_laysSteps_13 : decode cX12_laysSteps 13 = .ok (.iaload, 1) := by decide +kernel
theorem dX12_laysSteps_14 : decode cX12_laysSteps 14 = .ok (.if_icmp .ge 80, 3) := by decide +kernel
theorem dX12_laysSteps_17 : decode cX12_laysSteps 17 = .ok (.aload_n 0, 1) := by decide +kernel
theorem dX12_laysSteps_18 : decode cX12_laysSteps 18 = .ok (.getfield 33, 3) := by decide +kernel
theorem dX12_laysSteps_21 : decode cX12_laysSteps 21 = .ok (.iload_n 3, 1) := by decide +kernel
theorem dX12_laysSteps_22 : decode cX12_laysSteps 22 = .ok (.iconst 0, 1) := by decide +kernel
theorem dX12_laysSteps_23 : decode cX12_laysSteps 23 = .ok (.iastore, 1) := by decide +kernel
theorem dX12_laysSteps_24 : decode cX12_laysSteps 24 = .ok (.iconst 0, 1) := by decide +kernel
theorem dX12_laysSteps_25 : decode cX12_laysSteps 25 = .ok (.istore 4, 2) := by decide +kernel
theorem dX12_laysSteps_27 : decode cX12_laysSteps 27 = .ok (.iload 4, 2) := by decide +kernel
theorem dX12_laysSteps_29 : decode cX12_laysSteps 29 = .ok (.aload_n 0, 1) := by decide +kernel
theorem dX12_laysSteps_30 : decode cX12_laysSteps 30 = .ok (.getfield 13, 3) := by decide +kernel
theorem dX12_laysSteps_33 : decode cX12_laysSteps 33 = .ok (.iconst 1, 1) := by decide +kernel
theorem dX12_laysSteps_34 : decode cX12_laysSteps 34 = .ok (.iaload, 1) := by decide +kernel
theorem dX12_laysSteps_35 : decode cX12_laysSteps 35 = .ok (.if_icmp .ge 53, 3) := by decide +kernel
theorem dX12_laysSteps_38 : decode cX12_laysSteps 38 = .ok (.aload_n 0, 1) := by decide +kernel
theorem dX12_laysSteps_39 : decode cX12_laysSteps 39 = .ok (.getfield 13, 3) := by decide +kernel
theorem dX12_laysSteps_42 : decode cX12_laysSteps 42 = .ok (.iconst 5, 1) := by decide +kernel
theorem dX12_laysSteps_43 : decode cX12_laysSteps 43 = .ok (.iaload, 1) := by decide +kernel
theorem dX12_laysSteps_44 : decode cX12_laysSteps 44 = .ok (.i2l, 1) := by decide +kernel
theorem dX12_laysSteps_45 : decode cX12_laysSteps 45 = .ok (.iload_n 3, 1) := by decide +kernel
theorem dX12_laysSteps_46 : decode cX12_laysSteps 46 = .ok (.invokestatic 186, 3) := by decide +kernel
theorem dX12_laysSteps_49 : decode cX12_laysSteps 49 = .ok (.ifCond .ne 39, 3) := by decide +kernel
theorem dX12_laysSteps_52 : decode cX12_laysSteps 52 = .ok (.iload 4, 2) := by decide +kernel
theorem dX12_laysSteps_54 : decode cX12_laysSteps 54 = .ok (.iload_n 3, 1) := by decide +kernel
theorem dX12_laysSteps_55 : decode cX12_laysSteps 55 = .ok (.if_icmp .eq 27, 3) := by decide +kernel
theorem dX12_laysSteps_58 : decode cX12_laysSteps 58 = .ok (.aload_n 0, 1) := by decide +kernel
theorem dX12_laysSteps_59 : decode cX12_laysSteps 59 = .ok (.iload_n 1, 1) := by decide +kernel
theorem dX12_laysSteps_60 : decode cX12_laysSteps 60 = .ok (.iload_n 3, 1) := by decide +kernel
theorem dX12_laysSteps_61 : decode cX12_laysSteps 61 = .ok (.iload 4, 2) := by decide +kernel
theorem dX12_laysSteps_63 : decode cX12_laysSteps 63 = .ok (.invokevirtual 246, 3) := by decide +kernel
theorem dX12_laysSteps_66 : decode cX12_laysSteps 66 = .ok (.ifCond .eq 16, 3) := by decide +kernel
theorem dX12_laysSteps_69 : decode cX12_laysSteps 69 = .ok (.aload_n 0, 1) := by decide +kernel
theorem dX12_laysSteps_70 : decode cX12_laysSteps 70 = .ok (.getfield 33, 3) := by decide +kernel
theorem dX12_laysSteps_73 : decode cX12_laysSteps 73 = .ok (.iload_n 3, 1) := by decide +kernel
theorem dX12_laysSteps_74 : decode cX12_laysSteps 74 = .ok (.dup2, 1) := by decide +kernel
theorem dX12_laysSteps_75 : decode cX12_laysSteps 75 = .ok (.iaload, 1) := by decide +kernel
theorem dX12_laysSteps_76 : decode cX12_laysSteps 76 = .ok (.iconst 1, 1) := by decide +kernel
theorem dX12_laysSteps_77 : decode cX12_laysSteps 77 = .ok (.iload 4, 2) := by decide +kernel
theorem dX12_laysSteps_79 : decode cX12_laysSteps 79 = .ok (.ishl, 1) := by decide +kernel
theorem dX12_laysSteps_80 : decode cX12_laysSteps 80 = .ok (.ior, 1) := by decide +kernel
theorem dX12_laysSteps_81 : decode cX12_laysSteps 81 = .ok (.iastore, 1) := by decide +kernel
theorem dX12_laysSteps_82 : decode cX12_laysSteps 82 = .ok (.iinc 4 1, 3) := by decide +kernel
theorem dX12_laysSteps_85 : decode cX12_laysSteps 85 = .ok (.goto (-58), 3) := by decide +kernel
theorem dX12_laysSteps_88 : decode cX12_laysSteps 88 = .ok (.iinc 3 1, 3) := by decide +kernel
theorem dX12_laysSteps_91 : decode cX12_laysSteps 91 = .ok (.goto (-84), 3) := by decide +kernel
theorem dX12_laysSteps_94 : decode cX12_laysSteps 94 = .ok (.return_, 1) := by decide +kernel
theorem dX12_reach_0 : decode cX12_reach 0 = .ok (.aload_n 0, 1) := by decide +kernel
theorem dX12_reach_1 : decode cX12_reach 1 = .ok (.iconst 0, 1) := by decide +kernel
theorem dX12_reach_2 : decode cX12_reach 2 = .ok (.putfield 1, 3) := by decide +kernel
theorem dX12_reach_5 : decode cX12_reach 5 = .ok (.aload_n 0, 1) := by decide +kernel
theorem dX12_reach_6 : decode cX12_reach 6 = .ok (.iload_n 1, 1) := by decide +kernel
theorem dX12_reach_7 : decode cX12_reach 7 = .ok (.i2l, 1) := by decide +kernel
theorem dX12_reach_8 : decode cX12_reach 8 = .ok (.invokevirtual 222, 3) := by decide +kernel
theorem dX12_reach_11 : decode cX12_reach 11 = .ok (.ifCond .ne 6, 3) := by decide +kernel
theorem dX12_reach_14 : decode cX12_reach 14 = .ok (.bipush (-2), 2) := by decide +kernel
theorem dX12_reach_16 : decode cX12_reach 16 = .ok (.ireturn, 1) := by decide +kernel
theorem dX12_reach_17 : decode cX12_reach 17 = .ok (.aload_n 0, 1) := by decide +kernel
theorem dX12_reach_18 : decode cX12_reach 18 = .ok (.iload_n 1, 1) := by decide +kernel
theorem dX12_reach_19 : decode cX12_reach 19 = .ok (.invokevirtual 257, 3) := by decide +kernel
theorem dX12_reach_22 : decode cX12_reach 22 = .ok (.aload_n 0, 1) := by decide +kernel
theorem dX12_reach_23 : decode cX12_reach 23 = .ok (.aload_n 0, 1) := by decide +kernel
theorem dX12_reach_24 : decode cX12_reach 24 = .ok (.invokevirtual 260, 3) := by decide +kernel
theorem dX12_reach_27 : decode cX12_reach 27 = .ok (.invokevirtual 254, 3) := by decide +kernel
theorem dX12_reach_30 : decode cX12_reach 30 = .ok (.ireturn, 1) := by decide +kernel
theorem dX12_steps_0 : decode cX12_steps 0 = .ok (.aload_n 0, 1) := by decide +kernel
theorem dX12_steps_1 : decode cX12_steps 1 = .ok (.iconst 0, 1) := by decide +kernel
theorem dX12_steps_2 : decode cX12_steps 2 = .ok (.putfield 1, 3) := by decide +kernel
theorem dX12_steps_5 : decode cX12_steps 5 = .ok (.aload_n 0, 1) := by decide +kernel
theorem dX12_steps_6 : decode cX12_steps 6 = .ok (.iload_n 1, 1) := by decide +kernel
theorem dX12_steps_7 : decode cX12_steps 7 = .ok (.i2l, 1) := by decide +kernel
theorem dX12_steps_8 : decode cX12_steps 8 = .ok (.invokevirtual 222, 3) := by decide +kernel
theorem dX12_steps_11 : decode cX12_steps 11 = .ok (.ifCond .eq 26, 3) := by decide +kernel
theorem dX12_steps_14 : decode cX12_steps 14 = .ok (.aload_n 0, 1) := by decide +kernel
theorem dX12_steps_15 : decode cX12_steps 15 = .ok (.iload_n 2, 1) := by decide +kernel
theorem dX12_steps_16 : decode cX12_steps 16 = .ok (.i2l, 1) := by decide +kernel
theorem dX12_steps_17 : decode cX12_steps 17 = .ok (.invokevirtual 218, 3) := by decide +kernel
theorem dX12_steps_20 : decode cX12_steps 20 = .ok (.ifCond .eq 17, 3) := by decide +kernel
theorem dX12_steps_23 : decode cX12_steps 23 = .ok (.aload_n 0, 1) := by decide +kernel
theorem dX12_steps_24 : decode cX12_steps 24 = .ok (.iload_n 3, 1) := by decide +kernel
theorem dX12_steps_25 : decode cX12_steps 25 = .ok (.i2l, 1) := by decide +kernel
theorem dX12_steps_26 : decode cX12_steps 26 = .ok (.invokevirtual 218, 3) := by decide +kernel
theorem dX12_steps_29 : decode cX12_steps 29 = .ok (.ifCond .eq 8, 3) := by decide +kernel
theorem dX12_steps_32 : decode cX12_steps 32 = .ok (.iload_n 2, 1) := by decide +kernel
theorem dX12_steps_33 : decode cX12_steps 33 = .ok (.iload_n 3, 1) := by decide +kernel
theorem dX12_steps_34 : decode cX12_steps 34 = .ok (.if_icmp .ne 6, 3) := by decide +kernel
theorem dX12_steps_37 : decode cX12_steps 37 = .ok (.bipush (-2), 2) := by decide +kernel
theorem dX12_steps_39 : decode cX12_steps 39 = .ok (.ireturn, 1) := by decide +kernel
theorem dX12_steps_40 : decode cX12_steps 40 = .ok (.aload_n 0, 1) := by decide +kernel
theorem dX12_steps_41 : decode cX12_steps 41 = .ok (.aload_n 0, 1) := by decide +kernel
theorem dX12_steps_42 : decode cX12_steps 42 = .ok (.getfield 13, 3) := by decide +kernel
theorem dX12_steps_45 : decode cX12_steps 45 = .ok (.bipush 49, 2) := by decide +kernel
theorem dX12_steps_47 : decode cX12_steps 47 = .ok (.iload_n 1, 1) := by decide +kernel
theorem dX12_steps_48 : decode cX12_steps 48 = .ok (.iadd, 1) := by decide +kernel
theorem dX12_steps_49 : decode cX12_steps 49 = .ok (.iaload, 1) := by decide +kernel
theorem dX12_steps_50 : decode cX12_steps 50 = .ok (.putfield 231, 3) := by decide +kernel
theorem dX12_steps_53 : decode cX12_steps 53 = .ok (.aload_n 0, 1) := by decide +kernel
theorem dX12_steps_54 : decode cX12_steps 54 = .ok (.iload_n 1, 1) := by decide +kernel
theorem dX12_steps_55 : decode cX12_steps 55 = .ok (.iload_n 2, 1) := by decide +kernel
theorem dX12_steps_56 : decode cX12_steps 56 = .ok (.iload_n 3, 1) := by decide +kernel
theorem dX12_steps_57 : decode cX12_steps 57 = .ok (.invokevirtual 246, 3) := by decide +kernel
theorem dX12_steps_60 : decode cX12_steps 60 = .ok (.ifCond .eq 7, 3) := by decide +kernel
theorem dX12_steps_63 : decode cX12_steps 63 = .ok (.iconst 1, 1) := by decide +kernel
theorem dX12_steps_64 : decode cX12_steps 64 = .ok (.goto 4, 3) := by decide +kernel
theorem dX12_steps_67 : decode cX12_steps 67 = .ok (.iconst 0, 1) := by decide +kernel
theorem dX12_steps_68 : decode cX12_steps 68 = .ok (.ireturn, 1) := by decide +kernel
theorem kw_1240 : Cond.fieldLink "FootholdWallModel" 33 "FootholdWallModel" "onTo" "[I" ∈ gw := gw_of (tb_of 1240 (by decide +kernel)) (by decide +kernel)
theorem kw_1482 : Cond.methodLink "FootholdWallModel" 246 yX12_mayStep ∈ gw := gw_of (tb_of 1482 (by decide +kernel)) (by decide +kernel)
theorem kw_1484 : Cond.instanceMethod yX12_mayStep ∈ gw := gw_of (tb_of 1484 (by decide +kernel)) (by decide +kernel)
theorem kw_1485 : Cond.code yX12_mayStep cX12_mayStep 7 (some (.boolean)) ∈ gw := gw_of (tb_of 1485 (by decide +kernel)) (by decide +kernel)
theorem kw_1502 : Cond.methodLink "FootholdWallModel" 257 yX12_laysGuide ∈ gw := gw_of (tb_of 1502 (by decide +kernel)) (by decide +kernel)
theorem kw_1504 : Cond.instanceMethod yX12_laysGuide ∈ gw := gw_of (tb_of 1504 (by decide +kernel)) (by decide +kernel)
theorem kw_1505 : Cond.code yX12_laysGuide cX12_laysGuide 2 none ∈ gw := gw_of (tb_of 1505 (by decide +kernel)) (by decide +kernel)
theorem kw_1506 : Cond.methodLink "FootholdWallModel" 250 yX12_laysSteps ∈ gw := gw_of (tb_of 1506 (by decide +kernel)) (by decide +kernel)
theorem kw_1508 : Cond.instanceMethod yX12_laysSteps ∈ gw := gw_of (tb_of 1508 (by decide +kernel)) (by decide +kernel)
theorem kw_1509 : Cond.code yX12_laysSteps cX12_laysSteps 5 none ∈ gw := gw_of (tb_of 1509 (by decide +kernel)) (by decide +kernel)
theorem kw_1514 : Cond.methodLink "FootholdWallModel" 254 yX12_comesTo ∈ gw := gw_of (tb_of 1514 (by decide +kernel)) (by decide +kernel)
theorem kw_1516 : Cond.instanceMethod yX12_comesTo ∈ gw := gw_of (tb_of 1516 (by decide +kernel)) (by decide +kernel)
theorem kw_1517 : Cond.code yX12_comesTo cX12_comesTo 5 (some (.int)) ∈ gw := gw_of (tb_of 1517 (by decide +kernel)) (by decide +kernel)
theorem ks_69 : Cond.selects RX12 yX12_mayStep yX12_mayStep ∈ gw := gw_of (pv_of 69 (by decide +kernel)) (by decide +kernel)
theorem ks_71 : Cond.selects RX12 yX12_laysGuide yX12_laysGuide ∈ gw := gw_of (pv_of 71 (by decide +kernel)) (by decide +kernel)
theorem ks_72 : Cond.selects RX12 yX12_laysSteps yX12_laysSteps ∈ gw := gw_of (pv_of 72 (by decide +kernel)) (by decide +kernel)
theorem ks_74 : Cond.selects RX12 yX12_comesTo yX12_comesTo ∈ gw := gw_of (pv_of 74 (by decide +kernel)) (by decide +kernel)
