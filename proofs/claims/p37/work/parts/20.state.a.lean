theorem dX6_breakDown_0 : decode cX6_breakDown 0 = .ok (.aload_n 0, 1) := by decide +kernel
theorem dX6_breakDown_1 : decode cX6_breakDown 1 = .ok (.getfield 9, 3) := by decide +kernel
theorem dX6_breakDown_4 : decode cX6_breakDown 4 = .ok (.iload_n 1, 1) := by decide +kernel
theorem dX6_breakDown_5 : decode cX6_breakDown 5 = .ok (.ishr, 1) := by decide +kernel
theorem dX6_breakDown_6 : decode cX6_breakDown 6 = .ok (.iconst 1, 1) := by decide +kernel
theorem dX6_breakDown_7 : decode cX6_breakDown 7 = .ok (.iand, 1) := by decide +kernel
theorem dX6_breakDown_8 : decode cX6_breakDown 8 = .ok (.istore_n 2, 1) := by decide +kernel
theorem dX6_breakDown_9 : decode cX6_breakDown 9 = .ok (.aload_n 0, 1) := by decide +kernel
theorem dX6_breakDown_10 : decode cX6_breakDown 10 = .ok (.dup, 1) := by decide +kernel
theorem dX6_breakDown_11 : decode cX6_breakDown 11 = .ok (.getfield 9, 3) := by decide +kernel
theorem dX6_breakDown_14 : decode cX6_breakDown 14 = .ok (.iconst 1, 1) := by decide +kernel
theorem dX6_breakDown_15 : decode cX6_breakDown 15 = .ok (.iload_n 1, 1) := by decide +kernel
theorem dX6_breakDown_16 : decode cX6_breakDown 16 = .ok (.ishl, 1) := by decide +kernel
theorem dX6_breakDown_17 : decode cX6_breakDown 17 = .ok (.iconst (-1), 1) := by decide +kernel
theorem dX6_breakDown_18 : decode cX6_breakDown 18 = .ok (.ixor, 1) := by decide +kernel
theorem dX6_breakDown_19 : decode cX6_breakDown 19 = .ok (.iand, 1) := by decide +kernel
theorem dX6_breakDown_20 : decode cX6_breakDown 20 = .ok (.putfield 9, 3) := by decide +kernel
theorem dX6_breakDown_23 : decode cX6_breakDown 23 = .ok (.aload_n 0, 1) := by decide +kernel
theorem dX6_breakDown_24 : decode cX6_breakDown 24 = .ok (.dup, 1) := by decide +kernel
theorem dX6_breakDown_25 : decode cX6_breakDown 25 = .ok (.getfield 15, 3) := by decide +kernel
theorem dX6_breakDown_28 : decode cX6_breakDown 28 = .ok (.iconst 1, 1) := by decide +kernel
theorem dX6_breakDown_29 : decode cX6_breakDown 29 = .ok (.iload_n 1, 1) := by decide +kernel
theorem dX6_breakDown_30 : decode cX6_breakDown 30 = .ok (.ishl, 1) := by decide +kernel
theorem dX6_breakDown_31 : decode cX6_breakDown 31 = .ok (.ior, 1) := by decide +kernel
theorem dX6_breakDown_32 : decode cX6_breakDown 32 = .ok (.putfield 15, 3) := by decide +kernel
theorem dX6_breakDown_35 : decode cX6_breakDown 35 = .ok (.iload_n 2, 1) := by decide +kernel
theorem dX6_breakDown_36 : decode cX6_breakDown 36 = .ok (.ireturn, 1) := by decide +kernel
theorem dX6_forget_0 : decode cX6_forget 0 = .ok (.aload_n 0, 1) := by decide +kernel
theorem dX6_forget_1 : decode cX6_forget 1 = .ok (.iconst 0, 1) := by decide +kernel
theorem dX6_forget_2 : decode cX6_forget 2 = .ok (.putfield 9, 3) := by decide +kernel
theorem dX6_forget_5 : decode cX6_forget 5 = .ok (.aload_n 0, 1) := by decide +kernel
theorem dX6_forget_6 : decode cX6_forget 6 = .ok (.iconst 0, 1) := by decide +kernel
theorem dX6_forget_7 : decode cX6_forget 7 = .ok (.putfield 15, 3) := by decide +kernel
theorem dX6_forget_10 : decode cX6_forget 10 = .ok (.aload_n 0, 1) := by decide +kernel
theorem dX6_forget_11 : decode cX6_forget 11 = .ok (.iconst 0, 1) := by decide +kernel
theorem dX6_forget_12 : decode cX6_forget 12 = .ok (.putfield 18, 3) := by decide +kernel
theorem dX6_forget_15 : decode cX6_forget 15 = .ok (.aload_n 0, 1) := by decide +kernel
theorem dX6_forget_16 : decode cX6_forget 16 = .ok (.iconst 0, 1) := by decide +kernel
theorem dX6_forget_17 : decode cX6_forget 17 = .ok (.putfield 21, 3) := by decide +kernel
theorem dX6_forget_20 : decode cX6_forget 20 = .ok (.return_, 1) := by decide +kernel
theorem dX6_isUsed_0 : decode cX6_isUsed 0 = .ok (.aload_n 0, 1) := by decide +kernel
theorem dX6_isUsed_1 : decode cX6_isUsed 1 = .ok (.getfield 9, 3) := by decide +kernel
theorem dX6_isUsed_4 : decode cX6_isUsed 4 = .ok (.iload_n 1, 1) := by decide +kernel
theorem dX6_isUsed_5 : decode cX6_isUsed 5 = .ok (.ishr, 1) := by decide +kernel
theorem dX6_isUsed_6 : decode cX6_isUsed 6 = .ok (.iconst 1, 1) := by decide +kernel
theorem dX6_isUsed_7 : decode cX6_isUsed 7 = .ok (.iand, 1) := by decide +kernel
theorem dX6_isUsed_8 : decode cX6_isUsed 8 = .ok (.ifCond .eq 7, 3) := by decide +kernel
theorem dX6_isUsed_11 : decode cX6_isUsed 11 = .ok (.iconst 1, 1) := by decide +kernel
theorem dX6_isUsed_12 : decode cX6_isUsed 12 = .ok (.goto 4, 3) := by decide +kernel
theorem dX6_isUsed_15 : decode cX6_isUsed 15 = .ok (.iconst 0, 1) := by decide +kernel
theorem dX6_isUsed_16 : decode cX6_isUsed 16 = .ok (.ireturn, 1) := by decide +kernel
theorem dX6_useSinceToday_0 : decode cX6_useSinceToday 0 = .ok (.iconst 0, 1) := by decide +kernel
theorem dX6_useSinceToday_1 : decode cX6_useSinceToday 1 = .ok (.istore_n 1, 1) := by decide +kernel
theorem dX6_useSinceToday_2 : decode cX6_useSinceToday 2 = .ok (.iload_n 1, 1) := by decide +kernel
theorem dX6_useSinceToday_3 : decode cX6_useSinceToday 3 = .ok (.bipush 14, 2) := by decide +kernel
theorem dX6_useSinceToday_5 : decode cX6_useSinceToday 5 = .ok (.if_icmp .ge 19, 3) := by decide +kernel
theorem dX6_useSinceToday_8 : decode cX6_useSinceToday 8 = .ok (.aload_n 0, 1) := by decide +kernel
theorem dX6_useSinceToday_9 : decode cX6_useSinceToday 9 = .ok (.getfield 28, 3) := by decide +kernel
theorem dX6_useSinceToday_12 : decode cX6_useSinceToday 12 = .ok (.iload_n 1, 1) := by decide +kernel
theorem dX6_useSinceToday_13 : decode cX6_useSinceToday 13 = .ok (.aload_n 0, 1) := by decide +kernel
theorem dX6_useSinceToday_14 : decode cX6_useSinceToday 14 = .ok (.getfield 18, 3) := by decide +kernel
theorem dX6_useSinceToday_17 : decode cX6_useSinceToday 17 = .ok (.iastore, 1) := by decide +kernel
theorem dX6_useSinceToday_18 : decode cX6_useSinceToday 18 = .ok (.iinc 1 1, 3) := by decide +kernel
theorem dX6_useSinceToday_21 : decode cX6_useSinceToday 21 = .ok (.goto (-19), 3) := by decide +kernel
theorem dX6_useSinceToday_24 : decode cX6_useSinceToday 24 = .ok (.return_, 1) := by decide +kernel
theorem dX6_usedBy_0 : decode cX6_usedBy 0 = .ok (.iconst 0, 1) := by decide +kernel
theorem dX6_usedBy_1 : decode cX6_usedBy 1 = .ok (.istore_n 2, 1) := by decide +kernel
theorem dX6_usedBy_2 : decode cX6_usedBy 2 = .ok (.iconst 0, 1) := by decide +kernel
theorem dX6_usedBy_3 : decode cX6_usedBy 3 = .ok (.istore_n 3, 1) := by decide +kernel
theorem dX6_usedBy_4 : decode cX6_usedBy 4 = .ok (.iload_n 3, 1) := by decide +kernel
theorem dX6_usedBy_5 : decode cX6_usedBy 5 = .ok (.bipush 14, 2) := by decide +kernel
theorem dX6_usedBy_7 : decode cX6_usedBy 7 = .ok (.if_icmp .ge 33, 3) := by decide +kernel
theorem dX6_usedBy_10 : decode cX6_usedBy 10 = .ok (.aload_n 0, 1) := by decide +kernel
theorem dX6_usedBy_11 : decode cX6_usedBy 11 = .ok (.iload_n 3, 1) := by decide +kernel
theorem dX6_usedBy_12 : decode cX6_usedBy 12 = .ok (.invokevirtual 37, 3) := by decide +kernel
theorem dX6_usedBy_15 : decode cX6_usedBy 15 = .ok (.ifCond .eq 19, 3) := by decide +kernel
theorem dX6_usedBy_18 : decode cX6_usedBy 18 = .ok (.aload_n 0, 1) := by decide +kernel
theorem dX6_usedBy_19 : decode cX6_usedBy 19 = .ok (.getfield 24, 3) := by decide +kernel
theorem dX6_usedBy_22 : decode cX6_usedBy 22 = .ok (.iload_n 3, 1) := by decide +kernel
theorem dX6_usedBy_23 : decode cX6_usedBy 23 = .ok (.iaload, 1) := by decide +kernel
theorem dX6_usedBy_24 : decode cX6_usedBy 24 = .ok (.iload_n 1, 1) := by decide +kernel
theorem dX6_usedBy_25 : decode cX6_usedBy 25 = .ok (.if_icmp .ne 9, 3) := by decide +kernel
theorem dX6_usedBy_28 : decode cX6_usedBy 28 = .ok (.iload_n 2, 1) := by decide +kernel
theorem dX6_usedBy_29 : decode cX6_usedBy 29 = .ok (.iconst 1, 1) := by decide +kernel
theorem dX6_usedBy_30 : decode cX6_usedBy 30 = .ok (.iload_n 3, 1) := by decide +kernel
theorem dX6_usedBy_31 : decode cX6_usedBy 31 = .ok (.ishl, 1) := by decide +kernel
theorem dX6_usedBy_32 : decode cX6_usedBy 32 = .ok (.ior, 1) := by decide +kernel
theorem dX6_usedBy_33 : decode cX6_usedBy 33 = .ok (.istore_n 2, 1) := by decide +kernel
theorem dX6_usedBy_34 : decode cX6_usedBy 34 = .ok (.iinc 3 1, 3) := by decide +kernel
theorem dX6_usedBy_37 : decode cX6_usedBy 37 = .ok (.goto (-33), 3) := by decide +kernel
theorem dX6_usedBy_40 : decode cX6_usedBy 40 = .ok (.iload_n 2, 1) := by decide +kernel
theorem dX6_usedBy_41 : decode cX6_usedBy 41 = .ok (.ireturn, 1) := by decide +kernel
theorem kw_7 : Cond.initialized "FootholdWall$State" ∈ gw := gw_of (tb_of 7 (by decide +kernel)) (by decide +kernel)
theorem kw_185 : Cond.fieldLink "FootholdWall$State" 9 "FootholdWall$State" "used" "I" ∈ gw := gw_of (tb_of 185 (by decide +kernel)) (by decide +kernel)
theorem kw_187 : Cond.fieldLink "FootholdWall$State" 15 "FootholdWall$State" "broken" "I" ∈ gw := gw_of (tb_of 187 (by decide +kernel)) (by decide +kernel)
theorem kw_189 : Cond.fieldLink "FootholdWall$State" 18 "FootholdWall$State" "day" "I" ∈ gw := gw_of (tb_of 189 (by decide +kernel)) (by decide +kernel)
theorem kw_192 : Cond.fieldLink "FootholdWall$State" 21 "FootholdWall$State" "years" "I" ∈ gw := gw_of (tb_of 192 (by decide +kernel)) (by decide +kernel)
theorem kw_194 : Cond.fieldLink "FootholdWall$State" 24 "FootholdWall$State" "by" "[I" ∈ gw := gw_of (tb_of 194 (by decide +kernel)) (by decide +kernel)
theorem kw_196 : Cond.fieldLink "FootholdWall$State" 28 "FootholdWall$State" "since" "[I" ∈ gw := gw_of (tb_of 196 (by decide +kernel)) (by decide +kernel)
theorem kw_787 : Cond.instanceMethod yX6_isUsed ∈ gw := gw_of (tb_of 787 (by decide +kernel)) (by decide +kernel)
theorem kw_788 : Cond.selects "FootholdWall$State" yX6_isUsed yX6_isUsed ∈ gw := gw_of (tb_of 788 (by decide +kernel)) (by decide +kernel)
theorem kw_789 : Cond.code yX6_isUsed cX6_isUsed 2 (some (.boolean)) ∈ gw := gw_of (tb_of 789 (by decide +kernel)) (by decide +kernel)
theorem kw_802 : Cond.methodLink "FootholdWall$State" 37 yX6_isUsed ∈ gw := gw_of (tb_of 802 (by decide +kernel)) (by decide +kernel)
