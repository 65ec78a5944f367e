theorem dX9_asksDay_0 : decode cX9_asksDay 0 = .ok (.aload_n 0, 1) := by decide +kernel
theorem dX9_asksDay_1 : decode cX9_asksDay 1 = .ok (.getfield 60, 3) := by decide +kernel
theorem dX9_asksDay_4 : decode cX9_asksDay 4 = .ok (.ireturn, 1) := by decide +kernel
theorem dX9_asksLeg_0 : decode cX9_asksLeg 0 = .ok (.aload_n 0, 1) := by decide +kernel
theorem dX9_asksLeg_1 : decode cX9_asksLeg 1 = .ok (.getfield 64, 3) := by decide +kernel
theorem dX9_asksLeg_4 : decode cX9_asksLeg 4 = .ok (.ireturn, 1) := by decide +kernel
theorem dX9_comeBy_0 : decode cX9_comeBy 0 = .ok (.iconst 0, 1) := by decide +kernel
theorem dX9_comeBy_1 : decode cX9_comeBy 1 = .ok (.istore_n 2, 1) := by decide +kernel
theorem dX9_comeBy_2 : decode cX9_comeBy 2 = .ok (.iconst 0, 1) := by decide +kernel
theorem dX9_comeBy_3 : decode cX9_comeBy 3 = .ok (.istore_n 3, 1) := by decide +kernel
theorem dX9_comeBy_4 : decode cX9_comeBy 4 = .ok (.iload_n 3, 1) := by decide +kernel
theorem dX9_comeBy_5 : decode cX9_comeBy 5 = .ok (.aload_n 0, 1) := by decide +kernel
theorem dX9_comeBy_6 : decode cX9_comeBy 6 = .ok (.getfield 28, 3) := by decide +kernel
theorem dX9_comeBy_9 : decode cX9_comeBy 9 = .ok (.if_icmp .ge 25, 3) := by decide +kernel
theorem dX9_comeBy_12 : decode cX9_comeBy 12 = .ok (.aload_n 0, 1) := by decide +kernel
theorem dX9_comeBy_13 : decode cX9_comeBy 13 = .ok (.getfield 41, 3) := by decide +kernel
theorem dX9_comeBy_16 : decode cX9_comeBy 16 = .ok (.iload_n 3, 1) := by decide +kernel
theorem dX9_comeBy_17 : decode cX9_comeBy 17 = .ok (.iaload, 1) := by decide +kernel
theorem dX9_comeBy_18 : decode cX9_comeBy 18 = .ok (.iload_n 1, 1) := by decide +kernel
theorem dX9_comeBy_19 : decode cX9_comeBy 19 = .ok (.if_icmp .gt 9, 3) := by decide +kernel
theorem dX9_comeBy_22 : decode cX9_comeBy 22 = .ok (.iload_n 2, 1) := by decide +kernel
theorem dX9_comeBy_23 : decode cX9_comeBy 23 = .ok (.iconst 1, 1) := by decide +kernel
theorem dX9_comeBy_24 : decode cX9_comeBy 24 = .ok (.iload_n 3, 1) := by decide +kernel
theorem dX9_comeBy_25 : decode cX9_comeBy 25 = .ok (.ishl, 1) := by decide +kernel
theorem dX9_comeBy_26 : decode cX9_comeBy 26 = .ok (.ior, 1) := by decide +kernel
theorem dX9_comeBy_27 : decode cX9_comeBy 27 = .ok (.istore_n 2, 1) := by decide +kernel
theorem dX9_comeBy_28 : decode cX9_comeBy 28 = .ok (.iinc 3 1, 3) := by decide +kernel
theorem dX9_comeBy_31 : decode cX9_comeBy 31 = .ok (.goto (-27), 3) := by decide +kernel
theorem dX9_comeBy_34 : decode cX9_comeBy 34 = .ok (.iload_n 2, 1) := by decide +kernel
theorem dX9_comeBy_35 : decode cX9_comeBy 35 = .ok (.ireturn, 1) := by decide +kernel
theorem dX9_forget_0 : decode cX9_forget 0 = .ok (.aload_n 0, 1) := by decide +kernel
theorem dX9_forget_1 : decode cX9_forget 1 = .ok (.iconst 0, 1) := by decide +kernel
theorem dX9_forget_2 : decode cX9_forget 2 = .ok (.putfield 28, 3) := by decide +kernel
theorem dX9_forget_5 : decode cX9_forget 5 = .ok (.aload_n 0, 1) := by decide +kernel
theorem dX9_forget_6 : decode cX9_forget 6 = .ok (.iconst 0, 1) := by decide +kernel
theorem dX9_forget_7 : decode cX9_forget 7 = .ok (.putfield 31, 3) := by decide +kernel
theorem dX9_forget_10 : decode cX9_forget 10 = .ok (.aload_n 0, 1) := by decide +kernel
theorem dX9_forget_11 : decode cX9_forget 11 = .ok (.iconst 0, 1) := by decide +kernel
theorem dX9_forget_12 : decode cX9_forget 12 = .ok (.putfield 7, 3) := by decide +kernel
theorem dX9_forget_15 : decode cX9_forget 15 = .ok (.aload_n 0, 1) := by decide +kernel
theorem dX9_forget_16 : decode cX9_forget 16 = .ok (.iconst 0, 1) := by decide +kernel
theorem dX9_forget_17 : decode cX9_forget 17 = .ok (.putfield 13, 3) := by decide +kernel
theorem dX9_forget_20 : decode cX9_forget 20 = .ok (.aload_n 0, 1) := by decide +kernel
theorem dX9_forget_21 : decode cX9_forget 21 = .ok (.iconst 0, 1) := by decide +kernel
theorem dX9_forget_22 : decode cX9_forget 22 = .ok (.putfield 16, 3) := by decide +kernel
theorem dX9_forget_25 : decode cX9_forget 25 = .ok (.aload_n 0, 1) := by decide +kernel
theorem dX9_forget_26 : decode cX9_forget 26 = .ok (.iconst 0, 1) := by decide +kernel
theorem dX9_forget_27 : decode cX9_forget 27 = .ok (.putfield 19, 3) := by decide +kernel
theorem dX9_forget_30 : decode cX9_forget 30 = .ok (.return_, 1) := by decide +kernel
theorem dX9_middles_0 : decode cX9_middles 0 = .ok (.iconst 1, 1) := by decide +kernel
theorem dX9_middles_1 : decode cX9_middles 1 = .ok (.aload_n 0, 1) := by decide +kernel
theorem dX9_middles_2 : decode cX9_middles 2 = .ok (.getfield 28, 3) := by decide +kernel
theorem dX9_middles_5 : decode cX9_middles 5 = .ok (.ishl, 1) := by decide +kernel
theorem dX9_middles_6 : decode cX9_middles 6 = .ok (.iconst 1, 1) := by decide +kernel
theorem dX9_middles_7 : decode cX9_middles 7 = .ok (.isub, 1) := by decide +kernel
theorem dX9_middles_8 : decode cX9_middles 8 = .ok (.aload_n 0, 1) := by decide +kernel
theorem dX9_middles_9 : decode cX9_middles 9 = .ok (.getfield 13, 3) := by decide +kernel
theorem dX9_middles_12 : decode cX9_middles 12 = .ok (.iconst (-1), 1) := by decide +kernel
theorem dX9_middles_13 : decode cX9_middles 13 = .ok (.ixor, 1) := by decide +kernel
theorem dX9_middles_14 : decode cX9_middles 14 = .ok (.iand, 1) := by decide +kernel
theorem dX9_middles_15 : decode cX9_middles 15 = .ok (.aload_n 0, 1) := by decide +kernel
theorem dX9_middles_16 : decode cX9_middles 16 = .ok (.getfield 16, 3) := by decide +kernel
theorem dX9_middles_19 : decode cX9_middles 19 = .ok (.iconst (-1), 1) := by decide +kernel
theorem dX9_middles_20 : decode cX9_middles 20 = .ok (.ixor, 1) := by decide +kernel
theorem dX9_middles_21 : decode cX9_middles 21 = .ok (.iand, 1) := by decide +kernel
theorem dX9_middles_22 : decode cX9_middles 22 = .ok (.ireturn, 1) := by decide +kernel
theorem kw_106 : Cond.fieldLink "FootholdWall$Wall" 28 "FootholdWall$Wall" "holds" "I" ∈ gw := gw_of (tb_of 106 (by decide +kernel)) (by decide +kernel)
theorem kw_110 : Cond.fieldLink "FootholdWall$Wall" 31 "FootholdWall$Wall" "guides" "I" ∈ gw := gw_of (tb_of 110 (by decide +kernel)) (by decide +kernel)
theorem kw_113 : Cond.fieldLink "FootholdWall$Wall" 7 "FootholdWall$Wall" "lines" "I" ∈ gw := gw_of (tb_of 113 (by decide +kernel)) (by decide +kernel)
theorem kw_116 : Cond.fieldLink "FootholdWall$Wall" 13 "FootholdWall$Wall" "starts" "I" ∈ gw := gw_of (tb_of 116 (by decide +kernel)) (by decide +kernel)
theorem kw_123 : Cond.fieldLink "FootholdWall$Wall" 16 "FootholdWall$Wall" "tops" "I" ∈ gw := gw_of (tb_of 123 (by decide +kernel)) (by decide +kernel)
theorem kw_130 : Cond.fieldLink "FootholdWall$Wall" 19 "FootholdWall$Wall" "wides" "I" ∈ gw := gw_of (tb_of 130 (by decide +kernel)) (by decide +kernel)
theorem kw_138 : Cond.fieldLink "FootholdWall$Wall" 41 "FootholdWall$Wall" "ice" "[I" ∈ gw := gw_of (tb_of 138 (by decide +kernel)) (by decide +kernel)
theorem kw_148 : Cond.fieldLink "FootholdWall$Wall" 60 "FootholdWall$Wall" "dayAsked" "Z" ∈ gw := gw_of (tb_of 148 (by decide +kernel)) (by decide +kernel)
theorem kw_149 : Cond.fieldLink "FootholdWall$Wall" 64 "FootholdWall$Wall" "legAsked" "Z" ∈ gw := gw_of (tb_of 149 (by decide +kernel)) (by decide +kernel)
