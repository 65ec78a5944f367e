theorem dX12_nearer_0 : decode cX12_nearer 0 = .ok (.iconst 0, 1) := by decide +kernel
theorem dX12_nearer_1 : decode cX12_nearer 1 = .ok (.istore_n 3, 1) := by decide +kernel
theorem dX12_nearer_2 : decode cX12_nearer 2 = .ok (.iload_n 3, 1) := by decide +kernel
theorem dX12_nearer_3 : decode cX12_nearer 3 = .ok (.aload_n 0, 1) := by decide +kernel
theorem dX12_nearer_4 : decode cX12_nearer 4 = .ok (.getfield 13, 3) := by decide +kernel
theorem dX12_nearer_7 : decode cX12_nearer 7 = .ok (.iconst 1, 1) := by decide +kernel
theorem dX12_nearer_8 : decode cX12_nearer 8 = .ok (.iaload, 1) := by decide +kernel
theorem dX12_nearer_9 : decode cX12_nearer 9 = .ok (.if_icmp .ge 30, 3) := by decide +kernel
theorem dX12_nearer_12 : decode cX12_nearer 12 = .ok (.iload_n 1, 1) := by decide +kernel
theorem dX12_nearer_13 : decode cX12_nearer 13 = .ok (.i2l, 1) := by decide +kernel
theorem dX12_nearer_14 : decode cX12_nearer 14 = .ok (.iload_n 3, 1) := by decide +kernel
theorem dX12_nearer_15 : decode cX12_nearer 15 = .ok (.invokestatic 186, 3) := by decide +kernel
theorem dX12_nearer_18 : decode cX12_nearer 18 = .ok (.ifCond .eq 15, 3) := by decide +kernel
theorem dX12_nearer_21 : decode cX12_nearer 21 = .ok (.aload_n 0, 1) := by decide +kernel
theorem dX12_nearer_22 : decode cX12_nearer 22 = .ok (.getfield 36, 3) := by decide +kernel
theorem dX12_nearer_25 : decode cX12_nearer 25 = .ok (.iload_n 3, 1) := by decide +kernel
theorem dX12_nearer_26 : decode cX12_nearer 26 = .ok (.iaload, 1) := by decide +kernel
theorem dX12_nearer_27 : decode cX12_nearer 27 = .ok (.iload_n 2, 1) := by decide +kernel
theorem dX12_nearer_28 : decode cX12_nearer 28 = .ok (.if_icmp .ne 5, 3) := by decide +kernel
theorem dX12_nearer_31 : decode cX12_nearer 31 = .ok (.iload_n 3, 1) := by decide +kernel
theorem dX12_nearer_32 : decode cX12_nearer 32 = .ok (.ireturn, 1) := by decide +kernel
theorem dX12_nearer_33 : decode cX12_nearer 33 = .ok (.iinc 3 1, 3) := by decide +kernel
theorem dX12_nearer_36 : decode cX12_nearer 36 = .ok (.goto (-34), 3) := by decide +kernel
theorem dX12_nearer_39 : decode cX12_nearer 39 = .ok (.iconst (-1), 1) := by decide +kernel
theorem dX12_nearer_40 : decode cX12_nearer 40 = .ok (.ireturn, 1) := by decide +kernel
theorem kw_1241 : Cond.fieldLink "FootholdWallModel" 36 "FootholdWallModel" "away" "[I" ∈ gw := gw_of (tb_of 1241 (by decide +kernel)) (by decide +kernel)
