theorem dX11_fault_0 : decode cX11_fault 0 = .ok (.iload_n 1, 1) := by decide +kernel
theorem dX11_fault_1 : decode cX11_fault 1 = .ok (.ifCond .ne 14, 3) := by decide +kernel
theorem dX11_fault_4 : decode cX11_fault 4 = .ok (.aload_n 0, 1) := by decide +kernel
theorem dX11_fault_5 : decode cX11_fault 5 = .ok (.getfield 20, 3) := by decide +kernel
theorem dX11_fault_8 : decode cX11_fault 8 = .ok (.getfield 119, 3) := by decide +kernel
theorem dX11_fault_11 : decode cX11_fault 11 = .ok (.getfield 123, 3) := by decide +kernel
theorem dX11_fault_14 : decode cX11_fault 14 = .ok (.ireturn, 1) := by decide +kernel
theorem dX11_fault_15 : decode cX11_fault 15 = .ok (.iload_n 1, 1) := by decide +kernel
theorem dX11_fault_16 : decode cX11_fault 16 = .ok (.iconst 1, 1) := by decide +kernel
theorem dX11_fault_17 : decode cX11_fault 17 = .ok (.if_icmp .ne 16, 3) := by decide +kernel
theorem dX11_fault_20 : decode cX11_fault 20 = .ok (.aload_n 0, 1) := by decide +kernel
theorem dX11_fault_21 : decode cX11_fault 21 = .ok (.getfield 20, 3) := by decide +kernel
theorem dX11_fault_24 : decode cX11_fault 24 = .ok (.getfield 119, 3) := by decide +kernel
theorem dX11_fault_27 : decode cX11_fault 27 = .ok (.getfield 142, 3) := by decide +kernel
theorem dX11_fault_30 : decode cX11_fault 30 = .ok (.goto 4, 3) := by decide +kernel
theorem dX11_fault_33 : decode cX11_fault 33 = .ok (.iconst (-1), 1) := by decide +kernel
theorem dX11_fault_34 : decode cX11_fault 34 = .ok (.ireturn, 1) := by decide +kernel
theorem kw_55 : Cond.fieldLink "FootholdWall" 123 "FootholdWall$Tokens" "fault" "I" ∈ gw := gw_of (tb_of 55 (by decide +kernel)) (by decide +kernel)
theorem kw_57 : Cond.fieldLink "FootholdWall" 142 "FootholdWall$Tokens" "place" "I" ∈ gw := gw_of (tb_of 57 (by decide +kernel)) (by decide +kernel)
theorem kw_212 : Cond.fieldLink "FootholdWall" 119 "FootholdWall$Reader" "tokens" "LFootholdWall$Tokens;" ∈ gw := gw_of (tb_of 212 (by decide +kernel)) (by decide +kernel)
theorem kw_362 : Cond.fieldLink "FootholdWall" 20 "FootholdWall" "reader" "LFootholdWall$Reader;" ∈ gw := gw_of (tb_of 362 (by decide +kernel)) (by decide +kernel)
