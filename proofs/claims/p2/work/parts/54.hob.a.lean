theorem dJ6_highestOneBit_0f7a4_0 : decode cJ6_highestOneBit_0f7a4 0 = .ok (.iload_n 0, 1) := by decide +kernel
theorem dJ6_highestOneBit_0f7a4_1 : decode cJ6_highestOneBit_0f7a4 1 = .ok (.ldc 127, 2) := by decide +kernel
theorem dJ6_highestOneBit_0f7a4_3 : decode cJ6_highestOneBit_0f7a4 3 = .ok (.iload_n 0, 1) := by decide +kernel
theorem dJ6_highestOneBit_0f7a4_4 : decode cJ6_highestOneBit_0f7a4 4 = .ok (.invokestatic 51, 3) := by decide +kernel
theorem dJ6_highestOneBit_0f7a4_7 : decode cJ6_highestOneBit_0f7a4 7 = .ok (.iushr, 1) := by decide +kernel
theorem dJ6_highestOneBit_0f7a4_8 : decode cJ6_highestOneBit_0f7a4 8 = .ok (.iand, 1) := by decide +kernel
theorem dJ6_highestOneBit_0f7a4_9 : decode cJ6_highestOneBit_0f7a4 9 = .ok (.ireturn, 1) := by decide +kernel
theorem kw_1083 : Cond.constant "java/lang/Integer" 127 (-2147483648) ∈ gw := gw_of (tb_of 1083 (by decide +kernel)) (by decide +kernel)
theorem kw_1084 : Cond.methodLink "java/lang/Integer" 51 yJ6_numberOfLeadingZeros_0f7a4 ∈ gw := gw_of (tb_of 1084 (by decide +kernel)) (by decide +kernel)
theorem kw_1085 : Cond.static yJ6_numberOfLeadingZeros_0f7a4 ∈ gw := gw_of (tb_of 1085 (by decide +kernel)) (by decide +kernel)
theorem kw_1086 : Cond.code yJ6_numberOfLeadingZeros_0f7a4 cJ6_numberOfLeadingZeros_0f7a4 2 (some (.int)) ∈ gw := gw_of (tb_of 1086 (by decide +kernel)) (by decide +kernel)
