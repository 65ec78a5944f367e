theorem dX2_asks_0 : decode cX2_asks 0 = .ok (.iconst 1, 1) := by decide +kernel
theorem dX2_asks_1 : decode cX2_asks 1 = .ok (.iload_n 1, 1) := by decide +kernel
theorem dX2_asks_2 : decode cX2_asks 2 = .ok (.iconst 4, 1) := by decide +kernel
theorem dX2_asks_3 : decode cX2_asks 3 = .ok (.ishl, 1) := by decide +kernel
theorem dX2_asks_4 : decode cX2_asks 4 = .ok (.ior, 1) := by decide +kernel
theorem dX2_asks_5 : decode cX2_asks 5 = .ok (.istore_n 2, 1) := by decide +kernel
theorem dX2_asks_6 : decode cX2_asks 6 = .ok (.iconst 0, 1) := by decide +kernel
theorem dX2_asks_7 : decode cX2_asks 7 = .ok (.istore_n 3, 1) := by decide +kernel
theorem dX2_asks_8 : decode cX2_asks 8 = .ok (.iload_n 3, 1) := by decide +kernel
theorem dX2_asks_9 : decode cX2_asks 9 = .ok (.aload_n 0, 1) := by decide +kernel
theorem dX2_asks_10 : decode cX2_asks 10 = .ok (.getfield 16, 3) := by decide +kernel
theorem dX2_asks_13 : decode cX2_asks 13 = .ok (.arraylength, 1) := by decide +kernel
theorem dX2_asks_14 : decode cX2_asks 14 = .ok (.if_icmp .ge 21, 3) := by decide +kernel
theorem dX2_asks_17 : decode cX2_asks 17 = .ok (.aload_n 0, 1) := by decide +kernel
theorem dX2_asks_18 : decode cX2_asks 18 = .ok (.getfield 16, 3) := by decide +kernel
theorem dX2_asks_21 : decode cX2_asks 21 = .ok (.iload_n 3, 1) := by decide +kernel
theorem dX2_asks_22 : decode cX2_asks 22 = .ok (.iaload, 1) := by decide +kernel
theorem dX2_asks_23 : decode cX2_asks 23 = .ok (.iload_n 2, 1) := by decide +kernel
theorem dX2_asks_24 : decode cX2_asks 24 = .ok (.if_icmp .ne 5, 3) := by decide +kernel
theorem dX2_asks_27 : decode cX2_asks 27 = .ok (.iconst 1, 1) := by decide +kernel
theorem dX2_asks_28 : decode cX2_asks 28 = .ok (.ireturn, 1) := by decide +kernel
theorem dX2_asks_29 : decode cX2_asks 29 = .ok (.iinc 3 1, 3) := by decide +kernel
theorem dX2_asks_32 : decode cX2_asks 32 = .ok (.goto (-24), 3) := by decide +kernel
theorem dX2_asks_35 : decode cX2_asks 35 = .ok (.iconst 0, 1) := by decide +kernel
theorem dX2_asks_36 : decode cX2_asks 36 = .ok (.ireturn, 1) := by decide +kernel
theorem dX2_joined_0 : decode cX2_joined 0 = .ok (.lconst 0, 1) := by decide +kernel
theorem dX2_joined_1 : decode cX2_joined 1 = .ok (.lstore_n 3, 1) := by decide +kernel
theorem dX2_joined_2 : decode cX2_joined 2 = .ok (.iload_n 0, 1) := by decide +kernel
theorem dX2_joined_3 : decode cX2_joined 3 = .ok (.tableswitch 82 5 9 #[33, 42, 51, 60, 71], 33) := by decide +kernel
theorem dX2_joined_36 : decode cX2_joined 36 = .ok (.iload_n 1, 1) := by decide +kernel
theorem dX2_joined_37 : decode cX2_joined 37 = .ok (.i2l, 1) := by decide +kernel
theorem dX2_joined_38 : decode cX2_joined 38 = .ok (.iload_n 2, 1) := by decide +kernel
theorem dX2_joined_39 : decode cX2_joined 39 = .ok (.i2l, 1) := by decide +kernel
theorem dX2_joined_40 : decode cX2_joined 40 = .ok (.ladd, 1) := by decide +kernel
theorem dX2_joined_41 : decode cX2_joined 41 = .ok (.lstore_n 3, 1) := by decide +kernel
theorem dX2_joined_42 : decode cX2_joined 42 = .ok (.goto 54, 3) := by decide +kernel
theorem dX2_joined_45 : decode cX2_joined 45 = .ok (.iload_n 1, 1) := by decide +kernel
theorem dX2_joined_46 : decode cX2_joined 46 = .ok (.i2l, 1) := by decide +kernel
theorem dX2_joined_47 : decode cX2_joined 47 = .ok (.iload_n 2, 1) := by decide +kernel
theorem dX2_joined_48 : decode cX2_joined 48 = .ok (.i2l, 1) := by decide +kernel
theorem dX2_joined_49 : decode cX2_joined 49 = .ok (.lsub, 1) := by decide +kernel
theorem dX2_joined_50 : decode cX2_joined 50 = .ok (.lstore_n 3, 1) := by decide +kernel
theorem dX2_joined_51 : decode cX2_joined 51 = .ok (.goto 45, 3) := by decide +kernel
theorem dX2_joined_54 : decode cX2_joined 54 = .ok (.iload_n 1, 1) := by decide +kernel
theorem dX2_joined_55 : decode cX2_joined 55 = .ok (.i2l, 1) := by decide +kernel
theorem dX2_joined_56 : decode cX2_joined 56 = .ok (.iload_n 2, 1) := by decide +kernel
theorem dX2_joined_57 : decode cX2_joined 57 = .ok (.i2l, 1) := by decide +kernel
theorem dX2_joined_58 : decode cX2_joined 58 = .ok (.lmul, 1) := by decide +kernel
theorem dX2_joined_59 : decode cX2_joined 59 = .ok (.lstore_n 3, 1) := by decide +kernel
theorem dX2_joined_60 : decode cX2_joined 60 = .ok (.goto 36, 3) := by decide +kernel
theorem dX2_joined_63 : decode cX2_joined 63 = .ok (.iload_n 1, 1) := by decide +kernel
theorem dX2_joined_64 : decode cX2_joined 64 = .ok (.iload_n 2, 1) := by decide +kernel
theorem dX2_joined_65 : decode cX2_joined 65 = .ok (.if_icmp .ne 7, 3) := by decide +kernel
theorem dX2_joined_68 : decode cX2_joined 68 = .ok (.iconst 1, 1) := by decide +kernel
theorem dX2_joined_69 : decode cX2_joined 69 = .ok (.goto 4, 3) := by decide +kernel
theorem dX2_joined_72 : decode cX2_joined 72 = .ok (.iconst 0, 1) := by decide +kernel
theorem dX2_joined_73 : decode cX2_joined 73 = .ok (.ireturn, 1) := by decide +kernel
theorem dX2_joined_74 : decode cX2_joined 74 = .ok (.iload_n 1, 1) := by decide +kernel
theorem dX2_joined_75 : decode cX2_joined 75 = .ok (.iload_n 2, 1) := by decide +kernel
theorem dX2_joined_76 : decode cX2_joined 76 = .ok (.if_icmp .ge 7, 3) := by decide +kernel
theorem dX2_joined_79 : decode cX2_joined 79 = .ok (.iconst 1, 1) := by decide +kernel
theorem dX2_joined_80 : decode cX2_joined 80 = .ok (.goto 4, 3) := by decide +kernel
theorem dX2_joined_83 : decode cX2_joined 83 = .ok (.iconst 0, 1) := by decide +kernel
theorem dX2_joined_84 : decode cX2_joined 84 = .ok (.ireturn, 1) := by decide +kernel
theorem dX2_joined_85 : decode cX2_joined 85 = .ok (.iload_n 1, 1) := by decide +kernel
theorem dX2_joined_86 : decode cX2_joined 86 = .ok (.iload_n 2, 1) := by decide +kernel
theorem dX2_joined_87 : decode cX2_joined 87 = .ok (.if_icmp .le 7, 3) := by decide +kernel
theorem dX2_joined_90 : decode cX2_joined 90 = .ok (.iconst 1, 1) := by decide +kernel
theorem dX2_joined_91 : decode cX2_joined 91 = .ok (.goto 4, 3) := by decide +kernel
theorem dX2_joined_94 : decode cX2_joined 94 = .ok (.iconst 0, 1) := by decide +kernel
theorem dX2_joined_95 : decode cX2_joined 95 = .ok (.ireturn, 1) := by decide +kernel
theorem dX2_joined_96 : decode cX2_joined 96 = .ok (.lload_n 3, 1) := by decide +kernel
theorem dX2_joined_97 : decode cX2_joined 97 = .ok (.ldc2_w 29, 3) := by decide +kernel
theorem dX2_joined_100 : decode cX2_joined 100 = .ok (.lcmp, 1) := by decide +kernel
theorem dX2_joined_101 : decode cX2_joined 101 = .ok (.ifCond .le 8, 3) := by decide +kernel
theorem dX2_joined_104 : decode cX2_joined 104 = .ok (.ldc 31, 2) := by decide +kernel
theorem dX2_joined_106 : decode cX2_joined 106 = .ok (.goto 18, 3) := by decide +kernel
theorem dX2_joined_109 : decode cX2_joined 109 = .ok (.lload_n 3, 1) := by decide +kernel
theorem dX2_joined_110 : decode cX2_joined 110 = .ok (.ldc2_w 32, 3) := by decide +kernel
theorem dX2_joined_113 : decode cX2_joined 113 = .ok (.lcmp, 1) := by decide +kernel
theorem dX2_joined_114 : decode cX2_joined 114 = .ok (.ifCond .ge 8, 3) := by decide +kernel
theorem dX2_joined_117 : decode cX2_joined 117 = .ok (.ldc 34, 2) := by decide +kernel
theorem dX2_joined_119 : decode cX2_joined 119 = .ok (.goto 5, 3) := by decide +kernel
theorem dX2_joined_122 : decode cX2_joined 122 = .ok (.lload_n 3, 1) := by decide +kernel
theorem dX2_joined_123 : decode cX2_joined 123 = .ok (.l2i, 1) := by decide +kernel
theorem dX2_joined_124 : decode cX2_joined 124 = .ok (.ireturn, 1) := by decide +kernel
theorem kw_739 : Cond.fieldLink "FootholdWall$Law" 16 "FootholdWall$Law" "code" "[I" ∈ gw := gw_of (tb_of 739 (by decide +kernel)) (by decide +kernel)
theorem kw_821 : Cond.constantLong "FootholdWall$Law" 29 1000000 ∈ gw := gw_of (tb_of 821 (by decide +kernel)) (by decide +kernel)
theorem kw_822 : Cond.constant "FootholdWall$Law" 31 1000000 ∈ gw := gw_of (tb_of 822 (by decide +kernel)) (by decide +kernel)
theorem kw_823 : Cond.constantLong "FootholdWall$Law" 32 (-1000000) ∈ gw := gw_of (tb_of 823 (by decide +kernel)) (by decide +kernel)
theorem kw_824 : Cond.constant "FootholdWall$Law" 34 (-1000000) ∈ gw := gw_of (tb_of 824 (by decide +kernel)) (by decide +kernel)
