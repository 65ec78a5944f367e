theorem dX12_restore_0 : decode cX12_restore 0 = .ok (.aload_n 0, 1) := by decide +kernel
theorem dX12_restore_1 : decode cX12_restore 1 = .ok (.iconst 0, 1) := by decide +kernel
theorem dX12_restore_2 : decode cX12_restore 2 = .ok (.putfield 1, 3) := by decide +kernel
theorem dX12_restore_5 : decode cX12_restore 5 = .ok (.iload_n 1, 1) := by decide +kernel
theorem dX12_restore_6 : decode cX12_restore 6 = .ok (.i2l, 1) := by decide +kernel
theorem dX12_restore_7 : decode cX12_restore 7 = .ok (.lconst 0, 1) := by decide +kernel
theorem dX12_restore_8 : decode cX12_restore 8 = .ok (.lconst 1, 1) := by decide +kernel
theorem dX12_restore_9 : decode cX12_restore 9 = .ok (.invokestatic 144, 3) := by decide +kernel
theorem dX12_restore_12 : decode cX12_restore 12 = .ok (.ifCond .ne 6, 3) := by decide +kernel
theorem dX12_restore_15 : decode cX12_restore 15 = .ok (.bipush (-2), 2) := by decide +kernel
theorem dX12_restore_17 : decode cX12_restore 17 = .ok (.ireturn, 1) := by decide +kernel
theorem dX12_restore_18 : decode cX12_restore 18 = .ok (.aload_n 0, 1) := by decide +kernel
theorem dX12_restore_19 : decode cX12_restore 19 = .ok (.getfield 17, 3) := by decide +kernel
theorem dX12_restore_22 : decode cX12_restore 22 = .ok (.iload_n 1, 1) := by decide +kernel
theorem dX12_restore_23 : decode cX12_restore 23 = .ok (.baload, 1) := by decide +kernel
theorem dX12_restore_24 : decode cX12_restore 24 = .ok (.ifCond .ne 6, 3) := by decide +kernel
theorem dX12_restore_27 : decode cX12_restore 27 = .ok (.bipush (-5), 2) := by decide +kernel
theorem dX12_restore_29 : decode cX12_restore 29 = .ok (.ireturn, 1) := by decide +kernel
theorem dX12_restore_30 : decode cX12_restore 30 = .ok (.iconst 0, 1) := by decide +kernel
theorem dX12_restore_31 : decode cX12_restore 31 = .ok (.istore_n 2, 1) := by decide +kernel
theorem dX12_restore_32 : decode cX12_restore 32 = .ok (.iload_n 2, 1) := by decide +kernel
theorem dX12_restore_33 : decode cX12_restore 33 = .ok (.sipush 1302, 3) := by decide +kernel
theorem dX12_restore_36 : decode cX12_restore 36 = .ok (.if_icmp .ge 29, 3) := by decide +kernel
theorem dX12_restore_39 : decode cX12_restore 39 = .ok (.aload_n 0, 1) := by decide +kernel
theorem dX12_restore_40 : decode cX12_restore 40 = .ok (.getfield 13, 3) := by decide +kernel
theorem dX12_restore_43 : decode cX12_restore 43 = .ok (.iload_n 2, 1) := by decide +kernel
theorem dX12_restore_44 : decode cX12_restore 44 = .ok (.aload_n 0, 1) := by decide +kernel
theorem dX12_restore_45 : decode cX12_restore 45 = .ok (.getfield 13, 3) := by decide +kernel
theorem dX12_restore_48 : decode cX12_restore 48 = .ok (.sipush 1302, 3) := by decide +kernel
theorem dX12_restore_51 : decode cX12_restore 51 = .ok (.iload_n 1, 1) := by decide +kernel
theorem dX12_restore_52 : decode cX12_restore 52 = .ok (.iconst 1, 1) := by decide +kernel
theorem dX12_restore_53 : decode cX12_restore 53 = .ok (.iadd, 1) := by decide +kernel
theorem dX12_restore_54 : decode cX12_restore 54 = .ok (.imul, 1) := by decide +kernel
theorem dX12_restore_55 : decode cX12_restore 55 = .ok (.iload_n 2, 1) := by decide +kernel
theorem dX12_restore_56 : decode cX12_restore 56 = .ok (.iadd, 1) := by decide +kernel
theorem dX12_restore_57 : decode cX12_restore 57 = .ok (.iaload, 1) := by decide +kernel
theorem dX12_restore_58 : decode cX12_restore 58 = .ok (.iastore, 1) := by decide +kernel
theorem dX12_restore_59 : decode cX12_restore 59 = .ok (.iinc 2 1, 3) := by decide +kernel
theorem dX12_restore_62 : decode cX12_restore 62 = .ok (.goto (-30), 3) := by decide +kernel
theorem dX12_restore_65 : decode cX12_restore 65 = .ok (.aload_n 0, 1) := by decide +kernel
theorem dX12_restore_66 : decode cX12_restore 66 = .ok (.getfield 13, 3) := by decide +kernel
theorem dX12_restore_69 : decode cX12_restore 69 = .ok (.bipush 90, 2) := by decide +kernel
theorem dX12_restore_71 : decode cX12_restore 71 = .ok (.iconst 0, 1) := by decide +kernel
theorem dX12_restore_72 : decode cX12_restore 72 = .ok (.iastore, 1) := by decide +kernel
theorem dX12_restore_73 : decode cX12_restore 73 = .ok (.iconst 0, 1) := by decide +kernel
theorem dX12_restore_74 : decode cX12_restore 74 = .ok (.ireturn, 1) := by decide +kernel
