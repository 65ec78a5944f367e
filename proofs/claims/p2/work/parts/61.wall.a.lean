theorem dX11_feed_0 : decode cX11_feed 0 = .ok (.aload_n 0, 1) := by decide +kernel
theorem dX11_feed_1 : decode cX11_feed 1 = .ok (.getfield 13, 3) := by decide +kernel
theorem dX11_feed_4 : decode cX11_feed 4 = .ok (.bipush 20, 2) := by decide +kernel
theorem dX11_feed_6 : decode cX11_feed 6 = .ok (.iadd, 1) := by decide +kernel
theorem dX11_feed_7 : decode cX11_feed 7 = .ok (.sipush 900, 3) := by decide +kernel
theorem dX11_feed_10 : decode cX11_feed 10 = .ok (.if_icmp .le 6, 3) := by decide +kernel
theorem dX11_feed_13 : decode cX11_feed 13 = .ok (.bipush (-5), 2) := by decide +kernel
theorem dX11_feed_15 : decode cX11_feed 15 = .ok (.ireturn, 1) := by decide +kernel
theorem dX11_feed_16 : decode cX11_feed 16 = .ok (.aload_n 0, 1) := by decide +kernel
theorem dX11_feed_17 : decode cX11_feed 17 = .ok (.iload_n 1, 1) := by decide +kernel
theorem dX11_feed_18 : decode cX11_feed 18 = .ok (.invokevirtual 111, 3) := by decide +kernel
theorem dX11_feed_21 : decode cX11_feed 21 = .ok (.aload_n 0, 1) := by decide +kernel
theorem dX11_feed_22 : decode cX11_feed 22 = .ok (.iload_n 2, 1) := by decide +kernel
theorem dX11_feed_23 : decode cX11_feed 23 = .ok (.invokevirtual 111, 3) := by decide +kernel
theorem dX11_feed_26 : decode cX11_feed 26 = .ok (.aload_n 0, 1) := by decide +kernel
theorem dX11_feed_27 : decode cX11_feed 27 = .ok (.iload_n 3, 1) := by decide +kernel
theorem dX11_feed_28 : decode cX11_feed 28 = .ok (.invokevirtual 111, 3) := by decide +kernel
theorem dX11_feed_31 : decode cX11_feed 31 = .ok (.aload_n 0, 1) := by decide +kernel
theorem dX11_feed_32 : decode cX11_feed 32 = .ok (.iload 4, 2) := by decide +kernel
theorem dX11_feed_34 : decode cX11_feed 34 = .ok (.invokevirtual 111, 3) := by decide +kernel
theorem dX11_feed_37 : decode cX11_feed 37 = .ok (.aload_n 0, 1) := by decide +kernel
theorem dX11_feed_38 : decode cX11_feed 38 = .ok (.iload 5, 2) := by decide +kernel
theorem dX11_feed_40 : decode cX11_feed 40 = .ok (.invokevirtual 111, 3) := by decide +kernel
theorem dX11_feed_43 : decode cX11_feed 43 = .ok (.aload_n 0, 1) := by decide +kernel
theorem dX11_feed_44 : decode cX11_feed 44 = .ok (.getfield 13, 3) := by decide +kernel
theorem dX11_feed_47 : decode cX11_feed 47 = .ok (.ireturn, 1) := by decide +kernel
theorem dX11_putOnTape_0 : decode cX11_putOnTape 0 = .ok (.bipush 24, 2) := by decide +kernel
theorem dX11_putOnTape_2 : decode cX11_putOnTape 2 = .ok (.istore_n 2, 1) := by decide +kernel
theorem dX11_putOnTape_3 : decode cX11_putOnTape 3 = .ok (.iload_n 2, 1) := by decide +kernel
theorem dX11_putOnTape_4 : decode cX11_putOnTape 4 = .ok (.ifCond .lt 42, 3) := by decide +kernel
theorem dX11_putOnTape_7 : decode cX11_putOnTape 7 = .ok (.aload_n 0, 1) := by decide +kernel
theorem dX11_putOnTape_8 : decode cX11_putOnTape 8 = .ok (.getfield 13, 3) := by decide +kernel
theorem dX11_putOnTape_11 : decode cX11_putOnTape 11 = .ok (.sipush 900, 3) := by decide +kernel
theorem dX11_putOnTape_14 : decode cX11_putOnTape 14 = .ok (.if_icmp .ge 32, 3) := by decide +kernel
theorem dX11_putOnTape_17 : decode cX11_putOnTape 17 = .ok (.aload_n 0, 1) := by decide +kernel
theorem dX11_putOnTape_18 : decode cX11_putOnTape 18 = .ok (.getfield 9, 3) := by decide +kernel
theorem dX11_putOnTape_21 : decode cX11_putOnTape 21 = .ok (.aload_n 0, 1) := by decide +kernel
theorem dX11_putOnTape_22 : decode cX11_putOnTape 22 = .ok (.getfield 13, 3) := by decide +kernel
theorem dX11_putOnTape_25 : decode cX11_putOnTape 25 = .ok (.iload_n 1, 1) := by decide +kernel
theorem dX11_putOnTape_26 : decode cX11_putOnTape 26 = .ok (.iload_n 2, 1) := by decide +kernel
theorem dX11_putOnTape_27 : decode cX11_putOnTape 27 = .ok (.ishr, 1) := by decide +kernel
theorem dX11_putOnTape_28 : decode cX11_putOnTape 28 = .ok (.i2b, 1) := by decide +kernel
theorem dX11_putOnTape_29 : decode cX11_putOnTape 29 = .ok (.bastore, 1) := by decide +kernel
theorem dX11_putOnTape_30 : decode cX11_putOnTape 30 = .ok (.aload_n 0, 1) := by decide +kernel
theorem dX11_putOnTape_31 : decode cX11_putOnTape 31 = .ok (.dup, 1) := by decide +kernel
theorem dX11_putOnTape_32 : decode cX11_putOnTape 32 = .ok (.getfield 13, 3) := by decide +kernel
theorem dX11_putOnTape_35 : decode cX11_putOnTape 35 = .ok (.iconst 1, 1) := by decide +kernel
theorem dX11_putOnTape_36 : decode cX11_putOnTape 36 = .ok (.iadd, 1) := by decide +kernel
theorem dX11_putOnTape_37 : decode cX11_putOnTape 37 = .ok (.putfield 13, 3) := by decide +kernel
theorem dX11_putOnTape_40 : decode cX11_putOnTape 40 = .ok (.iinc 2 (-8), 3) := by decide +kernel
theorem dX11_putOnTape_43 : decode cX11_putOnTape 43 = .ok (.goto (-40), 3) := by decide +kernel
theorem dX11_putOnTape_46 : decode cX11_putOnTape 46 = .ok (.return_, 1) := by decide +kernel
theorem dX11_restore_0 : decode cX11_restore 0 = .ok (.iload_n 1, 1) := by decide +kernel
theorem dX11_restore_1 : decode cX11_restore 1 = .ok (.invokestatic 374, 3) := by decide +kernel
theorem dX11_restore_4 : decode cX11_restore 4 = .ok (.ifCond .ne 6, 3) := by decide +kernel
theorem dX11_restore_7 : decode cX11_restore 7 = .ok (.bipush (-2), 2) := by decide +kernel
theorem dX11_restore_9 : decode cX11_restore 9 = .ok (.ireturn, 1) := by decide +kernel
theorem dX11_restore_10 : decode cX11_restore 10 = .ok (.aload_n 0, 1) := by decide +kernel
theorem dX11_restore_11 : decode cX11_restore 11 = .ok (.getfield 53, 3) := by decide +kernel
theorem dX11_restore_14 : decode cX11_restore 14 = .ok (.iload_n 1, 1) := by decide +kernel
theorem dX11_restore_15 : decode cX11_restore 15 = .ok (.aaload, 1) := by decide +kernel
theorem dX11_restore_16 : decode cX11_restore 16 = .ok (.ifnonnull 6, 3) := by decide +kernel
theorem dX11_restore_19 : decode cX11_restore 19 = .ok (.bipush (-5), 2) := by decide +kernel
theorem dX11_restore_21 : decode cX11_restore 21 = .ok (.ireturn, 1) := by decide +kernel
theorem dX11_restore_22 : decode cX11_restore 22 = .ok (.aload_n 0, 1) := by decide +kernel
theorem dX11_restore_23 : decode cX11_restore 23 = .ok (.aload_n 0, 1) := by decide +kernel
theorem dX11_restore_24 : decode cX11_restore 24 = .ok (.getfield 53, 3) := by decide +kernel
theorem dX11_restore_27 : decode cX11_restore 27 = .ok (.iload_n 1, 1) := by decide +kernel
theorem dX11_restore_28 : decode cX11_restore 28 = .ok (.aaload, 1) := by decide +kernel
theorem dX11_restore_29 : decode cX11_restore 29 = .ok (.putfield 29, 3) := by decide +kernel
theorem dX11_restore_32 : decode cX11_restore 32 = .ok (.aload_n 0, 1) := by decide +kernel
theorem dX11_restore_33 : decode cX11_restore 33 = .ok (.getfield 36, 3) := by decide +kernel
theorem dX11_restore_36 : decode cX11_restore 36 = .ok (.aload_n 0, 1) := by decide +kernel
theorem dX11_restore_37 : decode cX11_restore 37 = .ok (.getfield 57, 3) := by decide +kernel
theorem dX11_restore_40 : decode cX11_restore 40 = .ok (.iload_n 1, 1) := by decide +kernel
theorem dX11_restore_41 : decode cX11_restore 41 = .ok (.aaload, 1) := by decide +kernel
theorem dX11_restore_42 : decode cX11_restore 42 = .ok (.invokevirtual 135, 3) := by decide +kernel
theorem dX11_restore_45 : decode cX11_restore 45 = .ok (.aload_n 0, 1) := by decide +kernel
theorem dX11_restore_46 : decode cX11_restore 46 = .ok (.iconst 0, 1) := by decide +kernel
theorem dX11_restore_47 : decode cX11_restore 47 = .ok (.putfield 47, 3) := by decide +kernel
theorem dX11_restore_50 : decode cX11_restore 50 = .ok (.iconst 0, 1) := by decide +kernel
theorem dX11_restore_51 : decode cX11_restore 51 = .ok (.ireturn, 1) := by decide +kernel
theorem dX11_wall_0 : decode cX11_wall 0 = .ok (.iload_n 1, 1) := by decide +kernel
theorem dX11_wall_1 : decode cX11_wall 1 = .ok (.ifCond .lt 11, 3) := by decide +kernel
theorem dX11_wall_4 : decode cX11_wall 4 = .ok (.iload_n 1, 1) := by decide +kernel
theorem dX11_wall_5 : decode cX11_wall 5 = .ok (.aload_n 0, 1) := by decide +kernel
theorem dX11_wall_6 : decode cX11_wall 6 = .ok (.getfield 13, 3) := by decide +kernel
theorem dX11_wall_9 : decode cX11_wall 9 = .ok (.if_icmp .le 6, 3) := by decide +kernel
theorem dX11_wall_12 : decode cX11_wall 12 = .ok (.bipush (-3), 2) := by decide +kernel
theorem dX11_wall_14 : decode cX11_wall 14 = .ok (.ireturn, 1) := by decide +kernel
theorem dX11_wall_15 : decode cX11_wall 15 = .ok (.aload_n 0, 1) := by decide +kernel
theorem dX11_wall_16 : decode cX11_wall 16 = .ok (.iconst 0, 1) := by decide +kernel
theorem dX11_wall_17 : decode cX11_wall 17 = .ok (.putfield 13, 3) := by decide +kernel
theorem dX11_wall_20 : decode cX11_wall 20 = .ok (.aload_n 0, 1) := by decide +kernel
theorem dX11_wall_21 : decode cX11_wall 21 = .ok (.getfield 20, 3) := by decide +kernel
theorem dX11_wall_24 : decode cX11_wall 24 = .ok (.aload_n 0, 1) := by decide +kernel
theorem dX11_wall_25 : decode cX11_wall 25 = .ok (.getfield 9, 3) := by decide +kernel
theorem dX11_wall_28 : decode cX11_wall 28 = .ok (.iload_n 1, 1) := by decide +kernel
theorem dX11_wall_29 : decode cX11_wall 29 = .ok (.invokevirtual 115, 3) := by decide +kernel
theorem dX11_wall_32 : decode cX11_wall 32 = .ok (.ifCond .ne 17, 3) := by decide +kernel
theorem dX11_wall_35 : decode cX11_wall 35 = .ok (.bipush (-30), 2) := by decide +kernel
theorem dX11_wall_37 : decode cX11_wall 37 = .ok (.aload_n 0, 1) := by decide +kernel
theorem dX11_wall_38 : decode cX11_wall 38 = .ok (.getfield 20, 3) := by decide +kernel
theorem dX11_wall_41 : decode cX11_wall 41 = .ok (.getfield 119, 3) := by decide +kernel
theorem dX11_wall_44 : decode cX11_wall 44 = .ok (.getfield 123, 3) := by decide +kernel
theorem dX11_wall_47 : decode cX11_wall 47 = .ok (.isub, 1) := by decide +kernel
theorem dX11_wall_48 : decode cX11_wall 48 = .ok (.ireturn, 1) := by decide +kernel
theorem dX11_wall_49 : decode cX11_wall 49 = .ok (.aload_n 0, 1) := by decide +kernel
theorem dX11_wall_50 : decode cX11_wall 50 = .ok (.aload_n 0, 1) := by decide +kernel
theorem dX11_wall_51 : decode cX11_wall 51 = .ok (.getfield 20, 3) := by decide +kernel
theorem dX11_wall_54 : decode cX11_wall 54 = .ok (.invokevirtual 128, 3) := by decide +kernel
theorem dX11_wall_57 : decode cX11_wall 57 = .ok (.putfield 29, 3) := by decide +kernel
theorem dX11_wall_60 : decode cX11_wall 60 = .ok (.aload_n 0, 1) := by decide +kernel
theorem dX11_wall_61 : decode cX11_wall 61 = .ok (.getfield 36, 3) := by decide +kernel
theorem dX11_wall_64 : decode cX11_wall 64 = .ok (.aload_n 0, 1) := by decide +kernel
theorem dX11_wall_65 : decode cX11_wall 65 = .ok (.getfield 20, 3) := by decide +kernel
theorem dX11_wall_68 : decode cX11_wall 68 = .ok (.getfield 132, 3) := by decide +kernel
theorem dX11_wall_71 : decode cX11_wall 71 = .ok (.invokevirtual 135, 3) := by decide +kernel
theorem dX11_wall_74 : decode cX11_wall 74 = .ok (.aload_n 0, 1) := by decide +kernel
theorem dX11_wall_75 : decode cX11_wall 75 = .ok (.iconst 0, 1) := by decide +kernel
theorem dX11_wall_76 : decode cX11_wall 76 = .ok (.putfield 47, 3) := by decide +kernel
theorem dX11_wall_79 : decode cX11_wall 79 = .ok (.aload_n 0, 1) := by decide +kernel
theorem dX11_wall_80 : decode cX11_wall 80 = .ok (.getfield 29, 3) := by decide +kernel
theorem dX11_wall_83 : decode cX11_wall 83 = .ok (.getfield 139, 3) := by decide +kernel
theorem dX11_wall_86 : decode cX11_wall 86 = .ok (.ireturn, 1) := by decide +kernel
theorem kw_217 : Cond.fieldLink "FootholdWall" 132 "FootholdWall$Reader" "told" "LFootholdWall$State;" ∈ gw := gw_of (tb_of 217 (by decide +kernel)) (by decide +kernel)
theorem kw_360 : Cond.fieldLink "FootholdWall" 9 "FootholdWall" "tape" "[B" ∈ gw := gw_of (tb_of 360 (by decide +kernel)) (by decide +kernel)
theorem kw_425 : Cond.methodLink "FootholdWall" 111 yX11_putOnTape ∈ gw := gw_of (tb_of 425 (by decide +kernel)) (by decide +kernel)
theorem kw_427 : Cond.instanceMethod yX11_putOnTape ∈ gw := gw_of (tb_of 427 (by decide +kernel)) (by decide +kernel)
theorem kw_428 : Cond.code yX11_putOnTape cX11_putOnTape 3 none ∈ gw := gw_of (tb_of 428 (by decide +kernel)) (by decide +kernel)
theorem kw_433 : Cond.methodLink "FootholdWall" 115 yX4_read ∈ gw := gw_of (tb_of 433 (by decide +kernel)) (by decide +kernel)
theorem kw_434 : Cond.instanceMethod yX4_read ∈ gw := gw_of (tb_of 434 (by decide +kernel)) (by decide +kernel)
theorem kw_435 : Cond.selects "FootholdWall$Reader" yX4_read yX4_read ∈ gw := gw_of (tb_of 435 (by decide +kernel)) (by decide +kernel)
theorem kw_436 : Cond.code yX4_read cX4_read 4 (some (.boolean)) ∈ gw := gw_of (tb_of 436 (by decide +kernel)) (by decide +kernel)
theorem kw_711 : Cond.methodLink "FootholdWall" 128 yX4_made ∈ gw := gw_of (tb_of 711 (by decide +kernel)) (by decide +kernel)
theorem kw_712 : Cond.instanceMethod yX4_made ∈ gw := gw_of (tb_of 712 (by decide +kernel)) (by decide +kernel)
theorem kw_713 : Cond.selects "FootholdWall$Reader" yX4_made yX4_made ∈ gw := gw_of (tb_of 713 (by decide +kernel)) (by decide +kernel)
theorem kw_714 : Cond.code yX4_made cX4_made 1 (some (.object "FootholdWall$Wall")) ∈ gw := gw_of (tb_of 714 (by decide +kernel)) (by decide +kernel)
theorem ks_0 : Cond.selects RX11 yX11_putOnTape yX11_putOnTape ∈ gw := gw_of (pv_of 0 (by decide +kernel)) (by decide +kernel)
