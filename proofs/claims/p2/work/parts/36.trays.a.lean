theorem dX11_count_0 : decode cX11_count 0 = .ok (.iload_n 1, 1) := by decide +kernel
theorem dX11_count_1 : decode cX11_count 1 = .ok (.tableswitch 135 0 9 #[55, 63, 71, 79, 87, 98, 106, 111, 116, 124], 55) := by decide +kernel
theorem dX11_count_56 : decode cX11_count 56 = .ok (.aload_n 0, 1) := by decide +kernel
theorem dX11_count_57 : decode cX11_count 57 = .ok (.getfield 29, 3) := by decide +kernel
theorem dX11_count_60 : decode cX11_count 60 = .ok (.getfield 213, 3) := by decide +kernel
theorem dX11_count_63 : decode cX11_count 63 = .ok (.ireturn, 1) := by decide +kernel
theorem dX11_count_64 : decode cX11_count 64 = .ok (.aload_n 0, 1) := by decide +kernel
theorem dX11_count_65 : decode cX11_count 65 = .ok (.getfield 29, 3) := by decide +kernel
theorem dX11_count_68 : decode cX11_count 68 = .ok (.getfield 216, 3) := by decide +kernel
theorem dX11_count_71 : decode cX11_count 71 = .ok (.ireturn, 1) := by decide +kernel
theorem dX11_count_72 : decode cX11_count 72 = .ok (.aload_n 0, 1) := by decide +kernel
theorem dX11_count_73 : decode cX11_count 73 = .ok (.getfield 36, 3) := by decide +kernel
theorem dX11_count_76 : decode cX11_count 76 = .ok (.getfield 161, 3) := by decide +kernel
theorem dX11_count_79 : decode cX11_count 79 = .ok (.ireturn, 1) := by decide +kernel
theorem dX11_count_80 : decode cX11_count 80 = .ok (.aload_n 0, 1) := by decide +kernel
theorem dX11_count_81 : decode cX11_count 81 = .ok (.getfield 36, 3) := by decide +kernel
theorem dX11_count_84 : decode cX11_count 84 = .ok (.getfield 284, 3) := by decide +kernel
theorem dX11_count_87 : decode cX11_count 87 = .ok (.ireturn, 1) := by decide +kernel
theorem dX11_count_88 : decode cX11_count 88 = .ok (.aload_n 0, 1) := by decide +kernel
theorem dX11_count_89 : decode cX11_count 89 = .ok (.getfield 36, 3) := by decide +kernel
theorem dX11_count_92 : decode cX11_count 92 = .ok (.getfield 222, 3) := by decide +kernel
theorem dX11_count_95 : decode cX11_count 95 = .ok (.invokestatic 243, 3) := by decide +kernel
theorem dX11_count_98 : decode cX11_count 98 = .ok (.ireturn, 1) := by decide +kernel
theorem dX11_count_99 : decode cX11_count 99 = .ok (.aload_n 0, 1) := by decide +kernel
theorem dX11_count_100 : decode cX11_count 100 = .ok (.invokevirtual 206, 3) := by decide +kernel
theorem dX11_count_103 : decode cX11_count 103 = .ok (.invokestatic 243, 3) := by decide +kernel
theorem dX11_count_106 : decode cX11_count 106 = .ok (.ireturn, 1) := by decide +kernel
theorem dX11_count_107 : decode cX11_count 107 = .ok (.aload_n 0, 1) := by decide +kernel
theorem dX11_count_108 : decode cX11_count 108 = .ok (.getfield 47, 3) := by decide +kernel
theorem dX11_count_111 : decode cX11_count 111 = .ok (.ireturn, 1) := by decide +kernel
theorem dX11_count_112 : decode cX11_count 112 = .ok (.aload_n 0, 1) := by decide +kernel
theorem dX11_count_113 : decode cX11_count 113 = .ok (.getfield 13, 3) := by decide +kernel
theorem dX11_count_116 : decode cX11_count 116 = .ok (.ireturn, 1) := by decide +kernel
theorem dX11_count_117 : decode cX11_count 117 = .ok (.aload_n 0, 1) := by decide +kernel
theorem dX11_count_118 : decode cX11_count 118 = .ok (.getfield 29, 3) := by decide +kernel
theorem dX11_count_121 : decode cX11_count 121 = .ok (.getfield 139, 3) := by decide +kernel
theorem dX11_count_124 : decode cX11_count 124 = .ok (.ireturn, 1) := by decide +kernel
theorem dX11_count_125 : decode cX11_count 125 = .ok (.aload_n 0, 1) := by decide +kernel
theorem dX11_count_126 : decode cX11_count 126 = .ok (.getfield 36, 3) := by decide +kernel
theorem dX11_count_129 : decode cX11_count 129 = .ok (.getfield 180, 3) := by decide +kernel
theorem dX11_count_132 : decode cX11_count 132 = .ok (.invokestatic 243, 3) := by decide +kernel
theorem dX11_count_135 : decode cX11_count 135 = .ok (.ireturn, 1) := by decide +kernel
theorem dX11_count_136 : decode cX11_count 136 = .ok (.iconst (-1), 1) := by decide +kernel
theorem dX11_count_137 : decode cX11_count 137 = .ok (.ireturn, 1) := by decide +kernel
theorem dX11_image_0 : decode cX11_image 0 = .ok (.iload_n 1, 1) := by decide +kernel
theorem dX11_image_1 : decode cX11_image 1 = .ok (.invokestatic 374, 3) := by decide +kernel
theorem dX11_image_4 : decode cX11_image 4 = .ok (.ifCond .ne 6, 3) := by decide +kernel
theorem dX11_image_7 : decode cX11_image 7 = .ok (.bipush (-2), 2) := by decide +kernel
theorem dX11_image_9 : decode cX11_image 9 = .ok (.ireturn, 1) := by decide +kernel
theorem dX11_image_10 : decode cX11_image 10 = .ok (.aload_n 0, 1) := by decide +kernel
theorem dX11_image_11 : decode cX11_image 11 = .ok (.getfield 53, 3) := by decide +kernel
theorem dX11_image_14 : decode cX11_image 14 = .ok (.iload_n 1, 1) := by decide +kernel
theorem dX11_image_15 : decode cX11_image 15 = .ok (.aload_n 0, 1) := by decide +kernel
theorem dX11_image_16 : decode cX11_image 16 = .ok (.getfield 29, 3) := by decide +kernel
theorem dX11_image_19 : decode cX11_image 19 = .ok (.aastore, 1) := by decide +kernel
theorem dX11_image_20 : decode cX11_image 20 = .ok (.aload_n 0, 1) := by decide +kernel
theorem dX11_image_21 : decode cX11_image 21 = .ok (.getfield 57, 3) := by decide +kernel
theorem dX11_image_24 : decode cX11_image 24 = .ok (.iload_n 1, 1) := by decide +kernel
theorem dX11_image_25 : decode cX11_image 25 = .ok (.aaload, 1) := by decide +kernel
theorem dX11_image_26 : decode cX11_image 26 = .ok (.aload_n 0, 1) := by decide +kernel
theorem dX11_image_27 : decode cX11_image 27 = .ok (.getfield 36, 3) := by decide +kernel
theorem dX11_image_30 : decode cX11_image 30 = .ok (.invokevirtual 135, 3) := by decide +kernel
theorem dX11_image_33 : decode cX11_image 33 = .ok (.iconst 0, 1) := by decide +kernel
theorem dX11_image_34 : decode cX11_image 34 = .ok (.ireturn, 1) := by decide +kernel
theorem dX11_lists_0 : decode cX11_lists 0 = .ok (.iload_n 1, 1) := by decide +kernel
theorem dX11_lists_1 : decode cX11_lists 1 = .ok (.invokestatic 229, 3) := by decide +kernel
theorem dX11_lists_4 : decode cX11_lists 4 = .ok (.ifCond .eq 11, 3) := by decide +kernel
theorem dX11_lists_7 : decode cX11_lists 7 = .ok (.aload_n 0, 1) := by decide +kernel
theorem dX11_lists_8 : decode cX11_lists 8 = .ok (.iload_n 2, 1) := by decide +kernel
theorem dX11_lists_9 : decode cX11_lists 9 = .ok (.invokevirtual 186, 3) := by decide +kernel
theorem dX11_lists_12 : decode cX11_lists 12 = .ok (.ifCond .ne 6, 3) := by decide +kernel
theorem dX11_lists_15 : decode cX11_lists 15 = .ok (.bipush (-2), 2) := by decide +kernel
theorem dX11_lists_17 : decode cX11_lists 17 = .ok (.ireturn, 1) := by decide +kernel
theorem dX11_lists_18 : decode cX11_lists 18 = .ok (.aload_n 0, 1) := by decide +kernel
theorem dX11_lists_19 : decode cX11_lists 19 = .ok (.getfield 62, 3) := by decide +kernel
theorem dX11_lists_22 : decode cX11_lists 22 = .ok (.iload_n 1, 1) := by decide +kernel
theorem dX11_lists_23 : decode cX11_lists 23 = .ok (.aaload, 1) := by decide +kernel
theorem dX11_lists_24 : decode cX11_lists 24 = .ok (.astore_n 3, 1) := by decide +kernel
theorem dX11_lists_25 : decode cX11_lists 25 = .ok (.aload_n 3, 1) := by decide +kernel
theorem dX11_lists_26 : decode cX11_lists 26 = .ok (.invokevirtual 232, 3) := by decide +kernel
theorem dX11_lists_29 : decode cX11_lists 29 = .ok (.ifCond .eq 6, 3) := by decide +kernel
theorem dX11_lists_32 : decode cX11_lists 32 = .ok (.bipush (-6), 2) := by decide +kernel
theorem dX11_lists_34 : decode cX11_lists 34 = .ok (.ireturn, 1) := by decide +kernel
theorem dX11_lists_35 : decode cX11_lists 35 = .ok (.aload_n 0, 1) := by decide +kernel
theorem dX11_lists_36 : decode cX11_lists 36 = .ok (.getfield 82, 3) := by decide +kernel
theorem dX11_lists_39 : decode cX11_lists 39 = .ok (.aload_n 0, 1) := by decide +kernel
theorem dX11_lists_40 : decode cX11_lists 40 = .ok (.iload_n 2, 1) := by decide +kernel
theorem dX11_lists_41 : decode cX11_lists 41 = .ok (.invokevirtual 202, 3) := by decide +kernel
theorem dX11_lists_44 : decode cX11_lists 44 = .ok (.aload_n 0, 1) := by decide +kernel
theorem dX11_lists_45 : decode cX11_lists 45 = .ok (.invokevirtual 206, 3) := by decide +kernel
theorem dX11_lists_48 : decode cX11_lists 48 = .ok (.invokevirtual 271, 3) := by decide +kernel
theorem dX11_lists_51 : decode cX11_lists 51 = .ok (.istore 4, 2) := by decide +kernel
theorem dX11_lists_53 : decode cX11_lists 53 = .ok (.iload 4, 2) := by decide +kernel
theorem dX11_lists_55 : decode cX11_lists 55 = .ok (.ifCond .ne 6, 3) := by decide +kernel
theorem dX11_lists_58 : decode cX11_lists 58 = .ok (.bipush (-5), 2) := by decide +kernel
theorem dX11_lists_60 : decode cX11_lists 60 = .ok (.ireturn, 1) := by decide +kernel
theorem dX11_lists_61 : decode cX11_lists 61 = .ok (.iload 4, 2) := by decide +kernel
theorem dX11_lists_63 : decode cX11_lists 63 = .ok (.iconst 1, 1) := by decide +kernel
theorem dX11_lists_64 : decode cX11_lists 64 = .ok (.iadd, 1) := by decide +kernel
theorem dX11_lists_65 : decode cX11_lists 65 = .ok (.aload_n 3, 1) := by decide +kernel
theorem dX11_lists_66 : decode cX11_lists 66 = .ok (.getfield 259, 3) := by decide +kernel
theorem dX11_lists_69 : decode cX11_lists 69 = .ok (.invokestatic 292, 3) := by decide +kernel
theorem dX11_lists_72 : decode cX11_lists 72 = .ok (.istore 5, 2) := by decide +kernel
theorem dX11_lists_74 : decode cX11_lists 74 = .ok (.iconst 0, 1) := by decide +kernel
theorem dX11_lists_75 : decode cX11_lists 75 = .ok (.istore 6, 2) := by decide +kernel
theorem dX11_lists_77 : decode cX11_lists 77 = .ok (.iload 6, 2) := by decide +kernel
theorem dX11_lists_79 : decode cX11_lists 79 = .ok (.iload 5, 2) := by decide +kernel
theorem dX11_lists_81 : decode cX11_lists 81 = .ok (.if_icmp .ge 39, 3) := by decide +kernel
theorem dX11_lists_84 : decode cX11_lists 84 = .ok (.aload_n 3, 1) := by decide +kernel
theorem dX11_lists_85 : decode cX11_lists 85 = .ok (.iload 6, 2) := by decide +kernel
theorem dX11_lists_87 : decode cX11_lists 87 = .ok (.iload 6, 2) := by decide +kernel
theorem dX11_lists_89 : decode cX11_lists 89 = .ok (.ifCond .ne 8, 3) := by decide +kernel
theorem dX11_lists_92 : decode cX11_lists 92 = .ok (.iload_n 2, 1) := by decide +kernel
theorem dX11_lists_93 : decode cX11_lists 93 = .ok (.i2l, 1) := by decide +kernel
theorem dX11_lists_94 : decode cX11_lists 94 = .ok (.goto 16, 3) := by decide +kernel
theorem dX11_lists_97 : decode cX11_lists 97 = .ok (.aload_n 0, 1) := by decide +kernel
theorem dX11_lists_98 : decode cX11_lists 98 = .ok (.getfield 82, 3) := by decide +kernel
theorem dX11_lists_101 : decode cX11_lists 101 = .ok (.getfield 303, 3) := by decide +kernel
theorem dX11_lists_104 : decode cX11_lists 104 = .ok (.iload 6, 2) := by decide +kernel
theorem dX11_lists_106 : decode cX11_lists 106 = .ok (.iconst 1, 1) := by decide +kernel
theorem dX11_lists_107 : decode cX11_lists 107 = .ok (.isub, 1) := by decide +kernel
theorem dX11_lists_108 : decode cX11_lists 108 = .ok (.iaload, 1) := by decide +kernel
theorem dX11_lists_109 : decode cX11_lists 109 = .ok (.i2l, 1) := by decide +kernel
theorem dX11_lists_110 : decode cX11_lists 110 = .ok (.invokevirtual 370, 3) := by decide +kernel
theorem dX11_lists_113 : decode cX11_lists 113 = .ok (.pop2, 1) := by decide +kernel
theorem dX11_lists_114 : decode cX11_lists 114 = .ok (.iinc 6 1, 3) := by decide +kernel
theorem dX11_lists_117 : decode cX11_lists 117 = .ok (.goto (-40), 3) := by decide +kernel
theorem dX11_lists_120 : decode cX11_lists 120 = .ok (.iload 5, 2) := by decide +kernel
theorem dX11_lists_122 : decode cX11_lists 122 = .ok (.ireturn, 1) := by decide +kernel
theorem dX11_numbers_0 : decode cX11_numbers 0 = .ok (.iload_n 1, 1) := by decide +kernel
theorem dX11_numbers_1 : decode cX11_numbers 1 = .ok (.invokestatic 229, 3) := by decide +kernel
theorem dX11_numbers_4 : decode cX11_numbers 4 = .ok (.ifCond .eq 12, 3) := by decide +kernel
theorem dX11_numbers_7 : decode cX11_numbers 7 = .ok (.iload_n 2, 1) := by decide +kernel
theorem dX11_numbers_8 : decode cX11_numbers 8 = .ok (.ifCond .lt 8, 3) := by decide +kernel
theorem dX11_numbers_11 : decode cX11_numbers 11 = .ok (.iload_n 2, 1) := by decide +kernel
theorem dX11_numbers_12 : decode cX11_numbers 12 = .ok (.iconst 3, 1) := by decide +kernel
theorem dX11_numbers_13 : decode cX11_numbers 13 = .ok (.if_icmp .le 6, 3) := by decide +kernel
theorem dX11_numbers_16 : decode cX11_numbers 16 = .ok (.bipush (-2), 2) := by decide +kernel
theorem dX11_numbers_18 : decode cX11_numbers 18 = .ok (.ireturn, 1) := by decide +kernel
theorem dX11_numbers_19 : decode cX11_numbers 19 = .ok (.iload_n 3, 1) := by decide +kernel
theorem dX11_numbers_20 : decode cX11_numbers 20 = .ok (.ifCond .lt 9, 3) := by decide +kernel
theorem dX11_numbers_23 : decode cX11_numbers 23 = .ok (.iload_n 3, 1) := by decide +kernel
theorem dX11_numbers_24 : decode cX11_numbers 24 = .ok (.bipush 40, 2) := by decide +kernel
theorem dX11_numbers_26 : decode cX11_numbers 26 = .ok (.if_icmp .le 6, 3) := by decide +kernel
theorem dX11_numbers_29 : decode cX11_numbers 29 = .ok (.bipush (-3), 2) := by decide +kernel
theorem dX11_numbers_31 : decode cX11_numbers 31 = .ok (.ireturn, 1) := by decide +kernel
theorem dX11_numbers_32 : decode cX11_numbers 32 = .ok (.aload_n 0, 1) := by decide +kernel
theorem dX11_numbers_33 : decode cX11_numbers 33 = .ok (.getfield 62, 3) := by decide +kernel
theorem dX11_numbers_36 : decode cX11_numbers 36 = .ok (.iload_n 1, 1) := by decide +kernel
theorem dX11_numbers_37 : decode cX11_numbers 37 = .ok (.aaload, 1) := by decide +kernel
theorem dX11_numbers_38 : decode cX11_numbers 38 = .ok (.iload_n 2, 1) := by decide +kernel
theorem dX11_numbers_39 : decode cX11_numbers 39 = .ok (.iload_n 3, 1) := by decide +kernel
theorem dX11_numbers_40 : decode cX11_numbers 40 = .ok (.invokevirtual 362, 3) := by decide +kernel
theorem dX11_numbers_43 : decode cX11_numbers 43 = .ok (.iconst 0, 1) := by decide +kernel
theorem dX11_numbers_44 : decode cX11_numbers 44 = .ok (.ireturn, 1) := by decide +kernel
theorem dX11_write_0 : decode cX11_write 0 = .ok (.iload_n 1, 1) := by decide +kernel
theorem dX11_write_1 : decode cX11_write 1 = .ok (.invokestatic 229, 3) := by decide +kernel
theorem dX11_write_4 : decode cX11_write 4 = .ok (.ifCond .ne 7, 3) := by decide +kernel
theorem dX11_write_7 : decode cX11_write 7 = .ok (.ldc2_w 314, 3) := by decide +kernel
theorem dX11_write_10 : decode cX11_write 10 = .ok (.lreturn, 1) := by decide +kernel
theorem dX11_write_11 : decode cX11_write 11 = .ok (.aload_n 0, 1) := by decide +kernel
theorem dX11_write_12 : decode cX11_write 12 = .ok (.getfield 62, 3) := by decide +kernel
theorem dX11_write_15 : decode cX11_write 15 = .ok (.iload_n 1, 1) := by decide +kernel
theorem dX11_write_16 : decode cX11_write 16 = .ok (.aaload, 1) := by decide +kernel
theorem dX11_write_17 : decode cX11_write 17 = .ok (.astore 5, 2) := by decide +kernel
theorem dX11_write_19 : decode cX11_write 19 = .ok (.aload 5, 2) := by decide +kernel
theorem dX11_write_21 : decode cX11_write 21 = .ok (.invokevirtual 232, 3) := by decide +kernel
theorem dX11_write_24 : decode cX11_write 24 = .ok (.ifCond .eq 7, 3) := by decide +kernel
theorem dX11_write_27 : decode cX11_write 27 = .ok (.ldc2_w 366, 3) := by decide +kernel
theorem dX11_write_30 : decode cX11_write 30 = .ok (.lreturn, 1) := by decide +kernel
theorem dX11_write_31 : decode cX11_write 31 = .ok (.iload_n 2, 1) := by decide +kernel
theorem dX11_write_32 : decode cX11_write 32 = .ok (.ifCond .lt 12, 3) := by decide +kernel
theorem dX11_write_35 : decode cX11_write 35 = .ok (.iload_n 2, 1) := by decide +kernel
theorem dX11_write_36 : decode cX11_write 36 = .ok (.aload 5, 2) := by decide +kernel
theorem dX11_write_38 : decode cX11_write 38 = .ok (.getfield 259, 3) := by decide +kernel
theorem dX11_write_41 : decode cX11_write 41 = .ok (.if_icmp .lt 7, 3) := by decide +kernel
theorem dX11_write_44 : decode cX11_write 44 = .ok (.ldc2_w 368, 3) := by decide +kernel
theorem dX11_write_47 : decode cX11_write 47 = .ok (.lreturn, 1) := by decide +kernel
theorem dX11_write_48 : decode cX11_write 48 = .ok (.aload 5, 2) := by decide +kernel
theorem dX11_write_50 : decode cX11_write 50 = .ok (.iload_n 2, 1) := by decide +kernel
theorem dX11_write_51 : decode cX11_write 51 = .ok (.lload_n 3, 1) := by decide +kernel
theorem dX11_write_52 : decode cX11_write 52 = .ok (.invokevirtual 370, 3) := by decide +kernel
theorem dX11_write_55 : decode cX11_write 55 = .ok (.lreturn, 1) := by decide +kernel
theorem kw_115 : Cond.fieldLink "FootholdWall" 139 "FootholdWall$Wall" "lines" "I" ∈ gw := gw_of (tb_of 115 (by decide +kernel)) (by decide +kernel)
theorem kw_361 : Cond.fieldLink "FootholdWall" 13 "FootholdWall" "tapeLength" "I" ∈ gw := gw_of (tb_of 361 (by decide +kernel)) (by decide +kernel)
theorem kw_369 : Cond.fieldLink "FootholdWall" 53 "FootholdWall" "imageWalls" "[LFootholdWall$Wall;" ∈ gw := gw_of (tb_of 369 (by decide +kernel)) (by decide +kernel)
theorem kw_370 : Cond.fieldLink "FootholdWall" 57 "FootholdWall" "imageStates" "[LFootholdWall$State;" ∈ gw := gw_of (tb_of 370 (by decide +kernel)) (by decide +kernel)
theorem kw_1177 : Cond.methodLink "FootholdWall" 362 yX8_lay ∈ gw := gw_of (tb_of 1177 (by decide +kernel)) (by decide +kernel)
theorem kw_1178 : Cond.instanceMethod yX8_lay ∈ gw := gw_of (tb_of 1178 (by decide +kernel)) (by decide +kernel)
theorem kw_1179 : Cond.selects "FootholdWall$Tray" yX8_lay yX8_lay ∈ gw := gw_of (tb_of 1179 (by decide +kernel)) (by decide +kernel)
theorem kw_1180 : Cond.code yX8_lay cX8_lay 3 none ∈ gw := gw_of (tb_of 1180 (by decide +kernel)) (by decide +kernel)
theorem kw_1188 : Cond.constantLong "FootholdWall" 366 (-6) ∈ gw := gw_of (tb_of 1188 (by decide +kernel)) (by decide +kernel)
theorem kw_1189 : Cond.constantLong "FootholdWall" 368 (-7) ∈ gw := gw_of (tb_of 1189 (by decide +kernel)) (by decide +kernel)
theorem kw_1190 : Cond.methodLink "FootholdWall" 370 yX8_put ∈ gw := gw_of (tb_of 1190 (by decide +kernel)) (by decide +kernel)
theorem kw_1191 : Cond.instanceMethod yX8_put ∈ gw := gw_of (tb_of 1191 (by decide +kernel)) (by decide +kernel)
theorem kw_1192 : Cond.selects "FootholdWall$Tray" yX8_put yX8_put ∈ gw := gw_of (tb_of 1192 (by decide +kernel)) (by decide +kernel)
theorem kw_1193 : Cond.code yX8_put cX8_put 4 (some (.long)) ∈ gw := gw_of (tb_of 1193 (by decide +kernel)) (by decide +kernel)
theorem kw_1202 : Cond.methodLink "FootholdWall" 374 yX11_isImage ∈ gw := gw_of (tb_of 1202 (by decide +kernel)) (by decide +kernel)
theorem kw_1203 : Cond.static yX11_isImage ∈ gw := gw_of (tb_of 1203 (by decide +kernel)) (by decide +kernel)
theorem kw_1204 : Cond.code yX11_isImage cX11_isImage 1 (some (.boolean)) ∈ gw := gw_of (tb_of 1204 (by decide +kernel)) (by decide +kernel)
