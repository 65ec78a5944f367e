theorem dX11_asksRow_0 : decode cX11_asksRow 0 = .ok (.iload_n 0, 1) := by decide +kernel
theorem dX11_asksRow_1 : decode cX11_asksRow 1 = .ok (.ifCond .eq 17, 3) := by decide +kernel
theorem dX11_asksRow_4 : decode cX11_asksRow 4 = .ok (.iload_n 0, 1) := by decide +kernel
theorem dX11_asksRow_5 : decode cX11_asksRow 5 = .ok (.bipush 10, 2) := by decide +kernel
theorem dX11_asksRow_7 : decode cX11_asksRow 7 = .ok (.if_icmp .lt 15, 3) := by decide +kernel
theorem dX11_asksRow_10 : decode cX11_asksRow 10 = .ok (.iload_n 0, 1) := by decide +kernel
theorem dX11_asksRow_11 : decode cX11_asksRow 11 = .ok (.bipush 10, 2) := by decide +kernel
theorem dX11_asksRow_13 : decode cX11_asksRow 13 = .ok (.iload_n 1, 1) := by decide +kernel
theorem dX11_asksRow_14 : decode cX11_asksRow 14 = .ok (.iadd, 1) := by decide +kernel
theorem dX11_asksRow_15 : decode cX11_asksRow 15 = .ok (.if_icmp .ge 7, 3) := by decide +kernel
theorem dX11_asksRow_18 : decode cX11_asksRow 18 = .ok (.iconst 1, 1) := by decide +kernel
theorem dX11_asksRow_19 : decode cX11_asksRow 19 = .ok (.goto 4, 3) := by decide +kernel
theorem dX11_asksRow_22 : decode cX11_asksRow 22 = .ok (.iconst 0, 1) := by decide +kernel
theorem dX11_asksRow_23 : decode cX11_asksRow 23 = .ok (.ireturn, 1) := by decide +kernel
theorem dX11_drawn_0 : decode cX11_drawn 0 = .ok (.ldc_w 298, 3) := by decide +kernel
theorem dX11_drawn_3 : decode cX11_drawn 3 = .ok (.iload_n 0, 1) := by decide +kernel
theorem dX11_drawn_4 : decode cX11_drawn 4 = .ok (.imul, 1) := by decide +kernel
theorem dX11_drawn_5 : decode cX11_drawn 5 = .ok (.sipush 12345, 3) := by decide +kernel
theorem dX11_drawn_8 : decode cX11_drawn 8 = .ok (.iadd, 1) := by decide +kernel
theorem dX11_drawn_9 : decode cX11_drawn 9 = .ok (.ireturn, 1) := by decide +kernel
theorem dX11_isGuide_0 : decode cX11_isGuide 0 = .ok (.iload_n 1, 1) := by decide +kernel
theorem dX11_isGuide_1 : decode cX11_isGuide 1 = .ok (.ifCond .lt 18, 3) := by decide +kernel
theorem dX11_isGuide_4 : decode cX11_isGuide 4 = .ok (.iload_n 1, 1) := by decide +kernel
theorem dX11_isGuide_5 : decode cX11_isGuide 5 = .ok (.aload_n 0, 1) := by decide +kernel
theorem dX11_isGuide_6 : decode cX11_isGuide 6 = .ok (.getfield 29, 3) := by decide +kernel
theorem dX11_isGuide_9 : decode cX11_isGuide 9 = .ok (.getfield 216, 3) := by decide +kernel
theorem dX11_isGuide_12 : decode cX11_isGuide 12 = .ok (.if_icmp .ge 7, 3) := by decide +kernel
theorem dX11_isGuide_15 : decode cX11_isGuide 15 = .ok (.iconst 1, 1) := by decide +kernel
theorem dX11_isGuide_16 : decode cX11_isGuide 16 = .ok (.goto 4, 3) := by decide +kernel
theorem dX11_isGuide_19 : decode cX11_isGuide 19 = .ok (.iconst 0, 1) := by decide +kernel
theorem dX11_isGuide_20 : decode cX11_isGuide 20 = .ok (.ireturn, 1) := by decide +kernel
theorem dX11_isHold_0 : decode cX11_isHold 0 = .ok (.iload_n 1, 1) := by decide +kernel
theorem dX11_isHold_1 : decode cX11_isHold 1 = .ok (.ifCond .lt 18, 3) := by decide +kernel
theorem dX11_isHold_4 : decode cX11_isHold 4 = .ok (.iload_n 1, 1) := by decide +kernel
theorem dX11_isHold_5 : decode cX11_isHold 5 = .ok (.aload_n 0, 1) := by decide +kernel
theorem dX11_isHold_6 : decode cX11_isHold 6 = .ok (.getfield 29, 3) := by decide +kernel
theorem dX11_isHold_9 : decode cX11_isHold 9 = .ok (.getfield 213, 3) := by decide +kernel
theorem dX11_isHold_12 : decode cX11_isHold 12 = .ok (.if_icmp .ge 7, 3) := by decide +kernel
theorem dX11_isHold_15 : decode cX11_isHold 15 = .ok (.iconst 1, 1) := by decide +kernel
theorem dX11_isHold_16 : decode cX11_isHold 16 = .ok (.goto 4, 3) := by decide +kernel
theorem dX11_isHold_19 : decode cX11_isHold 19 = .ok (.iconst 0, 1) := by decide +kernel
theorem dX11_isHold_20 : decode cX11_isHold 20 = .ok (.ireturn, 1) := by decide +kernel
theorem dX11_isImage_0 : decode cX11_isImage 0 = .ok (.iload_n 0, 1) := by decide +kernel
theorem dX11_isImage_1 : decode cX11_isImage 1 = .ok (.ifCond .lt 12, 3) := by decide +kernel
theorem dX11_isImage_4 : decode cX11_isImage 4 = .ok (.iload_n 0, 1) := by decide +kernel
theorem dX11_isImage_5 : decode cX11_isImage 5 = .ok (.iconst 2, 1) := by decide +kernel
theorem dX11_isImage_6 : decode cX11_isImage 6 = .ok (.if_icmp .ge 7, 3) := by decide +kernel
theorem dX11_isImage_9 : decode cX11_isImage 9 = .ok (.iconst 1, 1) := by decide +kernel
theorem dX11_isImage_10 : decode cX11_isImage 10 = .ok (.goto 4, 3) := by decide +kernel
theorem dX11_isImage_13 : decode cX11_isImage 13 = .ok (.iconst 0, 1) := by decide +kernel
theorem dX11_isImage_14 : decode cX11_isImage 14 = .ok (.ireturn, 1) := by decide +kernel
theorem dX11_isTray_0 : decode cX11_isTray 0 = .ok (.iload_n 0, 1) := by decide +kernel
theorem dX11_isTray_1 : decode cX11_isTray 1 = .ok (.ifCond .lt 12, 3) := by decide +kernel
theorem dX11_isTray_4 : decode cX11_isTray 4 = .ok (.iload_n 0, 1) := by decide +kernel
theorem dX11_isTray_5 : decode cX11_isTray 5 = .ok (.iconst 4, 1) := by decide +kernel
theorem dX11_isTray_6 : decode cX11_isTray 6 = .ok (.if_icmp .ge 7, 3) := by decide +kernel
theorem dX11_isTray_9 : decode cX11_isTray 9 = .ok (.iconst 1, 1) := by decide +kernel
theorem dX11_isTray_10 : decode cX11_isTray 10 = .ok (.goto 4, 3) := by decide +kernel
theorem dX11_isTray_13 : decode cX11_isTray 13 = .ok (.iconst 0, 1) := by decide +kernel
theorem dX11_isTray_14 : decode cX11_isTray 14 = .ok (.ireturn, 1) := by decide +kernel
theorem dX11_ofRow_0 : decode cX11_ofRow 0 = .ok (.iload_n 1, 1) := by decide +kernel
theorem dX11_ofRow_1 : decode cX11_ofRow 1 = .ok (.ifCond .ne 5, 3) := by decide +kernel
theorem dX11_ofRow_4 : decode cX11_ofRow 4 = .ok (.iconst (-1), 1) := by decide +kernel
theorem dX11_ofRow_5 : decode cX11_ofRow 5 = .ok (.ireturn, 1) := by decide +kernel
theorem dX11_ofRow_6 : decode cX11_ofRow 6 = .ok (.iload_n 2, 1) := by decide +kernel
theorem dX11_ofRow_7 : decode cX11_ofRow 7 = .ok (.ifCond .ne 5, 3) := by decide +kernel
theorem dX11_ofRow_10 : decode cX11_ofRow 10 = .ok (.iload_n 1, 1) := by decide +kernel
theorem dX11_ofRow_11 : decode cX11_ofRow 11 = .ok (.ireturn, 1) := by decide +kernel
theorem dX11_ofRow_12 : decode cX11_ofRow 12 = .ok (.iload_n 2, 1) := by decide +kernel
theorem dX11_ofRow_13 : decode cX11_ofRow 13 = .ok (.bipush 10, 2) := by decide +kernel
theorem dX11_ofRow_15 : decode cX11_ofRow 15 = .ok (.isub, 1) := by decide +kernel
theorem dX11_ofRow_16 : decode cX11_ofRow 16 = .ok (.istore_n 3, 1) := by decide +kernel
theorem dX11_ofRow_17 : decode cX11_ofRow 17 = .ok (.iload_n 3, 1) := by decide +kernel
theorem dX11_ofRow_18 : decode cX11_ofRow 18 = .ok (.ifCond .lt 20, 3) := by decide +kernel
theorem dX11_ofRow_21 : decode cX11_ofRow 21 = .ok (.iload_n 3, 1) := by decide +kernel
theorem dX11_ofRow_22 : decode cX11_ofRow 22 = .ok (.iload_n 1, 1) := by decide +kernel
theorem dX11_ofRow_23 : decode cX11_ofRow 23 = .ok (.if_icmp .ge 15, 3) := by decide +kernel
theorem dX11_ofRow_26 : decode cX11_ofRow 26 = .ok (.iload_n 3, 1) := by decide +kernel
theorem dX11_ofRow_27 : decode cX11_ofRow 27 = .ok (.aload_n 0, 1) := by decide +kernel
theorem dX11_ofRow_28 : decode cX11_ofRow 28 = .ok (.arraylength, 1) := by decide +kernel
theorem dX11_ofRow_29 : decode cX11_ofRow 29 = .ok (.if_icmp .ge 9, 3) := by decide +kernel
theorem dX11_ofRow_32 : decode cX11_ofRow 32 = .ok (.aload_n 0, 1) := by decide +kernel
theorem dX11_ofRow_33 : decode cX11_ofRow 33 = .ok (.iload_n 3, 1) := by decide +kernel
theorem dX11_ofRow_34 : decode cX11_ofRow 34 = .ok (.iaload, 1) := by decide +kernel
theorem dX11_ofRow_35 : decode cX11_ofRow 35 = .ok (.goto 4, 3) := by decide +kernel
theorem dX11_ofRow_38 : decode cX11_ofRow 38 = .ok (.iconst (-1), 1) := by decide +kernel
theorem dX11_ofRow_39 : decode cX11_ofRow 39 = .ok (.ireturn, 1) := by decide +kernel
theorem dX11_openNow_0 : decode cX11_openNow 0 = .ok (.aload_n 0, 1) := by decide +kernel
theorem dX11_openNow_1 : decode cX11_openNow 1 = .ok (.aload_n 0, 1) := by decide +kernel
theorem dX11_openNow_2 : decode cX11_openNow 2 = .ok (.getfield 36, 3) := by decide +kernel
theorem dX11_openNow_5 : decode cX11_openNow 5 = .ok (.getfield 161, 3) := by decide +kernel
theorem dX11_openNow_8 : decode cX11_openNow 8 = .ok (.invokevirtual 168, 3) := by decide +kernel
theorem dX11_openNow_11 : decode cX11_openNow 11 = .ok (.ireturn, 1) := by decide +kernel
theorem dX11_openOn_0 : decode cX11_openOn 0 = .ok (.aload_n 0, 1) := by decide +kernel
theorem dX11_openOn_1 : decode cX11_openOn 1 = .ok (.iload_n 1, 1) := by decide +kernel
theorem dX11_openOn_2 : decode cX11_openOn 2 = .ok (.invokevirtual 164, 3) := by decide +kernel
theorem dX11_openOn_5 : decode cX11_openOn 5 = .ok (.aload_n 0, 1) := by decide +kernel
theorem dX11_openOn_6 : decode cX11_openOn 6 = .ok (.getfield 36, 3) := by decide +kernel
theorem dX11_openOn_9 : decode cX11_openOn 9 = .ok (.getfield 222, 3) := by decide +kernel
theorem dX11_openOn_12 : decode cX11_openOn 12 = .ok (.iconst (-1), 1) := by decide +kernel
theorem dX11_openOn_13 : decode cX11_openOn 13 = .ok (.ixor, 1) := by decide +kernel
theorem dX11_openOn_14 : decode cX11_openOn 14 = .ok (.iand, 1) := by decide +kernel
theorem dX11_openOn_15 : decode cX11_openOn 15 = .ok (.ireturn, 1) := by decide +kernel
theorem dX11_rowsOf_0 : decode cX11_rowsOf 0 = .ok (.aload_n 0, 1) := by decide +kernel
theorem dX11_rowsOf_1 : decode cX11_rowsOf 1 = .ok (.getfield 68, 3) := by decide +kernel
theorem dX11_rowsOf_4 : decode cX11_rowsOf 4 = .ok (.iload_n 1, 1) := by decide +kernel
theorem dX11_rowsOf_5 : decode cX11_rowsOf 5 = .ok (.aaload, 1) := by decide +kernel
theorem dX11_rowsOf_6 : decode cX11_rowsOf 6 = .ok (.astore_n 2, 1) := by decide +kernel
theorem dX11_rowsOf_7 : decode cX11_rowsOf 7 = .ok (.aload_n 2, 1) := by decide +kernel
theorem dX11_rowsOf_8 : decode cX11_rowsOf 8 = .ok (.aload_n 0, 1) := by decide +kernel
theorem dX11_rowsOf_9 : decode cX11_rowsOf 9 = .ok (.getfield 29, 3) := by decide +kernel
theorem dX11_rowsOf_12 : decode cX11_rowsOf 12 = .ok (.aload_n 0, 1) := by decide +kernel
theorem dX11_rowsOf_13 : decode cX11_rowsOf 13 = .ok (.getfield 29, 3) := by decide +kernel
theorem dX11_rowsOf_16 : decode cX11_rowsOf 16 = .ok (.getfield 189, 3) := by decide +kernel
theorem dX11_rowsOf_19 : decode cX11_rowsOf 19 = .ok (.iload_n 1, 1) := by decide +kernel
theorem dX11_rowsOf_20 : decode cX11_rowsOf 20 = .ok (.iaload, 1) := by decide +kernel
theorem dX11_rowsOf_21 : decode cX11_rowsOf 21 = .ok (.aload_n 0, 1) := by decide +kernel
theorem dX11_rowsOf_22 : decode cX11_rowsOf 22 = .ok (.getfield 29, 3) := by decide +kernel
theorem dX11_rowsOf_25 : decode cX11_rowsOf 25 = .ok (.getfield 192, 3) := by decide +kernel
theorem dX11_rowsOf_28 : decode cX11_rowsOf 28 = .ok (.iload_n 1, 1) := by decide +kernel
theorem dX11_rowsOf_29 : decode cX11_rowsOf 29 = .ok (.iaload, 1) := by decide +kernel
theorem dX11_rowsOf_30 : decode cX11_rowsOf 30 = .ok (.aload_n 0, 1) := by decide +kernel
theorem dX11_rowsOf_31 : decode cX11_rowsOf 31 = .ok (.getfield 36, 3) := by decide +kernel
theorem dX11_rowsOf_34 : decode cX11_rowsOf 34 = .ok (.getfield 161, 3) := by decide +kernel
theorem dX11_rowsOf_37 : decode cX11_rowsOf 37 = .ok (.invokevirtual 225, 3) := by decide +kernel
theorem dX11_rowsOf_40 : decode cX11_rowsOf 40 = .ok (.aload_n 2, 1) := by decide +kernel
theorem dX11_rowsOf_41 : decode cX11_rowsOf 41 = .ok (.areturn, 1) := by decide +kernel
theorem dX11_thereOn_0 : decode cX11_thereOn 0 = .ok (.aload_n 0, 1) := by decide +kernel
theorem dX11_thereOn_1 : decode cX11_thereOn 1 = .ok (.getfield 29, 3) := by decide +kernel
theorem dX11_thereOn_4 : decode cX11_thereOn 4 = .ok (.iload_n 1, 1) := by decide +kernel
theorem dX11_thereOn_5 : decode cX11_thereOn 5 = .ok (.invokevirtual 219, 3) := by decide +kernel
theorem dX11_thereOn_8 : decode cX11_thereOn 8 = .ok (.aload_n 0, 1) := by decide +kernel
theorem dX11_thereOn_9 : decode cX11_thereOn 9 = .ok (.getfield 36, 3) := by decide +kernel
theorem dX11_thereOn_12 : decode cX11_thereOn 12 = .ok (.getfield 180, 3) := by decide +kernel
theorem dX11_thereOn_15 : decode cX11_thereOn 15 = .ok (.iconst (-1), 1) := by decide +kernel
theorem dX11_thereOn_16 : decode cX11_thereOn 16 = .ok (.ixor, 1) := by decide +kernel
theorem dX11_thereOn_17 : decode cX11_thereOn 17 = .ok (.iand, 1) := by decide +kernel
theorem dX11_thereOn_18 : decode cX11_thereOn 18 = .ok (.ireturn, 1) := by decide +kernel
theorem kw_1 : Cond.initialized "FootholdWall" ∈ gw := gw_of (tb_of 1 (by decide +kernel)) (by decide +kernel)
theorem kw_109 : Cond.fieldLink "FootholdWall" 213 "FootholdWall$Wall" "holds" "I" ∈ gw := gw_of (tb_of 109 (by decide +kernel)) (by decide +kernel)
theorem kw_112 : Cond.fieldLink "FootholdWall" 216 "FootholdWall$Wall" "guides" "I" ∈ gw := gw_of (tb_of 112 (by decide +kernel)) (by decide +kernel)
theorem kw_142 : Cond.fieldLink "FootholdWall" 189 "FootholdWall$Wall" "leg" "[I" ∈ gw := gw_of (tb_of 142 (by decide +kernel)) (by decide +kernel)
theorem kw_145 : Cond.fieldLink "FootholdWall" 192 "FootholdWall$Wall" "weight" "[I" ∈ gw := gw_of (tb_of 145 (by decide +kernel)) (by decide +kernel)
theorem kw_186 : Cond.fieldLink "FootholdWall" 222 "FootholdWall$State" "used" "I" ∈ gw := gw_of (tb_of 186 (by decide +kernel)) (by decide +kernel)
theorem kw_188 : Cond.fieldLink "FootholdWall" 180 "FootholdWall$State" "broken" "I" ∈ gw := gw_of (tb_of 188 (by decide +kernel)) (by decide +kernel)
theorem kw_191 : Cond.fieldLink "FootholdWall" 161 "FootholdWall$State" "day" "I" ∈ gw := gw_of (tb_of 191 (by decide +kernel)) (by decide +kernel)
theorem kw_363 : Cond.fieldLink "FootholdWall" 29 "FootholdWall" "wall" "LFootholdWall$Wall;" ∈ gw := gw_of (tb_of 363 (by decide +kernel)) (by decide +kernel)
theorem kw_364 : Cond.fieldLink "FootholdWall" 36 "FootholdWall" "state" "LFootholdWall$State;" ∈ gw := gw_of (tb_of 364 (by decide +kernel)) (by decide +kernel)
theorem kw_372 : Cond.fieldLink "FootholdWall" 68 "FootholdWall" "rows" "[LFootholdWall$Rows;" ∈ gw := gw_of (tb_of 372 (by decide +kernel)) (by decide +kernel)
theorem kw_774 : Cond.methodLink "FootholdWall" 164 yX11_thereOn ∈ gw := gw_of (tb_of 774 (by decide +kernel)) (by decide +kernel)
theorem kw_776 : Cond.instanceMethod yX11_thereOn ∈ gw := gw_of (tb_of 776 (by decide +kernel)) (by decide +kernel)
theorem kw_777 : Cond.code yX11_thereOn cX11_thereOn 2 (some (.int)) ∈ gw := gw_of (tb_of 777 (by decide +kernel)) (by decide +kernel)
theorem kw_778 : Cond.methodLink "FootholdWall" 219 yX9_comeBy ∈ gw := gw_of (tb_of 778 (by decide +kernel)) (by decide +kernel)
theorem kw_779 : Cond.instanceMethod yX9_comeBy ∈ gw := gw_of (tb_of 779 (by decide +kernel)) (by decide +kernel)
theorem kw_780 : Cond.selects "FootholdWall$Wall" yX9_comeBy yX9_comeBy ∈ gw := gw_of (tb_of 780 (by decide +kernel)) (by decide +kernel)
theorem kw_781 : Cond.code yX9_comeBy cX9_comeBy 4 (some (.int)) ∈ gw := gw_of (tb_of 781 (by decide +kernel)) (by decide +kernel)
theorem kw_782 : Cond.methodLink "FootholdWall" 168 yX11_openOn ∈ gw := gw_of (tb_of 782 (by decide +kernel)) (by decide +kernel)
theorem kw_784 : Cond.instanceMethod yX11_openOn ∈ gw := gw_of (tb_of 784 (by decide +kernel)) (by decide +kernel)
theorem kw_785 : Cond.code yX11_openOn cX11_openOn 2 (some (.int)) ∈ gw := gw_of (tb_of 785 (by decide +kernel)) (by decide +kernel)
theorem kw_834 : Cond.methodLink "FootholdWall" 225 yX5_aim ∈ gw := gw_of (tb_of 834 (by decide +kernel)) (by decide +kernel)
theorem kw_835 : Cond.instanceMethod yX5_aim ∈ gw := gw_of (tb_of 835 (by decide +kernel)) (by decide +kernel)
theorem kw_836 : Cond.selects "FootholdWall$Rows" yX5_aim yX5_aim ∈ gw := gw_of (tb_of 836 (by decide +kernel)) (by decide +kernel)
theorem kw_837 : Cond.code yX5_aim cX5_aim 7 none ∈ gw := gw_of (tb_of 837 (by decide +kernel)) (by decide +kernel)
theorem kw_965 : Cond.constant "FootholdWall" 298 1103515245 ∈ gw := gw_of (tb_of 965 (by decide +kernel)) (by decide +kernel)
theorem ks_18 : Cond.selects RX11 yX11_thereOn yX11_thereOn ∈ gw := gw_of (pv_of 18 (by decide +kernel)) (by decide +kernel)
theorem ks_19 : Cond.selects RX11 yX11_openOn yX11_openOn ∈ gw := gw_of (pv_of 19 (by decide +kernel)) (by decide +kernel)
