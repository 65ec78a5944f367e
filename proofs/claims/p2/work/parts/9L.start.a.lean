theorem dL_law_0 : decode code 0 = .ok (.new 7, 3) := by decide +kernel
theorem dL_law_3 : decode code 3 = .ok (.dup, 1) := by decide +kernel
theorem dL_law_4 : decode code 4 = .ok (.invokespecial 9, 3) := by decide +kernel
theorem dL_law_7 : decode code 7 = .ok (.astore_n 1, 1) := by decide +kernel
theorem dL_law_8 : decode code 8 = .ok (.new 10, 3) := by decide +kernel
theorem dL_law_11 : decode code 11 = .ok (.dup, 1) := by decide +kernel
theorem dL_law_12 : decode code 12 = .ok (.invokespecial 12, 3) := by decide +kernel
theorem dL_law_15 : decode code 15 = .ok (.astore_n 2, 1) := by decide +kernel
theorem dL_law_16 : decode code 16 = .ok (.iconst 0, 1) := by decide +kernel
theorem dL_law_17 : decode code 17 = .ok (.istore_n 3, 1) := by decide +kernel
theorem kw_24 : Cond.classLink "FootholdWallLaw" 7 "FootholdWall" ∈ gw := gw_of (tb_of 24 (by decide +kernel)) (by decide +kernel)
theorem kw_25 : Cond.instantiable "FootholdWall" 20 ∈ gw := gw_of (tb_of 25 (by decide +kernel)) (by decide +kernel)
theorem kw_26 : Cond.methodLink "FootholdWallLaw" 9 yX11_init ∈ gw := gw_of (tb_of 26 (by decide +kernel)) (by decide +kernel)
theorem kw_27 : Cond.instanceMethod yX11_init ∈ gw := gw_of (tb_of 27 (by decide +kernel)) (by decide +kernel)
theorem kw_28 : Cond.code yX11_init cX11_init 2 none ∈ gw := gw_of (tb_of 28 (by decide +kernel)) (by decide +kernel)
theorem kw_1213 : Cond.classLink "FootholdWallLaw" 10 "FootholdWallModel" ∈ gw := gw_of (tb_of 1213 (by decide +kernel)) (by decide +kernel)
theorem kw_1214 : Cond.instantiable "FootholdWallModel" 36 ∈ gw := gw_of (tb_of 1214 (by decide +kernel)) (by decide +kernel)
theorem kw_1215 : Cond.methodLink "FootholdWallLaw" 12 yX12_init ∈ gw := gw_of (tb_of 1215 (by decide +kernel)) (by decide +kernel)
theorem kw_1216 : Cond.instanceMethod yX12_init ∈ gw := gw_of (tb_of 1216 (by decide +kernel)) (by decide +kernel)
theorem kw_1217 : Cond.code yX12_init cX12_init 1 none ∈ gw := gw_of (tb_of 1217 (by decide +kernel)) (by decide +kernel)
