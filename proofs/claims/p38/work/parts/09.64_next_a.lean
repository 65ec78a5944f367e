theorem dX12_next_0 : decode cX12_next 0 = .ok (.aload_n 0, 1) := by decide +kernel
theorem dX12_next_1 : decode cX12_next 1 = .ok (.aload_n 0, 1) := by decide +kernel
theorem dX12_next_2 : decode cX12_next 2 = .ok (.getfield 103, 3) := by decide +kernel
theorem dX12_next_5 : decode cX12_next 5 = .ok (.putfield 100, 3) := by decide +kernel
theorem dX12_next_8 : decode cX12_next 8 = .ok (.aload_n 0, 1) := by decide +kernel
theorem dX12_next_9 : decode cX12_next 9 = .ok (.aload_n 0, 1) := by decide +kernel
theorem dX12_next_10 : decode cX12_next 10 = .ok (.getfield 100, 3) := by decide +kernel
theorem dX12_next_13 : decode cX12_next 13 = .ok (.invokevirtual 106, 3) := by decide +kernel
theorem dX12_next_16 : decode cX12_next 16 = .ok (.bipush 10, 2) := by decide +kernel
theorem dX12_next_18 : decode cX12_next 18 = .ok (.if_icmp .eq 16, 3) := by decide +kernel
theorem dX12_next_21 : decode cX12_next 21 = .ok (.aload_n 0, 1) := by decide +kernel
theorem dX12_next_22 : decode cX12_next 22 = .ok (.aload_n 0, 1) := by decide +kernel
theorem dX12_next_23 : decode cX12_next 23 = .ok (.getfield 100, 3) := by decide +kernel
theorem dX12_next_26 : decode cX12_next 26 = .ok (.invokevirtual 106, 3) := by decide +kernel
theorem dX12_next_29 : decode cX12_next 29 = .ok (.bipush 32, 2) := by decide +kernel
theorem dX12_next_31 : decode cX12_next 31 = .ok (.if_icmp .ne 16, 3) := by decide +kernel
theorem dX12_next_34 : decode cX12_next 34 = .ok (.aload_n 0, 1) := by decide +kernel
theorem dX12_next_35 : decode cX12_next 35 = .ok (.dup, 1) := by decide +kernel
theorem dX12_next_36 : decode cX12_next 36 = .ok (.getfield 100, 3) := by decide +kernel
theorem dX12_next_39 : decode cX12_next 39 = .ok (.iconst 1, 1) := by decide +kernel
theorem dX12_next_40 : decode cX12_next 40 = .ok (.iadd, 1) := by decide +kernel
theorem dX12_next_41 : decode cX12_next 41 = .ok (.putfield 100, 3) := by decide +kernel
theorem dX12_next_44 : decode cX12_next 44 = .ok (.goto (-36), 3) := by decide +kernel
theorem dX12_next_47 : decode cX12_next 47 = .ok (.aload_n 0, 1) := by decide +kernel
theorem dX12_next_48 : decode cX12_next 48 = .ok (.aload_n 0, 1) := by decide +kernel
theorem dX12_next_49 : decode cX12_next 49 = .ok (.getfield 100, 3) := by decide +kernel
theorem dX12_next_52 : decode cX12_next 52 = .ok (.putfield 103, 3) := by decide +kernel
theorem dX12_next_55 : decode cX12_next 55 = .ok (.aload_n 0, 1) := by decide +kernel
theorem dX12_next_56 : decode cX12_next 56 = .ok (.getfield 100, 3) := by decide +kernel
theorem dX12_next_59 : decode cX12_next 59 = .ok (.aload_n 0, 1) := by decide +kernel
theorem dX12_next_60 : decode cX12_next 60 = .ok (.getfield 85, 3) := by decide +kernel
theorem dX12_next_63 : decode cX12_next 63 = .ok (.if_icmp .lt 12, 3) := by decide +kernel
theorem dX12_next_66 : decode cX12_next 66 = .ok (.aload_n 0, 1) := by decide +kernel
theorem dX12_next_67 : decode cX12_next 67 = .ok (.bipush 22, 2) := by decide +kernel
theorem dX12_next_69 : decode cX12_next 69 = .ok (.putfield 110, 3) := by decide +kernel
theorem dX12_next_72 : decode cX12_next 72 = .ok (.goto 222, 3) := by decide +kernel
theorem dX12_next_75 : decode cX12_next 75 = .ok (.aload_n 0, 1) := by decide +kernel
theorem dX12_next_76 : decode cX12_next 76 = .ok (.aload_n 0, 1) := by decide +kernel
theorem dX12_next_77 : decode cX12_next 77 = .ok (.getfield 100, 3) := by decide +kernel
theorem dX12_next_80 : decode cX12_next 80 = .ok (.invokevirtual 106, 3) := by decide +kernel
theorem dX12_next_83 : decode cX12_next 83 = .ok (.invokestatic 113, 3) := by decide +kernel
theorem dX12_next_86 : decode cX12_next 86 = .ok (.ifCond .eq 41, 3) := by decide +kernel
theorem dX12_next_89 : decode cX12_next 89 = .ok (.aload_n 0, 1) := by decide +kernel
theorem dX12_next_90 : decode cX12_next 90 = .ok (.aload_n 0, 1) := by decide +kernel
theorem dX12_next_91 : decode cX12_next 91 = .ok (.getfield 103, 3) := by decide +kernel
theorem dX12_next_94 : decode cX12_next 94 = .ok (.invokevirtual 106, 3) := by decide +kernel
theorem dX12_next_97 : decode cX12_next 97 = .ok (.invokestatic 113, 3) := by decide +kernel
theorem dX12_next_100 : decode cX12_next 100 = .ok (.ifCond .eq 16, 3) := by decide +kernel
theorem dX12_next_103 : decode cX12_next 103 = .ok (.aload_n 0, 1) := by decide +kernel
theorem dX12_next_104 : decode cX12_next 104 = .ok (.dup, 1) := by decide +kernel
theorem dX12_next_105 : decode cX12_next 105 = .ok (.getfield 103, 3) := by decide +kernel
theorem dX12_next_108 : decode cX12_next 108 = .ok (.iconst 1, 1) := by decide +kernel
theorem dX12_next_109 : decode cX12_next 109 = .ok (.iadd, 1) := by decide +kernel
theorem dX12_next_110 : decode cX12_next 110 = .ok (.putfield 103, 3) := by decide +kernel
theorem dX12_next_113 : decode cX12_next 113 = .ok (.goto (-24), 3) := by decide +kernel
theorem dX12_next_116 : decode cX12_next 116 = .ok (.aload_n 0, 1) := by decide +kernel
theorem dX12_next_117 : decode cX12_next 117 = .ok (.aload_n 0, 1) := by decide +kernel
theorem dX12_next_118 : decode cX12_next 118 = .ok (.invokevirtual 117, 3) := by decide +kernel
theorem dX12_next_121 : decode cX12_next 121 = .ok (.putfield 110, 3) := by decide +kernel
theorem dX12_next_124 : decode cX12_next 124 = .ok (.goto 170, 3) := by decide +kernel
theorem dX12_next_127 : decode cX12_next 127 = .ok (.aload_n 0, 1) := by decide +kernel
theorem dX12_next_128 : decode cX12_next 128 = .ok (.aload_n 0, 1) := by decide +kernel
theorem dX12_next_129 : decode cX12_next 129 = .ok (.getfield 100, 3) := by decide +kernel
theorem dX12_next_132 : decode cX12_next 132 = .ok (.invokevirtual 106, 3) := by decide +kernel
theorem dX12_next_135 : decode cX12_next 135 = .ok (.invokestatic 120, 3) := by decide +kernel
theorem dX12_next_138 : decode cX12_next 138 = .ok (.ifCond .eq 98, 3) := by decide +kernel
theorem dX12_next_141 : decode cX12_next 141 = .ok (.aload_n 0, 1) := by decide +kernel
theorem dX12_next_142 : decode cX12_next 142 = .ok (.iconst 0, 1) := by decide +kernel
theorem dX12_next_143 : decode cX12_next 143 = .ok (.putfield 123, 3) := by decide +kernel
theorem dX12_next_146 : decode cX12_next 146 = .ok (.aload_n 0, 1) := by decide +kernel
theorem dX12_next_147 : decode cX12_next 147 = .ok (.aload_n 0, 1) := by decide +kernel
theorem dX12_next_148 : decode cX12_next 148 = .ok (.getfield 103, 3) := by decide +kernel
theorem dX12_next_151 : decode cX12_next 151 = .ok (.invokevirtual 106, 3) := by decide +kernel
theorem dX12_next_154 : decode cX12_next 154 = .ok (.invokestatic 120, 3) := by decide +kernel
theorem dX12_next_157 : decode cX12_next 157 = .ok (.ifCond .eq 52, 3) := by decide +kernel
theorem dX12_next_160 : decode cX12_next 160 = .ok (.aload_n 0, 1) := by decide +kernel
theorem dX12_next_161 : decode cX12_next 161 = .ok (.getfield 103, 3) := by decide +kernel
theorem dX12_next_164 : decode cX12_next 164 = .ok (.aload_n 0, 1) := by decide +kernel
theorem dX12_next_165 : decode cX12_next 165 = .ok (.getfield 100, 3) := by decide +kernel
theorem dX12_next_168 : decode cX12_next 168 = .ok (.isub, 1) := by decide +kernel
theorem dX12_next_169 : decode cX12_next 169 = .ok (.iconst 3, 1) := by decide +kernel
theorem dX12_next_170 : decode cX12_next 170 = .ok (.if_icmp .ge 26, 3) := by decide +kernel
theorem dX12_next_173 : decode cX12_next 173 = .ok (.aload_n 0, 1) := by decide +kernel
theorem dX12_next_174 : decode cX12_next 174 = .ok (.bipush 10, 2) := by decide +kernel
theorem dX12_next_176 : decode cX12_next 176 = .ok (.aload_n 0, 1) := by decide +kernel
theorem dX12_next_177 : decode cX12_next 177 = .ok (.getfield 123, 3) := by decide +kernel
theorem dX12_next_180 : decode cX12_next 180 = .ok (.imul, 1) := by decide +kernel
theorem dX12_next_181 : decode cX12_next 181 = .ok (.aload_n 0, 1) := by decide +kernel
theorem dX12_next_182 : decode cX12_next 182 = .ok (.aload_n 0, 1) := by decide +kernel
theorem dX12_next_183 : decode cX12_next 183 = .ok (.getfield 103, 3) := by decide +kernel
theorem dX12_next_186 : decode cX12_next 186 = .ok (.invokevirtual 106, 3) := by decide +kernel
theorem dX12_next_189 : decode cX12_next 189 = .ok (.iadd, 1) := by decide +kernel
theorem dX12_next_190 : decode cX12_next 190 = .ok (.bipush 48, 2) := by decide +kernel
theorem dX12_next_192 : decode cX12_next 192 = .ok (.isub, 1) := by decide +kernel
theorem dX12_next_193 : decode cX12_next 193 = .ok (.putfield 123, 3) := by decide +kernel
theorem dX12_next_196 : decode cX12_next 196 = .ok (.aload_n 0, 1) := by decide +kernel
theorem dX12_next_197 : decode cX12_next 197 = .ok (.dup, 1) := by decide +kernel
theorem dX12_next_198 : decode cX12_next 198 = .ok (.getfield 103, 3) := by decide +kernel
theorem dX12_next_201 : decode cX12_next 201 = .ok (.iconst 1, 1) := by decide +kernel
theorem dX12_next_202 : decode cX12_next 202 = .ok (.iadd, 1) := by decide +kernel
theorem dX12_next_203 : decode cX12_next 203 = .ok (.putfield 103, 3) := by decide +kernel
theorem dX12_next_206 : decode cX12_next 206 = .ok (.goto (-60), 3) := by decide +kernel
theorem dX12_next_209 : decode cX12_next 209 = .ok (.aload_n 0, 1) := by decide +kernel
theorem dX12_next_210 : decode cX12_next 210 = .ok (.aload_n 0, 1) := by decide +kernel
theorem dX12_next_211 : decode cX12_next 211 = .ok (.getfield 103, 3) := by decide +kernel
theorem dX12_next_214 : decode cX12_next 214 = .ok (.aload_n 0, 1) := by decide +kernel
theorem dX12_next_215 : decode cX12_next 215 = .ok (.getfield 100, 3) := by decide +kernel
theorem dX12_next_218 : decode cX12_next 218 = .ok (.isub, 1) := by decide +kernel
theorem dX12_next_219 : decode cX12_next 219 = .ok (.iconst 3, 1) := by decide +kernel
theorem dX12_next_220 : decode cX12_next 220 = .ok (.if_icmp .le 8, 3) := by decide +kernel
theorem dX12_next_223 : decode cX12_next 223 = .ok (.bipush 23, 2) := by decide +kernel
theorem dX12_next_225 : decode cX12_next 225 = .ok (.goto 5, 3) := by decide +kernel
theorem dX12_next_228 : decode cX12_next 228 = .ok (.bipush 21, 2) := by decide +kernel
theorem dX12_next_230 : decode cX12_next 230 = .ok (.putfield 110, 3) := by decide +kernel
theorem dX12_next_233 : decode cX12_next 233 = .ok (.goto 61, 3) := by decide +kernel
theorem dX12_next_236 : decode cX12_next 236 = .ok (.aload_n 0, 1) := by decide +kernel
theorem dX12_next_237 : decode cX12_next 237 = .ok (.dup, 1) := by decide +kernel
theorem dX12_next_238 : decode cX12_next 238 = .ok (.getfield 103, 3) := by decide +kernel
theorem dX12_next_241 : decode cX12_next 241 = .ok (.iconst 1, 1) := by decide +kernel
theorem dX12_next_242 : decode cX12_next 242 = .ok (.iadd, 1) := by decide +kernel
theorem dX12_next_243 : decode cX12_next 243 = .ok (.putfield 103, 3) := by decide +kernel
theorem dX12_next_246 : decode cX12_next 246 = .ok (.aload_n 0, 1) := by decide +kernel
theorem dX12_next_247 : decode cX12_next 247 = .ok (.bipush 23, 2) := by decide +kernel
theorem dX12_next_249 : decode cX12_next 249 = .ok (.putfield 110, 3) := by decide +kernel
theorem dX12_next_252 : decode cX12_next 252 = .ok (.iconst 0, 1) := by decide +kernel
theorem dX12_next_253 : decode cX12_next 253 = .ok (.istore_n 1, 1) := by decide +kernel
theorem dX12_next_254 : decode cX12_next 254 = .ok (.iload_n 1, 1) := by decide +kernel
theorem dX12_next_255 : decode cX12_next 255 = .ok (.ldc 126, 2) := by decide +kernel
theorem dX12_next_257 : decode cX12_next 257 = .ok (.invokevirtual 90, 3) := by decide +kernel
theorem dX12_next_260 : decode cX12_next 260 = .ok (.if_icmp .ge 34, 3) := by decide +kernel
theorem dX12_next_263 : decode cX12_next 263 = .ok (.aload_n 0, 1) := by decide +kernel
theorem dX12_next_264 : decode cX12_next 264 = .ok (.aload_n 0, 1) := by decide +kernel
theorem dX12_next_265 : decode cX12_next 265 = .ok (.getfield 100, 3) := by decide +kernel
theorem dX12_next_268 : decode cX12_next 268 = .ok (.invokevirtual 106, 3) := by decide +kernel
theorem dX12_next_271 : decode cX12_next 271 = .ok (.ldc 126, 2) := by decide +kernel
theorem dX12_next_273 : decode cX12_next 273 = .ok (.iload_n 1, 1) := by decide +kernel
theorem dX12_next_274 : decode cX12_next 274 = .ok (.invokevirtual 96, 3) := by decide +kernel
theorem dX12_next_277 : decode cX12_next 277 = .ok (.if_icmp .ne 11, 3) := by decide +kernel
theorem dX12_next_280 : decode cX12_next 280 = .ok (.aload_n 0, 1) := by decide +kernel
theorem dX12_next_281 : decode cX12_next 281 = .ok (.bipush 30, 2) := by decide +kernel
theorem dX12_next_283 : decode cX12_next 283 = .ok (.iload_n 1, 1) := by decide +kernel
theorem dX12_next_284 : decode cX12_next 284 = .ok (.iadd, 1) := by decide +kernel
theorem dX12_next_285 : decode cX12_next 285 = .ok (.putfield 110, 3) := by decide +kernel
theorem dX12_next_288 : decode cX12_next 288 = .ok (.iinc 1 1, 3) := by decide +kernel
theorem dX12_next_291 : decode cX12_next 291 = .ok (.goto (-37), 3) := by decide +kernel
theorem dX12_next_294 : decode cX12_next 294 = .ok (.return_, 1) := by decide +kernel
theorem kw_13 : Cond.initialized "FootholdWallModel" ∈ gw := gw_of (tb_of 13 (by decide +kernel)) (by decide +kernel)
theorem kw_1232 : Cond.fieldLink "FootholdWallModel" 110 "FootholdWallModel" "kind" "I" ∈ gw := gw_of (tb_of 1232 (by decide +kernel)) (by decide +kernel)
theorem kw_1233 : Cond.fieldLink "FootholdWallModel" 123 "FootholdWallModel" "number" "I" ∈ gw := gw_of (tb_of 1233 (by decide +kernel)) (by decide +kernel)
theorem kw_1348 : Cond.methodLink "FootholdWallModel" 106 yX12_see ∈ gw := gw_of (tb_of 1348 (by decide +kernel)) (by decide +kernel)
theorem kw_1350 : Cond.instanceMethod yX12_see ∈ gw := gw_of (tb_of 1350 (by decide +kernel)) (by decide +kernel)
theorem kw_1351 : Cond.code yX12_see cX12_see 2 (some (.int)) ∈ gw := gw_of (tb_of 1351 (by decide +kernel)) (by decide +kernel)
theorem kw_1352 : Cond.methodLink "FootholdWallModel" 113 yX12_isSmall ∈ gw := gw_of (tb_of 1352 (by decide +kernel)) (by decide +kernel)
theorem kw_1353 : Cond.static yX12_isSmall ∈ gw := gw_of (tb_of 1353 (by decide +kernel)) (by decide +kernel)
theorem kw_1354 : Cond.code yX12_isSmall cX12_isSmall 1 (some (.boolean)) ∈ gw := gw_of (tb_of 1354 (by decide +kernel)) (by decide +kernel)
theorem kw_1355 : Cond.methodLink "FootholdWallModel" 117 yX12_keyAt ∈ gw := gw_of (tb_of 1355 (by decide +kernel)) (by decide +kernel)
theorem kw_1357 : Cond.instanceMethod yX12_keyAt ∈ gw := gw_of (tb_of 1357 (by decide +kernel)) (by decide +kernel)
theorem kw_1358 : Cond.code yX12_keyAt cX12_keyAt 4 (some (.int)) ∈ gw := gw_of (tb_of 1358 (by decide +kernel)) (by decide +kernel)
theorem kw_1362 : Cond.methodLink "FootholdWallModel" 120 yX12_isDigit ∈ gw := gw_of (tb_of 1362 (by decide +kernel)) (by decide +kernel)
theorem kw_1363 : Cond.static yX12_isDigit ∈ gw := gw_of (tb_of 1363 (by decide +kernel)) (by decide +kernel)
theorem kw_1364 : Cond.code yX12_isDigit cX12_isDigit 1 (some (.boolean)) ∈ gw := gw_of (tb_of 1364 (by decide +kernel)) (by decide +kernel)
theorem ks_44 : Cond.selects RX12 yX12_see yX12_see ∈ gw := gw_of (pv_of 44 (by decide +kernel)) (by decide +kernel)
theorem ks_45 : Cond.selects RX12 yX12_keyAt yX12_keyAt ∈ gw := gw_of (pv_of 45 (by decide +kernel)) (by decide +kernel)
set_option maxHeartbeats 4000000 in
set_option maxRecDepth 100000 in
theorem s_M_next (l : Launch) (D : va_G) (cs : CS) (kf : KF) (T : TF) (O : List Nat) (X : va_W) (a0 hg mq : Nat) (o0 : Value) (o1 : Value) (o2 : Value) (y3 : Nat) (y4 : Nat) (o5 : Value) (y6 : Int32) (y7 : Int32) (y8 : Int32) (y9 : Int32) (y10 : Int32) (y11 : Int32) (y12 : Int32) (tl : List Value) (t_a0 : T a0 = some (22, hg, mq)) (b_hg : hg < 90) (t_y3 : T y3 = some (1, 900, 0)) (t_y4 : T y4 = some (8, 1302, 0)) (l_y6 : 0 ≤ y6.toInt) (u_y6 : y6.toInt ≤ 900) (l_y7 : 0 ≤ y7.toInt) (u_y7 : y7.toInt ≤ 900) (l_y8 : 0 ≤ y8.toInt) (u_y8 : y8.toInt ≤ 900) (l_y10 : 0 ≤ y10.toInt) (u_y10 : y10.toInt ≤ 999) (k2 : y7.toInt ≤ y8.toInt) (hO : okO T (a0 :: O) [1]) : TK l D cs kf yX12_next cX12_next 2 none { frames := 5, cells := 0, slots := 0, locals := 108 } [.ref a0] T (a0 :: O) ((a0, .inr (12, o0 :: o1 :: o2 :: (.ref y3) :: (.ref y4) :: o5 :: (.int y6) :: (.int y7) :: (.int y8) :: (.int y9) :: (.int y10) :: (.int y11) :: (.int y12) :: tl)) :: X) (Tv D cs (fun u => ∃ (n0_6 : Int32) (n0_7 : Int32) (n0_9 : Int32) (n0_10 : Int32), u = (T, a0 :: O, (a0, .inr (12, o0 :: o1 :: o2 :: (.ref y3) :: (.ref y4) :: o5 :: (.int n0_6) :: (.int n0_7) :: (.int y8) :: (.int n0_9) :: (.int n0_10) :: (.int y11) :: (.int y12) :: tl)) :: X) ∧ (y7.toInt ≤ n0_6.toInt) ∧ (n0_6.toInt ≤ n0_7.toInt) ∧ (n0_7.toInt ≤ y8.toInt) ∧ (TK3 n0_9 n0_6 n0_7) ∧ (0 ≤ n0_10.toInt) ∧ (n0_10.toInt ≤ 999))) := by
  refine tk_of (by decide) (Nat.le_of_ble_eq_true rfl) (fun p e s m below meth c ls A H locs hx hb hr hml hown hts hlocks hnm hkb hH hS hA hOX hks hE hl => ?_)
  have hown : s.vm.findClass RX12 = some m.cls := hown
  have hl : lv_has ls 2 [(0, .ref a0)] := hl
  have hOXf := hOX
  obtain ⟨e9, hs9, hH⟩ := HT.takeA hH t_y3 (hO.no t_y3 (by decide))
  obtain ⟨f3, rfl, -⟩ : ∃ f : Nat → Int32, e9 = .inl (cs.2.1, 900, .inl f) ∧ ∀ j, cp 0 (f j) := hs9
  have hO0 := hO
  have hO : okO T (y3 :: a0 :: O) [] := okO.cons (hO.sub (by decide)) t_y3 (by decide)
  refine lv_aload_n hx hb dX12_next_0 rfl (lv_at hl 0 rfl) ?_
  refine lv_aload_n hx hb dX12_next_1 rfl (lv_at hl 0 rfl) ?_
  refine x_getk (ci := 12) (C := RX12) (F := TX12) (N := 36) (v := .int y7) hx hb hts uX12 hown hkb hH 1 rfl rfl 7 (by decide) rfl kw_1230 (fun _ h9 => h9) dX12_next_2 ?_
  have J8 : ∀ (n : Nat) (f8_206 : Int32) (H : Heap) (locs : List Loc) (ls : Array Slot), (900 - f8_206.toInt).toNat = n → (0 ≤ f8_206.toInt) → (f8_206.toInt ≤ 900) → (y7.toInt ≤ f8_206.toInt ∧ f8_206.toInt ≤ y8.toInt) → HT D cs A T (y3 :: a0 :: O) ((y3, .inl (cs.2.1, 900, .inl f3)) :: (a0, .inr (12, o0 :: o1 :: o2 :: (.ref y3) :: (.ref y4) :: o5 :: (.int f8_206) :: (.int y7) :: (.int y8) :: (.int y9) :: (.int y10) :: (.int y11) :: (.int y12) :: tl)) :: X) H → va_S A s.heap H locs → lv_has ls 2 [(0, .ref a0)] → W p l e { frames := 5, cells := 0, slots := 0, locals := 108 } s m [.ref a0].toArray below meth c H locs 0 0 (MQ below (Tv D cs (fun u => ∃ (n0_6 : Int32) (n0_7 : Int32) (n0_9 : Int32) (n0_10 : Int32), u = (T, a0 :: O, (a0, .inr (12, o0 :: o1 :: o2 :: (.ref y3) :: (.ref y4) :: o5 :: (.int n0_6) :: (.int n0_7) :: (.int y8) :: (.int n0_9) :: (.int n0_10) :: (.int y11) :: (.int y12) :: tl)) :: X) ∧ (y7.toInt ≤ n0_6.toInt) ∧ (n0_6.toInt ≤ n0_7.toInt) ∧ (n0_7.toInt ≤ y8.toInt) ∧ (TK3 n0_9 n0_6 n0_7) ∧ (0 ≤ n0_10.toInt) ∧ (n0_10.toInt ≤ 999)) A) [.ref a0].toArray s 0 0 A) (F0 m 8 ls []) := by
    intro n
    induction n using Nat.strongRecOn with
    | _ n ih8 =>
      intro f8_206 H locs ls hm8 l_f8_206 u_f8_206 i8 hH hS hl
      refine lv_aload_n hx hb dX12_next_8 rfl (lv_at hl 0 rfl) ?_
      refine lv_aload_n hx hb dX12_next_9 rfl (lv_at hl 0 rfl) ?_
      refine x_getk (ci := 12) (C := RX12) (F := TX12) (N := 36) (v := .int f8_206) hx hb hts uX12 hown hkb hH 1 rfl rfl 6 (by decide) rfl kw_1229 (fun _ h9 => h9) dX12_next_10 ?_
      refine tk_i hH hS hA (tr_V (n := 1) (As := [.int f8_206]) hx hb hml hown hts hkb hH (ox_c (ox_map hOX rfl)) hks hE hS hA (s_M_see l D cs kf T O X a0 hg mq f8_206 f3 o0 o1 o2 y3 y4 o5 f8_206 y7 y8 y9 y10 y11 y12 tl t_a0 b_hg (by omega) t_y3 t_y4 (by omega) (by omega) (by omega) (by omega) (by omega) (by omega) (by omega) (by omega) (hO.sub (by decide))) kw_1348 kw_1350 ks_44 kw_13 kw_1351 (by decide +kernel) ⟨Nat.le_of_ble_eq_true rfl, Nat.le_of_ble_eq_true rfl⟩ (x_recv (ci := 12) hkb hH 1 rfl rfl) rfl rfl hl.1 (Nat.le_of_ble_eq_true rfl) dX12_next_13 ⟨Nat.le_of_ble_eq_true rfl, Nat.le_of_ble_eq_true rfl⟩) (fun v13 u H locs hz9 hH hS => ?_)
      obtain ⟨rfl, x_v130, x_v131⟩ := hz9
      have hH : HT D cs A T (y3 :: a0 :: O) ((y3, .inl (cs.2.1, 900, .inl f3)) :: (a0, .inr (12, o0 :: o1 :: o2 :: (.ref y3) :: (.ref y4) :: o5 :: (.int f8_206) :: (.int y7) :: (.int y8) :: (.int y9) :: (.int y10) :: (.int y11) :: (.int y12) :: tl)) :: X) H := hH
      refine W.widen (k := 0) (n := 0) (Nat.le_of_ble_eq_true rfl) (Nat.le_of_ble_eq_true rfl) ?_
      refine lv_bipush (v := 10) hx hb dX12_next_16 (by decide) ?_
      refine lv_icmp_eq (tgt := 34) hx hb dX12_next_18 (by decide) (fun c18 => ?_) (fun c18 => ?_)
      · skip
        have tc18 := f_eq (k := 10) (by decide) c18
        refine lv_aload_n hx hb dX12_next_34 rfl (lv_at hl 0 rfl) ?_
        refine lv_dup hx hb dX12_next_35 rfl ?_
        refine x_getk (ci := 12) (C := RX12) (F := TX12) (N := 36) (v := .int f8_206) hx hb hts uX12 hown hkb hH 1 rfl rfl 6 (by decide) rfl kw_1229 (fun _ h9 => h9) dX12_next_36 ?_
        refine lv_iconst (v := 1) hx hb dX12_next_39 (by decide) ?_
        refine lv_iadd hx hb dX12_next_40 ?_
        refine lv_topi (fun v40 ev40 => ?_)
        have tv40 : v40.toInt = f8_206.toInt + (1) := by rw [ev40]; exact add_i rfl (by decide : (1 : Int32).toInt = 1) (by omega) (by omega)
        refine x_putk (ci := 12) (v := .int v40) (ty := tyX12 6) (C := RX12) (F := TX12) (N := 36) hx hb hts uX12 tyX12 tyX12_ok nmX12 hown hkb hH hS 1 rfl rfl 6 (by decide) kw_1229 (fun _ h9 => h9) rfl (tyX12_ok 6 (by decide)) rfl rfl (by show 6 < tl.length + 13; omega) dX12_next_41 (fun H locs hH hS => ?_)
        have hH : HT D cs A T (y3 :: a0 :: O) ((y3, .inl (cs.2.1, 900, .inl f3)) :: (a0, .inr (12, o0 :: o1 :: o2 :: (.ref y3) :: (.ref y4) :: o5 :: (.int v40) :: (.int y7) :: (.int y8) :: (.int y9) :: (.int y10) :: (.int y11) :: (.int y12) :: tl)) :: X) H := hH
        refine lv_goto (tgt := 8) hx hb dX12_next_44 (by decide) ?_
        exact ih8 _ (by omega) v40 _ _ _ rfl (by omega) (by omega) (by omega) hH hS (lv_sub hl [0] rfl)
      · skip
        have tc18 := f_ne (k := 10) (by decide) c18
        refine lv_aload_n hx hb dX12_next_21 rfl (lv_at hl 0 rfl) ?_
        refine lv_aload_n hx hb dX12_next_22 rfl (lv_at hl 0 rfl) ?_
        refine x_getk (ci := 12) (C := RX12) (F := TX12) (N := 36) (v := .int f8_206) hx hb hts uX12 hown hkb hH 1 rfl rfl 6 (by decide) rfl kw_1229 (fun _ h9 => h9) dX12_next_23 ?_
        refine tk_i hH hS hA (tr_V (n := 1) (As := [.int f8_206]) hx hb hml hown hts hkb hH (ox_c (ox_map hOX rfl)) hks hE hS hA (s_M_see l D cs kf T O X a0 hg mq f8_206 f3 o0 o1 o2 y3 y4 o5 f8_206 y7 y8 y9 y10 y11 y12 tl t_a0 b_hg (by omega) t_y3 t_y4 (by omega) (by omega) (by omega) (by omega) (by omega) (by omega) (by omega) (by omega) (hO.sub (by decide))) kw_1348 kw_1350 ks_44 kw_13 kw_1351 (by decide +kernel) ⟨Nat.le_of_ble_eq_true rfl, Nat.le_of_ble_eq_true rfl⟩ (x_recv (ci := 12) hkb hH 1 rfl rfl) rfl rfl hl.1 (Nat.le_of_ble_eq_true rfl) dX12_next_26 ⟨Nat.le_of_ble_eq_true rfl, Nat.le_of_ble_eq_true rfl⟩) (fun v26 u H locs hz9 hH hS => ?_)
        obtain ⟨rfl, x_v260, x_v261⟩ := hz9
        have hH : HT D cs A T (y3 :: a0 :: O) ((y3, .inl (cs.2.1, 900, .inl f3)) :: (a0, .inr (12, o0 :: o1 :: o2 :: (.ref y3) :: (.ref y4) :: o5 :: (.int f8_206) :: (.int y7) :: (.int y8) :: (.int y9) :: (.int y10) :: (.int y11) :: (.int y12) :: tl)) :: X) H := hH
        refine W.widen (k := 0) (n := 0) (Nat.le_of_ble_eq_true rfl) (Nat.le_of_ble_eq_true rfl) ?_
        refine lv_bipush (v := 32) hx hb dX12_next_29 (by decide) ?_
        refine lv_icmp_ne (tgt := 47) hx hb dX12_next_31 (by decide) (fun c31 => ?_) (fun c31 => ?_)
        · skip
          have tc31 := f_ne (k := 32) (by decide) c31
          refine lv_aload_n hx hb dX12_next_47 rfl (lv_at hl 0 rfl) ?_
          refine lv_aload_n hx hb dX12_next_48 rfl (lv_at hl 0 rfl) ?_
          refine x_getk (ci := 12) (C := RX12) (F := TX12) (N := 36) (v := .int f8_206) hx hb hts uX12 hown hkb hH 1 rfl rfl 6 (by decide) rfl kw_1229 (fun _ h9 => h9) dX12_next_49 ?_
          refine x_putk (ci := 12) (v := .int f8_206) (ty := tyX12 7) (C := RX12) (F := TX12) (N := 36) hx hb hts uX12 tyX12 tyX12_ok nmX12 hown hkb hH hS 1 rfl rfl 7 (by decide) kw_1230 (fun _ h9 => h9) rfl (tyX12_ok 7 (by decide)) rfl rfl (by show 7 < tl.length + 13; omega) dX12_next_52 (fun H locs hH hS => ?_)
          have hH : HT D cs A T (y3 :: a0 :: O) ((y3, .inl (cs.2.1, 900, .inl f3)) :: (a0, .inr (12, o0 :: o1 :: o2 :: (.ref y3) :: (.ref y4) :: o5 :: (.int f8_206) :: (.int f8_206) :: (.int y8) :: (.int y9) :: (.int y10) :: (.int y11) :: (.int y12) :: tl)) :: X) H := hH
          refine lv_aload_n hx hb dX12_next_55 rfl (lv_at hl 0 rfl) ?_
          refine x_getk (ci := 12) (C := RX12) (F := TX12) (N := 36) (v := .int f8_206) hx hb hts uX12 hown hkb hH 1 rfl rfl 6 (by decide) rfl kw_1229 (fun _ h9 => h9) dX12_next_56 ?_
          refine lv_aload_n hx hb dX12_next_59 rfl (lv_at hl 0 rfl) ?_
          refine x_getk (ci := 12) (C := RX12) (F := TX12) (N := 36) (v := .int y8) hx hb hts uX12 hown hkb hH 1 rfl rfl 8 (by decide) rfl kw_1231 (fun _ h9 => h9) dX12_next_60 ?_
          refine lv_icmp_lt (tgt := 75) hx hb dX12_next_63 (by decide) (fun c63 => ?_) (fun c63 => ?_)
          · skip
            have fuc63 := full_i f8_206
            have fvc63 := full_i y8
            have tc63 := g_lt c63
            refine lv_aload_n hx hb dX12_next_75 rfl (lv_at hl 0 rfl) ?_
            refine lv_aload_n hx hb dX12_next_76 rfl (lv_at hl 0 rfl) ?_
            refine x_getk (ci := 12) (C := RX12) (F := TX12) (N := 36) (v := .int f8_206) hx hb hts uX12 hown hkb hH 1 rfl rfl 6 (by decide) rfl kw_1229 (fun _ h9 => h9) dX12_next_77 ?_
            refine tk_i hH hS hA (tr_V (n := 1) (As := [.int f8_206]) hx hb hml hown hts hkb hH (ox_c (ox_map hOX rfl)) hks hE hS hA (s_M_see l D cs kf T O X a0 hg mq f8_206 f3 o0 o1 o2 y3 y4 o5 f8_206 f8_206 y8 y9 y10 y11 y12 tl t_a0 b_hg (by omega) t_y3 t_y4 (by omega) (by omega) (by omega) (by omega) (by omega) (by omega) (by omega) (by omega) (hO.sub (by decide))) kw_1348 kw_1350 ks_44 kw_13 kw_1351 (by decide +kernel) ⟨Nat.le_of_ble_eq_true rfl, Nat.le_of_ble_eq_true rfl⟩ (x_recv (ci := 12) hkb hH 1 rfl rfl) rfl rfl hl.1 (Nat.le_of_ble_eq_true rfl) dX12_next_80 ⟨Nat.le_of_ble_eq_true rfl, Nat.le_of_ble_eq_true rfl⟩) (fun v80 u H locs hz9 hH hS => ?_)
            obtain ⟨rfl, x_v800, x_v801⟩ := hz9
            have hH : HT D cs A T (y3 :: a0 :: O) ((y3, .inl (cs.2.1, 900, .inl f3)) :: (a0, .inr (12, o0 :: o1 :: o2 :: (.ref y3) :: (.ref y4) :: o5 :: (.int f8_206) :: (.int f8_206) :: (.int y8) :: (.int y9) :: (.int y10) :: (.int y11) :: (.int y12) :: tl)) :: X) H := hH
            refine W.widen (k := 0) (n := 0) (Nat.le_of_ble_eq_true rfl) (Nat.le_of_ble_eq_true rfl) ?_
            refine tk_i hH hS hA (tr_S (n := 1) (As := [.int v80]) hx hb hml hown hts hkb hH (ox_c (ox_map hOX rfl)) hks hE hS hA (s_M_isSmall2 l D cs kf T (y3 :: a0 :: O) ((y3, .inl (cs.2.1, 900, .inl f3)) :: (a0, .inr (12, o0 :: o1 :: o2 :: (.ref y3) :: (.ref y4) :: o5 :: (.int f8_206) :: (.int f8_206) :: (.int y8) :: (.int y9) :: (.int y10) :: (.int y11) :: (.int y12) :: tl)) :: X) v80  (hO.sub (by decide))) kw_1352 kw_1353 kw_13 kw_1354 (by decide +kernel) ⟨Nat.le_of_ble_eq_true rfl, Nat.le_of_ble_eq_true rfl⟩ rfl rfl hl.1 (Nat.le_of_ble_eq_true rfl) dX12_next_83 ⟨Nat.le_of_ble_eq_true rfl, Nat.le_of_ble_eq_true rfl⟩) (fun v83 u H locs hz9 hH hS => ?_)
            obtain ⟨rfl, l_v83, u_v83, x_v830, x_v831⟩ := hz9
            have hH : HT D cs A T (y3 :: a0 :: O) ((y3, .inl (cs.2.1, 900, .inl f3)) :: (a0, .inr (12, o0 :: o1 :: o2 :: (.ref y3) :: (.ref y4) :: o5 :: (.int f8_206) :: (.int f8_206) :: (.int y8) :: (.int y9) :: (.int y10) :: (.int y11) :: (.int y12) :: tl)) :: X) H := hH
            refine W.widen (k := 0) (n := 0) (Nat.le_of_ble_eq_true rfl) (Nat.le_of_ble_eq_true rfl) ?_
            have J89 : ∀ (n : Nat) (f89_207 : Int32) (H : Heap) (locs : List Loc) (ls : Array Slot), (900 - f89_207.toInt).toNat = n → (0 ≤ f89_207.toInt) → (f89_207.toInt ≤ 900) → (f8_206.toInt ≤ f89_207.toInt ∧ f89_207.toInt ≤ y8.toInt) → (v83.toInt ≠ 0) → HT D cs A T (y3 :: a0 :: O) ((y3, .inl (cs.2.1, 900, .inl f3)) :: (a0, .inr (12, o0 :: o1 :: o2 :: (.ref y3) :: (.ref y4) :: o5 :: (.int f8_206) :: (.int f89_207) :: (.int y8) :: (.int y9) :: (.int y10) :: (.int y11) :: (.int y12) :: tl)) :: X) H → va_S A s.heap H locs → lv_has ls 2 [(0, .ref a0)] → W p l e { frames := 5, cells := 0, slots := 0, locals := 108 } s m [.ref a0].toArray below meth c H locs 0 0 (MQ below (Tv D cs (fun u => ∃ (n0_6 : Int32) (n0_7 : Int32) (n0_9 : Int32) (n0_10 : Int32), u = (T, a0 :: O, (a0, .inr (12, o0 :: o1 :: o2 :: (.ref y3) :: (.ref y4) :: o5 :: (.int n0_6) :: (.int n0_7) :: (.int y8) :: (.int n0_9) :: (.int n0_10) :: (.int y11) :: (.int y12) :: tl)) :: X) ∧ (y7.toInt ≤ n0_6.toInt) ∧ (n0_6.toInt ≤ n0_7.toInt) ∧ (n0_7.toInt ≤ y8.toInt) ∧ (TK3 n0_9 n0_6 n0_7) ∧ (0 ≤ n0_10.toInt) ∧ (n0_10.toInt ≤ 999)) A) [.ref a0].toArray s 0 0 A) (F0 m 89 ls []) := by
              intro n
              induction n using Nat.strongRecOn with
              | _ n ih89 =>
                intro f89_207 H locs ls hm89 l_f89_207 u_f89_207 i89 j89 hH hS hl
                refine lv_aload_n hx hb dX12_next_89 rfl (lv_at hl 0 rfl) ?_
                refine lv_aload_n hx hb dX12_next_90 rfl (lv_at hl 0 rfl) ?_
                refine x_getk (ci := 12) (C := RX12) (F := TX12) (N := 36) (v := .int f89_207) hx hb hts uX12 hown hkb hH 1 rfl rfl 7 (by decide) rfl kw_1230 (fun _ h9 => h9) dX12_next_91 ?_
                refine tk_i hH hS hA (tr_V (n := 1) (As := [.int f89_207]) hx hb hml hown hts hkb hH (ox_c (ox_map hOX rfl)) hks hE hS hA (s_M_see l D cs kf T O X a0 hg mq f89_207 f3 o0 o1 o2 y3 y4 o5 f8_206 f89_207 y8 y9 y10 y11 y12 tl t_a0 b_hg (by omega) t_y3 t_y4 (by omega) (by omega) (by omega) (by omega) (by omega) (by omega) (by omega) (by omega) (hO.sub (by decide))) kw_1348 kw_1350 ks_44 kw_13 kw_1351 (by decide +kernel) ⟨Nat.le_of_ble_eq_true rfl, Nat.le_of_ble_eq_true rfl⟩ (x_recv (ci := 12) hkb hH 1 rfl rfl) rfl rfl hl.1 (Nat.le_of_ble_eq_true rfl) dX12_next_94 ⟨Nat.le_of_ble_eq_true rfl, Nat.le_of_ble_eq_true rfl⟩) (fun v94 u H locs hz9 hH hS => ?_)
                obtain ⟨rfl, x_v940, x_v941⟩ := hz9
                have hH : HT D cs A T (y3 :: a0 :: O) ((y3, .inl (cs.2.1, 900, .inl f3)) :: (a0, .inr (12, o0 :: o1 :: o2 :: (.ref y3) :: (.ref y4) :: o5 :: (.int f8_206) :: (.int f89_207) :: (.int y8) :: (.int y9) :: (.int y10) :: (.int y11) :: (.int y12) :: tl)) :: X) H := hH
                refine W.widen (k := 0) (n := 0) (Nat.le_of_ble_eq_true rfl) (Nat.le_of_ble_eq_true rfl) ?_
                refine tk_i hH hS hA (tr_S (n := 1) (As := [.int v94]) hx hb hml hown hts hkb hH (ox_c (ox_map hOX rfl)) hks hE hS hA (s_M_isSmall2 l D cs kf T (y3 :: a0 :: O) ((y3, .inl (cs.2.1, 900, .inl f3)) :: (a0, .inr (12, o0 :: o1 :: o2 :: (.ref y3) :: (.ref y4) :: o5 :: (.int f8_206) :: (.int f89_207) :: (.int y8) :: (.int y9) :: (.int y10) :: (.int y11) :: (.int y12) :: tl)) :: X) v94  (hO.sub (by decide))) kw_1352 kw_1353 kw_13 kw_1354 (by decide +kernel) ⟨Nat.le_of_ble_eq_true rfl, Nat.le_of_ble_eq_true rfl⟩ rfl rfl hl.1 (Nat.le_of_ble_eq_true rfl) dX12_next_97 ⟨Nat.le_of_ble_eq_true rfl, Nat.le_of_ble_eq_true rfl⟩) (fun v97 u H locs hz9 hH hS => ?_)
                obtain ⟨rfl, l_v97, u_v97, x_v970, x_v971⟩ := hz9
                have hH : HT D cs A T (y3 :: a0 :: O) ((y3, .inl (cs.2.1, 900, .inl f3)) :: (a0, .inr (12, o0 :: o1 :: o2 :: (.ref y3) :: (.ref y4) :: o5 :: (.int f8_206) :: (.int f89_207) :: (.int y8) :: (.int y9) :: (.int y10) :: (.int y11) :: (.int y12) :: tl)) :: X) H := hH
                refine W.widen (k := 0) (n := 0) (Nat.le_of_ble_eq_true rfl) (Nat.le_of_ble_eq_true rfl) ?_
                refine lv_if_eq (tgt := 116) hx hb dX12_next_100 (by decide) (fun c100 => ?_) (fun c100 => ?_)
                · skip
                  have tc100 := f_eq (k := 0) (by decide) c100
                  have hq : f8_206.toInt ≠ f89_207.toInt := fun q => by have := see_same x_v800 x_v940 q; omega
                  refine lv_aload_n hx hb dX12_next_116 rfl (lv_at hl 0 rfl) ?_
                  refine lv_aload_n hx hb dX12_next_117 rfl (lv_at hl 0 rfl) ?_
                  refine tk_i hH hS hA (tr_V (n := 0) (As := []) hx hb hml hown hts hkb hH (ox_c (ox_map hOX rfl)) hks hE hS hA (s_M_keyAt l D cs kf T O X a0 hg mq f3 o0 o1 o2 y3 y4 o5 f8_206 f89_207 y8 y9 y10 y11 y12 tl t_a0 b_hg t_y3 t_y4 (by omega) (by omega) (by omega) (by omega) (by omega) (by omega) (by omega) (by omega) (by omega) (hO.sub (by decide))) kw_1355 kw_1357 ks_45 kw_13 kw_1358 (by decide +kernel) ⟨Nat.le_of_ble_eq_true rfl, Nat.le_of_ble_eq_true rfl⟩ (x_recv (ci := 12) hkb hH 1 rfl rfl) rfl rfl hl.1 (Nat.le_of_ble_eq_true rfl) dX12_next_118 ⟨Nat.le_of_ble_eq_true rfl, Nat.le_of_ble_eq_true rfl⟩) (fun v118 u H locs hz9 hH hS => ?_)
                  obtain ⟨rfl⟩ := hz9
                  have hH : HT D cs A T (y3 :: a0 :: O) ((y3, .inl (cs.2.1, 900, .inl f3)) :: (a0, .inr (12, o0 :: o1 :: o2 :: (.ref y3) :: (.ref y4) :: o5 :: (.int f8_206) :: (.int f89_207) :: (.int y8) :: (.int y9) :: (.int y10) :: (.int y11) :: (.int y12) :: tl)) :: X) H := hH
                  refine W.widen (k := 0) (n := 0) (Nat.le_of_ble_eq_true rfl) (Nat.le_of_ble_eq_true rfl) ?_
                  refine x_putk (ci := 12) (v := .int v118) (ty := tyX12 9) (C := RX12) (F := TX12) (N := 36) hx hb hts uX12 tyX12 tyX12_ok nmX12 hown hkb hH hS 1 rfl rfl 9 (by decide) kw_1232 (fun _ h9 => h9) rfl (tyX12_ok 9 (by decide)) rfl rfl (by show 9 < tl.length + 13; omega) dX12_next_121 (fun H locs hH hS => ?_)
                  have hH : HT D cs A T (y3 :: a0 :: O) ((y3, .inl (cs.2.1, 900, .inl f3)) :: (a0, .inr (12, o0 :: o1 :: o2 :: (.ref y3) :: (.ref y4) :: o5 :: (.int f8_206) :: (.int f89_207) :: (.int y8) :: (.int v118) :: (.int y10) :: (.int y11) :: (.int y12) :: tl)) :: X) H := hH
                  refine lv_goto (tgt := 294) hx hb dX12_next_124 (by decide) ?_
                  have hH : HT D cs A T (a0 :: O) ((a0, .inr (12, o0 :: o1 :: o2 :: (.ref y3) :: (.ref y4) :: o5 :: (.int f8_206) :: (.int f89_207) :: (.int y8) :: (.int v118) :: (.int y10) :: (.int y11) :: (.int y12) :: tl)) :: X) H := HT.layA hH t_y3 (show sp cs T (1, 900, 0) _ from ⟨f3, rfl, fun _ => cp_0 _⟩)
                  exact te_v hx hb hr hlocks hH hS (⟨f8_206, f89_207, v118, y10, rfl, by omega, by omega, by omega, (fun q => by omega), by omega, by omega⟩) dX12_next_294
                · skip
                  have tc100 := f_ne (k := 0) (by decide) c100
                  refine lv_aload_n hx hb dX12_next_103 rfl (lv_at hl 0 rfl) ?_
                  refine lv_dup hx hb dX12_next_104 rfl ?_
                  refine x_getk (ci := 12) (C := RX12) (F := TX12) (N := 36) (v := .int f89_207) hx hb hts uX12 hown hkb hH 1 rfl rfl 7 (by decide) rfl kw_1230 (fun _ h9 => h9) dX12_next_105 ?_
                  refine lv_iconst (v := 1) hx hb dX12_next_108 (by decide) ?_
                  refine lv_iadd hx hb dX12_next_109 ?_
                  refine lv_topi (fun v109 ev109 => ?_)
                  have tv109 : v109.toInt = f89_207.toInt + (1) := by rw [ev109]; exact add_i rfl (by decide : (1 : Int32).toInt = 1) (by omega) (by omega)
                  refine x_putk (ci := 12) (v := .int v109) (ty := tyX12 7) (C := RX12) (F := TX12) (N := 36) hx hb hts uX12 tyX12 tyX12_ok nmX12 hown hkb hH hS 1 rfl rfl 7 (by decide) kw_1230 (fun _ h9 => h9) rfl (tyX12_ok 7 (by decide)) rfl rfl (by show 7 < tl.length + 13; omega) dX12_next_110 (fun H locs hH hS => ?_)
                  have hH : HT D cs A T (y3 :: a0 :: O) ((y3, .inl (cs.2.1, 900, .inl f3)) :: (a0, .inr (12, o0 :: o1 :: o2 :: (.ref y3) :: (.ref y4) :: o5 :: (.int f8_206) :: (.int v109) :: (.int y8) :: (.int y9) :: (.int y10) :: (.int y11) :: (.int y12) :: tl)) :: X) H := hH
                  refine lv_goto (tgt := 89) hx hb dX12_next_113 (by decide) ?_
                  exact ih89 _ (by omega) v109 _ _ _ rfl (by omega) (by omega) (by omega) (by omega) hH hS (lv_sub hl [0] rfl)
            refine lv_if_eq (tgt := 127) hx hb dX12_next_86 (by decide) (fun c86 => ?_) (fun c86 => ?_)
            · skip
              have tc86 := f_eq (k := 0) (by decide) c86
              refine lv_aload_n hx hb dX12_next_127 rfl (lv_at hl 0 rfl) ?_
              refine lv_aload_n hx hb dX12_next_128 rfl (lv_at hl 0 rfl) ?_
              refine x_getk (ci := 12) (C := RX12) (F := TX12) (N := 36) (v := .int f8_206) hx hb hts uX12 hown hkb hH 1 rfl rfl 6 (by decide) rfl kw_1229 (fun _ h9 => h9) dX12_next_129 ?_
              refine tk_i hH hS hA (tr_V (n := 1) (As := [.int f8_206]) hx hb hml hown hts hkb hH (ox_c (ox_map hOX rfl)) hks hE hS hA (s_M_see l D cs kf T O X a0 hg mq f8_206 f3 o0 o1 o2 y3 y4 o5 f8_206 f8_206 y8 y9 y10 y11 y12 tl t_a0 b_hg (by omega) t_y3 t_y4 (by omega) (by omega) (by omega) (by omega) (by omega) (by omega) (by omega) (by omega) (hO.sub (by decide))) kw_1348 kw_1350 ks_44 kw_13 kw_1351 (by decide +kernel) ⟨Nat.le_of_ble_eq_true rfl, Nat.le_of_ble_eq_true rfl⟩ (x_recv (ci := 12) hkb hH 1 rfl rfl) rfl rfl hl.1 (Nat.le_of_ble_eq_true rfl) dX12_next_132 ⟨Nat.le_of_ble_eq_true rfl, Nat.le_of_ble_eq_true rfl⟩) (fun v132 u H locs hz9 hH hS => ?_)
              obtain ⟨rfl, x_v1320, x_v1321⟩ := hz9
              have hH : HT D cs A T (y3 :: a0 :: O) ((y3, .inl (cs.2.1, 900, .inl f3)) :: (a0, .inr (12, o0 :: o1 :: o2 :: (.ref y3) :: (.ref y4) :: o5 :: (.int f8_206) :: (.int f8_206) :: (.int y8) :: (.int y9) :: (.int y10) :: (.int y11) :: (.int y12) :: tl)) :: X) H := hH
              refine W.widen (k := 0) (n := 0) (Nat.le_of_ble_eq_true rfl) (Nat.le_of_ble_eq_true rfl) ?_
              refine tk_i hH hS hA (tr_S (n := 1) (As := [.int v132]) hx hb hml hown hts hkb hH (ox_c (ox_map hOX rfl)) hks hE hS hA (s_M_isDigit2 l D cs kf T (y3 :: a0 :: O) ((y3, .inl (cs.2.1, 900, .inl f3)) :: (a0, .inr (12, o0 :: o1 :: o2 :: (.ref y3) :: (.ref y4) :: o5 :: (.int f8_206) :: (.int f8_206) :: (.int y8) :: (.int y9) :: (.int y10) :: (.int y11) :: (.int y12) :: tl)) :: X) v132  (hO.sub (by decide))) kw_1362 kw_1363 kw_13 kw_1364 (by decide +kernel) ⟨Nat.le_of_ble_eq_true rfl, Nat.le_of_ble_eq_true rfl⟩ rfl rfl hl.1 (Nat.le_of_ble_eq_true rfl) dX12_next_135 ⟨Nat.le_of_ble_eq_true rfl, Nat.le_of_ble_eq_true rfl⟩) (fun v135 u H locs hz9 hH hS => ?_)
              obtain ⟨rfl, l_v135, u_v135, x_v1350, x_v1351⟩ := hz9
              have hH : HT D cs A T (y3 :: a0 :: O) ((y3, .inl (cs.2.1, 900, .inl f3)) :: (a0, .inr (12, o0 :: o1 :: o2 :: (.ref y3) :: (.ref y4) :: o5 :: (.int f8_206) :: (.int f8_206) :: (.int y8) :: (.int y9) :: (.int y10) :: (.int y11) :: (.int y12) :: tl)) :: X) H := hH
              refine W.widen (k := 0) (n := 0) (Nat.le_of_ble_eq_true rfl) (Nat.le_of_ble_eq_true rfl) ?_
              refine lv_if_eq (tgt := 236) hx hb dX12_next_138 (by decide) (fun c138 => ?_) (fun c138 => ?_)
              · skip
                have tc138 := f_eq (k := 0) (by decide) c138
                refine lv_aload_n hx hb dX12_next_236 rfl (lv_at hl 0 rfl) ?_
                refine lv_dup hx hb dX12_next_237 rfl ?_
                refine x_getk (ci := 12) (C := RX12) (F := TX12) (N := 36) (v := .int f8_206) hx hb hts uX12 hown hkb hH 1 rfl rfl 7 (by decide) rfl kw_1230 (fun _ h9 => h9) dX12_next_238 ?_
                refine lv_iconst (v := 1) hx hb dX12_next_241 (by decide) ?_
                refine lv_iadd hx hb dX12_next_242 ?_
                refine lv_topi (fun v242 ev242 => ?_)
                have tv242 : v242.toInt = f8_206.toInt + (1) := by rw [ev242]; exact add_i rfl (by decide : (1 : Int32).toInt = 1) (by omega) (by omega)
                refine x_putk (ci := 12) (v := .int v242) (ty := tyX12 7) (C := RX12) (F := TX12) (N := 36) hx hb hts uX12 tyX12 tyX12_ok nmX12 hown hkb hH hS 1 rfl rfl 7 (by decide) kw_1230 (fun _ h9 => h9) rfl (tyX12_ok 7 (by decide)) rfl rfl (by show 7 < tl.length + 13; omega) dX12_next_243 (fun H locs hH hS => ?_)
                have hH : HT D cs A T (y3 :: a0 :: O) ((y3, .inl (cs.2.1, 900, .inl f3)) :: (a0, .inr (12, o0 :: o1 :: o2 :: (.ref y3) :: (.ref y4) :: o5 :: (.int f8_206) :: (.int v242) :: (.int y8) :: (.int y9) :: (.int y10) :: (.int y11) :: (.int y12) :: tl)) :: X) H := hH
                refine lv_aload_n hx hb dX12_next_246 rfl (lv_at hl 0 rfl) ?_
                refine lv_bipush (v := 23) hx hb dX12_next_247 (by decide) ?_
                refine x_putk (ci := 12) (v := .int 23) (ty := tyX12 9) (C := RX12) (F := TX12) (N := 36) hx hb hts uX12 tyX12 tyX12_ok nmX12 hown hkb hH hS 1 rfl rfl 9 (by decide) kw_1232 (fun _ h9 => h9) rfl (tyX12_ok 9 (by decide)) rfl rfl (by show 9 < tl.length + 13; omega) dX12_next_249 (fun H locs hH hS => ?_)
                have hH : HT D cs A T (y3 :: a0 :: O) ((y3, .inl (cs.2.1, 900, .inl f3)) :: (a0, .inr (12, o0 :: o1 :: o2 :: (.ref y3) :: (.ref y4) :: o5 :: (.int f8_206) :: (.int v242) :: (.int y8) :: (.int 23) :: (.int y10) :: (.int y11) :: (.int y12) :: tl)) :: X) H := hH
                refine lv_iconst (v := 0) hx hb dX12_next_252 (by decide) ?_
                have J254 : ∀ (n : Nat) (p254_1 : Int32) (f254_209 : Int32) (H : Heap) (locs : List Loc) (ls : Array Slot), (99 - p254_1.toInt).toNat = n → (0 ≤ p254_1.toInt) → (p254_1.toInt ≤ 99) → (23 ≤ f254_209.toInt) → (f254_209.toInt ≤ 199) → HT D cs A T (y3 :: a0 :: O) ((y3, .inl (cs.2.1, 900, .inl f3)) :: (a0, .inr (12, o0 :: o1 :: o2 :: (.ref y3) :: (.ref y4) :: o5 :: (.int f8_206) :: (.int v242) :: (.int y8) :: (.int f254_209) :: (.int y10) :: (.int y11) :: (.int y12) :: tl)) :: X) H → va_S A s.heap H locs → lv_has ls 2 [(1, .int p254_1), (0, .ref a0)] → W p l e { frames := 5, cells := 0, slots := 0, locals := 108 } s m [.ref a0].toArray below meth c H locs 0 0 (MQ below (Tv D cs (fun u => ∃ (n0_6 : Int32) (n0_7 : Int32) (n0_9 : Int32) (n0_10 : Int32), u = (T, a0 :: O, (a0, .inr (12, o0 :: o1 :: o2 :: (.ref y3) :: (.ref y4) :: o5 :: (.int n0_6) :: (.int n0_7) :: (.int y8) :: (.int n0_9) :: (.int n0_10) :: (.int y11) :: (.int y12) :: tl)) :: X) ∧ (y7.toInt ≤ n0_6.toInt) ∧ (n0_6.toInt ≤ n0_7.toInt) ∧ (n0_7.toInt ≤ y8.toInt) ∧ (TK3 n0_9 n0_6 n0_7) ∧ (0 ≤ n0_10.toInt) ∧ (n0_10.toInt ≤ 999)) A) [.ref a0].toArray s 0 0 A) (F0 m 254 ls []) := by
                  intro n
                  induction n using Nat.strongRecOn with
                  | _ n ih254 =>
                    intro p254_1 f254_209 H locs ls hm254 l_p254_1 u_p254_1 l_f254_209 u_f254_209 hH hS hl
                    refine lv_iload_n hx hb dX12_next_254 rfl (lv_at hl 0 rfl) ?_
                    refine va_ldcS (q := kf.1 0) hx hb hown (hks ("FootholdWallModel", 126, ";:+-*()[]=<>", 0) (by decide +kernel)) dX12_next_255 ?_
                    refine tk_i hH hS hA (tr_V (n := 0) (As := []) hx hb hml hown hts hkb hH (ox_c (ox_map hOX rfl)) hks hE hS hA (s_length l D cs kf T (y3 :: a0 :: O) ((y3, .inl (cs.2.1, 900, .inl f3)) :: (a0, .inr (12, o0 :: o1 :: o2 :: (.ref y3) :: (.ref y4) :: o5 :: (.int f8_206) :: (.int v242) :: (.int y8) :: (.int f254_209) :: (.int y10) :: (.int y11) :: (.int y12) :: tl)) :: X) 0 (by decide) (hO.sub (by decide))) kw_1360 kw_478 kw_479 kw_14 kw_480 (by decide +kernel) ⟨Nat.le_of_ble_eq_true rfl, Nat.le_of_ble_eq_true rfl⟩ (vk_recv hE.1 (by decide) hS) rfl rfl hl.1 (Nat.le_of_ble_eq_true rfl) dX12_next_257 ⟨Nat.le_of_ble_eq_true rfl, Nat.le_of_ble_eq_true rfl⟩) (fun v257 u H locs hz9 hH hS => ?_)
                    obtain ⟨rfl, l_v257, u_v257, x_v2570⟩ := hz9
                    have hH : HT D cs A T (y3 :: a0 :: O) ((y3, .inl (cs.2.1, 900, .inl f3)) :: (a0, .inr (12, o0 :: o1 :: o2 :: (.ref y3) :: (.ref y4) :: o5 :: (.int f8_206) :: (.int v242) :: (.int y8) :: (.int f254_209) :: (.int y10) :: (.int y11) :: (.int y12) :: tl)) :: X) H := hH
                    refine W.widen (k := 0) (n := 0) (Nat.le_of_ble_eq_true rfl) (Nat.le_of_ble_eq_true rfl) ?_
                    refine lv_icmp_ge (tgt := 294) hx hb dX12_next_260 (by decide) (fun c260 => ?_) (fun c260 => ?_)
                    · skip
                      have fuc260 := full_i p254_1
                      have fvc260 := full_i v257
                      have tc260 := g_le c260
                      have hH : HT D cs A T (a0 :: O) ((a0, .inr (12, o0 :: o1 :: o2 :: (.ref y3) :: (.ref y4) :: o5 :: (.int f8_206) :: (.int v242) :: (.int y8) :: (.int f254_209) :: (.int y10) :: (.int y11) :: (.int y12) :: tl)) :: X) H := HT.layA hH t_y3 (show sp cs T (1, 900, 0) _ from ⟨f3, rfl, fun _ => cp_0 _⟩)
                      exact te_v hx hb hr hlocks hH hS (⟨f8_206, v242, f254_209, y10, rfl, by omega, by omega, by omega, (fun q => by omega), by omega, by omega⟩) dX12_next_294
                    · skip
                      have fuc260 := full_i p254_1
                      have fvc260 := full_i v257
                      have tc260 := g_nle c260
                      refine lv_aload_n hx hb dX12_next_263 rfl (lv_at hl 1 rfl) ?_
                      refine lv_aload_n hx hb dX12_next_264 rfl (lv_at hl 1 rfl) ?_
                      refine x_getk (ci := 12) (C := RX12) (F := TX12) (N := 36) (v := .int f8_206) hx hb hts uX12 hown hkb hH 1 rfl rfl 6 (by decide) rfl kw_1229 (fun _ h9 => h9) dX12_next_265 ?_
                      refine tk_i hH hS hA (tr_V (n := 1) (As := [.int f8_206]) hx hb hml hown hts hkb hH (ox_c (ox_map hOX rfl)) hks hE hS hA (s_M_see l D cs kf T O X a0 hg mq f8_206 f3 o0 o1 o2 y3 y4 o5 f8_206 v242 y8 f254_209 y10 y11 y12 tl t_a0 b_hg (by omega) t_y3 t_y4 (by omega) (by omega) (by omega) (by omega) (by omega) (by omega) (by omega) (by omega) (hO.sub (by decide))) kw_1348 kw_1350 ks_44 kw_13 kw_1351 (by decide +kernel) ⟨Nat.le_of_ble_eq_true rfl, Nat.le_of_ble_eq_true rfl⟩ (x_recv (ci := 12) hkb hH 1 rfl rfl) rfl rfl hl.1 (Nat.le_of_ble_eq_true rfl) dX12_next_268 ⟨Nat.le_of_ble_eq_true rfl, Nat.le_of_ble_eq_true rfl⟩) (fun v268 u H locs hz9 hH hS => ?_)
                      obtain ⟨rfl, x_v2680, x_v2681⟩ := hz9
                      have hH : HT D cs A T (y3 :: a0 :: O) ((y3, .inl (cs.2.1, 900, .inl f3)) :: (a0, .inr (12, o0 :: o1 :: o2 :: (.ref y3) :: (.ref y4) :: o5 :: (.int f8_206) :: (.int v242) :: (.int y8) :: (.int f254_209) :: (.int y10) :: (.int y11) :: (.int y12) :: tl)) :: X) H := hH
                      refine W.widen (k := 0) (n := 0) (Nat.le_of_ble_eq_true rfl) (Nat.le_of_ble_eq_true rfl) ?_
                      refine va_ldcS (q := kf.1 0) hx hb hown (hks ("FootholdWallModel", 126, ";:+-*()[]=<>", 0) (by decide +kernel)) dX12_next_271 ?_
                      refine lv_iload_n hx hb dX12_next_273 rfl (lv_at hl 0 rfl) ?_
                      refine tk_i hH hS hA (tr_V (n := 1) (As := [.int p254_1]) hx hb hml hown hts hkb hH (ox_c (ox_map hOX rfl)) hks hE hS hA (s_charAt2 l D cs kf T (y3 :: a0 :: O) ((y3, .inl (cs.2.1, 900, .inl f3)) :: (a0, .inr (12, o0 :: o1 :: o2 :: (.ref y3) :: (.ref y4) :: o5 :: (.int f8_206) :: (.int v242) :: (.int y8) :: (.int f254_209) :: (.int y10) :: (.int y11) :: (.int y12) :: tl)) :: X) 0 p254_1 (by decide) (by omega) (by omega) (hO.sub (by decide))) kw_1361 kw_556 kw_557 kw_14 kw_558 (by decide +kernel) ⟨Nat.le_of_ble_eq_true rfl, Nat.le_of_ble_eq_true rfl⟩ (vk_recv hE.1 (by decide) hS) rfl rfl hl.1 (Nat.le_of_ble_eq_true rfl) dX12_next_274 ⟨Nat.le_of_ble_eq_true rfl, Nat.le_of_ble_eq_true rfl⟩) (fun v274 u H locs hz9 hH hS => ?_)
                      obtain ⟨rfl, l_v274, u_v274, x_v2740⟩ := hz9
                      have hH : HT D cs A T (y3 :: a0 :: O) ((y3, .inl (cs.2.1, 900, .inl f3)) :: (a0, .inr (12, o0 :: o1 :: o2 :: (.ref y3) :: (.ref y4) :: o5 :: (.int f8_206) :: (.int v242) :: (.int y8) :: (.int f254_209) :: (.int y10) :: (.int y11) :: (.int y12) :: tl)) :: X) H := hH
                      refine W.widen (k := 0) (n := 0) (Nat.le_of_ble_eq_true rfl) (Nat.le_of_ble_eq_true rfl) ?_
                      have J288 : ∀ (f288_209 : Int32) (H : Heap) (locs : List Loc) (ls : Array Slot), (23 ≤ f288_209.toInt) → (f288_209.toInt ≤ 199) → HT D cs A T (y3 :: a0 :: O) ((y3, .inl (cs.2.1, 900, .inl f3)) :: (a0, .inr (12, o0 :: o1 :: o2 :: (.ref y3) :: (.ref y4) :: o5 :: (.int f8_206) :: (.int v242) :: (.int y8) :: (.int f288_209) :: (.int y10) :: (.int y11) :: (.int y12) :: tl)) :: X) H → va_S A s.heap H locs → lv_has ls 2 [(1, .int p254_1), (0, .ref a0)] → W p l e { frames := 5, cells := 0, slots := 0, locals := 108 } s m [.ref a0].toArray below meth c H locs 0 0 (MQ below (Tv D cs (fun u => ∃ (n0_6 : Int32) (n0_7 : Int32) (n0_9 : Int32) (n0_10 : Int32), u = (T, a0 :: O, (a0, .inr (12, o0 :: o1 :: o2 :: (.ref y3) :: (.ref y4) :: o5 :: (.int n0_6) :: (.int n0_7) :: (.int y8) :: (.int n0_9) :: (.int n0_10) :: (.int y11) :: (.int y12) :: tl)) :: X) ∧ (y7.toInt ≤ n0_6.toInt) ∧ (n0_6.toInt ≤ n0_7.toInt) ∧ (n0_7.toInt ≤ y8.toInt) ∧ (TK3 n0_9 n0_6 n0_7) ∧ (0 ≤ n0_10.toInt) ∧ (n0_10.toInt ≤ 999)) A) [.ref a0].toArray s 0 0 A) (F0 m 288 ls []) := by
                        intro f288_209 H locs ls l_f288_209 u_f288_209 hH hS hl
                        obtain ⟨v288, ev288⟩ : ∃ y : Int32, y = p254_1 + 1 := ⟨_, rfl⟩
                        have tv288 : v288.toInt = p254_1.toInt + (1) := by rw [ev288]; exact add_i rfl (by decide) (by omega) (by omega)
                        refine lv_iinc (v := v288) (lv' := [(1, .int v288), (0, .ref a0)]) hx hb dX12_next_288 hl (k := 0) rfl (by rw [ev288]; rfl) (by decide) rfl (fun ls hl => ?_)
                        refine lv_goto (tgt := 254) hx hb dX12_next_291 (by decide) ?_
                        exact ih254 _ (by omega) v288 f288_209 _ _ _ rfl (by omega) (by omega) (by omega) (by omega) hH hS (lv_sub hl [0, 1] rfl)
                      refine lv_icmp_ne (tgt := 288) hx hb dX12_next_277 (by decide) (fun c277 => ?_) (fun c277 => ?_)
                      · skip
                        have fuc277 := full_i v268
                        have fvc277 := full_i v274
                        have tc277 := g_ne c277
                        exact J288 f254_209 _ _ _ (by omega) (by omega) hH hS (lv_sub hl [0, 1] rfl)
                      · skip
                        have fuc277 := full_i v268
                        have fvc277 := full_i v274
                        have tc277 := g_eq c277
                        refine lv_aload_n hx hb dX12_next_280 rfl (lv_at hl 1 rfl) ?_
                        refine lv_bipush (v := 30) hx hb dX12_next_281 (by decide) ?_
                        refine lv_iload_n hx hb dX12_next_283 rfl (lv_at hl 0 rfl) ?_
                        refine lv_iadd hx hb dX12_next_284 ?_
                        refine lv_topi (fun v284 ev284 => ?_)
                        have tv284 : v284.toInt = (30) + p254_1.toInt := by rw [ev284]; exact add_i (by decide : (30 : Int32).toInt = 30) rfl (by omega) (by omega)
                        refine x_putk (ci := 12) (v := .int v284) (ty := tyX12 9) (C := RX12) (F := TX12) (N := 36) hx hb hts uX12 tyX12 tyX12_ok nmX12 hown hkb hH hS 1 rfl rfl 9 (by decide) kw_1232 (fun _ h9 => h9) rfl (tyX12_ok 9 (by decide)) rfl rfl (by show 9 < tl.length + 13; omega) dX12_next_285 (fun H locs hH hS => ?_)
                        have hH : HT D cs A T (y3 :: a0 :: O) ((y3, .inl (cs.2.1, 900, .inl f3)) :: (a0, .inr (12, o0 :: o1 :: o2 :: (.ref y3) :: (.ref y4) :: o5 :: (.int f8_206) :: (.int v242) :: (.int y8) :: (.int v284) :: (.int y10) :: (.int y11) :: (.int y12) :: tl)) :: X) H := hH
                        exact J288 v284 _ _ _ (by omega) (by omega) hH hS (lv_sub hl [0, 1] rfl)
                refine lv_istore_n (lv' := [(1, .int 0), (0, .ref a0)]) hx hb dX12_next_253 rfl hl (by decide) rfl (fun ls hl => ?_)
                exact J254 _ 0 23 _ _ _ rfl (by decide) (by decide) (by decide) (by decide) hH hS (lv_sub hl [0, 1] rfl)
              · skip
                have tc138 := f_ne (k := 0) (by decide) c138
                refine lv_aload_n hx hb dX12_next_141 rfl (lv_at hl 0 rfl) ?_
                refine lv_iconst (v := 0) hx hb dX12_next_142 (by decide) ?_
                have J146 : ∀ (n : Nat) (f146_207 : Int32) (f146_210 : Int32) (H : Heap) (locs : List Loc) (ls : Array Slot), (900 - f146_207.toInt).toNat = n → (0 ≤ f146_207.toInt) → (f146_207.toInt ≤ 900) → (0 ≤ f146_210.toInt) → (f146_210.toInt ≤ 999) → (v135.toInt ≠ 0) → (f8_206.toInt ≤ f146_207.toInt ∧ f146_207.toInt ≤ y8.toInt) → (((f146_207.toInt - f8_206.toInt) = 0 ∧ f146_210.toInt = 0) ∨ ((f146_207.toInt - f8_206.toInt) = 1 ∧ 0 ≤ f146_210.toInt ∧ f146_210.toInt ≤ 9) ∨ ((f146_207.toInt - f8_206.toInt) = 2 ∧ 0 ≤ f146_210.toInt ∧ f146_210.toInt ≤ 99) ∨ (3 ≤ (f146_207.toInt - f8_206.toInt) ∧ 0 ≤ f146_210.toInt ∧ f146_210.toInt ≤ 999)) → HT D cs A T (y3 :: a0 :: O) ((y3, .inl (cs.2.1, 900, .inl f3)) :: (a0, .inr (12, o0 :: o1 :: o2 :: (.ref y3) :: (.ref y4) :: o5 :: (.int f8_206) :: (.int f146_207) :: (.int y8) :: (.int y9) :: (.int f146_210) :: (.int y11) :: (.int y12) :: tl)) :: X) H → va_S A s.heap H locs → lv_has ls 2 [(0, .ref a0)] → W p l e { frames := 5, cells := 0, slots := 0, locals := 108 } s m [.ref a0].toArray below meth c H locs 0 0 (MQ below (Tv D cs (fun u => ∃ (n0_6 : Int32) (n0_7 : Int32) (n0_9 : Int32) (n0_10 : Int32), u = (T, a0 :: O, (a0, .inr (12, o0 :: o1 :: o2 :: (.ref y3) :: (.ref y4) :: o5 :: (.int n0_6) :: (.int n0_7) :: (.int y8) :: (.int n0_9) :: (.int n0_10) :: (.int y11) :: (.int y12) :: tl)) :: X) ∧ (y7.toInt ≤ n0_6.toInt) ∧ (n0_6.toInt ≤ n0_7.toInt) ∧ (n0_7.toInt ≤ y8.toInt) ∧ (TK3 n0_9 n0_6 n0_7) ∧ (0 ≤ n0_10.toInt) ∧ (n0_10.toInt ≤ 999)) A) [.ref a0].toArray s 0 0 A) (F0 m 146 ls []) := by
                  intro n
                  induction n using Nat.strongRecOn with
                  | _ n ih146 =>
                    intro f146_207 f146_210 H locs ls hm146 l_f146_207 u_f146_207 l_f146_210 u_f146_210 j146 i146 d146 hH hS hl
                    refine lv_aload_n hx hb dX12_next_146 rfl (lv_at hl 0 rfl) ?_
                    refine lv_aload_n hx hb dX12_next_147 rfl (lv_at hl 0 rfl) ?_
                    refine x_getk (ci := 12) (C := RX12) (F := TX12) (N := 36) (v := .int f146_207) hx hb hts uX12 hown hkb hH 1 rfl rfl 7 (by decide) rfl kw_1230 (fun _ h9 => h9) dX12_next_148 ?_
                    refine tk_i hH hS hA (tr_V (n := 1) (As := [.int f146_207]) hx hb hml hown hts hkb hH (ox_c (ox_map hOX rfl)) hks hE hS hA (s_M_see l D cs kf T O X a0 hg mq f146_207 f3 o0 o1 o2 y3 y4 o5 f8_206 f146_207 y8 y9 f146_210 y11 y12 tl t_a0 b_hg (by omega) t_y3 t_y4 (by omega) (by omega) (by omega) (by omega) (by omega) (by omega) (by omega) (by omega) (hO.sub (by decide))) kw_1348 kw_1350 ks_44 kw_13 kw_1351 (by decide +kernel) ⟨Nat.le_of_ble_eq_true rfl, Nat.le_of_ble_eq_true rfl⟩ (x_recv (ci := 12) hkb hH 1 rfl rfl) rfl rfl hl.1 (Nat.le_of_ble_eq_true rfl) dX12_next_151 ⟨Nat.le_of_ble_eq_true rfl, Nat.le_of_ble_eq_true rfl⟩) (fun v151 u H locs hz9 hH hS => ?_)
                    obtain ⟨rfl, x_v1510, x_v1511⟩ := hz9
                    have hH : HT D cs A T (y3 :: a0 :: O) ((y3, .inl (cs.2.1, 900, .inl f3)) :: (a0, .inr (12, o0 :: o1 :: o2 :: (.ref y3) :: (.ref y4) :: o5 :: (.int f8_206) :: (.int f146_207) :: (.int y8) :: (.int y9) :: (.int f146_210) :: (.int y11) :: (.int y12) :: tl)) :: X) H := hH
                    refine W.widen (k := 0) (n := 0) (Nat.le_of_ble_eq_true rfl) (Nat.le_of_ble_eq_true rfl) ?_
                    refine tk_i hH hS hA (tr_S (n := 1) (As := [.int v151]) hx hb hml hown hts hkb hH (ox_c (ox_map hOX rfl)) hks hE hS hA (s_M_isDigit2 l D cs kf T (y3 :: a0 :: O) ((y3, .inl (cs.2.1, 900, .inl f3)) :: (a0, .inr (12, o0 :: o1 :: o2 :: (.ref y3) :: (.ref y4) :: o5 :: (.int f8_206) :: (.int f146_207) :: (.int y8) :: (.int y9) :: (.int f146_210) :: (.int y11) :: (.int y12) :: tl)) :: X) v151  (hO.sub (by decide))) kw_1362 kw_1363 kw_13 kw_1364 (by decide +kernel) ⟨Nat.le_of_ble_eq_true rfl, Nat.le_of_ble_eq_true rfl⟩ rfl rfl hl.1 (Nat.le_of_ble_eq_true rfl) dX12_next_154 ⟨Nat.le_of_ble_eq_true rfl, Nat.le_of_ble_eq_true rfl⟩) (fun v154 u H locs hz9 hH hS => ?_)
                    obtain ⟨rfl, l_v154, u_v154, x_v1540, x_v1541⟩ := hz9
                    have hH : HT D cs A T (y3 :: a0 :: O) ((y3, .inl (cs.2.1, 900, .inl f3)) :: (a0, .inr (12, o0 :: o1 :: o2 :: (.ref y3) :: (.ref y4) :: o5 :: (.int f8_206) :: (.int f146_207) :: (.int y8) :: (.int y9) :: (.int f146_210) :: (.int y11) :: (.int y12) :: tl)) :: X) H := hH
                    refine W.widen (k := 0) (n := 0) (Nat.le_of_ble_eq_true rfl) (Nat.le_of_ble_eq_true rfl) ?_
                    refine lv_if_eq (tgt := 209) hx hb dX12_next_157 (by decide) (fun c157 => ?_) (fun c157 => ?_)
                    · skip
                      have tc157 := f_eq (k := 0) (by decide) c157
                      have hq : f8_206.toInt ≠ f146_207.toInt := fun q => by have := see_same x_v1320 x_v1510 q; omega
                      refine lv_aload_n hx hb dX12_next_209 rfl (lv_at hl 0 rfl) ?_
                      refine lv_aload_n hx hb dX12_next_210 rfl (lv_at hl 0 rfl) ?_
                      refine x_getk (ci := 12) (C := RX12) (F := TX12) (N := 36) (v := .int f146_207) hx hb hts uX12 hown hkb hH 1 rfl rfl 7 (by decide) rfl kw_1230 (fun _ h9 => h9) dX12_next_211 ?_
                      refine lv_aload_n hx hb dX12_next_214 rfl (lv_at hl 0 rfl) ?_
                      refine x_getk (ci := 12) (C := RX12) (F := TX12) (N := 36) (v := .int f8_206) hx hb hts uX12 hown hkb hH 1 rfl rfl 6 (by decide) rfl kw_1229 (fun _ h9 => h9) dX12_next_215 ?_
                      refine lv_isub hx hb dX12_next_218 ?_
                      refine lv_topi (fun v218 ev218 => ?_)
                      have tv218 : v218.toInt = f146_207.toInt - f8_206.toInt := by rw [ev218]; exact sub_i rfl rfl (by omega) (by omega)
                      refine lv_iconst (v := 3) hx hb dX12_next_219 (by decide) ?_
                      have J230 : ∀ (k230_0 : Int32) (H : Heap) (locs : List Loc) (ls : Array Slot), (21 ≤ k230_0.toInt) → (k230_0.toInt ≤ 23) → HT D cs A T (y3 :: a0 :: O) ((y3, .inl (cs.2.1, 900, .inl f3)) :: (a0, .inr (12, o0 :: o1 :: o2 :: (.ref y3) :: (.ref y4) :: o5 :: (.int f8_206) :: (.int f146_207) :: (.int y8) :: (.int y9) :: (.int f146_210) :: (.int y11) :: (.int y12) :: tl)) :: X) H → va_S A s.heap H locs → lv_has ls 2 [] → W p l e { frames := 5, cells := 0, slots := 0, locals := 108 } s m [.ref a0].toArray below meth c H locs 0 0 (MQ below (Tv D cs (fun u => ∃ (n0_6 : Int32) (n0_7 : Int32) (n0_9 : Int32) (n0_10 : Int32), u = (T, a0 :: O, (a0, .inr (12, o0 :: o1 :: o2 :: (.ref y3) :: (.ref y4) :: o5 :: (.int n0_6) :: (.int n0_7) :: (.int y8) :: (.int n0_9) :: (.int n0_10) :: (.int y11) :: (.int y12) :: tl)) :: X) ∧ (y7.toInt ≤ n0_6.toInt) ∧ (n0_6.toInt ≤ n0_7.toInt) ∧ (n0_7.toInt ≤ y8.toInt) ∧ (TK3 n0_9 n0_6 n0_7) ∧ (0 ≤ n0_10.toInt) ∧ (n0_10.toInt ≤ 999)) A) [.ref a0].toArray s 0 0 A) (F0 m 230 ls [.int k230_0, .ref a0]) := by
                        intro k230_0 H locs ls l_k230_0 u_k230_0 hH hS hl
                        refine x_putk (ci := 12) (v := .int k230_0) (ty := tyX12 9) (C := RX12) (F := TX12) (N := 36) hx hb hts uX12 tyX12 tyX12_ok nmX12 hown hkb hH hS 1 rfl rfl 9 (by decide) kw_1232 (fun _ h9 => h9) rfl (tyX12_ok 9 (by decide)) rfl rfl (by show 9 < tl.length + 13; omega) dX12_next_230 (fun H locs hH hS => ?_)
                        have hH : HT D cs A T (y3 :: a0 :: O) ((y3, .inl (cs.2.1, 900, .inl f3)) :: (a0, .inr (12, o0 :: o1 :: o2 :: (.ref y3) :: (.ref y4) :: o5 :: (.int f8_206) :: (.int f146_207) :: (.int y8) :: (.int k230_0) :: (.int f146_210) :: (.int y11) :: (.int y12) :: tl)) :: X) H := hH
                        refine lv_goto (tgt := 294) hx hb dX12_next_233 (by decide) ?_
                        have hH : HT D cs A T (a0 :: O) ((a0, .inr (12, o0 :: o1 :: o2 :: (.ref y3) :: (.ref y4) :: o5 :: (.int f8_206) :: (.int f146_207) :: (.int y8) :: (.int k230_0) :: (.int f146_210) :: (.int y11) :: (.int y12) :: tl)) :: X) H := HT.layA hH t_y3 (show sp cs T (1, 900, 0) _ from ⟨f3, rfl, fun _ => cp_0 _⟩)
                        exact te_v hx hb hr hlocks hH hS (⟨f8_206, f146_207, k230_0, f146_210, rfl, by omega, by omega, by omega, (fun q => by omega), by omega, by omega⟩) dX12_next_294
                      refine lv_icmp_le (tgt := 228) hx hb dX12_next_220 (by decide) (fun c220 => ?_) (fun c220 => ?_)
                      · skip
                        have tc220 := f_le (k := 3) (by decide) c220
                        refine lv_bipush (v := 21) hx hb dX12_next_228 (by decide) ?_
                        exact J230 21 _ _ _ (by decide) (by decide) hH hS (lv_sub hl [] rfl)
                      · skip
                        have tc220 := f_nle (k := 3) (by decide) c220
                        refine lv_bipush (v := 23) hx hb dX12_next_223 (by decide) ?_
                        refine lv_goto (tgt := 230) hx hb dX12_next_225 (by decide) ?_
                        exact J230 23 _ _ _ (by decide) (by decide) hH hS (lv_sub hl [] rfl)
                    · skip
                      have tc157 := f_ne (k := 0) (by decide) c157
                      refine lv_aload_n hx hb dX12_next_160 rfl (lv_at hl 0 rfl) ?_
                      refine x_getk (ci := 12) (C := RX12) (F := TX12) (N := 36) (v := .int f146_207) hx hb hts uX12 hown hkb hH 1 rfl rfl 7 (by decide) rfl kw_1230 (fun _ h9 => h9) dX12_next_161 ?_
                      refine lv_aload_n hx hb dX12_next_164 rfl (lv_at hl 0 rfl) ?_
                      refine x_getk (ci := 12) (C := RX12) (F := TX12) (N := 36) (v := .int f8_206) hx hb hts uX12 hown hkb hH 1 rfl rfl 6 (by decide) rfl kw_1229 (fun _ h9 => h9) dX12_next_165 ?_
                      refine lv_isub hx hb dX12_next_168 ?_
                      refine lv_topi (fun v168 ev168 => ?_)
                      have tv168 : v168.toInt = f146_207.toInt - f8_206.toInt := by rw [ev168]; exact sub_i rfl rfl (by omega) (by omega)
                      refine lv_iconst (v := 3) hx hb dX12_next_169 (by decide) ?_
                      have J196 : ∀ (f196_210 : Int32) (H : Heap) (locs : List Loc) (ls : Array Slot), (0 ≤ f196_210.toInt) → (f196_210.toInt ≤ 9999) → (((f146_207.toInt + 1 - f8_206.toInt) = 0 ∧ f196_210.toInt = 0) ∨ ((f146_207.toInt + 1 - f8_206.toInt) = 1 ∧ 0 ≤ f196_210.toInt ∧ f196_210.toInt ≤ 9) ∨ ((f146_207.toInt + 1 - f8_206.toInt) = 2 ∧ 0 ≤ f196_210.toInt ∧ f196_210.toInt ≤ 99) ∨ (3 ≤ (f146_207.toInt + 1 - f8_206.toInt) ∧ 0 ≤ f196_210.toInt ∧ f196_210.toInt ≤ 999)) → HT D cs A T (y3 :: a0 :: O) ((y3, .inl (cs.2.1, 900, .inl f3)) :: (a0, .inr (12, o0 :: o1 :: o2 :: (.ref y3) :: (.ref y4) :: o5 :: (.int f8_206) :: (.int f146_207) :: (.int y8) :: (.int y9) :: (.int f196_210) :: (.int y11) :: (.int y12) :: tl)) :: X) H → va_S A s.heap H locs → lv_has ls 2 [(0, .ref a0)] → W p l e { frames := 5, cells := 0, slots := 0, locals := 108 } s m [.ref a0].toArray below meth c H locs 0 0 (MQ below (Tv D cs (fun u => ∃ (n0_6 : Int32) (n0_7 : Int32) (n0_9 : Int32) (n0_10 : Int32), u = (T, a0 :: O, (a0, .inr (12, o0 :: o1 :: o2 :: (.ref y3) :: (.ref y4) :: o5 :: (.int n0_6) :: (.int n0_7) :: (.int y8) :: (.int n0_9) :: (.int n0_10) :: (.int y11) :: (.int y12) :: tl)) :: X) ∧ (y7.toInt ≤ n0_6.toInt) ∧ (n0_6.toInt ≤ n0_7.toInt) ∧ (n0_7.toInt ≤ y8.toInt) ∧ (TK3 n0_9 n0_6 n0_7) ∧ (0 ≤ n0_10.toInt) ∧ (n0_10.toInt ≤ 999)) A) [.ref a0].toArray s 0 0 A) (F0 m 196 ls []) := by
                        intro f196_210 H locs ls l_f196_210 u_f196_210 d196 hH hS hl
                        refine lv_aload_n hx hb dX12_next_196 rfl (lv_at hl 0 rfl) ?_
                        refine lv_dup hx hb dX12_next_197 rfl ?_
                        refine x_getk (ci := 12) (C := RX12) (F := TX12) (N := 36) (v := .int f146_207) hx hb hts uX12 hown hkb hH 1 rfl rfl 7 (by decide) rfl kw_1230 (fun _ h9 => h9) dX12_next_198 ?_
                        refine lv_iconst (v := 1) hx hb dX12_next_201 (by decide) ?_
                        refine lv_iadd hx hb dX12_next_202 ?_
                        refine lv_topi (fun v202 ev202 => ?_)
                        have tv202 : v202.toInt = f146_207.toInt + (1) := by rw [ev202]; exact add_i rfl (by decide : (1 : Int32).toInt = 1) (by omega) (by omega)
                        refine x_putk (ci := 12) (v := .int v202) (ty := tyX12 7) (C := RX12) (F := TX12) (N := 36) hx hb hts uX12 tyX12 tyX12_ok nmX12 hown hkb hH hS 1 rfl rfl 7 (by decide) kw_1230 (fun _ h9 => h9) rfl (tyX12_ok 7 (by decide)) rfl rfl (by show 7 < tl.length + 13; omega) dX12_next_203 (fun H locs hH hS => ?_)
                        have hH : HT D cs A T (y3 :: a0 :: O) ((y3, .inl (cs.2.1, 900, .inl f3)) :: (a0, .inr (12, o0 :: o1 :: o2 :: (.ref y3) :: (.ref y4) :: o5 :: (.int f8_206) :: (.int v202) :: (.int y8) :: (.int y9) :: (.int f196_210) :: (.int y11) :: (.int y12) :: tl)) :: X) H := hH
                        refine lv_goto (tgt := 146) hx hb dX12_next_206 (by decide) ?_
                        exact ih146 _ (by omega) v202 f196_210 _ _ _ rfl (by omega) (by omega) (by omega) (by omega) (by omega) (by omega) (by omega) hH hS (lv_sub hl [0] rfl)
                      refine lv_icmp_ge (tgt := 196) hx hb dX12_next_170 (by decide) (fun c170 => ?_) (fun c170 => ?_)
                      · skip
                        have tc170 := f_ge (k := 3) (by decide) c170
                        exact J196 f146_210 _ _ _ (by omega) (by omega) (by omega) hH hS (lv_sub hl [0] rfl)
                      · skip
                        have tc170 := f_nge (k := 3) (by decide) c170
                        refine lv_aload_n hx hb dX12_next_173 rfl (lv_at hl 0 rfl) ?_
                        refine lv_bipush (v := 10) hx hb dX12_next_174 (by decide) ?_
                        refine lv_aload_n hx hb dX12_next_176 rfl (lv_at hl 0 rfl) ?_
                        refine x_getk (ci := 12) (C := RX12) (F := TX12) (N := 36) (v := .int f146_210) hx hb hts uX12 hown hkb hH 1 rfl rfl 10 (by decide) rfl kw_1233 (fun _ h9 => h9) dX12_next_177 ?_
                        refine lv_imul hx hb dX12_next_180 ?_
                        refine lv_topi (fun v180 ev180 => ?_)
                        have tv180 : v180.toInt = (10) * f146_210.toInt := by rw [ev180]; exact mul_i (by decide : (10 : Int32).toInt = 10) rfl (by omega) (by omega)
                        refine lv_aload_n hx hb dX12_next_181 rfl (lv_at hl 0 rfl) ?_
                        refine lv_aload_n hx hb dX12_next_182 rfl (lv_at hl 0 rfl) ?_
                        refine x_getk (ci := 12) (C := RX12) (F := TX12) (N := 36) (v := .int f146_207) hx hb hts uX12 hown hkb hH 1 rfl rfl 7 (by decide) rfl kw_1230 (fun _ h9 => h9) dX12_next_183 ?_
                        refine tk_i hH hS hA (tr_V (n := 1) (As := [.int f146_207]) hx hb hml hown hts hkb hH (ox_c (ox_map hOX rfl)) hks hE hS hA (s_M_see l D cs kf T O X a0 hg mq f146_207 f3 o0 o1 o2 y3 y4 o5 f8_206 f146_207 y8 y9 f146_210 y11 y12 tl t_a0 b_hg (by omega) t_y3 t_y4 (by omega) (by omega) (by omega) (by omega) (by omega) (by omega) (by omega) (by omega) (hO.sub (by decide))) kw_1348 kw_1350 ks_44 kw_13 kw_1351 (by decide +kernel) ⟨Nat.le_of_ble_eq_true rfl, Nat.le_of_ble_eq_true rfl⟩ (x_recv (ci := 12) hkb hH 1 rfl rfl) rfl rfl hl.1 (Nat.le_of_ble_eq_true rfl) dX12_next_186 ⟨Nat.le_of_ble_eq_true rfl, Nat.le_of_ble_eq_true rfl⟩) (fun v186 u H locs hz9 hH hS => ?_)
                        obtain ⟨rfl, x_v1860, x_v1861⟩ := hz9
                        have hH : HT D cs A T (y3 :: a0 :: O) ((y3, .inl (cs.2.1, 900, .inl f3)) :: (a0, .inr (12, o0 :: o1 :: o2 :: (.ref y3) :: (.ref y4) :: o5 :: (.int f8_206) :: (.int f146_207) :: (.int y8) :: (.int y9) :: (.int f146_210) :: (.int y11) :: (.int y12) :: tl)) :: X) H := hH
                        refine W.widen (k := 0) (n := 0) (Nat.le_of_ble_eq_true rfl) (Nat.le_of_ble_eq_true rfl) ?_
                        have hs9 := see_same x_v1860 x_v1510 rfl
                        have bs9 : 48 ≤ v186.toInt ∧ v186.toInt ≤ 57 := by omega
                        refine lv_iadd hx hb dX12_next_189 ?_
                        refine lv_topi (fun v189 ev189 => ?_)
                        have tv189 : v189.toInt = v180.toInt + v186.toInt := by rw [ev189]; exact add_i rfl rfl (by omega) (by omega)
                        refine lv_bipush (v := 48) hx hb dX12_next_190 (by decide) ?_
                        refine lv_isub hx hb dX12_next_192 ?_
                        refine lv_topi (fun v192 ev192 => ?_)
                        have tv192 : v192.toInt = v189.toInt - (48) := by rw [ev192]; exact sub_i rfl (by decide : (48 : Int32).toInt = 48) (by omega) (by omega)
                        refine x_putk (ci := 12) (v := .int v192) (ty := tyX12 10) (C := RX12) (F := TX12) (N := 36) hx hb hts uX12 tyX12 tyX12_ok nmX12 hown hkb hH hS 1 rfl rfl 10 (by decide) kw_1233 (fun _ h9 => h9) rfl (tyX12_ok 10 (by decide)) rfl rfl (by show 10 < tl.length + 13; omega) dX12_next_193 (fun H locs hH hS => ?_)
                        have hH : HT D cs A T (y3 :: a0 :: O) ((y3, .inl (cs.2.1, 900, .inl f3)) :: (a0, .inr (12, o0 :: o1 :: o2 :: (.ref y3) :: (.ref y4) :: o5 :: (.int f8_206) :: (.int f146_207) :: (.int y8) :: (.int y9) :: (.int v192) :: (.int y11) :: (.int y12) :: tl)) :: X) H := hH
                        exact J196 v192 _ _ _ (by omega) (by omega) (by omega) hH hS (lv_sub hl [0] rfl)
                refine x_putk (ci := 12) (v := .int 0) (ty := tyX12 10) (C := RX12) (F := TX12) (N := 36) hx hb hts uX12 tyX12 tyX12_ok nmX12 hown hkb hH hS 1 rfl rfl 10 (by decide) kw_1233 (fun _ h9 => h9) rfl (tyX12_ok 10 (by decide)) rfl rfl (by show 10 < tl.length + 13; omega) dX12_next_143 (fun H locs hH hS => ?_)
                have hH : HT D cs A T (y3 :: a0 :: O) ((y3, .inl (cs.2.1, 900, .inl f3)) :: (a0, .inr (12, o0 :: o1 :: o2 :: (.ref y3) :: (.ref y4) :: o5 :: (.int f8_206) :: (.int f8_206) :: (.int y8) :: (.int y9) :: (.int 0) :: (.int y11) :: (.int y12) :: tl)) :: X) H := hH
                have z_0 : (0 : Int32).toInt = 0 := by decide
                exact J146 _ f8_206 0 _ _ _ rfl (by omega) (by omega) (by decide) (by decide) (by omega) (by omega) (by omega) hH hS (lv_sub hl [0] rfl)
            · skip
              have tc86 := f_ne (k := 0) (by decide) c86
              exact J89 _ f8_206 _ _ _ rfl (by omega) (by omega) (by omega) (by omega) hH hS (lv_sub hl [0] rfl)
          · skip
            have fuc63 := full_i f8_206
            have fvc63 := full_i y8
            have tc63 := g_nlt c63
            refine lv_aload_n hx hb dX12_next_66 rfl (lv_at hl 0 rfl) ?_
            refine lv_bipush (v := 22) hx hb dX12_next_67 (by decide) ?_
            refine x_putk (ci := 12) (v := .int 22) (ty := tyX12 9) (C := RX12) (F := TX12) (N := 36) hx hb hts uX12 tyX12 tyX12_ok nmX12 hown hkb hH hS 1 rfl rfl 9 (by decide) kw_1232 (fun _ h9 => h9) rfl (tyX12_ok 9 (by decide)) rfl rfl (by show 9 < tl.length + 13; omega) dX12_next_69 (fun H locs hH hS => ?_)
            have hH : HT D cs A T (y3 :: a0 :: O) ((y3, .inl (cs.2.1, 900, .inl f3)) :: (a0, .inr (12, o0 :: o1 :: o2 :: (.ref y3) :: (.ref y4) :: o5 :: (.int f8_206) :: (.int f8_206) :: (.int y8) :: (.int 22) :: (.int y10) :: (.int y11) :: (.int y12) :: tl)) :: X) H := hH
            refine lv_goto (tgt := 294) hx hb dX12_next_72 (by decide) ?_
            have hH : HT D cs A T (a0 :: O) ((a0, .inr (12, o0 :: o1 :: o2 :: (.ref y3) :: (.ref y4) :: o5 :: (.int f8_206) :: (.int f8_206) :: (.int y8) :: (.int 22) :: (.int y10) :: (.int y11) :: (.int y12) :: tl)) :: X) H := HT.layA hH t_y3 (show sp cs T (1, 900, 0) _ from ⟨f3, rfl, fun _ => cp_0 _⟩)
            have z9_22 : (22 : Int32).toInt = 22 := by decide
            have z9_22 : (22 : Int32).toInt = 22 := by decide
            exact te_v hx hb hr hlocks hH hS (⟨f8_206, f8_206, (22 : Int32), y10, rfl, by omega, by omega, by omega, (fun q => by omega), by omega, by omega⟩) dX12_next_294
        · skip
          have tc31 := f_eq (k := 32) (by decide) c31
          refine lv_aload_n hx hb dX12_next_34 rfl (lv_at hl 0 rfl) ?_
          refine lv_dup hx hb dX12_next_35 rfl ?_
          refine x_getk (ci := 12) (C := RX12) (F := TX12) (N := 36) (v := .int f8_206) hx hb hts uX12 hown hkb hH 1 rfl rfl 6 (by decide) rfl kw_1229 (fun _ h9 => h9) dX12_next_36 ?_
          refine lv_iconst (v := 1) hx hb dX12_next_39 (by decide) ?_
          refine lv_iadd hx hb dX12_next_40 ?_
          refine lv_topi (fun v40 ev40 => ?_)
          have tv40 : v40.toInt = f8_206.toInt + (1) := by rw [ev40]; exact add_i rfl (by decide : (1 : Int32).toInt = 1) (by omega) (by omega)
          refine x_putk (ci := 12) (v := .int v40) (ty := tyX12 6) (C := RX12) (F := TX12) (N := 36) hx hb hts uX12 tyX12 tyX12_ok nmX12 hown hkb hH hS 1 rfl rfl 6 (by decide) kw_1229 (fun _ h9 => h9) rfl (tyX12_ok 6 (by decide)) rfl rfl (by show 6 < tl.length + 13; omega) dX12_next_41 (fun H locs hH hS => ?_)
          have hH : HT D cs A T (y3 :: a0 :: O) ((y3, .inl (cs.2.1, 900, .inl f3)) :: (a0, .inr (12, o0 :: o1 :: o2 :: (.ref y3) :: (.ref y4) :: o5 :: (.int v40) :: (.int y7) :: (.int y8) :: (.int y9) :: (.int y10) :: (.int y11) :: (.int y12) :: tl)) :: X) H := hH
          refine lv_goto (tgt := 8) hx hb dX12_next_44 (by decide) ?_
          exact ih8 _ (by omega) v40 _ _ _ rfl (by omega) (by omega) (by omega) hH hS (lv_sub hl [0] rfl)
  refine x_putk (ci := 12) (v := .int y7) (ty := tyX12 6) (C := RX12) (F := TX12) (N := 36) hx hb hts uX12 tyX12 tyX12_ok nmX12 hown hkb hH hS 1 rfl rfl 6 (by decide) kw_1229 (fun _ h9 => h9) rfl (tyX12_ok 6 (by decide)) rfl rfl (by show 6 < tl.length + 13; omega) dX12_next_5 (fun H locs hH hS => ?_)
  have hH : HT D cs A T (y3 :: a0 :: O) ((y3, .inl (cs.2.1, 900, .inl f3)) :: (a0, .inr (12, o0 :: o1 :: o2 :: (.ref y3) :: (.ref y4) :: o5 :: (.int y7) :: (.int y7) :: (.int y8) :: (.int y9) :: (.int y10) :: (.int y11) :: (.int y12) :: tl)) :: X) H := hH
  exact J8 _ y7 _ _ _ rfl (by omega) (by omega) (by omega) hH hS (lv_sub hl [0] rfl)
theorem dX12_eats_0 : decode cX12_eats 0 = .ok (.aload_n 0, 1) := by decide +kernel
theorem dX12_eats_1 : decode cX12_eats 1 = .ok (.iload_n 1, 1) := by decide +kernel
theorem dX12_eats_2 : decode cX12_eats 2 = .ok (.invokevirtual 134, 3) := by decide +kernel
theorem dX12_eats_5 : decode cX12_eats 5 = .ok (.ifCond .ne 5, 3) := by decide +kernel
theorem dX12_eats_8 : decode cX12_eats 8 = .ok (.iconst 0, 1) := by decide +kernel
theorem dX12_eats_9 : decode cX12_eats 9 = .ok (.ireturn, 1) := by decide +kernel
theorem dX12_eats_10 : decode cX12_eats 10 = .ok (.aload_n 0, 1) := by decide +kernel
theorem dX12_eats_11 : decode cX12_eats 11 = .ok (.invokevirtual 137, 3) := by decide +kernel
theorem dX12_eats_14 : decode cX12_eats 14 = .ok (.iconst 1, 1) := by decide +kernel
theorem dX12_eats_15 : decode cX12_eats 15 = .ok (.ireturn, 1) := by decide +kernel
theorem dX12_fails_0 : decode cX12_fails 0 = .ok (.aload_n 0, 1) := by decide +kernel
theorem dX12_fails_1 : decode cX12_fails 1 = .ok (.getfield 128, 3) := by decide +kernel
theorem dX12_fails_4 : decode cX12_fails 4 = .ok (.ifCond .eq 4, 3) := by decide +kernel
theorem dX12_fails_7 : decode cX12_fails 7 = .ok (.return_, 1) := by decide +kernel
theorem dX12_fails_8 : decode cX12_fails 8 = .ok (.aload_n 0, 1) := by decide +kernel
theorem dX12_fails_9 : decode cX12_fails 9 = .ok (.aload_n 0, 1) := by decide +kernel
theorem dX12_fails_10 : decode cX12_fails 10 = .ok (.getfield 110, 3) := by decide +kernel
theorem dX12_fails_13 : decode cX12_fails 13 = .ok (.bipush 23, 2) := by decide +kernel
theorem dX12_fails_15 : decode cX12_fails 15 = .ok (.if_icmp .ne 7, 3) := by decide +kernel
theorem dX12_fails_18 : decode cX12_fails 18 = .ok (.iconst 1, 1) := by decide +kernel
theorem dX12_fails_19 : decode cX12_fails 19 = .ok (.goto 4, 3) := by decide +kernel
theorem dX12_fails_22 : decode cX12_fails 22 = .ok (.iload_n 1, 1) := by decide +kernel
theorem dX12_fails_23 : decode cX12_fails 23 = .ok (.putfield 128, 3) := by decide +kernel
theorem dX12_fails_26 : decode cX12_fails 26 = .ok (.aload_n 0, 1) := by decide +kernel
theorem dX12_fails_27 : decode cX12_fails 27 = .ok (.aload_n 0, 1) := by decide +kernel
theorem dX12_fails_28 : decode cX12_fails 28 = .ok (.getfield 100, 3) := by decide +kernel
theorem dX12_fails_31 : decode cX12_fails 31 = .ok (.putfield 131, 3) := by decide +kernel
theorem dX12_fails_34 : decode cX12_fails 34 = .ok (.return_, 1) := by decide +kernel
theorem dX12_goesIn_0 : decode cX12_goesIn 0 = .ok (.iload_n 1, 1) := by decide +kernel
theorem dX12_goesIn_1 : decode cX12_goesIn 1 = .ok (.bipush 6, 2) := by decide +kernel
theorem dX12_goesIn_3 : decode cX12_goesIn 3 = .ok (.if_icmp .ne 8, 3) := by decide +kernel
theorem dX12_goesIn_6 : decode cX12_goesIn 6 = .ok (.aload_n 0, 1) := by decide +kernel
theorem dX12_goesIn_7 : decode cX12_goesIn 7 = .ok (.iconst 4, 1) := by decide +kernel
theorem dX12_goesIn_8 : decode cX12_goesIn 8 = .ok (.invokevirtual 140, 3) := by decide +kernel
theorem dX12_goesIn_11 : decode cX12_goesIn 11 = .ok (.aload_n 0, 1) := by decide +kernel
theorem dX12_goesIn_12 : decode cX12_goesIn 12 = .ok (.getfield 128, 3) := by decide +kernel
theorem dX12_goesIn_15 : decode cX12_goesIn 15 = .ok (.ifCond .ne 7, 3) := by decide +kernel
theorem dX12_goesIn_18 : decode cX12_goesIn 18 = .ok (.aload_n 0, 1) := by decide +kernel
theorem dX12_goesIn_19 : decode cX12_goesIn 19 = .ok (.invokevirtual 137, 3) := by decide +kernel
theorem dX12_goesIn_22 : decode cX12_goesIn 22 = .ok (.aload_n 0, 1) := by decide +kernel
theorem dX12_goesIn_23 : decode cX12_goesIn 23 = .ok (.getfield 128, 3) := by decide +kernel
theorem dX12_goesIn_26 : decode cX12_goesIn 26 = .ok (.ifCond .ne 7, 3) := by decide +kernel
theorem dX12_goesIn_29 : decode cX12_goesIn 29 = .ok (.iconst 1, 1) := by decide +kernel
theorem dX12_goesIn_30 : decode cX12_goesIn 30 = .ok (.goto 4, 3) := by decide +kernel
theorem dX12_goesIn_33 : decode cX12_goesIn 33 = .ok (.iconst 0, 1) := by decide +kernel
theorem dX12_goesIn_34 : decode cX12_goesIn 34 = .ok (.ireturn, 1) := by decide +kernel
theorem dX12_is_0 : decode cX12_is 0 = .ok (.aload_n 0, 1) := by decide +kernel
theorem dX12_is_1 : decode cX12_is 1 = .ok (.getfield 128, 3) := by decide +kernel
theorem dX12_is_4 : decode cX12_is 4 = .ok (.ifCond .ne 15, 3) := by decide +kernel
theorem dX12_is_7 : decode cX12_is 7 = .ok (.aload_n 0, 1) := by decide +kernel
theorem dX12_is_8 : decode cX12_is 8 = .ok (.getfield 110, 3) := by decide +kernel
theorem dX12_is_11 : decode cX12_is 11 = .ok (.iload_n 1, 1) := by decide +kernel
theorem dX12_is_12 : decode cX12_is 12 = .ok (.if_icmp .ne 7, 3) := by decide +kernel
theorem dX12_is_15 : decode cX12_is 15 = .ok (.iconst 1, 1) := by decide +kernel
theorem dX12_is_16 : decode cX12_is 16 = .ok (.goto 4, 3) := by decide +kernel
theorem dX12_is_19 : decode cX12_is 19 = .ok (.iconst 0, 1) := by decide +kernel
theorem dX12_is_20 : decode cX12_is 20 = .ok (.ireturn, 1) := by decide +kernel
theorem dX12_takes_0 : decode cX12_takes 0 = .ok (.aload_n 0, 1) := by decide +kernel
theorem dX12_takes_1 : decode cX12_takes 1 = .ok (.bipush 21, 2) := by decide +kernel
theorem dX12_takes_3 : decode cX12_takes 3 = .ok (.invokevirtual 134, 3) := by decide +kernel
theorem dX12_takes_6 : decode cX12_takes 6 = .ok (.ifCond .ne 11, 3) := by decide +kernel
theorem dX12_takes_9 : decode cX12_takes 9 = .ok (.aload_n 0, 1) := by decide +kernel
theorem dX12_takes_10 : decode cX12_takes 10 = .ok (.iconst 2, 1) := by decide +kernel
theorem dX12_takes_11 : decode cX12_takes 11 = .ok (.invokevirtual 140, 3) := by decide +kernel
theorem dX12_takes_14 : decode cX12_takes 14 = .ok (.goto 23, 3) := by decide +kernel
theorem dX12_takes_17 : decode cX12_takes 17 = .ok (.aload_n 0, 1) := by decide +kernel
theorem dX12_takes_18 : decode cX12_takes 18 = .ok (.getfield 123, 3) := by decide +kernel
theorem dX12_takes_21 : decode cX12_takes 21 = .ok (.i2l, 1) := by decide +kernel
theorem dX12_takes_22 : decode cX12_takes 22 = .ok (.iload_n 1, 1) := by decide +kernel
theorem dX12_takes_23 : decode cX12_takes 23 = .ok (.i2l, 1) := by decide +kernel
theorem dX12_takes_24 : decode cX12_takes 24 = .ok (.iload_n 2, 1) := by decide +kernel
theorem dX12_takes_25 : decode cX12_takes 25 = .ok (.i2l, 1) := by decide +kernel
theorem dX12_takes_26 : decode cX12_takes 26 = .ok (.invokestatic 144, 3) := by decide +kernel
theorem dX12_takes_29 : decode cX12_takes 29 = .ok (.ifCond .ne 8, 3) := by decide +kernel
theorem dX12_takes_32 : decode cX12_takes 32 = .ok (.aload_n 0, 1) := by decide +kernel
theorem dX12_takes_33 : decode cX12_takes 33 = .ok (.iconst 3, 1) := by decide +kernel
theorem dX12_takes_34 : decode cX12_takes 34 = .ok (.invokevirtual 140, 3) := by decide +kernel
theorem dX12_takes_37 : decode cX12_takes 37 = .ok (.aload_n 0, 1) := by decide +kernel
theorem dX12_takes_38 : decode cX12_takes 38 = .ok (.getfield 123, 3) := by decide +kernel
theorem dX12_takes_41 : decode cX12_takes 41 = .ok (.istore_n 3, 1) := by decide +kernel
theorem dX12_takes_42 : decode cX12_takes 42 = .ok (.aload_n 0, 1) := by decide +kernel
theorem dX12_takes_43 : decode cX12_takes 43 = .ok (.getfield 128, 3) := by decide +kernel
theorem dX12_takes_46 : decode cX12_takes 46 = .ok (.ifCond .ne 7, 3) := by decide +kernel
theorem dX12_takes_49 : decode cX12_takes 49 = .ok (.aload_n 0, 1) := by decide +kernel
theorem dX12_takes_50 : decode cX12_takes 50 = .ok (.invokevirtual 137, 3) := by decide +kernel
theorem dX12_takes_53 : decode cX12_takes 53 = .ok (.iload_n 3, 1) := by decide +kernel
theorem dX12_takes_54 : decode cX12_takes 54 = .ok (.ireturn, 1) := by decide +kernel
theorem kw_1234 : Cond.fieldLink "FootholdWallModel" 128 "FootholdWallModel" "wrong" "I" ∈ gw := gw_of (tb_of 1234 (by decide +kernel)) (by decide +kernel)
theorem kw_1235 : Cond.fieldLink "FootholdWallModel" 131 "FootholdWallModel" "wrongAt" "I" ∈ gw := gw_of (tb_of 1235 (by decide +kernel)) (by decide +kernel)
theorem kw_1341 : Cond.methodLink "FootholdWallModel" 144 yX12_within ∈ gw := gw_of (tb_of 1341 (by decide +kernel)) (by decide +kernel)
theorem kw_1342 : Cond.static yX12_within ∈ gw := gw_of (tb_of 1342 (by decide +kernel)) (by decide +kernel)
theorem kw_1343 : Cond.code yX12_within cX12_within 6 (some (.boolean)) ∈ gw := gw_of (tb_of 1343 (by decide +kernel)) (by decide +kernel)
theorem kw_1344 : Cond.methodLink "FootholdWallModel" 137 yX12_next ∈ gw := gw_of (tb_of 1344 (by decide +kernel)) (by decide +kernel)
theorem kw_1346 : Cond.instanceMethod yX12_next ∈ gw := gw_of (tb_of 1346 (by decide +kernel)) (by decide +kernel)
theorem kw_1347 : Cond.code yX12_next cX12_next 2 none ∈ gw := gw_of (tb_of 1347 (by decide +kernel)) (by decide +kernel)
theorem kw_1370 : Cond.methodLink "FootholdWallModel" 134 yX12_is ∈ gw := gw_of (tb_of 1370 (by decide +kernel)) (by decide +kernel)
theorem kw_1372 : Cond.instanceMethod yX12_is ∈ gw := gw_of (tb_of 1372 (by decide +kernel)) (by decide +kernel)
theorem kw_1373 : Cond.code yX12_is cX12_is 2 (some (.boolean)) ∈ gw := gw_of (tb_of 1373 (by decide +kernel)) (by decide +kernel)
theorem kw_1378 : Cond.methodLink "FootholdWallModel" 140 yX12_fails ∈ gw := gw_of (tb_of 1378 (by decide +kernel)) (by decide +kernel)
theorem kw_1380 : Cond.instanceMethod yX12_fails ∈ gw := gw_of (tb_of 1380 (by decide +kernel)) (by decide +kernel)
theorem kw_1381 : Cond.code yX12_fails cX12_fails 2 none ∈ gw := gw_of (tb_of 1381 (by decide +kernel)) (by decide +kernel)
theorem ks_43 : Cond.selects RX12 yX12_next yX12_next ∈ gw := gw_of (pv_of 43 (by decide +kernel)) (by decide +kernel)
theorem ks_47 : Cond.selects RX12 yX12_is yX12_is ∈ gw := gw_of (pv_of 47 (by decide +kernel)) (by decide +kernel)
theorem ks_49 : Cond.selects RX12 yX12_fails yX12_fails ∈ gw := gw_of (pv_of 49 (by decide +kernel)) (by decide +kernel)
set_option maxHeartbeats 4000000 in
set_option maxRecDepth 100000 in
theorem s_M_fails (l : Launch) (D : va_G) (cs : CS) (kf : KF) (T : TF) (O : List Nat) (X : va_W) (a0 hg mq : Nat) (x1 : Int32) (o0 : Value) (o1 : Value) (o2 : Value) (y3 : Nat) (y4 : Nat) (o5 : Value) (y6 : Int32) (y7 : Int32) (y8 : Int32) (y9 : Int32) (y10 : Int32) (y11 : Int32) (y12 : Int32) (tl : List Value) (t_a0 : T a0 = some (22, hg, mq)) (b_hg : hg < 90) (l_x1 : 1 ≤ x1.toInt) (u_x1 : x1.toInt ≤ 4) (t_y3 : T y3 = some (1, 900, 0)) (t_y4 : T y4 = some (8, 1302, 0)) (l_y6 : 0 ≤ y6.toInt) (u_y6 : y6.toInt ≤ 900) (l_y7 : 0 ≤ y7.toInt) (u_y7 : y7.toInt ≤ 900) (l_y8 : 0 ≤ y8.toInt) (u_y8 : y8.toInt ≤ 900) (l_y10 : 0 ≤ y10.toInt) (u_y10 : y10.toInt ≤ 999) (hO : okO T (a0 :: O) []) : TK l D cs kf yX12_fails cX12_fails 2 none { frames := 0, cells := 0, slots := 0, locals := 0 } [.ref a0, .int x1] T (a0 :: O) ((a0, .inr (12, o0 :: o1 :: o2 :: (.ref y3) :: (.ref y4) :: o5 :: (.int y6) :: (.int y7) :: (.int y8) :: (.int y9) :: (.int y10) :: (.int y11) :: (.int y12) :: tl)) :: X) (Tv D cs (fun u => ∃ (n0_11 : Int32) (n0_12 : Int32), u = (T, a0 :: O, (a0, .inr (12, o0 :: o1 :: o2 :: (.ref y3) :: (.ref y4) :: o5 :: (.int y6) :: (.int y7) :: (.int y8) :: (.int y9) :: (.int y10) :: (.int n0_11) :: (.int n0_12) :: tl)) :: X) ∧ (NZ n0_11))) := by
  refine tk_of (by decide) (Nat.le_of_ble_eq_true rfl) (fun p e s m below meth c ls A H locs hx hb hr hml hown hts hlocks hnm hkb hH hS hA hOX hks hE hl => ?_)
  have hown : s.vm.findClass RX12 = some m.cls := hown
  have hl : lv_has ls 2 [(0, .ref a0), (1, .int x1)] := hl
  have hOXf := hOX
  refine lv_aload_n hx hb dX12_fails_0 rfl (lv_at hl 0 rfl) ?_
  refine x_getk (ci := 12) (C := RX12) (F := TX12) (N := 36) (v := .int y11) hx hb hts uX12 hown hkb hH 0 rfl rfl 11 (by decide) rfl kw_1234 (fun _ h9 => h9) dX12_fails_1 ?_
  refine lv_if_eq (tgt := 8) hx hb dX12_fails_4 (by decide) (fun c4 => ?_) (fun c4 => ?_)
  · skip
    have tc4 := f_eq (k := 0) (by decide) c4
    refine lv_aload_n hx hb dX12_fails_8 rfl (lv_at hl 0 rfl) ?_
    refine lv_aload_n hx hb dX12_fails_9 rfl (lv_at hl 0 rfl) ?_
    refine x_getk (ci := 12) (C := RX12) (F := TX12) (N := 36) (v := .int y9) hx hb hts uX12 hown hkb hH 0 rfl rfl 9 (by decide) rfl kw_1232 (fun _ h9 => h9) dX12_fails_10 ?_
    refine lv_bipush (v := 23) hx hb dX12_fails_13 (by decide) ?_
    refine lv_icmp_ne (tgt := 22) hx hb dX12_fails_15 (by decide) (fun c15 => ?_) (fun c15 => ?_)
    · skip
      have tc15 := f_ne (k := 23) (by decide) c15
      refine lv_iload_n hx hb dX12_fails_22 rfl (lv_at hl 1 rfl) ?_
      refine x_putk (ci := 12) (v := .int x1) (ty := tyX12 11) (C := RX12) (F := TX12) (N := 36) hx hb hts uX12 tyX12 tyX12_ok nmX12 hown hkb hH hS 0 rfl rfl 11 (by decide) kw_1234 (fun _ h9 => h9) rfl (tyX12_ok 11 (by decide)) rfl rfl (by show 11 < tl.length + 13; omega) dX12_fails_23 (fun H locs hH hS => ?_)
      have hH : HT D cs A T (a0 :: O) ((a0, .inr (12, o0 :: o1 :: o2 :: (.ref y3) :: (.ref y4) :: o5 :: (.int y6) :: (.int y7) :: (.int y8) :: (.int y9) :: (.int y10) :: (.int x1) :: (.int y12) :: tl)) :: X) H := hH
      refine lv_aload_n hx hb dX12_fails_26 rfl (lv_at hl 0 rfl) ?_
      refine lv_aload_n hx hb dX12_fails_27 rfl (lv_at hl 0 rfl) ?_
      refine x_getk (ci := 12) (C := RX12) (F := TX12) (N := 36) (v := .int y6) hx hb hts uX12 hown hkb hH 0 rfl rfl 6 (by decide) rfl kw_1229 (fun _ h9 => h9) dX12_fails_28 ?_
      refine x_putk (ci := 12) (v := .int y6) (ty := tyX12 12) (C := RX12) (F := TX12) (N := 36) hx hb hts uX12 tyX12 tyX12_ok nmX12 hown hkb hH hS 0 rfl rfl 12 (by decide) kw_1235 (fun _ h9 => h9) rfl (tyX12_ok 12 (by decide)) rfl rfl (by show 12 < tl.length + 13; omega) dX12_fails_31 (fun H locs hH hS => ?_)
      have hH : HT D cs A T (a0 :: O) ((a0, .inr (12, o0 :: o1 :: o2 :: (.ref y3) :: (.ref y4) :: o5 :: (.int y6) :: (.int y7) :: (.int y8) :: (.int y9) :: (.int y10) :: (.int x1) :: (.int y6) :: tl)) :: X) H := hH
      exact te_v hx hb hr hlocks hH hS (⟨x1, y6, rfl, (by unfold NZ; omega)⟩) dX12_fails_34
    · skip
      have tc15 := f_eq (k := 23) (by decide) c15
      refine lv_iconst (v := 1) hx hb dX12_fails_18 (by decide) ?_
      refine lv_goto (tgt := 23) hx hb dX12_fails_19 (by decide) ?_
      refine x_putk (ci := 12) (v := .int 1) (ty := tyX12 11) (C := RX12) (F := TX12) (N := 36) hx hb hts uX12 tyX12 tyX12_ok nmX12 hown hkb hH hS 0 rfl rfl 11 (by decide) kw_1234 (fun _ h9 => h9) rfl (tyX12_ok 11 (by decide)) rfl rfl (by show 11 < tl.length + 13; omega) dX12_fails_23 (fun H locs hH hS => ?_)
      have hH : HT D cs A T (a0 :: O) ((a0, .inr (12, o0 :: o1 :: o2 :: (.ref y3) :: (.ref y4) :: o5 :: (.int y6) :: (.int y7) :: (.int y8) :: (.int y9) :: (.int y10) :: (.int 1) :: (.int y12) :: tl)) :: X) H := hH
      refine lv_aload_n hx hb dX12_fails_26 rfl (lv_at hl 0 rfl) ?_
      refine lv_aload_n hx hb dX12_fails_27 rfl (lv_at hl 0 rfl) ?_
      refine x_getk (ci := 12) (C := RX12) (F := TX12) (N := 36) (v := .int y6) hx hb hts uX12 hown hkb hH 0 rfl rfl 6 (by decide) rfl kw_1229 (fun _ h9 => h9) dX12_fails_28 ?_
      refine x_putk (ci := 12) (v := .int y6) (ty := tyX12 12) (C := RX12) (F := TX12) (N := 36) hx hb hts uX12 tyX12 tyX12_ok nmX12 hown hkb hH hS 0 rfl rfl 12 (by decide) kw_1235 (fun _ h9 => h9) rfl (tyX12_ok 12 (by decide)) rfl rfl (by show 12 < tl.length + 13; omega) dX12_fails_31 (fun H locs hH hS => ?_)
      have hH : HT D cs A T (a0 :: O) ((a0, .inr (12, o0 :: o1 :: o2 :: (.ref y3) :: (.ref y4) :: o5 :: (.int y6) :: (.int y7) :: (.int y8) :: (.int y9) :: (.int y10) :: (.int 1) :: (.int y6) :: tl)) :: X) H := hH
      have z9_1 : (1 : Int32).toInt = 1 := by decide
      have z9_1 : (1 : Int32).toInt = 1 := by decide
      exact te_v hx hb hr hlocks hH hS (⟨(1 : Int32), y6, rfl, (by unfold NZ; omega)⟩) dX12_fails_34
  · skip
    have tc4 := f_ne (k := 0) (by decide) c4
    exact te_v hx hb hr hlocks hH hS (⟨y11, y12, rfl, (by unfold NZ; omega)⟩) dX12_fails_7
set_option maxHeartbeats 4000000 in
set_option maxRecDepth 100000 in
theorem s_M_is (l : Launch) (D : va_G) (cs : CS) (kf : KF) (T : TF) (O : List Nat) (X : va_W) (a0 hg mq : Nat) (x1 : Int32) (o0 : Value) (o1 : Value) (o2 : Value) (y3 : Nat) (y4 : Nat) (o5 : Value) (y6 : Int32) (y7 : Int32) (y8 : Int32) (y9 : Int32) (y10 : Int32) (y11 : Int32) (y12 : Int32) (tl : List Value) (t_a0 : T a0 = some (22, hg, mq)) (b_hg : hg < 90) (t_y3 : T y3 = some (1, 900, 0)) (t_y4 : T y4 = some (8, 1302, 0)) (l_y6 : 0 ≤ y6.toInt) (u_y6 : y6.toInt ≤ 900) (l_y7 : 0 ≤ y7.toInt) (u_y7 : y7.toInt ≤ 900) (l_y8 : 0 ≤ y8.toInt) (u_y8 : y8.toInt ≤ 900) (l_y10 : 0 ≤ y10.toInt) (u_y10 : y10.toInt ≤ 999) (hO : okO T (a0 :: O) []) : TK l D cs kf yX12_is cX12_is 2 (some (.boolean)) { frames := 0, cells := 0, slots := 0, locals := 0 } [.ref a0, .int x1] T (a0 :: O) ((a0, .inr (12, o0 :: o1 :: o2 :: (.ref y3) :: (.ref y4) :: o5 :: (.int y6) :: (.int y7) :: (.int y8) :: (.int y9) :: (.int y10) :: (.int y11) :: (.int y12) :: tl)) :: X) (Ti D cs (fun r u => u = (T, a0 :: O, (a0, .inr (12, o0 :: o1 :: o2 :: (.ref y3) :: (.ref y4) :: o5 :: (.int y6) :: (.int y7) :: (.int y8) :: (.int y9) :: (.int y10) :: (.int y11) :: (.int y12) :: tl)) :: X) ∧ 0 ≤ r.toInt ∧ r.toInt ≤ 1 ∧ (r.toInt = 0 ∨ (y11.toInt = 0 ∧ y9.toInt = x1.toInt)))) := by
  refine tk_of (by decide) (Nat.le_of_ble_eq_true rfl) (fun p e s m below meth c ls A H locs hx hb hr hml hown hts hlocks hnm hkb hH hS hA hOX hks hE hl => ?_)
  have hown : s.vm.findClass RX12 = some m.cls := hown
  have hl : lv_has ls 2 [(0, .ref a0), (1, .int x1)] := hl
  have hOXf := hOX
  refine lv_aload_n hx hb dX12_is_0 rfl (lv_at hl 0 rfl) ?_
  refine x_getk (ci := 12) (C := RX12) (F := TX12) (N := 36) (v := .int y11) hx hb hts uX12 hown hkb hH 0 rfl rfl 11 (by decide) rfl kw_1234 (fun _ h9 => h9) dX12_is_1 ?_
  refine lv_if_ne (tgt := 19) hx hb dX12_is_4 (by decide) (fun c4 => ?_) (fun c4 => ?_)
  · skip
    have tc4 := f_ne (k := 0) (by decide) c4
    refine lv_iconst (v := 0) hx hb dX12_is_19 (by decide) ?_
    have z9_0 : (0 : Int32).toInt = 0 := by decide
    exact te_z hx hb hr hlocks (by rfl) hH hS (⟨rfl, by decide, by decide, by omega⟩) dX12_is_20
  · skip
    have tc4 := f_eq (k := 0) (by decide) c4
    refine lv_aload_n hx hb dX12_is_7 rfl (lv_at hl 0 rfl) ?_
    refine x_getk (ci := 12) (C := RX12) (F := TX12) (N := 36) (v := .int y9) hx hb hts uX12 hown hkb hH 0 rfl rfl 9 (by decide) rfl kw_1232 (fun _ h9 => h9) dX12_is_8 ?_
    refine lv_iload_n hx hb dX12_is_11 rfl (lv_at hl 1 rfl) ?_
    refine lv_icmp_ne (tgt := 19) hx hb dX12_is_12 (by decide) (fun c12 => ?_) (fun c12 => ?_)
    · skip
      have fuc12 := full_i y9
      have fvc12 := full_i x1
      have tc12 := g_ne c12
      refine lv_iconst (v := 0) hx hb dX12_is_19 (by decide) ?_
      have z9_0 : (0 : Int32).toInt = 0 := by decide
      exact te_z hx hb hr hlocks (by rfl) hH hS (⟨rfl, by decide, by decide, by omega⟩) dX12_is_20
    · skip
      have fuc12 := full_i y9
      have fvc12 := full_i x1
      have tc12 := g_eq c12
      refine lv_iconst (v := 1) hx hb dX12_is_15 (by decide) ?_
      refine lv_goto (tgt := 20) hx hb dX12_is_16 (by decide) ?_
      have z9_1 : (1 : Int32).toInt = 1 := by decide
      exact te_z hx hb hr hlocks (by rfl) hH hS (⟨rfl, by decide, by decide, by omega⟩) dX12_is_20
set_option maxHeartbeats 4000000 in
set_option maxRecDepth 100000 in
theorem s_M_eats (l : Launch) (D : va_G) (cs : CS) (kf : KF) (T : TF) (O : List Nat) (X : va_W) (a0 hg mq : Nat) (x1 : Int32) (o0 : Value) (o1 : Value) (o2 : Value) (y3 : Nat) (y4 : Nat) (o5 : Value) (y6 : Int32) (y7 : Int32) (y8 : Int32) (y9 : Int32) (y10 : Int32) (y11 : Int32) (y12 : Int32) (tl : List Value) (t_a0 : T a0 = some (22, hg, mq)) (b_hg : hg < 90) (t_y3 : T y3 = some (1, 900, 0)) (t_y4 : T y4 = some (8, 1302, 0)) (l_y6 : 0 ≤ y6.toInt) (u_y6 : y6.toInt ≤ 900) (l_y7 : 0 ≤ y7.toInt) (u_y7 : y7.toInt ≤ 900) (l_y8 : 0 ≤ y8.toInt) (u_y8 : y8.toInt ≤ 900) (l_y10 : 0 ≤ y10.toInt) (u_y10 : y10.toInt ≤ 999) (k1 : y6.toInt ≤ y7.toInt) (k2 : y7.toInt ≤ y8.toInt) (k3 : TK3 y9 y6 y7) (k4 : x1.toInt ≠ 22) (hO : okO T (a0 :: O) [1]) : TK l D cs kf yX12_eats cX12_eats 2 (some (.boolean)) { frames := 6, cells := 0, slots := 0, locals := 129 } [.ref a0, .int x1] T (a0 :: O) ((a0, .inr (12, o0 :: o1 :: o2 :: (.ref y3) :: (.ref y4) :: o5 :: (.int y6) :: (.int y7) :: (.int y8) :: (.int y9) :: (.int y10) :: (.int y11) :: (.int y12) :: tl)) :: X) (Ti D cs (fun r u => ∃ (n0_6 : Int32) (n0_7 : Int32) (n0_9 : Int32) (n0_10 : Int32), u = (T, a0 :: O, (a0, .inr (12, o0 :: o1 :: o2 :: (.ref y3) :: (.ref y4) :: o5 :: (.int n0_6) :: (.int n0_7) :: (.int y8) :: (.int n0_9) :: (.int n0_10) :: (.int y11) :: (.int y12) :: tl)) :: X) ∧ 0 ≤ r.toInt ∧ r.toInt ≤ 1 ∧ (y6.toInt ≤ n0_6.toInt) ∧ (n0_6.toInt ≤ n0_7.toInt) ∧ (n0_7.toInt ≤ y8.toInt) ∧ (TK3 n0_9 n0_6 n0_7) ∧ (0 ≤ n0_10.toInt) ∧ (n0_10.toInt ≤ 999) ∧ (r.toInt = 0 ∨ (y11.toInt = 0 ∧ y6.toInt + 1 ≤ n0_6.toInt)))) := by
  refine tk_of (by decide) (Nat.le_of_ble_eq_true rfl) (fun p e s m below meth c ls A H locs hx hb hr hml hown hts hlocks hnm hkb hH hS hA hOX hks hE hl => ?_)
  have hown : s.vm.findClass RX12 = some m.cls := hown
  have hl : lv_has ls 2 [(0, .ref a0), (1, .int x1)] := hl
  have hOXf := hOX
  refine lv_aload_n hx hb dX12_eats_0 rfl (lv_at hl 0 rfl) ?_
  refine lv_iload_n hx hb dX12_eats_1 rfl (lv_at hl 1 rfl) ?_
  refine tk_i hH hS hA (tr_V (n := 1) (As := [.int x1]) hx hb hml hown hts hkb hH (ox_map hOX rfl) hks hE hS hA (s_M_is l D cs kf T O X a0 hg mq x1 o0 o1 o2 y3 y4 o5 y6 y7 y8 y9 y10 y11 y12 tl t_a0 b_hg t_y3 t_y4 (by omega) (by omega) (by omega) (by omega) (by omega) (by omega) (by omega) (by omega) (hO.sub (by decide))) kw_1370 kw_1372 ks_47 kw_13 kw_1373 (by decide +kernel) ⟨Nat.le_of_ble_eq_true rfl, Nat.le_of_ble_eq_true rfl⟩ (x_recv (ci := 12) hkb hH 0 rfl rfl) rfl rfl hl.1 (Nat.le_of_ble_eq_true rfl) dX12_eats_2 ⟨Nat.le_of_ble_eq_true rfl, Nat.le_of_ble_eq_true rfl⟩) (fun v2 u H locs hz9 hH hS => ?_)
  obtain ⟨rfl, l_v2, u_v2, x_v20⟩ := hz9
  have hH : HT D cs A T (a0 :: O) ((a0, .inr (12, o0 :: o1 :: o2 :: (.ref y3) :: (.ref y4) :: o5 :: (.int y6) :: (.int y7) :: (.int y8) :: (.int y9) :: (.int y10) :: (.int y11) :: (.int y12) :: tl)) :: X) H := hH
  refine W.widen (k := 0) (n := 0) (Nat.le_of_ble_eq_true rfl) (Nat.le_of_ble_eq_true rfl) ?_
  refine lv_if_ne (tgt := 10) hx hb dX12_eats_5 (by decide) (fun c5 => ?_) (fun c5 => ?_)
  · skip
    have tc5 := f_ne (k := 0) (by decide) c5
    replace x_v20 := x_v20.resolve_left tc5
    have hk3 := k3 (by omega)
    refine lv_aload_n hx hb dX12_eats_10 rfl (lv_at hl 0 rfl) ?_
    refine tk_v hH hS hA (tr_V (n := 0) (As := []) hx hb hml hown hts hkb hH (ox_map hOX rfl) hks hE hS hA (s_M_next l D cs kf T O X a0 hg mq o0 o1 o2 y3 y4 o5 y6 y7 y8 y9 y10 y11 y12 tl t_a0 b_hg t_y3 t_y4 (by omega) (by omega) (by omega) (by omega) (by omega) (by omega) (by omega) (by omega) (by omega) (hO.sub (by decide))) kw_1344 kw_1346 ks_43 kw_13 kw_1347 (by decide +kernel) ⟨Nat.le_of_ble_eq_true rfl, Nat.le_of_ble_eq_true rfl⟩ (x_recv (ci := 12) hkb hH 0 rfl rfl) rfl rfl hl.1 (Nat.le_of_ble_eq_true rfl) dX12_eats_11 ⟨Nat.le_of_ble_eq_true rfl, Nat.le_of_ble_eq_true rfl⟩) (fun u H locs hz9 hH hS => ?_)
    obtain ⟨n11_0_6, n11_0_7, n11_0_9, n11_0_10, rfl, x_v110, x_v111, x_v112, x_v113, x_v114, x_v115⟩ := hz9
    have hH : HT D cs A T (a0 :: O) ((a0, .inr (12, o0 :: o1 :: o2 :: (.ref y3) :: (.ref y4) :: o5 :: (.int n11_0_6) :: (.int n11_0_7) :: (.int y8) :: (.int n11_0_9) :: (.int n11_0_10) :: (.int y11) :: (.int y12) :: tl)) :: X) H := hH
    refine W.widen (k := 0) (n := 0) (Nat.le_of_ble_eq_true rfl) (Nat.le_of_ble_eq_true rfl) ?_
    refine lv_iconst (v := 1) hx hb dX12_eats_14 (by decide) ?_
    have z9_1 : (1 : Int32).toInt = 1 := by decide
    exact te_z hx hb hr hlocks (by rfl) hH hS (⟨n11_0_6, n11_0_7, n11_0_9, n11_0_10, rfl, by decide, by decide, by omega, by omega, by omega, x_v113, by omega, by omega, by omega⟩) dX12_eats_15
  · skip
    have tc5 := f_eq (k := 0) (by decide) c5
    clear x_v20
    refine lv_iconst (v := 0) hx hb dX12_eats_8 (by decide) ?_
    have z9_0 : (0 : Int32).toInt = 0 := by decide
    exact te_z hx hb hr hlocks (by rfl) hH hS (⟨y6, y7, y9, y10, rfl, by decide, by decide, by omega, by omega, by omega, k3, by omega, by omega, by omega⟩) dX12_eats_9
set_option maxHeartbeats 4000000 in
set_option maxRecDepth 100000 in
theorem s_M_takes (l : Launch) (D : va_G) (cs : CS) (kf : KF) (T : TF) (O : List Nat) (X : va_W) (a0 hg mq : Nat) (x1 : Int32) (x2 : Int32) (o0 : Value) (o1 : Value) (o2 : Value) (y3 : Nat) (y4 : Nat) (o5 : Value) (y6 : Int32) (y7 : Int32) (y8 : Int32) (y9 : Int32) (y10 : Int32) (y11 : Int32) (y12 : Int32) (tl : List Value) (t_a0 : T a0 = some (22, hg, mq)) (b_hg : hg < 90) (t_y3 : T y3 = some (1, 900, 0)) (t_y4 : T y4 = some (8, 1302, 0)) (l_y6 : 0 ≤ y6.toInt) (u_y6 : y6.toInt ≤ 900) (l_y7 : 0 ≤ y7.toInt) (u_y7 : y7.toInt ≤ 900) (l_y8 : 0 ≤ y8.toInt) (u_y8 : y8.toInt ≤ 900) (l_y10 : 0 ≤ y10.toInt) (u_y10 : y10.toInt ≤ 999) (k1 : y6.toInt ≤ y7.toInt) (k2 : y7.toInt ≤ y8.toInt) (k3 : TK3 y9 y6 y7) (hO : okO T (a0 :: O) [1]) : TK l D cs kf yX12_takes cX12_takes 4 (some (.int)) { frames := 6, cells := 0, slots := 0, locals := 129 } [.ref a0, .int x1, .int x2] T (a0 :: O) ((a0, .inr (12, o0 :: o1 :: o2 :: (.ref y3) :: (.ref y4) :: o5 :: (.int y6) :: (.int y7) :: (.int y8) :: (.int y9) :: (.int y10) :: (.int y11) :: (.int y12) :: tl)) :: X) (Ti D cs (fun r u => ∃ (n0_6 : Int32) (n0_7 : Int32) (n0_9 : Int32) (n0_10 : Int32) (n0_11 : Int32) (n0_12 : Int32), u = (T, a0 :: O, (a0, .inr (12, o0 :: o1 :: o2 :: (.ref y3) :: (.ref y4) :: o5 :: (.int n0_6) :: (.int n0_7) :: (.int y8) :: (.int n0_9) :: (.int n0_10) :: (.int n0_11) :: (.int n0_12) :: tl)) :: X) ∧ 0 ≤ r.toInt ∧ r.toInt ≤ 999 ∧ (y6.toInt ≤ n0_6.toInt) ∧ (n0_6.toInt ≤ n0_7.toInt) ∧ (n0_7.toInt ≤ y8.toInt) ∧ (TK3 n0_9 n0_6 n0_7) ∧ (0 ≤ n0_10.toInt) ∧ (n0_10.toInt ≤ 999) ∧ (TKN y11 n0_11 r x1 x2 y6 n0_6))) := by
  refine tk_of (by decide) (Nat.le_of_ble_eq_true rfl) (fun p e s m below meth c ls A H locs hx hb hr hml hown hts hlocks hnm hkb hH hS hA hOX hks hE hl => ?_)
  have hown : s.vm.findClass RX12 = some m.cls := hown
  have hl : lv_has ls 4 [(0, .ref a0), (1, .int x1), (2, .int x2)] := hl
  have hOXf := hOX
  refine lv_aload_n hx hb dX12_takes_0 rfl (lv_at hl 0 rfl) ?_
  refine lv_bipush (v := 21) hx hb dX12_takes_1 (by decide) ?_
  have z9_21 : (21 : Int32).toInt = 21 := by decide
  refine tk_i hH hS hA (tr_V (n := 1) (As := [.int 21]) hx hb hml hown hts hkb hH (ox_map hOX rfl) hks hE hS hA (s_M_is l D cs kf T O X a0 hg mq (21) o0 o1 o2 y3 y4 o5 y6 y7 y8 y9 y10 y11 y12 tl t_a0 b_hg t_y3 t_y4 (by omega) (by omega) (by omega) (by omega) (by omega) (by omega) (by omega) (by omega) (hO.sub (by decide))) kw_1370 kw_1372 ks_47 kw_13 kw_1373 (by decide +kernel) ⟨Nat.le_of_ble_eq_true rfl, Nat.le_of_ble_eq_true rfl⟩ (x_recv (ci := 12) hkb hH 0 rfl rfl) rfl rfl hl.1 (Nat.le_of_ble_eq_true rfl) dX12_takes_3 ⟨Nat.le_of_ble_eq_true rfl, Nat.le_of_ble_eq_true rfl⟩) (fun v3 u H locs hz9 hH hS => ?_)
  obtain ⟨rfl, l_v3, u_v3, x_v30⟩ := hz9
  have hH : HT D cs A T (a0 :: O) ((a0, .inr (12, o0 :: o1 :: o2 :: (.ref y3) :: (.ref y4) :: o5 :: (.int y6) :: (.int y7) :: (.int y8) :: (.int y9) :: (.int y10) :: (.int y11) :: (.int y12) :: tl)) :: X) H := hH
  refine W.widen (k := 0) (n := 0) (Nat.le_of_ble_eq_true rfl) (Nat.le_of_ble_eq_true rfl) ?_
  refine lv_if_ne (tgt := 17) hx hb dX12_takes_6 (by decide) (fun c6 => ?_) (fun c6 => ?_)
  · skip
    have tc6 := f_ne (k := 0) (by decide) c6
    replace x_v30 := x_v30.resolve_left tc6
    have hk3 := k3 (by omega)
    refine lv_aload_n hx hb dX12_takes_17 rfl (lv_at hl 0 rfl) ?_
    refine x_getk (ci := 12) (C := RX12) (F := TX12) (N := 36) (v := .int y10) hx hb hts uX12 hown hkb hH 0 rfl rfl 10 (by decide) rfl kw_1233 (fun _ h9 => h9) dX12_takes_18 ?_
    refine lv_i2l hx hb dX12_takes_21 rfl ?_
    refine lv_iload_n hx hb dX12_takes_22 rfl (lv_at hl 1 rfl) ?_
    refine lv_i2l hx hb dX12_takes_23 rfl ?_
    refine lv_iload_n hx hb dX12_takes_24 rfl (lv_at hl 2 rfl) ?_
    refine lv_i2l hx hb dX12_takes_25 rfl ?_
    refine tk_i hH hS hA (tr_S (n := 3) (As := [.long y10.toInt64, .long x1.toInt64, .long x2.toInt64]) hx hb hml hown hts hkb hH (ox_map hOX rfl) hks hE hS hA (s_M_within l D cs kf T (a0 :: O) ((a0, .inr (12, o0 :: o1 :: o2 :: (.ref y3) :: (.ref y4) :: o5 :: (.int y6) :: (.int y7) :: (.int y8) :: (.int y9) :: (.int y10) :: (.int y11) :: (.int y12) :: tl)) :: X) y10.toInt64 x1.toInt64 x2.toInt64  (hO.sub (by decide))) kw_1341 kw_1342 kw_13 kw_1343 (by decide +kernel) ⟨Nat.le_of_ble_eq_true rfl, Nat.le_of_ble_eq_true rfl⟩ rfl rfl hl.1 (Nat.le_of_ble_eq_true rfl) dX12_takes_26 ⟨Nat.le_of_ble_eq_true rfl, Nat.le_of_ble_eq_true rfl⟩) (fun v26 u H locs hz9 hH hS => ?_)
    obtain ⟨rfl, l_v26, u_v26, x_v260, x_v261⟩ := hz9
    simp only [Int32.toInt_toInt64] at x_v260 x_v261
    have hH : HT D cs A T (a0 :: O) ((a0, .inr (12, o0 :: o1 :: o2 :: (.ref y3) :: (.ref y4) :: o5 :: (.int y6) :: (.int y7) :: (.int y8) :: (.int y9) :: (.int y10) :: (.int y11) :: (.int y12) :: tl)) :: X) H := hH
    refine W.widen (k := 0) (n := 0) (Nat.le_of_ble_eq_true rfl) (Nat.le_of_ble_eq_true rfl) ?_
    refine lv_if_ne (tgt := 37) hx hb dX12_takes_29 (by decide) (fun c29 => ?_) (fun c29 => ?_)
    · skip
      have tc29 := f_ne (k := 0) (by decide) c29
      replace x_v260 := x_v260.resolve_left tc29
      clear x_v261
      refine lv_aload_n hx hb dX12_takes_37 rfl (lv_at hl 0 rfl) ?_
      refine x_getk (ci := 12) (C := RX12) (F := TX12) (N := 36) (v := .int y10) hx hb hts uX12 hown hkb hH 0 rfl rfl 10 (by decide) rfl kw_1233 (fun _ h9 => h9) dX12_takes_38 ?_
      refine lv_istore_n (lv' := [(3, .int y10), (0, .ref a0), (1, .int x1), (2, .int x2)]) hx hb dX12_takes_41 rfl hl (by decide) rfl (fun ls hl => ?_)
      refine lv_aload_n hx hb dX12_takes_42 rfl (lv_at hl 1 rfl) ?_
      refine x_getk (ci := 12) (C := RX12) (F := TX12) (N := 36) (v := .int y11) hx hb hts uX12 hown hkb hH 0 rfl rfl 11 (by decide) rfl kw_1234 (fun _ h9 => h9) dX12_takes_43 ?_
      refine lv_if_ne (tgt := 53) hx hb dX12_takes_46 (by decide) (fun c46 => ?_) (fun c46 => ?_)
      · skip
        have tc46 := f_ne (k := 0) (by decide) c46
        refine lv_iload_n hx hb dX12_takes_53 rfl (lv_at hl 0 rfl) ?_
        exact te_i hx hb hr hlocks hH hS (⟨y6, y7, y9, y10, y11, y12, rfl, by omega, by omega, by omega, by omega, by omega, k3, by omega, by omega, (by first | (intro q; refine ⟨?_, ?_, ?_, ?_⟩ <;> omega))⟩) dX12_takes_54
      · skip
        have tc46 := f_eq (k := 0) (by decide) c46
        refine lv_aload_n hx hb dX12_takes_49 rfl (lv_at hl 1 rfl) ?_
        refine tk_v hH hS hA (tr_V (n := 0) (As := []) hx hb hml hown hts hkb hH (ox_map hOX rfl) hks hE hS hA (s_M_next l D cs kf T O X a0 hg mq o0 o1 o2 y3 y4 o5 y6 y7 y8 y9 y10 y11 y12 tl t_a0 b_hg t_y3 t_y4 (by omega) (by omega) (by omega) (by omega) (by omega) (by omega) (by omega) (by omega) (by omega) (hO.sub (by decide))) kw_1344 kw_1346 ks_43 kw_13 kw_1347 (by decide +kernel) ⟨Nat.le_of_ble_eq_true rfl, Nat.le_of_ble_eq_true rfl⟩ (x_recv (ci := 12) hkb hH 0 rfl rfl) rfl rfl hl.1 (Nat.le_of_ble_eq_true rfl) dX12_takes_50 ⟨Nat.le_of_ble_eq_true rfl, Nat.le_of_ble_eq_true rfl⟩) (fun u H locs hz9 hH hS => ?_)
        obtain ⟨n50_0_6, n50_0_7, n50_0_9, n50_0_10, rfl, x_v500, x_v501, x_v502, x_v503, x_v504, x_v505⟩ := hz9
        have hH : HT D cs A T (a0 :: O) ((a0, .inr (12, o0 :: o1 :: o2 :: (.ref y3) :: (.ref y4) :: o5 :: (.int n50_0_6) :: (.int n50_0_7) :: (.int y8) :: (.int n50_0_9) :: (.int n50_0_10) :: (.int y11) :: (.int y12) :: tl)) :: X) H := hH
        refine W.widen (k := 0) (n := 0) (Nat.le_of_ble_eq_true rfl) (Nat.le_of_ble_eq_true rfl) ?_
        refine lv_iload_n hx hb dX12_takes_53 rfl (lv_at hl 0 rfl) ?_
        exact te_i hx hb hr hlocks hH hS (⟨n50_0_6, n50_0_7, n50_0_9, n50_0_10, y11, y12, rfl, by omega, by omega, by omega, by omega, by omega, x_v503, by omega, by omega, (by first | (intro q; refine ⟨?_, ?_, ?_, ?_⟩ <;> omega))⟩) dX12_takes_54
    · skip
      have tc29 := f_eq (k := 0) (by decide) c29
      clear x_v260
      replace x_v261 := x_v261.resolve_left (fun q9 => q9 tc29)
      refine lv_aload_n hx hb dX12_takes_32 rfl (lv_at hl 0 rfl) ?_
      refine lv_iconst (v := 3) hx hb dX12_takes_33 (by decide) ?_
      have z9_3 : (3 : Int32).toInt = 3 := by decide
      refine tk_v hH hS hA (tr_V (n := 1) (As := [.int 3]) hx hb hml hown hts hkb hH (ox_map hOX rfl) hks hE hS hA (s_M_fails l D cs kf T O X a0 hg mq (3) o0 o1 o2 y3 y4 o5 y6 y7 y8 y9 y10 y11 y12 tl t_a0 b_hg (by decide) (by decide) t_y3 t_y4 (by omega) (by omega) (by omega) (by omega) (by omega) (by omega) (by omega) (by omega) (hO.sub (by decide))) kw_1378 kw_1380 ks_49 kw_13 kw_1381 (by decide +kernel) ⟨Nat.le_of_ble_eq_true rfl, Nat.le_of_ble_eq_true rfl⟩ (x_recv (ci := 12) hkb hH 0 rfl rfl) rfl rfl hl.1 (Nat.le_of_ble_eq_true rfl) dX12_takes_34 ⟨Nat.le_of_ble_eq_true rfl, Nat.le_of_ble_eq_true rfl⟩) (fun u H locs hz9 hH hS => ?_)
      obtain ⟨n34_0_11, n34_0_12, rfl, x_v340⟩ := hz9
      have hH : HT D cs A T (a0 :: O) ((a0, .inr (12, o0 :: o1 :: o2 :: (.ref y3) :: (.ref y4) :: o5 :: (.int y6) :: (.int y7) :: (.int y8) :: (.int y9) :: (.int y10) :: (.int n34_0_11) :: (.int n34_0_12) :: tl)) :: X) H := hH
      refine W.widen (k := 0) (n := 0) (Nat.le_of_ble_eq_true rfl) (Nat.le_of_ble_eq_true rfl) ?_
      refine lv_aload_n hx hb dX12_takes_37 rfl (lv_at hl 0 rfl) ?_
      refine x_getk (ci := 12) (C := RX12) (F := TX12) (N := 36) (v := .int y10) hx hb hts uX12 hown hkb hH 0 rfl rfl 10 (by decide) rfl kw_1233 (fun _ h9 => h9) dX12_takes_38 ?_
      refine lv_istore_n (lv' := [(3, .int y10), (0, .ref a0), (1, .int x1), (2, .int x2)]) hx hb dX12_takes_41 rfl hl (by decide) rfl (fun ls hl => ?_)
      refine lv_aload_n hx hb dX12_takes_42 rfl (lv_at hl 1 rfl) ?_
      refine x_getk (ci := 12) (C := RX12) (F := TX12) (N := 36) (v := .int n34_0_11) hx hb hts uX12 hown hkb hH 0 rfl rfl 11 (by decide) rfl kw_1234 (fun _ h9 => h9) dX12_takes_43 ?_
      refine lv_if_ne (tgt := 53) hx hb dX12_takes_46 (by decide) (fun c46 => ?_) (fun c46 => ?_)
      · skip
        have tc46 := f_ne (k := 0) (by decide) c46
        refine lv_iload_n hx hb dX12_takes_53 rfl (lv_at hl 0 rfl) ?_
        exact te_i hx hb hr hlocks hH hS (⟨y6, y7, y9, y10, n34_0_11, n34_0_12, rfl, by omega, by omega, by omega, by omega, by omega, k3, by omega, by omega, (by first | exact (fun q => absurd q x_v340) | (intro q; refine ⟨?_, ?_, ?_, ?_⟩ <;> omega))⟩) dX12_takes_54
      · skip
        have tc46 := f_eq (k := 0) (by decide) c46
        refine lv_aload_n hx hb dX12_takes_49 rfl (lv_at hl 1 rfl) ?_
        refine tk_v hH hS hA (tr_V (n := 0) (As := []) hx hb hml hown hts hkb hH (ox_map hOX rfl) hks hE hS hA (s_M_next l D cs kf T O X a0 hg mq o0 o1 o2 y3 y4 o5 y6 y7 y8 y9 y10 n34_0_11 n34_0_12 tl t_a0 b_hg t_y3 t_y4 (by omega) (by omega) (by omega) (by omega) (by omega) (by omega) (by omega) (by omega) (by omega) (hO.sub (by decide))) kw_1344 kw_1346 ks_43 kw_13 kw_1347 (by decide +kernel) ⟨Nat.le_of_ble_eq_true rfl, Nat.le_of_ble_eq_true rfl⟩ (x_recv (ci := 12) hkb hH 0 rfl rfl) rfl rfl hl.1 (Nat.le_of_ble_eq_true rfl) dX12_takes_50 ⟨Nat.le_of_ble_eq_true rfl, Nat.le_of_ble_eq_true rfl⟩) (fun u H locs hz9 hH hS => ?_)
        obtain ⟨n50_0_6, n50_0_7, n50_0_9, n50_0_10, rfl, x_v500, x_v501, x_v502, x_v503, x_v504, x_v505⟩ := hz9
        have hH : HT D cs A T (a0 :: O) ((a0, .inr (12, o0 :: o1 :: o2 :: (.ref y3) :: (.ref y4) :: o5 :: (.int n50_0_6) :: (.int n50_0_7) :: (.int y8) :: (.int n50_0_9) :: (.int n50_0_10) :: (.int n34_0_11) :: (.int n34_0_12) :: tl)) :: X) H := hH
        refine W.widen (k := 0) (n := 0) (Nat.le_of_ble_eq_true rfl) (Nat.le_of_ble_eq_true rfl) ?_
        refine lv_iload_n hx hb dX12_takes_53 rfl (lv_at hl 0 rfl) ?_
        exact te_i hx hb hr hlocks hH hS (⟨n50_0_6, n50_0_7, n50_0_9, n50_0_10, n34_0_11, n34_0_12, rfl, by omega, by omega, by omega, by omega, by omega, x_v503, by omega, by omega, (by first | exact (fun q => absurd q x_v340) | (intro q; refine ⟨?_, ?_, ?_, ?_⟩ <;> omega))⟩) dX12_takes_54
  · skip
    have tc6 := f_eq (k := 0) (by decide) c6
    clear x_v30
    refine lv_aload_n hx hb dX12_takes_9 rfl (lv_at hl 0 rfl) ?_
    refine lv_iconst (v := 2) hx hb dX12_takes_10 (by decide) ?_
    have z9_2 : (2 : Int32).toInt = 2 := by decide
    refine tk_v hH hS hA (tr_V (n := 1) (As := [.int 2]) hx hb hml hown hts hkb hH (ox_map hOX rfl) hks hE hS hA (s_M_fails l D cs kf T O X a0 hg mq (2) o0 o1 o2 y3 y4 o5 y6 y7 y8 y9 y10 y11 y12 tl t_a0 b_hg (by decide) (by decide) t_y3 t_y4 (by omega) (by omega) (by omega) (by omega) (by omega) (by omega) (by omega) (by omega) (hO.sub (by decide))) kw_1378 kw_1380 ks_49 kw_13 kw_1381 (by decide +kernel) ⟨Nat.le_of_ble_eq_true rfl, Nat.le_of_ble_eq_true rfl⟩ (x_recv (ci := 12) hkb hH 0 rfl rfl) rfl rfl hl.1 (Nat.le_of_ble_eq_true rfl) dX12_takes_11 ⟨Nat.le_of_ble_eq_true rfl, Nat.le_of_ble_eq_true rfl⟩) (fun u H locs hz9 hH hS => ?_)
    obtain ⟨n11_0_11, n11_0_12, rfl, x_v110⟩ := hz9
    have hH : HT D cs A T (a0 :: O) ((a0, .inr (12, o0 :: o1 :: o2 :: (.ref y3) :: (.ref y4) :: o5 :: (.int y6) :: (.int y7) :: (.int y8) :: (.int y9) :: (.int y10) :: (.int n11_0_11) :: (.int n11_0_12) :: tl)) :: X) H := hH
    refine W.widen (k := 0) (n := 0) (Nat.le_of_ble_eq_true rfl) (Nat.le_of_ble_eq_true rfl) ?_
    refine lv_goto (tgt := 37) hx hb dX12_takes_14 (by decide) ?_
    refine lv_aload_n hx hb dX12_takes_37 rfl (lv_at hl 0 rfl) ?_
    refine x_getk (ci := 12) (C := RX12) (F := TX12) (N := 36) (v := .int y10) hx hb hts uX12 hown hkb hH 0 rfl rfl 10 (by decide) rfl kw_1233 (fun _ h9 => h9) dX12_takes_38 ?_
    refine lv_istore_n (lv' := [(3, .int y10), (0, .ref a0), (1, .int x1), (2, .int x2)]) hx hb dX12_takes_41 rfl hl (by decide) rfl (fun ls hl => ?_)
    refine lv_aload_n hx hb dX12_takes_42 rfl (lv_at hl 1 rfl) ?_
    refine x_getk (ci := 12) (C := RX12) (F := TX12) (N := 36) (v := .int n11_0_11) hx hb hts uX12 hown hkb hH 0 rfl rfl 11 (by decide) rfl kw_1234 (fun _ h9 => h9) dX12_takes_43 ?_
    refine lv_if_ne (tgt := 53) hx hb dX12_takes_46 (by decide) (fun c46 => ?_) (fun c46 => ?_)
    · skip
      have tc46 := f_ne (k := 0) (by decide) c46
      refine lv_iload_n hx hb dX12_takes_53 rfl (lv_at hl 0 rfl) ?_
      exact te_i hx hb hr hlocks hH hS (⟨y6, y7, y9, y10, n11_0_11, n11_0_12, rfl, by omega, by omega, by omega, by omega, by omega, k3, by omega, by omega, (by first | exact (fun q => absurd q x_v110) | (intro q; refine ⟨?_, ?_, ?_, ?_⟩ <;> omega))⟩) dX12_takes_54
    · skip
      have tc46 := f_eq (k := 0) (by decide) c46
      refine lv_aload_n hx hb dX12_takes_49 rfl (lv_at hl 1 rfl) ?_
      refine tk_v hH hS hA (tr_V (n := 0) (As := []) hx hb hml hown hts hkb hH (ox_map hOX rfl) hks hE hS hA (s_M_next l D cs kf T O X a0 hg mq o0 o1 o2 y3 y4 o5 y6 y7 y8 y9 y10 n11_0_11 n11_0_12 tl t_a0 b_hg t_y3 t_y4 (by omega) (by omega) (by omega) (by omega) (by omega) (by omega) (by omega) (by omega) (by omega) (hO.sub (by decide))) kw_1344 kw_1346 ks_43 kw_13 kw_1347 (by decide +kernel) ⟨Nat.le_of_ble_eq_true rfl, Nat.le_of_ble_eq_true rfl⟩ (x_recv (ci := 12) hkb hH 0 rfl rfl) rfl rfl hl.1 (Nat.le_of_ble_eq_true rfl) dX12_takes_50 ⟨Nat.le_of_ble_eq_true rfl, Nat.le_of_ble_eq_true rfl⟩) (fun u H locs hz9 hH hS => ?_)
      obtain ⟨n50_0_6, n50_0_7, n50_0_9, n50_0_10, rfl, x_v500, x_v501, x_v502, x_v503, x_v504, x_v505⟩ := hz9
      have hH : HT D cs A T (a0 :: O) ((a0, .inr (12, o0 :: o1 :: o2 :: (.ref y3) :: (.ref y4) :: o5 :: (.int n50_0_6) :: (.int n50_0_7) :: (.int y8) :: (.int n50_0_9) :: (.int n50_0_10) :: (.int n11_0_11) :: (.int n11_0_12) :: tl)) :: X) H := hH
      refine W.widen (k := 0) (n := 0) (Nat.le_of_ble_eq_true rfl) (Nat.le_of_ble_eq_true rfl) ?_
      refine lv_iload_n hx hb dX12_takes_53 rfl (lv_at hl 0 rfl) ?_
      exact te_i hx hb hr hlocks hH hS (⟨n50_0_6, n50_0_7, n50_0_9, n50_0_10, n11_0_11, n11_0_12, rfl, by omega, by omega, by omega, by omega, by omega, x_v503, by omega, by omega, (by first | exact (fun q => absurd q x_v110) | (intro q; refine ⟨?_, ?_, ?_, ?_⟩ <;> omega))⟩) dX12_takes_54
set_option maxHeartbeats 4000000 in
set_option maxRecDepth 100000 in
theorem s_M_goesIn0 (l : Launch) (D : va_G) (cs : CS) (kf : KF) (T : TF) (O : List Nat) (X : va_W) (a0 hg mq : Nat) (x1 : Int32) (o0 : Value) (o1 : Value) (o2 : Value) (y3 : Nat) (y4 : Nat) (o5 : Value) (y6 : Int32) (y7 : Int32) (y8 : Int32) (y9 : Int32) (y10 : Int32) (y11 : Int32) (y12 : Int32) (tl : List Value) (t_a0 : T a0 = some (22, hg, mq)) (b_hg : hg < 90) (l_x1 : 0 ≤ x1.toInt) (u_x1 : x1.toInt ≤ 0) (t_y3 : T y3 = some (1, 900, 0)) (t_y4 : T y4 = some (8, 1302, 0)) (l_y6 : 0 ≤ y6.toInt) (u_y6 : y6.toInt ≤ 900) (l_y7 : 0 ≤ y7.toInt) (u_y7 : y7.toInt ≤ 900) (l_y8 : 0 ≤ y8.toInt) (u_y8 : y8.toInt ≤ 900) (l_y10 : 0 ≤ y10.toInt) (u_y10 : y10.toInt ≤ 999) (k1 : y6.toInt ≤ y7.toInt) (k2 : y7.toInt ≤ y8.toInt) (k3 : TK3 y9 y6 y7) (k4 : y9.toInt ≠ 22) (k5 : y11.toInt = 0) (hO : okO T (a0 :: O) [1]) : TK l D cs kf yX12_goesIn cX12_goesIn 2 (some (.boolean)) { frames := 6, cells := 0, slots := 0, locals := 129 } [.ref a0, .int x1] T (a0 :: O) ((a0, .inr (12, o0 :: o1 :: o2 :: (.ref y3) :: (.ref y4) :: o5 :: (.int y6) :: (.int y7) :: (.int y8) :: (.int y9) :: (.int y10) :: (.int y11) :: (.int y12) :: tl)) :: X) (Ti D cs (fun r u => ∃ (n0_6 : Int32) (n0_7 : Int32) (n0_9 : Int32) (n0_10 : Int32) (n0_11 : Int32) (n0_12 : Int32), u = (T, a0 :: O, (a0, .inr (12, o0 :: o1 :: o2 :: (.ref y3) :: (.ref y4) :: o5 :: (.int n0_6) :: (.int n0_7) :: (.int y8) :: (.int n0_9) :: (.int n0_10) :: (.int n0_11) :: (.int n0_12) :: tl)) :: X) ∧ 0 ≤ r.toInt ∧ r.toInt ≤ 1 ∧ (y6.toInt ≤ n0_6.toInt) ∧ (n0_6.toInt ≤ n0_7.toInt) ∧ (n0_7.toInt ≤ y8.toInt) ∧ (TK3 n0_9 n0_6 n0_7) ∧ (0 ≤ n0_10.toInt) ∧ (n0_10.toInt ≤ 999) ∧ (r.toInt = 0 ∨ (n0_11.toInt = 0 ∧ y6.toInt + 1 ≤ n0_6.toInt)) ∧ (r.toInt ≠ 0 ∨ NZ n0_11))) := by
  refine tk_of (by decide) (Nat.le_of_ble_eq_true rfl) (fun p e s m below meth c ls A H locs hx hb hr hml hown hts hlocks hnm hkb hH hS hA hOX hks hE hl => ?_)
  have hown : s.vm.findClass RX12 = some m.cls := hown
  have hl : lv_has ls 2 [(0, .ref a0), (1, .int x1)] := hl
  have hOXf := hOX
  have hk3 := k3 k4
  refine lv_iload_n hx hb dX12_goesIn_0 rfl (lv_at hl 1 rfl) ?_
  refine lv_bipush (v := 6) hx hb dX12_goesIn_1 (by decide) ?_
  refine lv_icmp_ne (tgt := 11) hx hb dX12_goesIn_3 (by decide) (fun c3 => ?_) (fun c3 => ?_)
  · skip
    have tc3 := f_ne (k := 6) (by decide) c3
    refine lv_aload_n hx hb dX12_goesIn_11 rfl (lv_at hl 0 rfl) ?_
    refine x_getk (ci := 12) (C := RX12) (F := TX12) (N := 36) (v := .int y11) hx hb hts uX12 hown hkb hH 0 rfl rfl 11 (by decide) rfl kw_1234 (fun _ h9 => h9) dX12_goesIn_12 ?_
    refine lv_if_ne (tgt := 22) hx hb dX12_goesIn_15 (by decide) (fun c15 => ?_) (fun c15 => ?_)
    · skip
      have tc15 := f_ne (k := 0) (by decide) c15
      refine lv_aload_n hx hb dX12_goesIn_22 rfl (lv_at hl 0 rfl) ?_
      refine x_getk (ci := 12) (C := RX12) (F := TX12) (N := 36) (v := .int y11) hx hb hts uX12 hown hkb hH 0 rfl rfl 11 (by decide) rfl kw_1234 (fun _ h9 => h9) dX12_goesIn_23 ?_
      refine lv_if_ne (tgt := 33) hx hb dX12_goesIn_26 (by decide) (fun c26 => ?_) (fun c26 => ?_)
      · skip
        have tc26 := f_ne (k := 0) (by decide) c26
        refine lv_iconst (v := 0) hx hb dX12_goesIn_33 (by decide) ?_
        have z9_0 : (0 : Int32).toInt = 0 := by decide
        exact te_z hx hb hr hlocks (by rfl) hH hS (⟨y6, y7, y9, y10, y11, y12, rfl, by decide, by decide, by omega, by omega, by omega, k3, by omega, by omega, by omega, (by first | (refine Or.inr ?_; unfold NZ; omega))⟩) dX12_goesIn_34
      · skip
        have tc26 := f_eq (k := 0) (by decide) c26
        refine lv_iconst (v := 1) hx hb dX12_goesIn_29 (by decide) ?_
        refine lv_goto (tgt := 34) hx hb dX12_goesIn_30 (by decide) ?_
        have z9_1 : (1 : Int32).toInt = 1 := by decide
        exact te_z hx hb hr hlocks (by rfl) hH hS (⟨y6, y7, y9, y10, y11, y12, rfl, by decide, by decide, by omega, by omega, by omega, k3, by omega, by omega, by omega, (Or.inl (by decide))⟩) dX12_goesIn_34
    · skip
      have tc15 := f_eq (k := 0) (by decide) c15
      refine lv_aload_n hx hb dX12_goesIn_18 rfl (lv_at hl 0 rfl) ?_
      refine tk_v hH hS hA (tr_V (n := 0) (As := []) hx hb hml hown hts hkb hH (ox_map hOX rfl) hks hE hS hA (s_M_next l D cs kf T O X a0 hg mq o0 o1 o2 y3 y4 o5 y6 y7 y8 y9 y10 y11 y12 tl t_a0 b_hg t_y3 t_y4 (by omega) (by omega) (by omega) (by omega) (by omega) (by omega) (by omega) (by omega) (by omega) (hO.sub (by decide))) kw_1344 kw_1346 ks_43 kw_13 kw_1347 (by decide +kernel) ⟨Nat.le_of_ble_eq_true rfl, Nat.le_of_ble_eq_true rfl⟩ (x_recv (ci := 12) hkb hH 0 rfl rfl) rfl rfl hl.1 (Nat.le_of_ble_eq_true rfl) dX12_goesIn_19 ⟨Nat.le_of_ble_eq_true rfl, Nat.le_of_ble_eq_true rfl⟩) (fun u H locs hz9 hH hS => ?_)
      obtain ⟨n19_0_6, n19_0_7, n19_0_9, n19_0_10, rfl, x_v190, x_v191, x_v192, x_v193, x_v194, x_v195⟩ := hz9
      have hH : HT D cs A T (a0 :: O) ((a0, .inr (12, o0 :: o1 :: o2 :: (.ref y3) :: (.ref y4) :: o5 :: (.int n19_0_6) :: (.int n19_0_7) :: (.int y8) :: (.int n19_0_9) :: (.int n19_0_10) :: (.int y11) :: (.int y12) :: tl)) :: X) H := hH
      refine W.widen (k := 0) (n := 0) (Nat.le_of_ble_eq_true rfl) (Nat.le_of_ble_eq_true rfl) ?_
      refine lv_aload_n hx hb dX12_goesIn_22 rfl (lv_at hl 0 rfl) ?_
      refine x_getk (ci := 12) (C := RX12) (F := TX12) (N := 36) (v := .int y11) hx hb hts uX12 hown hkb hH 0 rfl rfl 11 (by decide) rfl kw_1234 (fun _ h9 => h9) dX12_goesIn_23 ?_
      refine lv_if_ne (tgt := 33) hx hb dX12_goesIn_26 (by decide) (fun c26 => ?_) (fun c26 => ?_)
      · skip
        have tc26 := f_ne (k := 0) (by decide) c26
        exfalso; omega
      · skip
        have tc26 := f_eq (k := 0) (by decide) c26
        refine lv_iconst (v := 1) hx hb dX12_goesIn_29 (by decide) ?_
        refine lv_goto (tgt := 34) hx hb dX12_goesIn_30 (by decide) ?_
        have z9_1 : (1 : Int32).toInt = 1 := by decide
        exact te_z hx hb hr hlocks (by rfl) hH hS (⟨n19_0_6, n19_0_7, n19_0_9, n19_0_10, y11, y12, rfl, by decide, by decide, by omega, by omega, by omega, x_v193, by omega, by omega, by omega, (Or.inl (by decide))⟩) dX12_goesIn_34
  · skip
    have tc3 := f_eq (k := 6) (by decide) c3
    exfalso; omega
set_option maxHeartbeats 4000000 in
set_option maxRecDepth 100000 in
theorem s_M_goesIn1 (l : Launch) (D : va_G) (cs : CS) (kf : KF) (T : TF) (O : List Nat) (X : va_W) (a0 hg mq : Nat) (x1 : Int32) (o0 : Value) (o1 : Value) (o2 : Value) (y3 : Nat) (y4 : Nat) (o5 : Value) (y6 : Int32) (y7 : Int32) (y8 : Int32) (y9 : Int32) (y10 : Int32) (y11 : Int32) (y12 : Int32) (tl : List Value) (t_a0 : T a0 = some (22, hg, mq)) (b_hg : hg < 90) (l_x1 : 1 ≤ x1.toInt) (u_x1 : x1.toInt ≤ 1) (t_y3 : T y3 = some (1, 900, 0)) (t_y4 : T y4 = some (8, 1302, 0)) (l_y6 : 0 ≤ y6.toInt) (u_y6 : y6.toInt ≤ 900) (l_y7 : 0 ≤ y7.toInt) (u_y7 : y7.toInt ≤ 900) (l_y8 : 0 ≤ y8.toInt) (u_y8 : y8.toInt ≤ 900) (l_y10 : 0 ≤ y10.toInt) (u_y10 : y10.toInt ≤ 999) (k1 : y6.toInt ≤ y7.toInt) (k2 : y7.toInt ≤ y8.toInt) (k3 : TK3 y9 y6 y7) (k4 : y9.toInt ≠ 22) (k5 : y11.toInt = 0) (hO : okO T (a0 :: O) [1]) : TK l D cs kf yX12_goesIn cX12_goesIn 2 (some (.boolean)) { frames := 6, cells := 0, slots := 0, locals := 129 } [.ref a0, .int x1] T (a0 :: O) ((a0, .inr (12, o0 :: o1 :: o2 :: (.ref y3) :: (.ref y4) :: o5 :: (.int y6) :: (.int y7) :: (.int y8) :: (.int y9) :: (.int y10) :: (.int y11) :: (.int y12) :: tl)) :: X) (Ti D cs (fun r u => ∃ (n0_6 : Int32) (n0_7 : Int32) (n0_9 : Int32) (n0_10 : Int32) (n0_11 : Int32) (n0_12 : Int32), u = (T, a0 :: O, (a0, .inr (12, o0 :: o1 :: o2 :: (.ref y3) :: (.ref y4) :: o5 :: (.int n0_6) :: (.int n0_7) :: (.int y8) :: (.int n0_9) :: (.int n0_10) :: (.int n0_11) :: (.int n0_12) :: tl)) :: X) ∧ 0 ≤ r.toInt ∧ r.toInt ≤ 1 ∧ (y6.toInt ≤ n0_6.toInt) ∧ (n0_6.toInt ≤ n0_7.toInt) ∧ (n0_7.toInt ≤ y8.toInt) ∧ (TK3 n0_9 n0_6 n0_7) ∧ (0 ≤ n0_10.toInt) ∧ (n0_10.toInt ≤ 999) ∧ (r.toInt = 0 ∨ (n0_11.toInt = 0 ∧ y6.toInt + 1 ≤ n0_6.toInt)) ∧ (r.toInt ≠ 0 ∨ NZ n0_11))) := by
  refine tk_of (by decide) (Nat.le_of_ble_eq_true rfl) (fun p e s m below meth c ls A H locs hx hb hr hml hown hts hlocks hnm hkb hH hS hA hOX hks hE hl => ?_)
  have hown : s.vm.findClass RX12 = some m.cls := hown
  have hl : lv_has ls 2 [(0, .ref a0), (1, .int x1)] := hl
  have hOXf := hOX
  have hk3 := k3 k4
  refine lv_iload_n hx hb dX12_goesIn_0 rfl (lv_at hl 1 rfl) ?_
  refine lv_bipush (v := 6) hx hb dX12_goesIn_1 (by decide) ?_
  refine lv_icmp_ne (tgt := 11) hx hb dX12_goesIn_3 (by decide) (fun c3 => ?_) (fun c3 => ?_)
  · skip
    have tc3 := f_ne (k := 6) (by decide) c3
    refine lv_aload_n hx hb dX12_goesIn_11 rfl (lv_at hl 0 rfl) ?_
    refine x_getk (ci := 12) (C := RX12) (F := TX12) (N := 36) (v := .int y11) hx hb hts uX12 hown hkb hH 0 rfl rfl 11 (by decide) rfl kw_1234 (fun _ h9 => h9) dX12_goesIn_12 ?_
    refine lv_if_ne (tgt := 22) hx hb dX12_goesIn_15 (by decide) (fun c15 => ?_) (fun c15 => ?_)
    · skip
      have tc15 := f_ne (k := 0) (by decide) c15
      refine lv_aload_n hx hb dX12_goesIn_22 rfl (lv_at hl 0 rfl) ?_
      refine x_getk (ci := 12) (C := RX12) (F := TX12) (N := 36) (v := .int y11) hx hb hts uX12 hown hkb hH 0 rfl rfl 11 (by decide) rfl kw_1234 (fun _ h9 => h9) dX12_goesIn_23 ?_
      refine lv_if_ne (tgt := 33) hx hb dX12_goesIn_26 (by decide) (fun c26 => ?_) (fun c26 => ?_)
      · skip
        have tc26 := f_ne (k := 0) (by decide) c26
        refine lv_iconst (v := 0) hx hb dX12_goesIn_33 (by decide) ?_
        have z9_0 : (0 : Int32).toInt = 0 := by decide
        exact te_z hx hb hr hlocks (by rfl) hH hS (⟨y6, y7, y9, y10, y11, y12, rfl, by decide, by decide, by omega, by omega, by omega, k3, by omega, by omega, by omega, (by first | (refine Or.inr ?_; unfold NZ; omega))⟩) dX12_goesIn_34
      · skip
        have tc26 := f_eq (k := 0) (by decide) c26
        refine lv_iconst (v := 1) hx hb dX12_goesIn_29 (by decide) ?_
        refine lv_goto (tgt := 34) hx hb dX12_goesIn_30 (by decide) ?_
        have z9_1 : (1 : Int32).toInt = 1 := by decide
        exact te_z hx hb hr hlocks (by rfl) hH hS (⟨y6, y7, y9, y10, y11, y12, rfl, by decide, by decide, by omega, by omega, by omega, k3, by omega, by omega, by omega, (Or.inl (by decide))⟩) dX12_goesIn_34
    · skip
      have tc15 := f_eq (k := 0) (by decide) c15
      refine lv_aload_n hx hb dX12_goesIn_18 rfl (lv_at hl 0 rfl) ?_
      refine tk_v hH hS hA (tr_V (n := 0) (As := []) hx hb hml hown hts hkb hH (ox_map hOX rfl) hks hE hS hA (s_M_next l D cs kf T O X a0 hg mq o0 o1 o2 y3 y4 o5 y6 y7 y8 y9 y10 y11 y12 tl t_a0 b_hg t_y3 t_y4 (by omega) (by omega) (by omega) (by omega) (by omega) (by omega) (by omega) (by omega) (by omega) (hO.sub (by decide))) kw_1344 kw_1346 ks_43 kw_13 kw_1347 (by decide +kernel) ⟨Nat.le_of_ble_eq_true rfl, Nat.le_of_ble_eq_true rfl⟩ (x_recv (ci := 12) hkb hH 0 rfl rfl) rfl rfl hl.1 (Nat.le_of_ble_eq_true rfl) dX12_goesIn_19 ⟨Nat.le_of_ble_eq_true rfl, Nat.le_of_ble_eq_true rfl⟩) (fun u H locs hz9 hH hS => ?_)
      obtain ⟨n19_0_6, n19_0_7, n19_0_9, n19_0_10, rfl, x_v190, x_v191, x_v192, x_v193, x_v194, x_v195⟩ := hz9
      have hH : HT D cs A T (a0 :: O) ((a0, .inr (12, o0 :: o1 :: o2 :: (.ref y3) :: (.ref y4) :: o5 :: (.int n19_0_6) :: (.int n19_0_7) :: (.int y8) :: (.int n19_0_9) :: (.int n19_0_10) :: (.int y11) :: (.int y12) :: tl)) :: X) H := hH
      refine W.widen (k := 0) (n := 0) (Nat.le_of_ble_eq_true rfl) (Nat.le_of_ble_eq_true rfl) ?_
      refine lv_aload_n hx hb dX12_goesIn_22 rfl (lv_at hl 0 rfl) ?_
      refine x_getk (ci := 12) (C := RX12) (F := TX12) (N := 36) (v := .int y11) hx hb hts uX12 hown hkb hH 0 rfl rfl 11 (by decide) rfl kw_1234 (fun _ h9 => h9) dX12_goesIn_23 ?_
      refine lv_if_ne (tgt := 33) hx hb dX12_goesIn_26 (by decide) (fun c26 => ?_) (fun c26 => ?_)
      · skip
        have tc26 := f_ne (k := 0) (by decide) c26
        exfalso; omega
      · skip
        have tc26 := f_eq (k := 0) (by decide) c26
        refine lv_iconst (v := 1) hx hb dX12_goesIn_29 (by decide) ?_
        refine lv_goto (tgt := 34) hx hb dX12_goesIn_30 (by decide) ?_
        have z9_1 : (1 : Int32).toInt = 1 := by decide
        exact te_z hx hb hr hlocks (by rfl) hH hS (⟨n19_0_6, n19_0_7, n19_0_9, n19_0_10, y11, y12, rfl, by decide, by decide, by omega, by omega, by omega, x_v193, by omega, by omega, by omega, (Or.inl (by decide))⟩) dX12_goesIn_34
  · skip
    have tc3 := f_eq (k := 6) (by decide) c3
    exfalso; omega
set_option maxHeartbeats 4000000 in
set_option maxRecDepth 100000 in
theorem s_M_goesIn2 (l : Launch) (D : va_G) (cs : CS) (kf : KF) (T : TF) (O : List Nat) (X : va_W) (a0 hg mq : Nat) (x1 : Int32) (o0 : Value) (o1 : Value) (o2 : Value) (y3 : Nat) (y4 : Nat) (o5 : Value) (y6 : Int32) (y7 : Int32) (y8 : Int32) (y9 : Int32) (y10 : Int32) (y11 : Int32) (y12 : Int32) (tl : List Value) (t_a0 : T a0 = some (22, hg, mq)) (b_hg : hg < 90) (l_x1 : 2 ≤ x1.toInt) (u_x1 : x1.toInt ≤ 2) (t_y3 : T y3 = some (1, 900, 0)) (t_y4 : T y4 = some (8, 1302, 0)) (l_y6 : 0 ≤ y6.toInt) (u_y6 : y6.toInt ≤ 900) (l_y7 : 0 ≤ y7.toInt) (u_y7 : y7.toInt ≤ 900) (l_y8 : 0 ≤ y8.toInt) (u_y8 : y8.toInt ≤ 900) (l_y10 : 0 ≤ y10.toInt) (u_y10 : y10.toInt ≤ 999) (k1 : y6.toInt ≤ y7.toInt) (k2 : y7.toInt ≤ y8.toInt) (k3 : TK3 y9 y6 y7) (k4 : y9.toInt ≠ 22) (k5 : y11.toInt = 0) (hO : okO T (a0 :: O) [1]) : TK l D cs kf yX12_goesIn cX12_goesIn 2 (some (.boolean)) { frames := 6, cells := 0, slots := 0, locals := 129 } [.ref a0, .int x1] T (a0 :: O) ((a0, .inr (12, o0 :: o1 :: o2 :: (.ref y3) :: (.ref y4) :: o5 :: (.int y6) :: (.int y7) :: (.int y8) :: (.int y9) :: (.int y10) :: (.int y11) :: (.int y12) :: tl)) :: X) (Ti D cs (fun r u => ∃ (n0_6 : Int32) (n0_7 : Int32) (n0_9 : Int32) (n0_10 : Int32) (n0_11 : Int32) (n0_12 : Int32), u = (T, a0 :: O, (a0, .inr (12, o0 :: o1 :: o2 :: (.ref y3) :: (.ref y4) :: o5 :: (.int n0_6) :: (.int n0_7) :: (.int y8) :: (.int n0_9) :: (.int n0_10) :: (.int n0_11) :: (.int n0_12) :: tl)) :: X) ∧ 0 ≤ r.toInt ∧ r.toInt ≤ 1 ∧ (y6.toInt ≤ n0_6.toInt) ∧ (n0_6.toInt ≤ n0_7.toInt) ∧ (n0_7.toInt ≤ y8.toInt) ∧ (TK3 n0_9 n0_6 n0_7) ∧ (0 ≤ n0_10.toInt) ∧ (n0_10.toInt ≤ 999) ∧ (r.toInt = 0 ∨ (n0_11.toInt = 0 ∧ y6.toInt + 1 ≤ n0_6.toInt)) ∧ (r.toInt ≠ 0 ∨ NZ n0_11))) := by
  refine tk_of (by decide) (Nat.le_of_ble_eq_true rfl) (fun p e s m below meth c ls A H locs hx hb hr hml hown hts hlocks hnm hkb hH hS hA hOX hks hE hl => ?_)
  have hown : s.vm.findClass RX12 = some m.cls := hown
  have hl : lv_has ls 2 [(0, .ref a0), (1, .int x1)] := hl
  have hOXf := hOX
  have hk3 := k3 k4
  refine lv_iload_n hx hb dX12_goesIn_0 rfl (lv_at hl 1 rfl) ?_
  refine lv_bipush (v := 6) hx hb dX12_goesIn_1 (by decide) ?_
  refine lv_icmp_ne (tgt := 11) hx hb dX12_goesIn_3 (by decide) (fun c3 => ?_) (fun c3 => ?_)
  · skip
    have tc3 := f_ne (k := 6) (by decide) c3
    refine lv_aload_n hx hb dX12_goesIn_11 rfl (lv_at hl 0 rfl) ?_
    refine x_getk (ci := 12) (C := RX12) (F := TX12) (N := 36) (v := .int y11) hx hb hts uX12 hown hkb hH 0 rfl rfl 11 (by decide) rfl kw_1234 (fun _ h9 => h9) dX12_goesIn_12 ?_
    refine lv_if_ne (tgt := 22) hx hb dX12_goesIn_15 (by decide) (fun c15 => ?_) (fun c15 => ?_)
    · skip
      have tc15 := f_ne (k := 0) (by decide) c15
      refine lv_aload_n hx hb dX12_goesIn_22 rfl (lv_at hl 0 rfl) ?_
      refine x_getk (ci := 12) (C := RX12) (F := TX12) (N := 36) (v := .int y11) hx hb hts uX12 hown hkb hH 0 rfl rfl 11 (by decide) rfl kw_1234 (fun _ h9 => h9) dX12_goesIn_23 ?_
      refine lv_if_ne (tgt := 33) hx hb dX12_goesIn_26 (by decide) (fun c26 => ?_) (fun c26 => ?_)
      · skip
        have tc26 := f_ne (k := 0) (by decide) c26
        refine lv_iconst (v := 0) hx hb dX12_goesIn_33 (by decide) ?_
        have z9_0 : (0 : Int32).toInt = 0 := by decide
        exact te_z hx hb hr hlocks (by rfl) hH hS (⟨y6, y7, y9, y10, y11, y12, rfl, by decide, by decide, by omega, by omega, by omega, k3, by omega, by omega, by omega, (by first | (refine Or.inr ?_; unfold NZ; omega))⟩) dX12_goesIn_34
      · skip
        have tc26 := f_eq (k := 0) (by decide) c26
        refine lv_iconst (v := 1) hx hb dX12_goesIn_29 (by decide) ?_
        refine lv_goto (tgt := 34) hx hb dX12_goesIn_30 (by decide) ?_
        have z9_1 : (1 : Int32).toInt = 1 := by decide
        exact te_z hx hb hr hlocks (by rfl) hH hS (⟨y6, y7, y9, y10, y11, y12, rfl, by decide, by decide, by omega, by omega, by omega, k3, by omega, by omega, by omega, (Or.inl (by decide))⟩) dX12_goesIn_34
    · skip
      have tc15 := f_eq (k := 0) (by decide) c15
      refine lv_aload_n hx hb dX12_goesIn_18 rfl (lv_at hl 0 rfl) ?_
      refine tk_v hH hS hA (tr_V (n := 0) (As := []) hx hb hml hown hts hkb hH (ox_map hOX rfl) hks hE hS hA (s_M_next l D cs kf T O X a0 hg mq o0 o1 o2 y3 y4 o5 y6 y7 y8 y9 y10 y11 y12 tl t_a0 b_hg t_y3 t_y4 (by omega) (by omega) (by omega) (by omega) (by omega) (by omega) (by omega) (by omega) (by omega) (hO.sub (by decide))) kw_1344 kw_1346 ks_43 kw_13 kw_1347 (by decide +kernel) ⟨Nat.le_of_ble_eq_true rfl, Nat.le_of_ble_eq_true rfl⟩ (x_recv (ci := 12) hkb hH 0 rfl rfl) rfl rfl hl.1 (Nat.le_of_ble_eq_true rfl) dX12_goesIn_19 ⟨Nat.le_of_ble_eq_true rfl, Nat.le_of_ble_eq_true rfl⟩) (fun u H locs hz9 hH hS => ?_)
      obtain ⟨n19_0_6, n19_0_7, n19_0_9, n19_0_10, rfl, x_v190, x_v191, x_v192, x_v193, x_v194, x_v195⟩ := hz9
      have hH : HT D cs A T (a0 :: O) ((a0, .inr (12, o0 :: o1 :: o2 :: (.ref y3) :: (.ref y4) :: o5 :: (.int n19_0_6) :: (.int n19_0_7) :: (.int y8) :: (.int n19_0_9) :: (.int n19_0_10) :: (.int y11) :: (.int y12) :: tl)) :: X) H := hH
      refine W.widen (k := 0) (n := 0) (Nat.le_of_ble_eq_true rfl) (Nat.le_of_ble_eq_true rfl) ?_
      refine lv_aload_n hx hb dX12_goesIn_22 rfl (lv_at hl 0 rfl) ?_
      refine x_getk (ci := 12) (C := RX12) (F := TX12) (N := 36) (v := .int y11) hx hb hts uX12 hown hkb hH 0 rfl rfl 11 (by decide) rfl kw_1234 (fun _ h9 => h9) dX12_goesIn_23 ?_
      refine lv_if_ne (tgt := 33) hx hb dX12_goesIn_26 (by decide) (fun c26 => ?_) (fun c26 => ?_)
      · skip
        have tc26 := f_ne (k := 0) (by decide) c26
        exfalso; omega
      · skip
        have tc26 := f_eq (k := 0) (by decide) c26
        refine lv_iconst (v := 1) hx hb dX12_goesIn_29 (by decide) ?_
        refine lv_goto (tgt := 34) hx hb dX12_goesIn_30 (by decide) ?_
        have z9_1 : (1 : Int32).toInt = 1 := by decide
        exact te_z hx hb hr hlocks (by rfl) hH hS (⟨n19_0_6, n19_0_7, n19_0_9, n19_0_10, y11, y12, rfl, by decide, by decide, by omega, by omega, by omega, x_v193, by omega, by omega, by omega, (Or.inl (by decide))⟩) dX12_goesIn_34
  · skip
    have tc3 := f_eq (k := 6) (by decide) c3
    exfalso; omega
set_option maxHeartbeats 4000000 in
set_option maxRecDepth 100000 in
theorem s_M_goesIn3 (l : Launch) (D : va_G) (cs : CS) (kf : KF) (T : TF) (O : List Nat) (X : va_W) (a0 hg mq : Nat) (x1 : Int32) (o0 : Value) (o1 : Value) (o2 : Value) (y3 : Nat) (y4 : Nat) (o5 : Value) (y6 : Int32) (y7 : Int32) (y8 : Int32) (y9 : Int32) (y10 : Int32) (y11 : Int32) (y12 : Int32) (tl : List Value) (t_a0 : T a0 = some (22, hg, mq)) (b_hg : hg < 90) (l_x1 : 3 ≤ x1.toInt) (u_x1 : x1.toInt ≤ 3) (t_y3 : T y3 = some (1, 900, 0)) (t_y4 : T y4 = some (8, 1302, 0)) (l_y6 : 0 ≤ y6.toInt) (u_y6 : y6.toInt ≤ 900) (l_y7 : 0 ≤ y7.toInt) (u_y7 : y7.toInt ≤ 900) (l_y8 : 0 ≤ y8.toInt) (u_y8 : y8.toInt ≤ 900) (l_y10 : 0 ≤ y10.toInt) (u_y10 : y10.toInt ≤ 999) (k1 : y6.toInt ≤ y7.toInt) (k2 : y7.toInt ≤ y8.toInt) (k3 : TK3 y9 y6 y7) (k4 : y9.toInt ≠ 22) (k5 : y11.toInt = 0) (hO : okO T (a0 :: O) [1]) : TK l D cs kf yX12_goesIn cX12_goesIn 2 (some (.boolean)) { frames := 6, cells := 0, slots := 0, locals := 129 } [.ref a0, .int x1] T (a0 :: O) ((a0, .inr (12, o0 :: o1 :: o2 :: (.ref y3) :: (.ref y4) :: o5 :: (.int y6) :: (.int y7) :: (.int y8) :: (.int y9) :: (.int y10) :: (.int y11) :: (.int y12) :: tl)) :: X) (Ti D cs (fun r u => ∃ (n0_6 : Int32) (n0_7 : Int32) (n0_9 : Int32) (n0_10 : Int32) (n0_11 : Int32) (n0_12 : Int32), u = (T, a0 :: O, (a0, .inr (12, o0 :: o1 :: o2 :: (.ref y3) :: (.ref y4) :: o5 :: (.int n0_6) :: (.int n0_7) :: (.int y8) :: (.int n0_9) :: (.int n0_10) :: (.int n0_11) :: (.int n0_12) :: tl)) :: X) ∧ 0 ≤ r.toInt ∧ r.toInt ≤ 1 ∧ (y6.toInt ≤ n0_6.toInt) ∧ (n0_6.toInt ≤ n0_7.toInt) ∧ (n0_7.toInt ≤ y8.toInt) ∧ (TK3 n0_9 n0_6 n0_7) ∧ (0 ≤ n0_10.toInt) ∧ (n0_10.toInt ≤ 999) ∧ (r.toInt = 0 ∨ (n0_11.toInt = 0 ∧ y6.toInt + 1 ≤ n0_6.toInt)) ∧ (r.toInt ≠ 0 ∨ NZ n0_11))) := by
  refine tk_of (by decide) (Nat.le_of_ble_eq_true rfl) (fun p e s m below meth c ls A H locs hx hb hr hml hown hts hlocks hnm hkb hH hS hA hOX hks hE hl => ?_)
  have hown : s.vm.findClass RX12 = some m.cls := hown
  have hl : lv_has ls 2 [(0, .ref a0), (1, .int x1)] := hl
  have hOXf := hOX
  have hk3 := k3 k4
  refine lv_iload_n hx hb dX12_goesIn_0 rfl (lv_at hl 1 rfl) ?_
  refine lv_bipush (v := 6) hx hb dX12_goesIn_1 (by decide) ?_
  refine lv_icmp_ne (tgt := 11) hx hb dX12_goesIn_3 (by decide) (fun c3 => ?_) (fun c3 => ?_)
  · skip
    have tc3 := f_ne (k := 6) (by decide) c3
    refine lv_aload_n hx hb dX12_goesIn_11 rfl (lv_at hl 0 rfl) ?_
    refine x_getk (ci := 12) (C := RX12) (F := TX12) (N := 36) (v := .int y11) hx hb hts uX12 hown hkb hH 0 rfl rfl 11 (by decide) rfl kw_1234 (fun _ h9 => h9) dX12_goesIn_12 ?_
    refine lv_if_ne (tgt := 22) hx hb dX12_goesIn_15 (by decide) (fun c15 => ?_) (fun c15 => ?_)
    · skip
      have tc15 := f_ne (k := 0) (by decide) c15
      refine lv_aload_n hx hb dX12_goesIn_22 rfl (lv_at hl 0 rfl) ?_
      refine x_getk (ci := 12) (C := RX12) (F := TX12) (N := 36) (v := .int y11) hx hb hts uX12 hown hkb hH 0 rfl rfl 11 (by decide) rfl kw_1234 (fun _ h9 => h9) dX12_goesIn_23 ?_
      refine lv_if_ne (tgt := 33) hx hb dX12_goesIn_26 (by decide) (fun c26 => ?_) (fun c26 => ?_)
      · skip
        have tc26 := f_ne (k := 0) (by decide) c26
        refine lv_iconst (v := 0) hx hb dX12_goesIn_33 (by decide) ?_
        have z9_0 : (0 : Int32).toInt = 0 := by decide
        exact te_z hx hb hr hlocks (by rfl) hH hS (⟨y6, y7, y9, y10, y11, y12, rfl, by decide, by decide, by omega, by omega, by omega, k3, by omega, by omega, by omega, (by first | (refine Or.inr ?_; unfold NZ; omega))⟩) dX12_goesIn_34
      · skip
        have tc26 := f_eq (k := 0) (by decide) c26
        refine lv_iconst (v := 1) hx hb dX12_goesIn_29 (by decide) ?_
        refine lv_goto (tgt := 34) hx hb dX12_goesIn_30 (by decide) ?_
        have z9_1 : (1 : Int32).toInt = 1 := by decide
        exact te_z hx hb hr hlocks (by rfl) hH hS (⟨y6, y7, y9, y10, y11, y12, rfl, by decide, by decide, by omega, by omega, by omega, k3, by omega, by omega, by omega, (Or.inl (by decide))⟩) dX12_goesIn_34
    · skip
      have tc15 := f_eq (k := 0) (by decide) c15
      refine lv_aload_n hx hb dX12_goesIn_18 rfl (lv_at hl 0 rfl) ?_
      refine tk_v hH hS hA (tr_V (n := 0) (As := []) hx hb hml hown hts hkb hH (ox_map hOX rfl) hks hE hS hA (s_M_next l D cs kf T O X a0 hg mq o0 o1 o2 y3 y4 o5 y6 y7 y8 y9 y10 y11 y12 tl t_a0 b_hg t_y3 t_y4 (by omega) (by omega) (by omega) (by omega) (by omega) (by omega) (by omega) (by omega) (by omega) (hO.sub (by decide))) kw_1344 kw_1346 ks_43 kw_13 kw_1347 (by decide +kernel) ⟨Nat.le_of_ble_eq_true rfl, Nat.le_of_ble_eq_true rfl⟩ (x_recv (ci := 12) hkb hH 0 rfl rfl) rfl rfl hl.1 (Nat.le_of_ble_eq_true rfl) dX12_goesIn_19 ⟨Nat.le_of_ble_eq_true rfl, Nat.le_of_ble_eq_true rfl⟩) (fun u H locs hz9 hH hS => ?_)
      obtain ⟨n19_0_6, n19_0_7, n19_0_9, n19_0_10, rfl, x_v190, x_v191, x_v192, x_v193, x_v194, x_v195⟩ := hz9
      have hH : HT D cs A T (a0 :: O) ((a0, .inr (12, o0 :: o1 :: o2 :: (.ref y3) :: (.ref y4) :: o5 :: (.int n19_0_6) :: (.int n19_0_7) :: (.int y8) :: (.int n19_0_9) :: (.int n19_0_10) :: (.int y11) :: (.int y12) :: tl)) :: X) H := hH
      refine W.widen (k := 0) (n := 0) (Nat.le_of_ble_eq_true rfl) (Nat.le_of_ble_eq_true rfl) ?_
      refine lv_aload_n hx hb dX12_goesIn_22 rfl (lv_at hl 0 rfl) ?_
      refine x_getk (ci := 12) (C := RX12) (F := TX12) (N := 36) (v := .int y11) hx hb hts uX12 hown hkb hH 0 rfl rfl 11 (by decide) rfl kw_1234 (fun _ h9 => h9) dX12_goesIn_23 ?_
      refine lv_if_ne (tgt := 33) hx hb dX12_goesIn_26 (by decide) (fun c26 => ?_) (fun c26 => ?_)
      · skip
        have tc26 := f_ne (k := 0) (by decide) c26
        exfalso; omega
      · skip
        have tc26 := f_eq (k := 0) (by decide) c26
        refine lv_iconst (v := 1) hx hb dX12_goesIn_29 (by decide) ?_
        refine lv_goto (tgt := 34) hx hb dX12_goesIn_30 (by decide) ?_
        have z9_1 : (1 : Int32).toInt = 1 := by decide
        exact te_z hx hb hr hlocks (by rfl) hH hS (⟨n19_0_6, n19_0_7, n19_0_9, n19_0_10, y11, y12, rfl, by decide, by decide, by omega, by omega, by omega, x_v193, by omega, by omega, by omega, (Or.inl (by decide))⟩) dX12_goesIn_34
  · skip
    have tc3 := f_eq (k := 6) (by decide) c3
    exfalso; omega
set_option maxHeartbeats 4000000 in
set_option maxRecDepth 100000 in
theorem s_M_goesIn4 (l : Launch) (D : va_G) (cs : CS) (kf : KF) (T : TF) (O : List Nat) (X : va_W) (a0 hg mq : Nat) (x1 : Int32) (o0 : Value) (o1 : Value) (o2 : Value) (y3 : Nat) (y4 : Nat) (o5 : Value) (y6 : Int32) (y7 : Int32) (y8 : Int32) (y9 : Int32) (y10 : Int32) (y11 : Int32) (y12 : Int32) (tl : List Value) (t_a0 : T a0 = some (22, hg, mq)) (b_hg : hg < 90) (l_x1 : 4 ≤ x1.toInt) (u_x1 : x1.toInt ≤ 4) (t_y3 : T y3 = some (1, 900, 0)) (t_y4 : T y4 = some (8, 1302, 0)) (l_y6 : 0 ≤ y6.toInt) (u_y6 : y6.toInt ≤ 900) (l_y7 : 0 ≤ y7.toInt) (u_y7 : y7.toInt ≤ 900) (l_y8 : 0 ≤ y8.toInt) (u_y8 : y8.toInt ≤ 900) (l_y10 : 0 ≤ y10.toInt) (u_y10 : y10.toInt ≤ 999) (k1 : y6.toInt ≤ y7.toInt) (k2 : y7.toInt ≤ y8.toInt) (k3 : TK3 y9 y6 y7) (k4 : y9.toInt ≠ 22) (k5 : y11.toInt = 0) (hO : okO T (a0 :: O) [1]) : TK l D cs kf yX12_goesIn cX12_goesIn 2 (some (.boolean)) { frames := 6, cells := 0, slots := 0, locals := 129 } [.ref a0, .int x1] T (a0 :: O) ((a0, .inr (12, o0 :: o1 :: o2 :: (.ref y3) :: (.ref y4) :: o5 :: (.int y6) :: (.int y7) :: (.int y8) :: (.int y9) :: (.int y10) :: (.int y11) :: (.int y12) :: tl)) :: X) (Ti D cs (fun r u => ∃ (n0_6 : Int32) (n0_7 : Int32) (n0_9 : Int32) (n0_10 : Int32) (n0_11 : Int32) (n0_12 : Int32), u = (T, a0 :: O, (a0, .inr (12, o0 :: o1 :: o2 :: (.ref y3) :: (.ref y4) :: o5 :: (.int n0_6) :: (.int n0_7) :: (.int y8) :: (.int n0_9) :: (.int n0_10) :: (.int n0_11) :: (.int n0_12) :: tl)) :: X) ∧ 0 ≤ r.toInt ∧ r.toInt ≤ 1 ∧ (y6.toInt ≤ n0_6.toInt) ∧ (n0_6.toInt ≤ n0_7.toInt) ∧ (n0_7.toInt ≤ y8.toInt) ∧ (TK3 n0_9 n0_6 n0_7) ∧ (0 ≤ n0_10.toInt) ∧ (n0_10.toInt ≤ 999) ∧ (r.toInt = 0 ∨ (n0_11.toInt = 0 ∧ y6.toInt + 1 ≤ n0_6.toInt)) ∧ (r.toInt ≠ 0 ∨ NZ n0_11))) := by
  refine tk_of (by decide) (Nat.le_of_ble_eq_true rfl) (fun p e s m below meth c ls A H locs hx hb hr hml hown hts hlocks hnm hkb hH hS hA hOX hks hE hl => ?_)
  have hown : s.vm.findClass RX12 = some m.cls := hown
  have hl : lv_has ls 2 [(0, .ref a0), (1, .int x1)] := hl
  have hOXf := hOX
  have hk3 := k3 k4
  refine lv_iload_n hx hb dX12_goesIn_0 rfl (lv_at hl 1 rfl) ?_
  refine lv_bipush (v := 6) hx hb dX12_goesIn_1 (by decide) ?_
  refine lv_icmp_ne (tgt := 11) hx hb dX12_goesIn_3 (by decide) (fun c3 => ?_) (fun c3 => ?_)
  · skip
    have tc3 := f_ne (k := 6) (by decide) c3
    refine lv_aload_n hx hb dX12_goesIn_11 rfl (lv_at hl 0 rfl) ?_
    refine x_getk (ci := 12) (C := RX12) (F := TX12) (N := 36) (v := .int y11) hx hb hts uX12 hown hkb hH 0 rfl rfl 11 (by decide) rfl kw_1234 (fun _ h9 => h9) dX12_goesIn_12 ?_
    refine lv_if_ne (tgt := 22) hx hb dX12_goesIn_15 (by decide) (fun c15 => ?_) (fun c15 => ?_)
    · skip
      have tc15 := f_ne (k := 0) (by decide) c15
      refine lv_aload_n hx hb dX12_goesIn_22 rfl (lv_at hl 0 rfl) ?_
      refine x_getk (ci := 12) (C := RX12) (F := TX12) (N := 36) (v := .int y11) hx hb hts uX12 hown hkb hH 0 rfl rfl 11 (by decide) rfl kw_1234 (fun _ h9 => h9) dX12_goesIn_23 ?_
      refine lv_if_ne (tgt := 33) hx hb dX12_goesIn_26 (by decide) (fun c26 => ?_) (fun c26 => ?_)
      · skip
        have tc26 := f_ne (k := 0) (by decide) c26
        refine lv_iconst (v := 0) hx hb dX12_goesIn_33 (by decide) ?_
        have z9_0 : (0 : Int32).toInt = 0 := by decide
        exact te_z hx hb hr hlocks (by rfl) hH hS (⟨y6, y7, y9, y10, y11, y12, rfl, by decide, by decide, by omega, by omega, by omega, k3, by omega, by omega, by omega, (by first | (refine Or.inr ?_; unfold NZ; omega))⟩) dX12_goesIn_34
      · skip
        have tc26 := f_eq (k := 0) (by decide) c26
        refine lv_iconst (v := 1) hx hb dX12_goesIn_29 (by decide) ?_
        refine lv_goto (tgt := 34) hx hb dX12_goesIn_30 (by decide) ?_
        have z9_1 : (1 : Int32).toInt = 1 := by decide
        exact te_z hx hb hr hlocks (by rfl) hH hS (⟨y6, y7, y9, y10, y11, y12, rfl, by decide, by decide, by omega, by omega, by omega, k3, by omega, by omega, by omega, (Or.inl (by decide))⟩) dX12_goesIn_34
    · skip
      have tc15 := f_eq (k := 0) (by decide) c15
      refine lv_aload_n hx hb dX12_goesIn_18 rfl (lv_at hl 0 rfl) ?_
      refine tk_v hH hS hA (tr_V (n := 0) (As := []) hx hb hml hown hts hkb hH (ox_map hOX rfl) hks hE hS hA (s_M_next l D cs kf T O X a0 hg mq o0 o1 o2 y3 y4 o5 y6 y7 y8 y9 y10 y11 y12 tl t_a0 b_hg t_y3 t_y4 (by omega) (by omega) (by omega) (by omega) (by omega) (by omega) (by omega) (by omega) (by omega) (hO.sub (by decide))) kw_1344 kw_1346 ks_43 kw_13 kw_1347 (by decide +kernel) ⟨Nat.le_of_ble_eq_true rfl, Nat.le_of_ble_eq_true rfl⟩ (x_recv (ci := 12) hkb hH 0 rfl rfl) rfl rfl hl.1 (Nat.le_of_ble_eq_true rfl) dX12_goesIn_19 ⟨Nat.le_of_ble_eq_true rfl, Nat.le_of_ble_eq_true rfl⟩) (fun u H locs hz9 hH hS => ?_)
      obtain ⟨n19_0_6, n19_0_7, n19_0_9, n19_0_10, rfl, x_v190, x_v191, x_v192, x_v193, x_v194, x_v195⟩ := hz9
      have hH : HT D cs A T (a0 :: O) ((a0, .inr (12, o0 :: o1 :: o2 :: (.ref y3) :: (.ref y4) :: o5 :: (.int n19_0_6) :: (.int n19_0_7) :: (.int y8) :: (.int n19_0_9) :: (.int n19_0_10) :: (.int y11) :: (.int y12) :: tl)) :: X) H := hH
      refine W.widen (k := 0) (n := 0) (Nat.le_of_ble_eq_true rfl) (Nat.le_of_ble_eq_true rfl) ?_
      refine lv_aload_n hx hb dX12_goesIn_22 rfl (lv_at hl 0 rfl) ?_
      refine x_getk (ci := 12) (C := RX12) (F := TX12) (N := 36) (v := .int y11) hx hb hts uX12 hown hkb hH 0 rfl rfl 11 (by decide) rfl kw_1234 (fun _ h9 => h9) dX12_goesIn_23 ?_
      refine lv_if_ne (tgt := 33) hx hb dX12_goesIn_26 (by decide) (fun c26 => ?_) (fun c26 => ?_)
      · skip
        have tc26 := f_ne (k := 0) (by decide) c26
        exfalso; omega
      · skip
        have tc26 := f_eq (k := 0) (by decide) c26
        refine lv_iconst (v := 1) hx hb dX12_goesIn_29 (by decide) ?_
        refine lv_goto (tgt := 34) hx hb dX12_goesIn_30 (by decide) ?_
        have z9_1 : (1 : Int32).toInt = 1 := by decide
        exact te_z hx hb hr hlocks (by rfl) hH hS (⟨n19_0_6, n19_0_7, n19_0_9, n19_0_10, y11, y12, rfl, by decide, by decide, by omega, by omega, by omega, x_v193, by omega, by omega, by omega, (Or.inl (by decide))⟩) dX12_goesIn_34
  · skip
    have tc3 := f_eq (k := 6) (by decide) c3
    exfalso; omega
set_option maxHeartbeats 4000000 in
set_option maxRecDepth 100000 in
theorem s_M_goesIn5 (l : Launch) (D : va_G) (cs : CS) (kf : KF) (T : TF) (O : List Nat) (X : va_W) (a0 hg mq : Nat) (x1 : Int32) (o0 : Value) (o1 : Value) (o2 : Value) (y3 : Nat) (y4 : Nat) (o5 : Value) (y6 : Int32) (y7 : Int32) (y8 : Int32) (y9 : Int32) (y10 : Int32) (y11 : Int32) (y12 : Int32) (tl : List Value) (t_a0 : T a0 = some (22, hg, mq)) (b_hg : hg < 90) (l_x1 : 5 ≤ x1.toInt) (u_x1 : x1.toInt ≤ 5) (t_y3 : T y3 = some (1, 900, 0)) (t_y4 : T y4 = some (8, 1302, 0)) (l_y6 : 0 ≤ y6.toInt) (u_y6 : y6.toInt ≤ 900) (l_y7 : 0 ≤ y7.toInt) (u_y7 : y7.toInt ≤ 900) (l_y8 : 0 ≤ y8.toInt) (u_y8 : y8.toInt ≤ 900) (l_y10 : 0 ≤ y10.toInt) (u_y10 : y10.toInt ≤ 999) (k1 : y6.toInt ≤ y7.toInt) (k2 : y7.toInt ≤ y8.toInt) (k3 : TK3 y9 y6 y7) (k4 : y9.toInt ≠ 22) (k5 : y11.toInt = 0) (hO : okO T (a0 :: O) [1]) : TK l D cs kf yX12_goesIn cX12_goesIn 2 (some (.boolean)) { frames := 6, cells := 0, slots := 0, locals := 129 } [.ref a0, .int x1] T (a0 :: O) ((a0, .inr (12, o0 :: o1 :: o2 :: (.ref y3) :: (.ref y4) :: o5 :: (.int y6) :: (.int y7) :: (.int y8) :: (.int y9) :: (.int y10) :: (.int y11) :: (.int y12) :: tl)) :: X) (Ti D cs (fun r u => ∃ (n0_6 : Int32) (n0_7 : Int32) (n0_9 : Int32) (n0_10 : Int32) (n0_11 : Int32) (n0_12 : Int32), u = (T, a0 :: O, (a0, .inr (12, o0 :: o1 :: o2 :: (.ref y3) :: (.ref y4) :: o5 :: (.int n0_6) :: (.int n0_7) :: (.int y8) :: (.int n0_9) :: (.int n0_10) :: (.int n0_11) :: (.int n0_12) :: tl)) :: X) ∧ 0 ≤ r.toInt ∧ r.toInt ≤ 1 ∧ (y6.toInt ≤ n0_6.toInt) ∧ (n0_6.toInt ≤ n0_7.toInt) ∧ (n0_7.toInt ≤ y8.toInt) ∧ (TK3 n0_9 n0_6 n0_7) ∧ (0 ≤ n0_10.toInt) ∧ (n0_10.toInt ≤ 999) ∧ (r.toInt = 0 ∨ (n0_11.toInt = 0 ∧ y6.toInt + 1 ≤ n0_6.toInt)) ∧ (r.toInt ≠ 0 ∨ NZ n0_11))) := by
  refine tk_of (by decide) (Nat.le_of_ble_eq_true rfl) (fun p e s m below meth c ls A H locs hx hb hr hml hown hts hlocks hnm hkb hH hS hA hOX hks hE hl => ?_)
  have hown : s.vm.findClass RX12 = some m.cls := hown
  have hl : lv_has ls 2 [(0, .ref a0), (1, .int x1)] := hl
  have hOXf := hOX
  have hk3 := k3 k4
  refine lv_iload_n hx hb dX12_goesIn_0 rfl (lv_at hl 1 rfl) ?_
  refine lv_bipush (v := 6) hx hb dX12_goesIn_1 (by decide) ?_
  refine lv_icmp_ne (tgt := 11) hx hb dX12_goesIn_3 (by decide) (fun c3 => ?_) (fun c3 => ?_)
  · skip
    have tc3 := f_ne (k := 6) (by decide) c3
    refine lv_aload_n hx hb dX12_goesIn_11 rfl (lv_at hl 0 rfl) ?_
    refine x_getk (ci := 12) (C := RX12) (F := TX12) (N := 36) (v := .int y11) hx hb hts uX12 hown hkb hH 0 rfl rfl 11 (by decide) rfl kw_1234 (fun _ h9 => h9) dX12_goesIn_12 ?_
    refine lv_if_ne (tgt := 22) hx hb dX12_goesIn_15 (by decide) (fun c15 => ?_) (fun c15 => ?_)
    · skip
      have tc15 := f_ne (k := 0) (by decide) c15
      refine lv_aload_n hx hb dX12_goesIn_22 rfl (lv_at hl 0 rfl) ?_
      refine x_getk (ci := 12) (C := RX12) (F := TX12) (N := 36) (v := .int y11) hx hb hts uX12 hown hkb hH 0 rfl rfl 11 (by decide) rfl kw_1234 (fun _ h9 => h9) dX12_goesIn_23 ?_
      refine lv_if_ne (tgt := 33) hx hb dX12_goesIn_26 (by decide) (fun c26 => ?_) (fun c26 => ?_)
      · skip
        have tc26 := f_ne (k := 0) (by decide) c26
        refine lv_iconst (v := 0) hx hb dX12_goesIn_33 (by decide) ?_
        have z9_0 : (0 : Int32).toInt = 0 := by decide
        exact te_z hx hb hr hlocks (by rfl) hH hS (⟨y6, y7, y9, y10, y11, y12, rfl, by decide, by decide, by omega, by omega, by omega, k3, by omega, by omega, by omega, (by first | (refine Or.inr ?_; unfold NZ; omega))⟩) dX12_goesIn_34
      · skip
        have tc26 := f_eq (k := 0) (by decide) c26
        refine lv_iconst (v := 1) hx hb dX12_goesIn_29 (by decide) ?_
        refine lv_goto (tgt := 34) hx hb dX12_goesIn_30 (by decide) ?_
        have z9_1 : (1 : Int32).toInt = 1 := by decide
        exact te_z hx hb hr hlocks (by rfl) hH hS (⟨y6, y7, y9, y10, y11, y12, rfl, by decide, by decide, by omega, by omega, by omega, k3, by omega, by omega, by omega, (Or.inl (by decide))⟩) dX12_goesIn_34
    · skip
      have tc15 := f_eq (k := 0) (by decide) c15
      refine lv_aload_n hx hb dX12_goesIn_18 rfl (lv_at hl 0 rfl) ?_
      refine tk_v hH hS hA (tr_V (n := 0) (As := []) hx hb hml hown hts hkb hH (ox_map hOX rfl) hks hE hS hA (s_M_next l D cs kf T O X a0 hg mq o0 o1 o2 y3 y4 o5 y6 y7 y8 y9 y10 y11 y12 tl t_a0 b_hg t_y3 t_y4 (by omega) (by omega) (by omega) (by omega) (by omega) (by omega) (by omega) (by omega) (by omega) (hO.sub (by decide))) kw_1344 kw_1346 ks_43 kw_13 kw_1347 (by decide +kernel) ⟨Nat.le_of_ble_eq_true rfl, Nat.le_of_ble_eq_true rfl⟩ (x_recv (ci := 12) hkb hH 0 rfl rfl) rfl rfl hl.1 (Nat.le_of_ble_eq_true rfl) dX12_goesIn_19 ⟨Nat.le_of_ble_eq_true rfl, Nat.le_of_ble_eq_true rfl⟩) (fun u H locs hz9 hH hS => ?_)
      obtain ⟨n19_0_6, n19_0_7, n19_0_9, n19_0_10, rfl, x_v190, x_v191, x_v192, x_v193, x_v194, x_v195⟩ := hz9
      have hH : HT D cs A T (a0 :: O) ((a0, .inr (12, o0 :: o1 :: o2 :: (.ref y3) :: (.ref y4) :: o5 :: (.int n19_0_6) :: (.int n19_0_7) :: (.int y8) :: (.int n19_0_9) :: (.int n19_0_10) :: (.int y11) :: (.int y12) :: tl)) :: X) H := hH
      refine W.widen (k := 0) (n := 0) (Nat.le_of_ble_eq_true rfl) (Nat.le_of_ble_eq_true rfl) ?_
      refine lv_aload_n hx hb dX12_goesIn_22 rfl (lv_at hl 0 rfl) ?_
      refine x_getk (ci := 12) (C := RX12) (F := TX12) (N := 36) (v := .int y11) hx hb hts uX12 hown hkb hH 0 rfl rfl 11 (by decide) rfl kw_1234 (fun _ h9 => h9) dX12_goesIn_23 ?_
      refine lv_if_ne (tgt := 33) hx hb dX12_goesIn_26 (by decide) (fun c26 => ?_) (fun c26 => ?_)
      · skip
        have tc26 := f_ne (k := 0) (by decide) c26
        exfalso; omega
      · skip
        have tc26 := f_eq (k := 0) (by decide) c26
        refine lv_iconst (v := 1) hx hb dX12_goesIn_29 (by decide) ?_
        refine lv_goto (tgt := 34) hx hb dX12_goesIn_30 (by decide) ?_
        have z9_1 : (1 : Int32).toInt = 1 := by decide
        exact te_z hx hb hr hlocks (by rfl) hH hS (⟨n19_0_6, n19_0_7, n19_0_9, n19_0_10, y11, y12, rfl, by decide, by decide, by omega, by omega, by omega, x_v193, by omega, by omega, by omega, (Or.inl (by decide))⟩) dX12_goesIn_34
  · skip
    have tc3 := f_eq (k := 6) (by decide) c3
    exfalso; omega
set_option maxHeartbeats 4000000 in
set_option maxRecDepth 100000 in
theorem s_M_goesIn6 (l : Launch) (D : va_G) (cs : CS) (kf : KF) (T : TF) (O : List Nat) (X : va_W) (a0 hg mq : Nat) (x1 : Int32) (o0 : Value) (o1 : Value) (o2 : Value) (y3 : Nat) (y4 : Nat) (o5 : Value) (y6 : Int32) (y7 : Int32) (y8 : Int32) (y9 : Int32) (y10 : Int32) (y11 : Int32) (y12 : Int32) (tl : List Value) (t_a0 : T a0 = some (22, hg, mq)) (b_hg : hg < 90) (l_x1 : 6 ≤ x1.toInt) (u_x1 : x1.toInt ≤ 6) (t_y3 : T y3 = some (1, 900, 0)) (t_y4 : T y4 = some (8, 1302, 0)) (l_y6 : 0 ≤ y6.toInt) (u_y6 : y6.toInt ≤ 900) (l_y7 : 0 ≤ y7.toInt) (u_y7 : y7.toInt ≤ 900) (l_y8 : 0 ≤ y8.toInt) (u_y8 : y8.toInt ≤ 900) (l_y10 : 0 ≤ y10.toInt) (u_y10 : y10.toInt ≤ 999) (k1 : y6.toInt ≤ y7.toInt) (k2 : y7.toInt ≤ y8.toInt) (k3 : TK3 y9 y6 y7) (k4 : y9.toInt ≠ 22) (k5 : y11.toInt = 0) (hO : okO T (a0 :: O) [1]) : TK l D cs kf yX12_goesIn cX12_goesIn 2 (some (.boolean)) { frames := 6, cells := 0, slots := 0, locals := 129 } [.ref a0, .int x1] T (a0 :: O) ((a0, .inr (12, o0 :: o1 :: o2 :: (.ref y3) :: (.ref y4) :: o5 :: (.int y6) :: (.int y7) :: (.int y8) :: (.int y9) :: (.int y10) :: (.int y11) :: (.int y12) :: tl)) :: X) (Ti D cs (fun r u => ∃ (n0_6 : Int32) (n0_7 : Int32) (n0_9 : Int32) (n0_10 : Int32) (n0_11 : Int32) (n0_12 : Int32), u = (T, a0 :: O, (a0, .inr (12, o0 :: o1 :: o2 :: (.ref y3) :: (.ref y4) :: o5 :: (.int n0_6) :: (.int n0_7) :: (.int y8) :: (.int n0_9) :: (.int n0_10) :: (.int n0_11) :: (.int n0_12) :: tl)) :: X) ∧ 0 ≤ r.toInt ∧ r.toInt ≤ 0 ∧ (y6.toInt ≤ n0_6.toInt) ∧ (n0_6.toInt ≤ n0_7.toInt) ∧ (n0_7.toInt ≤ y8.toInt) ∧ (TK3 n0_9 n0_6 n0_7) ∧ (0 ≤ n0_10.toInt) ∧ (n0_10.toInt ≤ 999) ∧ (r.toInt = 0 ∨ (n0_11.toInt = 0 ∧ y6.toInt + 1 ≤ n0_6.toInt)) ∧ (r.toInt ≠ 0 ∨ NZ n0_11))) := by
  refine tk_of (by decide) (Nat.le_of_ble_eq_true rfl) (fun p e s m below meth c ls A H locs hx hb hr hml hown hts hlocks hnm hkb hH hS hA hOX hks hE hl => ?_)
  have hown : s.vm.findClass RX12 = some m.cls := hown
  have hl : lv_has ls 2 [(0, .ref a0), (1, .int x1)] := hl
  have hOXf := hOX
  have hk3 := k3 k4
  refine lv_iload_n hx hb dX12_goesIn_0 rfl (lv_at hl 1 rfl) ?_
  refine lv_bipush (v := 6) hx hb dX12_goesIn_1 (by decide) ?_
  refine lv_icmp_ne (tgt := 11) hx hb dX12_goesIn_3 (by decide) (fun c3 => ?_) (fun c3 => ?_)
  · skip
    have tc3 := f_ne (k := 6) (by decide) c3
    exfalso; omega
  · skip
    have tc3 := f_eq (k := 6) (by decide) c3
    refine lv_aload_n hx hb dX12_goesIn_6 rfl (lv_at hl 0 rfl) ?_
    refine lv_iconst (v := 4) hx hb dX12_goesIn_7 (by decide) ?_
    have z9_4 : (4 : Int32).toInt = 4 := by decide
    refine tk_v hH hS hA (tr_V (n := 1) (As := [.int 4]) hx hb hml hown hts hkb hH (ox_map hOX rfl) hks hE hS hA (s_M_fails l D cs kf T O X a0 hg mq (4) o0 o1 o2 y3 y4 o5 y6 y7 y8 y9 y10 y11 y12 tl t_a0 b_hg (by decide) (by decide) t_y3 t_y4 (by omega) (by omega) (by omega) (by omega) (by omega) (by omega) (by omega) (by omega) (hO.sub (by decide))) kw_1378 kw_1380 ks_49 kw_13 kw_1381 (by decide +kernel) ⟨Nat.le_of_ble_eq_true rfl, Nat.le_of_ble_eq_true rfl⟩ (x_recv (ci := 12) hkb hH 0 rfl rfl) rfl rfl hl.1 (Nat.le_of_ble_eq_true rfl) dX12_goesIn_8 ⟨Nat.le_of_ble_eq_true rfl, Nat.le_of_ble_eq_true rfl⟩) (fun u H locs hz9 hH hS => ?_)
    obtain ⟨n8_0_11, n8_0_12, rfl, x_v80⟩ := hz9
    have hH : HT D cs A T (a0 :: O) ((a0, .inr (12, o0 :: o1 :: o2 :: (.ref y3) :: (.ref y4) :: o5 :: (.int y6) :: (.int y7) :: (.int y8) :: (.int y9) :: (.int y10) :: (.int n8_0_11) :: (.int n8_0_12) :: tl)) :: X) H := hH
    refine W.widen (k := 0) (n := 0) (Nat.le_of_ble_eq_true rfl) (Nat.le_of_ble_eq_true rfl) ?_
    refine lv_aload_n hx hb dX12_goesIn_11 rfl (lv_at hl 0 rfl) ?_
    refine x_getk (ci := 12) (C := RX12) (F := TX12) (N := 36) (v := .int n8_0_11) hx hb hts uX12 hown hkb hH 0 rfl rfl 11 (by decide) rfl kw_1234 (fun _ h9 => h9) dX12_goesIn_12 ?_
    refine lv_if_ne (tgt := 22) hx hb dX12_goesIn_15 (by decide) (fun c15 => ?_) (fun c15 => ?_)
    · skip
      have tc15 := f_ne (k := 0) (by decide) c15
      refine lv_aload_n hx hb dX12_goesIn_22 rfl (lv_at hl 0 rfl) ?_
      refine x_getk (ci := 12) (C := RX12) (F := TX12) (N := 36) (v := .int n8_0_11) hx hb hts uX12 hown hkb hH 0 rfl rfl 11 (by decide) rfl kw_1234 (fun _ h9 => h9) dX12_goesIn_23 ?_
      refine lv_if_ne (tgt := 33) hx hb dX12_goesIn_26 (by decide) (fun c26 => ?_) (fun c26 => ?_)
      · skip
        have tc26 := f_ne (k := 0) (by decide) c26
        refine lv_iconst (v := 0) hx hb dX12_goesIn_33 (by decide) ?_
        have z9_0 : (0 : Int32).toInt = 0 := by decide
        exact te_z hx hb hr hlocks (by rfl) hH hS (⟨y6, y7, y9, y10, n8_0_11, n8_0_12, rfl, by decide, by decide, by omega, by omega, by omega, k3, by omega, by omega, by omega, (by first | exact (Or.inr x_v80) | (refine Or.inr ?_; unfold NZ; omega))⟩) dX12_goesIn_34
      · skip
        have tc26 := f_eq (k := 0) (by decide) c26
        have hz9 : (0 : Int) = 1 := absurd tc26 x_v80
        refine lv_iconst (v := 1) hx hb dX12_goesIn_29 (by decide) ?_
        refine lv_goto (tgt := 34) hx hb dX12_goesIn_30 (by decide) ?_
        have z9_1 : (1 : Int32).toInt = 1 := by decide
        exact te_z hx hb hr hlocks (by rfl) hH hS (⟨y6, y7, y9, y10, n8_0_11, n8_0_12, rfl, by omega, by omega, by omega, by omega, by omega, k3, by omega, by omega, by omega, (Or.inl (by decide))⟩) dX12_goesIn_34
    · skip
      have tc15 := f_eq (k := 0) (by decide) c15
      have hz9 : (0 : Int) = 1 := absurd tc15 x_v80
      refine lv_aload_n hx hb dX12_goesIn_18 rfl (lv_at hl 0 rfl) ?_
      refine tk_v hH hS hA (tr_V (n := 0) (As := []) hx hb hml hown hts hkb hH (ox_map hOX rfl) hks hE hS hA (s_M_next l D cs kf T O X a0 hg mq o0 o1 o2 y3 y4 o5 y6 y7 y8 y9 y10 n8_0_11 n8_0_12 tl t_a0 b_hg t_y3 t_y4 (by omega) (by omega) (by omega) (by omega) (by omega) (by omega) (by omega) (by omega) (by omega) (hO.sub (by decide))) kw_1344 kw_1346 ks_43 kw_13 kw_1347 (by decide +kernel) ⟨Nat.le_of_ble_eq_true rfl, Nat.le_of_ble_eq_true rfl⟩ (x_recv (ci := 12) hkb hH 0 rfl rfl) rfl rfl hl.1 (Nat.le_of_ble_eq_true rfl) dX12_goesIn_19 ⟨Nat.le_of_ble_eq_true rfl, Nat.le_of_ble_eq_true rfl⟩) (fun u H locs hz9 hH hS => ?_)
      obtain ⟨n19_0_6, n19_0_7, n19_0_9, n19_0_10, rfl, x_v190, x_v191, x_v192, x_v193, x_v194, x_v195⟩ := hz9
      have hH : HT D cs A T (a0 :: O) ((a0, .inr (12, o0 :: o1 :: o2 :: (.ref y3) :: (.ref y4) :: o5 :: (.int n19_0_6) :: (.int n19_0_7) :: (.int y8) :: (.int n19_0_9) :: (.int n19_0_10) :: (.int n8_0_11) :: (.int n8_0_12) :: tl)) :: X) H := hH
      refine W.widen (k := 0) (n := 0) (Nat.le_of_ble_eq_true rfl) (Nat.le_of_ble_eq_true rfl) ?_
      refine lv_aload_n hx hb dX12_goesIn_22 rfl (lv_at hl 0 rfl) ?_
      refine x_getk (ci := 12) (C := RX12) (F := TX12) (N := 36) (v := .int n8_0_11) hx hb hts uX12 hown hkb hH 0 rfl rfl 11 (by decide) rfl kw_1234 (fun _ h9 => h9) dX12_goesIn_23 ?_
      refine lv_if_ne (tgt := 33) hx hb dX12_goesIn_26 (by decide) (fun c26 => ?_) (fun c26 => ?_)
      · skip
        have tc26 := f_ne (k := 0) (by decide) c26
        exfalso; omega
      · skip
        have tc26 := f_eq (k := 0) (by decide) c26
        have hz9 : (0 : Int) = 1 := absurd tc26 x_v80
        refine lv_iconst (v := 1) hx hb dX12_goesIn_29 (by decide) ?_
        refine lv_goto (tgt := 34) hx hb dX12_goesIn_30 (by decide) ?_
        have z9_1 : (1 : Int32).toInt = 1 := by decide
        exact te_z hx hb hr hlocks (by rfl) hH hS (⟨n19_0_6, n19_0_7, n19_0_9, n19_0_10, n8_0_11, n8_0_12, rfl, by omega, by omega, by omega, by omega, by omega, x_v193, by omega, by omega, by omega, (Or.inl (by decide))⟩) dX12_goesIn_34
theorem dX12_codes_0 : decode cX12_codes 0 = .ok (.aload_n 0, 1) := by decide +kernel
theorem dX12_codes_1 : decode cX12_codes 1 = .ok (.getfield 128, 3) := by decide +kernel
theorem dX12_codes_4 : decode cX12_codes 4 = .ok (.ifCond .eq 4, 3) := by decide +kernel
theorem dX12_codes_7 : decode cX12_codes 7 = .ok (.return_, 1) := by decide +kernel
theorem dX12_codes_8 : decode cX12_codes 8 = .ok (.aload_n 0, 1) := by decide +kernel
theorem dX12_codes_9 : decode cX12_codes 9 = .ok (.getfield 24, 3) := by decide +kernel
theorem dX12_codes_12 : decode cX12_codes 12 = .ok (.sipush 402, 3) := by decide +kernel
theorem dX12_codes_15 : decode cX12_codes 15 = .ok (.aload_n 0, 1) := by decide +kernel
theorem dX12_codes_16 : decode cX12_codes 16 = .ok (.getfield 24, 3) := by decide +kernel
theorem dX12_codes_19 : decode cX12_codes 19 = .ok (.sipush 401, 3) := by decide +kernel
theorem dX12_codes_22 : decode cX12_codes 22 = .ok (.iaload, 1) := by decide +kernel
theorem dX12_codes_23 : decode cX12_codes 23 = .ok (.iadd, 1) := by decide +kernel
theorem dX12_codes_24 : decode cX12_codes 24 = .ok (.iload_n 1, 1) := by decide +kernel
theorem dX12_codes_25 : decode cX12_codes 25 = .ok (.iastore, 1) := by decide +kernel
theorem dX12_codes_26 : decode cX12_codes 26 = .ok (.aload_n 0, 1) := by decide +kernel
theorem dX12_codes_27 : decode cX12_codes 27 = .ok (.getfield 24, 3) := by decide +kernel
theorem dX12_codes_30 : decode cX12_codes 30 = .ok (.sipush 401, 3) := by decide +kernel
theorem dX12_codes_33 : decode cX12_codes 33 = .ok (.dup2, 1) := by decide +kernel
theorem dX12_codes_34 : decode cX12_codes 34 = .ok (.iaload, 1) := by decide +kernel
theorem dX12_codes_35 : decode cX12_codes 35 = .ok (.iconst 1, 1) := by decide +kernel
theorem dX12_codes_36 : decode cX12_codes 36 = .ok (.iadd, 1) := by decide +kernel
theorem dX12_codes_37 : decode cX12_codes 37 = .ok (.iastore, 1) := by decide +kernel
theorem dX12_codes_38 : decode cX12_codes 38 = .ok (.return_, 1) := by decide +kernel
theorem kw_1227 : Cond.fieldLink "FootholdWallModel" 24 "FootholdWallModel" "fresh" "[I" ∈ gw := gw_of (tb_of 1227 (by decide +kernel)) (by decide +kernel)
set_option maxHeartbeats 4000000 in
set_option maxRecDepth 100000 in
theorem s_M_codesA (l : Launch) (D : va_G) (cs : CS) (kf : KF) (T : TF) (O : List Nat) (X : va_W) (a0 hg mq : Nat) (x1 : Int32) (o0 : Value) (o1 : Value) (o2 : Value) (y3 : Nat) (y4 : Nat) (o5 : Value) (y6 : Int32) (y7 : Int32) (y8 : Int32) (y9 : Int32) (y10 : Int32) (y11 : Int32) (y12 : Int32) (tl : List Value) (f4 : Nat → Int32) (t_a0 : T a0 = some (22, hg, mq)) (b_hg : hg < 90) (u_x1 : x1.toInt ≤ 2999) (t_y3 : T y3 = some (1, 900, 0)) (t_y4 : T y4 = some (8, 1302, 0)) (l_y6 : 0 ≤ y6.toInt) (u_y6 : y6.toInt ≤ 900) (l_y7 : 0 ≤ y7.toInt) (u_y7 : y7.toInt ≤ 900) (l_y8 : 0 ≤ y8.toInt) (u_y8 : y8.toInt ≤ 900) (l_y10 : 0 ≤ y10.toInt) (u_y10 : y10.toInt ≤ 999) (s_f4 : S8 f4) (hN : CP y11 f4 0) (hO : okO T (a0 :: y4 :: O) []) : TK l D cs kf yX12_codes cX12_codes 2 none { frames := 0, cells := 0, slots := 0, locals := 0 } [.ref a0, .int x1] T (a0 :: y4 :: O) ((a0, .inr (12, o0 :: o1 :: o2 :: (.ref y3) :: (.ref y4) :: o5 :: (.int y6) :: (.int y7) :: (.int y8) :: (.int y9) :: (.int y10) :: (.int y11) :: (.int y12) :: tl)) :: (y4, .inl (cs.2.1, 1302, .inl f4)) :: X) (Tv D cs (fun u => ∃ (G1 : Nat → Int32), u = (T, a0 :: y4 :: O, (a0, .inr (12, o0 :: o1 :: o2 :: (.ref y3) :: (.ref y4) :: o5 :: (.int y6) :: (.int y7) :: (.int y8) :: (.int y9) :: (.int y10) :: (.int y11) :: (.int y12) :: tl)) :: (y4, .inl (cs.2.1, 1302, .inl G1)) :: X) ∧ (S8 G1) ∧ (CN y11 f4 G1 (1)))) := by
  refine tk_of (by decide) (Nat.le_of_ble_eq_true rfl) (fun p e s m below meth c ls A H locs hx hb hr hml hown hts hlocks hnm hkb hH hS hA hOX hks hE hl => ?_)
  have hown : s.vm.findClass RX12 = some m.cls := hown
  have hl : lv_has ls 2 [(0, .ref a0), (1, .int x1)] := hl
  have hOXf := hOX
  refine lv_aload_n hx hb dX12_codes_0 rfl (lv_at hl 0 rfl) ?_
  refine x_getk (ci := 12) (C := RX12) (F := TX12) (N := 36) (v := .int y11) hx hb hts uX12 hown hkb hH 0 rfl rfl 11 (by decide) rfl kw_1234 (fun _ h9 => h9) dX12_codes_1 ?_
  refine lv_if_eq (tgt := 8) hx hb dX12_codes_4 (by decide) (fun c4 => ?_) (fun c4 => ?_)
  · skip
    have tc4 := f_eq (k := 0) (by decide) c4
    have hN9 := hN (by omega)
    refine lv_aload_n hx hb dX12_codes_8 rfl (lv_at hl 0 rfl) ?_
    refine x_getk (ci := 12) (C := RX12) (F := TX12) (N := 36) (v := .ref y4) hx hb hts uX12 hown hkb hH 0 rfl rfl 4 (by decide) rfl kw_1227 (fun _ h9 => h9) dX12_codes_9 ?_
    refine lv_sipush (v := 402) hx hb dX12_codes_12 (by decide) ?_
    refine lv_aload_n hx hb dX12_codes_15 rfl (lv_at hl 0 rfl) ?_
    refine x_getk (ci := 12) (C := RX12) (F := TX12) (N := 36) (v := .ref y4) hx hb hts uX12 hown hkb hH 0 rfl rfl 4 (by decide) rfl kw_1227 (fun _ h9 => h9) dX12_codes_16 ?_
    refine lv_sipush (v := 401) hx hb dX12_codes_19 (by decide) ?_
    refine xa_ild hx hb hkb hH 1 rfl (by decide) (by decide) dX12_codes_22 ?_
    refine lv_topi (fun v22 ev22 => ?_)
    have tv22 : v22 = f4 401 := by rw [ev22]; rfl
    have hn9 : v22.toInt = ncd f4 := by rw [tv22]; rfl
    have bn9 := s_f4.2.2.2.2.2.2.1
    rw [← tv22] at bn9
    refine lv_iadd hx hb dX12_codes_23 ?_
    refine lv_topi (fun v23 ev23 => ?_)
    have tv23 : v23.toInt = (402) + v22.toInt := by rw [ev23]; exact add_i (by decide : (402 : Int32).toInt = 402) rfl (by omega) (by omega)
    refine lv_iload_n hx hb dX12_codes_24 rfl (lv_at hl 1 rfl) ?_
    refine xa_ist hx hb hkb hH hS 1 rfl (by omega) (by omega) dX12_codes_25 (fun H locs hH hS => ?_)
    have hH : HT D cs A T (a0 :: y4 :: O) ((a0, .inr (12, o0 :: o1 :: o2 :: (.ref y3) :: (.ref y4) :: o5 :: (.int y6) :: (.int y7) :: (.int y8) :: (.int y9) :: (.int y10) :: (.int y11) :: (.int y12) :: tl)) :: (y4, .inl (cs.2.1, 1302, .inl (upd f4 (v23.toInt.toNat) x1))) :: X) H := hH
    obtain ⟨F25, eF25⟩ : ∃ f9, f9 = upd f4 (v23.toInt.toNat) x1 := ⟨_, rfl⟩
    have hH : HT D cs A T (a0 :: y4 :: O) ((a0, .inr (12, o0 :: o1 :: o2 :: (.ref y3) :: (.ref y4) :: o5 :: (.int y6) :: (.int y7) :: (.int y8) :: (.int y9) :: (.int y10) :: (.int y11) :: (.int y12) :: tl)) :: (y4, .inl (cs.2.1, 1302, .inl F25)) :: X) H := eF25 ▸ hH
    refine lv_aload_n hx hb dX12_codes_26 rfl (lv_at hl 0 rfl) ?_
    refine x_getk (ci := 12) (C := RX12) (F := TX12) (N := 36) (v := .ref y4) hx hb hts uX12 hown hkb hH 0 rfl rfl 4 (by decide) rfl kw_1227 (fun _ h9 => h9) dX12_codes_27 ?_
    refine lv_sipush (v := 401) hx hb dX12_codes_30 (by decide) ?_
    refine lv_dup2_11 hx hb dX12_codes_33 rfl rfl ?_
    refine xa_ild hx hb hkb hH 1 rfl (by decide) (by decide) dX12_codes_34 ?_
    refine lv_topi (fun v34 ev34 => ?_)
    have tv34 : v34 = F25 401 := by rw [ev34]; rfl
    have hq9 : v34 = v22 := by rw [tv34, eF25, upd_ne (by omega), ← tv22]
    have hq8 : v34.toInt = v22.toInt := by rw [hq9]
    refine lv_iconst (v := 1) hx hb dX12_codes_35 (by decide) ?_
    refine lv_iadd hx hb dX12_codes_36 ?_
    refine lv_topi (fun v36 ev36 => ?_)
    have tv36 : v36.toInt = v34.toInt + (1) := by rw [ev36]; exact add_i rfl (by decide : (1 : Int32).toInt = 1) (by omega) (by omega)
    refine xa_ist hx hb hkb hH hS 1 rfl (by decide) (by decide) dX12_codes_37 (fun H locs hH hS => ?_)
    have hH : HT D cs A T (a0 :: y4 :: O) ((a0, .inr (12, o0 :: o1 :: o2 :: (.ref y3) :: (.ref y4) :: o5 :: (.int y6) :: (.int y7) :: (.int y8) :: (.int y9) :: (.int y10) :: (.int y11) :: (.int y12) :: tl)) :: (y4, .inl (cs.2.1, 1302, .inl (upd F25 (401) v36))) :: X) H := hH
    obtain ⟨F37, eF37⟩ : ∃ f9, f9 = upd F25 (401) v36 := ⟨_, rfl⟩
    have hH : HT D cs A T (a0 :: y4 :: O) ((a0, .inr (12, o0 :: o1 :: o2 :: (.ref y3) :: (.ref y4) :: o5 :: (.int y6) :: (.int y7) :: (.int y8) :: (.int y9) :: (.int y10) :: (.int y11) :: (.int y12) :: tl)) :: (y4, .inl (cs.2.1, 1302, .inl F37)) :: X) H := eF37 ▸ hH
    have hc9 := codes_end s_f4 tv22 tv23 eF25 tv34 tv36 eF37 (by omega) (fun q => absurd q (by omega))
    have hc8 := hc9.2.1
    have hc7 := dp_A (by omega) hc9.2.2
    have s_F37 := hc9.1
    exact te_v hx hb hr hlocks hH hS (⟨F37, rfl, s_F37, (fun _ => ⟨by omega, by omega⟩)⟩) dX12_codes_38
  · skip
    have tc4 := f_ne (k := 0) (by decide) c4
    exact te_v hx hb hr hlocks hH hS (⟨f4, rfl, s_f4, (fun q => absurd q tc4)⟩) dX12_codes_7
set_option maxHeartbeats 4000000 in
set_option maxRecDepth 100000 in
theorem s_M_codesN (l : Launch) (D : va_G) (cs : CS) (kf : KF) (T : TF) (O : List Nat) (X : va_W) (a0 hg mq : Nat) (x1 : Int32) (o0 : Value) (o1 : Value) (o2 : Value) (y3 : Nat) (y4 : Nat) (o5 : Value) (y6 : Int32) (y7 : Int32) (y8 : Int32) (y9 : Int32) (y10 : Int32) (y11 : Int32) (y12 : Int32) (tl : List Value) (f4 : Nat → Int32) (t_a0 : T a0 = some (22, hg, mq)) (b_hg : hg < 90) (l_x1 : 3008 ≤ x1.toInt) (u_x1 : x1.toInt ≤ 3008) (t_y3 : T y3 = some (1, 900, 0)) (t_y4 : T y4 = some (8, 1302, 0)) (l_y6 : 0 ≤ y6.toInt) (u_y6 : y6.toInt ≤ 900) (l_y7 : 0 ≤ y7.toInt) (u_y7 : y7.toInt ≤ 900) (l_y8 : 0 ≤ y8.toInt) (u_y8 : y8.toInt ≤ 900) (l_y10 : 0 ≤ y10.toInt) (u_y10 : y10.toInt ≤ 999) (s_f4 : S8 f4) (hN : CP y11 f4 1) (hO : okO T (a0 :: y4 :: O) []) : TK l D cs kf yX12_codes cX12_codes 2 none { frames := 0, cells := 0, slots := 0, locals := 0 } [.ref a0, .int x1] T (a0 :: y4 :: O) ((a0, .inr (12, o0 :: o1 :: o2 :: (.ref y3) :: (.ref y4) :: o5 :: (.int y6) :: (.int y7) :: (.int y8) :: (.int y9) :: (.int y10) :: (.int y11) :: (.int y12) :: tl)) :: (y4, .inl (cs.2.1, 1302, .inl f4)) :: X) (Tv D cs (fun u => ∃ (G1 : Nat → Int32), u = (T, a0 :: y4 :: O, (a0, .inr (12, o0 :: o1 :: o2 :: (.ref y3) :: (.ref y4) :: o5 :: (.int y6) :: (.int y7) :: (.int y8) :: (.int y9) :: (.int y10) :: (.int y11) :: (.int y12) :: tl)) :: (y4, .inl (cs.2.1, 1302, .inl G1)) :: X) ∧ (S8 G1) ∧ (CN y11 f4 G1 (0)))) := by
  refine tk_of (by decide) (Nat.le_of_ble_eq_true rfl) (fun p e s m below meth c ls A H locs hx hb hr hml hown hts hlocks hnm hkb hH hS hA hOX hks hE hl => ?_)
  have hown : s.vm.findClass RX12 = some m.cls := hown
  have hl : lv_has ls 2 [(0, .ref a0), (1, .int x1)] := hl
  have hOXf := hOX
  refine lv_aload_n hx hb dX12_codes_0 rfl (lv_at hl 0 rfl) ?_
  refine x_getk (ci := 12) (C := RX12) (F := TX12) (N := 36) (v := .int y11) hx hb hts uX12 hown hkb hH 0 rfl rfl 11 (by decide) rfl kw_1234 (fun _ h9 => h9) dX12_codes_1 ?_
  refine lv_if_eq (tgt := 8) hx hb dX12_codes_4 (by decide) (fun c4 => ?_) (fun c4 => ?_)
  · skip
    have tc4 := f_eq (k := 0) (by decide) c4
    have hN9 := hN (by omega)
    refine lv_aload_n hx hb dX12_codes_8 rfl (lv_at hl 0 rfl) ?_
    refine x_getk (ci := 12) (C := RX12) (F := TX12) (N := 36) (v := .ref y4) hx hb hts uX12 hown hkb hH 0 rfl rfl 4 (by decide) rfl kw_1227 (fun _ h9 => h9) dX12_codes_9 ?_
    refine lv_sipush (v := 402) hx hb dX12_codes_12 (by decide) ?_
    refine lv_aload_n hx hb dX12_codes_15 rfl (lv_at hl 0 rfl) ?_
    refine x_getk (ci := 12) (C := RX12) (F := TX12) (N := 36) (v := .ref y4) hx hb hts uX12 hown hkb hH 0 rfl rfl 4 (by decide) rfl kw_1227 (fun _ h9 => h9) dX12_codes_16 ?_
    refine lv_sipush (v := 401) hx hb dX12_codes_19 (by decide) ?_
    refine xa_ild hx hb hkb hH 1 rfl (by decide) (by decide) dX12_codes_22 ?_
    refine lv_topi (fun v22 ev22 => ?_)
    have tv22 : v22 = f4 401 := by rw [ev22]; rfl
    have hn9 : v22.toInt = ncd f4 := by rw [tv22]; rfl
    have bn9 := s_f4.2.2.2.2.2.2.1
    rw [← tv22] at bn9
    refine lv_iadd hx hb dX12_codes_23 ?_
    refine lv_topi (fun v23 ev23 => ?_)
    have tv23 : v23.toInt = (402) + v22.toInt := by rw [ev23]; exact add_i (by decide : (402 : Int32).toInt = 402) rfl (by omega) (by omega)
    refine lv_iload_n hx hb dX12_codes_24 rfl (lv_at hl 1 rfl) ?_
    refine xa_ist hx hb hkb hH hS 1 rfl (by omega) (by omega) dX12_codes_25 (fun H locs hH hS => ?_)
    have hH : HT D cs A T (a0 :: y4 :: O) ((a0, .inr (12, o0 :: o1 :: o2 :: (.ref y3) :: (.ref y4) :: o5 :: (.int y6) :: (.int y7) :: (.int y8) :: (.int y9) :: (.int y10) :: (.int y11) :: (.int y12) :: tl)) :: (y4, .inl (cs.2.1, 1302, .inl (upd f4 (v23.toInt.toNat) x1))) :: X) H := hH
    obtain ⟨F25, eF25⟩ : ∃ f9, f9 = upd f4 (v23.toInt.toNat) x1 := ⟨_, rfl⟩
    have hH : HT D cs A T (a0 :: y4 :: O) ((a0, .inr (12, o0 :: o1 :: o2 :: (.ref y3) :: (.ref y4) :: o5 :: (.int y6) :: (.int y7) :: (.int y8) :: (.int y9) :: (.int y10) :: (.int y11) :: (.int y12) :: tl)) :: (y4, .inl (cs.2.1, 1302, .inl F25)) :: X) H := eF25 ▸ hH
    refine lv_aload_n hx hb dX12_codes_26 rfl (lv_at hl 0 rfl) ?_
    refine x_getk (ci := 12) (C := RX12) (F := TX12) (N := 36) (v := .ref y4) hx hb hts uX12 hown hkb hH 0 rfl rfl 4 (by decide) rfl kw_1227 (fun _ h9 => h9) dX12_codes_27 ?_
    refine lv_sipush (v := 401) hx hb dX12_codes_30 (by decide) ?_
    refine lv_dup2_11 hx hb dX12_codes_33 rfl rfl ?_
    refine xa_ild hx hb hkb hH 1 rfl (by decide) (by decide) dX12_codes_34 ?_
    refine lv_topi (fun v34 ev34 => ?_)
    have tv34 : v34 = F25 401 := by rw [ev34]; rfl
    have hq9 : v34 = v22 := by rw [tv34, eF25, upd_ne (by omega), ← tv22]
    have hq8 : v34.toInt = v22.toInt := by rw [hq9]
    refine lv_iconst (v := 1) hx hb dX12_codes_35 (by decide) ?_
    refine lv_iadd hx hb dX12_codes_36 ?_
    refine lv_topi (fun v36 ev36 => ?_)
    have tv36 : v36.toInt = v34.toInt + (1) := by rw [ev36]; exact add_i rfl (by decide : (1 : Int32).toInt = 1) (by omega) (by omega)
    refine xa_ist hx hb hkb hH hS 1 rfl (by decide) (by decide) dX12_codes_37 (fun H locs hH hS => ?_)
    have hH : HT D cs A T (a0 :: y4 :: O) ((a0, .inr (12, o0 :: o1 :: o2 :: (.ref y3) :: (.ref y4) :: o5 :: (.int y6) :: (.int y7) :: (.int y8) :: (.int y9) :: (.int y10) :: (.int y11) :: (.int y12) :: tl)) :: (y4, .inl (cs.2.1, 1302, .inl (upd F25 (401) v36))) :: X) H := hH
    obtain ⟨F37, eF37⟩ : ∃ f9, f9 = upd F25 (401) v36 := ⟨_, rfl⟩
    have hH : HT D cs A T (a0 :: y4 :: O) ((a0, .inr (12, o0 :: o1 :: o2 :: (.ref y3) :: (.ref y4) :: o5 :: (.int y6) :: (.int y7) :: (.int y8) :: (.int y9) :: (.int y10) :: (.int y11) :: (.int y12) :: tl)) :: (y4, .inl (cs.2.1, 1302, .inl F37)) :: X) H := eF37 ▸ hH
    have hc9 := codes_end s_f4 tv22 tv23 eF25 tv34 tv36 eF37 (by omega) (fun _ => ⟨by omega, fun q => absurd (show x1.toInt = 3008 by omega) q⟩)
    have hc8 := hc9.2.1
    have hc7 := dp_N (by omega) hc9.2.2
    have s_F37 := hc9.1
    exact te_v hx hb hr hlocks hH hS (⟨F37, rfl, s_F37, (fun _ => ⟨by omega, by omega⟩)⟩) dX12_codes_38
  · skip
    have tc4 := f_ne (k := 0) (by decide) c4
    exact te_v hx hb hr hlocks hH hS (⟨f4, rfl, s_f4, (fun q => absurd q tc4)⟩) dX12_codes_7
set_option maxHeartbeats 4000000 in
set_option maxRecDepth 100000 in
theorem s_M_codesO (l : Launch) (D : va_G) (cs : CS) (kf : KF) (T : TF) (O : List Nat) (X : va_W) (a0 hg mq : Nat) (x1 : Int32) (o0 : Value) (o1 : Value) (o2 : Value) (y3 : Nat) (y4 : Nat) (o5 : Value) (y6 : Int32) (y7 : Int32) (y8 : Int32) (y9 : Int32) (y10 : Int32) (y11 : Int32) (y12 : Int32) (tl : List Value) (f4 : Nat → Int32) (t_a0 : T a0 = some (22, hg, mq)) (b_hg : hg < 90) (l_x1 : 3000 ≤ x1.toInt) (u_x1 : x1.toInt ≤ 3007) (t_y3 : T y3 = some (1, 900, 0)) (t_y4 : T y4 = some (8, 1302, 0)) (l_y6 : 0 ≤ y6.toInt) (u_y6 : y6.toInt ≤ 900) (l_y7 : 0 ≤ y7.toInt) (u_y7 : y7.toInt ≤ 900) (l_y8 : 0 ≤ y8.toInt) (u_y8 : y8.toInt ≤ 900) (l_y10 : 0 ≤ y10.toInt) (u_y10 : y10.toInt ≤ 999) (s_f4 : S8 f4) (hN : CP y11 f4 2) (hO : okO T (a0 :: y4 :: O) []) : TK l D cs kf yX12_codes cX12_codes 2 none { frames := 0, cells := 0, slots := 0, locals := 0 } [.ref a0, .int x1] T (a0 :: y4 :: O) ((a0, .inr (12, o0 :: o1 :: o2 :: (.ref y3) :: (.ref y4) :: o5 :: (.int y6) :: (.int y7) :: (.int y8) :: (.int y9) :: (.int y10) :: (.int y11) :: (.int y12) :: tl)) :: (y4, .inl (cs.2.1, 1302, .inl f4)) :: X) (Tv D cs (fun u => ∃ (G1 : Nat → Int32), u = (T, a0 :: y4 :: O, (a0, .inr (12, o0 :: o1 :: o2 :: (.ref y3) :: (.ref y4) :: o5 :: (.int y6) :: (.int y7) :: (.int y8) :: (.int y9) :: (.int y10) :: (.int y11) :: (.int y12) :: tl)) :: (y4, .inl (cs.2.1, 1302, .inl G1)) :: X) ∧ (S8 G1) ∧ (CN y11 f4 G1 (-1)))) := by
  refine tk_of (by decide) (Nat.le_of_ble_eq_true rfl) (fun p e s m below meth c ls A H locs hx hb hr hml hown hts hlocks hnm hkb hH hS hA hOX hks hE hl => ?_)
  have hown : s.vm.findClass RX12 = some m.cls := hown
  have hl : lv_has ls 2 [(0, .ref a0), (1, .int x1)] := hl
  have hOXf := hOX
  refine lv_aload_n hx hb dX12_codes_0 rfl (lv_at hl 0 rfl) ?_
  refine x_getk (ci := 12) (C := RX12) (F := TX12) (N := 36) (v := .int y11) hx hb hts uX12 hown hkb hH 0 rfl rfl 11 (by decide) rfl kw_1234 (fun _ h9 => h9) dX12_codes_1 ?_
  refine lv_if_eq (tgt := 8) hx hb dX12_codes_4 (by decide) (fun c4 => ?_) (fun c4 => ?_)
  · skip
    have tc4 := f_eq (k := 0) (by decide) c4
    have hN9 := hN (by omega)
    refine lv_aload_n hx hb dX12_codes_8 rfl (lv_at hl 0 rfl) ?_
    refine x_getk (ci := 12) (C := RX12) (F := TX12) (N := 36) (v := .ref y4) hx hb hts uX12 hown hkb hH 0 rfl rfl 4 (by decide) rfl kw_1227 (fun _ h9 => h9) dX12_codes_9 ?_
    refine lv_sipush (v := 402) hx hb dX12_codes_12 (by decide) ?_
    refine lv_aload_n hx hb dX12_codes_15 rfl (lv_at hl 0 rfl) ?_
    refine x_getk (ci := 12) (C := RX12) (F := TX12) (N := 36) (v := .ref y4) hx hb hts uX12 hown hkb hH 0 rfl rfl 4 (by decide) rfl kw_1227 (fun _ h9 => h9) dX12_codes_16 ?_
    refine lv_sipush (v := 401) hx hb dX12_codes_19 (by decide) ?_
    refine xa_ild hx hb hkb hH 1 rfl (by decide) (by decide) dX12_codes_22 ?_
    refine lv_topi (fun v22 ev22 => ?_)
    have tv22 : v22 = f4 401 := by rw [ev22]; rfl
    have hn9 : v22.toInt = ncd f4 := by rw [tv22]; rfl
    have bn9 := s_f4.2.2.2.2.2.2.1
    rw [← tv22] at bn9
    refine lv_iadd hx hb dX12_codes_23 ?_
    refine lv_topi (fun v23 ev23 => ?_)
    have tv23 : v23.toInt = (402) + v22.toInt := by rw [ev23]; exact add_i (by decide : (402 : Int32).toInt = 402) rfl (by omega) (by omega)
    refine lv_iload_n hx hb dX12_codes_24 rfl (lv_at hl 1 rfl) ?_
    refine xa_ist hx hb hkb hH hS 1 rfl (by omega) (by omega) dX12_codes_25 (fun H locs hH hS => ?_)
    have hH : HT D cs A T (a0 :: y4 :: O) ((a0, .inr (12, o0 :: o1 :: o2 :: (.ref y3) :: (.ref y4) :: o5 :: (.int y6) :: (.int y7) :: (.int y8) :: (.int y9) :: (.int y10) :: (.int y11) :: (.int y12) :: tl)) :: (y4, .inl (cs.2.1, 1302, .inl (upd f4 (v23.toInt.toNat) x1))) :: X) H := hH
    obtain ⟨F25, eF25⟩ : ∃ f9, f9 = upd f4 (v23.toInt.toNat) x1 := ⟨_, rfl⟩
    have hH : HT D cs A T (a0 :: y4 :: O) ((a0, .inr (12, o0 :: o1 :: o2 :: (.ref y3) :: (.ref y4) :: o5 :: (.int y6) :: (.int y7) :: (.int y8) :: (.int y9) :: (.int y10) :: (.int y11) :: (.int y12) :: tl)) :: (y4, .inl (cs.2.1, 1302, .inl F25)) :: X) H := eF25 ▸ hH
    refine lv_aload_n hx hb dX12_codes_26 rfl (lv_at hl 0 rfl) ?_
    refine x_getk (ci := 12) (C := RX12) (F := TX12) (N := 36) (v := .ref y4) hx hb hts uX12 hown hkb hH 0 rfl rfl 4 (by decide) rfl kw_1227 (fun _ h9 => h9) dX12_codes_27 ?_
    refine lv_sipush (v := 401) hx hb dX12_codes_30 (by decide) ?_
    refine lv_dup2_11 hx hb dX12_codes_33 rfl rfl ?_
    refine xa_ild hx hb hkb hH 1 rfl (by decide) (by decide) dX12_codes_34 ?_
    refine lv_topi (fun v34 ev34 => ?_)
    have tv34 : v34 = F25 401 := by rw [ev34]; rfl
    have hq9 : v34 = v22 := by rw [tv34, eF25, upd_ne (by omega), ← tv22]
    have hq8 : v34.toInt = v22.toInt := by rw [hq9]
    refine lv_iconst (v := 1) hx hb dX12_codes_35 (by decide) ?_
    refine lv_iadd hx hb dX12_codes_36 ?_
    refine lv_topi (fun v36 ev36 => ?_)
    have tv36 : v36.toInt = v34.toInt + (1) := by rw [ev36]; exact add_i rfl (by decide : (1 : Int32).toInt = 1) (by omega) (by omega)
    refine xa_ist hx hb hkb hH hS 1 rfl (by decide) (by decide) dX12_codes_37 (fun H locs hH hS => ?_)
    have hH : HT D cs A T (a0 :: y4 :: O) ((a0, .inr (12, o0 :: o1 :: o2 :: (.ref y3) :: (.ref y4) :: o5 :: (.int y6) :: (.int y7) :: (.int y8) :: (.int y9) :: (.int y10) :: (.int y11) :: (.int y12) :: tl)) :: (y4, .inl (cs.2.1, 1302, .inl (upd F25 (401) v36))) :: X) H := hH
    obtain ⟨F37, eF37⟩ : ∃ f9, f9 = upd F25 (401) v36 := ⟨_, rfl⟩
    have hH : HT D cs A T (a0 :: y4 :: O) ((a0, .inr (12, o0 :: o1 :: o2 :: (.ref y3) :: (.ref y4) :: o5 :: (.int y6) :: (.int y7) :: (.int y8) :: (.int y9) :: (.int y10) :: (.int y11) :: (.int y12) :: tl)) :: (y4, .inl (cs.2.1, 1302, .inl F37)) :: X) H := eF37 ▸ hH
    have hc9 := codes_end s_f4 tv22 tv23 eF25 tv34 tv36 eF37 (by omega) (fun _ => ⟨by omega, fun _ => by omega⟩)
    have hc8 := hc9.2.1
    have hc7 := dp_O (by omega) (by omega) hc9.2.2
    have s_F37 := hc9.1
    exact te_v hx hb hr hlocks hH hS (⟨F37, rfl, s_F37, (fun _ => ⟨by omega, by omega⟩)⟩) dX12_codes_38
  · skip
    have tc4 := f_ne (k := 0) (by decide) c4
    exact te_v hx hb hr hlocks hH hS (⟨f4, rfl, s_f4, (fun q => absurd q tc4)⟩) dX12_codes_7
theorem dX12_readAtom_0 : decode cX12_readAtom 0 = .ok (.aload_n 0, 1) := by decide +kernel
theorem dX12_readAtom_1 : decode cX12_readAtom 1 = .ok (.bipush 21, 2) := by decide +kernel
theorem dX12_readAtom_3 : decode cX12_readAtom 3 = .ok (.invokevirtual 134, 3) := by decide +kernel
theorem dX12_readAtom_6 : decode cX12_readAtom 6 = .ok (.ifCond .eq 18, 3) := by decide +kernel
theorem dX12_readAtom_9 : decode cX12_readAtom 9 = .ok (.aload_n 0, 1) := by decide +kernel
theorem dX12_readAtom_10 : decode cX12_readAtom 10 = .ok (.aload_n 0, 1) := by decide +kernel
theorem dX12_readAtom_11 : decode cX12_readAtom 11 = .ok (.getfield 123, 3) := by decide +kernel
theorem dX12_readAtom_14 : decode cX12_readAtom 14 = .ok (.invokevirtual 148, 3) := by decide +kernel
theorem dX12_readAtom_17 : decode cX12_readAtom 17 = .ok (.aload_n 0, 1) := by decide +kernel
theorem dX12_readAtom_18 : decode cX12_readAtom 18 = .ok (.invokevirtual 137, 3) := by decide +kernel
theorem dX12_readAtom_21 : decode cX12_readAtom 21 = .ok (.goto 170, 3) := by decide +kernel
theorem dX12_readAtom_24 : decode cX12_readAtom 24 = .ok (.aload_n 0, 1) := by decide +kernel
theorem dX12_readAtom_25 : decode cX12_readAtom 25 = .ok (.getfield 128, 3) := by decide +kernel
theorem dX12_readAtom_28 : decode cX12_readAtom 28 = .ok (.ifCond .ne 42, 3) := by decide +kernel
theorem dX12_readAtom_31 : decode cX12_readAtom 31 = .ok (.aload_n 0, 1) := by decide +kernel
theorem dX12_readAtom_32 : decode cX12_readAtom 32 = .ok (.getfield 110, 3) := by decide +kernel
theorem dX12_readAtom_35 : decode cX12_readAtom 35 = .ok (.i2l, 1) := by decide +kernel
theorem dX12_readAtom_36 : decode cX12_readAtom 36 = .ok (.ldc2_w 151, 3) := by decide +kernel
theorem dX12_readAtom_39 : decode cX12_readAtom 39 = .ok (.ldc2_w 153, 3) := by decide +kernel
theorem dX12_readAtom_42 : decode cX12_readAtom 42 = .ok (.invokestatic 144, 3) := by decide +kernel
theorem dX12_readAtom_45 : decode cX12_readAtom 45 = .ok (.ifCond .eq 25, 3) := by decide +kernel
theorem dX12_readAtom_48 : decode cX12_readAtom 48 = .ok (.aload_n 0, 1) := by decide +kernel
theorem dX12_readAtom_49 : decode cX12_readAtom 49 = .ok (.sipush 1000, 3) := by decide +kernel
theorem dX12_readAtom_52 : decode cX12_readAtom 52 = .ok (.aload_n 0, 1) := by decide +kernel
theorem dX12_readAtom_53 : decode cX12_readAtom 53 = .ok (.getfield 110, 3) := by decide +kernel
theorem dX12_readAtom_56 : decode cX12_readAtom 56 = .ok (.iadd, 1) := by decide +kernel
theorem dX12_readAtom_57 : decode cX12_readAtom 57 = .ok (.bipush 16, 2) := by decide +kernel
theorem dX12_readAtom_59 : decode cX12_readAtom 59 = .ok (.isub, 1) := by decide +kernel
theorem dX12_readAtom_60 : decode cX12_readAtom 60 = .ok (.invokevirtual 148, 3) := by decide +kernel
theorem dX12_readAtom_63 : decode cX12_readAtom 63 = .ok (.aload_n 0, 1) := by decide +kernel
theorem dX12_readAtom_64 : decode cX12_readAtom 64 = .ok (.invokevirtual 137, 3) := by decide +kernel
theorem dX12_readAtom_67 : decode cX12_readAtom 67 = .ok (.goto 124, 3) := by decide +kernel
theorem dX12_readAtom_70 : decode cX12_readAtom 70 = .ok (.aload_n 0, 1) := by decide +kernel
theorem dX12_readAtom_71 : decode cX12_readAtom 71 = .ok (.iconst 2, 1) := by decide +kernel
theorem dX12_readAtom_72 : decode cX12_readAtom 72 = .ok (.invokevirtual 155, 3) := by decide +kernel
theorem dX12_readAtom_75 : decode cX12_readAtom 75 = .ok (.ifCond .eq 13, 3) := by decide +kernel
theorem dX12_readAtom_78 : decode cX12_readAtom 78 = .ok (.aload_n 0, 1) := by decide +kernel
theorem dX12_readAtom_79 : decode cX12_readAtom 79 = .ok (.sipush 1003, 3) := by decide +kernel
theorem dX12_readAtom_82 : decode cX12_readAtom 82 = .ok (.invokevirtual 148, 3) := by decide +kernel
theorem dX12_readAtom_85 : decode cX12_readAtom 85 = .ok (.goto 106, 3) := by decide +kernel
theorem dX12_readAtom_88 : decode cX12_readAtom 88 = .ok (.aload_n 0, 1) := by decide +kernel
theorem dX12_readAtom_89 : decode cX12_readAtom 89 = .ok (.iconst 3, 1) := by decide +kernel
theorem dX12_readAtom_90 : decode cX12_readAtom 90 = .ok (.invokevirtual 155, 3) := by decide +kernel
theorem dX12_readAtom_93 : decode cX12_readAtom 93 = .ok (.ifCond .eq 13, 3) := by decide +kernel
theorem dX12_readAtom_96 : decode cX12_readAtom 96 = .ok (.aload_n 0, 1) := by decide +kernel
theorem dX12_readAtom_97 : decode cX12_readAtom 97 = .ok (.sipush 1004, 3) := by decide +kernel
theorem dX12_readAtom_100 : decode cX12_readAtom 100 = .ok (.invokevirtual 148, 3) := by decide +kernel
theorem dX12_readAtom_103 : decode cX12_readAtom 103 = .ok (.goto 88, 3) := by decide +kernel
theorem dX12_readAtom_106 : decode cX12_readAtom 106 = .ok (.aload_n 0, 1) := by decide +kernel
theorem dX12_readAtom_107 : decode cX12_readAtom 107 = .ok (.bipush 11, 2) := by decide +kernel
theorem dX12_readAtom_109 : decode cX12_readAtom 109 = .ok (.invokevirtual 155, 3) := by decide +kernel
theorem dX12_readAtom_112 : decode cX12_readAtom 112 = .ok (.ifCond .eq 13, 3) := by decide +kernel
theorem dX12_readAtom_115 : decode cX12_readAtom 115 = .ok (.aload_n 0, 1) := by decide +kernel
theorem dX12_readAtom_116 : decode cX12_readAtom 116 = .ok (.sipush 1005, 3) := by decide +kernel
theorem dX12_readAtom_119 : decode cX12_readAtom 119 = .ok (.invokevirtual 148, 3) := by decide +kernel
theorem dX12_readAtom_122 : decode cX12_readAtom 122 = .ok (.goto 69, 3) := by decide +kernel
theorem dX12_readAtom_125 : decode cX12_readAtom 125 = .ok (.aload_n 0, 1) := by decide +kernel
theorem dX12_readAtom_126 : decode cX12_readAtom 126 = .ok (.bipush 8, 2) := by decide +kernel
theorem dX12_readAtom_128 : decode cX12_readAtom 128 = .ok (.invokevirtual 155, 3) := by decide +kernel
theorem dX12_readAtom_131 : decode cX12_readAtom 131 = .ok (.ifCond .eq 13, 3) := by decide +kernel
theorem dX12_readAtom_134 : decode cX12_readAtom 134 = .ok (.aload_n 0, 1) := by decide +kernel
theorem dX12_readAtom_135 : decode cX12_readAtom 135 = .ok (.sipush 1006, 3) := by decide +kernel
theorem dX12_readAtom_138 : decode cX12_readAtom 138 = .ok (.invokevirtual 148, 3) := by decide +kernel
theorem dX12_readAtom_141 : decode cX12_readAtom 141 = .ok (.goto 50, 3) := by decide +kernel
theorem dX12_readAtom_144 : decode cX12_readAtom 144 = .ok (.aload_n 0, 1) := by decide +kernel
theorem dX12_readAtom_145 : decode cX12_readAtom 145 = .ok (.bipush 35, 2) := by decide +kernel
theorem dX12_readAtom_147 : decode cX12_readAtom 147 = .ok (.invokevirtual 134, 3) := by decide +kernel
theorem dX12_readAtom_150 : decode cX12_readAtom 150 = .ok (.ifCond .eq 36, 3) := by decide +kernel
theorem dX12_readAtom_153 : decode cX12_readAtom 153 = .ok (.aload_n 0, 1) := by decide +kernel
theorem dX12_readAtom_154 : decode cX12_readAtom 154 = .ok (.iload_n 1, 1) := by decide +kernel
theorem dX12_readAtom_155 : decode cX12_readAtom 155 = .ok (.invokevirtual 158, 3) := by decide +kernel
theorem dX12_readAtom_158 : decode cX12_readAtom 158 = .ok (.ifCond .ne 4, 3) := by decide +kernel
theorem dX12_readAtom_161 : decode cX12_readAtom 161 = .ok (.return_, 1) := by decide +kernel
theorem dX12_readAtom_186 : decode cX12_readAtom 186 = .ok (.aload_n 0, 1) := by decide +kernel
theorem dX12_readAtom_187 : decode cX12_readAtom 187 = .ok (.iconst 2, 1) := by decide +kernel
theorem dX12_readAtom_188 : decode cX12_readAtom 188 = .ok (.invokevirtual 140, 3) := by decide +kernel
theorem dX12_readAtom_191 : decode cX12_readAtom 191 = .ok (.return_, 1) := by decide +kernel
theorem dX12_readBoth_0 : decode cX12_readBoth 0 = .ok (.aload_n 0, 1) := by decide +kernel
theorem dX12_readBoth_1 : decode cX12_readBoth 1 = .ok (.iload_n 1, 1) := by decide +kernel
theorem dX12_readBoth_2 : decode cX12_readBoth 2 = .ok (.invokevirtual 170, 3) := by decide +kernel
theorem dX12_readBoth_5 : decode cX12_readBoth 5 = .ok (.aload_n 0, 1) := by decide +kernel
theorem dX12_readBoth_6 : decode cX12_readBoth 6 = .ok (.bipush 14, 2) := by decide +kernel
theorem dX12_readBoth_8 : decode cX12_readBoth 8 = .ok (.invokevirtual 155, 3) := by decide +kernel
theorem dX12_readBoth_11 : decode cX12_readBoth 11 = .ok (.ifCond .eq 18, 3) := by decide +kernel
theorem dX12_readBoth_14 : decode cX12_readBoth 14 = .ok (.aload_n 0, 1) := by decide +kernel
theorem dX12_readBoth_15 : decode cX12_readBoth 15 = .ok (.iload_n 1, 1) := by decide +kernel
theorem dX12_readBoth_16 : decode cX12_readBoth 16 = .ok (.invokevirtual 170, 3) := by decide +kernel
theorem dX12_readBoth_19 : decode cX12_readBoth 19 = .ok (.aload_n 0, 1) := by decide +kernel
theorem dX12_readBoth_20 : decode cX12_readBoth 20 = .ok (.sipush 3006, 3) := by decide +kernel
theorem dX12_readBoth_23 : decode cX12_readBoth 23 = .ok (.invokevirtual 148, 3) := by decide +kernel
theorem dX12_readBoth_26 : decode cX12_readBoth 26 = .ok (.goto (-21), 3) := by decide +kernel
theorem dX12_readBoth_29 : decode cX12_readBoth 29 = .ok (.return_, 1) := by decide +kernel
theorem dX12_readSum_0 : decode cX12_readSum 0 = .ok (.aload_n 0, 1) := by decide +kernel
theorem dX12_readSum_1 : decode cX12_readSum 1 = .ok (.iload_n 1, 1) := by decide +kernel
theorem dX12_readSum_2 : decode cX12_readSum 2 = .ok (.invokevirtual 167, 3) := by decide +kernel
theorem dX12_readSum_5 : decode cX12_readSum 5 = .ok (.aload_n 0, 1) := by decide +kernel
theorem dX12_readSum_6 : decode cX12_readSum 6 = .ok (.bipush 32, 2) := by decide +kernel
theorem dX12_readSum_8 : decode cX12_readSum 8 = .ok (.invokevirtual 134, 3) := by decide +kernel
theorem dX12_readSum_11 : decode cX12_readSum 11 = .ok (.ifCond .ne 12, 3) := by decide +kernel
theorem dX12_readSum_14 : decode cX12_readSum 14 = .ok (.aload_n 0, 1) := by decide +kernel
theorem dX12_readSum_15 : decode cX12_readSum 15 = .ok (.bipush 33, 2) := by decide +kernel
theorem dX12_readSum_17 : decode cX12_readSum 17 = .ok (.invokevirtual 134, 3) := by decide +kernel
theorem dX12_readSum_20 : decode cX12_readSum 20 = .ok (.ifCond .eq 39, 3) := by decide +kernel
theorem dX12_readSum_23 : decode cX12_readSum 23 = .ok (.aload_n 0, 1) := by decide +kernel
theorem dX12_readSum_24 : decode cX12_readSum 24 = .ok (.getfield 110, 3) := by decide +kernel
theorem dX12_readSum_27 : decode cX12_readSum 27 = .ok (.bipush 32, 2) := by decide +kernel
theorem dX12_readSum_29 : decode cX12_readSum 29 = .ok (.if_icmp .ne 9, 3) := by decide +kernel
theorem dX12_readSum_32 : decode cX12_readSum 32 = .ok (.sipush 3000, 3) := by decide +kernel
theorem dX12_readSum_35 : decode cX12_readSum 35 = .ok (.goto 6, 3) := by decide +kernel
theorem dX12_readSum_38 : decode cX12_readSum 38 = .ok (.sipush 3001, 3) := by decide +kernel
theorem dX12_readSum_41 : decode cX12_readSum 41 = .ok (.istore_n 2, 1) := by decide +kernel
theorem dX12_readSum_42 : decode cX12_readSum 42 = .ok (.aload_n 0, 1) := by decide +kernel
theorem dX12_readSum_43 : decode cX12_readSum 43 = .ok (.invokevirtual 137, 3) := by decide +kernel
theorem dX12_readSum_46 : decode cX12_readSum 46 = .ok (.aload_n 0, 1) := by decide +kernel
theorem dX12_readSum_47 : decode cX12_readSum 47 = .ok (.iload_n 1, 1) := by decide +kernel
theorem dX12_readSum_48 : decode cX12_readSum 48 = .ok (.invokevirtual 167, 3) := by decide +kernel
theorem dX12_readSum_51 : decode cX12_readSum 51 = .ok (.aload_n 0, 1) := by decide +kernel
theorem dX12_readSum_52 : decode cX12_readSum 52 = .ok (.iload_n 2, 1) := by decide +kernel
theorem dX12_readSum_53 : decode cX12_readSum 53 = .ok (.invokevirtual 148, 3) := by decide +kernel
theorem dX12_readSum_56 : decode cX12_readSum 56 = .ok (.goto (-51), 3) := by decide +kernel
theorem dX12_readSum_59 : decode cX12_readSum 59 = .ok (.return_, 1) := by decide +kernel
theorem dX12_readTerm_0 : decode cX12_readTerm 0 = .ok (.aload_n 0, 1) := by decide +kernel
theorem dX12_readTerm_1 : decode cX12_readTerm 1 = .ok (.iload_n 1, 1) := by decide +kernel
theorem dX12_readTerm_2 : decode cX12_readTerm 2 = .ok (.invokevirtual 164, 3) := by decide +kernel
theorem dX12_readTerm_5 : decode cX12_readTerm 5 = .ok (.aload_n 0, 1) := by decide +kernel
theorem dX12_readTerm_6 : decode cX12_readTerm 6 = .ok (.bipush 34, 2) := by decide +kernel
theorem dX12_readTerm_8 : decode cX12_readTerm 8 = .ok (.invokevirtual 155, 3) := by decide +kernel
theorem dX12_readTerm_11 : decode cX12_readTerm 11 = .ok (.ifCond .eq 18, 3) := by decide +kernel
theorem dX12_readTerm_14 : decode cX12_readTerm 14 = .ok (.aload_n 0, 1) := by decide +kernel
theorem dX12_readTerm_15 : decode cX12_readTerm 15 = .ok (.iload_n 1, 1) := by decide +kernel
theorem dX12_readTerm_16 : decode cX12_readTerm 16 = .ok (.invokevirtual 164, 3) := by decide +kernel
theorem dX12_readTerm_19 : decode cX12_readTerm 19 = .ok (.aload_n 0, 1) := by decide +kernel
theorem dX12_readTerm_20 : decode cX12_readTerm 20 = .ok (.sipush 3002, 3) := by decide +kernel
theorem dX12_readTerm_23 : decode cX12_readTerm 23 = .ok (.invokevirtual 148, 3) := by decide +kernel
theorem dX12_readTerm_26 : decode cX12_readTerm 26 = .ok (.goto (-21), 3) := by decide +kernel
theorem dX12_readTerm_29 : decode cX12_readTerm 29 = .ok (.return_, 1) := by decide +kernel
theorem dX12_readTruth_0 : decode cX12_readTruth 0 = .ok (.aload_n 0, 1) := by decide +kernel
theorem dX12_readTruth_1 : decode cX12_readTruth 1 = .ok (.iload_n 1, 1) := by decide +kernel
theorem dX12_readTruth_2 : decode cX12_readTruth 2 = .ok (.invokevirtual 176, 3) := by decide +kernel
theorem dX12_readTruth_5 : decode cX12_readTruth 5 = .ok (.aload_n 0, 1) := by decide +kernel
theorem dX12_readTruth_6 : decode cX12_readTruth 6 = .ok (.bipush 13, 2) := by decide +kernel
theorem dX12_readTruth_8 : decode cX12_readTruth 8 = .ok (.invokevirtual 155, 3) := by decide +kernel
theorem dX12_readTruth_11 : decode cX12_readTruth 11 = .ok (.ifCond .eq 18, 3) := by decide +kernel
theorem dX12_readTruth_14 : decode cX12_readTruth 14 = .ok (.aload_n 0, 1) := by decide +kernel
theorem dX12_readTruth_15 : decode cX12_readTruth 15 = .ok (.iload_n 1, 1) := by decide +kernel
theorem dX12_readTruth_16 : decode cX12_readTruth 16 = .ok (.invokevirtual 176, 3) := by decide +kernel
theorem dX12_readTruth_19 : decode cX12_readTruth 19 = .ok (.aload_n 0, 1) := by decide +kernel
theorem dX12_readTruth_20 : decode cX12_readTruth 20 = .ok (.sipush 3007, 3) := by decide +kernel
theorem dX12_readTruth_23 : decode cX12_readTruth 23 = .ok (.invokevirtual 148, 3) := by decide +kernel
theorem dX12_readTruth_26 : decode cX12_readTruth 26 = .ok (.goto (-21), 3) := by decide +kernel
theorem dX12_readTruth_29 : decode cX12_readTruth 29 = .ok (.return_, 1) := by decide +kernel
theorem dX12_readUnit_0 : decode cX12_readUnit 0 = .ok (.aload_n 0, 1) := by decide +kernel
theorem dX12_readUnit_1 : decode cX12_readUnit 1 = .ok (.bipush 15, 2) := by decide +kernel
theorem dX12_readUnit_3 : decode cX12_readUnit 3 = .ok (.invokevirtual 134, 3) := by decide +kernel
theorem dX12_readUnit_6 : decode cX12_readUnit 6 = .ok (.ifCond .eq 27, 3) := by decide +kernel
theorem dX12_readUnit_9 : decode cX12_readUnit 9 = .ok (.aload_n 0, 1) := by decide +kernel
theorem dX12_readUnit_10 : decode cX12_readUnit 10 = .ok (.iload_n 1, 1) := by decide +kernel
theorem dX12_readUnit_11 : decode cX12_readUnit 11 = .ok (.invokevirtual 158, 3) := by decide +kernel
theorem dX12_readUnit_14 : decode cX12_readUnit 14 = .ok (.ifCond .ne 4, 3) := by decide +kernel
theorem dX12_readUnit_17 : decode cX12_readUnit 17 = .ok (.return_, 1) := by decide +kernel
theorem dX12_readUnit_33 : decode cX12_readUnit 33 = .ok (.aload_n 0, 1) := by decide +kernel
theorem dX12_readUnit_34 : decode cX12_readUnit 34 = .ok (.bipush 37, 2) := by decide +kernel
theorem dX12_readUnit_36 : decode cX12_readUnit 36 = .ok (.invokevirtual 134, 3) := by decide +kernel
theorem dX12_readUnit_39 : decode cX12_readUnit 39 = .ok (.ifCond .eq 34, 3) := by decide +kernel
theorem dX12_readUnit_42 : decode cX12_readUnit 42 = .ok (.aload_n 0, 1) := by decide +kernel
theorem dX12_readUnit_43 : decode cX12_readUnit 43 = .ok (.iload_n 1, 1) := by decide +kernel
theorem dX12_readUnit_44 : decode cX12_readUnit 44 = .ok (.invokevirtual 158, 3) := by decide +kernel
theorem dX12_readUnit_47 : decode cX12_readUnit 47 = .ok (.ifCond .ne 4, 3) := by decide +kernel
theorem dX12_readUnit_50 : decode cX12_readUnit 50 = .ok (.return_, 1) := by decide +kernel
theorem dX12_readUnit_73 : decode cX12_readUnit 73 = .ok (.aload_n 0, 1) := by decide +kernel
theorem dX12_readUnit_74 : decode cX12_readUnit 74 = .ok (.iload_n 1, 1) := by decide +kernel
theorem dX12_readUnit_75 : decode cX12_readUnit 75 = .ok (.invokevirtual 161, 3) := by decide +kernel
theorem dX12_readUnit_78 : decode cX12_readUnit 78 = .ok (.aload_n 0, 1) := by decide +kernel
theorem dX12_readUnit_79 : decode cX12_readUnit 79 = .ok (.bipush 39, 2) := by decide +kernel
theorem dX12_readUnit_81 : decode cX12_readUnit 81 = .ok (.invokevirtual 134, 3) := by decide +kernel
theorem dX12_readUnit_84 : decode cX12_readUnit 84 = .ok (.ifCond .eq 9, 3) := by decide +kernel
theorem dX12_readUnit_87 : decode cX12_readUnit 87 = .ok (.sipush 3003, 3) := by decide +kernel
theorem dX12_readUnit_90 : decode cX12_readUnit 90 = .ok (.goto 21, 3) := by decide +kernel
theorem dX12_readUnit_93 : decode cX12_readUnit 93 = .ok (.aload_n 0, 1) := by decide +kernel
theorem dX12_readUnit_94 : decode cX12_readUnit 94 = .ok (.bipush 40, 2) := by decide +kernel
theorem dX12_readUnit_96 : decode cX12_readUnit 96 = .ok (.invokevirtual 134, 3) := by decide +kernel
theorem dX12_readUnit_99 : decode cX12_readUnit 99 = .ok (.ifCond .eq 9, 3) := by decide +kernel
theorem dX12_readUnit_102 : decode cX12_readUnit 102 = .ok (.sipush 3004, 3) := by decide +kernel
theorem dX12_readUnit_105 : decode cX12_readUnit 105 = .ok (.goto 6, 3) := by decide +kernel
theorem dX12_readUnit_108 : decode cX12_readUnit 108 = .ok (.sipush 3005, 3) := by decide +kernel
theorem dX12_readUnit_111 : decode cX12_readUnit 111 = .ok (.istore_n 2, 1) := by decide +kernel
theorem dX12_readUnit_112 : decode cX12_readUnit 112 = .ok (.aload_n 0, 1) := by decide +kernel
theorem dX12_readUnit_113 : decode cX12_readUnit 113 = .ok (.bipush 39, 2) := by decide +kernel
theorem dX12_readUnit_115 : decode cX12_readUnit 115 = .ok (.invokevirtual 134, 3) := by decide +kernel
theorem dX12_readUnit_118 : decode cX12_readUnit 118 = .ok (.ifCond .ne 21, 3) := by decide +kernel
theorem dX12_readUnit_121 : decode cX12_readUnit 121 = .ok (.aload_n 0, 1) := by decide +kernel
theorem dX12_readUnit_122 : decode cX12_readUnit 122 = .ok (.bipush 40, 2) := by decide +kernel
theorem dX12_readUnit_124 : decode cX12_readUnit 124 = .ok (.invokevirtual 134, 3) := by decide +kernel
theorem dX12_readUnit_127 : decode cX12_readUnit 127 = .ok (.ifCond .ne 12, 3) := by decide +kernel
theorem dX12_readUnit_130 : decode cX12_readUnit 130 = .ok (.aload_n 0, 1) := by decide +kernel
theorem dX12_readUnit_131 : decode cX12_readUnit 131 = .ok (.bipush 41, 2) := by decide +kernel
theorem dX12_readUnit_133 : decode cX12_readUnit 133 = .ok (.invokevirtual 134, 3) := by decide +kernel
theorem dX12_readUnit_136 : decode cX12_readUnit 136 = .ok (.ifCond .eq 10, 3) := by decide +kernel
theorem dX12_readUnit_139 : decode cX12_readUnit 139 = .ok (.aload_n 0, 1) := by decide +kernel
theorem dX12_readUnit_140 : decode cX12_readUnit 140 = .ok (.invokevirtual 137, 3) := by decide +kernel
theorem dX12_readUnit_143 : decode cX12_readUnit 143 = .ok (.goto 8, 3) := by decide +kernel
theorem dX12_readUnit_146 : decode cX12_readUnit 146 = .ok (.aload_n 0, 1) := by decide +kernel
theorem dX12_readUnit_147 : decode cX12_readUnit 147 = .ok (.iconst 2, 1) := by decide +kernel
theorem dX12_readUnit_148 : decode cX12_readUnit 148 = .ok (.invokevirtual 140, 3) := by decide +kernel
theorem dX12_readUnit_151 : decode cX12_readUnit 151 = .ok (.aload_n 0, 1) := by decide +kernel
theorem dX12_readUnit_152 : decode cX12_readUnit 152 = .ok (.iload_n 1, 1) := by decide +kernel
theorem dX12_readUnit_153 : decode cX12_readUnit 153 = .ok (.invokevirtual 161, 3) := by decide +kernel
theorem dX12_readUnit_156 : decode cX12_readUnit 156 = .ok (.aload_n 0, 1) := by decide +kernel
theorem dX12_readUnit_157 : decode cX12_readUnit 157 = .ok (.iload_n 2, 1) := by decide +kernel
theorem dX12_readUnit_158 : decode cX12_readUnit 158 = .ok (.invokevirtual 148, 3) := by decide +kernel
theorem dX12_readUnit_161 : decode cX12_readUnit 161 = .ok (.return_, 1) := by decide +kernel
theorem kw_1390 : Cond.methodLink "FootholdWallModel" 155 yX12_eats ∈ gw := gw_of (tb_of 1390 (by decide +kernel)) (by decide +kernel)
theorem kw_1392 : Cond.instanceMethod yX12_eats ∈ gw := gw_of (tb_of 1392 (by decide +kernel)) (by decide +kernel)
theorem kw_1393 : Cond.code yX12_eats cX12_eats 2 (some (.boolean)) ∈ gw := gw_of (tb_of 1393 (by decide +kernel)) (by decide +kernel)
theorem kw_1406 : Cond.methodLink "FootholdWallModel" 176 yX12_readBoth ∈ gw := gw_of (tb_of 1406 (by decide +kernel)) (by decide +kernel)
theorem kw_1408 : Cond.instanceMethod yX12_readBoth ∈ gw := gw_of (tb_of 1408 (by decide +kernel)) (by decide +kernel)
theorem kw_1409 : Cond.code yX12_readBoth cX12_readBoth 2 none ∈ gw := gw_of (tb_of 1409 (by decide +kernel)) (by decide +kernel)
theorem kw_1410 : Cond.methodLink "FootholdWallModel" 170 yX12_readUnit ∈ gw := gw_of (tb_of 1410 (by decide +kernel)) (by decide +kernel)
theorem kw_1412 : Cond.instanceMethod yX12_readUnit ∈ gw := gw_of (tb_of 1412 (by decide +kernel)) (by decide +kernel)
theorem kw_1413 : Cond.code yX12_readUnit cX12_readUnit 3 none ∈ gw := gw_of (tb_of 1413 (by decide +kernel)) (by decide +kernel)
theorem kw_1414 : Cond.methodLink "FootholdWallModel" 158 yX12_goesIn ∈ gw := gw_of (tb_of 1414 (by decide +kernel)) (by decide +kernel)
theorem kw_1416 : Cond.instanceMethod yX12_goesIn ∈ gw := gw_of (tb_of 1416 (by decide +kernel)) (by decide +kernel)
theorem kw_1417 : Cond.code yX12_goesIn cX12_goesIn 2 (some (.boolean)) ∈ gw := gw_of (tb_of 1417 (by decide +kernel)) (by decide +kernel)
theorem kw_1418 : Cond.methodLink "FootholdWallModel" 148 yX12_codes ∈ gw := gw_of (tb_of 1418 (by decide +kernel)) (by decide +kernel)
theorem kw_1420 : Cond.instanceMethod yX12_codes ∈ gw := gw_of (tb_of 1420 (by decide +kernel)) (by decide +kernel)
theorem kw_1421 : Cond.code yX12_codes cX12_codes 2 none ∈ gw := gw_of (tb_of 1421 (by decide +kernel)) (by decide +kernel)
theorem kw_1422 : Cond.methodLink "FootholdWallModel" 161 yX12_readSum ∈ gw := gw_of (tb_of 1422 (by decide +kernel)) (by decide +kernel)
theorem kw_1424 : Cond.instanceMethod yX12_readSum ∈ gw := gw_of (tb_of 1424 (by decide +kernel)) (by decide +kernel)
theorem kw_1425 : Cond.code yX12_readSum cX12_readSum 3 none ∈ gw := gw_of (tb_of 1425 (by decide +kernel)) (by decide +kernel)
theorem kw_1426 : Cond.methodLink "FootholdWallModel" 167 yX12_readTerm ∈ gw := gw_of (tb_of 1426 (by decide +kernel)) (by decide +kernel)
theorem kw_1428 : Cond.instanceMethod yX12_readTerm ∈ gw := gw_of (tb_of 1428 (by decide +kernel)) (by decide +kernel)
theorem kw_1429 : Cond.code yX12_readTerm cX12_readTerm 2 none ∈ gw := gw_of (tb_of 1429 (by decide +kernel)) (by decide +kernel)
theorem kw_1430 : Cond.methodLink "FootholdWallModel" 164 yX12_readAtom ∈ gw := gw_of (tb_of 1430 (by decide +kernel)) (by decide +kernel)
theorem kw_1432 : Cond.instanceMethod yX12_readAtom ∈ gw := gw_of (tb_of 1432 (by decide +kernel)) (by decide +kernel)
theorem kw_1433 : Cond.code yX12_readAtom cX12_readAtom 2 none ∈ gw := gw_of (tb_of 1433 (by decide +kernel)) (by decide +kernel)
theorem kw_1434 : Cond.constantLong "FootholdWallModel" 151 16 ∈ gw := gw_of (tb_of 1434 (by decide +kernel)) (by decide +kernel)
theorem kw_1435 : Cond.constantLong "FootholdWallModel" 153 18 ∈ gw := gw_of (tb_of 1435 (by decide +kernel)) (by decide +kernel)
theorem ks_52 : Cond.selects RX12 yX12_eats yX12_eats ∈ gw := gw_of (pv_of 52 (by decide +kernel)) (by decide +kernel)
theorem ks_56 : Cond.selects RX12 yX12_readBoth yX12_readBoth ∈ gw := gw_of (pv_of 56 (by decide +kernel)) (by decide +kernel)
theorem ks_57 : Cond.selects RX12 yX12_readUnit yX12_readUnit ∈ gw := gw_of (pv_of 57 (by decide +kernel)) (by decide +kernel)
theorem ks_58 : Cond.selects RX12 yX12_goesIn yX12_goesIn ∈ gw := gw_of (pv_of 58 (by decide +kernel)) (by decide +kernel)
theorem ks_59 : Cond.selects RX12 yX12_codes yX12_codes ∈ gw := gw_of (pv_of 59 (by decide +kernel)) (by decide +kernel)
theorem ks_60 : Cond.selects RX12 yX12_readSum yX12_readSum ∈ gw := gw_of (pv_of 60 (by decide +kernel)) (by decide +kernel)
theorem ks_61 : Cond.selects RX12 yX12_readTerm yX12_readTerm ∈ gw := gw_of (pv_of 61 (by decide +kernel)) (by decide +kernel)
theorem ks_62 : Cond.selects RX12 yX12_readAtom yX12_readAtom ∈ gw := gw_of (pv_of 62 (by decide +kernel)) (by decide +kernel)
set_option maxHeartbeats 4000000 in
set_option maxRecDepth 100000 in
theorem s_M_readAtom6 (l : Launch) (D : va_G) (cs : CS) (kf : KF) (T : TF) (O : List Nat) (X : va_W) (a0 hg mq : Nat) (x1 : Int32) (o0 : Value) (o1 : Value) (o2 : Value) (y3 : Nat) (y4 : Nat) (o5 : Value) (y6 : Int32) (y7 : Int32) (y8 : Int32) (y9 : Int32) (y10 : Int32) (y11 : Int32) (y12 : Int32) (tl : List Value) (f4 : Nat → Int32) (t_a0 : T a0 = some (22, hg, mq)) (b_hg : hg < 90) (l_x1 : 6 ≤ x1.toInt) (u_x1 : x1.toInt ≤ 6) (t_y3 : T y3 = some (1, 900, 0)) (t_y4 : T y4 = some (8, 1302, 0)) (l_y6 : 0 ≤ y6.toInt) (u_y6 : y6.toInt ≤ 900) (l_y7 : 0 ≤ y7.toInt) (u_y7 : y7.toInt ≤ 900) (l_y8 : 0 ≤ y8.toInt) (u_y8 : y8.toInt ≤ 900) (l_y10 : 0 ≤ y10.toInt) (u_y10 : y10.toInt ≤ 999) (s_f4 : S8 f4) (k1 : y6.toInt ≤ y7.toInt) (k2 : y7.toInt ≤ y8.toInt) (k3 : TK3 y9 y6 y7) (k4 : SL y11 f4 y6) (hO : okO T (a0 :: y4 :: O) [1]) : TK l D cs kf yX12_readAtom cX12_readAtom 2 none { frames := 7, cells := 0, slots := 0, locals := 150 } [.ref a0, .int x1] T (a0 :: y4 :: O) ((a0, .inr (12, o0 :: o1 :: o2 :: (.ref y3) :: (.ref y4) :: o5 :: (.int y6) :: (.int y7) :: (.int y8) :: (.int y9) :: (.int y10) :: (.int y11) :: (.int y12) :: tl)) :: (y4, .inl (cs.2.1, 1302, .inl f4)) :: X) (Tv D cs (fun u => ∃ (n0_6 : Int32) (n0_7 : Int32) (n0_9 : Int32) (n0_10 : Int32) (n0_11 : Int32) (n0_12 : Int32) (G1 : Nat → Int32), u = (T, a0 :: y4 :: O, (a0, .inr (12, o0 :: o1 :: o2 :: (.ref y3) :: (.ref y4) :: o5 :: (.int n0_6) :: (.int n0_7) :: (.int y8) :: (.int n0_9) :: (.int n0_10) :: (.int n0_11) :: (.int n0_12) :: tl)) :: (y4, .inl (cs.2.1, 1302, .inl G1)) :: X) ∧ (S8 G1) ∧ (y6.toInt ≤ n0_6.toInt) ∧ (n0_6.toInt ≤ n0_7.toInt) ∧ (n0_7.toInt ≤ y8.toInt) ∧ (TK3 n0_9 n0_6 n0_7) ∧ (0 ≤ n0_10.toInt) ∧ (n0_10.toInt ≤ 999) ∧ (RD f4 G1 y6 n0_6 y11 n0_11))) := by
  refine tk_of (by decide) (Nat.le_of_ble_eq_true rfl) (fun p e s m below meth c ls A H locs hx hb hr hml hown hts hlocks hnm hkb hH hS hA hOX hks hE hl => ?_)
  have hown : s.vm.findClass RX12 = some m.cls := hown
  have hl : lv_has ls 2 [(0, .ref a0), (1, .int x1)] := hl
  have hOXf := hOX
  have hd0 := dpt_nn s_f4
  refine lv_aload_n hx hb dX12_readAtom_0 rfl (lv_at hl 0 rfl) ?_
  refine lv_bipush (v := 21) hx hb dX12_readAtom_1 (by decide) ?_
  have z9_21 : (21 : Int32).toInt = 21 := by decide
  refine tk_i hH hS hA (tr_V (n := 1) (As := [.int 21]) hx hb hml hown hts hkb hH (ox_map hOX rfl) hks hE hS hA (s_M_is l D cs kf T (y4 :: O) ((y4, .inl (cs.2.1, 1302, .inl f4)) :: X) a0 hg mq (21) o0 o1 o2 y3 y4 o5 y6 y7 y8 y9 y10 y11 y12 tl t_a0 b_hg t_y3 t_y4 (by omega) (by omega) (by omega) (by omega) (by omega) (by omega) (by omega) (by omega) (hO.sub (by decide))) kw_1370 kw_1372 ks_47 kw_13 kw_1373 (by decide +kernel) ⟨Nat.le_of_ble_eq_true rfl, Nat.le_of_ble_eq_true rfl⟩ (x_recv (ci := 12) hkb hH 0 rfl rfl) rfl rfl hl.1 (Nat.le_of_ble_eq_true rfl) dX12_readAtom_3 ⟨Nat.le_of_ble_eq_true rfl, Nat.le_of_ble_eq_true rfl⟩) (fun v3 u H locs hz9 hH hS => ?_)
  obtain ⟨rfl, l_v3, u_v3, x_v30⟩ := hz9
  have hH : HT D cs A T (a0 :: y4 :: O) ((a0, .inr (12, o0 :: o1 :: o2 :: (.ref y3) :: (.ref y4) :: o5 :: (.int y6) :: (.int y7) :: (.int y8) :: (.int y9) :: (.int y10) :: (.int y11) :: (.int y12) :: tl)) :: (y4, .inl (cs.2.1, 1302, .inl f4)) :: X) H := hH
  refine W.widen (k := 0) (n := 0) (Nat.le_of_ble_eq_true rfl) (Nat.le_of_ble_eq_true rfl) ?_
  refine lv_if_eq (tgt := 24) hx hb dX12_readAtom_6 (by decide) (fun c6 => ?_) (fun c6 => ?_)
  · skip
    have tc6 := f_eq (k := 0) (by decide) c6
    clear x_v30
    refine lv_aload_n hx hb dX12_readAtom_24 rfl (lv_at hl 0 rfl) ?_
    refine x_getk (ci := 12) (C := RX12) (F := TX12) (N := 36) (v := .int y11) hx hb hts uX12 hown hkb hH 0 rfl rfl 11 (by decide) rfl kw_1234 (fun _ h9 => h9) dX12_readAtom_25 ?_
    have J70 : ∀  (H : Heap) (locs : List Loc) (ls : Array Slot), HT D cs A T (a0 :: y4 :: O) ((a0, .inr (12, o0 :: o1 :: o2 :: (.ref y3) :: (.ref y4) :: o5 :: (.int y6) :: (.int y7) :: (.int y8) :: (.int y9) :: (.int y10) :: (.int y11) :: (.int y12) :: tl)) :: (y4, .inl (cs.2.1, 1302, .inl f4)) :: X) H → va_S A s.heap H locs → lv_has ls 2 [(0, .ref a0), (1, .int x1)] → W p l e { frames := 7, cells := 0, slots := 0, locals := 150 } s m [.ref a0, .int x1].toArray below meth c H locs 0 0 (MQ below (Tv D cs (fun u => ∃ (n0_6 : Int32) (n0_7 : Int32) (n0_9 : Int32) (n0_10 : Int32) (n0_11 : Int32) (n0_12 : Int32) (G1 : Nat → Int32), u = (T, a0 :: y4 :: O, (a0, .inr (12, o0 :: o1 :: o2 :: (.ref y3) :: (.ref y4) :: o5 :: (.int n0_6) :: (.int n0_7) :: (.int y8) :: (.int n0_9) :: (.int n0_10) :: (.int n0_11) :: (.int n0_12) :: tl)) :: (y4, .inl (cs.2.1, 1302, .inl G1)) :: X) ∧ (S8 G1) ∧ (y6.toInt ≤ n0_6.toInt) ∧ (n0_6.toInt ≤ n0_7.toInt) ∧ (n0_7.toInt ≤ y8.toInt) ∧ (TK3 n0_9 n0_6 n0_7) ∧ (0 ≤ n0_10.toInt) ∧ (n0_10.toInt ≤ 999) ∧ (RD f4 G1 y6 n0_6 y11 n0_11)) A) [.ref a0, .int x1].toArray s 0 0 A) (F0 m 70 ls []) := by
      intro  H locs ls  hH hS hl
      refine lv_aload_n hx hb dX12_readAtom_70 rfl (lv_at hl 0 rfl) ?_
      refine lv_iconst (v := 2) hx hb dX12_readAtom_71 (by decide) ?_
      have z9_2 : (2 : Int32).toInt = 2 := by decide
      refine tk_i hH hS hA (tr_V (n := 1) (As := [.int 2]) hx hb hml hown hts hkb hH (ox_map hOX rfl) hks hE hS hA (s_M_eats l D cs kf T (y4 :: O) ((y4, .inl (cs.2.1, 1302, .inl f4)) :: X) a0 hg mq (2) o0 o1 o2 y3 y4 o5 y6 y7 y8 y9 y10 y11 y12 tl t_a0 b_hg t_y3 t_y4 (by omega) (by omega) (by omega) (by omega) (by omega) (by omega) (by omega) (by omega) (by omega) (by omega) k3 (by omega) (hO.sub (by decide))) kw_1390 kw_1392 ks_52 kw_13 kw_1393 (by decide +kernel) ⟨Nat.le_of_ble_eq_true rfl, Nat.le_of_ble_eq_true rfl⟩ (x_recv (ci := 12) hkb hH 0 rfl rfl) rfl rfl hl.1 (Nat.le_of_ble_eq_true rfl) dX12_readAtom_72 ⟨Nat.le_of_ble_eq_true rfl, Nat.le_of_ble_eq_true rfl⟩) (fun v72 u H locs hz9 hH hS => ?_)
      obtain ⟨n72_0_6, n72_0_7, n72_0_9, n72_0_10, rfl, l_v72, u_v72, x_v720, x_v721, x_v722, x_v723, x_v724, x_v725, x_v726⟩ := hz9
      have hH : HT D cs A T (a0 :: y4 :: O) ((a0, .inr (12, o0 :: o1 :: o2 :: (.ref y3) :: (.ref y4) :: o5 :: (.int n72_0_6) :: (.int n72_0_7) :: (.int y8) :: (.int n72_0_9) :: (.int n72_0_10) :: (.int y11) :: (.int y12) :: tl)) :: (y4, .inl (cs.2.1, 1302, .inl f4)) :: X) H := hH
      refine W.widen (k := 0) (n := 0) (Nat.le_of_ble_eq_true rfl) (Nat.le_of_ble_eq_true rfl) ?_
      refine lv_if_eq (tgt := 88) hx hb dX12_readAtom_75 (by decide) (fun c75 => ?_) (fun c75 => ?_)
      · skip
        have tc75 := f_eq (k := 0) (by decide) c75
        clear x_v726
        refine lv_aload_n hx hb dX12_readAtom_88 rfl (lv_at hl 0 rfl) ?_
        refine lv_iconst (v := 3) hx hb dX12_readAtom_89 (by decide) ?_
        have z9_3 : (3 : Int32).toInt = 3 := by decide
        refine tk_i hH hS hA (tr_V (n := 1) (As := [.int 3]) hx hb hml hown hts hkb hH (ox_map hOX rfl) hks hE hS hA (s_M_eats l D cs kf T (y4 :: O) ((y4, .inl (cs.2.1, 1302, .inl f4)) :: X) a0 hg mq (3) o0 o1 o2 y3 y4 o5 n72_0_6 n72_0_7 y8 n72_0_9 n72_0_10 y11 y12 tl t_a0 b_hg t_y3 t_y4 (by omega) (by omega) (by omega) (by omega) (by omega) (by omega) (by omega) (by omega) (by omega) (by omega) x_v723 (by omega) (hO.sub (by decide))) kw_1390 kw_1392 ks_52 kw_13 kw_1393 (by decide +kernel) ⟨Nat.le_of_ble_eq_true rfl, Nat.le_of_ble_eq_true rfl⟩ (x_recv (ci := 12) hkb hH 0 rfl rfl) rfl rfl hl.1 (Nat.le_of_ble_eq_true rfl) dX12_readAtom_90 ⟨Nat.le_of_ble_eq_true rfl, Nat.le_of_ble_eq_true rfl⟩) (fun v90 u H locs hz9 hH hS => ?_)
        obtain ⟨n90_0_6, n90_0_7, n90_0_9, n90_0_10, rfl, l_v90, u_v90, x_v900, x_v901, x_v902, x_v903, x_v904, x_v905, x_v906⟩ := hz9
        have hH : HT D cs A T (a0 :: y4 :: O) ((a0, .inr (12, o0 :: o1 :: o2 :: (.ref y3) :: (.ref y4) :: o5 :: (.int n90_0_6) :: (.int n90_0_7) :: (.int y8) :: (.int n90_0_9) :: (.int n90_0_10) :: (.int y11) :: (.int y12) :: tl)) :: (y4, .inl (cs.2.1, 1302, .inl f4)) :: X) H := hH
        refine W.widen (k := 0) (n := 0) (Nat.le_of_ble_eq_true rfl) (Nat.le_of_ble_eq_true rfl) ?_
        refine lv_if_eq (tgt := 106) hx hb dX12_readAtom_93 (by decide) (fun c93 => ?_) (fun c93 => ?_)
        · skip
          have tc93 := f_eq (k := 0) (by decide) c93
          clear x_v906
          refine lv_aload_n hx hb dX12_readAtom_106 rfl (lv_at hl 0 rfl) ?_
          refine lv_bipush (v := 11) hx hb dX12_readAtom_107 (by decide) ?_
          have z9_11 : (11 : Int32).toInt = 11 := by decide
          refine tk_i hH hS hA (tr_V (n := 1) (As := [.int 11]) hx hb hml hown hts hkb hH (ox_map hOX rfl) hks hE hS hA (s_M_eats l D cs kf T (y4 :: O) ((y4, .inl (cs.2.1, 1302, .inl f4)) :: X) a0 hg mq (11) o0 o1 o2 y3 y4 o5 n90_0_6 n90_0_7 y8 n90_0_9 n90_0_10 y11 y12 tl t_a0 b_hg t_y3 t_y4 (by omega) (by omega) (by omega) (by omega) (by omega) (by omega) (by omega) (by omega) (by omega) (by omega) x_v903 (by omega) (hO.sub (by decide))) kw_1390 kw_1392 ks_52 kw_13 kw_1393 (by decide +kernel) ⟨Nat.le_of_ble_eq_true rfl, Nat.le_of_ble_eq_true rfl⟩ (x_recv (ci := 12) hkb hH 0 rfl rfl) rfl rfl hl.1 (Nat.le_of_ble_eq_true rfl) dX12_readAtom_109 ⟨Nat.le_of_ble_eq_true rfl, Nat.le_of_ble_eq_true rfl⟩) (fun v109 u H locs hz9 hH hS => ?_)
          obtain ⟨n109_0_6, n109_0_7, n109_0_9, n109_0_10, rfl, l_v109, u_v109, x_v1090, x_v1091, x_v1092, x_v1093, x_v1094, x_v1095, x_v1096⟩ := hz9
          have hH : HT D cs A T (a0 :: y4 :: O) ((a0, .inr (12, o0 :: o1 :: o2 :: (.ref y3) :: (.ref y4) :: o5 :: (.int n109_0_6) :: (.int n109_0_7) :: (.int y8) :: (.int n109_0_9) :: (.int n109_0_10) :: (.int y11) :: (.int y12) :: tl)) :: (y4, .inl (cs.2.1, 1302, .inl f4)) :: X) H := hH
          refine W.widen (k := 0) (n := 0) (Nat.le_of_ble_eq_true rfl) (Nat.le_of_ble_eq_true rfl) ?_
          refine lv_if_eq (tgt := 125) hx hb dX12_readAtom_112 (by decide) (fun c112 => ?_) (fun c112 => ?_)
          · skip
            have tc112 := f_eq (k := 0) (by decide) c112
            clear x_v1096
            refine lv_aload_n hx hb dX12_readAtom_125 rfl (lv_at hl 0 rfl) ?_
            refine lv_bipush (v := 8) hx hb dX12_readAtom_126 (by decide) ?_
            have z9_8 : (8 : Int32).toInt = 8 := by decide
            refine tk_i hH hS hA (tr_V (n := 1) (As := [.int 8]) hx hb hml hown hts hkb hH (ox_map hOX rfl) hks hE hS hA (s_M_eats l D cs kf T (y4 :: O) ((y4, .inl (cs.2.1, 1302, .inl f4)) :: X) a0 hg mq (8) o0 o1 o2 y3 y4 o5 n109_0_6 n109_0_7 y8 n109_0_9 n109_0_10 y11 y12 tl t_a0 b_hg t_y3 t_y4 (by omega) (by omega) (by omega) (by omega) (by omega) (by omega) (by omega) (by omega) (by omega) (by omega) x_v1093 (by omega) (hO.sub (by decide))) kw_1390 kw_1392 ks_52 kw_13 kw_1393 (by decide +kernel) ⟨Nat.le_of_ble_eq_true rfl, Nat.le_of_ble_eq_true rfl⟩ (x_recv (ci := 12) hkb hH 0 rfl rfl) rfl rfl hl.1 (Nat.le_of_ble_eq_true rfl) dX12_readAtom_128 ⟨Nat.le_of_ble_eq_true rfl, Nat.le_of_ble_eq_true rfl⟩) (fun v128 u H locs hz9 hH hS => ?_)
            obtain ⟨n128_0_6, n128_0_7, n128_0_9, n128_0_10, rfl, l_v128, u_v128, x_v1280, x_v1281, x_v1282, x_v1283, x_v1284, x_v1285, x_v1286⟩ := hz9
            have hH : HT D cs A T (a0 :: y4 :: O) ((a0, .inr (12, o0 :: o1 :: o2 :: (.ref y3) :: (.ref y4) :: o5 :: (.int n128_0_6) :: (.int n128_0_7) :: (.int y8) :: (.int n128_0_9) :: (.int n128_0_10) :: (.int y11) :: (.int y12) :: tl)) :: (y4, .inl (cs.2.1, 1302, .inl f4)) :: X) H := hH
            refine W.widen (k := 0) (n := 0) (Nat.le_of_ble_eq_true rfl) (Nat.le_of_ble_eq_true rfl) ?_
            refine lv_if_eq (tgt := 144) hx hb dX12_readAtom_131 (by decide) (fun c131 => ?_) (fun c131 => ?_)
            · skip
              have tc131 := f_eq (k := 0) (by decide) c131
              clear x_v1286
              refine lv_aload_n hx hb dX12_readAtom_144 rfl (lv_at hl 0 rfl) ?_
              refine lv_bipush (v := 35) hx hb dX12_readAtom_145 (by decide) ?_
              have z9_35 : (35 : Int32).toInt = 35 := by decide
              refine tk_i hH hS hA (tr_V (n := 1) (As := [.int 35]) hx hb hml hown hts hkb hH (ox_map hOX rfl) hks hE hS hA (s_M_is l D cs kf T (y4 :: O) ((y4, .inl (cs.2.1, 1302, .inl f4)) :: X) a0 hg mq (35) o0 o1 o2 y3 y4 o5 n128_0_6 n128_0_7 y8 n128_0_9 n128_0_10 y11 y12 tl t_a0 b_hg t_y3 t_y4 (by omega) (by omega) (by omega) (by omega) (by omega) (by omega) (by omega) (by omega) (hO.sub (by decide))) kw_1370 kw_1372 ks_47 kw_13 kw_1373 (by decide +kernel) ⟨Nat.le_of_ble_eq_true rfl, Nat.le_of_ble_eq_true rfl⟩ (x_recv (ci := 12) hkb hH 0 rfl rfl) rfl rfl hl.1 (Nat.le_of_ble_eq_true rfl) dX12_readAtom_147 ⟨Nat.le_of_ble_eq_true rfl, Nat.le_of_ble_eq_true rfl⟩) (fun v147 u H locs hz9 hH hS => ?_)
              obtain ⟨rfl, l_v147, u_v147, x_v1470⟩ := hz9
              have hH : HT D cs A T (a0 :: y4 :: O) ((a0, .inr (12, o0 :: o1 :: o2 :: (.ref y3) :: (.ref y4) :: o5 :: (.int n128_0_6) :: (.int n128_0_7) :: (.int y8) :: (.int n128_0_9) :: (.int n128_0_10) :: (.int y11) :: (.int y12) :: tl)) :: (y4, .inl (cs.2.1, 1302, .inl f4)) :: X) H := hH
              refine W.widen (k := 0) (n := 0) (Nat.le_of_ble_eq_true rfl) (Nat.le_of_ble_eq_true rfl) ?_
              refine lv_if_eq (tgt := 186) hx hb dX12_readAtom_150 (by decide) (fun c150 => ?_) (fun c150 => ?_)
              · skip
                have tc150 := f_eq (k := 0) (by decide) c150
                clear x_v1470
                refine lv_aload_n hx hb dX12_readAtom_186 rfl (lv_at hl 0 rfl) ?_
                refine lv_iconst (v := 2) hx hb dX12_readAtom_187 (by decide) ?_
                have z9_2 : (2 : Int32).toInt = 2 := by decide
                refine tk_v hH hS hA (tr_V (n := 1) (As := [.int 2]) hx hb hml hown hts hkb hH (ox_map hOX rfl) hks hE hS hA (s_M_fails l D cs kf T (y4 :: O) ((y4, .inl (cs.2.1, 1302, .inl f4)) :: X) a0 hg mq (2) o0 o1 o2 y3 y4 o5 n128_0_6 n128_0_7 y8 n128_0_9 n128_0_10 y11 y12 tl t_a0 b_hg (by decide) (by decide) t_y3 t_y4 (by omega) (by omega) (by omega) (by omega) (by omega) (by omega) (by omega) (by omega) (hO.sub (by decide))) kw_1378 kw_1380 ks_49 kw_13 kw_1381 (by decide +kernel) ⟨Nat.le_of_ble_eq_true rfl, Nat.le_of_ble_eq_true rfl⟩ (x_recv (ci := 12) hkb hH 0 rfl rfl) rfl rfl hl.1 (Nat.le_of_ble_eq_true rfl) dX12_readAtom_188 ⟨Nat.le_of_ble_eq_true rfl, Nat.le_of_ble_eq_true rfl⟩) (fun u H locs hz9 hH hS => ?_)
                obtain ⟨n188_0_11, n188_0_12, rfl, x_v1880⟩ := hz9
                have hH : HT D cs A T (a0 :: y4 :: O) ((a0, .inr (12, o0 :: o1 :: o2 :: (.ref y3) :: (.ref y4) :: o5 :: (.int n128_0_6) :: (.int n128_0_7) :: (.int y8) :: (.int n128_0_9) :: (.int n128_0_10) :: (.int n188_0_11) :: (.int n188_0_12) :: tl)) :: (y4, .inl (cs.2.1, 1302, .inl f4)) :: X) H := hH
                refine W.widen (k := 0) (n := 0) (Nat.le_of_ble_eq_true rfl) (Nat.le_of_ble_eq_true rfl) ?_
                exact te_v hx hb hr hlocks hH hS (⟨n128_0_6, n128_0_7, n128_0_9, n128_0_10, n188_0_11, n188_0_12, f4, rfl, s_f4, by omega, by omega, by omega, x_v1283, by omega, by omega, (by first | exact (fun q => absurd q x_v1880))⟩) dX12_readAtom_191
              · skip
                have tc150 := f_ne (k := 0) (by decide) c150
                replace x_v1470 := x_v1470.resolve_left tc150
                refine lv_aload_n hx hb dX12_readAtom_153 rfl (lv_at hl 0 rfl) ?_
                refine lv_iload_n hx hb dX12_readAtom_154 rfl (lv_at hl 1 rfl) ?_
                refine tk_i hH hS hA (tr_V (n := 1) (As := [.int x1]) hx hb hml hown hts hkb hH (ox_map hOX rfl) hks hE hS hA (s_M_goesIn6 l D cs kf T (y4 :: O) ((y4, .inl (cs.2.1, 1302, .inl f4)) :: X) a0 hg mq x1 o0 o1 o2 y3 y4 o5 n128_0_6 n128_0_7 y8 n128_0_9 n128_0_10 y11 y12 tl t_a0 b_hg (by omega) (by omega) t_y3 t_y4 (by omega) (by omega) (by omega) (by omega) (by omega) (by omega) (by omega) (by omega) (by omega) (by omega) x_v1283 (by omega) (by omega) (hO.sub (by decide))) kw_1414 kw_1416 ks_58 kw_13 kw_1417 (by decide +kernel) ⟨Nat.le_of_ble_eq_true rfl, Nat.le_of_ble_eq_true rfl⟩ (x_recv (ci := 12) hkb hH 0 rfl rfl) rfl rfl hl.1 (Nat.le_of_ble_eq_true rfl) dX12_readAtom_155 ⟨Nat.le_of_ble_eq_true rfl, Nat.le_of_ble_eq_true rfl⟩) (fun v155 u H locs hz9 hH hS => ?_)
                obtain ⟨n155_0_6, n155_0_7, n155_0_9, n155_0_10, n155_0_11, n155_0_12, rfl, l_v155, u_v155, x_v1550, x_v1551, x_v1552, x_v1553, x_v1554, x_v1555, x_v1556, x_v1557⟩ := hz9
                have hH : HT D cs A T (a0 :: y4 :: O) ((a0, .inr (12, o0 :: o1 :: o2 :: (.ref y3) :: (.ref y4) :: o5 :: (.int n155_0_6) :: (.int n155_0_7) :: (.int y8) :: (.int n155_0_9) :: (.int n155_0_10) :: (.int n155_0_11) :: (.int n155_0_12) :: tl)) :: (y4, .inl (cs.2.1, 1302, .inl f4)) :: X) H := hH
                refine W.widen (k := 0) (n := 0) (Nat.le_of_ble_eq_true rfl) (Nat.le_of_ble_eq_true rfl) ?_
                refine lv_if_ne (tgt := 162) hx hb dX12_readAtom_158 (by decide) (fun c158 => ?_) (fun c158 => ?_)
                · skip
                  have tc158 := f_ne (k := 0) (by decide) c158
                  replace x_v1556 := x_v1556.resolve_left tc158
                  clear x_v1557
                  exfalso; omega
                · skip
                  have tc158 := f_eq (k := 0) (by decide) c158
                  clear x_v1556
                  replace x_v1557 := x_v1557.resolve_left (fun q9 => q9 tc158)
                  exact te_v hx hb hr hlocks hH hS (⟨n155_0_6, n155_0_7, n155_0_9, n155_0_10, n155_0_11, n155_0_12, f4, rfl, s_f4, by omega, by omega, by omega, x_v1553, by omega, by omega, (by first | exact (fun q => absurd q x_v1557))⟩) dX12_readAtom_161
            · skip
              have tc131 := f_ne (k := 0) (by decide) c131
              replace x_v1286 := x_v1286.resolve_left tc131
              have hsl := k4 (by omega)
              refine lv_aload_n hx hb dX12_readAtom_134 rfl (lv_at hl 0 rfl) ?_
              refine lv_sipush (v := 1006) hx hb dX12_readAtom_135 (by decide) ?_
              have z9_1006 : (1006 : Int32).toInt = 1006 := by decide
              refine tk_v hH hS hA (tr_V (n := 1) (As := [.int 1006]) hx hb hml hown hts hkb hH (ox_map hOX rfl) hks hE hS hA (s_M_codesA l D cs kf T O X a0 hg mq (1006) o0 o1 o2 y3 y4 o5 n128_0_6 n128_0_7 y8 n128_0_9 n128_0_10 y11 y12 tl f4 t_a0 b_hg (by decide) t_y3 t_y4 (by omega) (by omega) (by omega) (by omega) (by omega) (by omega) (by omega) (by omega) s_f4 (by first | (intro q; constructor <;> omega)) (hO.sub (by decide))) kw_1418 kw_1420 ks_59 kw_13 kw_1421 (by decide +kernel) ⟨Nat.le_of_ble_eq_true rfl, Nat.le_of_ble_eq_true rfl⟩ (x_recv (ci := 12) hkb hH 0 rfl rfl) rfl rfl hl.1 (Nat.le_of_ble_eq_true rfl) dX12_readAtom_138 ⟨Nat.le_of_ble_eq_true rfl, Nat.le_of_ble_eq_true rfl⟩) (fun u H locs hz9 hH hS => ?_)
              obtain ⟨F138_1, rfl, x_v1380, x_v1381⟩ := hz9
              have s_F138_1 := x_v1380
              have hH : HT D cs A T (a0 :: y4 :: O) ((a0, .inr (12, o0 :: o1 :: o2 :: (.ref y3) :: (.ref y4) :: o5 :: (.int n128_0_6) :: (.int n128_0_7) :: (.int y8) :: (.int n128_0_9) :: (.int n128_0_10) :: (.int y11) :: (.int y12) :: tl)) :: (y4, .inl (cs.2.1, 1302, .inl F138_1)) :: X) H := hH
              refine W.widen (k := 0) (n := 0) (Nat.le_of_ble_eq_true rfl) (Nat.le_of_ble_eq_true rfl) ?_
              refine lv_goto (tgt := 191) hx hb dX12_readAtom_141 (by decide) ?_
              exact te_v hx hb hr hlocks hH hS (⟨n128_0_6, n128_0_7, n128_0_9, n128_0_10, y11, y12, F138_1, rfl, s_F138_1, by omega, by omega, by omega, x_v1283, by omega, by omega, (by first | (intro q; obtain ⟨c1, c2⟩ := x_v1381 q; refine ⟨?_, ?_, ?_⟩ <;> omega))⟩) dX12_readAtom_191
          · skip
            have tc112 := f_ne (k := 0) (by decide) c112
            replace x_v1096 := x_v1096.resolve_left tc112
            have hsl := k4 (by omega)
            refine lv_aload_n hx hb dX12_readAtom_115 rfl (lv_at hl 0 rfl) ?_
            refine lv_sipush (v := 1005) hx hb dX12_readAtom_116 (by decide) ?_
            have z9_1005 : (1005 : Int32).toInt = 1005 := by decide
            refine tk_v hH hS hA (tr_V (n := 1) (As := [.int 1005]) hx hb hml hown hts hkb hH (ox_map hOX rfl) hks hE hS hA (s_M_codesA l D cs kf T O X a0 hg mq (1005) o0 o1 o2 y3 y4 o5 n109_0_6 n109_0_7 y8 n109_0_9 n109_0_10 y11 y12 tl f4 t_a0 b_hg (by decide) t_y3 t_y4 (by omega) (by omega) (by omega) (by omega) (by omega) (by omega) (by omega) (by omega) s_f4 (by first | (intro q; constructor <;> omega)) (hO.sub (by decide))) kw_1418 kw_1420 ks_59 kw_13 kw_1421 (by decide +kernel) ⟨Nat.le_of_ble_eq_true rfl, Nat.le_of_ble_eq_true rfl⟩ (x_recv (ci := 12) hkb hH 0 rfl rfl) rfl rfl hl.1 (Nat.le_of_ble_eq_true rfl) dX12_readAtom_119 ⟨Nat.le_of_ble_eq_true rfl, Nat.le_of_ble_eq_true rfl⟩) (fun u H locs hz9 hH hS => ?_)
            obtain ⟨F119_1, rfl, x_v1190, x_v1191⟩ := hz9
            have s_F119_1 := x_v1190
            have hH : HT D cs A T (a0 :: y4 :: O) ((a0, .inr (12, o0 :: o1 :: o2 :: (.ref y3) :: (.ref y4) :: o5 :: (.int n109_0_6) :: (.int n109_0_7) :: (.int y8) :: (.int n109_0_9) :: (.int n109_0_10) :: (.int y11) :: (.int y12) :: tl)) :: (y4, .inl (cs.2.1, 1302, .inl F119_1)) :: X) H := hH
            refine W.widen (k := 0) (n := 0) (Nat.le_of_ble_eq_true rfl) (Nat.le_of_ble_eq_true rfl) ?_
            refine lv_goto (tgt := 191) hx hb dX12_readAtom_122 (by decide) ?_
            exact te_v hx hb hr hlocks hH hS (⟨n109_0_6, n109_0_7, n109_0_9, n109_0_10, y11, y12, F119_1, rfl, s_F119_1, by omega, by omega, by omega, x_v1093, by omega, by omega, (by first | (intro q; obtain ⟨c1, c2⟩ := x_v1191 q; refine ⟨?_, ?_, ?_⟩ <;> omega))⟩) dX12_readAtom_191
        · skip
          have tc93 := f_ne (k := 0) (by decide) c93
          replace x_v906 := x_v906.resolve_left tc93
          have hsl := k4 (by omega)
          refine lv_aload_n hx hb dX12_readAtom_96 rfl (lv_at hl 0 rfl) ?_
          refine lv_sipush (v := 1004) hx hb dX12_readAtom_97 (by decide) ?_
          have z9_1004 : (1004 : Int32).toInt = 1004 := by decide
          refine tk_v hH hS hA (tr_V (n := 1) (As := [.int 1004]) hx hb hml hown hts hkb hH (ox_map hOX rfl) hks hE hS hA (s_M_codesA l D cs kf T O X a0 hg mq (1004) o0 o1 o2 y3 y4 o5 n90_0_6 n90_0_7 y8 n90_0_9 n90_0_10 y11 y12 tl f4 t_a0 b_hg (by decide) t_y3 t_y4 (by omega) (by omega) (by omega) (by omega) (by omega) (by omega) (by omega) (by omega) s_f4 (by first | (intro q; constructor <;> omega)) (hO.sub (by decide))) kw_1418 kw_1420 ks_59 kw_13 kw_1421 (by decide +kernel) ⟨Nat.le_of_ble_eq_true rfl, Nat.le_of_ble_eq_true rfl⟩ (x_recv (ci := 12) hkb hH 0 rfl rfl) rfl rfl hl.1 (Nat.le_of_ble_eq_true rfl) dX12_readAtom_100 ⟨Nat.le_of_ble_eq_true rfl, Nat.le_of_ble_eq_true rfl⟩) (fun u H locs hz9 hH hS => ?_)
          obtain ⟨F100_1, rfl, x_v1000, x_v1001⟩ := hz9
          have s_F100_1 := x_v1000
          have hH : HT D cs A T (a0 :: y4 :: O) ((a0, .inr (12, o0 :: o1 :: o2 :: (.ref y3) :: (.ref y4) :: o5 :: (.int n90_0_6) :: (.int n90_0_7) :: (.int y8) :: (.int n90_0_9) :: (.int n90_0_10) :: (.int y11) :: (.int y12) :: tl)) :: (y4, .inl (cs.2.1, 1302, .inl F100_1)) :: X) H := hH
          refine W.widen (k := 0) (n := 0) (Nat.le_of_ble_eq_true rfl) (Nat.le_of_ble_eq_true rfl) ?_
          refine lv_goto (tgt := 191) hx hb dX12_readAtom_103 (by decide) ?_
          exact te_v hx hb hr hlocks hH hS (⟨n90_0_6, n90_0_7, n90_0_9, n90_0_10, y11, y12, F100_1, rfl, s_F100_1, by omega, by omega, by omega, x_v903, by omega, by omega, (by first | (intro q; obtain ⟨c1, c2⟩ := x_v1001 q; refine ⟨?_, ?_, ?_⟩ <;> omega))⟩) dX12_readAtom_191
      · skip
        have tc75 := f_ne (k := 0) (by decide) c75
        replace x_v726 := x_v726.resolve_left tc75
        have hsl := k4 (by omega)
        refine lv_aload_n hx hb dX12_readAtom_78 rfl (lv_at hl 0 rfl) ?_
        refine lv_sipush (v := 1003) hx hb dX12_readAtom_79 (by decide) ?_
        have z9_1003 : (1003 : Int32).toInt = 1003 := by decide
        refine tk_v hH hS hA (tr_V (n := 1) (As := [.int 1003]) hx hb hml hown hts hkb hH (ox_map hOX rfl) hks hE hS hA (s_M_codesA l D cs kf T O X a0 hg mq (1003) o0 o1 o2 y3 y4 o5 n72_0_6 n72_0_7 y8 n72_0_9 n72_0_10 y11 y12 tl f4 t_a0 b_hg (by decide) t_y3 t_y4 (by omega) (by omega) (by omega) (by omega) (by omega) (by omega) (by omega) (by omega) s_f4 (by first | (intro q; constructor <;> omega)) (hO.sub (by decide))) kw_1418 kw_1420 ks_59 kw_13 kw_1421 (by decide +kernel) ⟨Nat.le_of_ble_eq_true rfl, Nat.le_of_ble_eq_true rfl⟩ (x_recv (ci := 12) hkb hH 0 rfl rfl) rfl rfl hl.1 (Nat.le_of_ble_eq_true rfl) dX12_readAtom_82 ⟨Nat.le_of_ble_eq_true rfl, Nat.le_of_ble_eq_true rfl⟩) (fun u H locs hz9 hH hS => ?_)
        obtain ⟨F82_1, rfl, x_v820, x_v821⟩ := hz9
        have s_F82_1 := x_v820
        have hH : HT D cs A T (a0 :: y4 :: O) ((a0, .inr (12, o0 :: o1 :: o2 :: (.ref y3) :: (.ref y4) :: o5 :: (.int n72_0_6) :: (.int n72_0_7) :: (.int y8) :: (.int n72_0_9) :: (.int n72_0_10) :: (.int y11) :: (.int y12) :: tl)) :: (y4, .inl (cs.2.1, 1302, .inl F82_1)) :: X) H := hH
        refine W.widen (k := 0) (n := 0) (Nat.le_of_ble_eq_true rfl) (Nat.le_of_ble_eq_true rfl) ?_
        refine lv_goto (tgt := 191) hx hb dX12_readAtom_85 (by decide) ?_
        exact te_v hx hb hr hlocks hH hS (⟨n72_0_6, n72_0_7, n72_0_9, n72_0_10, y11, y12, F82_1, rfl, s_F82_1, by omega, by omega, by omega, x_v723, by omega, by omega, (by first | (intro q; obtain ⟨c1, c2⟩ := x_v821 q; refine ⟨?_, ?_, ?_⟩ <;> omega))⟩) dX12_readAtom_191
    refine lv_if_ne (tgt := 70) hx hb dX12_readAtom_28 (by decide) (fun c28 => ?_) (fun c28 => ?_)
    · skip
      have tc28 := f_ne (k := 0) (by decide) c28
      exact J70  _ _ _  hH hS (lv_sub hl [0, 1] rfl)
    · skip
      have tc28 := f_eq (k := 0) (by decide) c28
      refine lv_aload_n hx hb dX12_readAtom_31 rfl (lv_at hl 0 rfl) ?_
      refine x_getk (ci := 12) (C := RX12) (F := TX12) (N := 36) (v := .int y9) hx hb hts uX12 hown hkb hH 0 rfl rfl 9 (by decide) rfl kw_1232 (fun _ h9 => h9) dX12_readAtom_32 ?_
      refine lv_i2l hx hb dX12_readAtom_35 rfl ?_
      refine lv_ldc2 hx hb hown (hts _ kw_1434) dX12_readAtom_36 ?_
      refine lv_ldc2 hx hb hown (hts _ kw_1435) dX12_readAtom_39 ?_
      refine tk_i hH hS hA (tr_S (n := 3) (As := [.long y9.toInt64, .long 16, .long 18]) hx hb hml hown hts hkb hH (ox_map hOX rfl) hks hE hS hA (s_M_within l D cs kf T (a0 :: y4 :: O) ((a0, .inr (12, o0 :: o1 :: o2 :: (.ref y3) :: (.ref y4) :: o5 :: (.int y6) :: (.int y7) :: (.int y8) :: (.int y9) :: (.int y10) :: (.int y11) :: (.int y12) :: tl)) :: (y4, .inl (cs.2.1, 1302, .inl f4)) :: X) y9.toInt64 16 18  (hO.sub (by decide))) kw_1341 kw_1342 kw_13 kw_1343 (by decide +kernel) ⟨Nat.le_of_ble_eq_true rfl, Nat.le_of_ble_eq_true rfl⟩ rfl rfl hl.1 (Nat.le_of_ble_eq_true rfl) dX12_readAtom_42 ⟨Nat.le_of_ble_eq_true rfl, Nat.le_of_ble_eq_true rfl⟩) (fun v42 u H locs hz9 hH hS => ?_)
      obtain ⟨rfl, l_v42, u_v42, x_v420, x_v421⟩ := hz9
      simp only [Int32.toInt_toInt64] at x_v420 x_v421
      have k9_16 : (16 : Int64).toInt = 16 := by decide
      have k9_18 : (18 : Int64).toInt = 18 := by decide
      have hH : HT D cs A T (a0 :: y4 :: O) ((a0, .inr (12, o0 :: o1 :: o2 :: (.ref y3) :: (.ref y4) :: o5 :: (.int y6) :: (.int y7) :: (.int y8) :: (.int y9) :: (.int y10) :: (.int y11) :: (.int y12) :: tl)) :: (y4, .inl (cs.2.1, 1302, .inl f4)) :: X) H := hH
      refine W.widen (k := 0) (n := 0) (Nat.le_of_ble_eq_true rfl) (Nat.le_of_ble_eq_true rfl) ?_
      refine lv_if_eq (tgt := 70) hx hb dX12_readAtom_45 (by decide) (fun c45 => ?_) (fun c45 => ?_)
      · skip
        have tc45 := f_eq (k := 0) (by decide) c45
        clear x_v420
        replace x_v421 := x_v421.resolve_left (fun q9 => q9 tc45)
        exact J70  _ _ _  hH hS (lv_sub hl [0, 1] rfl)
      · skip
        have tc45 := f_ne (k := 0) (by decide) c45
        replace x_v420 := x_v420.resolve_left tc45
        clear x_v421
        have hk3 := k3 (by omega)
        have hsl := k4 (by omega)
        refine lv_aload_n hx hb dX12_readAtom_48 rfl (lv_at hl 0 rfl) ?_
        have hk9 : 16 ≤ y9.toInt ∧ y9.toInt ≤ 18 := by omega
        refine lv_sipush (v := 1000) hx hb dX12_readAtom_49 (by decide) ?_
        refine lv_aload_n hx hb dX12_readAtom_52 rfl (lv_at hl 0 rfl) ?_
        refine x_getk (ci := 12) (C := RX12) (F := TX12) (N := 36) (v := .int y9) hx hb hts uX12 hown hkb hH 0 rfl rfl 9 (by decide) rfl kw_1232 (fun _ h9 => h9) dX12_readAtom_53 ?_
        refine lv_iadd hx hb dX12_readAtom_56 ?_
        refine lv_topi (fun v56 ev56 => ?_)
        have tv56 : v56.toInt = (1000) + y9.toInt := by rw [ev56]; exact add_i (by decide : (1000 : Int32).toInt = 1000) rfl (by omega) (by omega)
        refine lv_bipush (v := 16) hx hb dX12_readAtom_57 (by decide) ?_
        refine lv_isub hx hb dX12_readAtom_59 ?_
        refine lv_topi (fun v59 ev59 => ?_)
        have tv59 : v59.toInt = v56.toInt - (16) := by rw [ev59]; exact sub_i rfl (by decide : (16 : Int32).toInt = 16) (by omega) (by omega)
        refine tk_v hH hS hA (tr_V (n := 1) (As := [.int v59]) hx hb hml hown hts hkb hH (ox_map hOX rfl) hks hE hS hA (s_M_codesA l D cs kf T O X a0 hg mq v59 o0 o1 o2 y3 y4 o5 y6 y7 y8 y9 y10 y11 y12 tl f4 t_a0 b_hg (by omega) t_y3 t_y4 (by omega) (by omega) (by omega) (by omega) (by omega) (by omega) (by omega) (by omega) s_f4 (by first | (intro q; constructor <;> omega)) (hO.sub (by decide))) kw_1418 kw_1420 ks_59 kw_13 kw_1421 (by decide +kernel) ⟨Nat.le_of_ble_eq_true rfl, Nat.le_of_ble_eq_true rfl⟩ (x_recv (ci := 12) hkb hH 0 rfl rfl) rfl rfl hl.1 (Nat.le_of_ble_eq_true rfl) dX12_readAtom_60 ⟨Nat.le_of_ble_eq_true rfl, Nat.le_of_ble_eq_true rfl⟩) (fun u H locs hz9 hH hS => ?_)
        obtain ⟨F60_1, rfl, x_v600, x_v601⟩ := hz9
        have s_F60_1 := x_v600
        have hH : HT D cs A T (a0 :: y4 :: O) ((a0, .inr (12, o0 :: o1 :: o2 :: (.ref y3) :: (.ref y4) :: o5 :: (.int y6) :: (.int y7) :: (.int y8) :: (.int y9) :: (.int y10) :: (.int y11) :: (.int y12) :: tl)) :: (y4, .inl (cs.2.1, 1302, .inl F60_1)) :: X) H := hH
        refine W.widen (k := 0) (n := 0) (Nat.le_of_ble_eq_true rfl) (Nat.le_of_ble_eq_true rfl) ?_
        refine lv_aload_n hx hb dX12_readAtom_63 rfl (lv_at hl 0 rfl) ?_
        refine tk_v hH hS hA (tr_V (n := 0) (As := []) hx hb hml hown hts hkb hH (ox_map hOX rfl) hks hE hS hA (s_M_next l D cs kf T (y4 :: O) ((y4, .inl (cs.2.1, 1302, .inl F60_1)) :: X) a0 hg mq o0 o1 o2 y3 y4 o5 y6 y7 y8 y9 y10 y11 y12 tl t_a0 b_hg t_y3 t_y4 (by omega) (by omega) (by omega) (by omega) (by omega) (by omega) (by omega) (by omega) (by omega) (hO.sub (by decide))) kw_1344 kw_1346 ks_43 kw_13 kw_1347 (by decide +kernel) ⟨Nat.le_of_ble_eq_true rfl, Nat.le_of_ble_eq_true rfl⟩ (x_recv (ci := 12) hkb hH 0 rfl rfl) rfl rfl hl.1 (Nat.le_of_ble_eq_true rfl) dX12_readAtom_64 ⟨Nat.le_of_ble_eq_true rfl, Nat.le_of_ble_eq_true rfl⟩) (fun u H locs hz9 hH hS => ?_)
        obtain ⟨n64_0_6, n64_0_7, n64_0_9, n64_0_10, rfl, x_v640, x_v641, x_v642, x_v643, x_v644, x_v645⟩ := hz9
        have hH : HT D cs A T (a0 :: y4 :: O) ((a0, .inr (12, o0 :: o1 :: o2 :: (.ref y3) :: (.ref y4) :: o5 :: (.int n64_0_6) :: (.int n64_0_7) :: (.int y8) :: (.int n64_0_9) :: (.int n64_0_10) :: (.int y11) :: (.int y12) :: tl)) :: (y4, .inl (cs.2.1, 1302, .inl F60_1)) :: X) H := hH
        refine W.widen (k := 0) (n := 0) (Nat.le_of_ble_eq_true rfl) (Nat.le_of_ble_eq_true rfl) ?_
        refine lv_goto (tgt := 191) hx hb dX12_readAtom_67 (by decide) ?_
        exact te_v hx hb hr hlocks hH hS (⟨n64_0_6, n64_0_7, n64_0_9, n64_0_10, y11, y12, F60_1, rfl, s_F60_1, by omega, by omega, by omega, x_v643, by omega, by omega, (by first | (intro q; obtain ⟨c1, c2⟩ := x_v601 q; refine ⟨?_, ?_, ?_⟩ <;> omega))⟩) dX12_readAtom_191
  · skip
    have tc6 := f_ne (k := 0) (by decide) c6
    replace x_v30 := x_v30.resolve_left tc6
    have hk3 := k3 (by omega)
    have hsl := k4 (by omega)
    refine lv_aload_n hx hb dX12_readAtom_9 rfl (lv_at hl 0 rfl) ?_
    refine lv_aload_n hx hb dX12_readAtom_10 rfl (lv_at hl 0 rfl) ?_
    refine x_getk (ci := 12) (C := RX12) (F := TX12) (N := 36) (v := .int y10) hx hb hts uX12 hown hkb hH 0 rfl rfl 10 (by decide) rfl kw_1233 (fun _ h9 => h9) dX12_readAtom_11 ?_
    refine tk_v hH hS hA (tr_V (n := 1) (As := [.int y10]) hx hb hml hown hts hkb hH (ox_map hOX rfl) hks hE hS hA (s_M_codesA l D cs kf T O X a0 hg mq y10 o0 o1 o2 y3 y4 o5 y6 y7 y8 y9 y10 y11 y12 tl f4 t_a0 b_hg (by omega) t_y3 t_y4 (by omega) (by omega) (by omega) (by omega) (by omega) (by omega) (by omega) (by omega) s_f4 (by first | (intro q; constructor <;> omega)) (hO.sub (by decide))) kw_1418 kw_1420 ks_59 kw_13 kw_1421 (by decide +kernel) ⟨Nat.le_of_ble_eq_true rfl, Nat.le_of_ble_eq_true rfl⟩ (x_recv (ci := 12) hkb hH 0 rfl rfl) rfl rfl hl.1 (Nat.le_of_ble_eq_true rfl) dX12_readAtom_14 ⟨Nat.le_of_ble_eq_true rfl, Nat.le_of_ble_eq_true rfl⟩) (fun u H locs hz9 hH hS => ?_)
    obtain ⟨F14_1, rfl, x_v140, x_v141⟩ := hz9
    have s_F14_1 := x_v140
    have hH : HT D cs A T (a0 :: y4 :: O) ((a0, .inr (12, o0 :: o1 :: o2 :: (.ref y3) :: (.ref y4) :: o5 :: (.int y6) :: (.int y7) :: (.int y8) :: (.int y9) :: (.int y10) :: (.int y11) :: (.int y12) :: tl)) :: (y4, .inl (cs.2.1, 1302, .inl F14_1)) :: X) H := hH
    refine W.widen (k := 0) (n := 0) (Nat.le_of_ble_eq_true rfl) (Nat.le_of_ble_eq_true rfl) ?_
    refine lv_aload_n hx hb dX12_readAtom_17 rfl (lv_at hl 0 rfl) ?_
    refine tk_v hH hS hA (tr_V (n := 0) (As := []) hx hb hml hown hts hkb hH (ox_map hOX rfl) hks hE hS hA (s_M_next l D cs kf T (y4 :: O) ((y4, .inl (cs.2.1, 1302, .inl F14_1)) :: X) a0 hg mq o0 o1 o2 y3 y4 o5 y6 y7 y8 y9 y10 y11 y12 tl t_a0 b_hg t_y3 t_y4 (by omega) (by omega) (by omega) (by omega) (by omega) (by omega) (by omega) (by omega) (by omega) (hO.sub (by decide))) kw_1344 kw_1346 ks_43 kw_13 kw_1347 (by decide +kernel) ⟨Nat.le_of_ble_eq_true rfl, Nat.le_of_ble_eq_true rfl⟩ (x_recv (ci := 12) hkb hH 0 rfl rfl) rfl rfl hl.1 (Nat.le_of_ble_eq_true rfl) dX12_readAtom_18 ⟨Nat.le_of_ble_eq_true rfl, Nat.le_of_ble_eq_true rfl⟩) (fun u H locs hz9 hH hS => ?_)
    obtain ⟨n18_0_6, n18_0_7, n18_0_9, n18_0_10, rfl, x_v180, x_v181, x_v182, x_v183, x_v184, x_v185⟩ := hz9
    have hH : HT D cs A T (a0 :: y4 :: O) ((a0, .inr (12, o0 :: o1 :: o2 :: (.ref y3) :: (.ref y4) :: o5 :: (.int n18_0_6) :: (.int n18_0_7) :: (.int y8) :: (.int n18_0_9) :: (.int n18_0_10) :: (.int y11) :: (.int y12) :: tl)) :: (y4, .inl (cs.2.1, 1302, .inl F14_1)) :: X) H := hH
    refine W.widen (k := 0) (n := 0) (Nat.le_of_ble_eq_true rfl) (Nat.le_of_ble_eq_true rfl) ?_
    refine lv_goto (tgt := 191) hx hb dX12_readAtom_21 (by decide) ?_
    exact te_v hx hb hr hlocks hH hS (⟨n18_0_6, n18_0_7, n18_0_9, n18_0_10, y11, y12, F14_1, rfl, s_F14_1, by omega, by omega, by omega, x_v183, by omega, by omega, (by first | (intro q; obtain ⟨c1, c2⟩ := x_v141 q; refine ⟨?_, ?_, ?_⟩ <;> omega))⟩) dX12_readAtom_191
set_option maxHeartbeats 4000000 in
set_option maxRecDepth 100000 in
theorem s_M_readTerm6 (l : Launch) (D : va_G) (cs : CS) (kf : KF) (T : TF) (O : List Nat) (X : va_W) (a0 hg mq : Nat) (x1 : Int32) (o0 : Value) (o1 : Value) (o2 : Value) (y3 : Nat) (y4 : Nat) (o5 : Value) (y6 : Int32) (y7 : Int32) (y8 : Int32) (y9 : Int32) (y10 : Int32) (y11 : Int32) (y12 : Int32) (tl : List Value) (f4 : Nat → Int32) (t_a0 : T a0 = some (22, hg, mq)) (b_hg : hg < 90) (l_x1 : 6 ≤ x1.toInt) (u_x1 : x1.toInt ≤ 6) (t_y3 : T y3 = some (1, 900, 0)) (t_y4 : T y4 = some (8, 1302, 0)) (l_y6 : 0 ≤ y6.toInt) (u_y6 : y6.toInt ≤ 900) (l_y7 : 0 ≤ y7.toInt) (u_y7 : y7.toInt ≤ 900) (l_y8 : 0 ≤ y8.toInt) (u_y8 : y8.toInt ≤ 900) (l_y10 : 0 ≤ y10.toInt) (u_y10 : y10.toInt ≤ 999) (s_f4 : S8 f4) (k1 : y6.toInt ≤ y7.toInt) (k2 : y7.toInt ≤ y8.toInt) (k3 : TK3 y9 y6 y7) (k4 : SL y11 f4 y6) (hO : okO T (a0 :: y4 :: O) [1]) : TK l D cs kf yX12_readTerm cX12_readTerm 2 none { frames := 8, cells := 0, slots := 0, locals := 171 } [.ref a0, .int x1] T (a0 :: y4 :: O) ((a0, .inr (12, o0 :: o1 :: o2 :: (.ref y3) :: (.ref y4) :: o5 :: (.int y6) :: (.int y7) :: (.int y8) :: (.int y9) :: (.int y10) :: (.int y11) :: (.int y12) :: tl)) :: (y4, .inl (cs.2.1, 1302, .inl f4)) :: X) (Tv D cs (fun u => ∃ (n0_6 : Int32) (n0_7 : Int32) (n0_9 : Int32) (n0_10 : Int32) (n0_11 : Int32) (n0_12 : Int32) (G1 : Nat → Int32), u = (T, a0 :: y4 :: O, (a0, .inr (12, o0 :: o1 :: o2 :: (.ref y3) :: (.ref y4) :: o5 :: (.int n0_6) :: (.int n0_7) :: (.int y8) :: (.int n0_9) :: (.int n0_10) :: (.int n0_11) :: (.int n0_12) :: tl)) :: (y4, .inl (cs.2.1, 1302, .inl G1)) :: X) ∧ (S8 G1) ∧ (y6.toInt ≤ n0_6.toInt) ∧ (n0_6.toInt ≤ n0_7.toInt) ∧ (n0_7.toInt ≤ y8.toInt) ∧ (TK3 n0_9 n0_6 n0_7) ∧ (0 ≤ n0_10.toInt) ∧ (n0_10.toInt ≤ 999) ∧ (RD f4 G1 y6 n0_6 y11 n0_11))) := by
  refine tk_of (by decide) (Nat.le_of_ble_eq_true rfl) (fun p e s m below meth c ls A H locs hx hb hr hml hown hts hlocks hnm hkb hH hS hA hOX hks hE hl => ?_)
  have hown : s.vm.findClass RX12 = some m.cls := hown
  have hl : lv_has ls 2 [(0, .ref a0), (1, .int x1)] := hl
  have hOXf := hOX
  have hd0 := dpt_nn s_f4
  refine lv_aload_n hx hb dX12_readTerm_0 rfl (lv_at hl 0 rfl) ?_
  refine lv_iload_n hx hb dX12_readTerm_1 rfl (lv_at hl 1 rfl) ?_
  have J5 : ∀ (n : Nat) (f5_106 : Int32) (f5_107 : Int32) (f5_109 : Int32) (f5_110 : Int32) (f5_111 : Int32) (f5_112 : Int32) (g5_1 : Nat → Int32) (H : Heap) (locs : List Loc) (ls : Array Slot), (900 - f5_106.toInt).toNat = n → (S8 g5_1) → (0 ≤ f5_106.toInt) → (f5_106.toInt ≤ 900) → (0 ≤ f5_107.toInt) → (f5_107.toInt ≤ 900) → (0 ≤ f5_110.toInt) → (f5_110.toInt ≤ 999) → (f5_106.toInt ≤ f5_107.toInt) → (f5_107.toInt ≤ y8.toInt) → (TK3 f5_109 f5_106 f5_107) → (y6.toInt ≤ f5_106.toInt) → (RD f4 g5_1 y6 f5_106 y11 f5_111) → HT D cs A T (a0 :: y4 :: O) ((a0, .inr (12, o0 :: o1 :: o2 :: (.ref y3) :: (.ref y4) :: o5 :: (.int f5_106) :: (.int f5_107) :: (.int y8) :: (.int f5_109) :: (.int f5_110) :: (.int f5_111) :: (.int f5_112) :: tl)) :: (y4, .inl (cs.2.1, 1302, .inl g5_1)) :: X) H → va_S A s.heap H locs → lv_has ls 2 [(0, .ref a0), (1, .int x1)] → W p l e { frames := 8, cells := 0, slots := 0, locals := 171 } s m [.ref a0, .int x1].toArray below meth c H locs 0 0 (MQ below (Tv D cs (fun u => ∃ (n0_6 : Int32) (n0_7 : Int32) (n0_9 : Int32) (n0_10 : Int32) (n0_11 : Int32) (n0_12 : Int32) (G1 : Nat → Int32), u = (T, a0 :: y4 :: O, (a0, .inr (12, o0 :: o1 :: o2 :: (.ref y3) :: (.ref y4) :: o5 :: (.int n0_6) :: (.int n0_7) :: (.int y8) :: (.int n0_9) :: (.int n0_10) :: (.int n0_11) :: (.int n0_12) :: tl)) :: (y4, .inl (cs.2.1, 1302, .inl G1)) :: X) ∧ (S8 G1) ∧ (y6.toInt ≤ n0_6.toInt) ∧ (n0_6.toInt ≤ n0_7.toInt) ∧ (n0_7.toInt ≤ y8.toInt) ∧ (TK3 n0_9 n0_6 n0_7) ∧ (0 ≤ n0_10.toInt) ∧ (n0_10.toInt ≤ 999) ∧ (RD f4 G1 y6 n0_6 y11 n0_11)) A) [.ref a0, .int x1].toArray s 0 0 A) (F0 m 5 ls []) := by
    intro n
    induction n using Nat.strongRecOn with
    | _ n ih5 =>
      intro f5_106 f5_107 f5_109 f5_110 f5_111 f5_112 g5_1 H locs ls hm5 s_g5_1 l_f5_106 u_f5_106 l_f5_107 u_f5_107 l_f5_110 u_f5_110 ia5 ib5 ic5 id5 if5 hH hS hl
      refine lv_aload_n hx hb dX12_readTerm_5 rfl (lv_at hl 0 rfl) ?_
      refine lv_bipush (v := 34) hx hb dX12_readTerm_6 (by decide) ?_
      have z9_34 : (34 : Int32).toInt = 34 := by decide
      refine tk_i hH hS hA (tr_V (n := 1) (As := [.int 34]) hx hb hml hown hts hkb hH (ox_map hOX rfl) hks hE hS hA (s_M_eats l D cs kf T (y4 :: O) ((y4, .inl (cs.2.1, 1302, .inl g5_1)) :: X) a0 hg mq (34) o0 o1 o2 y3 y4 o5 f5_106 f5_107 y8 f5_109 f5_110 f5_111 f5_112 tl t_a0 b_hg t_y3 t_y4 (by omega) (by omega) (by omega) (by omega) (by omega) (by omega) (by omega) (by omega) (by omega) (by omega) ic5 (by omega) (hO.sub (by decide))) kw_1390 kw_1392 ks_52 kw_13 kw_1393 (by decide +kernel) ⟨Nat.le_of_ble_eq_true rfl, Nat.le_of_ble_eq_true rfl⟩ (x_recv (ci := 12) hkb hH 0 rfl rfl) rfl rfl hl.1 (Nat.le_of_ble_eq_true rfl) dX12_readTerm_8 ⟨Nat.le_of_ble_eq_true rfl, Nat.le_of_ble_eq_true rfl⟩) (fun v8 u H locs hz9 hH hS => ?_)
      obtain ⟨n8_0_6, n8_0_7, n8_0_9, n8_0_10, rfl, l_v8, u_v8, x_v80, x_v81, x_v82, x_v83, x_v84, x_v85, x_v86⟩ := hz9
      have hH : HT D cs A T (a0 :: y4 :: O) ((a0, .inr (12, o0 :: o1 :: o2 :: (.ref y3) :: (.ref y4) :: o5 :: (.int n8_0_6) :: (.int n8_0_7) :: (.int y8) :: (.int n8_0_9) :: (.int n8_0_10) :: (.int f5_111) :: (.int f5_112) :: tl)) :: (y4, .inl (cs.2.1, 1302, .inl g5_1)) :: X) H := hH
      refine W.widen (k := 0) (n := 0) (Nat.le_of_ble_eq_true rfl) (Nat.le_of_ble_eq_true rfl) ?_
      refine lv_if_eq (tgt := 29) hx hb dX12_readTerm_11 (by decide) (fun c11 => ?_) (fun c11 => ?_)
      · skip
        have tc11 := f_eq (k := 0) (by decide) c11
        clear x_v86
        exact te_v hx hb hr hlocks hH hS (⟨n8_0_6, n8_0_7, n8_0_9, n8_0_10, f5_111, f5_112, g5_1, rfl, s_g5_1, by omega, by omega, by omega, x_v83, by omega, by omega, (by first | exact if5 | (refine RD_le if5 ?_; omega) | (intro q; obtain ⟨c0, c1, c2⟩ := if5 q; refine ⟨?_, ?_, ?_⟩ <;> omega))⟩) dX12_readTerm_29
      · skip
        have tc11 := f_ne (k := 0) (by decide) c11
        replace x_v86 := x_v86.resolve_left tc11
        refine lv_aload_n hx hb dX12_readTerm_14 rfl (lv_at hl 0 rfl) ?_
        refine lv_iload_n hx hb dX12_readTerm_15 rfl (lv_at hl 1 rfl) ?_
        refine tk_v hH hS hA (tr_V (n := 1) (As := [.int x1]) hx hb hml hown hts hkb hH (ox_map hOX rfl) hks hE hS hA (s_M_readAtom6 l D cs kf T O X a0 hg mq x1 o0 o1 o2 y3 y4 o5 n8_0_6 n8_0_7 y8 n8_0_9 n8_0_10 f5_111 f5_112 tl g5_1 t_a0 b_hg (by omega) (by omega) t_y3 t_y4 (by omega) (by omega) (by omega) (by omega) (by omega) (by omega) (by omega) (by omega) s_g5_1 (by omega) (by omega) x_v83 (by first | exact k4 | (refine RD_sl k4 if5 ?_; omega) | (intro _; omega)) (hO.sub (by decide))) kw_1430 kw_1432 ks_62 kw_13 kw_1433 (by decide +kernel) ⟨Nat.le_of_ble_eq_true rfl, Nat.le_of_ble_eq_true rfl⟩ (x_recv (ci := 12) hkb hH 0 rfl rfl) rfl rfl hl.1 (Nat.le_of_ble_eq_true rfl) dX12_readTerm_16 ⟨Nat.le_of_ble_eq_true rfl, Nat.le_of_ble_eq_true rfl⟩) (fun u H locs hz9 hH hS => ?_)
        obtain ⟨n16_0_6, n16_0_7, n16_0_9, n16_0_10, n16_0_11, n16_0_12, F16_1, rfl, x_v160, x_v161, x_v162, x_v163, x_v164, x_v165, x_v166, x_v167⟩ := hz9
        have s_F16_1 := x_v160
        have hH : HT D cs A T (a0 :: y4 :: O) ((a0, .inr (12, o0 :: o1 :: o2 :: (.ref y3) :: (.ref y4) :: o5 :: (.int n16_0_6) :: (.int n16_0_7) :: (.int y8) :: (.int n16_0_9) :: (.int n16_0_10) :: (.int n16_0_11) :: (.int n16_0_12) :: tl)) :: (y4, .inl (cs.2.1, 1302, .inl F16_1)) :: X) H := hH
        refine W.widen (k := 0) (n := 0) (Nat.le_of_ble_eq_true rfl) (Nat.le_of_ble_eq_true rfl) ?_
        refine lv_aload_n hx hb dX12_readTerm_19 rfl (lv_at hl 0 rfl) ?_
        refine lv_sipush (v := 3002) hx hb dX12_readTerm_20 (by decide) ?_
        have z9_3002 : (3002 : Int32).toInt = 3002 := by decide
        refine tk_v hH hS hA (tr_V (n := 1) (As := [.int 3002]) hx hb hml hown hts hkb hH (ox_map hOX rfl) hks hE hS hA (s_M_codesO l D cs kf T O X a0 hg mq (3002) o0 o1 o2 y3 y4 o5 n16_0_6 n16_0_7 y8 n16_0_9 n16_0_10 n16_0_11 n16_0_12 tl F16_1 t_a0 b_hg (by decide) (by decide) t_y3 t_y4 (by omega) (by omega) (by omega) (by omega) (by omega) (by omega) (by omega) (by omega) s_F16_1 (by first | (intro q; constructor <;> omega) | (intro q; obtain ⟨c0, c1, c2⟩ := if5 q; constructor <;> omega) | (intro q; obtain ⟨c0, c1, c2⟩ := x_v167 q; constructor <;> omega) | (refine RD_cp k4 hd0 if5 ?_ x_v167 ?_ <;> omega) | (refine RD_cp k4 hd0 x_v167 ?_ if5 ?_ <;> omega)) (hO.sub (by decide))) kw_1418 kw_1420 ks_59 kw_13 kw_1421 (by decide +kernel) ⟨Nat.le_of_ble_eq_true rfl, Nat.le_of_ble_eq_true rfl⟩ (x_recv (ci := 12) hkb hH 0 rfl rfl) rfl rfl hl.1 (Nat.le_of_ble_eq_true rfl) dX12_readTerm_23 ⟨Nat.le_of_ble_eq_true rfl, Nat.le_of_ble_eq_true rfl⟩) (fun u H locs hz9 hH hS => ?_)
        obtain ⟨F23_1, rfl, x_v230, x_v231⟩ := hz9
        have s_F23_1 := x_v230
        have hH : HT D cs A T (a0 :: y4 :: O) ((a0, .inr (12, o0 :: o1 :: o2 :: (.ref y3) :: (.ref y4) :: o5 :: (.int n16_0_6) :: (.int n16_0_7) :: (.int y8) :: (.int n16_0_9) :: (.int n16_0_10) :: (.int n16_0_11) :: (.int n16_0_12) :: tl)) :: (y4, .inl (cs.2.1, 1302, .inl F23_1)) :: X) H := hH
        refine W.widen (k := 0) (n := 0) (Nat.le_of_ble_eq_true rfl) (Nat.le_of_ble_eq_true rfl) ?_
        refine lv_goto (tgt := 5) hx hb dX12_readTerm_26 (by decide) ?_
        exact ih5 _ (by omega) n16_0_6 n16_0_7 n16_0_9 n16_0_10 n16_0_11 n16_0_12 F23_1 _ _ _ rfl s_F23_1 (by omega) (by omega) (by omega) (by omega) (by omega) (by omega) (by omega) (by omega) x_v164 (by omega) (by first | (refine RD_op if5 ?_ x_v167 x_v231; omega) | (refine RD_op x_v167 ?_ if5 x_v231; omega) | exact if5 | exact x_v167 | (refine RD_le if5 ?_; omega) | (refine RD_le x_v167 ?_; omega) | (intro q; obtain ⟨c1, c2⟩ := x_v231 q; refine ⟨?_, ?_, ?_⟩ <;> omega) | (intro q; obtain ⟨c0, c1, c2⟩ := x_v167 q; refine ⟨?_, ?_, ?_⟩ <;> omega) | (intro q; obtain ⟨c0, c1, c2⟩ := x_v167 q; obtain ⟨d1, d2⟩ := x_v231 q; refine ⟨?_, ?_, ?_⟩ <;> omega)) hH hS (lv_sub hl [0, 1] rfl)
  refine tk_v hH hS hA (tr_V (n := 1) (As := [.int x1]) hx hb hml hown hts hkb hH (ox_map hOX rfl) hks hE hS hA (s_M_readAtom6 l D cs kf T O X a0 hg mq x1 o0 o1 o2 y3 y4 o5 y6 y7 y8 y9 y10 y11 y12 tl f4 t_a0 b_hg (by omega) (by omega) t_y3 t_y4 (by omega) (by omega) (by omega) (by omega) (by omega) (by omega) (by omega) (by omega) s_f4 (by omega) (by omega) k3 (by first | exact k4 | (intro _; omega)) (hO.sub (by decide))) kw_1430 kw_1432 ks_62 kw_13 kw_1433 (by decide +kernel) ⟨Nat.le_of_ble_eq_true rfl, Nat.le_of_ble_eq_true rfl⟩ (x_recv (ci := 12) hkb hH 0 rfl rfl) rfl rfl hl.1 (Nat.le_of_ble_eq_true rfl) dX12_readTerm_2 ⟨Nat.le_of_ble_eq_true rfl, Nat.le_of_ble_eq_true rfl⟩) (fun u H locs hz9 hH hS => ?_)
  obtain ⟨n2_0_6, n2_0_7, n2_0_9, n2_0_10, n2_0_11, n2_0_12, F2_1, rfl, x_v20, x_v21, x_v22, x_v23, x_v24, x_v25, x_v26, x_v27⟩ := hz9
  have s_F2_1 := x_v20
  have hH : HT D cs A T (a0 :: y4 :: O) ((a0, .inr (12, o0 :: o1 :: o2 :: (.ref y3) :: (.ref y4) :: o5 :: (.int n2_0_6) :: (.int n2_0_7) :: (.int y8) :: (.int n2_0_9) :: (.int n2_0_10) :: (.int n2_0_11) :: (.int n2_0_12) :: tl)) :: (y4, .inl (cs.2.1, 1302, .inl F2_1)) :: X) H := hH
  refine W.widen (k := 0) (n := 0) (Nat.le_of_ble_eq_true rfl) (Nat.le_of_ble_eq_true rfl) ?_
  exact J5 _ n2_0_6 n2_0_7 n2_0_9 n2_0_10 n2_0_11 n2_0_12 F2_1 _ _ _ rfl s_F2_1 (by omega) (by omega) (by omega) (by omega) (by omega) (by omega) (by omega) (by omega) x_v24 (by omega) (by first | exact x_v27 | (refine RD_le x_v27 ?_; omega) | (intro q; obtain ⟨c0, c1, c2⟩ := x_v27 q; refine ⟨?_, ?_, ?_⟩ <;> omega)) hH hS (lv_sub hl [0, 1] rfl)
set_option maxHeartbeats 4000000 in
set_option maxRecDepth 100000 in
theorem s_M_readSum6 (l : Launch) (D : va_G) (cs : CS) (kf : KF) (T : TF) (O : List Nat) (X : va_W) (a0 hg mq : Nat) (x1 : Int32) (o0 : Value) (o1 : Value) (o2 : Value) (y3 : Nat) (y4 : Nat) (o5 : Value) (y6 : Int32) (y7 : Int32) (y8 : Int32) (y9 : Int32) (y10 : Int32) (y11 : Int32) (y12 : Int32) (tl : List Value) (f4 : Nat → Int32) (t_a0 : T a0 = some (22, hg, mq)) (b_hg : hg < 90) (l_x1 : 6 ≤ x1.toInt) (u_x1 : x1.toInt ≤ 6) (t_y3 : T y3 = some (1, 900, 0)) (t_y4 : T y4 = some (8, 1302, 0)) (l_y6 : 0 ≤ y6.toInt) (u_y6 : y6.toInt ≤ 900) (l_y7 : 0 ≤ y7.toInt) (u_y7 : y7.toInt ≤ 900) (l_y8 : 0 ≤ y8.toInt) (u_y8 : y8.toInt ≤ 900) (l_y10 : 0 ≤ y10.toInt) (u_y10 : y10.toInt ≤ 999) (s_f4 : S8 f4) (k1 : y6.toInt ≤ y7.toInt) (k2 : y7.toInt ≤ y8.toInt) (k3 : TK3 y9 y6 y7) (k4 : SL y11 f4 y6) (hO : okO T (a0 :: y4 :: O) [1]) : TK l D cs kf yX12_readSum cX12_readSum 3 none { frames := 9, cells := 0, slots := 0, locals := 192 } [.ref a0, .int x1] T (a0 :: y4 :: O) ((a0, .inr (12, o0 :: o1 :: o2 :: (.ref y3) :: (.ref y4) :: o5 :: (.int y6) :: (.int y7) :: (.int y8) :: (.int y9) :: (.int y10) :: (.int y11) :: (.int y12) :: tl)) :: (y4, .inl (cs.2.1, 1302, .inl f4)) :: X) (Tv D cs (fun u => ∃ (n0_6 : Int32) (n0_7 : Int32) (n0_9 : Int32) (n0_10 : Int32) (n0_11 : Int32) (n0_12 : Int32) (G1 : Nat → Int32), u = (T, a0 :: y4 :: O, (a0, .inr (12, o0 :: o1 :: o2 :: (.ref y3) :: (.ref y4) :: o5 :: (.int n0_6) :: (.int n0_7) :: (.int y8) :: (.int n0_9) :: (.int n0_10) :: (.int n0_11) :: (.int n0_12) :: tl)) :: (y4, .inl (cs.2.1, 1302, .inl G1)) :: X) ∧ (S8 G1) ∧ (y6.toInt ≤ n0_6.toInt) ∧ (n0_6.toInt ≤ n0_7.toInt) ∧ (n0_7.toInt ≤ y8.toInt) ∧ (TK3 n0_9 n0_6 n0_7) ∧ (0 ≤ n0_10.toInt) ∧ (n0_10.toInt ≤ 999) ∧ (RD f4 G1 y6 n0_6 y11 n0_11))) := by
  refine tk_of (by decide) (Nat.le_of_ble_eq_true rfl) (fun p e s m below meth c ls A H locs hx hb hr hml hown hts hlocks hnm hkb hH hS hA hOX hks hE hl => ?_)
  have hown : s.vm.findClass RX12 = some m.cls := hown
  have hl : lv_has ls 3 [(0, .ref a0), (1, .int x1)] := hl
  have hOXf := hOX
  have hd0 := dpt_nn s_f4
  refine lv_aload_n hx hb dX12_readSum_0 rfl (lv_at hl 0 rfl) ?_
  refine lv_iload_n hx hb dX12_readSum_1 rfl (lv_at hl 1 rfl) ?_
  have J5 : ∀ (n : Nat) (f5_106 : Int32) (f5_107 : Int32) (f5_109 : Int32) (f5_110 : Int32) (f5_111 : Int32) (f5_112 : Int32) (g5_1 : Nat → Int32) (H : Heap) (locs : List Loc) (ls : Array Slot), (900 - f5_106.toInt).toNat = n → (S8 g5_1) → (0 ≤ f5_106.toInt) → (f5_106.toInt ≤ 900) → (0 ≤ f5_107.toInt) → (f5_107.toInt ≤ 900) → (0 ≤ f5_110.toInt) → (f5_110.toInt ≤ 999) → (f5_106.toInt ≤ f5_107.toInt) → (f5_107.toInt ≤ y8.toInt) → (TK3 f5_109 f5_106 f5_107) → (y6.toInt ≤ f5_106.toInt) → (RD f4 g5_1 y6 f5_106 y11 f5_111) → HT D cs A T (a0 :: y4 :: O) ((a0, .inr (12, o0 :: o1 :: o2 :: (.ref y3) :: (.ref y4) :: o5 :: (.int f5_106) :: (.int f5_107) :: (.int y8) :: (.int f5_109) :: (.int f5_110) :: (.int f5_111) :: (.int f5_112) :: tl)) :: (y4, .inl (cs.2.1, 1302, .inl g5_1)) :: X) H → va_S A s.heap H locs → lv_has ls 3 [(0, .ref a0), (1, .int x1)] → W p l e { frames := 9, cells := 0, slots := 0, locals := 192 } s m [.ref a0, .int x1].toArray below meth c H locs 0 0 (MQ below (Tv D cs (fun u => ∃ (n0_6 : Int32) (n0_7 : Int32) (n0_9 : Int32) (n0_10 : Int32) (n0_11 : Int32) (n0_12 : Int32) (G1 : Nat → Int32), u = (T, a0 :: y4 :: O, (a0, .inr (12, o0 :: o1 :: o2 :: (.ref y3) :: (.ref y4) :: o5 :: (.int n0_6) :: (.int n0_7) :: (.int y8) :: (.int n0_9) :: (.int n0_10) :: (.int n0_11) :: (.int n0_12) :: tl)) :: (y4, .inl (cs.2.1, 1302, .inl G1)) :: X) ∧ (S8 G1) ∧ (y6.toInt ≤ n0_6.toInt) ∧ (n0_6.toInt ≤ n0_7.toInt) ∧ (n0_7.toInt ≤ y8.toInt) ∧ (TK3 n0_9 n0_6 n0_7) ∧ (0 ≤ n0_10.toInt) ∧ (n0_10.toInt ≤ 999) ∧ (RD f4 G1 y6 n0_6 y11 n0_11)) A) [.ref a0, .int x1].toArray s 0 0 A) (F0 m 5 ls []) := by
    intro n
    induction n using Nat.strongRecOn with
    | _ n ih5 =>
      intro f5_106 f5_107 f5_109 f5_110 f5_111 f5_112 g5_1 H locs ls hm5 s_g5_1 l_f5_106 u_f5_106 l_f5_107 u_f5_107 l_f5_110 u_f5_110 ia5 ib5 ic5 id5 if5 hH hS hl
      refine lv_aload_n hx hb dX12_readSum_5 rfl (lv_at hl 0 rfl) ?_
      refine lv_bipush (v := 32) hx hb dX12_readSum_6 (by decide) ?_
      have z9_32 : (32 : Int32).toInt = 32 := by decide
      refine tk_i hH hS hA (tr_V (n := 1) (As := [.int 32]) hx hb hml hown hts hkb hH (ox_map hOX rfl) hks hE hS hA (s_M_is l D cs kf T (y4 :: O) ((y4, .inl (cs.2.1, 1302, .inl g5_1)) :: X) a0 hg mq (32) o0 o1 o2 y3 y4 o5 f5_106 f5_107 y8 f5_109 f5_110 f5_111 f5_112 tl t_a0 b_hg t_y3 t_y4 (by omega) (by omega) (by omega) (by omega) (by omega) (by omega) (by omega) (by omega) (hO.sub (by decide))) kw_1370 kw_1372 ks_47 kw_13 kw_1373 (by decide +kernel) ⟨Nat.le_of_ble_eq_true rfl, Nat.le_of_ble_eq_true rfl⟩ (x_recv (ci := 12) hkb hH 0 rfl rfl) rfl rfl hl.1 (Nat.le_of_ble_eq_true rfl) dX12_readSum_8 ⟨Nat.le_of_ble_eq_true rfl, Nat.le_of_ble_eq_true rfl⟩) (fun v8 u H locs hz9 hH hS => ?_)
      obtain ⟨rfl, l_v8, u_v8, x_v80⟩ := hz9
      have hH : HT D cs A T (a0 :: y4 :: O) ((a0, .inr (12, o0 :: o1 :: o2 :: (.ref y3) :: (.ref y4) :: o5 :: (.int f5_106) :: (.int f5_107) :: (.int y8) :: (.int f5_109) :: (.int f5_110) :: (.int f5_111) :: (.int f5_112) :: tl)) :: (y4, .inl (cs.2.1, 1302, .inl g5_1)) :: X) H := hH
      refine W.widen (k := 0) (n := 0) (Nat.le_of_ble_eq_true rfl) (Nat.le_of_ble_eq_true rfl) ?_
      have J23 : ∀  (H : Heap) (locs : List Loc) (ls : Array Slot), (f5_111.toInt = 0 ∧ f5_109.toInt ≠ 22) → HT D cs A T (a0 :: y4 :: O) ((a0, .inr (12, o0 :: o1 :: o2 :: (.ref y3) :: (.ref y4) :: o5 :: (.int f5_106) :: (.int f5_107) :: (.int y8) :: (.int f5_109) :: (.int f5_110) :: (.int f5_111) :: (.int f5_112) :: tl)) :: (y4, .inl (cs.2.1, 1302, .inl g5_1)) :: X) H → va_S A s.heap H locs → lv_has ls 3 [(0, .ref a0), (1, .int x1)] → W p l e { frames := 9, cells := 0, slots := 0, locals := 192 } s m [.ref a0, .int x1].toArray below meth c H locs 0 0 (MQ below (Tv D cs (fun u => ∃ (n0_6 : Int32) (n0_7 : Int32) (n0_9 : Int32) (n0_10 : Int32) (n0_11 : Int32) (n0_12 : Int32) (G1 : Nat → Int32), u = (T, a0 :: y4 :: O, (a0, .inr (12, o0 :: o1 :: o2 :: (.ref y3) :: (.ref y4) :: o5 :: (.int n0_6) :: (.int n0_7) :: (.int y8) :: (.int n0_9) :: (.int n0_10) :: (.int n0_11) :: (.int n0_12) :: tl)) :: (y4, .inl (cs.2.1, 1302, .inl G1)) :: X) ∧ (S8 G1) ∧ (y6.toInt ≤ n0_6.toInt) ∧ (n0_6.toInt ≤ n0_7.toInt) ∧ (n0_7.toInt ≤ y8.toInt) ∧ (TK3 n0_9 n0_6 n0_7) ∧ (0 ≤ n0_10.toInt) ∧ (n0_10.toInt ≤ 999) ∧ (RD f4 G1 y6 n0_6 y11 n0_11)) A) [.ref a0, .int x1].toArray s 0 0 A) (F0 m 23 ls []) := by
        intro  H locs ls ih23 hH hS hl
        refine lv_aload_n hx hb dX12_readSum_23 rfl (lv_at hl 0 rfl) ?_
        refine x_getk (ci := 12) (C := RX12) (F := TX12) (N := 36) (v := .int f5_109) hx hb hts uX12 hown hkb hH 0 rfl rfl 9 (by decide) rfl kw_1232 (fun _ h9 => h9) dX12_readSum_24 ?_
        refine lv_bipush (v := 32) hx hb dX12_readSum_27 (by decide) ?_
        have J41 : ∀ (k41_0 : Int32) (H : Heap) (locs : List Loc) (ls : Array Slot), (3000 ≤ k41_0.toInt) → (k41_0.toInt ≤ 3001) → HT D cs A T (a0 :: y4 :: O) ((a0, .inr (12, o0 :: o1 :: o2 :: (.ref y3) :: (.ref y4) :: o5 :: (.int f5_106) :: (.int f5_107) :: (.int y8) :: (.int f5_109) :: (.int f5_110) :: (.int f5_111) :: (.int f5_112) :: tl)) :: (y4, .inl (cs.2.1, 1302, .inl g5_1)) :: X) H → va_S A s.heap H locs → lv_has ls 3 [(0, .ref a0), (1, .int x1)] → W p l e { frames := 9, cells := 0, slots := 0, locals := 192 } s m [.ref a0, .int x1].toArray below meth c H locs 0 0 (MQ below (Tv D cs (fun u => ∃ (n0_6 : Int32) (n0_7 : Int32) (n0_9 : Int32) (n0_10 : Int32) (n0_11 : Int32) (n0_12 : Int32) (G1 : Nat → Int32), u = (T, a0 :: y4 :: O, (a0, .inr (12, o0 :: o1 :: o2 :: (.ref y3) :: (.ref y4) :: o5 :: (.int n0_6) :: (.int n0_7) :: (.int y8) :: (.int n0_9) :: (.int n0_10) :: (.int n0_11) :: (.int n0_12) :: tl)) :: (y4, .inl (cs.2.1, 1302, .inl G1)) :: X) ∧ (S8 G1) ∧ (y6.toInt ≤ n0_6.toInt) ∧ (n0_6.toInt ≤ n0_7.toInt) ∧ (n0_7.toInt ≤ y8.toInt) ∧ (TK3 n0_9 n0_6 n0_7) ∧ (0 ≤ n0_10.toInt) ∧ (n0_10.toInt ≤ 999) ∧ (RD f4 G1 y6 n0_6 y11 n0_11)) A) [.ref a0, .int x1].toArray s 0 0 A) (F0 m 41 ls [.int k41_0]) := by
          intro k41_0 H locs ls l_k41_0 u_k41_0 hH hS hl
          refine lv_istore_n (lv' := [(2, .int k41_0), (0, .ref a0), (1, .int x1)]) hx hb dX12_readSum_41 rfl hl (by decide) rfl (fun ls hl => ?_)
          have hk5 := ic5 ih23.2
          refine lv_aload_n hx hb dX12_readSum_42 rfl (lv_at hl 1 rfl) ?_
          refine tk_v hH hS hA (tr_V (n := 0) (As := []) hx hb hml hown hts hkb hH (ox_map hOX rfl) hks hE hS hA (s_M_next l D cs kf T (y4 :: O) ((y4, .inl (cs.2.1, 1302, .inl g5_1)) :: X) a0 hg mq o0 o1 o2 y3 y4 o5 f5_106 f5_107 y8 f5_109 f5_110 f5_111 f5_112 tl t_a0 b_hg t_y3 t_y4 (by omega) (by omega) (by omega) (by omega) (by omega) (by omega) (by omega) (by omega) (by omega) (hO.sub (by decide))) kw_1344 kw_1346 ks_43 kw_13 kw_1347 (by decide +kernel) ⟨Nat.le_of_ble_eq_true rfl, Nat.le_of_ble_eq_true rfl⟩ (x_recv (ci := 12) hkb hH 0 rfl rfl) rfl rfl hl.1 (Nat.le_of_ble_eq_true rfl) dX12_readSum_43 ⟨Nat.le_of_ble_eq_true rfl, Nat.le_of_ble_eq_true rfl⟩) (fun u H locs hz9 hH hS => ?_)
          obtain ⟨n43_0_6, n43_0_7, n43_0_9, n43_0_10, rfl, x_v430, x_v431, x_v432, x_v433, x_v434, x_v435⟩ := hz9
          have hH : HT D cs A T (a0 :: y4 :: O) ((a0, .inr (12, o0 :: o1 :: o2 :: (.ref y3) :: (.ref y4) :: o5 :: (.int n43_0_6) :: (.int n43_0_7) :: (.int y8) :: (.int n43_0_9) :: (.int n43_0_10) :: (.int f5_111) :: (.int f5_112) :: tl)) :: (y4, .inl (cs.2.1, 1302, .inl g5_1)) :: X) H := hH
          refine W.widen (k := 0) (n := 0) (Nat.le_of_ble_eq_true rfl) (Nat.le_of_ble_eq_true rfl) ?_
          refine lv_aload_n hx hb dX12_readSum_46 rfl (lv_at hl 1 rfl) ?_
          refine lv_iload_n hx hb dX12_readSum_47 rfl (lv_at hl 2 rfl) ?_
          refine tk_v hH hS hA (tr_V (n := 1) (As := [.int x1]) hx hb hml hown hts hkb hH (ox_map hOX rfl) hks hE hS hA (s_M_readTerm6 l D cs kf T O X a0 hg mq x1 o0 o1 o2 y3 y4 o5 n43_0_6 n43_0_7 y8 n43_0_9 n43_0_10 f5_111 f5_112 tl g5_1 t_a0 b_hg (by omega) (by omega) t_y3 t_y4 (by omega) (by omega) (by omega) (by omega) (by omega) (by omega) (by omega) (by omega) s_g5_1 (by omega) (by omega) x_v433 (by first | exact k4 | (refine RD_sl k4 if5 ?_; omega) | (intro _; omega)) (hO.sub (by decide))) kw_1426 kw_1428 ks_61 kw_13 kw_1429 (by decide +kernel) ⟨Nat.le_of_ble_eq_true rfl, Nat.le_of_ble_eq_true rfl⟩ (x_recv (ci := 12) hkb hH 0 rfl rfl) rfl rfl hl.1 (Nat.le_of_ble_eq_true rfl) dX12_readSum_48 ⟨Nat.le_of_ble_eq_true rfl, Nat.le_of_ble_eq_true rfl⟩) (fun u H locs hz9 hH hS => ?_)
          obtain ⟨n48_0_6, n48_0_7, n48_0_9, n48_0_10, n48_0_11, n48_0_12, F48_1, rfl, x_v480, x_v481, x_v482, x_v483, x_v484, x_v485, x_v486, x_v487⟩ := hz9
          have s_F48_1 := x_v480
          have hH : HT D cs A T (a0 :: y4 :: O) ((a0, .inr (12, o0 :: o1 :: o2 :: (.ref y3) :: (.ref y4) :: o5 :: (.int n48_0_6) :: (.int n48_0_7) :: (.int y8) :: (.int n48_0_9) :: (.int n48_0_10) :: (.int n48_0_11) :: (.int n48_0_12) :: tl)) :: (y4, .inl (cs.2.1, 1302, .inl F48_1)) :: X) H := hH
          refine W.widen (k := 0) (n := 0) (Nat.le_of_ble_eq_true rfl) (Nat.le_of_ble_eq_true rfl) ?_
          refine lv_aload_n hx hb dX12_readSum_51 rfl (lv_at hl 1 rfl) ?_
          refine lv_iload_n hx hb dX12_readSum_52 rfl (lv_at hl 0 rfl) ?_
          refine tk_v hH hS hA (tr_V (n := 1) (As := [.int k41_0]) hx hb hml hown hts hkb hH (ox_map hOX rfl) hks hE hS hA (s_M_codesO l D cs kf T O X a0 hg mq k41_0 o0 o1 o2 y3 y4 o5 n48_0_6 n48_0_7 y8 n48_0_9 n48_0_10 n48_0_11 n48_0_12 tl F48_1 t_a0 b_hg (by omega) (by omega) t_y3 t_y4 (by omega) (by omega) (by omega) (by omega) (by omega) (by omega) (by omega) (by omega) s_F48_1 (by first | (intro q; constructor <;> omega) | (intro q; obtain ⟨c0, c1, c2⟩ := if5 q; constructor <;> omega) | (intro q; obtain ⟨c0, c1, c2⟩ := x_v487 q; constructor <;> omega) | (refine RD_cp k4 hd0 if5 ?_ x_v487 ?_ <;> omega) | (refine RD_cp k4 hd0 x_v487 ?_ if5 ?_ <;> omega)) (hO.sub (by decide))) kw_1418 kw_1420 ks_59 kw_13 kw_1421 (by decide +kernel) ⟨Nat.le_of_ble_eq_true rfl, Nat.le_of_ble_eq_true rfl⟩ (x_recv (ci := 12) hkb hH 0 rfl rfl) rfl rfl hl.1 (Nat.le_of_ble_eq_true rfl) dX12_readSum_53 ⟨Nat.le_of_ble_eq_true rfl, Nat.le_of_ble_eq_true rfl⟩) (fun u H locs hz9 hH hS => ?_)
          obtain ⟨F53_1, rfl, x_v530, x_v531⟩ := hz9
          have s_F53_1 := x_v530
          have hH : HT D cs A T (a0 :: y4 :: O) ((a0, .inr (12, o0 :: o1 :: o2 :: (.ref y3) :: (.ref y4) :: o5 :: (.int n48_0_6) :: (.int n48_0_7) :: (.int y8) :: (.int n48_0_9) :: (.int n48_0_10) :: (.int n48_0_11) :: (.int n48_0_12) :: tl)) :: (y4, .inl (cs.2.1, 1302, .inl F53_1)) :: X) H := hH
          refine W.widen (k := 0) (n := 0) (Nat.le_of_ble_eq_true rfl) (Nat.le_of_ble_eq_true rfl) ?_
          refine lv_goto (tgt := 5) hx hb dX12_readSum_56 (by decide) ?_
          exact ih5 _ (by omega) n48_0_6 n48_0_7 n48_0_9 n48_0_10 n48_0_11 n48_0_12 F53_1 _ _ _ rfl s_F53_1 (by omega) (by omega) (by omega) (by omega) (by omega) (by omega) (by omega) (by omega) x_v484 (by omega) (by first | (refine RD_op if5 ?_ x_v487 x_v531; omega) | (refine RD_op x_v487 ?_ if5 x_v531; omega) | exact if5 | exact x_v487 | (refine RD_le if5 ?_; omega) | (refine RD_le x_v487 ?_; omega) | (intro q; obtain ⟨c1, c2⟩ := x_v531 q; refine ⟨?_, ?_, ?_⟩ <;> omega) | (intro q; obtain ⟨c0, c1, c2⟩ := x_v487 q; refine ⟨?_, ?_, ?_⟩ <;> omega) | (intro q; obtain ⟨c0, c1, c2⟩ := x_v487 q; obtain ⟨d1, d2⟩ := x_v531 q; refine ⟨?_, ?_, ?_⟩ <;> omega)) hH hS (lv_sub hl [1, 2] rfl)
        refine lv_icmp_ne (tgt := 38) hx hb dX12_readSum_29 (by decide) (fun c29 => ?_) (fun c29 => ?_)
        · skip
          have tc29 := f_ne (k := 32) (by decide) c29
          refine lv_sipush (v := 3001) hx hb dX12_readSum_38 (by decide) ?_
          exact J41 3001 _ _ _ (by decide) (by decide) hH hS (lv_sub hl [0, 1] rfl)
        · skip
          have tc29 := f_eq (k := 32) (by decide) c29
          refine lv_sipush (v := 3000) hx hb dX12_readSum_32 (by decide) ?_
          refine lv_goto (tgt := 41) hx hb dX12_readSum_35 (by decide) ?_
          exact J41 3000 _ _ _ (by decide) (by decide) hH hS (lv_sub hl [0, 1] rfl)
      refine lv_if_ne (tgt := 23) hx hb dX12_readSum_11 (by decide) (fun c11 => ?_) (fun c11 => ?_)
      · skip
        have tc11 := f_ne (k := 0) (by decide) c11
        replace x_v80 := x_v80.resolve_left tc11
        exact J23  _ _ _ (by omega) hH hS (lv_sub hl [0, 1] rfl)
      · skip
        have tc11 := f_eq (k := 0) (by decide) c11
        clear x_v80
        refine lv_aload_n hx hb dX12_readSum_14 rfl (lv_at hl 0 rfl) ?_
        refine lv_bipush (v := 33) hx hb dX12_readSum_15 (by decide) ?_
        have z9_33 : (33 : Int32).toInt = 33 := by decide
        refine tk_i hH hS hA (tr_V (n := 1) (As := [.int 33]) hx hb hml hown hts hkb hH (ox_map hOX rfl) hks hE hS hA (s_M_is l D cs kf T (y4 :: O) ((y4, .inl (cs.2.1, 1302, .inl g5_1)) :: X) a0 hg mq (33) o0 o1 o2 y3 y4 o5 f5_106 f5_107 y8 f5_109 f5_110 f5_111 f5_112 tl t_a0 b_hg t_y3 t_y4 (by omega) (by omega) (by omega) (by omega) (by omega) (by omega) (by omega) (by omega) (hO.sub (by decide))) kw_1370 kw_1372 ks_47 kw_13 kw_1373 (by decide +kernel) ⟨Nat.le_of_ble_eq_true rfl, Nat.le_of_ble_eq_true rfl⟩ (x_recv (ci := 12) hkb hH 0 rfl rfl) rfl rfl hl.1 (Nat.le_of_ble_eq_true rfl) dX12_readSum_17 ⟨Nat.le_of_ble_eq_true rfl, Nat.le_of_ble_eq_true rfl⟩) (fun v17 u H locs hz9 hH hS => ?_)
        obtain ⟨rfl, l_v17, u_v17, x_v170⟩ := hz9
        have hH : HT D cs A T (a0 :: y4 :: O) ((a0, .inr (12, o0 :: o1 :: o2 :: (.ref y3) :: (.ref y4) :: o5 :: (.int f5_106) :: (.int f5_107) :: (.int y8) :: (.int f5_109) :: (.int f5_110) :: (.int f5_111) :: (.int f5_112) :: tl)) :: (y4, .inl (cs.2.1, 1302, .inl g5_1)) :: X) H := hH
        refine W.widen (k := 0) (n := 0) (Nat.le_of_ble_eq_true rfl) (Nat.le_of_ble_eq_true rfl) ?_
        refine lv_if_eq (tgt := 59) hx hb dX12_readSum_20 (by decide) (fun c20 => ?_) (fun c20 => ?_)
        · skip
          have tc20 := f_eq (k := 0) (by decide) c20
          clear x_v170
          exact te_v hx hb hr hlocks hH hS (⟨f5_106, f5_107, f5_109, f5_110, f5_111, f5_112, g5_1, rfl, s_g5_1, by omega, by omega, by omega, ic5, by omega, by omega, (by first | exact if5 | (refine RD_le if5 ?_; omega) | (intro q; obtain ⟨c0, c1, c2⟩ := if5 q; refine ⟨?_, ?_, ?_⟩ <;> omega))⟩) dX12_readSum_59
        · skip
          have tc20 := f_ne (k := 0) (by decide) c20
          replace x_v170 := x_v170.resolve_left tc20
          exact J23  _ _ _ (by omega) hH hS (lv_sub hl [0, 1] rfl)
  refine tk_v hH hS hA (tr_V (n := 1) (As := [.int x1]) hx hb hml hown hts hkb hH (ox_map hOX rfl) hks hE hS hA (s_M_readTerm6 l D cs kf T O X a0 hg mq x1 o0 o1 o2 y3 y4 o5 y6 y7 y8 y9 y10 y11 y12 tl f4 t_a0 b_hg (by omega) (by omega) t_y3 t_y4 (by omega) (by omega) (by omega) (by omega) (by omega) (by omega) (by omega) (by omega) s_f4 (by omega) (by omega) k3 (by first | exact k4 | (intro _; omega)) (hO.sub (by decide))) kw_1426 kw_1428 ks_61 kw_13 kw_1429 (by decide +kernel) ⟨Nat.le_of_ble_eq_true rfl, Nat.le_of_ble_eq_true rfl⟩ (x_recv (ci := 12) hkb hH 0 rfl rfl) rfl rfl hl.1 (Nat.le_of_ble_eq_true rfl) dX12_readSum_2 ⟨Nat.le_of_ble_eq_true rfl, Nat.le_of_ble_eq_true rfl⟩) (fun u H locs hz9 hH hS => ?_)
  obtain ⟨n2_0_6, n2_0_7, n2_0_9, n2_0_10, n2_0_11, n2_0_12, F2_1, rfl, x_v20, x_v21, x_v22, x_v23, x_v24, x_v25, x_v26, x_v27⟩ := hz9
  have s_F2_1 := x_v20
  have hH : HT D cs A T (a0 :: y4 :: O) ((a0, .inr (12, o0 :: o1 :: o2 :: (.ref y3) :: (.ref y4) :: o5 :: (.int n2_0_6) :: (.int n2_0_7) :: (.int y8) :: (.int n2_0_9) :: (.int n2_0_10) :: (.int n2_0_11) :: (.int n2_0_12) :: tl)) :: (y4, .inl (cs.2.1, 1302, .inl F2_1)) :: X) H := hH
  refine W.widen (k := 0) (n := 0) (Nat.le_of_ble_eq_true rfl) (Nat.le_of_ble_eq_true rfl) ?_
  exact J5 _ n2_0_6 n2_0_7 n2_0_9 n2_0_10 n2_0_11 n2_0_12 F2_1 _ _ _ rfl s_F2_1 (by omega) (by omega) (by omega) (by omega) (by omega) (by omega) (by omega) (by omega) x_v24 (by omega) (by first | exact x_v27 | (refine RD_le x_v27 ?_; omega) | (intro q; obtain ⟨c0, c1, c2⟩ := x_v27 q; refine ⟨?_, ?_, ?_⟩ <;> omega)) hH hS (lv_sub hl [0, 1] rfl)
set_option maxHeartbeats 4000000 in
set_option maxRecDepth 100000 in
theorem s_M_readUnit6 (l : Launch) (D : va_G) (cs : CS) (kf : KF) (T : TF) (O : List Nat) (X : va_W) (a0 hg mq : Nat) (x1 : Int32) (o0 : Value) (o1 : Value) (o2 : Value) (y3 : Nat) (y4 : Nat) (o5 : Value) (y6 : Int32) (y7 : Int32) (y8 : Int32) (y9 : Int32) (y10 : Int32) (y11 : Int32) (y12 : Int32) (tl : List Value) (f4 : Nat → Int32) (t_a0 : T a0 = some (22, hg, mq)) (b_hg : hg < 90) (l_x1 : 6 ≤ x1.toInt) (u_x1 : x1.toInt ≤ 6) (t_y3 : T y3 = some (1, 900, 0)) (t_y4 : T y4 = some (8, 1302, 0)) (l_y6 : 0 ≤ y6.toInt) (u_y6 : y6.toInt ≤ 900) (l_y7 : 0 ≤ y7.toInt) (u_y7 : y7.toInt ≤ 900) (l_y8 : 0 ≤ y8.toInt) (u_y8 : y8.toInt ≤ 900) (l_y10 : 0 ≤ y10.toInt) (u_y10 : y10.toInt ≤ 999) (s_f4 : S8 f4) (k1 : y6.toInt ≤ y7.toInt) (k2 : y7.toInt ≤ y8.toInt) (k3 : TK3 y9 y6 y7) (k4 : SL y11 f4 y6) (hO : okO T (a0 :: y4 :: O) [1]) : TK l D cs kf yX12_readUnit cX12_readUnit 3 none { frames := 10, cells := 0, slots := 0, locals := 214 } [.ref a0, .int x1] T (a0 :: y4 :: O) ((a0, .inr (12, o0 :: o1 :: o2 :: (.ref y3) :: (.ref y4) :: o5 :: (.int y6) :: (.int y7) :: (.int y8) :: (.int y9) :: (.int y10) :: (.int y11) :: (.int y12) :: tl)) :: (y4, .inl (cs.2.1, 1302, .inl f4)) :: X) (Tv D cs (fun u => ∃ (n0_6 : Int32) (n0_7 : Int32) (n0_9 : Int32) (n0_10 : Int32) (n0_11 : Int32) (n0_12 : Int32) (G1 : Nat → Int32), u = (T, a0 :: y4 :: O, (a0, .inr (12, o0 :: o1 :: o2 :: (.ref y3) :: (.ref y4) :: o5 :: (.int n0_6) :: (.int n0_7) :: (.int y8) :: (.int n0_9) :: (.int n0_10) :: (.int n0_11) :: (.int n0_12) :: tl)) :: (y4, .inl (cs.2.1, 1302, .inl G1)) :: X) ∧ (S8 G1) ∧ (y6.toInt ≤ n0_6.toInt) ∧ (n0_6.toInt ≤ n0_7.toInt) ∧ (n0_7.toInt ≤ y8.toInt) ∧ (TK3 n0_9 n0_6 n0_7) ∧ (0 ≤ n0_10.toInt) ∧ (n0_10.toInt ≤ 999) ∧ (RD f4 G1 y6 n0_6 y11 n0_11))) := by
  refine tk_of (by decide) (Nat.le_of_ble_eq_true rfl) (fun p e s m below meth c ls A H locs hx hb hr hml hown hts hlocks hnm hkb hH hS hA hOX hks hE hl => ?_)
  have hown : s.vm.findClass RX12 = some m.cls := hown
  have hl : lv_has ls 3 [(0, .ref a0), (1, .int x1)] := hl
  have hOXf := hOX
  have hd0 := dpt_nn s_f4
  refine lv_aload_n hx hb dX12_readUnit_0 rfl (lv_at hl 0 rfl) ?_
  refine lv_bipush (v := 15) hx hb dX12_readUnit_1 (by decide) ?_
  have z9_15 : (15 : Int32).toInt = 15 := by decide
  refine tk_i hH hS hA (tr_V (n := 1) (As := [.int 15]) hx hb hml hown hts hkb hH (ox_map hOX rfl) hks hE hS hA (s_M_is l D cs kf T (y4 :: O) ((y4, .inl (cs.2.1, 1302, .inl f4)) :: X) a0 hg mq (15) o0 o1 o2 y3 y4 o5 y6 y7 y8 y9 y10 y11 y12 tl t_a0 b_hg t_y3 t_y4 (by omega) (by omega) (by omega) (by omega) (by omega) (by omega) (by omega) (by omega) (hO.sub (by decide))) kw_1370 kw_1372 ks_47 kw_13 kw_1373 (by decide +kernel) ⟨Nat.le_of_ble_eq_true rfl, Nat.le_of_ble_eq_true rfl⟩ (x_recv (ci := 12) hkb hH 0 rfl rfl) rfl rfl hl.1 (Nat.le_of_ble_eq_true rfl) dX12_readUnit_3 ⟨Nat.le_of_ble_eq_true rfl, Nat.le_of_ble_eq_true rfl⟩) (fun v3 u H locs hz9 hH hS => ?_)
  obtain ⟨rfl, l_v3, u_v3, x_v30⟩ := hz9
  have hH : HT D cs A T (a0 :: y4 :: O) ((a0, .inr (12, o0 :: o1 :: o2 :: (.ref y3) :: (.ref y4) :: o5 :: (.int y6) :: (.int y7) :: (.int y8) :: (.int y9) :: (.int y10) :: (.int y11) :: (.int y12) :: tl)) :: (y4, .inl (cs.2.1, 1302, .inl f4)) :: X) H := hH
  refine W.widen (k := 0) (n := 0) (Nat.le_of_ble_eq_true rfl) (Nat.le_of_ble_eq_true rfl) ?_
  refine lv_if_eq (tgt := 33) hx hb dX12_readUnit_6 (by decide) (fun c6 => ?_) (fun c6 => ?_)
  · skip
    have tc6 := f_eq (k := 0) (by decide) c6
    clear x_v30
    refine lv_aload_n hx hb dX12_readUnit_33 rfl (lv_at hl 0 rfl) ?_
    refine lv_bipush (v := 37) hx hb dX12_readUnit_34 (by decide) ?_
    have z9_37 : (37 : Int32).toInt = 37 := by decide
    refine tk_i hH hS hA (tr_V (n := 1) (As := [.int 37]) hx hb hml hown hts hkb hH (ox_map hOX rfl) hks hE hS hA (s_M_is l D cs kf T (y4 :: O) ((y4, .inl (cs.2.1, 1302, .inl f4)) :: X) a0 hg mq (37) o0 o1 o2 y3 y4 o5 y6 y7 y8 y9 y10 y11 y12 tl t_a0 b_hg t_y3 t_y4 (by omega) (by omega) (by omega) (by omega) (by omega) (by omega) (by omega) (by omega) (hO.sub (by decide))) kw_1370 kw_1372 ks_47 kw_13 kw_1373 (by decide +kernel) ⟨Nat.le_of_ble_eq_true rfl, Nat.le_of_ble_eq_true rfl⟩ (x_recv (ci := 12) hkb hH 0 rfl rfl) rfl rfl hl.1 (Nat.le_of_ble_eq_true rfl) dX12_readUnit_36 ⟨Nat.le_of_ble_eq_true rfl, Nat.le_of_ble_eq_true rfl⟩) (fun v36 u H locs hz9 hH hS => ?_)
    obtain ⟨rfl, l_v36, u_v36, x_v360⟩ := hz9
    have hH : HT D cs A T (a0 :: y4 :: O) ((a0, .inr (12, o0 :: o1 :: o2 :: (.ref y3) :: (.ref y4) :: o5 :: (.int y6) :: (.int y7) :: (.int y8) :: (.int y9) :: (.int y10) :: (.int y11) :: (.int y12) :: tl)) :: (y4, .inl (cs.2.1, 1302, .inl f4)) :: X) H := hH
    refine W.widen (k := 0) (n := 0) (Nat.le_of_ble_eq_true rfl) (Nat.le_of_ble_eq_true rfl) ?_
    refine lv_if_eq (tgt := 73) hx hb dX12_readUnit_39 (by decide) (fun c39 => ?_) (fun c39 => ?_)
    · skip
      have tc39 := f_eq (k := 0) (by decide) c39
      clear x_v360
      refine lv_aload_n hx hb dX12_readUnit_73 rfl (lv_at hl 0 rfl) ?_
      refine lv_iload_n hx hb dX12_readUnit_74 rfl (lv_at hl 1 rfl) ?_
      refine tk_v hH hS hA (tr_V (n := 1) (As := [.int x1]) hx hb hml hown hts hkb hH (ox_map hOX rfl) hks hE hS hA (s_M_readSum6 l D cs kf T O X a0 hg mq x1 o0 o1 o2 y3 y4 o5 y6 y7 y8 y9 y10 y11 y12 tl f4 t_a0 b_hg (by omega) (by omega) t_y3 t_y4 (by omega) (by omega) (by omega) (by omega) (by omega) (by omega) (by omega) (by omega) s_f4 (by omega) (by omega) k3 (by first | exact k4 | (intro _; omega)) (hO.sub (by decide))) kw_1422 kw_1424 ks_60 kw_13 kw_1425 (by decide +kernel) ⟨Nat.le_of_ble_eq_true rfl, Nat.le_of_ble_eq_true rfl⟩ (x_recv (ci := 12) hkb hH 0 rfl rfl) rfl rfl hl.1 (Nat.le_of_ble_eq_true rfl) dX12_readUnit_75 ⟨Nat.le_of_ble_eq_true rfl, Nat.le_of_ble_eq_true rfl⟩) (fun u H locs hz9 hH hS => ?_)
      obtain ⟨n75_0_6, n75_0_7, n75_0_9, n75_0_10, n75_0_11, n75_0_12, F75_1, rfl, x_v750, x_v751, x_v752, x_v753, x_v754, x_v755, x_v756, x_v757⟩ := hz9
      have s_F75_1 := x_v750
      have hH : HT D cs A T (a0 :: y4 :: O) ((a0, .inr (12, o0 :: o1 :: o2 :: (.ref y3) :: (.ref y4) :: o5 :: (.int n75_0_6) :: (.int n75_0_7) :: (.int y8) :: (.int n75_0_9) :: (.int n75_0_10) :: (.int n75_0_11) :: (.int n75_0_12) :: tl)) :: (y4, .inl (cs.2.1, 1302, .inl F75_1)) :: X) H := hH
      refine W.widen (k := 0) (n := 0) (Nat.le_of_ble_eq_true rfl) (Nat.le_of_ble_eq_true rfl) ?_
      refine lv_aload_n hx hb dX12_readUnit_78 rfl (lv_at hl 0 rfl) ?_
      refine lv_bipush (v := 39) hx hb dX12_readUnit_79 (by decide) ?_
      have z9_39 : (39 : Int32).toInt = 39 := by decide
      refine tk_i hH hS hA (tr_V (n := 1) (As := [.int 39]) hx hb hml hown hts hkb hH (ox_map hOX rfl) hks hE hS hA (s_M_is l D cs kf T (y4 :: O) ((y4, .inl (cs.2.1, 1302, .inl F75_1)) :: X) a0 hg mq (39) o0 o1 o2 y3 y4 o5 n75_0_6 n75_0_7 y8 n75_0_9 n75_0_10 n75_0_11 n75_0_12 tl t_a0 b_hg t_y3 t_y4 (by omega) (by omega) (by omega) (by omega) (by omega) (by omega) (by omega) (by omega) (hO.sub (by decide))) kw_1370 kw_1372 ks_47 kw_13 kw_1373 (by decide +kernel) ⟨Nat.le_of_ble_eq_true rfl, Nat.le_of_ble_eq_true rfl⟩ (x_recv (ci := 12) hkb hH 0 rfl rfl) rfl rfl hl.1 (Nat.le_of_ble_eq_true rfl) dX12_readUnit_81 ⟨Nat.le_of_ble_eq_true rfl, Nat.le_of_ble_eq_true rfl⟩) (fun v81 u H locs hz9 hH hS => ?_)
      obtain ⟨rfl, l_v81, u_v81, x_v810⟩ := hz9
      have hH : HT D cs A T (a0 :: y4 :: O) ((a0, .inr (12, o0 :: o1 :: o2 :: (.ref y3) :: (.ref y4) :: o5 :: (.int n75_0_6) :: (.int n75_0_7) :: (.int y8) :: (.int n75_0_9) :: (.int n75_0_10) :: (.int n75_0_11) :: (.int n75_0_12) :: tl)) :: (y4, .inl (cs.2.1, 1302, .inl F75_1)) :: X) H := hH
      refine W.widen (k := 0) (n := 0) (Nat.le_of_ble_eq_true rfl) (Nat.le_of_ble_eq_true rfl) ?_
      have J111 : ∀ (k111_0 : Int32) (H : Heap) (locs : List Loc) (ls : Array Slot), (3003 ≤ k111_0.toInt) → (k111_0.toInt ≤ 3005) → HT D cs A T (a0 :: y4 :: O) ((a0, .inr (12, o0 :: o1 :: o2 :: (.ref y3) :: (.ref y4) :: o5 :: (.int n75_0_6) :: (.int n75_0_7) :: (.int y8) :: (.int n75_0_9) :: (.int n75_0_10) :: (.int n75_0_11) :: (.int n75_0_12) :: tl)) :: (y4, .inl (cs.2.1, 1302, .inl F75_1)) :: X) H → va_S A s.heap H locs → lv_has ls 3 [(0, .ref a0), (1, .int x1)] → W p l e { frames := 10, cells := 0, slots := 0, locals := 214 } s m [.ref a0, .int x1].toArray below meth c H locs 0 0 (MQ below (Tv D cs (fun u => ∃ (n0_6 : Int32) (n0_7 : Int32) (n0_9 : Int32) (n0_10 : Int32) (n0_11 : Int32) (n0_12 : Int32) (G1 : Nat → Int32), u = (T, a0 :: y4 :: O, (a0, .inr (12, o0 :: o1 :: o2 :: (.ref y3) :: (.ref y4) :: o5 :: (.int n0_6) :: (.int n0_7) :: (.int y8) :: (.int n0_9) :: (.int n0_10) :: (.int n0_11) :: (.int n0_12) :: tl)) :: (y4, .inl (cs.2.1, 1302, .inl G1)) :: X) ∧ (S8 G1) ∧ (y6.toInt ≤ n0_6.toInt) ∧ (n0_6.toInt ≤ n0_7.toInt) ∧ (n0_7.toInt ≤ y8.toInt) ∧ (TK3 n0_9 n0_6 n0_7) ∧ (0 ≤ n0_10.toInt) ∧ (n0_10.toInt ≤ 999) ∧ (RD f4 G1 y6 n0_6 y11 n0_11)) A) [.ref a0, .int x1].toArray s 0 0 A) (F0 m 111 ls [.int k111_0]) := by
        intro k111_0 H locs ls l_k111_0 u_k111_0 hH hS hl
        refine lv_istore_n (lv' := [(2, .int k111_0), (0, .ref a0), (1, .int x1)]) hx hb dX12_readUnit_111 rfl hl (by decide) rfl (fun ls hl => ?_)
        refine lv_aload_n hx hb dX12_readUnit_112 rfl (lv_at hl 1 rfl) ?_
        refine lv_bipush (v := 39) hx hb dX12_readUnit_113 (by decide) ?_
        have z9_39 : (39 : Int32).toInt = 39 := by decide
        refine tk_i hH hS hA (tr_V (n := 1) (As := [.int 39]) hx hb hml hown hts hkb hH (ox_map hOX rfl) hks hE hS hA (s_M_is l D cs kf T (y4 :: O) ((y4, .inl (cs.2.1, 1302, .inl F75_1)) :: X) a0 hg mq (39) o0 o1 o2 y3 y4 o5 n75_0_6 n75_0_7 y8 n75_0_9 n75_0_10 n75_0_11 n75_0_12 tl t_a0 b_hg t_y3 t_y4 (by omega) (by omega) (by omega) (by omega) (by omega) (by omega) (by omega) (by omega) (hO.sub (by decide))) kw_1370 kw_1372 ks_47 kw_13 kw_1373 (by decide +kernel) ⟨Nat.le_of_ble_eq_true rfl, Nat.le_of_ble_eq_true rfl⟩ (x_recv (ci := 12) hkb hH 0 rfl rfl) rfl rfl hl.1 (Nat.le_of_ble_eq_true rfl) dX12_readUnit_115 ⟨Nat.le_of_ble_eq_true rfl, Nat.le_of_ble_eq_true rfl⟩) (fun v115 u H locs hz9 hH hS => ?_)
        obtain ⟨rfl, l_v115, u_v115, x_v1150⟩ := hz9
        have hH : HT D cs A T (a0 :: y4 :: O) ((a0, .inr (12, o0 :: o1 :: o2 :: (.ref y3) :: (.ref y4) :: o5 :: (.int n75_0_6) :: (.int n75_0_7) :: (.int y8) :: (.int n75_0_9) :: (.int n75_0_10) :: (.int n75_0_11) :: (.int n75_0_12) :: tl)) :: (y4, .inl (cs.2.1, 1302, .inl F75_1)) :: X) H := hH
        refine W.widen (k := 0) (n := 0) (Nat.le_of_ble_eq_true rfl) (Nat.le_of_ble_eq_true rfl) ?_
        have J139 : ∀  (H : Heap) (locs : List Loc) (ls : Array Slot), (n75_0_11.toInt = 0 ∧ n75_0_9.toInt ≠ 22) → HT D cs A T (a0 :: y4 :: O) ((a0, .inr (12, o0 :: o1 :: o2 :: (.ref y3) :: (.ref y4) :: o5 :: (.int n75_0_6) :: (.int n75_0_7) :: (.int y8) :: (.int n75_0_9) :: (.int n75_0_10) :: (.int n75_0_11) :: (.int n75_0_12) :: tl)) :: (y4, .inl (cs.2.1, 1302, .inl F75_1)) :: X) H → va_S A s.heap H locs → lv_has ls 3 [(2, .int k111_0), (0, .ref a0), (1, .int x1)] → W p l e { frames := 10, cells := 0, slots := 0, locals := 214 } s m [.ref a0, .int x1].toArray below meth c H locs 0 0 (MQ below (Tv D cs (fun u => ∃ (n0_6 : Int32) (n0_7 : Int32) (n0_9 : Int32) (n0_10 : Int32) (n0_11 : Int32) (n0_12 : Int32) (G1 : Nat → Int32), u = (T, a0 :: y4 :: O, (a0, .inr (12, o0 :: o1 :: o2 :: (.ref y3) :: (.ref y4) :: o5 :: (.int n0_6) :: (.int n0_7) :: (.int y8) :: (.int n0_9) :: (.int n0_10) :: (.int n0_11) :: (.int n0_12) :: tl)) :: (y4, .inl (cs.2.1, 1302, .inl G1)) :: X) ∧ (S8 G1) ∧ (y6.toInt ≤ n0_6.toInt) ∧ (n0_6.toInt ≤ n0_7.toInt) ∧ (n0_7.toInt ≤ y8.toInt) ∧ (TK3 n0_9 n0_6 n0_7) ∧ (0 ≤ n0_10.toInt) ∧ (n0_10.toInt ≤ 999) ∧ (RD f4 G1 y6 n0_6 y11 n0_11)) A) [.ref a0, .int x1].toArray s 0 0 A) (F0 m 139 ls []) := by
          intro  H locs ls ih139 hH hS hl
          have hk5 := x_v754 ih139.2
          refine lv_aload_n hx hb dX12_readUnit_139 rfl (lv_at hl 1 rfl) ?_
          refine tk_v hH hS hA (tr_V (n := 0) (As := []) hx hb hml hown hts hkb hH (ox_map hOX rfl) hks hE hS hA (s_M_next l D cs kf T (y4 :: O) ((y4, .inl (cs.2.1, 1302, .inl F75_1)) :: X) a0 hg mq o0 o1 o2 y3 y4 o5 n75_0_6 n75_0_7 y8 n75_0_9 n75_0_10 n75_0_11 n75_0_12 tl t_a0 b_hg t_y3 t_y4 (by omega) (by omega) (by omega) (by omega) (by omega) (by omega) (by omega) (by omega) (by omega) (hO.sub (by decide))) kw_1344 kw_1346 ks_43 kw_13 kw_1347 (by decide +kernel) ⟨Nat.le_of_ble_eq_true rfl, Nat.le_of_ble_eq_true rfl⟩ (x_recv (ci := 12) hkb hH 0 rfl rfl) rfl rfl hl.1 (Nat.le_of_ble_eq_true rfl) dX12_readUnit_140 ⟨Nat.le_of_ble_eq_true rfl, Nat.le_of_ble_eq_true rfl⟩) (fun u H locs hz9 hH hS => ?_)
          obtain ⟨n140_0_6, n140_0_7, n140_0_9, n140_0_10, rfl, x_v1400, x_v1401, x_v1402, x_v1403, x_v1404, x_v1405⟩ := hz9
          have hH : HT D cs A T (a0 :: y4 :: O) ((a0, .inr (12, o0 :: o1 :: o2 :: (.ref y3) :: (.ref y4) :: o5 :: (.int n140_0_6) :: (.int n140_0_7) :: (.int y8) :: (.int n140_0_9) :: (.int n140_0_10) :: (.int n75_0_11) :: (.int n75_0_12) :: tl)) :: (y4, .inl (cs.2.1, 1302, .inl F75_1)) :: X) H := hH
          refine W.widen (k := 0) (n := 0) (Nat.le_of_ble_eq_true rfl) (Nat.le_of_ble_eq_true rfl) ?_
          refine lv_goto (tgt := 151) hx hb dX12_readUnit_143 (by decide) ?_
          refine lv_aload_n hx hb dX12_readUnit_151 rfl (lv_at hl 1 rfl) ?_
          refine lv_iload_n hx hb dX12_readUnit_152 rfl (lv_at hl 2 rfl) ?_
          refine tk_v hH hS hA (tr_V (n := 1) (As := [.int x1]) hx hb hml hown hts hkb hH (ox_map hOX rfl) hks hE hS hA (s_M_readSum6 l D cs kf T O X a0 hg mq x1 o0 o1 o2 y3 y4 o5 n140_0_6 n140_0_7 y8 n140_0_9 n140_0_10 n75_0_11 n75_0_12 tl F75_1 t_a0 b_hg (by omega) (by omega) t_y3 t_y4 (by omega) (by omega) (by omega) (by omega) (by omega) (by omega) (by omega) (by omega) s_F75_1 (by omega) (by omega) x_v1403 (by first | exact k4 | (refine RD_sl k4 x_v757 ?_; omega) | (intro _; omega)) (hO.sub (by decide))) kw_1422 kw_1424 ks_60 kw_13 kw_1425 (by decide +kernel) ⟨Nat.le_of_ble_eq_true rfl, Nat.le_of_ble_eq_true rfl⟩ (x_recv (ci := 12) hkb hH 0 rfl rfl) rfl rfl hl.1 (Nat.le_of_ble_eq_true rfl) dX12_readUnit_153 ⟨Nat.le_of_ble_eq_true rfl, Nat.le_of_ble_eq_true rfl⟩) (fun u H locs hz9 hH hS => ?_)
          obtain ⟨n153_0_6, n153_0_7, n153_0_9, n153_0_10, n153_0_11, n153_0_12, F153_1, rfl, x_v1530, x_v1531, x_v1532, x_v1533, x_v1534, x_v1535, x_v1536, x_v1537⟩ := hz9
          have s_F153_1 := x_v1530
          have hH : HT D cs A T (a0 :: y4 :: O) ((a0, .inr (12, o0 :: o1 :: o2 :: (.ref y3) :: (.ref y4) :: o5 :: (.int n153_0_6) :: (.int n153_0_7) :: (.int y8) :: (.int n153_0_9) :: (.int n153_0_10) :: (.int n153_0_11) :: (.int n153_0_12) :: tl)) :: (y4, .inl (cs.2.1, 1302, .inl F153_1)) :: X) H := hH
          refine W.widen (k := 0) (n := 0) (Nat.le_of_ble_eq_true rfl) (Nat.le_of_ble_eq_true rfl) ?_
          refine lv_aload_n hx hb dX12_readUnit_156 rfl (lv_at hl 1 rfl) ?_
          refine lv_iload_n hx hb dX12_readUnit_157 rfl (lv_at hl 0 rfl) ?_
          refine tk_v hH hS hA (tr_V (n := 1) (As := [.int k111_0]) hx hb hml hown hts hkb hH (ox_map hOX rfl) hks hE hS hA (s_M_codesO l D cs kf T O X a0 hg mq k111_0 o0 o1 o2 y3 y4 o5 n153_0_6 n153_0_7 y8 n153_0_9 n153_0_10 n153_0_11 n153_0_12 tl F153_1 t_a0 b_hg (by omega) (by omega) t_y3 t_y4 (by omega) (by omega) (by omega) (by omega) (by omega) (by omega) (by omega) (by omega) s_F153_1 (by first | (intro q; constructor <;> omega) | (intro q; obtain ⟨c0, c1, c2⟩ := x_v757 q; constructor <;> omega) | (intro q; obtain ⟨c0, c1, c2⟩ := x_v1537 q; constructor <;> omega) | (refine RD_cp k4 hd0 x_v757 ?_ x_v1537 ?_ <;> omega) | (refine RD_cp k4 hd0 x_v1537 ?_ x_v757 ?_ <;> omega)) (hO.sub (by decide))) kw_1418 kw_1420 ks_59 kw_13 kw_1421 (by decide +kernel) ⟨Nat.le_of_ble_eq_true rfl, Nat.le_of_ble_eq_true rfl⟩ (x_recv (ci := 12) hkb hH 0 rfl rfl) rfl rfl hl.1 (Nat.le_of_ble_eq_true rfl) dX12_readUnit_158 ⟨Nat.le_of_ble_eq_true rfl, Nat.le_of_ble_eq_true rfl⟩) (fun u H locs hz9 hH hS => ?_)
          obtain ⟨F158_1, rfl, x_v1580, x_v1581⟩ := hz9
          have s_F158_1 := x_v1580
          have hH : HT D cs A T (a0 :: y4 :: O) ((a0, .inr (12, o0 :: o1 :: o2 :: (.ref y3) :: (.ref y4) :: o5 :: (.int n153_0_6) :: (.int n153_0_7) :: (.int y8) :: (.int n153_0_9) :: (.int n153_0_10) :: (.int n153_0_11) :: (.int n153_0_12) :: tl)) :: (y4, .inl (cs.2.1, 1302, .inl F158_1)) :: X) H := hH
          refine W.widen (k := 0) (n := 0) (Nat.le_of_ble_eq_true rfl) (Nat.le_of_ble_eq_true rfl) ?_
          exact te_v hx hb hr hlocks hH hS (⟨n153_0_6, n153_0_7, n153_0_9, n153_0_10, n153_0_11, n153_0_12, F158_1, rfl, s_F158_1, by omega, by omega, by omega, x_v1534, by omega, by omega, (by first | (refine RD_op x_v757 ?_ x_v1537 x_v1581; omega) | (refine RD_op x_v1537 ?_ x_v757 x_v1581; omega) | exact x_v757 | exact x_v1537 | (refine RD_le x_v757 ?_; omega) | (refine RD_le x_v1537 ?_; omega) | (intro q; obtain ⟨c1, c2⟩ := x_v1581 q; refine ⟨?_, ?_, ?_⟩ <;> omega) | (intro q; obtain ⟨c0, c1, c2⟩ := x_v1537 q; refine ⟨?_, ?_, ?_⟩ <;> omega) | (intro q; obtain ⟨c0, c1, c2⟩ := x_v1537 q; obtain ⟨d1, d2⟩ := x_v1581 q; refine ⟨?_, ?_, ?_⟩ <;> omega))⟩) dX12_readUnit_161
        refine lv_if_ne (tgt := 139) hx hb dX12_readUnit_118 (by decide) (fun c118 => ?_) (fun c118 => ?_)
        · skip
          have tc118 := f_ne (k := 0) (by decide) c118
          replace x_v1150 := x_v1150.resolve_left tc118
          exact J139  _ _ _ (by omega) hH hS (lv_sub hl [0, 1, 2] rfl)
        · skip
          have tc118 := f_eq (k := 0) (by decide) c118
          clear x_v1150
          refine lv_aload_n hx hb dX12_readUnit_121 rfl (lv_at hl 1 rfl) ?_
          refine lv_bipush (v := 40) hx hb dX12_readUnit_122 (by decide) ?_
          have z9_40 : (40 : Int32).toInt = 40 := by decide
          refine tk_i hH hS hA (tr_V (n := 1) (As := [.int 40]) hx hb hml hown hts hkb hH (ox_map hOX rfl) hks hE hS hA (s_M_is l D cs kf T (y4 :: O) ((y4, .inl (cs.2.1, 1302, .inl F75_1)) :: X) a0 hg mq (40) o0 o1 o2 y3 y4 o5 n75_0_6 n75_0_7 y8 n75_0_9 n75_0_10 n75_0_11 n75_0_12 tl t_a0 b_hg t_y3 t_y4 (by omega) (by omega) (by omega) (by omega) (by omega) (by omega) (by omega) (by omega) (hO.sub (by decide))) kw_1370 kw_1372 ks_47 kw_13 kw_1373 (by decide +kernel) ⟨Nat.le_of_ble_eq_true rfl, Nat.le_of_ble_eq_true rfl⟩ (x_recv (ci := 12) hkb hH 0 rfl rfl) rfl rfl hl.1 (Nat.le_of_ble_eq_true rfl) dX12_readUnit_124 ⟨Nat.le_of_ble_eq_true rfl, Nat.le_of_ble_eq_true rfl⟩) (fun v124 u H locs hz9 hH hS => ?_)
          obtain ⟨rfl, l_v124, u_v124, x_v1240⟩ := hz9
          have hH : HT D cs A T (a0 :: y4 :: O) ((a0, .inr (12, o0 :: o1 :: o2 :: (.ref y3) :: (.ref y4) :: o5 :: (.int n75_0_6) :: (.int n75_0_7) :: (.int y8) :: (.int n75_0_9) :: (.int n75_0_10) :: (.int n75_0_11) :: (.int n75_0_12) :: tl)) :: (y4, .inl (cs.2.1, 1302, .inl F75_1)) :: X) H := hH
          refine W.widen (k := 0) (n := 0) (Nat.le_of_ble_eq_true rfl) (Nat.le_of_ble_eq_true rfl) ?_
          refine lv_if_ne (tgt := 139) hx hb dX12_readUnit_127 (by decide) (fun c127 => ?_) (fun c127 => ?_)
          · skip
            have tc127 := f_ne (k := 0) (by decide) c127
            replace x_v1240 := x_v1240.resolve_left tc127
            exact J139  _ _ _ (by omega) hH hS (lv_sub hl [0, 1, 2] rfl)
          · skip
            have tc127 := f_eq (k := 0) (by decide) c127
            clear x_v1240
            refine lv_aload_n hx hb dX12_readUnit_130 rfl (lv_at hl 1 rfl) ?_
            refine lv_bipush (v := 41) hx hb dX12_readUnit_131 (by decide) ?_
            have z9_41 : (41 : Int32).toInt = 41 := by decide
            refine tk_i hH hS hA (tr_V (n := 1) (As := [.int 41]) hx hb hml hown hts hkb hH (ox_map hOX rfl) hks hE hS hA (s_M_is l D cs kf T (y4 :: O) ((y4, .inl (cs.2.1, 1302, .inl F75_1)) :: X) a0 hg mq (41) o0 o1 o2 y3 y4 o5 n75_0_6 n75_0_7 y8 n75_0_9 n75_0_10 n75_0_11 n75_0_12 tl t_a0 b_hg t_y3 t_y4 (by omega) (by omega) (by omega) (by omega) (by omega) (by omega) (by omega) (by omega) (hO.sub (by decide))) kw_1370 kw_1372 ks_47 kw_13 kw_1373 (by decide +kernel) ⟨Nat.le_of_ble_eq_true rfl, Nat.le_of_ble_eq_true rfl⟩ (x_recv (ci := 12) hkb hH 0 rfl rfl) rfl rfl hl.1 (Nat.le_of_ble_eq_true rfl) dX12_readUnit_133 ⟨Nat.le_of_ble_eq_true rfl, Nat.le_of_ble_eq_true rfl⟩) (fun v133 u H locs hz9 hH hS => ?_)
            obtain ⟨rfl, l_v133, u_v133, x_v1330⟩ := hz9
            have hH : HT D cs A T (a0 :: y4 :: O) ((a0, .inr (12, o0 :: o1 :: o2 :: (.ref y3) :: (.ref y4) :: o5 :: (.int n75_0_6) :: (.int n75_0_7) :: (.int y8) :: (.int n75_0_9) :: (.int n75_0_10) :: (.int n75_0_11) :: (.int n75_0_12) :: tl)) :: (y4, .inl (cs.2.1, 1302, .inl F75_1)) :: X) H := hH
            refine W.widen (k := 0) (n := 0) (Nat.le_of_ble_eq_true rfl) (Nat.le_of_ble_eq_true rfl) ?_
            refine lv_if_eq (tgt := 146) hx hb dX12_readUnit_136 (by decide) (fun c136 => ?_) (fun c136 => ?_)
            · skip
              have tc136 := f_eq (k := 0) (by decide) c136
              clear x_v1330
              refine lv_aload_n hx hb dX12_readUnit_146 rfl (lv_at hl 1 rfl) ?_
              refine lv_iconst (v := 2) hx hb dX12_readUnit_147 (by decide) ?_
              have z9_2 : (2 : Int32).toInt = 2 := by decide
              refine tk_v hH hS hA (tr_V (n := 1) (As := [.int 2]) hx hb hml hown hts hkb hH (ox_map hOX rfl) hks hE hS hA (s_M_fails l D cs kf T (y4 :: O) ((y4, .inl (cs.2.1, 1302, .inl F75_1)) :: X) a0 hg mq (2) o0 o1 o2 y3 y4 o5 n75_0_6 n75_0_7 y8 n75_0_9 n75_0_10 n75_0_11 n75_0_12 tl t_a0 b_hg (by decide) (by decide) t_y3 t_y4 (by omega) (by omega) (by omega) (by omega) (by omega) (by omega) (by omega) (by omega) (hO.sub (by decide))) kw_1378 kw_1380 ks_49 kw_13 kw_1381 (by decide +kernel) ⟨Nat.le_of_ble_eq_true rfl, Nat.le_of_ble_eq_true rfl⟩ (x_recv (ci := 12) hkb hH 0 rfl rfl) rfl rfl hl.1 (Nat.le_of_ble_eq_true rfl) dX12_readUnit_148 ⟨Nat.le_of_ble_eq_true rfl, Nat.le_of_ble_eq_true rfl⟩) (fun u H locs hz9 hH hS => ?_)
              obtain ⟨n148_0_11, n148_0_12, rfl, x_v1480⟩ := hz9
              have hH : HT D cs A T (a0 :: y4 :: O) ((a0, .inr (12, o0 :: o1 :: o2 :: (.ref y3) :: (.ref y4) :: o5 :: (.int n75_0_6) :: (.int n75_0_7) :: (.int y8) :: (.int n75_0_9) :: (.int n75_0_10) :: (.int n148_0_11) :: (.int n148_0_12) :: tl)) :: (y4, .inl (cs.2.1, 1302, .inl F75_1)) :: X) H := hH
              refine W.widen (k := 0) (n := 0) (Nat.le_of_ble_eq_true rfl) (Nat.le_of_ble_eq_true rfl) ?_
              refine lv_aload_n hx hb dX12_readUnit_151 rfl (lv_at hl 1 rfl) ?_
              refine lv_iload_n hx hb dX12_readUnit_152 rfl (lv_at hl 2 rfl) ?_
              refine tk_v hH hS hA (tr_V (n := 1) (As := [.int x1]) hx hb hml hown hts hkb hH (ox_map hOX rfl) hks hE hS hA (s_M_readSum6 l D cs kf T O X a0 hg mq x1 o0 o1 o2 y3 y4 o5 n75_0_6 n75_0_7 y8 n75_0_9 n75_0_10 n148_0_11 n148_0_12 tl F75_1 t_a0 b_hg (by omega) (by omega) t_y3 t_y4 (by omega) (by omega) (by omega) (by omega) (by omega) (by omega) (by omega) (by omega) s_F75_1 (by omega) (by omega) x_v754 (by first | exact k4 | exact (fun q => absurd q x_v1480) | (refine RD_sl k4 x_v757 ?_; omega) | (intro _; omega)) (hO.sub (by decide))) kw_1422 kw_1424 ks_60 kw_13 kw_1425 (by decide +kernel) ⟨Nat.le_of_ble_eq_true rfl, Nat.le_of_ble_eq_true rfl⟩ (x_recv (ci := 12) hkb hH 0 rfl rfl) rfl rfl hl.1 (Nat.le_of_ble_eq_true rfl) dX12_readUnit_153 ⟨Nat.le_of_ble_eq_true rfl, Nat.le_of_ble_eq_true rfl⟩) (fun u H locs hz9 hH hS => ?_)
              obtain ⟨n153_0_6, n153_0_7, n153_0_9, n153_0_10, n153_0_11, n153_0_12, F153_1, rfl, x_v1530, x_v1531, x_v1532, x_v1533, x_v1534, x_v1535, x_v1536, x_v1537⟩ := hz9
              have s_F153_1 := x_v1530
              have hH : HT D cs A T (a0 :: y4 :: O) ((a0, .inr (12, o0 :: o1 :: o2 :: (.ref y3) :: (.ref y4) :: o5 :: (.int n153_0_6) :: (.int n153_0_7) :: (.int y8) :: (.int n153_0_9) :: (.int n153_0_10) :: (.int n153_0_11) :: (.int n153_0_12) :: tl)) :: (y4, .inl (cs.2.1, 1302, .inl F153_1)) :: X) H := hH
              refine W.widen (k := 0) (n := 0) (Nat.le_of_ble_eq_true rfl) (Nat.le_of_ble_eq_true rfl) ?_
              refine lv_aload_n hx hb dX12_readUnit_156 rfl (lv_at hl 1 rfl) ?_
              refine lv_iload_n hx hb dX12_readUnit_157 rfl (lv_at hl 0 rfl) ?_
              refine tk_v hH hS hA (tr_V (n := 1) (As := [.int k111_0]) hx hb hml hown hts hkb hH (ox_map hOX rfl) hks hE hS hA (s_M_codesO l D cs kf T O X a0 hg mq k111_0 o0 o1 o2 y3 y4 o5 n153_0_6 n153_0_7 y8 n153_0_9 n153_0_10 n153_0_11 n153_0_12 tl F153_1 t_a0 b_hg (by omega) (by omega) t_y3 t_y4 (by omega) (by omega) (by omega) (by omega) (by omega) (by omega) (by omega) (by omega) s_F153_1 (by first | exact (fun q => absurd q x_v1480) | exact (fun q => absurd (x_v757 q).1 x_v1480) | exact (fun q => absurd (x_v1537 q).1 x_v1480) | (intro q; constructor <;> omega) | (intro q; obtain ⟨c0, c1, c2⟩ := x_v757 q; constructor <;> omega) | (intro q; obtain ⟨c0, c1, c2⟩ := x_v1537 q; constructor <;> omega) | (refine RD_cp k4 hd0 x_v757 ?_ x_v1537 ?_ <;> omega) | (refine RD_cp k4 hd0 x_v1537 ?_ x_v757 ?_ <;> omega)) (hO.sub (by decide))) kw_1418 kw_1420 ks_59 kw_13 kw_1421 (by decide +kernel) ⟨Nat.le_of_ble_eq_true rfl, Nat.le_of_ble_eq_true rfl⟩ (x_recv (ci := 12) hkb hH 0 rfl rfl) rfl rfl hl.1 (Nat.le_of_ble_eq_true rfl) dX12_readUnit_158 ⟨Nat.le_of_ble_eq_true rfl, Nat.le_of_ble_eq_true rfl⟩) (fun u H locs hz9 hH hS => ?_)
              obtain ⟨F158_1, rfl, x_v1580, x_v1581⟩ := hz9
              have s_F158_1 := x_v1580
              have hH : HT D cs A T (a0 :: y4 :: O) ((a0, .inr (12, o0 :: o1 :: o2 :: (.ref y3) :: (.ref y4) :: o5 :: (.int n153_0_6) :: (.int n153_0_7) :: (.int y8) :: (.int n153_0_9) :: (.int n153_0_10) :: (.int n153_0_11) :: (.int n153_0_12) :: tl)) :: (y4, .inl (cs.2.1, 1302, .inl F158_1)) :: X) H := hH
              refine W.widen (k := 0) (n := 0) (Nat.le_of_ble_eq_true rfl) (Nat.le_of_ble_eq_true rfl) ?_
              exact te_v hx hb hr hlocks hH hS (⟨n153_0_6, n153_0_7, n153_0_9, n153_0_10, n153_0_11, n153_0_12, F158_1, rfl, s_F158_1, by omega, by omega, by omega, x_v1534, by omega, by omega, (by first | exact (fun q => absurd q x_v1480) | exact (fun q => absurd (x_v757 q).1 x_v1480) | exact (fun q => absurd (x_v1537 q).1 x_v1480) | (refine RD_op x_v757 ?_ x_v1537 x_v1581; omega) | (refine RD_op x_v1537 ?_ x_v757 x_v1581; omega) | exact x_v757 | exact x_v1537 | (refine RD_le x_v757 ?_; omega) | (refine RD_le x_v1537 ?_; omega) | (intro q; obtain ⟨c1, c2⟩ := x_v1581 q; refine ⟨?_, ?_, ?_⟩ <;> omega) | (intro q; obtain ⟨c0, c1, c2⟩ := x_v1537 q; refine ⟨?_, ?_, ?_⟩ <;> omega) | (intro q; obtain ⟨c0, c1, c2⟩ := x_v1537 q; obtain ⟨d1, d2⟩ := x_v1581 q; refine ⟨?_, ?_, ?_⟩ <;> omega))⟩) dX12_readUnit_161
            · skip
              have tc136 := f_ne (k := 0) (by decide) c136
              replace x_v1330 := x_v1330.resolve_left tc136
              exact J139  _ _ _ (by omega) hH hS (lv_sub hl [0, 1, 2] rfl)
      refine lv_if_eq (tgt := 93) hx hb dX12_readUnit_84 (by decide) (fun c84 => ?_) (fun c84 => ?_)
      · skip
        have tc84 := f_eq (k := 0) (by decide) c84
        clear x_v810
        refine lv_aload_n hx hb dX12_readUnit_93 rfl (lv_at hl 0 rfl) ?_
        refine lv_bipush (v := 40) hx hb dX12_readUnit_94 (by decide) ?_
        have z9_40 : (40 : Int32).toInt = 40 := by decide
        refine tk_i hH hS hA (tr_V (n := 1) (As := [.int 40]) hx hb hml hown hts hkb hH (ox_map hOX rfl) hks hE hS hA (s_M_is l D cs kf T (y4 :: O) ((y4, .inl (cs.2.1, 1302, .inl F75_1)) :: X) a0 hg mq (40) o0 o1 o2 y3 y4 o5 n75_0_6 n75_0_7 y8 n75_0_9 n75_0_10 n75_0_11 n75_0_12 tl t_a0 b_hg t_y3 t_y4 (by omega) (by omega) (by omega) (by omega) (by omega) (by omega) (by omega) (by omega) (hO.sub (by decide))) kw_1370 kw_1372 ks_47 kw_13 kw_1373 (by decide +kernel) ⟨Nat.le_of_ble_eq_true rfl, Nat.le_of_ble_eq_true rfl⟩ (x_recv (ci := 12) hkb hH 0 rfl rfl) rfl rfl hl.1 (Nat.le_of_ble_eq_true rfl) dX12_readUnit_96 ⟨Nat.le_of_ble_eq_true rfl, Nat.le_of_ble_eq_true rfl⟩) (fun v96 u H locs hz9 hH hS => ?_)
        obtain ⟨rfl, l_v96, u_v96, x_v960⟩ := hz9
        have hH : HT D cs A T (a0 :: y4 :: O) ((a0, .inr (12, o0 :: o1 :: o2 :: (.ref y3) :: (.ref y4) :: o5 :: (.int n75_0_6) :: (.int n75_0_7) :: (.int y8) :: (.int n75_0_9) :: (.int n75_0_10) :: (.int n75_0_11) :: (.int n75_0_12) :: tl)) :: (y4, .inl (cs.2.1, 1302, .inl F75_1)) :: X) H := hH
        refine W.widen (k := 0) (n := 0) (Nat.le_of_ble_eq_true rfl) (Nat.le_of_ble_eq_true rfl) ?_
        refine lv_if_eq (tgt := 108) hx hb dX12_readUnit_99 (by decide) (fun c99 => ?_) (fun c99 => ?_)
        · skip
          have tc99 := f_eq (k := 0) (by decide) c99
          clear x_v960
          refine lv_sipush (v := 3005) hx hb dX12_readUnit_108 (by decide) ?_
          exact J111 3005 _ _ _ (by decide) (by decide) hH hS (lv_sub hl [0, 1] rfl)
        · skip
          have tc99 := f_ne (k := 0) (by decide) c99
          replace x_v960 := x_v960.resolve_left tc99
          refine lv_sipush (v := 3004) hx hb dX12_readUnit_102 (by decide) ?_
          refine lv_goto (tgt := 111) hx hb dX12_readUnit_105 (by decide) ?_
          exact J111 3004 _ _ _ (by decide) (by decide) hH hS (lv_sub hl [0, 1] rfl)
      · skip
        have tc84 := f_ne (k := 0) (by decide) c84
        replace x_v810 := x_v810.resolve_left tc84
        refine lv_sipush (v := 3003) hx hb dX12_readUnit_87 (by decide) ?_
        refine lv_goto (tgt := 111) hx hb dX12_readUnit_90 (by decide) ?_
        exact J111 3003 _ _ _ (by decide) (by decide) hH hS (lv_sub hl [0, 1] rfl)
    · skip
      have tc39 := f_ne (k := 0) (by decide) c39
      replace x_v360 := x_v360.resolve_left tc39
      refine lv_aload_n hx hb dX12_readUnit_42 rfl (lv_at hl 0 rfl) ?_
      refine lv_iload_n hx hb dX12_readUnit_43 rfl (lv_at hl 1 rfl) ?_
      refine tk_i hH hS hA (tr_V (n := 1) (As := [.int x1]) hx hb hml hown hts hkb hH (ox_map hOX rfl) hks hE hS hA (s_M_goesIn6 l D cs kf T (y4 :: O) ((y4, .inl (cs.2.1, 1302, .inl f4)) :: X) a0 hg mq x1 o0 o1 o2 y3 y4 o5 y6 y7 y8 y9 y10 y11 y12 tl t_a0 b_hg (by omega) (by omega) t_y3 t_y4 (by omega) (by omega) (by omega) (by omega) (by omega) (by omega) (by omega) (by omega) (by omega) (by omega) k3 (by omega) (by omega) (hO.sub (by decide))) kw_1414 kw_1416 ks_58 kw_13 kw_1417 (by decide +kernel) ⟨Nat.le_of_ble_eq_true rfl, Nat.le_of_ble_eq_true rfl⟩ (x_recv (ci := 12) hkb hH 0 rfl rfl) rfl rfl hl.1 (Nat.le_of_ble_eq_true rfl) dX12_readUnit_44 ⟨Nat.le_of_ble_eq_true rfl, Nat.le_of_ble_eq_true rfl⟩) (fun v44 u H locs hz9 hH hS => ?_)
      obtain ⟨n44_0_6, n44_0_7, n44_0_9, n44_0_10, n44_0_11, n44_0_12, rfl, l_v44, u_v44, x_v440, x_v441, x_v442, x_v443, x_v444, x_v445, x_v446, x_v447⟩ := hz9
      have hH : HT D cs A T (a0 :: y4 :: O) ((a0, .inr (12, o0 :: o1 :: o2 :: (.ref y3) :: (.ref y4) :: o5 :: (.int n44_0_6) :: (.int n44_0_7) :: (.int y8) :: (.int n44_0_9) :: (.int n44_0_10) :: (.int n44_0_11) :: (.int n44_0_12) :: tl)) :: (y4, .inl (cs.2.1, 1302, .inl f4)) :: X) H := hH
      refine W.widen (k := 0) (n := 0) (Nat.le_of_ble_eq_true rfl) (Nat.le_of_ble_eq_true rfl) ?_
      refine lv_if_ne (tgt := 51) hx hb dX12_readUnit_47 (by decide) (fun c47 => ?_) (fun c47 => ?_)
      · skip
        have tc47 := f_ne (k := 0) (by decide) c47
        replace x_v446 := x_v446.resolve_left tc47
        clear x_v447
        exfalso; omega
      · skip
        have tc47 := f_eq (k := 0) (by decide) c47
        clear x_v446
        replace x_v447 := x_v447.resolve_left (fun q9 => q9 tc47)
        exact te_v hx hb hr hlocks hH hS (⟨n44_0_6, n44_0_7, n44_0_9, n44_0_10, n44_0_11, n44_0_12, f4, rfl, s_f4, by omega, by omega, by omega, x_v443, by omega, by omega, (by first | exact (fun q => absurd q x_v447))⟩) dX12_readUnit_50
  · skip
    have tc6 := f_ne (k := 0) (by decide) c6
    replace x_v30 := x_v30.resolve_left tc6
    refine lv_aload_n hx hb dX12_readUnit_9 rfl (lv_at hl 0 rfl) ?_
    refine lv_iload_n hx hb dX12_readUnit_10 rfl (lv_at hl 1 rfl) ?_
    refine tk_i hH hS hA (tr_V (n := 1) (As := [.int x1]) hx hb hml hown hts hkb hH (ox_map hOX rfl) hks hE hS hA (s_M_goesIn6 l D cs kf T (y4 :: O) ((y4, .inl (cs.2.1, 1302, .inl f4)) :: X) a0 hg mq x1 o0 o1 o2 y3 y4 o5 y6 y7 y8 y9 y10 y11 y12 tl t_a0 b_hg (by omega) (by omega) t_y3 t_y4 (by omega) (by omega) (by omega) (by omega) (by omega) (by omega) (by omega) (by omega) (by omega) (by omega) k3 (by omega) (by omega) (hO.sub (by decide))) kw_1414 kw_1416 ks_58 kw_13 kw_1417 (by decide +kernel) ⟨Nat.le_of_ble_eq_true rfl, Nat.le_of_ble_eq_true rfl⟩ (x_recv (ci := 12) hkb hH 0 rfl rfl) rfl rfl hl.1 (Nat.le_of_ble_eq_true rfl) dX12_readUnit_11 ⟨Nat.le_of_ble_eq_true rfl, Nat.le_of_ble_eq_true rfl⟩) (fun v11 u H locs hz9 hH hS => ?_)
    obtain ⟨n11_0_6, n11_0_7, n11_0_9, n11_0_10, n11_0_11, n11_0_12, rfl, l_v11, u_v11, x_v110, x_v111, x_v112, x_v113, x_v114, x_v115, x_v116, x_v117⟩ := hz9
    have hH : HT D cs A T (a0 :: y4 :: O) ((a0, .inr (12, o0 :: o1 :: o2 :: (.ref y3) :: (.ref y4) :: o5 :: (.int n11_0_6) :: (.int n11_0_7) :: (.int y8) :: (.int n11_0_9) :: (.int n11_0_10) :: (.int n11_0_11) :: (.int n11_0_12) :: tl)) :: (y4, .inl (cs.2.1, 1302, .inl f4)) :: X) H := hH
    refine W.widen (k := 0) (n := 0) (Nat.le_of_ble_eq_true rfl) (Nat.le_of_ble_eq_true rfl) ?_
    refine lv_if_ne (tgt := 18) hx hb dX12_readUnit_14 (by decide) (fun c14 => ?_) (fun c14 => ?_)
    · skip
      have tc14 := f_ne (k := 0) (by decide) c14
      replace x_v116 := x_v116.resolve_left tc14
      clear x_v117
      exfalso; omega
    · skip
      have tc14 := f_eq (k := 0) (by decide) c14
      clear x_v116
      replace x_v117 := x_v117.resolve_left (fun q9 => q9 tc14)
      exact te_v hx hb hr hlocks hH hS (⟨n11_0_6, n11_0_7, n11_0_9, n11_0_10, n11_0_11, n11_0_12, f4, rfl, s_f4, by omega, by omega, by omega, x_v113, by omega, by omega, (by first | exact (fun q => absurd q x_v117))⟩) dX12_readUnit_17
set_option maxHeartbeats 4000000 in
set_option maxRecDepth 100000 in
theorem s_M_readBoth6 (l : Launch) (D : va_G) (cs : CS) (kf : KF) (T : TF) (O : List Nat) (X : va_W) (a0 hg mq : Nat) (x1 : Int32) (o0 : Value) (o1 : Value) (o2 : Value) (y3 : Nat) (y4 : Nat) (o5 : Value) (y6 : Int32) (y7 : Int32) (y8 : Int32) (y9 : Int32) (y10 : Int32) (y11 : Int32) (y12 : Int32) (tl : List Value) (f4 : Nat → Int32) (t_a0 : T a0 = some (22, hg, mq)) (b_hg : hg < 90) (l_x1 : 6 ≤ x1.toInt) (u_x1 : x1.toInt ≤ 6) (t_y3 : T y3 = some (1, 900, 0)) (t_y4 : T y4 = some (8, 1302, 0)) (l_y6 : 0 ≤ y6.toInt) (u_y6 : y6.toInt ≤ 900) (l_y7 : 0 ≤ y7.toInt) (u_y7 : y7.toInt ≤ 900) (l_y8 : 0 ≤ y8.toInt) (u_y8 : y8.toInt ≤ 900) (l_y10 : 0 ≤ y10.toInt) (u_y10 : y10.toInt ≤ 999) (s_f4 : S8 f4) (k1 : y6.toInt ≤ y7.toInt) (k2 : y7.toInt ≤ y8.toInt) (k3 : TK3 y9 y6 y7) (k4 : SL y11 f4 y6) (hO : okO T (a0 :: y4 :: O) [1]) : TK l D cs kf yX12_readBoth cX12_readBoth 2 none { frames := 11, cells := 0, slots := 0, locals := 236 } [.ref a0, .int x1] T (a0 :: y4 :: O) ((a0, .inr (12, o0 :: o1 :: o2 :: (.ref y3) :: (.ref y4) :: o5 :: (.int y6) :: (.int y7) :: (.int y8) :: (.int y9) :: (.int y10) :: (.int y11) :: (.int y12) :: tl)) :: (y4, .inl (cs.2.1, 1302, .inl f4)) :: X) (Tv D cs (fun u => ∃ (n0_6 : Int32) (n0_7 : Int32) (n0_9 : Int32) (n0_10 : Int32) (n0_11 : Int32) (n0_12 : Int32) (G1 : Nat → Int32), u = (T, a0 :: y4 :: O, (a0, .inr (12, o0 :: o1 :: o2 :: (.ref y3) :: (.ref y4) :: o5 :: (.int n0_6) :: (.int n0_7) :: (.int y8) :: (.int n0_9) :: (.int n0_10) :: (.int n0_11) :: (.int n0_12) :: tl)) :: (y4, .inl (cs.2.1, 1302, .inl G1)) :: X) ∧ (S8 G1) ∧ (y6.toInt ≤ n0_6.toInt) ∧ (n0_6.toInt ≤ n0_7.toInt) ∧ (n0_7.toInt ≤ y8.toInt) ∧ (TK3 n0_9 n0_6 n0_7) ∧ (0 ≤ n0_10.toInt) ∧ (n0_10.toInt ≤ 999) ∧ (RD f4 G1 y6 n0_6 y11 n0_11))) := by
  refine tk_of (by decide) (Nat.le_of_ble_eq_true rfl) (fun p e s m below meth c ls A H locs hx hb hr hml hown hts hlocks hnm hkb hH hS hA hOX hks hE hl => ?_)
  have hown : s.vm.findClass RX12 = some m.cls := hown
  have hl : lv_has ls 2 [(0, .ref a0), (1, .int x1)] := hl
  have hOXf := hOX
  have hd0 := dpt_nn s_f4
  refine lv_aload_n hx hb dX12_readBoth_0 rfl (lv_at hl 0 rfl) ?_
  refine lv_iload_n hx hb dX12_readBoth_1 rfl (lv_at hl 1 rfl) ?_
  have J5 : ∀ (n : Nat) (f5_106 : Int32) (f5_107 : Int32) (f5_109 : Int32) (f5_110 : Int32) (f5_111 : Int32) (f5_112 : Int32) (g5_1 : Nat → Int32) (H : Heap) (locs : List Loc) (ls : Array Slot), (900 - f5_106.toInt).toNat = n → (S8 g5_1) → (0 ≤ f5_106.toInt) → (f5_106.toInt ≤ 900) → (0 ≤ f5_107.toInt) → (f5_107.toInt ≤ 900) → (0 ≤ f5_110.toInt) → (f5_110.toInt ≤ 999) → (f5_106.toInt ≤ f5_107.toInt) → (f5_107.toInt ≤ y8.toInt) → (TK3 f5_109 f5_106 f5_107) → (y6.toInt ≤ f5_106.toInt) → (RD f4 g5_1 y6 f5_106 y11 f5_111) → HT D cs A T (a0 :: y4 :: O) ((a0, .inr (12, o0 :: o1 :: o2 :: (.ref y3) :: (.ref y4) :: o5 :: (.int f5_106) :: (.int f5_107) :: (.int y8) :: (.int f5_109) :: (.int f5_110) :: (.int f5_111) :: (.int f5_112) :: tl)) :: (y4, .inl (cs.2.1, 1302, .inl g5_1)) :: X) H → va_S A s.heap H locs → lv_has ls 2 [(0, .ref a0), (1, .int x1)] → W p l e { frames := 11, cells := 0, slots := 0, locals := 236 } s m [.ref a0, .int x1].toArray below meth c H locs 0 0 (MQ below (Tv D cs (fun u => ∃ (n0_6 : Int32) (n0_7 : Int32) (n0_9 : Int32) (n0_10 : Int32) (n0_11 : Int32) (n0_12 : Int32) (G1 : Nat → Int32), u = (T, a0 :: y4 :: O, (a0, .inr (12, o0 :: o1 :: o2 :: (.ref y3) :: (.ref y4) :: o5 :: (.int n0_6) :: (.int n0_7) :: (.int y8) :: (.int n0_9) :: (.int n0_10) :: (.int n0_11) :: (.int n0_12) :: tl)) :: (y4, .inl (cs.2.1, 1302, .inl G1)) :: X) ∧ (S8 G1) ∧ (y6.toInt ≤ n0_6.toInt) ∧ (n0_6.toInt ≤ n0_7.toInt) ∧ (n0_7.toInt ≤ y8.toInt) ∧ (TK3 n0_9 n0_6 n0_7) ∧ (0 ≤ n0_10.toInt) ∧ (n0_10.toInt ≤ 999) ∧ (RD f4 G1 y6 n0_6 y11 n0_11)) A) [.ref a0, .int x1].toArray s 0 0 A) (F0 m 5 ls []) := by
    intro n
    induction n using Nat.strongRecOn with
    | _ n ih5 =>
      intro f5_106 f5_107 f5_109 f5_110 f5_111 f5_112 g5_1 H locs ls hm5 s_g5_1 l_f5_106 u_f5_106 l_f5_107 u_f5_107 l_f5_110 u_f5_110 ia5 ib5 ic5 id5 if5 hH hS hl
      refine lv_aload_n hx hb dX12_readBoth_5 rfl (lv_at hl 0 rfl) ?_
      refine lv_bipush (v := 14) hx hb dX12_readBoth_6 (by decide) ?_
      have z9_14 : (14 : Int32).toInt = 14 := by decide
      refine tk_i hH hS hA (tr_V (n := 1) (As := [.int 14]) hx hb hml hown hts hkb hH (ox_map hOX rfl) hks hE hS hA (s_M_eats l D cs kf T (y4 :: O) ((y4, .inl (cs.2.1, 1302, .inl g5_1)) :: X) a0 hg mq (14) o0 o1 o2 y3 y4 o5 f5_106 f5_107 y8 f5_109 f5_110 f5_111 f5_112 tl t_a0 b_hg t_y3 t_y4 (by omega) (by omega) (by omega) (by omega) (by omega) (by omega) (by omega) (by omega) (by omega) (by omega) ic5 (by omega) (hO.sub (by decide))) kw_1390 kw_1392 ks_52 kw_13 kw_1393 (by decide +kernel) ⟨Nat.le_of_ble_eq_true rfl, Nat.le_of_ble_eq_true rfl⟩ (x_recv (ci := 12) hkb hH 0 rfl rfl) rfl rfl hl.1 (Nat.le_of_ble_eq_true rfl) dX12_readBoth_8 ⟨Nat.le_of_ble_eq_true rfl, Nat.le_of_ble_eq_true rfl⟩) (fun v8 u H locs hz9 hH hS => ?_)
      obtain ⟨n8_0_6, n8_0_7, n8_0_9, n8_0_10, rfl, l_v8, u_v8, x_v80, x_v81, x_v82, x_v83, x_v84, x_v85, x_v86⟩ := hz9
      have hH : HT D cs A T (a0 :: y4 :: O) ((a0, .inr (12, o0 :: o1 :: o2 :: (.ref y3) :: (.ref y4) :: o5 :: (.int n8_0_6) :: (.int n8_0_7) :: (.int y8) :: (.int n8_0_9) :: (.int n8_0_10) :: (.int f5_111) :: (.int f5_112) :: tl)) :: (y4, .inl (cs.2.1, 1302, .inl g5_1)) :: X) H := hH
      refine W.widen (k := 0) (n := 0) (Nat.le_of_ble_eq_true rfl) (Nat.le_of_ble_eq_true rfl) ?_
      refine lv_if_eq (tgt := 29) hx hb dX12_readBoth_11 (by decide) (fun c11 => ?_) (fun c11 => ?_)
      · skip
        have tc11 := f_eq (k := 0) (by decide) c11
        clear x_v86
        exact te_v hx hb hr hlocks hH hS (⟨n8_0_6, n8_0_7, n8_0_9, n8_0_10, f5_111, f5_112, g5_1, rfl, s_g5_1, by omega, by omega, by omega, x_v83, by omega, by omega, (by first | exact if5 | (refine RD_le if5 ?_; omega) | (intro q; obtain ⟨c0, c1, c2⟩ := if5 q; refine ⟨?_, ?_, ?_⟩ <;> omega))⟩) dX12_readBoth_29
      · skip
        have tc11 := f_ne (k := 0) (by decide) c11
        replace x_v86 := x_v86.resolve_left tc11
        refine lv_aload_n hx hb dX12_readBoth_14 rfl (lv_at hl 0 rfl) ?_
        refine lv_iload_n hx hb dX12_readBoth_15 rfl (lv_at hl 1 rfl) ?_
        refine tk_v hH hS hA (tr_V (n := 1) (As := [.int x1]) hx hb hml hown hts hkb hH (ox_map hOX rfl) hks hE hS hA (s_M_readUnit6 l D cs kf T O X a0 hg mq x1 o0 o1 o2 y3 y4 o5 n8_0_6 n8_0_7 y8 n8_0_9 n8_0_10 f5_111 f5_112 tl g5_1 t_a0 b_hg (by omega) (by omega) t_y3 t_y4 (by omega) (by omega) (by omega) (by omega) (by omega) (by omega) (by omega) (by omega) s_g5_1 (by omega) (by omega) x_v83 (by first | exact k4 | (refine RD_sl k4 if5 ?_; omega) | (intro _; omega)) (hO.sub (by decide))) kw_1410 kw_1412 ks_57 kw_13 kw_1413 (by decide +kernel) ⟨Nat.le_of_ble_eq_true rfl, Nat.le_of_ble_eq_true rfl⟩ (x_recv (ci := 12) hkb hH 0 rfl rfl) rfl rfl hl.1 (Nat.le_of_ble_eq_true rfl) dX12_readBoth_16 ⟨Nat.le_of_ble_eq_true rfl, Nat.le_of_ble_eq_true rfl⟩) (fun u H locs hz9 hH hS => ?_)
        obtain ⟨n16_0_6, n16_0_7, n16_0_9, n16_0_10, n16_0_11, n16_0_12, F16_1, rfl, x_v160, x_v161, x_v162, x_v163, x_v164, x_v165, x_v166, x_v167⟩ := hz9
        have s_F16_1 := x_v160
        have hH : HT D cs A T (a0 :: y4 :: O) ((a0, .inr (12, o0 :: o1 :: o2 :: (.ref y3) :: (.ref y4) :: o5 :: (.int n16_0_6) :: (.int n16_0_7) :: (.int y8) :: (.int n16_0_9) :: (.int n16_0_10) :: (.int n16_0_11) :: (.int n16_0_12) :: tl)) :: (y4, .inl (cs.2.1, 1302, .inl F16_1)) :: X) H := hH
        refine W.widen (k := 0) (n := 0) (Nat.le_of_ble_eq_true rfl) (Nat.le_of_ble_eq_true rfl) ?_
        refine lv_aload_n hx hb dX12_readBoth_19 rfl (lv_at hl 0 rfl) ?_
        refine lv_sipush (v := 3006) hx hb dX12_readBoth_20 (by decide) ?_
        have z9_3006 : (3006 : Int32).toInt = 3006 := by decide
        refine tk_v hH hS hA (tr_V (n := 1) (As := [.int 3006]) hx hb hml hown hts hkb hH (ox_map hOX rfl) hks hE hS hA (s_M_codesO l D cs kf T O X a0 hg mq (3006) o0 o1 o2 y3 y4 o5 n16_0_6 n16_0_7 y8 n16_0_9 n16_0_10 n16_0_11 n16_0_12 tl F16_1 t_a0 b_hg (by decide) (by decide) t_y3 t_y4 (by omega) (by omega) (by omega) (by omega) (by omega) (by omega) (by omega) (by omega) s_F16_1 (by first | (intro q; constructor <;> omega) | (intro q; obtain ⟨c0, c1, c2⟩ := if5 q; constructor <;> omega) | (intro q; obtain ⟨c0, c1, c2⟩ := x_v167 q; constructor <;> omega) | (refine RD_cp k4 hd0 if5 ?_ x_v167 ?_ <;> omega) | (refine RD_cp k4 hd0 x_v167 ?_ if5 ?_ <;> omega)) (hO.sub (by decide))) kw_1418 kw_1420 ks_59 kw_13 kw_1421 (by decide +kernel) ⟨Nat.le_of_ble_eq_true rfl, Nat.le_of_ble_eq_true rfl⟩ (x_recv (ci := 12) hkb hH 0 rfl rfl) rfl rfl hl.1 (Nat.le_of_ble_eq_true rfl) dX12_readBoth_23 ⟨Nat.le_of_ble_eq_true rfl, Nat.le_of_ble_eq_true rfl⟩) (fun u H locs hz9 hH hS => ?_)
        obtain ⟨F23_1, rfl, x_v230, x_v231⟩ := hz9
        have s_F23_1 := x_v230
        have hH : HT D cs A T (a0 :: y4 :: O) ((a0, .inr (12, o0 :: o1 :: o2 :: (.ref y3) :: (.ref y4) :: o5 :: (.int n16_0_6) :: (.int n16_0_7) :: (.int y8) :: (.int n16_0_9) :: (.int n16_0_10) :: (.int n16_0_11) :: (.int n16_0_12) :: tl)) :: (y4, .inl (cs.2.1, 1302, .inl F23_1)) :: X) H := hH
        refine W.widen (k := 0) (n := 0) (Nat.le_of_ble_eq_true rfl) (Nat.le_of_ble_eq_true rfl) ?_
        refine lv_goto (tgt := 5) hx hb dX12_readBoth_26 (by decide) ?_
        exact ih5 _ (by omega) n16_0_6 n16_0_7 n16_0_9 n16_0_10 n16_0_11 n16_0_12 F23_1 _ _ _ rfl s_F23_1 (by omega) (by omega) (by omega) (by omega) (by omega) (by omega) (by omega) (by omega) x_v164 (by omega) (by first | (refine RD_op if5 ?_ x_v167 x_v231; omega) | (refine RD_op x_v167 ?_ if5 x_v231; omega) | exact if5 | exact x_v167 | (refine RD_le if5 ?_; omega) | (refine RD_le x_v167 ?_; omega) | (intro q; obtain ⟨c1, c2⟩ := x_v231 q; refine ⟨?_, ?_, ?_⟩ <;> omega) | (intro q; obtain ⟨c0, c1, c2⟩ := x_v167 q; refine ⟨?_, ?_, ?_⟩ <;> omega) | (intro q; obtain ⟨c0, c1, c2⟩ := x_v167 q; obtain ⟨d1, d2⟩ := x_v231 q; refine ⟨?_, ?_, ?_⟩ <;> omega)) hH hS (lv_sub hl [0, 1] rfl)
  refine tk_v hH hS hA (tr_V (n := 1) (As := [.int x1]) hx hb hml hown hts hkb hH (ox_map hOX rfl) hks hE hS hA (s_M_readUnit6 l D cs kf T O X a0 hg mq x1 o0 o1 o2 y3 y4 o5 y6 y7 y8 y9 y10 y11 y12 tl f4 t_a0 b_hg (by omega) (by omega) t_y3 t_y4 (by omega) (by omega) (by omega) (by omega) (by omega) (by omega) (by omega) (by omega) s_f4 (by omega) (by omega) k3 (by first | exact k4 | (intro _; omega)) (hO.sub (by decide))) kw_1410 kw_1412 ks_57 kw_13 kw_1413 (by decide +kernel) ⟨Nat.le_of_ble_eq_true rfl, Nat.le_of_ble_eq_true rfl⟩ (x_recv (ci := 12) hkb hH 0 rfl rfl) rfl rfl hl.1 (Nat.le_of_ble_eq_true rfl) dX12_readBoth_2 ⟨Nat.le_of_ble_eq_true rfl, Nat.le_of_ble_eq_true rfl⟩) (fun u H locs hz9 hH hS => ?_)
  obtain ⟨n2_0_6, n2_0_7, n2_0_9, n2_0_10, n2_0_11, n2_0_12, F2_1, rfl, x_v20, x_v21, x_v22, x_v23, x_v24, x_v25, x_v26, x_v27⟩ := hz9
  have s_F2_1 := x_v20
  have hH : HT D cs A T (a0 :: y4 :: O) ((a0, .inr (12, o0 :: o1 :: o2 :: (.ref y3) :: (.ref y4) :: o5 :: (.int n2_0_6) :: (.int n2_0_7) :: (.int y8) :: (.int n2_0_9) :: (.int n2_0_10) :: (.int n2_0_11) :: (.int n2_0_12) :: tl)) :: (y4, .inl (cs.2.1, 1302, .inl F2_1)) :: X) H := hH
  refine W.widen (k := 0) (n := 0) (Nat.le_of_ble_eq_true rfl) (Nat.le_of_ble_eq_true rfl) ?_
  exact J5 _ n2_0_6 n2_0_7 n2_0_9 n2_0_10 n2_0_11 n2_0_12 F2_1 _ _ _ rfl s_F2_1 (by omega) (by omega) (by omega) (by omega) (by omega) (by omega) (by omega) (by omega) x_v24 (by omega) (by first | exact x_v27 | (refine RD_le x_v27 ?_; omega) | (intro q; obtain ⟨c0, c1, c2⟩ := x_v27 q; refine ⟨?_, ?_, ?_⟩ <;> omega)) hH hS (lv_sub hl [0, 1] rfl)
set_option maxHeartbeats 4000000 in
set_option maxRecDepth 100000 in
theorem s_M_readTruth6 (l : Launch) (D : va_G) (cs : CS) (kf : KF) (T : TF) (O : List Nat) (X : va_W) (a0 hg mq : Nat) (x1 : Int32) (o0 : Value) (o1 : Value) (o2 : Value) (y3 : Nat) (y4 : Nat) (o5 : Value) (y6 : Int32) (y7 : Int32) (y8 : Int32) (y9 : Int32) (y10 : Int32) (y11 : Int32) (y12 : Int32) (tl : List Value) (f4 : Nat → Int32) (t_a0 : T a0 = some (22, hg, mq)) (b_hg : hg < 90) (l_x1 : 6 ≤ x1.toInt) (u_x1 : x1.toInt ≤ 6) (t_y3 : T y3 = some (1, 900, 0)) (t_y4 : T y4 = some (8, 1302, 0)) (l_y6 : 0 ≤ y6.toInt) (u_y6 : y6.toInt ≤ 900) (l_y7 : 0 ≤ y7.toInt) (u_y7 : y7.toInt ≤ 900) (l_y8 : 0 ≤ y8.toInt) (u_y8 : y8.toInt ≤ 900) (l_y10 : 0 ≤ y10.toInt) (u_y10 : y10.toInt ≤ 999) (s_f4 : S8 f4) (k1 : y6.toInt ≤ y7.toInt) (k2 : y7.toInt ≤ y8.toInt) (k3 : TK3 y9 y6 y7) (k4 : SL y11 f4 y6) (hO : okO T (a0 :: y4 :: O) [1]) : TK l D cs kf yX12_readTruth cX12_readTruth 2 none { frames := 12, cells := 0, slots := 0, locals := 257 } [.ref a0, .int x1] T (a0 :: y4 :: O) ((a0, .inr (12, o0 :: o1 :: o2 :: (.ref y3) :: (.ref y4) :: o5 :: (.int y6) :: (.int y7) :: (.int y8) :: (.int y9) :: (.int y10) :: (.int y11) :: (.int y12) :: tl)) :: (y4, .inl (cs.2.1, 1302, .inl f4)) :: X) (Tv D cs (fun u => ∃ (n0_6 : Int32) (n0_7 : Int32) (n0_9 : Int32) (n0_10 : Int32) (n0_11 : Int32) (n0_12 : Int32) (G1 : Nat → Int32), u = (T, a0 :: y4 :: O, (a0, .inr (12, o0 :: o1 :: o2 :: (.ref y3) :: (.ref y4) :: o5 :: (.int n0_6) :: (.int n0_7) :: (.int y8) :: (.int n0_9) :: (.int n0_10) :: (.int n0_11) :: (.int n0_12) :: tl)) :: (y4, .inl (cs.2.1, 1302, .inl G1)) :: X) ∧ (S8 G1) ∧ (y6.toInt ≤ n0_6.toInt) ∧ (n0_6.toInt ≤ n0_7.toInt) ∧ (n0_7.toInt ≤ y8.toInt) ∧ (TK3 n0_9 n0_6 n0_7) ∧ (0 ≤ n0_10.toInt) ∧ (n0_10.toInt ≤ 999) ∧ (RD f4 G1 y6 n0_6 y11 n0_11))) := by
  refine tk_of (by decide) (Nat.le_of_ble_eq_true rfl) (fun p e s m below meth c ls A H locs hx hb hr hml hown hts hlocks hnm hkb hH hS hA hOX hks hE hl => ?_)
  have hown : s.vm.findClass RX12 = some m.cls := hown
  have hl : lv_has ls 2 [(0, .ref a0), (1, .int x1)] := hl
  have hOXf := hOX
  have hd0 := dpt_nn s_f4
  refine lv_aload_n hx hb dX12_readTruth_0 rfl (lv_at hl 0 rfl) ?_
  refine lv_iload_n hx hb dX12_readTruth_1 rfl (lv_at hl 1 rfl) ?_
  have J5 : ∀ (n : Nat) (f5_106 : Int32) (f5_107 : Int32) (f5_109 : Int32) (f5_110 : Int32) (f5_111 : Int32) (f5_112 : Int32) (g5_1 : Nat → Int32) (H : Heap) (locs : List Loc) (ls : Array Slot), (900 - f5_106.toInt).toNat = n → (S8 g5_1) → (0 ≤ f5_106.toInt) → (f5_106.toInt ≤ 900) → (0 ≤ f5_107.toInt) → (f5_107.toInt ≤ 900) → (0 ≤ f5_110.toInt) → (f5_110.toInt ≤ 999) → (f5_106.toInt ≤ f5_107.toInt) → (f5_107.toInt ≤ y8.toInt) → (TK3 f5_109 f5_106 f5_107) → (y6.toInt ≤ f5_106.toInt) → (RD f4 g5_1 y6 f5_106 y11 f5_111) → HT D cs A T (a0 :: y4 :: O) ((a0, .inr (12, o0 :: o1 :: o2 :: (.ref y3) :: (.ref y4) :: o5 :: (.int f5_106) :: (.int f5_107) :: (.int y8) :: (.int f5_109) :: (.int f5_110) :: (.int f5_111) :: (.int f5_112) :: tl)) :: (y4, .inl (cs.2.1, 1302, .inl g5_1)) :: X) H → va_S A s.heap H locs → lv_has ls 2 [(0, .ref a0), (1, .int x1)] → W p l e { frames := 12, cells := 0, slots := 0, locals := 257 } s m [.ref a0, .int x1].toArray below meth c H locs 0 0 (MQ below (Tv D cs (fun u => ∃ (n0_6 : Int32) (n0_7 : Int32) (n0_9 : Int32) (n0_10 : Int32) (n0_11 : Int32) (n0_12 : Int32) (G1 : Nat → Int32), u = (T, a0 :: y4 :: O, (a0, .inr (12, o0 :: o1 :: o2 :: (.ref y3) :: (.ref y4) :: o5 :: (.int n0_6) :: (.int n0_7) :: (.int y8) :: (.int n0_9) :: (.int n0_10) :: (.int n0_11) :: (.int n0_12) :: tl)) :: (y4, .inl (cs.2.1, 1302, .inl G1)) :: X) ∧ (S8 G1) ∧ (y6.toInt ≤ n0_6.toInt) ∧ (n0_6.toInt ≤ n0_7.toInt) ∧ (n0_7.toInt ≤ y8.toInt) ∧ (TK3 n0_9 n0_6 n0_7) ∧ (0 ≤ n0_10.toInt) ∧ (n0_10.toInt ≤ 999) ∧ (RD f4 G1 y6 n0_6 y11 n0_11)) A) [.ref a0, .int x1].toArray s 0 0 A) (F0 m 5 ls []) := by
    intro n
    induction n using Nat.strongRecOn with
    | _ n ih5 =>
      intro f5_106 f5_107 f5_109 f5_110 f5_111 f5_112 g5_1 H locs ls hm5 s_g5_1 l_f5_106 u_f5_106 l_f5_107 u_f5_107 l_f5_110 u_f5_110 ia5 ib5 ic5 id5 if5 hH hS hl
      refine lv_aload_n hx hb dX12_readTruth_5 rfl (lv_at hl 0 rfl) ?_
      refine lv_bipush (v := 13) hx hb dX12_readTruth_6 (by decide) ?_
      have z9_13 : (13 : Int32).toInt = 13 := by decide
      refine tk_i hH hS hA (tr_V (n := 1) (As := [.int 13]) hx hb hml hown hts hkb hH (ox_map hOX rfl) hks hE hS hA (s_M_eats l D cs kf T (y4 :: O) ((y4, .inl (cs.2.1, 1302, .inl g5_1)) :: X) a0 hg mq (13) o0 o1 o2 y3 y4 o5 f5_106 f5_107 y8 f5_109 f5_110 f5_111 f5_112 tl t_a0 b_hg t_y3 t_y4 (by omega) (by omega) (by omega) (by omega) (by omega) (by omega) (by omega) (by omega) (by omega) (by omega) ic5 (by omega) (hO.sub (by decide))) kw_1390 kw_1392 ks_52 kw_13 kw_1393 (by decide +kernel) ⟨Nat.le_of_ble_eq_true rfl, Nat.le_of_ble_eq_true rfl⟩ (x_recv (ci := 12) hkb hH 0 rfl rfl) rfl rfl hl.1 (Nat.le_of_ble_eq_true rfl) dX12_readTruth_8 ⟨Nat.le_of_ble_eq_true rfl, Nat.le_of_ble_eq_true rfl⟩) (fun v8 u H locs hz9 hH hS => ?_)
      obtain ⟨n8_0_6, n8_0_7, n8_0_9, n8_0_10, rfl, l_v8, u_v8, x_v80, x_v81, x_v82, x_v83, x_v84, x_v85, x_v86⟩ := hz9
      have hH : HT D cs A T (a0 :: y4 :: O) ((a0, .inr (12, o0 :: o1 :: o2 :: (.ref y3) :: (.ref y4) :: o5 :: (.int n8_0_6) :: (.int n8_0_7) :: (.int y8) :: (.int n8_0_9) :: (.int n8_0_10) :: (.int f5_111) :: (.int f5_112) :: tl)) :: (y4, .inl (cs.2.1, 1302, .inl g5_1)) :: X) H := hH
      refine W.widen (k := 0) (n := 0) (Nat.le_of_ble_eq_true rfl) (Nat.le_of_ble_eq_true rfl) ?_
      refine lv_if_eq (tgt := 29) hx hb dX12_readTruth_11 (by decide) (fun c11 => ?_) (fun c11 => ?_)
      · skip
        have tc11 := f_eq (k := 0) (by decide) c11
        clear x_v86
        exact te_v hx hb hr hlocks hH hS (⟨n8_0_6, n8_0_7, n8_0_9, n8_0_10, f5_111, f5_112, g5_1, rfl, s_g5_1, by omega, by omega, by omega, x_v83, by omega, by omega, (by first | exact if5 | (refine RD_le if5 ?_; omega) | (intro q; obtain ⟨c0, c1, c2⟩ := if5 q; refine ⟨?_, ?_, ?_⟩ <;> omega))⟩) dX12_readTruth_29
      · skip
        have tc11 := f_ne (k := 0) (by decide) c11
        replace x_v86 := x_v86.resolve_left tc11
        refine lv_aload_n hx hb dX12_readTruth_14 rfl (lv_at hl 0 rfl) ?_
        refine lv_iload_n hx hb dX12_readTruth_15 rfl (lv_at hl 1 rfl) ?_
        refine tk_v hH hS hA (tr_V (n := 1) (As := [.int x1]) hx hb hml hown hts hkb hH (ox_map hOX rfl) hks hE hS hA (s_M_readBoth6 l D cs kf T O X a0 hg mq x1 o0 o1 o2 y3 y4 o5 n8_0_6 n8_0_7 y8 n8_0_9 n8_0_10 f5_111 f5_112 tl g5_1 t_a0 b_hg (by omega) (by omega) t_y3 t_y4 (by omega) (by omega) (by omega) (by omega) (by omega) (by omega) (by omega) (by omega) s_g5_1 (by omega) (by omega) x_v83 (by first | exact k4 | (refine RD_sl k4 if5 ?_; omega) | (intro _; omega)) (hO.sub (by decide))) kw_1406 kw_1408 ks_56 kw_13 kw_1409 (by decide +kernel) ⟨Nat.le_of_ble_eq_true rfl, Nat.le_of_ble_eq_true rfl⟩ (x_recv (ci := 12) hkb hH 0 rfl rfl) rfl rfl hl.1 (Nat.le_of_ble_eq_true rfl) dX12_readTruth_16 ⟨Nat.le_of_ble_eq_true rfl, Nat.le_of_ble_eq_true rfl⟩) (fun u H locs hz9 hH hS => ?_)
        obtain ⟨n16_0_6, n16_0_7, n16_0_9, n16_0_10, n16_0_11, n16_0_12, F16_1, rfl, x_v160, x_v161, x_v162, x_v163, x_v164, x_v165, x_v166, x_v167⟩ := hz9
        have s_F16_1 := x_v160
        have hH : HT D cs A T (a0 :: y4 :: O) ((a0, .inr (12, o0 :: o1 :: o2 :: (.ref y3) :: (.ref y4) :: o5 :: (.int n16_0_6) :: (.int n16_0_7) :: (.int y8) :: (.int n16_0_9) :: (.int n16_0_10) :: (.int n16_0_11) :: (.int n16_0_12) :: tl)) :: (y4, .inl (cs.2.1, 1302, .inl F16_1)) :: X) H := hH
        refine W.widen (k := 0) (n := 0) (Nat.le_of_ble_eq_true rfl) (Nat.le_of_ble_eq_true rfl) ?_
        refine lv_aload_n hx hb dX12_readTruth_19 rfl (lv_at hl 0 rfl) ?_
        refine lv_sipush (v := 3007) hx hb dX12_readTruth_20 (by decide) ?_
        have z9_3007 : (3007 : Int32).toInt = 3007 := by decide
        refine tk_v hH hS hA (tr_V (n := 1) (As := [.int 3007]) hx hb hml hown hts hkb hH (ox_map hOX rfl) hks hE hS hA (s_M_codesO l D cs kf T O X a0 hg mq (3007) o0 o1 o2 y3 y4 o5 n16_0_6 n16_0_7 y8 n16_0_9 n16_0_10 n16_0_11 n16_0_12 tl F16_1 t_a0 b_hg (by decide) (by decide) t_y3 t_y4 (by omega) (by omega) (by omega) (by omega) (by omega) (by omega) (by omega) (by omega) s_F16_1 (by first | (intro q; constructor <;> omega) | (intro q; obtain ⟨c0, c1, c2⟩ := if5 q; constructor <;> omega) | (intro q; obtain ⟨c0, c1, c2⟩ := x_v167 q; constructor <;> omega) | (refine RD_cp k4 hd0 if5 ?_ x_v167 ?_ <;> omega) | (refine RD_cp k4 hd0 x_v167 ?_ if5 ?_ <;> omega)) (hO.sub (by decide))) kw_1418 kw_1420 ks_59 kw_13 kw_1421 (by decide +kernel) ⟨Nat.le_of_ble_eq_true rfl, Nat.le_of_ble_eq_true rfl⟩ (x_recv (ci := 12) hkb hH 0 rfl rfl) rfl rfl hl.1 (Nat.le_of_ble_eq_true rfl) dX12_readTruth_23 ⟨Nat.le_of_ble_eq_true rfl, Nat.le_of_ble_eq_true rfl⟩) (fun u H locs hz9 hH hS => ?_)
        obtain ⟨F23_1, rfl, x_v230, x_v231⟩ := hz9
        have s_F23_1 := x_v230
        have hH : HT D cs A T (a0 :: y4 :: O) ((a0, .inr (12, o0 :: o1 :: o2 :: (.ref y3) :: (.ref y4) :: o5 :: (.int n16_0_6) :: (.int n16_0_7) :: (.int y8) :: (.int n16_0_9) :: (.int n16_0_10) :: (.int n16_0_11) :: (.int n16_0_12) :: tl)) :: (y4, .inl (cs.2.1, 1302, .inl F23_1)) :: X) H := hH
        refine W.widen (k := 0) (n := 0) (Nat.le_of_ble_eq_true rfl) (Nat.le_of_ble_eq_true rfl) ?_
        refine lv_goto (tgt := 5) hx hb dX12_readTruth_26 (by decide) ?_
        exact ih5 _ (by omega) n16_0_6 n16_0_7 n16_0_9 n16_0_10 n16_0_11 n16_0_12 F23_1 _ _ _ rfl s_F23_1 (by omega) (by omega) (by omega) (by omega) (by omega) (by omega) (by omega) (by omega) x_v164 (by omega) (by first | (refine RD_op if5 ?_ x_v167 x_v231; omega) | (refine RD_op x_v167 ?_ if5 x_v231; omega) | exact if5 | exact x_v167 | (refine RD_le if5 ?_; omega) | (refine RD_le x_v167 ?_; omega) | (intro q; obtain ⟨c1, c2⟩ := x_v231 q; refine ⟨?_, ?_, ?_⟩ <;> omega) | (intro q; obtain ⟨c0, c1, c2⟩ := x_v167 q; refine ⟨?_, ?_, ?_⟩ <;> omega) | (intro q; obtain ⟨c0, c1, c2⟩ := x_v167 q; obtain ⟨d1, d2⟩ := x_v231 q; refine ⟨?_, ?_, ?_⟩ <;> omega)) hH hS (lv_sub hl [0, 1] rfl)
  refine tk_v hH hS hA (tr_V (n := 1) (As := [.int x1]) hx hb hml hown hts hkb hH (ox_map hOX rfl) hks hE hS hA (s_M_readBoth6 l D cs kf T O X a0 hg mq x1 o0 o1 o2 y3 y4 o5 y6 y7 y8 y9 y10 y11 y12 tl f4 t_a0 b_hg (by omega) (by omega) t_y3 t_y4 (by omega) (by omega) (by omega) (by omega) (by omega) (by omega) (by omega) (by omega) s_f4 (by omega) (by omega) k3 (by first | exact k4 | (intro _; omega)) (hO.sub (by decide))) kw_1406 kw_1408 ks_56 kw_13 kw_1409 (by decide +kernel) ⟨Nat.le_of_ble_eq_true rfl, Nat.le_of_ble_eq_true rfl⟩ (x_recv (ci := 12) hkb hH 0 rfl rfl) rfl rfl hl.1 (Nat.le_of_ble_eq_true rfl) dX12_readTruth_2 ⟨Nat.le_of_ble_eq_true rfl, Nat.le_of_ble_eq_true rfl⟩) (fun u H locs hz9 hH hS => ?_)
  obtain ⟨n2_0_6, n2_0_7, n2_0_9, n2_0_10, n2_0_11, n2_0_12, F2_1, rfl, x_v20, x_v21, x_v22, x_v23, x_v24, x_v25, x_v26, x_v27⟩ := hz9
  have s_F2_1 := x_v20
  have hH : HT D cs A T (a0 :: y4 :: O) ((a0, .inr (12, o0 :: o1 :: o2 :: (.ref y3) :: (.ref y4) :: o5 :: (.int n2_0_6) :: (.int n2_0_7) :: (.int y8) :: (.int n2_0_9) :: (.int n2_0_10) :: (.int n2_0_11) :: (.int n2_0_12) :: tl)) :: (y4, .inl (cs.2.1, 1302, .inl F2_1)) :: X) H := hH
  refine W.widen (k := 0) (n := 0) (Nat.le_of_ble_eq_true rfl) (Nat.le_of_ble_eq_true rfl) ?_
  exact J5 _ n2_0_6 n2_0_7 n2_0_9 n2_0_10 n2_0_11 n2_0_12 F2_1 _ _ _ rfl s_F2_1 (by omega) (by omega) (by omega) (by omega) (by omega) (by omega) (by omega) (by omega) x_v24 (by omega) (by first | exact x_v27 | (refine RD_le x_v27 ?_; omega) | (intro q; obtain ⟨c0, c1, c2⟩ := x_v27 q; refine ⟨?_, ?_, ?_⟩ <;> omega)) hH hS (lv_sub hl [0, 1] rfl)
theorem dX12_readAtom_162 : decode cX12_readAtom 162 = .ok (.aload_n 0, 1) := by decide +kernel
theorem dX12_readAtom_163 : decode cX12_readAtom 163 = .ok (.iload_n 1, 1) := by decide +kernel
theorem dX12_readAtom_164 : decode cX12_readAtom 164 = .ok (.iconst 1, 1) := by decide +kernel
theorem dX12_readAtom_165 : decode cX12_readAtom 165 = .ok (.iadd, 1) := by decide +kernel
theorem dX12_readAtom_166 : decode cX12_readAtom 166 = .ok (.invokevirtual 161, 3) := by decide +kernel
theorem dX12_readAtom_169 : decode cX12_readAtom 169 = .ok (.aload_n 0, 1) := by decide +kernel
theorem dX12_readAtom_170 : decode cX12_readAtom 170 = .ok (.bipush 36, 2) := by decide +kernel
theorem dX12_readAtom_172 : decode cX12_readAtom 172 = .ok (.invokevirtual 155, 3) := by decide +kernel
theorem dX12_readAtom_175 : decode cX12_readAtom 175 = .ok (.ifCond .ne 16, 3) := by decide +kernel
theorem dX12_readAtom_178 : decode cX12_readAtom 178 = .ok (.aload_n 0, 1) := by decide +kernel
theorem dX12_readAtom_179 : decode cX12_readAtom 179 = .ok (.iconst 2, 1) := by decide +kernel
theorem dX12_readAtom_180 : decode cX12_readAtom 180 = .ok (.invokevirtual 140, 3) := by decide +kernel
theorem dX12_readAtom_183 : decode cX12_readAtom 183 = .ok (.goto 8, 3) := by decide +kernel
theorem dX12_readUnit_18 : decode cX12_readUnit 18 = .ok (.aload_n 0, 1) := by decide +kernel
theorem dX12_readUnit_19 : decode cX12_readUnit 19 = .ok (.iload_n 1, 1) := by decide +kernel
theorem dX12_readUnit_20 : decode cX12_readUnit 20 = .ok (.iconst 1, 1) := by decide +kernel
theorem dX12_readUnit_21 : decode cX12_readUnit 21 = .ok (.iadd, 1) := by decide +kernel
theorem dX12_readUnit_22 : decode cX12_readUnit 22 = .ok (.invokevirtual 170, 3) := by decide +kernel
theorem dX12_readUnit_25 : decode cX12_readUnit 25 = .ok (.aload_n 0, 1) := by decide +kernel
theorem dX12_readUnit_26 : decode cX12_readUnit 26 = .ok (.sipush 3008, 3) := by decide +kernel
theorem dX12_readUnit_29 : decode cX12_readUnit 29 = .ok (.invokevirtual 148, 3) := by decide +kernel
theorem dX12_readUnit_32 : decode cX12_readUnit 32 = .ok (.return_, 1) := by decide +kernel
theorem dX12_readUnit_51 : decode cX12_readUnit 51 = .ok (.aload_n 0, 1) := by decide +kernel
theorem dX12_readUnit_52 : decode cX12_readUnit 52 = .ok (.iload_n 1, 1) := by decide +kernel
theorem dX12_readUnit_53 : decode cX12_readUnit 53 = .ok (.iconst 1, 1) := by decide +kernel
theorem dX12_readUnit_54 : decode cX12_readUnit 54 = .ok (.iadd, 1) := by decide +kernel
theorem dX12_readUnit_55 : decode cX12_readUnit 55 = .ok (.invokevirtual 173, 3) := by decide +kernel
theorem dX12_readUnit_58 : decode cX12_readUnit 58 = .ok (.aload_n 0, 1) := by decide +kernel
theorem dX12_readUnit_59 : decode cX12_readUnit 59 = .ok (.bipush 38, 2) := by decide +kernel
theorem dX12_readUnit_61 : decode cX12_readUnit 61 = .ok (.invokevirtual 155, 3) := by decide +kernel
theorem dX12_readUnit_64 : decode cX12_readUnit 64 = .ok (.ifCond .ne 8, 3) := by decide +kernel
theorem dX12_readUnit_67 : decode cX12_readUnit 67 = .ok (.aload_n 0, 1) := by decide +kernel
theorem dX12_readUnit_68 : decode cX12_readUnit 68 = .ok (.iconst 2, 1) := by decide +kernel
theorem dX12_readUnit_69 : decode cX12_readUnit 69 = .ok (.invokevirtual 140, 3) := by decide +kernel
theorem dX12_readUnit_72 : decode cX12_readUnit 72 = .ok (.return_, 1) := by decide +kernel
theorem kw_1402 : Cond.methodLink "FootholdWallModel" 173 yX12_readTruth ∈ gw := gw_of (tb_of 1402 (by decide +kernel)) (by decide +kernel)
theorem kw_1404 : Cond.instanceMethod yX12_readTruth ∈ gw := gw_of (tb_of 1404 (by decide +kernel)) (by decide +kernel)
theorem kw_1405 : Cond.code yX12_readTruth cX12_readTruth 2 none ∈ gw := gw_of (tb_of 1405 (by decide +kernel)) (by decide +kernel)
theorem ks_55 : Cond.selects RX12 yX12_readTruth yX12_readTruth ∈ gw := gw_of (pv_of 55 (by decide +kernel)) (by decide +kernel)
