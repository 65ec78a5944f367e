theorem dX12_init_0 : decode cX12_init 0 = .ok (.aload_n 0, 1) := by decide +kernel
theorem dX12_init_1 : decode cX12_init 1 = .ok (.invokespecial 7, 3) := by decide +kernel
theorem dX12_init_4 : decode cX12_init 4 = .ok (.aload_n 0, 1) := by decide +kernel
theorem dX12_init_5 : decode cX12_init 5 = .ok (.sipush 3906, 3) := by decide +kernel
theorem dX12_init_8 : decode cX12_init 8 = .ok (.newarray .int, 2) := by decide +kernel
theorem dX12_init_10 : decode cX12_init 10 = .ok (.putfield 13, 3) := by decide +kernel
theorem dX12_init_13 : decode cX12_init 13 = .ok (.aload_n 0, 1) := by decide +kernel
theorem dX12_init_14 : decode cX12_init 14 = .ok (.iconst 2, 1) := by decide +kernel
theorem dX12_init_15 : decode cX12_init 15 = .ok (.newarray .boolean, 2) := by decide +kernel
theorem dX12_init_17 : decode cX12_init 17 = .ok (.putfield 17, 3) := by decide +kernel
theorem dX12_init_20 : decode cX12_init 20 = .ok (.aload_n 0, 1) := by decide +kernel
theorem dX12_init_21 : decode cX12_init 21 = .ok (.sipush 900, 3) := by decide +kernel
theorem dX12_init_24 : decode cX12_init 24 = .ok (.newarray .int, 2) := by decide +kernel
theorem dX12_init_26 : decode cX12_init 26 = .ok (.putfield 21, 3) := by decide +kernel
theorem dX12_init_29 : decode cX12_init 29 = .ok (.aload_n 0, 1) := by decide +kernel
theorem dX12_init_30 : decode cX12_init 30 = .ok (.sipush 1302, 3) := by decide +kernel
theorem dX12_init_33 : decode cX12_init 33 = .ok (.newarray .int, 2) := by decide +kernel
theorem dX12_init_35 : decode cX12_init 35 = .ok (.putfield 24, 3) := by decide +kernel
theorem dX12_init_38 : decode cX12_init 38 = .ok (.aload_n 0, 1) := by decide +kernel
theorem dX12_init_39 : decode cX12_init 39 = .ok (.iconst (-1), 1) := by decide +kernel
theorem dX12_init_40 : decode cX12_init 40 = .ok (.putfield 27, 3) := by decide +kernel
theorem dX12_init_43 : decode cX12_init 43 = .ok (.aload_n 0, 1) := by decide +kernel
theorem dX12_init_44 : decode cX12_init 44 = .ok (.sipush 900, 3) := by decide +kernel
theorem dX12_init_47 : decode cX12_init 47 = .ok (.newarray .int, 2) := by decide +kernel
theorem dX12_init_49 : decode cX12_init 49 = .ok (.putfield 30, 3) := by decide +kernel
theorem dX12_init_52 : decode cX12_init 52 = .ok (.aload_n 0, 1) := by decide +kernel
theorem dX12_init_53 : decode cX12_init 53 = .ok (.bipush 14, 2) := by decide +kernel
theorem dX12_init_55 : decode cX12_init 55 = .ok (.newarray .int, 2) := by decide +kernel
theorem dX12_init_57 : decode cX12_init 57 = .ok (.putfield 33, 3) := by decide +kernel
theorem dX12_init_60 : decode cX12_init 60 = .ok (.aload_n 0, 1) := by decide +kernel
theorem dX12_init_61 : decode cX12_init 61 = .ok (.bipush 14, 2) := by decide +kernel
theorem dX12_init_63 : decode cX12_init 63 = .ok (.newarray .int, 2) := by decide +kernel
theorem dX12_init_65 : decode cX12_init 65 = .ok (.putfield 36, 3) := by decide +kernel
theorem dX12_init_68 : decode cX12_init 68 = .ok (.aload_n 0, 1) := by decide +kernel
theorem dX12_init_69 : decode cX12_init 69 = .ok (.bipush 14, 2) := by decide +kernel
theorem dX12_init_71 : decode cX12_init 71 = .ok (.newarray .int, 2) := by decide +kernel
theorem dX12_init_73 : decode cX12_init 73 = .ok (.putfield 39, 3) := by decide +kernel
theorem dX12_init_76 : decode cX12_init 76 = .ok (.aload_n 0, 1) := by decide +kernel
theorem dX12_init_77 : decode cX12_init 77 = .ok (.bipush 31, 2) := by decide +kernel
theorem dX12_init_79 : decode cX12_init 79 = .ok (.newarray .int, 2) := by decide +kernel
theorem dX12_init_81 : decode cX12_init 81 = .ok (.putfield 42, 3) := by decide +kernel
theorem dX12_init_84 : decode cX12_init 84 = .ok (.aload_n 0, 1) := by decide +kernel
theorem dX12_init_85 : decode cX12_init 85 = .ok (.bipush 31, 2) := by decide +kernel
theorem dX12_init_87 : decode cX12_init 87 = .ok (.newarray .int, 2) := by decide +kernel
theorem dX12_init_89 : decode cX12_init 89 = .ok (.putfield 45, 3) := by decide +kernel
theorem dX12_init_92 : decode cX12_init 92 = .ok (.aload_n 0, 1) := by decide +kernel
theorem dX12_init_93 : decode cX12_init 93 = .ok (.ldc 48, 2) := by decide +kernel
theorem dX12_init_95 : decode cX12_init 95 = .ok (.newarray .long, 2) := by decide +kernel
theorem dX12_init_97 : decode cX12_init 97 = .ok (.putfield 49, 3) := by decide +kernel
theorem dX12_init_100 : decode cX12_init 100 = .ok (.aload_n 0, 1) := by decide +kernel
theorem dX12_init_101 : decode cX12_init 101 = .ok (.sipush 16384, 3) := by decide +kernel
theorem dX12_init_104 : decode cX12_init 104 = .ok (.newarray .boolean, 2) := by decide +kernel
theorem dX12_init_106 : decode cX12_init 106 = .ok (.putfield 53, 3) := by decide +kernel
theorem dX12_init_109 : decode cX12_init 109 = .ok (.aload_n 0, 1) := by decide +kernel
theorem dX12_init_110 : decode cX12_init 110 = .ok (.ldc 48, 2) := by decide +kernel
theorem dX12_init_112 : decode cX12_init 112 = .ok (.newarray .byte, 2) := by decide +kernel
theorem dX12_init_114 : decode cX12_init 114 = .ok (.putfield 56, 3) := by decide +kernel
theorem dX12_init_117 : decode cX12_init 117 = .ok (.aload_n 0, 1) := by decide +kernel
theorem dX12_init_118 : decode cX12_init 118 = .ok (.iconst 5, 1) := by decide +kernel
theorem dX12_init_119 : decode cX12_init 119 = .ok (.newarray .int, 2) := by decide +kernel
theorem dX12_init_121 : decode cX12_init 121 = .ok (.putfield 60, 3) := by decide +kernel
theorem dX12_init_124 : decode cX12_init 124 = .ok (.aload_n 0, 1) := by decide +kernel
theorem dX12_init_125 : decode cX12_init 125 = .ok (.iconst 5, 1) := by decide +kernel
theorem dX12_init_126 : decode cX12_init 126 = .ok (.newarray .int, 2) := by decide +kernel
theorem dX12_init_128 : decode cX12_init 128 = .ok (.putfield 63, 3) := by decide +kernel
theorem dX12_init_131 : decode cX12_init 131 = .ok (.aload_n 0, 1) := by decide +kernel
theorem dX12_init_132 : decode cX12_init 132 = .ok (.sipush 186, 3) := by decide +kernel
theorem dX12_init_135 : decode cX12_init 135 = .ok (.newarray .int, 2) := by decide +kernel
theorem dX12_init_137 : decode cX12_init 137 = .ok (.putfield 66, 3) := by decide +kernel
theorem dX12_init_140 : decode cX12_init 140 = .ok (.aload_n 0, 1) := by decide +kernel
theorem dX12_init_141 : decode cX12_init 141 = .ok (.iconst 4, 1) := by decide +kernel
theorem dX12_init_142 : decode cX12_init 142 = .ok (.newarray .int, 2) := by decide +kernel
theorem dX12_init_144 : decode cX12_init 144 = .ok (.dup, 1) := by decide +kernel
theorem dX12_init_145 : decode cX12_init 145 = .ok (.iconst 0, 1) := by decide +kernel
theorem dX12_init_146 : decode cX12_init 146 = .ok (.iconst (-1), 1) := by decide +kernel
theorem dX12_init_147 : decode cX12_init 147 = .ok (.iastore, 1) := by decide +kernel
theorem dX12_init_148 : decode cX12_init 148 = .ok (.dup, 1) := by decide +kernel
theorem dX12_init_149 : decode cX12_init 149 = .ok (.iconst 1, 1) := by decide +kernel
theorem dX12_init_150 : decode cX12_init 150 = .ok (.iconst (-1), 1) := by decide +kernel
theorem dX12_init_151 : decode cX12_init 151 = .ok (.iastore, 1) := by decide +kernel
theorem dX12_init_152 : decode cX12_init 152 = .ok (.dup, 1) := by decide +kernel
theorem dX12_init_153 : decode cX12_init 153 = .ok (.iconst 2, 1) := by decide +kernel
theorem dX12_init_154 : decode cX12_init 154 = .ok (.iconst (-1), 1) := by decide +kernel
theorem dX12_init_155 : decode cX12_init 155 = .ok (.iastore, 1) := by decide +kernel
theorem dX12_init_156 : decode cX12_init 156 = .ok (.dup, 1) := by decide +kernel
theorem dX12_init_157 : decode cX12_init 157 = .ok (.iconst 3, 1) := by decide +kernel
theorem dX12_init_158 : decode cX12_init 158 = .ok (.iconst (-1), 1) := by decide +kernel
theorem dX12_init_159 : decode cX12_init 159 = .ok (.iastore, 1) := by decide +kernel
theorem dX12_init_160 : decode cX12_init 160 = .ok (.putfield 69, 3) := by decide +kernel
theorem dX12_init_163 : decode cX12_init 163 = .ok (.aload_n 0, 1) := by decide +kernel
theorem dX12_init_164 : decode cX12_init 164 = .ok (.iconst 4, 1) := by decide +kernel
theorem dX12_init_165 : decode cX12_init 165 = .ok (.newarray .int, 2) := by decide +kernel
theorem dX12_init_167 : decode cX12_init 167 = .ok (.putfield 72, 3) := by decide +kernel
theorem dX12_init_170 : decode cX12_init 170 = .ok (.aload_n 0, 1) := by decide +kernel
theorem dX12_init_171 : decode cX12_init 171 = .ok (.sipush 160, 3) := by decide +kernel
theorem dX12_init_174 : decode cX12_init 174 = .ok (.newarray .long, 2) := by decide +kernel
theorem dX12_init_176 : decode cX12_init 176 = .ok (.putfield 75, 3) := by decide +kernel
theorem dX12_init_179 : decode cX12_init 179 = .ok (.aload_n 0, 1) := by decide +kernel
theorem dX12_init_180 : decode cX12_init 180 = .ok (.getfield 13, 3) := by decide +kernel
theorem dX12_init_183 : decode cX12_init 183 = .ok (.invokestatic 78, 3) := by decide +kernel
theorem dX12_init_186 : decode cX12_init 186 = .ok (.return_, 1) := by decide +kernel
theorem kw_1218 : Cond.methodLink "FootholdWallModel" 7 objectInit ∈ gw := gw_of (tb_of 1218 (by decide +kernel)) (by decide +kernel)
theorem kw_1219 : Cond.constant "FootholdWallModel" 48 229376 ∈ gw := gw_of (tb_of 1219 (by decide +kernel)) (by decide +kernel)
theorem kw_1332 : Cond.arrayClass .boolean ∈ gw := gw_of (tb_of 1332 (by decide +kernel)) (by decide +kernel)
set_option maxHeartbeats 4000000 in
set_option maxRecDepth 100000 in
theorem c_MO_init (l : Launch) (D : va_G) (cB cI cJ cZ cS cW cT cR : ClassId) (h0 : Nat) : Kon l D (tyl cB cI cJ cZ cS cW cT cR) yX12_init cX12_init 1 none { frames := 1, cells := 19, slots := 482614, locals := 21 } [.ref h0] [(h0, .inr (12, [.int 0, .null, .null, .null, .null, .int 0, .int 0, .int 0, .int 0, .int 0, .int 0, .int 0, .int 0, .int 0, .int 0, .null, .int 0, .null, .null, .null, .int 0, .null, .null, .int 0, .int 0, .int 0, .null, .null, .null, .null, .null, .null, .int 0, .null, .null, .null]))] (Qv D (fun u => ∃ (q_1 : Nat), ∃ (q_2 : Nat), ∃ (q_3 : Nat), ∃ (q_4 : Nat), ∃ (q_5 : Nat), ∃ (q_6 : Nat), ∃ (q_7 : Nat), ∃ (q_8 : Nat), ∃ (q_9 : Nat), ∃ (q_10 : Nat), ∃ (q_11 : Nat), ∃ (q_12 : Nat), ∃ (q_13 : Nat), ∃ (q_14 : Nat), ∃ (q_15 : Nat), ∃ (q_16 : Nat), ∃ (q_17 : Nat), ∃ (q_18 : Nat), ∃ (q_19 : Nat), u = [(h0, .inr (12, [.int 0, .ref q_1, .ref q_2, .ref q_3, .ref q_4, .int 0, .int 0, .int 0, .int 0, .int 0, .int 0, .int 0, .int 0, .int 0, .int (-1), .ref q_5, .int 0, .ref q_6, .ref q_7, .ref q_8, .int 0, .ref q_9, .ref q_10, .int 0, .int 0, .int 0, .ref q_11, .ref q_12, .ref q_13, .ref q_14, .ref q_15, .ref q_16, .int 0, .ref q_17, .ref q_18, .ref q_19])), (q_2, .inl (cZ, 2, .inl (fun _ => 0))), (q_3, .inl (cI, 900, .inl (fun _ => 0))), (q_4, .inl (cI, 1302, .inl (fun _ => 0))), (q_5, .inl (cI, 900, .inl (fun _ => 0))), (q_6, .inl (cI, 14, .inl (fun _ => 0))), (q_7, .inl (cI, 14, .inl (fun _ => 0))), (q_8, .inl (cI, 14, .inl (fun _ => 0))), (q_9, .inl (cI, 31, .inl (fun _ => 0))), (q_10, .inl (cI, 31, .inl (fun _ => 0))), (q_11, .inl (cJ, 229376, .inr (.inl (fun _ => 0)))), (q_12, .inl (cZ, 16384, .inl (fun _ => 0))), (q_13, .inl (cB, 229376, .inl (fun _ => 0))), (q_14, .inl (cI, 5, .inl (fun _ => 0))), (q_15, .inl (cI, 5, .inl (fun _ => 0))), (q_16, .inl (cI, 186, .inl (fun _ => 0))), (q_17, .inl (cI, 4, .inl rs4)), (q_18, .inl (cI, 4, .inl (fun _ => 0))), (q_19, .inl (cJ, 160, .inr (.inl (fun _ => 0)))), (q_1, .inl (cI, 3906, .inl plc))])) := by
  refine kon_of (by decide) (Nat.le_of_ble_eq_true rfl) (fun p e s m below meth c ls A hx hb hr hml hown hts hlocks hnm hkb hP hD hS hA hl => ?_)
  have hown : s.vm.findClass RX12 = some m.cls := hown
  have hl : lv_has ls 1 [(0, .ref h0)] := hl
  have hP : va_P D cls [(h0, .inr (12, [.int 0, .null, .null, .null, .null, .int 0, .int 0, .int 0, .int 0, .int 0, .int 0, .int 0, .int 0, .int 0, .int 0, .null, .int 0, .null, .null, .null, .int 0, .null, .null, .int 0, .int 0, .int 0, .null, .null, .null, .null, .null, .null, .int 0, .null, .null, .null]))] s.heap := hP
  refine lv_aload_n hx hb dX12_init_0 rfl (lv_at hl 0 rfl) ?_
  refine W.objInit hx hb hown (hts _ kw_1218) (hts _ kw_30) (hts _ kw_31) rfl (by rw [hml]; exact hl.1) rfl dX12_init_1 (Nat.le_of_ble_eq_true rfl) (Nat.le_of_ble_eq_true rfl) ?_
  refine W.eq (g2 := F0 m 4 ls []) rfl ?_
  refine lv_aload_n hx hb dX12_init_4 rfl (lv_at hl 0 rfl) ?_
  refine lv_sipush (v := 3906) hx hb dX12_init_5 (by decide) ?_
  refine n_a (atype := .int) (t := .int) (a0 := (3906, .inl (fun _ => 0))) 1 rfl (fun _ _ h => h) hx hb (hts _ kw_92) rfl hkb.1 hP hD hS hA (fun _ => rfl) (by decide) (by decide +kernel) (by decide) (Nat.le_of_ble_eq_true rfl) (Nat.le_of_ble_eq_true rfl) dX12_init_8 (fun q_1 H hP hD hS => ?_)
  have hP : va_P D cls [(h0, .inr (12, [.int 0, .null, .null, .null, .null, .int 0, .int 0, .int 0, .int 0, .int 0, .int 0, .int 0, .int 0, .int 0, .int 0, .null, .int 0, .null, .null, .null, .int 0, .null, .null, .int 0, .int 0, .int 0, .null, .null, .null, .null, .null, .null, .int 0, .null, .null, .null])), (q_1, .inl (cI, 3906, .inl (fun _ => 0)))] H := hP
  have hD : va_D A [(h0, .inr (12, [.int 0, .null, .null, .null, .null, .int 0, .int 0, .int 0, .int 0, .int 0, .int 0, .int 0, .int 0, .int 0, .int 0, .null, .int 0, .null, .null, .null, .int 0, .null, .null, .int 0, .int 0, .int 0, .null, .null, .null, .null, .null, .null, .int 0, .null, .null, .null])), (q_1, .inl (cI, 3906, .inl (fun _ => 0)))] := hD
  refine W.widen (k := 1) (n := 3906) (Nat.le_of_ble_eq_true rfl) (Nat.le_of_ble_eq_true rfl) ?_
  refine va_putF (D := D) (ci := 12) (v := .ref q_1) (ty := tyX12 1) (C := RX12) (T := TX12) (N := 36) hx hb hts uX12 tyX12 tyX12_ok nmX12 hown hkb.1 hP hD hS 0 rfl rfl 1 (by decide) (hts _ kw_1224) (fun _ h9 => h9) rfl hnm rfl (tyX12_ok 1 (by decide)) rfl rfl (Nat.le_of_ble_eq_true rfl) dX12_init_10 (fun H locs hP hD hS => ?_)
  have hP : va_P D cls [(h0, .inr (12, [.int 0, .ref q_1, .null, .null, .null, .int 0, .int 0, .int 0, .int 0, .int 0, .int 0, .int 0, .int 0, .int 0, .int 0, .null, .int 0, .null, .null, .null, .int 0, .null, .null, .int 0, .int 0, .int 0, .null, .null, .null, .null, .null, .null, .int 0, .null, .null, .null])), (q_1, .inl (cI, 3906, .inl (fun _ => 0)))] H := hP
  have hD : va_D A [(h0, .inr (12, [.int 0, .ref q_1, .null, .null, .null, .int 0, .int 0, .int 0, .int 0, .int 0, .int 0, .int 0, .int 0, .int 0, .int 0, .null, .int 0, .null, .null, .null, .int 0, .null, .null, .int 0, .int 0, .int 0, .null, .null, .null, .null, .null, .null, .int 0, .null, .null, .null])), (q_1, .inl (cI, 3906, .inl (fun _ => 0)))] := hD
  refine lv_aload_n hx hb dX12_init_13 rfl (lv_at hl 0 rfl) ?_
  refine lv_iconst (v := 2) hx hb dX12_init_14 (by decide) ?_
  refine n_a (atype := .boolean) (t := .boolean) (a0 := (2, .inl (fun _ => 0))) 3 rfl (fun _ _ h => h) hx hb (hts _ kw_1332) rfl hkb.1 hP hD hS hA (fun _ => rfl) (by decide) (by decide +kernel) (by decide) (Nat.le_of_ble_eq_true rfl) (Nat.le_of_ble_eq_true rfl) dX12_init_15 (fun q_2 H hP hD hS => ?_)
  have hP : va_P D cls [(h0, .inr (12, [.int 0, .ref q_1, .null, .null, .null, .int 0, .int 0, .int 0, .int 0, .int 0, .int 0, .int 0, .int 0, .int 0, .int 0, .null, .int 0, .null, .null, .null, .int 0, .null, .null, .int 0, .int 0, .int 0, .null, .null, .null, .null, .null, .null, .int 0, .null, .null, .null])), (q_1, .inl (cI, 3906, .inl (fun _ => 0))), (q_2, .inl (cZ, 2, .inl (fun _ => 0)))] H := hP
  have hD : va_D A [(h0, .inr (12, [.int 0, .ref q_1, .null, .null, .null, .int 0, .int 0, .int 0, .int 0, .int 0, .int 0, .int 0, .int 0, .int 0, .int 0, .null, .int 0, .null, .null, .null, .int 0, .null, .null, .int 0, .int 0, .int 0, .null, .null, .null, .null, .null, .null, .int 0, .null, .null, .null])), (q_1, .inl (cI, 3906, .inl (fun _ => 0))), (q_2, .inl (cZ, 2, .inl (fun _ => 0)))] := hD
  refine W.widen (k := 2) (n := 3908) (Nat.le_of_ble_eq_true rfl) (Nat.le_of_ble_eq_true rfl) ?_
  refine va_putF (D := D) (ci := 12) (v := .ref q_2) (ty := tyX12 2) (C := RX12) (T := TX12) (N := 36) hx hb hts uX12 tyX12 tyX12_ok nmX12 hown hkb.1 hP hD hS 0 rfl rfl 2 (by decide) (hts _ kw_1225) (fun _ h9 => h9) rfl hnm rfl (tyX12_ok 2 (by decide)) rfl rfl (Nat.le_of_ble_eq_true rfl) dX12_init_17 (fun H locs hP hD hS => ?_)
  have hP : va_P D cls [(h0, .inr (12, [.int 0, .ref q_1, .ref q_2, .null, .null, .int 0, .int 0, .int 0, .int 0, .int 0, .int 0, .int 0, .int 0, .int 0, .int 0, .null, .int 0, .null, .null, .null, .int 0, .null, .null, .int 0, .int 0, .int 0, .null, .null, .null, .null, .null, .null, .int 0, .null, .null, .null])), (q_1, .inl (cI, 3906, .inl (fun _ => 0))), (q_2, .inl (cZ, 2, .inl (fun _ => 0)))] H := hP
  have hD : va_D A [(h0, .inr (12, [.int 0, .ref q_1, .ref q_2, .null, .null, .int 0, .int 0, .int 0, .int 0, .int 0, .int 0, .int 0, .int 0, .int 0, .int 0, .null, .int 0, .null, .null, .null, .int 0, .null, .null, .int 0, .int 0, .int 0, .null, .null, .null, .null, .null, .null, .int 0, .null, .null, .null])), (q_1, .inl (cI, 3906, .inl (fun _ => 0))), (q_2, .inl (cZ, 2, .inl (fun _ => 0)))] := hD
  refine lv_aload_n hx hb dX12_init_20 rfl (lv_at hl 0 rfl) ?_
  refine lv_sipush (v := 900) hx hb dX12_init_21 (by decide) ?_
  refine n_a (atype := .int) (t := .int) (a0 := (900, .inl (fun _ => 0))) 1 rfl (fun _ _ h => h) hx hb (hts _ kw_92) rfl hkb.1 hP hD hS hA (fun _ => rfl) (by decide) (by decide +kernel) (by decide) (Nat.le_of_ble_eq_true rfl) (Nat.le_of_ble_eq_true rfl) dX12_init_24 (fun q_3 H hP hD hS => ?_)
  have hP : va_P D cls [(h0, .inr (12, [.int 0, .ref q_1, .ref q_2, .null, .null, .int 0, .int 0, .int 0, .int 0, .int 0, .int 0, .int 0, .int 0, .int 0, .int 0, .null, .int 0, .null, .null, .null, .int 0, .null, .null, .int 0, .int 0, .int 0, .null, .null, .null, .null, .null, .null, .int 0, .null, .null, .null])), (q_1, .inl (cI, 3906, .inl (fun _ => 0))), (q_2, .inl (cZ, 2, .inl (fun _ => 0))), (q_3, .inl (cI, 900, .inl (fun _ => 0)))] H := hP
  have hD : va_D A [(h0, .inr (12, [.int 0, .ref q_1, .ref q_2, .null, .null, .int 0, .int 0, .int 0, .int 0, .int 0, .int 0, .int 0, .int 0, .int 0, .int 0, .null, .int 0, .null, .null, .null, .int 0, .null, .null, .int 0, .int 0, .int 0, .null, .null, .null, .null, .null, .null, .int 0, .null, .null, .null])), (q_1, .inl (cI, 3906, .inl (fun _ => 0))), (q_2, .inl (cZ, 2, .inl (fun _ => 0))), (q_3, .inl (cI, 900, .inl (fun _ => 0)))] := hD
  refine W.widen (k := 3) (n := 4808) (Nat.le_of_ble_eq_true rfl) (Nat.le_of_ble_eq_true rfl) ?_
  refine va_putF (D := D) (ci := 12) (v := .ref q_3) (ty := tyX12 3) (C := RX12) (T := TX12) (N := 36) hx hb hts uX12 tyX12 tyX12_ok nmX12 hown hkb.1 hP hD hS 0 rfl rfl 3 (by decide) (hts _ kw_1226) (fun _ h9 => h9) rfl hnm rfl (tyX12_ok 3 (by decide)) rfl rfl (Nat.le_of_ble_eq_true rfl) dX12_init_26 (fun H locs hP hD hS => ?_)
  have hP : va_P D cls [(h0, .inr (12, [.int 0, .ref q_1, .ref q_2, .ref q_3, .null, .int 0, .int 0, .int 0, .int 0, .int 0, .int 0, .int 0, .int 0, .int 0, .int 0, .null, .int 0, .null, .null, .null, .int 0, .null, .null, .int 0, .int 0, .int 0, .null, .null, .null, .null, .null, .null, .int 0, .null, .null, .null])), (q_1, .inl (cI, 3906, .inl (fun _ => 0))), (q_2, .inl (cZ, 2, .inl (fun _ => 0))), (q_3, .inl (cI, 900, .inl (fun _ => 0)))] H := hP
  have hD : va_D A [(h0, .inr (12, [.int 0, .ref q_1, .ref q_2, .ref q_3, .null, .int 0, .int 0, .int 0, .int 0, .int 0, .int 0, .int 0, .int 0, .int 0, .int 0, .null, .int 0, .null, .null, .null, .int 0, .null, .null, .int 0, .int 0, .int 0, .null, .null, .null, .null, .null, .null, .int 0, .null, .null, .null])), (q_1, .inl (cI, 3906, .inl (fun _ => 0))), (q_2, .inl (cZ, 2, .inl (fun _ => 0))), (q_3, .inl (cI, 900, .inl (fun _ => 0)))] := hD
  refine lv_aload_n hx hb dX12_init_29 rfl (lv_at hl 0 rfl) ?_
  refine lv_sipush (v := 1302) hx hb dX12_init_30 (by decide) ?_
  refine n_a (atype := .int) (t := .int) (a0 := (1302, .inl (fun _ => 0))) 1 rfl (fun _ _ h => h) hx hb (hts _ kw_92) rfl hkb.1 hP hD hS hA (fun _ => rfl) (by decide) (by decide +kernel) (by decide) (Nat.le_of_ble_eq_true rfl) (Nat.le_of_ble_eq_true rfl) dX12_init_33 (fun q_4 H hP hD hS => ?_)
  have hP : va_P D cls [(h0, .inr (12, [.int 0, .ref q_1, .ref q_2, .ref q_3, .null, .int 0, .int 0, .int 0, .int 0, .int 0, .int 0, .int 0, .int 0, .int 0, .int 0, .null, .int 0, .null, .null, .null, .int 0, .null, .null, .int 0, .int 0, .int 0, .null, .null, .null, .null, .null, .null, .int 0, .null, .null, .null])), (q_1, .inl (cI, 3906, .inl (fun _ => 0))), (q_2, .inl (cZ, 2, .inl (fun _ => 0))), (q_3, .inl (cI, 900, .inl (fun _ => 0))), (q_4, .inl (cI, 1302, .inl (fun _ => 0)))] H := hP
  have hD : va_D A [(h0, .inr (12, [.int 0, .ref q_1, .ref q_2, .ref q_3, .null, .int 0, .int 0, .int 0, .int 0, .int 0, .int 0, .int 0, .int 0, .int 0, .int 0, .null, .int 0, .null, .null, .null, .int 0, .null, .null, .int 0, .int 0, .int 0, .null, .null, .null, .null, .null, .null, .int 0, .null, .null, .null])), (q_1, .inl (cI, 3906, .inl (fun _ => 0))), (q_2, .inl (cZ, 2, .inl (fun _ => 0))), (q_3, .inl (cI, 900, .inl (fun _ => 0))), (q_4, .inl (cI, 1302, .inl (fun _ => 0)))] := hD
  refine W.widen (k := 4) (n := 6110) (Nat.le_of_ble_eq_true rfl) (Nat.le_of_ble_eq_true rfl) ?_
  refine va_putF (D := D) (ci := 12) (v := .ref q_4) (ty := tyX12 4) (C := RX12) (T := TX12) (N := 36) hx hb hts uX12 tyX12 tyX12_ok nmX12 hown hkb.1 hP hD hS 0 rfl rfl 4 (by decide) (hts _ kw_1227) (fun _ h9 => h9) rfl hnm rfl (tyX12_ok 4 (by decide)) rfl rfl (Nat.le_of_ble_eq_true rfl) dX12_init_35 (fun H locs hP hD hS => ?_)
  have hP : va_P D cls [(h0, .inr (12, [.int 0, .ref q_1, .ref q_2, .ref q_3, .ref q_4, .int 0, .int 0, .int 0, .int 0, .int 0, .int 0, .int 0, .int 0, .int 0, .int 0, .null, .int 0, .null, .null, .null, .int 0, .null, .null, .int 0, .int 0, .int 0, .null, .null, .null, .null, .null, .null, .int 0, .null, .null, .null])), (q_1, .inl (cI, 3906, .inl (fun _ => 0))), (q_2, .inl (cZ, 2, .inl (fun _ => 0))), (q_3, .inl (cI, 900, .inl (fun _ => 0))), (q_4, .inl (cI, 1302, .inl (fun _ => 0)))] H := hP
  have hD : va_D A [(h0, .inr (12, [.int 0, .ref q_1, .ref q_2, .ref q_3, .ref q_4, .int 0, .int 0, .int 0, .int 0, .int 0, .int 0, .int 0, .int 0, .int 0, .int 0, .null, .int 0, .null, .null, .null, .int 0, .null, .null, .int 0, .int 0, .int 0, .null, .null, .null, .null, .null, .null, .int 0, .null, .null, .null])), (q_1, .inl (cI, 3906, .inl (fun _ => 0))), (q_2, .inl (cZ, 2, .inl (fun _ => 0))), (q_3, .inl (cI, 900, .inl (fun _ => 0))), (q_4, .inl (cI, 1302, .inl (fun _ => 0)))] := hD
  refine lv_aload_n hx hb dX12_init_38 rfl (lv_at hl 0 rfl) ?_
  refine lv_iconst (v := (-1)) hx hb dX12_init_39 (by decide) ?_
  refine va_put (D := D) (ci := 12) (v := .int (-1)) (ty := tyX12 14) (C := RX12) (T := TX12) (N := 36) hx hb hts uX12 tyX12 tyX12_ok nmX12 hown hkb.1 hP hD hS 0 rfl rfl 14 (by decide) (hts _ kw_1237) (fun _ h9 => h9) rfl (tyX12_ok 14 (by decide)) rfl rfl (Nat.le_of_ble_eq_true rfl) dX12_init_40 (fun H locs hP hD hS => ?_)
  have hP : va_P D cls [(h0, .inr (12, [.int 0, .ref q_1, .ref q_2, .ref q_3, .ref q_4, .int 0, .int 0, .int 0, .int 0, .int 0, .int 0, .int 0, .int 0, .int 0, .int (-1), .null, .int 0, .null, .null, .null, .int 0, .null, .null, .int 0, .int 0, .int 0, .null, .null, .null, .null, .null, .null, .int 0, .null, .null, .null])), (q_1, .inl (cI, 3906, .inl (fun _ => 0))), (q_2, .inl (cZ, 2, .inl (fun _ => 0))), (q_3, .inl (cI, 900, .inl (fun _ => 0))), (q_4, .inl (cI, 1302, .inl (fun _ => 0)))] H := hP
  have hD : va_D A [(h0, .inr (12, [.int 0, .ref q_1, .ref q_2, .ref q_3, .ref q_4, .int 0, .int 0, .int 0, .int 0, .int 0, .int 0, .int 0, .int 0, .int 0, .int (-1), .null, .int 0, .null, .null, .null, .int 0, .null, .null, .int 0, .int 0, .int 0, .null, .null, .null, .null, .null, .null, .int 0, .null, .null, .null])), (q_1, .inl (cI, 3906, .inl (fun _ => 0))), (q_2, .inl (cZ, 2, .inl (fun _ => 0))), (q_3, .inl (cI, 900, .inl (fun _ => 0))), (q_4, .inl (cI, 1302, .inl (fun _ => 0)))] := hD
  refine lv_aload_n hx hb dX12_init_43 rfl (lv_at hl 0 rfl) ?_
  refine lv_sipush (v := 900) hx hb dX12_init_44 (by decide) ?_
  refine n_a (atype := .int) (t := .int) (a0 := (900, .inl (fun _ => 0))) 1 rfl (fun _ _ h => h) hx hb (hts _ kw_92) rfl hkb.1 hP hD hS hA (fun _ => rfl) (by decide) (by decide +kernel) (by decide) (Nat.le_of_ble_eq_true rfl) (Nat.le_of_ble_eq_true rfl) dX12_init_47 (fun q_5 H hP hD hS => ?_)
  have hP : va_P D cls [(h0, .inr (12, [.int 0, .ref q_1, .ref q_2, .ref q_3, .ref q_4, .int 0, .int 0, .int 0, .int 0, .int 0, .int 0, .int 0, .int 0, .int 0, .int (-1), .null, .int 0, .null, .null, .null, .int 0, .null, .null, .int 0, .int 0, .int 0, .null, .null, .null, .null, .null, .null, .int 0, .null, .null, .null])), (q_1, .inl (cI, 3906, .inl (fun _ => 0))), (q_2, .inl (cZ, 2, .inl (fun _ => 0))), (q_3, .inl (cI, 900, .inl (fun _ => 0))), (q_4, .inl (cI, 1302, .inl (fun _ => 0))), (q_5, .inl (cI, 900, .inl (fun _ => 0)))] H := hP
  have hD : va_D A [(h0, .inr (12, [.int 0, .ref q_1, .ref q_2, .ref q_3, .ref q_4, .int 0, .int 0, .int 0, .int 0, .int 0, .int 0, .int 0, .int 0, .int 0, .int (-1), .null, .int 0, .null, .null, .null, .int 0, .null, .null, .int 0, .int 0, .int 0, .null, .null, .null, .null, .null, .null, .int 0, .null, .null, .null])), (q_1, .inl (cI, 3906, .inl (fun _ => 0))), (q_2, .inl (cZ, 2, .inl (fun _ => 0))), (q_3, .inl (cI, 900, .inl (fun _ => 0))), (q_4, .inl (cI, 1302, .inl (fun _ => 0))), (q_5, .inl (cI, 900, .inl (fun _ => 0)))] := hD
  refine W.widen (k := 5) (n := 7010) (Nat.le_of_ble_eq_true rfl) (Nat.le_of_ble_eq_true rfl) ?_
  refine va_putF (D := D) (ci := 12) (v := .ref q_5) (ty := tyX12 15) (C := RX12) (T := TX12) (N := 36) hx hb hts uX12 tyX12 tyX12_ok nmX12 hown hkb.1 hP hD hS 0 rfl rfl 15 (by decide) (hts _ kw_1238) (fun _ h9 => h9) rfl hnm rfl (tyX12_ok 15 (by decide)) rfl rfl (Nat.le_of_ble_eq_true rfl) dX12_init_49 (fun H locs hP hD hS => ?_)
  have hP : va_P D cls [(h0, .inr (12, [.int 0, .ref q_1, .ref q_2, .ref q_3, .ref q_4, .int 0, .int 0, .int 0, .int 0, .int 0, .int 0, .int 0, .int 0, .int 0, .int (-1), .ref q_5, .int 0, .null, .null, .null, .int 0, .null, .null, .int 0, .int 0, .int 0, .null, .null, .null, .null, .null, .null, .int 0, .null, .null, .null])), (q_1, .inl (cI, 3906, .inl (fun _ => 0))), (q_2, .inl (cZ, 2, .inl (fun _ => 0))), (q_3, .inl (cI, 900, .inl (fun _ => 0))), (q_4, .inl (cI, 1302, .inl (fun _ => 0))), (q_5, .inl (cI, 900, .inl (fun _ => 0)))] H := hP
  have hD : va_D A [(h0, .inr (12, [.int 0, .ref q_1, .ref q_2, .ref q_3, .ref q_4, .int 0, .int 0, .int 0, .int 0, .int 0, .int 0, .int 0, .int 0, .int 0, .int (-1), .ref q_5, .int 0, .null, .null, .null, .int 0, .null, .null, .int 0, .int 0, .int 0, .null, .null, .null, .null, .null, .null, .int 0, .null, .null, .null])), (q_1, .inl (cI, 3906, .inl (fun _ => 0))), (q_2, .inl (cZ, 2, .inl (fun _ => 0))), (q_3, .inl (cI, 900, .inl (fun _ => 0))), (q_4, .inl (cI, 1302, .inl (fun _ => 0))), (q_5, .inl (cI, 900, .inl (fun _ => 0)))] := hD
  refine lv_aload_n hx hb dX12_init_52 rfl (lv_at hl 0 rfl) ?_
  refine lv_bipush (v := 14) hx hb dX12_init_53 (by decide) ?_
  refine n_a (atype := .int) (t := .int) (a0 := (14, .inl (fun _ => 0))) 1 rfl (fun _ _ h => h) hx hb (hts _ kw_92) rfl hkb.1 hP hD hS hA (fun _ => rfl) (by decide) (by decide +kernel) (by decide) (Nat.le_of_ble_eq_true rfl) (Nat.le_of_ble_eq_true rfl) dX12_init_55 (fun q_6 H hP hD hS => ?_)
  have hP : va_P D cls [(h0, .inr (12, [.int 0, .ref q_1, .ref q_2, .ref q_3, .ref q_4, .int 0, .int 0, .int 0, .int 0, .int 0, .int 0, .int 0, .int 0, .int 0, .int (-1), .ref q_5, .int 0, .null, .null, .null, .int 0, .null, .null, .int 0, .int 0, .int 0, .null, .null, .null, .null, .null, .null, .int 0, .null, .null, .null])), (q_1, .inl (cI, 3906, .inl (fun _ => 0))), (q_2, .inl (cZ, 2, .inl (fun _ => 0))), (q_3, .inl (cI, 900, .inl (fun _ => 0))), (q_4, .inl (cI, 1302, .inl (fun _ => 0))), (q_5, .inl (cI, 900, .inl (fun _ => 0))), (q_6, .inl (cI, 14, .inl (fun _ => 0)))] H := hP
  have hD : va_D A [(h0, .inr (12, [.int 0, .ref q_1, .ref q_2, .ref q_3, .ref q_4, .int 0, .int 0, .int 0, .int 0, .int 0, .int 0, .int 0, .int 0, .int 0, .int (-1), .ref q_5, .int 0, .null, .null, .null, .int 0, .null, .null, .int 0, .int 0, .int 0, .null, .null, .null, .null, .null, .null, .int 0, .null, .null, .null])), (q_1, .inl (cI, 3906, .inl (fun _ => 0))), (q_2, .inl (cZ, 2, .inl (fun _ => 0))), (q_3, .inl (cI, 900, .inl (fun _ => 0))), (q_4, .inl (cI, 1302, .inl (fun _ => 0))), (q_5, .inl (cI, 900, .inl (fun _ => 0))), (q_6, .inl (cI, 14, .inl (fun _ => 0)))] := hD
  refine W.widen (k := 6) (n := 7024) (Nat.le_of_ble_eq_true rfl) (Nat.le_of_ble_eq_true rfl) ?_
  refine va_putF (D := D) (ci := 12) (v := .ref q_6) (ty := tyX12 17) (C := RX12) (T := TX12) (N := 36) hx hb hts uX12 tyX12 tyX12_ok nmX12 hown hkb.1 hP hD hS 0 rfl rfl 17 (by decide) (hts _ kw_1240) (fun _ h9 => h9) rfl hnm rfl (tyX12_ok 17 (by decide)) rfl rfl (Nat.le_of_ble_eq_true rfl) dX12_init_57 (fun H locs hP hD hS => ?_)
  have hP : va_P D cls [(h0, .inr (12, [.int 0, .ref q_1, .ref q_2, .ref q_3, .ref q_4, .int 0, .int 0, .int 0, .int 0, .int 0, .int 0, .int 0, .int 0, .int 0, .int (-1), .ref q_5, .int 0, .ref q_6, .null, .null, .int 0, .null, .null, .int 0, .int 0, .int 0, .null, .null, .null, .null, .null, .null, .int 0, .null, .null, .null])), (q_1, .inl (cI, 3906, .inl (fun _ => 0))), (q_2, .inl (cZ, 2, .inl (fun _ => 0))), (q_3, .inl (cI, 900, .inl (fun _ => 0))), (q_4, .inl (cI, 1302, .inl (fun _ => 0))), (q_5, .inl (cI, 900, .inl (fun _ => 0))), (q_6, .inl (cI, 14, .inl (fun _ => 0)))] H := hP
  have hD : va_D A [(h0, .inr (12, [.int 0, .ref q_1, .ref q_2, .ref q_3, .ref q_4, .int 0, .int 0, .int 0, .int 0, .int 0, .int 0, .int 0, .int 0, .int 0, .int (-1), .ref q_5, .int 0, .ref q_6, .null, .null, .int 0, .null, .null, .int 0, .int 0, .int 0, .null, .null, .null, .null, .null, .null, .int 0, .null, .null, .null])), (q_1, .inl (cI, 3906, .inl (fun _ => 0))), (q_2, .inl (cZ, 2, .inl (fun _ => 0))), (q_3, .inl (cI, 900, .inl (fun _ => 0))), (q_4, .inl (cI, 1302, .inl (fun _ => 0))), (q_5, .inl (cI, 900, .inl (fun _ => 0))), (q_6, .inl (cI, 14, .inl (fun _ => 0)))] := hD
  refine lv_aload_n hx hb dX12_init_60 rfl (lv_at hl 0 rfl) ?_
  refine lv_bipush (v := 14) hx hb dX12_init_61 (by decide) ?_
  refine n_a (atype := .int) (t := .int) (a0 := (14, .inl (fun _ => 0))) 1 rfl (fun _ _ h => h) hx hb (hts _ kw_92) rfl hkb.1 hP hD hS hA (fun _ => rfl) (by decide) (by decide +kernel) (by decide) (Nat.le_of_ble_eq_true rfl) (Nat.le_of_ble_eq_true rfl) dX12_init_63 (fun q_7 H hP hD hS => ?_)
  have hP : va_P D cls [(h0, .inr (12, [.int 0, .ref q_1, .ref q_2, .ref q_3, .ref q_4, .int 0, .int 0, .int 0, .int 0, .int 0, .int 0, .int 0, .int 0, .int 0, .int (-1), .ref q_5, .int 0, .ref q_6, .null, .null, .int 0, .null, .null, .int 0, .int 0, .int 0, .null, .null, .null, .null, .null, .null, .int 0, .null, .null, .null])), (q_1, .inl (cI, 3906, .inl (fun _ => 0))), (q_2, .inl (cZ, 2, .inl (fun _ => 0))), (q_3, .inl (cI, 900, .inl (fun _ => 0))), (q_4, .inl (cI, 1302, .inl (fun _ => 0))), (q_5, .inl (cI, 900, .inl (fun _ => 0))), (q_6, .inl (cI, 14, .inl (fun _ => 0))), (q_7, .inl (cI, 14, .inl (fun _ => 0)))] H := hP
  have hD : va_D A [(h0, .inr (12, [.int 0, .ref q_1, .ref q_2, .ref q_3, .ref q_4, .int 0, .int 0, .int 0, .int 0, .int 0, .int 0, .int 0, .int 0, .int 0, .int (-1), .ref q_5, .int 0, .ref q_6, .null, .null, .int 0, .null, .null, .int 0, .int 0, .int 0, .null, .null, .null, .null, .null, .null, .int 0, .null, .null, .null])), (q_1, .inl (cI, 3906, .inl (fun _ => 0))), (q_2, .inl (cZ, 2, .inl (fun _ => 0))), (q_3, .inl (cI, 900, .inl (fun _ => 0))), (q_4, .inl (cI, 1302, .inl (fun _ => 0))), (q_5, .inl (cI, 900, .inl (fun _ => 0))), (q_6, .inl (cI, 14, .inl (fun _ => 0))), (q_7, .inl (cI, 14, .inl (fun _ => 0)))] := hD
  refine W.widen (k := 7) (n := 7038) (Nat.le_of_ble_eq_true rfl) (Nat.le_of_ble_eq_true rfl) ?_
  refine va_putF (D := D) (ci := 12) (v := .ref q_7) (ty := tyX12 18) (C := RX12) (T := TX12) (N := 36) hx hb hts uX12 tyX12 tyX12_ok nmX12 hown hkb.1 hP hD hS 0 rfl rfl 18 (by decide) (hts _ kw_1241) (fun _ h9 => h9) rfl hnm rfl (tyX12_ok 18 (by decide)) rfl rfl (Nat.le_of_ble_eq_true rfl) dX12_init_65 (fun H locs hP hD hS => ?_)
  have hP : va_P D cls [(h0, .inr (12, [.int 0, .ref q_1, .ref q_2, .ref q_3, .ref q_4, .int 0, .int 0, .int 0, .int 0, .int 0, .int 0, .int 0, .int 0, .int 0, .int (-1), .ref q_5, .int 0, .ref q_6, .ref q_7, .null, .int 0, .null, .null, .int 0, .int 0, .int 0, .null, .null, .null, .null, .null, .null, .int 0, .null, .null, .null])), (q_1, .inl (cI, 3906, .inl (fun _ => 0))), (q_2, .inl (cZ, 2, .inl (fun _ => 0))), (q_3, .inl (cI, 900, .inl (fun _ => 0))), (q_4, .inl (cI, 1302, .inl (fun _ => 0))), (q_5, .inl (cI, 900, .inl (fun _ => 0))), (q_6, .inl (cI, 14, .inl (fun _ => 0))), (q_7, .inl (cI, 14, .inl (fun _ => 0)))] H := hP
  have hD : va_D A [(h0, .inr (12, [.int 0, .ref q_1, .ref q_2, .ref q_3, .ref q_4, .int 0, .int 0, .int 0, .int 0, .int 0, .int 0, .int 0, .int 0, .int 0, .int (-1), .ref q_5, .int 0, .ref q_6, .ref q_7, .null, .int 0, .null, .null, .int 0, .int 0, .int 0, .null, .null, .null, .null, .null, .null, .int 0, .null, .null, .null])), (q_1, .inl (cI, 3906, .inl (fun _ => 0))), (q_2, .inl (cZ, 2, .inl (fun _ => 0))), (q_3, .inl (cI, 900, .inl (fun _ => 0))), (q_4, .inl (cI, 1302, .inl (fun _ => 0))), (q_5, .inl (cI, 900, .inl (fun _ => 0))), (q_6, .inl (cI, 14, .inl (fun _ => 0))), (q_7, .inl (cI, 14, .inl (fun _ => 0)))] := hD
  refine lv_aload_n hx hb dX12_init_68 rfl (lv_at hl 0 rfl) ?_
  refine lv_bipush (v := 14) hx hb dX12_init_69 (by decide) ?_
  refine n_a (atype := .int) (t := .int) (a0 := (14, .inl (fun _ => 0))) 1 rfl (fun _ _ h => h) hx hb (hts _ kw_92) rfl hkb.1 hP hD hS hA (fun _ => rfl) (by decide) (by decide +kernel) (by decide) (Nat.le_of_ble_eq_true rfl) (Nat.le_of_ble_eq_true rfl) dX12_init_71 (fun q_8 H hP hD hS => ?_)
  have hP : va_P D cls [(h0, .inr (12, [.int 0, .ref q_1, .ref q_2, .ref q_3, .ref q_4, .int 0, .int 0, .int 0, .int 0, .int 0, .int 0, .int 0, .int 0, .int 0, .int (-1), .ref q_5, .int 0, .ref q_6, .ref q_7, .null, .int 0, .null, .null, .int 0, .int 0, .int 0, .null, .null, .null, .null, .null, .null, .int 0, .null, .null, .null])), (q_1, .inl (cI, 3906, .inl (fun _ => 0))), (q_2, .inl (cZ, 2, .inl (fun _ => 0))), (q_3, .inl (cI, 900, .inl (fun _ => 0))), (q_4, .inl (cI, 1302, .inl (fun _ => 0))), (q_5, .inl (cI, 900, .inl (fun _ => 0))), (q_6, .inl (cI, 14, .inl (fun _ => 0))), (q_7, .inl (cI, 14, .inl (fun _ => 0))), (q_8, .inl (cI, 14, .inl (fun _ => 0)))] H := hP
  have hD : va_D A [(h0, .inr (12, [.int 0, .ref q_1, .ref q_2, .ref q_3, .ref q_4, .int 0, .int 0, .int 0, .int 0, .int 0, .int 0, .int 0, .int 0, .int 0, .int (-1), .ref q_5, .int 0, .ref q_6, .ref q_7, .null, .int 0, .null, .null, .int 0, .int 0, .int 0, .null, .null, .null, .null, .null, .null, .int 0, .null, .null, .null])), (q_1, .inl (cI, 3906, .inl (fun _ => 0))), (q_2, .inl (cZ, 2, .inl (fun _ => 0))), (q_3, .inl (cI, 900, .inl (fun _ => 0))), (q_4, .inl (cI, 1302, .inl (fun _ => 0))), (q_5, .inl (cI, 900, .inl (fun _ => 0))), (q_6, .inl (cI, 14, .inl (fun _ => 0))), (q_7, .inl (cI, 14, .inl (fun _ => 0))), (q_8, .inl (cI, 14, .inl (fun _ => 0)))] := hD
  refine W.widen (k := 8) (n := 7052) (Nat.le_of_ble_eq_true rfl) (Nat.le_of_ble_eq_true rfl) ?_
  refine va_putF (D := D) (ci := 12) (v := .ref q_8) (ty := tyX12 19) (C := RX12) (T := TX12) (N := 36) hx hb hts uX12 tyX12 tyX12_ok nmX12 hown hkb.1 hP hD hS 0 rfl rfl 19 (by decide) (hts _ kw_1242) (fun _ h9 => h9) rfl hnm rfl (tyX12_ok 19 (by decide)) rfl rfl (Nat.le_of_ble_eq_true rfl) dX12_init_73 (fun H locs hP hD hS => ?_)
  have hP : va_P D cls [(h0, .inr (12, [.int 0, .ref q_1, .ref q_2, .ref q_3, .ref q_4, .int 0, .int 0, .int 0, .int 0, .int 0, .int 0, .int 0, .int 0, .int 0, .int (-1), .ref q_5, .int 0, .ref q_6, .ref q_7, .ref q_8, .int 0, .null, .null, .int 0, .int 0, .int 0, .null, .null, .null, .null, .null, .null, .int 0, .null, .null, .null])), (q_1, .inl (cI, 3906, .inl (fun _ => 0))), (q_2, .inl (cZ, 2, .inl (fun _ => 0))), (q_3, .inl (cI, 900, .inl (fun _ => 0))), (q_4, .inl (cI, 1302, .inl (fun _ => 0))), (q_5, .inl (cI, 900, .inl (fun _ => 0))), (q_6, .inl (cI, 14, .inl (fun _ => 0))), (q_7, .inl (cI, 14, .inl (fun _ => 0))), (q_8, .inl (cI, 14, .inl (fun _ => 0)))] H := hP
  have hD : va_D A [(h0, .inr (12, [.int 0, .ref q_1, .ref q_2, .ref q_3, .ref q_4, .int 0, .int 0, .int 0, .int 0, .int 0, .int 0, .int 0, .int 0, .int 0, .int (-1), .ref q_5, .int 0, .ref q_6, .ref q_7, .ref q_8, .int 0, .null, .null, .int 0, .int 0, .int 0, .null, .null, .null, .null, .null, .null, .int 0, .null, .null, .null])), (q_1, .inl (cI, 3906, .inl (fun _ => 0))), (q_2, .inl (cZ, 2, .inl (fun _ => 0))), (q_3, .inl (cI, 900, .inl (fun _ => 0))), (q_4, .inl (cI, 1302, .inl (fun _ => 0))), (q_5, .inl (cI, 900, .inl (fun _ => 0))), (q_6, .inl (cI, 14, .inl (fun _ => 0))), (q_7, .inl (cI, 14, .inl (fun _ => 0))), (q_8, .inl (cI, 14, .inl (fun _ => 0)))] := hD
  refine lv_aload_n hx hb dX12_init_76 rfl (lv_at hl 0 rfl) ?_
  refine lv_bipush (v := 31) hx hb dX12_init_77 (by decide) ?_
  refine n_a (atype := .int) (t := .int) (a0 := (31, .inl (fun _ => 0))) 1 rfl (fun _ _ h => h) hx hb (hts _ kw_92) rfl hkb.1 hP hD hS hA (fun _ => rfl) (by decide) (by decide +kernel) (by decide) (Nat.le_of_ble_eq_true rfl) (Nat.le_of_ble_eq_true rfl) dX12_init_79 (fun q_9 H hP hD hS => ?_)
  have hP : va_P D cls [(h0, .inr (12, [.int 0, .ref q_1, .ref q_2, .ref q_3, .ref q_4, .int 0, .int 0, .int 0, .int 0, .int 0, .int 0, .int 0, .int 0, .int 0, .int (-1), .ref q_5, .int 0, .ref q_6, .ref q_7, .ref q_8, .int 0, .null, .null, .int 0, .int 0, .int 0, .null, .null, .null, .null, .null, .null, .int 0, .null, .null, .null])), (q_1, .inl (cI, 3906, .inl (fun _ => 0))), (q_2, .inl (cZ, 2, .inl (fun _ => 0))), (q_3, .inl (cI, 900, .inl (fun _ => 0))), (q_4, .inl (cI, 1302, .inl (fun _ => 0))), (q_5, .inl (cI, 900, .inl (fun _ => 0))), (q_6, .inl (cI, 14, .inl (fun _ => 0))), (q_7, .inl (cI, 14, .inl (fun _ => 0))), (q_8, .inl (cI, 14, .inl (fun _ => 0))), (q_9, .inl (cI, 31, .inl (fun _ => 0)))] H := hP
  have hD : va_D A [(h0, .inr (12, [.int 0, .ref q_1, .ref q_2, .ref q_3, .ref q_4, .int 0, .int 0, .int 0, .int 0, .int 0, .int 0, .int 0, .int 0, .int 0, .int (-1), .ref q_5, .int 0, .ref q_6, .ref q_7, .ref q_8, .int 0, .null, .null, .int 0, .int 0, .int 0, .null, .null, .null, .null, .null, .null, .int 0, .null, .null, .null])), (q_1, .inl (cI, 3906, .inl (fun _ => 0))), (q_2, .inl (cZ, 2, .inl (fun _ => 0))), (q_3, .inl (cI, 900, .inl (fun _ => 0))), (q_4, .inl (cI, 1302, .inl (fun _ => 0))), (q_5, .inl (cI, 900, .inl (fun _ => 0))), (q_6, .inl (cI, 14, .inl (fun _ => 0))), (q_7, .inl (cI, 14, .inl (fun _ => 0))), (q_8, .inl (cI, 14, .inl (fun _ => 0))), (q_9, .inl (cI, 31, .inl (fun _ => 0)))] := hD
  refine W.widen (k := 9) (n := 7083) (Nat.le_of_ble_eq_true rfl) (Nat.le_of_ble_eq_true rfl) ?_
  refine va_putF (D := D) (ci := 12) (v := .ref q_9) (ty := tyX12 21) (C := RX12) (T := TX12) (N := 36) hx hb hts uX12 tyX12 tyX12_ok nmX12 hown hkb.1 hP hD hS 0 rfl rfl 21 (by decide) (hts _ kw_1244) (fun _ h9 => h9) rfl hnm rfl (tyX12_ok 21 (by decide)) rfl rfl (Nat.le_of_ble_eq_true rfl) dX12_init_81 (fun H locs hP hD hS => ?_)
  have hP : va_P D cls [(h0, .inr (12, [.int 0, .ref q_1, .ref q_2, .ref q_3, .ref q_4, .int 0, .int 0, .int 0, .int 0, .int 0, .int 0, .int 0, .int 0, .int 0, .int (-1), .ref q_5, .int 0, .ref q_6, .ref q_7, .ref q_8, .int 0, .ref q_9, .null, .int 0, .int 0, .int 0, .null, .null, .null, .null, .null, .null, .int 0, .null, .null, .null])), (q_1, .inl (cI, 3906, .inl (fun _ => 0))), (q_2, .inl (cZ, 2, .inl (fun _ => 0))), (q_3, .inl (cI, 900, .inl (fun _ => 0))), (q_4, .inl (cI, 1302, .inl (fun _ => 0))), (q_5, .inl (cI, 900, .inl (fun _ => 0))), (q_6, .inl (cI, 14, .inl (fun _ => 0))), (q_7, .inl (cI, 14, .inl (fun _ => 0))), (q_8, .inl (cI, 14, .inl (fun _ => 0))), (q_9, .inl (cI, 31, .inl (fun _ => 0)))] H := hP
  have hD : va_D A [(h0, .inr (12, [.int 0, .ref q_1, .ref q_2, .ref q_3, .ref q_4, .int 0, .int 0, .int 0, .int 0, .int 0, .int 0, .int 0, .int 0, .int 0, .int (-1), .ref q_5, .int 0, .ref q_6, .ref q_7, .ref q_8, .int 0, .ref q_9, .null, .int 0, .int 0, .int 0, .null, .null, .null, .null, .null, .null, .int 0, .null, .null, .null])), (q_1, .inl (cI, 3906, .inl (fun _ => 0))), (q_2, .inl (cZ, 2, .inl (fun _ => 0))), (q_3, .inl (cI, 900, .inl (fun _ => 0))), (q_4, .inl (cI, 1302, .inl (fun _ => 0))), (q_5, .inl (cI, 900, .inl (fun _ => 0))), (q_6, .inl (cI, 14, .inl (fun _ => 0))), (q_7, .inl (cI, 14, .inl (fun _ => 0))), (q_8, .inl (cI, 14, .inl (fun _ => 0))), (q_9, .inl (cI, 31, .inl (fun _ => 0)))] := hD
  refine lv_aload_n hx hb dX12_init_84 rfl (lv_at hl 0 rfl) ?_
  refine lv_bipush (v := 31) hx hb dX12_init_85 (by decide) ?_
  refine n_a (atype := .int) (t := .int) (a0 := (31, .inl (fun _ => 0))) 1 rfl (fun _ _ h => h) hx hb (hts _ kw_92) rfl hkb.1 hP hD hS hA (fun _ => rfl) (by decide) (by decide +kernel) (by decide) (Nat.le_of_ble_eq_true rfl) (Nat.le_of_ble_eq_true rfl) dX12_init_87 (fun q_10 H hP hD hS => ?_)
  have hP : va_P D cls [(h0, .inr (12, [.int 0, .ref q_1, .ref q_2, .ref q_3, .ref q_4, .int 0, .int 0, .int 0, .int 0, .int 0, .int 0, .int 0, .int 0, .int 0, .int (-1), .ref q_5, .int 0, .ref q_6, .ref q_7, .ref q_8, .int 0, .ref q_9, .null, .int 0, .int 0, .int 0, .null, .null, .null, .null, .null, .null, .int 0, .null, .null, .null])), (q_1, .inl (cI, 3906, .inl (fun _ => 0))), (q_2, .inl (cZ, 2, .inl (fun _ => 0))), (q_3, .inl (cI, 900, .inl (fun _ => 0))), (q_4, .inl (cI, 1302, .inl (fun _ => 0))), (q_5, .inl (cI, 900, .inl (fun _ => 0))), (q_6, .inl (cI, 14, .inl (fun _ => 0))), (q_7, .inl (cI, 14, .inl (fun _ => 0))), (q_8, .inl (cI, 14, .inl (fun _ => 0))), (q_9, .inl (cI, 31, .inl (fun _ => 0))), (q_10, .inl (cI, 31, .inl (fun _ => 0)))] H := hP
  have hD : va_D A [(h0, .inr (12, [.int 0, .ref q_1, .ref q_2, .ref q_3, .ref q_4, .int 0, .int 0, .int 0, .int 0, .int 0, .int 0, .int 0, .int 0, .int 0, .int (-1), .ref q_5, .int 0, .ref q_6, .ref q_7, .ref q_8, .int 0, .ref q_9, .null, .int 0, .int 0, .int 0, .null, .null, .null, .null, .null, .null, .int 0, .null, .null, .null])), (q_1, .inl (cI, 3906, .inl (fun _ => 0))), (q_2, .inl (cZ, 2, .inl (fun _ => 0))), (q_3, .inl (cI, 900, .inl (fun _ => 0))), (q_4, .inl (cI, 1302, .inl (fun _ => 0))), (q_5, .inl (cI, 900, .inl (fun _ => 0))), (q_6, .inl (cI, 14, .inl (fun _ => 0))), (q_7, .inl (cI, 14, .inl (fun _ => 0))), (q_8, .inl (cI, 14, .inl (fun _ => 0))), (q_9, .inl (cI, 31, .inl (fun _ => 0))), (q_10, .inl (cI, 31, .inl (fun _ => 0)))] := hD
  refine W.widen (k := 10) (n := 7114) (Nat.le_of_ble_eq_true rfl) (Nat.le_of_ble_eq_true rfl) ?_
  refine va_putF (D := D) (ci := 12) (v := .ref q_10) (ty := tyX12 22) (C := RX12) (T := TX12) (N := 36) hx hb hts uX12 tyX12 tyX12_ok nmX12 hown hkb.1 hP hD hS 0 rfl rfl 22 (by decide) (hts _ kw_1245) (fun _ h9 => h9) rfl hnm rfl (tyX12_ok 22 (by decide)) rfl rfl (Nat.le_of_ble_eq_true rfl) dX12_init_89 (fun H locs hP hD hS => ?_)
  have hP : va_P D cls [(h0, .inr (12, [.int 0, .ref q_1, .ref q_2, .ref q_3, .ref q_4, .int 0, .int 0, .int 0, .int 0, .int 0, .int 0, .int 0, .int 0, .int 0, .int (-1), .ref q_5, .int 0, .ref q_6, .ref q_7, .ref q_8, .int 0, .ref q_9, .ref q_10, .int 0, .int 0, .int 0, .null, .null, .null, .null, .null, .null, .int 0, .null, .null, .null])), (q_1, .inl (cI, 3906, .inl (fun _ => 0))), (q_2, .inl (cZ, 2, .inl (fun _ => 0))), (q_3, .inl (cI, 900, .inl (fun _ => 0))), (q_4, .inl (cI, 1302, .inl (fun _ => 0))), (q_5, .inl (cI, 900, .inl (fun _ => 0))), (q_6, .inl (cI, 14, .inl (fun _ => 0))), (q_7, .inl (cI, 14, .inl (fun _ => 0))), (q_8, .inl (cI, 14, .inl (fun _ => 0))), (q_9, .inl (cI, 31, .inl (fun _ => 0))), (q_10, .inl (cI, 31, .inl (fun _ => 0)))] H := hP
  have hD : va_D A [(h0, .inr (12, [.int 0, .ref q_1, .ref q_2, .ref q_3, .ref q_4, .int 0, .int 0, .int 0, .int 0, .int 0, .int 0, .int 0, .int 0, .int 0, .int (-1), .ref q_5, .int 0, .ref q_6, .ref q_7, .ref q_8, .int 0, .ref q_9, .ref q_10, .int 0, .int 0, .int 0, .null, .null, .null, .null, .null, .null, .int 0, .null, .null, .null])), (q_1, .inl (cI, 3906, .inl (fun _ => 0))), (q_2, .inl (cZ, 2, .inl (fun _ => 0))), (q_3, .inl (cI, 900, .inl (fun _ => 0))), (q_4, .inl (cI, 1302, .inl (fun _ => 0))), (q_5, .inl (cI, 900, .inl (fun _ => 0))), (q_6, .inl (cI, 14, .inl (fun _ => 0))), (q_7, .inl (cI, 14, .inl (fun _ => 0))), (q_8, .inl (cI, 14, .inl (fun _ => 0))), (q_9, .inl (cI, 31, .inl (fun _ => 0))), (q_10, .inl (cI, 31, .inl (fun _ => 0)))] := hD
  refine lv_aload_n hx hb dX12_init_92 rfl (lv_at hl 0 rfl) ?_
  refine lv_ldc hx hb hown (hts _ kw_1219) dX12_init_93 ?_
  refine n_a (atype := .long) (t := .long) (a0 := (229376, .inr (.inl (fun _ => 0)))) 2 rfl (fun _ _ h => h) hx hb (hts _ kw_295) rfl hkb.1 hP hD hS hA (fun _ => rfl) (by decide) (by decide +kernel) (by decide) (Nat.le_of_ble_eq_true rfl) (Nat.le_of_ble_eq_true rfl) dX12_init_95 (fun q_11 H hP hD hS => ?_)
  have hP : va_P D cls [(h0, .inr (12, [.int 0, .ref q_1, .ref q_2, .ref q_3, .ref q_4, .int 0, .int 0, .int 0, .int 0, .int 0, .int 0, .int 0, .int 0, .int 0, .int (-1), .ref q_5, .int 0, .ref q_6, .ref q_7, .ref q_8, .int 0, .ref q_9, .ref q_10, .int 0, .int 0, .int 0, .null, .null, .null, .null, .null, .null, .int 0, .null, .null, .null])), (q_1, .inl (cI, 3906, .inl (fun _ => 0))), (q_2, .inl (cZ, 2, .inl (fun _ => 0))), (q_3, .inl (cI, 900, .inl (fun _ => 0))), (q_4, .inl (cI, 1302, .inl (fun _ => 0))), (q_5, .inl (cI, 900, .inl (fun _ => 0))), (q_6, .inl (cI, 14, .inl (fun _ => 0))), (q_7, .inl (cI, 14, .inl (fun _ => 0))), (q_8, .inl (cI, 14, .inl (fun _ => 0))), (q_9, .inl (cI, 31, .inl (fun _ => 0))), (q_10, .inl (cI, 31, .inl (fun _ => 0))), (q_11, .inl (cJ, 229376, .inr (.inl (fun _ => 0))))] H := hP
  have hD : va_D A [(h0, .inr (12, [.int 0, .ref q_1, .ref q_2, .ref q_3, .ref q_4, .int 0, .int 0, .int 0, .int 0, .int 0, .int 0, .int 0, .int 0, .int 0, .int (-1), .ref q_5, .int 0, .ref q_6, .ref q_7, .ref q_8, .int 0, .ref q_9, .ref q_10, .int 0, .int 0, .int 0, .null, .null, .null, .null, .null, .null, .int 0, .null, .null, .null])), (q_1, .inl (cI, 3906, .inl (fun _ => 0))), (q_2, .inl (cZ, 2, .inl (fun _ => 0))), (q_3, .inl (cI, 900, .inl (fun _ => 0))), (q_4, .inl (cI, 1302, .inl (fun _ => 0))), (q_5, .inl (cI, 900, .inl (fun _ => 0))), (q_6, .inl (cI, 14, .inl (fun _ => 0))), (q_7, .inl (cI, 14, .inl (fun _ => 0))), (q_8, .inl (cI, 14, .inl (fun _ => 0))), (q_9, .inl (cI, 31, .inl (fun _ => 0))), (q_10, .inl (cI, 31, .inl (fun _ => 0))), (q_11, .inl (cJ, 229376, .inr (.inl (fun _ => 0))))] := hD
  refine W.widen (k := 11) (n := 236490) (Nat.le_of_ble_eq_true rfl) (Nat.le_of_ble_eq_true rfl) ?_
  refine va_putF (D := D) (ci := 12) (v := .ref q_11) (ty := tyX12 26) (C := RX12) (T := TX12) (N := 36) hx hb hts uX12 tyX12 tyX12_ok nmX12 hown hkb.1 hP hD hS 0 rfl rfl 26 (by decide) (hts _ kw_1249) (fun _ h9 => h9) rfl hnm rfl (tyX12_ok 26 (by decide)) rfl rfl (Nat.le_of_ble_eq_true rfl) dX12_init_97 (fun H locs hP hD hS => ?_)
  have hP : va_P D cls [(h0, .inr (12, [.int 0, .ref q_1, .ref q_2, .ref q_3, .ref q_4, .int 0, .int 0, .int 0, .int 0, .int 0, .int 0, .int 0, .int 0, .int 0, .int (-1), .ref q_5, .int 0, .ref q_6, .ref q_7, .ref q_8, .int 0, .ref q_9, .ref q_10, .int 0, .int 0, .int 0, .ref q_11, .null, .null, .null, .null, .null, .int 0, .null, .null, .null])), (q_1, .inl (cI, 3906, .inl (fun _ => 0))), (q_2, .inl (cZ, 2, .inl (fun _ => 0))), (q_3, .inl (cI, 900, .inl (fun _ => 0))), (q_4, .inl (cI, 1302, .inl (fun _ => 0))), (q_5, .inl (cI, 900, .inl (fun _ => 0))), (q_6, .inl (cI, 14, .inl (fun _ => 0))), (q_7, .inl (cI, 14, .inl (fun _ => 0))), (q_8, .inl (cI, 14, .inl (fun _ => 0))), (q_9, .inl (cI, 31, .inl (fun _ => 0))), (q_10, .inl (cI, 31, .inl (fun _ => 0))), (q_11, .inl (cJ, 229376, .inr (.inl (fun _ => 0))))] H := hP
  have hD : va_D A [(h0, .inr (12, [.int 0, .ref q_1, .ref q_2, .ref q_3, .ref q_4, .int 0, .int 0, .int 0, .int 0, .int 0, .int 0, .int 0, .int 0, .int 0, .int (-1), .ref q_5, .int 0, .ref q_6, .ref q_7, .ref q_8, .int 0, .ref q_9, .ref q_10, .int 0, .int 0, .int 0, .ref q_11, .null, .null, .null, .null, .null, .int 0, .null, .null, .null])), (q_1, .inl (cI, 3906, .inl (fun _ => 0))), (q_2, .inl (cZ, 2, .inl (fun _ => 0))), (q_3, .inl (cI, 900, .inl (fun _ => 0))), (q_4, .inl (cI, 1302, .inl (fun _ => 0))), (q_5, .inl (cI, 900, .inl (fun _ => 0))), (q_6, .inl (cI, 14, .inl (fun _ => 0))), (q_7, .inl (cI, 14, .inl (fun _ => 0))), (q_8, .inl (cI, 14, .inl (fun _ => 0))), (q_9, .inl (cI, 31, .inl (fun _ => 0))), (q_10, .inl (cI, 31, .inl (fun _ => 0))), (q_11, .inl (cJ, 229376, .inr (.inl (fun _ => 0))))] := hD
  refine lv_aload_n hx hb dX12_init_100 rfl (lv_at hl 0 rfl) ?_
  refine lv_sipush (v := 16384) hx hb dX12_init_101 (by decide) ?_
  refine n_a (atype := .boolean) (t := .boolean) (a0 := (16384, .inl (fun _ => 0))) 3 rfl (fun _ _ h => h) hx hb (hts _ kw_1332) rfl hkb.1 hP hD hS hA (fun _ => rfl) (by decide) (by decide +kernel) (by decide) (Nat.le_of_ble_eq_true rfl) (Nat.le_of_ble_eq_true rfl) dX12_init_104 (fun q_12 H hP hD hS => ?_)
  have hP : va_P D cls [(h0, .inr (12, [.int 0, .ref q_1, .ref q_2, .ref q_3, .ref q_4, .int 0, .int 0, .int 0, .int 0, .int 0, .int 0, .int 0, .int 0, .int 0, .int (-1), .ref q_5, .int 0, .ref q_6, .ref q_7, .ref q_8, .int 0, .ref q_9, .ref q_10, .int 0, .int 0, .int 0, .ref q_11, .null, .null, .null, .null, .null, .int 0, .null, .null, .null])), (q_1, .inl (cI, 3906, .inl (fun _ => 0))), (q_2, .inl (cZ, 2, .inl (fun _ => 0))), (q_3, .inl (cI, 900, .inl (fun _ => 0))), (q_4, .inl (cI, 1302, .inl (fun _ => 0))), (q_5, .inl (cI, 900, .inl (fun _ => 0))), (q_6, .inl (cI, 14, .inl (fun _ => 0))), (q_7, .inl (cI, 14, .inl (fun _ => 0))), (q_8, .inl (cI, 14, .inl (fun _ => 0))), (q_9, .inl (cI, 31, .inl (fun _ => 0))), (q_10, .inl (cI, 31, .inl (fun _ => 0))), (q_11, .inl (cJ, 229376, .inr (.inl (fun _ => 0)))), (q_12, .inl (cZ, 16384, .inl (fun _ => 0)))] H := hP
  have hD : va_D A [(h0, .inr (12, [.int 0, .ref q_1, .ref q_2, .ref q_3, .ref q_4, .int 0, .int 0, .int 0, .int 0, .int 0, .int 0, .int 0, .int 0, .int 0, .int (-1), .ref q_5, .int 0, .ref q_6, .ref q_7, .ref q_8, .int 0, .ref q_9, .ref q_10, .int 0, .int 0, .int 0, .ref q_11, .null, .null, .null, .null, .null, .int 0, .null, .null, .null])), (q_1, .inl (cI, 3906, .inl (fun _ => 0))), (q_2, .inl (cZ, 2, .inl (fun _ => 0))), (q_3, .inl (cI, 900, .inl (fun _ => 0))), (q_4, .inl (cI, 1302, .inl (fun _ => 0))), (q_5, .inl (cI, 900, .inl (fun _ => 0))), (q_6, .inl (cI, 14, .inl (fun _ => 0))), (q_7, .inl (cI, 14, .inl (fun _ => 0))), (q_8, .inl (cI, 14, .inl (fun _ => 0))), (q_9, .inl (cI, 31, .inl (fun _ => 0))), (q_10, .inl (cI, 31, .inl (fun _ => 0))), (q_11, .inl (cJ, 229376, .inr (.inl (fun _ => 0)))), (q_12, .inl (cZ, 16384, .inl (fun _ => 0)))] := hD
  refine W.widen (k := 12) (n := 252874) (Nat.le_of_ble_eq_true rfl) (Nat.le_of_ble_eq_true rfl) ?_
  refine va_putF (D := D) (ci := 12) (v := .ref q_12) (ty := tyX12 27) (C := RX12) (T := TX12) (N := 36) hx hb hts uX12 tyX12 tyX12_ok nmX12 hown hkb.1 hP hD hS 0 rfl rfl 27 (by decide) (hts _ kw_1250) (fun _ h9 => h9) rfl hnm rfl (tyX12_ok 27 (by decide)) rfl rfl (Nat.le_of_ble_eq_true rfl) dX12_init_106 (fun H locs hP hD hS => ?_)
  have hP : va_P D cls [(h0, .inr (12, [.int 0, .ref q_1, .ref q_2, .ref q_3, .ref q_4, .int 0, .int 0, .int 0, .int 0, .int 0, .int 0, .int 0, .int 0, .int 0, .int (-1), .ref q_5, .int 0, .ref q_6, .ref q_7, .ref q_8, .int 0, .ref q_9, .ref q_10, .int 0, .int 0, .int 0, .ref q_11, .ref q_12, .null, .null, .null, .null, .int 0, .null, .null, .null])), (q_1, .inl (cI, 3906, .inl (fun _ => 0))), (q_2, .inl (cZ, 2, .inl (fun _ => 0))), (q_3, .inl (cI, 900, .inl (fun _ => 0))), (q_4, .inl (cI, 1302, .inl (fun _ => 0))), (q_5, .inl (cI, 900, .inl (fun _ => 0))), (q_6, .inl (cI, 14, .inl (fun _ => 0))), (q_7, .inl (cI, 14, .inl (fun _ => 0))), (q_8, .inl (cI, 14, .inl (fun _ => 0))), (q_9, .inl (cI, 31, .inl (fun _ => 0))), (q_10, .inl (cI, 31, .inl (fun _ => 0))), (q_11, .inl (cJ, 229376, .inr (.inl (fun _ => 0)))), (q_12, .inl (cZ, 16384, .inl (fun _ => 0)))] H := hP
  have hD : va_D A [(h0, .inr (12, [.int 0, .ref q_1, .ref q_2, .ref q_3, .ref q_4, .int 0, .int 0, .int 0, .int 0, .int 0, .int 0, .int 0, .int 0, .int 0, .int (-1), .ref q_5, .int 0, .ref q_6, .ref q_7, .ref q_8, .int 0, .ref q_9, .ref q_10, .int 0, .int 0, .int 0, .ref q_11, .ref q_12, .null, .null, .null, .null, .int 0, .null, .null, .null])), (q_1, .inl (cI, 3906, .inl (fun _ => 0))), (q_2, .inl (cZ, 2, .inl (fun _ => 0))), (q_3, .inl (cI, 900, .inl (fun _ => 0))), (q_4, .inl (cI, 1302, .inl (fun _ => 0))), (q_5, .inl (cI, 900, .inl (fun _ => 0))), (q_6, .inl (cI, 14, .inl (fun _ => 0))), (q_7, .inl (cI, 14, .inl (fun _ => 0))), (q_8, .inl (cI, 14, .inl (fun _ => 0))), (q_9, .inl (cI, 31, .inl (fun _ => 0))), (q_10, .inl (cI, 31, .inl (fun _ => 0))), (q_11, .inl (cJ, 229376, .inr (.inl (fun _ => 0)))), (q_12, .inl (cZ, 16384, .inl (fun _ => 0)))] := hD
  refine lv_aload_n hx hb dX12_init_109 rfl (lv_at hl 0 rfl) ?_
  refine lv_ldc hx hb hown (hts _ kw_1219) dX12_init_110 ?_
  refine n_a (atype := .byte) (t := .byte) (a0 := (229376, .inl (fun _ => 0))) 0 rfl (fun _ _ h => h) hx hb (hts _ kw_75) rfl hkb.1 hP hD hS hA (fun _ => rfl) (by decide) (by decide +kernel) (by decide) (Nat.le_of_ble_eq_true rfl) (Nat.le_of_ble_eq_true rfl) dX12_init_112 (fun q_13 H hP hD hS => ?_)
  have hP : va_P D cls [(h0, .inr (12, [.int 0, .ref q_1, .ref q_2, .ref q_3, .ref q_4, .int 0, .int 0, .int 0, .int 0, .int 0, .int 0, .int 0, .int 0, .int 0, .int (-1), .ref q_5, .int 0, .ref q_6, .ref q_7, .ref q_8, .int 0, .ref q_9, .ref q_10, .int 0, .int 0, .int 0, .ref q_11, .ref q_12, .null, .null, .null, .null, .int 0, .null, .null, .null])), (q_1, .inl (cI, 3906, .inl (fun _ => 0))), (q_2, .inl (cZ, 2, .inl (fun _ => 0))), (q_3, .inl (cI, 900, .inl (fun _ => 0))), (q_4, .inl (cI, 1302, .inl (fun _ => 0))), (q_5, .inl (cI, 900, .inl (fun _ => 0))), (q_6, .inl (cI, 14, .inl (fun _ => 0))), (q_7, .inl (cI, 14, .inl (fun _ => 0))), (q_8, .inl (cI, 14, .inl (fun _ => 0))), (q_9, .inl (cI, 31, .inl (fun _ => 0))), (q_10, .inl (cI, 31, .inl (fun _ => 0))), (q_11, .inl (cJ, 229376, .inr (.inl (fun _ => 0)))), (q_12, .inl (cZ, 16384, .inl (fun _ => 0))), (q_13, .inl (cB, 229376, .inl (fun _ => 0)))] H := hP
  have hD : va_D A [(h0, .inr (12, [.int 0, .ref q_1, .ref q_2, .ref q_3, .ref q_4, .int 0, .int 0, .int 0, .int 0, .int 0, .int 0, .int 0, .int 0, .int 0, .int (-1), .ref q_5, .int 0, .ref q_6, .ref q_7, .ref q_8, .int 0, .ref q_9, .ref q_10, .int 0, .int 0, .int 0, .ref q_11, .ref q_12, .null, .null, .null, .null, .int 0, .null, .null, .null])), (q_1, .inl (cI, 3906, .inl (fun _ => 0))), (q_2, .inl (cZ, 2, .inl (fun _ => 0))), (q_3, .inl (cI, 900, .inl (fun _ => 0))), (q_4, .inl (cI, 1302, .inl (fun _ => 0))), (q_5, .inl (cI, 900, .inl (fun _ => 0))), (q_6, .inl (cI, 14, .inl (fun _ => 0))), (q_7, .inl (cI, 14, .inl (fun _ => 0))), (q_8, .inl (cI, 14, .inl (fun _ => 0))), (q_9, .inl (cI, 31, .inl (fun _ => 0))), (q_10, .inl (cI, 31, .inl (fun _ => 0))), (q_11, .inl (cJ, 229376, .inr (.inl (fun _ => 0)))), (q_12, .inl (cZ, 16384, .inl (fun _ => 0))), (q_13, .inl (cB, 229376, .inl (fun _ => 0)))] := hD
  refine W.widen (k := 13) (n := 482250) (Nat.le_of_ble_eq_true rfl) (Nat.le_of_ble_eq_true rfl) ?_
  refine va_putF (D := D) (ci := 12) (v := .ref q_13) (ty := tyX12 28) (C := RX12) (T := TX12) (N := 36) hx hb hts uX12 tyX12 tyX12_ok nmX12 hown hkb.1 hP hD hS 0 rfl rfl 28 (by decide) (hts _ kw_1251) (fun _ h9 => h9) rfl hnm rfl (tyX12_ok 28 (by decide)) rfl rfl (Nat.le_of_ble_eq_true rfl) dX12_init_114 (fun H locs hP hD hS => ?_)
  have hP : va_P D cls [(h0, .inr (12, [.int 0, .ref q_1, .ref q_2, .ref q_3, .ref q_4, .int 0, .int 0, .int 0, .int 0, .int 0, .int 0, .int 0, .int 0, .int 0, .int (-1), .ref q_5, .int 0, .ref q_6, .ref q_7, .ref q_8, .int 0, .ref q_9, .ref q_10, .int 0, .int 0, .int 0, .ref q_11, .ref q_12, .ref q_13, .null, .null, .null, .int 0, .null, .null, .null])), (q_1, .inl (cI, 3906, .inl (fun _ => 0))), (q_2, .inl (cZ, 2, .inl (fun _ => 0))), (q_3, .inl (cI, 900, .inl (fun _ => 0))), (q_4, .inl (cI, 1302, .inl (fun _ => 0))), (q_5, .inl (cI, 900, .inl (fun _ => 0))), (q_6, .inl (cI, 14, .inl (fun _ => 0))), (q_7, .inl (cI, 14, .inl (fun _ => 0))), (q_8, .inl (cI, 14, .inl (fun _ => 0))), (q_9, .inl (cI, 31, .inl (fun _ => 0))), (q_10, .inl (cI, 31, .inl (fun _ => 0))), (q_11, .inl (cJ, 229376, .inr (.inl (fun _ => 0)))), (q_12, .inl (cZ, 16384, .inl (fun _ => 0))), (q_13, .inl (cB, 229376, .inl (fun _ => 0)))] H := hP
  have hD : va_D A [(h0, .inr (12, [.int 0, .ref q_1, .ref q_2, .ref q_3, .ref q_4, .int 0, .int 0, .int 0, .int 0, .int 0, .int 0, .int 0, .int 0, .int 0, .int (-1), .ref q_5, .int 0, .ref q_6, .ref q_7, .ref q_8, .int 0, .ref q_9, .ref q_10, .int 0, .int 0, .int 0, .ref q_11, .ref q_12, .ref q_13, .null, .null, .null, .int 0, .null, .null, .null])), (q_1, .inl (cI, 3906, .inl (fun _ => 0))), (q_2, .inl (cZ, 2, .inl (fun _ => 0))), (q_3, .inl (cI, 900, .inl (fun _ => 0))), (q_4, .inl (cI, 1302, .inl (fun _ => 0))), (q_5, .inl (cI, 900, .inl (fun _ => 0))), (q_6, .inl (cI, 14, .inl (fun _ => 0))), (q_7, .inl (cI, 14, .inl (fun _ => 0))), (q_8, .inl (cI, 14, .inl (fun _ => 0))), (q_9, .inl (cI, 31, .inl (fun _ => 0))), (q_10, .inl (cI, 31, .inl (fun _ => 0))), (q_11, .inl (cJ, 229376, .inr (.inl (fun _ => 0)))), (q_12, .inl (cZ, 16384, .inl (fun _ => 0))), (q_13, .inl (cB, 229376, .inl (fun _ => 0)))] := hD
  refine lv_aload_n hx hb dX12_init_117 rfl (lv_at hl 0 rfl) ?_
  refine lv_iconst (v := 5) hx hb dX12_init_118 (by decide) ?_
  refine n_a (atype := .int) (t := .int) (a0 := (5, .inl (fun _ => 0))) 1 rfl (fun _ _ h => h) hx hb (hts _ kw_92) rfl hkb.1 hP hD hS hA (fun _ => rfl) (by decide) (by decide +kernel) (by decide) (Nat.le_of_ble_eq_true rfl) (Nat.le_of_ble_eq_true rfl) dX12_init_119 (fun q_14 H hP hD hS => ?_)
  have hP : va_P D cls [(h0, .inr (12, [.int 0, .ref q_1, .ref q_2, .ref q_3, .ref q_4, .int 0, .int 0, .int 0, .int 0, .int 0, .int 0, .int 0, .int 0, .int 0, .int (-1), .ref q_5, .int 0, .ref q_6, .ref q_7, .ref q_8, .int 0, .ref q_9, .ref q_10, .int 0, .int 0, .int 0, .ref q_11, .ref q_12, .ref q_13, .null, .null, .null, .int 0, .null, .null, .null])), (q_1, .inl (cI, 3906, .inl (fun _ => 0))), (q_2, .inl (cZ, 2, .inl (fun _ => 0))), (q_3, .inl (cI, 900, .inl (fun _ => 0))), (q_4, .inl (cI, 1302, .inl (fun _ => 0))), (q_5, .inl (cI, 900, .inl (fun _ => 0))), (q_6, .inl (cI, 14, .inl (fun _ => 0))), (q_7, .inl (cI, 14, .inl (fun _ => 0))), (q_8, .inl (cI, 14, .inl (fun _ => 0))), (q_9, .inl (cI, 31, .inl (fun _ => 0))), (q_10, .inl (cI, 31, .inl (fun _ => 0))), (q_11, .inl (cJ, 229376, .inr (.inl (fun _ => 0)))), (q_12, .inl (cZ, 16384, .inl (fun _ => 0))), (q_13, .inl (cB, 229376, .inl (fun _ => 0))), (q_14, .inl (cI, 5, .inl (fun _ => 0)))] H := hP
  have hD : va_D A [(h0, .inr (12, [.int 0, .ref q_1, .ref q_2, .ref q_3, .ref q_4, .int 0, .int 0, .int 0, .int 0, .int 0, .int 0, .int 0, .int 0, .int 0, .int (-1), .ref q_5, .int 0, .ref q_6, .ref q_7, .ref q_8, .int 0, .ref q_9, .ref q_10, .int 0, .int 0, .int 0, .ref q_11, .ref q_12, .ref q_13, .null, .null, .null, .int 0, .null, .null, .null])), (q_1, .inl (cI, 3906, .inl (fun _ => 0))), (q_2, .inl (cZ, 2, .inl (fun _ => 0))), (q_3, .inl (cI, 900, .inl (fun _ => 0))), (q_4, .inl (cI, 1302, .inl (fun _ => 0))), (q_5, .inl (cI, 900, .inl (fun _ => 0))), (q_6, .inl (cI, 14, .inl (fun _ => 0))), (q_7, .inl (cI, 14, .inl (fun _ => 0))), (q_8, .inl (cI, 14, .inl (fun _ => 0))), (q_9, .inl (cI, 31, .inl (fun _ => 0))), (q_10, .inl (cI, 31, .inl (fun _ => 0))), (q_11, .inl (cJ, 229376, .inr (.inl (fun _ => 0)))), (q_12, .inl (cZ, 16384, .inl (fun _ => 0))), (q_13, .inl (cB, 229376, .inl (fun _ => 0))), (q_14, .inl (cI, 5, .inl (fun _ => 0)))] := hD
  refine W.widen (k := 14) (n := 482255) (Nat.le_of_ble_eq_true rfl) (Nat.le_of_ble_eq_true rfl) ?_
  refine va_putF (D := D) (ci := 12) (v := .ref q_14) (ty := tyX12 29) (C := RX12) (T := TX12) (N := 36) hx hb hts uX12 tyX12 tyX12_ok nmX12 hown hkb.1 hP hD hS 0 rfl rfl 29 (by decide) (hts _ kw_1252) (fun _ h9 => h9) rfl hnm rfl (tyX12_ok 29 (by decide)) rfl rfl (Nat.le_of_ble_eq_true rfl) dX12_init_121 (fun H locs hP hD hS => ?_)
  have hP : va_P D cls [(h0, .inr (12, [.int 0, .ref q_1, .ref q_2, .ref q_3, .ref q_4, .int 0, .int 0, .int 0, .int 0, .int 0, .int 0, .int 0, .int 0, .int 0, .int (-1), .ref q_5, .int 0, .ref q_6, .ref q_7, .ref q_8, .int 0, .ref q_9, .ref q_10, .int 0, .int 0, .int 0, .ref q_11, .ref q_12, .ref q_13, .ref q_14, .null, .null, .int 0, .null, .null, .null])), (q_1, .inl (cI, 3906, .inl (fun _ => 0))), (q_2, .inl (cZ, 2, .inl (fun _ => 0))), (q_3, .inl (cI, 900, .inl (fun _ => 0))), (q_4, .inl (cI, 1302, .inl (fun _ => 0))), (q_5, .inl (cI, 900, .inl (fun _ => 0))), (q_6, .inl (cI, 14, .inl (fun _ => 0))), (q_7, .inl (cI, 14, .inl (fun _ => 0))), (q_8, .inl (cI, 14, .inl (fun _ => 0))), (q_9, .inl (cI, 31, .inl (fun _ => 0))), (q_10, .inl (cI, 31, .inl (fun _ => 0))), (q_11, .inl (cJ, 229376, .inr (.inl (fun _ => 0)))), (q_12, .inl (cZ, 16384, .inl (fun _ => 0))), (q_13, .inl (cB, 229376, .inl (fun _ => 0))), (q_14, .inl (cI, 5, .inl (fun _ => 0)))] H := hP
  have hD : va_D A [(h0, .inr (12, [.int 0, .ref q_1, .ref q_2, .ref q_3, .ref q_4, .int 0, .int 0, .int 0, .int 0, .int 0, .int 0, .int 0, .int 0, .int 0, .int (-1), .ref q_5, .int 0, .ref q_6, .ref q_7, .ref q_8, .int 0, .ref q_9, .ref q_10, .int 0, .int 0, .int 0, .ref q_11, .ref q_12, .ref q_13, .ref q_14, .null, .null, .int 0, .null, .null, .null])), (q_1, .inl (cI, 3906, .inl (fun _ => 0))), (q_2, .inl (cZ, 2, .inl (fun _ => 0))), (q_3, .inl (cI, 900, .inl (fun _ => 0))), (q_4, .inl (cI, 1302, .inl (fun _ => 0))), (q_5, .inl (cI, 900, .inl (fun _ => 0))), (q_6, .inl (cI, 14, .inl (fun _ => 0))), (q_7, .inl (cI, 14, .inl (fun _ => 0))), (q_8, .inl (cI, 14, .inl (fun _ => 0))), (q_9, .inl (cI, 31, .inl (fun _ => 0))), (q_10, .inl (cI, 31, .inl (fun _ => 0))), (q_11, .inl (cJ, 229376, .inr (.inl (fun _ => 0)))), (q_12, .inl (cZ, 16384, .inl (fun _ => 0))), (q_13, .inl (cB, 229376, .inl (fun _ => 0))), (q_14, .inl (cI, 5, .inl (fun _ => 0)))] := hD
  refine lv_aload_n hx hb dX12_init_124 rfl (lv_at hl 0 rfl) ?_
  refine lv_iconst (v := 5) hx hb dX12_init_125 (by decide) ?_
  refine n_a (atype := .int) (t := .int) (a0 := (5, .inl (fun _ => 0))) 1 rfl (fun _ _ h => h) hx hb (hts _ kw_92) rfl hkb.1 hP hD hS hA (fun _ => rfl) (by decide) (by decide +kernel) (by decide) (Nat.le_of_ble_eq_true rfl) (Nat.le_of_ble_eq_true rfl) dX12_init_126 (fun q_15 H hP hD hS => ?_)
  have hP : va_P D cls [(h0, .inr (12, [.int 0, .ref q_1, .ref q_2, .ref q_3, .ref q_4, .int 0, .int 0, .int 0, .int 0, .int 0, .int 0, .int 0, .int 0, .int 0, .int (-1), .ref q_5, .int 0, .ref q_6, .ref q_7, .ref q_8, .int 0, .ref q_9, .ref q_10, .int 0, .int 0, .int 0, .ref q_11, .ref q_12, .ref q_13, .ref q_14, .null, .null, .int 0, .null, .null, .null])), (q_1, .inl (cI, 3906, .inl (fun _ => 0))), (q_2, .inl (cZ, 2, .inl (fun _ => 0))), (q_3, .inl (cI, 900, .inl (fun _ => 0))), (q_4, .inl (cI, 1302, .inl (fun _ => 0))), (q_5, .inl (cI, 900, .inl (fun _ => 0))), (q_6, .inl (cI, 14, .inl (fun _ => 0))), (q_7, .inl (cI, 14, .inl (fun _ => 0))), (q_8, .inl (cI, 14, .inl (fun _ => 0))), (q_9, .inl (cI, 31, .inl (fun _ => 0))), (q_10, .inl (cI, 31, .inl (fun _ => 0))), (q_11, .inl (cJ, 229376, .inr (.inl (fun _ => 0)))), (q_12, .inl (cZ, 16384, .inl (fun _ => 0))), (q_13, .inl (cB, 229376, .inl (fun _ => 0))), (q_14, .inl (cI, 5, .inl (fun _ => 0))), (q_15, .inl (cI, 5, .inl (fun _ => 0)))] H := hP
  have hD : va_D A [(h0, .inr (12, [.int 0, .ref q_1, .ref q_2, .ref q_3, .ref q_4, .int 0, .int 0, .int 0, .int 0, .int 0, .int 0, .int 0, .int 0, .int 0, .int (-1), .ref q_5, .int 0, .ref q_6, .ref q_7, .ref q_8, .int 0, .ref q_9, .ref q_10, .int 0, .int 0, .int 0, .ref q_11, .ref q_12, .ref q_13, .ref q_14, .null, .null, .int 0, .null, .null, .null])), (q_1, .inl (cI, 3906, .inl (fun _ => 0))), (q_2, .inl (cZ, 2, .inl (fun _ => 0))), (q_3, .inl (cI, 900, .inl (fun _ => 0))), (q_4, .inl (cI, 1302, .inl (fun _ => 0))), (q_5, .inl (cI, 900, .inl (fun _ => 0))), (q_6, .inl (cI, 14, .inl (fun _ => 0))), (q_7, .inl (cI, 14, .inl (fun _ => 0))), (q_8, .inl (cI, 14, .inl (fun _ => 0))), (q_9, .inl (cI, 31, .inl (fun _ => 0))), (q_10, .inl (cI, 31, .inl (fun _ => 0))), (q_11, .inl (cJ, 229376, .inr (.inl (fun _ => 0)))), (q_12, .inl (cZ, 16384, .inl (fun _ => 0))), (q_13, .inl (cB, 229376, .inl (fun _ => 0))), (q_14, .inl (cI, 5, .inl (fun _ => 0))), (q_15, .inl (cI, 5, .inl (fun _ => 0)))] := hD
  refine W.widen (k := 15) (n := 482260) (Nat.le_of_ble_eq_true rfl) (Nat.le_of_ble_eq_true rfl) ?_
  refine va_putF (D := D) (ci := 12) (v := .ref q_15) (ty := tyX12 30) (C := RX12) (T := TX12) (N := 36) hx hb hts uX12 tyX12 tyX12_ok nmX12 hown hkb.1 hP hD hS 0 rfl rfl 30 (by decide) (hts _ kw_1253) (fun _ h9 => h9) rfl hnm rfl (tyX12_ok 30 (by decide)) rfl rfl (Nat.le_of_ble_eq_true rfl) dX12_init_128 (fun H locs hP hD hS => ?_)
  have hP : va_P D cls [(h0, .inr (12, [.int 0, .ref q_1, .ref q_2, .ref q_3, .ref q_4, .int 0, .int 0, .int 0, .int 0, .int 0, .int 0, .int 0, .int 0, .int 0, .int (-1), .ref q_5, .int 0, .ref q_6, .ref q_7, .ref q_8, .int 0, .ref q_9, .ref q_10, .int 0, .int 0, .int 0, .ref q_11, .ref q_12, .ref q_13, .ref q_14, .ref q_15, .null, .int 0, .null, .null, .null])), (q_1, .inl (cI, 3906, .inl (fun _ => 0))), (q_2, .inl (cZ, 2, .inl (fun _ => 0))), (q_3, .inl (cI, 900, .inl (fun _ => 0))), (q_4, .inl (cI, 1302, .inl (fun _ => 0))), (q_5, .inl (cI, 900, .inl (fun _ => 0))), (q_6, .inl (cI, 14, .inl (fun _ => 0))), (q_7, .inl (cI, 14, .inl (fun _ => 0))), (q_8, .inl (cI, 14, .inl (fun _ => 0))), (q_9, .inl (cI, 31, .inl (fun _ => 0))), (q_10, .inl (cI, 31, .inl (fun _ => 0))), (q_11, .inl (cJ, 229376, .inr (.inl (fun _ => 0)))), (q_12, .inl (cZ, 16384, .inl (fun _ => 0))), (q_13, .inl (cB, 229376, .inl (fun _ => 0))), (q_14, .inl (cI, 5, .inl (fun _ => 0))), (q_15, .inl (cI, 5, .inl (fun _ => 0)))] H := hP
  have hD : va_D A [(h0, .inr (12, [.int 0, .ref q_1, .ref q_2, .ref q_3, .ref q_4, .int 0, .int 0, .int 0, .int 0, .int 0, .int 0, .int 0, .int 0, .int 0, .int (-1), .ref q_5, .int 0, .ref q_6, .ref q_7, .ref q_8, .int 0, .ref q_9, .ref q_10, .int 0, .int 0, .int 0, .ref q_11, .ref q_12, .ref q_13, .ref q_14, .ref q_15, .null, .int 0, .null, .null, .null])), (q_1, .inl (cI, 3906, .inl (fun _ => 0))), (q_2, .inl (cZ, 2, .inl (fun _ => 0))), (q_3, .inl (cI, 900, .inl (fun _ => 0))), (q_4, .inl (cI, 1302, .inl (fun _ => 0))), (q_5, .inl (cI, 900, .inl (fun _ => 0))), (q_6, .inl (cI, 14, .inl (fun _ => 0))), (q_7, .inl (cI, 14, .inl (fun _ => 0))), (q_8, .inl (cI, 14, .inl (fun _ => 0))), (q_9, .inl (cI, 31, .inl (fun _ => 0))), (q_10, .inl (cI, 31, .inl (fun _ => 0))), (q_11, .inl (cJ, 229376, .inr (.inl (fun _ => 0)))), (q_12, .inl (cZ, 16384, .inl (fun _ => 0))), (q_13, .inl (cB, 229376, .inl (fun _ => 0))), (q_14, .inl (cI, 5, .inl (fun _ => 0))), (q_15, .inl (cI, 5, .inl (fun _ => 0)))] := hD
  refine lv_aload_n hx hb dX12_init_131 rfl (lv_at hl 0 rfl) ?_
  refine lv_sipush (v := 186) hx hb dX12_init_132 (by decide) ?_
  refine n_a (atype := .int) (t := .int) (a0 := (186, .inl (fun _ => 0))) 1 rfl (fun _ _ h => h) hx hb (hts _ kw_92) rfl hkb.1 hP hD hS hA (fun _ => rfl) (by decide) (by decide +kernel) (by decide) (Nat.le_of_ble_eq_true rfl) (Nat.le_of_ble_eq_true rfl) dX12_init_135 (fun q_16 H hP hD hS => ?_)
  have hP : va_P D cls [(h0, .inr (12, [.int 0, .ref q_1, .ref q_2, .ref q_3, .ref q_4, .int 0, .int 0, .int 0, .int 0, .int 0, .int 0, .int 0, .int 0, .int 0, .int (-1), .ref q_5, .int 0, .ref q_6, .ref q_7, .ref q_8, .int 0, .ref q_9, .ref q_10, .int 0, .int 0, .int 0, .ref q_11, .ref q_12, .ref q_13, .ref q_14, .ref q_15, .null, .int 0, .null, .null, .null])), (q_1, .inl (cI, 3906, .inl (fun _ => 0))), (q_2, .inl (cZ, 2, .inl (fun _ => 0))), (q_3, .inl (cI, 900, .inl (fun _ => 0))), (q_4, .inl (cI, 1302, .inl (fun _ => 0))), (q_5, .inl (cI, 900, .inl (fun _ => 0))), (q_6, .inl (cI, 14, .inl (fun _ => 0))), (q_7, .inl (cI, 14, .inl (fun _ => 0))), (q_8, .inl (cI, 14, .inl (fun _ => 0))), (q_9, .inl (cI, 31, .inl (fun _ => 0))), (q_10, .inl (cI, 31, .inl (fun _ => 0))), (q_11, .inl (cJ, 229376, .inr (.inl (fun _ => 0)))), (q_12, .inl (cZ, 16384, .inl (fun _ => 0))), (q_13, .inl (cB, 229376, .inl (fun _ => 0))), (q_14, .inl (cI, 5, .inl (fun _ => 0))), (q_15, .inl (cI, 5, .inl (fun _ => 0))), (q_16, .inl (cI, 186, .inl (fun _ => 0)))] H := hP
  have hD : va_D A [(h0, .inr (12, [.int 0, .ref q_1, .ref q_2, .ref q_3, .ref q_4, .int 0, .int 0, .int 0, .int 0, .int 0, .int 0, .int 0, .int 0, .int 0, .int (-1), .ref q_5, .int 0, .ref q_6, .ref q_7, .ref q_8, .int 0, .ref q_9, .ref q_10, .int 0, .int 0, .int 0, .ref q_11, .ref q_12, .ref q_13, .ref q_14, .ref q_15, .null, .int 0, .null, .null, .null])), (q_1, .inl (cI, 3906, .inl (fun _ => 0))), (q_2, .inl (cZ, 2, .inl (fun _ => 0))), (q_3, .inl (cI, 900, .inl (fun _ => 0))), (q_4, .inl (cI, 1302, .inl (fun _ => 0))), (q_5, .inl (cI, 900, .inl (fun _ => 0))), (q_6, .inl (cI, 14, .inl (fun _ => 0))), (q_7, .inl (cI, 14, .inl (fun _ => 0))), (q_8, .inl (cI, 14, .inl (fun _ => 0))), (q_9, .inl (cI, 31, .inl (fun _ => 0))), (q_10, .inl (cI, 31, .inl (fun _ => 0))), (q_11, .inl (cJ, 229376, .inr (.inl (fun _ => 0)))), (q_12, .inl (cZ, 16384, .inl (fun _ => 0))), (q_13, .inl (cB, 229376, .inl (fun _ => 0))), (q_14, .inl (cI, 5, .inl (fun _ => 0))), (q_15, .inl (cI, 5, .inl (fun _ => 0))), (q_16, .inl (cI, 186, .inl (fun _ => 0)))] := hD
  refine W.widen (k := 16) (n := 482446) (Nat.le_of_ble_eq_true rfl) (Nat.le_of_ble_eq_true rfl) ?_
  refine va_putF (D := D) (ci := 12) (v := .ref q_16) (ty := tyX12 31) (C := RX12) (T := TX12) (N := 36) hx hb hts uX12 tyX12 tyX12_ok nmX12 hown hkb.1 hP hD hS 0 rfl rfl 31 (by decide) (hts _ kw_1254) (fun _ h9 => h9) rfl hnm rfl (tyX12_ok 31 (by decide)) rfl rfl (Nat.le_of_ble_eq_true rfl) dX12_init_137 (fun H locs hP hD hS => ?_)
  have hP : va_P D cls [(h0, .inr (12, [.int 0, .ref q_1, .ref q_2, .ref q_3, .ref q_4, .int 0, .int 0, .int 0, .int 0, .int 0, .int 0, .int 0, .int 0, .int 0, .int (-1), .ref q_5, .int 0, .ref q_6, .ref q_7, .ref q_8, .int 0, .ref q_9, .ref q_10, .int 0, .int 0, .int 0, .ref q_11, .ref q_12, .ref q_13, .ref q_14, .ref q_15, .ref q_16, .int 0, .null, .null, .null])), (q_1, .inl (cI, 3906, .inl (fun _ => 0))), (q_2, .inl (cZ, 2, .inl (fun _ => 0))), (q_3, .inl (cI, 900, .inl (fun _ => 0))), (q_4, .inl (cI, 1302, .inl (fun _ => 0))), (q_5, .inl (cI, 900, .inl (fun _ => 0))), (q_6, .inl (cI, 14, .inl (fun _ => 0))), (q_7, .inl (cI, 14, .inl (fun _ => 0))), (q_8, .inl (cI, 14, .inl (fun _ => 0))), (q_9, .inl (cI, 31, .inl (fun _ => 0))), (q_10, .inl (cI, 31, .inl (fun _ => 0))), (q_11, .inl (cJ, 229376, .inr (.inl (fun _ => 0)))), (q_12, .inl (cZ, 16384, .inl (fun _ => 0))), (q_13, .inl (cB, 229376, .inl (fun _ => 0))), (q_14, .inl (cI, 5, .inl (fun _ => 0))), (q_15, .inl (cI, 5, .inl (fun _ => 0))), (q_16, .inl (cI, 186, .inl (fun _ => 0)))] H := hP
  have hD : va_D A [(h0, .inr (12, [.int 0, .ref q_1, .ref q_2, .ref q_3, .ref q_4, .int 0, .int 0, .int 0, .int 0, .int 0, .int 0, .int 0, .int 0, .int 0, .int (-1), .ref q_5, .int 0, .ref q_6, .ref q_7, .ref q_8, .int 0, .ref q_9, .ref q_10, .int 0, .int 0, .int 0, .ref q_11, .ref q_12, .ref q_13, .ref q_14, .ref q_15, .ref q_16, .int 0, .null, .null, .null])), (q_1, .inl (cI, 3906, .inl (fun _ => 0))), (q_2, .inl (cZ, 2, .inl (fun _ => 0))), (q_3, .inl (cI, 900, .inl (fun _ => 0))), (q_4, .inl (cI, 1302, .inl (fun _ => 0))), (q_5, .inl (cI, 900, .inl (fun _ => 0))), (q_6, .inl (cI, 14, .inl (fun _ => 0))), (q_7, .inl (cI, 14, .inl (fun _ => 0))), (q_8, .inl (cI, 14, .inl (fun _ => 0))), (q_9, .inl (cI, 31, .inl (fun _ => 0))), (q_10, .inl (cI, 31, .inl (fun _ => 0))), (q_11, .inl (cJ, 229376, .inr (.inl (fun _ => 0)))), (q_12, .inl (cZ, 16384, .inl (fun _ => 0))), (q_13, .inl (cB, 229376, .inl (fun _ => 0))), (q_14, .inl (cI, 5, .inl (fun _ => 0))), (q_15, .inl (cI, 5, .inl (fun _ => 0))), (q_16, .inl (cI, 186, .inl (fun _ => 0)))] := hD
  refine lv_aload_n hx hb dX12_init_140 rfl (lv_at hl 0 rfl) ?_
  refine lv_iconst (v := 4) hx hb dX12_init_141 (by decide) ?_
  refine n_a (atype := .int) (t := .int) (a0 := (4, .inl (fun _ => 0))) 1 rfl (fun _ _ h => h) hx hb (hts _ kw_92) rfl hkb.1 hP hD hS hA (fun _ => rfl) (by decide) (by decide +kernel) (by decide) (Nat.le_of_ble_eq_true rfl) (Nat.le_of_ble_eq_true rfl) dX12_init_142 (fun q_17 H hP hD hS => ?_)
  have hP : va_P D cls [(h0, .inr (12, [.int 0, .ref q_1, .ref q_2, .ref q_3, .ref q_4, .int 0, .int 0, .int 0, .int 0, .int 0, .int 0, .int 0, .int 0, .int 0, .int (-1), .ref q_5, .int 0, .ref q_6, .ref q_7, .ref q_8, .int 0, .ref q_9, .ref q_10, .int 0, .int 0, .int 0, .ref q_11, .ref q_12, .ref q_13, .ref q_14, .ref q_15, .ref q_16, .int 0, .null, .null, .null])), (q_1, .inl (cI, 3906, .inl (fun _ => 0))), (q_2, .inl (cZ, 2, .inl (fun _ => 0))), (q_3, .inl (cI, 900, .inl (fun _ => 0))), (q_4, .inl (cI, 1302, .inl (fun _ => 0))), (q_5, .inl (cI, 900, .inl (fun _ => 0))), (q_6, .inl (cI, 14, .inl (fun _ => 0))), (q_7, .inl (cI, 14, .inl (fun _ => 0))), (q_8, .inl (cI, 14, .inl (fun _ => 0))), (q_9, .inl (cI, 31, .inl (fun _ => 0))), (q_10, .inl (cI, 31, .inl (fun _ => 0))), (q_11, .inl (cJ, 229376, .inr (.inl (fun _ => 0)))), (q_12, .inl (cZ, 16384, .inl (fun _ => 0))), (q_13, .inl (cB, 229376, .inl (fun _ => 0))), (q_14, .inl (cI, 5, .inl (fun _ => 0))), (q_15, .inl (cI, 5, .inl (fun _ => 0))), (q_16, .inl (cI, 186, .inl (fun _ => 0))), (q_17, .inl (cI, 4, .inl (fun _ => 0)))] H := hP
  have hD : va_D A [(h0, .inr (12, [.int 0, .ref q_1, .ref q_2, .ref q_3, .ref q_4, .int 0, .int 0, .int 0, .int 0, .int 0, .int 0, .int 0, .int 0, .int 0, .int (-1), .ref q_5, .int 0, .ref q_6, .ref q_7, .ref q_8, .int 0, .ref q_9, .ref q_10, .int 0, .int 0, .int 0, .ref q_11, .ref q_12, .ref q_13, .ref q_14, .ref q_15, .ref q_16, .int 0, .null, .null, .null])), (q_1, .inl (cI, 3906, .inl (fun _ => 0))), (q_2, .inl (cZ, 2, .inl (fun _ => 0))), (q_3, .inl (cI, 900, .inl (fun _ => 0))), (q_4, .inl (cI, 1302, .inl (fun _ => 0))), (q_5, .inl (cI, 900, .inl (fun _ => 0))), (q_6, .inl (cI, 14, .inl (fun _ => 0))), (q_7, .inl (cI, 14, .inl (fun _ => 0))), (q_8, .inl (cI, 14, .inl (fun _ => 0))), (q_9, .inl (cI, 31, .inl (fun _ => 0))), (q_10, .inl (cI, 31, .inl (fun _ => 0))), (q_11, .inl (cJ, 229376, .inr (.inl (fun _ => 0)))), (q_12, .inl (cZ, 16384, .inl (fun _ => 0))), (q_13, .inl (cB, 229376, .inl (fun _ => 0))), (q_14, .inl (cI, 5, .inl (fun _ => 0))), (q_15, .inl (cI, 5, .inl (fun _ => 0))), (q_16, .inl (cI, 186, .inl (fun _ => 0))), (q_17, .inl (cI, 4, .inl (fun _ => 0)))] := hD
  refine W.widen (k := 17) (n := 482450) (Nat.le_of_ble_eq_true rfl) (Nat.le_of_ble_eq_true rfl) ?_
  refine lv_dup hx hb dX12_init_144 rfl ?_
  refine lv_iconst (v := 0) hx hb dX12_init_145 (by decide) ?_
  refine lv_iconst (v := (-1)) hx hb dX12_init_146 (by decide) ?_
  refine s_i 17 1 hx hb hkb.1 hP hD hS rfl rfl (in_c (by decide +kernel)) 0 (by decide +kernel) dX12_init_147 (fun H locs hP hD hS => ?_)
  have hP : va_P D cls [(h0, .inr (12, [.int 0, .ref q_1, .ref q_2, .ref q_3, .ref q_4, .int 0, .int 0, .int 0, .int 0, .int 0, .int 0, .int 0, .int 0, .int 0, .int (-1), .ref q_5, .int 0, .ref q_6, .ref q_7, .ref q_8, .int 0, .ref q_9, .ref q_10, .int 0, .int 0, .int 0, .ref q_11, .ref q_12, .ref q_13, .ref q_14, .ref q_15, .ref q_16, .int 0, .null, .null, .null])), (q_1, .inl (cI, 3906, .inl (fun _ => 0))), (q_2, .inl (cZ, 2, .inl (fun _ => 0))), (q_3, .inl (cI, 900, .inl (fun _ => 0))), (q_4, .inl (cI, 1302, .inl (fun _ => 0))), (q_5, .inl (cI, 900, .inl (fun _ => 0))), (q_6, .inl (cI, 14, .inl (fun _ => 0))), (q_7, .inl (cI, 14, .inl (fun _ => 0))), (q_8, .inl (cI, 14, .inl (fun _ => 0))), (q_9, .inl (cI, 31, .inl (fun _ => 0))), (q_10, .inl (cI, 31, .inl (fun _ => 0))), (q_11, .inl (cJ, 229376, .inr (.inl (fun _ => 0)))), (q_12, .inl (cZ, 16384, .inl (fun _ => 0))), (q_13, .inl (cB, 229376, .inl (fun _ => 0))), (q_14, .inl (cI, 5, .inl (fun _ => 0))), (q_15, .inl (cI, 5, .inl (fun _ => 0))), (q_16, .inl (cI, 186, .inl (fun _ => 0))), (q_17, .inl (cI, 4, .inl (upd (fun _ => 0) 0 (-1))))] H := hP
  have hD : va_D A [(h0, .inr (12, [.int 0, .ref q_1, .ref q_2, .ref q_3, .ref q_4, .int 0, .int 0, .int 0, .int 0, .int 0, .int 0, .int 0, .int 0, .int 0, .int (-1), .ref q_5, .int 0, .ref q_6, .ref q_7, .ref q_8, .int 0, .ref q_9, .ref q_10, .int 0, .int 0, .int 0, .ref q_11, .ref q_12, .ref q_13, .ref q_14, .ref q_15, .ref q_16, .int 0, .null, .null, .null])), (q_1, .inl (cI, 3906, .inl (fun _ => 0))), (q_2, .inl (cZ, 2, .inl (fun _ => 0))), (q_3, .inl (cI, 900, .inl (fun _ => 0))), (q_4, .inl (cI, 1302, .inl (fun _ => 0))), (q_5, .inl (cI, 900, .inl (fun _ => 0))), (q_6, .inl (cI, 14, .inl (fun _ => 0))), (q_7, .inl (cI, 14, .inl (fun _ => 0))), (q_8, .inl (cI, 14, .inl (fun _ => 0))), (q_9, .inl (cI, 31, .inl (fun _ => 0))), (q_10, .inl (cI, 31, .inl (fun _ => 0))), (q_11, .inl (cJ, 229376, .inr (.inl (fun _ => 0)))), (q_12, .inl (cZ, 16384, .inl (fun _ => 0))), (q_13, .inl (cB, 229376, .inl (fun _ => 0))), (q_14, .inl (cI, 5, .inl (fun _ => 0))), (q_15, .inl (cI, 5, .inl (fun _ => 0))), (q_16, .inl (cI, 186, .inl (fun _ => 0))), (q_17, .inl (cI, 4, .inl (upd (fun _ => 0) 0 (-1))))] := hD
  refine lv_dup hx hb dX12_init_148 rfl ?_
  refine lv_iconst (v := 1) hx hb dX12_init_149 (by decide) ?_
  refine lv_iconst (v := (-1)) hx hb dX12_init_150 (by decide) ?_
  refine s_i 17 1 hx hb hkb.1 hP hD hS rfl rfl (in_c (by decide +kernel)) 1 (by decide +kernel) dX12_init_151 (fun H locs hP hD hS => ?_)
  have hP : va_P D cls [(h0, .inr (12, [.int 0, .ref q_1, .ref q_2, .ref q_3, .ref q_4, .int 0, .int 0, .int 0, .int 0, .int 0, .int 0, .int 0, .int 0, .int 0, .int (-1), .ref q_5, .int 0, .ref q_6, .ref q_7, .ref q_8, .int 0, .ref q_9, .ref q_10, .int 0, .int 0, .int 0, .ref q_11, .ref q_12, .ref q_13, .ref q_14, .ref q_15, .ref q_16, .int 0, .null, .null, .null])), (q_1, .inl (cI, 3906, .inl (fun _ => 0))), (q_2, .inl (cZ, 2, .inl (fun _ => 0))), (q_3, .inl (cI, 900, .inl (fun _ => 0))), (q_4, .inl (cI, 1302, .inl (fun _ => 0))), (q_5, .inl (cI, 900, .inl (fun _ => 0))), (q_6, .inl (cI, 14, .inl (fun _ => 0))), (q_7, .inl (cI, 14, .inl (fun _ => 0))), (q_8, .inl (cI, 14, .inl (fun _ => 0))), (q_9, .inl (cI, 31, .inl (fun _ => 0))), (q_10, .inl (cI, 31, .inl (fun _ => 0))), (q_11, .inl (cJ, 229376, .inr (.inl (fun _ => 0)))), (q_12, .inl (cZ, 16384, .inl (fun _ => 0))), (q_13, .inl (cB, 229376, .inl (fun _ => 0))), (q_14, .inl (cI, 5, .inl (fun _ => 0))), (q_15, .inl (cI, 5, .inl (fun _ => 0))), (q_16, .inl (cI, 186, .inl (fun _ => 0))), (q_17, .inl (cI, 4, .inl (upd (upd (fun _ => 0) 0 (-1)) 1 (-1))))] H := hP
  have hD : va_D A [(h0, .inr (12, [.int 0, .ref q_1, .ref q_2, .ref q_3, .ref q_4, .int 0, .int 0, .int 0, .int 0, .int 0, .int 0, .int 0, .int 0, .int 0, .int (-1), .ref q_5, .int 0, .ref q_6, .ref q_7, .ref q_8, .int 0, .ref q_9, .ref q_10, .int 0, .int 0, .int 0, .ref q_11, .ref q_12, .ref q_13, .ref q_14, .ref q_15, .ref q_16, .int 0, .null, .null, .null])), (q_1, .inl (cI, 3906, .inl (fun _ => 0))), (q_2, .inl (cZ, 2, .inl (fun _ => 0))), (q_3, .inl (cI, 900, .inl (fun _ => 0))), (q_4, .inl (cI, 1302, .inl (fun _ => 0))), (q_5, .inl (cI, 900, .inl (fun _ => 0))), (q_6, .inl (cI, 14, .inl (fun _ => 0))), (q_7, .inl (cI, 14, .inl (fun _ => 0))), (q_8, .inl (cI, 14, .inl (fun _ => 0))), (q_9, .inl (cI, 31, .inl (fun _ => 0))), (q_10, .inl (cI, 31, .inl (fun _ => 0))), (q_11, .inl (cJ, 229376, .inr (.inl (fun _ => 0)))), (q_12, .inl (cZ, 16384, .inl (fun _ => 0))), (q_13, .inl (cB, 229376, .inl (fun _ => 0))), (q_14, .inl (cI, 5, .inl (fun _ => 0))), (q_15, .inl (cI, 5, .inl (fun _ => 0))), (q_16, .inl (cI, 186, .inl (fun _ => 0))), (q_17, .inl (cI, 4, .inl (upd (upd (fun _ => 0) 0 (-1)) 1 (-1))))] := hD
  refine lv_dup hx hb dX12_init_152 rfl ?_
  refine lv_iconst (v := 2) hx hb dX12_init_153 (by decide) ?_
  refine lv_iconst (v := (-1)) hx hb dX12_init_154 (by decide) ?_
  refine s_i 17 1 hx hb hkb.1 hP hD hS rfl rfl (in_c (by decide +kernel)) 2 (by decide +kernel) dX12_init_155 (fun H locs hP hD hS => ?_)
  have hP : va_P D cls [(h0, .inr (12, [.int 0, .ref q_1, .ref q_2, .ref q_3, .ref q_4, .int 0, .int 0, .int 0, .int 0, .int 0, .int 0, .int 0, .int 0, .int 0, .int (-1), .ref q_5, .int 0, .ref q_6, .ref q_7, .ref q_8, .int 0, .ref q_9, .ref q_10, .int 0, .int 0, .int 0, .ref q_11, .ref q_12, .ref q_13, .ref q_14, .ref q_15, .ref q_16, .int 0, .null, .null, .null])), (q_1, .inl (cI, 3906, .inl (fun _ => 0))), (q_2, .inl (cZ, 2, .inl (fun _ => 0))), (q_3, .inl (cI, 900, .inl (fun _ => 0))), (q_4, .inl (cI, 1302, .inl (fun _ => 0))), (q_5, .inl (cI, 900, .inl (fun _ => 0))), (q_6, .inl (cI, 14, .inl (fun _ => 0))), (q_7, .inl (cI, 14, .inl (fun _ => 0))), (q_8, .inl (cI, 14, .inl (fun _ => 0))), (q_9, .inl (cI, 31, .inl (fun _ => 0))), (q_10, .inl (cI, 31, .inl (fun _ => 0))), (q_11, .inl (cJ, 229376, .inr (.inl (fun _ => 0)))), (q_12, .inl (cZ, 16384, .inl (fun _ => 0))), (q_13, .inl (cB, 229376, .inl (fun _ => 0))), (q_14, .inl (cI, 5, .inl (fun _ => 0))), (q_15, .inl (cI, 5, .inl (fun _ => 0))), (q_16, .inl (cI, 186, .inl (fun _ => 0))), (q_17, .inl (cI, 4, .inl (upd (upd (upd (fun _ => 0) 0 (-1)) 1 (-1)) 2 (-1))))] H := hP
  have hD : va_D A [(h0, .inr (12, [.int 0, .ref q_1, .ref q_2, .ref q_3, .ref q_4, .int 0, .int 0, .int 0, .int 0, .int 0, .int 0, .int 0, .int 0, .int 0, .int (-1), .ref q_5, .int 0, .ref q_6, .ref q_7, .ref q_8, .int 0, .ref q_9, .ref q_10, .int 0, .int 0, .int 0, .ref q_11, .ref q_12, .ref q_13, .ref q_14, .ref q_15, .ref q_16, .int 0, .null, .null, .null])), (q_1, .inl (cI, 3906, .inl (fun _ => 0))), (q_2, .inl (cZ, 2, .inl (fun _ => 0))), (q_3, .inl (cI, 900, .inl (fun _ => 0))), (q_4, .inl (cI, 1302, .inl (fun _ => 0))), (q_5, .inl (cI, 900, .inl (fun _ => 0))), (q_6, .inl (cI, 14, .inl (fun _ => 0))), (q_7, .inl (cI, 14, .inl (fun _ => 0))), (q_8, .inl (cI, 14, .inl (fun _ => 0))), (q_9, .inl (cI, 31, .inl (fun _ => 0))), (q_10, .inl (cI, 31, .inl (fun _ => 0))), (q_11, .inl (cJ, 229376, .inr (.inl (fun _ => 0)))), (q_12, .inl (cZ, 16384, .inl (fun _ => 0))), (q_13, .inl (cB, 229376, .inl (fun _ => 0))), (q_14, .inl (cI, 5, .inl (fun _ => 0))), (q_15, .inl (cI, 5, .inl (fun _ => 0))), (q_16, .inl (cI, 186, .inl (fun _ => 0))), (q_17, .inl (cI, 4, .inl (upd (upd (upd (fun _ => 0) 0 (-1)) 1 (-1)) 2 (-1))))] := hD
  refine lv_dup hx hb dX12_init_156 rfl ?_
  refine lv_iconst (v := 3) hx hb dX12_init_157 (by decide) ?_
  refine lv_iconst (v := (-1)) hx hb dX12_init_158 (by decide) ?_
  refine s_i 17 1 hx hb hkb.1 hP hD hS rfl rfl (in_c (by decide +kernel)) 3 (by decide +kernel) dX12_init_159 (fun H locs hP hD hS => ?_)
  have hP : va_P D cls [(h0, .inr (12, [.int 0, .ref q_1, .ref q_2, .ref q_3, .ref q_4, .int 0, .int 0, .int 0, .int 0, .int 0, .int 0, .int 0, .int 0, .int 0, .int (-1), .ref q_5, .int 0, .ref q_6, .ref q_7, .ref q_8, .int 0, .ref q_9, .ref q_10, .int 0, .int 0, .int 0, .ref q_11, .ref q_12, .ref q_13, .ref q_14, .ref q_15, .ref q_16, .int 0, .null, .null, .null])), (q_1, .inl (cI, 3906, .inl (fun _ => 0))), (q_2, .inl (cZ, 2, .inl (fun _ => 0))), (q_3, .inl (cI, 900, .inl (fun _ => 0))), (q_4, .inl (cI, 1302, .inl (fun _ => 0))), (q_5, .inl (cI, 900, .inl (fun _ => 0))), (q_6, .inl (cI, 14, .inl (fun _ => 0))), (q_7, .inl (cI, 14, .inl (fun _ => 0))), (q_8, .inl (cI, 14, .inl (fun _ => 0))), (q_9, .inl (cI, 31, .inl (fun _ => 0))), (q_10, .inl (cI, 31, .inl (fun _ => 0))), (q_11, .inl (cJ, 229376, .inr (.inl (fun _ => 0)))), (q_12, .inl (cZ, 16384, .inl (fun _ => 0))), (q_13, .inl (cB, 229376, .inl (fun _ => 0))), (q_14, .inl (cI, 5, .inl (fun _ => 0))), (q_15, .inl (cI, 5, .inl (fun _ => 0))), (q_16, .inl (cI, 186, .inl (fun _ => 0))), (q_17, .inl (cI, 4, .inl (upd (upd (upd (upd (fun _ => 0) 0 (-1)) 1 (-1)) 2 (-1)) 3 (-1))))] H := hP
  have hD : va_D A [(h0, .inr (12, [.int 0, .ref q_1, .ref q_2, .ref q_3, .ref q_4, .int 0, .int 0, .int 0, .int 0, .int 0, .int 0, .int 0, .int 0, .int 0, .int (-1), .ref q_5, .int 0, .ref q_6, .ref q_7, .ref q_8, .int 0, .ref q_9, .ref q_10, .int 0, .int 0, .int 0, .ref q_11, .ref q_12, .ref q_13, .ref q_14, .ref q_15, .ref q_16, .int 0, .null, .null, .null])), (q_1, .inl (cI, 3906, .inl (fun _ => 0))), (q_2, .inl (cZ, 2, .inl (fun _ => 0))), (q_3, .inl (cI, 900, .inl (fun _ => 0))), (q_4, .inl (cI, 1302, .inl (fun _ => 0))), (q_5, .inl (cI, 900, .inl (fun _ => 0))), (q_6, .inl (cI, 14, .inl (fun _ => 0))), (q_7, .inl (cI, 14, .inl (fun _ => 0))), (q_8, .inl (cI, 14, .inl (fun _ => 0))), (q_9, .inl (cI, 31, .inl (fun _ => 0))), (q_10, .inl (cI, 31, .inl (fun _ => 0))), (q_11, .inl (cJ, 229376, .inr (.inl (fun _ => 0)))), (q_12, .inl (cZ, 16384, .inl (fun _ => 0))), (q_13, .inl (cB, 229376, .inl (fun _ => 0))), (q_14, .inl (cI, 5, .inl (fun _ => 0))), (q_15, .inl (cI, 5, .inl (fun _ => 0))), (q_16, .inl (cI, 186, .inl (fun _ => 0))), (q_17, .inl (cI, 4, .inl (upd (upd (upd (upd (fun _ => 0) 0 (-1)) 1 (-1)) 2 (-1)) 3 (-1))))] := hD
  refine va_putF (D := D) (ci := 12) (v := .ref q_17) (ty := tyX12 33) (C := RX12) (T := TX12) (N := 36) hx hb hts uX12 tyX12 tyX12_ok nmX12 hown hkb.1 hP hD hS 0 rfl rfl 33 (by decide) (hts _ kw_1256) (fun _ h9 => h9) rfl hnm rfl (tyX12_ok 33 (by decide)) rfl rfl (Nat.le_of_ble_eq_true rfl) dX12_init_160 (fun H locs hP hD hS => ?_)
  have hP : va_P D cls [(h0, .inr (12, [.int 0, .ref q_1, .ref q_2, .ref q_3, .ref q_4, .int 0, .int 0, .int 0, .int 0, .int 0, .int 0, .int 0, .int 0, .int 0, .int (-1), .ref q_5, .int 0, .ref q_6, .ref q_7, .ref q_8, .int 0, .ref q_9, .ref q_10, .int 0, .int 0, .int 0, .ref q_11, .ref q_12, .ref q_13, .ref q_14, .ref q_15, .ref q_16, .int 0, .ref q_17, .null, .null])), (q_1, .inl (cI, 3906, .inl (fun _ => 0))), (q_2, .inl (cZ, 2, .inl (fun _ => 0))), (q_3, .inl (cI, 900, .inl (fun _ => 0))), (q_4, .inl (cI, 1302, .inl (fun _ => 0))), (q_5, .inl (cI, 900, .inl (fun _ => 0))), (q_6, .inl (cI, 14, .inl (fun _ => 0))), (q_7, .inl (cI, 14, .inl (fun _ => 0))), (q_8, .inl (cI, 14, .inl (fun _ => 0))), (q_9, .inl (cI, 31, .inl (fun _ => 0))), (q_10, .inl (cI, 31, .inl (fun _ => 0))), (q_11, .inl (cJ, 229376, .inr (.inl (fun _ => 0)))), (q_12, .inl (cZ, 16384, .inl (fun _ => 0))), (q_13, .inl (cB, 229376, .inl (fun _ => 0))), (q_14, .inl (cI, 5, .inl (fun _ => 0))), (q_15, .inl (cI, 5, .inl (fun _ => 0))), (q_16, .inl (cI, 186, .inl (fun _ => 0))), (q_17, .inl (cI, 4, .inl (upd (upd (upd (upd (fun _ => 0) 0 (-1)) 1 (-1)) 2 (-1)) 3 (-1))))] H := hP
  have hD : va_D A [(h0, .inr (12, [.int 0, .ref q_1, .ref q_2, .ref q_3, .ref q_4, .int 0, .int 0, .int 0, .int 0, .int 0, .int 0, .int 0, .int 0, .int 0, .int (-1), .ref q_5, .int 0, .ref q_6, .ref q_7, .ref q_8, .int 0, .ref q_9, .ref q_10, .int 0, .int 0, .int 0, .ref q_11, .ref q_12, .ref q_13, .ref q_14, .ref q_15, .ref q_16, .int 0, .ref q_17, .null, .null])), (q_1, .inl (cI, 3906, .inl (fun _ => 0))), (q_2, .inl (cZ, 2, .inl (fun _ => 0))), (q_3, .inl (cI, 900, .inl (fun _ => 0))), (q_4, .inl (cI, 1302, .inl (fun _ => 0))), (q_5, .inl (cI, 900, .inl (fun _ => 0))), (q_6, .inl (cI, 14, .inl (fun _ => 0))), (q_7, .inl (cI, 14, .inl (fun _ => 0))), (q_8, .inl (cI, 14, .inl (fun _ => 0))), (q_9, .inl (cI, 31, .inl (fun _ => 0))), (q_10, .inl (cI, 31, .inl (fun _ => 0))), (q_11, .inl (cJ, 229376, .inr (.inl (fun _ => 0)))), (q_12, .inl (cZ, 16384, .inl (fun _ => 0))), (q_13, .inl (cB, 229376, .inl (fun _ => 0))), (q_14, .inl (cI, 5, .inl (fun _ => 0))), (q_15, .inl (cI, 5, .inl (fun _ => 0))), (q_16, .inl (cI, 186, .inl (fun _ => 0))), (q_17, .inl (cI, 4, .inl (upd (upd (upd (upd (fun _ => 0) 0 (-1)) 1 (-1)) 2 (-1)) 3 (-1))))] := hD
  have hP : va_P D cls [(h0, .inr (12, [.int 0, .ref q_1, .ref q_2, .ref q_3, .ref q_4, .int 0, .int 0, .int 0, .int 0, .int 0, .int 0, .int 0, .int 0, .int 0, .int (-1), .ref q_5, .int 0, .ref q_6, .ref q_7, .ref q_8, .int 0, .ref q_9, .ref q_10, .int 0, .int 0, .int 0, .ref q_11, .ref q_12, .ref q_13, .ref q_14, .ref q_15, .ref q_16, .int 0, .ref q_17, .null, .null])), (q_1, .inl (cI, 3906, .inl (fun _ => 0))), (q_2, .inl (cZ, 2, .inl (fun _ => 0))), (q_3, .inl (cI, 900, .inl (fun _ => 0))), (q_4, .inl (cI, 1302, .inl (fun _ => 0))), (q_5, .inl (cI, 900, .inl (fun _ => 0))), (q_6, .inl (cI, 14, .inl (fun _ => 0))), (q_7, .inl (cI, 14, .inl (fun _ => 0))), (q_8, .inl (cI, 14, .inl (fun _ => 0))), (q_9, .inl (cI, 31, .inl (fun _ => 0))), (q_10, .inl (cI, 31, .inl (fun _ => 0))), (q_11, .inl (cJ, 229376, .inr (.inl (fun _ => 0)))), (q_12, .inl (cZ, 16384, .inl (fun _ => 0))), (q_13, .inl (cB, 229376, .inl (fun _ => 0))), (q_14, .inl (cI, 5, .inl (fun _ => 0))), (q_15, .inl (cI, 5, .inl (fun _ => 0))), (q_16, .inl (cI, 186, .inl (fun _ => 0))), (q_17, .inl (cI, 4, .inl rs4))] H := hP
  have hD : va_D A [(h0, .inr (12, [.int 0, .ref q_1, .ref q_2, .ref q_3, .ref q_4, .int 0, .int 0, .int 0, .int 0, .int 0, .int 0, .int 0, .int 0, .int 0, .int (-1), .ref q_5, .int 0, .ref q_6, .ref q_7, .ref q_8, .int 0, .ref q_9, .ref q_10, .int 0, .int 0, .int 0, .ref q_11, .ref q_12, .ref q_13, .ref q_14, .ref q_15, .ref q_16, .int 0, .ref q_17, .null, .null])), (q_1, .inl (cI, 3906, .inl (fun _ => 0))), (q_2, .inl (cZ, 2, .inl (fun _ => 0))), (q_3, .inl (cI, 900, .inl (fun _ => 0))), (q_4, .inl (cI, 1302, .inl (fun _ => 0))), (q_5, .inl (cI, 900, .inl (fun _ => 0))), (q_6, .inl (cI, 14, .inl (fun _ => 0))), (q_7, .inl (cI, 14, .inl (fun _ => 0))), (q_8, .inl (cI, 14, .inl (fun _ => 0))), (q_9, .inl (cI, 31, .inl (fun _ => 0))), (q_10, .inl (cI, 31, .inl (fun _ => 0))), (q_11, .inl (cJ, 229376, .inr (.inl (fun _ => 0)))), (q_12, .inl (cZ, 16384, .inl (fun _ => 0))), (q_13, .inl (cB, 229376, .inl (fun _ => 0))), (q_14, .inl (cI, 5, .inl (fun _ => 0))), (q_15, .inl (cI, 5, .inl (fun _ => 0))), (q_16, .inl (cI, 186, .inl (fun _ => 0))), (q_17, .inl (cI, 4, .inl rs4))] := hD
  refine lv_aload_n hx hb dX12_init_163 rfl (lv_at hl 0 rfl) ?_
  refine lv_iconst (v := 4) hx hb dX12_init_164 (by decide) ?_
  refine n_a (atype := .int) (t := .int) (a0 := (4, .inl (fun _ => 0))) 1 rfl (fun _ _ h => h) hx hb (hts _ kw_92) rfl hkb.1 hP hD hS hA (fun _ => rfl) (by decide) (by decide +kernel) (by decide) (Nat.le_of_ble_eq_true rfl) (Nat.le_of_ble_eq_true rfl) dX12_init_165 (fun q_18 H hP hD hS => ?_)
  have hP : va_P D cls [(h0, .inr (12, [.int 0, .ref q_1, .ref q_2, .ref q_3, .ref q_4, .int 0, .int 0, .int 0, .int 0, .int 0, .int 0, .int 0, .int 0, .int 0, .int (-1), .ref q_5, .int 0, .ref q_6, .ref q_7, .ref q_8, .int 0, .ref q_9, .ref q_10, .int 0, .int 0, .int 0, .ref q_11, .ref q_12, .ref q_13, .ref q_14, .ref q_15, .ref q_16, .int 0, .ref q_17, .null, .null])), (q_1, .inl (cI, 3906, .inl (fun _ => 0))), (q_2, .inl (cZ, 2, .inl (fun _ => 0))), (q_3, .inl (cI, 900, .inl (fun _ => 0))), (q_4, .inl (cI, 1302, .inl (fun _ => 0))), (q_5, .inl (cI, 900, .inl (fun _ => 0))), (q_6, .inl (cI, 14, .inl (fun _ => 0))), (q_7, .inl (cI, 14, .inl (fun _ => 0))), (q_8, .inl (cI, 14, .inl (fun _ => 0))), (q_9, .inl (cI, 31, .inl (fun _ => 0))), (q_10, .inl (cI, 31, .inl (fun _ => 0))), (q_11, .inl (cJ, 229376, .inr (.inl (fun _ => 0)))), (q_12, .inl (cZ, 16384, .inl (fun _ => 0))), (q_13, .inl (cB, 229376, .inl (fun _ => 0))), (q_14, .inl (cI, 5, .inl (fun _ => 0))), (q_15, .inl (cI, 5, .inl (fun _ => 0))), (q_16, .inl (cI, 186, .inl (fun _ => 0))), (q_17, .inl (cI, 4, .inl rs4)), (q_18, .inl (cI, 4, .inl (fun _ => 0)))] H := hP
  have hD : va_D A [(h0, .inr (12, [.int 0, .ref q_1, .ref q_2, .ref q_3, .ref q_4, .int 0, .int 0, .int 0, .int 0, .int 0, .int 0, .int 0, .int 0, .int 0, .int (-1), .ref q_5, .int 0, .ref q_6, .ref q_7, .ref q_8, .int 0, .ref q_9, .ref q_10, .int 0, .int 0, .int 0, .ref q_11, .ref q_12, .ref q_13, .ref q_14, .ref q_15, .ref q_16, .int 0, .ref q_17, .null, .null])), (q_1, .inl (cI, 3906, .inl (fun _ => 0))), (q_2, .inl (cZ, 2, .inl (fun _ => 0))), (q_3, .inl (cI, 900, .inl (fun _ => 0))), (q_4, .inl (cI, 1302, .inl (fun _ => 0))), (q_5, .inl (cI, 900, .inl (fun _ => 0))), (q_6, .inl (cI, 14, .inl (fun _ => 0))), (q_7, .inl (cI, 14, .inl (fun _ => 0))), (q_8, .inl (cI, 14, .inl (fun _ => 0))), (q_9, .inl (cI, 31, .inl (fun _ => 0))), (q_10, .inl (cI, 31, .inl (fun _ => 0))), (q_11, .inl (cJ, 229376, .inr (.inl (fun _ => 0)))), (q_12, .inl (cZ, 16384, .inl (fun _ => 0))), (q_13, .inl (cB, 229376, .inl (fun _ => 0))), (q_14, .inl (cI, 5, .inl (fun _ => 0))), (q_15, .inl (cI, 5, .inl (fun _ => 0))), (q_16, .inl (cI, 186, .inl (fun _ => 0))), (q_17, .inl (cI, 4, .inl rs4)), (q_18, .inl (cI, 4, .inl (fun _ => 0)))] := hD
  refine W.widen (k := 18) (n := 482454) (Nat.le_of_ble_eq_true rfl) (Nat.le_of_ble_eq_true rfl) ?_
  refine va_putF (D := D) (ci := 12) (v := .ref q_18) (ty := tyX12 34) (C := RX12) (T := TX12) (N := 36) hx hb hts uX12 tyX12 tyX12_ok nmX12 hown hkb.1 hP hD hS 0 rfl rfl 34 (by decide) (hts _ kw_1257) (fun _ h9 => h9) rfl hnm rfl (tyX12_ok 34 (by decide)) rfl rfl (Nat.le_of_ble_eq_true rfl) dX12_init_167 (fun H locs hP hD hS => ?_)
  have hP : va_P D cls [(h0, .inr (12, [.int 0, .ref q_1, .ref q_2, .ref q_3, .ref q_4, .int 0, .int 0, .int 0, .int 0, .int 0, .int 0, .int 0, .int 0, .int 0, .int (-1), .ref q_5, .int 0, .ref q_6, .ref q_7, .ref q_8, .int 0, .ref q_9, .ref q_10, .int 0, .int 0, .int 0, .ref q_11, .ref q_12, .ref q_13, .ref q_14, .ref q_15, .ref q_16, .int 0, .ref q_17, .ref q_18, .null])), (q_1, .inl (cI, 3906, .inl (fun _ => 0))), (q_2, .inl (cZ, 2, .inl (fun _ => 0))), (q_3, .inl (cI, 900, .inl (fun _ => 0))), (q_4, .inl (cI, 1302, .inl (fun _ => 0))), (q_5, .inl (cI, 900, .inl (fun _ => 0))), (q_6, .inl (cI, 14, .inl (fun _ => 0))), (q_7, .inl (cI, 14, .inl (fun _ => 0))), (q_8, .inl (cI, 14, .inl (fun _ => 0))), (q_9, .inl (cI, 31, .inl (fun _ => 0))), (q_10, .inl (cI, 31, .inl (fun _ => 0))), (q_11, .inl (cJ, 229376, .inr (.inl (fun _ => 0)))), (q_12, .inl (cZ, 16384, .inl (fun _ => 0))), (q_13, .inl (cB, 229376, .inl (fun _ => 0))), (q_14, .inl (cI, 5, .inl (fun _ => 0))), (q_15, .inl (cI, 5, .inl (fun _ => 0))), (q_16, .inl (cI, 186, .inl (fun _ => 0))), (q_17, .inl (cI, 4, .inl rs4)), (q_18, .inl (cI, 4, .inl (fun _ => 0)))] H := hP
  have hD : va_D A [(h0, .inr (12, [.int 0, .ref q_1, .ref q_2, .ref q_3, .ref q_4, .int 0, .int 0, .int 0, .int 0, .int 0, .int 0, .int 0, .int 0, .int 0, .int (-1), .ref q_5, .int 0, .ref q_6, .ref q_7, .ref q_8, .int 0, .ref q_9, .ref q_10, .int 0, .int 0, .int 0, .ref q_11, .ref q_12, .ref q_13, .ref q_14, .ref q_15, .ref q_16, .int 0, .ref q_17, .ref q_18, .null])), (q_1, .inl (cI, 3906, .inl (fun _ => 0))), (q_2, .inl (cZ, 2, .inl (fun _ => 0))), (q_3, .inl (cI, 900, .inl (fun _ => 0))), (q_4, .inl (cI, 1302, .inl (fun _ => 0))), (q_5, .inl (cI, 900, .inl (fun _ => 0))), (q_6, .inl (cI, 14, .inl (fun _ => 0))), (q_7, .inl (cI, 14, .inl (fun _ => 0))), (q_8, .inl (cI, 14, .inl (fun _ => 0))), (q_9, .inl (cI, 31, .inl (fun _ => 0))), (q_10, .inl (cI, 31, .inl (fun _ => 0))), (q_11, .inl (cJ, 229376, .inr (.inl (fun _ => 0)))), (q_12, .inl (cZ, 16384, .inl (fun _ => 0))), (q_13, .inl (cB, 229376, .inl (fun _ => 0))), (q_14, .inl (cI, 5, .inl (fun _ => 0))), (q_15, .inl (cI, 5, .inl (fun _ => 0))), (q_16, .inl (cI, 186, .inl (fun _ => 0))), (q_17, .inl (cI, 4, .inl rs4)), (q_18, .inl (cI, 4, .inl (fun _ => 0)))] := hD
  refine lv_aload_n hx hb dX12_init_170 rfl (lv_at hl 0 rfl) ?_
  refine lv_sipush (v := 160) hx hb dX12_init_171 (by decide) ?_
  refine n_a (atype := .long) (t := .long) (a0 := (160, .inr (.inl (fun _ => 0)))) 2 rfl (fun _ _ h => h) hx hb (hts _ kw_295) rfl hkb.1 hP hD hS hA (fun _ => rfl) (by decide) (by decide +kernel) (by decide) (Nat.le_of_ble_eq_true rfl) (Nat.le_of_ble_eq_true rfl) dX12_init_174 (fun q_19 H hP hD hS => ?_)
  have hP : va_P D cls [(h0, .inr (12, [.int 0, .ref q_1, .ref q_2, .ref q_3, .ref q_4, .int 0, .int 0, .int 0, .int 0, .int 0, .int 0, .int 0, .int 0, .int 0, .int (-1), .ref q_5, .int 0, .ref q_6, .ref q_7, .ref q_8, .int 0, .ref q_9, .ref q_10, .int 0, .int 0, .int 0, .ref q_11, .ref q_12, .ref q_13, .ref q_14, .ref q_15, .ref q_16, .int 0, .ref q_17, .ref q_18, .null])), (q_1, .inl (cI, 3906, .inl (fun _ => 0))), (q_2, .inl (cZ, 2, .inl (fun _ => 0))), (q_3, .inl (cI, 900, .inl (fun _ => 0))), (q_4, .inl (cI, 1302, .inl (fun _ => 0))), (q_5, .inl (cI, 900, .inl (fun _ => 0))), (q_6, .inl (cI, 14, .inl (fun _ => 0))), (q_7, .inl (cI, 14, .inl (fun _ => 0))), (q_8, .inl (cI, 14, .inl (fun _ => 0))), (q_9, .inl (cI, 31, .inl (fun _ => 0))), (q_10, .inl (cI, 31, .inl (fun _ => 0))), (q_11, .inl (cJ, 229376, .inr (.inl (fun _ => 0)))), (q_12, .inl (cZ, 16384, .inl (fun _ => 0))), (q_13, .inl (cB, 229376, .inl (fun _ => 0))), (q_14, .inl (cI, 5, .inl (fun _ => 0))), (q_15, .inl (cI, 5, .inl (fun _ => 0))), (q_16, .inl (cI, 186, .inl (fun _ => 0))), (q_17, .inl (cI, 4, .inl rs4)), (q_18, .inl (cI, 4, .inl (fun _ => 0))), (q_19, .inl (cJ, 160, .inr (.inl (fun _ => 0))))] H := hP
  have hD : va_D A [(h0, .inr (12, [.int 0, .ref q_1, .ref q_2, .ref q_3, .ref q_4, .int 0, .int 0, .int 0, .int 0, .int 0, .int 0, .int 0, .int 0, .int 0, .int (-1), .ref q_5, .int 0, .ref q_6, .ref q_7, .ref q_8, .int 0, .ref q_9, .ref q_10, .int 0, .int 0, .int 0, .ref q_11, .ref q_12, .ref q_13, .ref q_14, .ref q_15, .ref q_16, .int 0, .ref q_17, .ref q_18, .null])), (q_1, .inl (cI, 3906, .inl (fun _ => 0))), (q_2, .inl (cZ, 2, .inl (fun _ => 0))), (q_3, .inl (cI, 900, .inl (fun _ => 0))), (q_4, .inl (cI, 1302, .inl (fun _ => 0))), (q_5, .inl (cI, 900, .inl (fun _ => 0))), (q_6, .inl (cI, 14, .inl (fun _ => 0))), (q_7, .inl (cI, 14, .inl (fun _ => 0))), (q_8, .inl (cI, 14, .inl (fun _ => 0))), (q_9, .inl (cI, 31, .inl (fun _ => 0))), (q_10, .inl (cI, 31, .inl (fun _ => 0))), (q_11, .inl (cJ, 229376, .inr (.inl (fun _ => 0)))), (q_12, .inl (cZ, 16384, .inl (fun _ => 0))), (q_13, .inl (cB, 229376, .inl (fun _ => 0))), (q_14, .inl (cI, 5, .inl (fun _ => 0))), (q_15, .inl (cI, 5, .inl (fun _ => 0))), (q_16, .inl (cI, 186, .inl (fun _ => 0))), (q_17, .inl (cI, 4, .inl rs4)), (q_18, .inl (cI, 4, .inl (fun _ => 0))), (q_19, .inl (cJ, 160, .inr (.inl (fun _ => 0))))] := hD
  refine W.widen (k := 19) (n := 482614) (Nat.le_of_ble_eq_true rfl) (Nat.le_of_ble_eq_true rfl) ?_
  refine va_putF (D := D) (ci := 12) (v := .ref q_19) (ty := tyX12 35) (C := RX12) (T := TX12) (N := 36) hx hb hts uX12 tyX12 tyX12_ok nmX12 hown hkb.1 hP hD hS 0 rfl rfl 35 (by decide) (hts _ kw_1258) (fun _ h9 => h9) rfl hnm rfl (tyX12_ok 35 (by decide)) rfl rfl (Nat.le_of_ble_eq_true rfl) dX12_init_176 (fun H locs hP hD hS => ?_)
  have hP : va_P D cls [(h0, .inr (12, [.int 0, .ref q_1, .ref q_2, .ref q_3, .ref q_4, .int 0, .int 0, .int 0, .int 0, .int 0, .int 0, .int 0, .int 0, .int 0, .int (-1), .ref q_5, .int 0, .ref q_6, .ref q_7, .ref q_8, .int 0, .ref q_9, .ref q_10, .int 0, .int 0, .int 0, .ref q_11, .ref q_12, .ref q_13, .ref q_14, .ref q_15, .ref q_16, .int 0, .ref q_17, .ref q_18, .ref q_19])), (q_1, .inl (cI, 3906, .inl (fun _ => 0))), (q_2, .inl (cZ, 2, .inl (fun _ => 0))), (q_3, .inl (cI, 900, .inl (fun _ => 0))), (q_4, .inl (cI, 1302, .inl (fun _ => 0))), (q_5, .inl (cI, 900, .inl (fun _ => 0))), (q_6, .inl (cI, 14, .inl (fun _ => 0))), (q_7, .inl (cI, 14, .inl (fun _ => 0))), (q_8, .inl (cI, 14, .inl (fun _ => 0))), (q_9, .inl (cI, 31, .inl (fun _ => 0))), (q_10, .inl (cI, 31, .inl (fun _ => 0))), (q_11, .inl (cJ, 229376, .inr (.inl (fun _ => 0)))), (q_12, .inl (cZ, 16384, .inl (fun _ => 0))), (q_13, .inl (cB, 229376, .inl (fun _ => 0))), (q_14, .inl (cI, 5, .inl (fun _ => 0))), (q_15, .inl (cI, 5, .inl (fun _ => 0))), (q_16, .inl (cI, 186, .inl (fun _ => 0))), (q_17, .inl (cI, 4, .inl rs4)), (q_18, .inl (cI, 4, .inl (fun _ => 0))), (q_19, .inl (cJ, 160, .inr (.inl (fun _ => 0))))] H := hP
  have hD : va_D A [(h0, .inr (12, [.int 0, .ref q_1, .ref q_2, .ref q_3, .ref q_4, .int 0, .int 0, .int 0, .int 0, .int 0, .int 0, .int 0, .int 0, .int 0, .int (-1), .ref q_5, .int 0, .ref q_6, .ref q_7, .ref q_8, .int 0, .ref q_9, .ref q_10, .int 0, .int 0, .int 0, .ref q_11, .ref q_12, .ref q_13, .ref q_14, .ref q_15, .ref q_16, .int 0, .ref q_17, .ref q_18, .ref q_19])), (q_1, .inl (cI, 3906, .inl (fun _ => 0))), (q_2, .inl (cZ, 2, .inl (fun _ => 0))), (q_3, .inl (cI, 900, .inl (fun _ => 0))), (q_4, .inl (cI, 1302, .inl (fun _ => 0))), (q_5, .inl (cI, 900, .inl (fun _ => 0))), (q_6, .inl (cI, 14, .inl (fun _ => 0))), (q_7, .inl (cI, 14, .inl (fun _ => 0))), (q_8, .inl (cI, 14, .inl (fun _ => 0))), (q_9, .inl (cI, 31, .inl (fun _ => 0))), (q_10, .inl (cI, 31, .inl (fun _ => 0))), (q_11, .inl (cJ, 229376, .inr (.inl (fun _ => 0)))), (q_12, .inl (cZ, 16384, .inl (fun _ => 0))), (q_13, .inl (cB, 229376, .inl (fun _ => 0))), (q_14, .inl (cI, 5, .inl (fun _ => 0))), (q_15, .inl (cI, 5, .inl (fun _ => 0))), (q_16, .inl (cI, 186, .inl (fun _ => 0))), (q_17, .inl (cI, 4, .inl rs4)), (q_18, .inl (cI, 4, .inl (fun _ => 0))), (q_19, .inl (cJ, 160, .inr (.inl (fun _ => 0))))] := hD
  refine lv_aload_n hx hb dX12_init_179 rfl (lv_at hl 0 rfl) ?_
  refine va_get (D := D) (ci := 12) (v := .ref q_1) (C := RX12) (T := TX12) (N := 36) hx hb hts uX12 hown hkb.1 hP 0 rfl rfl 1 (by decide) (hts _ kw_1224) (fun _ h9 => h9) rfl dX12_init_180 ?_
  have hPc := hP.sub (ws' := [(q_1, .inl (cI, 3906, .inl (fun _ => 0)))]) [1] rfl
  have hDc := hD.sub (ws' := [(q_1, .inl (cI, 3906, .inl (fun _ => 0)))]) [1] (by decide) rfl
  refine k_v (wc := [(q_1, .inl (cI, 3906, .inl (fun _ => 0)))]) (wr := [(h0, .inr (12, [.int 0, .ref q_1, .ref q_2, .ref q_3, .ref q_4, .int 0, .int 0, .int 0, .int 0, .int 0, .int 0, .int 0, .int 0, .int 0, .int (-1), .ref q_5, .int 0, .ref q_6, .ref q_7, .ref q_8, .int 0, .ref q_9, .ref q_10, .int 0, .int 0, .int 0, .ref q_11, .ref q_12, .ref q_13, .ref q_14, .ref q_15, .ref q_16, .int 0, .ref q_17, .ref q_18, .ref q_19])), (q_2, .inl (cZ, 2, .inl (fun _ => 0))), (q_3, .inl (cI, 900, .inl (fun _ => 0))), (q_4, .inl (cI, 1302, .inl (fun _ => 0))), (q_5, .inl (cI, 900, .inl (fun _ => 0))), (q_6, .inl (cI, 14, .inl (fun _ => 0))), (q_7, .inl (cI, 14, .inl (fun _ => 0))), (q_8, .inl (cI, 14, .inl (fun _ => 0))), (q_9, .inl (cI, 31, .inl (fun _ => 0))), (q_10, .inl (cI, 31, .inl (fun _ => 0))), (q_11, .inl (cJ, 229376, .inr (.inl (fun _ => 0)))), (q_12, .inl (cZ, 16384, .inl (fun _ => 0))), (q_13, .inl (cB, 229376, .inl (fun _ => 0))), (q_14, .inl (cI, 5, .inl (fun _ => 0))), (q_15, .inl (cI, 5, .inl (fun _ => 0))), (q_16, .inl (cI, 186, .inl (fun _ => 0))), (q_17, .inl (cI, 4, .inl rs4)), (q_18, .inl (cI, 4, .inl (fun _ => 0))), (q_19, .inl (cJ, 160, .inr (.inl (fun _ => 0))))]) hP hD hS hA [1] [0, 2, 3, 4, 5, 6, 7, 8, 9, 10, 11, 12, 13, 14, 15, 16, 17, 18, 19] rfl rfl rfl (by decide) (r_S (n := 1) (As := [.ref q_1]) hx hb hml hown hts hkb hPc hDc (c_plain3906 l D cB cI cJ cZ cS cW cT cR q_1) kw_1220 kw_1221 kw_13 kw_1222 (by decide +kernel) ⟨Nat.le_of_ble_eq_true rfl, Nat.le_of_ble_eq_true rfl⟩ rfl rfl hl.1 (Nat.le_of_ble_eq_true rfl) dX12_init_183 ⟨Nat.le_of_ble_eq_true rfl, Nat.le_of_ble_eq_true rfl⟩) (fun u H locs hw hP hD hS => ?_)
  obtain ⟨rfl⟩ := hw
  have hP : va_P D cls [(h0, .inr (12, [.int 0, .ref q_1, .ref q_2, .ref q_3, .ref q_4, .int 0, .int 0, .int 0, .int 0, .int 0, .int 0, .int 0, .int 0, .int 0, .int (-1), .ref q_5, .int 0, .ref q_6, .ref q_7, .ref q_8, .int 0, .ref q_9, .ref q_10, .int 0, .int 0, .int 0, .ref q_11, .ref q_12, .ref q_13, .ref q_14, .ref q_15, .ref q_16, .int 0, .ref q_17, .ref q_18, .ref q_19])), (q_2, .inl (cZ, 2, .inl (fun _ => 0))), (q_3, .inl (cI, 900, .inl (fun _ => 0))), (q_4, .inl (cI, 1302, .inl (fun _ => 0))), (q_5, .inl (cI, 900, .inl (fun _ => 0))), (q_6, .inl (cI, 14, .inl (fun _ => 0))), (q_7, .inl (cI, 14, .inl (fun _ => 0))), (q_8, .inl (cI, 14, .inl (fun _ => 0))), (q_9, .inl (cI, 31, .inl (fun _ => 0))), (q_10, .inl (cI, 31, .inl (fun _ => 0))), (q_11, .inl (cJ, 229376, .inr (.inl (fun _ => 0)))), (q_12, .inl (cZ, 16384, .inl (fun _ => 0))), (q_13, .inl (cB, 229376, .inl (fun _ => 0))), (q_14, .inl (cI, 5, .inl (fun _ => 0))), (q_15, .inl (cI, 5, .inl (fun _ => 0))), (q_16, .inl (cI, 186, .inl (fun _ => 0))), (q_17, .inl (cI, 4, .inl rs4)), (q_18, .inl (cI, 4, .inl (fun _ => 0))), (q_19, .inl (cJ, 160, .inr (.inl (fun _ => 0)))), (q_1, .inl (cI, 3906, .inl plc))] H := hP
  have hD : va_D A [(h0, .inr (12, [.int 0, .ref q_1, .ref q_2, .ref q_3, .ref q_4, .int 0, .int 0, .int 0, .int 0, .int 0, .int 0, .int 0, .int 0, .int 0, .int (-1), .ref q_5, .int 0, .ref q_6, .ref q_7, .ref q_8, .int 0, .ref q_9, .ref q_10, .int 0, .int 0, .int 0, .ref q_11, .ref q_12, .ref q_13, .ref q_14, .ref q_15, .ref q_16, .int 0, .ref q_17, .ref q_18, .ref q_19])), (q_2, .inl (cZ, 2, .inl (fun _ => 0))), (q_3, .inl (cI, 900, .inl (fun _ => 0))), (q_4, .inl (cI, 1302, .inl (fun _ => 0))), (q_5, .inl (cI, 900, .inl (fun _ => 0))), (q_6, .inl (cI, 14, .inl (fun _ => 0))), (q_7, .inl (cI, 14, .inl (fun _ => 0))), (q_8, .inl (cI, 14, .inl (fun _ => 0))), (q_9, .inl (cI, 31, .inl (fun _ => 0))), (q_10, .inl (cI, 31, .inl (fun _ => 0))), (q_11, .inl (cJ, 229376, .inr (.inl (fun _ => 0)))), (q_12, .inl (cZ, 16384, .inl (fun _ => 0))), (q_13, .inl (cB, 229376, .inl (fun _ => 0))), (q_14, .inl (cI, 5, .inl (fun _ => 0))), (q_15, .inl (cI, 5, .inl (fun _ => 0))), (q_16, .inl (cI, 186, .inl (fun _ => 0))), (q_17, .inl (cI, 4, .inl rs4)), (q_18, .inl (cI, 4, .inl (fun _ => 0))), (q_19, .inl (cJ, 160, .inr (.inl (fun _ => 0)))), (q_1, .inl (cI, 3906, .inl plc))] := hD
  refine W.widen (k := 19) (n := 482614) (Nat.le_of_ble_eq_true rfl) (Nat.le_of_ble_eq_true rfl) ?_
  refine W.widen (k := 19) (n := 482614) (Nat.le_of_ble_eq_true rfl) (Nat.le_of_ble_eq_true rfl) ?_
  exact e_v (u := [(h0, .inr (12, [.int 0, .ref q_1, .ref q_2, .ref q_3, .ref q_4, .int 0, .int 0, .int 0, .int 0, .int 0, .int 0, .int 0, .int 0, .int 0, .int (-1), .ref q_5, .int 0, .ref q_6, .ref q_7, .ref q_8, .int 0, .ref q_9, .ref q_10, .int 0, .int 0, .int 0, .ref q_11, .ref q_12, .ref q_13, .ref q_14, .ref q_15, .ref q_16, .int 0, .ref q_17, .ref q_18, .ref q_19])), (q_2, .inl (cZ, 2, .inl (fun _ => 0))), (q_3, .inl (cI, 900, .inl (fun _ => 0))), (q_4, .inl (cI, 1302, .inl (fun _ => 0))), (q_5, .inl (cI, 900, .inl (fun _ => 0))), (q_6, .inl (cI, 14, .inl (fun _ => 0))), (q_7, .inl (cI, 14, .inl (fun _ => 0))), (q_8, .inl (cI, 14, .inl (fun _ => 0))), (q_9, .inl (cI, 31, .inl (fun _ => 0))), (q_10, .inl (cI, 31, .inl (fun _ => 0))), (q_11, .inl (cJ, 229376, .inr (.inl (fun _ => 0)))), (q_12, .inl (cZ, 16384, .inl (fun _ => 0))), (q_13, .inl (cB, 229376, .inl (fun _ => 0))), (q_14, .inl (cI, 5, .inl (fun _ => 0))), (q_15, .inl (cI, 5, .inl (fun _ => 0))), (q_16, .inl (cI, 186, .inl (fun _ => 0))), (q_17, .inl (cI, 4, .inl rs4)), (q_18, .inl (cI, 4, .inl (fun _ => 0))), (q_19, .inl (cJ, 160, .inr (.inl (fun _ => 0)))), (q_1, .inl (cI, 3906, .inl plc))]) hx hb hr hlocks (hP.sub (ws' := [(h0, .inr (12, [.int 0, .ref q_1, .ref q_2, .ref q_3, .ref q_4, .int 0, .int 0, .int 0, .int 0, .int 0, .int 0, .int 0, .int 0, .int 0, .int (-1), .ref q_5, .int 0, .ref q_6, .ref q_7, .ref q_8, .int 0, .ref q_9, .ref q_10, .int 0, .int 0, .int 0, .ref q_11, .ref q_12, .ref q_13, .ref q_14, .ref q_15, .ref q_16, .int 0, .ref q_17, .ref q_18, .ref q_19])), (q_2, .inl (cZ, 2, .inl (fun _ => 0))), (q_3, .inl (cI, 900, .inl (fun _ => 0))), (q_4, .inl (cI, 1302, .inl (fun _ => 0))), (q_5, .inl (cI, 900, .inl (fun _ => 0))), (q_6, .inl (cI, 14, .inl (fun _ => 0))), (q_7, .inl (cI, 14, .inl (fun _ => 0))), (q_8, .inl (cI, 14, .inl (fun _ => 0))), (q_9, .inl (cI, 31, .inl (fun _ => 0))), (q_10, .inl (cI, 31, .inl (fun _ => 0))), (q_11, .inl (cJ, 229376, .inr (.inl (fun _ => 0)))), (q_12, .inl (cZ, 16384, .inl (fun _ => 0))), (q_13, .inl (cB, 229376, .inl (fun _ => 0))), (q_14, .inl (cI, 5, .inl (fun _ => 0))), (q_15, .inl (cI, 5, .inl (fun _ => 0))), (q_16, .inl (cI, 186, .inl (fun _ => 0))), (q_17, .inl (cI, 4, .inl rs4)), (q_18, .inl (cI, 4, .inl (fun _ => 0))), (q_19, .inl (cJ, 160, .inr (.inl (fun _ => 0)))), (q_1, .inl (cI, 3906, .inl plc))]) [0, 1, 2, 3, 4, 5, 6, 7, 8, 9, 10, 11, 12, 13, 14, 15, 16, 17, 18, 19] rfl) (hD.sub (ws' := [(h0, .inr (12, [.int 0, .ref q_1, .ref q_2, .ref q_3, .ref q_4, .int 0, .int 0, .int 0, .int 0, .int 0, .int 0, .int 0, .int 0, .int 0, .int (-1), .ref q_5, .int 0, .ref q_6, .ref q_7, .ref q_8, .int 0, .ref q_9, .ref q_10, .int 0, .int 0, .int 0, .ref q_11, .ref q_12, .ref q_13, .ref q_14, .ref q_15, .ref q_16, .int 0, .ref q_17, .ref q_18, .ref q_19])), (q_2, .inl (cZ, 2, .inl (fun _ => 0))), (q_3, .inl (cI, 900, .inl (fun _ => 0))), (q_4, .inl (cI, 1302, .inl (fun _ => 0))), (q_5, .inl (cI, 900, .inl (fun _ => 0))), (q_6, .inl (cI, 14, .inl (fun _ => 0))), (q_7, .inl (cI, 14, .inl (fun _ => 0))), (q_8, .inl (cI, 14, .inl (fun _ => 0))), (q_9, .inl (cI, 31, .inl (fun _ => 0))), (q_10, .inl (cI, 31, .inl (fun _ => 0))), (q_11, .inl (cJ, 229376, .inr (.inl (fun _ => 0)))), (q_12, .inl (cZ, 16384, .inl (fun _ => 0))), (q_13, .inl (cB, 229376, .inl (fun _ => 0))), (q_14, .inl (cI, 5, .inl (fun _ => 0))), (q_15, .inl (cI, 5, .inl (fun _ => 0))), (q_16, .inl (cI, 186, .inl (fun _ => 0))), (q_17, .inl (cI, 4, .inl rs4)), (q_18, .inl (cI, 4, .inl (fun _ => 0))), (q_19, .inl (cJ, 160, .inr (.inl (fun _ => 0)))), (q_1, .inl (cI, 3906, .inl plc))]) [0, 1, 2, 3, 4, 5, 6, 7, 8, 9, 10, 11, 12, 13, 14, 15, 16, 17, 18, 19] (by decide) rfl) hS ⟨q_1, q_2, q_3, q_4, q_5, q_6, q_7, q_8, q_9, q_10, q_11, q_12, q_13, q_14, q_15, q_16, q_17, q_18, q_19, rfl⟩ dX12_init_186
/-! THE CLAIM OUT OF ONE WALK OF THE LAW'S BODY. Your part is whole_start (and what it stands on); all else here is the same for every law, but numbers. -/
def R_law : String := "FootholdWallLaw"
def lw_P (b : Addr) (xs : List Int32) (args : Array Value) (s : State) : Prop := args = #[.ref b] ∧ s.IntsAt b xs ∧ xs.length ≤ 3072 ∧ (Jvm.Cond.and given_1 narrow_1).before args s = true
def lw_Q (_ : Array Value) (s : State) (o : Outcome) (t : State) : Prop := o = .returned (some (.int 1)) ∧ Framed s o t [] 600000 7302250
def lw_Z (below : List Frame) (a : Array Value) (s : State) : State → Prop := fun t => ∃ o, t.status = .running ∧ Ended t below o ∧ lw_Q a s o t
/-- the law's own end, with 1 on the stack, nothing written that was there before, its room as the claim has it -/
theorem lw_ret {p : Program} {l : Launch} {e : Env} {s : State} {m : MethodId} {below : List Frame} {meth : Method} {c : Code} {b : Nat} (hx : p.tables.exec = Jvm.exec) (hb : c.code = code) (hr : meth.sig.returnType = ret) (hlocks : meth.locks = false) {pc : Nat} {H : Heap} {ls : Array Slot} (hdg : decode code pc = .ok (.ireturn, 1)) : W p l e room_1 s m #[Value.ref b] below meth c H [] 600000 7302250 (lw_Z below #[Value.ref b] s) (F0 m pc ls [.int 1]) := by
  intro T hT X
  obtain ⟨fs, hret, hrun, hended, hW, hframe⟩ := X.leave (v := some (.int 1)) (hlocks := hlocks) (fun h => by rw [hr] at h; cases h)
  have hmeth' : T.vm.method? m = some meth := X.method'
  refine ⟨T.setFrames fs, ?_, .returned (some (.int 1)), hrun, hended, rfl, ⟨_, rfl⟩, hW, hframe⟩
  jvm_step X.here [X.here.top, hx, hb, hdg, hmeth', hr, ret, narrow_b1]
  (try refine ⟨rfl, ?_⟩); (try refine ⟨rfl, ?_⟩)
  first | (intro acts; rw [hret _ acts rfl rfl rfl]) | rw [hret _ _ rfl rfl rfl]
  exact Steps.refl _
/-- what holds at the law's entry: the machine, the code, the tables' words (any of lw_tbl by 'hts w (by decide +kernel)'), the script of L ints xs at the cell b, what the Statement gives of the start (any of its parts by flat_of_before) -/
def lw_At (p : Program) (s : State) (m : MethodId) (meth : Method) (c : Code) (b L : Nat) (xs : Nat → Int32) : Prop :=
  p.tables.exec = Jvm.exec ∧ c.code = code ∧ meth.sig.returnType = ret ∧ c.maxLocals = 4 ∧ s.vm.findClass R_law = some m.cls ∧ (∀ w ∈ lw_tbl, w.before #[Value.ref b] s = true) ∧ va_X b L xs s s.heap ∧ b < s.heap.size ∧ meth.locks = false ∧ (Jvm.Cond.and given_1 narrow_1).before #[Value.ref b] s = true
/-- the kinds that calls use: all but Chains and Tokens -/
abbrev KL : List Nat := [0, 1, 2, 3, 4, 5, 6, 7, 8, 9, 11, 12, 13, 14, 15, 16, 18, 19, 20, 21, 22]
/-- what is known of the two objects between calls; G, M: how much lies on their tapes -/
def LV (T : TF) (xa ma ch w hw gw hg G M y0 y2 y3 nn j : Nat) (y1 : Int32) : Prop :=
  T xa = some (21, w, ch) ∧ isW T w hw gw ∧ T ma = some (22, hg, M) ∧ hg < 90 ∧ (∀ (b : Nat) (tg : Tg), T b = some tg → tg.1 = 22 → b = ma) ∧ (∀ (b : Nat) (tg : Tg), T b = some tg → tg.1 = 21 → b = xa) ∧ T ch = some (10, G, 0) ∧ T y0 = some (1, nn, 0) ∧ 0 ≤ y1.toInt ∧ y1.toInt ≤ 16383 ∧ T y2 = some (1, 14, 1) ∧ T y3 = some (1, 14, 0) ∧ nn = 2 ^ j ∧ j ≤ 14
/-- the room that n calls have taken -/
def RM (cells slots n j : Nat) : Prop := cells ≤ 200 + 10 * n + j ∧ slots ≤ 500000 + 1001 * n + 16384 * j
theorem RM.s {cells slots n j : Nat} (h : RM cells slots n j) : RM cells slots (n + 1) j := ⟨by have := h.1; omega, by have := h.2; omega⟩
theorem RM.d {cells slots n j kk ss j2 : Nat} (h : RM cells slots n j) (h1 : kk + j ≤ j2) (h2 : ss + 16384 * j ≤ 16384 * j2) : RM (cells + kk) (slots + ss) (n + 1) j2 := ⟨by have := h.1; omega, by have := h.2; omega⟩
theorem RM.w {cells slots n j : Nat} (h : RM cells slots n j) : RM (cells + 10) (slots + 1001) (n + 1) j := ⟨by have := h.1; omega, by have := h.2; omega⟩
theorem okc {T : TF} {O : List Nat} {ch g tk tp tm : Nat} (hO : O = []) (h : T ch = some (10, g, 0)) (h1 : T tk = some (17, 0, 0)) (h2 : T tp = some (0, 900, 0)) (h3 : T tm = some (9, 900, 0)) : okO T (ch :: tk :: tp :: tm :: O) KL := fun o ho => by
  subst hO
  simp only [List.mem_cons, List.not_mem_nil, or_false] at ho
  rcases ho with rfl | rfl | rfl | rfl
  · exact ⟨_, h, Or.inl (by show 10 ∉ KL; decide)⟩
  · exact ⟨_, h1, Or.inl (by show 17 ∉ KL; decide)⟩
  · exact ⟨_, h2, Or.inr ⟨Or.inl rfl, rfl⟩⟩
  · exact ⟨_, h3, Or.inr ⟨Or.inr rfl, rfl⟩⟩
/-- Tokens and both tapes, which stay exact -/
def LX (T : TF) (tk tp tm : Nat) : Prop := T tk = some (17, 0, 0) ∧ T tp = some (0, 900, 0) ∧ T tm = some (9, 900, 0) ∧ (∀ (b : Nat) (q : Nat), T b = some (17, 0, q) → b = tk) ∧ (∀ (b : Nat) (q : Nat), T b = some (0, 900, q) → b = tp) ∧ (∀ (b : Nat) (q : Nat), T b = some (9, 900, q) → b = tm)
theorem LX.to {T T2 : TF} {tk tp tm : Nat} (h : LX T tk tp tm) (h1 : ∀ (b : Nat) (tg : Tg), T b = some tg → tg.1 = 17 ∨ tg.1 = 0 ∨ tg.1 = 9 → T2 b = some tg) (h2 : ∀ (b : Nat) (tg : Tg), T2 b = some tg → tg.1 = 17 ∨ tg.1 = 0 ∨ tg.1 = 9 → T b = some tg) : LX T2 tk tp tm := by
  obtain ⟨a1, a2, a3, a4, a5, a6⟩ := h
  exact ⟨h1 _ _ a1 (Or.inl rfl), h1 _ _ a2 (Or.inr (Or.inl rfl)), h1 _ _ a3 (Or.inr (Or.inr rfl)), fun b q w => a4 b q (h2 _ _ w (Or.inl rfl)), fun b q w => a5 b q (h2 _ _ w (Or.inr (Or.inl rfl))), fun b q w => a6 b q (h2 _ _ w (Or.inr (Or.inr rfl)))⟩
theorem LX.gr {T T2 : TF} {tk tp tm : Nat} (h : LX T tk tp tm) (ht : Tgr T T2) : LX T2 tk tp tm := h.to (fun b tg w _ => ht.1 b tg w) (fun b tg w k => (ht.2 b tg w).elim id (fun q => by omega))
theorem LX.wl {T T2 : TF} {tk tp tm a : Nat} (h : LX T tk tp tm) (ht : Twl T T2 a) : LX T2 tk tp tm := h.to (fun b tg w k => ht.1 b tg w (by omega) (by omega)) (fun b tg w k => (ht.2 b tg w).elim id (fun q => by omega))
theorem LX.re {T T2 : TF} {tk tp tm a : Nat} (h : LX T tk tp tm) (ht : Tre T T2 a) : LX T2 tk tp tm := h.wl (Twl.of (T1 := T) (T2 := T) ⟨fun _ _ q => q, fun _ _ q => Or.inl q⟩ Tgc.rf ht)
theorem LX.gc {T T2 : TF} {tk tp tm : Nat} (h : LX T tk tp tm) (ht : Tgc T T2) : LX T2 tk tp tm := h.wl (a := 0) (Twl.of (T1 := T) ⟨fun _ _ q => q, fun _ _ q => Or.inl q⟩ ht Tre.rf)
theorem LX.rm {T T2 : TF} {tk tp tm a : Nat} (h : LX T tk tp tm) (ht : Trm T T2 a) : LX T2 tk tp tm := h.to (fun b tg w k => ht.1 b tg w (by omega) (by omega)) (fun b tg w k => (ht.2 b tg w).elim id (fun q => by omega))
/-- what both sides agree on: the tapes, how much lies on them, the latest fault and its place -/
def LG (G M : Nat) (ft f3 : Nat → Int32) (t : Tp) (y6 y7 : Int32) : Prop := TB ft t ∧ TM f3 t ∧ G = M % 1024 ∧ y6.toInt = ((M / 1024 % 8 : Nat) : Int) ∧ y7.toInt = ((M / 8192 : Nat) : Int) - 1
/-- the bounds of what Tokens hold -/
def LK (k1 k2 k3 : Int32) : Prop := 0 ≤ k1.toInt ∧ k1.toInt ≤ 900 ∧ 0 ≤ k2.toInt ∧ k2.toInt ≤ 900 ∧ 0 ≤ k3.toInt ∧ k3.toInt ≤ 900
theorem LG.feed {G M G2 M2 : Nat} {ft f3 g4 g5 : Nat → Int32} {t : Tp} {y6 y7 r q a b c d e : Int32} (h : LG G M ft f3 t y6 y7) (h1 : FDF G G2 r.toInt) (h2 : (r.toInt = -5 → g4 = ft) ∧ (r.toInt ≠ -5 → TB g4 (fd5 t G a b c d e))) (h3 : FDF (M % 1024) (M2 % 1024) q.toInt ∧ M2 / 1024 = M / 1024) (h4 : (q.toInt = -5 → g5 = f3) ∧ (q.toInt ≠ -5 → TM g5 (fd5 t (M % 1024) a b c d e))) : ∃ t2 : Tp, LG G2 M2 g4 g5 t2 y6 y7 := by
  obtain ⟨b1, b2, b3, b4, b5⟩ := h
  rw [b3] at h1 h2
  have e1 : G2 = M2 % 1024 := FDF_g h1 h3.1
  have e2 : r.toInt = q.toInt := by rw [FDF_eq h1 h3.1]
  have e3 : M2 / 8192 = M / 8192 := by have := h3.2; omega
  by_cases c9 : r.toInt = -5
  · exact ⟨t, by rw [h2.1 c9]; exact b1, by rw [h4.1 (by omega)]; exact b2, e1, by rw [h3.2]; exact b4, by rw [e3]; exact b5⟩
  · exact ⟨_, h2.2 c9, h4.2 (by omega), e1, by rw [h3.2]; exact b4, by rw [e3]; exact b5⟩
theorem LG.wall {G M G2 M2 : Nat} {ft f3 : Nat → Int32} {t : Tp} {y6 y7 z6 z7 : Int32} {x r : Int} (h : LG G M ft f3 t y6 y7) (h1 : WLF G G2 x) (h2 : WFC t G x y6 y7 z6 z7) (h3 : WFM t M M2 x r) : LG G2 M2 ft f3 t z6 z7 := by
  obtain ⟨b1, b2, b3, b4, b5⟩ := h
  subst b3
  rcases h3 with ⟨a1, a2, -⟩ | ⟨a1, a2, a3, fa, pl, a4, a5, a6⟩
  · rcases h2 with ⟨-, c1, c2⟩ | ⟨c1, c2, -⟩
    · rcases h1 with ⟨d1, d2, -⟩ | ⟨-, d1⟩
      · exact absurd ⟨d1, d2⟩ a1
      · rw [a2, c1, c2]
        exact ⟨b1, b2, d1, b4, b5⟩
    · exact absurd ⟨c1, c2⟩ a1
  · rcases h2 with ⟨c1, -, -⟩ | ⟨-, -, c3⟩
    · exact absurd ⟨a1, a2⟩ c1
    · have hG : G2 = M2 % 1024 := by
        rcases h1 with ⟨-, -, d1⟩ | ⟨d1, -⟩
        · omega
        · exact absurd ⟨a1, a2⟩ d1
      have hz : z6.toInt = fa.toInt ∧ z7.toInt = pl.toInt := by
        rcases c3 with ⟨c4, c5, l, c6⟩ | c4
        · rcases a6 with ⟨a7, a8, -⟩ | ⟨a7, -⟩
          · omega
          · exact (WO_WB c6 a7).elim
        · rcases a6 with ⟨-, -, l, a9, -⟩ | ⟨a7, -⟩
          · exact (WO_WB a9 c4).elim
          · exact WB_eq c4 a7
      exact ⟨b1, b2, hG, by rw [hz.1]; exact a4, by rw [hz.2]; exact a5⟩
theorem LG.wallr {G M M2 : Nat} {ft f3 : Nat → Int32} {t : Tp} {y6 y7 r q : Int32} {x : Int} (h : LG G M ft f3 t y6 y7) (h1 : WRC t G x r.toInt) (h2 : WFM t M M2 x q.toInt) : r = q := by
  obtain ⟨-, -, b3, -, -⟩ := h
  subst b3
  apply Int32.toInt_inj.mp
  rcases h2 with ⟨a1, -, a3⟩ | ⟨a1, a2, -, fa, pl, -, -, a6⟩
  · rcases h1 with ⟨-, c2⟩ | ⟨c1, c2, -⟩
    · omega
    · exact absurd ⟨c1, c2⟩ a1
  · rcases h1 with ⟨c1, -⟩ | ⟨-, -, c3⟩
    · exact absurd ⟨a1, a2⟩ c1
    · rcases c3 with ⟨l, c4, c5, c6⟩ | ⟨f2, p2, c4, c5⟩
      · rcases a6 with ⟨-, -, l2, a7, a8, a9⟩ | ⟨a7, -⟩
        · have := WO_eq c4 a7
          omega
        · exact (WO_WB c4 a7).elim
      · rcases a6 with ⟨-, -, l2, a7, -⟩ | ⟨a7, a8⟩
        · exact (WO_WB a7 c4).elim
        · have := (WB_eq c4 a7).1
          omega
theorem LG.fault {G M : Nat} {ft f3 : Nat → Int32} {t : Tp} {y6 y7 r q : Int32} {x : Int} (h : LG G M ft f3 t y6 y7) (h1 : r.toInt = FTF y6.toInt y7.toInt x) (h2 : q.toInt = FTF ((M / 1024 % 8 : Nat) : Int) (((M / 8192 : Nat) : Int) - 1) x) : r = q := Int32.toInt_inj.mp (by rw [h1, h2, h.2.2.2.1, h.2.2.2.2])
theorem LV.gr {T T2 : TF} {xa ma ch w hw gw hg G M y0 y2 y3 nn j z0 n2 j2 : Nat} {y1 z1 : Int32} (h : LV T xa ma ch w hw gw hg G M y0 y2 y3 nn j y1) (ht : Tgr T T2) (h0 : T2 z0 = some (1, n2, 0)) (h1 : n2 = 2 ^ j2) (h2 : j2 ≤ 14) (h3 : 0 ≤ z1.toInt) (h4 : z1.toInt ≤ 16383) : LV T2 xa ma ch w hw gw hg G M z0 y2 y3 n2 j2 z1 := by
  obtain ⟨a1, a2, a3, a4, a5, a55, a6, a7, a8, a9, b1, b2, b3, b4⟩ := h
  refine ⟨ht.1 _ _ a1, isW.le ht.1 a2, ht.1 _ _ a3, a4, fun b tg hb hk => ?_, fun b tg hb hk => ?_, ht.1 _ _ a6, h0, h3, h4, ht.1 _ _ b1, ht.1 _ _ b2, h1, h2⟩
  · rcases ht.2 b tg hb with q | q | q | q
    · exact a5 b tg q hk
    · omega
    · omega
    · omega
  · rcases ht.2 b tg hb with q | q | q | q
    · exact a55 b tg q hk
    · omega
    · omega
    · omega
theorem LV.wl {T T2 : TF} {xa ma ch w hw gw hg G M y0 y2 y3 nn j w2 h2 g2 G2 : Nat} {y1 : Int32} (h : LV T xa ma ch w hw gw hg G M y0 y2 y3 nn j y1) (ht : Twl T T2 xa) (h0 : T2 xa = some (21, w2, ch)) (h1 : isW T2 w2 h2 g2) (hc : T2 ch = some (10, G2, 0)) : LV T2 xa ma ch w2 h2 g2 hg G2 M y0 y2 y3 nn j y1 := by
  obtain ⟨a1, a2, a3, a4, a5, a55, a6, a7, a8, a9, b1, b2, b3, b4⟩ := h
  refine ⟨h0, h1, ht.1 _ _ a3 (by show 22 ≠ 21; decide) (by show 22 ≠ 10; decide), a4, fun b tg hb hk => ?_, fun b tg hb hk => ?_, hc, ht.1 _ _ a7 (by show 1 ≠ 21; decide) (by show 1 ≠ 10; decide), a8, a9, ht.1 _ _ b1 (by show 1 ≠ 21; decide) (by show 1 ≠ 10; decide), ht.1 _ _ b2 (by show 1 ≠ 21; decide) (by show 1 ≠ 10; decide), b3, b4⟩
  · rcases ht.2 b tg hb with q | q | q | q | q | q
    · exact a5 b tg q hk
    all_goals omega
  · rcases ht.2 b tg hb with q | q | q | q | q | q
    · exact a55 b tg q hk
    · omega
    · omega
    · omega
    · exact q.2
    · omega
theorem LV.re {T T2 : TF} {xa ma ch w hw gw hg G M y0 y2 y3 nn j w2 h2 g2 : Nat} {y1 : Int32} (h : LV T xa ma ch w hw gw hg G M y0 y2 y3 nn j y1) (ht : Tre T T2 xa) (h0 : T2 xa = some (21, w2, ch)) (h1 : isW T2 w2 h2 g2) : LV T2 xa ma ch w2 h2 g2 hg G M y0 y2 y3 nn j y1 :=
  h.wl (Twl.of (T1 := T) (T2 := T) ⟨fun _ _ q => q, fun _ _ q => Or.inl q⟩ Tgc.rf ht) h0 h1 (ht.1 _ _ h.2.2.2.2.2.2.1 (by show 10 ≠ 21; decide))
theorem LV.gc {T T2 : TF} {xa ma ch w hw gw hg G M y0 y2 y3 nn j G2 : Nat} {y1 : Int32} (h : LV T xa ma ch w hw gw hg G M y0 y2 y3 nn j y1) (ht : Tgc T T2) (hc : T2 ch = some (10, G2, 0)) : LV T2 xa ma ch w hw gw hg G2 M y0 y2 y3 nn j y1 :=
  h.wl (Twl.of (T1 := T) ⟨fun _ _ q => q, fun _ _ q => Or.inl q⟩ ht Tre.rf) (ht.1 _ _ h.1 (by show 21 ≠ 10; decide)) (isW.gc ht.1 h.2.1) hc
theorem LV.rm {T T2 : TF} {xa ma ch w hw gw hg G M y0 y2 y3 nn j hg2 M2 : Nat} {y1 : Int32} (h : LV T xa ma ch w hw gw hg G M y0 y2 y3 nn j y1) (ht : Trm T T2 ma) (h0 : T2 ma = some (22, hg2, M2)) (h1 : hg2 < 90) : LV T2 xa ma ch w hw gw hg2 G M2 y0 y2 y3 nn j y1 := by
  obtain ⟨a1, a2, a3, a4, a5, a55, a6, a7, a8, a9, b1, b2, b3, b4⟩ := h
  refine ⟨ht.1 _ _ a1 (by show 21 ≠ 22; decide) (by show 21 ≠ 8; decide), ⟨ht.1 _ _ a2.1 (by show 19 ≠ 22; decide) (by show 19 ≠ 8; decide), a2.2⟩, h0, h1, fun b tg hb hk => ?_, fun b tg hb hk => ?_, ht.1 _ _ a6 (by show 10 ≠ 22; decide) (by show 10 ≠ 8; decide), ht.1 _ _ a7 (by show 1 ≠ 22; decide) (by show 1 ≠ 8; decide), a8, a9, ht.1 _ _ b1 (by show 1 ≠ 22; decide) (by show 1 ≠ 8; decide), ht.1 _ _ b2 (by show 1 ≠ 22; decide) (by show 1 ≠ 8; decide), b3, b4⟩
  · rcases ht.2 b tg hb with q | q | q
    · exact a5 b tg q hk
    · omega
    · exact q.2
  · rcases ht.2 b tg hb with q | q | q
    · exact a55 b tg q hk
    · omega
    · omega
theorem dL_law_212 : decode code 212 = .ok (.aload_n 1, 1) := by decide +kernel
theorem dL_law_213 : decode code 213 = .ok (.aload_n 0, 1) := by decide +kernel
theorem dL_law_214 : decode code 214 = .ok (.iload_n 3, 1) := by decide +kernel
theorem dL_law_215 : decode code 215 = .ok (.iconst 1, 1) := by decide +kernel
theorem dL_law_216 : decode code 216 = .ok (.iadd, 1) := by decide +kernel
theorem dL_law_217 : decode code 217 = .ok (.iaload, 1) := by decide +kernel
theorem dL_law_218 : decode code 218 = .ok (.aload_n 0, 1) := by decide +kernel
theorem dL_law_219 : decode code 219 = .ok (.iload_n 3, 1) := by decide +kernel
theorem dL_law_220 : decode code 220 = .ok (.iconst 2, 1) := by decide +kernel
theorem dL_law_221 : decode code 221 = .ok (.iadd, 1) := by decide +kernel
theorem dL_law_222 : decode code 222 = .ok (.iaload, 1) := by decide +kernel
theorem dL_law_223 : decode code 223 = .ok (.aload_n 0, 1) := by decide +kernel
theorem dL_law_224 : decode code 224 = .ok (.iload_n 3, 1) := by decide +kernel
theorem dL_law_225 : decode code 225 = .ok (.iconst 3, 1) := by decide +kernel
theorem dL_law_226 : decode code 226 = .ok (.iadd, 1) := by decide +kernel
theorem dL_law_227 : decode code 227 = .ok (.iaload, 1) := by decide +kernel
theorem dL_law_228 : decode code 228 = .ok (.aload_n 0, 1) := by decide +kernel
theorem dL_law_229 : decode code 229 = .ok (.iload_n 3, 1) := by decide +kernel
theorem dL_law_230 : decode code 230 = .ok (.iconst 4, 1) := by decide +kernel
theorem dL_law_231 : decode code 231 = .ok (.iadd, 1) := by decide +kernel
theorem dL_law_232 : decode code 232 = .ok (.iaload, 1) := by decide +kernel
theorem dL_law_233 : decode code 233 = .ok (.aload_n 0, 1) := by decide +kernel
theorem dL_law_234 : decode code 234 = .ok (.iload_n 3, 1) := by decide +kernel
theorem dL_law_235 : decode code 235 = .ok (.iconst 5, 1) := by decide +kernel
theorem dL_law_236 : decode code 236 = .ok (.iadd, 1) := by decide +kernel
theorem dL_law_237 : decode code 237 = .ok (.iaload, 1) := by decide +kernel
theorem dL_law_238 : decode code 238 = .ok (.invokevirtual 13, 3) := by decide +kernel
theorem dL_law_241 : decode code 241 = .ok (.pop, 1) := by decide +kernel
theorem dL_law_242 : decode code 242 = .ok (.aload_n 2, 1) := by decide +kernel
theorem dL_law_243 : decode code 243 = .ok (.aload_n 0, 1) := by decide +kernel
theorem dL_law_244 : decode code 244 = .ok (.iload_n 3, 1) := by decide +kernel
theorem dL_law_245 : decode code 245 = .ok (.iconst 1, 1) := by decide +kernel
theorem dL_law_246 : decode code 246 = .ok (.iadd, 1) := by decide +kernel
theorem dL_law_247 : decode code 247 = .ok (.iaload, 1) := by decide +kernel
theorem dL_law_248 : decode code 248 = .ok (.aload_n 0, 1) := by decide +kernel
theorem dL_law_249 : decode code 249 = .ok (.iload_n 3, 1) := by decide +kernel
theorem dL_law_250 : decode code 250 = .ok (.iconst 2, 1) := by decide +kernel
theorem dL_law_251 : decode code 251 = .ok (.iadd, 1) := by decide +kernel
theorem dL_law_252 : decode code 252 = .ok (.iaload, 1) := by decide +kernel
theorem dL_law_253 : decode code 253 = .ok (.aload_n 0, 1) := by decide +kernel
theorem dL_law_254 : decode code 254 = .ok (.iload_n 3, 1) := by decide +kernel
theorem dL_law_255 : decode code 255 = .ok (.iconst 3, 1) := by decide +kernel
theorem dL_law_256 : decode code 256 = .ok (.iadd, 1) := by decide +kernel
theorem dL_law_257 : decode code 257 = .ok (.iaload, 1) := by decide +kernel
theorem dL_law_258 : decode code 258 = .ok (.aload_n 0, 1) := by decide +kernel
theorem dL_law_259 : decode code 259 = .ok (.iload_n 3, 1) := by decide +kernel
theorem dL_law_260 : decode code 260 = .ok (.iconst 4, 1) := by decide +kernel
theorem dL_law_261 : decode code 261 = .ok (.iadd, 1) := by decide +kernel
theorem dL_law_262 : decode code 262 = .ok (.iaload, 1) := by decide +kernel
theorem dL_law_263 : decode code 263 = .ok (.aload_n 0, 1) := by decide +kernel
theorem dL_law_264 : decode code 264 = .ok (.iload_n 3, 1) := by decide +kernel
theorem dL_law_265 : decode code 265 = .ok (.iconst 5, 1) := by decide +kernel
theorem dL_law_266 : decode code 266 = .ok (.iadd, 1) := by decide +kernel
theorem dL_law_267 : decode code 267 = .ok (.iaload, 1) := by decide +kernel
theorem dL_law_268 : decode code 268 = .ok (.invokevirtual 17, 3) := by decide +kernel
theorem dL_law_271 : decode code 271 = .ok (.pop, 1) := by decide +kernel
theorem dL_law_272 : decode code 272 = .ok (.goto 1123, 3) := by decide +kernel
theorem dL_law_275 : decode code 275 = .ok (.aload_n 1, 1) := by decide +kernel
theorem dL_law_276 : decode code 276 = .ok (.aload_n 0, 1) := by decide +kernel
theorem dL_law_277 : decode code 277 = .ok (.iload_n 3, 1) := by decide +kernel
theorem dL_law_278 : decode code 278 = .ok (.iconst 1, 1) := by decide +kernel
theorem dL_law_279 : decode code 279 = .ok (.iadd, 1) := by decide +kernel
theorem dL_law_280 : decode code 280 = .ok (.iaload, 1) := by decide +kernel
theorem dL_law_281 : decode code 281 = .ok (.invokevirtual 18, 3) := by decide +kernel
theorem dL_law_284 : decode code 284 = .ok (.aload_n 2, 1) := by decide +kernel
theorem dL_law_285 : decode code 285 = .ok (.aload_n 0, 1) := by decide +kernel
theorem dL_law_286 : decode code 286 = .ok (.iload_n 3, 1) := by decide +kernel
theorem dL_law_287 : decode code 287 = .ok (.iconst 1, 1) := by decide +kernel
theorem dL_law_288 : decode code 288 = .ok (.iadd, 1) := by decide +kernel
theorem dL_law_289 : decode code 289 = .ok (.iaload, 1) := by decide +kernel
theorem dL_law_290 : decode code 290 = .ok (.invokevirtual 22, 3) := by decide +kernel
theorem dL_law_293 : decode code 293 = .ok (.if_icmp .eq 1102, 3) := by decide +kernel
theorem dL_law_298 : decode code 298 = .ok (.aload_n 1, 1) := by decide +kernel
theorem dL_law_299 : decode code 299 = .ok (.aload_n 0, 1) := by decide +kernel
theorem dL_law_300 : decode code 300 = .ok (.iload_n 3, 1) := by decide +kernel
theorem dL_law_301 : decode code 301 = .ok (.iconst 1, 1) := by decide +kernel
theorem dL_law_302 : decode code 302 = .ok (.iadd, 1) := by decide +kernel
theorem dL_law_303 : decode code 303 = .ok (.iaload, 1) := by decide +kernel
theorem dL_law_304 : decode code 304 = .ok (.invokevirtual 23, 3) := by decide +kernel
theorem dL_law_307 : decode code 307 = .ok (.pop, 1) := by decide +kernel
theorem dL_law_308 : decode code 308 = .ok (.aload_n 2, 1) := by decide +kernel
theorem dL_law_309 : decode code 309 = .ok (.aload_n 0, 1) := by decide +kernel
theorem dL_law_310 : decode code 310 = .ok (.iload_n 3, 1) := by decide +kernel
theorem dL_law_311 : decode code 311 = .ok (.iconst 1, 1) := by decide +kernel
theorem dL_law_312 : decode code 312 = .ok (.iadd, 1) := by decide +kernel
theorem dL_law_313 : decode code 313 = .ok (.iaload, 1) := by decide +kernel
theorem dL_law_314 : decode code 314 = .ok (.invokevirtual 26, 3) := by decide +kernel
theorem dL_law_317 : decode code 317 = .ok (.pop, 1) := by decide +kernel
theorem dL_law_318 : decode code 318 = .ok (.goto 1077, 3) := by decide +kernel
theorem dL_law_321 : decode code 321 = .ok (.aload_n 1, 1) := by decide +kernel
theorem dL_law_322 : decode code 322 = .ok (.aload_n 0, 1) := by decide +kernel
theorem dL_law_323 : decode code 323 = .ok (.iload_n 3, 1) := by decide +kernel
theorem dL_law_324 : decode code 324 = .ok (.iconst 1, 1) := by decide +kernel
theorem dL_law_325 : decode code 325 = .ok (.iadd, 1) := by decide +kernel
theorem dL_law_326 : decode code 326 = .ok (.iaload, 1) := by decide +kernel
theorem dL_law_327 : decode code 327 = .ok (.aload_n 0, 1) := by decide +kernel
theorem dL_law_328 : decode code 328 = .ok (.iload_n 3, 1) := by decide +kernel
theorem dL_law_329 : decode code 329 = .ok (.iconst 2, 1) := by decide +kernel
theorem dL_law_330 : decode code 330 = .ok (.iadd, 1) := by decide +kernel
theorem dL_law_331 : decode code 331 = .ok (.iaload, 1) := by decide +kernel
theorem dL_law_332 : decode code 332 = .ok (.invokevirtual 27, 3) := by decide +kernel
theorem dL_law_335 : decode code 335 = .ok (.pop, 1) := by decide +kernel
theorem dL_law_336 : decode code 336 = .ok (.aload_n 2, 1) := by decide +kernel
theorem dL_law_337 : decode code 337 = .ok (.aload_n 0, 1) := by decide +kernel
theorem dL_law_338 : decode code 338 = .ok (.iload_n 3, 1) := by decide +kernel
theorem dL_law_339 : decode code 339 = .ok (.iconst 1, 1) := by decide +kernel
theorem dL_law_340 : decode code 340 = .ok (.iadd, 1) := by decide +kernel
theorem dL_law_341 : decode code 341 = .ok (.iaload, 1) := by decide +kernel
theorem dL_law_342 : decode code 342 = .ok (.aload_n 0, 1) := by decide +kernel
theorem dL_law_343 : decode code 343 = .ok (.iload_n 3, 1) := by decide +kernel
theorem dL_law_344 : decode code 344 = .ok (.iconst 2, 1) := by decide +kernel
theorem dL_law_345 : decode code 345 = .ok (.iadd, 1) := by decide +kernel
theorem dL_law_346 : decode code 346 = .ok (.iaload, 1) := by decide +kernel
theorem dL_law_347 : decode code 347 = .ok (.invokevirtual 31, 3) := by decide +kernel
theorem dL_law_350 : decode code 350 = .ok (.pop, 1) := by decide +kernel
theorem dL_law_351 : decode code 351 = .ok (.goto 1044, 3) := by decide +kernel
theorem dL_law_354 : decode code 354 = .ok (.aload_n 1, 1) := by decide +kernel
theorem dL_law_355 : decode code 355 = .ok (.aload_n 0, 1) := by decide +kernel
theorem dL_law_356 : decode code 356 = .ok (.iload_n 3, 1) := by decide +kernel
theorem dL_law_357 : decode code 357 = .ok (.iconst 1, 1) := by decide +kernel
theorem dL_law_358 : decode code 358 = .ok (.iadd, 1) := by decide +kernel
theorem dL_law_359 : decode code 359 = .ok (.iaload, 1) := by decide +kernel
theorem dL_law_360 : decode code 360 = .ok (.aload_n 0, 1) := by decide +kernel
theorem dL_law_361 : decode code 361 = .ok (.iload_n 3, 1) := by decide +kernel
theorem dL_law_362 : decode code 362 = .ok (.iconst 2, 1) := by decide +kernel
theorem dL_law_363 : decode code 363 = .ok (.iadd, 1) := by decide +kernel
theorem dL_law_364 : decode code 364 = .ok (.iaload, 1) := by decide +kernel
theorem dL_law_365 : decode code 365 = .ok (.invokevirtual 32, 3) := by decide +kernel
theorem dL_law_368 : decode code 368 = .ok (.pop, 1) := by decide +kernel
theorem dL_law_369 : decode code 369 = .ok (.aload_n 2, 1) := by decide +kernel
theorem dL_law_370 : decode code 370 = .ok (.aload_n 0, 1) := by decide +kernel
theorem dL_law_371 : decode code 371 = .ok (.iload_n 3, 1) := by decide +kernel
theorem dL_law_372 : decode code 372 = .ok (.iconst 1, 1) := by decide +kernel
theorem dL_law_373 : decode code 373 = .ok (.iadd, 1) := by decide +kernel
theorem dL_law_374 : decode code 374 = .ok (.iaload, 1) := by decide +kernel
theorem dL_law_375 : decode code 375 = .ok (.aload_n 0, 1) := by decide +kernel
theorem dL_law_376 : decode code 376 = .ok (.iload_n 3, 1) := by decide +kernel
theorem dL_law_377 : decode code 377 = .ok (.iconst 2, 1) := by decide +kernel
theorem dL_law_378 : decode code 378 = .ok (.iadd, 1) := by decide +kernel
theorem dL_law_379 : decode code 379 = .ok (.iaload, 1) := by decide +kernel
theorem dL_law_380 : decode code 380 = .ok (.invokevirtual 35, 3) := by decide +kernel
theorem dL_law_383 : decode code 383 = .ok (.pop, 1) := by decide +kernel
theorem dL_law_384 : decode code 384 = .ok (.goto 1011, 3) := by decide +kernel
theorem dL_law_387 : decode code 387 = .ok (.aload_n 1, 1) := by decide +kernel
theorem dL_law_388 : decode code 388 = .ok (.aload_n 0, 1) := by decide +kernel
theorem dL_law_389 : decode code 389 = .ok (.iload_n 3, 1) := by decide +kernel
theorem dL_law_390 : decode code 390 = .ok (.iconst 1, 1) := by decide +kernel
theorem dL_law_391 : decode code 391 = .ok (.iadd, 1) := by decide +kernel
theorem dL_law_392 : decode code 392 = .ok (.iaload, 1) := by decide +kernel
theorem dL_law_393 : decode code 393 = .ok (.aload_n 0, 1) := by decide +kernel
theorem dL_law_394 : decode code 394 = .ok (.iload_n 3, 1) := by decide +kernel
theorem dL_law_395 : decode code 395 = .ok (.iconst 2, 1) := by decide +kernel
theorem dL_law_396 : decode code 396 = .ok (.iadd, 1) := by decide +kernel
theorem dL_law_397 : decode code 397 = .ok (.iaload, 1) := by decide +kernel
theorem dL_law_398 : decode code 398 = .ok (.aload_n 0, 1) := by decide +kernel
theorem dL_law_399 : decode code 399 = .ok (.iload_n 3, 1) := by decide +kernel
theorem dL_law_400 : decode code 400 = .ok (.iconst 3, 1) := by decide +kernel
theorem dL_law_401 : decode code 401 = .ok (.iadd, 1) := by decide +kernel
theorem dL_law_402 : decode code 402 = .ok (.iaload, 1) := by decide +kernel
theorem dL_law_403 : decode code 403 = .ok (.invokevirtual 36, 3) := by decide +kernel
theorem dL_law_406 : decode code 406 = .ok (.pop, 1) := by decide +kernel
theorem dL_law_407 : decode code 407 = .ok (.aload_n 2, 1) := by decide +kernel
theorem dL_law_408 : decode code 408 = .ok (.aload_n 0, 1) := by decide +kernel
theorem dL_law_409 : decode code 409 = .ok (.iload_n 3, 1) := by decide +kernel
theorem dL_law_410 : decode code 410 = .ok (.iconst 1, 1) := by decide +kernel
theorem dL_law_411 : decode code 411 = .ok (.iadd, 1) := by decide +kernel
theorem dL_law_412 : decode code 412 = .ok (.iaload, 1) := by decide +kernel
theorem dL_law_413 : decode code 413 = .ok (.aload_n 0, 1) := by decide +kernel
theorem dL_law_414 : decode code 414 = .ok (.iload_n 3, 1) := by decide +kernel
theorem dL_law_415 : decode code 415 = .ok (.iconst 2, 1) := by decide +kernel
theorem dL_law_416 : decode code 416 = .ok (.iadd, 1) := by decide +kernel
theorem dL_law_417 : decode code 417 = .ok (.iaload, 1) := by decide +kernel
theorem dL_law_418 : decode code 418 = .ok (.aload_n 0, 1) := by decide +kernel
theorem dL_law_419 : decode code 419 = .ok (.iload_n 3, 1) := by decide +kernel
theorem dL_law_420 : decode code 420 = .ok (.iconst 3, 1) := by decide +kernel
theorem dL_law_421 : decode code 421 = .ok (.iadd, 1) := by decide +kernel
theorem dL_law_422 : decode code 422 = .ok (.iaload, 1) := by decide +kernel
theorem dL_law_423 : decode code 423 = .ok (.invokevirtual 40, 3) := by decide +kernel
theorem dL_law_426 : decode code 426 = .ok (.pop, 1) := by decide +kernel
theorem dL_law_427 : decode code 427 = .ok (.goto 968, 3) := by decide +kernel
theorem dL_law_430 : decode code 430 = .ok (.aload_n 1, 1) := by decide +kernel
theorem dL_law_431 : decode code 431 = .ok (.aload_n 0, 1) := by decide +kernel
theorem dL_law_432 : decode code 432 = .ok (.iload_n 3, 1) := by decide +kernel
theorem dL_law_433 : decode code 433 = .ok (.iconst 1, 1) := by decide +kernel
theorem dL_law_434 : decode code 434 = .ok (.iadd, 1) := by decide +kernel
theorem dL_law_435 : decode code 435 = .ok (.iaload, 1) := by decide +kernel
theorem dL_law_436 : decode code 436 = .ok (.invokevirtual 41, 3) := by decide +kernel
theorem dL_law_439 : decode code 439 = .ok (.pop, 1) := by decide +kernel
theorem dL_law_440 : decode code 440 = .ok (.aload_n 2, 1) := by decide +kernel
theorem dL_law_441 : decode code 441 = .ok (.aload_n 0, 1) := by decide +kernel
theorem dL_law_442 : decode code 442 = .ok (.iload_n 3, 1) := by decide +kernel
theorem dL_law_443 : decode code 443 = .ok (.iconst 1, 1) := by decide +kernel
theorem dL_law_444 : decode code 444 = .ok (.iadd, 1) := by decide +kernel
theorem dL_law_445 : decode code 445 = .ok (.iaload, 1) := by decide +kernel
theorem dL_law_446 : decode code 446 = .ok (.invokevirtual 44, 3) := by decide +kernel
theorem dL_law_449 : decode code 449 = .ok (.pop, 1) := by decide +kernel
theorem dL_law_450 : decode code 450 = .ok (.goto 945, 3) := by decide +kernel
theorem dL_law_453 : decode code 453 = .ok (.aload_n 1, 1) := by decide +kernel
theorem dL_law_454 : decode code 454 = .ok (.aload_n 0, 1) := by decide +kernel
theorem dL_law_455 : decode code 455 = .ok (.iload_n 3, 1) := by decide +kernel
theorem dL_law_456 : decode code 456 = .ok (.iconst 1, 1) := by decide +kernel
theorem dL_law_457 : decode code 457 = .ok (.iadd, 1) := by decide +kernel
theorem dL_law_458 : decode code 458 = .ok (.iaload, 1) := by decide +kernel
theorem dL_law_459 : decode code 459 = .ok (.aload_n 0, 1) := by decide +kernel
theorem dL_law_460 : decode code 460 = .ok (.iload_n 3, 1) := by decide +kernel
theorem dL_law_461 : decode code 461 = .ok (.iconst 2, 1) := by decide +kernel
theorem dL_law_462 : decode code 462 = .ok (.iadd, 1) := by decide +kernel
theorem dL_law_463 : decode code 463 = .ok (.iaload, 1) := by decide +kernel
theorem dL_law_464 : decode code 464 = .ok (.invokevirtual 45, 3) := by decide +kernel
theorem dL_law_467 : decode code 467 = .ok (.pop, 1) := by decide +kernel
theorem dL_law_468 : decode code 468 = .ok (.aload_n 2, 1) := by decide +kernel
theorem dL_law_469 : decode code 469 = .ok (.aload_n 0, 1) := by decide +kernel
theorem dL_law_470 : decode code 470 = .ok (.iload_n 3, 1) := by decide +kernel
theorem dL_law_471 : decode code 471 = .ok (.iconst 1, 1) := by decide +kernel
theorem dL_law_472 : decode code 472 = .ok (.iadd, 1) := by decide +kernel
theorem dL_law_473 : decode code 473 = .ok (.iaload, 1) := by decide +kernel
theorem dL_law_474 : decode code 474 = .ok (.aload_n 0, 1) := by decide +kernel
theorem dL_law_475 : decode code 475 = .ok (.iload_n 3, 1) := by decide +kernel
theorem dL_law_476 : decode code 476 = .ok (.iconst 2, 1) := by decide +kernel
theorem dL_law_477 : decode code 477 = .ok (.iadd, 1) := by decide +kernel
theorem dL_law_478 : decode code 478 = .ok (.iaload, 1) := by decide +kernel
theorem dL_law_479 : decode code 479 = .ok (.invokevirtual 48, 3) := by decide +kernel
theorem dL_law_482 : decode code 482 = .ok (.pop, 1) := by decide +kernel
theorem dL_law_483 : decode code 483 = .ok (.goto 912, 3) := by decide +kernel
theorem dL_law_486 : decode code 486 = .ok (.aload_n 1, 1) := by decide +kernel
theorem dL_law_487 : decode code 487 = .ok (.aload_n 0, 1) := by decide +kernel
theorem dL_law_488 : decode code 488 = .ok (.iload_n 3, 1) := by decide +kernel
theorem dL_law_489 : decode code 489 = .ok (.iconst 1, 1) := by decide +kernel
theorem dL_law_490 : decode code 490 = .ok (.iadd, 1) := by decide +kernel
theorem dL_law_491 : decode code 491 = .ok (.iaload, 1) := by decide +kernel
theorem dL_law_492 : decode code 492 = .ok (.invokevirtual 49, 3) := by decide +kernel
theorem dL_law_495 : decode code 495 = .ok (.pop, 1) := by decide +kernel
theorem dL_law_496 : decode code 496 = .ok (.aload_n 2, 1) := by decide +kernel
theorem dL_law_497 : decode code 497 = .ok (.aload_n 0, 1) := by decide +kernel
theorem dL_law_498 : decode code 498 = .ok (.iload_n 3, 1) := by decide +kernel
theorem dL_law_499 : decode code 499 = .ok (.iconst 1, 1) := by decide +kernel
theorem dL_law_500 : decode code 500 = .ok (.iadd, 1) := by decide +kernel
theorem dL_law_501 : decode code 501 = .ok (.iaload, 1) := by decide +kernel
theorem dL_law_502 : decode code 502 = .ok (.invokevirtual 52, 3) := by decide +kernel
theorem dL_law_505 : decode code 505 = .ok (.pop, 1) := by decide +kernel
theorem dL_law_506 : decode code 506 = .ok (.goto 889, 3) := by decide +kernel
theorem dL_law_509 : decode code 509 = .ok (.aload_n 1, 1) := by decide +kernel
theorem dL_law_510 : decode code 510 = .ok (.aload_n 0, 1) := by decide +kernel
theorem dL_law_511 : decode code 511 = .ok (.iload_n 3, 1) := by decide +kernel
theorem dL_law_512 : decode code 512 = .ok (.iconst 1, 1) := by decide +kernel
theorem dL_law_513 : decode code 513 = .ok (.iadd, 1) := by decide +kernel
theorem dL_law_514 : decode code 514 = .ok (.iaload, 1) := by decide +kernel
theorem dL_law_515 : decode code 515 = .ok (.invokevirtual 53, 3) := by decide +kernel
theorem dL_law_518 : decode code 518 = .ok (.pop, 1) := by decide +kernel
theorem dL_law_519 : decode code 519 = .ok (.aload_n 2, 1) := by decide +kernel
theorem dL_law_520 : decode code 520 = .ok (.aload_n 0, 1) := by decide +kernel
theorem dL_law_521 : decode code 521 = .ok (.iload_n 3, 1) := by decide +kernel
theorem dL_law_522 : decode code 522 = .ok (.iconst 1, 1) := by decide +kernel
theorem dL_law_523 : decode code 523 = .ok (.iadd, 1) := by decide +kernel
theorem dL_law_524 : decode code 524 = .ok (.iaload, 1) := by decide +kernel
theorem dL_law_525 : decode code 525 = .ok (.invokevirtual 56, 3) := by decide +kernel
theorem dL_law_528 : decode code 528 = .ok (.pop, 1) := by decide +kernel
theorem dL_law_529 : decode code 529 = .ok (.goto 866, 3) := by decide +kernel
theorem kw_421 : Cond.methodLink "FootholdWallLaw" 13 yX11_feed ∈ gw := gw_of (tb_of 421 (by decide +kernel)) (by decide +kernel)
theorem kw_422 : Cond.instanceMethod yX11_feed ∈ gw := gw_of (tb_of 422 (by decide +kernel)) (by decide +kernel)
theorem kw_423 : Cond.selects "FootholdWall" yX11_feed yX11_feed ∈ gw := gw_of (tb_of 423 (by decide +kernel)) (by decide +kernel)
theorem kw_424 : Cond.code yX11_feed cX11_feed 6 (some (.int)) ∈ gw := gw_of (tb_of 424 (by decide +kernel)) (by decide +kernel)
theorem kw_429 : Cond.methodLink "FootholdWallLaw" 18 yX11_wall ∈ gw := gw_of (tb_of 429 (by decide +kernel)) (by decide +kernel)
theorem kw_430 : Cond.instanceMethod yX11_wall ∈ gw := gw_of (tb_of 430 (by decide +kernel)) (by decide +kernel)
theorem kw_431 : Cond.selects "FootholdWall" yX11_wall yX11_wall ∈ gw := gw_of (tb_of 431 (by decide +kernel)) (by decide +kernel)
theorem kw_432 : Cond.code yX11_wall cX11_wall 2 (some (.int)) ∈ gw := gw_of (tb_of 432 (by decide +kernel)) (by decide +kernel)
theorem kw_762 : Cond.methodLink "FootholdWallLaw" 23 yX11_fault ∈ gw := gw_of (tb_of 762 (by decide +kernel)) (by decide +kernel)
theorem kw_763 : Cond.instanceMethod yX11_fault ∈ gw := gw_of (tb_of 763 (by decide +kernel)) (by decide +kernel)
theorem kw_764 : Cond.selects "FootholdWall" yX11_fault yX11_fault ∈ gw := gw_of (tb_of 764 (by decide +kernel)) (by decide +kernel)
theorem kw_765 : Cond.code yX11_fault cX11_fault 2 (some (.int)) ∈ gw := gw_of (tb_of 765 (by decide +kernel)) (by decide +kernel)
theorem kw_766 : Cond.methodLink "FootholdWallLaw" 27 yX11_hold ∈ gw := gw_of (tb_of 766 (by decide +kernel)) (by decide +kernel)
theorem kw_767 : Cond.instanceMethod yX11_hold ∈ gw := gw_of (tb_of 767 (by decide +kernel)) (by decide +kernel)
theorem kw_768 : Cond.selects "FootholdWall" yX11_hold yX11_hold ∈ gw := gw_of (tb_of 768 (by decide +kernel)) (by decide +kernel)
theorem kw_769 : Cond.code yX11_hold cX11_hold 3 (some (.int)) ∈ gw := gw_of (tb_of 769 (by decide +kernel)) (by decide +kernel)
theorem kw_790 : Cond.methodLink "FootholdWallLaw" 32 yX11_guide ∈ gw := gw_of (tb_of 790 (by decide +kernel)) (by decide +kernel)
theorem kw_791 : Cond.instanceMethod yX11_guide ∈ gw := gw_of (tb_of 791 (by decide +kernel)) (by decide +kernel)
theorem kw_792 : Cond.selects "FootholdWall" yX11_guide yX11_guide ∈ gw := gw_of (tb_of 792 (by decide +kernel)) (by decide +kernel)
theorem kw_793 : Cond.code yX11_guide cX11_guide 3 (some (.int)) ∈ gw := gw_of (tb_of 793 (by decide +kernel)) (by decide +kernel)
theorem kw_803 : Cond.methodLink "FootholdWallLaw" 36 yX11_steps ∈ gw := gw_of (tb_of 803 (by decide +kernel)) (by decide +kernel)
theorem kw_804 : Cond.instanceMethod yX11_steps ∈ gw := gw_of (tb_of 804 (by decide +kernel)) (by decide +kernel)
theorem kw_805 : Cond.selects "FootholdWall" yX11_steps yX11_steps ∈ gw := gw_of (tb_of 805 (by decide +kernel)) (by decide +kernel)
theorem kw_806 : Cond.code yX11_steps cX11_steps 4 (some (.int)) ∈ gw := gw_of (tb_of 806 (by decide +kernel)) (by decide +kernel)
theorem kw_826 : Cond.methodLink "FootholdWallLaw" 41 yX11_reach ∈ gw := gw_of (tb_of 826 (by decide +kernel)) (by decide +kernel)
theorem kw_827 : Cond.instanceMethod yX11_reach ∈ gw := gw_of (tb_of 827 (by decide +kernel)) (by decide +kernel)
theorem kw_828 : Cond.selects "FootholdWall" yX11_reach yX11_reach ∈ gw := gw_of (tb_of 828 (by decide +kernel)) (by decide +kernel)
theorem kw_829 : Cond.code yX11_reach cX11_reach 2 (some (.int)) ∈ gw := gw_of (tb_of 829 (by decide +kernel)) (by decide +kernel)
theorem kw_867 : Cond.methodLink "FootholdWallLaw" 45 yX11_judge ∈ gw := gw_of (tb_of 867 (by decide +kernel)) (by decide +kernel)
theorem kw_868 : Cond.instanceMethod yX11_judge ∈ gw := gw_of (tb_of 868 (by decide +kernel)) (by decide +kernel)
theorem kw_869 : Cond.selects "FootholdWall" yX11_judge yX11_judge ∈ gw := gw_of (tb_of 869 (by decide +kernel)) (by decide +kernel)
theorem kw_870 : Cond.code yX11_judge cX11_judge 5 (some (.int)) ∈ gw := gw_of (tb_of 870 (by decide +kernel)) (by decide +kernel)
theorem kw_894 : Cond.methodLink "FootholdWallLaw" 49 yX11_climb ∈ gw := gw_of (tb_of 894 (by decide +kernel)) (by decide +kernel)
theorem kw_895 : Cond.instanceMethod yX11_climb ∈ gw := gw_of (tb_of 895 (by decide +kernel)) (by decide +kernel)
theorem kw_896 : Cond.selects "FootholdWall" yX11_climb yX11_climb ∈ gw := gw_of (tb_of 896 (by decide +kernel)) (by decide +kernel)
theorem kw_897 : Cond.code yX11_climb cX11_climb 4 (some (.int)) ∈ gw := gw_of (tb_of 897 (by decide +kernel)) (by decide +kernel)
theorem kw_904 : Cond.methodLink "FootholdWallLaw" 53 yX11_goes ∈ gw := gw_of (tb_of 904 (by decide +kernel)) (by decide +kernel)
theorem kw_905 : Cond.instanceMethod yX11_goes ∈ gw := gw_of (tb_of 905 (by decide +kernel)) (by decide +kernel)
theorem kw_906 : Cond.selects "FootholdWall" yX11_goes yX11_goes ∈ gw := gw_of (tb_of 906 (by decide +kernel)) (by decide +kernel)
theorem kw_907 : Cond.code yX11_goes cX11_goes 3 (some (.int)) ∈ gw := gw_of (tb_of 907 (by decide +kernel)) (by decide +kernel)
theorem kw_1333 : Cond.methodLink "FootholdWallLaw" 17 yX12_feed ∈ gw := gw_of (tb_of 1333 (by decide +kernel)) (by decide +kernel)
theorem kw_1334 : Cond.instanceMethod yX12_feed ∈ gw := gw_of (tb_of 1334 (by decide +kernel)) (by decide +kernel)
theorem kw_1335 : Cond.selects "FootholdWallModel" yX12_feed yX12_feed ∈ gw := gw_of (tb_of 1335 (by decide +kernel)) (by decide +kernel)
theorem kw_1336 : Cond.code yX12_feed cX12_feed 8 (some (.int)) ∈ gw := gw_of (tb_of 1336 (by decide +kernel)) (by decide +kernel)
theorem kw_1337 : Cond.methodLink "FootholdWallLaw" 22 yX12_wall ∈ gw := gw_of (tb_of 1337 (by decide +kernel)) (by decide +kernel)
theorem kw_1338 : Cond.instanceMethod yX12_wall ∈ gw := gw_of (tb_of 1338 (by decide +kernel)) (by decide +kernel)
theorem kw_1339 : Cond.selects "FootholdWallModel" yX12_wall yX12_wall ∈ gw := gw_of (tb_of 1339 (by decide +kernel)) (by decide +kernel)
theorem kw_1340 : Cond.code yX12_wall cX12_wall 3 (some (.int)) ∈ gw := gw_of (tb_of 1340 (by decide +kernel)) (by decide +kernel)
theorem kw_1446 : Cond.methodLink "FootholdWallLaw" 26 yX12_fault ∈ gw := gw_of (tb_of 1446 (by decide +kernel)) (by decide +kernel)
theorem kw_1447 : Cond.instanceMethod yX12_fault ∈ gw := gw_of (tb_of 1447 (by decide +kernel)) (by decide +kernel)
theorem kw_1448 : Cond.selects "FootholdWallModel" yX12_fault yX12_fault ∈ gw := gw_of (tb_of 1448 (by decide +kernel)) (by decide +kernel)
theorem kw_1449 : Cond.code yX12_fault cX12_fault 2 (some (.int)) ∈ gw := gw_of (tb_of 1449 (by decide +kernel)) (by decide +kernel)
theorem kw_1450 : Cond.methodLink "FootholdWallLaw" 31 yX12_hold ∈ gw := gw_of (tb_of 1450 (by decide +kernel)) (by decide +kernel)
theorem kw_1451 : Cond.instanceMethod yX12_hold ∈ gw := gw_of (tb_of 1451 (by decide +kernel)) (by decide +kernel)
theorem kw_1452 : Cond.selects "FootholdWallModel" yX12_hold yX12_hold ∈ gw := gw_of (tb_of 1452 (by decide +kernel)) (by decide +kernel)
theorem kw_1453 : Cond.code yX12_hold cX12_hold 3 (some (.int)) ∈ gw := gw_of (tb_of 1453 (by decide +kernel)) (by decide +kernel)
theorem kw_1466 : Cond.methodLink "FootholdWallLaw" 35 yX12_guide ∈ gw := gw_of (tb_of 1466 (by decide +kernel)) (by decide +kernel)
theorem kw_1467 : Cond.instanceMethod yX12_guide ∈ gw := gw_of (tb_of 1467 (by decide +kernel)) (by decide +kernel)
theorem kw_1468 : Cond.selects "FootholdWallModel" yX12_guide yX12_guide ∈ gw := gw_of (tb_of 1468 (by decide +kernel)) (by decide +kernel)
theorem kw_1469 : Cond.code yX12_guide cX12_guide 3 (some (.int)) ∈ gw := gw_of (tb_of 1469 (by decide +kernel)) (by decide +kernel)
theorem kw_1478 : Cond.methodLink "FootholdWallLaw" 40 yX12_steps ∈ gw := gw_of (tb_of 1478 (by decide +kernel)) (by decide +kernel)
theorem kw_1479 : Cond.instanceMethod yX12_steps ∈ gw := gw_of (tb_of 1479 (by decide +kernel)) (by decide +kernel)
theorem kw_1480 : Cond.selects "FootholdWallModel" yX12_steps yX12_steps ∈ gw := gw_of (tb_of 1480 (by decide +kernel)) (by decide +kernel)
theorem kw_1481 : Cond.code yX12_steps cX12_steps 4 (some (.int)) ∈ gw := gw_of (tb_of 1481 (by decide +kernel)) (by decide +kernel)
theorem kw_1498 : Cond.methodLink "FootholdWallLaw" 44 yX12_reach ∈ gw := gw_of (tb_of 1498 (by decide +kernel)) (by decide +kernel)
theorem kw_1499 : Cond.instanceMethod yX12_reach ∈ gw := gw_of (tb_of 1499 (by decide +kernel)) (by decide +kernel)
theorem kw_1500 : Cond.selects "FootholdWallModel" yX12_reach yX12_reach ∈ gw := gw_of (tb_of 1500 (by decide +kernel)) (by decide +kernel)
theorem kw_1501 : Cond.code yX12_reach cX12_reach 2 (some (.int)) ∈ gw := gw_of (tb_of 1501 (by decide +kernel)) (by decide +kernel)
theorem kw_1518 : Cond.methodLink "FootholdWallLaw" 48 yX12_judge ∈ gw := gw_of (tb_of 1518 (by decide +kernel)) (by decide +kernel)
theorem kw_1519 : Cond.instanceMethod yX12_judge ∈ gw := gw_of (tb_of 1519 (by decide +kernel)) (by decide +kernel)
theorem kw_1520 : Cond.selects "FootholdWallModel" yX12_judge yX12_judge ∈ gw := gw_of (tb_of 1520 (by decide +kernel)) (by decide +kernel)
theorem kw_1521 : Cond.code yX12_judge cX12_judge 5 (some (.int)) ∈ gw := gw_of (tb_of 1521 (by decide +kernel)) (by decide +kernel)
theorem kw_1540 : Cond.methodLink "FootholdWallLaw" 52 yX12_climb ∈ gw := gw_of (tb_of 1540 (by decide +kernel)) (by decide +kernel)
theorem kw_1541 : Cond.instanceMethod yX12_climb ∈ gw := gw_of (tb_of 1541 (by decide +kernel)) (by decide +kernel)
theorem kw_1542 : Cond.selects "FootholdWallModel" yX12_climb yX12_climb ∈ gw := gw_of (tb_of 1542 (by decide +kernel)) (by decide +kernel)
theorem kw_1543 : Cond.code yX12_climb cX12_climb 4 (some (.int)) ∈ gw := gw_of (tb_of 1543 (by decide +kernel)) (by decide +kernel)
theorem kw_1556 : Cond.methodLink "FootholdWallLaw" 56 yX12_goes ∈ gw := gw_of (tb_of 1556 (by decide +kernel)) (by decide +kernel)
theorem kw_1557 : Cond.instanceMethod yX12_goes ∈ gw := gw_of (tb_of 1557 (by decide +kernel)) (by decide +kernel)
theorem kw_1558 : Cond.selects "FootholdWallModel" yX12_goes yX12_goes ∈ gw := gw_of (tb_of 1558 (by decide +kernel)) (by decide +kernel)
theorem kw_1559 : Cond.code yX12_goes cX12_goes 3 (some (.int)) ∈ gw := gw_of (tb_of 1559 (by decide +kernel)) (by decide +kernel)
set_option maxHeartbeats 4000000 in
set_option maxRecDepth 100000 in
/-- feed -/
theorem lw_c0 {p : Program} {e : Env} {s : State} {m : MethodId} {below : List Frame} {meth : Method} {c : Code} {Q : State → Prop} (l : Launch) (D : va_G) (cs : CS) (kf : KF) {b L : Nat} {xs : Nat → Int32} (hx : p.tables.exec = Jvm.exec) (hb : c.code = code) (hml : c.maxLocals = 4) (hown : s.vm.findClass R_law = some m.cls) (hts : ∀ w ∈ gw, w.before #[Value.ref b] s = true) (hX : va_X b L xs s s.heap) (hbl : b < s.heap.size) (hkb : kb D (tyc cs) s) (hks : kS kf s) {A : Nat → Prop} (hE : kE kf A s s.heap) (hA : ∀ q, s.heap.size ≤ q → A q) (hbA : ¬ A b) (hL : L ≤ 3072) (O : List Nat) (X : va_W) (hOX0 : ∀ o ∈ O, ∃ (k : Nat) (e : va_E), X[k]? = some (o, e)) (hO9 : O = []) (a0 ch a1 y2 y3 tk tp tm : Nat) (T : TF) (w hw gw hg G M y0 nn j : Nat) (y1 : Int32) (o0 : Value) (k1 k2 k3 k4 k5 k6 k7 : Int32) (ft f3 : Nat → Int32) (t : Tp) (x3 : Int32) (n cells slots : Nat) (H : Heap) (locs : List Loc) (ls : Array Slot) (hv : LV T a0 a1 ch w hw gw hg G M y0 y2 y3 nn j y1) (hlx : LX T tk tp tm) (hlg : LG G M ft f3 t k6 k7) (hlk : LK k1 k2 k3) (hr : RM cells slots n j) (hn512 : n < 512) (l_x3 : 0 ≤ x3.toInt) (u_x3 : x3.toInt + 6 ≤ L) (hH : HT D cs A T (ch :: tk :: tp :: tm :: O) ((ch, .inr (0, [.ref y0, .int y1, .ref y2, .ref y3])) :: (tk, .inr (7, [o0, .int k1, .int k2, .int k3, .int k4, .int k5, .int k6, .int k7])) :: (tp, .inl (cs.1, 900, .inl ft)) :: (tm, .inl (cs.2.1, 900, .inl f3)) :: X) H) (hS : va_S A s.heap H locs) (hl : lv_has ls 4 [(0, .ref b), (1, .ref a0), (2, .ref a1), (3, .int x3)]) (kk : ∀ (T : TF) (w hw gw hg G M y0 nn j : Nat) (y1 : Int32) (o0 : Value) (k1 k2 k3 k4 k5 k6 k7 : Int32) (ft f3 : Nat → Int32) (t : Tp) (cells slots : Nat) (H : Heap) (locs : List Loc) (ls : Array Slot), LV T a0 a1 ch w hw gw hg G M y0 y2 y3 nn j y1 → LX T tk tp tm → LG G M ft f3 t k6 k7 → LK k1 k2 k3 → RM cells slots (n + 1) j → HT D cs A T (ch :: tk :: tp :: tm :: O) ((ch, .inr (0, [.ref y0, .int y1, .ref y2, .ref y3])) :: (tk, .inr (7, [o0, .int k1, .int k2, .int k3, .int k4, .int k5, .int k6, .int k7])) :: (tp, .inl (cs.1, 900, .inl ft)) :: (tm, .inl (cs.2.1, 900, .inl f3)) :: X) H → va_S A s.heap H locs → lv_has ls 4 [(0, .ref b), (1, .ref a0), (2, .ref a1), (3, .int x3)] → W p l e room_1 s m #[Value.ref b] below meth c H locs cells slots Q (F0 m 1395 ls [])) : W p l e room_1 s m #[Value.ref b] below meth c H locs cells slots Q (F0 m 212 ls []) := by
  obtain ⟨t_a0, t_w, t_a1, b_hg, hU, hU1, t_ch, t_y0, l_y1, u_y1, t_y2, t_y3, hn, hj⟩ := id hv
  obtain ⟨t_tk, t_tp, t_tm, hU7, hU0, hU9⟩ := id hlx
  obtain ⟨lk1, lk2, lk3, lk4, lk5, lk6⟩ := id hlk
  have hO := okc hO9 t_ch t_tk t_tp t_tm
  obtain ⟨hr1, hr2⟩ := id hr
  have hOX : ∀ o ∈ (ch :: tk :: tp :: tm :: O), ∃ (k : Nat) (e : va_E), ((ch, .inr (0, [.ref y0, .int y1, .ref y2, .ref y3])) :: (tk, .inr (7, [o0, .int k1, .int k2, .int k3, .int k4, .int k5, .int k6, .int k7])) :: (tp, .inl (cs.1, 900, .inl ft)) :: (tm, .inl (cs.2.1, 900, .inl f3)) :: X)[k]? = some (o, e) := ox_c (ox_c (ox_c (ox_c hOX0)))
  have hOXf := hOX
  have b1_w := t_w.2.1
  have b2_w := t_w.2.2
  refine lv_aload_n hx hb dL_law_212 rfl (lv_at hl 1 rfl) ?_
  refine lv_aload_n hx hb dL_law_213 rfl (lv_at hl 0 rfl) ?_
  refine lv_iload_n hx hb dL_law_214 rfl (lv_at hl 3 rfl) ?_
  refine lv_iconst (v := 1) hx hb dL_law_215 (by decide) ?_
  refine lv_iadd hx hb dL_law_216 ?_
  refine lv_topi (fun v216 ev216 => ?_)
  have tv216 : v216.toInt = x3.toInt + (1) := by rw [ev216]; exact add_i rfl (by decide : (1 : Int32).toInt = 1) (by omega) (by omega)
  refine va_sld hx hb hX hbl hbA hS (in_t (by omega) (by omega)) dL_law_217 ?_
  refine lv_topi (fun v217 ev217 => ?_)
  refine lv_aload_n hx hb dL_law_218 rfl (lv_at hl 0 rfl) ?_
  refine lv_iload_n hx hb dL_law_219 rfl (lv_at hl 3 rfl) ?_
  refine lv_iconst (v := 2) hx hb dL_law_220 (by decide) ?_
  refine lv_iadd hx hb dL_law_221 ?_
  refine lv_topi (fun v221 ev221 => ?_)
  have tv221 : v221.toInt = x3.toInt + (2) := by rw [ev221]; exact add_i rfl (by decide : (2 : Int32).toInt = 2) (by omega) (by omega)
  refine va_sld hx hb hX hbl hbA hS (in_t (by omega) (by omega)) dL_law_222 ?_
  refine lv_topi (fun v222 ev222 => ?_)
  refine lv_aload_n hx hb dL_law_223 rfl (lv_at hl 0 rfl) ?_
  refine lv_iload_n hx hb dL_law_224 rfl (lv_at hl 3 rfl) ?_
  refine lv_iconst (v := 3) hx hb dL_law_225 (by decide) ?_
  refine lv_iadd hx hb dL_law_226 ?_
  refine lv_topi (fun v226 ev226 => ?_)
  have tv226 : v226.toInt = x3.toInt + (3) := by rw [ev226]; exact add_i rfl (by decide : (3 : Int32).toInt = 3) (by omega) (by omega)
  refine va_sld hx hb hX hbl hbA hS (in_t (by omega) (by omega)) dL_law_227 ?_
  refine lv_topi (fun v227 ev227 => ?_)
  refine lv_aload_n hx hb dL_law_228 rfl (lv_at hl 0 rfl) ?_
  refine lv_iload_n hx hb dL_law_229 rfl (lv_at hl 3 rfl) ?_
  refine lv_iconst (v := 4) hx hb dL_law_230 (by decide) ?_
  refine lv_iadd hx hb dL_law_231 ?_
  refine lv_topi (fun v231 ev231 => ?_)
  have tv231 : v231.toInt = x3.toInt + (4) := by rw [ev231]; exact add_i rfl (by decide : (4 : Int32).toInt = 4) (by omega) (by omega)
  refine va_sld hx hb hX hbl hbA hS (in_t (by omega) (by omega)) dL_law_232 ?_
  refine lv_topi (fun v232 ev232 => ?_)
  refine lv_aload_n hx hb dL_law_233 rfl (lv_at hl 0 rfl) ?_
  refine lv_iload_n hx hb dL_law_234 rfl (lv_at hl 3 rfl) ?_
  refine lv_iconst (v := 5) hx hb dL_law_235 (by decide) ?_
  refine lv_iadd hx hb dL_law_236 ?_
  refine lv_topi (fun v236 ev236 => ?_)
  have tv236 : v236.toInt = x3.toInt + (5) := by rw [ev236]; exact add_i rfl (by decide : (5 : Int32).toInt = 5) (by omega) (by omega)
  refine va_sld hx hb hX hbl hbA hS (in_t (by omega) (by omega)) dL_law_237 ?_
  refine lv_topi (fun v237 ev237 => ?_)
  have hH : HT D cs A T (tp :: ch :: tk :: tm :: O) ((tp, .inl (cs.1, 900, .inl ft)) :: (ch, .inr (0, [.ref y0, .int y1, .ref y2, .ref y3])) :: (tk, .inr (7, [o0, .int k1, .int k2, .int k3, .int k4, .int k5, .int k6, .int k7])) :: (tm, .inl (cs.2.1, 900, .inl f3)) :: X) H := HT.pm (Y := [(ch, .inr (0, [.ref y0, .int y1, .ref y2, .ref y3])), (tk, .inr (7, [o0, .int k1, .int k2, .int k3, .int k4, .int k5, .int k6, .int k7])), (tp, .inl (cs.1, 900, .inl ft)), (tm, .inl (cs.2.1, 900, .inl f3))]) (Y2 := [(tp, .inl (cs.1, 900, .inl ft)), (ch, .inr (0, [.ref y0, .int y1, .ref y2, .ref y3])), (tk, .inr (7, [o0, .int k1, .int k2, .int k3, .int k4, .int k5, .int k6, .int k7])), (tm, .inl (cs.2.1, 900, .inl f3))]) (X := X) (ym := 4) [2, 0, 1, 3] hH rfl rfl (fun k hk => match k, hk with | 0, _ => rfl | 1, _ => rfl | 2, _ => rfl | 3, _ => rfl | k + 4, h => absurd h (by show ¬ k + 4 < 4; omega)) (by decide) (by intro a ha; simp only [List.mem_cons] at ha ⊢; rcases ha with h | h | h | h | h; exact Or.inr (Or.inl h); exact Or.inr (Or.inr (Or.inl h)); exact Or.inl h; exact Or.inr (Or.inr (Or.inr (Or.inl h))); exact Or.inr (Or.inr (Or.inr (Or.inr (h)))))
  have hO := hO.pm (O' := tp :: ch :: tk :: tm :: O) (by intro a ha; simp only [List.mem_cons] at ha ⊢; rcases ha with h | h | h | h | h; exact Or.inr (Or.inr (Or.inl h)); exact Or.inl h; exact Or.inr (Or.inl h); exact Or.inr (Or.inr (Or.inr (Or.inl h))); exact Or.inr (Or.inr (Or.inr (Or.inr (h)))))
  refine tk_i hH hS hA (tr_V (n := 5) (As := [.int v217, .int v222, .int v227, .int v232, .int v237]) hx hb hml hown hts hkb hH (ox_mem hOXf (by intro a ha; simp only [List.map_cons, List.mem_cons] at ha ⊢; rcases ha with h | h | h | h | h <;> simp [h]) (by intro a ha; simp only [List.map_cons, List.mem_cons] at ha ⊢; rcases ha with h | h | h | h | h <;> simp [h])) hks hE hS hA (s_FW_feed l D cs kf T (ch :: tk :: tm :: O) ((ch, .inr (0, [.ref y0, .int y1, .ref y2, .ref y3])) :: (tk, .inr (7, [o0, .int k1, .int k2, .int k3, .int k4, .int k5, .int k6, .int k7])) :: (tm, .inl (cs.2.1, 900, .inl f3)) :: X) a0 w hw gw ch G v217 v222 v227 v232 v237 ft tp t t_a0 t_w t_ch hU1 List.mem_cons_self t_tp hU0 hlg.1 (hO.sub (by decide))) kw_421 kw_422 kw_423 kw_1 kw_424 (by decide +kernel) ⟨Nat.le_of_ble_eq_true rfl, Nat.le_of_ble_eq_true rfl⟩ (HT.recv (ci := 11) hkb hH t_a0 (hO.no t_a0 (by decide)) rfl) rfl rfl hl.1 (Nat.le_of_ble_eq_true rfl) dL_law_238 ⟨by show cells + 0 ≤ 600000; omega, by show slots + 0 ≤ 7302250; omega⟩) (fun v238 u H locs hz9 hH hS => ?_)
  obtain ⟨T2_238, gq2_238, F238_0, rfl, l_v238, u_v238, x_v2380, x_v2381, x_v2382, x_v2383⟩ := hz9
  have hv := hv.gc x_v2380 x_v2381
  have hlx := hlx.gc x_v2380
  obtain ⟨t_a0, t_w, t_a1, b_hg, hU, hU1, t_ch, t_y0, l_y1, u_y1, t_y2, t_y3, hn, hj⟩ := id hv
  obtain ⟨t_tk, t_tp, t_tm, hU7, hU0, hU9⟩ := id hlx
  have hH : HT D cs A T2_238 (tp :: ch :: tk :: tm :: O) ((tp, .inl (cs.1, 900, .inl F238_0)) :: (ch, .inr (0, [.ref y0, .int y1, .ref y2, .ref y3])) :: (tk, .inr (7, [o0, .int k1, .int k2, .int k3, .int k4, .int k5, .int k6, .int k7])) :: (tm, .inl (cs.2.1, 900, .inl f3)) :: X) H := hH
  refine W.widen (k := cells) (n := slots) (Nat.le_refl _) (Nat.le_refl _) ?_
  have hH : HT D cs A T2_238 (ch :: tk :: tp :: tm :: O) ((ch, .inr (0, [.ref y0, .int y1, .ref y2, .ref y3])) :: (tk, .inr (7, [o0, .int k1, .int k2, .int k3, .int k4, .int k5, .int k6, .int k7])) :: (tp, .inl (cs.1, 900, .inl F238_0)) :: (tm, .inl (cs.2.1, 900, .inl f3)) :: X) H := HT.pm (Y := [(tp, .inl (cs.1, 900, .inl F238_0)), (ch, .inr (0, [.ref y0, .int y1, .ref y2, .ref y3])), (tk, .inr (7, [o0, .int k1, .int k2, .int k3, .int k4, .int k5, .int k6, .int k7])), (tm, .inl (cs.2.1, 900, .inl f3))]) (Y2 := [(ch, .inr (0, [.ref y0, .int y1, .ref y2, .ref y3])), (tk, .inr (7, [o0, .int k1, .int k2, .int k3, .int k4, .int k5, .int k6, .int k7])), (tp, .inl (cs.1, 900, .inl F238_0)), (tm, .inl (cs.2.1, 900, .inl f3))]) (X := X) (ym := 4) [1, 2, 0, 3] hH rfl rfl (fun k hk => match k, hk with | 0, _ => rfl | 1, _ => rfl | 2, _ => rfl | 3, _ => rfl | k + 4, h => absurd h (by show ¬ k + 4 < 4; omega)) (by decide) (by intro a ha; simp only [List.mem_cons] at ha ⊢; rcases ha with h | h | h | h | h; exact Or.inr (Or.inr (Or.inl h)); exact Or.inl h; exact Or.inr (Or.inl h); exact Or.inr (Or.inr (Or.inr (Or.inl h))); exact Or.inr (Or.inr (Or.inr (Or.inr (h)))))
  have hO := okc hO9 t_ch t_tk t_tp t_tm
  refine lv_pop hx hb dL_law_241 rfl ?_
  refine lv_aload_n hx hb dL_law_242 rfl (lv_at hl 2 rfl) ?_
  refine lv_aload_n hx hb dL_law_243 rfl (lv_at hl 0 rfl) ?_
  refine lv_iload_n hx hb dL_law_244 rfl (lv_at hl 3 rfl) ?_
  refine lv_iconst (v := 1) hx hb dL_law_245 (by decide) ?_
  refine lv_iadd hx hb dL_law_246 ?_
  refine lv_topi (fun v246 ev246 => ?_)
  have tv246 : v246.toInt = x3.toInt + (1) := by rw [ev246]; exact add_i rfl (by decide : (1 : Int32).toInt = 1) (by omega) (by omega)
  refine va_sld hx hb hX hbl hbA hS (in_t (by omega) (by omega)) dL_law_247 ?_
  refine lv_topi (fun v247 ev247 => ?_)
  refine lv_aload_n hx hb dL_law_248 rfl (lv_at hl 0 rfl) ?_
  refine lv_iload_n hx hb dL_law_249 rfl (lv_at hl 3 rfl) ?_
  refine lv_iconst (v := 2) hx hb dL_law_250 (by decide) ?_
  refine lv_iadd hx hb dL_law_251 ?_
  refine lv_topi (fun v251 ev251 => ?_)
  have tv251 : v251.toInt = x3.toInt + (2) := by rw [ev251]; exact add_i rfl (by decide : (2 : Int32).toInt = 2) (by omega) (by omega)
  refine va_sld hx hb hX hbl hbA hS (in_t (by omega) (by omega)) dL_law_252 ?_
  refine lv_topi (fun v252 ev252 => ?_)
  refine lv_aload_n hx hb dL_law_253 rfl (lv_at hl 0 rfl) ?_
  refine lv_iload_n hx hb dL_law_254 rfl (lv_at hl 3 rfl) ?_
  refine lv_iconst (v := 3) hx hb dL_law_255 (by decide) ?_
  refine lv_iadd hx hb dL_law_256 ?_
  refine lv_topi (fun v256 ev256 => ?_)
  have tv256 : v256.toInt = x3.toInt + (3) := by rw [ev256]; exact add_i rfl (by decide : (3 : Int32).toInt = 3) (by omega) (by omega)
  refine va_sld hx hb hX hbl hbA hS (in_t (by omega) (by omega)) dL_law_257 ?_
  refine lv_topi (fun v257 ev257 => ?_)
  refine lv_aload_n hx hb dL_law_258 rfl (lv_at hl 0 rfl) ?_
  refine lv_iload_n hx hb dL_law_259 rfl (lv_at hl 3 rfl) ?_
  refine lv_iconst (v := 4) hx hb dL_law_260 (by decide) ?_
  refine lv_iadd hx hb dL_law_261 ?_
  refine lv_topi (fun v261 ev261 => ?_)
  have tv261 : v261.toInt = x3.toInt + (4) := by rw [ev261]; exact add_i rfl (by decide : (4 : Int32).toInt = 4) (by omega) (by omega)
  refine va_sld hx hb hX hbl hbA hS (in_t (by omega) (by omega)) dL_law_262 ?_
  refine lv_topi (fun v262 ev262 => ?_)
  refine lv_aload_n hx hb dL_law_263 rfl (lv_at hl 0 rfl) ?_
  refine lv_iload_n hx hb dL_law_264 rfl (lv_at hl 3 rfl) ?_
  refine lv_iconst (v := 5) hx hb dL_law_265 (by decide) ?_
  refine lv_iadd hx hb dL_law_266 ?_
  refine lv_topi (fun v266 ev266 => ?_)
  have tv266 : v266.toInt = x3.toInt + (5) := by rw [ev266]; exact add_i rfl (by decide : (5 : Int32).toInt = 5) (by omega) (by omega)
  refine va_sld hx hb hX hbl hbA hS (in_t (by omega) (by omega)) dL_law_267 ?_
  refine lv_topi (fun v267 ev267 => ?_)
  have hH : HT D cs A T2_238 (tm :: ch :: tk :: tp :: O) ((tm, .inl (cs.2.1, 900, .inl f3)) :: (ch, .inr (0, [.ref y0, .int y1, .ref y2, .ref y3])) :: (tk, .inr (7, [o0, .int k1, .int k2, .int k3, .int k4, .int k5, .int k6, .int k7])) :: (tp, .inl (cs.1, 900, .inl F238_0)) :: X) H := HT.pm (Y := [(ch, .inr (0, [.ref y0, .int y1, .ref y2, .ref y3])), (tk, .inr (7, [o0, .int k1, .int k2, .int k3, .int k4, .int k5, .int k6, .int k7])), (tp, .inl (cs.1, 900, .inl F238_0)), (tm, .inl (cs.2.1, 900, .inl f3))]) (Y2 := [(tm, .inl (cs.2.1, 900, .inl f3)), (ch, .inr (0, [.ref y0, .int y1, .ref y2, .ref y3])), (tk, .inr (7, [o0, .int k1, .int k2, .int k3, .int k4, .int k5, .int k6, .int k7])), (tp, .inl (cs.1, 900, .inl F238_0))]) (X := X) (ym := 4) [3, 0, 1, 2] hH rfl rfl (fun k hk => match k, hk with | 0, _ => rfl | 1, _ => rfl | 2, _ => rfl | 3, _ => rfl | k + 4, h => absurd h (by show ¬ k + 4 < 4; omega)) (by decide) (by intro a ha; simp only [List.mem_cons] at ha ⊢; rcases ha with h | h | h | h | h; exact Or.inr (Or.inl h); exact Or.inr (Or.inr (Or.inl h)); exact Or.inr (Or.inr (Or.inr (Or.inl h))); exact Or.inl h; exact Or.inr (Or.inr (Or.inr (Or.inr (h)))))
  have hO := hO.pm (O' := tm :: ch :: tk :: tp :: O) (by intro a ha; simp only [List.mem_cons] at ha ⊢; rcases ha with h | h | h | h | h; exact Or.inr (Or.inr (Or.inr (Or.inl h))); exact Or.inl h; exact Or.inr (Or.inl h); exact Or.inr (Or.inr (Or.inl h)); exact Or.inr (Or.inr (Or.inr (Or.inr (h)))))
  refine tk_i hH hS hA (tr_V (n := 5) (As := [.int v247, .int v252, .int v257, .int v262, .int v267]) hx hb hml hown hts hkb hH (ox_mem hOXf (by intro a ha; simp only [List.map_cons, List.mem_cons] at ha ⊢; rcases ha with h | h | h | h | h <;> simp [h]) (by intro a ha; simp only [List.map_cons, List.mem_cons] at ha ⊢; rcases ha with h | h | h | h | h <;> simp [h])) hks hE hS hA (s_M_feed l D cs kf T2_238 (ch :: tk :: tp :: O) ((ch, .inr (0, [.ref y0, .int y1, .ref y2, .ref y3])) :: (tk, .inr (7, [o0, .int k1, .int k2, .int k3, .int k4, .int k5, .int k6, .int k7])) :: (tp, .inl (cs.1, 900, .inl F238_0)) :: X) a1 hg M v247 v252 v257 v262 v267 f3 tm t t_a1 b_hg hU t_tm hU9 hlg.2.1 (hO.sub (by decide))) kw_1333 kw_1334 kw_1335 kw_13 kw_1336 (by decide +kernel) ⟨Nat.le_of_ble_eq_true rfl, Nat.le_of_ble_eq_true rfl⟩ (HT.recv (ci := 12) hkb hH t_a1 (hO.no t_a1 (by decide)) rfl) rfl rfl hl.1 (Nat.le_of_ble_eq_true rfl) dL_law_268 ⟨by show cells + 0 ≤ 600000; omega, by show slots + 0 ≤ 7302250; omega⟩) (fun v268 u H locs hz9 hH hS => ?_)
  obtain ⟨T2_268, mq2_268, F268_0, rfl, l_v268, u_v268, x_v2680, x_v2681, x_v2682, x_v2683⟩ := hz9
  have hv := hv.rm x_v2680 x_v2681 b_hg
  have hlx := hlx.rm x_v2680
  obtain ⟨t_a0, t_w, t_a1, b_hg, hU, hU1, t_ch, t_y0, l_y1, u_y1, t_y2, t_y3, hn, hj⟩ := id hv
  obtain ⟨t_tk, t_tp, t_tm, hU7, hU0, hU9⟩ := id hlx
  have hH : HT D cs A T2_268 (tm :: ch :: tk :: tp :: O) ((tm, .inl (cs.2.1, 900, .inl F268_0)) :: (ch, .inr (0, [.ref y0, .int y1, .ref y2, .ref y3])) :: (tk, .inr (7, [o0, .int k1, .int k2, .int k3, .int k4, .int k5, .int k6, .int k7])) :: (tp, .inl (cs.1, 900, .inl F238_0)) :: X) H := hH
  refine W.widen (k := cells) (n := slots) (Nat.le_refl _) (Nat.le_refl _) ?_
  have hH : HT D cs A T2_268 (ch :: tk :: tp :: tm :: O) ((ch, .inr (0, [.ref y0, .int y1, .ref y2, .ref y3])) :: (tk, .inr (7, [o0, .int k1, .int k2, .int k3, .int k4, .int k5, .int k6, .int k7])) :: (tp, .inl (cs.1, 900, .inl F238_0)) :: (tm, .inl (cs.2.1, 900, .inl F268_0)) :: X) H := HT.pm (Y := [(tm, .inl (cs.2.1, 900, .inl F268_0)), (ch, .inr (0, [.ref y0, .int y1, .ref y2, .ref y3])), (tk, .inr (7, [o0, .int k1, .int k2, .int k3, .int k4, .int k5, .int k6, .int k7])), (tp, .inl (cs.1, 900, .inl F238_0))]) (Y2 := [(ch, .inr (0, [.ref y0, .int y1, .ref y2, .ref y3])), (tk, .inr (7, [o0, .int k1, .int k2, .int k3, .int k4, .int k5, .int k6, .int k7])), (tp, .inl (cs.1, 900, .inl F238_0)), (tm, .inl (cs.2.1, 900, .inl F268_0))]) (X := X) (ym := 4) [1, 2, 3, 0] hH rfl rfl (fun k hk => match k, hk with | 0, _ => rfl | 1, _ => rfl | 2, _ => rfl | 3, _ => rfl | k + 4, h => absurd h (by show ¬ k + 4 < 4; omega)) (by decide) (by intro a ha; simp only [List.mem_cons] at ha ⊢; rcases ha with h | h | h | h | h; exact Or.inr (Or.inr (Or.inr (Or.inl h))); exact Or.inl h; exact Or.inr (Or.inl h); exact Or.inr (Or.inr (Or.inl h)); exact Or.inr (Or.inr (Or.inr (Or.inr (h)))))
  have hO := okc hO9 t_ch t_tk t_tp t_tm
  refine lv_pop hx hb dL_law_271 rfl ?_
  refine lv_goto (tgt := 1395) hx hb dL_law_272 (by decide) ?_
  have qv247 : v247 = v217 := by rw [ev247, ev217, ev246, ev216]
  have qv252 : v252 = v222 := by rw [ev252, ev222, ev251, ev221]
  have qv257 : v257 = v227 := by rw [ev257, ev227, ev256, ev226]
  have qv262 : v262 = v232 := by rw [ev262, ev232, ev261, ev231]
  have qv267 : v267 = v237 := by rw [ev267, ev237, ev266, ev236]
  rw [qv247, qv252, qv257, qv262, qv267] at x_v2683
  obtain ⟨t9, hlg⟩ := hlg.feed x_v2382 x_v2383 x_v2682 x_v2683
  exact kk T2_268 w hw gw hg gq2_238 mq2_268 y0 nn j y1 o0 k1 k2 k3 k4 k5 k6 k7 F238_0 F268_0 t9 _ _ _ _ _ hv hlx hlg hlk hr.s hH hS (lv_sub hl [0, 1, 2, 3] rfl)
set_option maxHeartbeats 4000000 in
set_option maxRecDepth 100000 in
/-- wall -/
theorem lw_c1 {p : Program} {e : Env} {s : State} {m : MethodId} {below : List Frame} {meth : Method} {c : Code} {Q : State → Prop} (l : Launch) (D : va_G) (cs : CS) (kf : KF) {b L : Nat} {xs : Nat → Int32} (hx : p.tables.exec = Jvm.exec) (hb : c.code = code) (hml : c.maxLocals = 4) (hown : s.vm.findClass R_law = some m.cls) (hts : ∀ w ∈ gw, w.before #[Value.ref b] s = true) (hX : va_X b L xs s s.heap) (hbl : b < s.heap.size) (hkb : kb D (tyc cs) s) (hks : kS kf s) {A : Nat → Prop} (hE : kE kf A s s.heap) (hA : ∀ q, s.heap.size ≤ q → A q) (hbA : ¬ A b) (hL : L ≤ 3072) (O : List Nat) (X : va_W) (hOX0 : ∀ o ∈ O, ∃ (k : Nat) (e : va_E), X[k]? = some (o, e)) (hO9 : O = []) (a0 ch a1 y2 y3 tk tp tm : Nat) (T : TF) (w hw gw hg G M y0 nn j : Nat) (y1 : Int32) (o0 : Value) (k1 k2 k3 k4 k5 k6 k7 : Int32) (ft f3 : Nat → Int32) (t : Tp) (x3 : Int32) (n cells slots : Nat) (H : Heap) (locs : List Loc) (ls : Array Slot) (hv : LV T a0 a1 ch w hw gw hg G M y0 y2 y3 nn j y1) (hlx : LX T tk tp tm) (hlg : LG G M ft f3 t k6 k7) (hlk : LK k1 k2 k3) (hr : RM cells slots n j) (hn512 : n < 512) (l_x3 : 0 ≤ x3.toInt) (u_x3 : x3.toInt + 6 ≤ L) (hH : HT D cs A T (ch :: tk :: tp :: tm :: O) ((ch, .inr (0, [.ref y0, .int y1, .ref y2, .ref y3])) :: (tk, .inr (7, [o0, .int k1, .int k2, .int k3, .int k4, .int k5, .int k6, .int k7])) :: (tp, .inl (cs.1, 900, .inl ft)) :: (tm, .inl (cs.2.1, 900, .inl f3)) :: X) H) (hS : va_S A s.heap H locs) (hl : lv_has ls 4 [(0, .ref b), (1, .ref a0), (2, .ref a1), (3, .int x3)]) (kk : ∀ (T : TF) (w hw gw hg G M y0 nn j : Nat) (y1 : Int32) (o0 : Value) (k1 k2 k3 k4 k5 k6 k7 : Int32) (ft f3 : Nat → Int32) (t : Tp) (cells slots : Nat) (H : Heap) (locs : List Loc) (ls : Array Slot), LV T a0 a1 ch w hw gw hg G M y0 y2 y3 nn j y1 → LX T tk tp tm → LG G M ft f3 t k6 k7 → LK k1 k2 k3 → RM cells slots (n + 1) j → HT D cs A T (ch :: tk :: tp :: tm :: O) ((ch, .inr (0, [.ref y0, .int y1, .ref y2, .ref y3])) :: (tk, .inr (7, [o0, .int k1, .int k2, .int k3, .int k4, .int k5, .int k6, .int k7])) :: (tp, .inl (cs.1, 900, .inl ft)) :: (tm, .inl (cs.2.1, 900, .inl f3)) :: X) H → va_S A s.heap H locs → lv_has ls 4 [(0, .ref b), (1, .ref a0), (2, .ref a1), (3, .int x3)] → W p l e room_1 s m #[Value.ref b] below meth c H locs cells slots Q (F0 m 1395 ls [])) : W p l e room_1 s m #[Value.ref b] below meth c H locs cells slots Q (F0 m 275 ls []) := by
  obtain ⟨t_a0, t_w, t_a1, b_hg, hU, hU1, t_ch, t_y0, l_y1, u_y1, t_y2, t_y3, hn, hj⟩ := id hv
  obtain ⟨t_tk, t_tp, t_tm, hU7, hU0, hU9⟩ := id hlx
  obtain ⟨lk1, lk2, lk3, lk4, lk5, lk6⟩ := id hlk
  have hO := okc hO9 t_ch t_tk t_tp t_tm
  obtain ⟨hr1, hr2⟩ := id hr
  have hOX : ∀ o ∈ (ch :: tk :: tp :: tm :: O), ∃ (k : Nat) (e : va_E), ((ch, .inr (0, [.ref y0, .int y1, .ref y2, .ref y3])) :: (tk, .inr (7, [o0, .int k1, .int k2, .int k3, .int k4, .int k5, .int k6, .int k7])) :: (tp, .inl (cs.1, 900, .inl ft)) :: (tm, .inl (cs.2.1, 900, .inl f3)) :: X)[k]? = some (o, e) := ox_c (ox_c (ox_c (ox_c hOX0)))
  have hOXf := hOX
  have b1_w := t_w.2.1
  have b2_w := t_w.2.2
  refine lv_aload_n hx hb dL_law_275 rfl (lv_at hl 1 rfl) ?_
  refine lv_aload_n hx hb dL_law_276 rfl (lv_at hl 0 rfl) ?_
  refine lv_iload_n hx hb dL_law_277 rfl (lv_at hl 3 rfl) ?_
  refine lv_iconst (v := 1) hx hb dL_law_278 (by decide) ?_
  refine lv_iadd hx hb dL_law_279 ?_
  refine lv_topi (fun v279 ev279 => ?_)
  have tv279 : v279.toInt = x3.toInt + (1) := by rw [ev279]; exact add_i rfl (by decide : (1 : Int32).toInt = 1) (by omega) (by omega)
  refine va_sld hx hb hX hbl hbA hS (in_t (by omega) (by omega)) dL_law_280 ?_
  refine lv_topi (fun v280 ev280 => ?_)
  have hH : HT D cs A T (tk :: tp :: ch :: tm :: O) ((tk, .inr (7, [o0, .int k1, .int k2, .int k3, .int k4, .int k5, .int k6, .int k7])) :: (tp, .inl (cs.1, 900, .inl ft)) :: (ch, .inr (0, [.ref y0, .int y1, .ref y2, .ref y3])) :: (tm, .inl (cs.2.1, 900, .inl f3)) :: X) H := HT.pm (Y := [(ch, .inr (0, [.ref y0, .int y1, .ref y2, .ref y3])), (tk, .inr (7, [o0, .int k1, .int k2, .int k3, .int k4, .int k5, .int k6, .int k7])), (tp, .inl (cs.1, 900, .inl ft)), (tm, .inl (cs.2.1, 900, .inl f3))]) (Y2 := [(tk, .inr (7, [o0, .int k1, .int k2, .int k3, .int k4, .int k5, .int k6, .int k7])), (tp, .inl (cs.1, 900, .inl ft)), (ch, .inr (0, [.ref y0, .int y1, .ref y2, .ref y3])), (tm, .inl (cs.2.1, 900, .inl f3))]) (X := X) (ym := 4) [1, 2, 0, 3] hH rfl rfl (fun k hk => match k, hk with | 0, _ => rfl | 1, _ => rfl | 2, _ => rfl | 3, _ => rfl | k + 4, h => absurd h (by show ¬ k + 4 < 4; omega)) (by decide) (by intro a ha; simp only [List.mem_cons] at ha ⊢; rcases ha with h | h | h | h | h; exact Or.inr (Or.inr (Or.inl h)); exact Or.inl h; exact Or.inr (Or.inl h); exact Or.inr (Or.inr (Or.inr (Or.inl h))); exact Or.inr (Or.inr (Or.inr (Or.inr (h)))))
  have hO := hO.pm (O' := tk :: tp :: ch :: tm :: O) (by intro a ha; simp only [List.mem_cons] at ha ⊢; rcases ha with h | h | h | h | h; exact Or.inr (Or.inl h); exact Or.inr (Or.inr (Or.inl h)); exact Or.inl h; exact Or.inr (Or.inr (Or.inr (Or.inl h))); exact Or.inr (Or.inr (Or.inr (Or.inr (h)))))
  refine tk_i hH hS hA (tr_V (n := 1) (As := [.int v280]) hx hb hml hown hts hkb hH (ox_mem hOXf (by intro a ha; simp only [List.map_cons, List.mem_cons] at ha ⊢; rcases ha with h | h | h | h | h <;> simp [h]) (by intro a ha; simp only [List.map_cons, List.mem_cons] at ha ⊢; rcases ha with h | h | h | h | h <;> simp [h])) hks hE hS hA (s_FW_wall l D cs kf T (ch :: tm :: O) ((ch, .inr (0, [.ref y0, .int y1, .ref y2, .ref y3])) :: (tm, .inl (cs.2.1, 900, .inl f3)) :: X) a0 w hw gw ch G v280 o0 k1 k2 k3 k4 k5 k6 k7 ft tk tp t t_a0 t_w t_ch (by omega) (by omega) (by omega) (by omega) (by omega) (by omega) hU1 List.mem_cons_self t_tk hU7 t_tp hU0 hlg.1 (hO.sub (by decide))) kw_429 kw_430 kw_431 kw_1 kw_432 (by decide +kernel) ⟨Nat.le_of_ble_eq_true rfl, Nat.le_of_ble_eq_true rfl⟩ (HT.recv (ci := 11) hkb hH t_a0 (hO.no t_a0 (by decide)) rfl) rfl rfl hl.1 (Nat.le_of_ble_eq_true rfl) dL_law_281 ⟨by show cells + 10 ≤ 600000; omega, by show slots + 1001 ≤ 7302250; omega⟩) (fun v281 u H locs hz9 hH hS => ?_)
  obtain ⟨T2_281, w2_281, h2_281, g2_281, gq2_281, o2_281, n281_0_1, n281_0_2, n281_0_3, n281_0_4, n281_0_5, n281_0_6, n281_0_7, rfl, x_v2810, x_v2811, x_v2812, x_v2813, x_v2814, x_v2815, x_v2816, x_v2817⟩ := hz9
  have hv := hv.wl x_v2810 x_v2811 x_v2812 x_v2813
  have hlx := hlx.wl x_v2810
  have hlk : LK n281_0_1 n281_0_2 n281_0_3 := by have q9 := x_v2816; exact ⟨q9.1, q9.2.1, q9.2.2.1, q9.2.2.2.1, q9.2.2.2.2.1, q9.2.2.2.2.2⟩
  obtain ⟨t_a0, t_w, t_a1, b_hg, hU, hU1, t_ch, t_y0, l_y1, u_y1, t_y2, t_y3, hn, hj⟩ := id hv
  obtain ⟨t_tk, t_tp, t_tm, hU7, hU0, hU9⟩ := id hlx
  have hH : HT D cs A T2_281 (tk :: tp :: ch :: tm :: O) ((tk, .inr (7, [o2_281, .int n281_0_1, .int n281_0_2, .int n281_0_3, .int n281_0_4, .int n281_0_5, .int n281_0_6, .int n281_0_7])) :: (tp, .inl (cs.1, 900, .inl ft)) :: (ch, .inr (0, [.ref y0, .int y1, .ref y2, .ref y3])) :: (tm, .inl (cs.2.1, 900, .inl f3)) :: X) H := hH
  refine W.widen (k := (cells + 10)) (n := (slots + 1001)) (Nat.le_refl _) (Nat.le_refl _) ?_
  have hH : HT D cs A T2_281 (ch :: tk :: tp :: tm :: O) ((ch, .inr (0, [.ref y0, .int y1, .ref y2, .ref y3])) :: (tk, .inr (7, [o2_281, .int n281_0_1, .int n281_0_2, .int n281_0_3, .int n281_0_4, .int n281_0_5, .int n281_0_6, .int n281_0_7])) :: (tp, .inl (cs.1, 900, .inl ft)) :: (tm, .inl (cs.2.1, 900, .inl f3)) :: X) H := HT.pm (Y := [(tk, .inr (7, [o2_281, .int n281_0_1, .int n281_0_2, .int n281_0_3, .int n281_0_4, .int n281_0_5, .int n281_0_6, .int n281_0_7])), (tp, .inl (cs.1, 900, .inl ft)), (ch, .inr (0, [.ref y0, .int y1, .ref y2, .ref y3])), (tm, .inl (cs.2.1, 900, .inl f3))]) (Y2 := [(ch, .inr (0, [.ref y0, .int y1, .ref y2, .ref y3])), (tk, .inr (7, [o2_281, .int n281_0_1, .int n281_0_2, .int n281_0_3, .int n281_0_4, .int n281_0_5, .int n281_0_6, .int n281_0_7])), (tp, .inl (cs.1, 900, .inl ft)), (tm, .inl (cs.2.1, 900, .inl f3))]) (X := X) (ym := 4) [2, 0, 1, 3] hH rfl rfl (fun k hk => match k, hk with | 0, _ => rfl | 1, _ => rfl | 2, _ => rfl | 3, _ => rfl | k + 4, h => absurd h (by show ¬ k + 4 < 4; omega)) (by decide) (by intro a ha; simp only [List.mem_cons] at ha ⊢; rcases ha with h | h | h | h | h; exact Or.inr (Or.inl h); exact Or.inr (Or.inr (Or.inl h)); exact Or.inl h; exact Or.inr (Or.inr (Or.inr (Or.inl h))); exact Or.inr (Or.inr (Or.inr (Or.inr (h)))))
  have hO := okc hO9 t_ch t_tk t_tp t_tm
  refine lv_aload_n hx hb dL_law_284 rfl (lv_at hl 2 rfl) ?_
  refine lv_aload_n hx hb dL_law_285 rfl (lv_at hl 0 rfl) ?_
  refine lv_iload_n hx hb dL_law_286 rfl (lv_at hl 3 rfl) ?_
  refine lv_iconst (v := 1) hx hb dL_law_287 (by decide) ?_
  refine lv_iadd hx hb dL_law_288 ?_
  refine lv_topi (fun v288 ev288 => ?_)
  have tv288 : v288.toInt = x3.toInt + (1) := by rw [ev288]; exact add_i rfl (by decide : (1 : Int32).toInt = 1) (by omega) (by omega)
  refine va_sld hx hb hX hbl hbA hS (in_t (by omega) (by omega)) dL_law_289 ?_
  refine lv_topi (fun v289 ev289 => ?_)
  have hH : HT D cs A T2_281 (tm :: ch :: tk :: tp :: O) ((tm, .inl (cs.2.1, 900, .inl f3)) :: (ch, .inr (0, [.ref y0, .int y1, .ref y2, .ref y3])) :: (tk, .inr (7, [o2_281, .int n281_0_1, .int n281_0_2, .int n281_0_3, .int n281_0_4, .int n281_0_5, .int n281_0_6, .int n281_0_7])) :: (tp, .inl (cs.1, 900, .inl ft)) :: X) H := HT.pm (Y := [(ch, .inr (0, [.ref y0, .int y1, .ref y2, .ref y3])), (tk, .inr (7, [o2_281, .int n281_0_1, .int n281_0_2, .int n281_0_3, .int n281_0_4, .int n281_0_5, .int n281_0_6, .int n281_0_7])), (tp, .inl (cs.1, 900, .inl ft)), (tm, .inl (cs.2.1, 900, .inl f3))]) (Y2 := [(tm, .inl (cs.2.1, 900, .inl f3)), (ch, .inr (0, [.ref y0, .int y1, .ref y2, .ref y3])), (tk, .inr (7, [o2_281, .int n281_0_1, .int n281_0_2, .int n281_0_3, .int n281_0_4, .int n281_0_5, .int n281_0_6, .int n281_0_7])), (tp, .inl (cs.1, 900, .inl ft))]) (X := X) (ym := 4) [3, 0, 1, 2] hH rfl rfl (fun k hk => match k, hk with | 0, _ => rfl | 1, _ => rfl | 2, _ => rfl | 3, _ => rfl | k + 4, h => absurd h (by show ¬ k + 4 < 4; omega)) (by decide) (by intro a ha; simp only [List.mem_cons] at ha ⊢; rcases ha with h | h | h | h | h; exact Or.inr (Or.inl h); exact Or.inr (Or.inr (Or.inl h)); exact Or.inr (Or.inr (Or.inr (Or.inl h))); exact Or.inl h; exact Or.inr (Or.inr (Or.inr (Or.inr (h)))))
  have hO := hO.pm (O' := tm :: ch :: tk :: tp :: O) (by intro a ha; simp only [List.mem_cons] at ha ⊢; rcases ha with h | h | h | h | h; exact Or.inr (Or.inr (Or.inr (Or.inl h))); exact Or.inl h; exact Or.inr (Or.inl h); exact Or.inr (Or.inr (Or.inl h)); exact Or.inr (Or.inr (Or.inr (Or.inr (h)))))
  refine tk_i hH hS hA (tr_V (n := 1) (As := [.int v289]) hx hb hml hown hts hkb hH (ox_mem hOXf (by intro a ha; simp only [List.map_cons, List.mem_cons] at ha ⊢; rcases ha with h | h | h | h | h <;> simp [h]) (by intro a ha; simp only [List.map_cons, List.mem_cons] at ha ⊢; rcases ha with h | h | h | h | h <;> simp [h])) hks hE hS hA (s_M_wall l D cs kf T2_281 (ch :: tk :: tp :: O) ((ch, .inr (0, [.ref y0, .int y1, .ref y2, .ref y3])) :: (tk, .inr (7, [o2_281, .int n281_0_1, .int n281_0_2, .int n281_0_3, .int n281_0_4, .int n281_0_5, .int n281_0_6, .int n281_0_7])) :: (tp, .inl (cs.1, 900, .inl ft)) :: X) a1 hg M v289 f3 tm t t_a1 b_hg hU t_tm hU9 hlg.2.1 (hO.sub (by decide))) kw_1337 kw_1338 kw_1339 kw_13 kw_1340 (by decide +kernel) ⟨Nat.le_of_ble_eq_true rfl, Nat.le_of_ble_eq_true rfl⟩ (HT.recv (ci := 12) hkb hH t_a1 (hO.no t_a1 (by decide)) rfl) rfl rfl hl.1 (Nat.le_of_ble_eq_true rfl) dL_law_290 ⟨by show (cells + 10) + 0 ≤ 600000; omega, by show (slots + 1001) + 0 ≤ 7302250; omega⟩) (fun v290 u H locs hz9 hH hS => ?_)
  obtain ⟨T2_290, hg2_290, mq2_290, rfl, x_v2900, x_v2901, x_v2902, x_v2903⟩ := hz9
  have hv := hv.rm x_v2900 x_v2901 x_v2902
  have hlx := hlx.rm x_v2900
  obtain ⟨t_a0, t_w, t_a1, b_hg, hU, hU1, t_ch, t_y0, l_y1, u_y1, t_y2, t_y3, hn, hj⟩ := id hv
  obtain ⟨t_tk, t_tp, t_tm, hU7, hU0, hU9⟩ := id hlx
  have hH : HT D cs A T2_290 (tm :: ch :: tk :: tp :: O) ((tm, .inl (cs.2.1, 900, .inl f3)) :: (ch, .inr (0, [.ref y0, .int y1, .ref y2, .ref y3])) :: (tk, .inr (7, [o2_281, .int n281_0_1, .int n281_0_2, .int n281_0_3, .int n281_0_4, .int n281_0_5, .int n281_0_6, .int n281_0_7])) :: (tp, .inl (cs.1, 900, .inl ft)) :: X) H := hH
  refine W.widen (k := (cells + 10)) (n := (slots + 1001)) (Nat.le_refl _) (Nat.le_refl _) ?_
  have hH : HT D cs A T2_290 (ch :: tk :: tp :: tm :: O) ((ch, .inr (0, [.ref y0, .int y1, .ref y2, .ref y3])) :: (tk, .inr (7, [o2_281, .int n281_0_1, .int n281_0_2, .int n281_0_3, .int n281_0_4, .int n281_0_5, .int n281_0_6, .int n281_0_7])) :: (tp, .inl (cs.1, 900, .inl ft)) :: (tm, .inl (cs.2.1, 900, .inl f3)) :: X) H := HT.pm (Y := [(tm, .inl (cs.2.1, 900, .inl f3)), (ch, .inr (0, [.ref y0, .int y1, .ref y2, .ref y3])), (tk, .inr (7, [o2_281, .int n281_0_1, .int n281_0_2, .int n281_0_3, .int n281_0_4, .int n281_0_5, .int n281_0_6, .int n281_0_7])), (tp, .inl (cs.1, 900, .inl ft))]) (Y2 := [(ch, .inr (0, [.ref y0, .int y1, .ref y2, .ref y3])), (tk, .inr (7, [o2_281, .int n281_0_1, .int n281_0_2, .int n281_0_3, .int n281_0_4, .int n281_0_5, .int n281_0_6, .int n281_0_7])), (tp, .inl (cs.1, 900, .inl ft)), (tm, .inl (cs.2.1, 900, .inl f3))]) (X := X) (ym := 4) [1, 2, 3, 0] hH rfl rfl (fun k hk => match k, hk with | 0, _ => rfl | 1, _ => rfl | 2, _ => rfl | 3, _ => rfl | k + 4, h => absurd h (by show ¬ k + 4 < 4; omega)) (by decide) (by intro a ha; simp only [List.mem_cons] at ha ⊢; rcases ha with h | h | h | h | h; exact Or.inr (Or.inr (Or.inr (Or.inl h))); exact Or.inl h; exact Or.inr (Or.inl h); exact Or.inr (Or.inr (Or.inl h)); exact Or.inr (Or.inr (Or.inr (Or.inr (h)))))
  have hO := okc hO9 t_ch t_tk t_tp t_tm
  have qv289 : v289 = v280 := by rw [ev289, ev280, ev288, ev279]
  rw [qv289] at x_v2903
  refine lv_icmp_eq (tgt := 1395) hx hb dL_law_293 (by decide) (fun _ => ?_) (fun q9 => absurd (hlg.wallr x_v2817 x_v2903) q9)
  have hlg := hlg.wall x_v2814 x_v2815 x_v2903
  exact kk T2_290 w2_281 h2_281 g2_281 hg2_290 gq2_281 mq2_290 y0 nn j y1 o2_281 n281_0_1 n281_0_2 n281_0_3 n281_0_4 n281_0_5 n281_0_6 n281_0_7 ft f3 t _ _ _ _ _ hv hlx hlg hlk hr.w hH hS (lv_sub hl [0, 1, 2, 3] rfl)
set_option maxHeartbeats 4000000 in
set_option maxRecDepth 100000 in
/-- fault -/
theorem lw_c2 {p : Program} {e : Env} {s : State} {m : MethodId} {below : List Frame} {meth : Method} {c : Code} {Q : State → Prop} (l : Launch) (D : va_G) (cs : CS) (kf : KF) {b L : Nat} {xs : Nat → Int32} (hx : p.tables.exec = Jvm.exec) (hb : c.code = code) (hml : c.maxLocals = 4) (hown : s.vm.findClass R_law = some m.cls) (hts : ∀ w ∈ gw, w.before #[Value.ref b] s = true) (hX : va_X b L xs s s.heap) (hbl : b < s.heap.size) (hkb : kb D (tyc cs) s) (hks : kS kf s) {A : Nat → Prop} (hE : kE kf A s s.heap) (hA : ∀ q, s.heap.size ≤ q → A q) (hbA : ¬ A b) (hL : L ≤ 3072) (O : List Nat) (X : va_W) (hOX0 : ∀ o ∈ O, ∃ (k : Nat) (e : va_E), X[k]? = some (o, e)) (hO9 : O = []) (a0 ch a1 y2 y3 tk tp tm : Nat) (T : TF) (w hw gw hg G M y0 nn j : Nat) (y1 : Int32) (o0 : Value) (k1 k2 k3 k4 k5 k6 k7 : Int32) (ft f3 : Nat → Int32) (t : Tp) (x3 : Int32) (n cells slots : Nat) (H : Heap) (locs : List Loc) (ls : Array Slot) (hv : LV T a0 a1 ch w hw gw hg G M y0 y2 y3 nn j y1) (hlx : LX T tk tp tm) (hlg : LG G M ft f3 t k6 k7) (hlk : LK k1 k2 k3) (hr : RM cells slots n j) (hn512 : n < 512) (l_x3 : 0 ≤ x3.toInt) (u_x3 : x3.toInt + 6 ≤ L) (hH : HT D cs A T (ch :: tk :: tp :: tm :: O) ((ch, .inr (0, [.ref y0, .int y1, .ref y2, .ref y3])) :: (tk, .inr (7, [o0, .int k1, .int k2, .int k3, .int k4, .int k5, .int k6, .int k7])) :: (tp, .inl (cs.1, 900, .inl ft)) :: (tm, .inl (cs.2.1, 900, .inl f3)) :: X) H) (hS : va_S A s.heap H locs) (hl : lv_has ls 4 [(0, .ref b), (1, .ref a0), (2, .ref a1), (3, .int x3)]) (kk : ∀ (T : TF) (w hw gw hg G M y0 nn j : Nat) (y1 : Int32) (o0 : Value) (k1 k2 k3 k4 k5 k6 k7 : Int32) (ft f3 : Nat → Int32) (t : Tp) (cells slots : Nat) (H : Heap) (locs : List Loc) (ls : Array Slot), LV T a0 a1 ch w hw gw hg G M y0 y2 y3 nn j y1 → LX T tk tp tm → LG G M ft f3 t k6 k7 → LK k1 k2 k3 → RM cells slots (n + 1) j → HT D cs A T (ch :: tk :: tp :: tm :: O) ((ch, .inr (0, [.ref y0, .int y1, .ref y2, .ref y3])) :: (tk, .inr (7, [o0, .int k1, .int k2, .int k3, .int k4, .int k5, .int k6, .int k7])) :: (tp, .inl (cs.1, 900, .inl ft)) :: (tm, .inl (cs.2.1, 900, .inl f3)) :: X) H → va_S A s.heap H locs → lv_has ls 4 [(0, .ref b), (1, .ref a0), (2, .ref a1), (3, .int x3)] → W p l e room_1 s m #[Value.ref b] below meth c H locs cells slots Q (F0 m 1395 ls [])) : W p l e room_1 s m #[Value.ref b] below meth c H locs cells slots Q (F0 m 298 ls []) := by
  obtain ⟨t_a0, t_w, t_a1, b_hg, hU, hU1, t_ch, t_y0, l_y1, u_y1, t_y2, t_y3, hn, hj⟩ := id hv
  obtain ⟨t_tk, t_tp, t_tm, hU7, hU0, hU9⟩ := id hlx
  obtain ⟨lk1, lk2, lk3, lk4, lk5, lk6⟩ := id hlk
  have hO := okc hO9 t_ch t_tk t_tp t_tm
  obtain ⟨hr1, hr2⟩ := id hr
  have hOX : ∀ o ∈ (ch :: tk :: tp :: tm :: O), ∃ (k : Nat) (e : va_E), ((ch, .inr (0, [.ref y0, .int y1, .ref y2, .ref y3])) :: (tk, .inr (7, [o0, .int k1, .int k2, .int k3, .int k4, .int k5, .int k6, .int k7])) :: (tp, .inl (cs.1, 900, .inl ft)) :: (tm, .inl (cs.2.1, 900, .inl f3)) :: X)[k]? = some (o, e) := ox_c (ox_c (ox_c (ox_c hOX0)))
  have hOXf := hOX
  have b1_w := t_w.2.1
  have b2_w := t_w.2.2
  refine lv_aload_n hx hb dL_law_298 rfl (lv_at hl 1 rfl) ?_
  refine lv_aload_n hx hb dL_law_299 rfl (lv_at hl 0 rfl) ?_
  refine lv_iload_n hx hb dL_law_300 rfl (lv_at hl 3 rfl) ?_
  refine lv_iconst (v := 1) hx hb dL_law_301 (by decide) ?_
  refine lv_iadd hx hb dL_law_302 ?_
  refine lv_topi (fun v302 ev302 => ?_)
  have tv302 : v302.toInt = x3.toInt + (1) := by rw [ev302]; exact add_i rfl (by decide : (1 : Int32).toInt = 1) (by omega) (by omega)
  refine va_sld hx hb hX hbl hbA hS (in_t (by omega) (by omega)) dL_law_303 ?_
  refine lv_topi (fun v303 ev303 => ?_)
  have hH : HT D cs A T (tk :: ch :: tp :: tm :: O) ((tk, .inr (7, [o0, .int k1, .int k2, .int k3, .int k4, .int k5, .int k6, .int k7])) :: (ch, .inr (0, [.ref y0, .int y1, .ref y2, .ref y3])) :: (tp, .inl (cs.1, 900, .inl ft)) :: (tm, .inl (cs.2.1, 900, .inl f3)) :: X) H := HT.pm (Y := [(ch, .inr (0, [.ref y0, .int y1, .ref y2, .ref y3])), (tk, .inr (7, [o0, .int k1, .int k2, .int k3, .int k4, .int k5, .int k6, .int k7])), (tp, .inl (cs.1, 900, .inl ft)), (tm, .inl (cs.2.1, 900, .inl f3))]) (Y2 := [(tk, .inr (7, [o0, .int k1, .int k2, .int k3, .int k4, .int k5, .int k6, .int k7])), (ch, .inr (0, [.ref y0, .int y1, .ref y2, .ref y3])), (tp, .inl (cs.1, 900, .inl ft)), (tm, .inl (cs.2.1, 900, .inl f3))]) (X := X) (ym := 4) [1, 0, 2, 3] hH rfl rfl (fun k hk => match k, hk with | 0, _ => rfl | 1, _ => rfl | 2, _ => rfl | 3, _ => rfl | k + 4, h => absurd h (by show ¬ k + 4 < 4; omega)) (by decide) (by intro a ha; simp only [List.mem_cons] at ha ⊢; rcases ha with h | h | h | h | h; exact Or.inr (Or.inl h); exact Or.inl h; exact Or.inr (Or.inr (Or.inl h)); exact Or.inr (Or.inr (Or.inr (Or.inl h))); exact Or.inr (Or.inr (Or.inr (Or.inr (h)))))
  have hO := hO.pm (O' := tk :: ch :: tp :: tm :: O) (by intro a ha; simp only [List.mem_cons] at ha ⊢; rcases ha with h | h | h | h | h; exact Or.inr (Or.inl h); exact Or.inl h; exact Or.inr (Or.inr (Or.inl h)); exact Or.inr (Or.inr (Or.inr (Or.inl h))); exact Or.inr (Or.inr (Or.inr (Or.inr (h)))))
  refine tk_i hH hS hA (tr_V (n := 1) (As := [.int v303]) hx hb hml hown hts hkb hH (ox_mem hOXf (by intro a ha; simp only [List.map_cons, List.mem_cons] at ha ⊢; rcases ha with h | h | h | h | h <;> simp [h]) (by intro a ha; simp only [List.map_cons, List.mem_cons] at ha ⊢; rcases ha with h | h | h | h | h <;> simp [h])) hks hE hS hA (s_FW_fault l D cs kf T (ch :: tp :: tm :: O) ((ch, .inr (0, [.ref y0, .int y1, .ref y2, .ref y3])) :: (tp, .inl (cs.1, 900, .inl ft)) :: (tm, .inl (cs.2.1, 900, .inl f3)) :: X) a0 w hw gw ch G v303 o0 (.int k1) (.int k2) (.int k3) (.int k4) (.int k5) k6 k7 tk t_a0 t_w t_ch t_tk hU7 (hO.sub (by decide))) kw_762 kw_763 kw_764 kw_1 kw_765 (by decide +kernel) ⟨Nat.le_of_ble_eq_true rfl, Nat.le_of_ble_eq_true rfl⟩ (HT.recv (ci := 11) hkb hH t_a0 (hO.no t_a0 (by decide)) rfl) rfl rfl hl.1 (Nat.le_of_ble_eq_true rfl) dL_law_304 ⟨by show cells + 0 ≤ 600000; omega, by show slots + 0 ≤ 7302250; omega⟩) (fun v304 u H locs hz9 hH hS => ?_)
  obtain ⟨rfl, x_v3040⟩ := hz9
  have hH : HT D cs A T (tk :: ch :: tp :: tm :: O) ((tk, .inr (7, [o0, .int k1, .int k2, .int k3, .int k4, .int k5, .int k6, .int k7])) :: (ch, .inr (0, [.ref y0, .int y1, .ref y2, .ref y3])) :: (tp, .inl (cs.1, 900, .inl ft)) :: (tm, .inl (cs.2.1, 900, .inl f3)) :: X) H := hH
  refine W.widen (k := cells) (n := slots) (Nat.le_refl _) (Nat.le_refl _) ?_
  have hH : HT D cs A T (ch :: tk :: tp :: tm :: O) ((ch, .inr (0, [.ref y0, .int y1, .ref y2, .ref y3])) :: (tk, .inr (7, [o0, .int k1, .int k2, .int k3, .int k4, .int k5, .int k6, .int k7])) :: (tp, .inl (cs.1, 900, .inl ft)) :: (tm, .inl (cs.2.1, 900, .inl f3)) :: X) H := HT.pm (Y := [(tk, .inr (7, [o0, .int k1, .int k2, .int k3, .int k4, .int k5, .int k6, .int k7])), (ch, .inr (0, [.ref y0, .int y1, .ref y2, .ref y3])), (tp, .inl (cs.1, 900, .inl ft)), (tm, .inl (cs.2.1, 900, .inl f3))]) (Y2 := [(ch, .inr (0, [.ref y0, .int y1, .ref y2, .ref y3])), (tk, .inr (7, [o0, .int k1, .int k2, .int k3, .int k4, .int k5, .int k6, .int k7])), (tp, .inl (cs.1, 900, .inl ft)), (tm, .inl (cs.2.1, 900, .inl f3))]) (X := X) (ym := 4) [1, 0, 2, 3] hH rfl rfl (fun k hk => match k, hk with | 0, _ => rfl | 1, _ => rfl | 2, _ => rfl | 3, _ => rfl | k + 4, h => absurd h (by show ¬ k + 4 < 4; omega)) (by decide) (by intro a ha; simp only [List.mem_cons] at ha ⊢; rcases ha with h | h | h | h | h; exact Or.inr (Or.inl h); exact Or.inl h; exact Or.inr (Or.inr (Or.inl h)); exact Or.inr (Or.inr (Or.inr (Or.inl h))); exact Or.inr (Or.inr (Or.inr (Or.inr (h)))))
  have hO := hO.pm (O' := ch :: tk :: tp :: tm :: O) (by intro a ha; simp only [List.mem_cons] at ha ⊢; rcases ha with h | h | h | h | h; exact Or.inr (Or.inl h); exact Or.inl h; exact Or.inr (Or.inr (Or.inl h)); exact Or.inr (Or.inr (Or.inr (Or.inl h))); exact Or.inr (Or.inr (Or.inr (Or.inr (h)))))
  refine lv_pop hx hb dL_law_307 rfl ?_
  refine lv_aload_n hx hb dL_law_308 rfl (lv_at hl 2 rfl) ?_
  refine lv_aload_n hx hb dL_law_309 rfl (lv_at hl 0 rfl) ?_
  refine lv_iload_n hx hb dL_law_310 rfl (lv_at hl 3 rfl) ?_
  refine lv_iconst (v := 1) hx hb dL_law_311 (by decide) ?_
  refine lv_iadd hx hb dL_law_312 ?_
  refine lv_topi (fun v312 ev312 => ?_)
  have tv312 : v312.toInt = x3.toInt + (1) := by rw [ev312]; exact add_i rfl (by decide : (1 : Int32).toInt = 1) (by omega) (by omega)
  refine va_sld hx hb hX hbl hbA hS (in_t (by omega) (by omega)) dL_law_313 ?_
  refine lv_topi (fun v313 ev313 => ?_)
  refine tk_i hH hS hA (tr_V (n := 1) (As := [.int v313]) hx hb hml hown hts hkb hH (ox_map hOX rfl) hks hE hS hA (s_M_fault l D cs kf T (ch :: tk :: tp :: tm :: O) ((ch, .inr (0, [.ref y0, .int y1, .ref y2, .ref y3])) :: (tk, .inr (7, [o0, .int k1, .int k2, .int k3, .int k4, .int k5, .int k6, .int k7])) :: (tp, .inl (cs.1, 900, .inl ft)) :: (tm, .inl (cs.2.1, 900, .inl f3)) :: X) a1 hg M v313 t_a1 b_hg (hO.sub (by decide))) kw_1446 kw_1447 kw_1448 kw_13 kw_1449 (by decide +kernel) ⟨Nat.le_of_ble_eq_true rfl, Nat.le_of_ble_eq_true rfl⟩ (HT.recv (ci := 12) hkb hH t_a1 (hO.no t_a1 (by decide)) rfl) rfl rfl hl.1 (Nat.le_of_ble_eq_true rfl) dL_law_314 ⟨by show cells + 0 ≤ 600000; omega, by show slots + 0 ≤ 7302250; omega⟩) (fun v314 u H locs hz9 hH hS => ?_)
  obtain ⟨rfl, l_v314, x_v3140⟩ := hz9
  have hH : HT D cs A T (ch :: tk :: tp :: tm :: O) ((ch, .inr (0, [.ref y0, .int y1, .ref y2, .ref y3])) :: (tk, .inr (7, [o0, .int k1, .int k2, .int k3, .int k4, .int k5, .int k6, .int k7])) :: (tp, .inl (cs.1, 900, .inl ft)) :: (tm, .inl (cs.2.1, 900, .inl f3)) :: X) H := hH
  refine W.widen (k := cells) (n := slots) (Nat.le_refl _) (Nat.le_refl _) ?_
  refine lv_pop hx hb dL_law_317 rfl ?_
  refine lv_goto (tgt := 1395) hx hb dL_law_318 (by decide) ?_
  exact kk T w hw gw hg G M y0 nn j y1 o0 k1 k2 k3 k4 k5 k6 k7 ft f3 t _ _ _ _ _ hv hlx hlg hlk hr.s hH hS (lv_sub hl [0, 1, 2, 3] rfl)
set_option maxHeartbeats 4000000 in
set_option maxRecDepth 100000 in
/-- hold -/
theorem lw_c3 {p : Program} {e : Env} {s : State} {m : MethodId} {below : List Frame} {meth : Method} {c : Code} {Q : State → Prop} (l : Launch) (D : va_G) (cs : CS) (kf : KF) {b L : Nat} {xs : Nat → Int32} (hx : p.tables.exec = Jvm.exec) (hb : c.code = code) (hml : c.maxLocals = 4) (hown : s.vm.findClass R_law = some m.cls) (hts : ∀ w ∈ gw, w.before #[Value.ref b] s = true) (hX : va_X b L xs s s.heap) (hbl : b < s.heap.size) (hkb : kb D (tyc cs) s) (hks : kS kf s) {A : Nat → Prop} (hE : kE kf A s s.heap) (hA : ∀ q, s.heap.size ≤ q → A q) (hbA : ¬ A b) (hL : L ≤ 3072) (O : List Nat) (X : va_W) (hOX0 : ∀ o ∈ O, ∃ (k : Nat) (e : va_E), X[k]? = some (o, e)) (hO9 : O = []) (a0 ch a1 y2 y3 tk tp tm : Nat) (T : TF) (w hw gw hg G M y0 nn j : Nat) (y1 : Int32) (o0 : Value) (k1 k2 k3 k4 k5 k6 k7 : Int32) (ft f3 : Nat → Int32) (t : Tp) (x3 : Int32) (n cells slots : Nat) (H : Heap) (locs : List Loc) (ls : Array Slot) (hv : LV T a0 a1 ch w hw gw hg G M y0 y2 y3 nn j y1) (hlx : LX T tk tp tm) (hlg : LG G M ft f3 t k6 k7) (hlk : LK k1 k2 k3) (hr : RM cells slots n j) (hn512 : n < 512) (l_x3 : 0 ≤ x3.toInt) (u_x3 : x3.toInt + 6 ≤ L) (hH : HT D cs A T (ch :: tk :: tp :: tm :: O) ((ch, .inr (0, [.ref y0, .int y1, .ref y2, .ref y3])) :: (tk, .inr (7, [o0, .int k1, .int k2, .int k3, .int k4, .int k5, .int k6, .int k7])) :: (tp, .inl (cs.1, 900, .inl ft)) :: (tm, .inl (cs.2.1, 900, .inl f3)) :: X) H) (hS : va_S A s.heap H locs) (hl : lv_has ls 4 [(0, .ref b), (1, .ref a0), (2, .ref a1), (3, .int x3)]) (kk : ∀ (T : TF) (w hw gw hg G M y0 nn j : Nat) (y1 : Int32) (o0 : Value) (k1 k2 k3 k4 k5 k6 k7 : Int32) (ft f3 : Nat → Int32) (t : Tp) (cells slots : Nat) (H : Heap) (locs : List Loc) (ls : Array Slot), LV T a0 a1 ch w hw gw hg G M y0 y2 y3 nn j y1 → LX T tk tp tm → LG G M ft f3 t k6 k7 → LK k1 k2 k3 → RM cells slots (n + 1) j → HT D cs A T (ch :: tk :: tp :: tm :: O) ((ch, .inr (0, [.ref y0, .int y1, .ref y2, .ref y3])) :: (tk, .inr (7, [o0, .int k1, .int k2, .int k3, .int k4, .int k5, .int k6, .int k7])) :: (tp, .inl (cs.1, 900, .inl ft)) :: (tm, .inl (cs.2.1, 900, .inl f3)) :: X) H → va_S A s.heap H locs → lv_has ls 4 [(0, .ref b), (1, .ref a0), (2, .ref a1), (3, .int x3)] → W p l e room_1 s m #[Value.ref b] below meth c H locs cells slots Q (F0 m 1395 ls [])) : W p l e room_1 s m #[Value.ref b] below meth c H locs cells slots Q (F0 m 321 ls []) := by
  obtain ⟨t_a0, t_w, t_a1, b_hg, hU, hU1, t_ch, t_y0, l_y1, u_y1, t_y2, t_y3, hn, hj⟩ := id hv
  obtain ⟨t_tk, t_tp, t_tm, hU7, hU0, hU9⟩ := id hlx
  obtain ⟨lk1, lk2, lk3, lk4, lk5, lk6⟩ := id hlk
  have hO := okc hO9 t_ch t_tk t_tp t_tm
  obtain ⟨hr1, hr2⟩ := id hr
  have hOX : ∀ o ∈ (ch :: tk :: tp :: tm :: O), ∃ (k : Nat) (e : va_E), ((ch, .inr (0, [.ref y0, .int y1, .ref y2, .ref y3])) :: (tk, .inr (7, [o0, .int k1, .int k2, .int k3, .int k4, .int k5, .int k6, .int k7])) :: (tp, .inl (cs.1, 900, .inl ft)) :: (tm, .inl (cs.2.1, 900, .inl f3)) :: X)[k]? = some (o, e) := ox_c (ox_c (ox_c (ox_c hOX0)))
  have hOXf := hOX
  have b1_w := t_w.2.1
  have b2_w := t_w.2.2
  refine lv_aload_n hx hb dL_law_321 rfl (lv_at hl 1 rfl) ?_
  refine lv_aload_n hx hb dL_law_322 rfl (lv_at hl 0 rfl) ?_
  refine lv_iload_n hx hb dL_law_323 rfl (lv_at hl 3 rfl) ?_
  refine lv_iconst (v := 1) hx hb dL_law_324 (by decide) ?_
  refine lv_iadd hx hb dL_law_325 ?_
  refine lv_topi (fun v325 ev325 => ?_)
  have tv325 : v325.toInt = x3.toInt + (1) := by rw [ev325]; exact add_i rfl (by decide : (1 : Int32).toInt = 1) (by omega) (by omega)
  refine va_sld hx hb hX hbl hbA hS (in_t (by omega) (by omega)) dL_law_326 ?_
  refine lv_topi (fun v326 ev326 => ?_)
  refine lv_aload_n hx hb dL_law_327 rfl (lv_at hl 0 rfl) ?_
  refine lv_iload_n hx hb dL_law_328 rfl (lv_at hl 3 rfl) ?_
  refine lv_iconst (v := 2) hx hb dL_law_329 (by decide) ?_
  refine lv_iadd hx hb dL_law_330 ?_
  refine lv_topi (fun v330 ev330 => ?_)
  have tv330 : v330.toInt = x3.toInt + (2) := by rw [ev330]; exact add_i rfl (by decide : (2 : Int32).toInt = 2) (by omega) (by omega)
  refine va_sld hx hb hX hbl hbA hS (in_t (by omega) (by omega)) dL_law_331 ?_
  refine lv_topi (fun v331 ev331 => ?_)
  refine tk_i hH hS hA (tr_V (n := 2) (As := [.int v326, .int v331]) hx hb hml hown hts hkb hH (ox_map hOX rfl) hks hE hS hA (s_FW_hold l D cs kf T (ch :: tk :: tp :: tm :: O) ((ch, .inr (0, [.ref y0, .int y1, .ref y2, .ref y3])) :: (tk, .inr (7, [o0, .int k1, .int k2, .int k3, .int k4, .int k5, .int k6, .int k7])) :: (tp, .inl (cs.1, 900, .inl ft)) :: (tm, .inl (cs.2.1, 900, .inl f3)) :: X) a0 w hw gw ch G v326 v331 t_a0 t_w t_ch (hO.sub (by decide))) kw_766 kw_767 kw_768 kw_1 kw_769 (by decide +kernel) ⟨Nat.le_of_ble_eq_true rfl, Nat.le_of_ble_eq_true rfl⟩ (HT.recv (ci := 11) hkb hH t_a0 (hO.no t_a0 (by decide)) rfl) rfl rfl hl.1 (Nat.le_of_ble_eq_true rfl) dL_law_332 ⟨by show cells + 0 ≤ 600000; omega, by show slots + 0 ≤ 7302250; omega⟩) (fun v332 u H locs hz9 hH hS => ?_)
  have hz9 : u = (T, ch :: tk :: tp :: tm :: O, (ch, .inr (0, [.ref y0, .int y1, .ref y2, .ref y3])) :: (tk, .inr (7, [o0, .int k1, .int k2, .int k3, .int k4, .int k5, .int k6, .int k7])) :: (tp, .inl (cs.1, 900, .inl ft)) :: (tm, .inl (cs.2.1, 900, .inl f3)) :: X) := hz9
  subst hz9
  have hH : HT D cs A T (ch :: tk :: tp :: tm :: O) ((ch, .inr (0, [.ref y0, .int y1, .ref y2, .ref y3])) :: (tk, .inr (7, [o0, .int k1, .int k2, .int k3, .int k4, .int k5, .int k6, .int k7])) :: (tp, .inl (cs.1, 900, .inl ft)) :: (tm, .inl (cs.2.1, 900, .inl f3)) :: X) H := hH
  refine W.widen (k := cells) (n := slots) (Nat.le_refl _) (Nat.le_refl _) ?_
  refine lv_pop hx hb dL_law_335 rfl ?_
  refine lv_aload_n hx hb dL_law_336 rfl (lv_at hl 2 rfl) ?_
  refine lv_aload_n hx hb dL_law_337 rfl (lv_at hl 0 rfl) ?_
  refine lv_iload_n hx hb dL_law_338 rfl (lv_at hl 3 rfl) ?_
  refine lv_iconst (v := 1) hx hb dL_law_339 (by decide) ?_
  refine lv_iadd hx hb dL_law_340 ?_
  refine lv_topi (fun v340 ev340 => ?_)
  have tv340 : v340.toInt = x3.toInt + (1) := by rw [ev340]; exact add_i rfl (by decide : (1 : Int32).toInt = 1) (by omega) (by omega)
  refine va_sld hx hb hX hbl hbA hS (in_t (by omega) (by omega)) dL_law_341 ?_
  refine lv_topi (fun v341 ev341 => ?_)
  refine lv_aload_n hx hb dL_law_342 rfl (lv_at hl 0 rfl) ?_
  refine lv_iload_n hx hb dL_law_343 rfl (lv_at hl 3 rfl) ?_
  refine lv_iconst (v := 2) hx hb dL_law_344 (by decide) ?_
  refine lv_iadd hx hb dL_law_345 ?_
  refine lv_topi (fun v345 ev345 => ?_)
  have tv345 : v345.toInt = x3.toInt + (2) := by rw [ev345]; exact add_i rfl (by decide : (2 : Int32).toInt = 2) (by omega) (by omega)
  refine va_sld hx hb hX hbl hbA hS (in_t (by omega) (by omega)) dL_law_346 ?_
  refine lv_topi (fun v346 ev346 => ?_)
  refine tk_i hH hS hA (tr_V (n := 2) (As := [.int v341, .int v346]) hx hb hml hown hts hkb hH (ox_map hOX rfl) hks hE hS hA (s_M_hold l D cs kf T (ch :: tk :: tp :: tm :: O) ((ch, .inr (0, [.ref y0, .int y1, .ref y2, .ref y3])) :: (tk, .inr (7, [o0, .int k1, .int k2, .int k3, .int k4, .int k5, .int k6, .int k7])) :: (tp, .inl (cs.1, 900, .inl ft)) :: (tm, .inl (cs.2.1, 900, .inl f3)) :: X) a1 hg M v341 v346 t_a1 b_hg (hO.sub (by decide))) kw_1450 kw_1451 kw_1452 kw_13 kw_1453 (by decide +kernel) ⟨Nat.le_of_ble_eq_true rfl, Nat.le_of_ble_eq_true rfl⟩ (HT.recv (ci := 12) hkb hH t_a1 (hO.no t_a1 (by decide)) rfl) rfl rfl hl.1 (Nat.le_of_ble_eq_true rfl) dL_law_347 ⟨by show cells + 0 ≤ 600000; omega, by show slots + 0 ≤ 7302250; omega⟩) (fun v347 u H locs hz9 hH hS => ?_)
  have hz9 : u = (T, ch :: tk :: tp :: tm :: O, (ch, .inr (0, [.ref y0, .int y1, .ref y2, .ref y3])) :: (tk, .inr (7, [o0, .int k1, .int k2, .int k3, .int k4, .int k5, .int k6, .int k7])) :: (tp, .inl (cs.1, 900, .inl ft)) :: (tm, .inl (cs.2.1, 900, .inl f3)) :: X) := hz9
  subst hz9
  have hH : HT D cs A T (ch :: tk :: tp :: tm :: O) ((ch, .inr (0, [.ref y0, .int y1, .ref y2, .ref y3])) :: (tk, .inr (7, [o0, .int k1, .int k2, .int k3, .int k4, .int k5, .int k6, .int k7])) :: (tp, .inl (cs.1, 900, .inl ft)) :: (tm, .inl (cs.2.1, 900, .inl f3)) :: X) H := hH
  refine W.widen (k := cells) (n := slots) (Nat.le_refl _) (Nat.le_refl _) ?_
  refine lv_pop hx hb dL_law_350 rfl ?_
  refine lv_goto (tgt := 1395) hx hb dL_law_351 (by decide) ?_
  exact kk T w hw gw hg G M y0 nn j y1 o0 k1 k2 k3 k4 k5 k6 k7 ft f3 t _ _ _ _ _ hv hlx hlg hlk hr.s hH hS (lv_sub hl [0, 1, 2, 3] rfl)
set_option maxHeartbeats 4000000 in
set_option maxRecDepth 100000 in
/-- guide -/
theorem lw_c4 {p : Program} {e : Env} {s : State} {m : MethodId} {below : List Frame} {meth : Method} {c : Code} {Q : State → Prop} (l : Launch) (D : va_G) (cs : CS) (kf : KF) {b L : Nat} {xs : Nat → Int32} (hx : p.tables.exec = Jvm.exec) (hb : c.code = code) (hml : c.maxLocals = 4) (hown : s.vm.findClass R_law = some m.cls) (hts : ∀ w ∈ gw, w.before #[Value.ref b] s = true) (hX : va_X b L xs s s.heap) (hbl : b < s.heap.size) (hkb : kb D (tyc cs) s) (hks : kS kf s) {A : Nat → Prop} (hE : kE kf A s s.heap) (hA : ∀ q, s.heap.size ≤ q → A q) (hbA : ¬ A b) (hL : L ≤ 3072) (O : List Nat) (X : va_W) (hOX0 : ∀ o ∈ O, ∃ (k : Nat) (e : va_E), X[k]? = some (o, e)) (hO9 : O = []) (a0 ch a1 y2 y3 tk tp tm : Nat) (T : TF) (w hw gw hg G M y0 nn j : Nat) (y1 : Int32) (o0 : Value) (k1 k2 k3 k4 k5 k6 k7 : Int32) (ft f3 : Nat → Int32) (t : Tp) (x3 : Int32) (n cells slots : Nat) (H : Heap) (locs : List Loc) (ls : Array Slot) (hv : LV T a0 a1 ch w hw gw hg G M y0 y2 y3 nn j y1) (hlx : LX T tk tp tm) (hlg : LG G M ft f3 t k6 k7) (hlk : LK k1 k2 k3) (hr : RM cells slots n j) (hn512 : n < 512) (l_x3 : 0 ≤ x3.toInt) (u_x3 : x3.toInt + 6 ≤ L) (hH : HT D cs A T (ch :: tk :: tp :: tm :: O) ((ch, .inr (0, [.ref y0, .int y1, .ref y2, .ref y3])) :: (tk, .inr (7, [o0, .int k1, .int k2, .int k3, .int k4, .int k5, .int k6, .int k7])) :: (tp, .inl (cs.1, 900, .inl ft)) :: (tm, .inl (cs.2.1, 900, .inl f3)) :: X) H) (hS : va_S A s.heap H locs) (hl : lv_has ls 4 [(0, .ref b), (1, .ref a0), (2, .ref a1), (3, .int x3)]) (kk : ∀ (T : TF) (w hw gw hg G M y0 nn j : Nat) (y1 : Int32) (o0 : Value) (k1 k2 k3 k4 k5 k6 k7 : Int32) (ft f3 : Nat → Int32) (t : Tp) (cells slots : Nat) (H : Heap) (locs : List Loc) (ls : Array Slot), LV T a0 a1 ch w hw gw hg G M y0 y2 y3 nn j y1 → LX T tk tp tm → LG G M ft f3 t k6 k7 → LK k1 k2 k3 → RM cells slots (n + 1) j → HT D cs A T (ch :: tk :: tp :: tm :: O) ((ch, .inr (0, [.ref y0, .int y1, .ref y2, .ref y3])) :: (tk, .inr (7, [o0, .int k1, .int k2, .int k3, .int k4, .int k5, .int k6, .int k7])) :: (tp, .inl (cs.1, 900, .inl ft)) :: (tm, .inl (cs.2.1, 900, .inl f3)) :: X) H → va_S A s.heap H locs → lv_has ls 4 [(0, .ref b), (1, .ref a0), (2, .ref a1), (3, .int x3)] → W p l e room_1 s m #[Value.ref b] below meth c H locs cells slots Q (F0 m 1395 ls [])) : W p l e room_1 s m #[Value.ref b] below meth c H locs cells slots Q (F0 m 354 ls []) := by
  obtain ⟨t_a0, t_w, t_a1, b_hg, hU, hU1, t_ch, t_y0, l_y1, u_y1, t_y2, t_y3, hn, hj⟩ := id hv
  obtain ⟨t_tk, t_tp, t_tm, hU7, hU0, hU9⟩ := id hlx
  obtain ⟨lk1, lk2, lk3, lk4, lk5, lk6⟩ := id hlk
  have hO := okc hO9 t_ch t_tk t_tp t_tm
  obtain ⟨hr1, hr2⟩ := id hr
  have hOX : ∀ o ∈ (ch :: tk :: tp :: tm :: O), ∃ (k : Nat) (e : va_E), ((ch, .inr (0, [.ref y0, .int y1, .ref y2, .ref y3])) :: (tk, .inr (7, [o0, .int k1, .int k2, .int k3, .int k4, .int k5, .int k6, .int k7])) :: (tp, .inl (cs.1, 900, .inl ft)) :: (tm, .inl (cs.2.1, 900, .inl f3)) :: X)[k]? = some (o, e) := ox_c (ox_c (ox_c (ox_c hOX0)))
  have hOXf := hOX
  have b1_w := t_w.2.1
  have b2_w := t_w.2.2
  refine lv_aload_n hx hb dL_law_354 rfl (lv_at hl 1 rfl) ?_
  refine lv_aload_n hx hb dL_law_355 rfl (lv_at hl 0 rfl) ?_
  refine lv_iload_n hx hb dL_law_356 rfl (lv_at hl 3 rfl) ?_
  refine lv_iconst (v := 1) hx hb dL_law_357 (by decide) ?_
  refine lv_iadd hx hb dL_law_358 ?_
  refine lv_topi (fun v358 ev358 => ?_)
  have tv358 : v358.toInt = x3.toInt + (1) := by rw [ev358]; exact add_i rfl (by decide : (1 : Int32).toInt = 1) (by omega) (by omega)
  refine va_sld hx hb hX hbl hbA hS (in_t (by omega) (by omega)) dL_law_359 ?_
  refine lv_topi (fun v359 ev359 => ?_)
  refine lv_aload_n hx hb dL_law_360 rfl (lv_at hl 0 rfl) ?_
  refine lv_iload_n hx hb dL_law_361 rfl (lv_at hl 3 rfl) ?_
  refine lv_iconst (v := 2) hx hb dL_law_362 (by decide) ?_
  refine lv_iadd hx hb dL_law_363 ?_
  refine lv_topi (fun v363 ev363 => ?_)
  have tv363 : v363.toInt = x3.toInt + (2) := by rw [ev363]; exact add_i rfl (by decide : (2 : Int32).toInt = 2) (by omega) (by omega)
  refine va_sld hx hb hX hbl hbA hS (in_t (by omega) (by omega)) dL_law_364 ?_
  refine lv_topi (fun v364 ev364 => ?_)
  refine tk_i hH hS hA (tr_V (n := 2) (As := [.int v359, .int v364]) hx hb hml hown hts hkb hH (ox_map hOX rfl) hks hE hS hA (s_FW_guide l D cs kf T (ch :: tk :: tp :: tm :: O) ((ch, .inr (0, [.ref y0, .int y1, .ref y2, .ref y3])) :: (tk, .inr (7, [o0, .int k1, .int k2, .int k3, .int k4, .int k5, .int k6, .int k7])) :: (tp, .inl (cs.1, 900, .inl ft)) :: (tm, .inl (cs.2.1, 900, .inl f3)) :: X) a0 w hw gw ch G v359 v364 t_a0 t_w t_ch (hO.sub (by decide))) kw_790 kw_791 kw_792 kw_1 kw_793 (by decide +kernel) ⟨Nat.le_of_ble_eq_true rfl, Nat.le_of_ble_eq_true rfl⟩ (HT.recv (ci := 11) hkb hH t_a0 (hO.no t_a0 (by decide)) rfl) rfl rfl hl.1 (Nat.le_of_ble_eq_true rfl) dL_law_365 ⟨by show cells + 0 ≤ 600000; omega, by show slots + 0 ≤ 7302250; omega⟩) (fun v365 u H locs hz9 hH hS => ?_)
  have hz9 : u = (T, ch :: tk :: tp :: tm :: O, (ch, .inr (0, [.ref y0, .int y1, .ref y2, .ref y3])) :: (tk, .inr (7, [o0, .int k1, .int k2, .int k3, .int k4, .int k5, .int k6, .int k7])) :: (tp, .inl (cs.1, 900, .inl ft)) :: (tm, .inl (cs.2.1, 900, .inl f3)) :: X) := hz9
  subst hz9
  have hH : HT D cs A T (ch :: tk :: tp :: tm :: O) ((ch, .inr (0, [.ref y0, .int y1, .ref y2, .ref y3])) :: (tk, .inr (7, [o0, .int k1, .int k2, .int k3, .int k4, .int k5, .int k6, .int k7])) :: (tp, .inl (cs.1, 900, .inl ft)) :: (tm, .inl (cs.2.1, 900, .inl f3)) :: X) H := hH
  refine W.widen (k := cells) (n := slots) (Nat.le_refl _) (Nat.le_refl _) ?_
  refine lv_pop hx hb dL_law_368 rfl ?_
  refine lv_aload_n hx hb dL_law_369 rfl (lv_at hl 2 rfl) ?_
  refine lv_aload_n hx hb dL_law_370 rfl (lv_at hl 0 rfl) ?_
  refine lv_iload_n hx hb dL_law_371 rfl (lv_at hl 3 rfl) ?_
  refine lv_iconst (v := 1) hx hb dL_law_372 (by decide) ?_
  refine lv_iadd hx hb dL_law_373 ?_
  refine lv_topi (fun v373 ev373 => ?_)
  have tv373 : v373.toInt = x3.toInt + (1) := by rw [ev373]; exact add_i rfl (by decide : (1 : Int32).toInt = 1) (by omega) (by omega)
  refine va_sld hx hb hX hbl hbA hS (in_t (by omega) (by omega)) dL_law_374 ?_
  refine lv_topi (fun v374 ev374 => ?_)
  refine lv_aload_n hx hb dL_law_375 rfl (lv_at hl 0 rfl) ?_
  refine lv_iload_n hx hb dL_law_376 rfl (lv_at hl 3 rfl) ?_
  refine lv_iconst (v := 2) hx hb dL_law_377 (by decide) ?_
  refine lv_iadd hx hb dL_law_378 ?_
  refine lv_topi (fun v378 ev378 => ?_)
  have tv378 : v378.toInt = x3.toInt + (2) := by rw [ev378]; exact add_i rfl (by decide : (2 : Int32).toInt = 2) (by omega) (by omega)
  refine va_sld hx hb hX hbl hbA hS (in_t (by omega) (by omega)) dL_law_379 ?_
  refine lv_topi (fun v379 ev379 => ?_)
  refine tk_i hH hS hA (tr_V (n := 2) (As := [.int v374, .int v379]) hx hb hml hown hts hkb hH (ox_map hOX rfl) hks hE hS hA (s_M_guide l D cs kf T (ch :: tk :: tp :: tm :: O) ((ch, .inr (0, [.ref y0, .int y1, .ref y2, .ref y3])) :: (tk, .inr (7, [o0, .int k1, .int k2, .int k3, .int k4, .int k5, .int k6, .int k7])) :: (tp, .inl (cs.1, 900, .inl ft)) :: (tm, .inl (cs.2.1, 900, .inl f3)) :: X) a1 hg M v374 v379 t_a1 b_hg (hO.sub (by decide))) kw_1466 kw_1467 kw_1468 kw_13 kw_1469 (by decide +kernel) ⟨Nat.le_of_ble_eq_true rfl, Nat.le_of_ble_eq_true rfl⟩ (HT.recv (ci := 12) hkb hH t_a1 (hO.no t_a1 (by decide)) rfl) rfl rfl hl.1 (Nat.le_of_ble_eq_true rfl) dL_law_380 ⟨by show cells + 0 ≤ 600000; omega, by show slots + 0 ≤ 7302250; omega⟩) (fun v380 u H locs hz9 hH hS => ?_)
  have hz9 : u = (T, ch :: tk :: tp :: tm :: O, (ch, .inr (0, [.ref y0, .int y1, .ref y2, .ref y3])) :: (tk, .inr (7, [o0, .int k1, .int k2, .int k3, .int k4, .int k5, .int k6, .int k7])) :: (tp, .inl (cs.1, 900, .inl ft)) :: (tm, .inl (cs.2.1, 900, .inl f3)) :: X) := hz9
  subst hz9
  have hH : HT D cs A T (ch :: tk :: tp :: tm :: O) ((ch, .inr (0, [.ref y0, .int y1, .ref y2, .ref y3])) :: (tk, .inr (7, [o0, .int k1, .int k2, .int k3, .int k4, .int k5, .int k6, .int k7])) :: (tp, .inl (cs.1, 900, .inl ft)) :: (tm, .inl (cs.2.1, 900, .inl f3)) :: X) H := hH
  refine W.widen (k := cells) (n := slots) (Nat.le_refl _) (Nat.le_refl _) ?_
  refine lv_pop hx hb dL_law_383 rfl ?_
  refine lv_goto (tgt := 1395) hx hb dL_law_384 (by decide) ?_
  exact kk T w hw gw hg G M y0 nn j y1 o0 k1 k2 k3 k4 k5 k6 k7 ft f3 t _ _ _ _ _ hv hlx hlg hlk hr.s hH hS (lv_sub hl [0, 1, 2, 3] rfl)
set_option maxHeartbeats 4000000 in
set_option maxRecDepth 100000 in
/-- steps -/
theorem lw_c5 {p : Program} {e : Env} {s : State} {m : MethodId} {below : List Frame} {meth : Method} {c : Code} {Q : State → Prop} (l : Launch) (D : va_G) (cs : CS) (kf : KF) {b L : Nat} {xs : Nat → Int32} (hx : p.tables.exec = Jvm.exec) (hb : c.code = code) (hml : c.maxLocals = 4) (hown : s.vm.findClass R_law = some m.cls) (hts : ∀ w ∈ gw, w.before #[Value.ref b] s = true) (hX : va_X b L xs s s.heap) (hbl : b < s.heap.size) (hkb : kb D (tyc cs) s) (hks : kS kf s) {A : Nat → Prop} (hE : kE kf A s s.heap) (hA : ∀ q, s.heap.size ≤ q → A q) (hbA : ¬ A b) (hL : L ≤ 3072) (O : List Nat) (X : va_W) (hOX0 : ∀ o ∈ O, ∃ (k : Nat) (e : va_E), X[k]? = some (o, e)) (hO9 : O = []) (a0 ch a1 y2 y3 tk tp tm : Nat) (T : TF) (w hw gw hg G M y0 nn j : Nat) (y1 : Int32) (o0 : Value) (k1 k2 k3 k4 k5 k6 k7 : Int32) (ft f3 : Nat → Int32) (t : Tp) (x3 : Int32) (n cells slots : Nat) (H : Heap) (locs : List Loc) (ls : Array Slot) (hv : LV T a0 a1 ch w hw gw hg G M y0 y2 y3 nn j y1) (hlx : LX T tk tp tm) (hlg : LG G M ft f3 t k6 k7) (hlk : LK k1 k2 k3) (hr : RM cells slots n j) (hn512 : n < 512) (l_x3 : 0 ≤ x3.toInt) (u_x3 : x3.toInt + 6 ≤ L) (hH : HT D cs A T (ch :: tk :: tp :: tm :: O) ((ch, .inr (0, [.ref y0, .int y1, .ref y2, .ref y3])) :: (tk, .inr (7, [o0, .int k1, .int k2, .int k3, .int k4, .int k5, .int k6, .int k7])) :: (tp, .inl (cs.1, 900, .inl ft)) :: (tm, .inl (cs.2.1, 900, .inl f3)) :: X) H) (hS : va_S A s.heap H locs) (hl : lv_has ls 4 [(0, .ref b), (1, .ref a0), (2, .ref a1), (3, .int x3)]) (kk : ∀ (T : TF) (w hw gw hg G M y0 nn j : Nat) (y1 : Int32) (o0 : Value) (k1 k2 k3 k4 k5 k6 k7 : Int32) (ft f3 : Nat → Int32) (t : Tp) (cells slots : Nat) (H : Heap) (locs : List Loc) (ls : Array Slot), LV T a0 a1 ch w hw gw hg G M y0 y2 y3 nn j y1 → LX T tk tp tm → LG G M ft f3 t k6 k7 → LK k1 k2 k3 → RM cells slots (n + 1) j → HT D cs A T (ch :: tk :: tp :: tm :: O) ((ch, .inr (0, [.ref y0, .int y1, .ref y2, .ref y3])) :: (tk, .inr (7, [o0, .int k1, .int k2, .int k3, .int k4, .int k5, .int k6, .int k7])) :: (tp, .inl (cs.1, 900, .inl ft)) :: (tm, .inl (cs.2.1, 900, .inl f3)) :: X) H → va_S A s.heap H locs → lv_has ls 4 [(0, .ref b), (1, .ref a0), (2, .ref a1), (3, .int x3)] → W p l e room_1 s m #[Value.ref b] below meth c H locs cells slots Q (F0 m 1395 ls [])) : W p l e room_1 s m #[Value.ref b] below meth c H locs cells slots Q (F0 m 387 ls []) := by
  obtain ⟨t_a0, t_w, t_a1, b_hg, hU, hU1, t_ch, t_y0, l_y1, u_y1, t_y2, t_y3, hn, hj⟩ := id hv
  obtain ⟨t_tk, t_tp, t_tm, hU7, hU0, hU9⟩ := id hlx
  obtain ⟨lk1, lk2, lk3, lk4, lk5, lk6⟩ := id hlk
  have hO := okc hO9 t_ch t_tk t_tp t_tm
  obtain ⟨hr1, hr2⟩ := id hr
  have hOX : ∀ o ∈ (ch :: tk :: tp :: tm :: O), ∃ (k : Nat) (e : va_E), ((ch, .inr (0, [.ref y0, .int y1, .ref y2, .ref y3])) :: (tk, .inr (7, [o0, .int k1, .int k2, .int k3, .int k4, .int k5, .int k6, .int k7])) :: (tp, .inl (cs.1, 900, .inl ft)) :: (tm, .inl (cs.2.1, 900, .inl f3)) :: X)[k]? = some (o, e) := ox_c (ox_c (ox_c (ox_c hOX0)))
  have hOXf := hOX
  have b1_w := t_w.2.1
  have b2_w := t_w.2.2
  refine lv_aload_n hx hb dL_law_387 rfl (lv_at hl 1 rfl) ?_
  refine lv_aload_n hx hb dL_law_388 rfl (lv_at hl 0 rfl) ?_
  refine lv_iload_n hx hb dL_law_389 rfl (lv_at hl 3 rfl) ?_
  refine lv_iconst (v := 1) hx hb dL_law_390 (by decide) ?_
  refine lv_iadd hx hb dL_law_391 ?_
  refine lv_topi (fun v391 ev391 => ?_)
  have tv391 : v391.toInt = x3.toInt + (1) := by rw [ev391]; exact add_i rfl (by decide : (1 : Int32).toInt = 1) (by omega) (by omega)
  refine va_sld hx hb hX hbl hbA hS (in_t (by omega) (by omega)) dL_law_392 ?_
  refine lv_topi (fun v392 ev392 => ?_)
  refine lv_aload_n hx hb dL_law_393 rfl (lv_at hl 0 rfl) ?_
  refine lv_iload_n hx hb dL_law_394 rfl (lv_at hl 3 rfl) ?_
  refine lv_iconst (v := 2) hx hb dL_law_395 (by decide) ?_
  refine lv_iadd hx hb dL_law_396 ?_
  refine lv_topi (fun v396 ev396 => ?_)
  have tv396 : v396.toInt = x3.toInt + (2) := by rw [ev396]; exact add_i rfl (by decide : (2 : Int32).toInt = 2) (by omega) (by omega)
  refine va_sld hx hb hX hbl hbA hS (in_t (by omega) (by omega)) dL_law_397 ?_
  refine lv_topi (fun v397 ev397 => ?_)
  refine lv_aload_n hx hb dL_law_398 rfl (lv_at hl 0 rfl) ?_
  refine lv_iload_n hx hb dL_law_399 rfl (lv_at hl 3 rfl) ?_
  refine lv_iconst (v := 3) hx hb dL_law_400 (by decide) ?_
  refine lv_iadd hx hb dL_law_401 ?_
  refine lv_topi (fun v401 ev401 => ?_)
  have tv401 : v401.toInt = x3.toInt + (3) := by rw [ev401]; exact add_i rfl (by decide : (3 : Int32).toInt = 3) (by omega) (by omega)
  refine va_sld hx hb hX hbl hbA hS (in_t (by omega) (by omega)) dL_law_402 ?_
  refine lv_topi (fun v402 ev402 => ?_)
  refine tk_i hH hS hA (tr_V (n := 3) (As := [.int v392, .int v397, .int v402]) hx hb hml hown hts hkb hH (ox_map hOX rfl) hks hE hS hA (s_FW_steps l D cs kf T (ch :: tk :: tp :: tm :: O) ((ch, .inr (0, [.ref y0, .int y1, .ref y2, .ref y3])) :: (tk, .inr (7, [o0, .int k1, .int k2, .int k3, .int k4, .int k5, .int k6, .int k7])) :: (tp, .inl (cs.1, 900, .inl ft)) :: (tm, .inl (cs.2.1, 900, .inl f3)) :: X) a0 w hw gw ch G v392 v397 v402 t_a0 t_w t_ch (hO.sub (by decide))) kw_803 kw_804 kw_805 kw_1 kw_806 (by decide +kernel) ⟨Nat.le_of_ble_eq_true rfl, Nat.le_of_ble_eq_true rfl⟩ (HT.recv (ci := 11) hkb hH t_a0 (hO.no t_a0 (by decide)) rfl) rfl rfl hl.1 (Nat.le_of_ble_eq_true rfl) dL_law_403 ⟨by show cells + 0 ≤ 600000; omega, by show slots + 0 ≤ 7302250; omega⟩) (fun v403 u H locs hz9 hH hS => ?_)
  obtain ⟨rfl, l_v403, u_v403⟩ := hz9
  have hH : HT D cs A T (ch :: tk :: tp :: tm :: O) ((ch, .inr (0, [.ref y0, .int y1, .ref y2, .ref y3])) :: (tk, .inr (7, [o0, .int k1, .int k2, .int k3, .int k4, .int k5, .int k6, .int k7])) :: (tp, .inl (cs.1, 900, .inl ft)) :: (tm, .inl (cs.2.1, 900, .inl f3)) :: X) H := hH
  refine W.widen (k := cells) (n := slots) (Nat.le_refl _) (Nat.le_refl _) ?_
  refine lv_pop hx hb dL_law_406 rfl ?_
  refine lv_aload_n hx hb dL_law_407 rfl (lv_at hl 2 rfl) ?_
  refine lv_aload_n hx hb dL_law_408 rfl (lv_at hl 0 rfl) ?_
  refine lv_iload_n hx hb dL_law_409 rfl (lv_at hl 3 rfl) ?_
  refine lv_iconst (v := 1) hx hb dL_law_410 (by decide) ?_
  refine lv_iadd hx hb dL_law_411 ?_
  refine lv_topi (fun v411 ev411 => ?_)
  have tv411 : v411.toInt = x3.toInt + (1) := by rw [ev411]; exact add_i rfl (by decide : (1 : Int32).toInt = 1) (by omega) (by omega)
  refine va_sld hx hb hX hbl hbA hS (in_t (by omega) (by omega)) dL_law_412 ?_
  refine lv_topi (fun v412 ev412 => ?_)
  refine lv_aload_n hx hb dL_law_413 rfl (lv_at hl 0 rfl) ?_
  refine lv_iload_n hx hb dL_law_414 rfl (lv_at hl 3 rfl) ?_
  refine lv_iconst (v := 2) hx hb dL_law_415 (by decide) ?_
  refine lv_iadd hx hb dL_law_416 ?_
  refine lv_topi (fun v416 ev416 => ?_)
  have tv416 : v416.toInt = x3.toInt + (2) := by rw [ev416]; exact add_i rfl (by decide : (2 : Int32).toInt = 2) (by omega) (by omega)
  refine va_sld hx hb hX hbl hbA hS (in_t (by omega) (by omega)) dL_law_417 ?_
  refine lv_topi (fun v417 ev417 => ?_)
  refine lv_aload_n hx hb dL_law_418 rfl (lv_at hl 0 rfl) ?_
  refine lv_iload_n hx hb dL_law_419 rfl (lv_at hl 3 rfl) ?_
  refine lv_iconst (v := 3) hx hb dL_law_420 (by decide) ?_
  refine lv_iadd hx hb dL_law_421 ?_
  refine lv_topi (fun v421 ev421 => ?_)
  have tv421 : v421.toInt = x3.toInt + (3) := by rw [ev421]; exact add_i rfl (by decide : (3 : Int32).toInt = 3) (by omega) (by omega)
  refine va_sld hx hb hX hbl hbA hS (in_t (by omega) (by omega)) dL_law_422 ?_
  refine lv_topi (fun v422 ev422 => ?_)
  refine tk_i hH hS hA (tr_V (n := 3) (As := [.int v412, .int v417, .int v422]) hx hb hml hown hts hkb hH (ox_map hOX rfl) hks hE hS hA (s_M_steps l D cs kf T (ch :: tk :: tp :: tm :: O) ((ch, .inr (0, [.ref y0, .int y1, .ref y2, .ref y3])) :: (tk, .inr (7, [o0, .int k1, .int k2, .int k3, .int k4, .int k5, .int k6, .int k7])) :: (tp, .inl (cs.1, 900, .inl ft)) :: (tm, .inl (cs.2.1, 900, .inl f3)) :: X) a1 hg M v412 v417 v422 t_a1 b_hg (hO.sub (by decide))) kw_1478 kw_1479 kw_1480 kw_13 kw_1481 (by decide +kernel) ⟨Nat.le_of_ble_eq_true rfl, Nat.le_of_ble_eq_true rfl⟩ (HT.recv (ci := 12) hkb hH t_a1 (hO.no t_a1 (by decide)) rfl) rfl rfl hl.1 (Nat.le_of_ble_eq_true rfl) dL_law_423 ⟨by show cells + 0 ≤ 600000; omega, by show slots + 0 ≤ 7302250; omega⟩) (fun v423 u H locs hz9 hH hS => ?_)
  obtain ⟨rfl, l_v423, u_v423⟩ := hz9
  have hH : HT D cs A T (ch :: tk :: tp :: tm :: O) ((ch, .inr (0, [.ref y0, .int y1, .ref y2, .ref y3])) :: (tk, .inr (7, [o0, .int k1, .int k2, .int k3, .int k4, .int k5, .int k6, .int k7])) :: (tp, .inl (cs.1, 900, .inl ft)) :: (tm, .inl (cs.2.1, 900, .inl f3)) :: X) H := hH
  refine W.widen (k := cells) (n := slots) (Nat.le_refl _) (Nat.le_refl _) ?_
  refine lv_pop hx hb dL_law_426 rfl ?_
  refine lv_goto (tgt := 1395) hx hb dL_law_427 (by decide) ?_
  exact kk T w hw gw hg G M y0 nn j y1 o0 k1 k2 k3 k4 k5 k6 k7 ft f3 t _ _ _ _ _ hv hlx hlg hlk hr.s hH hS (lv_sub hl [0, 1, 2, 3] rfl)
set_option maxHeartbeats 4000000 in
set_option maxRecDepth 100000 in
/-- reach -/
theorem lw_c6 {p : Program} {e : Env} {s : State} {m : MethodId} {below : List Frame} {meth : Method} {c : Code} {Q : State → Prop} (l : Launch) (D : va_G) (cs : CS) (kf : KF) {b L : Nat} {xs : Nat → Int32} (hx : p.tables.exec = Jvm.exec) (hb : c.code = code) (hml : c.maxLocals = 4) (hown : s.vm.findClass R_law = some m.cls) (hts : ∀ w ∈ gw, w.before #[Value.ref b] s = true) (hX : va_X b L xs s s.heap) (hbl : b < s.heap.size) (hkb : kb D (tyc cs) s) (hks : kS kf s) {A : Nat → Prop} (hE : kE kf A s s.heap) (hA : ∀ q, s.heap.size ≤ q → A q) (hbA : ¬ A b) (hL : L ≤ 3072) (O : List Nat) (X : va_W) (hOX0 : ∀ o ∈ O, ∃ (k : Nat) (e : va_E), X[k]? = some (o, e)) (hO9 : O = []) (a0 ch a1 y2 y3 tk tp tm : Nat) (T : TF) (w hw gw hg G M y0 nn j : Nat) (y1 : Int32) (o0 : Value) (k1 k2 k3 k4 k5 k6 k7 : Int32) (ft f3 : Nat → Int32) (t : Tp) (x3 : Int32) (n cells slots : Nat) (H : Heap) (locs : List Loc) (ls : Array Slot) (hv : LV T a0 a1 ch w hw gw hg G M y0 y2 y3 nn j y1) (hlx : LX T tk tp tm) (hlg : LG G M ft f3 t k6 k7) (hlk : LK k1 k2 k3) (hr : RM cells slots n j) (hn512 : n < 512) (l_x3 : 0 ≤ x3.toInt) (u_x3 : x3.toInt + 6 ≤ L) (hH : HT D cs A T (ch :: tk :: tp :: tm :: O) ((ch, .inr (0, [.ref y0, .int y1, .ref y2, .ref y3])) :: (tk, .inr (7, [o0, .int k1, .int k2, .int k3, .int k4, .int k5, .int k6, .int k7])) :: (tp, .inl (cs.1, 900, .inl ft)) :: (tm, .inl (cs.2.1, 900, .inl f3)) :: X) H) (hS : va_S A s.heap H locs) (hl : lv_has ls 4 [(0, .ref b), (1, .ref a0), (2, .ref a1), (3, .int x3)]) (kk : ∀ (T : TF) (w hw gw hg G M y0 nn j : Nat) (y1 : Int32) (o0 : Value) (k1 k2 k3 k4 k5 k6 k7 : Int32) (ft f3 : Nat → Int32) (t : Tp) (cells slots : Nat) (H : Heap) (locs : List Loc) (ls : Array Slot), LV T a0 a1 ch w hw gw hg G M y0 y2 y3 nn j y1 → LX T tk tp tm → LG G M ft f3 t k6 k7 → LK k1 k2 k3 → RM cells slots (n + 1) j → HT D cs A T (ch :: tk :: tp :: tm :: O) ((ch, .inr (0, [.ref y0, .int y1, .ref y2, .ref y3])) :: (tk, .inr (7, [o0, .int k1, .int k2, .int k3, .int k4, .int k5, .int k6, .int k7])) :: (tp, .inl (cs.1, 900, .inl ft)) :: (tm, .inl (cs.2.1, 900, .inl f3)) :: X) H → va_S A s.heap H locs → lv_has ls 4 [(0, .ref b), (1, .ref a0), (2, .ref a1), (3, .int x3)] → W p l e room_1 s m #[Value.ref b] below meth c H locs cells slots Q (F0 m 1395 ls [])) : W p l e room_1 s m #[Value.ref b] below meth c H locs cells slots Q (F0 m 430 ls []) := by
  obtain ⟨t_a0, t_w, t_a1, b_hg, hU, hU1, t_ch, t_y0, l_y1, u_y1, t_y2, t_y3, hn, hj⟩ := id hv
  obtain ⟨t_tk, t_tp, t_tm, hU7, hU0, hU9⟩ := id hlx
  obtain ⟨lk1, lk2, lk3, lk4, lk5, lk6⟩ := id hlk
  have hO := okc hO9 t_ch t_tk t_tp t_tm
  obtain ⟨hr1, hr2⟩ := id hr
  have hOX : ∀ o ∈ (ch :: tk :: tp :: tm :: O), ∃ (k : Nat) (e : va_E), ((ch, .inr (0, [.ref y0, .int y1, .ref y2, .ref y3])) :: (tk, .inr (7, [o0, .int k1, .int k2, .int k3, .int k4, .int k5, .int k6, .int k7])) :: (tp, .inl (cs.1, 900, .inl ft)) :: (tm, .inl (cs.2.1, 900, .inl f3)) :: X)[k]? = some (o, e) := ox_c (ox_c (ox_c (ox_c hOX0)))
  have hOXf := hOX
  have b1_w := t_w.2.1
  have b2_w := t_w.2.2
  refine lv_aload_n hx hb dL_law_430 rfl (lv_at hl 1 rfl) ?_
  refine lv_aload_n hx hb dL_law_431 rfl (lv_at hl 0 rfl) ?_
  refine lv_iload_n hx hb dL_law_432 rfl (lv_at hl 3 rfl) ?_
  refine lv_iconst (v := 1) hx hb dL_law_433 (by decide) ?_
  refine lv_iadd hx hb dL_law_434 ?_
  refine lv_topi (fun v434 ev434 => ?_)
  have tv434 : v434.toInt = x3.toInt + (1) := by rw [ev434]; exact add_i rfl (by decide : (1 : Int32).toInt = 1) (by omega) (by omega)
  refine va_sld hx hb hX hbl hbA hS (in_t (by omega) (by omega)) dL_law_435 ?_
  refine lv_topi (fun v435 ev435 => ?_)
  refine tk_i hH hS hA (tr_V (n := 1) (As := [.int v435]) hx hb hml hown hts hkb hH (ox_map hOX rfl) hks hE hS hA (s_FW_reach l D cs kf T (ch :: tk :: tp :: tm :: O) ((ch, .inr (0, [.ref y0, .int y1, .ref y2, .ref y3])) :: (tk, .inr (7, [o0, .int k1, .int k2, .int k3, .int k4, .int k5, .int k6, .int k7])) :: (tp, .inl (cs.1, 900, .inl ft)) :: (tm, .inl (cs.2.1, 900, .inl f3)) :: X) a0 w hw gw ch G v435 t_a0 t_w t_ch (hO.sub (by decide))) kw_826 kw_827 kw_828 kw_1 kw_829 (by decide +kernel) ⟨Nat.le_of_ble_eq_true rfl, Nat.le_of_ble_eq_true rfl⟩ (HT.recv (ci := 11) hkb hH t_a0 (hO.no t_a0 (by decide)) rfl) rfl rfl hl.1 (Nat.le_of_ble_eq_true rfl) dL_law_436 ⟨by show cells + 0 ≤ 600000; omega, by show slots + 0 ≤ 7302250; omega⟩) (fun v436 u H locs hz9 hH hS => ?_)
  obtain ⟨rfl, l_v436, u_v436⟩ := hz9
  have hH : HT D cs A T (ch :: tk :: tp :: tm :: O) ((ch, .inr (0, [.ref y0, .int y1, .ref y2, .ref y3])) :: (tk, .inr (7, [o0, .int k1, .int k2, .int k3, .int k4, .int k5, .int k6, .int k7])) :: (tp, .inl (cs.1, 900, .inl ft)) :: (tm, .inl (cs.2.1, 900, .inl f3)) :: X) H := hH
  refine W.widen (k := cells) (n := slots) (Nat.le_refl _) (Nat.le_refl _) ?_
  refine lv_pop hx hb dL_law_439 rfl ?_
  refine lv_aload_n hx hb dL_law_440 rfl (lv_at hl 2 rfl) ?_
  refine lv_aload_n hx hb dL_law_441 rfl (lv_at hl 0 rfl) ?_
  refine lv_iload_n hx hb dL_law_442 rfl (lv_at hl 3 rfl) ?_
  refine lv_iconst (v := 1) hx hb dL_law_443 (by decide) ?_
  refine lv_iadd hx hb dL_law_444 ?_
  refine lv_topi (fun v444 ev444 => ?_)
  have tv444 : v444.toInt = x3.toInt + (1) := by rw [ev444]; exact add_i rfl (by decide : (1 : Int32).toInt = 1) (by omega) (by omega)
  refine va_sld hx hb hX hbl hbA hS (in_t (by omega) (by omega)) dL_law_445 ?_
  refine lv_topi (fun v445 ev445 => ?_)
  refine tk_i hH hS hA (tr_V (n := 1) (As := [.int v445]) hx hb hml hown hts hkb hH (ox_map hOX rfl) hks hE hS hA (s_M_reach l D cs kf T (ch :: tk :: tp :: tm :: O) ((ch, .inr (0, [.ref y0, .int y1, .ref y2, .ref y3])) :: (tk, .inr (7, [o0, .int k1, .int k2, .int k3, .int k4, .int k5, .int k6, .int k7])) :: (tp, .inl (cs.1, 900, .inl ft)) :: (tm, .inl (cs.2.1, 900, .inl f3)) :: X) a1 hg M v445 t_a1 b_hg (hO.sub (by decide))) kw_1498 kw_1499 kw_1500 kw_13 kw_1501 (by decide +kernel) ⟨Nat.le_of_ble_eq_true rfl, Nat.le_of_ble_eq_true rfl⟩ (HT.recv (ci := 12) hkb hH t_a1 (hO.no t_a1 (by decide)) rfl) rfl rfl hl.1 (Nat.le_of_ble_eq_true rfl) dL_law_446 ⟨by show cells + 0 ≤ 600000; omega, by show slots + 0 ≤ 7302250; omega⟩) (fun v446 u H locs hz9 hH hS => ?_)
  obtain ⟨rfl, l_v446, u_v446⟩ := hz9
  have hH : HT D cs A T (ch :: tk :: tp :: tm :: O) ((ch, .inr (0, [.ref y0, .int y1, .ref y2, .ref y3])) :: (tk, .inr (7, [o0, .int k1, .int k2, .int k3, .int k4, .int k5, .int k6, .int k7])) :: (tp, .inl (cs.1, 900, .inl ft)) :: (tm, .inl (cs.2.1, 900, .inl f3)) :: X) H := hH
  refine W.widen (k := cells) (n := slots) (Nat.le_refl _) (Nat.le_refl _) ?_
  refine lv_pop hx hb dL_law_449 rfl ?_
  refine lv_goto (tgt := 1395) hx hb dL_law_450 (by decide) ?_
  exact kk T w hw gw hg G M y0 nn j y1 o0 k1 k2 k3 k4 k5 k6 k7 ft f3 t _ _ _ _ _ hv hlx hlg hlk hr.s hH hS (lv_sub hl [0, 1, 2, 3] rfl)
set_option maxHeartbeats 4000000 in
set_option maxRecDepth 100000 in
/-- judge -/
theorem lw_c7 {p : Program} {e : Env} {s : State} {m : MethodId} {below : List Frame} {meth : Method} {c : Code} {Q : State → Prop} (l : Launch) (D : va_G) (cs : CS) (kf : KF) {b L : Nat} {xs : Nat → Int32} (hx : p.tables.exec = Jvm.exec) (hb : c.code = code) (hml : c.maxLocals = 4) (hown : s.vm.findClass R_law = some m.cls) (hts : ∀ w ∈ gw, w.before #[Value.ref b] s = true) (hX : va_X b L xs s s.heap) (hbl : b < s.heap.size) (hkb : kb D (tyc cs) s) (hks : kS kf s) {A : Nat → Prop} (hE : kE kf A s s.heap) (hA : ∀ q, s.heap.size ≤ q → A q) (hbA : ¬ A b) (hL : L ≤ 3072) (O : List Nat) (X : va_W) (hOX0 : ∀ o ∈ O, ∃ (k : Nat) (e : va_E), X[k]? = some (o, e)) (hO9 : O = []) (a0 ch a1 y2 y3 tk tp tm : Nat) (T : TF) (w hw gw hg G M y0 nn j : Nat) (y1 : Int32) (o0 : Value) (k1 k2 k3 k4 k5 k6 k7 : Int32) (ft f3 : Nat → Int32) (t : Tp) (x3 : Int32) (n cells slots : Nat) (H : Heap) (locs : List Loc) (ls : Array Slot) (hv : LV T a0 a1 ch w hw gw hg G M y0 y2 y3 nn j y1) (hlx : LX T tk tp tm) (hlg : LG G M ft f3 t k6 k7) (hlk : LK k1 k2 k3) (hr : RM cells slots n j) (hn512 : n < 512) (l_x3 : 0 ≤ x3.toInt) (u_x3 : x3.toInt + 6 ≤ L) (hH : HT D cs A T (ch :: tk :: tp :: tm :: O) ((ch, .inr (0, [.ref y0, .int y1, .ref y2, .ref y3])) :: (tk, .inr (7, [o0, .int k1, .int k2, .int k3, .int k4, .int k5, .int k6, .int k7])) :: (tp, .inl (cs.1, 900, .inl ft)) :: (tm, .inl (cs.2.1, 900, .inl f3)) :: X) H) (hS : va_S A s.heap H locs) (hl : lv_has ls 4 [(0, .ref b), (1, .ref a0), (2, .ref a1), (3, .int x3)]) (kk : ∀ (T : TF) (w hw gw hg G M y0 nn j : Nat) (y1 : Int32) (o0 : Value) (k1 k2 k3 k4 k5 k6 k7 : Int32) (ft f3 : Nat → Int32) (t : Tp) (cells slots : Nat) (H : Heap) (locs : List Loc) (ls : Array Slot), LV T a0 a1 ch w hw gw hg G M y0 y2 y3 nn j y1 → LX T tk tp tm → LG G M ft f3 t k6 k7 → LK k1 k2 k3 → RM cells slots (n + 1) j → HT D cs A T (ch :: tk :: tp :: tm :: O) ((ch, .inr (0, [.ref y0, .int y1, .ref y2, .ref y3])) :: (tk, .inr (7, [o0, .int k1, .int k2, .int k3, .int k4, .int k5, .int k6, .int k7])) :: (tp, .inl (cs.1, 900, .inl ft)) :: (tm, .inl (cs.2.1, 900, .inl f3)) :: X) H → va_S A s.heap H locs → lv_has ls 4 [(0, .ref b), (1, .ref a0), (2, .ref a1), (3, .int x3)] → W p l e room_1 s m #[Value.ref b] below meth c H locs cells slots Q (F0 m 1395 ls [])) : W p l e room_1 s m #[Value.ref b] below meth c H locs cells slots Q (F0 m 453 ls []) := by
  obtain ⟨t_a0, t_w, t_a1, b_hg, hU, hU1, t_ch, t_y0, l_y1, u_y1, t_y2, t_y3, hn, hj⟩ := id hv
  obtain ⟨t_tk, t_tp, t_tm, hU7, hU0, hU9⟩ := id hlx
  obtain ⟨lk1, lk2, lk3, lk4, lk5, lk6⟩ := id hlk
  have hO := okc hO9 t_ch t_tk t_tp t_tm
  obtain ⟨hr1, hr2⟩ := id hr
  have hOX : ∀ o ∈ (ch :: tk :: tp :: tm :: O), ∃ (k : Nat) (e : va_E), ((ch, .inr (0, [.ref y0, .int y1, .ref y2, .ref y3])) :: (tk, .inr (7, [o0, .int k1, .int k2, .int k3, .int k4, .int k5, .int k6, .int k7])) :: (tp, .inl (cs.1, 900, .inl ft)) :: (tm, .inl (cs.2.1, 900, .inl f3)) :: X)[k]? = some (o, e) := ox_c (ox_c (ox_c (ox_c hOX0)))
  have hOXf := hOX
  have b1_w := t_w.2.1
  have b2_w := t_w.2.2
  refine lv_aload_n hx hb dL_law_453 rfl (lv_at hl 1 rfl) ?_
  refine lv_aload_n hx hb dL_law_454 rfl (lv_at hl 0 rfl) ?_
  refine lv_iload_n hx hb dL_law_455 rfl (lv_at hl 3 rfl) ?_
  refine lv_iconst (v := 1) hx hb dL_law_456 (by decide) ?_
  refine lv_iadd hx hb dL_law_457 ?_
  refine lv_topi (fun v457 ev457 => ?_)
  have tv457 : v457.toInt = x3.toInt + (1) := by rw [ev457]; exact add_i rfl (by decide : (1 : Int32).toInt = 1) (by omega) (by omega)
  refine va_sld hx hb hX hbl hbA hS (in_t (by omega) (by omega)) dL_law_458 ?_
  refine lv_topi (fun v458 ev458 => ?_)
  refine lv_aload_n hx hb dL_law_459 rfl (lv_at hl 0 rfl) ?_
  refine lv_iload_n hx hb dL_law_460 rfl (lv_at hl 3 rfl) ?_
  refine lv_iconst (v := 2) hx hb dL_law_461 (by decide) ?_
  refine lv_iadd hx hb dL_law_462 ?_
  refine lv_topi (fun v462 ev462 => ?_)
  have tv462 : v462.toInt = x3.toInt + (2) := by rw [ev462]; exact add_i rfl (by decide : (2 : Int32).toInt = 2) (by omega) (by omega)
  refine va_sld hx hb hX hbl hbA hS (in_t (by omega) (by omega)) dL_law_463 ?_
  refine lv_topi (fun v463 ev463 => ?_)
  refine tk_i hH hS hA (tr_V (n := 2) (As := [.int v458, .int v463]) hx hb hml hown hts hkb hH (ox_map hOX rfl) hks hE hS hA (s_FW_judge l D cs kf T (ch :: tk :: tp :: tm :: O) ((ch, .inr (0, [.ref y0, .int y1, .ref y2, .ref y3])) :: (tk, .inr (7, [o0, .int k1, .int k2, .int k3, .int k4, .int k5, .int k6, .int k7])) :: (tp, .inl (cs.1, 900, .inl ft)) :: (tm, .inl (cs.2.1, 900, .inl f3)) :: X) a0 w hw gw ch G v458 v463 t_a0 t_w t_ch (hO.sub (by decide))) kw_867 kw_868 kw_869 kw_1 kw_870 (by decide +kernel) ⟨Nat.le_of_ble_eq_true rfl, Nat.le_of_ble_eq_true rfl⟩ (HT.recv (ci := 11) hkb hH t_a0 (hO.no t_a0 (by decide)) rfl) rfl rfl hl.1 (Nat.le_of_ble_eq_true rfl) dL_law_464 ⟨by show cells + 0 ≤ 600000; omega, by show slots + 0 ≤ 7302250; omega⟩) (fun v464 u H locs hz9 hH hS => ?_)
  obtain ⟨rfl, l_v464, u_v464⟩ := hz9
  have hH : HT D cs A T (ch :: tk :: tp :: tm :: O) ((ch, .inr (0, [.ref y0, .int y1, .ref y2, .ref y3])) :: (tk, .inr (7, [o0, .int k1, .int k2, .int k3, .int k4, .int k5, .int k6, .int k7])) :: (tp, .inl (cs.1, 900, .inl ft)) :: (tm, .inl (cs.2.1, 900, .inl f3)) :: X) H := hH
  refine W.widen (k := cells) (n := slots) (Nat.le_refl _) (Nat.le_refl _) ?_
  refine lv_pop hx hb dL_law_467 rfl ?_
  refine lv_aload_n hx hb dL_law_468 rfl (lv_at hl 2 rfl) ?_
  refine lv_aload_n hx hb dL_law_469 rfl (lv_at hl 0 rfl) ?_
  refine lv_iload_n hx hb dL_law_470 rfl (lv_at hl 3 rfl) ?_
  refine lv_iconst (v := 1) hx hb dL_law_471 (by decide) ?_
  refine lv_iadd hx hb dL_law_472 ?_
  refine lv_topi (fun v472 ev472 => ?_)
  have tv472 : v472.toInt = x3.toInt + (1) := by rw [ev472]; exact add_i rfl (by decide : (1 : Int32).toInt = 1) (by omega) (by omega)
  refine va_sld hx hb hX hbl hbA hS (in_t (by omega) (by omega)) dL_law_473 ?_
  refine lv_topi (fun v473 ev473 => ?_)
  refine lv_aload_n hx hb dL_law_474 rfl (lv_at hl 0 rfl) ?_
  refine lv_iload_n hx hb dL_law_475 rfl (lv_at hl 3 rfl) ?_
  refine lv_iconst (v := 2) hx hb dL_law_476 (by decide) ?_
  refine lv_iadd hx hb dL_law_477 ?_
  refine lv_topi (fun v477 ev477 => ?_)
  have tv477 : v477.toInt = x3.toInt + (2) := by rw [ev477]; exact add_i rfl (by decide : (2 : Int32).toInt = 2) (by omega) (by omega)
  refine va_sld hx hb hX hbl hbA hS (in_t (by omega) (by omega)) dL_law_478 ?_
  refine lv_topi (fun v478 ev478 => ?_)
  refine tk_i hH hS hA (tr_V (n := 2) (As := [.int v473, .int v478]) hx hb hml hown hts hkb hH (ox_map hOX rfl) hks hE hS hA (s_M_judge l D cs kf T (ch :: tk :: tp :: tm :: O) ((ch, .inr (0, [.ref y0, .int y1, .ref y2, .ref y3])) :: (tk, .inr (7, [o0, .int k1, .int k2, .int k3, .int k4, .int k5, .int k6, .int k7])) :: (tp, .inl (cs.1, 900, .inl ft)) :: (tm, .inl (cs.2.1, 900, .inl f3)) :: X) a1 hg M v473 v478 t_a1 b_hg (hO.sub (by decide))) kw_1518 kw_1519 kw_1520 kw_13 kw_1521 (by decide +kernel) ⟨Nat.le_of_ble_eq_true rfl, Nat.le_of_ble_eq_true rfl⟩ (HT.recv (ci := 12) hkb hH t_a1 (hO.no t_a1 (by decide)) rfl) rfl rfl hl.1 (Nat.le_of_ble_eq_true rfl) dL_law_479 ⟨by show cells + 0 ≤ 600000; omega, by show slots + 0 ≤ 7302250; omega⟩) (fun v479 u H locs hz9 hH hS => ?_)
  have hz9 : u = (T, ch :: tk :: tp :: tm :: O, (ch, .inr (0, [.ref y0, .int y1, .ref y2, .ref y3])) :: (tk, .inr (7, [o0, .int k1, .int k2, .int k3, .int k4, .int k5, .int k6, .int k7])) :: (tp, .inl (cs.1, 900, .inl ft)) :: (tm, .inl (cs.2.1, 900, .inl f3)) :: X) := hz9
  subst hz9
  have hH : HT D cs A T (ch :: tk :: tp :: tm :: O) ((ch, .inr (0, [.ref y0, .int y1, .ref y2, .ref y3])) :: (tk, .inr (7, [o0, .int k1, .int k2, .int k3, .int k4, .int k5, .int k6, .int k7])) :: (tp, .inl (cs.1, 900, .inl ft)) :: (tm, .inl (cs.2.1, 900, .inl f3)) :: X) H := hH
  refine W.widen (k := cells) (n := slots) (Nat.le_refl _) (Nat.le_refl _) ?_
  refine lv_pop hx hb dL_law_482 rfl ?_
  refine lv_goto (tgt := 1395) hx hb dL_law_483 (by decide) ?_
  exact kk T w hw gw hg G M y0 nn j y1 o0 k1 k2 k3 k4 k5 k6 k7 ft f3 t _ _ _ _ _ hv hlx hlg hlk hr.s hH hS (lv_sub hl [0, 1, 2, 3] rfl)
set_option maxHeartbeats 4000000 in
set_option maxRecDepth 100000 in
/-- climb -/
theorem lw_c8 {p : Program} {e : Env} {s : State} {m : MethodId} {below : List Frame} {meth : Method} {c : Code} {Q : State → Prop} (l : Launch) (D : va_G) (cs : CS) (kf : KF) {b L : Nat} {xs : Nat → Int32} (hx : p.tables.exec = Jvm.exec) (hb : c.code = code) (hml : c.maxLocals = 4) (hown : s.vm.findClass R_law = some m.cls) (hts : ∀ w ∈ gw, w.before #[Value.ref b] s = true) (hX : va_X b L xs s s.heap) (hbl : b < s.heap.size) (hkb : kb D (tyc cs) s) (hks : kS kf s) {A : Nat → Prop} (hE : kE kf A s s.heap) (hA : ∀ q, s.heap.size ≤ q → A q) (hbA : ¬ A b) (hL : L ≤ 3072) (O : List Nat) (X : va_W) (hOX0 : ∀ o ∈ O, ∃ (k : Nat) (e : va_E), X[k]? = some (o, e)) (hO9 : O = []) (a0 ch a1 y2 y3 tk tp tm : Nat) (T : TF) (w hw gw hg G M y0 nn j : Nat) (y1 : Int32) (o0 : Value) (k1 k2 k3 k4 k5 k6 k7 : Int32) (ft f3 : Nat → Int32) (t : Tp) (x3 : Int32) (n cells slots : Nat) (H : Heap) (locs : List Loc) (ls : Array Slot) (hv : LV T a0 a1 ch w hw gw hg G M y0 y2 y3 nn j y1) (hlx : LX T tk tp tm) (hlg : LG G M ft f3 t k6 k7) (hlk : LK k1 k2 k3) (hr : RM cells slots n j) (hn512 : n < 512) (l_x3 : 0 ≤ x3.toInt) (u_x3 : x3.toInt + 6 ≤ L) (hH : HT D cs A T (ch :: tk :: tp :: tm :: O) ((ch, .inr (0, [.ref y0, .int y1, .ref y2, .ref y3])) :: (tk, .inr (7, [o0, .int k1, .int k2, .int k3, .int k4, .int k5, .int k6, .int k7])) :: (tp, .inl (cs.1, 900, .inl ft)) :: (tm, .inl (cs.2.1, 900, .inl f3)) :: X) H) (hS : va_S A s.heap H locs) (hl : lv_has ls 4 [(0, .ref b), (1, .ref a0), (2, .ref a1), (3, .int x3)]) (kk : ∀ (T : TF) (w hw gw hg G M y0 nn j : Nat) (y1 : Int32) (o0 : Value) (k1 k2 k3 k4 k5 k6 k7 : Int32) (ft f3 : Nat → Int32) (t : Tp) (cells slots : Nat) (H : Heap) (locs : List Loc) (ls : Array Slot), LV T a0 a1 ch w hw gw hg G M y0 y2 y3 nn j y1 → LX T tk tp tm → LG G M ft f3 t k6 k7 → LK k1 k2 k3 → RM cells slots (n + 1) j → HT D cs A T (ch :: tk :: tp :: tm :: O) ((ch, .inr (0, [.ref y0, .int y1, .ref y2, .ref y3])) :: (tk, .inr (7, [o0, .int k1, .int k2, .int k3, .int k4, .int k5, .int k6, .int k7])) :: (tp, .inl (cs.1, 900, .inl ft)) :: (tm, .inl (cs.2.1, 900, .inl f3)) :: X) H → va_S A s.heap H locs → lv_has ls 4 [(0, .ref b), (1, .ref a0), (2, .ref a1), (3, .int x3)] → W p l e room_1 s m #[Value.ref b] below meth c H locs cells slots Q (F0 m 1395 ls [])) : W p l e room_1 s m #[Value.ref b] below meth c H locs cells slots Q (F0 m 486 ls []) := by
  obtain ⟨t_a0, t_w, t_a1, b_hg, hU, hU1, t_ch, t_y0, l_y1, u_y1, t_y2, t_y3, hn, hj⟩ := id hv
  obtain ⟨t_tk, t_tp, t_tm, hU7, hU0, hU9⟩ := id hlx
  obtain ⟨lk1, lk2, lk3, lk4, lk5, lk6⟩ := id hlk
  have hO := okc hO9 t_ch t_tk t_tp t_tm
  obtain ⟨hr1, hr2⟩ := id hr
  have hOX : ∀ o ∈ (ch :: tk :: tp :: tm :: O), ∃ (k : Nat) (e : va_E), ((ch, .inr (0, [.ref y0, .int y1, .ref y2, .ref y3])) :: (tk, .inr (7, [o0, .int k1, .int k2, .int k3, .int k4, .int k5, .int k6, .int k7])) :: (tp, .inl (cs.1, 900, .inl ft)) :: (tm, .inl (cs.2.1, 900, .inl f3)) :: X)[k]? = some (o, e) := ox_c (ox_c (ox_c (ox_c hOX0)))
  have hOXf := hOX
  have b1_w := t_w.2.1
  have b2_w := t_w.2.2
  refine lv_aload_n hx hb dL_law_486 rfl (lv_at hl 1 rfl) ?_
  refine lv_aload_n hx hb dL_law_487 rfl (lv_at hl 0 rfl) ?_
  refine lv_iload_n hx hb dL_law_488 rfl (lv_at hl 3 rfl) ?_
  refine lv_iconst (v := 1) hx hb dL_law_489 (by decide) ?_
  refine lv_iadd hx hb dL_law_490 ?_
  refine lv_topi (fun v490 ev490 => ?_)
  have tv490 : v490.toInt = x3.toInt + (1) := by rw [ev490]; exact add_i rfl (by decide : (1 : Int32).toInt = 1) (by omega) (by omega)
  refine va_sld hx hb hX hbl hbA hS (in_t (by omega) (by omega)) dL_law_491 ?_
  refine lv_topi (fun v491 ev491 => ?_)
  refine tk_i hH hS hA (tr_V (n := 1) (As := [.int v491]) hx hb hml hown hts hkb hH (ox_map hOX rfl) hks hE hS hA (s_FW_climb l D cs kf T (ch :: tk :: tp :: tm :: O) ((ch, .inr (0, [.ref y0, .int y1, .ref y2, .ref y3])) :: (tk, .inr (7, [o0, .int k1, .int k2, .int k3, .int k4, .int k5, .int k6, .int k7])) :: (tp, .inl (cs.1, 900, .inl ft)) :: (tm, .inl (cs.2.1, 900, .inl f3)) :: X) a0 w hw gw ch G v491 t_a0 t_w t_ch (hO.sub (by decide))) kw_894 kw_895 kw_896 kw_1 kw_897 (by decide +kernel) ⟨Nat.le_of_ble_eq_true rfl, Nat.le_of_ble_eq_true rfl⟩ (HT.recv (ci := 11) hkb hH t_a0 (hO.no t_a0 (by decide)) rfl) rfl rfl hl.1 (Nat.le_of_ble_eq_true rfl) dL_law_492 ⟨by show cells + 0 ≤ 600000; omega, by show slots + 0 ≤ 7302250; omega⟩) (fun v492 u H locs hz9 hH hS => ?_)
  obtain ⟨rfl, l_v492, u_v492⟩ := hz9
  have hH : HT D cs A T (ch :: tk :: tp :: tm :: O) ((ch, .inr (0, [.ref y0, .int y1, .ref y2, .ref y3])) :: (tk, .inr (7, [o0, .int k1, .int k2, .int k3, .int k4, .int k5, .int k6, .int k7])) :: (tp, .inl (cs.1, 900, .inl ft)) :: (tm, .inl (cs.2.1, 900, .inl f3)) :: X) H := hH
  refine W.widen (k := cells) (n := slots) (Nat.le_refl _) (Nat.le_refl _) ?_
  refine lv_pop hx hb dL_law_495 rfl ?_
  refine lv_aload_n hx hb dL_law_496 rfl (lv_at hl 2 rfl) ?_
  refine lv_aload_n hx hb dL_law_497 rfl (lv_at hl 0 rfl) ?_
  refine lv_iload_n hx hb dL_law_498 rfl (lv_at hl 3 rfl) ?_
  refine lv_iconst (v := 1) hx hb dL_law_499 (by decide) ?_
  refine lv_iadd hx hb dL_law_500 ?_
  refine lv_topi (fun v500 ev500 => ?_)
  have tv500 : v500.toInt = x3.toInt + (1) := by rw [ev500]; exact add_i rfl (by decide : (1 : Int32).toInt = 1) (by omega) (by omega)
  refine va_sld hx hb hX hbl hbA hS (in_t (by omega) (by omega)) dL_law_501 ?_
  refine lv_topi (fun v501 ev501 => ?_)
  refine tk_i hH hS hA (tr_V (n := 1) (As := [.int v501]) hx hb hml hown hts hkb hH (ox_map hOX rfl) hks hE hS hA (s_M_climb l D cs kf T (ch :: tk :: tp :: tm :: O) ((ch, .inr (0, [.ref y0, .int y1, .ref y2, .ref y3])) :: (tk, .inr (7, [o0, .int k1, .int k2, .int k3, .int k4, .int k5, .int k6, .int k7])) :: (tp, .inl (cs.1, 900, .inl ft)) :: (tm, .inl (cs.2.1, 900, .inl f3)) :: X) a1 hg M v501 t_a1 b_hg (hO.sub (by decide))) kw_1540 kw_1541 kw_1542 kw_13 kw_1543 (by decide +kernel) ⟨Nat.le_of_ble_eq_true rfl, Nat.le_of_ble_eq_true rfl⟩ (HT.recv (ci := 12) hkb hH t_a1 (hO.no t_a1 (by decide)) rfl) rfl rfl hl.1 (Nat.le_of_ble_eq_true rfl) dL_law_502 ⟨by show cells + 0 ≤ 600000; omega, by show slots + 0 ≤ 7302250; omega⟩) (fun v502 u H locs hz9 hH hS => ?_)
  have hz9 : u = (T, ch :: tk :: tp :: tm :: O, (ch, .inr (0, [.ref y0, .int y1, .ref y2, .ref y3])) :: (tk, .inr (7, [o0, .int k1, .int k2, .int k3, .int k4, .int k5, .int k6, .int k7])) :: (tp, .inl (cs.1, 900, .inl ft)) :: (tm, .inl (cs.2.1, 900, .inl f3)) :: X) := hz9
  subst hz9
  have hH : HT D cs A T (ch :: tk :: tp :: tm :: O) ((ch, .inr (0, [.ref y0, .int y1, .ref y2, .ref y3])) :: (tk, .inr (7, [o0, .int k1, .int k2, .int k3, .int k4, .int k5, .int k6, .int k7])) :: (tp, .inl (cs.1, 900, .inl ft)) :: (tm, .inl (cs.2.1, 900, .inl f3)) :: X) H := hH
  refine W.widen (k := cells) (n := slots) (Nat.le_refl _) (Nat.le_refl _) ?_
  refine lv_pop hx hb dL_law_505 rfl ?_
  refine lv_goto (tgt := 1395) hx hb dL_law_506 (by decide) ?_
  exact kk T w hw gw hg G M y0 nn j y1 o0 k1 k2 k3 k4 k5 k6 k7 ft f3 t _ _ _ _ _ hv hlx hlg hlk hr.s hH hS (lv_sub hl [0, 1, 2, 3] rfl)
set_option maxHeartbeats 4000000 in
set_option maxRecDepth 100000 in
/-- goes -/
theorem lw_c9 {p : Program} {e : Env} {s : State} {m : MethodId} {below : List Frame} {meth : Method} {c : Code} {Q : State → Prop} (l : Launch) (D : va_G) (cs : CS) (kf : KF) {b L : Nat} {xs : Nat → Int32} (hx : p.tables.exec = Jvm.exec) (hb : c.code = code) (hml : c.maxLocals = 4) (hown : s.vm.findClass R_law = some m.cls) (hts : ∀ w ∈ gw, w.before #[Value.ref b] s = true) (hX : va_X b L xs s s.heap) (hbl : b < s.heap.size) (hkb : kb D (tyc cs) s) (hks : kS kf s) {A : Nat → Prop} (hE : kE kf A s s.heap) (hA : ∀ q, s.heap.size ≤ q → A q) (hbA : ¬ A b) (hL : L ≤ 3072) (O : List Nat) (X : va_W) (hOX0 : ∀ o ∈ O, ∃ (k : Nat) (e : va_E), X[k]? = some (o, e)) (hO9 : O = []) (a0 ch a1 y2 y3 tk tp tm : Nat) (T : TF) (w hw gw hg G M y0 nn j : Nat) (y1 : Int32) (o0 : Value) (k1 k2 k3 k4 k5 k6 k7 : Int32) (ft f3 : Nat → Int32) (t : Tp) (x3 : Int32) (n cells slots : Nat) (H : Heap) (locs : List Loc) (ls : Array Slot) (hv : LV T a0 a1 ch w hw gw hg G M y0 y2 y3 nn j y1) (hlx : LX T tk tp tm) (hlg : LG G M ft f3 t k6 k7) (hlk : LK k1 k2 k3) (hr : RM cells slots n j) (hn512 : n < 512) (l_x3 : 0 ≤ x3.toInt) (u_x3 : x3.toInt + 6 ≤ L) (hH : HT D cs A T (ch :: tk :: tp :: tm :: O) ((ch, .inr (0, [.ref y0, .int y1, .ref y2, .ref y3])) :: (tk, .inr (7, [o0, .int k1, .int k2, .int k3, .int k4, .int k5, .int k6, .int k7])) :: (tp, .inl (cs.1, 900, .inl ft)) :: (tm, .inl (cs.2.1, 900, .inl f3)) :: X) H) (hS : va_S A s.heap H locs) (hl : lv_has ls 4 [(0, .ref b), (1, .ref a0), (2, .ref a1), (3, .int x3)]) (kk : ∀ (T : TF) (w hw gw hg G M y0 nn j : Nat) (y1 : Int32) (o0 : Value) (k1 k2 k3 k4 k5 k6 k7 : Int32) (ft f3 : Nat → Int32) (t : Tp) (cells slots : Nat) (H : Heap) (locs : List Loc) (ls : Array Slot), LV T a0 a1 ch w hw gw hg G M y0 y2 y3 nn j y1 → LX T tk tp tm → LG G M ft f3 t k6 k7 → LK k1 k2 k3 → RM cells slots (n + 1) j → HT D cs A T (ch :: tk :: tp :: tm :: O) ((ch, .inr (0, [.ref y0, .int y1, .ref y2, .ref y3])) :: (tk, .inr (7, [o0, .int k1, .int k2, .int k3, .int k4, .int k5, .int k6, .int k7])) :: (tp, .inl (cs.1, 900, .inl ft)) :: (tm, .inl (cs.2.1, 900, .inl f3)) :: X) H → va_S A s.heap H locs → lv_has ls 4 [(0, .ref b), (1, .ref a0), (2, .ref a1), (3, .int x3)] → W p l e room_1 s m #[Value.ref b] below meth c H locs cells slots Q (F0 m 1395 ls [])) : W p l e room_1 s m #[Value.ref b] below meth c H locs cells slots Q (F0 m 509 ls []) := by
  obtain ⟨t_a0, t_w, t_a1, b_hg, hU, hU1, t_ch, t_y0, l_y1, u_y1, t_y2, t_y3, hn, hj⟩ := id hv
  obtain ⟨t_tk, t_tp, t_tm, hU7, hU0, hU9⟩ := id hlx
  obtain ⟨lk1, lk2, lk3, lk4, lk5, lk6⟩ := id hlk
  have hO := okc hO9 t_ch t_tk t_tp t_tm
  obtain ⟨hr1, hr2⟩ := id hr
  have hOX : ∀ o ∈ (ch :: tk :: tp :: tm :: O), ∃ (k : Nat) (e : va_E), ((ch, .inr (0, [.ref y0, .int y1, .ref y2, .ref y3])) :: (tk, .inr (7, [o0, .int k1, .int k2, .int k3, .int k4, .int k5, .int k6, .int k7])) :: (tp, .inl (cs.1, 900, .inl ft)) :: (tm, .inl (cs.2.1, 900, .inl f3)) :: X)[k]? = some (o, e) := ox_c (ox_c (ox_c (ox_c hOX0)))
  have hOXf := hOX
  have b1_w := t_w.2.1
  have b2_w := t_w.2.2
  refine lv_aload_n hx hb dL_law_509 rfl (lv_at hl 1 rfl) ?_
  refine lv_aload_n hx hb dL_law_510 rfl (lv_at hl 0 rfl) ?_
  refine lv_iload_n hx hb dL_law_511 rfl (lv_at hl 3 rfl) ?_
  refine lv_iconst (v := 1) hx hb dL_law_512 (by decide) ?_
  refine lv_iadd hx hb dL_law_513 ?_
  refine lv_topi (fun v513 ev513 => ?_)
  have tv513 : v513.toInt = x3.toInt + (1) := by rw [ev513]; exact add_i rfl (by decide : (1 : Int32).toInt = 1) (by omega) (by omega)
  refine va_sld hx hb hX hbl hbA hS (in_t (by omega) (by omega)) dL_law_514 ?_
  refine lv_topi (fun v514 ev514 => ?_)
  refine tk_i hH hS hA (tr_V (n := 1) (As := [.int v514]) hx hb hml hown hts hkb hH (ox_map hOX rfl) hks hE hS hA (s_FW_goes l D cs kf T (ch :: tk :: tp :: tm :: O) ((ch, .inr (0, [.ref y0, .int y1, .ref y2, .ref y3])) :: (tk, .inr (7, [o0, .int k1, .int k2, .int k3, .int k4, .int k5, .int k6, .int k7])) :: (tp, .inl (cs.1, 900, .inl ft)) :: (tm, .inl (cs.2.1, 900, .inl f3)) :: X) a0 w hw gw ch G v514 t_a0 t_w t_ch (hO.sub (by decide))) kw_904 kw_905 kw_906 kw_1 kw_907 (by decide +kernel) ⟨Nat.le_of_ble_eq_true rfl, Nat.le_of_ble_eq_true rfl⟩ (HT.recv (ci := 11) hkb hH t_a0 (hO.no t_a0 (by decide)) rfl) rfl rfl hl.1 (Nat.le_of_ble_eq_true rfl) dL_law_515 ⟨by show cells + 0 ≤ 600000; omega, by show slots + 0 ≤ 7302250; omega⟩) (fun v515 u H locs hz9 hH hS => ?_)
  obtain ⟨rfl, l_v515, u_v515⟩ := hz9
  have hH : HT D cs A T (ch :: tk :: tp :: tm :: O) ((ch, .inr (0, [.ref y0, .int y1, .ref y2, .ref y3])) :: (tk, .inr (7, [o0, .int k1, .int k2, .int k3, .int k4, .int k5, .int k6, .int k7])) :: (tp, .inl (cs.1, 900, .inl ft)) :: (tm, .inl (cs.2.1, 900, .inl f3)) :: X) H := hH
  refine W.widen (k := cells) (n := slots) (Nat.le_refl _) (Nat.le_refl _) ?_
  refine lv_pop hx hb dL_law_518 rfl ?_
  refine lv_aload_n hx hb dL_law_519 rfl (lv_at hl 2 rfl) ?_
  refine lv_aload_n hx hb dL_law_520 rfl (lv_at hl 0 rfl) ?_
  refine lv_iload_n hx hb dL_law_521 rfl (lv_at hl 3 rfl) ?_
  refine lv_iconst (v := 1) hx hb dL_law_522 (by decide) ?_
  refine lv_iadd hx hb dL_law_523 ?_
  refine lv_topi (fun v523 ev523 => ?_)
  have tv523 : v523.toInt = x3.toInt + (1) := by rw [ev523]; exact add_i rfl (by decide : (1 : Int32).toInt = 1) (by omega) (by omega)
  refine va_sld hx hb hX hbl hbA hS (in_t (by omega) (by omega)) dL_law_524 ?_
  refine lv_topi (fun v524 ev524 => ?_)
  refine tk_i hH hS hA (tr_V (n := 1) (As := [.int v524]) hx hb hml hown hts hkb hH (ox_map hOX rfl) hks hE hS hA (s_M_goes l D cs kf T (ch :: tk :: tp :: tm :: O) ((ch, .inr (0, [.ref y0, .int y1, .ref y2, .ref y3])) :: (tk, .inr (7, [o0, .int k1, .int k2, .int k3, .int k4, .int k5, .int k6, .int k7])) :: (tp, .inl (cs.1, 900, .inl ft)) :: (tm, .inl (cs.2.1, 900, .inl f3)) :: X) a1 hg M v524 t_a1 b_hg (hO.sub (by decide))) kw_1556 kw_1557 kw_1558 kw_13 kw_1559 (by decide +kernel) ⟨Nat.le_of_ble_eq_true rfl, Nat.le_of_ble_eq_true rfl⟩ (HT.recv (ci := 12) hkb hH t_a1 (hO.no t_a1 (by decide)) rfl) rfl rfl hl.1 (Nat.le_of_ble_eq_true rfl) dL_law_525 ⟨by show cells + 0 ≤ 600000; omega, by show slots + 0 ≤ 7302250; omega⟩) (fun v525 u H locs hz9 hH hS => ?_)
  have hz9 : u = (T, ch :: tk :: tp :: tm :: O, (ch, .inr (0, [.ref y0, .int y1, .ref y2, .ref y3])) :: (tk, .inr (7, [o0, .int k1, .int k2, .int k3, .int k4, .int k5, .int k6, .int k7])) :: (tp, .inl (cs.1, 900, .inl ft)) :: (tm, .inl (cs.2.1, 900, .inl f3)) :: X) := hz9
  subst hz9
  have hH : HT D cs A T (ch :: tk :: tp :: tm :: O) ((ch, .inr (0, [.ref y0, .int y1, .ref y2, .ref y3])) :: (tk, .inr (7, [o0, .int k1, .int k2, .int k3, .int k4, .int k5, .int k6, .int k7])) :: (tp, .inl (cs.1, 900, .inl ft)) :: (tm, .inl (cs.2.1, 900, .inl f3)) :: X) H := hH
  refine W.widen (k := cells) (n := slots) (Nat.le_refl _) (Nat.le_refl _) ?_
  refine lv_pop hx hb dL_law_528 rfl ?_
  refine lv_goto (tgt := 1395) hx hb dL_law_529 (by decide) ?_
  exact kk T w hw gw hg G M y0 nn j y1 o0 k1 k2 k3 k4 k5 k6 k7 ft f3 t _ _ _ _ _ hv hlx hlg hlk hr.s hH hS (lv_sub hl [0, 1, 2, 3] rfl)
theorem dL_law_532 : decode code 532 = .ok (.aload_n 1, 1) := by decide +kernel
theorem dL_law_533 : decode code 533 = .ok (.aload_n 0, 1) := by decide +kernel
theorem dL_law_534 : decode code 534 = .ok (.iload_n 3, 1) := by decide +kernel
theorem dL_law_535 : decode code 535 = .ok (.iconst 1, 1) := by decide +kernel
theorem dL_law_536 : decode code 536 = .ok (.iadd, 1) := by decide +kernel
theorem dL_law_537 : decode code 537 = .ok (.iaload, 1) := by decide +kernel
theorem dL_law_538 : decode code 538 = .ok (.invokevirtual 57, 3) := by decide +kernel
theorem dL_law_541 : decode code 541 = .ok (.pop, 1) := by decide +kernel
theorem dL_law_542 : decode code 542 = .ok (.aload_n 2, 1) := by decide +kernel
theorem dL_law_543 : decode code 543 = .ok (.aload_n 0, 1) := by decide +kernel
theorem dL_law_544 : decode code 544 = .ok (.iload_n 3, 1) := by decide +kernel
theorem dL_law_545 : decode code 545 = .ok (.iconst 1, 1) := by decide +kernel
theorem dL_law_546 : decode code 546 = .ok (.iadd, 1) := by decide +kernel
theorem dL_law_547 : decode code 547 = .ok (.iaload, 1) := by decide +kernel
theorem dL_law_548 : decode code 548 = .ok (.invokevirtual 60, 3) := by decide +kernel
theorem dL_law_551 : decode code 551 = .ok (.pop, 1) := by decide +kernel
theorem dL_law_552 : decode code 552 = .ok (.goto 843, 3) := by decide +kernel
theorem dL_law_555 : decode code 555 = .ok (.aload_n 1, 1) := by decide +kernel
theorem dL_law_556 : decode code 556 = .ok (.aload_n 0, 1) := by decide +kernel
theorem dL_law_557 : decode code 557 = .ok (.iload_n 3, 1) := by decide +kernel
theorem dL_law_558 : decode code 558 = .ok (.iconst 1, 1) := by decide +kernel
theorem dL_law_559 : decode code 559 = .ok (.iadd, 1) := by decide +kernel
theorem dL_law_560 : decode code 560 = .ok (.iaload, 1) := by decide +kernel
theorem dL_law_561 : decode code 561 = .ok (.invokevirtual 61, 3) := by decide +kernel
theorem dL_law_564 : decode code 564 = .ok (.pop, 1) := by decide +kernel
theorem dL_law_565 : decode code 565 = .ok (.aload_n 2, 1) := by decide +kernel
theorem dL_law_566 : decode code 566 = .ok (.aload_n 0, 1) := by decide +kernel
theorem dL_law_567 : decode code 567 = .ok (.iload_n 3, 1) := by decide +kernel
theorem dL_law_568 : decode code 568 = .ok (.iconst 1, 1) := by decide +kernel
theorem dL_law_569 : decode code 569 = .ok (.iadd, 1) := by decide +kernel
theorem dL_law_570 : decode code 570 = .ok (.iaload, 1) := by decide +kernel
theorem dL_law_571 : decode code 571 = .ok (.invokevirtual 64, 3) := by decide +kernel
theorem dL_law_574 : decode code 574 = .ok (.pop, 1) := by decide +kernel
theorem dL_law_575 : decode code 575 = .ok (.goto 820, 3) := by decide +kernel
theorem dL_law_578 : decode code 578 = .ok (.aload_n 1, 1) := by decide +kernel
theorem dL_law_579 : decode code 579 = .ok (.aload_n 0, 1) := by decide +kernel
theorem dL_law_580 : decode code 580 = .ok (.iload_n 3, 1) := by decide +kernel
theorem dL_law_581 : decode code 581 = .ok (.iconst 1, 1) := by decide +kernel
theorem dL_law_582 : decode code 582 = .ok (.iadd, 1) := by decide +kernel
theorem dL_law_583 : decode code 583 = .ok (.iaload, 1) := by decide +kernel
theorem dL_law_584 : decode code 584 = .ok (.invokevirtual 65, 3) := by decide +kernel
theorem dL_law_587 : decode code 587 = .ok (.pop, 1) := by decide +kernel
theorem dL_law_588 : decode code 588 = .ok (.aload_n 2, 1) := by decide +kernel
theorem dL_law_589 : decode code 589 = .ok (.aload_n 0, 1) := by decide +kernel
theorem dL_law_590 : decode code 590 = .ok (.iload_n 3, 1) := by decide +kernel
theorem dL_law_591 : decode code 591 = .ok (.iconst 1, 1) := by decide +kernel
theorem dL_law_592 : decode code 592 = .ok (.iadd, 1) := by decide +kernel
theorem dL_law_593 : decode code 593 = .ok (.iaload, 1) := by decide +kernel
theorem dL_law_594 : decode code 594 = .ok (.invokevirtual 68, 3) := by decide +kernel
theorem dL_law_597 : decode code 597 = .ok (.pop, 1) := by decide +kernel
theorem dL_law_598 : decode code 598 = .ok (.goto 797, 3) := by decide +kernel
theorem dL_law_601 : decode code 601 = .ok (.aload_n 1, 1) := by decide +kernel
theorem dL_law_602 : decode code 602 = .ok (.invokevirtual 69, 3) := by decide +kernel
theorem dL_law_605 : decode code 605 = .ok (.pop, 1) := by decide +kernel
theorem dL_law_606 : decode code 606 = .ok (.aload_n 2, 1) := by decide +kernel
theorem dL_law_607 : decode code 607 = .ok (.invokevirtual 73, 3) := by decide +kernel
theorem dL_law_610 : decode code 610 = .ok (.pop, 1) := by decide +kernel
theorem dL_law_611 : decode code 611 = .ok (.goto 784, 3) := by decide +kernel
theorem dL_law_614 : decode code 614 = .ok (.aload_n 1, 1) := by decide +kernel
theorem dL_law_615 : decode code 615 = .ok (.aload_n 0, 1) := by decide +kernel
theorem dL_law_616 : decode code 616 = .ok (.iload_n 3, 1) := by decide +kernel
theorem dL_law_617 : decode code 617 = .ok (.iconst 1, 1) := by decide +kernel
theorem dL_law_618 : decode code 618 = .ok (.iadd, 1) := by decide +kernel
theorem dL_law_619 : decode code 619 = .ok (.iaload, 1) := by decide +kernel
theorem dL_law_620 : decode code 620 = .ok (.invokevirtual 74, 3) := by decide +kernel
theorem dL_law_623 : decode code 623 = .ok (.pop, 1) := by decide +kernel
theorem dL_law_624 : decode code 624 = .ok (.aload_n 2, 1) := by decide +kernel
theorem dL_law_625 : decode code 625 = .ok (.aload_n 0, 1) := by decide +kernel
theorem dL_law_626 : decode code 626 = .ok (.iload_n 3, 1) := by decide +kernel
theorem dL_law_627 : decode code 627 = .ok (.iconst 1, 1) := by decide +kernel
theorem dL_law_628 : decode code 628 = .ok (.iadd, 1) := by decide +kernel
theorem dL_law_629 : decode code 629 = .ok (.iaload, 1) := by decide +kernel
theorem dL_law_630 : decode code 630 = .ok (.invokevirtual 77, 3) := by decide +kernel
theorem dL_law_633 : decode code 633 = .ok (.pop, 1) := by decide +kernel
theorem dL_law_634 : decode code 634 = .ok (.goto 761, 3) := by decide +kernel
theorem dL_law_637 : decode code 637 = .ok (.aload_n 1, 1) := by decide +kernel
theorem dL_law_638 : decode code 638 = .ok (.aload_n 0, 1) := by decide +kernel
theorem dL_law_639 : decode code 639 = .ok (.iload_n 3, 1) := by decide +kernel
theorem dL_law_640 : decode code 640 = .ok (.iconst 1, 1) := by decide +kernel
theorem dL_law_641 : decode code 641 = .ok (.iadd, 1) := by decide +kernel
theorem dL_law_642 : decode code 642 = .ok (.iaload, 1) := by decide +kernel
theorem dL_law_643 : decode code 643 = .ok (.aload_n 0, 1) := by decide +kernel
theorem dL_law_644 : decode code 644 = .ok (.iload_n 3, 1) := by decide +kernel
theorem dL_law_645 : decode code 645 = .ok (.iconst 2, 1) := by decide +kernel
theorem dL_law_646 : decode code 646 = .ok (.iadd, 1) := by decide +kernel
theorem dL_law_647 : decode code 647 = .ok (.iaload, 1) := by decide +kernel
theorem dL_law_648 : decode code 648 = .ok (.invokevirtual 78, 3) := by decide +kernel
theorem dL_law_651 : decode code 651 = .ok (.pop, 1) := by decide +kernel
theorem dL_law_652 : decode code 652 = .ok (.aload_n 2, 1) := by decide +kernel
theorem dL_law_653 : decode code 653 = .ok (.aload_n 0, 1) := by decide +kernel
theorem dL_law_654 : decode code 654 = .ok (.iload_n 3, 1) := by decide +kernel
theorem dL_law_655 : decode code 655 = .ok (.iconst 1, 1) := by decide +kernel
theorem dL_law_656 : decode code 656 = .ok (.iadd, 1) := by decide +kernel
theorem dL_law_657 : decode code 657 = .ok (.iaload, 1) := by decide +kernel
theorem dL_law_658 : decode code 658 = .ok (.aload_n 0, 1) := by decide +kernel
theorem dL_law_659 : decode code 659 = .ok (.iload_n 3, 1) := by decide +kernel
theorem dL_law_660 : decode code 660 = .ok (.iconst 2, 1) := by decide +kernel
theorem dL_law_661 : decode code 661 = .ok (.iadd, 1) := by decide +kernel
theorem dL_law_662 : decode code 662 = .ok (.iaload, 1) := by decide +kernel
theorem dL_law_663 : decode code 663 = .ok (.invokevirtual 81, 3) := by decide +kernel
theorem dL_law_666 : decode code 666 = .ok (.pop, 1) := by decide +kernel
theorem dL_law_667 : decode code 667 = .ok (.goto 728, 3) := by decide +kernel
theorem dL_law_670 : decode code 670 = .ok (.aload_n 1, 1) := by decide +kernel
theorem dL_law_671 : decode code 671 = .ok (.aload_n 0, 1) := by decide +kernel
theorem dL_law_672 : decode code 672 = .ok (.iload_n 3, 1) := by decide +kernel
theorem dL_law_673 : decode code 673 = .ok (.iconst 1, 1) := by decide +kernel
theorem dL_law_674 : decode code 674 = .ok (.iadd, 1) := by decide +kernel
theorem dL_law_675 : decode code 675 = .ok (.iaload, 1) := by decide +kernel
theorem dL_law_676 : decode code 676 = .ok (.aload_n 0, 1) := by decide +kernel
theorem dL_law_677 : decode code 677 = .ok (.iload_n 3, 1) := by decide +kernel
theorem dL_law_678 : decode code 678 = .ok (.iconst 2, 1) := by decide +kernel
theorem dL_law_679 : decode code 679 = .ok (.iadd, 1) := by decide +kernel
theorem dL_law_680 : decode code 680 = .ok (.iaload, 1) := by decide +kernel
theorem dL_law_681 : decode code 681 = .ok (.invokevirtual 82, 3) := by decide +kernel
theorem dL_law_684 : decode code 684 = .ok (.pop, 1) := by decide +kernel
theorem dL_law_685 : decode code 685 = .ok (.aload_n 2, 1) := by decide +kernel
theorem dL_law_686 : decode code 686 = .ok (.aload_n 0, 1) := by decide +kernel
theorem dL_law_687 : decode code 687 = .ok (.iload_n 3, 1) := by decide +kernel
theorem dL_law_688 : decode code 688 = .ok (.iconst 1, 1) := by decide +kernel
theorem dL_law_689 : decode code 689 = .ok (.iadd, 1) := by decide +kernel
theorem dL_law_690 : decode code 690 = .ok (.iaload, 1) := by decide +kernel
theorem dL_law_691 : decode code 691 = .ok (.aload_n 0, 1) := by decide +kernel
theorem dL_law_692 : decode code 692 = .ok (.iload_n 3, 1) := by decide +kernel
theorem dL_law_693 : decode code 693 = .ok (.iconst 2, 1) := by decide +kernel
theorem dL_law_694 : decode code 694 = .ok (.iadd, 1) := by decide +kernel
theorem dL_law_695 : decode code 695 = .ok (.iaload, 1) := by decide +kernel
theorem dL_law_696 : decode code 696 = .ok (.invokevirtual 85, 3) := by decide +kernel
theorem dL_law_699 : decode code 699 = .ok (.pop, 1) := by decide +kernel
theorem dL_law_700 : decode code 700 = .ok (.goto 695, 3) := by decide +kernel
theorem dL_law_703 : decode code 703 = .ok (.aload_n 1, 1) := by decide +kernel
theorem dL_law_704 : decode code 704 = .ok (.aload_n 0, 1) := by decide +kernel
theorem dL_law_705 : decode code 705 = .ok (.iload_n 3, 1) := by decide +kernel
theorem dL_law_706 : decode code 706 = .ok (.iconst 1, 1) := by decide +kernel
theorem dL_law_707 : decode code 707 = .ok (.iadd, 1) := by decide +kernel
theorem dL_law_708 : decode code 708 = .ok (.iaload, 1) := by decide +kernel
theorem dL_law_709 : decode code 709 = .ok (.invokevirtual 86, 3) := by decide +kernel
theorem dL_law_712 : decode code 712 = .ok (.pop2, 1) := by decide +kernel
theorem dL_law_713 : decode code 713 = .ok (.aload_n 2, 1) := by decide +kernel
theorem dL_law_714 : decode code 714 = .ok (.aload_n 0, 1) := by decide +kernel
theorem dL_law_715 : decode code 715 = .ok (.iload_n 3, 1) := by decide +kernel
theorem dL_law_716 : decode code 716 = .ok (.iconst 1, 1) := by decide +kernel
theorem dL_law_717 : decode code 717 = .ok (.iadd, 1) := by decide +kernel
theorem dL_law_718 : decode code 718 = .ok (.iaload, 1) := by decide +kernel
theorem dL_law_719 : decode code 719 = .ok (.invokevirtual 90, 3) := by decide +kernel
theorem dL_law_722 : decode code 722 = .ok (.pop2, 1) := by decide +kernel
theorem dL_law_723 : decode code 723 = .ok (.goto 672, 3) := by decide +kernel
theorem dL_law_726 : decode code 726 = .ok (.aload_n 1, 1) := by decide +kernel
theorem dL_law_727 : decode code 727 = .ok (.aload_n 0, 1) := by decide +kernel
theorem dL_law_728 : decode code 728 = .ok (.iload_n 3, 1) := by decide +kernel
theorem dL_law_729 : decode code 729 = .ok (.iconst 1, 1) := by decide +kernel
theorem dL_law_730 : decode code 730 = .ok (.iadd, 1) := by decide +kernel
theorem dL_law_731 : decode code 731 = .ok (.iaload, 1) := by decide +kernel
theorem dL_law_732 : decode code 732 = .ok (.aload_n 0, 1) := by decide +kernel
theorem dL_law_733 : decode code 733 = .ok (.iload_n 3, 1) := by decide +kernel
theorem dL_law_734 : decode code 734 = .ok (.iconst 2, 1) := by decide +kernel
theorem dL_law_735 : decode code 735 = .ok (.iadd, 1) := by decide +kernel
theorem dL_law_736 : decode code 736 = .ok (.iaload, 1) := by decide +kernel
theorem dL_law_737 : decode code 737 = .ok (.invokevirtual 91, 3) := by decide +kernel
theorem dL_law_740 : decode code 740 = .ok (.pop2, 1) := by decide +kernel
theorem dL_law_741 : decode code 741 = .ok (.aload_n 2, 1) := by decide +kernel
theorem dL_law_742 : decode code 742 = .ok (.aload_n 0, 1) := by decide +kernel
theorem dL_law_743 : decode code 743 = .ok (.iload_n 3, 1) := by decide +kernel
theorem dL_law_744 : decode code 744 = .ok (.iconst 1, 1) := by decide +kernel
theorem dL_law_745 : decode code 745 = .ok (.iadd, 1) := by decide +kernel
theorem dL_law_746 : decode code 746 = .ok (.iaload, 1) := by decide +kernel
theorem dL_law_747 : decode code 747 = .ok (.aload_n 0, 1) := by decide +kernel
theorem dL_law_748 : decode code 748 = .ok (.iload_n 3, 1) := by decide +kernel
theorem dL_law_749 : decode code 749 = .ok (.iconst 2, 1) := by decide +kernel
theorem dL_law_750 : decode code 750 = .ok (.iadd, 1) := by decide +kernel
theorem dL_law_751 : decode code 751 = .ok (.iaload, 1) := by decide +kernel
theorem dL_law_752 : decode code 752 = .ok (.invokevirtual 95, 3) := by decide +kernel
theorem dL_law_755 : decode code 755 = .ok (.pop2, 1) := by decide +kernel
theorem dL_law_756 : decode code 756 = .ok (.goto 639, 3) := by decide +kernel
theorem dL_law_759 : decode code 759 = .ok (.aload_n 1, 1) := by decide +kernel
theorem dL_law_760 : decode code 760 = .ok (.aload_n 0, 1) := by decide +kernel
theorem dL_law_761 : decode code 761 = .ok (.iload_n 3, 1) := by decide +kernel
theorem dL_law_762 : decode code 762 = .ok (.iconst 1, 1) := by decide +kernel
theorem dL_law_763 : decode code 763 = .ok (.iadd, 1) := by decide +kernel
theorem dL_law_764 : decode code 764 = .ok (.iaload, 1) := by decide +kernel
theorem dL_law_765 : decode code 765 = .ok (.invokevirtual 96, 3) := by decide +kernel
theorem dL_law_768 : decode code 768 = .ok (.pop, 1) := by decide +kernel
theorem dL_law_769 : decode code 769 = .ok (.aload_n 2, 1) := by decide +kernel
theorem dL_law_770 : decode code 770 = .ok (.aload_n 0, 1) := by decide +kernel
theorem dL_law_771 : decode code 771 = .ok (.iload_n 3, 1) := by decide +kernel
theorem dL_law_772 : decode code 772 = .ok (.iconst 1, 1) := by decide +kernel
theorem dL_law_773 : decode code 773 = .ok (.iadd, 1) := by decide +kernel
theorem dL_law_774 : decode code 774 = .ok (.iaload, 1) := by decide +kernel
theorem dL_law_775 : decode code 775 = .ok (.invokevirtual 99, 3) := by decide +kernel
theorem dL_law_778 : decode code 778 = .ok (.pop, 1) := by decide +kernel
theorem dL_law_779 : decode code 779 = .ok (.goto 616, 3) := by decide +kernel
theorem kw_930 : Cond.methodLink "FootholdWallLaw" 57 yX11_days ∈ gw := gw_of (tb_of 930 (by decide +kernel)) (by decide +kernel)
theorem kw_931 : Cond.instanceMethod yX11_days ∈ gw := gw_of (tb_of 931 (by decide +kernel)) (by decide +kernel)
theorem kw_932 : Cond.selects "FootholdWall" yX11_days yX11_days ∈ gw := gw_of (tb_of 932 (by decide +kernel)) (by decide +kernel)
theorem kw_933 : Cond.code yX11_days cX11_days 2 (some (.int)) ∈ gw := gw_of (tb_of 933 (by decide +kernel)) (by decide +kernel)
theorem kw_934 : Cond.methodLink "FootholdWallLaw" 61 yX11_rain ∈ gw := gw_of (tb_of 934 (by decide +kernel)) (by decide +kernel)
theorem kw_935 : Cond.instanceMethod yX11_rain ∈ gw := gw_of (tb_of 935 (by decide +kernel)) (by decide +kernel)
theorem kw_936 : Cond.selects "FootholdWall" yX11_rain yX11_rain ∈ gw := gw_of (tb_of 936 (by decide +kernel)) (by decide +kernel)
theorem kw_937 : Cond.code yX11_rain cX11_rain 3 (some (.int)) ∈ gw := gw_of (tb_of 937 (by decide +kernel)) (by decide +kernel)
theorem kw_942 : Cond.methodLink "FootholdWallLaw" 65 yX11_breaks ∈ gw := gw_of (tb_of 942 (by decide +kernel)) (by decide +kernel)
theorem kw_943 : Cond.instanceMethod yX11_breaks ∈ gw := gw_of (tb_of 943 (by decide +kernel)) (by decide +kernel)
theorem kw_944 : Cond.selects "FootholdWall" yX11_breaks yX11_breaks ∈ gw := gw_of (tb_of 944 (by decide +kernel)) (by decide +kernel)
theorem kw_945 : Cond.code yX11_breaks cX11_breaks 3 (some (.int)) ∈ gw := gw_of (tb_of 945 (by decide +kernel)) (by decide +kernel)
theorem kw_947 : Cond.methodLink "FootholdWallLaw" 69 yX11_newYear ∈ gw := gw_of (tb_of 947 (by decide +kernel)) (by decide +kernel)
theorem kw_948 : Cond.instanceMethod yX11_newYear ∈ gw := gw_of (tb_of 948 (by decide +kernel)) (by decide +kernel)
theorem kw_949 : Cond.selects "FootholdWall" yX11_newYear yX11_newYear ∈ gw := gw_of (tb_of 949 (by decide +kernel)) (by decide +kernel)
theorem kw_950 : Cond.code yX11_newYear cX11_newYear 2 (some (.int)) ∈ gw := gw_of (tb_of 950 (by decide +kernel)) (by decide +kernel)
theorem kw_951 : Cond.methodLink "FootholdWallLaw" 74 yX11_undo ∈ gw := gw_of (tb_of 951 (by decide +kernel)) (by decide +kernel)
theorem kw_952 : Cond.instanceMethod yX11_undo ∈ gw := gw_of (tb_of 952 (by decide +kernel)) (by decide +kernel)
theorem kw_953 : Cond.selects "FootholdWall" yX11_undo yX11_undo ∈ gw := gw_of (tb_of 953 (by decide +kernel)) (by decide +kernel)
theorem kw_954 : Cond.code yX11_undo cX11_undo 2 (some (.int)) ∈ gw := gw_of (tb_of 954 (by decide +kernel)) (by decide +kernel)
theorem kw_958 : Cond.methodLink "FootholdWallLaw" 78 yX11_season ∈ gw := gw_of (tb_of 958 (by decide +kernel)) (by decide +kernel)
theorem kw_959 : Cond.instanceMethod yX11_season ∈ gw := gw_of (tb_of 959 (by decide +kernel)) (by decide +kernel)
theorem kw_960 : Cond.selects "FootholdWall" yX11_season yX11_season ∈ gw := gw_of (tb_of 960 (by decide +kernel)) (by decide +kernel)
theorem kw_961 : Cond.code yX11_season cX11_season 9 (some (.int)) ∈ gw := gw_of (tb_of 961 (by decide +kernel)) (by decide +kernel)
theorem kw_966 : Cond.methodLink "FootholdWallLaw" 82 yX11_way ∈ gw := gw_of (tb_of 966 (by decide +kernel)) (by decide +kernel)
theorem kw_967 : Cond.instanceMethod yX11_way ∈ gw := gw_of (tb_of 967 (by decide +kernel)) (by decide +kernel)
theorem kw_968 : Cond.selects "FootholdWall" yX11_way yX11_way ∈ gw := gw_of (tb_of 968 (by decide +kernel)) (by decide +kernel)
theorem kw_969 : Cond.code yX11_way cX11_way 3 (some (.int)) ∈ gw := gw_of (tb_of 969 (by decide +kernel)) (by decide +kernel)
theorem kw_976 : Cond.methodLink "FootholdWallLaw" 86 yX11_ways ∈ gw := gw_of (tb_of 976 (by decide +kernel)) (by decide +kernel)
theorem kw_977 : Cond.instanceMethod yX11_ways ∈ gw := gw_of (tb_of 977 (by decide +kernel)) (by decide +kernel)
theorem kw_978 : Cond.selects "FootholdWall" yX11_ways yX11_ways ∈ gw := gw_of (tb_of 978 (by decide +kernel)) (by decide +kernel)
theorem kw_979 : Cond.code yX11_ways cX11_ways 2 (some (.long)) ∈ gw := gw_of (tb_of 979 (by decide +kernel)) (by decide +kernel)
theorem kw_989 : Cond.methodLink "FootholdWallLaw" 91 yX11_climbs ∈ gw := gw_of (tb_of 989 (by decide +kernel)) (by decide +kernel)
theorem kw_990 : Cond.instanceMethod yX11_climbs ∈ gw := gw_of (tb_of 990 (by decide +kernel)) (by decide +kernel)
theorem kw_991 : Cond.selects "FootholdWall" yX11_climbs yX11_climbs ∈ gw := gw_of (tb_of 991 (by decide +kernel)) (by decide +kernel)
theorem kw_992 : Cond.code yX11_climbs cX11_climbs 3 (some (.long)) ∈ gw := gw_of (tb_of 992 (by decide +kernel)) (by decide +kernel)
theorem kw_1010 : Cond.methodLink "FootholdWallLaw" 96 yX11_parties ∈ gw := gw_of (tb_of 1010 (by decide +kernel)) (by decide +kernel)
theorem kw_1011 : Cond.instanceMethod yX11_parties ∈ gw := gw_of (tb_of 1011 (by decide +kernel)) (by decide +kernel)
theorem kw_1012 : Cond.selects "FootholdWall" yX11_parties yX11_parties ∈ gw := gw_of (tb_of 1012 (by decide +kernel)) (by decide +kernel)
theorem kw_1013 : Cond.code yX11_parties cX11_parties 2 (some (.int)) ∈ gw := gw_of (tb_of 1013 (by decide +kernel)) (by decide +kernel)
theorem kw_1572 : Cond.methodLink "FootholdWallLaw" 60 yX12_days ∈ gw := gw_of (tb_of 1572 (by decide +kernel)) (by decide +kernel)
theorem kw_1573 : Cond.instanceMethod yX12_days ∈ gw := gw_of (tb_of 1573 (by decide +kernel)) (by decide +kernel)
theorem kw_1574 : Cond.selects "FootholdWallModel" yX12_days yX12_days ∈ gw := gw_of (tb_of 1574 (by decide +kernel)) (by decide +kernel)
theorem kw_1575 : Cond.code yX12_days cX12_days 2 (some (.int)) ∈ gw := gw_of (tb_of 1575 (by decide +kernel)) (by decide +kernel)
theorem kw_1577 : Cond.methodLink "FootholdWallLaw" 64 yX12_rain ∈ gw := gw_of (tb_of 1577 (by decide +kernel)) (by decide +kernel)
theorem kw_1578 : Cond.instanceMethod yX12_rain ∈ gw := gw_of (tb_of 1578 (by decide +kernel)) (by decide +kernel)
theorem kw_1579 : Cond.selects "FootholdWallModel" yX12_rain yX12_rain ∈ gw := gw_of (tb_of 1579 (by decide +kernel)) (by decide +kernel)
theorem kw_1580 : Cond.code yX12_rain cX12_rain 4 (some (.int)) ∈ gw := gw_of (tb_of 1580 (by decide +kernel)) (by decide +kernel)
theorem kw_1586 : Cond.methodLink "FootholdWallLaw" 68 yX12_breaks ∈ gw := gw_of (tb_of 1586 (by decide +kernel)) (by decide +kernel)
theorem kw_1587 : Cond.instanceMethod yX12_breaks ∈ gw := gw_of (tb_of 1587 (by decide +kernel)) (by decide +kernel)
theorem kw_1588 : Cond.selects "FootholdWallModel" yX12_breaks yX12_breaks ∈ gw := gw_of (tb_of 1588 (by decide +kernel)) (by decide +kernel)
theorem kw_1589 : Cond.code yX12_breaks cX12_breaks 3 (some (.int)) ∈ gw := gw_of (tb_of 1589 (by decide +kernel)) (by decide +kernel)
theorem kw_1590 : Cond.methodLink "FootholdWallLaw" 73 yX12_newYear ∈ gw := gw_of (tb_of 1590 (by decide +kernel)) (by decide +kernel)
theorem kw_1591 : Cond.instanceMethod yX12_newYear ∈ gw := gw_of (tb_of 1591 (by decide +kernel)) (by decide +kernel)
theorem kw_1592 : Cond.selects "FootholdWallModel" yX12_newYear yX12_newYear ∈ gw := gw_of (tb_of 1592 (by decide +kernel)) (by decide +kernel)
theorem kw_1593 : Cond.code yX12_newYear cX12_newYear 3 (some (.int)) ∈ gw := gw_of (tb_of 1593 (by decide +kernel)) (by decide +kernel)
theorem kw_1598 : Cond.methodLink "FootholdWallLaw" 77 yX12_undo ∈ gw := gw_of (tb_of 1598 (by decide +kernel)) (by decide +kernel)
theorem kw_1599 : Cond.instanceMethod yX12_undo ∈ gw := gw_of (tb_of 1599 (by decide +kernel)) (by decide +kernel)
theorem kw_1600 : Cond.selects "FootholdWallModel" yX12_undo yX12_undo ∈ gw := gw_of (tb_of 1600 (by decide +kernel)) (by decide +kernel)
theorem kw_1601 : Cond.code yX12_undo cX12_undo 3 (some (.int)) ∈ gw := gw_of (tb_of 1601 (by decide +kernel)) (by decide +kernel)
theorem kw_1603 : Cond.methodLink "FootholdWallLaw" 81 yX12_season ∈ gw := gw_of (tb_of 1603 (by decide +kernel)) (by decide +kernel)
theorem kw_1604 : Cond.instanceMethod yX12_season ∈ gw := gw_of (tb_of 1604 (by decide +kernel)) (by decide +kernel)
theorem kw_1605 : Cond.selects "FootholdWallModel" yX12_season yX12_season ∈ gw := gw_of (tb_of 1605 (by decide +kernel)) (by decide +kernel)
theorem kw_1606 : Cond.code yX12_season cX12_season 8 (some (.int)) ∈ gw := gw_of (tb_of 1606 (by decide +kernel)) (by decide +kernel)
theorem kw_1613 : Cond.methodLink "FootholdWallLaw" 85 yX12_way ∈ gw := gw_of (tb_of 1613 (by decide +kernel)) (by decide +kernel)
theorem kw_1614 : Cond.instanceMethod yX12_way ∈ gw := gw_of (tb_of 1614 (by decide +kernel)) (by decide +kernel)
theorem kw_1615 : Cond.selects "FootholdWallModel" yX12_way yX12_way ∈ gw := gw_of (tb_of 1615 (by decide +kernel)) (by decide +kernel)
theorem kw_1616 : Cond.code yX12_way cX12_way 3 (some (.int)) ∈ gw := gw_of (tb_of 1616 (by decide +kernel)) (by decide +kernel)
theorem kw_1618 : Cond.methodLink "FootholdWallLaw" 90 yX12_ways ∈ gw := gw_of (tb_of 1618 (by decide +kernel)) (by decide +kernel)
theorem kw_1619 : Cond.instanceMethod yX12_ways ∈ gw := gw_of (tb_of 1619 (by decide +kernel)) (by decide +kernel)
theorem kw_1620 : Cond.selects "FootholdWallModel" yX12_ways yX12_ways ∈ gw := gw_of (tb_of 1620 (by decide +kernel)) (by decide +kernel)
theorem kw_1621 : Cond.code yX12_ways cX12_ways 2 (some (.long)) ∈ gw := gw_of (tb_of 1621 (by decide +kernel)) (by decide +kernel)
theorem kw_1638 : Cond.methodLink "FootholdWallLaw" 95 yX12_climbs ∈ gw := gw_of (tb_of 1638 (by decide +kernel)) (by decide +kernel)
theorem kw_1639 : Cond.instanceMethod yX12_climbs ∈ gw := gw_of (tb_of 1639 (by decide +kernel)) (by decide +kernel)
theorem kw_1640 : Cond.selects "FootholdWallModel" yX12_climbs yX12_climbs ∈ gw := gw_of (tb_of 1640 (by decide +kernel)) (by decide +kernel)
theorem kw_1641 : Cond.code yX12_climbs cX12_climbs 3 (some (.long)) ∈ gw := gw_of (tb_of 1641 (by decide +kernel)) (by decide +kernel)
theorem kw_1648 : Cond.methodLink "FootholdWallLaw" 99 yX12_parties ∈ gw := gw_of (tb_of 1648 (by decide +kernel)) (by decide +kernel)
theorem kw_1649 : Cond.instanceMethod yX12_parties ∈ gw := gw_of (tb_of 1649 (by decide +kernel)) (by decide +kernel)
theorem kw_1650 : Cond.selects "FootholdWallModel" yX12_parties yX12_parties ∈ gw := gw_of (tb_of 1650 (by decide +kernel)) (by decide +kernel)
theorem kw_1651 : Cond.code yX12_parties cX12_parties 2 (some (.int)) ∈ gw := gw_of (tb_of 1651 (by decide +kernel)) (by decide +kernel)
set_option maxHeartbeats 4000000 in
set_option maxRecDepth 100000 in
/-- days -/
theorem lw_c10 {p : Program} {e : Env} {s : State} {m : MethodId} {below : List Frame} {meth : Method} {c : Code} {Q : State → Prop} (l : Launch) (D : va_G) (cs : CS) (kf : KF) {b L : Nat} {xs : Nat → Int32} (hx : p.tables.exec = Jvm.exec) (hb : c.code = code) (hml : c.maxLocals = 4) (hown : s.vm.findClass R_law = some m.cls) (hts : ∀ w ∈ gw, w.before #[Value.ref b] s = true) (hX : va_X b L xs s s.heap) (hbl : b < s.heap.size) (hkb : kb D (tyc cs) s) (hks : kS kf s) {A : Nat → Prop} (hE : kE kf A s s.heap) (hA : ∀ q, s.heap.size ≤ q → A q) (hbA : ¬ A b) (hL : L ≤ 3072) (O : List Nat) (X : va_W) (hOX0 : ∀ o ∈ O, ∃ (k : Nat) (e : va_E), X[k]? = some (o, e)) (hO9 : O = []) (a0 ch a1 y2 y3 tk tp tm : Nat) (T : TF) (w hw gw hg G M y0 nn j : Nat) (y1 : Int32) (o0 : Value) (k1 k2 k3 k4 k5 k6 k7 : Int32) (ft f3 : Nat → Int32) (t : Tp) (x3 : Int32) (n cells slots : Nat) (H : Heap) (locs : List Loc) (ls : Array Slot) (hv : LV T a0 a1 ch w hw gw hg G M y0 y2 y3 nn j y1) (hlx : LX T tk tp tm) (hlg : LG G M ft f3 t k6 k7) (hlk : LK k1 k2 k3) (hr : RM cells slots n j) (hn512 : n < 512) (l_x3 : 0 ≤ x3.toInt) (u_x3 : x3.toInt + 6 ≤ L) (hH : HT D cs A T (ch :: tk :: tp :: tm :: O) ((ch, .inr (0, [.ref y0, .int y1, .ref y2, .ref y3])) :: (tk, .inr (7, [o0, .int k1, .int k2, .int k3, .int k4, .int k5, .int k6, .int k7])) :: (tp, .inl (cs.1, 900, .inl ft)) :: (tm, .inl (cs.2.1, 900, .inl f3)) :: X) H) (hS : va_S A s.heap H locs) (hl : lv_has ls 4 [(0, .ref b), (1, .ref a0), (2, .ref a1), (3, .int x3)]) (kk : ∀ (T : TF) (w hw gw hg G M y0 nn j : Nat) (y1 : Int32) (o0 : Value) (k1 k2 k3 k4 k5 k6 k7 : Int32) (ft f3 : Nat → Int32) (t : Tp) (cells slots : Nat) (H : Heap) (locs : List Loc) (ls : Array Slot), LV T a0 a1 ch w hw gw hg G M y0 y2 y3 nn j y1 → LX T tk tp tm → LG G M ft f3 t k6 k7 → LK k1 k2 k3 → RM cells slots (n + 1) j → HT D cs A T (ch :: tk :: tp :: tm :: O) ((ch, .inr (0, [.ref y0, .int y1, .ref y2, .ref y3])) :: (tk, .inr (7, [o0, .int k1, .int k2, .int k3, .int k4, .int k5, .int k6, .int k7])) :: (tp, .inl (cs.1, 900, .inl ft)) :: (tm, .inl (cs.2.1, 900, .inl f3)) :: X) H → va_S A s.heap H locs → lv_has ls 4 [(0, .ref b), (1, .ref a0), (2, .ref a1), (3, .int x3)] → W p l e room_1 s m #[Value.ref b] below meth c H locs cells slots Q (F0 m 1395 ls [])) : W p l e room_1 s m #[Value.ref b] below meth c H locs cells slots Q (F0 m 532 ls []) := by
  obtain ⟨t_a0, t_w, t_a1, b_hg, hU, hU1, t_ch, t_y0, l_y1, u_y1, t_y2, t_y3, hn, hj⟩ := id hv
  obtain ⟨t_tk, t_tp, t_tm, hU7, hU0, hU9⟩ := id hlx
  obtain ⟨lk1, lk2, lk3, lk4, lk5, lk6⟩ := id hlk
  have hO := okc hO9 t_ch t_tk t_tp t_tm
  obtain ⟨hr1, hr2⟩ := id hr
  have hOX : ∀ o ∈ (ch :: tk :: tp :: tm :: O), ∃ (k : Nat) (e : va_E), ((ch, .inr (0, [.ref y0, .int y1, .ref y2, .ref y3])) :: (tk, .inr (7, [o0, .int k1, .int k2, .int k3, .int k4, .int k5, .int k6, .int k7])) :: (tp, .inl (cs.1, 900, .inl ft)) :: (tm, .inl (cs.2.1, 900, .inl f3)) :: X)[k]? = some (o, e) := ox_c (ox_c (ox_c (ox_c hOX0)))
  have hOXf := hOX
  have b1_w := t_w.2.1
  have b2_w := t_w.2.2
  refine lv_aload_n hx hb dL_law_532 rfl (lv_at hl 1 rfl) ?_
  refine lv_aload_n hx hb dL_law_533 rfl (lv_at hl 0 rfl) ?_
  refine lv_iload_n hx hb dL_law_534 rfl (lv_at hl 3 rfl) ?_
  refine lv_iconst (v := 1) hx hb dL_law_535 (by decide) ?_
  refine lv_iadd hx hb dL_law_536 ?_
  refine lv_topi (fun v536 ev536 => ?_)
  have tv536 : v536.toInt = x3.toInt + (1) := by rw [ev536]; exact add_i rfl (by decide : (1 : Int32).toInt = 1) (by omega) (by omega)
  refine va_sld hx hb hX hbl hbA hS (in_t (by omega) (by omega)) dL_law_537 ?_
  refine lv_topi (fun v537 ev537 => ?_)
  refine tk_i hH hS hA (tr_V (n := 1) (As := [.int v537]) hx hb hml hown hts hkb hH (ox_map hOX rfl) hks hE hS hA (s_FW_days l D cs kf T (ch :: tk :: tp :: tm :: O) ((ch, .inr (0, [.ref y0, .int y1, .ref y2, .ref y3])) :: (tk, .inr (7, [o0, .int k1, .int k2, .int k3, .int k4, .int k5, .int k6, .int k7])) :: (tp, .inl (cs.1, 900, .inl ft)) :: (tm, .inl (cs.2.1, 900, .inl f3)) :: X) a0 w hw gw ch G v537 t_a0 t_w t_ch (hO.sub (by decide))) kw_930 kw_931 kw_932 kw_1 kw_933 (by decide +kernel) ⟨Nat.le_of_ble_eq_true rfl, Nat.le_of_ble_eq_true rfl⟩ (HT.recv (ci := 11) hkb hH t_a0 (hO.no t_a0 (by decide)) rfl) rfl rfl hl.1 (Nat.le_of_ble_eq_true rfl) dL_law_538 ⟨by show cells + 0 ≤ 600000; omega, by show slots + 0 ≤ 7302250; omega⟩) (fun v538 u H locs hz9 hH hS => ?_)
  have hz9 : u = (T, ch :: tk :: tp :: tm :: O, (ch, .inr (0, [.ref y0, .int y1, .ref y2, .ref y3])) :: (tk, .inr (7, [o0, .int k1, .int k2, .int k3, .int k4, .int k5, .int k6, .int k7])) :: (tp, .inl (cs.1, 900, .inl ft)) :: (tm, .inl (cs.2.1, 900, .inl f3)) :: X) := hz9
  subst hz9
  have hH : HT D cs A T (ch :: tk :: tp :: tm :: O) ((ch, .inr (0, [.ref y0, .int y1, .ref y2, .ref y3])) :: (tk, .inr (7, [o0, .int k1, .int k2, .int k3, .int k4, .int k5, .int k6, .int k7])) :: (tp, .inl (cs.1, 900, .inl ft)) :: (tm, .inl (cs.2.1, 900, .inl f3)) :: X) H := hH
  refine W.widen (k := cells) (n := slots) (Nat.le_refl _) (Nat.le_refl _) ?_
  refine lv_pop hx hb dL_law_541 rfl ?_
  refine lv_aload_n hx hb dL_law_542 rfl (lv_at hl 2 rfl) ?_
  refine lv_aload_n hx hb dL_law_543 rfl (lv_at hl 0 rfl) ?_
  refine lv_iload_n hx hb dL_law_544 rfl (lv_at hl 3 rfl) ?_
  refine lv_iconst (v := 1) hx hb dL_law_545 (by decide) ?_
  refine lv_iadd hx hb dL_law_546 ?_
  refine lv_topi (fun v546 ev546 => ?_)
  have tv546 : v546.toInt = x3.toInt + (1) := by rw [ev546]; exact add_i rfl (by decide : (1 : Int32).toInt = 1) (by omega) (by omega)
  refine va_sld hx hb hX hbl hbA hS (in_t (by omega) (by omega)) dL_law_547 ?_
  refine lv_topi (fun v547 ev547 => ?_)
  refine tk_i hH hS hA (tr_V (n := 1) (As := [.int v547]) hx hb hml hown hts hkb hH (ox_map hOX rfl) hks hE hS hA (s_M_days l D cs kf T (ch :: tk :: tp :: tm :: O) ((ch, .inr (0, [.ref y0, .int y1, .ref y2, .ref y3])) :: (tk, .inr (7, [o0, .int k1, .int k2, .int k3, .int k4, .int k5, .int k6, .int k7])) :: (tp, .inl (cs.1, 900, .inl ft)) :: (tm, .inl (cs.2.1, 900, .inl f3)) :: X) a1 hg M v547 t_a1 b_hg (hO.sub (by decide))) kw_1572 kw_1573 kw_1574 kw_13 kw_1575 (by decide +kernel) ⟨Nat.le_of_ble_eq_true rfl, Nat.le_of_ble_eq_true rfl⟩ (HT.recv (ci := 12) hkb hH t_a1 (hO.no t_a1 (by decide)) rfl) rfl rfl hl.1 (Nat.le_of_ble_eq_true rfl) dL_law_548 ⟨by show cells + 0 ≤ 600000; omega, by show slots + 0 ≤ 7302250; omega⟩) (fun v548 u H locs hz9 hH hS => ?_)
  have hz9 : u = (T, ch :: tk :: tp :: tm :: O, (ch, .inr (0, [.ref y0, .int y1, .ref y2, .ref y3])) :: (tk, .inr (7, [o0, .int k1, .int k2, .int k3, .int k4, .int k5, .int k6, .int k7])) :: (tp, .inl (cs.1, 900, .inl ft)) :: (tm, .inl (cs.2.1, 900, .inl f3)) :: X) := hz9
  subst hz9
  have hH : HT D cs A T (ch :: tk :: tp :: tm :: O) ((ch, .inr (0, [.ref y0, .int y1, .ref y2, .ref y3])) :: (tk, .inr (7, [o0, .int k1, .int k2, .int k3, .int k4, .int k5, .int k6, .int k7])) :: (tp, .inl (cs.1, 900, .inl ft)) :: (tm, .inl (cs.2.1, 900, .inl f3)) :: X) H := hH
  refine W.widen (k := cells) (n := slots) (Nat.le_refl _) (Nat.le_refl _) ?_
  refine lv_pop hx hb dL_law_551 rfl ?_
  refine lv_goto (tgt := 1395) hx hb dL_law_552 (by decide) ?_
  exact kk T w hw gw hg G M y0 nn j y1 o0 k1 k2 k3 k4 k5 k6 k7 ft f3 t _ _ _ _ _ hv hlx hlg hlk hr.s hH hS (lv_sub hl [0, 1, 2, 3] rfl)
set_option maxHeartbeats 4000000 in
set_option maxRecDepth 100000 in
/-- rain -/
theorem lw_c11 {p : Program} {e : Env} {s : State} {m : MethodId} {below : List Frame} {meth : Method} {c : Code} {Q : State → Prop} (l : Launch) (D : va_G) (cs : CS) (kf : KF) {b L : Nat} {xs : Nat → Int32} (hx : p.tables.exec = Jvm.exec) (hb : c.code = code) (hml : c.maxLocals = 4) (hown : s.vm.findClass R_law = some m.cls) (hts : ∀ w ∈ gw, w.before #[Value.ref b] s = true) (hX : va_X b L xs s s.heap) (hbl : b < s.heap.size) (hkb : kb D (tyc cs) s) (hks : kS kf s) {A : Nat → Prop} (hE : kE kf A s s.heap) (hA : ∀ q, s.heap.size ≤ q → A q) (hbA : ¬ A b) (hL : L ≤ 3072) (O : List Nat) (X : va_W) (hOX0 : ∀ o ∈ O, ∃ (k : Nat) (e : va_E), X[k]? = some (o, e)) (hO9 : O = []) (a0 ch a1 y2 y3 tk tp tm : Nat) (T : TF) (w hw gw hg G M y0 nn j : Nat) (y1 : Int32) (o0 : Value) (k1 k2 k3 k4 k5 k6 k7 : Int32) (ft f3 : Nat → Int32) (t : Tp) (x3 : Int32) (n cells slots : Nat) (H : Heap) (locs : List Loc) (ls : Array Slot) (hv : LV T a0 a1 ch w hw gw hg G M y0 y2 y3 nn j y1) (hlx : LX T tk tp tm) (hlg : LG G M ft f3 t k6 k7) (hlk : LK k1 k2 k3) (hr : RM cells slots n j) (hn512 : n < 512) (l_x3 : 0 ≤ x3.toInt) (u_x3 : x3.toInt + 6 ≤ L) (hH : HT D cs A T (ch :: tk :: tp :: tm :: O) ((ch, .inr (0, [.ref y0, .int y1, .ref y2, .ref y3])) :: (tk, .inr (7, [o0, .int k1, .int k2, .int k3, .int k4, .int k5, .int k6, .int k7])) :: (tp, .inl (cs.1, 900, .inl ft)) :: (tm, .inl (cs.2.1, 900, .inl f3)) :: X) H) (hS : va_S A s.heap H locs) (hl : lv_has ls 4 [(0, .ref b), (1, .ref a0), (2, .ref a1), (3, .int x3)]) (kk : ∀ (T : TF) (w hw gw hg G M y0 nn j : Nat) (y1 : Int32) (o0 : Value) (k1 k2 k3 k4 k5 k6 k7 : Int32) (ft f3 : Nat → Int32) (t : Tp) (cells slots : Nat) (H : Heap) (locs : List Loc) (ls : Array Slot), LV T a0 a1 ch w hw gw hg G M y0 y2 y3 nn j y1 → LX T tk tp tm → LG G M ft f3 t k6 k7 → LK k1 k2 k3 → RM cells slots (n + 1) j → HT D cs A T (ch :: tk :: tp :: tm :: O) ((ch, .inr (0, [.ref y0, .int y1, .ref y2, .ref y3])) :: (tk, .inr (7, [o0, .int k1, .int k2, .int k3, .int k4, .int k5, .int k6, .int k7])) :: (tp, .inl (cs.1, 900, .inl ft)) :: (tm, .inl (cs.2.1, 900, .inl f3)) :: X) H → va_S A s.heap H locs → lv_has ls 4 [(0, .ref b), (1, .ref a0), (2, .ref a1), (3, .int x3)] → W p l e room_1 s m #[Value.ref b] below meth c H locs cells slots Q (F0 m 1395 ls [])) : W p l e room_1 s m #[Value.ref b] below meth c H locs cells slots Q (F0 m 555 ls []) := by
  obtain ⟨t_a0, t_w, t_a1, b_hg, hU, hU1, t_ch, t_y0, l_y1, u_y1, t_y2, t_y3, hn, hj⟩ := id hv
  obtain ⟨t_tk, t_tp, t_tm, hU7, hU0, hU9⟩ := id hlx
  obtain ⟨lk1, lk2, lk3, lk4, lk5, lk6⟩ := id hlk
  have hO := okc hO9 t_ch t_tk t_tp t_tm
  obtain ⟨hr1, hr2⟩ := id hr
  have hOX : ∀ o ∈ (ch :: tk :: tp :: tm :: O), ∃ (k : Nat) (e : va_E), ((ch, .inr (0, [.ref y0, .int y1, .ref y2, .ref y3])) :: (tk, .inr (7, [o0, .int k1, .int k2, .int k3, .int k4, .int k5, .int k6, .int k7])) :: (tp, .inl (cs.1, 900, .inl ft)) :: (tm, .inl (cs.2.1, 900, .inl f3)) :: X)[k]? = some (o, e) := ox_c (ox_c (ox_c (ox_c hOX0)))
  have hOXf := hOX
  have b1_w := t_w.2.1
  have b2_w := t_w.2.2
  refine lv_aload_n hx hb dL_law_555 rfl (lv_at hl 1 rfl) ?_
  refine lv_aload_n hx hb dL_law_556 rfl (lv_at hl 0 rfl) ?_
  refine lv_iload_n hx hb dL_law_557 rfl (lv_at hl 3 rfl) ?_
  refine lv_iconst (v := 1) hx hb dL_law_558 (by decide) ?_
  refine lv_iadd hx hb dL_law_559 ?_
  refine lv_topi (fun v559 ev559 => ?_)
  have tv559 : v559.toInt = x3.toInt + (1) := by rw [ev559]; exact add_i rfl (by decide : (1 : Int32).toInt = 1) (by omega) (by omega)
  refine va_sld hx hb hX hbl hbA hS (in_t (by omega) (by omega)) dL_law_560 ?_
  refine lv_topi (fun v560 ev560 => ?_)
  refine tk_i hH hS hA (tr_V (n := 1) (As := [.int v560]) hx hb hml hown hts hkb hH (ox_map hOX rfl) hks hE hS hA (s_FW_rain l D cs kf T (ch :: tk :: tp :: tm :: O) ((ch, .inr (0, [.ref y0, .int y1, .ref y2, .ref y3])) :: (tk, .inr (7, [o0, .int k1, .int k2, .int k3, .int k4, .int k5, .int k6, .int k7])) :: (tp, .inl (cs.1, 900, .inl ft)) :: (tm, .inl (cs.2.1, 900, .inl f3)) :: X) a0 w hw gw ch G v560 t_a0 t_w t_ch (hO.sub (by decide))) kw_934 kw_935 kw_936 kw_1 kw_937 (by decide +kernel) ⟨Nat.le_of_ble_eq_true rfl, Nat.le_of_ble_eq_true rfl⟩ (HT.recv (ci := 11) hkb hH t_a0 (hO.no t_a0 (by decide)) rfl) rfl rfl hl.1 (Nat.le_of_ble_eq_true rfl) dL_law_561 ⟨by show cells + 0 ≤ 600000; omega, by show slots + 0 ≤ 7302250; omega⟩) (fun v561 u H locs hz9 hH hS => ?_)
  have hz9 : u = (T, ch :: tk :: tp :: tm :: O, (ch, .inr (0, [.ref y0, .int y1, .ref y2, .ref y3])) :: (tk, .inr (7, [o0, .int k1, .int k2, .int k3, .int k4, .int k5, .int k6, .int k7])) :: (tp, .inl (cs.1, 900, .inl ft)) :: (tm, .inl (cs.2.1, 900, .inl f3)) :: X) := hz9
  subst hz9
  have hH : HT D cs A T (ch :: tk :: tp :: tm :: O) ((ch, .inr (0, [.ref y0, .int y1, .ref y2, .ref y3])) :: (tk, .inr (7, [o0, .int k1, .int k2, .int k3, .int k4, .int k5, .int k6, .int k7])) :: (tp, .inl (cs.1, 900, .inl ft)) :: (tm, .inl (cs.2.1, 900, .inl f3)) :: X) H := hH
  refine W.widen (k := cells) (n := slots) (Nat.le_refl _) (Nat.le_refl _) ?_
  refine lv_pop hx hb dL_law_564 rfl ?_
  refine lv_aload_n hx hb dL_law_565 rfl (lv_at hl 2 rfl) ?_
  refine lv_aload_n hx hb dL_law_566 rfl (lv_at hl 0 rfl) ?_
  refine lv_iload_n hx hb dL_law_567 rfl (lv_at hl 3 rfl) ?_
  refine lv_iconst (v := 1) hx hb dL_law_568 (by decide) ?_
  refine lv_iadd hx hb dL_law_569 ?_
  refine lv_topi (fun v569 ev569 => ?_)
  have tv569 : v569.toInt = x3.toInt + (1) := by rw [ev569]; exact add_i rfl (by decide : (1 : Int32).toInt = 1) (by omega) (by omega)
  refine va_sld hx hb hX hbl hbA hS (in_t (by omega) (by omega)) dL_law_570 ?_
  refine lv_topi (fun v570 ev570 => ?_)
  refine tk_i hH hS hA (tr_V (n := 1) (As := [.int v570]) hx hb hml hown hts hkb hH (ox_map hOX rfl) hks hE hS hA (s_M_rain l D cs kf T (ch :: tk :: tp :: tm :: O) ((ch, .inr (0, [.ref y0, .int y1, .ref y2, .ref y3])) :: (tk, .inr (7, [o0, .int k1, .int k2, .int k3, .int k4, .int k5, .int k6, .int k7])) :: (tp, .inl (cs.1, 900, .inl ft)) :: (tm, .inl (cs.2.1, 900, .inl f3)) :: X) a1 hg M v570 t_a1 b_hg (hO.sub (by decide))) kw_1577 kw_1578 kw_1579 kw_13 kw_1580 (by decide +kernel) ⟨Nat.le_of_ble_eq_true rfl, Nat.le_of_ble_eq_true rfl⟩ (HT.recv (ci := 12) hkb hH t_a1 (hO.no t_a1 (by decide)) rfl) rfl rfl hl.1 (Nat.le_of_ble_eq_true rfl) dL_law_571 ⟨by show cells + 0 ≤ 600000; omega, by show slots + 0 ≤ 7302250; omega⟩) (fun v571 u H locs hz9 hH hS => ?_)
  have hz9 : u = (T, ch :: tk :: tp :: tm :: O, (ch, .inr (0, [.ref y0, .int y1, .ref y2, .ref y3])) :: (tk, .inr (7, [o0, .int k1, .int k2, .int k3, .int k4, .int k5, .int k6, .int k7])) :: (tp, .inl (cs.1, 900, .inl ft)) :: (tm, .inl (cs.2.1, 900, .inl f3)) :: X) := hz9
  subst hz9
  have hH : HT D cs A T (ch :: tk :: tp :: tm :: O) ((ch, .inr (0, [.ref y0, .int y1, .ref y2, .ref y3])) :: (tk, .inr (7, [o0, .int k1, .int k2, .int k3, .int k4, .int k5, .int k6, .int k7])) :: (tp, .inl (cs.1, 900, .inl ft)) :: (tm, .inl (cs.2.1, 900, .inl f3)) :: X) H := hH
  refine W.widen (k := cells) (n := slots) (Nat.le_refl _) (Nat.le_refl _) ?_
  refine lv_pop hx hb dL_law_574 rfl ?_
  refine lv_goto (tgt := 1395) hx hb dL_law_575 (by decide) ?_
  exact kk T w hw gw hg G M y0 nn j y1 o0 k1 k2 k3 k4 k5 k6 k7 ft f3 t _ _ _ _ _ hv hlx hlg hlk hr.s hH hS (lv_sub hl [0, 1, 2, 3] rfl)
set_option maxHeartbeats 4000000 in
set_option maxRecDepth 100000 in
/-- breaks -/
theorem lw_c12 {p : Program} {e : Env} {s : State} {m : MethodId} {below : List Frame} {meth : Method} {c : Code} {Q : State → Prop} (l : Launch) (D : va_G) (cs : CS) (kf : KF) {b L : Nat} {xs : Nat → Int32} (hx : p.tables.exec = Jvm.exec) (hb : c.code = code) (hml : c.maxLocals = 4) (hown : s.vm.findClass R_law = some m.cls) (hts : ∀ w ∈ gw, w.before #[Value.ref b] s = true) (hX : va_X b L xs s s.heap) (hbl : b < s.heap.size) (hkb : kb D (tyc cs) s) (hks : kS kf s) {A : Nat → Prop} (hE : kE kf A s s.heap) (hA : ∀ q, s.heap.size ≤ q → A q) (hbA : ¬ A b) (hL : L ≤ 3072) (O : List Nat) (X : va_W) (hOX0 : ∀ o ∈ O, ∃ (k : Nat) (e : va_E), X[k]? = some (o, e)) (hO9 : O = []) (a0 ch a1 y2 y3 tk tp tm : Nat) (T : TF) (w hw gw hg G M y0 nn j : Nat) (y1 : Int32) (o0 : Value) (k1 k2 k3 k4 k5 k6 k7 : Int32) (ft f3 : Nat → Int32) (t : Tp) (x3 : Int32) (n cells slots : Nat) (H : Heap) (locs : List Loc) (ls : Array Slot) (hv : LV T a0 a1 ch w hw gw hg G M y0 y2 y3 nn j y1) (hlx : LX T tk tp tm) (hlg : LG G M ft f3 t k6 k7) (hlk : LK k1 k2 k3) (hr : RM cells slots n j) (hn512 : n < 512) (l_x3 : 0 ≤ x3.toInt) (u_x3 : x3.toInt + 6 ≤ L) (hH : HT D cs A T (ch :: tk :: tp :: tm :: O) ((ch, .inr (0, [.ref y0, .int y1, .ref y2, .ref y3])) :: (tk, .inr (7, [o0, .int k1, .int k2, .int k3, .int k4, .int k5, .int k6, .int k7])) :: (tp, .inl (cs.1, 900, .inl ft)) :: (tm, .inl (cs.2.1, 900, .inl f3)) :: X) H) (hS : va_S A s.heap H locs) (hl : lv_has ls 4 [(0, .ref b), (1, .ref a0), (2, .ref a1), (3, .int x3)]) (kk : ∀ (T : TF) (w hw gw hg G M y0 nn j : Nat) (y1 : Int32) (o0 : Value) (k1 k2 k3 k4 k5 k6 k7 : Int32) (ft f3 : Nat → Int32) (t : Tp) (cells slots : Nat) (H : Heap) (locs : List Loc) (ls : Array Slot), LV T a0 a1 ch w hw gw hg G M y0 y2 y3 nn j y1 → LX T tk tp tm → LG G M ft f3 t k6 k7 → LK k1 k2 k3 → RM cells slots (n + 1) j → HT D cs A T (ch :: tk :: tp :: tm :: O) ((ch, .inr (0, [.ref y0, .int y1, .ref y2, .ref y3])) :: (tk, .inr (7, [o0, .int k1, .int k2, .int k3, .int k4, .int k5, .int k6, .int k7])) :: (tp, .inl (cs.1, 900, .inl ft)) :: (tm, .inl (cs.2.1, 900, .inl f3)) :: X) H → va_S A s.heap H locs → lv_has ls 4 [(0, .ref b), (1, .ref a0), (2, .ref a1), (3, .int x3)] → W p l e room_1 s m #[Value.ref b] below meth c H locs cells slots Q (F0 m 1395 ls [])) : W p l e room_1 s m #[Value.ref b] below meth c H locs cells slots Q (F0 m 578 ls []) := by
  obtain ⟨t_a0, t_w, t_a1, b_hg, hU, hU1, t_ch, t_y0, l_y1, u_y1, t_y2, t_y3, hn, hj⟩ := id hv
  obtain ⟨t_tk, t_tp, t_tm, hU7, hU0, hU9⟩ := id hlx
  obtain ⟨lk1, lk2, lk3, lk4, lk5, lk6⟩ := id hlk
  have hO := okc hO9 t_ch t_tk t_tp t_tm
  obtain ⟨hr1, hr2⟩ := id hr
  have hOX : ∀ o ∈ (ch :: tk :: tp :: tm :: O), ∃ (k : Nat) (e : va_E), ((ch, .inr (0, [.ref y0, .int y1, .ref y2, .ref y3])) :: (tk, .inr (7, [o0, .int k1, .int k2, .int k3, .int k4, .int k5, .int k6, .int k7])) :: (tp, .inl (cs.1, 900, .inl ft)) :: (tm, .inl (cs.2.1, 900, .inl f3)) :: X)[k]? = some (o, e) := ox_c (ox_c (ox_c (ox_c hOX0)))
  have hOXf := hOX
  have b1_w := t_w.2.1
  have b2_w := t_w.2.2
  refine lv_aload_n hx hb dL_law_578 rfl (lv_at hl 1 rfl) ?_
  refine lv_aload_n hx hb dL_law_579 rfl (lv_at hl 0 rfl) ?_
  refine lv_iload_n hx hb dL_law_580 rfl (lv_at hl 3 rfl) ?_
  refine lv_iconst (v := 1) hx hb dL_law_581 (by decide) ?_
  refine lv_iadd hx hb dL_law_582 ?_
  refine lv_topi (fun v582 ev582 => ?_)
  have tv582 : v582.toInt = x3.toInt + (1) := by rw [ev582]; exact add_i rfl (by decide : (1 : Int32).toInt = 1) (by omega) (by omega)
  refine va_sld hx hb hX hbl hbA hS (in_t (by omega) (by omega)) dL_law_583 ?_
  refine lv_topi (fun v583 ev583 => ?_)
  refine tk_i hH hS hA (tr_V (n := 1) (As := [.int v583]) hx hb hml hown hts hkb hH (ox_map hOX rfl) hks hE hS hA (s_FW_breaks l D cs kf T (ch :: tk :: tp :: tm :: O) ((ch, .inr (0, [.ref y0, .int y1, .ref y2, .ref y3])) :: (tk, .inr (7, [o0, .int k1, .int k2, .int k3, .int k4, .int k5, .int k6, .int k7])) :: (tp, .inl (cs.1, 900, .inl ft)) :: (tm, .inl (cs.2.1, 900, .inl f3)) :: X) a0 w hw gw ch G v583 t_a0 t_w t_ch (hO.sub (by decide))) kw_942 kw_943 kw_944 kw_1 kw_945 (by decide +kernel) ⟨Nat.le_of_ble_eq_true rfl, Nat.le_of_ble_eq_true rfl⟩ (HT.recv (ci := 11) hkb hH t_a0 (hO.no t_a0 (by decide)) rfl) rfl rfl hl.1 (Nat.le_of_ble_eq_true rfl) dL_law_584 ⟨by show cells + 0 ≤ 600000; omega, by show slots + 0 ≤ 7302250; omega⟩) (fun v584 u H locs hz9 hH hS => ?_)
  obtain ⟨rfl, l_v584, u_v584⟩ := hz9
  have hH : HT D cs A T (ch :: tk :: tp :: tm :: O) ((ch, .inr (0, [.ref y0, .int y1, .ref y2, .ref y3])) :: (tk, .inr (7, [o0, .int k1, .int k2, .int k3, .int k4, .int k5, .int k6, .int k7])) :: (tp, .inl (cs.1, 900, .inl ft)) :: (tm, .inl (cs.2.1, 900, .inl f3)) :: X) H := hH
  refine W.widen (k := cells) (n := slots) (Nat.le_refl _) (Nat.le_refl _) ?_
  refine lv_pop hx hb dL_law_587 rfl ?_
  refine lv_aload_n hx hb dL_law_588 rfl (lv_at hl 2 rfl) ?_
  refine lv_aload_n hx hb dL_law_589 rfl (lv_at hl 0 rfl) ?_
  refine lv_iload_n hx hb dL_law_590 rfl (lv_at hl 3 rfl) ?_
  refine lv_iconst (v := 1) hx hb dL_law_591 (by decide) ?_
  refine lv_iadd hx hb dL_law_592 ?_
  refine lv_topi (fun v592 ev592 => ?_)
  have tv592 : v592.toInt = x3.toInt + (1) := by rw [ev592]; exact add_i rfl (by decide : (1 : Int32).toInt = 1) (by omega) (by omega)
  refine va_sld hx hb hX hbl hbA hS (in_t (by omega) (by omega)) dL_law_593 ?_
  refine lv_topi (fun v593 ev593 => ?_)
  refine tk_i hH hS hA (tr_V (n := 1) (As := [.int v593]) hx hb hml hown hts hkb hH (ox_map hOX rfl) hks hE hS hA (s_M_breaks l D cs kf T (ch :: tk :: tp :: tm :: O) ((ch, .inr (0, [.ref y0, .int y1, .ref y2, .ref y3])) :: (tk, .inr (7, [o0, .int k1, .int k2, .int k3, .int k4, .int k5, .int k6, .int k7])) :: (tp, .inl (cs.1, 900, .inl ft)) :: (tm, .inl (cs.2.1, 900, .inl f3)) :: X) a1 hg M v593 t_a1 b_hg (hO.sub (by decide))) kw_1586 kw_1587 kw_1588 kw_13 kw_1589 (by decide +kernel) ⟨Nat.le_of_ble_eq_true rfl, Nat.le_of_ble_eq_true rfl⟩ (HT.recv (ci := 12) hkb hH t_a1 (hO.no t_a1 (by decide)) rfl) rfl rfl hl.1 (Nat.le_of_ble_eq_true rfl) dL_law_594 ⟨by show cells + 0 ≤ 600000; omega, by show slots + 0 ≤ 7302250; omega⟩) (fun v594 u H locs hz9 hH hS => ?_)
  obtain ⟨rfl, l_v594, u_v594⟩ := hz9
  have hH : HT D cs A T (ch :: tk :: tp :: tm :: O) ((ch, .inr (0, [.ref y0, .int y1, .ref y2, .ref y3])) :: (tk, .inr (7, [o0, .int k1, .int k2, .int k3, .int k4, .int k5, .int k6, .int k7])) :: (tp, .inl (cs.1, 900, .inl ft)) :: (tm, .inl (cs.2.1, 900, .inl f3)) :: X) H := hH
  refine W.widen (k := cells) (n := slots) (Nat.le_refl _) (Nat.le_refl _) ?_
  refine lv_pop hx hb dL_law_597 rfl ?_
  refine lv_goto (tgt := 1395) hx hb dL_law_598 (by decide) ?_
  exact kk T w hw gw hg G M y0 nn j y1 o0 k1 k2 k3 k4 k5 k6 k7 ft f3 t _ _ _ _ _ hv hlx hlg hlk hr.s hH hS (lv_sub hl [0, 1, 2, 3] rfl)
set_option maxHeartbeats 4000000 in
set_option maxRecDepth 100000 in
/-- newYear -/
theorem lw_c13 {p : Program} {e : Env} {s : State} {m : MethodId} {below : List Frame} {meth : Method} {c : Code} {Q : State → Prop} (l : Launch) (D : va_G) (cs : CS) (kf : KF) {b L : Nat} {xs : Nat → Int32} (hx : p.tables.exec = Jvm.exec) (hb : c.code = code) (hml : c.maxLocals = 4) (hown : s.vm.findClass R_law = some m.cls) (hts : ∀ w ∈ gw, w.before #[Value.ref b] s = true) (hX : va_X b L xs s s.heap) (hbl : b < s.heap.size) (hkb : kb D (tyc cs) s) (hks : kS kf s) {A : Nat → Prop} (hE : kE kf A s s.heap) (hA : ∀ q, s.heap.size ≤ q → A q) (hbA : ¬ A b) (hL : L ≤ 3072) (O : List Nat) (X : va_W) (hOX0 : ∀ o ∈ O, ∃ (k : Nat) (e : va_E), X[k]? = some (o, e)) (hO9 : O = []) (a0 ch a1 y2 y3 tk tp tm : Nat) (T : TF) (w hw gw hg G M y0 nn j : Nat) (y1 : Int32) (o0 : Value) (k1 k2 k3 k4 k5 k6 k7 : Int32) (ft f3 : Nat → Int32) (t : Tp) (x3 : Int32) (n cells slots : Nat) (H : Heap) (locs : List Loc) (ls : Array Slot) (hv : LV T a0 a1 ch w hw gw hg G M y0 y2 y3 nn j y1) (hlx : LX T tk tp tm) (hlg : LG G M ft f3 t k6 k7) (hlk : LK k1 k2 k3) (hr : RM cells slots n j) (hn512 : n < 512) (l_x3 : 0 ≤ x3.toInt) (u_x3 : x3.toInt + 6 ≤ L) (hH : HT D cs A T (ch :: tk :: tp :: tm :: O) ((ch, .inr (0, [.ref y0, .int y1, .ref y2, .ref y3])) :: (tk, .inr (7, [o0, .int k1, .int k2, .int k3, .int k4, .int k5, .int k6, .int k7])) :: (tp, .inl (cs.1, 900, .inl ft)) :: (tm, .inl (cs.2.1, 900, .inl f3)) :: X) H) (hS : va_S A s.heap H locs) (hl : lv_has ls 4 [(0, .ref b), (1, .ref a0), (2, .ref a1), (3, .int x3)]) (kk : ∀ (T : TF) (w hw gw hg G M y0 nn j : Nat) (y1 : Int32) (o0 : Value) (k1 k2 k3 k4 k5 k6 k7 : Int32) (ft f3 : Nat → Int32) (t : Tp) (cells slots : Nat) (H : Heap) (locs : List Loc) (ls : Array Slot), LV T a0 a1 ch w hw gw hg G M y0 y2 y3 nn j y1 → LX T tk tp tm → LG G M ft f3 t k6 k7 → LK k1 k2 k3 → RM cells slots (n + 1) j → HT D cs A T (ch :: tk :: tp :: tm :: O) ((ch, .inr (0, [.ref y0, .int y1, .ref y2, .ref y3])) :: (tk, .inr (7, [o0, .int k1, .int k2, .int k3, .int k4, .int k5, .int k6, .int k7])) :: (tp, .inl (cs.1, 900, .inl ft)) :: (tm, .inl (cs.2.1, 900, .inl f3)) :: X) H → va_S A s.heap H locs → lv_has ls 4 [(0, .ref b), (1, .ref a0), (2, .ref a1), (3, .int x3)] → W p l e room_1 s m #[Value.ref b] below meth c H locs cells slots Q (F0 m 1395 ls [])) : W p l e room_1 s m #[Value.ref b] below meth c H locs cells slots Q (F0 m 601 ls []) := by
  obtain ⟨t_a0, t_w, t_a1, b_hg, hU, hU1, t_ch, t_y0, l_y1, u_y1, t_y2, t_y3, hn, hj⟩ := id hv
  obtain ⟨t_tk, t_tp, t_tm, hU7, hU0, hU9⟩ := id hlx
  obtain ⟨lk1, lk2, lk3, lk4, lk5, lk6⟩ := id hlk
  have hO := okc hO9 t_ch t_tk t_tp t_tm
  obtain ⟨hr1, hr2⟩ := id hr
  have hOX : ∀ o ∈ (ch :: tk :: tp :: tm :: O), ∃ (k : Nat) (e : va_E), ((ch, .inr (0, [.ref y0, .int y1, .ref y2, .ref y3])) :: (tk, .inr (7, [o0, .int k1, .int k2, .int k3, .int k4, .int k5, .int k6, .int k7])) :: (tp, .inl (cs.1, 900, .inl ft)) :: (tm, .inl (cs.2.1, 900, .inl f3)) :: X)[k]? = some (o, e) := ox_c (ox_c (ox_c (ox_c hOX0)))
  have hOXf := hOX
  have b1_w := t_w.2.1
  have b2_w := t_w.2.2
  refine lv_aload_n hx hb dL_law_601 rfl (lv_at hl 1 rfl) ?_
  refine tk_i hH hS hA (tr_V (n := 0) (As := []) hx hb hml hown hts hkb hH (ox_map hOX rfl) hks hE hS hA (s_FW_newYear l D cs kf T (ch :: tk :: tp :: tm :: O) ((ch, .inr (0, [.ref y0, .int y1, .ref y2, .ref y3])) :: (tk, .inr (7, [o0, .int k1, .int k2, .int k3, .int k4, .int k5, .int k6, .int k7])) :: (tp, .inl (cs.1, 900, .inl ft)) :: (tm, .inl (cs.2.1, 900, .inl f3)) :: X) a0 w hw gw ch G t_a0 t_w t_ch (hO.sub (by decide))) kw_947 kw_948 kw_949 kw_1 kw_950 (by decide +kernel) ⟨Nat.le_of_ble_eq_true rfl, Nat.le_of_ble_eq_true rfl⟩ (HT.recv (ci := 11) hkb hH t_a0 (hO.no t_a0 (by decide)) rfl) rfl rfl hl.1 (Nat.le_of_ble_eq_true rfl) dL_law_602 ⟨by show cells + 0 ≤ 600000; omega, by show slots + 0 ≤ 7302250; omega⟩) (fun v602 u H locs hz9 hH hS => ?_)
  obtain ⟨rfl, l_v602, u_v602⟩ := hz9
  have hH : HT D cs A T (ch :: tk :: tp :: tm :: O) ((ch, .inr (0, [.ref y0, .int y1, .ref y2, .ref y3])) :: (tk, .inr (7, [o0, .int k1, .int k2, .int k3, .int k4, .int k5, .int k6, .int k7])) :: (tp, .inl (cs.1, 900, .inl ft)) :: (tm, .inl (cs.2.1, 900, .inl f3)) :: X) H := hH
  refine W.widen (k := cells) (n := slots) (Nat.le_refl _) (Nat.le_refl _) ?_
  refine lv_pop hx hb dL_law_605 rfl ?_
  refine lv_aload_n hx hb dL_law_606 rfl (lv_at hl 2 rfl) ?_
  refine tk_i hH hS hA (tr_V (n := 0) (As := []) hx hb hml hown hts hkb hH (ox_map hOX rfl) hks hE hS hA (s_M_newYear l D cs kf T (ch :: tk :: tp :: tm :: O) ((ch, .inr (0, [.ref y0, .int y1, .ref y2, .ref y3])) :: (tk, .inr (7, [o0, .int k1, .int k2, .int k3, .int k4, .int k5, .int k6, .int k7])) :: (tp, .inl (cs.1, 900, .inl ft)) :: (tm, .inl (cs.2.1, 900, .inl f3)) :: X) a1 hg M t_a1 b_hg (hO.sub (by decide))) kw_1590 kw_1591 kw_1592 kw_13 kw_1593 (by decide +kernel) ⟨Nat.le_of_ble_eq_true rfl, Nat.le_of_ble_eq_true rfl⟩ (HT.recv (ci := 12) hkb hH t_a1 (hO.no t_a1 (by decide)) rfl) rfl rfl hl.1 (Nat.le_of_ble_eq_true rfl) dL_law_607 ⟨by show cells + 0 ≤ 600000; omega, by show slots + 0 ≤ 7302250; omega⟩) (fun v607 u H locs hz9 hH hS => ?_)
  have hz9 : u = (T, ch :: tk :: tp :: tm :: O, (ch, .inr (0, [.ref y0, .int y1, .ref y2, .ref y3])) :: (tk, .inr (7, [o0, .int k1, .int k2, .int k3, .int k4, .int k5, .int k6, .int k7])) :: (tp, .inl (cs.1, 900, .inl ft)) :: (tm, .inl (cs.2.1, 900, .inl f3)) :: X) := hz9
  subst hz9
  have hH : HT D cs A T (ch :: tk :: tp :: tm :: O) ((ch, .inr (0, [.ref y0, .int y1, .ref y2, .ref y3])) :: (tk, .inr (7, [o0, .int k1, .int k2, .int k3, .int k4, .int k5, .int k6, .int k7])) :: (tp, .inl (cs.1, 900, .inl ft)) :: (tm, .inl (cs.2.1, 900, .inl f3)) :: X) H := hH
  refine W.widen (k := cells) (n := slots) (Nat.le_refl _) (Nat.le_refl _) ?_
  refine lv_pop hx hb dL_law_610 rfl ?_
  refine lv_goto (tgt := 1395) hx hb dL_law_611 (by decide) ?_
  exact kk T w hw gw hg G M y0 nn j y1 o0 k1 k2 k3 k4 k5 k6 k7 ft f3 t _ _ _ _ _ hv hlx hlg hlk hr.s hH hS (lv_sub hl [0, 1, 2, 3] rfl)
set_option maxHeartbeats 4000000 in
set_option maxRecDepth 100000 in
/-- undo -/
theorem lw_c14 {p : Program} {e : Env} {s : State} {m : MethodId} {below : List Frame} {meth : Method} {c : Code} {Q : State → Prop} (l : Launch) (D : va_G) (cs : CS) (kf : KF) {b L : Nat} {xs : Nat → Int32} (hx : p.tables.exec = Jvm.exec) (hb : c.code = code) (hml : c.maxLocals = 4) (hown : s.vm.findClass R_law = some m.cls) (hts : ∀ w ∈ gw, w.before #[Value.ref b] s = true) (hX : va_X b L xs s s.heap) (hbl : b < s.heap.size) (hkb : kb D (tyc cs) s) (hks : kS kf s) {A : Nat → Prop} (hE : kE kf A s s.heap) (hA : ∀ q, s.heap.size ≤ q → A q) (hbA : ¬ A b) (hL : L ≤ 3072) (O : List Nat) (X : va_W) (hOX0 : ∀ o ∈ O, ∃ (k : Nat) (e : va_E), X[k]? = some (o, e)) (hO9 : O = []) (a0 ch a1 y2 y3 tk tp tm : Nat) (T : TF) (w hw gw hg G M y0 nn j : Nat) (y1 : Int32) (o0 : Value) (k1 k2 k3 k4 k5 k6 k7 : Int32) (ft f3 : Nat → Int32) (t : Tp) (x3 : Int32) (n cells slots : Nat) (H : Heap) (locs : List Loc) (ls : Array Slot) (hv : LV T a0 a1 ch w hw gw hg G M y0 y2 y3 nn j y1) (hlx : LX T tk tp tm) (hlg : LG G M ft f3 t k6 k7) (hlk : LK k1 k2 k3) (hr : RM cells slots n j) (hn512 : n < 512) (l_x3 : 0 ≤ x3.toInt) (u_x3 : x3.toInt + 6 ≤ L) (hH : HT D cs A T (ch :: tk :: tp :: tm :: O) ((ch, .inr (0, [.ref y0, .int y1, .ref y2, .ref y3])) :: (tk, .inr (7, [o0, .int k1, .int k2, .int k3, .int k4, .int k5, .int k6, .int k7])) :: (tp, .inl (cs.1, 900, .inl ft)) :: (tm, .inl (cs.2.1, 900, .inl f3)) :: X) H) (hS : va_S A s.heap H locs) (hl : lv_has ls 4 [(0, .ref b), (1, .ref a0), (2, .ref a1), (3, .int x3)]) (kk : ∀ (T : TF) (w hw gw hg G M y0 nn j : Nat) (y1 : Int32) (o0 : Value) (k1 k2 k3 k4 k5 k6 k7 : Int32) (ft f3 : Nat → Int32) (t : Tp) (cells slots : Nat) (H : Heap) (locs : List Loc) (ls : Array Slot), LV T a0 a1 ch w hw gw hg G M y0 y2 y3 nn j y1 → LX T tk tp tm → LG G M ft f3 t k6 k7 → LK k1 k2 k3 → RM cells slots (n + 1) j → HT D cs A T (ch :: tk :: tp :: tm :: O) ((ch, .inr (0, [.ref y0, .int y1, .ref y2, .ref y3])) :: (tk, .inr (7, [o0, .int k1, .int k2, .int k3, .int k4, .int k5, .int k6, .int k7])) :: (tp, .inl (cs.1, 900, .inl ft)) :: (tm, .inl (cs.2.1, 900, .inl f3)) :: X) H → va_S A s.heap H locs → lv_has ls 4 [(0, .ref b), (1, .ref a0), (2, .ref a1), (3, .int x3)] → W p l e room_1 s m #[Value.ref b] below meth c H locs cells slots Q (F0 m 1395 ls [])) : W p l e room_1 s m #[Value.ref b] below meth c H locs cells slots Q (F0 m 614 ls []) := by
  obtain ⟨t_a0, t_w, t_a1, b_hg, hU, hU1, t_ch, t_y0, l_y1, u_y1, t_y2, t_y3, hn, hj⟩ := id hv
  obtain ⟨t_tk, t_tp, t_tm, hU7, hU0, hU9⟩ := id hlx
  obtain ⟨lk1, lk2, lk3, lk4, lk5, lk6⟩ := id hlk
  have hO := okc hO9 t_ch t_tk t_tp t_tm
  obtain ⟨hr1, hr2⟩ := id hr
  have hOX : ∀ o ∈ (ch :: tk :: tp :: tm :: O), ∃ (k : Nat) (e : va_E), ((ch, .inr (0, [.ref y0, .int y1, .ref y2, .ref y3])) :: (tk, .inr (7, [o0, .int k1, .int k2, .int k3, .int k4, .int k5, .int k6, .int k7])) :: (tp, .inl (cs.1, 900, .inl ft)) :: (tm, .inl (cs.2.1, 900, .inl f3)) :: X)[k]? = some (o, e) := ox_c (ox_c (ox_c (ox_c hOX0)))
  have hOXf := hOX
  have b1_w := t_w.2.1
  have b2_w := t_w.2.2
  refine lv_aload_n hx hb dL_law_614 rfl (lv_at hl 1 rfl) ?_
  refine lv_aload_n hx hb dL_law_615 rfl (lv_at hl 0 rfl) ?_
  refine lv_iload_n hx hb dL_law_616 rfl (lv_at hl 3 rfl) ?_
  refine lv_iconst (v := 1) hx hb dL_law_617 (by decide) ?_
  refine lv_iadd hx hb dL_law_618 ?_
  refine lv_topi (fun v618 ev618 => ?_)
  have tv618 : v618.toInt = x3.toInt + (1) := by rw [ev618]; exact add_i rfl (by decide : (1 : Int32).toInt = 1) (by omega) (by omega)
  refine va_sld hx hb hX hbl hbA hS (in_t (by omega) (by omega)) dL_law_619 ?_
  refine lv_topi (fun v619 ev619 => ?_)
  refine tk_i hH hS hA (tr_V (n := 1) (As := [.int v619]) hx hb hml hown hts hkb hH (ox_map hOX rfl) hks hE hS hA (s_FW_undo l D cs kf T (ch :: tk :: tp :: tm :: O) ((ch, .inr (0, [.ref y0, .int y1, .ref y2, .ref y3])) :: (tk, .inr (7, [o0, .int k1, .int k2, .int k3, .int k4, .int k5, .int k6, .int k7])) :: (tp, .inl (cs.1, 900, .inl ft)) :: (tm, .inl (cs.2.1, 900, .inl f3)) :: X) a0 w hw gw ch G v619 t_a0 t_w t_ch (hO.sub (by decide))) kw_951 kw_952 kw_953 kw_1 kw_954 (by decide +kernel) ⟨Nat.le_of_ble_eq_true rfl, Nat.le_of_ble_eq_true rfl⟩ (HT.recv (ci := 11) hkb hH t_a0 (hO.no t_a0 (by decide)) rfl) rfl rfl hl.1 (Nat.le_of_ble_eq_true rfl) dL_law_620 ⟨by show cells + 0 ≤ 600000; omega, by show slots + 0 ≤ 7302250; omega⟩) (fun v620 u H locs hz9 hH hS => ?_)
  obtain ⟨rfl, l_v620, u_v620⟩ := hz9
  have hH : HT D cs A T (ch :: tk :: tp :: tm :: O) ((ch, .inr (0, [.ref y0, .int y1, .ref y2, .ref y3])) :: (tk, .inr (7, [o0, .int k1, .int k2, .int k3, .int k4, .int k5, .int k6, .int k7])) :: (tp, .inl (cs.1, 900, .inl ft)) :: (tm, .inl (cs.2.1, 900, .inl f3)) :: X) H := hH
  refine W.widen (k := cells) (n := slots) (Nat.le_refl _) (Nat.le_refl _) ?_
  refine lv_pop hx hb dL_law_623 rfl ?_
  refine lv_aload_n hx hb dL_law_624 rfl (lv_at hl 2 rfl) ?_
  refine lv_aload_n hx hb dL_law_625 rfl (lv_at hl 0 rfl) ?_
  refine lv_iload_n hx hb dL_law_626 rfl (lv_at hl 3 rfl) ?_
  refine lv_iconst (v := 1) hx hb dL_law_627 (by decide) ?_
  refine lv_iadd hx hb dL_law_628 ?_
  refine lv_topi (fun v628 ev628 => ?_)
  have tv628 : v628.toInt = x3.toInt + (1) := by rw [ev628]; exact add_i rfl (by decide : (1 : Int32).toInt = 1) (by omega) (by omega)
  refine va_sld hx hb hX hbl hbA hS (in_t (by omega) (by omega)) dL_law_629 ?_
  refine lv_topi (fun v629 ev629 => ?_)
  refine tk_i hH hS hA (tr_V (n := 1) (As := [.int v629]) hx hb hml hown hts hkb hH (ox_map hOX rfl) hks hE hS hA (s_M_undo l D cs kf T (ch :: tk :: tp :: tm :: O) ((ch, .inr (0, [.ref y0, .int y1, .ref y2, .ref y3])) :: (tk, .inr (7, [o0, .int k1, .int k2, .int k3, .int k4, .int k5, .int k6, .int k7])) :: (tp, .inl (cs.1, 900, .inl ft)) :: (tm, .inl (cs.2.1, 900, .inl f3)) :: X) a1 hg M v629 t_a1 b_hg (hO.sub (by decide))) kw_1598 kw_1599 kw_1600 kw_13 kw_1601 (by decide +kernel) ⟨Nat.le_of_ble_eq_true rfl, Nat.le_of_ble_eq_true rfl⟩ (HT.recv (ci := 12) hkb hH t_a1 (hO.no t_a1 (by decide)) rfl) rfl rfl hl.1 (Nat.le_of_ble_eq_true rfl) dL_law_630 ⟨by show cells + 0 ≤ 600000; omega, by show slots + 0 ≤ 7302250; omega⟩) (fun v630 u H locs hz9 hH hS => ?_)
  obtain ⟨rfl, l_v630, u_v630⟩ := hz9
  have hH : HT D cs A T (ch :: tk :: tp :: tm :: O) ((ch, .inr (0, [.ref y0, .int y1, .ref y2, .ref y3])) :: (tk, .inr (7, [o0, .int k1, .int k2, .int k3, .int k4, .int k5, .int k6, .int k7])) :: (tp, .inl (cs.1, 900, .inl ft)) :: (tm, .inl (cs.2.1, 900, .inl f3)) :: X) H := hH
  refine W.widen (k := cells) (n := slots) (Nat.le_refl _) (Nat.le_refl _) ?_
  refine lv_pop hx hb dL_law_633 rfl ?_
  refine lv_goto (tgt := 1395) hx hb dL_law_634 (by decide) ?_
  exact kk T w hw gw hg G M y0 nn j y1 o0 k1 k2 k3 k4 k5 k6 k7 ft f3 t _ _ _ _ _ hv hlx hlg hlk hr.s hH hS (lv_sub hl [0, 1, 2, 3] rfl)
set_option maxHeartbeats 4000000 in
set_option maxRecDepth 100000 in
/-- season -/
theorem lw_c15 {p : Program} {e : Env} {s : State} {m : MethodId} {below : List Frame} {meth : Method} {c : Code} {Q : State → Prop} (l : Launch) (D : va_G) (cs : CS) (kf : KF) {b L : Nat} {xs : Nat → Int32} (hx : p.tables.exec = Jvm.exec) (hb : c.code = code) (hml : c.maxLocals = 4) (hown : s.vm.findClass R_law = some m.cls) (hts : ∀ w ∈ gw, w.before #[Value.ref b] s = true) (hX : va_X b L xs s s.heap) (hbl : b < s.heap.size) (hkb : kb D (tyc cs) s) (hks : kS kf s) {A : Nat → Prop} (hE : kE kf A s s.heap) (hA : ∀ q, s.heap.size ≤ q → A q) (hbA : ¬ A b) (hL : L ≤ 3072) (O : List Nat) (X : va_W) (hOX0 : ∀ o ∈ O, ∃ (k : Nat) (e : va_E), X[k]? = some (o, e)) (hO9 : O = []) (a0 ch a1 y2 y3 tk tp tm : Nat) (T : TF) (w hw gw hg G M y0 nn j : Nat) (y1 : Int32) (o0 : Value) (k1 k2 k3 k4 k5 k6 k7 : Int32) (ft f3 : Nat → Int32) (t : Tp) (x3 : Int32) (n cells slots : Nat) (H : Heap) (locs : List Loc) (ls : Array Slot) (hv : LV T a0 a1 ch w hw gw hg G M y0 y2 y3 nn j y1) (hlx : LX T tk tp tm) (hlg : LG G M ft f3 t k6 k7) (hlk : LK k1 k2 k3) (hr : RM cells slots n j) (hn512 : n < 512) (l_x3 : 0 ≤ x3.toInt) (u_x3 : x3.toInt + 6 ≤ L) (hH : HT D cs A T (ch :: tk :: tp :: tm :: O) ((ch, .inr (0, [.ref y0, .int y1, .ref y2, .ref y3])) :: (tk, .inr (7, [o0, .int k1, .int k2, .int k3, .int k4, .int k5, .int k6, .int k7])) :: (tp, .inl (cs.1, 900, .inl ft)) :: (tm, .inl (cs.2.1, 900, .inl f3)) :: X) H) (hS : va_S A s.heap H locs) (hl : lv_has ls 4 [(0, .ref b), (1, .ref a0), (2, .ref a1), (3, .int x3)]) (kk : ∀ (T : TF) (w hw gw hg G M y0 nn j : Nat) (y1 : Int32) (o0 : Value) (k1 k2 k3 k4 k5 k6 k7 : Int32) (ft f3 : Nat → Int32) (t : Tp) (cells slots : Nat) (H : Heap) (locs : List Loc) (ls : Array Slot), LV T a0 a1 ch w hw gw hg G M y0 y2 y3 nn j y1 → LX T tk tp tm → LG G M ft f3 t k6 k7 → LK k1 k2 k3 → RM cells slots (n + 1) j → HT D cs A T (ch :: tk :: tp :: tm :: O) ((ch, .inr (0, [.ref y0, .int y1, .ref y2, .ref y3])) :: (tk, .inr (7, [o0, .int k1, .int k2, .int k3, .int k4, .int k5, .int k6, .int k7])) :: (tp, .inl (cs.1, 900, .inl ft)) :: (tm, .inl (cs.2.1, 900, .inl f3)) :: X) H → va_S A s.heap H locs → lv_has ls 4 [(0, .ref b), (1, .ref a0), (2, .ref a1), (3, .int x3)] → W p l e room_1 s m #[Value.ref b] below meth c H locs cells slots Q (F0 m 1395 ls [])) : W p l e room_1 s m #[Value.ref b] below meth c H locs cells slots Q (F0 m 637 ls []) := by
  obtain ⟨t_a0, t_w, t_a1, b_hg, hU, hU1, t_ch, t_y0, l_y1, u_y1, t_y2, t_y3, hn, hj⟩ := id hv
  obtain ⟨t_tk, t_tp, t_tm, hU7, hU0, hU9⟩ := id hlx
  obtain ⟨lk1, lk2, lk3, lk4, lk5, lk6⟩ := id hlk
  have hO := okc hO9 t_ch t_tk t_tp t_tm
  obtain ⟨hr1, hr2⟩ := id hr
  have hOX : ∀ o ∈ (ch :: tk :: tp :: tm :: O), ∃ (k : Nat) (e : va_E), ((ch, .inr (0, [.ref y0, .int y1, .ref y2, .ref y3])) :: (tk, .inr (7, [o0, .int k1, .int k2, .int k3, .int k4, .int k5, .int k6, .int k7])) :: (tp, .inl (cs.1, 900, .inl ft)) :: (tm, .inl (cs.2.1, 900, .inl f3)) :: X)[k]? = some (o, e) := ox_c (ox_c (ox_c (ox_c hOX0)))
  have hOXf := hOX
  have b1_w := t_w.2.1
  have b2_w := t_w.2.2
  refine lv_aload_n hx hb dL_law_637 rfl (lv_at hl 1 rfl) ?_
  refine lv_aload_n hx hb dL_law_638 rfl (lv_at hl 0 rfl) ?_
  refine lv_iload_n hx hb dL_law_639 rfl (lv_at hl 3 rfl) ?_
  refine lv_iconst (v := 1) hx hb dL_law_640 (by decide) ?_
  refine lv_iadd hx hb dL_law_641 ?_
  refine lv_topi (fun v641 ev641 => ?_)
  have tv641 : v641.toInt = x3.toInt + (1) := by rw [ev641]; exact add_i rfl (by decide : (1 : Int32).toInt = 1) (by omega) (by omega)
  refine va_sld hx hb hX hbl hbA hS (in_t (by omega) (by omega)) dL_law_642 ?_
  refine lv_topi (fun v642 ev642 => ?_)
  refine lv_aload_n hx hb dL_law_643 rfl (lv_at hl 0 rfl) ?_
  refine lv_iload_n hx hb dL_law_644 rfl (lv_at hl 3 rfl) ?_
  refine lv_iconst (v := 2) hx hb dL_law_645 (by decide) ?_
  refine lv_iadd hx hb dL_law_646 ?_
  refine lv_topi (fun v646 ev646 => ?_)
  have tv646 : v646.toInt = x3.toInt + (2) := by rw [ev646]; exact add_i rfl (by decide : (2 : Int32).toInt = 2) (by omega) (by omega)
  refine va_sld hx hb hX hbl hbA hS (in_t (by omega) (by omega)) dL_law_647 ?_
  refine lv_topi (fun v647 ev647 => ?_)
  refine tk_i hH hS hA (tr_V (n := 2) (As := [.int v642, .int v647]) hx hb hml hown hts hkb hH (ox_map hOX rfl) hks hE hS hA (s_FW_season l D cs kf T (ch :: tk :: tp :: tm :: O) ((ch, .inr (0, [.ref y0, .int y1, .ref y2, .ref y3])) :: (tk, .inr (7, [o0, .int k1, .int k2, .int k3, .int k4, .int k5, .int k6, .int k7])) :: (tp, .inl (cs.1, 900, .inl ft)) :: (tm, .inl (cs.2.1, 900, .inl f3)) :: X) a0 w hw gw ch G v642 v647 t_a0 t_w t_ch (hO.sub (by decide))) kw_958 kw_959 kw_960 kw_1 kw_961 (by decide +kernel) ⟨Nat.le_of_ble_eq_true rfl, Nat.le_of_ble_eq_true rfl⟩ (HT.recv (ci := 11) hkb hH t_a0 (hO.no t_a0 (by decide)) rfl) rfl rfl hl.1 (Nat.le_of_ble_eq_true rfl) dL_law_648 ⟨by show cells + 0 ≤ 600000; omega, by show slots + 0 ≤ 7302250; omega⟩) (fun v648 u H locs hz9 hH hS => ?_)
  have hz9 : u = (T, ch :: tk :: tp :: tm :: O, (ch, .inr (0, [.ref y0, .int y1, .ref y2, .ref y3])) :: (tk, .inr (7, [o0, .int k1, .int k2, .int k3, .int k4, .int k5, .int k6, .int k7])) :: (tp, .inl (cs.1, 900, .inl ft)) :: (tm, .inl (cs.2.1, 900, .inl f3)) :: X) := hz9
  subst hz9
  have hH : HT D cs A T (ch :: tk :: tp :: tm :: O) ((ch, .inr (0, [.ref y0, .int y1, .ref y2, .ref y3])) :: (tk, .inr (7, [o0, .int k1, .int k2, .int k3, .int k4, .int k5, .int k6, .int k7])) :: (tp, .inl (cs.1, 900, .inl ft)) :: (tm, .inl (cs.2.1, 900, .inl f3)) :: X) H := hH
  refine W.widen (k := cells) (n := slots) (Nat.le_refl _) (Nat.le_refl _) ?_
  refine lv_pop hx hb dL_law_651 rfl ?_
  refine lv_aload_n hx hb dL_law_652 rfl (lv_at hl 2 rfl) ?_
  refine lv_aload_n hx hb dL_law_653 rfl (lv_at hl 0 rfl) ?_
  refine lv_iload_n hx hb dL_law_654 rfl (lv_at hl 3 rfl) ?_
  refine lv_iconst (v := 1) hx hb dL_law_655 (by decide) ?_
  refine lv_iadd hx hb dL_law_656 ?_
  refine lv_topi (fun v656 ev656 => ?_)
  have tv656 : v656.toInt = x3.toInt + (1) := by rw [ev656]; exact add_i rfl (by decide : (1 : Int32).toInt = 1) (by omega) (by omega)
  refine va_sld hx hb hX hbl hbA hS (in_t (by omega) (by omega)) dL_law_657 ?_
  refine lv_topi (fun v657 ev657 => ?_)
  refine lv_aload_n hx hb dL_law_658 rfl (lv_at hl 0 rfl) ?_
  refine lv_iload_n hx hb dL_law_659 rfl (lv_at hl 3 rfl) ?_
  refine lv_iconst (v := 2) hx hb dL_law_660 (by decide) ?_
  refine lv_iadd hx hb dL_law_661 ?_
  refine lv_topi (fun v661 ev661 => ?_)
  have tv661 : v661.toInt = x3.toInt + (2) := by rw [ev661]; exact add_i rfl (by decide : (2 : Int32).toInt = 2) (by omega) (by omega)
  refine va_sld hx hb hX hbl hbA hS (in_t (by omega) (by omega)) dL_law_662 ?_
  refine lv_topi (fun v662 ev662 => ?_)
  refine tk_i hH hS hA (tr_V (n := 2) (As := [.int v657, .int v662]) hx hb hml hown hts hkb hH (ox_map hOX rfl) hks hE hS hA (s_M_season l D cs kf T (ch :: tk :: tp :: tm :: O) ((ch, .inr (0, [.ref y0, .int y1, .ref y2, .ref y3])) :: (tk, .inr (7, [o0, .int k1, .int k2, .int k3, .int k4, .int k5, .int k6, .int k7])) :: (tp, .inl (cs.1, 900, .inl ft)) :: (tm, .inl (cs.2.1, 900, .inl f3)) :: X) a1 hg M v657 v662 t_a1 b_hg (hO.sub (by decide))) kw_1603 kw_1604 kw_1605 kw_13 kw_1606 (by decide +kernel) ⟨Nat.le_of_ble_eq_true rfl, Nat.le_of_ble_eq_true rfl⟩ (HT.recv (ci := 12) hkb hH t_a1 (hO.no t_a1 (by decide)) rfl) rfl rfl hl.1 (Nat.le_of_ble_eq_true rfl) dL_law_663 ⟨by show cells + 0 ≤ 600000; omega, by show slots + 0 ≤ 7302250; omega⟩) (fun v663 u H locs hz9 hH hS => ?_)
  have hz9 : u = (T, ch :: tk :: tp :: tm :: O, (ch, .inr (0, [.ref y0, .int y1, .ref y2, .ref y3])) :: (tk, .inr (7, [o0, .int k1, .int k2, .int k3, .int k4, .int k5, .int k6, .int k7])) :: (tp, .inl (cs.1, 900, .inl ft)) :: (tm, .inl (cs.2.1, 900, .inl f3)) :: X) := hz9
  subst hz9
  have hH : HT D cs A T (ch :: tk :: tp :: tm :: O) ((ch, .inr (0, [.ref y0, .int y1, .ref y2, .ref y3])) :: (tk, .inr (7, [o0, .int k1, .int k2, .int k3, .int k4, .int k5, .int k6, .int k7])) :: (tp, .inl (cs.1, 900, .inl ft)) :: (tm, .inl (cs.2.1, 900, .inl f3)) :: X) H := hH
  refine W.widen (k := cells) (n := slots) (Nat.le_refl _) (Nat.le_refl _) ?_
  refine lv_pop hx hb dL_law_666 rfl ?_
  refine lv_goto (tgt := 1395) hx hb dL_law_667 (by decide) ?_
  exact kk T w hw gw hg G M y0 nn j y1 o0 k1 k2 k3 k4 k5 k6 k7 ft f3 t _ _ _ _ _ hv hlx hlg hlk hr.s hH hS (lv_sub hl [0, 1, 2, 3] rfl)
set_option maxHeartbeats 4000000 in
set_option maxRecDepth 100000 in
/-- way -/
theorem lw_c16 {p : Program} {e : Env} {s : State} {m : MethodId} {below : List Frame} {meth : Method} {c : Code} {Q : State → Prop} (l : Launch) (D : va_G) (cs : CS) (kf : KF) {b L : Nat} {xs : Nat → Int32} (hx : p.tables.exec = Jvm.exec) (hb : c.code = code) (hml : c.maxLocals = 4) (hown : s.vm.findClass R_law = some m.cls) (hts : ∀ w ∈ gw, w.before #[Value.ref b] s = true) (hX : va_X b L xs s s.heap) (hbl : b < s.heap.size) (hkb : kb D (tyc cs) s) (hks : kS kf s) {A : Nat → Prop} (hE : kE kf A s s.heap) (hA : ∀ q, s.heap.size ≤ q → A q) (hbA : ¬ A b) (hL : L ≤ 3072) (O : List Nat) (X : va_W) (hOX0 : ∀ o ∈ O, ∃ (k : Nat) (e : va_E), X[k]? = some (o, e)) (hO9 : O = []) (a0 ch a1 y2 y3 tk tp tm : Nat) (T : TF) (w hw gw hg G M y0 nn j : Nat) (y1 : Int32) (o0 : Value) (k1 k2 k3 k4 k5 k6 k7 : Int32) (ft f3 : Nat → Int32) (t : Tp) (x3 : Int32) (n cells slots : Nat) (H : Heap) (locs : List Loc) (ls : Array Slot) (hv : LV T a0 a1 ch w hw gw hg G M y0 y2 y3 nn j y1) (hlx : LX T tk tp tm) (hlg : LG G M ft f3 t k6 k7) (hlk : LK k1 k2 k3) (hr : RM cells slots n j) (hn512 : n < 512) (l_x3 : 0 ≤ x3.toInt) (u_x3 : x3.toInt + 6 ≤ L) (hH : HT D cs A T (ch :: tk :: tp :: tm :: O) ((ch, .inr (0, [.ref y0, .int y1, .ref y2, .ref y3])) :: (tk, .inr (7, [o0, .int k1, .int k2, .int k3, .int k4, .int k5, .int k6, .int k7])) :: (tp, .inl (cs.1, 900, .inl ft)) :: (tm, .inl (cs.2.1, 900, .inl f3)) :: X) H) (hS : va_S A s.heap H locs) (hl : lv_has ls 4 [(0, .ref b), (1, .ref a0), (2, .ref a1), (3, .int x3)]) (kk : ∀ (T : TF) (w hw gw hg G M y0 nn j : Nat) (y1 : Int32) (o0 : Value) (k1 k2 k3 k4 k5 k6 k7 : Int32) (ft f3 : Nat → Int32) (t : Tp) (cells slots : Nat) (H : Heap) (locs : List Loc) (ls : Array Slot), LV T a0 a1 ch w hw gw hg G M y0 y2 y3 nn j y1 → LX T tk tp tm → LG G M ft f3 t k6 k7 → LK k1 k2 k3 → RM cells slots (n + 1) j → HT D cs A T (ch :: tk :: tp :: tm :: O) ((ch, .inr (0, [.ref y0, .int y1, .ref y2, .ref y3])) :: (tk, .inr (7, [o0, .int k1, .int k2, .int k3, .int k4, .int k5, .int k6, .int k7])) :: (tp, .inl (cs.1, 900, .inl ft)) :: (tm, .inl (cs.2.1, 900, .inl f3)) :: X) H → va_S A s.heap H locs → lv_has ls 4 [(0, .ref b), (1, .ref a0), (2, .ref a1), (3, .int x3)] → W p l e room_1 s m #[Value.ref b] below meth c H locs cells slots Q (F0 m 1395 ls [])) : W p l e room_1 s m #[Value.ref b] below meth c H locs cells slots Q (F0 m 670 ls []) := by
  obtain ⟨t_a0, t_w, t_a1, b_hg, hU, hU1, t_ch, t_y0, l_y1, u_y1, t_y2, t_y3, hn, hj⟩ := id hv
  obtain ⟨t_tk, t_tp, t_tm, hU7, hU0, hU9⟩ := id hlx
  obtain ⟨lk1, lk2, lk3, lk4, lk5, lk6⟩ := id hlk
  have hO := okc hO9 t_ch t_tk t_tp t_tm
  obtain ⟨hr1, hr2⟩ := id hr
  have hOX : ∀ o ∈ (ch :: tk :: tp :: tm :: O), ∃ (k : Nat) (e : va_E), ((ch, .inr (0, [.ref y0, .int y1, .ref y2, .ref y3])) :: (tk, .inr (7, [o0, .int k1, .int k2, .int k3, .int k4, .int k5, .int k6, .int k7])) :: (tp, .inl (cs.1, 900, .inl ft)) :: (tm, .inl (cs.2.1, 900, .inl f3)) :: X)[k]? = some (o, e) := ox_c (ox_c (ox_c (ox_c hOX0)))
  have hOXf := hOX
  have b1_w := t_w.2.1
  have b2_w := t_w.2.2
  refine lv_aload_n hx hb dL_law_670 rfl (lv_at hl 1 rfl) ?_
  refine lv_aload_n hx hb dL_law_671 rfl (lv_at hl 0 rfl) ?_
  refine lv_iload_n hx hb dL_law_672 rfl (lv_at hl 3 rfl) ?_
  refine lv_iconst (v := 1) hx hb dL_law_673 (by decide) ?_
  refine lv_iadd hx hb dL_law_674 ?_
  refine lv_topi (fun v674 ev674 => ?_)
  have tv674 : v674.toInt = x3.toInt + (1) := by rw [ev674]; exact add_i rfl (by decide : (1 : Int32).toInt = 1) (by omega) (by omega)
  refine va_sld hx hb hX hbl hbA hS (in_t (by omega) (by omega)) dL_law_675 ?_
  refine lv_topi (fun v675 ev675 => ?_)
  refine lv_aload_n hx hb dL_law_676 rfl (lv_at hl 0 rfl) ?_
  refine lv_iload_n hx hb dL_law_677 rfl (lv_at hl 3 rfl) ?_
  refine lv_iconst (v := 2) hx hb dL_law_678 (by decide) ?_
  refine lv_iadd hx hb dL_law_679 ?_
  refine lv_topi (fun v679 ev679 => ?_)
  have tv679 : v679.toInt = x3.toInt + (2) := by rw [ev679]; exact add_i rfl (by decide : (2 : Int32).toInt = 2) (by omega) (by omega)
  refine va_sld hx hb hX hbl hbA hS (in_t (by omega) (by omega)) dL_law_680 ?_
  refine lv_topi (fun v680 ev680 => ?_)
  refine tk_i hH hS hA (tr_V (n := 2) (As := [.int v675, .int v680]) hx hb hml hown hts hkb hH (ox_map hOX rfl) hks hE hS hA (s_FW_way l D cs kf T (ch :: tk :: tp :: tm :: O) ((ch, .inr (0, [.ref y0, .int y1, .ref y2, .ref y3])) :: (tk, .inr (7, [o0, .int k1, .int k2, .int k3, .int k4, .int k5, .int k6, .int k7])) :: (tp, .inl (cs.1, 900, .inl ft)) :: (tm, .inl (cs.2.1, 900, .inl f3)) :: X) a0 w hw gw ch G v675 v680 t_a0 t_w t_ch (hO.sub (by decide))) kw_966 kw_967 kw_968 kw_1 kw_969 (by decide +kernel) ⟨Nat.le_of_ble_eq_true rfl, Nat.le_of_ble_eq_true rfl⟩ (HT.recv (ci := 11) hkb hH t_a0 (hO.no t_a0 (by decide)) rfl) rfl rfl hl.1 (Nat.le_of_ble_eq_true rfl) dL_law_681 ⟨by show cells + 0 ≤ 600000; omega, by show slots + 0 ≤ 7302250; omega⟩) (fun v681 u H locs hz9 hH hS => ?_)
  have hz9 : u = (T, ch :: tk :: tp :: tm :: O, (ch, .inr (0, [.ref y0, .int y1, .ref y2, .ref y3])) :: (tk, .inr (7, [o0, .int k1, .int k2, .int k3, .int k4, .int k5, .int k6, .int k7])) :: (tp, .inl (cs.1, 900, .inl ft)) :: (tm, .inl (cs.2.1, 900, .inl f3)) :: X) := hz9
  subst hz9
  have hH : HT D cs A T (ch :: tk :: tp :: tm :: O) ((ch, .inr (0, [.ref y0, .int y1, .ref y2, .ref y3])) :: (tk, .inr (7, [o0, .int k1, .int k2, .int k3, .int k4, .int k5, .int k6, .int k7])) :: (tp, .inl (cs.1, 900, .inl ft)) :: (tm, .inl (cs.2.1, 900, .inl f3)) :: X) H := hH
  refine W.widen (k := cells) (n := slots) (Nat.le_refl _) (Nat.le_refl _) ?_
  refine lv_pop hx hb dL_law_684 rfl ?_
  refine lv_aload_n hx hb dL_law_685 rfl (lv_at hl 2 rfl) ?_
  refine lv_aload_n hx hb dL_law_686 rfl (lv_at hl 0 rfl) ?_
  refine lv_iload_n hx hb dL_law_687 rfl (lv_at hl 3 rfl) ?_
  refine lv_iconst (v := 1) hx hb dL_law_688 (by decide) ?_
  refine lv_iadd hx hb dL_law_689 ?_
  refine lv_topi (fun v689 ev689 => ?_)
  have tv689 : v689.toInt = x3.toInt + (1) := by rw [ev689]; exact add_i rfl (by decide : (1 : Int32).toInt = 1) (by omega) (by omega)
  refine va_sld hx hb hX hbl hbA hS (in_t (by omega) (by omega)) dL_law_690 ?_
  refine lv_topi (fun v690 ev690 => ?_)
  refine lv_aload_n hx hb dL_law_691 rfl (lv_at hl 0 rfl) ?_
  refine lv_iload_n hx hb dL_law_692 rfl (lv_at hl 3 rfl) ?_
  refine lv_iconst (v := 2) hx hb dL_law_693 (by decide) ?_
  refine lv_iadd hx hb dL_law_694 ?_
  refine lv_topi (fun v694 ev694 => ?_)
  have tv694 : v694.toInt = x3.toInt + (2) := by rw [ev694]; exact add_i rfl (by decide : (2 : Int32).toInt = 2) (by omega) (by omega)
  refine va_sld hx hb hX hbl hbA hS (in_t (by omega) (by omega)) dL_law_695 ?_
  refine lv_topi (fun v695 ev695 => ?_)
  refine tk_i hH hS hA (tr_V (n := 2) (As := [.int v690, .int v695]) hx hb hml hown hts hkb hH (ox_map hOX rfl) hks hE hS hA (s_M_way l D cs kf T (ch :: tk :: tp :: tm :: O) ((ch, .inr (0, [.ref y0, .int y1, .ref y2, .ref y3])) :: (tk, .inr (7, [o0, .int k1, .int k2, .int k3, .int k4, .int k5, .int k6, .int k7])) :: (tp, .inl (cs.1, 900, .inl ft)) :: (tm, .inl (cs.2.1, 900, .inl f3)) :: X) a1 hg M v690 v695 t_a1 b_hg (hO.sub (by decide))) kw_1613 kw_1614 kw_1615 kw_13 kw_1616 (by decide +kernel) ⟨Nat.le_of_ble_eq_true rfl, Nat.le_of_ble_eq_true rfl⟩ (HT.recv (ci := 12) hkb hH t_a1 (hO.no t_a1 (by decide)) rfl) rfl rfl hl.1 (Nat.le_of_ble_eq_true rfl) dL_law_696 ⟨by show cells + 0 ≤ 600000; omega, by show slots + 0 ≤ 7302250; omega⟩) (fun v696 u H locs hz9 hH hS => ?_)
  obtain ⟨rfl, l_v696, u_v696⟩ := hz9
  have hH : HT D cs A T (ch :: tk :: tp :: tm :: O) ((ch, .inr (0, [.ref y0, .int y1, .ref y2, .ref y3])) :: (tk, .inr (7, [o0, .int k1, .int k2, .int k3, .int k4, .int k5, .int k6, .int k7])) :: (tp, .inl (cs.1, 900, .inl ft)) :: (tm, .inl (cs.2.1, 900, .inl f3)) :: X) H := hH
  refine W.widen (k := cells) (n := slots) (Nat.le_refl _) (Nat.le_refl _) ?_
  refine lv_pop hx hb dL_law_699 rfl ?_
  refine lv_goto (tgt := 1395) hx hb dL_law_700 (by decide) ?_
  exact kk T w hw gw hg G M y0 nn j y1 o0 k1 k2 k3 k4 k5 k6 k7 ft f3 t _ _ _ _ _ hv hlx hlg hlk hr.s hH hS (lv_sub hl [0, 1, 2, 3] rfl)
set_option maxHeartbeats 4000000 in
set_option maxRecDepth 100000 in
/-- ways -/
theorem lw_c17 {p : Program} {e : Env} {s : State} {m : MethodId} {below : List Frame} {meth : Method} {c : Code} {Q : State → Prop} (l : Launch) (D : va_G) (cs : CS) (kf : KF) {b L : Nat} {xs : Nat → Int32} (hx : p.tables.exec = Jvm.exec) (hb : c.code = code) (hml : c.maxLocals = 4) (hown : s.vm.findClass R_law = some m.cls) (hts : ∀ w ∈ gw, w.before #[Value.ref b] s = true) (hX : va_X b L xs s s.heap) (hbl : b < s.heap.size) (hkb : kb D (tyc cs) s) (hks : kS kf s) {A : Nat → Prop} (hE : kE kf A s s.heap) (hA : ∀ q, s.heap.size ≤ q → A q) (hbA : ¬ A b) (hL : L ≤ 3072) (O : List Nat) (X : va_W) (hOX0 : ∀ o ∈ O, ∃ (k : Nat) (e : va_E), X[k]? = some (o, e)) (hO9 : O = []) (a0 ch a1 y2 y3 tk tp tm : Nat) (T : TF) (w hw gw hg G M y0 nn j : Nat) (y1 : Int32) (o0 : Value) (k1 k2 k3 k4 k5 k6 k7 : Int32) (ft f3 : Nat → Int32) (t : Tp) (x3 : Int32) (n cells slots : Nat) (H : Heap) (locs : List Loc) (ls : Array Slot) (hv : LV T a0 a1 ch w hw gw hg G M y0 y2 y3 nn j y1) (hlx : LX T tk tp tm) (hlg : LG G M ft f3 t k6 k7) (hlk : LK k1 k2 k3) (hr : RM cells slots n j) (hn512 : n < 512) (l_x3 : 0 ≤ x3.toInt) (u_x3 : x3.toInt + 6 ≤ L) (hH : HT D cs A T (ch :: tk :: tp :: tm :: O) ((ch, .inr (0, [.ref y0, .int y1, .ref y2, .ref y3])) :: (tk, .inr (7, [o0, .int k1, .int k2, .int k3, .int k4, .int k5, .int k6, .int k7])) :: (tp, .inl (cs.1, 900, .inl ft)) :: (tm, .inl (cs.2.1, 900, .inl f3)) :: X) H) (hS : va_S A s.heap H locs) (hl : lv_has ls 4 [(0, .ref b), (1, .ref a0), (2, .ref a1), (3, .int x3)]) (kk : ∀ (T : TF) (w hw gw hg G M y0 nn j : Nat) (y1 : Int32) (o0 : Value) (k1 k2 k3 k4 k5 k6 k7 : Int32) (ft f3 : Nat → Int32) (t : Tp) (cells slots : Nat) (H : Heap) (locs : List Loc) (ls : Array Slot), LV T a0 a1 ch w hw gw hg G M y0 y2 y3 nn j y1 → LX T tk tp tm → LG G M ft f3 t k6 k7 → LK k1 k2 k3 → RM cells slots (n + 1) j → HT D cs A T (ch :: tk :: tp :: tm :: O) ((ch, .inr (0, [.ref y0, .int y1, .ref y2, .ref y3])) :: (tk, .inr (7, [o0, .int k1, .int k2, .int k3, .int k4, .int k5, .int k6, .int k7])) :: (tp, .inl (cs.1, 900, .inl ft)) :: (tm, .inl (cs.2.1, 900, .inl f3)) :: X) H → va_S A s.heap H locs → lv_has ls 4 [(0, .ref b), (1, .ref a0), (2, .ref a1), (3, .int x3)] → W p l e room_1 s m #[Value.ref b] below meth c H locs cells slots Q (F0 m 1395 ls [])) : W p l e room_1 s m #[Value.ref b] below meth c H locs cells slots Q (F0 m 703 ls []) := by
  obtain ⟨t_a0, t_w, t_a1, b_hg, hU, hU1, t_ch, t_y0, l_y1, u_y1, t_y2, t_y3, hn, hj⟩ := id hv
  obtain ⟨t_tk, t_tp, t_tm, hU7, hU0, hU9⟩ := id hlx
  obtain ⟨lk1, lk2, lk3, lk4, lk5, lk6⟩ := id hlk
  have hO := okc hO9 t_ch t_tk t_tp t_tm
  obtain ⟨hr1, hr2⟩ := id hr
  have hOX : ∀ o ∈ (ch :: tk :: tp :: tm :: O), ∃ (k : Nat) (e : va_E), ((ch, .inr (0, [.ref y0, .int y1, .ref y2, .ref y3])) :: (tk, .inr (7, [o0, .int k1, .int k2, .int k3, .int k4, .int k5, .int k6, .int k7])) :: (tp, .inl (cs.1, 900, .inl ft)) :: (tm, .inl (cs.2.1, 900, .inl f3)) :: X)[k]? = some (o, e) := ox_c (ox_c (ox_c (ox_c hOX0)))
  have hOXf := hOX
  have b1_w := t_w.2.1
  have b2_w := t_w.2.2
  refine lv_aload_n hx hb dL_law_703 rfl (lv_at hl 1 rfl) ?_
  refine lv_aload_n hx hb dL_law_704 rfl (lv_at hl 0 rfl) ?_
  refine lv_iload_n hx hb dL_law_705 rfl (lv_at hl 3 rfl) ?_
  refine lv_iconst (v := 1) hx hb dL_law_706 (by decide) ?_
  refine lv_iadd hx hb dL_law_707 ?_
  refine lv_topi (fun v707 ev707 => ?_)
  have tv707 : v707.toInt = x3.toInt + (1) := by rw [ev707]; exact add_i rfl (by decide : (1 : Int32).toInt = 1) (by omega) (by omega)
  refine va_sld hx hb hX hbl hbA hS (in_t (by omega) (by omega)) dL_law_708 ?_
  refine lv_topi (fun v708 ev708 => ?_)
  refine tk_l hH hS hA (tr_V (n := 1) (As := [.int v708]) hx hb hml hown hts hkb hH (ox_map hOX rfl) hks hE hS hA (s_FW_ways l D cs kf T (ch :: tk :: tp :: tm :: O) ((ch, .inr (0, [.ref y0, .int y1, .ref y2, .ref y3])) :: (tk, .inr (7, [o0, .int k1, .int k2, .int k3, .int k4, .int k5, .int k6, .int k7])) :: (tp, .inl (cs.1, 900, .inl ft)) :: (tm, .inl (cs.2.1, 900, .inl f3)) :: X) a0 w hw gw ch G v708 t_a0 t_w t_ch (hO.sub (by decide))) kw_976 kw_977 kw_978 kw_1 kw_979 (by decide +kernel) ⟨Nat.le_of_ble_eq_true rfl, Nat.le_of_ble_eq_true rfl⟩ (HT.recv (ci := 11) hkb hH t_a0 (hO.no t_a0 (by decide)) rfl) rfl rfl hl.1 (Nat.le_of_ble_eq_true rfl) dL_law_709 ⟨by show cells + 0 ≤ 600000; omega, by show slots + 0 ≤ 7302250; omega⟩) (fun v709 u H locs hz9 hH hS => ?_)
  have hz9 : u = (T, ch :: tk :: tp :: tm :: O, (ch, .inr (0, [.ref y0, .int y1, .ref y2, .ref y3])) :: (tk, .inr (7, [o0, .int k1, .int k2, .int k3, .int k4, .int k5, .int k6, .int k7])) :: (tp, .inl (cs.1, 900, .inl ft)) :: (tm, .inl (cs.2.1, 900, .inl f3)) :: X) := hz9
  subst hz9
  have hH : HT D cs A T (ch :: tk :: tp :: tm :: O) ((ch, .inr (0, [.ref y0, .int y1, .ref y2, .ref y3])) :: (tk, .inr (7, [o0, .int k1, .int k2, .int k3, .int k4, .int k5, .int k6, .int k7])) :: (tp, .inl (cs.1, 900, .inl ft)) :: (tm, .inl (cs.2.1, 900, .inl f3)) :: X) H := hH
  refine W.widen (k := cells) (n := slots) (Nat.le_refl _) (Nat.le_refl _) ?_
  refine lv_pop2_2 hx hb dL_law_712 rfl ?_
  refine lv_aload_n hx hb dL_law_713 rfl (lv_at hl 2 rfl) ?_
  refine lv_aload_n hx hb dL_law_714 rfl (lv_at hl 0 rfl) ?_
  refine lv_iload_n hx hb dL_law_715 rfl (lv_at hl 3 rfl) ?_
  refine lv_iconst (v := 1) hx hb dL_law_716 (by decide) ?_
  refine lv_iadd hx hb dL_law_717 ?_
  refine lv_topi (fun v717 ev717 => ?_)
  have tv717 : v717.toInt = x3.toInt + (1) := by rw [ev717]; exact add_i rfl (by decide : (1 : Int32).toInt = 1) (by omega) (by omega)
  refine va_sld hx hb hX hbl hbA hS (in_t (by omega) (by omega)) dL_law_718 ?_
  refine lv_topi (fun v718 ev718 => ?_)
  refine tk_l hH hS hA (tr_V (n := 1) (As := [.int v718]) hx hb hml hown hts hkb hH (ox_map hOX rfl) hks hE hS hA (s_M_ways l D cs kf T (ch :: tk :: tp :: tm :: O) ((ch, .inr (0, [.ref y0, .int y1, .ref y2, .ref y3])) :: (tk, .inr (7, [o0, .int k1, .int k2, .int k3, .int k4, .int k5, .int k6, .int k7])) :: (tp, .inl (cs.1, 900, .inl ft)) :: (tm, .inl (cs.2.1, 900, .inl f3)) :: X) a1 hg M v718 t_a1 b_hg (hO.sub (by decide))) kw_1618 kw_1619 kw_1620 kw_13 kw_1621 (by decide +kernel) ⟨Nat.le_of_ble_eq_true rfl, Nat.le_of_ble_eq_true rfl⟩ (HT.recv (ci := 12) hkb hH t_a1 (hO.no t_a1 (by decide)) rfl) rfl rfl hl.1 (Nat.le_of_ble_eq_true rfl) dL_law_719 ⟨by show cells + 0 ≤ 600000; omega, by show slots + 0 ≤ 7302250; omega⟩) (fun v719 u H locs hz9 hH hS => ?_)
  have hz9 : u = (T, ch :: tk :: tp :: tm :: O, (ch, .inr (0, [.ref y0, .int y1, .ref y2, .ref y3])) :: (tk, .inr (7, [o0, .int k1, .int k2, .int k3, .int k4, .int k5, .int k6, .int k7])) :: (tp, .inl (cs.1, 900, .inl ft)) :: (tm, .inl (cs.2.1, 900, .inl f3)) :: X) := hz9
  subst hz9
  have hH : HT D cs A T (ch :: tk :: tp :: tm :: O) ((ch, .inr (0, [.ref y0, .int y1, .ref y2, .ref y3])) :: (tk, .inr (7, [o0, .int k1, .int k2, .int k3, .int k4, .int k5, .int k6, .int k7])) :: (tp, .inl (cs.1, 900, .inl ft)) :: (tm, .inl (cs.2.1, 900, .inl f3)) :: X) H := hH
  refine W.widen (k := cells) (n := slots) (Nat.le_refl _) (Nat.le_refl _) ?_
  refine lv_pop2_2 hx hb dL_law_722 rfl ?_
  refine lv_goto (tgt := 1395) hx hb dL_law_723 (by decide) ?_
  exact kk T w hw gw hg G M y0 nn j y1 o0 k1 k2 k3 k4 k5 k6 k7 ft f3 t _ _ _ _ _ hv hlx hlg hlk hr.s hH hS (lv_sub hl [0, 1, 2, 3] rfl)
set_option maxHeartbeats 4000000 in
set_option maxRecDepth 100000 in
/-- climbs -/
theorem lw_c18 {p : Program} {e : Env} {s : State} {m : MethodId} {below : List Frame} {meth : Method} {c : Code} {Q : State → Prop} (l : Launch) (D : va_G) (cs : CS) (kf : KF) {b L : Nat} {xs : Nat → Int32} (hx : p.tables.exec = Jvm.exec) (hb : c.code = code) (hml : c.maxLocals = 4) (hown : s.vm.findClass R_law = some m.cls) (hts : ∀ w ∈ gw, w.before #[Value.ref b] s = true) (hX : va_X b L xs s s.heap) (hbl : b < s.heap.size) (hkb : kb D (tyc cs) s) (hks : kS kf s) {A : Nat → Prop} (hE : kE kf A s s.heap) (hA : ∀ q, s.heap.size ≤ q → A q) (hbA : ¬ A b) (hL : L ≤ 3072) (O : List Nat) (X : va_W) (hOX0 : ∀ o ∈ O, ∃ (k : Nat) (e : va_E), X[k]? = some (o, e)) (hO9 : O = []) (a0 ch a1 y2 y3 tk tp tm : Nat) (T : TF) (w hw gw hg G M y0 nn j : Nat) (y1 : Int32) (o0 : Value) (k1 k2 k3 k4 k5 k6 k7 : Int32) (ft f3 : Nat → Int32) (t : Tp) (x3 : Int32) (n cells slots : Nat) (H : Heap) (locs : List Loc) (ls : Array Slot) (hv : LV T a0 a1 ch w hw gw hg G M y0 y2 y3 nn j y1) (hlx : LX T tk tp tm) (hlg : LG G M ft f3 t k6 k7) (hlk : LK k1 k2 k3) (hr : RM cells slots n j) (hn512 : n < 512) (l_x3 : 0 ≤ x3.toInt) (u_x3 : x3.toInt + 6 ≤ L) (hH : HT D cs A T (ch :: tk :: tp :: tm :: O) ((ch, .inr (0, [.ref y0, .int y1, .ref y2, .ref y3])) :: (tk, .inr (7, [o0, .int k1, .int k2, .int k3, .int k4, .int k5, .int k6, .int k7])) :: (tp, .inl (cs.1, 900, .inl ft)) :: (tm, .inl (cs.2.1, 900, .inl f3)) :: X) H) (hS : va_S A s.heap H locs) (hl : lv_has ls 4 [(0, .ref b), (1, .ref a0), (2, .ref a1), (3, .int x3)]) (kk : ∀ (T : TF) (w hw gw hg G M y0 nn j : Nat) (y1 : Int32) (o0 : Value) (k1 k2 k3 k4 k5 k6 k7 : Int32) (ft f3 : Nat → Int32) (t : Tp) (cells slots : Nat) (H : Heap) (locs : List Loc) (ls : Array Slot), LV T a0 a1 ch w hw gw hg G M y0 y2 y3 nn j y1 → LX T tk tp tm → LG G M ft f3 t k6 k7 → LK k1 k2 k3 → RM cells slots (n + 1) j → HT D cs A T (ch :: tk :: tp :: tm :: O) ((ch, .inr (0, [.ref y0, .int y1, .ref y2, .ref y3])) :: (tk, .inr (7, [o0, .int k1, .int k2, .int k3, .int k4, .int k5, .int k6, .int k7])) :: (tp, .inl (cs.1, 900, .inl ft)) :: (tm, .inl (cs.2.1, 900, .inl f3)) :: X) H → va_S A s.heap H locs → lv_has ls 4 [(0, .ref b), (1, .ref a0), (2, .ref a1), (3, .int x3)] → W p l e room_1 s m #[Value.ref b] below meth c H locs cells slots Q (F0 m 1395 ls [])) : W p l e room_1 s m #[Value.ref b] below meth c H locs cells slots Q (F0 m 726 ls []) := by
  obtain ⟨t_a0, t_w, t_a1, b_hg, hU, hU1, t_ch, t_y0, l_y1, u_y1, t_y2, t_y3, hn, hj⟩ := id hv
  obtain ⟨t_tk, t_tp, t_tm, hU7, hU0, hU9⟩ := id hlx
  obtain ⟨lk1, lk2, lk3, lk4, lk5, lk6⟩ := id hlk
  have hO := okc hO9 t_ch t_tk t_tp t_tm
  obtain ⟨hr1, hr2⟩ := id hr
  have hOX : ∀ o ∈ (ch :: tk :: tp :: tm :: O), ∃ (k : Nat) (e : va_E), ((ch, .inr (0, [.ref y0, .int y1, .ref y2, .ref y3])) :: (tk, .inr (7, [o0, .int k1, .int k2, .int k3, .int k4, .int k5, .int k6, .int k7])) :: (tp, .inl (cs.1, 900, .inl ft)) :: (tm, .inl (cs.2.1, 900, .inl f3)) :: X)[k]? = some (o, e) := ox_c (ox_c (ox_c (ox_c hOX0)))
  have hOXf := hOX
  have b1_w := t_w.2.1
  have b2_w := t_w.2.2
  refine lv_aload_n hx hb dL_law_726 rfl (lv_at hl 1 rfl) ?_
  refine lv_aload_n hx hb dL_law_727 rfl (lv_at hl 0 rfl) ?_
  refine lv_iload_n hx hb dL_law_728 rfl (lv_at hl 3 rfl) ?_
  refine lv_iconst (v := 1) hx hb dL_law_729 (by decide) ?_
  refine lv_iadd hx hb dL_law_730 ?_
  refine lv_topi (fun v730 ev730 => ?_)
  have tv730 : v730.toInt = x3.toInt + (1) := by rw [ev730]; exact add_i rfl (by decide : (1 : Int32).toInt = 1) (by omega) (by omega)
  refine va_sld hx hb hX hbl hbA hS (in_t (by omega) (by omega)) dL_law_731 ?_
  refine lv_topi (fun v731 ev731 => ?_)
  refine lv_aload_n hx hb dL_law_732 rfl (lv_at hl 0 rfl) ?_
  refine lv_iload_n hx hb dL_law_733 rfl (lv_at hl 3 rfl) ?_
  refine lv_iconst (v := 2) hx hb dL_law_734 (by decide) ?_
  refine lv_iadd hx hb dL_law_735 ?_
  refine lv_topi (fun v735 ev735 => ?_)
  have tv735 : v735.toInt = x3.toInt + (2) := by rw [ev735]; exact add_i rfl (by decide : (2 : Int32).toInt = 2) (by omega) (by omega)
  refine va_sld hx hb hX hbl hbA hS (in_t (by omega) (by omega)) dL_law_736 ?_
  refine lv_topi (fun v736 ev736 => ?_)
  refine tk_l hH hS hA (tr_V (n := 2) (As := [.int v731, .int v736]) hx hb hml hown hts hkb hH (ox_map hOX rfl) hks hE hS hA (s_FW_climbs l D cs kf T (ch :: tk :: tp :: tm :: O) ((ch, .inr (0, [.ref y0, .int y1, .ref y2, .ref y3])) :: (tk, .inr (7, [o0, .int k1, .int k2, .int k3, .int k4, .int k5, .int k6, .int k7])) :: (tp, .inl (cs.1, 900, .inl ft)) :: (tm, .inl (cs.2.1, 900, .inl f3)) :: X) a0 w hw gw ch G v731 v736 t_a0 t_w t_ch (hO.sub (by decide))) kw_989 kw_990 kw_991 kw_1 kw_992 (by decide +kernel) ⟨Nat.le_of_ble_eq_true rfl, Nat.le_of_ble_eq_true rfl⟩ (HT.recv (ci := 11) hkb hH t_a0 (hO.no t_a0 (by decide)) rfl) rfl rfl hl.1 (Nat.le_of_ble_eq_true rfl) dL_law_737 ⟨by show cells + 0 ≤ 600000; omega, by show slots + 0 ≤ 7302250; omega⟩) (fun v737 u H locs hz9 hH hS => ?_)
  have hz9 : u = (T, ch :: tk :: tp :: tm :: O, (ch, .inr (0, [.ref y0, .int y1, .ref y2, .ref y3])) :: (tk, .inr (7, [o0, .int k1, .int k2, .int k3, .int k4, .int k5, .int k6, .int k7])) :: (tp, .inl (cs.1, 900, .inl ft)) :: (tm, .inl (cs.2.1, 900, .inl f3)) :: X) := hz9
  subst hz9
  have hH : HT D cs A T (ch :: tk :: tp :: tm :: O) ((ch, .inr (0, [.ref y0, .int y1, .ref y2, .ref y3])) :: (tk, .inr (7, [o0, .int k1, .int k2, .int k3, .int k4, .int k5, .int k6, .int k7])) :: (tp, .inl (cs.1, 900, .inl ft)) :: (tm, .inl (cs.2.1, 900, .inl f3)) :: X) H := hH
  refine W.widen (k := cells) (n := slots) (Nat.le_refl _) (Nat.le_refl _) ?_
  refine lv_pop2_2 hx hb dL_law_740 rfl ?_
  refine lv_aload_n hx hb dL_law_741 rfl (lv_at hl 2 rfl) ?_
  refine lv_aload_n hx hb dL_law_742 rfl (lv_at hl 0 rfl) ?_
  refine lv_iload_n hx hb dL_law_743 rfl (lv_at hl 3 rfl) ?_
  refine lv_iconst (v := 1) hx hb dL_law_744 (by decide) ?_
  refine lv_iadd hx hb dL_law_745 ?_
  refine lv_topi (fun v745 ev745 => ?_)
  have tv745 : v745.toInt = x3.toInt + (1) := by rw [ev745]; exact add_i rfl (by decide : (1 : Int32).toInt = 1) (by omega) (by omega)
  refine va_sld hx hb hX hbl hbA hS (in_t (by omega) (by omega)) dL_law_746 ?_
  refine lv_topi (fun v746 ev746 => ?_)
  refine lv_aload_n hx hb dL_law_747 rfl (lv_at hl 0 rfl) ?_
  refine lv_iload_n hx hb dL_law_748 rfl (lv_at hl 3 rfl) ?_
  refine lv_iconst (v := 2) hx hb dL_law_749 (by decide) ?_
  refine lv_iadd hx hb dL_law_750 ?_
  refine lv_topi (fun v750 ev750 => ?_)
  have tv750 : v750.toInt = x3.toInt + (2) := by rw [ev750]; exact add_i rfl (by decide : (2 : Int32).toInt = 2) (by omega) (by omega)
  refine va_sld hx hb hX hbl hbA hS (in_t (by omega) (by omega)) dL_law_751 ?_
  refine lv_topi (fun v751 ev751 => ?_)
  refine tk_l hH hS hA (tr_V (n := 2) (As := [.int v746, .int v751]) hx hb hml hown hts hkb hH (ox_map hOX rfl) hks hE hS hA (s_M_climbs l D cs kf T (ch :: tk :: tp :: tm :: O) ((ch, .inr (0, [.ref y0, .int y1, .ref y2, .ref y3])) :: (tk, .inr (7, [o0, .int k1, .int k2, .int k3, .int k4, .int k5, .int k6, .int k7])) :: (tp, .inl (cs.1, 900, .inl ft)) :: (tm, .inl (cs.2.1, 900, .inl f3)) :: X) a1 hg M v746 v751 t_a1 b_hg (hO.sub (by decide))) kw_1638 kw_1639 kw_1640 kw_13 kw_1641 (by decide +kernel) ⟨Nat.le_of_ble_eq_true rfl, Nat.le_of_ble_eq_true rfl⟩ (HT.recv (ci := 12) hkb hH t_a1 (hO.no t_a1 (by decide)) rfl) rfl rfl hl.1 (Nat.le_of_ble_eq_true rfl) dL_law_752 ⟨by show cells + 0 ≤ 600000; omega, by show slots + 0 ≤ 7302250; omega⟩) (fun v752 u H locs hz9 hH hS => ?_)
  have hz9 : u = (T, ch :: tk :: tp :: tm :: O, (ch, .inr (0, [.ref y0, .int y1, .ref y2, .ref y3])) :: (tk, .inr (7, [o0, .int k1, .int k2, .int k3, .int k4, .int k5, .int k6, .int k7])) :: (tp, .inl (cs.1, 900, .inl ft)) :: (tm, .inl (cs.2.1, 900, .inl f3)) :: X) := hz9
  subst hz9
  have hH : HT D cs A T (ch :: tk :: tp :: tm :: O) ((ch, .inr (0, [.ref y0, .int y1, .ref y2, .ref y3])) :: (tk, .inr (7, [o0, .int k1, .int k2, .int k3, .int k4, .int k5, .int k6, .int k7])) :: (tp, .inl (cs.1, 900, .inl ft)) :: (tm, .inl (cs.2.1, 900, .inl f3)) :: X) H := hH
  refine W.widen (k := cells) (n := slots) (Nat.le_refl _) (Nat.le_refl _) ?_
  refine lv_pop2_2 hx hb dL_law_755 rfl ?_
  refine lv_goto (tgt := 1395) hx hb dL_law_756 (by decide) ?_
  exact kk T w hw gw hg G M y0 nn j y1 o0 k1 k2 k3 k4 k5 k6 k7 ft f3 t _ _ _ _ _ hv hlx hlg hlk hr.s hH hS (lv_sub hl [0, 1, 2, 3] rfl)
set_option maxHeartbeats 4000000 in
set_option maxRecDepth 100000 in
/-- parties -/
theorem lw_c19 {p : Program} {e : Env} {s : State} {m : MethodId} {below : List Frame} {meth : Method} {c : Code} {Q : State → Prop} (l : Launch) (D : va_G) (cs : CS) (kf : KF) {b L : Nat} {xs : Nat → Int32} (hx : p.tables.exec = Jvm.exec) (hb : c.code = code) (hml : c.maxLocals = 4) (hown : s.vm.findClass R_law = some m.cls) (hts : ∀ w ∈ gw, w.before #[Value.ref b] s = true) (hX : va_X b L xs s s.heap) (hbl : b < s.heap.size) (hkb : kb D (tyc cs) s) (hks : kS kf s) {A : Nat → Prop} (hE : kE kf A s s.heap) (hA : ∀ q, s.heap.size ≤ q → A q) (hbA : ¬ A b) (hL : L ≤ 3072) (O : List Nat) (X : va_W) (hOX0 : ∀ o ∈ O, ∃ (k : Nat) (e : va_E), X[k]? = some (o, e)) (hO9 : O = []) (a0 ch a1 y2 y3 tk tp tm : Nat) (T : TF) (w hw gw hg G M y0 nn j : Nat) (y1 : Int32) (o0 : Value) (k1 k2 k3 k4 k5 k6 k7 : Int32) (ft f3 : Nat → Int32) (t : Tp) (x3 : Int32) (n cells slots : Nat) (H : Heap) (locs : List Loc) (ls : Array Slot) (hv : LV T a0 a1 ch w hw gw hg G M y0 y2 y3 nn j y1) (hlx : LX T tk tp tm) (hlg : LG G M ft f3 t k6 k7) (hlk : LK k1 k2 k3) (hr : RM cells slots n j) (hn512 : n < 512) (l_x3 : 0 ≤ x3.toInt) (u_x3 : x3.toInt + 6 ≤ L) (hH : HT D cs A T (ch :: tk :: tp :: tm :: O) ((ch, .inr (0, [.ref y0, .int y1, .ref y2, .ref y3])) :: (tk, .inr (7, [o0, .int k1, .int k2, .int k3, .int k4, .int k5, .int k6, .int k7])) :: (tp, .inl (cs.1, 900, .inl ft)) :: (tm, .inl (cs.2.1, 900, .inl f3)) :: X) H) (hS : va_S A s.heap H locs) (hl : lv_has ls 4 [(0, .ref b), (1, .ref a0), (2, .ref a1), (3, .int x3)]) (kk : ∀ (T : TF) (w hw gw hg G M y0 nn j : Nat) (y1 : Int32) (o0 : Value) (k1 k2 k3 k4 k5 k6 k7 : Int32) (ft f3 : Nat → Int32) (t : Tp) (cells slots : Nat) (H : Heap) (locs : List Loc) (ls : Array Slot), LV T a0 a1 ch w hw gw hg G M y0 y2 y3 nn j y1 → LX T tk tp tm → LG G M ft f3 t k6 k7 → LK k1 k2 k3 → RM cells slots (n + 1) j → HT D cs A T (ch :: tk :: tp :: tm :: O) ((ch, .inr (0, [.ref y0, .int y1, .ref y2, .ref y3])) :: (tk, .inr (7, [o0, .int k1, .int k2, .int k3, .int k4, .int k5, .int k6, .int k7])) :: (tp, .inl (cs.1, 900, .inl ft)) :: (tm, .inl (cs.2.1, 900, .inl f3)) :: X) H → va_S A s.heap H locs → lv_has ls 4 [(0, .ref b), (1, .ref a0), (2, .ref a1), (3, .int x3)] → W p l e room_1 s m #[Value.ref b] below meth c H locs cells slots Q (F0 m 1395 ls [])) : W p l e room_1 s m #[Value.ref b] below meth c H locs cells slots Q (F0 m 759 ls []) := by
  obtain ⟨t_a0, t_w, t_a1, b_hg, hU, hU1, t_ch, t_y0, l_y1, u_y1, t_y2, t_y3, hn, hj⟩ := id hv
  obtain ⟨t_tk, t_tp, t_tm, hU7, hU0, hU9⟩ := id hlx
  obtain ⟨lk1, lk2, lk3, lk4, lk5, lk6⟩ := id hlk
  have hO := okc hO9 t_ch t_tk t_tp t_tm
  obtain ⟨hr1, hr2⟩ := id hr
  have hOX : ∀ o ∈ (ch :: tk :: tp :: tm :: O), ∃ (k : Nat) (e : va_E), ((ch, .inr (0, [.ref y0, .int y1, .ref y2, .ref y3])) :: (tk, .inr (7, [o0, .int k1, .int k2, .int k3, .int k4, .int k5, .int k6, .int k7])) :: (tp, .inl (cs.1, 900, .inl ft)) :: (tm, .inl (cs.2.1, 900, .inl f3)) :: X)[k]? = some (o, e) := ox_c (ox_c (ox_c (ox_c hOX0)))
  have hOXf := hOX
  have b1_w := t_w.2.1
  have b2_w := t_w.2.2
  refine lv_aload_n hx hb dL_law_759 rfl (lv_at hl 1 rfl) ?_
  refine lv_aload_n hx hb dL_law_760 rfl (lv_at hl 0 rfl) ?_
  refine lv_iload_n hx hb dL_law_761 rfl (lv_at hl 3 rfl) ?_
  refine lv_iconst (v := 1) hx hb dL_law_762 (by decide) ?_
  refine lv_iadd hx hb dL_law_763 ?_
  refine lv_topi (fun v763 ev763 => ?_)
  have tv763 : v763.toInt = x3.toInt + (1) := by rw [ev763]; exact add_i rfl (by decide : (1 : Int32).toInt = 1) (by omega) (by omega)
  refine va_sld hx hb hX hbl hbA hS (in_t (by omega) (by omega)) dL_law_764 ?_
  refine lv_topi (fun v764 ev764 => ?_)
  refine tk_i hH hS hA (tr_V (n := 1) (As := [.int v764]) hx hb hml hown hts hkb hH (ox_map hOX rfl) hks hE hS hA (s_FW_parties l D cs kf T (ch :: tk :: tp :: tm :: O) ((ch, .inr (0, [.ref y0, .int y1, .ref y2, .ref y3])) :: (tk, .inr (7, [o0, .int k1, .int k2, .int k3, .int k4, .int k5, .int k6, .int k7])) :: (tp, .inl (cs.1, 900, .inl ft)) :: (tm, .inl (cs.2.1, 900, .inl f3)) :: X) a0 w hw gw ch G v764 t_a0 t_w t_ch (hO.sub (by decide))) kw_1010 kw_1011 kw_1012 kw_1 kw_1013 (by decide +kernel) ⟨Nat.le_of_ble_eq_true rfl, Nat.le_of_ble_eq_true rfl⟩ (HT.recv (ci := 11) hkb hH t_a0 (hO.no t_a0 (by decide)) rfl) rfl rfl hl.1 (Nat.le_of_ble_eq_true rfl) dL_law_765 ⟨by show cells + 0 ≤ 600000; omega, by show slots + 0 ≤ 7302250; omega⟩) (fun v765 u H locs hz9 hH hS => ?_)
  obtain ⟨rfl, l_v765, u_v765⟩ := hz9
  have hH : HT D cs A T (ch :: tk :: tp :: tm :: O) ((ch, .inr (0, [.ref y0, .int y1, .ref y2, .ref y3])) :: (tk, .inr (7, [o0, .int k1, .int k2, .int k3, .int k4, .int k5, .int k6, .int k7])) :: (tp, .inl (cs.1, 900, .inl ft)) :: (tm, .inl (cs.2.1, 900, .inl f3)) :: X) H := hH
  refine W.widen (k := cells) (n := slots) (Nat.le_refl _) (Nat.le_refl _) ?_
  refine lv_pop hx hb dL_law_768 rfl ?_
  refine lv_aload_n hx hb dL_law_769 rfl (lv_at hl 2 rfl) ?_
  refine lv_aload_n hx hb dL_law_770 rfl (lv_at hl 0 rfl) ?_
  refine lv_iload_n hx hb dL_law_771 rfl (lv_at hl 3 rfl) ?_
  refine lv_iconst (v := 1) hx hb dL_law_772 (by decide) ?_
  refine lv_iadd hx hb dL_law_773 ?_
  refine lv_topi (fun v773 ev773 => ?_)
  have tv773 : v773.toInt = x3.toInt + (1) := by rw [ev773]; exact add_i rfl (by decide : (1 : Int32).toInt = 1) (by omega) (by omega)
  refine va_sld hx hb hX hbl hbA hS (in_t (by omega) (by omega)) dL_law_774 ?_
  refine lv_topi (fun v774 ev774 => ?_)
  refine tk_i hH hS hA (tr_V (n := 1) (As := [.int v774]) hx hb hml hown hts hkb hH (ox_map hOX rfl) hks hE hS hA (s_M_parties l D cs kf T (ch :: tk :: tp :: tm :: O) ((ch, .inr (0, [.ref y0, .int y1, .ref y2, .ref y3])) :: (tk, .inr (7, [o0, .int k1, .int k2, .int k3, .int k4, .int k5, .int k6, .int k7])) :: (tp, .inl (cs.1, 900, .inl ft)) :: (tm, .inl (cs.2.1, 900, .inl f3)) :: X) a1 hg M v774 t_a1 b_hg (hO.sub (by decide))) kw_1648 kw_1649 kw_1650 kw_13 kw_1651 (by decide +kernel) ⟨Nat.le_of_ble_eq_true rfl, Nat.le_of_ble_eq_true rfl⟩ (HT.recv (ci := 12) hkb hH t_a1 (hO.no t_a1 (by decide)) rfl) rfl rfl hl.1 (Nat.le_of_ble_eq_true rfl) dL_law_775 ⟨by show cells + 0 ≤ 600000; omega, by show slots + 0 ≤ 7302250; omega⟩) (fun v775 u H locs hz9 hH hS => ?_)
  have hz9 : u = (T, ch :: tk :: tp :: tm :: O, (ch, .inr (0, [.ref y0, .int y1, .ref y2, .ref y3])) :: (tk, .inr (7, [o0, .int k1, .int k2, .int k3, .int k4, .int k5, .int k6, .int k7])) :: (tp, .inl (cs.1, 900, .inl ft)) :: (tm, .inl (cs.2.1, 900, .inl f3)) :: X) := hz9
  subst hz9
  have hH : HT D cs A T (ch :: tk :: tp :: tm :: O) ((ch, .inr (0, [.ref y0, .int y1, .ref y2, .ref y3])) :: (tk, .inr (7, [o0, .int k1, .int k2, .int k3, .int k4, .int k5, .int k6, .int k7])) :: (tp, .inl (cs.1, 900, .inl ft)) :: (tm, .inl (cs.2.1, 900, .inl f3)) :: X) H := hH
  refine W.widen (k := cells) (n := slots) (Nat.le_refl _) (Nat.le_refl _) ?_
  refine lv_pop hx hb dL_law_778 rfl ?_
  refine lv_goto (tgt := 1395) hx hb dL_law_779 (by decide) ?_
  exact kk T w hw gw hg G M y0 nn j y1 o0 k1 k2 k3 k4 k5 k6 k7 ft f3 t _ _ _ _ _ hv hlx hlg hlk hr.s hH hS (lv_sub hl [0, 1, 2, 3] rfl)
theorem dL_law_782 : decode code 782 = .ok (.aload_n 1, 1) := by decide +kernel
theorem dL_law_783 : decode code 783 = .ok (.aload_n 0, 1) := by decide +kernel
theorem dL_law_784 : decode code 784 = .ok (.iload_n 3, 1) := by decide +kernel
theorem dL_law_785 : decode code 785 = .ok (.iconst 1, 1) := by decide +kernel
theorem dL_law_786 : decode code 786 = .ok (.iadd, 1) := by decide +kernel
theorem dL_law_787 : decode code 787 = .ok (.iaload, 1) := by decide +kernel
theorem dL_law_788 : decode code 788 = .ok (.aload_n 0, 1) := by decide +kernel
theorem dL_law_789 : decode code 789 = .ok (.iload_n 3, 1) := by decide +kernel
theorem dL_law_790 : decode code 790 = .ok (.iconst 2, 1) := by decide +kernel
theorem dL_law_791 : decode code 791 = .ok (.iadd, 1) := by decide +kernel
theorem dL_law_792 : decode code 792 = .ok (.iaload, 1) := by decide +kernel
theorem dL_law_793 : decode code 793 = .ok (.invokevirtual 100, 3) := by decide +kernel
theorem dL_law_796 : decode code 796 = .ok (.pop, 1) := by decide +kernel
theorem dL_law_797 : decode code 797 = .ok (.aload_n 2, 1) := by decide +kernel
theorem dL_law_798 : decode code 798 = .ok (.aload_n 0, 1) := by decide +kernel
theorem dL_law_799 : decode code 799 = .ok (.iload_n 3, 1) := by decide +kernel
theorem dL_law_800 : decode code 800 = .ok (.iconst 1, 1) := by decide +kernel
theorem dL_law_801 : decode code 801 = .ok (.iadd, 1) := by decide +kernel
theorem dL_law_802 : decode code 802 = .ok (.iaload, 1) := by decide +kernel
theorem dL_law_803 : decode code 803 = .ok (.aload_n 0, 1) := by decide +kernel
theorem dL_law_804 : decode code 804 = .ok (.iload_n 3, 1) := by decide +kernel
theorem dL_law_805 : decode code 805 = .ok (.iconst 2, 1) := by decide +kernel
theorem dL_law_806 : decode code 806 = .ok (.iadd, 1) := by decide +kernel
theorem dL_law_807 : decode code 807 = .ok (.iaload, 1) := by decide +kernel
theorem dL_law_808 : decode code 808 = .ok (.invokevirtual 103, 3) := by decide +kernel
theorem dL_law_811 : decode code 811 = .ok (.pop, 1) := by decide +kernel
theorem dL_law_812 : decode code 812 = .ok (.goto 583, 3) := by decide +kernel
theorem dL_law_815 : decode code 815 = .ok (.aload_n 1, 1) := by decide +kernel
theorem dL_law_816 : decode code 816 = .ok (.aload_n 0, 1) := by decide +kernel
theorem dL_law_817 : decode code 817 = .ok (.iload_n 3, 1) := by decide +kernel
theorem dL_law_818 : decode code 818 = .ok (.iconst 1, 1) := by decide +kernel
theorem dL_law_819 : decode code 819 = .ok (.iadd, 1) := by decide +kernel
theorem dL_law_820 : decode code 820 = .ok (.iaload, 1) := by decide +kernel
theorem dL_law_821 : decode code 821 = .ok (.invokevirtual 104, 3) := by decide +kernel
theorem dL_law_824 : decode code 824 = .ok (.pop, 1) := by decide +kernel
theorem dL_law_825 : decode code 825 = .ok (.aload_n 2, 1) := by decide +kernel
theorem dL_law_826 : decode code 826 = .ok (.aload_n 0, 1) := by decide +kernel
theorem dL_law_827 : decode code 827 = .ok (.iload_n 3, 1) := by decide +kernel
theorem dL_law_828 : decode code 828 = .ok (.iconst 1, 1) := by decide +kernel
theorem dL_law_829 : decode code 829 = .ok (.iadd, 1) := by decide +kernel
theorem dL_law_830 : decode code 830 = .ok (.iaload, 1) := by decide +kernel
theorem dL_law_831 : decode code 831 = .ok (.invokevirtual 107, 3) := by decide +kernel
theorem dL_law_834 : decode code 834 = .ok (.pop, 1) := by decide +kernel
theorem dL_law_835 : decode code 835 = .ok (.goto 560, 3) := by decide +kernel
theorem dL_law_838 : decode code 838 = .ok (.aload_n 1, 1) := by decide +kernel
theorem dL_law_839 : decode code 839 = .ok (.aload_n 0, 1) := by decide +kernel
theorem dL_law_840 : decode code 840 = .ok (.iload_n 3, 1) := by decide +kernel
theorem dL_law_841 : decode code 841 = .ok (.iconst 1, 1) := by decide +kernel
theorem dL_law_842 : decode code 842 = .ok (.iadd, 1) := by decide +kernel
theorem dL_law_843 : decode code 843 = .ok (.iaload, 1) := by decide +kernel
theorem dL_law_844 : decode code 844 = .ok (.invokevirtual 108, 3) := by decide +kernel
theorem dL_law_847 : decode code 847 = .ok (.pop, 1) := by decide +kernel
theorem dL_law_848 : decode code 848 = .ok (.aload_n 2, 1) := by decide +kernel
theorem dL_law_849 : decode code 849 = .ok (.aload_n 0, 1) := by decide +kernel
theorem dL_law_850 : decode code 850 = .ok (.iload_n 3, 1) := by decide +kernel
theorem dL_law_851 : decode code 851 = .ok (.iconst 1, 1) := by decide +kernel
theorem dL_law_852 : decode code 852 = .ok (.iadd, 1) := by decide +kernel
theorem dL_law_853 : decode code 853 = .ok (.iaload, 1) := by decide +kernel
theorem dL_law_854 : decode code 854 = .ok (.invokevirtual 111, 3) := by decide +kernel
theorem dL_law_857 : decode code 857 = .ok (.pop, 1) := by decide +kernel
theorem dL_law_858 : decode code 858 = .ok (.goto 537, 3) := by decide +kernel
theorem dL_law_861 : decode code 861 = .ok (.aload_n 1, 1) := by decide +kernel
theorem dL_law_862 : decode code 862 = .ok (.invokevirtual 112, 3) := by decide +kernel
theorem dL_law_865 : decode code 865 = .ok (.pop, 1) := by decide +kernel
theorem dL_law_866 : decode code 866 = .ok (.aload_n 2, 1) := by decide +kernel
theorem dL_law_867 : decode code 867 = .ok (.invokevirtual 115, 3) := by decide +kernel
theorem dL_law_870 : decode code 870 = .ok (.pop, 1) := by decide +kernel
theorem dL_law_871 : decode code 871 = .ok (.goto 524, 3) := by decide +kernel
theorem dL_law_874 : decode code 874 = .ok (.aload_n 1, 1) := by decide +kernel
theorem dL_law_875 : decode code 875 = .ok (.aload_n 0, 1) := by decide +kernel
theorem dL_law_876 : decode code 876 = .ok (.iload_n 3, 1) := by decide +kernel
theorem dL_law_877 : decode code 877 = .ok (.iconst 1, 1) := by decide +kernel
theorem dL_law_878 : decode code 878 = .ok (.iadd, 1) := by decide +kernel
theorem dL_law_879 : decode code 879 = .ok (.iaload, 1) := by decide +kernel
theorem dL_law_880 : decode code 880 = .ok (.invokevirtual 116, 3) := by decide +kernel
theorem dL_law_883 : decode code 883 = .ok (.pop, 1) := by decide +kernel
theorem dL_law_884 : decode code 884 = .ok (.aload_n 2, 1) := by decide +kernel
theorem dL_law_885 : decode code 885 = .ok (.aload_n 0, 1) := by decide +kernel
theorem dL_law_886 : decode code 886 = .ok (.iload_n 3, 1) := by decide +kernel
theorem dL_law_887 : decode code 887 = .ok (.iconst 1, 1) := by decide +kernel
theorem dL_law_888 : decode code 888 = .ok (.iadd, 1) := by decide +kernel
theorem dL_law_889 : decode code 889 = .ok (.iaload, 1) := by decide +kernel
theorem dL_law_890 : decode code 890 = .ok (.invokevirtual 119, 3) := by decide +kernel
theorem dL_law_893 : decode code 893 = .ok (.pop, 1) := by decide +kernel
theorem dL_law_894 : decode code 894 = .ok (.goto 501, 3) := by decide +kernel
theorem dL_law_897 : decode code 897 = .ok (.aload_n 1, 1) := by decide +kernel
theorem dL_law_898 : decode code 898 = .ok (.aload_n 0, 1) := by decide +kernel
theorem dL_law_899 : decode code 899 = .ok (.iload_n 3, 1) := by decide +kernel
theorem dL_law_900 : decode code 900 = .ok (.iconst 1, 1) := by decide +kernel
theorem dL_law_901 : decode code 901 = .ok (.iadd, 1) := by decide +kernel
theorem dL_law_902 : decode code 902 = .ok (.iaload, 1) := by decide +kernel
theorem dL_law_903 : decode code 903 = .ok (.invokevirtual 120, 3) := by decide +kernel
theorem dL_law_906 : decode code 906 = .ok (.pop, 1) := by decide +kernel
theorem dL_law_907 : decode code 907 = .ok (.aload_n 2, 1) := by decide +kernel
theorem dL_law_908 : decode code 908 = .ok (.aload_n 0, 1) := by decide +kernel
theorem dL_law_909 : decode code 909 = .ok (.iload_n 3, 1) := by decide +kernel
theorem dL_law_910 : decode code 910 = .ok (.iconst 1, 1) := by decide +kernel
theorem dL_law_911 : decode code 911 = .ok (.iadd, 1) := by decide +kernel
theorem dL_law_912 : decode code 912 = .ok (.iaload, 1) := by decide +kernel
theorem dL_law_913 : decode code 913 = .ok (.invokevirtual 123, 3) := by decide +kernel
theorem dL_law_916 : decode code 916 = .ok (.pop, 1) := by decide +kernel
theorem dL_law_917 : decode code 917 = .ok (.goto 478, 3) := by decide +kernel
theorem dL_law_920 : decode code 920 = .ok (.aload_n 1, 1) := by decide +kernel
theorem dL_law_921 : decode code 921 = .ok (.aload_n 0, 1) := by decide +kernel
theorem dL_law_922 : decode code 922 = .ok (.iload_n 3, 1) := by decide +kernel
theorem dL_law_923 : decode code 923 = .ok (.iconst 1, 1) := by decide +kernel
theorem dL_law_924 : decode code 924 = .ok (.iadd, 1) := by decide +kernel
theorem dL_law_925 : decode code 925 = .ok (.iaload, 1) := by decide +kernel
theorem dL_law_926 : decode code 926 = .ok (.aload_n 0, 1) := by decide +kernel
theorem dL_law_927 : decode code 927 = .ok (.iload_n 3, 1) := by decide +kernel
theorem dL_law_928 : decode code 928 = .ok (.iconst 2, 1) := by decide +kernel
theorem dL_law_929 : decode code 929 = .ok (.iadd, 1) := by decide +kernel
theorem dL_law_930 : decode code 930 = .ok (.iaload, 1) := by decide +kernel
theorem dL_law_931 : decode code 931 = .ok (.invokevirtual 124, 3) := by decide +kernel
theorem dL_law_934 : decode code 934 = .ok (.pop, 1) := by decide +kernel
theorem dL_law_935 : decode code 935 = .ok (.aload_n 2, 1) := by decide +kernel
theorem dL_law_936 : decode code 936 = .ok (.aload_n 0, 1) := by decide +kernel
theorem dL_law_937 : decode code 937 = .ok (.iload_n 3, 1) := by decide +kernel
theorem dL_law_938 : decode code 938 = .ok (.iconst 1, 1) := by decide +kernel
theorem dL_law_939 : decode code 939 = .ok (.iadd, 1) := by decide +kernel
theorem dL_law_940 : decode code 940 = .ok (.iaload, 1) := by decide +kernel
theorem dL_law_941 : decode code 941 = .ok (.aload_n 0, 1) := by decide +kernel
theorem dL_law_942 : decode code 942 = .ok (.iload_n 3, 1) := by decide +kernel
theorem dL_law_943 : decode code 943 = .ok (.iconst 2, 1) := by decide +kernel
theorem dL_law_944 : decode code 944 = .ok (.iadd, 1) := by decide +kernel
theorem dL_law_945 : decode code 945 = .ok (.iaload, 1) := by decide +kernel
theorem dL_law_946 : decode code 946 = .ok (.invokevirtual 127, 3) := by decide +kernel
theorem dL_law_949 : decode code 949 = .ok (.pop, 1) := by decide +kernel
theorem dL_law_950 : decode code 950 = .ok (.goto 445, 3) := by decide +kernel
theorem dL_law_953 : decode code 953 = .ok (.aload_n 1, 1) := by decide +kernel
theorem dL_law_954 : decode code 954 = .ok (.aload_n 0, 1) := by decide +kernel
theorem dL_law_955 : decode code 955 = .ok (.iload_n 3, 1) := by decide +kernel
theorem dL_law_956 : decode code 956 = .ok (.iconst 1, 1) := by decide +kernel
theorem dL_law_957 : decode code 957 = .ok (.iadd, 1) := by decide +kernel
theorem dL_law_958 : decode code 958 = .ok (.iaload, 1) := by decide +kernel
theorem dL_law_959 : decode code 959 = .ok (.invokevirtual 128, 3) := by decide +kernel
theorem dL_law_962 : decode code 962 = .ok (.pop, 1) := by decide +kernel
theorem dL_law_963 : decode code 963 = .ok (.aload_n 2, 1) := by decide +kernel
theorem dL_law_964 : decode code 964 = .ok (.aload_n 0, 1) := by decide +kernel
theorem dL_law_965 : decode code 965 = .ok (.iload_n 3, 1) := by decide +kernel
theorem dL_law_966 : decode code 966 = .ok (.iconst 1, 1) := by decide +kernel
theorem dL_law_967 : decode code 967 = .ok (.iadd, 1) := by decide +kernel
theorem dL_law_968 : decode code 968 = .ok (.iaload, 1) := by decide +kernel
theorem dL_law_969 : decode code 969 = .ok (.invokevirtual 131, 3) := by decide +kernel
theorem dL_law_972 : decode code 972 = .ok (.pop, 1) := by decide +kernel
theorem dL_law_973 : decode code 973 = .ok (.goto 422, 3) := by decide +kernel
theorem dL_law_976 : decode code 976 = .ok (.aload_n 1, 1) := by decide +kernel
theorem dL_law_977 : decode code 977 = .ok (.aload_n 0, 1) := by decide +kernel
theorem dL_law_978 : decode code 978 = .ok (.iload_n 3, 1) := by decide +kernel
theorem dL_law_979 : decode code 979 = .ok (.iconst 1, 1) := by decide +kernel
theorem dL_law_980 : decode code 980 = .ok (.iadd, 1) := by decide +kernel
theorem dL_law_981 : decode code 981 = .ok (.iaload, 1) := by decide +kernel
theorem dL_law_982 : decode code 982 = .ok (.invokevirtual 132, 3) := by decide +kernel
theorem dL_law_985 : decode code 985 = .ok (.pop, 1) := by decide +kernel
theorem dL_law_986 : decode code 986 = .ok (.aload_n 2, 1) := by decide +kernel
theorem dL_law_987 : decode code 987 = .ok (.aload_n 0, 1) := by decide +kernel
theorem dL_law_988 : decode code 988 = .ok (.iload_n 3, 1) := by decide +kernel
theorem dL_law_989 : decode code 989 = .ok (.iconst 1, 1) := by decide +kernel
theorem dL_law_990 : decode code 990 = .ok (.iadd, 1) := by decide +kernel
theorem dL_law_991 : decode code 991 = .ok (.iaload, 1) := by decide +kernel
theorem dL_law_992 : decode code 992 = .ok (.invokevirtual 135, 3) := by decide +kernel
theorem dL_law_995 : decode code 995 = .ok (.pop, 1) := by decide +kernel
theorem dL_law_996 : decode code 996 = .ok (.goto 399, 3) := by decide +kernel
theorem dL_law_999 : decode code 999 = .ok (.aload_n 1, 1) := by decide +kernel
theorem dL_law_1000 : decode code 1000 = .ok (.aload_n 0, 1) := by decide +kernel
theorem dL_law_1001 : decode code 1001 = .ok (.iload_n 3, 1) := by decide +kernel
theorem dL_law_1002 : decode code 1002 = .ok (.iconst 1, 1) := by decide +kernel
theorem dL_law_1003 : decode code 1003 = .ok (.iadd, 1) := by decide +kernel
theorem dL_law_1004 : decode code 1004 = .ok (.iaload, 1) := by decide +kernel
theorem dL_law_1005 : decode code 1005 = .ok (.invokevirtual 136, 3) := by decide +kernel
theorem dL_law_1008 : decode code 1008 = .ok (.pop, 1) := by decide +kernel
theorem dL_law_1009 : decode code 1009 = .ok (.aload_n 2, 1) := by decide +kernel
theorem dL_law_1010 : decode code 1010 = .ok (.aload_n 0, 1) := by decide +kernel
theorem dL_law_1011 : decode code 1011 = .ok (.iload_n 3, 1) := by decide +kernel
theorem dL_law_1012 : decode code 1012 = .ok (.iconst 1, 1) := by decide +kernel
theorem dL_law_1013 : decode code 1013 = .ok (.iadd, 1) := by decide +kernel
theorem dL_law_1014 : decode code 1014 = .ok (.iaload, 1) := by decide +kernel
theorem dL_law_1015 : decode code 1015 = .ok (.invokevirtual 139, 3) := by decide +kernel
theorem dL_law_1018 : decode code 1018 = .ok (.pop, 1) := by decide +kernel
theorem dL_law_1019 : decode code 1019 = .ok (.goto 376, 3) := by decide +kernel
theorem kw_1040 : Cond.methodLink "FootholdWallLaw" 100 yX11_shut ∈ gw := gw_of (tb_of 1040 (by decide +kernel)) (by decide +kernel)
theorem kw_1041 : Cond.instanceMethod yX11_shut ∈ gw := gw_of (tb_of 1041 (by decide +kernel)) (by decide +kernel)
theorem kw_1042 : Cond.selects "FootholdWall" yX11_shut yX11_shut ∈ gw := gw_of (tb_of 1042 (by decide +kernel)) (by decide +kernel)
theorem kw_1043 : Cond.code yX11_shut cX11_shut 4 (some (.int)) ∈ gw := gw_of (tb_of 1043 (by decide +kernel)) (by decide +kernel)
theorem kw_1051 : Cond.methodLink "FootholdWallLaw" 104 yX11_needed ∈ gw := gw_of (tb_of 1051 (by decide +kernel)) (by decide +kernel)
theorem kw_1052 : Cond.instanceMethod yX11_needed ∈ gw := gw_of (tb_of 1052 (by decide +kernel)) (by decide +kernel)
theorem kw_1053 : Cond.selects "FootholdWall" yX11_needed yX11_needed ∈ gw := gw_of (tb_of 1053 (by decide +kernel)) (by decide +kernel)
theorem kw_1054 : Cond.code yX11_needed cX11_needed 4 (some (.int)) ∈ gw := gw_of (tb_of 1054 (by decide +kernel)) (by decide +kernel)
theorem kw_1063 : Cond.methodLink "FootholdWallLaw" 108 yX11_idle ∈ gw := gw_of (tb_of 1063 (by decide +kernel)) (by decide +kernel)
theorem kw_1064 : Cond.instanceMethod yX11_idle ∈ gw := gw_of (tb_of 1064 (by decide +kernel)) (by decide +kernel)
theorem kw_1065 : Cond.selects "FootholdWall" yX11_idle yX11_idle ∈ gw := gw_of (tb_of 1065 (by decide +kernel)) (by decide +kernel)
theorem kw_1066 : Cond.code yX11_idle cX11_idle 3 (some (.int)) ∈ gw := gw_of (tb_of 1066 (by decide +kernel)) (by decide +kernel)
theorem kw_1093 : Cond.methodLink "FootholdWallLaw" 112 yX11_able ∈ gw := gw_of (tb_of 1093 (by decide +kernel)) (by decide +kernel)
theorem kw_1094 : Cond.instanceMethod yX11_able ∈ gw := gw_of (tb_of 1094 (by decide +kernel)) (by decide +kernel)
theorem kw_1095 : Cond.selects "FootholdWall" yX11_able yX11_able ∈ gw := gw_of (tb_of 1095 (by decide +kernel)) (by decide +kernel)
theorem kw_1096 : Cond.code yX11_able cX11_able 3 (some (.int)) ∈ gw := gw_of (tb_of 1096 (by decide +kernel)) (by decide +kernel)
theorem kw_1097 : Cond.methodLink "FootholdWallLaw" 116 yX11_needers ∈ gw := gw_of (tb_of 1097 (by decide +kernel)) (by decide +kernel)
theorem kw_1098 : Cond.instanceMethod yX11_needers ∈ gw := gw_of (tb_of 1098 (by decide +kernel)) (by decide +kernel)
theorem kw_1099 : Cond.selects "FootholdWall" yX11_needers yX11_needers ∈ gw := gw_of (tb_of 1099 (by decide +kernel)) (by decide +kernel)
theorem kw_1100 : Cond.code yX11_needers cX11_needers 4 (some (.int)) ∈ gw := gw_of (tb_of 1100 (by decide +kernel)) (by decide +kernel)
theorem kw_1101 : Cond.methodLink "FootholdWallLaw" 120 yX11_highest ∈ gw := gw_of (tb_of 1101 (by decide +kernel)) (by decide +kernel)
theorem kw_1102 : Cond.instanceMethod yX11_highest ∈ gw := gw_of (tb_of 1102 (by decide +kernel)) (by decide +kernel)
theorem kw_1103 : Cond.selects "FootholdWall" yX11_highest yX11_highest ∈ gw := gw_of (tb_of 1103 (by decide +kernel)) (by decide +kernel)
theorem kw_1104 : Cond.code yX11_highest cX11_highest 5 (some (.int)) ∈ gw := gw_of (tb_of 1104 (by decide +kernel)) (by decide +kernel)
theorem kw_1106 : Cond.methodLink "FootholdWallLaw" 124 yX11_together ∈ gw := gw_of (tb_of 1106 (by decide +kernel)) (by decide +kernel)
theorem kw_1107 : Cond.instanceMethod yX11_together ∈ gw := gw_of (tb_of 1107 (by decide +kernel)) (by decide +kernel)
theorem kw_1108 : Cond.selects "FootholdWall" yX11_together yX11_together ∈ gw := gw_of (tb_of 1108 (by decide +kernel)) (by decide +kernel)
theorem kw_1109 : Cond.code yX11_together cX11_together 11 (some (.int)) ∈ gw := gw_of (tb_of 1109 (by decide +kernel)) (by decide +kernel)
theorem kw_1110 : Cond.methodLink "FootholdWallLaw" 128 yX11_leastLeg ∈ gw := gw_of (tb_of 1110 (by decide +kernel)) (by decide +kernel)
theorem kw_1111 : Cond.instanceMethod yX11_leastLeg ∈ gw := gw_of (tb_of 1111 (by decide +kernel)) (by decide +kernel)
theorem kw_1112 : Cond.selects "FootholdWall" yX11_leastLeg yX11_leastLeg ∈ gw := gw_of (tb_of 1112 (by decide +kernel)) (by decide +kernel)
theorem kw_1113 : Cond.code yX11_leastLeg cX11_leastLeg 4 (some (.int)) ∈ gw := gw_of (tb_of 1113 (by decide +kernel)) (by decide +kernel)
theorem kw_1114 : Cond.methodLink "FootholdWallLaw" 132 yX11_opens ∈ gw := gw_of (tb_of 1114 (by decide +kernel)) (by decide +kernel)
theorem kw_1115 : Cond.instanceMethod yX11_opens ∈ gw := gw_of (tb_of 1115 (by decide +kernel)) (by decide +kernel)
theorem kw_1116 : Cond.selects "FootholdWall" yX11_opens yX11_opens ∈ gw := gw_of (tb_of 1116 (by decide +kernel)) (by decide +kernel)
theorem kw_1117 : Cond.code yX11_opens cX11_opens 6 (some (.int)) ∈ gw := gw_of (tb_of 1117 (by decide +kernel)) (by decide +kernel)
theorem kw_1119 : Cond.methodLink "FootholdWallLaw" 136 yX11_dearest ∈ gw := gw_of (tb_of 1119 (by decide +kernel)) (by decide +kernel)
theorem kw_1120 : Cond.instanceMethod yX11_dearest ∈ gw := gw_of (tb_of 1120 (by decide +kernel)) (by decide +kernel)
theorem kw_1121 : Cond.selects "FootholdWall" yX11_dearest yX11_dearest ∈ gw := gw_of (tb_of 1121 (by decide +kernel)) (by decide +kernel)
theorem kw_1122 : Cond.code yX11_dearest cX11_dearest 7 (some (.int)) ∈ gw := gw_of (tb_of 1122 (by decide +kernel)) (by decide +kernel)
theorem kw_1664 : Cond.methodLink "FootholdWallLaw" 103 yX12_shut ∈ gw := gw_of (tb_of 1664 (by decide +kernel)) (by decide +kernel)
theorem kw_1665 : Cond.instanceMethod yX12_shut ∈ gw := gw_of (tb_of 1665 (by decide +kernel)) (by decide +kernel)
theorem kw_1666 : Cond.selects "FootholdWallModel" yX12_shut yX12_shut ∈ gw := gw_of (tb_of 1666 (by decide +kernel)) (by decide +kernel)
theorem kw_1667 : Cond.code yX12_shut cX12_shut 4 (some (.int)) ∈ gw := gw_of (tb_of 1667 (by decide +kernel)) (by decide +kernel)
theorem kw_1668 : Cond.methodLink "FootholdWallLaw" 107 yX12_needed ∈ gw := gw_of (tb_of 1668 (by decide +kernel)) (by decide +kernel)
theorem kw_1669 : Cond.instanceMethod yX12_needed ∈ gw := gw_of (tb_of 1669 (by decide +kernel)) (by decide +kernel)
theorem kw_1670 : Cond.selects "FootholdWallModel" yX12_needed yX12_needed ∈ gw := gw_of (tb_of 1670 (by decide +kernel)) (by decide +kernel)
theorem kw_1671 : Cond.code yX12_needed cX12_needed 2 (some (.int)) ∈ gw := gw_of (tb_of 1671 (by decide +kernel)) (by decide +kernel)
theorem kw_1676 : Cond.methodLink "FootholdWallLaw" 119 yX12_needers ∈ gw := gw_of (tb_of 1676 (by decide +kernel)) (by decide +kernel)
theorem kw_1677 : Cond.instanceMethod yX12_needers ∈ gw := gw_of (tb_of 1677 (by decide +kernel)) (by decide +kernel)
theorem kw_1678 : Cond.selects "FootholdWallModel" yX12_needers yX12_needers ∈ gw := gw_of (tb_of 1678 (by decide +kernel)) (by decide +kernel)
theorem kw_1679 : Cond.code yX12_needers cX12_needers 4 (some (.int)) ∈ gw := gw_of (tb_of 1679 (by decide +kernel)) (by decide +kernel)
theorem kw_1680 : Cond.methodLink "FootholdWallLaw" 123 yX12_highest ∈ gw := gw_of (tb_of 1680 (by decide +kernel)) (by decide +kernel)
theorem kw_1681 : Cond.instanceMethod yX12_highest ∈ gw := gw_of (tb_of 1681 (by decide +kernel)) (by decide +kernel)
theorem kw_1682 : Cond.selects "FootholdWallModel" yX12_highest yX12_highest ∈ gw := gw_of (tb_of 1682 (by decide +kernel)) (by decide +kernel)
theorem kw_1683 : Cond.code yX12_highest cX12_highest 5 (some (.int)) ∈ gw := gw_of (tb_of 1683 (by decide +kernel)) (by decide +kernel)
theorem kw_1684 : Cond.methodLink "FootholdWallLaw" 127 yX12_together ∈ gw := gw_of (tb_of 1684 (by decide +kernel)) (by decide +kernel)
theorem kw_1685 : Cond.instanceMethod yX12_together ∈ gw := gw_of (tb_of 1685 (by decide +kernel)) (by decide +kernel)
theorem kw_1686 : Cond.selects "FootholdWallModel" yX12_together yX12_together ∈ gw := gw_of (tb_of 1686 (by decide +kernel)) (by decide +kernel)
theorem kw_1687 : Cond.code yX12_together cX12_together 5 (some (.int)) ∈ gw := gw_of (tb_of 1687 (by decide +kernel)) (by decide +kernel)
theorem kw_1688 : Cond.methodLink "FootholdWallLaw" 111 yX12_idle ∈ gw := gw_of (tb_of 1688 (by decide +kernel)) (by decide +kernel)
theorem kw_1689 : Cond.instanceMethod yX12_idle ∈ gw := gw_of (tb_of 1689 (by decide +kernel)) (by decide +kernel)
theorem kw_1690 : Cond.selects "FootholdWallModel" yX12_idle yX12_idle ∈ gw := gw_of (tb_of 1690 (by decide +kernel)) (by decide +kernel)
theorem kw_1691 : Cond.code yX12_idle cX12_idle 4 (some (.int)) ∈ gw := gw_of (tb_of 1691 (by decide +kernel)) (by decide +kernel)
theorem kw_1692 : Cond.methodLink "FootholdWallLaw" 115 yX12_able ∈ gw := gw_of (tb_of 1692 (by decide +kernel)) (by decide +kernel)
theorem kw_1693 : Cond.instanceMethod yX12_able ∈ gw := gw_of (tb_of 1693 (by decide +kernel)) (by decide +kernel)
theorem kw_1694 : Cond.selects "FootholdWallModel" yX12_able yX12_able ∈ gw := gw_of (tb_of 1694 (by decide +kernel)) (by decide +kernel)
theorem kw_1695 : Cond.code yX12_able cX12_able 3 (some (.int)) ∈ gw := gw_of (tb_of 1695 (by decide +kernel)) (by decide +kernel)
theorem kw_1696 : Cond.methodLink "FootholdWallLaw" 131 yX12_leastLeg ∈ gw := gw_of (tb_of 1696 (by decide +kernel)) (by decide +kernel)
theorem kw_1697 : Cond.instanceMethod yX12_leastLeg ∈ gw := gw_of (tb_of 1697 (by decide +kernel)) (by decide +kernel)
theorem kw_1698 : Cond.selects "FootholdWallModel" yX12_leastLeg yX12_leastLeg ∈ gw := gw_of (tb_of 1698 (by decide +kernel)) (by decide +kernel)
theorem kw_1699 : Cond.code yX12_leastLeg cX12_leastLeg 3 (some (.int)) ∈ gw := gw_of (tb_of 1699 (by decide +kernel)) (by decide +kernel)
theorem kw_1700 : Cond.methodLink "FootholdWallLaw" 135 yX12_opens ∈ gw := gw_of (tb_of 1700 (by decide +kernel)) (by decide +kernel)
theorem kw_1701 : Cond.instanceMethod yX12_opens ∈ gw := gw_of (tb_of 1701 (by decide +kernel)) (by decide +kernel)
theorem kw_1702 : Cond.selects "FootholdWallModel" yX12_opens yX12_opens ∈ gw := gw_of (tb_of 1702 (by decide +kernel)) (by decide +kernel)
theorem kw_1703 : Cond.code yX12_opens cX12_opens 4 (some (.int)) ∈ gw := gw_of (tb_of 1703 (by decide +kernel)) (by decide +kernel)
theorem kw_1712 : Cond.methodLink "FootholdWallLaw" 139 yX12_dearest ∈ gw := gw_of (tb_of 1712 (by decide +kernel)) (by decide +kernel)
theorem kw_1713 : Cond.instanceMethod yX12_dearest ∈ gw := gw_of (tb_of 1713 (by decide +kernel)) (by decide +kernel)
theorem kw_1714 : Cond.selects "FootholdWallModel" yX12_dearest yX12_dearest ∈ gw := gw_of (tb_of 1714 (by decide +kernel)) (by decide +kernel)
theorem kw_1715 : Cond.code yX12_dearest cX12_dearest 5 (some (.int)) ∈ gw := gw_of (tb_of 1715 (by decide +kernel)) (by decide +kernel)
set_option maxHeartbeats 4000000 in
set_option maxRecDepth 100000 in
/-- shut -/
theorem lw_c20 {p : Program} {e : Env} {s : State} {m : MethodId} {below : List Frame} {meth : Method} {c : Code} {Q : State → Prop} (l : Launch) (D : va_G) (cs : CS) (kf : KF) {b L : Nat} {xs : Nat → Int32} (hx : p.tables.exec = Jvm.exec) (hb : c.code = code) (hml : c.maxLocals = 4) (hown : s.vm.findClass R_law = some m.cls) (hts : ∀ w ∈ gw, w.before #[Value.ref b] s = true) (hX : va_X b L xs s s.heap) (hbl : b < s.heap.size) (hkb : kb D (tyc cs) s) (hks : kS kf s) {A : Nat → Prop} (hE : kE kf A s s.heap) (hA : ∀ q, s.heap.size ≤ q → A q) (hbA : ¬ A b) (hL : L ≤ 3072) (O : List Nat) (X : va_W) (hOX0 : ∀ o ∈ O, ∃ (k : Nat) (e : va_E), X[k]? = some (o, e)) (hO9 : O = []) (a0 ch a1 y2 y3 tk tp tm : Nat) (T : TF) (w hw gw hg G M y0 nn j : Nat) (y1 : Int32) (o0 : Value) (k1 k2 k3 k4 k5 k6 k7 : Int32) (ft f3 : Nat → Int32) (t : Tp) (x3 : Int32) (n cells slots : Nat) (H : Heap) (locs : List Loc) (ls : Array Slot) (hv : LV T a0 a1 ch w hw gw hg G M y0 y2 y3 nn j y1) (hlx : LX T tk tp tm) (hlg : LG G M ft f3 t k6 k7) (hlk : LK k1 k2 k3) (hr : RM cells slots n j) (hn512 : n < 512) (l_x3 : 0 ≤ x3.toInt) (u_x3 : x3.toInt + 6 ≤ L) (hH : HT D cs A T (ch :: tk :: tp :: tm :: O) ((ch, .inr (0, [.ref y0, .int y1, .ref y2, .ref y3])) :: (tk, .inr (7, [o0, .int k1, .int k2, .int k3, .int k4, .int k5, .int k6, .int k7])) :: (tp, .inl (cs.1, 900, .inl ft)) :: (tm, .inl (cs.2.1, 900, .inl f3)) :: X) H) (hS : va_S A s.heap H locs) (hl : lv_has ls 4 [(0, .ref b), (1, .ref a0), (2, .ref a1), (3, .int x3)]) (kk : ∀ (T : TF) (w hw gw hg G M y0 nn j : Nat) (y1 : Int32) (o0 : Value) (k1 k2 k3 k4 k5 k6 k7 : Int32) (ft f3 : Nat → Int32) (t : Tp) (cells slots : Nat) (H : Heap) (locs : List Loc) (ls : Array Slot), LV T a0 a1 ch w hw gw hg G M y0 y2 y3 nn j y1 → LX T tk tp tm → LG G M ft f3 t k6 k7 → LK k1 k2 k3 → RM cells slots (n + 1) j → HT D cs A T (ch :: tk :: tp :: tm :: O) ((ch, .inr (0, [.ref y0, .int y1, .ref y2, .ref y3])) :: (tk, .inr (7, [o0, .int k1, .int k2, .int k3, .int k4, .int k5, .int k6, .int k7])) :: (tp, .inl (cs.1, 900, .inl ft)) :: (tm, .inl (cs.2.1, 900, .inl f3)) :: X) H → va_S A s.heap H locs → lv_has ls 4 [(0, .ref b), (1, .ref a0), (2, .ref a1), (3, .int x3)] → W p l e room_1 s m #[Value.ref b] below meth c H locs cells slots Q (F0 m 1395 ls [])) : W p l e room_1 s m #[Value.ref b] below meth c H locs cells slots Q (F0 m 782 ls []) := by
  obtain ⟨t_a0, t_w, t_a1, b_hg, hU, hU1, t_ch, t_y0, l_y1, u_y1, t_y2, t_y3, hn, hj⟩ := id hv
  obtain ⟨t_tk, t_tp, t_tm, hU7, hU0, hU9⟩ := id hlx
  obtain ⟨lk1, lk2, lk3, lk4, lk5, lk6⟩ := id hlk
  have hO := okc hO9 t_ch t_tk t_tp t_tm
  obtain ⟨hr1, hr2⟩ := id hr
  have hOX : ∀ o ∈ (ch :: tk :: tp :: tm :: O), ∃ (k : Nat) (e : va_E), ((ch, .inr (0, [.ref y0, .int y1, .ref y2, .ref y3])) :: (tk, .inr (7, [o0, .int k1, .int k2, .int k3, .int k4, .int k5, .int k6, .int k7])) :: (tp, .inl (cs.1, 900, .inl ft)) :: (tm, .inl (cs.2.1, 900, .inl f3)) :: X)[k]? = some (o, e) := ox_c (ox_c (ox_c (ox_c hOX0)))
  have hOXf := hOX
  have b1_w := t_w.2.1
  have b2_w := t_w.2.2
  refine lv_aload_n hx hb dL_law_782 rfl (lv_at hl 1 rfl) ?_
  refine lv_aload_n hx hb dL_law_783 rfl (lv_at hl 0 rfl) ?_
  refine lv_iload_n hx hb dL_law_784 rfl (lv_at hl 3 rfl) ?_
  refine lv_iconst (v := 1) hx hb dL_law_785 (by decide) ?_
  refine lv_iadd hx hb dL_law_786 ?_
  refine lv_topi (fun v786 ev786 => ?_)
  have tv786 : v786.toInt = x3.toInt + (1) := by rw [ev786]; exact add_i rfl (by decide : (1 : Int32).toInt = 1) (by omega) (by omega)
  refine va_sld hx hb hX hbl hbA hS (in_t (by omega) (by omega)) dL_law_787 ?_
  refine lv_topi (fun v787 ev787 => ?_)
  refine lv_aload_n hx hb dL_law_788 rfl (lv_at hl 0 rfl) ?_
  refine lv_iload_n hx hb dL_law_789 rfl (lv_at hl 3 rfl) ?_
  refine lv_iconst (v := 2) hx hb dL_law_790 (by decide) ?_
  refine lv_iadd hx hb dL_law_791 ?_
  refine lv_topi (fun v791 ev791 => ?_)
  have tv791 : v791.toInt = x3.toInt + (2) := by rw [ev791]; exact add_i rfl (by decide : (2 : Int32).toInt = 2) (by omega) (by omega)
  refine va_sld hx hb hX hbl hbA hS (in_t (by omega) (by omega)) dL_law_792 ?_
  refine lv_topi (fun v792 ev792 => ?_)
  refine tk_i hH hS hA (tr_V (n := 2) (As := [.int v787, .int v792]) hx hb hml hown hts hkb hH (ox_map hOX rfl) hks hE hS hA (s_FW_shut l D cs kf T (ch :: tk :: tp :: tm :: O) ((ch, .inr (0, [.ref y0, .int y1, .ref y2, .ref y3])) :: (tk, .inr (7, [o0, .int k1, .int k2, .int k3, .int k4, .int k5, .int k6, .int k7])) :: (tp, .inl (cs.1, 900, .inl ft)) :: (tm, .inl (cs.2.1, 900, .inl f3)) :: X) a0 w hw gw ch G v787 v792 t_a0 t_w t_ch (hO.sub (by decide))) kw_1040 kw_1041 kw_1042 kw_1 kw_1043 (by decide +kernel) ⟨Nat.le_of_ble_eq_true rfl, Nat.le_of_ble_eq_true rfl⟩ (HT.recv (ci := 11) hkb hH t_a0 (hO.no t_a0 (by decide)) rfl) rfl rfl hl.1 (Nat.le_of_ble_eq_true rfl) dL_law_793 ⟨by show cells + 0 ≤ 600000; omega, by show slots + 0 ≤ 7302250; omega⟩) (fun v793 u H locs hz9 hH hS => ?_)
  obtain ⟨rfl, l_v793, u_v793⟩ := hz9
  have hH : HT D cs A T (ch :: tk :: tp :: tm :: O) ((ch, .inr (0, [.ref y0, .int y1, .ref y2, .ref y3])) :: (tk, .inr (7, [o0, .int k1, .int k2, .int k3, .int k4, .int k5, .int k6, .int k7])) :: (tp, .inl (cs.1, 900, .inl ft)) :: (tm, .inl (cs.2.1, 900, .inl f3)) :: X) H := hH
  refine W.widen (k := cells) (n := slots) (Nat.le_refl _) (Nat.le_refl _) ?_
  refine lv_pop hx hb dL_law_796 rfl ?_
  refine lv_aload_n hx hb dL_law_797 rfl (lv_at hl 2 rfl) ?_
  refine lv_aload_n hx hb dL_law_798 rfl (lv_at hl 0 rfl) ?_
  refine lv_iload_n hx hb dL_law_799 rfl (lv_at hl 3 rfl) ?_
  refine lv_iconst (v := 1) hx hb dL_law_800 (by decide) ?_
  refine lv_iadd hx hb dL_law_801 ?_
  refine lv_topi (fun v801 ev801 => ?_)
  have tv801 : v801.toInt = x3.toInt + (1) := by rw [ev801]; exact add_i rfl (by decide : (1 : Int32).toInt = 1) (by omega) (by omega)
  refine va_sld hx hb hX hbl hbA hS (in_t (by omega) (by omega)) dL_law_802 ?_
  refine lv_topi (fun v802 ev802 => ?_)
  refine lv_aload_n hx hb dL_law_803 rfl (lv_at hl 0 rfl) ?_
  refine lv_iload_n hx hb dL_law_804 rfl (lv_at hl 3 rfl) ?_
  refine lv_iconst (v := 2) hx hb dL_law_805 (by decide) ?_
  refine lv_iadd hx hb dL_law_806 ?_
  refine lv_topi (fun v806 ev806 => ?_)
  have tv806 : v806.toInt = x3.toInt + (2) := by rw [ev806]; exact add_i rfl (by decide : (2 : Int32).toInt = 2) (by omega) (by omega)
  refine va_sld hx hb hX hbl hbA hS (in_t (by omega) (by omega)) dL_law_807 ?_
  refine lv_topi (fun v807 ev807 => ?_)
  refine tk_i hH hS hA (tr_V (n := 2) (As := [.int v802, .int v807]) hx hb hml hown hts hkb hH (ox_map hOX rfl) hks hE hS hA (s_M_shut l D cs kf T (ch :: tk :: tp :: tm :: O) ((ch, .inr (0, [.ref y0, .int y1, .ref y2, .ref y3])) :: (tk, .inr (7, [o0, .int k1, .int k2, .int k3, .int k4, .int k5, .int k6, .int k7])) :: (tp, .inl (cs.1, 900, .inl ft)) :: (tm, .inl (cs.2.1, 900, .inl f3)) :: X) a1 hg M v802 v807 t_a1 b_hg (hO.sub (by decide))) kw_1664 kw_1665 kw_1666 kw_13 kw_1667 (by decide +kernel) ⟨Nat.le_of_ble_eq_true rfl, Nat.le_of_ble_eq_true rfl⟩ (HT.recv (ci := 12) hkb hH t_a1 (hO.no t_a1 (by decide)) rfl) rfl rfl hl.1 (Nat.le_of_ble_eq_true rfl) dL_law_808 ⟨by show cells + 0 ≤ 600000; omega, by show slots + 0 ≤ 7302250; omega⟩) (fun v808 u H locs hz9 hH hS => ?_)
  have hz9 : u = (T, ch :: tk :: tp :: tm :: O, (ch, .inr (0, [.ref y0, .int y1, .ref y2, .ref y3])) :: (tk, .inr (7, [o0, .int k1, .int k2, .int k3, .int k4, .int k5, .int k6, .int k7])) :: (tp, .inl (cs.1, 900, .inl ft)) :: (tm, .inl (cs.2.1, 900, .inl f3)) :: X) := hz9
  subst hz9
  have hH : HT D cs A T (ch :: tk :: tp :: tm :: O) ((ch, .inr (0, [.ref y0, .int y1, .ref y2, .ref y3])) :: (tk, .inr (7, [o0, .int k1, .int k2, .int k3, .int k4, .int k5, .int k6, .int k7])) :: (tp, .inl (cs.1, 900, .inl ft)) :: (tm, .inl (cs.2.1, 900, .inl f3)) :: X) H := hH
  refine W.widen (k := cells) (n := slots) (Nat.le_refl _) (Nat.le_refl _) ?_
  refine lv_pop hx hb dL_law_811 rfl ?_
  refine lv_goto (tgt := 1395) hx hb dL_law_812 (by decide) ?_
  exact kk T w hw gw hg G M y0 nn j y1 o0 k1 k2 k3 k4 k5 k6 k7 ft f3 t _ _ _ _ _ hv hlx hlg hlk hr.s hH hS (lv_sub hl [0, 1, 2, 3] rfl)
set_option maxHeartbeats 4000000 in
set_option maxRecDepth 100000 in
/-- needed -/
theorem lw_c21 {p : Program} {e : Env} {s : State} {m : MethodId} {below : List Frame} {meth : Method} {c : Code} {Q : State → Prop} (l : Launch) (D : va_G) (cs : CS) (kf : KF) {b L : Nat} {xs : Nat → Int32} (hx : p.tables.exec = Jvm.exec) (hb : c.code = code) (hml : c.maxLocals = 4) (hown : s.vm.findClass R_law = some m.cls) (hts : ∀ w ∈ gw, w.before #[Value.ref b] s = true) (hX : va_X b L xs s s.heap) (hbl : b < s.heap.size) (hkb : kb D (tyc cs) s) (hks : kS kf s) {A : Nat → Prop} (hE : kE kf A s s.heap) (hA : ∀ q, s.heap.size ≤ q → A q) (hbA : ¬ A b) (hL : L ≤ 3072) (O : List Nat) (X : va_W) (hOX0 : ∀ o ∈ O, ∃ (k : Nat) (e : va_E), X[k]? = some (o, e)) (hO9 : O = []) (a0 ch a1 y2 y3 tk tp tm : Nat) (T : TF) (w hw gw hg G M y0 nn j : Nat) (y1 : Int32) (o0 : Value) (k1 k2 k3 k4 k5 k6 k7 : Int32) (ft f3 : Nat → Int32) (t : Tp) (x3 : Int32) (n cells slots : Nat) (H : Heap) (locs : List Loc) (ls : Array Slot) (hv : LV T a0 a1 ch w hw gw hg G M y0 y2 y3 nn j y1) (hlx : LX T tk tp tm) (hlg : LG G M ft f3 t k6 k7) (hlk : LK k1 k2 k3) (hr : RM cells slots n j) (hn512 : n < 512) (l_x3 : 0 ≤ x3.toInt) (u_x3 : x3.toInt + 6 ≤ L) (hH : HT D cs A T (ch :: tk :: tp :: tm :: O) ((ch, .inr (0, [.ref y0, .int y1, .ref y2, .ref y3])) :: (tk, .inr (7, [o0, .int k1, .int k2, .int k3, .int k4, .int k5, .int k6, .int k7])) :: (tp, .inl (cs.1, 900, .inl ft)) :: (tm, .inl (cs.2.1, 900, .inl f3)) :: X) H) (hS : va_S A s.heap H locs) (hl : lv_has ls 4 [(0, .ref b), (1, .ref a0), (2, .ref a1), (3, .int x3)]) (kk : ∀ (T : TF) (w hw gw hg G M y0 nn j : Nat) (y1 : Int32) (o0 : Value) (k1 k2 k3 k4 k5 k6 k7 : Int32) (ft f3 : Nat → Int32) (t : Tp) (cells slots : Nat) (H : Heap) (locs : List Loc) (ls : Array Slot), LV T a0 a1 ch w hw gw hg G M y0 y2 y3 nn j y1 → LX T tk tp tm → LG G M ft f3 t k6 k7 → LK k1 k2 k3 → RM cells slots (n + 1) j → HT D cs A T (ch :: tk :: tp :: tm :: O) ((ch, .inr (0, [.ref y0, .int y1, .ref y2, .ref y3])) :: (tk, .inr (7, [o0, .int k1, .int k2, .int k3, .int k4, .int k5, .int k6, .int k7])) :: (tp, .inl (cs.1, 900, .inl ft)) :: (tm, .inl (cs.2.1, 900, .inl f3)) :: X) H → va_S A s.heap H locs → lv_has ls 4 [(0, .ref b), (1, .ref a0), (2, .ref a1), (3, .int x3)] → W p l e room_1 s m #[Value.ref b] below meth c H locs cells slots Q (F0 m 1395 ls [])) : W p l e room_1 s m #[Value.ref b] below meth c H locs cells slots Q (F0 m 815 ls []) := by
  obtain ⟨t_a0, t_w, t_a1, b_hg, hU, hU1, t_ch, t_y0, l_y1, u_y1, t_y2, t_y3, hn, hj⟩ := id hv
  obtain ⟨t_tk, t_tp, t_tm, hU7, hU0, hU9⟩ := id hlx
  obtain ⟨lk1, lk2, lk3, lk4, lk5, lk6⟩ := id hlk
  have hO := okc hO9 t_ch t_tk t_tp t_tm
  obtain ⟨hr1, hr2⟩ := id hr
  have hOX : ∀ o ∈ (ch :: tk :: tp :: tm :: O), ∃ (k : Nat) (e : va_E), ((ch, .inr (0, [.ref y0, .int y1, .ref y2, .ref y3])) :: (tk, .inr (7, [o0, .int k1, .int k2, .int k3, .int k4, .int k5, .int k6, .int k7])) :: (tp, .inl (cs.1, 900, .inl ft)) :: (tm, .inl (cs.2.1, 900, .inl f3)) :: X)[k]? = some (o, e) := ox_c (ox_c (ox_c (ox_c hOX0)))
  have hOXf := hOX
  have b1_w := t_w.2.1
  have b2_w := t_w.2.2
  refine lv_aload_n hx hb dL_law_815 rfl (lv_at hl 1 rfl) ?_
  refine lv_aload_n hx hb dL_law_816 rfl (lv_at hl 0 rfl) ?_
  refine lv_iload_n hx hb dL_law_817 rfl (lv_at hl 3 rfl) ?_
  refine lv_iconst (v := 1) hx hb dL_law_818 (by decide) ?_
  refine lv_iadd hx hb dL_law_819 ?_
  refine lv_topi (fun v819 ev819 => ?_)
  have tv819 : v819.toInt = x3.toInt + (1) := by rw [ev819]; exact add_i rfl (by decide : (1 : Int32).toInt = 1) (by omega) (by omega)
  refine va_sld hx hb hX hbl hbA hS (in_t (by omega) (by omega)) dL_law_820 ?_
  refine lv_topi (fun v820 ev820 => ?_)
  refine tk_i hH hS hA (tr_V (n := 1) (As := [.int v820]) hx hb hml hown hts hkb hH (ox_map hOX rfl) hks hE hS hA (s_FW_needed l D cs kf T (ch :: tk :: tp :: tm :: O) ((ch, .inr (0, [.ref y0, .int y1, .ref y2, .ref y3])) :: (tk, .inr (7, [o0, .int k1, .int k2, .int k3, .int k4, .int k5, .int k6, .int k7])) :: (tp, .inl (cs.1, 900, .inl ft)) :: (tm, .inl (cs.2.1, 900, .inl f3)) :: X) a0 w hw gw ch G v820 t_a0 t_w t_ch (hO.sub (by decide))) kw_1051 kw_1052 kw_1053 kw_1 kw_1054 (by decide +kernel) ⟨Nat.le_of_ble_eq_true rfl, Nat.le_of_ble_eq_true rfl⟩ (HT.recv (ci := 11) hkb hH t_a0 (hO.no t_a0 (by decide)) rfl) rfl rfl hl.1 (Nat.le_of_ble_eq_true rfl) dL_law_821 ⟨by show cells + 0 ≤ 600000; omega, by show slots + 0 ≤ 7302250; omega⟩) (fun v821 u H locs hz9 hH hS => ?_)
  obtain ⟨rfl, l_v821, u_v821⟩ := hz9
  have hH : HT D cs A T (ch :: tk :: tp :: tm :: O) ((ch, .inr (0, [.ref y0, .int y1, .ref y2, .ref y3])) :: (tk, .inr (7, [o0, .int k1, .int k2, .int k3, .int k4, .int k5, .int k6, .int k7])) :: (tp, .inl (cs.1, 900, .inl ft)) :: (tm, .inl (cs.2.1, 900, .inl f3)) :: X) H := hH
  refine W.widen (k := cells) (n := slots) (Nat.le_refl _) (Nat.le_refl _) ?_
  refine lv_pop hx hb dL_law_824 rfl ?_
  refine lv_aload_n hx hb dL_law_825 rfl (lv_at hl 2 rfl) ?_
  refine lv_aload_n hx hb dL_law_826 rfl (lv_at hl 0 rfl) ?_
  refine lv_iload_n hx hb dL_law_827 rfl (lv_at hl 3 rfl) ?_
  refine lv_iconst (v := 1) hx hb dL_law_828 (by decide) ?_
  refine lv_iadd hx hb dL_law_829 ?_
  refine lv_topi (fun v829 ev829 => ?_)
  have tv829 : v829.toInt = x3.toInt + (1) := by rw [ev829]; exact add_i rfl (by decide : (1 : Int32).toInt = 1) (by omega) (by omega)
  refine va_sld hx hb hX hbl hbA hS (in_t (by omega) (by omega)) dL_law_830 ?_
  refine lv_topi (fun v830 ev830 => ?_)
  refine tk_i hH hS hA (tr_V (n := 1) (As := [.int v830]) hx hb hml hown hts hkb hH (ox_map hOX rfl) hks hE hS hA (s_M_needed l D cs kf T (ch :: tk :: tp :: tm :: O) ((ch, .inr (0, [.ref y0, .int y1, .ref y2, .ref y3])) :: (tk, .inr (7, [o0, .int k1, .int k2, .int k3, .int k4, .int k5, .int k6, .int k7])) :: (tp, .inl (cs.1, 900, .inl ft)) :: (tm, .inl (cs.2.1, 900, .inl f3)) :: X) a1 hg M v830 t_a1 b_hg (hO.sub (by decide))) kw_1668 kw_1669 kw_1670 kw_13 kw_1671 (by decide +kernel) ⟨Nat.le_of_ble_eq_true rfl, Nat.le_of_ble_eq_true rfl⟩ (HT.recv (ci := 12) hkb hH t_a1 (hO.no t_a1 (by decide)) rfl) rfl rfl hl.1 (Nat.le_of_ble_eq_true rfl) dL_law_831 ⟨by show cells + 0 ≤ 600000; omega, by show slots + 0 ≤ 7302250; omega⟩) (fun v831 u H locs hz9 hH hS => ?_)
  obtain ⟨rfl, l_v831, u_v831⟩ := hz9
  have hH : HT D cs A T (ch :: tk :: tp :: tm :: O) ((ch, .inr (0, [.ref y0, .int y1, .ref y2, .ref y3])) :: (tk, .inr (7, [o0, .int k1, .int k2, .int k3, .int k4, .int k5, .int k6, .int k7])) :: (tp, .inl (cs.1, 900, .inl ft)) :: (tm, .inl (cs.2.1, 900, .inl f3)) :: X) H := hH
  refine W.widen (k := cells) (n := slots) (Nat.le_refl _) (Nat.le_refl _) ?_
  refine lv_pop hx hb dL_law_834 rfl ?_
  refine lv_goto (tgt := 1395) hx hb dL_law_835 (by decide) ?_
  exact kk T w hw gw hg G M y0 nn j y1 o0 k1 k2 k3 k4 k5 k6 k7 ft f3 t _ _ _ _ _ hv hlx hlg hlk hr.s hH hS (lv_sub hl [0, 1, 2, 3] rfl)
set_option maxHeartbeats 4000000 in
set_option maxRecDepth 100000 in
/-- idle -/
theorem lw_c22 {p : Program} {e : Env} {s : State} {m : MethodId} {below : List Frame} {meth : Method} {c : Code} {Q : State → Prop} (l : Launch) (D : va_G) (cs : CS) (kf : KF) {b L : Nat} {xs : Nat → Int32} (hx : p.tables.exec = Jvm.exec) (hb : c.code = code) (hml : c.maxLocals = 4) (hown : s.vm.findClass R_law = some m.cls) (hts : ∀ w ∈ gw, w.before #[Value.ref b] s = true) (hX : va_X b L xs s s.heap) (hbl : b < s.heap.size) (hkb : kb D (tyc cs) s) (hks : kS kf s) {A : Nat → Prop} (hE : kE kf A s s.heap) (hA : ∀ q, s.heap.size ≤ q → A q) (hbA : ¬ A b) (hL : L ≤ 3072) (O : List Nat) (X : va_W) (hOX0 : ∀ o ∈ O, ∃ (k : Nat) (e : va_E), X[k]? = some (o, e)) (hO9 : O = []) (a0 ch a1 y2 y3 tk tp tm : Nat) (T : TF) (w hw gw hg G M y0 nn j : Nat) (y1 : Int32) (o0 : Value) (k1 k2 k3 k4 k5 k6 k7 : Int32) (ft f3 : Nat → Int32) (t : Tp) (x3 : Int32) (n cells slots : Nat) (H : Heap) (locs : List Loc) (ls : Array Slot) (hv : LV T a0 a1 ch w hw gw hg G M y0 y2 y3 nn j y1) (hlx : LX T tk tp tm) (hlg : LG G M ft f3 t k6 k7) (hlk : LK k1 k2 k3) (hr : RM cells slots n j) (hn512 : n < 512) (l_x3 : 0 ≤ x3.toInt) (u_x3 : x3.toInt + 6 ≤ L) (hH : HT D cs A T (ch :: tk :: tp :: tm :: O) ((ch, .inr (0, [.ref y0, .int y1, .ref y2, .ref y3])) :: (tk, .inr (7, [o0, .int k1, .int k2, .int k3, .int k4, .int k5, .int k6, .int k7])) :: (tp, .inl (cs.1, 900, .inl ft)) :: (tm, .inl (cs.2.1, 900, .inl f3)) :: X) H) (hS : va_S A s.heap H locs) (hl : lv_has ls 4 [(0, .ref b), (1, .ref a0), (2, .ref a1), (3, .int x3)]) (kk : ∀ (T : TF) (w hw gw hg G M y0 nn j : Nat) (y1 : Int32) (o0 : Value) (k1 k2 k3 k4 k5 k6 k7 : Int32) (ft f3 : Nat → Int32) (t : Tp) (cells slots : Nat) (H : Heap) (locs : List Loc) (ls : Array Slot), LV T a0 a1 ch w hw gw hg G M y0 y2 y3 nn j y1 → LX T tk tp tm → LG G M ft f3 t k6 k7 → LK k1 k2 k3 → RM cells slots (n + 1) j → HT D cs A T (ch :: tk :: tp :: tm :: O) ((ch, .inr (0, [.ref y0, .int y1, .ref y2, .ref y3])) :: (tk, .inr (7, [o0, .int k1, .int k2, .int k3, .int k4, .int k5, .int k6, .int k7])) :: (tp, .inl (cs.1, 900, .inl ft)) :: (tm, .inl (cs.2.1, 900, .inl f3)) :: X) H → va_S A s.heap H locs → lv_has ls 4 [(0, .ref b), (1, .ref a0), (2, .ref a1), (3, .int x3)] → W p l e room_1 s m #[Value.ref b] below meth c H locs cells slots Q (F0 m 1395 ls [])) : W p l e room_1 s m #[Value.ref b] below meth c H locs cells slots Q (F0 m 838 ls []) := by
  obtain ⟨t_a0, t_w, t_a1, b_hg, hU, hU1, t_ch, t_y0, l_y1, u_y1, t_y2, t_y3, hn, hj⟩ := id hv
  obtain ⟨t_tk, t_tp, t_tm, hU7, hU0, hU9⟩ := id hlx
  obtain ⟨lk1, lk2, lk3, lk4, lk5, lk6⟩ := id hlk
  have hO := okc hO9 t_ch t_tk t_tp t_tm
  obtain ⟨hr1, hr2⟩ := id hr
  have hOX : ∀ o ∈ (ch :: tk :: tp :: tm :: O), ∃ (k : Nat) (e : va_E), ((ch, .inr (0, [.ref y0, .int y1, .ref y2, .ref y3])) :: (tk, .inr (7, [o0, .int k1, .int k2, .int k3, .int k4, .int k5, .int k6, .int k7])) :: (tp, .inl (cs.1, 900, .inl ft)) :: (tm, .inl (cs.2.1, 900, .inl f3)) :: X)[k]? = some (o, e) := ox_c (ox_c (ox_c (ox_c hOX0)))
  have hOXf := hOX
  have b1_w := t_w.2.1
  have b2_w := t_w.2.2
  refine lv_aload_n hx hb dL_law_838 rfl (lv_at hl 1 rfl) ?_
  refine lv_aload_n hx hb dL_law_839 rfl (lv_at hl 0 rfl) ?_
  refine lv_iload_n hx hb dL_law_840 rfl (lv_at hl 3 rfl) ?_
  refine lv_iconst (v := 1) hx hb dL_law_841 (by decide) ?_
  refine lv_iadd hx hb dL_law_842 ?_
  refine lv_topi (fun v842 ev842 => ?_)
  have tv842 : v842.toInt = x3.toInt + (1) := by rw [ev842]; exact add_i rfl (by decide : (1 : Int32).toInt = 1) (by omega) (by omega)
  refine va_sld hx hb hX hbl hbA hS (in_t (by omega) (by omega)) dL_law_843 ?_
  refine lv_topi (fun v843 ev843 => ?_)
  refine tk_iD hH hS hA (tr_VD (n := 1) (As := [.int v843]) hx hb hml hown hts hkb hH (ox_map hOX rfl) hks hE hS hA (s_FW_idle l D cs kf T (tk :: tp :: tm :: O) ((tk, .inr (7, [o0, .int k1, .int k2, .int k3, .int k4, .int k5, .int k6, .int k7])) :: (tp, .inl (cs.1, 900, .inl ft)) :: (tm, .inl (cs.2.1, 900, .inl f3)) :: X) a0 w hw gw ch G v843 y0 y1 y2 y3 nn j t_a0 t_w t_ch t_y0 (by omega) (by omega) t_y2 t_y3 hn hj (hO.sub (by decide))) kw_1063 kw_1064 kw_1065 kw_1 kw_1066 (by decide +kernel) ⟨Nat.le_of_ble_eq_true rfl, Nat.le_of_ble_eq_true rfl⟩ (HT.recv (ci := 11) hkb hH t_a0 (hO.no t_a0 (by decide)) rfl) rfl rfl hl.1 (Nat.le_of_ble_eq_true rfl) dL_law_844 ⟨by show cells + 1 ≤ 600000; omega, by show slots + 16384 ≤ 7302250; omega⟩) (fun v844 kc844 ks844 u H locs hz9 hH hS => ?_)
  obtain ⟨T844, le_T844, n2_844, j2_844, n844_0_0, n844_0_1, rfl, l_v844, u_v844, x_v8440, x_v8441, x_v8442, x_v8443, x_v8444, x_v8445, x_v8446, x_v8447, x_v8448, x_v8449, x_v84410⟩ := hz9
  have t_a0 := le_T844.1 _ _ t_a0
  have t_a1 := le_T844.1 _ _ t_a1
  have t_ch := le_T844.1 _ _ t_ch
  have t_y0 := le_T844.1 _ _ t_y0
  have t_y2 := le_T844.1 _ _ t_y2
  have t_y3 := le_T844.1 _ _ t_y3
  have t_tk := le_T844.1 _ _ t_tk
  have t_tp := le_T844.1 _ _ t_tp
  have t_tm := le_T844.1 _ _ t_tm
  have t_w := isW.le le_T844.1 t_w
  have hO := okO.le le_T844.1 hO
  have t_n844_0_0 := x_v8440
  have hH : HT D cs A T844 (ch :: tk :: tp :: tm :: O) ((ch, .inr (0, [.ref n844_0_0, .int n844_0_1, .ref y2, .ref y3])) :: (tk, .inr (7, [o0, .int k1, .int k2, .int k3, .int k4, .int k5, .int k6, .int k7])) :: (tp, .inl (cs.1, 900, .inl ft)) :: (tm, .inl (cs.2.1, 900, .inl f3)) :: X) H := hH
  refine lv_pop hx hb dL_law_847 rfl ?_
  refine lv_aload_n hx hb dL_law_848 rfl (lv_at hl 2 rfl) ?_
  refine lv_aload_n hx hb dL_law_849 rfl (lv_at hl 0 rfl) ?_
  refine lv_iload_n hx hb dL_law_850 rfl (lv_at hl 3 rfl) ?_
  refine lv_iconst (v := 1) hx hb dL_law_851 (by decide) ?_
  refine lv_iadd hx hb dL_law_852 ?_
  refine lv_topi (fun v852 ev852 => ?_)
  have tv852 : v852.toInt = x3.toInt + (1) := by rw [ev852]; exact add_i rfl (by decide : (1 : Int32).toInt = 1) (by omega) (by omega)
  refine va_sld hx hb hX hbl hbA hS (in_t (by omega) (by omega)) dL_law_853 ?_
  refine lv_topi (fun v853 ev853 => ?_)
  refine tk_i hH hS hA (tr_V (n := 1) (As := [.int v853]) hx hb hml hown hts hkb hH (ox_map hOX rfl) hks hE hS hA (s_M_idle l D cs kf T844 (ch :: tk :: tp :: tm :: O) ((ch, .inr (0, [.ref n844_0_0, .int n844_0_1, .ref y2, .ref y3])) :: (tk, .inr (7, [o0, .int k1, .int k2, .int k3, .int k4, .int k5, .int k6, .int k7])) :: (tp, .inl (cs.1, 900, .inl ft)) :: (tm, .inl (cs.2.1, 900, .inl f3)) :: X) a1 hg M v853 t_a1 b_hg (hO.sub (by decide))) kw_1688 kw_1689 kw_1690 kw_13 kw_1691 (by decide +kernel) ⟨Nat.le_of_ble_eq_true rfl, Nat.le_of_ble_eq_true rfl⟩ (HT.recv (ci := 12) hkb hH t_a1 (hO.no t_a1 (by decide)) rfl) rfl rfl hl.1 (Nat.le_of_ble_eq_true rfl) dL_law_854 ⟨by show (cells + kc844) + 0 ≤ 600000; omega, by show (slots + ks844) + 0 ≤ 7302250; omega⟩) (fun v854 u H locs hz9 hH hS => ?_)
  obtain ⟨rfl, l_v854, u_v854⟩ := hz9
  have hH : HT D cs A T844 (ch :: tk :: tp :: tm :: O) ((ch, .inr (0, [.ref n844_0_0, .int n844_0_1, .ref y2, .ref y3])) :: (tk, .inr (7, [o0, .int k1, .int k2, .int k3, .int k4, .int k5, .int k6, .int k7])) :: (tp, .inl (cs.1, 900, .inl ft)) :: (tm, .inl (cs.2.1, 900, .inl f3)) :: X) H := hH
  refine W.widen (k := cells + kc844) (n := slots + ks844) (Nat.le_refl _) (Nat.le_refl _) ?_
  refine lv_pop hx hb dL_law_857 rfl ?_
  refine lv_goto (tgt := 1395) hx hb dL_law_858 (by decide) ?_
  exact kk T844 w hw gw hg G M n844_0_0 n2_844 j2_844 n844_0_1 o0 k1 k2 k3 k4 k5 k6 k7 ft f3 t _ _ _ _ _ (hv.gr le_T844 x_v8440 x_v8441 x_v8443 x_v8444 x_v8445) (hlx.gr le_T844) hlg hlk (hr.d x_v8447 x_v8448) hH hS (lv_sub hl [0, 1, 2, 3] rfl)
set_option maxHeartbeats 4000000 in
set_option maxRecDepth 100000 in
/-- able -/
theorem lw_c23 {p : Program} {e : Env} {s : State} {m : MethodId} {below : List Frame} {meth : Method} {c : Code} {Q : State → Prop} (l : Launch) (D : va_G) (cs : CS) (kf : KF) {b L : Nat} {xs : Nat → Int32} (hx : p.tables.exec = Jvm.exec) (hb : c.code = code) (hml : c.maxLocals = 4) (hown : s.vm.findClass R_law = some m.cls) (hts : ∀ w ∈ gw, w.before #[Value.ref b] s = true) (hX : va_X b L xs s s.heap) (hbl : b < s.heap.size) (hkb : kb D (tyc cs) s) (hks : kS kf s) {A : Nat → Prop} (hE : kE kf A s s.heap) (hA : ∀ q, s.heap.size ≤ q → A q) (hbA : ¬ A b) (hL : L ≤ 3072) (O : List Nat) (X : va_W) (hOX0 : ∀ o ∈ O, ∃ (k : Nat) (e : va_E), X[k]? = some (o, e)) (hO9 : O = []) (a0 ch a1 y2 y3 tk tp tm : Nat) (T : TF) (w hw gw hg G M y0 nn j : Nat) (y1 : Int32) (o0 : Value) (k1 k2 k3 k4 k5 k6 k7 : Int32) (ft f3 : Nat → Int32) (t : Tp) (x3 : Int32) (n cells slots : Nat) (H : Heap) (locs : List Loc) (ls : Array Slot) (hv : LV T a0 a1 ch w hw gw hg G M y0 y2 y3 nn j y1) (hlx : LX T tk tp tm) (hlg : LG G M ft f3 t k6 k7) (hlk : LK k1 k2 k3) (hr : RM cells slots n j) (hn512 : n < 512) (l_x3 : 0 ≤ x3.toInt) (u_x3 : x3.toInt + 6 ≤ L) (hH : HT D cs A T (ch :: tk :: tp :: tm :: O) ((ch, .inr (0, [.ref y0, .int y1, .ref y2, .ref y3])) :: (tk, .inr (7, [o0, .int k1, .int k2, .int k3, .int k4, .int k5, .int k6, .int k7])) :: (tp, .inl (cs.1, 900, .inl ft)) :: (tm, .inl (cs.2.1, 900, .inl f3)) :: X) H) (hS : va_S A s.heap H locs) (hl : lv_has ls 4 [(0, .ref b), (1, .ref a0), (2, .ref a1), (3, .int x3)]) (kk : ∀ (T : TF) (w hw gw hg G M y0 nn j : Nat) (y1 : Int32) (o0 : Value) (k1 k2 k3 k4 k5 k6 k7 : Int32) (ft f3 : Nat → Int32) (t : Tp) (cells slots : Nat) (H : Heap) (locs : List Loc) (ls : Array Slot), LV T a0 a1 ch w hw gw hg G M y0 y2 y3 nn j y1 → LX T tk tp tm → LG G M ft f3 t k6 k7 → LK k1 k2 k3 → RM cells slots (n + 1) j → HT D cs A T (ch :: tk :: tp :: tm :: O) ((ch, .inr (0, [.ref y0, .int y1, .ref y2, .ref y3])) :: (tk, .inr (7, [o0, .int k1, .int k2, .int k3, .int k4, .int k5, .int k6, .int k7])) :: (tp, .inl (cs.1, 900, .inl ft)) :: (tm, .inl (cs.2.1, 900, .inl f3)) :: X) H → va_S A s.heap H locs → lv_has ls 4 [(0, .ref b), (1, .ref a0), (2, .ref a1), (3, .int x3)] → W p l e room_1 s m #[Value.ref b] below meth c H locs cells slots Q (F0 m 1395 ls [])) : W p l e room_1 s m #[Value.ref b] below meth c H locs cells slots Q (F0 m 861 ls []) := by
  obtain ⟨t_a0, t_w, t_a1, b_hg, hU, hU1, t_ch, t_y0, l_y1, u_y1, t_y2, t_y3, hn, hj⟩ := id hv
  obtain ⟨t_tk, t_tp, t_tm, hU7, hU0, hU9⟩ := id hlx
  obtain ⟨lk1, lk2, lk3, lk4, lk5, lk6⟩ := id hlk
  have hO := okc hO9 t_ch t_tk t_tp t_tm
  obtain ⟨hr1, hr2⟩ := id hr
  have hOX : ∀ o ∈ (ch :: tk :: tp :: tm :: O), ∃ (k : Nat) (e : va_E), ((ch, .inr (0, [.ref y0, .int y1, .ref y2, .ref y3])) :: (tk, .inr (7, [o0, .int k1, .int k2, .int k3, .int k4, .int k5, .int k6, .int k7])) :: (tp, .inl (cs.1, 900, .inl ft)) :: (tm, .inl (cs.2.1, 900, .inl f3)) :: X)[k]? = some (o, e) := ox_c (ox_c (ox_c (ox_c hOX0)))
  have hOXf := hOX
  have b1_w := t_w.2.1
  have b2_w := t_w.2.2
  refine lv_aload_n hx hb dL_law_861 rfl (lv_at hl 1 rfl) ?_
  refine tk_i hH hS hA (tr_V (n := 0) (As := []) hx hb hml hown hts hkb hH (ox_map hOX rfl) hks hE hS hA (s_FW_able l D cs kf T (ch :: tk :: tp :: tm :: O) ((ch, .inr (0, [.ref y0, .int y1, .ref y2, .ref y3])) :: (tk, .inr (7, [o0, .int k1, .int k2, .int k3, .int k4, .int k5, .int k6, .int k7])) :: (tp, .inl (cs.1, 900, .inl ft)) :: (tm, .inl (cs.2.1, 900, .inl f3)) :: X) a0 w hw gw ch G t_a0 t_w t_ch (hO.sub (by decide))) kw_1093 kw_1094 kw_1095 kw_1 kw_1096 (by decide +kernel) ⟨Nat.le_of_ble_eq_true rfl, Nat.le_of_ble_eq_true rfl⟩ (HT.recv (ci := 11) hkb hH t_a0 (hO.no t_a0 (by decide)) rfl) rfl rfl hl.1 (Nat.le_of_ble_eq_true rfl) dL_law_862 ⟨by show cells + 0 ≤ 600000; omega, by show slots + 0 ≤ 7302250; omega⟩) (fun v862 u H locs hz9 hH hS => ?_)
  obtain ⟨rfl, l_v862, u_v862⟩ := hz9
  have hH : HT D cs A T (ch :: tk :: tp :: tm :: O) ((ch, .inr (0, [.ref y0, .int y1, .ref y2, .ref y3])) :: (tk, .inr (7, [o0, .int k1, .int k2, .int k3, .int k4, .int k5, .int k6, .int k7])) :: (tp, .inl (cs.1, 900, .inl ft)) :: (tm, .inl (cs.2.1, 900, .inl f3)) :: X) H := hH
  refine W.widen (k := cells) (n := slots) (Nat.le_refl _) (Nat.le_refl _) ?_
  refine lv_pop hx hb dL_law_865 rfl ?_
  refine lv_aload_n hx hb dL_law_866 rfl (lv_at hl 2 rfl) ?_
  refine tk_i hH hS hA (tr_V (n := 0) (As := []) hx hb hml hown hts hkb hH (ox_map hOX rfl) hks hE hS hA (s_M_able l D cs kf T (ch :: tk :: tp :: tm :: O) ((ch, .inr (0, [.ref y0, .int y1, .ref y2, .ref y3])) :: (tk, .inr (7, [o0, .int k1, .int k2, .int k3, .int k4, .int k5, .int k6, .int k7])) :: (tp, .inl (cs.1, 900, .inl ft)) :: (tm, .inl (cs.2.1, 900, .inl f3)) :: X) a1 hg M t_a1 b_hg (hO.sub (by decide))) kw_1692 kw_1693 kw_1694 kw_13 kw_1695 (by decide +kernel) ⟨Nat.le_of_ble_eq_true rfl, Nat.le_of_ble_eq_true rfl⟩ (HT.recv (ci := 12) hkb hH t_a1 (hO.no t_a1 (by decide)) rfl) rfl rfl hl.1 (Nat.le_of_ble_eq_true rfl) dL_law_867 ⟨by show cells + 0 ≤ 600000; omega, by show slots + 0 ≤ 7302250; omega⟩) (fun v867 u H locs hz9 hH hS => ?_)
  obtain ⟨rfl, l_v867, u_v867⟩ := hz9
  have hH : HT D cs A T (ch :: tk :: tp :: tm :: O) ((ch, .inr (0, [.ref y0, .int y1, .ref y2, .ref y3])) :: (tk, .inr (7, [o0, .int k1, .int k2, .int k3, .int k4, .int k5, .int k6, .int k7])) :: (tp, .inl (cs.1, 900, .inl ft)) :: (tm, .inl (cs.2.1, 900, .inl f3)) :: X) H := hH
  refine W.widen (k := cells) (n := slots) (Nat.le_refl _) (Nat.le_refl _) ?_
  refine lv_pop hx hb dL_law_870 rfl ?_
  refine lv_goto (tgt := 1395) hx hb dL_law_871 (by decide) ?_
  exact kk T w hw gw hg G M y0 nn j y1 o0 k1 k2 k3 k4 k5 k6 k7 ft f3 t _ _ _ _ _ hv hlx hlg hlk hr.s hH hS (lv_sub hl [0, 1, 2, 3] rfl)
set_option maxHeartbeats 4000000 in
set_option maxRecDepth 100000 in
/-- needers -/
theorem lw_c24 {p : Program} {e : Env} {s : State} {m : MethodId} {below : List Frame} {meth : Method} {c : Code} {Q : State → Prop} (l : Launch) (D : va_G) (cs : CS) (kf : KF) {b L : Nat} {xs : Nat → Int32} (hx : p.tables.exec = Jvm.exec) (hb : c.code = code) (hml : c.maxLocals = 4) (hown : s.vm.findClass R_law = some m.cls) (hts : ∀ w ∈ gw, w.before #[Value.ref b] s = true) (hX : va_X b L xs s s.heap) (hbl : b < s.heap.size) (hkb : kb D (tyc cs) s) (hks : kS kf s) {A : Nat → Prop} (hE : kE kf A s s.heap) (hA : ∀ q, s.heap.size ≤ q → A q) (hbA : ¬ A b) (hL : L ≤ 3072) (O : List Nat) (X : va_W) (hOX0 : ∀ o ∈ O, ∃ (k : Nat) (e : va_E), X[k]? = some (o, e)) (hO9 : O = []) (a0 ch a1 y2 y3 tk tp tm : Nat) (T : TF) (w hw gw hg G M y0 nn j : Nat) (y1 : Int32) (o0 : Value) (k1 k2 k3 k4 k5 k6 k7 : Int32) (ft f3 : Nat → Int32) (t : Tp) (x3 : Int32) (n cells slots : Nat) (H : Heap) (locs : List Loc) (ls : Array Slot) (hv : LV T a0 a1 ch w hw gw hg G M y0 y2 y3 nn j y1) (hlx : LX T tk tp tm) (hlg : LG G M ft f3 t k6 k7) (hlk : LK k1 k2 k3) (hr : RM cells slots n j) (hn512 : n < 512) (l_x3 : 0 ≤ x3.toInt) (u_x3 : x3.toInt + 6 ≤ L) (hH : HT D cs A T (ch :: tk :: tp :: tm :: O) ((ch, .inr (0, [.ref y0, .int y1, .ref y2, .ref y3])) :: (tk, .inr (7, [o0, .int k1, .int k2, .int k3, .int k4, .int k5, .int k6, .int k7])) :: (tp, .inl (cs.1, 900, .inl ft)) :: (tm, .inl (cs.2.1, 900, .inl f3)) :: X) H) (hS : va_S A s.heap H locs) (hl : lv_has ls 4 [(0, .ref b), (1, .ref a0), (2, .ref a1), (3, .int x3)]) (kk : ∀ (T : TF) (w hw gw hg G M y0 nn j : Nat) (y1 : Int32) (o0 : Value) (k1 k2 k3 k4 k5 k6 k7 : Int32) (ft f3 : Nat → Int32) (t : Tp) (cells slots : Nat) (H : Heap) (locs : List Loc) (ls : Array Slot), LV T a0 a1 ch w hw gw hg G M y0 y2 y3 nn j y1 → LX T tk tp tm → LG G M ft f3 t k6 k7 → LK k1 k2 k3 → RM cells slots (n + 1) j → HT D cs A T (ch :: tk :: tp :: tm :: O) ((ch, .inr (0, [.ref y0, .int y1, .ref y2, .ref y3])) :: (tk, .inr (7, [o0, .int k1, .int k2, .int k3, .int k4, .int k5, .int k6, .int k7])) :: (tp, .inl (cs.1, 900, .inl ft)) :: (tm, .inl (cs.2.1, 900, .inl f3)) :: X) H → va_S A s.heap H locs → lv_has ls 4 [(0, .ref b), (1, .ref a0), (2, .ref a1), (3, .int x3)] → W p l e room_1 s m #[Value.ref b] below meth c H locs cells slots Q (F0 m 1395 ls [])) : W p l e room_1 s m #[Value.ref b] below meth c H locs cells slots Q (F0 m 874 ls []) := by
  obtain ⟨t_a0, t_w, t_a1, b_hg, hU, hU1, t_ch, t_y0, l_y1, u_y1, t_y2, t_y3, hn, hj⟩ := id hv
  obtain ⟨t_tk, t_tp, t_tm, hU7, hU0, hU9⟩ := id hlx
  obtain ⟨lk1, lk2, lk3, lk4, lk5, lk6⟩ := id hlk
  have hO := okc hO9 t_ch t_tk t_tp t_tm
  obtain ⟨hr1, hr2⟩ := id hr
  have hOX : ∀ o ∈ (ch :: tk :: tp :: tm :: O), ∃ (k : Nat) (e : va_E), ((ch, .inr (0, [.ref y0, .int y1, .ref y2, .ref y3])) :: (tk, .inr (7, [o0, .int k1, .int k2, .int k3, .int k4, .int k5, .int k6, .int k7])) :: (tp, .inl (cs.1, 900, .inl ft)) :: (tm, .inl (cs.2.1, 900, .inl f3)) :: X)[k]? = some (o, e) := ox_c (ox_c (ox_c (ox_c hOX0)))
  have hOXf := hOX
  have b1_w := t_w.2.1
  have b2_w := t_w.2.2
  refine lv_aload_n hx hb dL_law_874 rfl (lv_at hl 1 rfl) ?_
  refine lv_aload_n hx hb dL_law_875 rfl (lv_at hl 0 rfl) ?_
  refine lv_iload_n hx hb dL_law_876 rfl (lv_at hl 3 rfl) ?_
  refine lv_iconst (v := 1) hx hb dL_law_877 (by decide) ?_
  refine lv_iadd hx hb dL_law_878 ?_
  refine lv_topi (fun v878 ev878 => ?_)
  have tv878 : v878.toInt = x3.toInt + (1) := by rw [ev878]; exact add_i rfl (by decide : (1 : Int32).toInt = 1) (by omega) (by omega)
  refine va_sld hx hb hX hbl hbA hS (in_t (by omega) (by omega)) dL_law_879 ?_
  refine lv_topi (fun v879 ev879 => ?_)
  refine tk_i hH hS hA (tr_V (n := 1) (As := [.int v879]) hx hb hml hown hts hkb hH (ox_map hOX rfl) hks hE hS hA (s_FW_needers l D cs kf T (ch :: tk :: tp :: tm :: O) ((ch, .inr (0, [.ref y0, .int y1, .ref y2, .ref y3])) :: (tk, .inr (7, [o0, .int k1, .int k2, .int k3, .int k4, .int k5, .int k6, .int k7])) :: (tp, .inl (cs.1, 900, .inl ft)) :: (tm, .inl (cs.2.1, 900, .inl f3)) :: X) a0 w hw gw ch G v879 t_a0 t_w t_ch (hO.sub (by decide))) kw_1097 kw_1098 kw_1099 kw_1 kw_1100 (by decide +kernel) ⟨Nat.le_of_ble_eq_true rfl, Nat.le_of_ble_eq_true rfl⟩ (HT.recv (ci := 11) hkb hH t_a0 (hO.no t_a0 (by decide)) rfl) rfl rfl hl.1 (Nat.le_of_ble_eq_true rfl) dL_law_880 ⟨by show cells + 0 ≤ 600000; omega, by show slots + 0 ≤ 7302250; omega⟩) (fun v880 u H locs hz9 hH hS => ?_)
  obtain ⟨rfl, l_v880, u_v880⟩ := hz9
  have hH : HT D cs A T (ch :: tk :: tp :: tm :: O) ((ch, .inr (0, [.ref y0, .int y1, .ref y2, .ref y3])) :: (tk, .inr (7, [o0, .int k1, .int k2, .int k3, .int k4, .int k5, .int k6, .int k7])) :: (tp, .inl (cs.1, 900, .inl ft)) :: (tm, .inl (cs.2.1, 900, .inl f3)) :: X) H := hH
  refine W.widen (k := cells) (n := slots) (Nat.le_refl _) (Nat.le_refl _) ?_
  refine lv_pop hx hb dL_law_883 rfl ?_
  refine lv_aload_n hx hb dL_law_884 rfl (lv_at hl 2 rfl) ?_
  refine lv_aload_n hx hb dL_law_885 rfl (lv_at hl 0 rfl) ?_
  refine lv_iload_n hx hb dL_law_886 rfl (lv_at hl 3 rfl) ?_
  refine lv_iconst (v := 1) hx hb dL_law_887 (by decide) ?_
  refine lv_iadd hx hb dL_law_888 ?_
  refine lv_topi (fun v888 ev888 => ?_)
  have tv888 : v888.toInt = x3.toInt + (1) := by rw [ev888]; exact add_i rfl (by decide : (1 : Int32).toInt = 1) (by omega) (by omega)
  refine va_sld hx hb hX hbl hbA hS (in_t (by omega) (by omega)) dL_law_889 ?_
  refine lv_topi (fun v889 ev889 => ?_)
  refine tk_i hH hS hA (tr_V (n := 1) (As := [.int v889]) hx hb hml hown hts hkb hH (ox_map hOX rfl) hks hE hS hA (s_M_needers l D cs kf T (ch :: tk :: tp :: tm :: O) ((ch, .inr (0, [.ref y0, .int y1, .ref y2, .ref y3])) :: (tk, .inr (7, [o0, .int k1, .int k2, .int k3, .int k4, .int k5, .int k6, .int k7])) :: (tp, .inl (cs.1, 900, .inl ft)) :: (tm, .inl (cs.2.1, 900, .inl f3)) :: X) a1 hg M v889 t_a1 b_hg (hO.sub (by decide))) kw_1676 kw_1677 kw_1678 kw_13 kw_1679 (by decide +kernel) ⟨Nat.le_of_ble_eq_true rfl, Nat.le_of_ble_eq_true rfl⟩ (HT.recv (ci := 12) hkb hH t_a1 (hO.no t_a1 (by decide)) rfl) rfl rfl hl.1 (Nat.le_of_ble_eq_true rfl) dL_law_890 ⟨by show cells + 0 ≤ 600000; omega, by show slots + 0 ≤ 7302250; omega⟩) (fun v890 u H locs hz9 hH hS => ?_)
  obtain ⟨rfl, l_v890, u_v890⟩ := hz9
  have hH : HT D cs A T (ch :: tk :: tp :: tm :: O) ((ch, .inr (0, [.ref y0, .int y1, .ref y2, .ref y3])) :: (tk, .inr (7, [o0, .int k1, .int k2, .int k3, .int k4, .int k5, .int k6, .int k7])) :: (tp, .inl (cs.1, 900, .inl ft)) :: (tm, .inl (cs.2.1, 900, .inl f3)) :: X) H := hH
  refine W.widen (k := cells) (n := slots) (Nat.le_refl _) (Nat.le_refl _) ?_
  refine lv_pop hx hb dL_law_893 rfl ?_
  refine lv_goto (tgt := 1395) hx hb dL_law_894 (by decide) ?_
  exact kk T w hw gw hg G M y0 nn j y1 o0 k1 k2 k3 k4 k5 k6 k7 ft f3 t _ _ _ _ _ hv hlx hlg hlk hr.s hH hS (lv_sub hl [0, 1, 2, 3] rfl)
set_option maxHeartbeats 4000000 in
set_option maxRecDepth 100000 in
/-- highest -/
theorem lw_c25 {p : Program} {e : Env} {s : State} {m : MethodId} {below : List Frame} {meth : Method} {c : Code} {Q : State → Prop} (l : Launch) (D : va_G) (cs : CS) (kf : KF) {b L : Nat} {xs : Nat → Int32} (hx : p.tables.exec = Jvm.exec) (hb : c.code = code) (hml : c.maxLocals = 4) (hown : s.vm.findClass R_law = some m.cls) (hts : ∀ w ∈ gw, w.before #[Value.ref b] s = true) (hX : va_X b L xs s s.heap) (hbl : b < s.heap.size) (hkb : kb D (tyc cs) s) (hks : kS kf s) {A : Nat → Prop} (hE : kE kf A s s.heap) (hA : ∀ q, s.heap.size ≤ q → A q) (hbA : ¬ A b) (hL : L ≤ 3072) (O : List Nat) (X : va_W) (hOX0 : ∀ o ∈ O, ∃ (k : Nat) (e : va_E), X[k]? = some (o, e)) (hO9 : O = []) (a0 ch a1 y2 y3 tk tp tm : Nat) (T : TF) (w hw gw hg G M y0 nn j : Nat) (y1 : Int32) (o0 : Value) (k1 k2 k3 k4 k5 k6 k7 : Int32) (ft f3 : Nat → Int32) (t : Tp) (x3 : Int32) (n cells slots : Nat) (H : Heap) (locs : List Loc) (ls : Array Slot) (hv : LV T a0 a1 ch w hw gw hg G M y0 y2 y3 nn j y1) (hlx : LX T tk tp tm) (hlg : LG G M ft f3 t k6 k7) (hlk : LK k1 k2 k3) (hr : RM cells slots n j) (hn512 : n < 512) (l_x3 : 0 ≤ x3.toInt) (u_x3 : x3.toInt + 6 ≤ L) (hH : HT D cs A T (ch :: tk :: tp :: tm :: O) ((ch, .inr (0, [.ref y0, .int y1, .ref y2, .ref y3])) :: (tk, .inr (7, [o0, .int k1, .int k2, .int k3, .int k4, .int k5, .int k6, .int k7])) :: (tp, .inl (cs.1, 900, .inl ft)) :: (tm, .inl (cs.2.1, 900, .inl f3)) :: X) H) (hS : va_S A s.heap H locs) (hl : lv_has ls 4 [(0, .ref b), (1, .ref a0), (2, .ref a1), (3, .int x3)]) (kk : ∀ (T : TF) (w hw gw hg G M y0 nn j : Nat) (y1 : Int32) (o0 : Value) (k1 k2 k3 k4 k5 k6 k7 : Int32) (ft f3 : Nat → Int32) (t : Tp) (cells slots : Nat) (H : Heap) (locs : List Loc) (ls : Array Slot), LV T a0 a1 ch w hw gw hg G M y0 y2 y3 nn j y1 → LX T tk tp tm → LG G M ft f3 t k6 k7 → LK k1 k2 k3 → RM cells slots (n + 1) j → HT D cs A T (ch :: tk :: tp :: tm :: O) ((ch, .inr (0, [.ref y0, .int y1, .ref y2, .ref y3])) :: (tk, .inr (7, [o0, .int k1, .int k2, .int k3, .int k4, .int k5, .int k6, .int k7])) :: (tp, .inl (cs.1, 900, .inl ft)) :: (tm, .inl (cs.2.1, 900, .inl f3)) :: X) H → va_S A s.heap H locs → lv_has ls 4 [(0, .ref b), (1, .ref a0), (2, .ref a1), (3, .int x3)] → W p l e room_1 s m #[Value.ref b] below meth c H locs cells slots Q (F0 m 1395 ls [])) : W p l e room_1 s m #[Value.ref b] below meth c H locs cells slots Q (F0 m 897 ls []) := by
  obtain ⟨t_a0, t_w, t_a1, b_hg, hU, hU1, t_ch, t_y0, l_y1, u_y1, t_y2, t_y3, hn, hj⟩ := id hv
  obtain ⟨t_tk, t_tp, t_tm, hU7, hU0, hU9⟩ := id hlx
  obtain ⟨lk1, lk2, lk3, lk4, lk5, lk6⟩ := id hlk
  have hO := okc hO9 t_ch t_tk t_tp t_tm
  obtain ⟨hr1, hr2⟩ := id hr
  have hOX : ∀ o ∈ (ch :: tk :: tp :: tm :: O), ∃ (k : Nat) (e : va_E), ((ch, .inr (0, [.ref y0, .int y1, .ref y2, .ref y3])) :: (tk, .inr (7, [o0, .int k1, .int k2, .int k3, .int k4, .int k5, .int k6, .int k7])) :: (tp, .inl (cs.1, 900, .inl ft)) :: (tm, .inl (cs.2.1, 900, .inl f3)) :: X)[k]? = some (o, e) := ox_c (ox_c (ox_c (ox_c hOX0)))
  have hOXf := hOX
  have b1_w := t_w.2.1
  have b2_w := t_w.2.2
  refine lv_aload_n hx hb dL_law_897 rfl (lv_at hl 1 rfl) ?_
  refine lv_aload_n hx hb dL_law_898 rfl (lv_at hl 0 rfl) ?_
  refine lv_iload_n hx hb dL_law_899 rfl (lv_at hl 3 rfl) ?_
  refine lv_iconst (v := 1) hx hb dL_law_900 (by decide) ?_
  refine lv_iadd hx hb dL_law_901 ?_
  refine lv_topi (fun v901 ev901 => ?_)
  have tv901 : v901.toInt = x3.toInt + (1) := by rw [ev901]; exact add_i rfl (by decide : (1 : Int32).toInt = 1) (by omega) (by omega)
  refine va_sld hx hb hX hbl hbA hS (in_t (by omega) (by omega)) dL_law_902 ?_
  refine lv_topi (fun v902 ev902 => ?_)
  refine tk_i hH hS hA (tr_V (n := 1) (As := [.int v902]) hx hb hml hown hts hkb hH (ox_map hOX rfl) hks hE hS hA (s_FW_highest l D cs kf T (ch :: tk :: tp :: tm :: O) ((ch, .inr (0, [.ref y0, .int y1, .ref y2, .ref y3])) :: (tk, .inr (7, [o0, .int k1, .int k2, .int k3, .int k4, .int k5, .int k6, .int k7])) :: (tp, .inl (cs.1, 900, .inl ft)) :: (tm, .inl (cs.2.1, 900, .inl f3)) :: X) a0 w hw gw ch G v902 t_a0 t_w t_ch (hO.sub (by decide))) kw_1101 kw_1102 kw_1103 kw_1 kw_1104 (by decide +kernel) ⟨Nat.le_of_ble_eq_true rfl, Nat.le_of_ble_eq_true rfl⟩ (HT.recv (ci := 11) hkb hH t_a0 (hO.no t_a0 (by decide)) rfl) rfl rfl hl.1 (Nat.le_of_ble_eq_true rfl) dL_law_903 ⟨by show cells + 0 ≤ 600000; omega, by show slots + 0 ≤ 7302250; omega⟩) (fun v903 u H locs hz9 hH hS => ?_)
  obtain ⟨rfl, l_v903⟩ := hz9
  have hH : HT D cs A T (ch :: tk :: tp :: tm :: O) ((ch, .inr (0, [.ref y0, .int y1, .ref y2, .ref y3])) :: (tk, .inr (7, [o0, .int k1, .int k2, .int k3, .int k4, .int k5, .int k6, .int k7])) :: (tp, .inl (cs.1, 900, .inl ft)) :: (tm, .inl (cs.2.1, 900, .inl f3)) :: X) H := hH
  refine W.widen (k := cells) (n := slots) (Nat.le_refl _) (Nat.le_refl _) ?_
  refine lv_pop hx hb dL_law_906 rfl ?_
  refine lv_aload_n hx hb dL_law_907 rfl (lv_at hl 2 rfl) ?_
  refine lv_aload_n hx hb dL_law_908 rfl (lv_at hl 0 rfl) ?_
  refine lv_iload_n hx hb dL_law_909 rfl (lv_at hl 3 rfl) ?_
  refine lv_iconst (v := 1) hx hb dL_law_910 (by decide) ?_
  refine lv_iadd hx hb dL_law_911 ?_
  refine lv_topi (fun v911 ev911 => ?_)
  have tv911 : v911.toInt = x3.toInt + (1) := by rw [ev911]; exact add_i rfl (by decide : (1 : Int32).toInt = 1) (by omega) (by omega)
  refine va_sld hx hb hX hbl hbA hS (in_t (by omega) (by omega)) dL_law_912 ?_
  refine lv_topi (fun v912 ev912 => ?_)
  refine tk_i hH hS hA (tr_V (n := 1) (As := [.int v912]) hx hb hml hown hts hkb hH (ox_map hOX rfl) hks hE hS hA (s_M_highest l D cs kf T (ch :: tk :: tp :: tm :: O) ((ch, .inr (0, [.ref y0, .int y1, .ref y2, .ref y3])) :: (tk, .inr (7, [o0, .int k1, .int k2, .int k3, .int k4, .int k5, .int k6, .int k7])) :: (tp, .inl (cs.1, 900, .inl ft)) :: (tm, .inl (cs.2.1, 900, .inl f3)) :: X) a1 hg M v912 t_a1 b_hg (hO.sub (by decide))) kw_1680 kw_1681 kw_1682 kw_13 kw_1683 (by decide +kernel) ⟨Nat.le_of_ble_eq_true rfl, Nat.le_of_ble_eq_true rfl⟩ (HT.recv (ci := 12) hkb hH t_a1 (hO.no t_a1 (by decide)) rfl) rfl rfl hl.1 (Nat.le_of_ble_eq_true rfl) dL_law_913 ⟨by show cells + 0 ≤ 600000; omega, by show slots + 0 ≤ 7302250; omega⟩) (fun v913 u H locs hz9 hH hS => ?_)
  have hz9 : u = (T, ch :: tk :: tp :: tm :: O, (ch, .inr (0, [.ref y0, .int y1, .ref y2, .ref y3])) :: (tk, .inr (7, [o0, .int k1, .int k2, .int k3, .int k4, .int k5, .int k6, .int k7])) :: (tp, .inl (cs.1, 900, .inl ft)) :: (tm, .inl (cs.2.1, 900, .inl f3)) :: X) := hz9
  subst hz9
  have hH : HT D cs A T (ch :: tk :: tp :: tm :: O) ((ch, .inr (0, [.ref y0, .int y1, .ref y2, .ref y3])) :: (tk, .inr (7, [o0, .int k1, .int k2, .int k3, .int k4, .int k5, .int k6, .int k7])) :: (tp, .inl (cs.1, 900, .inl ft)) :: (tm, .inl (cs.2.1, 900, .inl f3)) :: X) H := hH
  refine W.widen (k := cells) (n := slots) (Nat.le_refl _) (Nat.le_refl _) ?_
  refine lv_pop hx hb dL_law_916 rfl ?_
  refine lv_goto (tgt := 1395) hx hb dL_law_917 (by decide) ?_
  exact kk T w hw gw hg G M y0 nn j y1 o0 k1 k2 k3 k4 k5 k6 k7 ft f3 t _ _ _ _ _ hv hlx hlg hlk hr.s hH hS (lv_sub hl [0, 1, 2, 3] rfl)
set_option maxHeartbeats 4000000 in
set_option maxRecDepth 100000 in
/-- together -/
theorem lw_c26 {p : Program} {e : Env} {s : State} {m : MethodId} {below : List Frame} {meth : Method} {c : Code} {Q : State → Prop} (l : Launch) (D : va_G) (cs : CS) (kf : KF) {b L : Nat} {xs : Nat → Int32} (hx : p.tables.exec = Jvm.exec) (hb : c.code = code) (hml : c.maxLocals = 4) (hown : s.vm.findClass R_law = some m.cls) (hts : ∀ w ∈ gw, w.before #[Value.ref b] s = true) (hX : va_X b L xs s s.heap) (hbl : b < s.heap.size) (hkb : kb D (tyc cs) s) (hks : kS kf s) {A : Nat → Prop} (hE : kE kf A s s.heap) (hA : ∀ q, s.heap.size ≤ q → A q) (hbA : ¬ A b) (hL : L ≤ 3072) (O : List Nat) (X : va_W) (hOX0 : ∀ o ∈ O, ∃ (k : Nat) (e : va_E), X[k]? = some (o, e)) (hO9 : O = []) (a0 ch a1 y2 y3 tk tp tm : Nat) (T : TF) (w hw gw hg G M y0 nn j : Nat) (y1 : Int32) (o0 : Value) (k1 k2 k3 k4 k5 k6 k7 : Int32) (ft f3 : Nat → Int32) (t : Tp) (x3 : Int32) (n cells slots : Nat) (H : Heap) (locs : List Loc) (ls : Array Slot) (hv : LV T a0 a1 ch w hw gw hg G M y0 y2 y3 nn j y1) (hlx : LX T tk tp tm) (hlg : LG G M ft f3 t k6 k7) (hlk : LK k1 k2 k3) (hr : RM cells slots n j) (hn512 : n < 512) (l_x3 : 0 ≤ x3.toInt) (u_x3 : x3.toInt + 6 ≤ L) (hH : HT D cs A T (ch :: tk :: tp :: tm :: O) ((ch, .inr (0, [.ref y0, .int y1, .ref y2, .ref y3])) :: (tk, .inr (7, [o0, .int k1, .int k2, .int k3, .int k4, .int k5, .int k6, .int k7])) :: (tp, .inl (cs.1, 900, .inl ft)) :: (tm, .inl (cs.2.1, 900, .inl f3)) :: X) H) (hS : va_S A s.heap H locs) (hl : lv_has ls 4 [(0, .ref b), (1, .ref a0), (2, .ref a1), (3, .int x3)]) (kk : ∀ (T : TF) (w hw gw hg G M y0 nn j : Nat) (y1 : Int32) (o0 : Value) (k1 k2 k3 k4 k5 k6 k7 : Int32) (ft f3 : Nat → Int32) (t : Tp) (cells slots : Nat) (H : Heap) (locs : List Loc) (ls : Array Slot), LV T a0 a1 ch w hw gw hg G M y0 y2 y3 nn j y1 → LX T tk tp tm → LG G M ft f3 t k6 k7 → LK k1 k2 k3 → RM cells slots (n + 1) j → HT D cs A T (ch :: tk :: tp :: tm :: O) ((ch, .inr (0, [.ref y0, .int y1, .ref y2, .ref y3])) :: (tk, .inr (7, [o0, .int k1, .int k2, .int k3, .int k4, .int k5, .int k6, .int k7])) :: (tp, .inl (cs.1, 900, .inl ft)) :: (tm, .inl (cs.2.1, 900, .inl f3)) :: X) H → va_S A s.heap H locs → lv_has ls 4 [(0, .ref b), (1, .ref a0), (2, .ref a1), (3, .int x3)] → W p l e room_1 s m #[Value.ref b] below meth c H locs cells slots Q (F0 m 1395 ls [])) : W p l e room_1 s m #[Value.ref b] below meth c H locs cells slots Q (F0 m 920 ls []) := by
  obtain ⟨t_a0, t_w, t_a1, b_hg, hU, hU1, t_ch, t_y0, l_y1, u_y1, t_y2, t_y3, hn, hj⟩ := id hv
  obtain ⟨t_tk, t_tp, t_tm, hU7, hU0, hU9⟩ := id hlx
  obtain ⟨lk1, lk2, lk3, lk4, lk5, lk6⟩ := id hlk
  have hO := okc hO9 t_ch t_tk t_tp t_tm
  obtain ⟨hr1, hr2⟩ := id hr
  have hOX : ∀ o ∈ (ch :: tk :: tp :: tm :: O), ∃ (k : Nat) (e : va_E), ((ch, .inr (0, [.ref y0, .int y1, .ref y2, .ref y3])) :: (tk, .inr (7, [o0, .int k1, .int k2, .int k3, .int k4, .int k5, .int k6, .int k7])) :: (tp, .inl (cs.1, 900, .inl ft)) :: (tm, .inl (cs.2.1, 900, .inl f3)) :: X)[k]? = some (o, e) := ox_c (ox_c (ox_c (ox_c hOX0)))
  have hOXf := hOX
  have b1_w := t_w.2.1
  have b2_w := t_w.2.2
  refine lv_aload_n hx hb dL_law_920 rfl (lv_at hl 1 rfl) ?_
  refine lv_aload_n hx hb dL_law_921 rfl (lv_at hl 0 rfl) ?_
  refine lv_iload_n hx hb dL_law_922 rfl (lv_at hl 3 rfl) ?_
  refine lv_iconst (v := 1) hx hb dL_law_923 (by decide) ?_
  refine lv_iadd hx hb dL_law_924 ?_
  refine lv_topi (fun v924 ev924 => ?_)
  have tv924 : v924.toInt = x3.toInt + (1) := by rw [ev924]; exact add_i rfl (by decide : (1 : Int32).toInt = 1) (by omega) (by omega)
  refine va_sld hx hb hX hbl hbA hS (in_t (by omega) (by omega)) dL_law_925 ?_
  refine lv_topi (fun v925 ev925 => ?_)
  refine lv_aload_n hx hb dL_law_926 rfl (lv_at hl 0 rfl) ?_
  refine lv_iload_n hx hb dL_law_927 rfl (lv_at hl 3 rfl) ?_
  refine lv_iconst (v := 2) hx hb dL_law_928 (by decide) ?_
  refine lv_iadd hx hb dL_law_929 ?_
  refine lv_topi (fun v929 ev929 => ?_)
  have tv929 : v929.toInt = x3.toInt + (2) := by rw [ev929]; exact add_i rfl (by decide : (2 : Int32).toInt = 2) (by omega) (by omega)
  refine va_sld hx hb hX hbl hbA hS (in_t (by omega) (by omega)) dL_law_930 ?_
  refine lv_topi (fun v930 ev930 => ?_)
  refine tk_i hH hS hA (tr_V (n := 2) (As := [.int v925, .int v930]) hx hb hml hown hts hkb hH (ox_map hOX rfl) hks hE hS hA (s_FW_together l D cs kf T (ch :: tk :: tp :: tm :: O) ((ch, .inr (0, [.ref y0, .int y1, .ref y2, .ref y3])) :: (tk, .inr (7, [o0, .int k1, .int k2, .int k3, .int k4, .int k5, .int k6, .int k7])) :: (tp, .inl (cs.1, 900, .inl ft)) :: (tm, .inl (cs.2.1, 900, .inl f3)) :: X) a0 w hw gw ch G v925 v930 t_a0 t_w t_ch (hO.sub (by decide))) kw_1106 kw_1107 kw_1108 kw_1 kw_1109 (by decide +kernel) ⟨Nat.le_of_ble_eq_true rfl, Nat.le_of_ble_eq_true rfl⟩ (HT.recv (ci := 11) hkb hH t_a0 (hO.no t_a0 (by decide)) rfl) rfl rfl hl.1 (Nat.le_of_ble_eq_true rfl) dL_law_931 ⟨by show cells + 0 ≤ 600000; omega, by show slots + 0 ≤ 7302250; omega⟩) (fun v931 u H locs hz9 hH hS => ?_)
  obtain ⟨rfl, l_v931, u_v931⟩ := hz9
  have hH : HT D cs A T (ch :: tk :: tp :: tm :: O) ((ch, .inr (0, [.ref y0, .int y1, .ref y2, .ref y3])) :: (tk, .inr (7, [o0, .int k1, .int k2, .int k3, .int k4, .int k5, .int k6, .int k7])) :: (tp, .inl (cs.1, 900, .inl ft)) :: (tm, .inl (cs.2.1, 900, .inl f3)) :: X) H := hH
  refine W.widen (k := cells) (n := slots) (Nat.le_refl _) (Nat.le_refl _) ?_
  refine lv_pop hx hb dL_law_934 rfl ?_
  refine lv_aload_n hx hb dL_law_935 rfl (lv_at hl 2 rfl) ?_
  refine lv_aload_n hx hb dL_law_936 rfl (lv_at hl 0 rfl) ?_
  refine lv_iload_n hx hb dL_law_937 rfl (lv_at hl 3 rfl) ?_
  refine lv_iconst (v := 1) hx hb dL_law_938 (by decide) ?_
  refine lv_iadd hx hb dL_law_939 ?_
  refine lv_topi (fun v939 ev939 => ?_)
  have tv939 : v939.toInt = x3.toInt + (1) := by rw [ev939]; exact add_i rfl (by decide : (1 : Int32).toInt = 1) (by omega) (by omega)
  refine va_sld hx hb hX hbl hbA hS (in_t (by omega) (by omega)) dL_law_940 ?_
  refine lv_topi (fun v940 ev940 => ?_)
  refine lv_aload_n hx hb dL_law_941 rfl (lv_at hl 0 rfl) ?_
  refine lv_iload_n hx hb dL_law_942 rfl (lv_at hl 3 rfl) ?_
  refine lv_iconst (v := 2) hx hb dL_law_943 (by decide) ?_
  refine lv_iadd hx hb dL_law_944 ?_
  refine lv_topi (fun v944 ev944 => ?_)
  have tv944 : v944.toInt = x3.toInt + (2) := by rw [ev944]; exact add_i rfl (by decide : (2 : Int32).toInt = 2) (by omega) (by omega)
  refine va_sld hx hb hX hbl hbA hS (in_t (by omega) (by omega)) dL_law_945 ?_
  refine lv_topi (fun v945 ev945 => ?_)
  refine tk_i hH hS hA (tr_V (n := 2) (As := [.int v940, .int v945]) hx hb hml hown hts hkb hH (ox_map hOX rfl) hks hE hS hA (s_M_together l D cs kf T (ch :: tk :: tp :: tm :: O) ((ch, .inr (0, [.ref y0, .int y1, .ref y2, .ref y3])) :: (tk, .inr (7, [o0, .int k1, .int k2, .int k3, .int k4, .int k5, .int k6, .int k7])) :: (tp, .inl (cs.1, 900, .inl ft)) :: (tm, .inl (cs.2.1, 900, .inl f3)) :: X) a1 hg M v940 v945 t_a1 b_hg (hO.sub (by decide))) kw_1684 kw_1685 kw_1686 kw_13 kw_1687 (by decide +kernel) ⟨Nat.le_of_ble_eq_true rfl, Nat.le_of_ble_eq_true rfl⟩ (HT.recv (ci := 12) hkb hH t_a1 (hO.no t_a1 (by decide)) rfl) rfl rfl hl.1 (Nat.le_of_ble_eq_true rfl) dL_law_946 ⟨by show cells + 0 ≤ 600000; omega, by show slots + 0 ≤ 7302250; omega⟩) (fun v946 u H locs hz9 hH hS => ?_)
  obtain ⟨rfl, l_v946, u_v946⟩ := hz9
  have hH : HT D cs A T (ch :: tk :: tp :: tm :: O) ((ch, .inr (0, [.ref y0, .int y1, .ref y2, .ref y3])) :: (tk, .inr (7, [o0, .int k1, .int k2, .int k3, .int k4, .int k5, .int k6, .int k7])) :: (tp, .inl (cs.1, 900, .inl ft)) :: (tm, .inl (cs.2.1, 900, .inl f3)) :: X) H := hH
  refine W.widen (k := cells) (n := slots) (Nat.le_refl _) (Nat.le_refl _) ?_
  refine lv_pop hx hb dL_law_949 rfl ?_
  refine lv_goto (tgt := 1395) hx hb dL_law_950 (by decide) ?_
  exact kk T w hw gw hg G M y0 nn j y1 o0 k1 k2 k3 k4 k5 k6 k7 ft f3 t _ _ _ _ _ hv hlx hlg hlk hr.s hH hS (lv_sub hl [0, 1, 2, 3] rfl)
set_option maxHeartbeats 4000000 in
set_option maxRecDepth 100000 in
/-- leastLeg -/
theorem lw_c27 {p : Program} {e : Env} {s : State} {m : MethodId} {below : List Frame} {meth : Method} {c : Code} {Q : State → Prop} (l : Launch) (D : va_G) (cs : CS) (kf : KF) {b L : Nat} {xs : Nat → Int32} (hx : p.tables.exec = Jvm.exec) (hb : c.code = code) (hml : c.maxLocals = 4) (hown : s.vm.findClass R_law = some m.cls) (hts : ∀ w ∈ gw, w.before #[Value.ref b] s = true) (hX : va_X b L xs s s.heap) (hbl : b < s.heap.size) (hkb : kb D (tyc cs) s) (hks : kS kf s) {A : Nat → Prop} (hE : kE kf A s s.heap) (hA : ∀ q, s.heap.size ≤ q → A q) (hbA : ¬ A b) (hL : L ≤ 3072) (O : List Nat) (X : va_W) (hOX0 : ∀ o ∈ O, ∃ (k : Nat) (e : va_E), X[k]? = some (o, e)) (hO9 : O = []) (a0 ch a1 y2 y3 tk tp tm : Nat) (T : TF) (w hw gw hg G M y0 nn j : Nat) (y1 : Int32) (o0 : Value) (k1 k2 k3 k4 k5 k6 k7 : Int32) (ft f3 : Nat → Int32) (t : Tp) (x3 : Int32) (n cells slots : Nat) (H : Heap) (locs : List Loc) (ls : Array Slot) (hv : LV T a0 a1 ch w hw gw hg G M y0 y2 y3 nn j y1) (hlx : LX T tk tp tm) (hlg : LG G M ft f3 t k6 k7) (hlk : LK k1 k2 k3) (hr : RM cells slots n j) (hn512 : n < 512) (l_x3 : 0 ≤ x3.toInt) (u_x3 : x3.toInt + 6 ≤ L) (hH : HT D cs A T (ch :: tk :: tp :: tm :: O) ((ch, .inr (0, [.ref y0, .int y1, .ref y2, .ref y3])) :: (tk, .inr (7, [o0, .int k1, .int k2, .int k3, .int k4, .int k5, .int k6, .int k7])) :: (tp, .inl (cs.1, 900, .inl ft)) :: (tm, .inl (cs.2.1, 900, .inl f3)) :: X) H) (hS : va_S A s.heap H locs) (hl : lv_has ls 4 [(0, .ref b), (1, .ref a0), (2, .ref a1), (3, .int x3)]) (kk : ∀ (T : TF) (w hw gw hg G M y0 nn j : Nat) (y1 : Int32) (o0 : Value) (k1 k2 k3 k4 k5 k6 k7 : Int32) (ft f3 : Nat → Int32) (t : Tp) (cells slots : Nat) (H : Heap) (locs : List Loc) (ls : Array Slot), LV T a0 a1 ch w hw gw hg G M y0 y2 y3 nn j y1 → LX T tk tp tm → LG G M ft f3 t k6 k7 → LK k1 k2 k3 → RM cells slots (n + 1) j → HT D cs A T (ch :: tk :: tp :: tm :: O) ((ch, .inr (0, [.ref y0, .int y1, .ref y2, .ref y3])) :: (tk, .inr (7, [o0, .int k1, .int k2, .int k3, .int k4, .int k5, .int k6, .int k7])) :: (tp, .inl (cs.1, 900, .inl ft)) :: (tm, .inl (cs.2.1, 900, .inl f3)) :: X) H → va_S A s.heap H locs → lv_has ls 4 [(0, .ref b), (1, .ref a0), (2, .ref a1), (3, .int x3)] → W p l e room_1 s m #[Value.ref b] below meth c H locs cells slots Q (F0 m 1395 ls [])) : W p l e room_1 s m #[Value.ref b] below meth c H locs cells slots Q (F0 m 953 ls []) := by
  obtain ⟨t_a0, t_w, t_a1, b_hg, hU, hU1, t_ch, t_y0, l_y1, u_y1, t_y2, t_y3, hn, hj⟩ := id hv
  obtain ⟨t_tk, t_tp, t_tm, hU7, hU0, hU9⟩ := id hlx
  obtain ⟨lk1, lk2, lk3, lk4, lk5, lk6⟩ := id hlk
  have hO := okc hO9 t_ch t_tk t_tp t_tm
  obtain ⟨hr1, hr2⟩ := id hr
  have hOX : ∀ o ∈ (ch :: tk :: tp :: tm :: O), ∃ (k : Nat) (e : va_E), ((ch, .inr (0, [.ref y0, .int y1, .ref y2, .ref y3])) :: (tk, .inr (7, [o0, .int k1, .int k2, .int k3, .int k4, .int k5, .int k6, .int k7])) :: (tp, .inl (cs.1, 900, .inl ft)) :: (tm, .inl (cs.2.1, 900, .inl f3)) :: X)[k]? = some (o, e) := ox_c (ox_c (ox_c (ox_c hOX0)))
  have hOXf := hOX
  have b1_w := t_w.2.1
  have b2_w := t_w.2.2
  refine lv_aload_n hx hb dL_law_953 rfl (lv_at hl 1 rfl) ?_
  refine lv_aload_n hx hb dL_law_954 rfl (lv_at hl 0 rfl) ?_
  refine lv_iload_n hx hb dL_law_955 rfl (lv_at hl 3 rfl) ?_
  refine lv_iconst (v := 1) hx hb dL_law_956 (by decide) ?_
  refine lv_iadd hx hb dL_law_957 ?_
  refine lv_topi (fun v957 ev957 => ?_)
  have tv957 : v957.toInt = x3.toInt + (1) := by rw [ev957]; exact add_i rfl (by decide : (1 : Int32).toInt = 1) (by omega) (by omega)
  refine va_sld hx hb hX hbl hbA hS (in_t (by omega) (by omega)) dL_law_958 ?_
  refine lv_topi (fun v958 ev958 => ?_)
  refine tk_i hH hS hA (tr_V (n := 1) (As := [.int v958]) hx hb hml hown hts hkb hH (ox_map hOX rfl) hks hE hS hA (s_FW_leastLeg l D cs kf T (ch :: tk :: tp :: tm :: O) ((ch, .inr (0, [.ref y0, .int y1, .ref y2, .ref y3])) :: (tk, .inr (7, [o0, .int k1, .int k2, .int k3, .int k4, .int k5, .int k6, .int k7])) :: (tp, .inl (cs.1, 900, .inl ft)) :: (tm, .inl (cs.2.1, 900, .inl f3)) :: X) a0 w hw gw ch G v958 t_a0 t_w t_ch (hO.sub (by decide))) kw_1110 kw_1111 kw_1112 kw_1 kw_1113 (by decide +kernel) ⟨Nat.le_of_ble_eq_true rfl, Nat.le_of_ble_eq_true rfl⟩ (HT.recv (ci := 11) hkb hH t_a0 (hO.no t_a0 (by decide)) rfl) rfl rfl hl.1 (Nat.le_of_ble_eq_true rfl) dL_law_959 ⟨by show cells + 0 ≤ 600000; omega, by show slots + 0 ≤ 7302250; omega⟩) (fun v959 u H locs hz9 hH hS => ?_)
  obtain ⟨rfl, l_v959, u_v959⟩ := hz9
  have hH : HT D cs A T (ch :: tk :: tp :: tm :: O) ((ch, .inr (0, [.ref y0, .int y1, .ref y2, .ref y3])) :: (tk, .inr (7, [o0, .int k1, .int k2, .int k3, .int k4, .int k5, .int k6, .int k7])) :: (tp, .inl (cs.1, 900, .inl ft)) :: (tm, .inl (cs.2.1, 900, .inl f3)) :: X) H := hH
  refine W.widen (k := cells) (n := slots) (Nat.le_refl _) (Nat.le_refl _) ?_
  refine lv_pop hx hb dL_law_962 rfl ?_
  refine lv_aload_n hx hb dL_law_963 rfl (lv_at hl 2 rfl) ?_
  refine lv_aload_n hx hb dL_law_964 rfl (lv_at hl 0 rfl) ?_
  refine lv_iload_n hx hb dL_law_965 rfl (lv_at hl 3 rfl) ?_
  refine lv_iconst (v := 1) hx hb dL_law_966 (by decide) ?_
  refine lv_iadd hx hb dL_law_967 ?_
  refine lv_topi (fun v967 ev967 => ?_)
  have tv967 : v967.toInt = x3.toInt + (1) := by rw [ev967]; exact add_i rfl (by decide : (1 : Int32).toInt = 1) (by omega) (by omega)
  refine va_sld hx hb hX hbl hbA hS (in_t (by omega) (by omega)) dL_law_968 ?_
  refine lv_topi (fun v968 ev968 => ?_)
  refine tk_i hH hS hA (tr_V (n := 1) (As := [.int v968]) hx hb hml hown hts hkb hH (ox_map hOX rfl) hks hE hS hA (s_M_leastLeg l D cs kf T (ch :: tk :: tp :: tm :: O) ((ch, .inr (0, [.ref y0, .int y1, .ref y2, .ref y3])) :: (tk, .inr (7, [o0, .int k1, .int k2, .int k3, .int k4, .int k5, .int k6, .int k7])) :: (tp, .inl (cs.1, 900, .inl ft)) :: (tm, .inl (cs.2.1, 900, .inl f3)) :: X) a1 hg M v968 t_a1 b_hg (hO.sub (by decide))) kw_1696 kw_1697 kw_1698 kw_13 kw_1699 (by decide +kernel) ⟨Nat.le_of_ble_eq_true rfl, Nat.le_of_ble_eq_true rfl⟩ (HT.recv (ci := 12) hkb hH t_a1 (hO.no t_a1 (by decide)) rfl) rfl rfl hl.1 (Nat.le_of_ble_eq_true rfl) dL_law_969 ⟨by show cells + 0 ≤ 600000; omega, by show slots + 0 ≤ 7302250; omega⟩) (fun v969 u H locs hz9 hH hS => ?_)
  obtain ⟨rfl, l_v969, u_v969⟩ := hz9
  have hH : HT D cs A T (ch :: tk :: tp :: tm :: O) ((ch, .inr (0, [.ref y0, .int y1, .ref y2, .ref y3])) :: (tk, .inr (7, [o0, .int k1, .int k2, .int k3, .int k4, .int k5, .int k6, .int k7])) :: (tp, .inl (cs.1, 900, .inl ft)) :: (tm, .inl (cs.2.1, 900, .inl f3)) :: X) H := hH
  refine W.widen (k := cells) (n := slots) (Nat.le_refl _) (Nat.le_refl _) ?_
  refine lv_pop hx hb dL_law_972 rfl ?_
  refine lv_goto (tgt := 1395) hx hb dL_law_973 (by decide) ?_
  exact kk T w hw gw hg G M y0 nn j y1 o0 k1 k2 k3 k4 k5 k6 k7 ft f3 t _ _ _ _ _ hv hlx hlg hlk hr.s hH hS (lv_sub hl [0, 1, 2, 3] rfl)
set_option maxHeartbeats 4000000 in
set_option maxRecDepth 100000 in
/-- opens -/
theorem lw_c28 {p : Program} {e : Env} {s : State} {m : MethodId} {below : List Frame} {meth : Method} {c : Code} {Q : State → Prop} (l : Launch) (D : va_G) (cs : CS) (kf : KF) {b L : Nat} {xs : Nat → Int32} (hx : p.tables.exec = Jvm.exec) (hb : c.code = code) (hml : c.maxLocals = 4) (hown : s.vm.findClass R_law = some m.cls) (hts : ∀ w ∈ gw, w.before #[Value.ref b] s = true) (hX : va_X b L xs s s.heap) (hbl : b < s.heap.size) (hkb : kb D (tyc cs) s) (hks : kS kf s) {A : Nat → Prop} (hE : kE kf A s s.heap) (hA : ∀ q, s.heap.size ≤ q → A q) (hbA : ¬ A b) (hL : L ≤ 3072) (O : List Nat) (X : va_W) (hOX0 : ∀ o ∈ O, ∃ (k : Nat) (e : va_E), X[k]? = some (o, e)) (hO9 : O = []) (a0 ch a1 y2 y3 tk tp tm : Nat) (T : TF) (w hw gw hg G M y0 nn j : Nat) (y1 : Int32) (o0 : Value) (k1 k2 k3 k4 k5 k6 k7 : Int32) (ft f3 : Nat → Int32) (t : Tp) (x3 : Int32) (n cells slots : Nat) (H : Heap) (locs : List Loc) (ls : Array Slot) (hv : LV T a0 a1 ch w hw gw hg G M y0 y2 y3 nn j y1) (hlx : LX T tk tp tm) (hlg : LG G M ft f3 t k6 k7) (hlk : LK k1 k2 k3) (hr : RM cells slots n j) (hn512 : n < 512) (l_x3 : 0 ≤ x3.toInt) (u_x3 : x3.toInt + 6 ≤ L) (hH : HT D cs A T (ch :: tk :: tp :: tm :: O) ((ch, .inr (0, [.ref y0, .int y1, .ref y2, .ref y3])) :: (tk, .inr (7, [o0, .int k1, .int k2, .int k3, .int k4, .int k5, .int k6, .int k7])) :: (tp, .inl (cs.1, 900, .inl ft)) :: (tm, .inl (cs.2.1, 900, .inl f3)) :: X) H) (hS : va_S A s.heap H locs) (hl : lv_has ls 4 [(0, .ref b), (1, .ref a0), (2, .ref a1), (3, .int x3)]) (kk : ∀ (T : TF) (w hw gw hg G M y0 nn j : Nat) (y1 : Int32) (o0 : Value) (k1 k2 k3 k4 k5 k6 k7 : Int32) (ft f3 : Nat → Int32) (t : Tp) (cells slots : Nat) (H : Heap) (locs : List Loc) (ls : Array Slot), LV T a0 a1 ch w hw gw hg G M y0 y2 y3 nn j y1 → LX T tk tp tm → LG G M ft f3 t k6 k7 → LK k1 k2 k3 → RM cells slots (n + 1) j → HT D cs A T (ch :: tk :: tp :: tm :: O) ((ch, .inr (0, [.ref y0, .int y1, .ref y2, .ref y3])) :: (tk, .inr (7, [o0, .int k1, .int k2, .int k3, .int k4, .int k5, .int k6, .int k7])) :: (tp, .inl (cs.1, 900, .inl ft)) :: (tm, .inl (cs.2.1, 900, .inl f3)) :: X) H → va_S A s.heap H locs → lv_has ls 4 [(0, .ref b), (1, .ref a0), (2, .ref a1), (3, .int x3)] → W p l e room_1 s m #[Value.ref b] below meth c H locs cells slots Q (F0 m 1395 ls [])) : W p l e room_1 s m #[Value.ref b] below meth c H locs cells slots Q (F0 m 976 ls []) := by
  obtain ⟨t_a0, t_w, t_a1, b_hg, hU, hU1, t_ch, t_y0, l_y1, u_y1, t_y2, t_y3, hn, hj⟩ := id hv
  obtain ⟨t_tk, t_tp, t_tm, hU7, hU0, hU9⟩ := id hlx
  obtain ⟨lk1, lk2, lk3, lk4, lk5, lk6⟩ := id hlk
  have hO := okc hO9 t_ch t_tk t_tp t_tm
  obtain ⟨hr1, hr2⟩ := id hr
  have hOX : ∀ o ∈ (ch :: tk :: tp :: tm :: O), ∃ (k : Nat) (e : va_E), ((ch, .inr (0, [.ref y0, .int y1, .ref y2, .ref y3])) :: (tk, .inr (7, [o0, .int k1, .int k2, .int k3, .int k4, .int k5, .int k6, .int k7])) :: (tp, .inl (cs.1, 900, .inl ft)) :: (tm, .inl (cs.2.1, 900, .inl f3)) :: X)[k]? = some (o, e) := ox_c (ox_c (ox_c (ox_c hOX0)))
  have hOXf := hOX
  have b1_w := t_w.2.1
  have b2_w := t_w.2.2
  refine lv_aload_n hx hb dL_law_976 rfl (lv_at hl 1 rfl) ?_
  refine lv_aload_n hx hb dL_law_977 rfl (lv_at hl 0 rfl) ?_
  refine lv_iload_n hx hb dL_law_978 rfl (lv_at hl 3 rfl) ?_
  refine lv_iconst (v := 1) hx hb dL_law_979 (by decide) ?_
  refine lv_iadd hx hb dL_law_980 ?_
  refine lv_topi (fun v980 ev980 => ?_)
  have tv980 : v980.toInt = x3.toInt + (1) := by rw [ev980]; exact add_i rfl (by decide : (1 : Int32).toInt = 1) (by omega) (by omega)
  refine va_sld hx hb hX hbl hbA hS (in_t (by omega) (by omega)) dL_law_981 ?_
  refine lv_topi (fun v981 ev981 => ?_)
  refine tk_i hH hS hA (tr_V (n := 1) (As := [.int v981]) hx hb hml hown hts hkb hH (ox_map hOX rfl) hks hE hS hA (s_FW_opens l D cs kf T (ch :: tk :: tp :: tm :: O) ((ch, .inr (0, [.ref y0, .int y1, .ref y2, .ref y3])) :: (tk, .inr (7, [o0, .int k1, .int k2, .int k3, .int k4, .int k5, .int k6, .int k7])) :: (tp, .inl (cs.1, 900, .inl ft)) :: (tm, .inl (cs.2.1, 900, .inl f3)) :: X) a0 w hw gw ch G v981 t_a0 t_w t_ch (hO.sub (by decide))) kw_1114 kw_1115 kw_1116 kw_1 kw_1117 (by decide +kernel) ⟨Nat.le_of_ble_eq_true rfl, Nat.le_of_ble_eq_true rfl⟩ (HT.recv (ci := 11) hkb hH t_a0 (hO.no t_a0 (by decide)) rfl) rfl rfl hl.1 (Nat.le_of_ble_eq_true rfl) dL_law_982 ⟨by show cells + 0 ≤ 600000; omega, by show slots + 0 ≤ 7302250; omega⟩) (fun v982 u H locs hz9 hH hS => ?_)
  have hz9 : u = (T, ch :: tk :: tp :: tm :: O, (ch, .inr (0, [.ref y0, .int y1, .ref y2, .ref y3])) :: (tk, .inr (7, [o0, .int k1, .int k2, .int k3, .int k4, .int k5, .int k6, .int k7])) :: (tp, .inl (cs.1, 900, .inl ft)) :: (tm, .inl (cs.2.1, 900, .inl f3)) :: X) := hz9
  subst hz9
  have hH : HT D cs A T (ch :: tk :: tp :: tm :: O) ((ch, .inr (0, [.ref y0, .int y1, .ref y2, .ref y3])) :: (tk, .inr (7, [o0, .int k1, .int k2, .int k3, .int k4, .int k5, .int k6, .int k7])) :: (tp, .inl (cs.1, 900, .inl ft)) :: (tm, .inl (cs.2.1, 900, .inl f3)) :: X) H := hH
  refine W.widen (k := cells) (n := slots) (Nat.le_refl _) (Nat.le_refl _) ?_
  refine lv_pop hx hb dL_law_985 rfl ?_
  refine lv_aload_n hx hb dL_law_986 rfl (lv_at hl 2 rfl) ?_
  refine lv_aload_n hx hb dL_law_987 rfl (lv_at hl 0 rfl) ?_
  refine lv_iload_n hx hb dL_law_988 rfl (lv_at hl 3 rfl) ?_
  refine lv_iconst (v := 1) hx hb dL_law_989 (by decide) ?_
  refine lv_iadd hx hb dL_law_990 ?_
  refine lv_topi (fun v990 ev990 => ?_)
  have tv990 : v990.toInt = x3.toInt + (1) := by rw [ev990]; exact add_i rfl (by decide : (1 : Int32).toInt = 1) (by omega) (by omega)
  refine va_sld hx hb hX hbl hbA hS (in_t (by omega) (by omega)) dL_law_991 ?_
  refine lv_topi (fun v991 ev991 => ?_)
  refine tk_i hH hS hA (tr_V (n := 1) (As := [.int v991]) hx hb hml hown hts hkb hH (ox_map hOX rfl) hks hE hS hA (s_M_opens l D cs kf T (ch :: tk :: tp :: tm :: O) ((ch, .inr (0, [.ref y0, .int y1, .ref y2, .ref y3])) :: (tk, .inr (7, [o0, .int k1, .int k2, .int k3, .int k4, .int k5, .int k6, .int k7])) :: (tp, .inl (cs.1, 900, .inl ft)) :: (tm, .inl (cs.2.1, 900, .inl f3)) :: X) a1 hg M v991 t_a1 b_hg (hO.sub (by decide))) kw_1700 kw_1701 kw_1702 kw_13 kw_1703 (by decide +kernel) ⟨Nat.le_of_ble_eq_true rfl, Nat.le_of_ble_eq_true rfl⟩ (HT.recv (ci := 12) hkb hH t_a1 (hO.no t_a1 (by decide)) rfl) rfl rfl hl.1 (Nat.le_of_ble_eq_true rfl) dL_law_992 ⟨by show cells + 0 ≤ 600000; omega, by show slots + 0 ≤ 7302250; omega⟩) (fun v992 u H locs hz9 hH hS => ?_)
  have hz9 : u = (T, ch :: tk :: tp :: tm :: O, (ch, .inr (0, [.ref y0, .int y1, .ref y2, .ref y3])) :: (tk, .inr (7, [o0, .int k1, .int k2, .int k3, .int k4, .int k5, .int k6, .int k7])) :: (tp, .inl (cs.1, 900, .inl ft)) :: (tm, .inl (cs.2.1, 900, .inl f3)) :: X) := hz9
  subst hz9
  have hH : HT D cs A T (ch :: tk :: tp :: tm :: O) ((ch, .inr (0, [.ref y0, .int y1, .ref y2, .ref y3])) :: (tk, .inr (7, [o0, .int k1, .int k2, .int k3, .int k4, .int k5, .int k6, .int k7])) :: (tp, .inl (cs.1, 900, .inl ft)) :: (tm, .inl (cs.2.1, 900, .inl f3)) :: X) H := hH
  refine W.widen (k := cells) (n := slots) (Nat.le_refl _) (Nat.le_refl _) ?_
  refine lv_pop hx hb dL_law_995 rfl ?_
  refine lv_goto (tgt := 1395) hx hb dL_law_996 (by decide) ?_
  exact kk T w hw gw hg G M y0 nn j y1 o0 k1 k2 k3 k4 k5 k6 k7 ft f3 t _ _ _ _ _ hv hlx hlg hlk hr.s hH hS (lv_sub hl [0, 1, 2, 3] rfl)
set_option maxHeartbeats 4000000 in
set_option maxRecDepth 100000 in
/-- dearest -/
theorem lw_c29 {p : Program} {e : Env} {s : State} {m : MethodId} {below : List Frame} {meth : Method} {c : Code} {Q : State → Prop} (l : Launch) (D : va_G) (cs : CS) (kf : KF) {b L : Nat} {xs : Nat → Int32} (hx : p.tables.exec = Jvm.exec) (hb : c.code = code) (hml : c.maxLocals = 4) (hown : s.vm.findClass R_law = some m.cls) (hts : ∀ w ∈ gw, w.before #[Value.ref b] s = true) (hX : va_X b L xs s s.heap) (hbl : b < s.heap.size) (hkb : kb D (tyc cs) s) (hks : kS kf s) {A : Nat → Prop} (hE : kE kf A s s.heap) (hA : ∀ q, s.heap.size ≤ q → A q) (hbA : ¬ A b) (hL : L ≤ 3072) (O : List Nat) (X : va_W) (hOX0 : ∀ o ∈ O, ∃ (k : Nat) (e : va_E), X[k]? = some (o, e)) (hO9 : O = []) (a0 ch a1 y2 y3 tk tp tm : Nat) (T : TF) (w hw gw hg G M y0 nn j : Nat) (y1 : Int32) (o0 : Value) (k1 k2 k3 k4 k5 k6 k7 : Int32) (ft f3 : Nat → Int32) (t : Tp) (x3 : Int32) (n cells slots : Nat) (H : Heap) (locs : List Loc) (ls : Array Slot) (hv : LV T a0 a1 ch w hw gw hg G M y0 y2 y3 nn j y1) (hlx : LX T tk tp tm) (hlg : LG G M ft f3 t k6 k7) (hlk : LK k1 k2 k3) (hr : RM cells slots n j) (hn512 : n < 512) (l_x3 : 0 ≤ x3.toInt) (u_x3 : x3.toInt + 6 ≤ L) (hH : HT D cs A T (ch :: tk :: tp :: tm :: O) ((ch, .inr (0, [.ref y0, .int y1, .ref y2, .ref y3])) :: (tk, .inr (7, [o0, .int k1, .int k2, .int k3, .int k4, .int k5, .int k6, .int k7])) :: (tp, .inl (cs.1, 900, .inl ft)) :: (tm, .inl (cs.2.1, 900, .inl f3)) :: X) H) (hS : va_S A s.heap H locs) (hl : lv_has ls 4 [(0, .ref b), (1, .ref a0), (2, .ref a1), (3, .int x3)]) (kk : ∀ (T : TF) (w hw gw hg G M y0 nn j : Nat) (y1 : Int32) (o0 : Value) (k1 k2 k3 k4 k5 k6 k7 : Int32) (ft f3 : Nat → Int32) (t : Tp) (cells slots : Nat) (H : Heap) (locs : List Loc) (ls : Array Slot), LV T a0 a1 ch w hw gw hg G M y0 y2 y3 nn j y1 → LX T tk tp tm → LG G M ft f3 t k6 k7 → LK k1 k2 k3 → RM cells slots (n + 1) j → HT D cs A T (ch :: tk :: tp :: tm :: O) ((ch, .inr (0, [.ref y0, .int y1, .ref y2, .ref y3])) :: (tk, .inr (7, [o0, .int k1, .int k2, .int k3, .int k4, .int k5, .int k6, .int k7])) :: (tp, .inl (cs.1, 900, .inl ft)) :: (tm, .inl (cs.2.1, 900, .inl f3)) :: X) H → va_S A s.heap H locs → lv_has ls 4 [(0, .ref b), (1, .ref a0), (2, .ref a1), (3, .int x3)] → W p l e room_1 s m #[Value.ref b] below meth c H locs cells slots Q (F0 m 1395 ls [])) : W p l e room_1 s m #[Value.ref b] below meth c H locs cells slots Q (F0 m 999 ls []) := by
  obtain ⟨t_a0, t_w, t_a1, b_hg, hU, hU1, t_ch, t_y0, l_y1, u_y1, t_y2, t_y3, hn, hj⟩ := id hv
  obtain ⟨t_tk, t_tp, t_tm, hU7, hU0, hU9⟩ := id hlx
  obtain ⟨lk1, lk2, lk3, lk4, lk5, lk6⟩ := id hlk
  have hO := okc hO9 t_ch t_tk t_tp t_tm
  obtain ⟨hr1, hr2⟩ := id hr
  have hOX : ∀ o ∈ (ch :: tk :: tp :: tm :: O), ∃ (k : Nat) (e : va_E), ((ch, .inr (0, [.ref y0, .int y1, .ref y2, .ref y3])) :: (tk, .inr (7, [o0, .int k1, .int k2, .int k3, .int k4, .int k5, .int k6, .int k7])) :: (tp, .inl (cs.1, 900, .inl ft)) :: (tm, .inl (cs.2.1, 900, .inl f3)) :: X)[k]? = some (o, e) := ox_c (ox_c (ox_c (ox_c hOX0)))
  have hOXf := hOX
  have b1_w := t_w.2.1
  have b2_w := t_w.2.2
  refine lv_aload_n hx hb dL_law_999 rfl (lv_at hl 1 rfl) ?_
  refine lv_aload_n hx hb dL_law_1000 rfl (lv_at hl 0 rfl) ?_
  refine lv_iload_n hx hb dL_law_1001 rfl (lv_at hl 3 rfl) ?_
  refine lv_iconst (v := 1) hx hb dL_law_1002 (by decide) ?_
  refine lv_iadd hx hb dL_law_1003 ?_
  refine lv_topi (fun v1003 ev1003 => ?_)
  have tv1003 : v1003.toInt = x3.toInt + (1) := by rw [ev1003]; exact add_i rfl (by decide : (1 : Int32).toInt = 1) (by omega) (by omega)
  refine va_sld hx hb hX hbl hbA hS (in_t (by omega) (by omega)) dL_law_1004 ?_
  refine lv_topi (fun v1004 ev1004 => ?_)
  refine tk_i hH hS hA (tr_V (n := 1) (As := [.int v1004]) hx hb hml hown hts hkb hH (ox_map hOX rfl) hks hE hS hA (s_FW_dearest l D cs kf T (ch :: tk :: tp :: tm :: O) ((ch, .inr (0, [.ref y0, .int y1, .ref y2, .ref y3])) :: (tk, .inr (7, [o0, .int k1, .int k2, .int k3, .int k4, .int k5, .int k6, .int k7])) :: (tp, .inl (cs.1, 900, .inl ft)) :: (tm, .inl (cs.2.1, 900, .inl f3)) :: X) a0 w hw gw ch G v1004 t_a0 t_w t_ch (hO.sub (by decide))) kw_1119 kw_1120 kw_1121 kw_1 kw_1122 (by decide +kernel) ⟨Nat.le_of_ble_eq_true rfl, Nat.le_of_ble_eq_true rfl⟩ (HT.recv (ci := 11) hkb hH t_a0 (hO.no t_a0 (by decide)) rfl) rfl rfl hl.1 (Nat.le_of_ble_eq_true rfl) dL_law_1005 ⟨by show cells + 0 ≤ 600000; omega, by show slots + 0 ≤ 7302250; omega⟩) (fun v1005 u H locs hz9 hH hS => ?_)
  obtain ⟨rfl, l_v1005, u_v1005⟩ := hz9
  have hH : HT D cs A T (ch :: tk :: tp :: tm :: O) ((ch, .inr (0, [.ref y0, .int y1, .ref y2, .ref y3])) :: (tk, .inr (7, [o0, .int k1, .int k2, .int k3, .int k4, .int k5, .int k6, .int k7])) :: (tp, .inl (cs.1, 900, .inl ft)) :: (tm, .inl (cs.2.1, 900, .inl f3)) :: X) H := hH
  refine W.widen (k := cells) (n := slots) (Nat.le_refl _) (Nat.le_refl _) ?_
  refine lv_pop hx hb dL_law_1008 rfl ?_
  refine lv_aload_n hx hb dL_law_1009 rfl (lv_at hl 2 rfl) ?_
  refine lv_aload_n hx hb dL_law_1010 rfl (lv_at hl 0 rfl) ?_
  refine lv_iload_n hx hb dL_law_1011 rfl (lv_at hl 3 rfl) ?_
  refine lv_iconst (v := 1) hx hb dL_law_1012 (by decide) ?_
  refine lv_iadd hx hb dL_law_1013 ?_
  refine lv_topi (fun v1013 ev1013 => ?_)
  have tv1013 : v1013.toInt = x3.toInt + (1) := by rw [ev1013]; exact add_i rfl (by decide : (1 : Int32).toInt = 1) (by omega) (by omega)
  refine va_sld hx hb hX hbl hbA hS (in_t (by omega) (by omega)) dL_law_1014 ?_
  refine lv_topi (fun v1014 ev1014 => ?_)
  refine tk_i hH hS hA (tr_V (n := 1) (As := [.int v1014]) hx hb hml hown hts hkb hH (ox_map hOX rfl) hks hE hS hA (s_M_dearest l D cs kf T (ch :: tk :: tp :: tm :: O) ((ch, .inr (0, [.ref y0, .int y1, .ref y2, .ref y3])) :: (tk, .inr (7, [o0, .int k1, .int k2, .int k3, .int k4, .int k5, .int k6, .int k7])) :: (tp, .inl (cs.1, 900, .inl ft)) :: (tm, .inl (cs.2.1, 900, .inl f3)) :: X) a1 hg M v1014 t_a1 b_hg (hO.sub (by decide))) kw_1712 kw_1713 kw_1714 kw_13 kw_1715 (by decide +kernel) ⟨Nat.le_of_ble_eq_true rfl, Nat.le_of_ble_eq_true rfl⟩ (HT.recv (ci := 12) hkb hH t_a1 (hO.no t_a1 (by decide)) rfl) rfl rfl hl.1 (Nat.le_of_ble_eq_true rfl) dL_law_1015 ⟨by show cells + 0 ≤ 600000; omega, by show slots + 0 ≤ 7302250; omega⟩) (fun v1015 u H locs hz9 hH hS => ?_)
  obtain ⟨rfl, l_v1015, u_v1015⟩ := hz9
  have hH : HT D cs A T (ch :: tk :: tp :: tm :: O) ((ch, .inr (0, [.ref y0, .int y1, .ref y2, .ref y3])) :: (tk, .inr (7, [o0, .int k1, .int k2, .int k3, .int k4, .int k5, .int k6, .int k7])) :: (tp, .inl (cs.1, 900, .inl ft)) :: (tm, .inl (cs.2.1, 900, .inl f3)) :: X) H := hH
  refine W.widen (k := cells) (n := slots) (Nat.le_refl _) (Nat.le_refl _) ?_
  refine lv_pop hx hb dL_law_1018 rfl ?_
  refine lv_goto (tgt := 1395) hx hb dL_law_1019 (by decide) ?_
  exact kk T w hw gw hg G M y0 nn j y1 o0 k1 k2 k3 k4 k5 k6 k7 ft f3 t _ _ _ _ _ hv hlx hlg hlk hr.s hH hS (lv_sub hl [0, 1, 2, 3] rfl)
theorem dL_law_1022 : decode code 1022 = .ok (.aload_n 1, 1) := by decide +kernel
theorem dL_law_1023 : decode code 1023 = .ok (.aload_n 0, 1) := by decide +kernel
theorem dL_law_1024 : decode code 1024 = .ok (.iload_n 3, 1) := by decide +kernel
theorem dL_law_1025 : decode code 1025 = .ok (.iconst 1, 1) := by decide +kernel
theorem dL_law_1026 : decode code 1026 = .ok (.iadd, 1) := by decide +kernel
theorem dL_law_1027 : decode code 1027 = .ok (.iaload, 1) := by decide +kernel
theorem dL_law_1028 : decode code 1028 = .ok (.invokevirtual 140, 3) := by decide +kernel
theorem dL_law_1031 : decode code 1031 = .ok (.pop, 1) := by decide +kernel
theorem dL_law_1032 : decode code 1032 = .ok (.aload_n 2, 1) := by decide +kernel
theorem dL_law_1033 : decode code 1033 = .ok (.aload_n 0, 1) := by decide +kernel
theorem dL_law_1034 : decode code 1034 = .ok (.iload_n 3, 1) := by decide +kernel
theorem dL_law_1035 : decode code 1035 = .ok (.iconst 1, 1) := by decide +kernel
theorem dL_law_1036 : decode code 1036 = .ok (.iadd, 1) := by decide +kernel
theorem dL_law_1037 : decode code 1037 = .ok (.iaload, 1) := by decide +kernel
theorem dL_law_1038 : decode code 1038 = .ok (.invokevirtual 143, 3) := by decide +kernel
theorem dL_law_1041 : decode code 1041 = .ok (.pop, 1) := by decide +kernel
theorem dL_law_1042 : decode code 1042 = .ok (.goto 353, 3) := by decide +kernel
theorem dL_law_1045 : decode code 1045 = .ok (.aload_n 1, 1) := by decide +kernel
theorem dL_law_1046 : decode code 1046 = .ok (.aload_n 0, 1) := by decide +kernel
theorem dL_law_1047 : decode code 1047 = .ok (.iload_n 3, 1) := by decide +kernel
theorem dL_law_1048 : decode code 1048 = .ok (.iconst 1, 1) := by decide +kernel
theorem dL_law_1049 : decode code 1049 = .ok (.iadd, 1) := by decide +kernel
theorem dL_law_1050 : decode code 1050 = .ok (.iaload, 1) := by decide +kernel
theorem dL_law_1051 : decode code 1051 = .ok (.aload_n 0, 1) := by decide +kernel
theorem dL_law_1052 : decode code 1052 = .ok (.iload_n 3, 1) := by decide +kernel
theorem dL_law_1053 : decode code 1053 = .ok (.iconst 2, 1) := by decide +kernel
theorem dL_law_1054 : decode code 1054 = .ok (.iadd, 1) := by decide +kernel
theorem dL_law_1055 : decode code 1055 = .ok (.iaload, 1) := by decide +kernel
theorem dL_law_1056 : decode code 1056 = .ok (.aload_n 0, 1) := by decide +kernel
theorem dL_law_1057 : decode code 1057 = .ok (.iload_n 3, 1) := by decide +kernel
theorem dL_law_1058 : decode code 1058 = .ok (.iconst 3, 1) := by decide +kernel
theorem dL_law_1059 : decode code 1059 = .ok (.iadd, 1) := by decide +kernel
theorem dL_law_1060 : decode code 1060 = .ok (.iaload, 1) := by decide +kernel
theorem dL_law_1061 : decode code 1061 = .ok (.invokevirtual 144, 3) := by decide +kernel
theorem dL_law_1064 : decode code 1064 = .ok (.pop, 1) := by decide +kernel
theorem dL_law_1065 : decode code 1065 = .ok (.aload_n 2, 1) := by decide +kernel
theorem dL_law_1066 : decode code 1066 = .ok (.aload_n 0, 1) := by decide +kernel
theorem dL_law_1067 : decode code 1067 = .ok (.iload_n 3, 1) := by decide +kernel
theorem dL_law_1068 : decode code 1068 = .ok (.iconst 1, 1) := by decide +kernel
theorem dL_law_1069 : decode code 1069 = .ok (.iadd, 1) := by decide +kernel
theorem dL_law_1070 : decode code 1070 = .ok (.iaload, 1) := by decide +kernel
theorem dL_law_1071 : decode code 1071 = .ok (.aload_n 0, 1) := by decide +kernel
theorem dL_law_1072 : decode code 1072 = .ok (.iload_n 3, 1) := by decide +kernel
theorem dL_law_1073 : decode code 1073 = .ok (.iconst 2, 1) := by decide +kernel
theorem dL_law_1074 : decode code 1074 = .ok (.iadd, 1) := by decide +kernel
theorem dL_law_1075 : decode code 1075 = .ok (.iaload, 1) := by decide +kernel
theorem dL_law_1076 : decode code 1076 = .ok (.aload_n 0, 1) := by decide +kernel
theorem dL_law_1077 : decode code 1077 = .ok (.iload_n 3, 1) := by decide +kernel
theorem dL_law_1078 : decode code 1078 = .ok (.iconst 3, 1) := by decide +kernel
theorem dL_law_1079 : decode code 1079 = .ok (.iadd, 1) := by decide +kernel
theorem dL_law_1080 : decode code 1080 = .ok (.iaload, 1) := by decide +kernel
theorem dL_law_1081 : decode code 1081 = .ok (.invokevirtual 147, 3) := by decide +kernel
theorem dL_law_1084 : decode code 1084 = .ok (.pop, 1) := by decide +kernel
theorem dL_law_1085 : decode code 1085 = .ok (.goto 310, 3) := by decide +kernel
theorem dL_law_1088 : decode code 1088 = .ok (.aload_n 1, 1) := by decide +kernel
theorem dL_law_1089 : decode code 1089 = .ok (.aload_n 0, 1) := by decide +kernel
theorem dL_law_1090 : decode code 1090 = .ok (.iload_n 3, 1) := by decide +kernel
theorem dL_law_1091 : decode code 1091 = .ok (.iconst 1, 1) := by decide +kernel
theorem dL_law_1092 : decode code 1092 = .ok (.iadd, 1) := by decide +kernel
theorem dL_law_1093 : decode code 1093 = .ok (.iaload, 1) := by decide +kernel
theorem dL_law_1094 : decode code 1094 = .ok (.invokevirtual 148, 3) := by decide +kernel
theorem dL_law_1097 : decode code 1097 = .ok (.pop, 1) := by decide +kernel
theorem dL_law_1098 : decode code 1098 = .ok (.aload_n 2, 1) := by decide +kernel
theorem dL_law_1099 : decode code 1099 = .ok (.aload_n 0, 1) := by decide +kernel
theorem dL_law_1100 : decode code 1100 = .ok (.iload_n 3, 1) := by decide +kernel
theorem dL_law_1101 : decode code 1101 = .ok (.iconst 1, 1) := by decide +kernel
theorem dL_law_1102 : decode code 1102 = .ok (.iadd, 1) := by decide +kernel
theorem dL_law_1103 : decode code 1103 = .ok (.iaload, 1) := by decide +kernel
theorem dL_law_1104 : decode code 1104 = .ok (.invokevirtual 151, 3) := by decide +kernel
theorem dL_law_1107 : decode code 1107 = .ok (.pop, 1) := by decide +kernel
theorem dL_law_1108 : decode code 1108 = .ok (.goto 287, 3) := by decide +kernel
theorem dL_law_1111 : decode code 1111 = .ok (.aload_n 1, 1) := by decide +kernel
theorem dL_law_1112 : decode code 1112 = .ok (.aload_n 0, 1) := by decide +kernel
theorem dL_law_1113 : decode code 1113 = .ok (.iload_n 3, 1) := by decide +kernel
theorem dL_law_1114 : decode code 1114 = .ok (.iconst 1, 1) := by decide +kernel
theorem dL_law_1115 : decode code 1115 = .ok (.iadd, 1) := by decide +kernel
theorem dL_law_1116 : decode code 1116 = .ok (.iaload, 1) := by decide +kernel
theorem dL_law_1117 : decode code 1117 = .ok (.aload_n 0, 1) := by decide +kernel
theorem dL_law_1118 : decode code 1118 = .ok (.iload_n 3, 1) := by decide +kernel
theorem dL_law_1119 : decode code 1119 = .ok (.iconst 2, 1) := by decide +kernel
theorem dL_law_1120 : decode code 1120 = .ok (.iadd, 1) := by decide +kernel
theorem dL_law_1121 : decode code 1121 = .ok (.iaload, 1) := by decide +kernel
theorem dL_law_1122 : decode code 1122 = .ok (.invokevirtual 152, 3) := by decide +kernel
theorem dL_law_1125 : decode code 1125 = .ok (.pop, 1) := by decide +kernel
theorem dL_law_1126 : decode code 1126 = .ok (.aload_n 2, 1) := by decide +kernel
theorem dL_law_1127 : decode code 1127 = .ok (.aload_n 0, 1) := by decide +kernel
theorem dL_law_1128 : decode code 1128 = .ok (.iload_n 3, 1) := by decide +kernel
theorem dL_law_1129 : decode code 1129 = .ok (.iconst 1, 1) := by decide +kernel
theorem dL_law_1130 : decode code 1130 = .ok (.iadd, 1) := by decide +kernel
theorem dL_law_1131 : decode code 1131 = .ok (.iaload, 1) := by decide +kernel
theorem dL_law_1132 : decode code 1132 = .ok (.aload_n 0, 1) := by decide +kernel
theorem dL_law_1133 : decode code 1133 = .ok (.iload_n 3, 1) := by decide +kernel
theorem dL_law_1134 : decode code 1134 = .ok (.iconst 2, 1) := by decide +kernel
theorem dL_law_1135 : decode code 1135 = .ok (.iadd, 1) := by decide +kernel
theorem dL_law_1136 : decode code 1136 = .ok (.iaload, 1) := by decide +kernel
theorem dL_law_1137 : decode code 1137 = .ok (.invokevirtual 155, 3) := by decide +kernel
theorem dL_law_1140 : decode code 1140 = .ok (.pop, 1) := by decide +kernel
theorem dL_law_1141 : decode code 1141 = .ok (.goto 254, 3) := by decide +kernel
theorem dL_law_1144 : decode code 1144 = .ok (.aload_n 1, 1) := by decide +kernel
theorem dL_law_1145 : decode code 1145 = .ok (.aload_n 0, 1) := by decide +kernel
theorem dL_law_1146 : decode code 1146 = .ok (.iload_n 3, 1) := by decide +kernel
theorem dL_law_1147 : decode code 1147 = .ok (.iconst 1, 1) := by decide +kernel
theorem dL_law_1148 : decode code 1148 = .ok (.iadd, 1) := by decide +kernel
theorem dL_law_1149 : decode code 1149 = .ok (.iaload, 1) := by decide +kernel
theorem dL_law_1150 : decode code 1150 = .ok (.aload_n 0, 1) := by decide +kernel
theorem dL_law_1151 : decode code 1151 = .ok (.iload_n 3, 1) := by decide +kernel
theorem dL_law_1152 : decode code 1152 = .ok (.iconst 2, 1) := by decide +kernel
theorem dL_law_1153 : decode code 1153 = .ok (.iadd, 1) := by decide +kernel
theorem dL_law_1154 : decode code 1154 = .ok (.iaload, 1) := by decide +kernel
theorem dL_law_1155 : decode code 1155 = .ok (.invokevirtual 156, 3) := by decide +kernel
theorem dL_law_1158 : decode code 1158 = .ok (.pop, 1) := by decide +kernel
theorem dL_law_1159 : decode code 1159 = .ok (.aload_n 2, 1) := by decide +kernel
theorem dL_law_1160 : decode code 1160 = .ok (.aload_n 0, 1) := by decide +kernel
theorem dL_law_1161 : decode code 1161 = .ok (.iload_n 3, 1) := by decide +kernel
theorem dL_law_1162 : decode code 1162 = .ok (.iconst 1, 1) := by decide +kernel
theorem dL_law_1163 : decode code 1163 = .ok (.iadd, 1) := by decide +kernel
theorem dL_law_1164 : decode code 1164 = .ok (.iaload, 1) := by decide +kernel
theorem dL_law_1165 : decode code 1165 = .ok (.aload_n 0, 1) := by decide +kernel
theorem dL_law_1166 : decode code 1166 = .ok (.iload_n 3, 1) := by decide +kernel
theorem dL_law_1167 : decode code 1167 = .ok (.iconst 2, 1) := by decide +kernel
theorem dL_law_1168 : decode code 1168 = .ok (.iadd, 1) := by decide +kernel
theorem dL_law_1169 : decode code 1169 = .ok (.iaload, 1) := by decide +kernel
theorem dL_law_1170 : decode code 1170 = .ok (.invokevirtual 159, 3) := by decide +kernel
theorem dL_law_1173 : decode code 1173 = .ok (.pop, 1) := by decide +kernel
theorem dL_law_1174 : decode code 1174 = .ok (.goto 221, 3) := by decide +kernel
theorem dL_law_1177 : decode code 1177 = .ok (.aload_n 1, 1) := by decide +kernel
theorem dL_law_1178 : decode code 1178 = .ok (.aload_n 0, 1) := by decide +kernel
theorem dL_law_1179 : decode code 1179 = .ok (.iload_n 3, 1) := by decide +kernel
theorem dL_law_1180 : decode code 1180 = .ok (.iconst 1, 1) := by decide +kernel
theorem dL_law_1181 : decode code 1181 = .ok (.iadd, 1) := by decide +kernel
theorem dL_law_1182 : decode code 1182 = .ok (.iaload, 1) := by decide +kernel
theorem dL_law_1183 : decode code 1183 = .ok (.aload_n 0, 1) := by decide +kernel
theorem dL_law_1184 : decode code 1184 = .ok (.iload_n 3, 1) := by decide +kernel
theorem dL_law_1185 : decode code 1185 = .ok (.iconst 2, 1) := by decide +kernel
theorem dL_law_1186 : decode code 1186 = .ok (.iadd, 1) := by decide +kernel
theorem dL_law_1187 : decode code 1187 = .ok (.iaload, 1) := by decide +kernel
theorem dL_law_1188 : decode code 1188 = .ok (.aload_n 0, 1) := by decide +kernel
theorem dL_law_1189 : decode code 1189 = .ok (.iload_n 3, 1) := by decide +kernel
theorem dL_law_1190 : decode code 1190 = .ok (.iconst 3, 1) := by decide +kernel
theorem dL_law_1191 : decode code 1191 = .ok (.iadd, 1) := by decide +kernel
theorem dL_law_1192 : decode code 1192 = .ok (.iaload, 1) := by decide +kernel
theorem dL_law_1193 : decode code 1193 = .ok (.invokevirtual 160, 3) := by decide +kernel
theorem dL_law_1196 : decode code 1196 = .ok (.pop, 1) := by decide +kernel
theorem dL_law_1197 : decode code 1197 = .ok (.aload_n 2, 1) := by decide +kernel
theorem dL_law_1198 : decode code 1198 = .ok (.aload_n 0, 1) := by decide +kernel
theorem dL_law_1199 : decode code 1199 = .ok (.iload_n 3, 1) := by decide +kernel
theorem dL_law_1200 : decode code 1200 = .ok (.iconst 1, 1) := by decide +kernel
theorem dL_law_1201 : decode code 1201 = .ok (.iadd, 1) := by decide +kernel
theorem dL_law_1202 : decode code 1202 = .ok (.iaload, 1) := by decide +kernel
theorem dL_law_1203 : decode code 1203 = .ok (.aload_n 0, 1) := by decide +kernel
theorem dL_law_1204 : decode code 1204 = .ok (.iload_n 3, 1) := by decide +kernel
theorem dL_law_1205 : decode code 1205 = .ok (.iconst 2, 1) := by decide +kernel
theorem dL_law_1206 : decode code 1206 = .ok (.iadd, 1) := by decide +kernel
theorem dL_law_1207 : decode code 1207 = .ok (.iaload, 1) := by decide +kernel
theorem dL_law_1208 : decode code 1208 = .ok (.aload_n 0, 1) := by decide +kernel
theorem dL_law_1209 : decode code 1209 = .ok (.iload_n 3, 1) := by decide +kernel
theorem dL_law_1210 : decode code 1210 = .ok (.iconst 3, 1) := by decide +kernel
theorem dL_law_1211 : decode code 1211 = .ok (.iadd, 1) := by decide +kernel
theorem dL_law_1212 : decode code 1212 = .ok (.iaload, 1) := by decide +kernel
theorem dL_law_1213 : decode code 1213 = .ok (.invokevirtual 163, 3) := by decide +kernel
theorem dL_law_1216 : decode code 1216 = .ok (.pop, 1) := by decide +kernel
theorem dL_law_1217 : decode code 1217 = .ok (.goto 178, 3) := by decide +kernel
theorem dL_law_1220 : decode code 1220 = .ok (.aload_n 1, 1) := by decide +kernel
theorem dL_law_1221 : decode code 1221 = .ok (.aload_n 0, 1) := by decide +kernel
theorem dL_law_1222 : decode code 1222 = .ok (.iload_n 3, 1) := by decide +kernel
theorem dL_law_1223 : decode code 1223 = .ok (.iconst 1, 1) := by decide +kernel
theorem dL_law_1224 : decode code 1224 = .ok (.iadd, 1) := by decide +kernel
theorem dL_law_1225 : decode code 1225 = .ok (.iaload, 1) := by decide +kernel
theorem dL_law_1226 : decode code 1226 = .ok (.aload_n 0, 1) := by decide +kernel
theorem dL_law_1227 : decode code 1227 = .ok (.iload_n 3, 1) := by decide +kernel
theorem dL_law_1228 : decode code 1228 = .ok (.iconst 2, 1) := by decide +kernel
theorem dL_law_1229 : decode code 1229 = .ok (.iadd, 1) := by decide +kernel
theorem dL_law_1230 : decode code 1230 = .ok (.iaload, 1) := by decide +kernel
theorem dL_law_1231 : decode code 1231 = .ok (.aload_n 0, 1) := by decide +kernel
theorem dL_law_1232 : decode code 1232 = .ok (.iload_n 3, 1) := by decide +kernel
theorem dL_law_1233 : decode code 1233 = .ok (.iconst 3, 1) := by decide +kernel
theorem dL_law_1234 : decode code 1234 = .ok (.iadd, 1) := by decide +kernel
theorem dL_law_1235 : decode code 1235 = .ok (.iaload, 1) := by decide +kernel
theorem dL_law_1236 : decode code 1236 = .ok (.i2l, 1) := by decide +kernel
theorem dL_law_1237 : decode code 1237 = .ok (.bipush 32, 2) := by decide +kernel
theorem dL_law_1239 : decode code 1239 = .ok (.lshl, 1) := by decide +kernel
theorem dL_law_1240 : decode code 1240 = .ok (.aload_n 0, 1) := by decide +kernel
theorem dL_law_1241 : decode code 1241 = .ok (.iload_n 3, 1) := by decide +kernel
theorem dL_law_1242 : decode code 1242 = .ok (.iconst 4, 1) := by decide +kernel
theorem dL_law_1243 : decode code 1243 = .ok (.iadd, 1) := by decide +kernel
theorem dL_law_1244 : decode code 1244 = .ok (.iaload, 1) := by decide +kernel
theorem dL_law_1245 : decode code 1245 = .ok (.i2l, 1) := by decide +kernel
theorem dL_law_1246 : decode code 1246 = .ok (.ldc2_w 164, 3) := by decide +kernel
theorem dL_law_1249 : decode code 1249 = .ok (.land, 1) := by decide +kernel
theorem dL_law_1250 : decode code 1250 = .ok (.lor, 1) := by decide +kernel
theorem dL_law_1251 : decode code 1251 = .ok (.invokevirtual 166, 3) := by decide +kernel
theorem dL_law_1254 : decode code 1254 = .ok (.pop2, 1) := by decide +kernel
theorem dL_law_1255 : decode code 1255 = .ok (.aload_n 2, 1) := by decide +kernel
theorem dL_law_1256 : decode code 1256 = .ok (.aload_n 0, 1) := by decide +kernel
theorem dL_law_1257 : decode code 1257 = .ok (.iload_n 3, 1) := by decide +kernel
theorem dL_law_1258 : decode code 1258 = .ok (.iconst 1, 1) := by decide +kernel
theorem dL_law_1259 : decode code 1259 = .ok (.iadd, 1) := by decide +kernel
theorem dL_law_1260 : decode code 1260 = .ok (.iaload, 1) := by decide +kernel
theorem dL_law_1261 : decode code 1261 = .ok (.aload_n 0, 1) := by decide +kernel
theorem dL_law_1262 : decode code 1262 = .ok (.iload_n 3, 1) := by decide +kernel
theorem dL_law_1263 : decode code 1263 = .ok (.iconst 2, 1) := by decide +kernel
theorem dL_law_1264 : decode code 1264 = .ok (.iadd, 1) := by decide +kernel
theorem dL_law_1265 : decode code 1265 = .ok (.iaload, 1) := by decide +kernel
theorem dL_law_1266 : decode code 1266 = .ok (.aload_n 0, 1) := by decide +kernel
theorem dL_law_1267 : decode code 1267 = .ok (.iload_n 3, 1) := by decide +kernel
theorem dL_law_1268 : decode code 1268 = .ok (.iconst 3, 1) := by decide +kernel
theorem dL_law_1269 : decode code 1269 = .ok (.iadd, 1) := by decide +kernel
theorem dL_law_1270 : decode code 1270 = .ok (.iaload, 1) := by decide +kernel
theorem dL_law_1271 : decode code 1271 = .ok (.i2l, 1) := by decide +kernel
theorem dL_law_1272 : decode code 1272 = .ok (.bipush 32, 2) := by decide +kernel
theorem dL_law_1274 : decode code 1274 = .ok (.lshl, 1) := by decide +kernel
theorem dL_law_1275 : decode code 1275 = .ok (.aload_n 0, 1) := by decide +kernel
theorem dL_law_1276 : decode code 1276 = .ok (.iload_n 3, 1) := by decide +kernel
theorem dL_law_1277 : decode code 1277 = .ok (.iconst 4, 1) := by decide +kernel
theorem dL_law_1278 : decode code 1278 = .ok (.iadd, 1) := by decide +kernel
theorem dL_law_1279 : decode code 1279 = .ok (.iaload, 1) := by decide +kernel
theorem dL_law_1280 : decode code 1280 = .ok (.i2l, 1) := by decide +kernel
theorem dL_law_1281 : decode code 1281 = .ok (.ldc2_w 164, 3) := by decide +kernel
theorem dL_law_1284 : decode code 1284 = .ok (.land, 1) := by decide +kernel
theorem dL_law_1285 : decode code 1285 = .ok (.lor, 1) := by decide +kernel
theorem dL_law_1286 : decode code 1286 = .ok (.invokevirtual 170, 3) := by decide +kernel
theorem dL_law_1289 : decode code 1289 = .ok (.pop2, 1) := by decide +kernel
theorem dL_law_1290 : decode code 1290 = .ok (.goto 105, 3) := by decide +kernel
theorem dL_law_1293 : decode code 1293 = .ok (.aload_n 1, 1) := by decide +kernel
theorem dL_law_1294 : decode code 1294 = .ok (.aload_n 0, 1) := by decide +kernel
theorem dL_law_1295 : decode code 1295 = .ok (.iload_n 3, 1) := by decide +kernel
theorem dL_law_1296 : decode code 1296 = .ok (.iconst 1, 1) := by decide +kernel
theorem dL_law_1297 : decode code 1297 = .ok (.iadd, 1) := by decide +kernel
theorem dL_law_1298 : decode code 1298 = .ok (.iaload, 1) := by decide +kernel
theorem dL_law_1299 : decode code 1299 = .ok (.aload_n 0, 1) := by decide +kernel
theorem dL_law_1300 : decode code 1300 = .ok (.iload_n 3, 1) := by decide +kernel
theorem dL_law_1301 : decode code 1301 = .ok (.iconst 2, 1) := by decide +kernel
theorem dL_law_1302 : decode code 1302 = .ok (.iadd, 1) := by decide +kernel
theorem dL_law_1303 : decode code 1303 = .ok (.iaload, 1) := by decide +kernel
theorem dL_law_1304 : decode code 1304 = .ok (.invokevirtual 171, 3) := by decide +kernel
theorem dL_law_1307 : decode code 1307 = .ok (.pop, 1) := by decide +kernel
theorem dL_law_1308 : decode code 1308 = .ok (.aload_n 2, 1) := by decide +kernel
theorem dL_law_1309 : decode code 1309 = .ok (.aload_n 0, 1) := by decide +kernel
theorem dL_law_1310 : decode code 1310 = .ok (.iload_n 3, 1) := by decide +kernel
theorem dL_law_1311 : decode code 1311 = .ok (.iconst 1, 1) := by decide +kernel
theorem dL_law_1312 : decode code 1312 = .ok (.iadd, 1) := by decide +kernel
theorem dL_law_1313 : decode code 1313 = .ok (.iaload, 1) := by decide +kernel
theorem dL_law_1314 : decode code 1314 = .ok (.aload_n 0, 1) := by decide +kernel
theorem dL_law_1315 : decode code 1315 = .ok (.iload_n 3, 1) := by decide +kernel
theorem dL_law_1316 : decode code 1316 = .ok (.iconst 2, 1) := by decide +kernel
theorem dL_law_1317 : decode code 1317 = .ok (.iadd, 1) := by decide +kernel
theorem dL_law_1318 : decode code 1318 = .ok (.iaload, 1) := by decide +kernel
theorem dL_law_1319 : decode code 1319 = .ok (.invokevirtual 174, 3) := by decide +kernel
theorem dL_law_1322 : decode code 1322 = .ok (.pop, 1) := by decide +kernel
theorem dL_law_1323 : decode code 1323 = .ok (.goto 72, 3) := by decide +kernel
theorem dL_law_1326 : decode code 1326 = .ok (.aload_n 1, 1) := by decide +kernel
theorem dL_law_1327 : decode code 1327 = .ok (.aload_n 0, 1) := by decide +kernel
theorem dL_law_1328 : decode code 1328 = .ok (.iload_n 3, 1) := by decide +kernel
theorem dL_law_1329 : decode code 1329 = .ok (.iconst 1, 1) := by decide +kernel
theorem dL_law_1330 : decode code 1330 = .ok (.iadd, 1) := by decide +kernel
theorem dL_law_1331 : decode code 1331 = .ok (.iaload, 1) := by decide +kernel
theorem dL_law_1332 : decode code 1332 = .ok (.invokevirtual 175, 3) := by decide +kernel
theorem dL_law_1335 : decode code 1335 = .ok (.pop, 1) := by decide +kernel
theorem dL_law_1336 : decode code 1336 = .ok (.aload_n 2, 1) := by decide +kernel
theorem dL_law_1337 : decode code 1337 = .ok (.aload_n 0, 1) := by decide +kernel
theorem dL_law_1338 : decode code 1338 = .ok (.iload_n 3, 1) := by decide +kernel
theorem dL_law_1339 : decode code 1339 = .ok (.iconst 1, 1) := by decide +kernel
theorem dL_law_1340 : decode code 1340 = .ok (.iadd, 1) := by decide +kernel
theorem dL_law_1341 : decode code 1341 = .ok (.iaload, 1) := by decide +kernel
theorem dL_law_1342 : decode code 1342 = .ok (.invokevirtual 178, 3) := by decide +kernel
theorem dL_law_1345 : decode code 1345 = .ok (.pop, 1) := by decide +kernel
theorem dL_law_1346 : decode code 1346 = .ok (.goto 49, 3) := by decide +kernel
theorem dL_law_1349 : decode code 1349 = .ok (.aload_n 1, 1) := by decide +kernel
theorem dL_law_1350 : decode code 1350 = .ok (.aload_n 0, 1) := by decide +kernel
theorem dL_law_1351 : decode code 1351 = .ok (.iload_n 3, 1) := by decide +kernel
theorem dL_law_1352 : decode code 1352 = .ok (.iconst 1, 1) := by decide +kernel
theorem dL_law_1353 : decode code 1353 = .ok (.iadd, 1) := by decide +kernel
theorem dL_law_1354 : decode code 1354 = .ok (.iaload, 1) := by decide +kernel
theorem dL_law_1355 : decode code 1355 = .ok (.invokevirtual 179, 3) := by decide +kernel
theorem dL_law_1358 : decode code 1358 = .ok (.pop, 1) := by decide +kernel
theorem dL_law_1359 : decode code 1359 = .ok (.aload_n 2, 1) := by decide +kernel
theorem dL_law_1360 : decode code 1360 = .ok (.aload_n 0, 1) := by decide +kernel
theorem dL_law_1361 : decode code 1361 = .ok (.iload_n 3, 1) := by decide +kernel
theorem dL_law_1362 : decode code 1362 = .ok (.iconst 1, 1) := by decide +kernel
theorem dL_law_1363 : decode code 1363 = .ok (.iadd, 1) := by decide +kernel
theorem dL_law_1364 : decode code 1364 = .ok (.iaload, 1) := by decide +kernel
theorem dL_law_1365 : decode code 1365 = .ok (.invokevirtual 182, 3) := by decide +kernel
theorem dL_law_1368 : decode code 1368 = .ok (.pop, 1) := by decide +kernel
theorem dL_law_1369 : decode code 1369 = .ok (.goto 26, 3) := by decide +kernel
theorem dL_law_1372 : decode code 1372 = .ok (.aload_n 1, 1) := by decide +kernel
theorem dL_law_1373 : decode code 1373 = .ok (.aload_n 0, 1) := by decide +kernel
theorem dL_law_1374 : decode code 1374 = .ok (.iload_n 3, 1) := by decide +kernel
theorem dL_law_1375 : decode code 1375 = .ok (.iconst 1, 1) := by decide +kernel
theorem dL_law_1376 : decode code 1376 = .ok (.iadd, 1) := by decide +kernel
theorem dL_law_1377 : decode code 1377 = .ok (.iaload, 1) := by decide +kernel
theorem dL_law_1378 : decode code 1378 = .ok (.invokevirtual 183, 3) := by decide +kernel
theorem dL_law_1381 : decode code 1381 = .ok (.pop, 1) := by decide +kernel
theorem dL_law_1382 : decode code 1382 = .ok (.aload_n 2, 1) := by decide +kernel
theorem dL_law_1383 : decode code 1383 = .ok (.aload_n 0, 1) := by decide +kernel
theorem dL_law_1384 : decode code 1384 = .ok (.iload_n 3, 1) := by decide +kernel
theorem dL_law_1385 : decode code 1385 = .ok (.iconst 1, 1) := by decide +kernel
theorem dL_law_1386 : decode code 1386 = .ok (.iadd, 1) := by decide +kernel
theorem dL_law_1387 : decode code 1387 = .ok (.iaload, 1) := by decide +kernel
theorem dL_law_1388 : decode code 1388 = .ok (.invokevirtual 186, 3) := by decide +kernel
theorem dL_law_1391 : decode code 1391 = .ok (.pop, 1) := by decide +kernel
theorem dL_law_1392 : decode code 1392 = .ok (.goto 3, 3) := by decide +kernel
theorem kw_1123 : Cond.methodLink "FootholdWallLaw" 140 yX11_whose ∈ gw := gw_of (tb_of 1123 (by decide +kernel)) (by decide +kernel)
theorem kw_1124 : Cond.instanceMethod yX11_whose ∈ gw := gw_of (tb_of 1124 (by decide +kernel)) (by decide +kernel)
theorem kw_1125 : Cond.selects "FootholdWall" yX11_whose yX11_whose ∈ gw := gw_of (tb_of 1125 (by decide +kernel)) (by decide +kernel)
theorem kw_1126 : Cond.code yX11_whose cX11_whose 5 (some (.int)) ∈ gw := gw_of (tb_of 1126 (by decide +kernel)) (by decide +kernel)
theorem kw_1132 : Cond.methodLink "FootholdWallLaw" 144 yX11_order ∈ gw := gw_of (tb_of 1132 (by decide +kernel)) (by decide +kernel)
theorem kw_1133 : Cond.instanceMethod yX11_order ∈ gw := gw_of (tb_of 1133 (by decide +kernel)) (by decide +kernel)
theorem kw_1134 : Cond.selects "FootholdWall" yX11_order yX11_order ∈ gw := gw_of (tb_of 1134 (by decide +kernel)) (by decide +kernel)
theorem kw_1135 : Cond.code yX11_order cX11_order 5 (some (.int)) ∈ gw := gw_of (tb_of 1135 (by decide +kernel)) (by decide +kernel)
theorem kw_1146 : Cond.methodLink "FootholdWallLaw" 148 yX11_saved ∈ gw := gw_of (tb_of 1146 (by decide +kernel)) (by decide +kernel)
theorem kw_1147 : Cond.instanceMethod yX11_saved ∈ gw := gw_of (tb_of 1147 (by decide +kernel)) (by decide +kernel)
theorem kw_1148 : Cond.selects "FootholdWall" yX11_saved yX11_saved ∈ gw := gw_of (tb_of 1148 (by decide +kernel)) (by decide +kernel)
theorem kw_1149 : Cond.code yX11_saved cX11_saved 2 (some (.int)) ∈ gw := gw_of (tb_of 1149 (by decide +kernel)) (by decide +kernel)
theorem kw_1160 : Cond.methodLink "FootholdWallLaw" 152 yX11_leaves ∈ gw := gw_of (tb_of 1160 (by decide +kernel)) (by decide +kernel)
theorem kw_1161 : Cond.instanceMethod yX11_leaves ∈ gw := gw_of (tb_of 1161 (by decide +kernel)) (by decide +kernel)
theorem kw_1162 : Cond.selects "FootholdWall" yX11_leaves yX11_leaves ∈ gw := gw_of (tb_of 1162 (by decide +kernel)) (by decide +kernel)
theorem kw_1163 : Cond.code yX11_leaves cX11_leaves 5 (some (.int)) ∈ gw := gw_of (tb_of 1163 (by decide +kernel)) (by decide +kernel)
theorem kw_1164 : Cond.methodLink "FootholdWallLaw" 156 yX11_inTurn ∈ gw := gw_of (tb_of 1164 (by decide +kernel)) (by decide +kernel)
theorem kw_1165 : Cond.instanceMethod yX11_inTurn ∈ gw := gw_of (tb_of 1165 (by decide +kernel)) (by decide +kernel)
theorem kw_1166 : Cond.selects "FootholdWall" yX11_inTurn yX11_inTurn ∈ gw := gw_of (tb_of 1166 (by decide +kernel)) (by decide +kernel)
theorem kw_1167 : Cond.code yX11_inTurn cX11_inTurn 3 (some (.int)) ∈ gw := gw_of (tb_of 1167 (by decide +kernel)) (by decide +kernel)
theorem kw_1173 : Cond.methodLink "FootholdWallLaw" 160 yX11_numbers ∈ gw := gw_of (tb_of 1173 (by decide +kernel)) (by decide +kernel)
theorem kw_1174 : Cond.instanceMethod yX11_numbers ∈ gw := gw_of (tb_of 1174 (by decide +kernel)) (by decide +kernel)
theorem kw_1175 : Cond.selects "FootholdWall" yX11_numbers yX11_numbers ∈ gw := gw_of (tb_of 1175 (by decide +kernel)) (by decide +kernel)
theorem kw_1176 : Cond.code yX11_numbers cX11_numbers 4 (some (.int)) ∈ gw := gw_of (tb_of 1176 (by decide +kernel)) (by decide +kernel)
theorem kw_1184 : Cond.methodLink "FootholdWallLaw" 166 yX11_write ∈ gw := gw_of (tb_of 1184 (by decide +kernel)) (by decide +kernel)
theorem kw_1185 : Cond.instanceMethod yX11_write ∈ gw := gw_of (tb_of 1185 (by decide +kernel)) (by decide +kernel)
theorem kw_1186 : Cond.selects "FootholdWall" yX11_write yX11_write ∈ gw := gw_of (tb_of 1186 (by decide +kernel)) (by decide +kernel)
theorem kw_1187 : Cond.code yX11_write cX11_write 6 (some (.long)) ∈ gw := gw_of (tb_of 1187 (by decide +kernel)) (by decide +kernel)
theorem kw_1194 : Cond.methodLink "FootholdWallLaw" 171 yX11_lists ∈ gw := gw_of (tb_of 1194 (by decide +kernel)) (by decide +kernel)
theorem kw_1195 : Cond.instanceMethod yX11_lists ∈ gw := gw_of (tb_of 1195 (by decide +kernel)) (by decide +kernel)
theorem kw_1196 : Cond.selects "FootholdWall" yX11_lists yX11_lists ∈ gw := gw_of (tb_of 1196 (by decide +kernel)) (by decide +kernel)
theorem kw_1197 : Cond.code yX11_lists cX11_lists 7 (some (.int)) ∈ gw := gw_of (tb_of 1197 (by decide +kernel)) (by decide +kernel)
theorem kw_1198 : Cond.methodLink "FootholdWallLaw" 175 yX11_image ∈ gw := gw_of (tb_of 1198 (by decide +kernel)) (by decide +kernel)
theorem kw_1199 : Cond.instanceMethod yX11_image ∈ gw := gw_of (tb_of 1199 (by decide +kernel)) (by decide +kernel)
theorem kw_1200 : Cond.selects "FootholdWall" yX11_image yX11_image ∈ gw := gw_of (tb_of 1200 (by decide +kernel)) (by decide +kernel)
theorem kw_1201 : Cond.code yX11_image cX11_image 2 (some (.int)) ∈ gw := gw_of (tb_of 1201 (by decide +kernel)) (by decide +kernel)
theorem kw_1205 : Cond.methodLink "FootholdWallLaw" 179 yX11_restore ∈ gw := gw_of (tb_of 1205 (by decide +kernel)) (by decide +kernel)
theorem kw_1206 : Cond.instanceMethod yX11_restore ∈ gw := gw_of (tb_of 1206 (by decide +kernel)) (by decide +kernel)
theorem kw_1207 : Cond.selects "FootholdWall" yX11_restore yX11_restore ∈ gw := gw_of (tb_of 1207 (by decide +kernel)) (by decide +kernel)
theorem kw_1208 : Cond.code yX11_restore cX11_restore 2 (some (.int)) ∈ gw := gw_of (tb_of 1208 (by decide +kernel)) (by decide +kernel)
theorem kw_1209 : Cond.methodLink "FootholdWallLaw" 183 yX11_count ∈ gw := gw_of (tb_of 1209 (by decide +kernel)) (by decide +kernel)
theorem kw_1210 : Cond.instanceMethod yX11_count ∈ gw := gw_of (tb_of 1210 (by decide +kernel)) (by decide +kernel)
theorem kw_1211 : Cond.selects "FootholdWall" yX11_count yX11_count ∈ gw := gw_of (tb_of 1211 (by decide +kernel)) (by decide +kernel)
theorem kw_1212 : Cond.code yX11_count cX11_count 2 (some (.int)) ∈ gw := gw_of (tb_of 1212 (by decide +kernel)) (by decide +kernel)
theorem kw_1716 : Cond.methodLink "FootholdWallLaw" 143 yX12_whose ∈ gw := gw_of (tb_of 1716 (by decide +kernel)) (by decide +kernel)
theorem kw_1717 : Cond.instanceMethod yX12_whose ∈ gw := gw_of (tb_of 1717 (by decide +kernel)) (by decide +kernel)
theorem kw_1718 : Cond.selects "FootholdWallModel" yX12_whose yX12_whose ∈ gw := gw_of (tb_of 1718 (by decide +kernel)) (by decide +kernel)
theorem kw_1719 : Cond.code yX12_whose cX12_whose 4 (some (.int)) ∈ gw := gw_of (tb_of 1719 (by decide +kernel)) (by decide +kernel)
theorem kw_1740 : Cond.methodLink "FootholdWallLaw" 147 yX12_order ∈ gw := gw_of (tb_of 1740 (by decide +kernel)) (by decide +kernel)
theorem kw_1741 : Cond.instanceMethod yX12_order ∈ gw := gw_of (tb_of 1741 (by decide +kernel)) (by decide +kernel)
theorem kw_1742 : Cond.selects "FootholdWallModel" yX12_order yX12_order ∈ gw := gw_of (tb_of 1742 (by decide +kernel)) (by decide +kernel)
theorem kw_1743 : Cond.code yX12_order cX12_order 11 (some (.int)) ∈ gw := gw_of (tb_of 1743 (by decide +kernel)) (by decide +kernel)
theorem kw_1744 : Cond.methodLink "FootholdWallLaw" 151 yX12_saved ∈ gw := gw_of (tb_of 1744 (by decide +kernel)) (by decide +kernel)
theorem kw_1745 : Cond.instanceMethod yX12_saved ∈ gw := gw_of (tb_of 1745 (by decide +kernel)) (by decide +kernel)
theorem kw_1746 : Cond.selects "FootholdWallModel" yX12_saved yX12_saved ∈ gw := gw_of (tb_of 1746 (by decide +kernel)) (by decide +kernel)
theorem kw_1747 : Cond.code yX12_saved cX12_saved 5 (some (.int)) ∈ gw := gw_of (tb_of 1747 (by decide +kernel)) (by decide +kernel)
theorem kw_1748 : Cond.methodLink "FootholdWallLaw" 155 yX12_leaves ∈ gw := gw_of (tb_of 1748 (by decide +kernel)) (by decide +kernel)
theorem kw_1749 : Cond.instanceMethod yX12_leaves ∈ gw := gw_of (tb_of 1749 (by decide +kernel)) (by decide +kernel)
theorem kw_1750 : Cond.selects "FootholdWallModel" yX12_leaves yX12_leaves ∈ gw := gw_of (tb_of 1750 (by decide +kernel)) (by decide +kernel)
theorem kw_1751 : Cond.code yX12_leaves cX12_leaves 4 (some (.int)) ∈ gw := gw_of (tb_of 1751 (by decide +kernel)) (by decide +kernel)
theorem kw_1752 : Cond.methodLink "FootholdWallLaw" 159 yX12_inTurn ∈ gw := gw_of (tb_of 1752 (by decide +kernel)) (by decide +kernel)
theorem kw_1753 : Cond.instanceMethod yX12_inTurn ∈ gw := gw_of (tb_of 1753 (by decide +kernel)) (by decide +kernel)
theorem kw_1754 : Cond.selects "FootholdWallModel" yX12_inTurn yX12_inTurn ∈ gw := gw_of (tb_of 1754 (by decide +kernel)) (by decide +kernel)
theorem kw_1755 : Cond.code yX12_inTurn cX12_inTurn 3 (some (.int)) ∈ gw := gw_of (tb_of 1755 (by decide +kernel)) (by decide +kernel)
theorem kw_1760 : Cond.methodLink "FootholdWallLaw" 163 yX12_numbers ∈ gw := gw_of (tb_of 1760 (by decide +kernel)) (by decide +kernel)
theorem kw_1761 : Cond.instanceMethod yX12_numbers ∈ gw := gw_of (tb_of 1761 (by decide +kernel)) (by decide +kernel)
theorem kw_1762 : Cond.selects "FootholdWallModel" yX12_numbers yX12_numbers ∈ gw := gw_of (tb_of 1762 (by decide +kernel)) (by decide +kernel)
theorem kw_1763 : Cond.code yX12_numbers cX12_numbers 5 (some (.int)) ∈ gw := gw_of (tb_of 1763 (by decide +kernel)) (by decide +kernel)
theorem kw_1764 : Cond.methodLink "FootholdWallLaw" 170 yX12_write ∈ gw := gw_of (tb_of 1764 (by decide +kernel)) (by decide +kernel)
theorem kw_1765 : Cond.instanceMethod yX12_write ∈ gw := gw_of (tb_of 1765 (by decide +kernel)) (by decide +kernel)
theorem kw_1766 : Cond.selects "FootholdWallModel" yX12_write yX12_write ∈ gw := gw_of (tb_of 1766 (by decide +kernel)) (by decide +kernel)
theorem kw_1767 : Cond.code yX12_write cX12_write 6 (some (.long)) ∈ gw := gw_of (tb_of 1767 (by decide +kernel)) (by decide +kernel)
theorem kw_1772 : Cond.methodLink "FootholdWallLaw" 174 yX12_lists ∈ gw := gw_of (tb_of 1772 (by decide +kernel)) (by decide +kernel)
theorem kw_1773 : Cond.instanceMethod yX12_lists ∈ gw := gw_of (tb_of 1773 (by decide +kernel)) (by decide +kernel)
theorem kw_1774 : Cond.selects "FootholdWallModel" yX12_lists yX12_lists ∈ gw := gw_of (tb_of 1774 (by decide +kernel)) (by decide +kernel)
theorem kw_1775 : Cond.code yX12_lists cX12_lists 6 (some (.int)) ∈ gw := gw_of (tb_of 1775 (by decide +kernel)) (by decide +kernel)
theorem kw_1776 : Cond.methodLink "FootholdWallLaw" 178 yX12_image ∈ gw := gw_of (tb_of 1776 (by decide +kernel)) (by decide +kernel)
theorem kw_1777 : Cond.instanceMethod yX12_image ∈ gw := gw_of (tb_of 1777 (by decide +kernel)) (by decide +kernel)
theorem kw_1778 : Cond.selects "FootholdWallModel" yX12_image yX12_image ∈ gw := gw_of (tb_of 1778 (by decide +kernel)) (by decide +kernel)
theorem kw_1779 : Cond.code yX12_image cX12_image 3 (some (.int)) ∈ gw := gw_of (tb_of 1779 (by decide +kernel)) (by decide +kernel)
theorem kw_1780 : Cond.methodLink "FootholdWallLaw" 182 yX12_restore ∈ gw := gw_of (tb_of 1780 (by decide +kernel)) (by decide +kernel)
theorem kw_1781 : Cond.instanceMethod yX12_restore ∈ gw := gw_of (tb_of 1781 (by decide +kernel)) (by decide +kernel)
theorem kw_1782 : Cond.selects "FootholdWallModel" yX12_restore yX12_restore ∈ gw := gw_of (tb_of 1782 (by decide +kernel)) (by decide +kernel)
theorem kw_1783 : Cond.code yX12_restore cX12_restore 3 (some (.int)) ∈ gw := gw_of (tb_of 1783 (by decide +kernel)) (by decide +kernel)
theorem kw_1784 : Cond.methodLink "FootholdWallLaw" 186 yX12_count ∈ gw := gw_of (tb_of 1784 (by decide +kernel)) (by decide +kernel)
theorem kw_1785 : Cond.instanceMethod yX12_count ∈ gw := gw_of (tb_of 1785 (by decide +kernel)) (by decide +kernel)
theorem kw_1786 : Cond.selects "FootholdWallModel" yX12_count yX12_count ∈ gw := gw_of (tb_of 1786 (by decide +kernel)) (by decide +kernel)
theorem kw_1787 : Cond.code yX12_count cX12_count 2 (some (.int)) ∈ gw := gw_of (tb_of 1787 (by decide +kernel)) (by decide +kernel)
theorem kw_1788 : Cond.constantLong "FootholdWallLaw" 164 4294967295 ∈ gw := gw_of (tb_of 1788 (by decide +kernel)) (by decide +kernel)
