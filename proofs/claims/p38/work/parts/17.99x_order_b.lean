set_option maxHeartbeats 4000000 in
set_option maxRecDepth 100000 in
theorem s_M_order (l : Launch) (D : va_G) (cs : CS) (kf : KF) (T : TF) (O : List Nat) (X : va_W) (a0 hg mq : Nat) (x1 : Int32) (x2 : Int32) (x3 : Int32) (t_a0 : T a0 = some (22, hg, mq)) (b_hg : hg < 90) (hO : okO T O [0, 1, 8, 9, 22]) : TK l D cs kf yX12_order cX12_order 11 (some (.int)) { frames := 6, cells := 0, slots := 0, locals := 144 } [.ref a0, .int x1, .int x2, .int x3] T O X (Ti D cs (fun r u => u = (T, O, X) ∧ -3 ≤ r.toInt ∧ r.toInt ≤ 99)) := by
  refine tk_of (by decide) (Nat.le_of_ble_eq_true rfl) (fun p e s m below meth c ls A H locs hx hb hr hml hown hts hlocks hnm hkb hH hS hA hOX hks hE hl => ?_)
  have hown : s.vm.findClass RX12 = some m.cls := hown
  have hl : lv_has ls 11 [(0, .ref a0), (1, .int x1), (2, .int x2), (3, .int x3)] := hl
  have hO0 := hO
  obtain ⟨fs9, ho9, hH⟩ := hH.take t_a0 (hO0.no t_a0 (by decide))
  have hp0 : okL T (ft12 hg mq) fs9 := ho9
  clear ho9
  obtain ⟨v9, fs9, rfl, h9, hp1⟩ := okL_i hp0
  obtain ⟨q0_0, rfl⟩ := h9
  obtain ⟨v9, fs9, rfl, h9, hp2⟩ := okL_i hp1
  obtain ⟨q0_1, rfl, t_q0_1⟩ := h9
  obtain ⟨v9, fs9, rfl, h9, hp3⟩ := okL_i hp2
  obtain ⟨q0_2, rfl, t_q0_2⟩ := h9
  obtain ⟨v9, fs9, rfl, h9, hp4⟩ := okL_i hp3
  obtain ⟨q0_3, rfl, t_q0_3⟩ := h9
  obtain ⟨v9, fs9, rfl, h9, hp5⟩ := okL_i hp4
  obtain ⟨q0_4, rfl, t_q0_4⟩ := h9
  obtain ⟨v9, fs9, rfl, h9, hp6⟩ := okL_i hp5
  obtain ⟨q0_5, rfl, l_q0_5, u_q0_5⟩ := h9
  obtain ⟨v9, fs9, rfl, h9, hp7⟩ := okL_i hp6
  obtain ⟨q0_6, rfl⟩ := h9
  obtain ⟨v9, fs9, rfl, h9, hp8⟩ := okL_i hp7
  obtain ⟨q0_7, rfl⟩ := h9
  obtain ⟨v9, fs9, rfl, h9, hp9⟩ := okL_i hp8
  obtain ⟨q0_8, rfl⟩ := h9
  obtain ⟨v9, fs9, rfl, h9, hp10⟩ := okL_i hp9
  obtain ⟨q0_9, rfl⟩ := h9
  obtain ⟨v9, fs9, rfl, h9, hp11⟩ := okL_i hp10
  obtain ⟨q0_10, rfl, l_q0_10, u_q0_10⟩ := h9
  obtain ⟨v9, fs9, rfl, h9, hp12⟩ := okL_i hp11
  obtain ⟨q0_11, rfl⟩ := h9
  obtain ⟨v9, fs9, rfl, h9, hp13⟩ := okL_i hp12
  obtain ⟨q0_12, rfl⟩ := h9
  obtain ⟨v9, fs9, rfl, h9, hp14⟩ := okL_i hp13
  obtain ⟨q0_13, rfl⟩ := h9
  obtain ⟨v9, fs9, rfl, h9, hp15⟩ := okL_i hp14
  obtain ⟨q0_14, rfl⟩ := h9
  obtain ⟨v9, fs9, rfl, h9, hp16⟩ := okL_i hp15
  obtain ⟨q0_15, rfl, t_q0_15⟩ := h9
  obtain ⟨v9, fs9, rfl, h9, hp17⟩ := okL_i hp16
  obtain ⟨q0_16, rfl⟩ := h9
  obtain ⟨v9, fs9, rfl, h9, hp18⟩ := okL_i hp17
  obtain ⟨q0_17, rfl, t_q0_17⟩ := h9
  obtain ⟨v9, fs9, rfl, h9, hp19⟩ := okL_i hp18
  obtain ⟨q0_18, rfl, t_q0_18⟩ := h9
  obtain ⟨v9, fs9, rfl, h9, hp20⟩ := okL_i hp19
  obtain ⟨q0_19, rfl, t_q0_19⟩ := h9
  obtain ⟨v9, fs9, rfl, h9, hp21⟩ := okL_i hp20
  obtain ⟨q0_20, rfl, l_q0_20, u_q0_20⟩ := h9
  obtain ⟨v9, fs9, rfl, h9, hp22⟩ := okL_i hp21
  obtain ⟨q0_21, rfl, t_q0_21⟩ := h9
  obtain ⟨v9, fs9, rfl, h9, hp23⟩ := okL_i hp22
  obtain ⟨q0_22, rfl, t_q0_22⟩ := h9
  obtain ⟨v9, fs9, rfl, h9, hp24⟩ := okL_i hp23
  obtain ⟨q0_23, rfl⟩ := h9
  obtain ⟨v9, fs9, rfl, h9, hp25⟩ := okL_i hp24
  obtain ⟨q0_24, rfl⟩ := h9
  obtain ⟨v9, fs9, rfl, h9, hp26⟩ := okL_i hp25
  obtain ⟨q0_25, rfl⟩ := h9
  obtain ⟨v9, fs9, rfl, h9, hp27⟩ := okL_i hp26
  obtain ⟨q0_26, rfl, t_q0_26⟩ := h9
  obtain ⟨v9, fs9, rfl, h9, hp28⟩ := okL_i hp27
  obtain ⟨q0_27, rfl, t_q0_27⟩ := h9
  obtain ⟨v9, fs9, rfl, h9, hp29⟩ := okL_i hp28
  obtain ⟨q0_28, rfl, t_q0_28⟩ := h9
  obtain ⟨v9, fs9, rfl, h9, hp30⟩ := okL_i hp29
  obtain ⟨q0_29, rfl, t_q0_29⟩ := h9
  obtain ⟨v9, fs9, rfl, h9, hp31⟩ := okL_i hp30
  obtain ⟨q0_30, rfl, t_q0_30⟩ := h9
  obtain ⟨v9, fs9, rfl, h9, hp32⟩ := okL_i hp31
  obtain ⟨q0_31, rfl, t_q0_31⟩ := h9
  obtain ⟨v9, fs9, rfl, h9, hp33⟩ := okL_i hp32
  obtain ⟨q0_32, rfl⟩ := h9
  obtain ⟨v9, fs9, rfl, h9, hp34⟩ := okL_i hp33
  obtain ⟨q0_33, rfl, t_q0_33⟩ := h9
  obtain ⟨v9, fs9, rfl, h9, hp35⟩ := okL_i hp34
  obtain ⟨q0_34, rfl, t_q0_34⟩ := h9
  obtain ⟨v9, fs9, rfl, h9, hp36⟩ := okL_i hp35
  obtain ⟨q0_35, rfl, t_q0_35⟩ := h9
  have hpz := okL_z hp36
  subst hpz
  have hH : HT D cs A T (a0 :: O) ((a0, .inr (12, [.int q0_0, .ref q0_1, .ref q0_2, .ref q0_3, .ref q0_4, .int q0_5, .int q0_6, .int q0_7, .int q0_8, .int q0_9, .int q0_10, .int q0_11, .int q0_12, .int q0_13, .int q0_14, .ref q0_15, .int q0_16, .ref q0_17, .ref q0_18, .ref q0_19, .int q0_20, .ref q0_21, .ref q0_22, .int q0_23, .int q0_24, .int q0_25, .ref q0_26, .ref q0_27, .ref q0_28, .ref q0_29, .ref q0_30, .ref q0_31, .int q0_32, .ref q0_33, .ref q0_34, .ref q0_35])) :: X) H := hH
  have hO : okO T (a0 :: O) [0, 1, 8, 9] := okO.cons (hO0.sub (by decide)) t_a0 (by decide)
  obtain ⟨e9, hs9, hH⟩ := HT.takeA hH t_q0_17 (nm_c (tag_ne t_q0_17 t_a0 (fun q => absurd (show 9 = 22 from congrArg Prod.fst q) (by decide))) (hO0.no t_q0_17 (by decide)))
  obtain ⟨f17, rfl, c_f17, -⟩ : ∃ f : Nat → Int32, e9 = .inl (cs.2.1, 14, .inl f) ∧ (14 ≠ 4 → ∀ j, cp 1 (f j)) ∧ (14 = 4 → ∀ j, j < 4 → ((f j).toInt = pvr 1 j ∧ -1 ≤ (f j).toInt ∧ (f j).toInt ≤ 40)) := hs9
  have hO : okO T (q0_17 :: a0 :: O) [1] := okO.cons (hO.sub (by decide)) t_q0_17 (by decide)
  have c_f17 := c_f17 (by decide)
  have hH : HT D cs A T (a0 :: q0_17 :: O) ((a0, .inr (12, [.int q0_0, .ref q0_1, .ref q0_2, .ref q0_3, .ref q0_4, .int q0_5, .int q0_6, .int q0_7, .int q0_8, .int q0_9, .int q0_10, .int q0_11, .int q0_12, .int q0_13, .int q0_14, .ref q0_15, .int q0_16, .ref q0_17, .ref q0_18, .ref q0_19, .int q0_20, .ref q0_21, .ref q0_22, .int q0_23, .int q0_24, .int q0_25, .ref q0_26, .ref q0_27, .ref q0_28, .ref q0_29, .ref q0_30, .ref q0_31, .int q0_32, .ref q0_33, .ref q0_34, .ref q0_35])) :: (q0_17, .inl (cs.2.1, 14, .inl f17)) :: X) H := HT.swap hH
  have hO := okO.swap hO
  obtain ⟨e9, hs9, hH⟩ := HT.takeA hH t_q0_28 (nm_c (tag_ne t_q0_28 t_a0 (fun q => absurd (show 0 = 22 from congrArg Prod.fst q) (by decide))) (nm_c (tag_ne t_q0_28 t_q0_17 (fun q => absurd (show 0 = 9 from congrArg Prod.fst q) (by decide))) (hO0.no t_q0_28 (by decide))))
  obtain ⟨f28, rfl⟩ : ∃ f : Nat → Int32, e9 = .inl (cs.1, 229376, .inl f) := hs9
  have hO : okO T (q0_28 :: a0 :: q0_17 :: O) [1] := okO.cons (hO.sub (by decide)) t_q0_28 (by decide)
  have hH : HT D cs A T (a0 :: q0_28 :: q0_17 :: O) ((a0, .inr (12, [.int q0_0, .ref q0_1, .ref q0_2, .ref q0_3, .ref q0_4, .int q0_5, .int q0_6, .int q0_7, .int q0_8, .int q0_9, .int q0_10, .int q0_11, .int q0_12, .int q0_13, .int q0_14, .ref q0_15, .int q0_16, .ref q0_17, .ref q0_18, .ref q0_19, .int q0_20, .ref q0_21, .ref q0_22, .int q0_23, .int q0_24, .int q0_25, .ref q0_26, .ref q0_27, .ref q0_28, .ref q0_29, .ref q0_30, .ref q0_31, .int q0_32, .ref q0_33, .ref q0_34, .ref q0_35])) :: (q0_28, .inl (cs.1, 229376, .inl f28)) :: (q0_17, .inl (cs.2.1, 14, .inl f17)) :: X) H := HT.swap hH
  have hO := okO.swap hO
  obtain ⟨e9, hs9, hH⟩ := HT.takeA hH t_q0_1 (nm_c (tag_ne t_q0_1 t_a0 (fun q => absurd (show 8 = 22 from congrArg Prod.fst q) (by decide))) (nm_c (tag_ne t_q0_1 t_q0_28 (fun q => absurd (show 8 = 0 from congrArg Prod.fst q) (by decide))) (nm_c (tag_ne t_q0_1 t_q0_17 (fun q => absurd (show 8 = 9 from congrArg Prod.fst q) (by decide))) (hO0.no t_q0_1 (by decide)))))
  obtain ⟨f1, rfl, s_f1, g_f1⟩ : ∃ f : Nat → Int32, e9 = .inl (cs.2.1, 3906, .inl f) ∧ B8 3906 f ∧ (3906 = 3906 → f 1 = nI (hg / 6) ∧ f 2 = nI (hg % 6)) := hs9
  have hO : okO T (q0_1 :: a0 :: q0_28 :: q0_17 :: O) [1] := okO.cons (hO.sub (by decide)) t_q0_1 (by decide)
  have g_f1 := g_f1 rfl
  refine lv_aload_n hx hb dX12_order_0 rfl (lv_at hl 0 rfl) ?_
  refine lv_iconst (v := 0) hx hb dX12_order_1 (by decide) ?_
  refine x_putk (ci := 12) (v := .int 0) (ty := tyX12 0) (C := RX12) (F := TX12) (N := 36) hx hb hts uX12 tyX12 tyX12_ok nmX12 hown hkb hH hS 1 rfl rfl 0 (by decide) kw_1223 (fun _ h9 => h9) rfl (tyX12_ok 0 (by decide)) rfl rfl (Nat.le_of_ble_eq_true rfl) dX12_order_2 (fun H locs hH hS => ?_)
  have hH : HT D cs A T (q0_1 :: a0 :: q0_28 :: q0_17 :: O) ((q0_1, .inl (cs.2.1, 3906, .inl f1)) :: (a0, .inr (12, [.int 0, .ref q0_1, .ref q0_2, .ref q0_3, .ref q0_4, .int q0_5, .int q0_6, .int q0_7, .int q0_8, .int q0_9, .int q0_10, .int q0_11, .int q0_12, .int q0_13, .int q0_14, .ref q0_15, .int q0_16, .ref q0_17, .ref q0_18, .ref q0_19, .int q0_20, .ref q0_21, .ref q0_22, .int q0_23, .int q0_24, .int q0_25, .ref q0_26, .ref q0_27, .ref q0_28, .ref q0_29, .ref q0_30, .ref q0_31, .int q0_32, .ref q0_33, .ref q0_34, .ref q0_35])) :: (q0_28, .inl (cs.1, 229376, .inl f28)) :: (q0_17, .inl (cs.2.1, 14, .inl f17)) :: X) H := hH
  refine lv_aload_n hx hb dX12_order_5 rfl (lv_at hl 0 rfl) ?_
  refine lv_iload_n hx hb dX12_order_6 rfl (lv_at hl 1 rfl) ?_
  refine lv_i2l hx hb dX12_order_7 rfl ?_
  have z9_0 : (0 : Int32).toInt = 0 := by decide
  refine tk_i hH hS hA (tr_V (n := 1) (As := [.long x1.toInt64]) hx hb hml hown hts hkb hH (ox_c (ox_c (ox_c (ox_c hOX)))) hks hE hS hA (s_M_isGuideX l D cs kf T (q0_28 :: q0_17 :: O) ((q0_28, .inl (cs.1, 229376, .inl f28)) :: (q0_17, .inl (cs.2.1, 14, .inl f17)) :: X) a0 hg mq x1.toInt64 f1 (.int 0) q0_1 (.ref q0_2) (.ref q0_3) (.ref q0_4) (.int q0_5) (.int q0_6) (.int q0_7) (.int q0_8) (.int q0_9) (.int q0_10) (.int q0_11) (.int q0_12) (.int q0_13) (.int q0_14) q0_15 q0_16 [.ref q0_17, .ref q0_18, .ref q0_19, .int q0_20, .ref q0_21, .ref q0_22, .int q0_23, .int q0_24, .int q0_25, .ref q0_26, .ref q0_27, .ref q0_28, .ref q0_29, .ref q0_30, .ref q0_31, .int q0_32, .ref q0_33, .ref q0_34, .ref q0_35] t_a0 b_hg s_f1 g_f1 t_q0_1 t_q0_15 (hO.sub (by decide))) kw_1470 kw_1472 ks_67 kw_13 kw_1473 (by decide +kernel) ⟨Nat.le_of_ble_eq_true rfl, Nat.le_of_ble_eq_true rfl⟩ (x_recv (ci := 12) hkb hH 1 rfl rfl) rfl rfl hl.1 (Nat.le_of_ble_eq_true rfl) dX12_order_8 ⟨Nat.le_of_ble_eq_true rfl, Nat.le_of_ble_eq_true rfl⟩) (fun v8 u H locs hz9 hH hS => ?_)
  obtain ⟨rfl, l_v8, u_v8, x_v80⟩ := hz9
  have hH : HT D cs A T (q0_1 :: a0 :: q0_28 :: q0_17 :: O) ((q0_1, .inl (cs.2.1, 3906, .inl f1)) :: (a0, .inr (12, [.int 0, .ref q0_1, .ref q0_2, .ref q0_3, .ref q0_4, .int q0_5, .int q0_6, .int q0_7, .int q0_8, .int q0_9, .int q0_10, .int q0_11, .int q0_12, .int q0_13, .int q0_14, .ref q0_15, .int q0_16, .ref q0_17, .ref q0_18, .ref q0_19, .int q0_20, .ref q0_21, .ref q0_22, .int q0_23, .int q0_24, .int q0_25, .ref q0_26, .ref q0_27, .ref q0_28, .ref q0_29, .ref q0_30, .ref q0_31, .int q0_32, .ref q0_33, .ref q0_34, .ref q0_35])) :: (q0_28, .inl (cs.1, 229376, .inl f28)) :: (q0_17, .inl (cs.2.1, 14, .inl f17)) :: X) H := hH
  refine W.widen (k := 0) (n := 0) (Nat.le_of_ble_eq_true rfl) (Nat.le_of_ble_eq_true rfl) ?_
  have J32 : ∀  (H : Heap) (locs : List Loc) (ls : Array Slot), HT D cs A T (q0_1 :: a0 :: q0_28 :: q0_17 :: O) ((q0_1, .inl (cs.2.1, 3906, .inl f1)) :: (a0, .inr (12, [.int 0, .ref q0_1, .ref q0_2, .ref q0_3, .ref q0_4, .int q0_5, .int q0_6, .int q0_7, .int q0_8, .int q0_9, .int q0_10, .int q0_11, .int q0_12, .int q0_13, .int q0_14, .ref q0_15, .int q0_16, .ref q0_17, .ref q0_18, .ref q0_19, .int q0_20, .ref q0_21, .ref q0_22, .int q0_23, .int q0_24, .int q0_25, .ref q0_26, .ref q0_27, .ref q0_28, .ref q0_29, .ref q0_30, .ref q0_31, .int q0_32, .ref q0_33, .ref q0_34, .ref q0_35])) :: (q0_28, .inl (cs.1, 229376, .inl f28)) :: (q0_17, .inl (cs.2.1, 14, .inl f17)) :: X) H → va_S A s.heap H locs → lv_has ls 11 [] → W p l e { frames := 6, cells := 0, slots := 0, locals := 144 } s m [.ref a0, .int x1, .int x2, .int x3].toArray below meth c H locs 0 0 (MQ below (Ti D cs (fun r u => u = (T, O, X) ∧ -3 ≤ r.toInt ∧ r.toInt ≤ 99) A) [.ref a0, .int x1, .int x2, .int x3].toArray s 0 0 A) (F0 m 32 ls []) := by
    intro  H locs ls  hH hS hl
    refine lv_bipush (v := (-2)) hx hb dX12_order_32 (by decide) ?_
    have hH : HT D cs A T (a0 :: q0_28 :: q0_17 :: O) ((a0, .inr (12, [.int 0, .ref q0_1, .ref q0_2, .ref q0_3, .ref q0_4, .int q0_5, .int q0_6, .int q0_7, .int q0_8, .int q0_9, .int q0_10, .int q0_11, .int q0_12, .int q0_13, .int q0_14, .ref q0_15, .int q0_16, .ref q0_17, .ref q0_18, .ref q0_19, .int q0_20, .ref q0_21, .ref q0_22, .int q0_23, .int q0_24, .int q0_25, .ref q0_26, .ref q0_27, .ref q0_28, .ref q0_29, .ref q0_30, .ref q0_31, .int q0_32, .ref q0_33, .ref q0_34, .ref q0_35])) :: (q0_28, .inl (cs.1, 229376, .inl f28)) :: (q0_17, .inl (cs.2.1, 14, .inl f17)) :: X) H := HT.layA hH t_q0_1 (show sp cs T (8, 3906, hg) _ from ⟨_, rfl, s_f1, fun _ => g_f1⟩)
    have hH : HT D cs A T (q0_28 :: q0_17 :: O) ((q0_28, .inl (cs.1, 229376, .inl f28)) :: (q0_17, .inl (cs.2.1, 14, .inl f17)) :: X) H := HT.lay (ci := 12) hH t_a0 (okL_c (⟨_, rfl⟩) (okL_c (⟨_, rfl, t_q0_1⟩) (okL_c (⟨_, rfl, t_q0_2⟩) (okL_c (⟨_, rfl, t_q0_3⟩) (okL_c (⟨_, rfl, t_q0_4⟩) (okL_c (⟨_, rfl, by omega, by omega⟩) (okL_c (⟨_, rfl⟩) (okL_c (⟨_, rfl⟩) (okL_c (⟨_, rfl⟩) (okL_c (⟨_, rfl⟩) (okL_c (⟨_, rfl, by omega, by omega⟩) (okL_c (⟨_, rfl⟩) (okL_c (⟨_, rfl⟩) (okL_c (⟨_, rfl⟩) (okL_c (⟨_, rfl⟩) (okL_c (⟨_, rfl, t_q0_15⟩) (okL_c (⟨_, rfl⟩) (okL_c (⟨_, rfl, t_q0_17⟩) (okL_c (⟨_, rfl, t_q0_18⟩) (okL_c (⟨_, rfl, t_q0_19⟩) (okL_c (⟨_, rfl, by omega, by omega⟩) (okL_c (⟨_, rfl, t_q0_21⟩) (okL_c (⟨_, rfl, t_q0_22⟩) (okL_c (⟨_, rfl⟩) (okL_c (⟨_, rfl⟩) (okL_c (⟨_, rfl⟩) (okL_c (⟨_, rfl, t_q0_26⟩) (okL_c (⟨_, rfl, t_q0_27⟩) (okL_c (⟨_, rfl, t_q0_28⟩) (okL_c (⟨_, rfl, t_q0_29⟩) (okL_c (⟨_, rfl, t_q0_30⟩) (okL_c (⟨_, rfl, t_q0_31⟩) (okL_c (⟨_, rfl⟩) (okL_c (⟨_, rfl, t_q0_33⟩) (okL_c (⟨_, rfl, t_q0_34⟩) (okL_c (⟨_, rfl, t_q0_35⟩) (okL_n)))))))))))))))))))))))))))))))))))))
    have hO := hO0
    have hH : HT D cs A T (q0_17 :: O) ((q0_17, .inl (cs.2.1, 14, .inl f17)) :: X) H := HT.layA hH t_q0_28 (show sp cs T (0, 229376, 0) _ from ⟨_, rfl⟩)
    have hH : HT D cs A T O X H := HT.layA hH t_q0_17 (show sp cs T (9, 14, 1) _ from ⟨_, rfl, fun _ => c_f17, fun q => absurd q (by decide)⟩)
    have z9_m2 : ((-2) : Int32).toInt = -2 := by decide
    exact te_i hx hb hr hlocks hH hS (⟨rfl, by decide, by decide⟩) dX12_order_34
  simp only [Int32.toInt_toInt64] at x_v80
  refine lv_if_eq (tgt := 32) hx hb dX12_order_11 (by decide) (fun c11 => ?_) (fun c11 => ?_)
  · skip
    have tc11 := f_eq (k := 0) (by decide) c11
    clear x_v80
    exact J32  _ _ _  hH hS (lv_sub hl [] rfl)
  · skip
    have tc11 := f_ne (k := 0) (by decide) c11
    replace x_v80 := x_v80.resolve_left tc11
    refine lv_iload_n hx hb dX12_order_14 rfl (lv_at hl 3 rfl) ?_
    have J35 : ∀  (H : Heap) (locs : List Loc) (ls : Array Slot), (0 ≤ x3.toInt) → (x3.toInt ≤ 23) → HT D cs A T (q0_1 :: a0 :: q0_28 :: q0_17 :: O) ((q0_1, .inl (cs.2.1, 3906, .inl f1)) :: (a0, .inr (12, [.int 0, .ref q0_1, .ref q0_2, .ref q0_3, .ref q0_4, .int q0_5, .int q0_6, .int q0_7, .int q0_8, .int q0_9, .int q0_10, .int q0_11, .int q0_12, .int q0_13, .int q0_14, .ref q0_15, .int q0_16, .ref q0_17, .ref q0_18, .ref q0_19, .int q0_20, .ref q0_21, .ref q0_22, .int q0_23, .int q0_24, .int q0_25, .ref q0_26, .ref q0_27, .ref q0_28, .ref q0_29, .ref q0_30, .ref q0_31, .int q0_32, .ref q0_33, .ref q0_34, .ref q0_35])) :: (q0_28, .inl (cs.1, 229376, .inl f28)) :: (q0_17, .inl (cs.2.1, 14, .inl f17)) :: X) H → va_S A s.heap H locs → lv_has ls 11 [(0, .ref a0), (1, .int x1), (2, .int x2), (3, .int x3)] → W p l e { frames := 6, cells := 0, slots := 0, locals := 144 } s m [.ref a0, .int x1, .int x2, .int x3].toArray below meth c H locs 0 0 (MQ below (Ti D cs (fun r u => u = (T, O, X) ∧ -3 ≤ r.toInt ∧ r.toInt ≤ 99) A) [.ref a0, .int x1, .int x2, .int x3].toArray s 0 0 A) (F0 m 35 ls []) := by
      intro  H locs ls l_x3 u_x3 hH hS hl
      refine lv_aload_n hx hb dX12_order_35 rfl (lv_at hl 0 rfl) ?_
      refine lv_iload_n hx hb dX12_order_36 rfl (lv_at hl 2 rfl) ?_
      have z9_0 : (0 : Int32).toInt = 0 := by decide
      refine tk_i hH hS hA (tr_V (n := 1) (As := [.int x2]) hx hb hml hown hts hkb hH (ox_c (ox_c (ox_c (ox_c hOX)))) hks hE hS hA (s_M_isSetOfX l D cs kf T (q0_28 :: q0_17 :: O) ((q0_28, .inl (cs.1, 229376, .inl f28)) :: (q0_17, .inl (cs.2.1, 14, .inl f17)) :: X) a0 hg mq x2 f1 (.int 0) q0_1 (.ref q0_2) (.ref q0_3) (.ref q0_4) (.int q0_5) (.int q0_6) (.int q0_7) (.int q0_8) (.int q0_9) (.int q0_10) (.int q0_11) (.int q0_12) (.int q0_13) (.int q0_14) q0_15 q0_16 [.ref q0_17, .ref q0_18, .ref q0_19, .int q0_20, .ref q0_21, .ref q0_22, .int q0_23, .int q0_24, .int q0_25, .ref q0_26, .ref q0_27, .ref q0_28, .ref q0_29, .ref q0_30, .ref q0_31, .int q0_32, .ref q0_33, .ref q0_34, .ref q0_35] t_a0 b_hg s_f1 g_f1 t_q0_1 t_q0_15 (hO.sub (by decide))) kw_1720 kw_1722 ks_98 kw_13 kw_1723 (by decide +kernel) ⟨Nat.le_of_ble_eq_true rfl, Nat.le_of_ble_eq_true rfl⟩ (x_recv (ci := 12) hkb hH 1 rfl rfl) rfl rfl hl.1 (Nat.le_of_ble_eq_true rfl) dX12_order_37 ⟨Nat.le_of_ble_eq_true rfl, Nat.le_of_ble_eq_true rfl⟩) (fun v37 u H locs hz9 hH hS => ?_)
      obtain ⟨rfl, l_v37, u_v37, x_v370⟩ := hz9
      have hH : HT D cs A T (q0_1 :: a0 :: q0_28 :: q0_17 :: O) ((q0_1, .inl (cs.2.1, 3906, .inl f1)) :: (a0, .inr (12, [.int 0, .ref q0_1, .ref q0_2, .ref q0_3, .ref q0_4, .int q0_5, .int q0_6, .int q0_7, .int q0_8, .int q0_9, .int q0_10, .int q0_11, .int q0_12, .int q0_13, .int q0_14, .ref q0_15, .int q0_16, .ref q0_17, .ref q0_18, .ref q0_19, .int q0_20, .ref q0_21, .ref q0_22, .int q0_23, .int q0_24, .int q0_25, .ref q0_26, .ref q0_27, .ref q0_28, .ref q0_29, .ref q0_30, .ref q0_31, .int q0_32, .ref q0_33, .ref q0_34, .ref q0_35])) :: (q0_28, .inl (cs.1, 229376, .inl f28)) :: (q0_17, .inl (cs.2.1, 14, .inl f17)) :: X) H := hH
      refine W.widen (k := 0) (n := 0) (Nat.le_of_ble_eq_true rfl) (Nat.le_of_ble_eq_true rfl) ?_
      refine lv_if_ne (tgt := 46) hx hb dX12_order_40 (by decide) (fun c40 => ?_) (fun c40 => ?_)
      · skip
        have tc40 := f_ne (k := 0) (by decide) c40
        replace x_v370 := x_v370.resolve_left tc40
        refine lv_aload_n hx hb dX12_order_46 rfl (lv_at hl 0 rfl) ?_
        refine lv_iload_n hx hb dX12_order_47 rfl (lv_at hl 1 rfl) ?_
        refine lv_iload_n hx hb dX12_order_48 rfl (lv_at hl 2 rfl) ?_
        have z9_0 : (0 : Int32).toInt = 0 := by decide
        refine tk_i hH hS hA (tr_V (n := 2) (As := [.int x1, .int x2]) hx hb hml hown hts hkb hH (ox_c (ox_c (ox_c (ox_c hOX)))) hks hE hS hA (s_M_laysWhoseX l D cs kf T O X a0 hg mq x1 x2 f1 (.int 0) q0_1 (.ref q0_2) (.ref q0_3) (.ref q0_4) (.int q0_5) (.int q0_6) (.int q0_7) (.int q0_8) (.int q0_9) (.int q0_10) (.int q0_11) (.int q0_12) (.int q0_13) (.int q0_14) q0_15 q0_16 q0_17 (.ref q0_18) (.ref q0_19) (.int q0_20) (.ref q0_21) (.ref q0_22) (.int q0_23) (.int q0_24) (.int q0_25) (.ref q0_26) (.ref q0_27) q0_28 [.ref q0_29, .ref q0_30, .ref q0_31, .int q0_32, .ref q0_33, .ref q0_34, .ref q0_35] f28 f17 t_a0 b_hg (by omega) (by omega) (by omega) (by omega) s_f1 g_f1 t_q0_1 t_q0_15 t_q0_17 t_q0_28 c_f17 (hO.sub (by decide))) kw_1728 kw_1730 ks_100 kw_13 kw_1731 (by decide +kernel) ⟨Nat.le_of_ble_eq_true rfl, Nat.le_of_ble_eq_true rfl⟩ (x_recv (ci := 12) hkb hH 1 rfl rfl) rfl rfl hl.1 (Nat.le_of_ble_eq_true rfl) dX12_order_49 ⟨Nat.le_of_ble_eq_true rfl, Nat.le_of_ble_eq_true rfl⟩) (fun v49 u H locs hz9 hH hS => ?_)
        obtain ⟨n49_1_16, F49_2, F49_3, rfl, l_v49, u_v49, x_v490, x_v491, x_v492⟩ := hz9
        have c_F49_3 := x_v492
        have hH : HT D cs A T (q0_1 :: a0 :: q0_28 :: q0_17 :: O) ((q0_1, .inl (cs.2.1, 3906, .inl f1)) :: (a0, .inr (12, [.int 0, .ref q0_1, .ref q0_2, .ref q0_3, .ref q0_4, .int q0_5, .int q0_6, .int q0_7, .int q0_8, .int q0_9, .int q0_10, .int q0_11, .int q0_12, .int q0_13, .int q0_14, .ref q0_15, .int n49_1_16, .ref q0_17, .ref q0_18, .ref q0_19, .int q0_20, .ref q0_21, .ref q0_22, .int q0_23, .int q0_24, .int q0_25, .ref q0_26, .ref q0_27, .ref q0_28, .ref q0_29, .ref q0_30, .ref q0_31, .int q0_32, .ref q0_33, .ref q0_34, .ref q0_35])) :: (q0_28, .inl (cs.1, 229376, .inl F49_2)) :: (q0_17, .inl (cs.2.1, 14, .inl F49_3)) :: X) H := hH
        refine W.widen (k := 0) (n := 0) (Nat.le_of_ble_eq_true rfl) (Nat.le_of_ble_eq_true rfl) ?_
        refine lv_istore (lv' := [(4, .int v49), (0, .ref a0), (1, .int x1), (2, .int x2), (3, .int x3)]) hx hb dX12_order_52 hl (by decide) rfl (fun ls hl => ?_)
        refine lv_iload hx hb dX12_order_54 (lv_at hl 0 rfl) ?_
        refine lv_iconst (v := (-1)) hx hb dX12_order_56 (by decide) ?_
        refine lv_icmp_ne (tgt := 62) hx hb dX12_order_57 (by decide) (fun c57 => ?_) (fun c57 => ?_)
        · skip
          have tc57 := f_ne (k := -1) (by decide) c57
          refine lv_iload_n hx hb dX12_order_62 rfl (lv_at hl 3 rfl) ?_
          refine lv_aload_n hx hb dX12_order_63 rfl (lv_at hl 1 rfl) ?_
          have z9_0 : (0 : Int32).toInt = 0 := by decide
          refine tk_i hH hS hA (tr_V (n := 0) (As := []) hx hb hml hown hts hkb hH (ox_c (ox_c (ox_c (ox_c hOX)))) hks hE hS hA (s_M_thereSetF l D cs kf T (q0_28 :: q0_17 :: O) ((q0_28, .inl (cs.1, 229376, .inl F49_2)) :: (q0_17, .inl (cs.2.1, 14, .inl F49_3)) :: X) a0 hg mq f1 (.int 0) q0_1 (.ref q0_2) (.ref q0_3) (.ref q0_4) (.int q0_5) (.int q0_6) (.int q0_7) (.int q0_8) (.int q0_9) (.int q0_10) (.int q0_11) (.int q0_12) (.int q0_13) (.int q0_14) q0_15 n49_1_16 [.ref q0_17, .ref q0_18, .ref q0_19, .int q0_20, .ref q0_21, .ref q0_22, .int q0_23, .int q0_24, .int q0_25, .ref q0_26, .ref q0_27, .ref q0_28, .ref q0_29, .ref q0_30, .ref q0_31, .int q0_32, .ref q0_33, .ref q0_34, .ref q0_35] t_a0 b_hg s_f1 g_f1 t_q0_1 t_q0_15 (hO.sub (by decide))) kw_1724 kw_1726 ks_99 kw_13 kw_1727 (by decide +kernel) ⟨Nat.le_of_ble_eq_true rfl, Nat.le_of_ble_eq_true rfl⟩ (x_recv (ci := 12) hkb hH 1 rfl rfl) rfl rfl hl.1 (Nat.le_of_ble_eq_true rfl) dX12_order_64 ⟨Nat.le_of_ble_eq_true rfl, Nat.le_of_ble_eq_true rfl⟩) (fun v64 u H locs hz9 hH hS => ?_)
          obtain ⟨rfl, l_v64, u_v64, x_v640⟩ := hz9
          have hH : HT D cs A T (q0_1 :: a0 :: q0_28 :: q0_17 :: O) ((q0_1, .inl (cs.2.1, 3906, .inl f1)) :: (a0, .inr (12, [.int 0, .ref q0_1, .ref q0_2, .ref q0_3, .ref q0_4, .int q0_5, .int q0_6, .int q0_7, .int q0_8, .int q0_9, .int q0_10, .int q0_11, .int q0_12, .int q0_13, .int q0_14, .ref q0_15, .int n49_1_16, .ref q0_17, .ref q0_18, .ref q0_19, .int q0_20, .ref q0_21, .ref q0_22, .int q0_23, .int q0_24, .int q0_25, .ref q0_26, .ref q0_27, .ref q0_28, .ref q0_29, .ref q0_30, .ref q0_31, .int q0_32, .ref q0_33, .ref q0_34, .ref q0_35])) :: (q0_28, .inl (cs.1, 229376, .inl F49_2)) :: (q0_17, .inl (cs.2.1, 14, .inl F49_3)) :: X) H := hH
          refine W.widen (k := 0) (n := 0) (Nat.le_of_ble_eq_true rfl) (Nat.le_of_ble_eq_true rfl) ?_
          refine lv_aload_n hx hb dX12_order_67 rfl (lv_at hl 1 rfl) ?_
          have z9_0 : (0 : Int32).toInt = 0 := by decide
          refine tk_i hH hS hA (tr_V (n := 0) (As := []) hx hb hml hown hts hkb hH (ox_c (ox_c (ox_c (ox_c hOX)))) hks hE hS hA (s_M_endsF l D cs kf T (q0_28 :: q0_17 :: O) ((q0_28, .inl (cs.1, 229376, .inl F49_2)) :: (q0_17, .inl (cs.2.1, 14, .inl F49_3)) :: X) a0 hg mq f1 (.int 0) q0_1 (.ref q0_2) (.ref q0_3) (.ref q0_4) (.int q0_5) (.int q0_6) (.int q0_7) (.int q0_8) (.int q0_9) (.int q0_10) (.int q0_11) (.int q0_12) (.int q0_13) (.int q0_14) q0_15 n49_1_16 [.ref q0_17, .ref q0_18, .ref q0_19, .int q0_20, .ref q0_21, .ref q0_22, .int q0_23, .int q0_24, .int q0_25, .ref q0_26, .ref q0_27, .ref q0_28, .ref q0_29, .ref q0_30, .ref q0_31, .int q0_32, .ref q0_33, .ref q0_34, .ref q0_35] t_a0 b_hg s_f1 g_f1 t_q0_1 t_q0_15 (hO.sub (by decide))) kw_1536 kw_1538 ks_78 kw_13 kw_1539 (by decide +kernel) ⟨Nat.le_of_ble_eq_true rfl, Nat.le_of_ble_eq_true rfl⟩ (x_recv (ci := 12) hkb hH 1 rfl rfl) rfl rfl hl.1 (Nat.le_of_ble_eq_true rfl) dX12_order_68 ⟨Nat.le_of_ble_eq_true rfl, Nat.le_of_ble_eq_true rfl⟩) (fun v68 u H locs hz9 hH hS => ?_)
          obtain ⟨rfl, l_v68, u_v68, x_v680⟩ := hz9
          have hH : HT D cs A T (q0_1 :: a0 :: q0_28 :: q0_17 :: O) ((q0_1, .inl (cs.2.1, 3906, .inl f1)) :: (a0, .inr (12, [.int 0, .ref q0_1, .ref q0_2, .ref q0_3, .ref q0_4, .int q0_5, .int q0_6, .int q0_7, .int q0_8, .int q0_9, .int q0_10, .int q0_11, .int q0_12, .int q0_13, .int q0_14, .ref q0_15, .int n49_1_16, .ref q0_17, .ref q0_18, .ref q0_19, .int q0_20, .ref q0_21, .ref q0_22, .int q0_23, .int q0_24, .int q0_25, .ref q0_26, .ref q0_27, .ref q0_28, .ref q0_29, .ref q0_30, .ref q0_31, .int q0_32, .ref q0_33, .ref q0_34, .ref q0_35])) :: (q0_28, .inl (cs.1, 229376, .inl F49_2)) :: (q0_17, .inl (cs.2.1, 14, .inl F49_3)) :: X) H := hH
          refine W.widen (k := 0) (n := 0) (Nat.le_of_ble_eq_true rfl) (Nat.le_of_ble_eq_true rfl) ?_
          refine lv_iand hx hb dX12_order_71 ?_
          refine lv_topi (fun v71 ev71 => ?_)
          have tv71 : 0 ≤ v71.toInt ∧ v71.toInt ≤ v64.toInt := by rw [ev71]; exact and_l (by omega)
          have ttv71 : 0 ≤ v71.toInt ∧ v71.toInt ≤ v68.toInt := by rw [ev71]; exact and_r (by omega)
          refine lv_ior hx hb dX12_order_72 ?_
          refine lv_topi (fun v72 ev72 => ?_)
          have tv72 : 0 ≤ v72.toInt ∧ v72.toInt < 16384 := by rw [ev72]; exact or_b 14 (by decide) (by omega) (by omega) (by omega) (by omega)
          refine lv_istore (lv' := [(5, .int v72), (4, .int v49), (0, .ref a0), (1, .int x1), (2, .int x2), (3, .int x3)]) hx hb dX12_order_73 hl (by decide) rfl (fun ls hl => ?_)
          have h72 : v72 = (x2 ||| (thS f1 (hg / 6) &&& (f1 4 ||| f1 5))) := by rw [ev72, ev71, x_v640, x_v680]
          refine lv_iconst (v := 1) hx hb dX12_order_75 (by decide) ?_
          refine lv_iload hx hb dX12_order_76 (lv_at hl 1 rfl) ?_
          refine lv_ishl hx hb dX12_order_78 ?_
          refine lv_topi (fun v78 ev78 => ?_)
          have tv78 : 1 ≤ v78.toInt ∧ v78.toInt ≤ 8192 := by rw [ev78]; exact shl_b 13 (by decide) (by omega) (by omega)
          refine lv_istore (lv' := [(6, .int v78), (5, .int v72), (4, .int v49), (0, .ref a0), (1, .int x1), (2, .int x2), (3, .int x3)]) hx hb dX12_order_79 hl (by decide) rfl (fun ls hl => ?_)
          refine lv_aload_n hx hb dX12_order_81 rfl (lv_at hl 3 rfl) ?_
          refine lv_iload hx hb dX12_order_82 (lv_at hl 0 rfl) ?_
          refine lv_iload hx hb dX12_order_84 (lv_at hl 2 rfl) ?_
          have z9_0 : (0 : Int32).toInt = 0 := by decide
          refine tk_i hH hS hA (tr_V (n := 2) (As := [.int v78, .int v49]) hx hb hml hown hts hkb hH (ox_c (ox_c (ox_c (ox_c hOX)))) hks hE hS hA (s_M_moreByX l D cs kf T O X a0 hg mq v78 v49 f1 (.int 0) q0_1 (.ref q0_2) (.ref q0_3) (.ref q0_4) (.int q0_5) (.int q0_6) (.int q0_7) (.int q0_8) (.int q0_9) (.int q0_10) (.int q0_11) (.int q0_12) (.int q0_13) (.int q0_14) q0_15 n49_1_16 q0_17 (.ref q0_18) (.ref q0_19) (.int q0_20) (.ref q0_21) (.ref q0_22) (.int q0_23) (.int q0_24) (.int q0_25) (.ref q0_26) (.ref q0_27) q0_28 [.ref q0_29, .ref q0_30, .ref q0_31, .int q0_32, .ref q0_33, .ref q0_34, .ref q0_35] F49_2 F49_3 t_a0 b_hg (by omega) (by omega) (by omega) (by omega) s_f1 g_f1 t_q0_1 t_q0_15 t_q0_17 t_q0_28 (hO.sub (by decide))) kw_1736 kw_1738 ks_102 kw_13 kw_1739 (by decide +kernel) ⟨Nat.le_of_ble_eq_true rfl, Nat.le_of_ble_eq_true rfl⟩ (x_recv (ci := 12) hkb hH 1 rfl rfl) rfl rfl hl.1 (Nat.le_of_ble_eq_true rfl) dX12_order_86 ⟨Nat.le_of_ble_eq_true rfl, Nat.le_of_ble_eq_true rfl⟩) (fun v86 u H locs hz9 hH hS => ?_)
          obtain ⟨rfl, x_v860⟩ := hz9
          have hH : HT D cs A T (q0_1 :: a0 :: q0_28 :: q0_17 :: O) ((q0_1, .inl (cs.2.1, 3906, .inl f1)) :: (a0, .inr (12, [.int 0, .ref q0_1, .ref q0_2, .ref q0_3, .ref q0_4, .int q0_5, .int q0_6, .int q0_7, .int q0_8, .int q0_9, .int q0_10, .int q0_11, .int q0_12, .int q0_13, .int q0_14, .ref q0_15, .int n49_1_16, .ref q0_17, .ref q0_18, .ref q0_19, .int q0_20, .ref q0_21, .ref q0_22, .int q0_23, .int q0_24, .int q0_25, .ref q0_26, .ref q0_27, .ref q0_28, .ref q0_29, .ref q0_30, .ref q0_31, .int q0_32, .ref q0_33, .ref q0_34, .ref q0_35])) :: (q0_28, .inl (cs.1, 229376, .inl F49_2)) :: (q0_17, .inl (cs.2.1, 14, .inl F49_3)) :: X) H := hH
          refine W.widen (k := 0) (n := 0) (Nat.le_of_ble_eq_true rfl) (Nat.le_of_ble_eq_true rfl) ?_
          have q86 := LOx_0 (x := v72) (v := v86) (by rw [h72]; exact x_v490) tc57 (by omega) ev78 x_v860
          have w9 : WS (hg / 6) v72.toInt.toNat F49_3 F49_2 0 := by rw [h72]; exact x_v491
          have b86 := LOx.b w9 q86 (by omega)
          refine lv_iconst (v := 1) hx hb dX12_order_89 (by decide) ?_
          refine lv_iadd hx hb dX12_order_90 ?_
          refine lv_topi (fun v90 ev90 => ?_)
          have tv90 : v90.toInt = v86.toInt + (1) := by rw [ev90]; exact add_i rfl (by decide : (1 : Int32).toInt = 1) (by omega) (by omega)
          refine lv_istore (lv' := [(7, .int v90), (6, .int v78), (5, .int v72), (4, .int v49), (0, .ref a0), (1, .int x1), (2, .int x2), (3, .int x3)]) hx hb dX12_order_91 hl (by decide) rfl (fun ls hl => ?_)
          refine lv_iload_n hx hb dX12_order_93 rfl (lv_at hl 7 rfl) ?_
          refine lv_if_ne (tgt := 100) hx hb dX12_order_94 (by decide) (fun c94 => ?_) (fun c94 => ?_)
          · skip
            have tc94 := f_ne (k := 0) (by decide) c94
            refine lv_iload_n hx hb dX12_order_100 rfl (lv_at hl 7 rfl) ?_
            refine lv_bipush (v := 10) hx hb dX12_order_101 (by decide) ?_
            refine lv_isub hx hb dX12_order_103 ?_
            refine lv_topi (fun v103 ev103 => ?_)
            have tv103 : v103.toInt = x3.toInt - (10) := by rw [ev103]; exact sub_i rfl (by decide : (10 : Int32).toInt = 10) (by omega) (by omega)
            refine lv_iload hx hb dX12_order_104 (lv_at hl 0 rfl) ?_
            refine lv_icmp_lt (tgt := 111) hx hb dX12_order_106 (by decide) (fun c106 => ?_) (fun c106 => ?_)
            · skip
              have fuc106 := full_i v103
              have fvc106 := full_i v90
              have tc106 := g_lt c106
              refine lv_iconst (v := 0) hx hb dX12_order_111 (by decide) ?_
              have J114 : ∀ (n : Nat) (p114_8 : Int32) (p114_6 : Int32) (p114_4 : Int32) (H : Heap) (locs : List Loc) (ls : Array Slot), (13 - p114_8.toInt).toNat = n → (0 ≤ p114_8.toInt) → (p114_8.toInt ≤ 13) → (0 ≤ p114_6.toInt) → (p114_6.toInt ≤ 16383) → (0 ≤ p114_4.toInt) → (p114_4.toInt ≤ 13) → (LOx hg v72 F49_2 p114_4 p114_6 (v86.toInt - p114_8.toInt)) → HT D cs A T (q0_1 :: a0 :: q0_28 :: q0_17 :: O) ((q0_1, .inl (cs.2.1, 3906, .inl f1)) :: (a0, .inr (12, [.int 0, .ref q0_1, .ref q0_2, .ref q0_3, .ref q0_4, .int q0_5, .int q0_6, .int q0_7, .int q0_8, .int q0_9, .int q0_10, .int q0_11, .int q0_12, .int q0_13, .int q0_14, .ref q0_15, .int n49_1_16, .ref q0_17, .ref q0_18, .ref q0_19, .int q0_20, .ref q0_21, .ref q0_22, .int q0_23, .int q0_24, .int q0_25, .ref q0_26, .ref q0_27, .ref q0_28, .ref q0_29, .ref q0_30, .ref q0_31, .int q0_32, .ref q0_33, .ref q0_34, .ref q0_35])) :: (q0_28, .inl (cs.1, 229376, .inl F49_2)) :: (q0_17, .inl (cs.2.1, 14, .inl F49_3)) :: X) H → va_S A s.heap H locs → lv_has ls 11 [(8, .int p114_8), (6, .int p114_6), (5, .int v72), (4, .int p114_4), (0, .ref a0), (3, .int x3)] → W p l e { frames := 6, cells := 0, slots := 0, locals := 144 } s m [.ref a0, .int x1, .int x2, .int x3].toArray below meth c H locs 0 0 (MQ below (Ti D cs (fun r u => u = (T, O, X) ∧ -3 ≤ r.toInt ∧ r.toInt ≤ 99) A) [.ref a0, .int x1, .int x2, .int x3].toArray s 0 0 A) (F0 m 114 ls []) := by
                intro n
                induction n using Nat.strongRecOn with
                | _ n ih114 =>
                  intro p114_8 p114_6 p114_4 H locs ls hm114 l_p114_8 u_p114_8 l_p114_6 u_p114_6 l_p114_4 u_p114_4 i114 hH hS hl
                  refine lv_iload hx hb dX12_order_114 (lv_at hl 0 rfl) ?_
                  refine lv_iload_n hx hb dX12_order_116 rfl (lv_at hl 5 rfl) ?_
                  refine lv_bipush (v := 10) hx hb dX12_order_117 (by decide) ?_
                  refine lv_isub hx hb dX12_order_119 ?_
                  refine lv_topi (fun v119 ev119 => ?_)
                  have tv119 : v119.toInt = x3.toInt - (10) := by rw [ev119]; exact sub_i rfl (by decide : (10 : Int32).toInt = 10) (by omega) (by omega)
                  refine lv_icmp_ge (tgt := 205) hx hb dX12_order_120 (by decide) (fun c120 => ?_) (fun c120 => ?_)
                  · skip
                    have fuc120 := full_i p114_8
                    have fvc120 := full_i v119
                    have tc120 := g_le c120
                    refine lv_iload hx hb dX12_order_205 (lv_at hl 3 rfl) ?_
                    have hH : HT D cs A T (a0 :: q0_28 :: q0_17 :: O) ((a0, .inr (12, [.int 0, .ref q0_1, .ref q0_2, .ref q0_3, .ref q0_4, .int q0_5, .int q0_6, .int q0_7, .int q0_8, .int q0_9, .int q0_10, .int q0_11, .int q0_12, .int q0_13, .int q0_14, .ref q0_15, .int n49_1_16, .ref q0_17, .ref q0_18, .ref q0_19, .int q0_20, .ref q0_21, .ref q0_22, .int q0_23, .int q0_24, .int q0_25, .ref q0_26, .ref q0_27, .ref q0_28, .ref q0_29, .ref q0_30, .ref q0_31, .int q0_32, .ref q0_33, .ref q0_34, .ref q0_35])) :: (q0_28, .inl (cs.1, 229376, .inl F49_2)) :: (q0_17, .inl (cs.2.1, 14, .inl F49_3)) :: X) H := HT.layA hH t_q0_1 (show sp cs T (8, 3906, hg) _ from ⟨_, rfl, s_f1, fun _ => g_f1⟩)
                    have hH : HT D cs A T (q0_28 :: q0_17 :: O) ((q0_28, .inl (cs.1, 229376, .inl F49_2)) :: (q0_17, .inl (cs.2.1, 14, .inl F49_3)) :: X) H := HT.lay (ci := 12) hH t_a0 (okL_c (⟨_, rfl⟩) (okL_c (⟨_, rfl, t_q0_1⟩) (okL_c (⟨_, rfl, t_q0_2⟩) (okL_c (⟨_, rfl, t_q0_3⟩) (okL_c (⟨_, rfl, t_q0_4⟩) (okL_c (⟨_, rfl, by omega, by omega⟩) (okL_c (⟨_, rfl⟩) (okL_c (⟨_, rfl⟩) (okL_c (⟨_, rfl⟩) (okL_c (⟨_, rfl⟩) (okL_c (⟨_, rfl, by omega, by omega⟩) (okL_c (⟨_, rfl⟩) (okL_c (⟨_, rfl⟩) (okL_c (⟨_, rfl⟩) (okL_c (⟨_, rfl⟩) (okL_c (⟨_, rfl, t_q0_15⟩) (okL_c (⟨_, rfl⟩) (okL_c (⟨_, rfl, t_q0_17⟩) (okL_c (⟨_, rfl, t_q0_18⟩) (okL_c (⟨_, rfl, t_q0_19⟩) (okL_c (⟨_, rfl, by omega, by omega⟩) (okL_c (⟨_, rfl, t_q0_21⟩) (okL_c (⟨_, rfl, t_q0_22⟩) (okL_c (⟨_, rfl⟩) (okL_c (⟨_, rfl⟩) (okL_c (⟨_, rfl⟩) (okL_c (⟨_, rfl, t_q0_26⟩) (okL_c (⟨_, rfl, t_q0_27⟩) (okL_c (⟨_, rfl, t_q0_28⟩) (okL_c (⟨_, rfl, t_q0_29⟩) (okL_c (⟨_, rfl, t_q0_30⟩) (okL_c (⟨_, rfl, t_q0_31⟩) (okL_c (⟨_, rfl⟩) (okL_c (⟨_, rfl, t_q0_33⟩) (okL_c (⟨_, rfl, t_q0_34⟩) (okL_c (⟨_, rfl, t_q0_35⟩) (okL_n)))))))))))))))))))))))))))))))))))))
                    have hO := hO0
                    have hH : HT D cs A T (q0_17 :: O) ((q0_17, .inl (cs.2.1, 14, .inl F49_3)) :: X) H := HT.layA hH t_q0_28 (show sp cs T (0, 229376, 0) _ from ⟨_, rfl⟩)
                    have hH : HT D cs A T O X H := HT.layA hH t_q0_17 (show sp cs T (9, 14, 1) _ from ⟨_, rfl, fun _ => c_F49_3, fun q => absurd q (by decide)⟩)
                    exact te_i hx hb hr hlocks hH hS (⟨rfl, by omega, by omega⟩) dX12_order_207
                  · skip
                    have fuc120 := full_i p114_8
                    have fvc120 := full_i v119
                    have tc120 := g_nle c120
                    refine lv_aload_n hx hb dX12_order_123 rfl (lv_at hl 4 rfl) ?_
                    refine lv_iload hx hb dX12_order_124 (lv_at hl 1 rfl) ?_
                    refine lv_iload hx hb dX12_order_126 (lv_at hl 3 rfl) ?_
                    have z9_0 : (0 : Int32).toInt = 0 := by decide
                    refine tk_i hH hS hA (tr_V (n := 2) (As := [.int p114_6, .int p114_4]) hx hb hml hown hts hkb hH (ox_c (ox_c (ox_c (ox_c hOX)))) hks hE hS hA (s_M_moreByX l D cs kf T O X a0 hg mq p114_6 p114_4 f1 (.int 0) q0_1 (.ref q0_2) (.ref q0_3) (.ref q0_4) (.int q0_5) (.int q0_6) (.int q0_7) (.int q0_8) (.int q0_9) (.int q0_10) (.int q0_11) (.int q0_12) (.int q0_13) (.int q0_14) q0_15 n49_1_16 q0_17 (.ref q0_18) (.ref q0_19) (.int q0_20) (.ref q0_21) (.ref q0_22) (.int q0_23) (.int q0_24) (.int q0_25) (.ref q0_26) (.ref q0_27) q0_28 [.ref q0_29, .ref q0_30, .ref q0_31, .int q0_32, .ref q0_33, .ref q0_34, .ref q0_35] F49_2 F49_3 t_a0 b_hg (by omega) (by omega) (by omega) (by omega) s_f1 g_f1 t_q0_1 t_q0_15 t_q0_17 t_q0_28 (hO.sub (by decide))) kw_1736 kw_1738 ks_102 kw_13 kw_1739 (by decide +kernel) ⟨Nat.le_of_ble_eq_true rfl, Nat.le_of_ble_eq_true rfl⟩ (x_recv (ci := 12) hkb hH 1 rfl rfl) rfl rfl hl.1 (Nat.le_of_ble_eq_true rfl) dX12_order_128 ⟨Nat.le_of_ble_eq_true rfl, Nat.le_of_ble_eq_true rfl⟩) (fun v128 u H locs hz9 hH hS => ?_)
                    obtain ⟨rfl, x_v1280⟩ := hz9
                    have hH : HT D cs A T (q0_1 :: a0 :: q0_28 :: q0_17 :: O) ((q0_1, .inl (cs.2.1, 3906, .inl f1)) :: (a0, .inr (12, [.int 0, .ref q0_1, .ref q0_2, .ref q0_3, .ref q0_4, .int q0_5, .int q0_6, .int q0_7, .int q0_8, .int q0_9, .int q0_10, .int q0_11, .int q0_12, .int q0_13, .int q0_14, .ref q0_15, .int n49_1_16, .ref q0_17, .ref q0_18, .ref q0_19, .int q0_20, .ref q0_21, .ref q0_22, .int q0_23, .int q0_24, .int q0_25, .ref q0_26, .ref q0_27, .ref q0_28, .ref q0_29, .ref q0_30, .ref q0_31, .int q0_32, .ref q0_33, .ref q0_34, .ref q0_35])) :: (q0_28, .inl (cs.1, 229376, .inl F49_2)) :: (q0_17, .inl (cs.2.1, 14, .inl F49_3)) :: X) H := hH
                    refine W.widen (k := 0) (n := 0) (Nat.le_of_ble_eq_true rfl) (Nat.le_of_ble_eq_true rfl) ?_
                    have e128 : v128.toInt = v86.toInt - p114_8.toInt := by rw [x_v1280]; exact i114.2.2.2.2.1
                    have b128 : 1 ≤ v128.toInt ∧ v128.toInt ≤ 98 := by omega
                    refine lv_iconst (v := 1) hx hb dX12_order_131 (by decide) ?_
                    refine lv_isub hx hb dX12_order_132 ?_
                    refine lv_topi (fun v132 ev132 => ?_)
                    have tv132 : v132.toInt = v128.toInt - (1) := by rw [ev132]; exact sub_i rfl (by decide : (1 : Int32).toInt = 1) (by omega) (by omega)
                    refine lv_istore (lv' := [(9, .int v132), (8, .int p114_8), (6, .int p114_6), (5, .int v72), (4, .int p114_4), (0, .ref a0), (3, .int x3)]) hx hb dX12_order_133 hl (by decide) rfl (fun ls hl => ?_)
                    refine lv_iconst (v := 0) hx hb dX12_order_135 (by decide) ?_
                    have J138 : ∀ (n : Nat) (p138_10 : Int32) (H : Heap) (locs : List Loc) (ls : Array Slot), (14 - p138_10.toInt).toNat = n → (0 ≤ p138_10.toInt) → (p138_10.toInt ≤ 13) → (LPx hg v72 F49_3 F49_2 p114_4 p114_6 v132.toInt p138_10.toInt.toNat) → HT D cs A T (q0_1 :: a0 :: q0_28 :: q0_17 :: O) ((q0_1, .inl (cs.2.1, 3906, .inl f1)) :: (a0, .inr (12, [.int 0, .ref q0_1, .ref q0_2, .ref q0_3, .ref q0_4, .int q0_5, .int q0_6, .int q0_7, .int q0_8, .int q0_9, .int q0_10, .int q0_11, .int q0_12, .int q0_13, .int q0_14, .ref q0_15, .int n49_1_16, .ref q0_17, .ref q0_18, .ref q0_19, .int q0_20, .ref q0_21, .ref q0_22, .int q0_23, .int q0_24, .int q0_25, .ref q0_26, .ref q0_27, .ref q0_28, .ref q0_29, .ref q0_30, .ref q0_31, .int q0_32, .ref q0_33, .ref q0_34, .ref q0_35])) :: (q0_28, .inl (cs.1, 229376, .inl F49_2)) :: (q0_17, .inl (cs.2.1, 14, .inl F49_3)) :: X) H → va_S A s.heap H locs → lv_has ls 11 [(10, .int p138_10), (9, .int v132), (8, .int p114_8), (6, .int p114_6), (5, .int v72), (4, .int p114_4), (0, .ref a0), (3, .int x3)] → W p l e { frames := 6, cells := 0, slots := 0, locals := 144 } s m [.ref a0, .int x1, .int x2, .int x3].toArray below meth c H locs 0 0 (MQ below (Ti D cs (fun r u => u = (T, O, X) ∧ -3 ≤ r.toInt ∧ r.toInt ≤ 99) A) [.ref a0, .int x1, .int x2, .int x3].toArray s 0 0 A) (F0 m 138 ls []) := by
                      intro n
                      induction n using Nat.strongRecOn with
                      | _ n ih138 =>
                        intro p138_10 H locs ls hm138 l_p138_10 u_p138_10 i138 hH hS hl
                        refine lv_aload_n hx hb dX12_order_138 rfl (lv_at hl 6 rfl) ?_
                        refine x_getk (ci := 12) (C := RX12) (F := TX12) (N := 36) (v := .ref q0_17) hx hb hts uX12 hown hkb hH 1 rfl rfl 17 (by decide) rfl kw_1240 (fun _ h9 => h9) dX12_order_139 ?_
                        refine lv_iload hx hb dX12_order_142 (lv_at hl 5 rfl) ?_
                        refine xa_ild hx hb hkb hH 3 rfl (by omega) (by omega) dX12_order_144 ?_
                        refine lv_topi (fun v144 ev144 => ?_)
                        have tv144 : v144 = F49_3 p114_4.toInt.toNat := ev144
                        refine lv_iload hx hb dX12_order_145 (lv_at hl 4 rfl) ?_
                        refine lv_iand hx hb dX12_order_147 ?_
                        refine lv_topi (fun v147 ev147 => ?_)
                        have tv147 : 0 ≤ v147.toInt ∧ v147.toInt ≤ v72.toInt := by rw [ev147]; exact and_r (by omega)
                        refine lv_iload hx hb dX12_order_148 (lv_at hl 3 rfl) ?_
                        refine lv_iconst (v := (-1)) hx hb dX12_order_150 (by decide) ?_
                        refine lv_ixor hx hb dX12_order_151 ?_
                        refine lv_topi (fun v151 ev151 => ?_)
                        refine lv_iand hx hb dX12_order_152 ?_
                        refine lv_topi (fun v152 ev152 => ?_)
                        have tv152 : 0 ≤ v152.toInt ∧ v152.toInt ≤ v147.toInt := by rw [ev152]; exact and_l (by omega)
                        refine lv_i2l hx hb dX12_order_153 rfl ?_
                        have hb9 := LPx_bits (k := p138_10) tv144 ev147 (by omega) (by omega) ev151 (by omega) ev152 (by omega) (by omega) (by omega)
                        refine lv_iload hx hb dX12_order_154 (lv_at hl 0 rfl) ?_
                        refine tk_i hH hS hA (tr_S (n := 2) (As := [.long v152.toInt64, .int p138_10]) hx hb hml hown hts hkb hH (ox_c (ox_c (ox_c (ox_c hOX)))) hks hE hS hA (s_M_isIn2 l D cs kf T (q0_1 :: a0 :: q0_28 :: q0_17 :: O) ((q0_1, .inl (cs.2.1, 3906, .inl f1)) :: (a0, .inr (12, [.int 0, .ref q0_1, .ref q0_2, .ref q0_3, .ref q0_4, .int q0_5, .int q0_6, .int q0_7, .int q0_8, .int q0_9, .int q0_10, .int q0_11, .int q0_12, .int q0_13, .int q0_14, .ref q0_15, .int n49_1_16, .ref q0_17, .ref q0_18, .ref q0_19, .int q0_20, .ref q0_21, .ref q0_22, .int q0_23, .int q0_24, .int q0_25, .ref q0_26, .ref q0_27, .ref q0_28, .ref q0_29, .ref q0_30, .ref q0_31, .int q0_32, .ref q0_33, .ref q0_34, .ref q0_35])) :: (q0_28, .inl (cs.1, 229376, .inl F49_2)) :: (q0_17, .inl (cs.2.1, 14, .inl F49_3)) :: X) v152.toInt64 p138_10  (hO.sub (by decide))) kw_1440 kw_1441 kw_13 kw_1442 (by decide +kernel) ⟨Nat.le_of_ble_eq_true rfl, Nat.le_of_ble_eq_true rfl⟩ rfl rfl hl.1 (Nat.le_of_ble_eq_true rfl) dX12_order_156 ⟨Nat.le_of_ble_eq_true rfl, Nat.le_of_ble_eq_true rfl⟩) (fun v156 u H locs hz9 hH hS => ?_)
                        obtain ⟨rfl, l_v156, u_v156, x_v1560⟩ := hz9
                        have hH : HT D cs A T (q0_1 :: a0 :: q0_28 :: q0_17 :: O) ((q0_1, .inl (cs.2.1, 3906, .inl f1)) :: (a0, .inr (12, [.int 0, .ref q0_1, .ref q0_2, .ref q0_3, .ref q0_4, .int q0_5, .int q0_6, .int q0_7, .int q0_8, .int q0_9, .int q0_10, .int q0_11, .int q0_12, .int q0_13, .int q0_14, .ref q0_15, .int n49_1_16, .ref q0_17, .ref q0_18, .ref q0_19, .int q0_20, .ref q0_21, .ref q0_22, .int q0_23, .int q0_24, .int q0_25, .ref q0_26, .ref q0_27, .ref q0_28, .ref q0_29, .ref q0_30, .ref q0_31, .int q0_32, .ref q0_33, .ref q0_34, .ref q0_35])) :: (q0_28, .inl (cs.1, 229376, .inl F49_2)) :: (q0_17, .inl (cs.2.1, 14, .inl F49_3)) :: X) H := hH
                        refine W.widen (k := 0) (n := 0) (Nat.le_of_ble_eq_true rfl) (Nat.le_of_ble_eq_true rfl) ?_
                        have J180 : ∀  (H : Heap) (locs : List Loc) (ls : Array Slot), (LPx hg v72 F49_3 F49_2 p114_4 p114_6 v132.toInt (p138_10.toInt.toNat + 1)) → HT D cs A T (q0_1 :: a0 :: q0_28 :: q0_17 :: O) ((q0_1, .inl (cs.2.1, 3906, .inl f1)) :: (a0, .inr (12, [.int 0, .ref q0_1, .ref q0_2, .ref q0_3, .ref q0_4, .int q0_5, .int q0_6, .int q0_7, .int q0_8, .int q0_9, .int q0_10, .int q0_11, .int q0_12, .int q0_13, .int q0_14, .ref q0_15, .int n49_1_16, .ref q0_17, .ref q0_18, .ref q0_19, .int q0_20, .ref q0_21, .ref q0_22, .int q0_23, .int q0_24, .int q0_25, .ref q0_26, .ref q0_27, .ref q0_28, .ref q0_29, .ref q0_30, .ref q0_31, .int q0_32, .ref q0_33, .ref q0_34, .ref q0_35])) :: (q0_28, .inl (cs.1, 229376, .inl F49_2)) :: (q0_17, .inl (cs.2.1, 14, .inl F49_3)) :: X) H → va_S A s.heap H locs → lv_has ls 11 [(10, .int p138_10), (9, .int v132), (8, .int p114_8), (6, .int p114_6), (5, .int v72), (4, .int p114_4), (0, .ref a0), (3, .int x3)] → W p l e { frames := 6, cells := 0, slots := 0, locals := 144 } s m [.ref a0, .int x1, .int x2, .int x3].toArray below meth c H locs 0 0 (MQ below (Ti D cs (fun r u => u = (T, O, X) ∧ -3 ≤ r.toInt ∧ r.toInt ≤ 99) A) [.ref a0, .int x1, .int x2, .int x3].toArray s 0 0 A) (F0 m 180 ls []) := by
                          intro  H locs ls i180 hH hS hl
                          have l180 := i180.lt
                          obtain ⟨v180, ev180⟩ : ∃ y : Int32, y = p138_10 + 1 := ⟨_, rfl⟩
                          have tv180 : v180.toInt = p138_10.toInt + (1) := by rw [ev180]; exact add_i rfl (by decide) (by omega) (by omega)
                          refine lv_iinc (v := v180) (lv' := [(10, .int v180), (9, .int v132), (8, .int p114_8), (6, .int p114_6), (5, .int v72), (4, .int p114_4), (0, .ref a0), (3, .int x3)]) hx hb dX12_order_180 hl (k := 0) rfl (by rw [ev180]; rfl) (by decide) rfl (fun ls hl => ?_)
                          refine lv_goto (tgt := 138) hx hb dX12_order_183 (by decide) ?_
                          exact ih138 _ (by omega) v180 _ _ _ rfl (by omega) (by omega) (by first | (refine LPx_e i180 ?_; omega) | (refine LPx_0 w9 i114 ?_ ?_ e128 tv132 (by decide) <;> omega)) hH hS (lv_sub hl [0, 1, 2, 3, 4, 5, 6, 7] rfl)
                        refine lv_if_eq (tgt := 180) hx hb dX12_order_159 (by decide) (fun c159 => ?_) (fun c159 => ?_)
                        · skip
                          have tc159 := f_eq (k := 0) (by decide) c159
                          exact J180  _ _ _ (by first | (refine LPx_no i138 hb9 x_v1560 ?_; omega) | (refine LPx_ne i138 ?_ ?_ ?_ ev168 ev169 ?_ ?_ x_v1720 ?_ <;> omega)) hH hS (lv_sub hl [0, 1, 2, 3, 4, 5, 6, 7] rfl)
                        · skip
                          have tc159 := f_ne (k := 0) (by decide) c159
                          refine lv_aload_n hx hb dX12_order_162 rfl (lv_at hl 6 rfl) ?_
                          refine lv_iload hx hb dX12_order_163 (lv_at hl 3 rfl) ?_
                          refine lv_iconst (v := 1) hx hb dX12_order_165 (by decide) ?_
                          refine lv_iload hx hb dX12_order_166 (lv_at hl 0 rfl) ?_
                          refine lv_ishl hx hb dX12_order_168 ?_
                          refine lv_topi (fun v168 ev168 => ?_)
                          have tv168 : 1 ≤ v168.toInt ∧ v168.toInt ≤ 8192 := by rw [ev168]; exact shl_b 13 (by decide) (by omega) (by omega)
                          refine lv_ior hx hb dX12_order_169 ?_
                          refine lv_topi (fun v169 ev169 => ?_)
                          have tv169 : 0 ≤ v169.toInt ∧ v169.toInt < 16384 := by rw [ev169]; exact or_b 14 (by decide) (by omega) (by omega) (by omega) (by omega)
                          refine lv_iload hx hb dX12_order_170 (lv_at hl 0 rfl) ?_
                          have z9_0 : (0 : Int32).toInt = 0 := by decide
                          refine tk_i hH hS hA (tr_V (n := 2) (As := [.int v169, .int p138_10]) hx hb hml hown hts hkb hH (ox_c (ox_c (ox_c (ox_c hOX)))) hks hE hS hA (s_M_moreByX l D cs kf T O X a0 hg mq v169 p138_10 f1 (.int 0) q0_1 (.ref q0_2) (.ref q0_3) (.ref q0_4) (.int q0_5) (.int q0_6) (.int q0_7) (.int q0_8) (.int q0_9) (.int q0_10) (.int q0_11) (.int q0_12) (.int q0_13) (.int q0_14) q0_15 n49_1_16 q0_17 (.ref q0_18) (.ref q0_19) (.int q0_20) (.ref q0_21) (.ref q0_22) (.int q0_23) (.int q0_24) (.int q0_25) (.ref q0_26) (.ref q0_27) q0_28 [.ref q0_29, .ref q0_30, .ref q0_31, .int q0_32, .ref q0_33, .ref q0_34, .ref q0_35] F49_2 F49_3 t_a0 b_hg (by omega) (by omega) (by omega) (by omega) s_f1 g_f1 t_q0_1 t_q0_15 t_q0_17 t_q0_28 (hO.sub (by decide))) kw_1736 kw_1738 ks_102 kw_13 kw_1739 (by decide +kernel) ⟨Nat.le_of_ble_eq_true rfl, Nat.le_of_ble_eq_true rfl⟩ (x_recv (ci := 12) hkb hH 1 rfl rfl) rfl rfl hl.1 (Nat.le_of_ble_eq_true rfl) dX12_order_172 ⟨Nat.le_of_ble_eq_true rfl, Nat.le_of_ble_eq_true rfl⟩) (fun v172 u H locs hz9 hH hS => ?_)
                          obtain ⟨rfl, x_v1720⟩ := hz9
                          have hH : HT D cs A T (q0_1 :: a0 :: q0_28 :: q0_17 :: O) ((q0_1, .inl (cs.2.1, 3906, .inl f1)) :: (a0, .inr (12, [.int 0, .ref q0_1, .ref q0_2, .ref q0_3, .ref q0_4, .int q0_5, .int q0_6, .int q0_7, .int q0_8, .int q0_9, .int q0_10, .int q0_11, .int q0_12, .int q0_13, .int q0_14, .ref q0_15, .int n49_1_16, .ref q0_17, .ref q0_18, .ref q0_19, .int q0_20, .ref q0_21, .ref q0_22, .int q0_23, .int q0_24, .int q0_25, .ref q0_26, .ref q0_27, .ref q0_28, .ref q0_29, .ref q0_30, .ref q0_31, .int q0_32, .ref q0_33, .ref q0_34, .ref q0_35])) :: (q0_28, .inl (cs.1, 229376, .inl F49_2)) :: (q0_17, .inl (cs.2.1, 14, .inl F49_3)) :: X) H := hH
                          refine W.widen (k := 0) (n := 0) (Nat.le_of_ble_eq_true rfl) (Nat.le_of_ble_eq_true rfl) ?_
                          refine lv_iload hx hb dX12_order_175 (lv_at hl 1 rfl) ?_
                          refine lv_icmp_eq (tgt := 186) hx hb dX12_order_177 (by decide) (fun c177 => ?_) (fun c177 => ?_)
                          · skip
                            have fuc177 := full_i v172
                            have fvc177 := full_i v132
                            have tc177 := g_eq c177
                            refine lv_iload hx hb dX12_order_186 (lv_at hl 0 rfl) ?_
                            refine lv_istore (lv' := [(4, .int p138_10), (10, .int p138_10), (9, .int v132), (8, .int p114_8), (6, .int p114_6), (5, .int v72), (0, .ref a0), (3, .int x3)]) hx hb dX12_order_188 hl (by decide) rfl (fun ls hl => ?_)
                            refine lv_iload hx hb dX12_order_190 (lv_at hl 4 rfl) ?_
                            refine lv_iconst (v := 1) hx hb dX12_order_192 (by decide) ?_
                            refine lv_iload hx hb dX12_order_193 (lv_at hl 1 rfl) ?_
                            refine lv_ishl hx hb dX12_order_195 ?_
                            refine lv_topi (fun v195 ev195 => ?_)
                            have tv195 : 1 ≤ v195.toInt ∧ v195.toInt ≤ 8192 := by rw [ev195]; exact shl_b 13 (by decide) (by omega) (by omega)
                            refine lv_ior hx hb dX12_order_196 ?_
                            refine lv_topi (fun v196 ev196 => ?_)
                            have tv196 : 0 ≤ v196.toInt ∧ v196.toInt < 16384 := by rw [ev196]; exact or_b 14 (by decide) (by omega) (by omega) (by omega) (by omega)
                            refine lv_istore (lv' := [(6, .int v196), (4, .int p138_10), (10, .int p138_10), (9, .int v132), (8, .int p114_8), (5, .int v72), (0, .ref a0), (3, .int x3)]) hx hb dX12_order_197 hl (by decide) rfl (fun ls hl => ?_)
                            obtain ⟨v199, ev199⟩ : ∃ y : Int32, y = p114_8 + 1 := ⟨_, rfl⟩
                            have tv199 : v199.toInt = p114_8.toInt + (1) := by rw [ev199]; exact add_i rfl (by decide) (by omega) (by omega)
                            refine lv_iinc (v := v199) (lv' := [(8, .int v199), (6, .int v196), (4, .int p138_10), (10, .int p138_10), (9, .int v132), (5, .int v72), (0, .ref a0), (3, .int x3)]) hx hb dX12_order_199 hl (k := 4) rfl (by rw [ev199]; rfl) (by decide) rfl (fun ls hl => ?_)
                            refine lv_goto (tgt := 114) hx hb dX12_order_202 (by decide) ?_
                            exact ih114 _ (by omega) v199 v196 p138_10 _ _ _ rfl (by omega) (by omega) (by omega) (by omega) (by omega) (by omega) (by first | (rw [show (0 : Int32).toInt = 0 by decide, Int.sub_zero]; exact q86) | (refine LOx_n i114 i138 hb9 x_v1560 ?_ ?_ ?_ ?_ ev168 ev169 ?_ ?_ x_v1720 ?_ ev195 ev196 ?_ ?_ <;> omega)) hH hS (lv_sub hl [0, 1, 5, 2, 6, 7] rfl)
                          · skip
                            have fuc177 := full_i v172
                            have fvc177 := full_i v132
                            have tc177 := g_ne c177
                            exact J180  _ _ _ (by first | (refine LPx_no i138 hb9 x_v1560 ?_; omega) | (refine LPx_ne i138 ?_ ?_ ?_ ev168 ev169 ?_ ?_ x_v1720 ?_ <;> omega)) hH hS (lv_sub hl [0, 1, 2, 3, 4, 5, 6, 7] rfl)
                    refine lv_istore (lv' := [(10, .int 0), (9, .int v132), (8, .int p114_8), (6, .int p114_6), (5, .int v72), (4, .int p114_4), (0, .ref a0), (3, .int x3)]) hx hb dX12_order_136 hl (by decide) rfl (fun ls hl => ?_)
                    have z_0 : (0 : Int32).toInt = 0 := by decide
                    exact J138 _ 0 _ _ _ rfl (by decide) (by decide) (by first | (refine LPx_e i180 ?_; omega) | (refine LPx_0 w9 i114 ?_ ?_ e128 tv132 (by decide) <;> omega)) hH hS (lv_sub hl [0, 1, 2, 3, 4, 5, 6, 7] rfl)
              refine lv_istore (lv' := [(8, .int 0), (7, .int v90), (6, .int v78), (5, .int v72), (4, .int v49), (0, .ref a0), (1, .int x1), (2, .int x2), (3, .int x3)]) hx hb dX12_order_112 hl (by decide) rfl (fun ls hl => ?_)
              have z_0 : (0 : Int32).toInt = 0 := by decide
              exact J114 _ 0 v78 v49 _ _ _ rfl (by decide) (by decide) (by omega) (by omega) (by omega) (by omega) (by first | (rw [show (0 : Int32).toInt = 0 by decide, Int.sub_zero]; exact q86) | (refine LOx_n i114 i138 hb9 x_v1560 ?_ ?_ ?_ ?_ ev168 ev169 ?_ ?_ x_v1720 ?_ ev195 ev196 ?_ ?_ <;> omega)) hH hS (lv_sub hl [0, 2, 3, 4, 5, 8] rfl)
            · skip
              have fuc106 := full_i v103
              have fvc106 := full_i v90
              have tc106 := g_nlt c106
              refine lv_iconst (v := (-1)) hx hb dX12_order_109 (by decide) ?_
              have hH : HT D cs A T (a0 :: q0_28 :: q0_17 :: O) ((a0, .inr (12, [.int 0, .ref q0_1, .ref q0_2, .ref q0_3, .ref q0_4, .int q0_5, .int q0_6, .int q0_7, .int q0_8, .int q0_9, .int q0_10, .int q0_11, .int q0_12, .int q0_13, .int q0_14, .ref q0_15, .int n49_1_16, .ref q0_17, .ref q0_18, .ref q0_19, .int q0_20, .ref q0_21, .ref q0_22, .int q0_23, .int q0_24, .int q0_25, .ref q0_26, .ref q0_27, .ref q0_28, .ref q0_29, .ref q0_30, .ref q0_31, .int q0_32, .ref q0_33, .ref q0_34, .ref q0_35])) :: (q0_28, .inl (cs.1, 229376, .inl F49_2)) :: (q0_17, .inl (cs.2.1, 14, .inl F49_3)) :: X) H := HT.layA hH t_q0_1 (show sp cs T (8, 3906, hg) _ from ⟨_, rfl, s_f1, fun _ => g_f1⟩)
              have hH : HT D cs A T (q0_28 :: q0_17 :: O) ((q0_28, .inl (cs.1, 229376, .inl F49_2)) :: (q0_17, .inl (cs.2.1, 14, .inl F49_3)) :: X) H := HT.lay (ci := 12) hH t_a0 (okL_c (⟨_, rfl⟩) (okL_c (⟨_, rfl, t_q0_1⟩) (okL_c (⟨_, rfl, t_q0_2⟩) (okL_c (⟨_, rfl, t_q0_3⟩) (okL_c (⟨_, rfl, t_q0_4⟩) (okL_c (⟨_, rfl, by omega, by omega⟩) (okL_c (⟨_, rfl⟩) (okL_c (⟨_, rfl⟩) (okL_c (⟨_, rfl⟩) (okL_c (⟨_, rfl⟩) (okL_c (⟨_, rfl, by omega, by omega⟩) (okL_c (⟨_, rfl⟩) (okL_c (⟨_, rfl⟩) (okL_c (⟨_, rfl⟩) (okL_c (⟨_, rfl⟩) (okL_c (⟨_, rfl, t_q0_15⟩) (okL_c (⟨_, rfl⟩) (okL_c (⟨_, rfl, t_q0_17⟩) (okL_c (⟨_, rfl, t_q0_18⟩) (okL_c (⟨_, rfl, t_q0_19⟩) (okL_c (⟨_, rfl, by omega, by omega⟩) (okL_c (⟨_, rfl, t_q0_21⟩) (okL_c (⟨_, rfl, t_q0_22⟩) (okL_c (⟨_, rfl⟩) (okL_c (⟨_, rfl⟩) (okL_c (⟨_, rfl⟩) (okL_c (⟨_, rfl, t_q0_26⟩) (okL_c (⟨_, rfl, t_q0_27⟩) (okL_c (⟨_, rfl, t_q0_28⟩) (okL_c (⟨_, rfl, t_q0_29⟩) (okL_c (⟨_, rfl, t_q0_30⟩) (okL_c (⟨_, rfl, t_q0_31⟩) (okL_c (⟨_, rfl⟩) (okL_c (⟨_, rfl, t_q0_33⟩) (okL_c (⟨_, rfl, t_q0_34⟩) (okL_c (⟨_, rfl, t_q0_35⟩) (okL_n)))))))))))))))))))))))))))))))))))))
              have hO := hO0
              have hH : HT D cs A T (q0_17 :: O) ((q0_17, .inl (cs.2.1, 14, .inl F49_3)) :: X) H := HT.layA hH t_q0_28 (show sp cs T (0, 229376, 0) _ from ⟨_, rfl⟩)
              have hH : HT D cs A T O X H := HT.layA hH t_q0_17 (show sp cs T (9, 14, 1) _ from ⟨_, rfl, fun _ => c_F49_3, fun q => absurd q (by decide)⟩)
              have z9_m1 : ((-1) : Int32).toInt = -1 := by decide
              exact te_i hx hb hr hlocks hH hS (⟨rfl, by decide, by decide⟩) dX12_order_110
          · skip
            have tc94 := f_eq (k := 0) (by decide) c94
            refine lv_iload hx hb dX12_order_97 (lv_at hl 0 rfl) ?_
            have hH : HT D cs A T (a0 :: q0_28 :: q0_17 :: O) ((a0, .inr (12, [.int 0, .ref q0_1, .ref q0_2, .ref q0_3, .ref q0_4, .int q0_5, .int q0_6, .int q0_7, .int q0_8, .int q0_9, .int q0_10, .int q0_11, .int q0_12, .int q0_13, .int q0_14, .ref q0_15, .int n49_1_16, .ref q0_17, .ref q0_18, .ref q0_19, .int q0_20, .ref q0_21, .ref q0_22, .int q0_23, .int q0_24, .int q0_25, .ref q0_26, .ref q0_27, .ref q0_28, .ref q0_29, .ref q0_30, .ref q0_31, .int q0_32, .ref q0_33, .ref q0_34, .ref q0_35])) :: (q0_28, .inl (cs.1, 229376, .inl F49_2)) :: (q0_17, .inl (cs.2.1, 14, .inl F49_3)) :: X) H := HT.layA hH t_q0_1 (show sp cs T (8, 3906, hg) _ from ⟨_, rfl, s_f1, fun _ => g_f1⟩)
            have hH : HT D cs A T (q0_28 :: q0_17 :: O) ((q0_28, .inl (cs.1, 229376, .inl F49_2)) :: (q0_17, .inl (cs.2.1, 14, .inl F49_3)) :: X) H := HT.lay (ci := 12) hH t_a0 (okL_c (⟨_, rfl⟩) (okL_c (⟨_, rfl, t_q0_1⟩) (okL_c (⟨_, rfl, t_q0_2⟩) (okL_c (⟨_, rfl, t_q0_3⟩) (okL_c (⟨_, rfl, t_q0_4⟩) (okL_c (⟨_, rfl, by omega, by omega⟩) (okL_c (⟨_, rfl⟩) (okL_c (⟨_, rfl⟩) (okL_c (⟨_, rfl⟩) (okL_c (⟨_, rfl⟩) (okL_c (⟨_, rfl, by omega, by omega⟩) (okL_c (⟨_, rfl⟩) (okL_c (⟨_, rfl⟩) (okL_c (⟨_, rfl⟩) (okL_c (⟨_, rfl⟩) (okL_c (⟨_, rfl, t_q0_15⟩) (okL_c (⟨_, rfl⟩) (okL_c (⟨_, rfl, t_q0_17⟩) (okL_c (⟨_, rfl, t_q0_18⟩) (okL_c (⟨_, rfl, t_q0_19⟩) (okL_c (⟨_, rfl, by omega, by omega⟩) (okL_c (⟨_, rfl, t_q0_21⟩) (okL_c (⟨_, rfl, t_q0_22⟩) (okL_c (⟨_, rfl⟩) (okL_c (⟨_, rfl⟩) (okL_c (⟨_, rfl⟩) (okL_c (⟨_, rfl, t_q0_26⟩) (okL_c (⟨_, rfl, t_q0_27⟩) (okL_c (⟨_, rfl, t_q0_28⟩) (okL_c (⟨_, rfl, t_q0_29⟩) (okL_c (⟨_, rfl, t_q0_30⟩) (okL_c (⟨_, rfl, t_q0_31⟩) (okL_c (⟨_, rfl⟩) (okL_c (⟨_, rfl, t_q0_33⟩) (okL_c (⟨_, rfl, t_q0_34⟩) (okL_c (⟨_, rfl, t_q0_35⟩) (okL_n)))))))))))))))))))))))))))))))))))))
            have hO := hO0
            have hH : HT D cs A T (q0_17 :: O) ((q0_17, .inl (cs.2.1, 14, .inl F49_3)) :: X) H := HT.layA hH t_q0_28 (show sp cs T (0, 229376, 0) _ from ⟨_, rfl⟩)
            have hH : HT D cs A T O X H := HT.layA hH t_q0_17 (show sp cs T (9, 14, 1) _ from ⟨_, rfl, fun _ => c_F49_3, fun q => absurd q (by decide)⟩)
            exact te_i hx hb hr hlocks hH hS (⟨rfl, by omega, by omega⟩) dX12_order_99
        · skip
          have tc57 := f_eq (k := -1) (by decide) c57
          refine lv_iconst (v := (-1)) hx hb dX12_order_60 (by decide) ?_
          have hH : HT D cs A T (a0 :: q0_28 :: q0_17 :: O) ((a0, .inr (12, [.int 0, .ref q0_1, .ref q0_2, .ref q0_3, .ref q0_4, .int q0_5, .int q0_6, .int q0_7, .int q0_8, .int q0_9, .int q0_10, .int q0_11, .int q0_12, .int q0_13, .int q0_14, .ref q0_15, .int n49_1_16, .ref q0_17, .ref q0_18, .ref q0_19, .int q0_20, .ref q0_21, .ref q0_22, .int q0_23, .int q0_24, .int q0_25, .ref q0_26, .ref q0_27, .ref q0_28, .ref q0_29, .ref q0_30, .ref q0_31, .int q0_32, .ref q0_33, .ref q0_34, .ref q0_35])) :: (q0_28, .inl (cs.1, 229376, .inl F49_2)) :: (q0_17, .inl (cs.2.1, 14, .inl F49_3)) :: X) H := HT.layA hH t_q0_1 (show sp cs T (8, 3906, hg) _ from ⟨_, rfl, s_f1, fun _ => g_f1⟩)
          have hH : HT D cs A T (q0_28 :: q0_17 :: O) ((q0_28, .inl (cs.1, 229376, .inl F49_2)) :: (q0_17, .inl (cs.2.1, 14, .inl F49_3)) :: X) H := HT.lay (ci := 12) hH t_a0 (okL_c (⟨_, rfl⟩) (okL_c (⟨_, rfl, t_q0_1⟩) (okL_c (⟨_, rfl, t_q0_2⟩) (okL_c (⟨_, rfl, t_q0_3⟩) (okL_c (⟨_, rfl, t_q0_4⟩) (okL_c (⟨_, rfl, by omega, by omega⟩) (okL_c (⟨_, rfl⟩) (okL_c (⟨_, rfl⟩) (okL_c (⟨_, rfl⟩) (okL_c (⟨_, rfl⟩) (okL_c (⟨_, rfl, by omega, by omega⟩) (okL_c (⟨_, rfl⟩) (okL_c (⟨_, rfl⟩) (okL_c (⟨_, rfl⟩) (okL_c (⟨_, rfl⟩) (okL_c (⟨_, rfl, t_q0_15⟩) (okL_c (⟨_, rfl⟩) (okL_c (⟨_, rfl, t_q0_17⟩) (okL_c (⟨_, rfl, t_q0_18⟩) (okL_c (⟨_, rfl, t_q0_19⟩) (okL_c (⟨_, rfl, by omega, by omega⟩) (okL_c (⟨_, rfl, t_q0_21⟩) (okL_c (⟨_, rfl, t_q0_22⟩) (okL_c (⟨_, rfl⟩) (okL_c (⟨_, rfl⟩) (okL_c (⟨_, rfl⟩) (okL_c (⟨_, rfl, t_q0_26⟩) (okL_c (⟨_, rfl, t_q0_27⟩) (okL_c (⟨_, rfl, t_q0_28⟩) (okL_c (⟨_, rfl, t_q0_29⟩) (okL_c (⟨_, rfl, t_q0_30⟩) (okL_c (⟨_, rfl, t_q0_31⟩) (okL_c (⟨_, rfl⟩) (okL_c (⟨_, rfl, t_q0_33⟩) (okL_c (⟨_, rfl, t_q0_34⟩) (okL_c (⟨_, rfl, t_q0_35⟩) (okL_n)))))))))))))))))))))))))))))))))))))
          have hO := hO0
          have hH : HT D cs A T (q0_17 :: O) ((q0_17, .inl (cs.2.1, 14, .inl F49_3)) :: X) H := HT.layA hH t_q0_28 (show sp cs T (0, 229376, 0) _ from ⟨_, rfl⟩)
          have hH : HT D cs A T O X H := HT.layA hH t_q0_17 (show sp cs T (9, 14, 1) _ from ⟨_, rfl, fun _ => c_F49_3, fun q => absurd q (by decide)⟩)
          have z9_m1 : ((-1) : Int32).toInt = -1 := by decide
          exact te_i hx hb hr hlocks hH hS (⟨rfl, by decide, by decide⟩) dX12_order_61
      · skip
        have tc40 := f_eq (k := 0) (by decide) c40
        clear x_v370
        refine lv_bipush (v := (-3)) hx hb dX12_order_43 (by decide) ?_
        have hH : HT D cs A T (a0 :: q0_28 :: q0_17 :: O) ((a0, .inr (12, [.int 0, .ref q0_1, .ref q0_2, .ref q0_3, .ref q0_4, .int q0_5, .int q0_6, .int q0_7, .int q0_8, .int q0_9, .int q0_10, .int q0_11, .int q0_12, .int q0_13, .int q0_14, .ref q0_15, .int q0_16, .ref q0_17, .ref q0_18, .ref q0_19, .int q0_20, .ref q0_21, .ref q0_22, .int q0_23, .int q0_24, .int q0_25, .ref q0_26, .ref q0_27, .ref q0_28, .ref q0_29, .ref q0_30, .ref q0_31, .int q0_32, .ref q0_33, .ref q0_34, .ref q0_35])) :: (q0_28, .inl (cs.1, 229376, .inl f28)) :: (q0_17, .inl (cs.2.1, 14, .inl f17)) :: X) H := HT.layA hH t_q0_1 (show sp cs T (8, 3906, hg) _ from ⟨_, rfl, s_f1, fun _ => g_f1⟩)
        have hH : HT D cs A T (q0_28 :: q0_17 :: O) ((q0_28, .inl (cs.1, 229376, .inl f28)) :: (q0_17, .inl (cs.2.1, 14, .inl f17)) :: X) H := HT.lay (ci := 12) hH t_a0 (okL_c (⟨_, rfl⟩) (okL_c (⟨_, rfl, t_q0_1⟩) (okL_c (⟨_, rfl, t_q0_2⟩) (okL_c (⟨_, rfl, t_q0_3⟩) (okL_c (⟨_, rfl, t_q0_4⟩) (okL_c (⟨_, rfl, by omega, by omega⟩) (okL_c (⟨_, rfl⟩) (okL_c (⟨_, rfl⟩) (okL_c (⟨_, rfl⟩) (okL_c (⟨_, rfl⟩) (okL_c (⟨_, rfl, by omega, by omega⟩) (okL_c (⟨_, rfl⟩) (okL_c (⟨_, rfl⟩) (okL_c (⟨_, rfl⟩) (okL_c (⟨_, rfl⟩) (okL_c (⟨_, rfl, t_q0_15⟩) (okL_c (⟨_, rfl⟩) (okL_c (⟨_, rfl, t_q0_17⟩) (okL_c (⟨_, rfl, t_q0_18⟩) (okL_c (⟨_, rfl, t_q0_19⟩) (okL_c (⟨_, rfl, by omega, by omega⟩) (okL_c (⟨_, rfl, t_q0_21⟩) (okL_c (⟨_, rfl, t_q0_22⟩) (okL_c (⟨_, rfl⟩) (okL_c (⟨_, rfl⟩) (okL_c (⟨_, rfl⟩) (okL_c (⟨_, rfl, t_q0_26⟩) (okL_c (⟨_, rfl, t_q0_27⟩) (okL_c (⟨_, rfl, t_q0_28⟩) (okL_c (⟨_, rfl, t_q0_29⟩) (okL_c (⟨_, rfl, t_q0_30⟩) (okL_c (⟨_, rfl, t_q0_31⟩) (okL_c (⟨_, rfl⟩) (okL_c (⟨_, rfl, t_q0_33⟩) (okL_c (⟨_, rfl, t_q0_34⟩) (okL_c (⟨_, rfl, t_q0_35⟩) (okL_n)))))))))))))))))))))))))))))))))))))
        have hO := hO0
        have hH : HT D cs A T (q0_17 :: O) ((q0_17, .inl (cs.2.1, 14, .inl f17)) :: X) H := HT.layA hH t_q0_28 (show sp cs T (0, 229376, 0) _ from ⟨_, rfl⟩)
        have hH : HT D cs A T O X H := HT.layA hH t_q0_17 (show sp cs T (9, 14, 1) _ from ⟨_, rfl, fun _ => c_f17, fun q => absurd q (by decide)⟩)
        have z9_m3 : ((-3) : Int32).toInt = -3 := by decide
        exact te_i hx hb hr hlocks hH hS (⟨rfl, by decide, by decide⟩) dX12_order_45
    refine lv_if_eq (tgt := 35) hx hb dX12_order_15 (by decide) (fun c15 => ?_) (fun c15 => ?_)
    · skip
      have tc15 := f_eq (k := 0) (by decide) c15
      exact J35  _ _ _ (by omega) (by omega) hH hS (lv_sub hl [0, 1, 2, 3] rfl)
    · skip
      have tc15 := f_ne (k := 0) (by decide) c15
      refine lv_iload_n hx hb dX12_order_18 rfl (lv_at hl 3 rfl) ?_
      refine lv_i2l hx hb dX12_order_19 rfl ?_
      refine lv_ldc2 hx hb hown (hts _ kw_1602) dX12_order_20 ?_
      refine lv_ldc2 hx hb hown (hts _ kw_1617) dX12_order_23 ?_
      refine tk_i hH hS hA (tr_S (n := 3) (As := [.long x3.toInt64, .long 10, .long 23]) hx hb hml hown hts hkb hH (ox_c (ox_c (ox_c (ox_c hOX)))) hks hE hS hA (s_M_within l D cs kf T (q0_1 :: a0 :: q0_28 :: q0_17 :: O) ((q0_1, .inl (cs.2.1, 3906, .inl f1)) :: (a0, .inr (12, [.int 0, .ref q0_1, .ref q0_2, .ref q0_3, .ref q0_4, .int q0_5, .int q0_6, .int q0_7, .int q0_8, .int q0_9, .int q0_10, .int q0_11, .int q0_12, .int q0_13, .int q0_14, .ref q0_15, .int q0_16, .ref q0_17, .ref q0_18, .ref q0_19, .int q0_20, .ref q0_21, .ref q0_22, .int q0_23, .int q0_24, .int q0_25, .ref q0_26, .ref q0_27, .ref q0_28, .ref q0_29, .ref q0_30, .ref q0_31, .int q0_32, .ref q0_33, .ref q0_34, .ref q0_35])) :: (q0_28, .inl (cs.1, 229376, .inl f28)) :: (q0_17, .inl (cs.2.1, 14, .inl f17)) :: X) x3.toInt64 10 23  (hO.sub (by decide))) kw_1341 kw_1342 kw_13 kw_1343 (by decide +kernel) ⟨Nat.le_of_ble_eq_true rfl, Nat.le_of_ble_eq_true rfl⟩ rfl rfl hl.1 (Nat.le_of_ble_eq_true rfl) dX12_order_26 ⟨Nat.le_of_ble_eq_true rfl, Nat.le_of_ble_eq_true rfl⟩) (fun v26 u H locs hz9 hH hS => ?_)
      obtain ⟨rfl, l_v26, u_v26, x_v260, x_v261⟩ := hz9
      simp only [Int32.toInt_toInt64] at x_v260 x_v261
      have k9_10 : (10 : Int64).toInt = 10 := by decide
      have k9_23 : (23 : Int64).toInt = 23 := by decide
      have hH : HT D cs A T (q0_1 :: a0 :: q0_28 :: q0_17 :: O) ((q0_1, .inl (cs.2.1, 3906, .inl f1)) :: (a0, .inr (12, [.int 0, .ref q0_1, .ref q0_2, .ref q0_3, .ref q0_4, .int q0_5, .int q0_6, .int q0_7, .int q0_8, .int q0_9, .int q0_10, .int q0_11, .int q0_12, .int q0_13, .int q0_14, .ref q0_15, .int q0_16, .ref q0_17, .ref q0_18, .ref q0_19, .int q0_20, .ref q0_21, .ref q0_22, .int q0_23, .int q0_24, .int q0_25, .ref q0_26, .ref q0_27, .ref q0_28, .ref q0_29, .ref q0_30, .ref q0_31, .int q0_32, .ref q0_33, .ref q0_34, .ref q0_35])) :: (q0_28, .inl (cs.1, 229376, .inl f28)) :: (q0_17, .inl (cs.2.1, 14, .inl f17)) :: X) H := hH
      refine W.widen (k := 0) (n := 0) (Nat.le_of_ble_eq_true rfl) (Nat.le_of_ble_eq_true rfl) ?_
      refine lv_if_ne (tgt := 35) hx hb dX12_order_29 (by decide) (fun c29 => ?_) (fun c29 => ?_)
      · skip
        have tc29 := f_ne (k := 0) (by decide) c29
        replace x_v260 := x_v260.resolve_left tc29
        clear x_v261
        exact J35  _ _ _ (by omega) (by omega) hH hS (lv_sub hl [0, 1, 2, 3] rfl)
      · skip
        have tc29 := f_eq (k := 0) (by decide) c29
        clear x_v260
        replace x_v261 := x_v261.resolve_left (fun q9 => q9 tc29)
        exact J32  _ _ _  hH hS (lv_sub hl [] rfl)
/-! the trays, told anew -/
def gset (g i c : Nat) : Nat := g - cdv g i * 256 ^ i + c * 256 ^ i
theorem cdv_set {g i j c : Nat} (hi : i < 4) (hj : j < 4) (hc : c < 256) : cdv (gset g i c) j = if j = i then c else cdv g j := by
  have p0 : (256 : Nat) ^ 0 = 1 := rfl
  have p1 : (256 : Nat) ^ 1 = 256 := rfl
  have p2 : (256 : Nat) ^ 2 = 65536 := rfl
  have p3 : (256 : Nat) ^ 3 = 16777216 := rfl
  unfold gset cdv
  rcases (show i = 0 ∨ i = 1 ∨ i = 2 ∨ i = 3 by omega) with rfl | rfl | rfl | rfl <;> rcases (show j = 0 ∨ j = 1 ∨ j = 2 ∨ j = 3 by omega) with rfl | rfl | rfl | rfl <;> first | (rw [if_pos rfl]; simp only [p0, p1, p2, p3, Nat.div_one, Nat.mul_one]; omega) | (rw [if_neg (by decide)]; simp only [p0, p1, p2, p3, Nat.div_one, Nat.mul_one]; omega)
theorem szv_c {s n : Nat} (hs : s < 4) : szv (1 + s + 4 * n) = (n : Int) := by
  unfold szv
  rw [if_neg (by omega)]
  omega
theorem sov_c {s n : Nat} (hs : s < 4) : sov (1 + s + 4 * n) = (s : Int) := by
  unfold sov
  rw [if_neg (by omega)]
  omega
theorem pvr_s {q j : Nat} : pvr (2 * q) j = sov (cdv q j) := by
  unfold pvr
  rw [if_pos (by omega), show 2 * q / 2 = q by omega]
theorem pvr_m {q j : Nat} : pvr (2 * q + 1) j = (((cdv q j - 1) / 4 : Nat) : Int) := by
  unfold pvr
  rw [if_neg (by omega), show (2 * q + 1) / 2 = q by omega]
def Tgc (T T2 : TF) (ar : Nat) : Prop := Trc T T2 ∧ ∀ (b : Nat) (tg : Tg), T2 b = some tg → T b = some tg ∨ tg.1 = 10 ∨ (tg.1 = 6 ∧ b = ar) ∨ tg.1 = 18
theorem Tgc.rf {T : TF} {ar : Nat} : Tgc T T ar := ⟨fun _ _ h _ _ _ => h, fun _ _ h => Or.inl h⟩
theorem HT.gn {D : va_G} {cs : CS} {A : Nat → Prop} {T : TF} {O : List Nat} {X : va_W} {H : Heap} {a ch ar tr g g1 g2 c c2 : Nat} (h : HT D cs A T O X H) (hc : T ch = some (10, g, 0)) (hr : T ar = some (6, 4, g1)) (ht : T tr = some (18, c, 0)) (hU : ∀ (b : Nat) (tg : Tg), T b = some tg → tg.1 = 21 → b = a) (hU6 : ∀ (b : Nat) (tg : Tg), T b = some tg → tg.1 = 6 → b = ar) (hcO : ch ∈ O) (hrO : ar ∈ O) (htO : tr ∈ O) (haO : a ∈ O) :
    ∃ T2 : TF, Tgc T T2 ar ∧ T2 tr = some (18, c2, 0) ∧ T2 ar = some (6, 4, g2) ∧ T2 ch = some (10, g2, 0) ∧ (∀ b, b ≠ ch → b ≠ ar → b ≠ tr → T2 b = T b) ∧ HT D cs A T2 O X H := by
  have n1 : ar ≠ ch := fun z => by rw [z, hc] at hr; cases hr
  have n2 : tr ≠ ch := fun z => by rw [z, hc] at ht; cases ht
  have n3 : tr ≠ ar := fun z => by rw [z, hr] at ht; cases ht
  obtain ⟨T2, e2⟩ : ∃ T2, T2 = Tadd (Tadd (Tadd T tr (18, c2, 0)) ar (6, 4, g2)) ch (10, g2, 0) := ⟨_, rfl⟩
  have qc : T2 ch = some (10, g2, 0) := by rw [e2]; exact Tadd_r
  have qr : T2 ar = some (6, 4, g2) := by rw [e2]; unfold Tadd; rw [if_neg n1, if_pos rfl]
  have qt : T2 tr = some (18, c2, 0) := by rw [e2]; unfold Tadd; rw [if_neg n2, if_neg n3, if_pos rfl]
  have q3 : ∀ b, b ≠ ch → b ≠ ar → b ≠ tr → T2 b = T b := fun b k1 k2 k3 => by rw [e2]; unfold Tadd; rw [if_neg k1, if_neg k2, if_neg k3]
  have hk : Trc T T2 := fun b tg hb k1 k2 k3 => by
    rw [q3 b (fun z => by rw [z, hc] at hb; cases hb; exact k1 rfl) (fun z => by rw [z, hr] at hb; cases hb; exact k2 rfl) (fun z => by rw [z, ht] at hb; cases hb; exact k3 rfl)]
    exact hb
  refine ⟨T2, ⟨hk, fun b tg hb => ?_⟩, qt, qr, qc, q3, ?_⟩
  · by_cases c1 : b = ch
    · rw [c1, qc] at hb
      cases hb
      exact Or.inr (Or.inl rfl)
    · by_cases k2 : b = ar
      · rw [k2, qr] at hb
        cases hb
        exact Or.inr (Or.inr (Or.inl ⟨rfl, k2⟩))
      · by_cases k3 : b = tr
        · rw [k3, qt] at hb
          cases hb
          exact Or.inr (Or.inr (Or.inr rfl))
        · rw [q3 b c1 k2 k3] at hb
          exact Or.inl hb
  · obtain ⟨ws, hP, hD, h3, h4⟩ := h
    refine ⟨ws, hP, hD, fun b tg hb hO => ?_, fun k q hq => ?_⟩
    · have c1 : b ≠ ch := fun z => hO (z ▸ hcO)
      have k2 : b ≠ ar := fun z => hO (z ▸ hrO)
      have k3 : b ≠ tr := fun z => hO (z ▸ htO)
      have k4 : b ≠ a := fun z => hO (z ▸ haO)
      rw [q3 b c1 k2 k3] at hb
      obtain ⟨k, x1, hk1, hs⟩ := h3 b tg hb hO
      exact ⟨k, x1, hk1, sp_gc hk (fun z => k4 (hU b tg hb z)) (fun z => k2 (hU6 b tg hb z)) hs⟩
    · obtain ⟨tg, hg⟩ := h4 k q hq
      by_cases c1 : q.1 = ch
      · exact ⟨_, by rw [c1]; exact qc⟩
      · by_cases k2 : q.1 = ar
        · exact ⟨_, by rw [k2]; exact qr⟩
        · by_cases k3 : q.1 = tr
          · exact ⟨_, by rw [k3]; exact qt⟩
          · exact ⟨tg, by rw [q3 _ c1 k2 k3]; exact hg⟩
theorem tr_lay {T T2 : TF} {f : Nat → Option Nat} {ch ar r g i c : Nat} (hi : i < 4) (hc : c < 256) (h : ∀ j, j < 4 → ∃ a, f j = some a ∧ T a = some (18, cdv g j, 0)) (hj : ∀ i j, i < 4 → j < 4 → f i = f j → i = j) (hr : f i = some r) (h2 : T2 r = some (18, c, 0)) (q3 : ∀ b, b ≠ ch → b ≠ ar → b ≠ r → T2 b = T b) (hch : ∀ p, T ch ≠ some (18, p, 0)) (har : ∀ p, T ar ≠ some (18, p, 0)) : ∀ j, j < 4 → ∃ a, f j = some a ∧ T2 a = some (18, cdv (gset g i c) j, 0) := fun j hj4 => by
  obtain ⟨a, e1, e2⟩ := h j hj4
  rw [cdv_set hi hj4 hc]
  by_cases q : j = i
  · subst q
    rw [if_pos rfl]
    exact ⟨r, hr, h2⟩
  · rw [if_neg q]
    refine ⟨a, e1, ?_⟩
    rw [q3 a (fun z => by rw [z] at e2; exact hch _ e2) (fun z => by rw [z] at e2; exact har _ e2) (fun z => q (hj j i hj4 hi (by rw [e1, hr, z])))]
    exact e2
section ThTray
variable {p : Program} {l : Launch} {e : Env} {R : Room} {s : State} {m : MethodId} {args : Array Value} {below : List Frame} {meth : Method} {c : Code} {H : Heap} {locs : List Loc} {cells slots : Nat} {Q : State → Prop}
variable {cc : ByteArray} {pc : Nat} {ls : Array Slot} {rest : List Value} {D : va_G} {A : Nat → Prop} {a : Nat} {cs : CS} {T : TF} {O : List Nat} {X : va_W} {H0 : Heap}
theorem xa_lst {n : Nat} {f : Nat → Int64} {j : Int32} {x : Int64} (hx : p.tables.exec = Jvm.exec) (hb : c.code = cc) (hkb : kb D (tyc cs) s) (hH : HT D cs A T O X H) (hS : va_S A H0 H locs) (i : Nat) (hi : X[i]? = some (a, .inl (cs.2.2.1, n, .inr (.inl f)))) (h0 : 0 ≤ j.toInt) (h1 : j.toInt < n) (hdg : decode cc pc = .ok (.lastore, 1))
    (kk : ∀ (H1 : Heap) (locs1 : List Loc), HT D cs A T O (X.set i (a, .inl (cs.2.2.1, n, .inr (.inl (vp_updL f j.toNatClampNeg x))))) H1 → va_S A H0 H1 locs1 → W p l e R s m args below meth c H1 locs1 cells slots Q (F0 m (pc + 1) ls rest)) : W p l e R s m args below meth c H locs cells slots Q (F0 m pc ls (.long x :: .int j :: .ref a :: rest)) := by
  obtain ⟨ws, hP, hD, h3, h4⟩ := hH
  exact va_last hx hb hkb.1 hP hD hS i 2 (ap_l hi) rfl (in_t h0 h1) hdg (fun H1 locs1 hP hD hS => by
    rw [ap_setl hi] at hP hD
    exact kk H1 locs1 ⟨ws, hP, hD, h3, h4⟩ hS)
theorem xa_qld {n r : Nat} {f : Nat → Option Nat} {j : Int32} (hx : p.tables.exec = Jvm.exec) (hb : c.code = cc) (hkb : kb D (tyc cs) s) (hH : HT D cs A T O X H) (i : Nat) (hi : X[i]? = some (a, .inl (cs.2.2.2.2.2.2.1, n, .inr (.inr (.inr (.inr f)))))) (h0 : 0 ≤ j.toInt) (h1 : j.toInt < n) (hr : f j.toInt.toNat = some r) (hdg : decode cc pc = .ok (.aaload, 1))
    (kk : W p l e R s m args below meth c H locs cells slots Q (F0 m (pc + 1) ls (.ref r :: rest))) : W p l e R s m args below meth c H locs cells slots Q (F0 m pc ls (.int j :: .ref a :: rest)) := by
  obtain ⟨ws, hP, hD, h3, h4⟩ := hH
  refine va_aldq (C := RX8) hx hb hkb.1 hP i 6 (ap_l hi) rfl (in_t h0 h1) hdg ?_
  rw [show f j.toNatClampNeg = some r from hr]
  exact kk
end ThTray
theorem rd_back {f F : Nat → Int64} {i : Nat} {v x : Int64} (h : v = F i) (e : F = vp_updL f i x) : v = x := by
  rw [h, e]
  unfold vp_updL
  rw [if_pos rfl]
def cutF (v : Int64) (s : Int) : Int64 := if s = 0 then v.toInt32.toInt8.toInt32.toInt64 else if s = 1 then v.toInt32.toInt16.toInt32.toInt64 else if s = 2 then v.toInt32.toInt64 else v
theorem cutF_0 {v r : Int64} {s : Int} (h : s = 0) (e : r = v.toInt32.toInt8.toInt32.toInt64) : r = cutF v s := by
  unfold cutF
  rw [if_pos h]
  exact e
theorem cutF_1 {v r : Int64} {s : Int} (h : s = 1) (e : r = v.toInt32.toInt16.toInt32.toInt64) : r = cutF v s := by
  unfold cutF
  rw [if_neg (by omega), if_pos h]
  exact e
theorem cutF_2 {v r : Int64} {s : Int} (h : s = 2) (e : r = v.toInt32.toInt64) : r = cutF v s := by
  unfold cutF
  rw [if_neg (by omega), if_neg (by omega), if_pos h]
  exact e
theorem cutF_3 {v r : Int64} {s : Int} (h0 : s ≠ 0) (h1 : s ≠ 1) (h2 : s ≠ 2) (e : r = v) : r = cutF v s := by
  unfold cutF
  rw [if_neg h0, if_neg h1, if_neg h2]
  exact e
def PTF (c : Nat) (i : Int) (v r : Int64) : Prop := c ≠ 0 → 0 ≤ i → i < 40 → r = cutF v (sov c)
def WRF (g : Nat) (t i : Int) (v r : Int64) : Prop := (¬ (0 ≤ t ∧ t ≤ 3) ∧ r = -2) ∨ ((0 ≤ t ∧ t ≤ 3) ∧ cdv g t.toNat = 0 ∧ r = -6) ∨ ((0 ≤ t ∧ t ≤ 3) ∧ cdv g t.toNat ≠ 0 ∧ ¬ (0 ≤ i ∧ i < szv (cdv g t.toNat)) ∧ r = -7) ∨ ((0 ≤ t ∧ t ≤ 3) ∧ cdv g t.toNat ≠ 0 ∧ (0 ≤ i ∧ i < szv (cdv g t.toNat)) ∧ r = cutF v (sov (cdv g t.toNat)))
theorem WRF_eq {g : Nat} {t i : Int} {v r q : Int64} (h : WRF g t i v r) (k : WRF g t i v q) : r = q := by
  rcases h with ⟨h1, h2⟩ | ⟨h1, h2, h3⟩ | ⟨h1, h2, h3, h4⟩ | ⟨h1, h2, h3, h4⟩ <;> rcases k with ⟨k1, k2⟩ | ⟨k1, k2, k3⟩ | ⟨k1, k2, k3, k4⟩ | ⟨k1, k2, k3, k4⟩ <;> first | exact h2.trans k2.symm | exact h3.trans k3.symm | exact h4.trans k4.symm | exact absurd k1 h1 | exact absurd h1 k1 | exact absurd h2 k2 | exact absurd k2 h2 | exact absurd h3 k3 | exact absurd k3 h3
def NTF (g : Nat) (t r : Int) : Prop := (¬ (0 ≤ t ∧ t ≤ 3) ∧ r = -2) ∨ ((0 ≤ t ∧ t ≤ 3) ∧ cdv g t.toNat = 0 ∧ r = -6) ∨ ((0 ≤ t ∧ t ≤ 3) ∧ cdv g t.toNat ≠ 0 ∧ r = 0)
theorem sov_m (c : Nat) : sov c = -1 ↔ c = 0 := by
  unfold sov
  by_cases h : c = 0
  · rw [if_pos h]
    exact ⟨fun _ => h, fun _ => rfl⟩
  · rw [if_neg h]
    exact ⟨fun q => by omega, fun q => absurd q h⟩
theorem szv_n {c : Nat} (h : c ≠ 0) : szv c = (((c - 1) / 4 : Nat) : Int) := by
  unfold szv
  rw [if_neg h]
def NGF (g g2 : Nat) (x1 x2 x3 r : Int) : Prop := (r = -2 ∧ ¬ (0 ≤ x1 ∧ x1 ≤ 3 ∧ 0 ≤ x2 ∧ x2 ≤ 3) ∧ g2 = g) ∨ (r = -3 ∧ (0 ≤ x1 ∧ x1 ≤ 3 ∧ 0 ≤ x2 ∧ x2 ≤ 3) ∧ ¬ (0 ≤ x3 ∧ x3 ≤ 40) ∧ g2 = g) ∨ (r = 0 ∧ (0 ≤ x1 ∧ x1 ≤ 3 ∧ 0 ≤ x2 ∧ x2 ≤ 3) ∧ (0 ≤ x3 ∧ x3 ≤ 40) ∧ g2 = gset g x1.toNat (1 + x2.toNat + 4 * x3.toNat))
theorem NGF_g {g a b : Nat} {x1 x2 x3 r q : Int} (h : NGF g a x1 x2 x3 r) (k : NGF g b x1 x2 x3 q) : a = b := by
  rcases h with ⟨h1, h2, h3⟩ | ⟨h1, h2, h3, h4⟩ | ⟨h1, h2, h3, h4⟩ <;> rcases k with ⟨k1, k2, k3⟩ | ⟨k1, k2, k3, k4⟩ | ⟨k1, k2, k3, k4⟩ <;> first | exact h3.trans k3.symm | exact h4.trans k4.symm | exact absurd k2 h2 | exact absurd h2 k2 | exact absurd k3 h3 | exact absurd h3 k3
theorem pin_s {f F : Nat → Int32} {q i s n : Nat} {x : Int32} (hi : i < 4) (hs : s < 4) (hn : n ≤ 40) (hx : x.toInt = (s : Int)) (h : ∀ j, j < 4 → ((f j).toInt = pvr (2 * q) j ∧ -1 ≤ (f j).toInt ∧ (f j).toInt ≤ 40)) (eF : F = upd f i x) : ∀ j, j < 4 → ((F j).toInt = pvr (2 * gset q i (1 + s + 4 * n)) j ∧ -1 ≤ (F j).toInt ∧ (F j).toInt ≤ 40) := fun j hj => by
  rw [eF, pvr_s, cdv_set hi hj (by omega)]
  by_cases z : j = i
  · rw [z, upd_eq, if_pos rfl, sov_c hs]
    omega
  · rw [upd_ne z, if_neg z, ← pvr_s]
    exact h j hj
theorem pin_m {f F : Nat → Int32} {q i s n : Nat} {x : Int32} (hi : i < 4) (hs : s < 4) (hn : n ≤ 40) (hx : x.toInt = (n : Int)) (h : ∀ j, j < 4 → ((f j).toInt = pvr (2 * q + 1) j ∧ -1 ≤ (f j).toInt ∧ (f j).toInt ≤ 40)) (eF : F = upd f i x) : ∀ j, j < 4 → ((F j).toInt = pvr (2 * gset q i (1 + s + 4 * n) + 1) j ∧ -1 ≤ (F j).toInt ∧ (F j).toInt ≤ 40) := fun j hj => by
  rw [eF, pvr_m, cdv_set hi hj (by omega)]
  by_cases z : j = i
  · rw [z, upd_eq, if_pos rfl]
    omega
  · rw [upd_ne z, if_neg z, ← pvr_m]
    exact h j hj
theorem dX11_write_0 : decode cX11_write 0 = .ok (.iload_n 1, 1) := by decide +kernel
theorem dX11_write_1 : decode cX11_write 1 = .ok (.invokestatic 229, 3) := by decide +kernel
theorem dX11_write_4 : decode cX11_write 4 = .ok (.ifCond .ne 7, 3) := by decide +kernel
theorem dX11_write_7 : decode cX11_write 7 = .ok (.ldc2_w 314, 3) := by decide +kernel
theorem dX11_write_10 : decode cX11_write 10 = .ok (.lreturn, 1) := by decide +kernel
theorem dX11_write_11 : decode cX11_write 11 = .ok (.aload_n 0, 1) := by decide +kernel
theorem dX11_write_12 : decode cX11_write 12 = .ok (.getfield 62, 3) := by decide +kernel
theorem dX11_write_15 : decode cX11_write 15 = .ok (.iload_n 1, 1) := by decide +kernel
theorem dX11_write_16 : decode cX11_write 16 = .ok (.aaload, 1) := by decide +kernel
theorem dX11_write_17 : decode cX11_write 17 = .ok (.astore 5, 2) := by decide +kernel
theorem dX11_write_19 : decode cX11_write 19 = .ok (.aload 5, 2) := by decide +kernel
theorem dX11_write_21 : decode cX11_write 21 = .ok (.invokevirtual 232, 3) := by decide +kernel
theorem dX11_write_24 : decode cX11_write 24 = .ok (.ifCond .eq 7, 3) := by decide +kernel
theorem dX11_write_27 : decode cX11_write 27 = .ok (.ldc2_w 366, 3) := by decide +kernel
theorem dX11_write_30 : decode cX11_write 30 = .ok (.lreturn, 1) := by decide +kernel
theorem dX11_write_31 : decode cX11_write 31 = .ok (.iload_n 2, 1) := by decide +kernel
theorem dX11_write_32 : decode cX11_write 32 = .ok (.ifCond .lt 12, 3) := by decide +kernel
theorem dX11_write_35 : decode cX11_write 35 = .ok (.iload_n 2, 1) := by decide +kernel
theorem dX11_write_36 : decode cX11_write 36 = .ok (.aload 5, 2) := by decide +kernel
theorem dX11_write_38 : decode cX11_write 38 = .ok (.getfield 259, 3) := by decide +kernel
theorem dX11_write_41 : decode cX11_write 41 = .ok (.if_icmp .lt 7, 3) := by decide +kernel
theorem dX11_write_44 : decode cX11_write 44 = .ok (.ldc2_w 368, 3) := by decide +kernel
theorem dX11_write_47 : decode cX11_write 47 = .ok (.lreturn, 1) := by decide +kernel
theorem dX11_write_48 : decode cX11_write 48 = .ok (.aload 5, 2) := by decide +kernel
theorem dX11_write_50 : decode cX11_write 50 = .ok (.iload_n 2, 1) := by decide +kernel
theorem dX11_write_51 : decode cX11_write 51 = .ok (.lload_n 3, 1) := by decide +kernel
theorem dX11_write_52 : decode cX11_write 52 = .ok (.invokevirtual 370, 3) := by decide +kernel
theorem dX11_write_55 : decode cX11_write 55 = .ok (.lreturn, 1) := by decide +kernel
theorem kw_1188 : Cond.constantLong "FootholdWall" 366 (-6) ∈ gw := gw_of (tb_of 1188 (by decide +kernel)) (by decide +kernel)
theorem kw_1189 : Cond.constantLong "FootholdWall" 368 (-7) ∈ gw := gw_of (tb_of 1189 (by decide +kernel)) (by decide +kernel)
set_option maxHeartbeats 4000000 in
set_option maxRecDepth 100000 in
theorem s_FW_isTray2 (l : Launch) (D : va_G) (cs : CS) (kf : KF) (T : TF) (O : List Nat) (X : va_W) (x0 : Int32)  (hO : okO T O []) : TK l D cs kf yX11_isTray cX11_isTray 1 (some (.boolean)) { frames := 0, cells := 0, slots := 0, locals := 0 } [.int x0] T O X (Ti D cs (fun r u => u = (T, O, X) ∧ 0 ≤ r.toInt ∧ r.toInt ≤ 1 ∧ (r.toInt = 0 ∨ (0 ≤ x0.toInt ∧ x0.toInt ≤ 3)) ∧ (r.toInt ≠ 0 ∨ (x0.toInt < 0 ∨ 3 < x0.toInt)))) := by
  refine tk_of (by decide) (Nat.le_of_ble_eq_true rfl) (fun p e s m below meth c ls A H locs hx hb hr hml hown hts hlocks hnm hkb hH hS hA hOX hks hE hl => ?_)
  have hown : s.vm.findClass RX11 = some m.cls := hown
  have hl : lv_has ls 1 [(0, .int x0)] := hl
  refine lv_iload_n hx hb dX11_isTray_0 rfl (lv_at hl 0 rfl) ?_
  refine lv_if_lt (tgt := 13) hx hb dX11_isTray_1 (by decide) (fun c1 => ?_) (fun c1 => ?_)
  · skip
    have tc1 := f_lt (k := 0) (by decide) c1
    refine lv_iconst (v := 0) hx hb dX11_isTray_13 (by decide) ?_
    have z9_0 : (0 : Int32).toInt = 0 := by decide
    exact te_z hx hb hr hlocks (by rfl) hH hS (⟨rfl, by decide, by decide, by omega, by omega⟩) dX11_isTray_14
  · skip
    have tc1 := f_nlt (k := 0) (by decide) c1
    refine lv_iload_n hx hb dX11_isTray_4 rfl (lv_at hl 0 rfl) ?_
    refine lv_iconst (v := 4) hx hb dX11_isTray_5 (by decide) ?_
    refine lv_icmp_ge (tgt := 13) hx hb dX11_isTray_6 (by decide) (fun c6 => ?_) (fun c6 => ?_)
    · skip
      have tc6 := f_ge (k := 4) (by decide) c6
      refine lv_iconst (v := 0) hx hb dX11_isTray_13 (by decide) ?_
      have z9_0 : (0 : Int32).toInt = 0 := by decide
      exact te_z hx hb hr hlocks (by rfl) hH hS (⟨rfl, by decide, by decide, by omega, by omega⟩) dX11_isTray_14
    · skip
      have tc6 := f_nge (k := 4) (by decide) c6
      refine lv_iconst (v := 1) hx hb dX11_isTray_9 (by decide) ?_
      refine lv_goto (tgt := 14) hx hb dX11_isTray_10 (by decide) ?_
      have z9_1 : (1 : Int32).toInt = 1 := by decide
      exact te_z hx hb hr hlocks (by rfl) hH hS (⟨rfl, by decide, by decide, by omega, by omega⟩) dX11_isTray_14
set_option maxHeartbeats 4000000 in
set_option maxRecDepth 100000 in
theorem s_Tray_putF (l : Launch) (D : va_G) (cs : CS) (kf : KF) (T : TF) (O : List Nat) (X : va_W) (a0 na0 : Nat) (x1 : Int32) (x2 : Int64) (t_a0 : T a0 = some (18, na0, 0)) (hO : okO T O [2, 18]) : TK l D cs kf yX8_put cX8_put 4 (some (.long)) { frames := 0, cells := 0, slots := 0, locals := 0 } [.ref a0, .int x1, .long x2] T O X (Tl D cs (fun r u => u = (T, O, X) ∧ (PTF na0 x1.toInt x2 r))) := by
  refine tk_of (by decide) (Nat.le_of_ble_eq_true rfl) (fun p e s m below meth c ls A H locs hx hb hr hml hown hts hlocks hnm hkb hH hS hA hOX hks hE hl => ?_)
  have hown : s.vm.findClass RX8 = some m.cls := hown
  have hl : lv_has ls 4 [(0, .ref a0), (1, .int x1), (2, .long x2)] := hl
  have hO0 := hO
  obtain ⟨fs9, ho9, hH⟩ := hH.take t_a0 (hO0.no t_a0 (by decide))
  have hp0 : okL T (ft8 na0 0) fs9 := ho9
  clear ho9
  obtain ⟨v9, fs9, rfl, h9, hp1⟩ := okL_i hp0
  obtain ⟨q0_0, rfl, t_q0_0⟩ := h9
  obtain ⟨v9, fs9, rfl, h9, hp2⟩ := okL_i hp1
  obtain ⟨q0_1, rfl, so_q0_1⟩ := h9
  obtain ⟨v9, fs9, rfl, h9, hp3⟩ := okL_i hp2
  obtain ⟨q0_2, rfl, l_q0_2, u_q0_2, sz_q0_2⟩ := h9
  have hpz := okL_z hp3
  subst hpz
  have hH : HT D cs A T (a0 :: O) ((a0, .inr (8, [.ref q0_0, .int q0_1, .int q0_2])) :: X) H := hH
  have hO : okO T (a0 :: O) [2] := okO.cons (hO0.sub (by decide)) t_a0 (by decide)
  obtain ⟨e9, hs9, hH⟩ := HT.takeA hH t_q0_0 (nm_c (tag_ne t_q0_0 t_a0 (fun q => absurd (show 2 = 18 from congrArg Prod.fst q) (by decide))) (hO0.no t_q0_0 (by decide)))
  obtain ⟨f0, rfl⟩ : ∃ f : Nat → Int64, e9 = .inl (cs.2.2.1, 40, .inr (.inl f)) := hs9
  have hO : okO T (q0_0 :: a0 :: O) [] := okO.cons (hO.sub (by decide)) t_q0_0 (by decide)
  refine lv_iload_n hx hb dX8_put_0 rfl (lv_at hl 1 rfl) ?_
  refine lv_if_lt (tgt := 10) hx hb dX8_put_1 (by decide) (fun c1 => ?_) (fun c1 => ?_)
  · skip
    have tc1 := f_lt (k := 0) (by decide) c1
    refine lv_ldc2 hx hb hown (hts _ kw_886) dX8_put_10 ?_
    have hH : HT D cs A T (a0 :: O) ((a0, .inr (8, [.ref q0_0, .int q0_1, .int q0_2])) :: X) H := HT.layA hH t_q0_0 (show sp cs T (2, 40, 0) _ from ⟨_, rfl⟩)
    have hH : HT D cs A T O X H := HT.lay (ci := 8) hH t_a0 (okL_c (⟨_, rfl, t_q0_0⟩) (okL_c (⟨_, rfl, so_q0_1⟩) (okL_c (⟨_, rfl, by omega, by omega, sz_q0_2⟩) (okL_n))))
    have hO := hO0
    exact te_l hx hb hr hlocks hH hS (⟨rfl, (fun _ q1 q2 => False.elim (by omega))⟩) dX8_put_13
  · skip
    have tc1 := f_nlt (k := 0) (by decide) c1
    refine lv_iload_n hx hb dX8_put_4 rfl (lv_at hl 1 rfl) ?_
    refine lv_bipush (v := 40) hx hb dX8_put_5 (by decide) ?_
    refine lv_icmp_lt (tgt := 14) hx hb dX8_put_7 (by decide) (fun c7 => ?_) (fun c7 => ?_)
    · skip
      have tc7 := f_lt (k := 40) (by decide) c7
      refine lv_aload_n hx hb dX8_put_14 rfl (lv_at hl 0 rfl) ?_
      refine x_getk (ci := 8) (C := RX8) (F := TX8) (N := 3) (v := .int q0_1) hx hb hts uX8 hown hkb hH 1 rfl rfl 1 (by decide) rfl kw_350 (fun _ h9 => h9) dX8_put_15 ?_
      by_cases c18_0 : q0_1 = 0
      · skip
        refine lv_topc c18_0 ?_
        have tc18_0 := f_eq (k := 0) (by decide) c18_0
        refine lv_tableIn (off := 26) (tgt := 44) hx hb dX8_put_18 (by decide) (by decide) (by decide) (by decide) ?_
        refine lv_aload_n hx hb dX8_put_44 rfl (lv_at hl 0 rfl) ?_
        refine x_getk (ci := 8) (C := RX8) (F := TX8) (N := 3) (v := .ref q0_0) hx hb hts uX8 hown hkb hH 1 rfl rfl 0 (by decide) rfl kw_349 (fun _ h9 => h9) dX8_put_45 ?_
        refine lv_iload_n hx hb dX8_put_48 rfl (lv_at hl 1 rfl) ?_
        refine lv_lload_n hx hb dX8_put_49 rfl (lv_at hl 2 rfl) ?_
        refine lv_l2i hx hb dX8_put_50 rfl ?_
        refine lv_topi (fun v50 ev50 => ?_)
        refine lv_i2b hx hb dX8_put_51 rfl ?_
        refine lv_topi (fun v51 ev51 => ?_)
        refine lv_i2l hx hb dX8_put_52 rfl ?_
        refine xa_lst hx hb hkb hH hS 0 rfl (by omega) (by omega) dX8_put_53 (fun H locs hH hS => ?_)
        have hH : HT D cs A T (q0_0 :: a0 :: O) ((q0_0, .inl (cs.2.2.1, 40, .inr (.inl (vp_updL f0 (x1.toInt.toNat) v51.toInt64)))) :: (a0, .inr (8, [.ref q0_0, .int q0_1, .int q0_2])) :: X) H := hH
        obtain ⟨F53, eF53⟩ : ∃ f9, f9 = vp_updL f0 (x1.toInt.toNat) v51.toInt64 := ⟨_, rfl⟩
        have hH : HT D cs A T (q0_0 :: a0 :: O) ((q0_0, .inl (cs.2.2.1, 40, .inr (.inl F53))) :: (a0, .inr (8, [.ref q0_0, .int q0_1, .int q0_2])) :: X) H := eF53 ▸ hH
        refine lv_goto (tgt := 89) hx hb dX8_put_54 (by decide) ?_
        refine lv_aload_n hx hb dX8_put_89 rfl (lv_at hl 0 rfl) ?_
        refine x_getk (ci := 8) (C := RX8) (F := TX8) (N := 3) (v := .ref q0_0) hx hb hts uX8 hown hkb hH 1 rfl rfl 0 (by decide) rfl kw_349 (fun _ h9 => h9) dX8_put_90 ?_
        refine lv_iload_n hx hb dX8_put_93 rfl (lv_at hl 1 rfl) ?_
        refine xa_lld hx hb hkb hH 0 rfl (by omega) (by omega) dX8_put_94 ?_
        refine lv_topl (fun v94 ev94 => ?_)
        have hH : HT D cs A T (a0 :: O) ((a0, .inr (8, [.ref q0_0, .int q0_1, .int q0_2])) :: X) H := HT.layA hH t_q0_0 (show sp cs T (2, 40, 0) _ from ⟨_, rfl⟩)
        have hH : HT D cs A T O X H := HT.lay (ci := 8) hH t_a0 (okL_c (⟨_, rfl, t_q0_0⟩) (okL_c (⟨_, rfl, so_q0_1⟩) (okL_c (⟨_, rfl, by omega, by omega, sz_q0_2⟩) (okL_n))))
        have hO := hO0
        exact te_l hx hb hr hlocks hH hS (⟨rfl, (fun h9 _ _ => cutF_0 ((so_q0_1 h9).symm.trans (by omega)) (by rw [rd_back (i := x1.toInt.toNat) ev94 eF53, ev51, ev50]))⟩) dX8_put_95
      have tc18_0 := f_ne (k := 0) (by decide) c18_0
      by_cases c18_1 : q0_1 = 1
      · skip
        refine lv_topc c18_1 ?_
        have tc18_1 := f_eq (k := 1) (by decide) c18_1
        refine lv_tableIn (off := 39) (tgt := 57) hx hb dX8_put_18 (by decide) (by decide) (by decide) (by decide) ?_
        refine lv_aload_n hx hb dX8_put_57 rfl (lv_at hl 0 rfl) ?_
        refine x_getk (ci := 8) (C := RX8) (F := TX8) (N := 3) (v := .ref q0_0) hx hb hts uX8 hown hkb hH 1 rfl rfl 0 (by decide) rfl kw_349 (fun _ h9 => h9) dX8_put_58 ?_
        refine lv_iload_n hx hb dX8_put_61 rfl (lv_at hl 1 rfl) ?_
        refine lv_lload_n hx hb dX8_put_62 rfl (lv_at hl 2 rfl) ?_
        refine lv_l2i hx hb dX8_put_63 rfl ?_
        refine lv_topi (fun v63 ev63 => ?_)
        refine lv_i2s hx hb dX8_put_64 rfl ?_
        refine lv_topi (fun v64 ev64 => ?_)
        refine lv_i2l hx hb dX8_put_65 rfl ?_
        refine xa_lst hx hb hkb hH hS 0 rfl (by omega) (by omega) dX8_put_66 (fun H locs hH hS => ?_)
        have hH : HT D cs A T (q0_0 :: a0 :: O) ((q0_0, .inl (cs.2.2.1, 40, .inr (.inl (vp_updL f0 (x1.toInt.toNat) v64.toInt64)))) :: (a0, .inr (8, [.ref q0_0, .int q0_1, .int q0_2])) :: X) H := hH
        obtain ⟨F66, eF66⟩ : ∃ f9, f9 = vp_updL f0 (x1.toInt.toNat) v64.toInt64 := ⟨_, rfl⟩
        have hH : HT D cs A T (q0_0 :: a0 :: O) ((q0_0, .inl (cs.2.2.1, 40, .inr (.inl F66))) :: (a0, .inr (8, [.ref q0_0, .int q0_1, .int q0_2])) :: X) H := eF66 ▸ hH
        refine lv_goto (tgt := 89) hx hb dX8_put_67 (by decide) ?_
        refine lv_aload_n hx hb dX8_put_89 rfl (lv_at hl 0 rfl) ?_
        refine x_getk (ci := 8) (C := RX8) (F := TX8) (N := 3) (v := .ref q0_0) hx hb hts uX8 hown hkb hH 1 rfl rfl 0 (by decide) rfl kw_349 (fun _ h9 => h9) dX8_put_90 ?_
        refine lv_iload_n hx hb dX8_put_93 rfl (lv_at hl 1 rfl) ?_
        refine xa_lld hx hb hkb hH 0 rfl (by omega) (by omega) dX8_put_94 ?_
        refine lv_topl (fun v94 ev94 => ?_)
        have hH : HT D cs A T (a0 :: O) ((a0, .inr (8, [.ref q0_0, .int q0_1, .int q0_2])) :: X) H := HT.layA hH t_q0_0 (show sp cs T (2, 40, 0) _ from ⟨_, rfl⟩)
        have hH : HT D cs A T O X H := HT.lay (ci := 8) hH t_a0 (okL_c (⟨_, rfl, t_q0_0⟩) (okL_c (⟨_, rfl, so_q0_1⟩) (okL_c (⟨_, rfl, by omega, by omega, sz_q0_2⟩) (okL_n))))
        have hO := hO0
        exact te_l hx hb hr hlocks hH hS (⟨rfl, (fun h9 _ _ => cutF_1 ((so_q0_1 h9).symm.trans (by omega)) (by rw [rd_back (i := x1.toInt.toNat) ev94 eF66, ev64, ev63]))⟩) dX8_put_95
      have tc18_1 := f_ne (k := 1) (by decide) c18_1
      by_cases c18_2 : q0_1 = 2
      · skip
        refine lv_topc c18_2 ?_
        have tc18_2 := f_eq (k := 2) (by decide) c18_2
        refine lv_tableIn (off := 52) (tgt := 70) hx hb dX8_put_18 (by decide) (by decide) (by decide) (by decide) ?_
        refine lv_aload_n hx hb dX8_put_70 rfl (lv_at hl 0 rfl) ?_
        refine x_getk (ci := 8) (C := RX8) (F := TX8) (N := 3) (v := .ref q0_0) hx hb hts uX8 hown hkb hH 1 rfl rfl 0 (by decide) rfl kw_349 (fun _ h9 => h9) dX8_put_71 ?_
        refine lv_iload_n hx hb dX8_put_74 rfl (lv_at hl 1 rfl) ?_
        refine lv_lload_n hx hb dX8_put_75 rfl (lv_at hl 2 rfl) ?_
        refine lv_l2i hx hb dX8_put_76 rfl ?_
        refine lv_topi (fun v76 ev76 => ?_)
        refine lv_i2l hx hb dX8_put_77 rfl ?_
        refine xa_lst hx hb hkb hH hS 0 rfl (by omega) (by omega) dX8_put_78 (fun H locs hH hS => ?_)
        have hH : HT D cs A T (q0_0 :: a0 :: O) ((q0_0, .inl (cs.2.2.1, 40, .inr (.inl (vp_updL f0 (x1.toInt.toNat) v76.toInt64)))) :: (a0, .inr (8, [.ref q0_0, .int q0_1, .int q0_2])) :: X) H := hH
        obtain ⟨F78, eF78⟩ : ∃ f9, f9 = vp_updL f0 (x1.toInt.toNat) v76.toInt64 := ⟨_, rfl⟩
        have hH : HT D cs A T (q0_0 :: a0 :: O) ((q0_0, .inl (cs.2.2.1, 40, .inr (.inl F78))) :: (a0, .inr (8, [.ref q0_0, .int q0_1, .int q0_2])) :: X) H := eF78 ▸ hH
        refine lv_goto (tgt := 89) hx hb dX8_put_79 (by decide) ?_
        refine lv_aload_n hx hb dX8_put_89 rfl (lv_at hl 0 rfl) ?_
        refine x_getk (ci := 8) (C := RX8) (F := TX8) (N := 3) (v := .ref q0_0) hx hb hts uX8 hown hkb hH 1 rfl rfl 0 (by decide) rfl kw_349 (fun _ h9 => h9) dX8_put_90 ?_
        refine lv_iload_n hx hb dX8_put_93 rfl (lv_at hl 1 rfl) ?_
        refine xa_lld hx hb hkb hH 0 rfl (by omega) (by omega) dX8_put_94 ?_
        refine lv_topl (fun v94 ev94 => ?_)
        have hH : HT D cs A T (a0 :: O) ((a0, .inr (8, [.ref q0_0, .int q0_1, .int q0_2])) :: X) H := HT.layA hH t_q0_0 (show sp cs T (2, 40, 0) _ from ⟨_, rfl⟩)
        have hH : HT D cs A T O X H := HT.lay (ci := 8) hH t_a0 (okL_c (⟨_, rfl, t_q0_0⟩) (okL_c (⟨_, rfl, so_q0_1⟩) (okL_c (⟨_, rfl, by omega, by omega, sz_q0_2⟩) (okL_n))))
        have hO := hO0
        exact te_l hx hb hr hlocks hH hS (⟨rfl, (fun h9 _ _ => cutF_2 ((so_q0_1 h9).symm.trans (by omega)) (by rw [rd_back (i := x1.toInt.toNat) ev94 eF78, ev76]))⟩) dX8_put_95
      have tc18_2 := f_ne (k := 2) (by decide) c18_2
      refine lv_tableOut (tgt := 82) hx hb dX8_put_18 (by omega) (by decide) ?_
      refine lv_aload_n hx hb dX8_put_82 rfl (lv_at hl 0 rfl) ?_
      refine x_getk (ci := 8) (C := RX8) (F := TX8) (N := 3) (v := .ref q0_0) hx hb hts uX8 hown hkb hH 1 rfl rfl 0 (by decide) rfl kw_349 (fun _ h9 => h9) dX8_put_83 ?_
      refine lv_iload_n hx hb dX8_put_86 rfl (lv_at hl 1 rfl) ?_
      refine lv_lload_n hx hb dX8_put_87 rfl (lv_at hl 2 rfl) ?_
      refine xa_lst hx hb hkb hH hS 0 rfl (by omega) (by omega) dX8_put_88 (fun H locs hH hS => ?_)
      have hH : HT D cs A T (q0_0 :: a0 :: O) ((q0_0, .inl (cs.2.2.1, 40, .inr (.inl (vp_updL f0 (x1.toInt.toNat) x2)))) :: (a0, .inr (8, [.ref q0_0, .int q0_1, .int q0_2])) :: X) H := hH
      obtain ⟨F88, eF88⟩ : ∃ f9, f9 = vp_updL f0 (x1.toInt.toNat) x2 := ⟨_, rfl⟩
      have hH : HT D cs A T (q0_0 :: a0 :: O) ((q0_0, .inl (cs.2.2.1, 40, .inr (.inl F88))) :: (a0, .inr (8, [.ref q0_0, .int q0_1, .int q0_2])) :: X) H := eF88 ▸ hH
      refine lv_aload_n hx hb dX8_put_89 rfl (lv_at hl 0 rfl) ?_
      refine x_getk (ci := 8) (C := RX8) (F := TX8) (N := 3) (v := .ref q0_0) hx hb hts uX8 hown hkb hH 1 rfl rfl 0 (by decide) rfl kw_349 (fun _ h9 => h9) dX8_put_90 ?_
      refine lv_iload_n hx hb dX8_put_93 rfl (lv_at hl 1 rfl) ?_
      refine xa_lld hx hb hkb hH 0 rfl (by omega) (by omega) dX8_put_94 ?_
      refine lv_topl (fun v94 ev94 => ?_)
      have hH : HT D cs A T (a0 :: O) ((a0, .inr (8, [.ref q0_0, .int q0_1, .int q0_2])) :: X) H := HT.layA hH t_q0_0 (show sp cs T (2, 40, 0) _ from ⟨_, rfl⟩)
      have hH : HT D cs A T O X H := HT.lay (ci := 8) hH t_a0 (okL_c (⟨_, rfl, t_q0_0⟩) (okL_c (⟨_, rfl, so_q0_1⟩) (okL_c (⟨_, rfl, by omega, by omega, sz_q0_2⟩) (okL_n))))
      have hO := hO0
      exact te_l hx hb hr hlocks hH hS (⟨rfl, (fun h9 _ _ => cutF_3 (by have q9 := so_q0_1 h9; omega) (by have q9 := so_q0_1 h9; omega) (by have q9 := so_q0_1 h9; omega) (by rw [rd_back (i := x1.toInt.toNat) ev94 eF88]))⟩) dX8_put_95
    · skip
      have tc7 := f_nlt (k := 40) (by decide) c7
      refine lv_ldc2 hx hb hown (hts _ kw_886) dX8_put_10 ?_
      have hH : HT D cs A T (a0 :: O) ((a0, .inr (8, [.ref q0_0, .int q0_1, .int q0_2])) :: X) H := HT.layA hH t_q0_0 (show sp cs T (2, 40, 0) _ from ⟨_, rfl⟩)
      have hH : HT D cs A T O X H := HT.lay (ci := 8) hH t_a0 (okL_c (⟨_, rfl, t_q0_0⟩) (okL_c (⟨_, rfl, so_q0_1⟩) (okL_c (⟨_, rfl, by omega, by omega, sz_q0_2⟩) (okL_n))))
      have hO := hO0
      exact te_l hx hb hr hlocks hH hS (⟨rfl, (fun _ q1 q2 => False.elim (by omega))⟩) dX8_put_13
set_option maxHeartbeats 4000000 in
set_option maxRecDepth 100000 in
theorem s_FW_writeF (l : Launch) (D : va_G) (cs : CS) (kf : KF) (T : TF) (O : List Nat) (X : va_W) (a0 w hw gw ch gq : Nat) (x1 : Int32) (x2 : Int32) (x3 : Int64) (t_a0 : T a0 = some (21, w, ch)) (t_w : isW T w hw gw) (t_ch : T ch = some (10, gq, 0)) (hO : okO T O [2, 6, 18, 21]) : TK l D cs kf yX11_write cX11_write 6 (some (.long)) { frames := 1, cells := 0, slots := 0, locals := 23 } [.ref a0, .int x1, .int x2, .long x3] T O X (Tl D cs (fun r u => u = (T, O, X) ∧ (WRF gq x1.toInt x2.toInt x3 r))) := by
  refine tk_of (by decide) (Nat.le_of_ble_eq_true rfl) (fun p e s m below meth c ls A H locs hx hb hr hml hown hts hlocks hnm hkb hH hS hA hOX hks hE hl => ?_)
  have hown : s.vm.findClass RX11 = some m.cls := hown
  have hl : lv_has ls 6 [(0, .ref a0), (1, .int x1), (2, .int x2), (3, .long x3)] := hl
  have b1_w := t_w.2.1
  have b2_w := t_w.2.2
  refine lv_iload_n hx hb dX11_write_0 rfl (lv_at hl 1 rfl) ?_
  refine tk_i hH hS hA (tr_S (n := 1) (As := [.int x1]) hx hb hml hown hts hkb hH hOX hks hE hS hA (s_FW_isTray2 l D cs kf T O X x1  (hO.sub (by decide))) kw_871 kw_872 kw_1 kw_873 (by decide +kernel) ⟨Nat.le_of_ble_eq_true rfl, Nat.le_of_ble_eq_true rfl⟩ rfl rfl hl.1 (Nat.le_of_ble_eq_true rfl) dX11_write_1 ⟨Nat.le_of_ble_eq_true rfl, Nat.le_of_ble_eq_true rfl⟩) (fun v1 u H locs hz9 hH hS => ?_)
  obtain ⟨rfl, l_v1, u_v1, x_v10, x_v11⟩ := hz9
  have hH : HT D cs A T O X H := hH
  refine W.widen (k := 0) (n := 0) (Nat.le_of_ble_eq_true rfl) (Nat.le_of_ble_eq_true rfl) ?_
  refine lv_if_ne (tgt := 11) hx hb dX11_write_4 (by decide) (fun c4 => ?_) (fun c4 => ?_)
  · skip
    have tc4 := f_ne (k := 0) (by decide) c4
    replace x_v10 := x_v10.resolve_left tc4
    clear x_v11
    refine lv_aload_n hx hb dX11_write_11 rfl (lv_at hl 0 rfl) ?_
    refine t_get (ci := 11) (lst := ft11 w ch) (C := RX11) (F := TX11) (N := 20) hx hb hts uX11 hown hkb hH t_a0 (hO.no t_a0 (by decide)) (fun _ h9 => h9) rfl rfl 11 (by decide) rfl kw_371 (fun _ h9 => h9) dX11_write_12 (fun v9 h9 => ?_)
    obtain ⟨v12, g9, rfl, t_v12, gt_v12⟩ := h9
    have q9 := tl_eq gt_v12 t_ch
    rw [q9] at t_v12
    refine lv_iload_n hx hb dX11_write_15 rfl (lv_at hl 1 rfl) ?_
    refine t_qld6 hx hb hkb hH t_v12 (hO.no t_v12 (by decide)) (by omega) (by omega) dX11_write_16 (fun v16 t_v16 => ?_)
    refine lv_astore (lv' := [(5, .ref v16), (0, .ref a0), (1, .int x1), (2, .int x2), (3, .long x3)]) hx hb dX11_write_17 hl (by decide) rfl (fun ls hl => ?_)
    refine lv_aload hx hb dX11_write_19 (lv_at hl 0 rfl) ?_
    refine tk_i hH hS hA (tr_V (n := 0) (As := []) hx hb hml hown hts hkb hH hOX hks hE hS hA (s_Tray_isMissing l D cs kf T O X v16 (cdv gq x1.toInt.toNat) t_v16 (hO.sub (by decide))) kw_874 kw_875 kw_876 kw_12 kw_877 (by decide +kernel) ⟨Nat.le_of_ble_eq_true rfl, Nat.le_of_ble_eq_true rfl⟩ (HT.recv (ci := 8) hkb hH t_v16 (hO.no t_v16 (by decide)) rfl) rfl rfl hl.1 (Nat.le_of_ble_eq_true rfl) dX11_write_21 ⟨Nat.le_of_ble_eq_true rfl, Nat.le_of_ble_eq_true rfl⟩) (fun v21 u H locs hz9 hH hS => ?_)
    obtain ⟨rfl, l_v21, u_v21, x_v210, x_v211⟩ := hz9
    have hH : HT D cs A T O X H := hH
    refine W.widen (k := 0) (n := 0) (Nat.le_of_ble_eq_true rfl) (Nat.le_of_ble_eq_true rfl) ?_
    refine lv_if_eq (tgt := 31) hx hb dX11_write_24 (by decide) (fun c24 => ?_) (fun c24 => ?_)
    · skip
      have tc24 := f_eq (k := 0) (by decide) c24
      clear x_v210
      replace x_v211 := x_v211.resolve_left (fun q9 => q9 tc24)
      refine lv_iload_n hx hb dX11_write_31 rfl (lv_at hl 3 rfl) ?_
      refine lv_if_lt (tgt := 44) hx hb dX11_write_32 (by decide) (fun c32 => ?_) (fun c32 => ?_)
      · skip
        have tc32 := f_lt (k := 0) (by decide) c32
        refine lv_ldc2 hx hb hown (hts _ kw_1189) dX11_write_44 ?_
        exact te_l hx hb hr hlocks hH hS (⟨rfl, (Or.inr (Or.inr (Or.inl ⟨by omega, x_v211, by omega, rfl⟩)))⟩) dX11_write_47
      · skip
        have tc32 := f_nlt (k := 0) (by decide) c32
        refine lv_iload_n hx hb dX11_write_35 rfl (lv_at hl 3 rfl) ?_
        refine lv_aload hx hb dX11_write_36 (lv_at hl 0 rfl) ?_
        refine t_get (ci := 8) (lst := ft8 (cdv gq x1.toInt.toNat) 0) (C := RX8) (F := TX8) (N := 3) hx hb hts uX8 hown hkb hH t_v16 (hO.no t_v16 (by decide)) (fun _ h9 => h9) rfl rfl 2 (by decide) rfl kw_352 (fun _ h9 => h9) dX11_write_38 (fun v9 h9 => ?_)
        obtain ⟨v38, rfl, l_v38, u_v38, sz_v38⟩ := h9
        refine lv_icmp_lt (tgt := 48) hx hb dX11_write_41 (by decide) (fun c41 => ?_) (fun c41 => ?_)
        · skip
          have fuc41 := full_i x2
          have fvc41 := full_i v38
          have tc41 := g_lt c41
          refine lv_aload hx hb dX11_write_48 (lv_at hl 0 rfl) ?_
          refine lv_iload_n hx hb dX11_write_50 rfl (lv_at hl 3 rfl) ?_
          refine lv_lload_n hx hb dX11_write_51 rfl (lv_at hl 4 rfl) ?_
          refine tk_l hH hS hA (tr_V (n := 2) (As := [.int x2, .long x3]) hx hb hml hown hts hkb hH hOX hks hE hS hA (s_Tray_putF l D cs kf T O X v16 (cdv gq x1.toInt.toNat) x2 x3 t_v16 (hO.sub (by decide))) kw_1190 kw_1191 kw_1192 kw_12 kw_1193 (by decide +kernel) ⟨Nat.le_of_ble_eq_true rfl, Nat.le_of_ble_eq_true rfl⟩ (HT.recv (ci := 8) hkb hH t_v16 (hO.no t_v16 (by decide)) rfl) rfl rfl hl.1 (Nat.le_of_ble_eq_true rfl) dX11_write_52 ⟨Nat.le_of_ble_eq_true rfl, Nat.le_of_ble_eq_true rfl⟩) (fun v52 u H locs hz9 hH hS => ?_)
          obtain ⟨rfl, x_v520⟩ := hz9
          have hH : HT D cs A T O X H := hH
          refine W.widen (k := 0) (n := 0) (Nat.le_of_ble_eq_true rfl) (Nat.le_of_ble_eq_true rfl) ?_
          exact te_l hx hb hr hlocks hH hS (⟨rfl, (Or.inr (Or.inr (Or.inr ⟨by omega, x_v211, by omega, x_v520 x_v211 (by omega) (by omega)⟩)))⟩) dX11_write_55
        · skip
          have fuc41 := full_i x2
          have fvc41 := full_i v38
          have tc41 := g_nlt c41
          refine lv_ldc2 hx hb hown (hts _ kw_1189) dX11_write_44 ?_
          exact te_l hx hb hr hlocks hH hS (⟨rfl, (Or.inr (Or.inr (Or.inl ⟨by omega, x_v211, by omega, rfl⟩)))⟩) dX11_write_47
    · skip
      have tc24 := f_ne (k := 0) (by decide) c24
      replace x_v210 := x_v210.resolve_left tc24
      clear x_v211
      refine lv_ldc2 hx hb hown (hts _ kw_1188) dX11_write_27 ?_
      exact te_l hx hb hr hlocks hH hS (⟨rfl, (Or.inr (Or.inl ⟨by omega, x_v210, rfl⟩))⟩) dX11_write_30
  · skip
    have tc4 := f_eq (k := 0) (by decide) c4
    clear x_v10
    replace x_v11 := x_v11.resolve_left (fun q9 => q9 tc4)
    refine lv_ldc2 hx hb hown (hts _ kw_988) dX11_write_7 ?_
    exact te_l hx hb hr hlocks hH hS (⟨rfl, (Or.inl ⟨by omega, rfl⟩)⟩) dX11_write_10
theorem dX11_numbers_0 : decode cX11_numbers 0 = .ok (.iload_n 1, 1) := by decide +kernel
theorem dX11_numbers_1 : decode cX11_numbers 1 = .ok (.invokestatic 229, 3) := by decide +kernel
theorem dX11_numbers_4 : decode cX11_numbers 4 = .ok (.ifCond .eq 12, 3) := by decide +kernel
theorem dX11_numbers_7 : decode cX11_numbers 7 = .ok (.iload_n 2, 1) := by decide +kernel
theorem dX11_numbers_8 : decode cX11_numbers 8 = .ok (.ifCond .lt 8, 3) := by decide +kernel
theorem dX11_numbers_11 : decode cX11_numbers 11 = .ok (.iload_n 2, 1) := by decide +kernel
theorem dX11_numbers_12 : decode cX11_numbers 12 = .ok (.iconst 3, 1) := by decide +kernel
theorem dX11_numbers_13 : decode cX11_numbers 13 = .ok (.if_icmp .le 6, 3) := by decide +kernel
theorem dX11_numbers_16 : decode cX11_numbers 16 = .ok (.bipush (-2), 2) := by decide +kernel
theorem dX11_numbers_18 : decode cX11_numbers 18 = .ok (.ireturn, 1) := by decide +kernel
theorem dX11_numbers_19 : decode cX11_numbers 19 = .ok (.iload_n 3, 1) := by decide +kernel
theorem dX11_numbers_20 : decode cX11_numbers 20 = .ok (.ifCond .lt 9, 3) := by decide +kernel
theorem dX11_numbers_23 : decode cX11_numbers 23 = .ok (.iload_n 3, 1) := by decide +kernel
theorem dX11_numbers_24 : decode cX11_numbers 24 = .ok (.bipush 40, 2) := by decide +kernel
theorem dX11_numbers_26 : decode cX11_numbers 26 = .ok (.if_icmp .le 6, 3) := by decide +kernel
theorem dX11_numbers_29 : decode cX11_numbers 29 = .ok (.bipush (-3), 2) := by decide +kernel
theorem dX11_numbers_31 : decode cX11_numbers 31 = .ok (.ireturn, 1) := by decide +kernel
theorem dX11_numbers_32 : decode cX11_numbers 32 = .ok (.aload_n 0, 1) := by decide +kernel
theorem dX11_numbers_33 : decode cX11_numbers 33 = .ok (.getfield 62, 3) := by decide +kernel
theorem dX11_numbers_36 : decode cX11_numbers 36 = .ok (.iload_n 1, 1) := by decide +kernel
theorem dX11_numbers_37 : decode cX11_numbers 37 = .ok (.aaload, 1) := by decide +kernel
theorem dX11_numbers_38 : decode cX11_numbers 38 = .ok (.iload_n 2, 1) := by decide +kernel
theorem dX11_numbers_39 : decode cX11_numbers 39 = .ok (.iload_n 3, 1) := by decide +kernel
theorem dX11_numbers_40 : decode cX11_numbers 40 = .ok (.invokevirtual 362, 3) := by decide +kernel
theorem dX11_numbers_43 : decode cX11_numbers 43 = .ok (.iconst 0, 1) := by decide +kernel
theorem dX11_numbers_44 : decode cX11_numbers 44 = .ok (.ireturn, 1) := by decide +kernel
theorem dX8_lay_0 : decode cX8_lay 0 = .ok (.aload_n 0, 1) := by decide +kernel
theorem dX8_lay_1 : decode cX8_lay 1 = .ok (.iload_n 1, 1) := by decide +kernel
theorem dX8_lay_2 : decode cX8_lay 2 = .ok (.putfield 15, 3) := by decide +kernel
theorem dX8_lay_5 : decode cX8_lay 5 = .ok (.aload_n 0, 1) := by decide +kernel
theorem dX8_lay_6 : decode cX8_lay 6 = .ok (.iload_n 2, 1) := by decide +kernel
theorem dX8_lay_7 : decode cX8_lay 7 = .ok (.putfield 19, 3) := by decide +kernel
theorem dX8_lay_10 : decode cX8_lay 10 = .ok (.aload_n 0, 1) := by decide +kernel
theorem dX8_lay_11 : decode cX8_lay 11 = .ok (.getfield 9, 3) := by decide +kernel
theorem dX8_lay_14 : decode cX8_lay 14 = .ok (.lconst 0, 1) := by decide +kernel
theorem dX8_lay_15 : decode cX8_lay 15 = .ok (.invokestatic 22, 3) := by decide +kernel
theorem dX8_lay_18 : decode cX8_lay 18 = .ok (.return_, 1) := by decide +kernel
theorem kw_1177 : Cond.methodLink "FootholdWall" 362 yX8_lay ∈ gw := gw_of (tb_of 1177 (by decide +kernel)) (by decide +kernel)
theorem kw_1178 : Cond.instanceMethod yX8_lay ∈ gw := gw_of (tb_of 1178 (by decide +kernel)) (by decide +kernel)
theorem kw_1179 : Cond.selects "FootholdWall$Tray" yX8_lay yX8_lay ∈ gw := gw_of (tb_of 1179 (by decide +kernel)) (by decide +kernel)
theorem kw_1180 : Cond.code yX8_lay cX8_lay 3 none ∈ gw := gw_of (tb_of 1180 (by decide +kernel)) (by decide +kernel)
theorem kw_1181 : Cond.methodLink "FootholdWall$Tray" 22 yJ7_fill_d0a16 ∈ gw := gw_of (tb_of 1181 (by decide +kernel)) (by decide +kernel)
theorem kw_1182 : Cond.static yJ7_fill_d0a16 ∈ gw := gw_of (tb_of 1182 (by decide +kernel)) (by decide +kernel)
theorem kw_1183 : Cond.code yJ7_fill_d0a16 cJ7_fill_d0a16 5 none ∈ gw := gw_of (tb_of 1183 (by decide +kernel)) (by decide +kernel)
set_option maxHeartbeats 4000000 in
set_option maxRecDepth 100000 in
theorem s_Tray_layX (l : Launch) (D : va_G) (cs : CS) (kf : KF) (T : TF) (O : List Nat) (X : va_W) (a0 : Nat) (x1 : Int32) (x2 : Int32) (y0 : Nat) (y1 : Int32) (y2 : Int32) (tp : Nat) (t_a0 : T a0 = some (18, tp, 0)) (t_y0 : T y0 = some (2, 40, 0)) (hO : okO T (a0 :: O) [2]) : TK l D cs kf yX8_lay cX8_lay 3 none { frames := 1, cells := 0, slots := 0, locals := 24 } [.ref a0, .int x1, .int x2] T (a0 :: O) ((a0, .inr (8, [.ref y0, .int y1, .int y2])) :: X) (Tv D cs (fun u => u = (T, a0 :: O, (a0, .inr (8, [.ref y0, .int x1, .int x2])) :: X))) := by
  refine tk_of (by decide) (Nat.le_of_ble_eq_true rfl) (fun p e s m below meth c ls A H locs hx hb hr hml hown hts hlocks hnm hkb hH hS hA hOX hks hE hl => ?_)
  have hown : s.vm.findClass RX8 = some m.cls := hown
  have hl : lv_has ls 3 [(0, .ref a0), (1, .int x1), (2, .int x2)] := hl
  have hOXf := hOX
  refine lv_aload_n hx hb dX8_lay_0 rfl (lv_at hl 0 rfl) ?_
  refine lv_iload_n hx hb dX8_lay_1 rfl (lv_at hl 1 rfl) ?_
  refine x_putk (ci := 8) (v := .int x1) (ty := tyX8 1) (C := RX8) (F := TX8) (N := 3) hx hb hts uX8 tyX8 tyX8_ok nmX8 hown hkb hH hS 0 rfl rfl 1 (by decide) kw_350 (fun _ h9 => h9) rfl (tyX8_ok 1 (by decide)) rfl rfl (Nat.le_of_ble_eq_true rfl) dX8_lay_2 (fun H locs hH hS => ?_)
  have hH : HT D cs A T (a0 :: O) ((a0, .inr (8, [.ref y0, .int x1, .int y2])) :: X) H := hH
  refine lv_aload_n hx hb dX8_lay_5 rfl (lv_at hl 0 rfl) ?_
  refine lv_iload_n hx hb dX8_lay_6 rfl (lv_at hl 2 rfl) ?_
  refine x_putk (ci := 8) (v := .int x2) (ty := tyX8 2) (C := RX8) (F := TX8) (N := 3) hx hb hts uX8 tyX8 tyX8_ok nmX8 hown hkb hH hS 0 rfl rfl 2 (by decide) kw_351 (fun _ h9 => h9) rfl (tyX8_ok 2 (by decide)) rfl rfl (Nat.le_of_ble_eq_true rfl) dX8_lay_7 (fun H locs hH hS => ?_)
  have hH : HT D cs A T (a0 :: O) ((a0, .inr (8, [.ref y0, .int x1, .int x2])) :: X) H := hH
  refine lv_aload_n hx hb dX8_lay_10 rfl (lv_at hl 0 rfl) ?_
  refine x_getk (ci := 8) (C := RX8) (F := TX8) (N := 3) (v := .ref y0) hx hb hts uX8 hown hkb hH 0 rfl rfl 0 (by decide) rfl kw_349 (fun _ h9 => h9) dX8_lay_11 ?_
  refine lv_lconst (v := 0) hx hb dX8_lay_14 (by decide) ?_
  refine tk_v hH hS hA (tr_S (n := 2) (As := [.ref y0, .long 0]) hx hb hml hown hts hkb hH (ox_map hOX rfl) hks hE hS hA (s_fill l D cs kf T (a0 :: O) ((a0, .inr (8, [.ref y0, .int x1, .int x2])) :: X) y0 0 t_y0 (hO.sub (by decide))) kw_1181 kw_1182 kw_22 kw_1183 (by decide +kernel) ⟨Nat.le_of_ble_eq_true rfl, Nat.le_of_ble_eq_true rfl⟩ rfl rfl hl.1 (Nat.le_of_ble_eq_true rfl) dX8_lay_15 ⟨Nat.le_of_ble_eq_true rfl, Nat.le_of_ble_eq_true rfl⟩) (fun u H locs hz9 hH hS => ?_)
  have hz9 : u = (T, a0 :: O, (a0, .inr (8, [.ref y0, .int x1, .int x2])) :: X) := hz9
  subst hz9
  have hH : HT D cs A T (a0 :: O) ((a0, .inr (8, [.ref y0, .int x1, .int x2])) :: X) H := hH
  refine W.widen (k := 0) (n := 0) (Nat.le_of_ble_eq_true rfl) (Nat.le_of_ble_eq_true rfl) ?_
  exact te_v hx hb hr hlocks hH hS (rfl) dX8_lay_18
set_option maxHeartbeats 4000000 in
set_option maxRecDepth 100000 in
theorem s_FW_numbers (l : Launch) (D : va_G) (cs : CS) (kf : KF) (T : TF) (O : List Nat) (X : va_W) (a0 w hw gw ch gq : Nat) (x1 : Int32) (x2 : Int32) (x3 : Int32) (ar : Nat) (t_a0 : T a0 = some (21, w, ch)) (t_w : isW T w hw gw) (t_ch : T ch = some (10, gq, 0)) (hU1 : ∀ (b : Nat) (tg : Tg), T b = some tg → tg.1 = 21 → b = a0) (hU6 : ∀ (b : Nat) (tg : Tg), T b = some tg → tg.1 = 6 → b = ar) (hcO : ch ∈ O) (hO : okO T O [2, 6, 18, 21]) : TK l D cs kf yX11_numbers cX11_numbers 4 (some (.int)) { frames := 2, cells := 0, slots := 0, locals := 46 } [.ref a0, .int x1, .int x2, .int x3] T O X (Ti D cs (fun r u => ∃ (T2 : TF) (gq2 : Nat), u = (T2, O, X) ∧ -3 ≤ r.toInt ∧ r.toInt ≤ 0 ∧ (Tgc T T2 ar) ∧ (T2 ch = some (10, gq2, 0)) ∧ (NGF gq gq2 x1.toInt x2.toInt x3.toInt r.toInt))) := by
  refine tk_of (by decide) (Nat.le_of_ble_eq_true rfl) (fun p e s m below meth c ls A H locs hx hb hr hml hown hts hlocks hnm hkb hH hS hA hOX hks hE hl => ?_)
  have hown : s.vm.findClass RX11 = some m.cls := hown
  have hl : lv_has ls 4 [(0, .ref a0), (1, .int x1), (2, .int x2), (3, .int x3)] := hl
  have b1_w := t_w.2.1
  have b2_w := t_w.2.2
  have hO0 := hO
  obtain ⟨fs9, ho9, hH⟩ := hH.take t_a0 (hO0.no t_a0 (by decide))
  have hp0 : okL T (ft11 w ch) fs9 := ho9
  clear ho9
  obtain ⟨v9, fs9, rfl, h9, hp1⟩ := okL_i hp0
  obtain ⟨q0_0, rfl, t_q0_0⟩ := h9
  obtain ⟨v9, fs9, rfl, h9, hp2⟩ := okL_i hp1
  obtain ⟨q0_1, rfl, l_q0_1, u_q0_1⟩ := h9
  obtain ⟨v9, fs9, rfl, h9, hp3⟩ := okL_i hp2
  obtain ⟨q0_2, dq0_2, rfl, t_q0_2, t_dq0_2⟩ := h9
  obtain ⟨v9, fs9, rfl, h9, hp4⟩ := okL_i hp3
  have h9 : v9 = .ref w := h9
  subst h9
  obtain ⟨v9, fs9, rfl, h9, hp5⟩ := okL_i hp4
  obtain ⟨q0_4, rfl, t_q0_4⟩ := h9
  obtain ⟨v9, fs9, rfl, h9, hp6⟩ := okL_i hp5
  obtain ⟨q0_5, rfl, t_q0_5⟩ := h9
  obtain ⟨v9, fs9, rfl, h9, hp7⟩ := okL_i hp6
  obtain ⟨q0_6, rfl, t_q0_6⟩ := h9
  obtain ⟨v9, fs9, rfl, h9, hp8⟩ := okL_i hp7
  obtain ⟨q0_7, rfl, l_q0_7, u_q0_7⟩ := h9
  obtain ⟨v9, fs9, rfl, h9, hp9⟩ := okL_i hp8
  obtain ⟨q0_8, rfl, l_q0_8, u_q0_8⟩ := h9
  obtain ⟨v9, fs9, rfl, h9, hp10⟩ := okL_i hp9
  obtain ⟨q0_9, rfl, t_q0_9⟩ := h9
  obtain ⟨v9, fs9, rfl, h9, hp11⟩ := okL_i hp10
  obtain ⟨q0_10, rfl, t_q0_10⟩ := h9
  obtain ⟨v9, fs9, rfl, h9, hp12⟩ := okL_i hp11
  obtain ⟨q0_11, g9, rfl, t_q0_11, gt_q0_11⟩ := h9
  have q9 := tl_eq gt_q0_11 t_ch
  rw [q9] at t_q0_11
  obtain ⟨v9, fs9, rfl, h9, hp13⟩ := okL_i hp12
  obtain ⟨q0_12, rfl, t_q0_12⟩ := h9
  obtain ⟨v9, fs9, rfl, h9, hp14⟩ := okL_i hp13
  obtain ⟨q0_13, rfl, t_q0_13⟩ := h9
  obtain ⟨v9, fs9, rfl, h9, hp15⟩ := okL_i hp14
  obtain ⟨q0_14, rfl, t_q0_14⟩ := h9
  obtain ⟨v9, fs9, rfl, h9, hp16⟩ := okL_i hp15
  obtain ⟨q0_15, rfl, t_q0_15⟩ := h9
  obtain ⟨v9, fs9, rfl, h9, hp17⟩ := okL_i hp16
  have h9 : v9 = .ref ch := h9
  subst h9
  obtain ⟨v9, fs9, rfl, h9, hp18⟩ := okL_i hp17
  obtain ⟨q0_17, rfl, t_q0_17⟩ := h9
  obtain ⟨v9, fs9, rfl, h9, hp19⟩ := okL_i hp18
  obtain ⟨q0_18, rfl, t_q0_18⟩ := h9
  obtain ⟨v9, fs9, rfl, h9, hp20⟩ := okL_i hp19
  obtain ⟨q0_19, rfl⟩ := h9
  have hpz := okL_z hp20
  subst hpz
  have hH : HT D cs A T (a0 :: O) ((a0, .inr (11, [.ref q0_0, .int q0_1, .ref q0_2, .ref w, .ref q0_4, .ref q0_5, .ref q0_6, .int q0_7, .int q0_8, .ref q0_9, .ref q0_10, .ref q0_11, .ref q0_12, .ref q0_13, .ref q0_14, .ref q0_15, .ref ch, .ref q0_17, .ref q0_18, .int q0_19])) :: X) H := hH
  have hO : okO T (a0 :: O) [2, 6, 18] := okO.cons (hO0.sub (by decide)) t_a0 (by decide)
  refine lv_iload_n hx hb dX11_numbers_0 rfl (lv_at hl 1 rfl) ?_
  refine tk_i hH hS hA (tr_S (n := 1) (As := [.int x1]) hx hb hml hown hts hkb hH (ox_c hOX) hks hE hS hA (s_FW_isTray2 l D cs kf T (a0 :: O) ((a0, .inr (11, [.ref q0_0, .int q0_1, .ref q0_2, .ref w, .ref q0_4, .ref q0_5, .ref q0_6, .int q0_7, .int q0_8, .ref q0_9, .ref q0_10, .ref q0_11, .ref q0_12, .ref q0_13, .ref q0_14, .ref q0_15, .ref ch, .ref q0_17, .ref q0_18, .int q0_19])) :: X) x1  (hO.sub (by decide))) kw_871 kw_872 kw_1 kw_873 (by decide +kernel) ⟨Nat.le_of_ble_eq_true rfl, Nat.le_of_ble_eq_true rfl⟩ rfl rfl hl.1 (Nat.le_of_ble_eq_true rfl) dX11_numbers_1 ⟨Nat.le_of_ble_eq_true rfl, Nat.le_of_ble_eq_true rfl⟩) (fun v1 u H locs hz9 hH hS => ?_)
  obtain ⟨rfl, l_v1, u_v1, x_v10, x_v11⟩ := hz9
  have hH : HT D cs A T (a0 :: O) ((a0, .inr (11, [.ref q0_0, .int q0_1, .ref q0_2, .ref w, .ref q0_4, .ref q0_5, .ref q0_6, .int q0_7, .int q0_8, .ref q0_9, .ref q0_10, .ref q0_11, .ref q0_12, .ref q0_13, .ref q0_14, .ref q0_15, .ref ch, .ref q0_17, .ref q0_18, .int q0_19])) :: X) H := hH
  refine W.widen (k := 0) (n := 0) (Nat.le_of_ble_eq_true rfl) (Nat.le_of_ble_eq_true rfl) ?_
  refine lv_if_eq (tgt := 16) hx hb dX11_numbers_4 (by decide) (fun c4 => ?_) (fun c4 => ?_)
  · skip
    have tc4 := f_eq (k := 0) (by decide) c4
    clear x_v10
    replace x_v11 := x_v11.resolve_left (fun q9 => q9 tc4)
    refine lv_bipush (v := (-2)) hx hb dX11_numbers_16 (by decide) ?_
    have hH : HT D cs A T O X H := HT.lay (ci := 11) hH t_a0 (okL_c (⟨_, rfl, t_q0_0⟩) (okL_c (⟨_, rfl, by omega, by omega⟩) (okL_c (⟨_, _, rfl, t_q0_2, t_dq0_2⟩) (okL_c (rfl) (okL_c (⟨_, rfl, t_q0_4⟩) (okL_c (⟨_, rfl, t_q0_5⟩) (okL_c (⟨_, rfl, t_q0_6⟩) (okL_c (⟨_, rfl, by omega, by omega⟩) (okL_c (⟨_, rfl, by omega, by omega⟩) (okL_c (⟨_, rfl, t_q0_9⟩) (okL_c (⟨_, rfl, t_q0_10⟩) (okL_c (⟨_, _, rfl, t_q0_11, t_ch⟩) (okL_c (⟨_, rfl, t_q0_12⟩) (okL_c (⟨_, rfl, t_q0_13⟩) (okL_c (⟨_, rfl, t_q0_14⟩) (okL_c (⟨_, rfl, t_q0_15⟩) (okL_c (rfl) (okL_c (⟨_, rfl, t_q0_17⟩) (okL_c (⟨_, rfl, t_q0_18⟩) (okL_c (⟨_, rfl⟩) (okL_n)))))))))))))))))))))
    have hO := hO0
    have z9_m2 : ((-2) : Int32).toInt = -2 := by decide
    exact te_i hx hb hr hlocks hH hS (⟨T, gq, rfl, by decide, by decide, Tgc.rf, t_ch, (Or.inl ⟨by decide, by omega, rfl⟩)⟩) dX11_numbers_18
  · skip
    have tc4 := f_ne (k := 0) (by decide) c4
    replace x_v10 := x_v10.resolve_left tc4
    clear x_v11
    refine lv_iload_n hx hb dX11_numbers_7 rfl (lv_at hl 2 rfl) ?_
    refine lv_if_lt (tgt := 16) hx hb dX11_numbers_8 (by decide) (fun c8 => ?_) (fun c8 => ?_)
    · skip
      have tc8 := f_lt (k := 0) (by decide) c8
      refine lv_bipush (v := (-2)) hx hb dX11_numbers_16 (by decide) ?_
      have hH : HT D cs A T O X H := HT.lay (ci := 11) hH t_a0 (okL_c (⟨_, rfl, t_q0_0⟩) (okL_c (⟨_, rfl, by omega, by omega⟩) (okL_c (⟨_, _, rfl, t_q0_2, t_dq0_2⟩) (okL_c (rfl) (okL_c (⟨_, rfl, t_q0_4⟩) (okL_c (⟨_, rfl, t_q0_5⟩) (okL_c (⟨_, rfl, t_q0_6⟩) (okL_c (⟨_, rfl, by omega, by omega⟩) (okL_c (⟨_, rfl, by omega, by omega⟩) (okL_c (⟨_, rfl, t_q0_9⟩) (okL_c (⟨_, rfl, t_q0_10⟩) (okL_c (⟨_, _, rfl, t_q0_11, t_ch⟩) (okL_c (⟨_, rfl, t_q0_12⟩) (okL_c (⟨_, rfl, t_q0_13⟩) (okL_c (⟨_, rfl, t_q0_14⟩) (okL_c (⟨_, rfl, t_q0_15⟩) (okL_c (rfl) (okL_c (⟨_, rfl, t_q0_17⟩) (okL_c (⟨_, rfl, t_q0_18⟩) (okL_c (⟨_, rfl⟩) (okL_n)))))))))))))))))))))
      have hO := hO0
      have z9_m2 : ((-2) : Int32).toInt = -2 := by decide
      exact te_i hx hb hr hlocks hH hS (⟨T, gq, rfl, by decide, by decide, Tgc.rf, t_ch, (Or.inl ⟨by decide, by omega, rfl⟩)⟩) dX11_numbers_18
    · skip
      have tc8 := f_nlt (k := 0) (by decide) c8
      refine lv_iload_n hx hb dX11_numbers_11 rfl (lv_at hl 2 rfl) ?_
      refine lv_iconst (v := 3) hx hb dX11_numbers_12 (by decide) ?_
      refine lv_icmp_le (tgt := 19) hx hb dX11_numbers_13 (by decide) (fun c13 => ?_) (fun c13 => ?_)
      · skip
        have tc13 := f_le (k := 3) (by decide) c13
        refine lv_iload_n hx hb dX11_numbers_19 rfl (lv_at hl 3 rfl) ?_
        refine lv_if_lt (tgt := 29) hx hb dX11_numbers_20 (by decide) (fun c20 => ?_) (fun c20 => ?_)
        · skip
          have tc20 := f_lt (k := 0) (by decide) c20
          refine lv_bipush (v := (-3)) hx hb dX11_numbers_29 (by decide) ?_
          have hH : HT D cs A T O X H := HT.lay (ci := 11) hH t_a0 (okL_c (⟨_, rfl, t_q0_0⟩) (okL_c (⟨_, rfl, by omega, by omega⟩) (okL_c (⟨_, _, rfl, t_q0_2, t_dq0_2⟩) (okL_c (rfl) (okL_c (⟨_, rfl, t_q0_4⟩) (okL_c (⟨_, rfl, t_q0_5⟩) (okL_c (⟨_, rfl, t_q0_6⟩) (okL_c (⟨_, rfl, by omega, by omega⟩) (okL_c (⟨_, rfl, by omega, by omega⟩) (okL_c (⟨_, rfl, t_q0_9⟩) (okL_c (⟨_, rfl, t_q0_10⟩) (okL_c (⟨_, _, rfl, t_q0_11, t_ch⟩) (okL_c (⟨_, rfl, t_q0_12⟩) (okL_c (⟨_, rfl, t_q0_13⟩) (okL_c (⟨_, rfl, t_q0_14⟩) (okL_c (⟨_, rfl, t_q0_15⟩) (okL_c (rfl) (okL_c (⟨_, rfl, t_q0_17⟩) (okL_c (⟨_, rfl, t_q0_18⟩) (okL_c (⟨_, rfl⟩) (okL_n)))))))))))))))))))))
          have hO := hO0
          have z9_m3 : ((-3) : Int32).toInt = -3 := by decide
          exact te_i hx hb hr hlocks hH hS (⟨T, gq, rfl, by decide, by decide, Tgc.rf, t_ch, (Or.inr (Or.inl ⟨by decide, by omega, by omega, rfl⟩))⟩) dX11_numbers_31
        · skip
          have tc20 := f_nlt (k := 0) (by decide) c20
          refine lv_iload_n hx hb dX11_numbers_23 rfl (lv_at hl 3 rfl) ?_
          refine lv_bipush (v := 40) hx hb dX11_numbers_24 (by decide) ?_
          refine lv_icmp_le (tgt := 32) hx hb dX11_numbers_26 (by decide) (fun c26 => ?_) (fun c26 => ?_)
          · skip
            have tc26 := f_le (k := 40) (by decide) c26
            refine lv_aload_n hx hb dX11_numbers_32 rfl (lv_at hl 0 rfl) ?_
            refine x_getk (ci := 11) (C := RX11) (F := TX11) (N := 20) (v := .ref q0_11) hx hb hts uX11 hown hkb hH 0 rfl rfl 11 (by decide) rfl kw_371 (fun _ h9 => h9) dX11_numbers_33 ?_
            refine lv_iload_n hx hb dX11_numbers_36 rfl (lv_at hl 1 rfl) ?_
            obtain ⟨e9, hs9, hH⟩ := HT.takeA hH t_q0_11 (nm_c (tag_ne t_q0_11 t_a0 (fun q => absurd (show 6 = 21 from congrArg Prod.fst q) (by decide))) (hO0.no t_q0_11 (by decide)))
            obtain ⟨f11, rfl, hf11, hi11⟩ : ∃ f : Nat → Option Nat, e9 = .inl (cs.2.2.2.2.2.2.1, 4, .inr (.inr (.inr (.inr f)))) ∧ (∀ j, j < 4 → ∃ a, f j = some a ∧ T a = some (18, cdv gq j, 0)) ∧ ∀ i j, i < 4 → j < 4 → f i = f j → i = j := hs9
            have hO : okO T (q0_11 :: a0 :: O) [2] := okO.cons (hO.sub (by decide)) t_q0_11 (by decide)
            obtain ⟨v37, hr37, t_v37⟩ := hf11 x1.toInt.toNat (by omega)
            refine xa_qld hx hb hkb hH 0 rfl (by omega) (by omega) hr37 dX11_numbers_37 ?_
            refine lv_iload_n hx hb dX11_numbers_38 rfl (lv_at hl 2 rfl) ?_
            refine lv_iload_n hx hb dX11_numbers_39 rfl (lv_at hl 3 rfl) ?_
            obtain ⟨fs9, ho9, hH⟩ := hH.take t_v37 (nm_c (tag_ne t_v37 t_q0_11 (fun q => absurd (show 18 = 6 from congrArg Prod.fst q) (by decide))) (nm_c (tag_ne t_v37 t_a0 (fun q => absurd (show 18 = 21 from congrArg Prod.fst q) (by decide))) (hO0.no t_v37 (by decide))))
            have hp0 : okL T (ft8 (cdv gq x1.toInt.toNat) 0) fs9 := ho9
            obtain ⟨v9, fs9, rfl, h9, hp1⟩ := okL_i hp0
            obtain ⟨qt_0, rfl, t_qt_0⟩ := h9
            obtain ⟨v9, fs9, rfl, h9, hp2⟩ := okL_i hp1
            obtain ⟨qt_1, rfl, so_qt_1⟩ := h9
            obtain ⟨v9, fs9, rfl, h9, hp3⟩ := okL_i hp2
            obtain ⟨qt_2, rfl, l_qt_2, u_qt_2, sz_qt_2⟩ := h9
            have hpz := okL_z hp3
            subst hpz
            have hO : okO T (v37 :: q0_11 :: a0 :: O) [2] := okO.cons (hO.sub (by decide)) t_v37 (by decide)
            have hH : HT D cs A T (v37 :: q0_11 :: a0 :: O) ((v37, .inr (8, [.ref qt_0, .int qt_1, .int qt_2])) :: (q0_11, .inl (cs.2.2.2.2.2.2.1, 4, .inr (.inr (.inr (.inr f11))))) :: (a0, .inr (11, [.ref q0_0, .int q0_1, .ref q0_2, .ref w, .ref q0_4, .ref q0_5, .ref q0_6, .int q0_7, .int q0_8, .ref q0_9, .ref q0_10, .ref q0_11, .ref q0_12, .ref q0_13, .ref q0_14, .ref q0_15, .ref ch, .ref q0_17, .ref q0_18, .int q0_19])) :: X) H := hH
            refine tk_v hH hS hA (tr_V (n := 2) (As := [.int x2, .int x3]) hx hb hml hown hts hkb hH (ox_c (ox_c (ox_c hOX))) hks hE hS hA (s_Tray_layX l D cs kf T (q0_11 :: a0 :: O) ((q0_11, .inl (cs.2.2.2.2.2.2.1, 4, .inr (.inr (.inr (.inr f11))))) :: (a0, .inr (11, [.ref q0_0, .int q0_1, .ref q0_2, .ref w, .ref q0_4, .ref q0_5, .ref q0_6, .int q0_7, .int q0_8, .ref q0_9, .ref q0_10, .ref q0_11, .ref q0_12, .ref q0_13, .ref q0_14, .ref q0_15, .ref ch, .ref q0_17, .ref q0_18, .int q0_19])) :: X) v37 x2 x3 qt_0 qt_1 qt_2 (cdv gq x1.toInt.toNat) t_v37 t_qt_0 (hO.sub (by decide))) kw_1177 kw_1178 kw_1179 kw_12 kw_1180 (by decide +kernel) ⟨Nat.le_of_ble_eq_true rfl, Nat.le_of_ble_eq_true rfl⟩ (x_recv (ci := 8) hkb hH 0 rfl rfl) rfl rfl hl.1 (Nat.le_of_ble_eq_true rfl) dX11_numbers_40 ⟨Nat.le_of_ble_eq_true rfl, Nat.le_of_ble_eq_true rfl⟩) (fun u H locs hz9 hH hS => ?_)
            obtain ⟨rfl⟩ := hz9
            have hH : HT D cs A T (v37 :: q0_11 :: a0 :: O) ((v37, .inr (8, [.ref qt_0, .int x2, .int x3])) :: (q0_11, .inl (cs.2.2.2.2.2.2.1, 4, .inr (.inr (.inr (.inr f11))))) :: (a0, .inr (11, [.ref q0_0, .int q0_1, .ref q0_2, .ref w, .ref q0_4, .ref q0_5, .ref q0_6, .int q0_7, .int q0_8, .ref q0_9, .ref q0_10, .ref q0_11, .ref q0_12, .ref q0_13, .ref q0_14, .ref q0_15, .ref ch, .ref q0_17, .ref q0_18, .int q0_19])) :: X) H := hH
            refine W.widen (k := 0) (n := 0) (Nat.le_of_ble_eq_true rfl) (Nat.le_of_ble_eq_true rfl) ?_
            refine lv_iconst (v := 0) hx hb dX11_numbers_43 (by decide) ?_
            have har9 := hU6 _ _ t_q0_11 rfl
            have t_ch0 := t_ch
            have t_ar0 := t_q0_11
            obtain ⟨Tg, rc_Tg, tg_t, tg_a, tg_ch, q3_Tg, hH⟩ := HT.gn (g2 := (gset gq x1.toInt.toNat (1 + x2.toInt.toNat + 4 * x3.toInt.toNat))) (c2 := (1 + x2.toInt.toNat + 4 * x3.toInt.toNat)) hH t_ch t_q0_11 t_v37 hU1 (fun b tg hb hk => (hU6 b tg hb hk).trans har9.symm) (List.mem_cons_of_mem _ (List.mem_cons_of_mem _ (List.mem_cons_of_mem _ hcO))) (List.mem_cons_of_mem _ List.mem_cons_self) List.mem_cons_self (List.mem_cons_of_mem _ (List.mem_cons_of_mem _ List.mem_cons_self))
            have t_qt_0 := rc_Tg.1 _ _ t_qt_0 (by show 2 ≠ 10; decide) (by show 2 ≠ 6; decide) (by show 2 ≠ 18; decide)
            have t_q0_0 := rc_Tg.1 _ _ t_q0_0 (by show 0 ≠ 10; decide) (by show 0 ≠ 6; decide) (by show 0 ≠ 18; decide)
            have t_q0_2 := rc_Tg.1 _ _ t_q0_2 (by show 14 ≠ 10; decide) (by show 14 ≠ 6; decide) (by show 14 ≠ 18; decide)
            have t_dq0_2 := rc_Tg.1 _ _ t_dq0_2 (by show 19 ≠ 10; decide) (by show 19 ≠ 6; decide) (by show 19 ≠ 18; decide)
            have t_w := isW.gc rc_Tg.1 t_w
            have t_q0_4 := rc_Tg.1 _ _ t_q0_4 (by show 16 ≠ 10; decide) (by show 16 ≠ 6; decide) (by show 16 ≠ 18; decide)
            have t_q0_5 := rc_Tg.1 _ _ t_q0_5 (by show 16 ≠ 10; decide) (by show 16 ≠ 6; decide) (by show 16 ≠ 18; decide)
            have t_q0_6 := rc_Tg.1 _ _ t_q0_6 (by show 4 ≠ 10; decide) (by show 4 ≠ 6; decide) (by show 4 ≠ 18; decide)
            have t_q0_9 := rc_Tg.1 _ _ t_q0_9 (by show 5 ≠ 10; decide) (by show 5 ≠ 6; decide) (by show 5 ≠ 18; decide)
            have t_q0_10 := rc_Tg.1 _ _ t_q0_10 (by show 4 ≠ 10; decide) (by show 4 ≠ 6; decide) (by show 4 ≠ 18; decide)
            have t_q0_12 := rc_Tg.1 _ _ t_q0_12 (by show 7 ≠ 10; decide) (by show 7 ≠ 6; decide) (by show 7 ≠ 18; decide)
            have t_q0_13 := rc_Tg.1 _ _ t_q0_13 (by show 15 ≠ 10; decide) (by show 15 ≠ 6; decide) (by show 15 ≠ 18; decide)
            have t_q0_14 := rc_Tg.1 _ _ t_q0_14 (by show 20 ≠ 10; decide) (by show 20 ≠ 6; decide) (by show 20 ≠ 18; decide)
            have t_q0_15 := rc_Tg.1 _ _ t_q0_15 (by show 11 ≠ 10; decide) (by show 11 ≠ 6; decide) (by show 11 ≠ 18; decide)
            have t_q0_17 := rc_Tg.1 _ _ t_q0_17 (by show 1 ≠ 10; decide) (by show 1 ≠ 6; decide) (by show 1 ≠ 18; decide)
            have t_q0_18 := rc_Tg.1 _ _ t_q0_18 (by show 1 ≠ 10; decide) (by show 1 ≠ 6; decide) (by show 1 ≠ 18; decide)
            have t_a0 := rc_Tg.1 _ _ t_a0 (by show 21 ≠ 10; decide) (by show 21 ≠ 6; decide) (by show 21 ≠ 18; decide)
            have t_q0_11 := tg_a
            have t_ch := tg_ch
            have hH : HT D cs A Tg (q0_11 :: a0 :: O) ((q0_11, .inl (cs.2.2.2.2.2.2.1, 4, .inr (.inr (.inr (.inr f11))))) :: (a0, .inr (11, [.ref q0_0, .int q0_1, .ref q0_2, .ref w, .ref q0_4, .ref q0_5, .ref q0_6, .int q0_7, .int q0_8, .ref q0_9, .ref q0_10, .ref q0_11, .ref q0_12, .ref q0_13, .ref q0_14, .ref q0_15, .ref ch, .ref q0_17, .ref q0_18, .int q0_19])) :: X) H := HT.lay (ci := 8) hH tg_t (okL_c (⟨_, rfl, t_qt_0⟩) (okL_c (⟨_, rfl, fun _ => by rw [sov_c (by omega)]; omega⟩) (okL_c (⟨_, rfl, by omega, by omega, by rw [szv_c (by omega)]; omega⟩) okL_n)))
            have hH : HT D cs A Tg (a0 :: O) ((a0, .inr (11, [.ref q0_0, .int q0_1, .ref q0_2, .ref w, .ref q0_4, .ref q0_5, .ref q0_6, .int q0_7, .int q0_8, .ref q0_9, .ref q0_10, .ref q0_11, .ref q0_12, .ref q0_13, .ref q0_14, .ref q0_15, .ref ch, .ref q0_17, .ref q0_18, .int q0_19])) :: X) H := HT.layA hH t_q0_11 (show sp cs Tg (6, 4, (gset gq x1.toInt.toNat (1 + x2.toInt.toNat + 4 * x3.toInt.toNat))) _ from ⟨f11, rfl, tr_lay (by omega) (by omega) hf11 hi11 hr37 tg_t q3_Tg (fun p q => by rw [t_ch0] at q; cases q) (fun p q => by rw [t_ar0] at q; cases q), hi11⟩)
            have hH : HT D cs A Tg O X H := HT.lay (ci := 11) hH t_a0 (okL_c (⟨_, rfl, t_q0_0⟩) (okL_c (⟨_, rfl, by omega, by omega⟩) (okL_c (⟨_, _, rfl, t_q0_2, t_dq0_2⟩) (okL_c (rfl) (okL_c (⟨_, rfl, t_q0_4⟩) (okL_c (⟨_, rfl, t_q0_5⟩) (okL_c (⟨_, rfl, t_q0_6⟩) (okL_c (⟨_, rfl, by omega, by omega⟩) (okL_c (⟨_, rfl, by omega, by omega⟩) (okL_c (⟨_, rfl, t_q0_9⟩) (okL_c (⟨_, rfl, t_q0_10⟩) (okL_c (⟨_, _, rfl, t_q0_11, t_ch⟩) (okL_c (⟨_, rfl, t_q0_12⟩) (okL_c (⟨_, rfl, t_q0_13⟩) (okL_c (⟨_, rfl, t_q0_14⟩) (okL_c (⟨_, rfl, t_q0_15⟩) (okL_c (rfl) (okL_c (⟨_, rfl, t_q0_17⟩) (okL_c (⟨_, rfl, t_q0_18⟩) (okL_c (⟨_, rfl⟩) (okL_n)))))))))))))))))))))
            have hO := hO0
            have z9_0 : (0 : Int32).toInt = 0 := by decide
            exact te_i hx hb hr hlocks hH hS (⟨Tg, (gset gq x1.toInt.toNat (1 + x2.toInt.toNat + 4 * x3.toInt.toNat)), rfl, by decide, by decide, (har9 ▸ rc_Tg), t_ch, (Or.inr (Or.inr ⟨by decide, by omega, by omega, rfl⟩))⟩) dX11_numbers_44
          · skip
            have tc26 := f_nle (k := 40) (by decide) c26
            refine lv_bipush (v := (-3)) hx hb dX11_numbers_29 (by decide) ?_
            have hH : HT D cs A T O X H := HT.lay (ci := 11) hH t_a0 (okL_c (⟨_, rfl, t_q0_0⟩) (okL_c (⟨_, rfl, by omega, by omega⟩) (okL_c (⟨_, _, rfl, t_q0_2, t_dq0_2⟩) (okL_c (rfl) (okL_c (⟨_, rfl, t_q0_4⟩) (okL_c (⟨_, rfl, t_q0_5⟩) (okL_c (⟨_, rfl, t_q0_6⟩) (okL_c (⟨_, rfl, by omega, by omega⟩) (okL_c (⟨_, rfl, by omega, by omega⟩) (okL_c (⟨_, rfl, t_q0_9⟩) (okL_c (⟨_, rfl, t_q0_10⟩) (okL_c (⟨_, _, rfl, t_q0_11, t_ch⟩) (okL_c (⟨_, rfl, t_q0_12⟩) (okL_c (⟨_, rfl, t_q0_13⟩) (okL_c (⟨_, rfl, t_q0_14⟩) (okL_c (⟨_, rfl, t_q0_15⟩) (okL_c (rfl) (okL_c (⟨_, rfl, t_q0_17⟩) (okL_c (⟨_, rfl, t_q0_18⟩) (okL_c (⟨_, rfl⟩) (okL_n)))))))))))))))))))))
            have hO := hO0
            have z9_m3 : ((-3) : Int32).toInt = -3 := by decide
            exact te_i hx hb hr hlocks hH hS (⟨T, gq, rfl, by decide, by decide, Tgc.rf, t_ch, (Or.inr (Or.inl ⟨by decide, by omega, by omega, rfl⟩))⟩) dX11_numbers_31
      · skip
        have tc13 := f_nle (k := 3) (by decide) c13
        refine lv_bipush (v := (-2)) hx hb dX11_numbers_16 (by decide) ?_
        have hH : HT D cs A T O X H := HT.lay (ci := 11) hH t_a0 (okL_c (⟨_, rfl, t_q0_0⟩) (okL_c (⟨_, rfl, by omega, by omega⟩) (okL_c (⟨_, _, rfl, t_q0_2, t_dq0_2⟩) (okL_c (rfl) (okL_c (⟨_, rfl, t_q0_4⟩) (okL_c (⟨_, rfl, t_q0_5⟩) (okL_c (⟨_, rfl, t_q0_6⟩) (okL_c (⟨_, rfl, by omega, by omega⟩) (okL_c (⟨_, rfl, by omega, by omega⟩) (okL_c (⟨_, rfl, t_q0_9⟩) (okL_c (⟨_, rfl, t_q0_10⟩) (okL_c (⟨_, _, rfl, t_q0_11, t_ch⟩) (okL_c (⟨_, rfl, t_q0_12⟩) (okL_c (⟨_, rfl, t_q0_13⟩) (okL_c (⟨_, rfl, t_q0_14⟩) (okL_c (⟨_, rfl, t_q0_15⟩) (okL_c (rfl) (okL_c (⟨_, rfl, t_q0_17⟩) (okL_c (⟨_, rfl, t_q0_18⟩) (okL_c (⟨_, rfl⟩) (okL_n)))))))))))))))))))))
        have hO := hO0
        have z9_m2 : ((-2) : Int32).toInt = -2 := by decide
        exact te_i hx hb hr hlocks hH hS (⟨T, gq, rfl, by decide, by decide, Tgc.rf, t_ch, (Or.inl ⟨by decide, by omega, rfl⟩)⟩) dX11_numbers_18
set_option maxHeartbeats 4000000 in
set_option maxRecDepth 100000 in
theorem s_M_noTrayF (l : Launch) (D : va_G) (cs : CS) (kf : KF) (T : TF) (O : List Nat) (X : va_W) (a0 hg mq : Nat) (x1 : Int32) (t_a0 : T a0 = some (22, hg, mq)) (b_hg : hg < 90) (hO : okO T O [9, 22]) : TK l D cs kf yX12_noTray cX12_noTray 2 (some (.int)) { frames := 1, cells := 0, slots := 0, locals := 25 } [.ref a0, .int x1] T O X (Ti D cs (fun r u => u = (T, O, X) ∧ -6 ≤ r.toInt ∧ r.toInt ≤ 0 ∧ (NTF mq x1.toInt r.toInt))) := by
  refine tk_of (by decide) (Nat.le_of_ble_eq_true rfl) (fun p e s m below meth c ls A H locs hx hb hr hml hown hts hlocks hnm hkb hH hS hA hOX hks hE hl => ?_)
  have hown : s.vm.findClass RX12 = some m.cls := hown
  have hl : lv_has ls 2 [(0, .ref a0), (1, .int x1)] := hl
  refine lv_iload_n hx hb dX12_noTray_0 rfl (lv_at hl 1 rfl) ?_
  refine lv_i2l hx hb dX12_noTray_1 rfl ?_
  refine lv_lconst (v := 0) hx hb dX12_noTray_2 (by decide) ?_
  refine lv_ldc2 hx hb hown (hts _ kw_1527) dX12_noTray_3 ?_
  refine tk_i hH hS hA (tr_S (n := 3) (As := [.long x1.toInt64, .long 0, .long 3]) hx hb hml hown hts hkb hH hOX hks hE hS hA (s_M_within l D cs kf T O X x1.toInt64 0 3  (hO.sub (by decide))) kw_1341 kw_1342 kw_13 kw_1343 (by decide +kernel) ⟨Nat.le_of_ble_eq_true rfl, Nat.le_of_ble_eq_true rfl⟩ rfl rfl hl.1 (Nat.le_of_ble_eq_true rfl) dX12_noTray_6 ⟨Nat.le_of_ble_eq_true rfl, Nat.le_of_ble_eq_true rfl⟩) (fun v6 u H locs hz9 hH hS => ?_)
  obtain ⟨rfl, l_v6, u_v6, x_v60, x_v61⟩ := hz9
  simp only [Int32.toInt_toInt64] at x_v60 x_v61
  have k9_0 : (0 : Int64).toInt = 0 := by decide
  have k9_3 : (3 : Int64).toInt = 3 := by decide
  have hH : HT D cs A T O X H := hH
  refine W.widen (k := 0) (n := 0) (Nat.le_of_ble_eq_true rfl) (Nat.le_of_ble_eq_true rfl) ?_
  refine lv_if_ne (tgt := 17) hx hb dX12_noTray_9 (by decide) (fun c9 => ?_) (fun c9 => ?_)
  · skip
    have tc9 := f_ne (k := 0) (by decide) c9
    replace x_v60 := x_v60.resolve_left tc9
    clear x_v61
    refine lv_aload_n hx hb dX12_noTray_17 rfl (lv_at hl 0 rfl) ?_
    refine t_get (ci := 12) (lst := ft12 hg mq) (C := RX12) (F := TX12) (N := 36) hx hb hts uX12 hown hkb hH t_a0 (hO.no t_a0 (by decide)) (fun _ h9 => h9) rfl rfl 33 (by decide) rfl kw_1256 (fun _ h9 => h9) dX12_noTray_18 (fun v9 h9 => ?_)
    obtain ⟨v18, rfl, t_v18⟩ := h9
    refine lv_iload_n hx hb dX12_noTray_21 rfl (lv_at hl 1 rfl) ?_
    refine t_ild4 hx hb hkb hH t_v18 (hO.no t_v18 (by decide)) (by omega) (by omega) dX12_noTray_22 (fun v22 pv_v22 l_v22 u_v22 => ?_)
    refine lv_iconst (v := (-1)) hx hb dX12_noTray_23 (by decide) ?_
    refine lv_icmp_ne (tgt := 32) hx hb dX12_noTray_24 (by decide) (fun c24 => ?_) (fun c24 => ?_)
    · skip
      have tc24 := f_ne (k := -1) (by decide) c24
      refine lv_iconst (v := 0) hx hb dX12_noTray_32 (by decide) ?_
      have z9_0 : (0 : Int32).toInt = 0 := by decide
      exact te_i hx hb hr hlocks hH hS (⟨rfl, by decide, by decide, (Or.inr (Or.inr ⟨by omega, fun q => by have q9 := (sov_m _).mpr q; rw [← pvr_s, ← pv_v22] at q9; omega, by decide⟩))⟩) dX12_noTray_33
    · skip
      have tc24 := f_eq (k := -1) (by decide) c24
      refine lv_bipush (v := (-6)) hx hb dX12_noTray_27 (by decide) ?_
      refine lv_goto (tgt := 33) hx hb dX12_noTray_29 (by decide) ?_
      have z9_m6 : ((-6) : Int32).toInt = -6 := by decide
      exact te_i hx hb hr hlocks hH hS (⟨rfl, by decide, by decide, (Or.inr (Or.inl ⟨by omega, (sov_m _).mp (by rw [← pvr_s, ← pv_v22]; omega), by decide⟩))⟩) dX12_noTray_33
  · skip
    have tc9 := f_eq (k := 0) (by decide) c9
    clear x_v60
    replace x_v61 := x_v61.resolve_left (fun q9 => q9 tc9)
    refine lv_bipush (v := (-2)) hx hb dX12_noTray_12 (by decide) ?_
    refine lv_goto (tgt := 33) hx hb dX12_noTray_14 (by decide) ?_
    have z9_m2 : ((-2) : Int32).toInt = -2 := by decide
    exact te_i hx hb hr hlocks hH hS (⟨rfl, by decide, by decide, (Or.inl ⟨by omega, by decide⟩)⟩) dX12_noTray_33
set_option maxHeartbeats 4000000 in
set_option maxRecDepth 100000 in
theorem s_M_cutF (l : Launch) (D : va_G) (cs : CS) (kf : KF) (T : TF) (O : List Nat) (X : va_W) (x0 : Int64) (x1 : Int32)  (hO : okO T O []) : TK l D cs kf yX12_cut cX12_cut 3 (some (.long)) { frames := 0, cells := 0, slots := 0, locals := 0 } [.long x0, .int x1] T O X (Tl D cs (fun r u => u = (T, O, X) ∧ (r = cutF x0 x1.toInt))) := by
  refine tk_of (by decide) (Nat.le_of_ble_eq_true rfl) (fun p e s m below meth c ls A H locs hx hb hr hml hown hts hlocks hnm hkb hH hS hA hOX hks hE hl => ?_)
  have hown : s.vm.findClass RX12 = some m.cls := hown
  have hl : lv_has ls 3 [(0, .long x0), (2, .int x1)] := hl
  refine lv_iload_n hx hb dX12_cut_0 rfl (lv_at hl 1 rfl) ?_
  refine lv_if_ne (tgt := 11) hx hb dX12_cut_1 (by decide) (fun c1 => ?_) (fun c1 => ?_)
  · skip
    have tc1 := f_ne (k := 0) (by decide) c1
    refine lv_iload_n hx hb dX12_cut_11 rfl (lv_at hl 1 rfl) ?_
    refine lv_iconst (v := 1) hx hb dX12_cut_12 (by decide) ?_
    refine lv_icmp_ne (tgt := 23) hx hb dX12_cut_13 (by decide) (fun c13 => ?_) (fun c13 => ?_)
    · skip
      have tc13 := f_ne (k := 1) (by decide) c13
      refine lv_iload_n hx hb dX12_cut_23 rfl (lv_at hl 1 rfl) ?_
      refine lv_iconst (v := 2) hx hb dX12_cut_24 (by decide) ?_
      refine lv_icmp_ne (tgt := 34) hx hb dX12_cut_25 (by decide) (fun c25 => ?_) (fun c25 => ?_)
      · skip
        have tc25 := f_ne (k := 2) (by decide) c25
        refine lv_lload_n hx hb dX12_cut_34 rfl (lv_at hl 0 rfl) ?_
        exact te_l hx hb hr hlocks hH hS (⟨rfl, (cutF_3 (by omega) (by omega) (by omega) rfl)⟩) dX12_cut_35
      · skip
        have tc25 := f_eq (k := 2) (by decide) c25
        refine lv_lload_n hx hb dX12_cut_28 rfl (lv_at hl 0 rfl) ?_
        refine lv_l2i hx hb dX12_cut_29 rfl ?_
        refine lv_topi (fun v29 ev29 => ?_)
        refine lv_i2l hx hb dX12_cut_30 rfl ?_
        refine lv_goto (tgt := 35) hx hb dX12_cut_31 (by decide) ?_
        exact te_l hx hb hr hlocks hH hS (⟨rfl, (cutF_2 (by omega) (by rw [ev29]))⟩) dX12_cut_35
    · skip
      have tc13 := f_eq (k := 1) (by decide) c13
      refine lv_lload_n hx hb dX12_cut_16 rfl (lv_at hl 0 rfl) ?_
      refine lv_l2i hx hb dX12_cut_17 rfl ?_
      refine lv_topi (fun v17 ev17 => ?_)
      refine lv_i2s hx hb dX12_cut_18 rfl ?_
      refine lv_topi (fun v18 ev18 => ?_)
      refine lv_i2l hx hb dX12_cut_19 rfl ?_
      refine lv_goto (tgt := 35) hx hb dX12_cut_20 (by decide) ?_
      exact te_l hx hb hr hlocks hH hS (⟨rfl, (cutF_1 (by omega) (by rw [ev18, ev17]))⟩) dX12_cut_35
  · skip
    have tc1 := f_eq (k := 0) (by decide) c1
    refine lv_lload_n hx hb dX12_cut_4 rfl (lv_at hl 0 rfl) ?_
    refine lv_l2i hx hb dX12_cut_5 rfl ?_
    refine lv_topi (fun v5 ev5 => ?_)
    refine lv_i2b hx hb dX12_cut_6 rfl ?_
    refine lv_topi (fun v6 ev6 => ?_)
    refine lv_i2l hx hb dX12_cut_7 rfl ?_
    refine lv_goto (tgt := 35) hx hb dX12_cut_8 (by decide) ?_
    exact te_l hx hb hr hlocks hH hS (⟨rfl, (cutF_0 (by omega) (by rw [ev6, ev5]))⟩) dX12_cut_35
theorem dX12_write_0 : decode cX12_write 0 = .ok (.aload_n 0, 1) := by decide +kernel
theorem dX12_write_1 : decode cX12_write 1 = .ok (.iconst 0, 1) := by decide +kernel
theorem dX12_write_2 : decode cX12_write 2 = .ok (.putfield 1, 3) := by decide +kernel
theorem dX12_write_5 : decode cX12_write 5 = .ok (.aload_n 0, 1) := by decide +kernel
theorem dX12_write_6 : decode cX12_write 6 = .ok (.iload_n 1, 1) := by decide +kernel
theorem dX12_write_7 : decode cX12_write 7 = .ok (.invokevirtual 289, 3) := by decide +kernel
theorem dX12_write_10 : decode cX12_write 10 = .ok (.istore 5, 2) := by decide +kernel
theorem dX12_write_12 : decode cX12_write 12 = .ok (.iload 5, 2) := by decide +kernel
theorem dX12_write_14 : decode cX12_write 14 = .ok (.ifCond .eq 7, 3) := by decide +kernel
theorem dX12_write_17 : decode cX12_write 17 = .ok (.iload 5, 2) := by decide +kernel
theorem dX12_write_19 : decode cX12_write 19 = .ok (.i2l, 1) := by decide +kernel
theorem dX12_write_20 : decode cX12_write 20 = .ok (.lreturn, 1) := by decide +kernel
theorem dX12_write_21 : decode cX12_write 21 = .ok (.iload_n 2, 1) := by decide +kernel
theorem dX12_write_22 : decode cX12_write 22 = .ok (.i2l, 1) := by decide +kernel
theorem dX12_write_23 : decode cX12_write 23 = .ok (.lconst 0, 1) := by decide +kernel
theorem dX12_write_24 : decode cX12_write 24 = .ok (.aload_n 0, 1) := by decide +kernel
theorem dX12_write_25 : decode cX12_write 25 = .ok (.getfield 72, 3) := by decide +kernel
theorem dX12_write_28 : decode cX12_write 28 = .ok (.iload_n 1, 1) := by decide +kernel
theorem dX12_write_29 : decode cX12_write 29 = .ok (.iaload, 1) := by decide +kernel
theorem dX12_write_30 : decode cX12_write 30 = .ok (.iconst 1, 1) := by decide +kernel
theorem dX12_write_31 : decode cX12_write 31 = .ok (.isub, 1) := by decide +kernel
theorem dX12_write_32 : decode cX12_write 32 = .ok (.i2l, 1) := by decide +kernel
theorem dX12_write_33 : decode cX12_write 33 = .ok (.invokestatic 144, 3) := by decide +kernel
theorem dX12_write_36 : decode cX12_write 36 = .ok (.ifCond .ne 7, 3) := by decide +kernel
theorem dX12_write_39 : decode cX12_write 39 = .ok (.ldc2_w 394, 3) := by decide +kernel
theorem dX12_write_42 : decode cX12_write 42 = .ok (.lreturn, 1) := by decide +kernel
theorem dX12_write_43 : decode cX12_write 43 = .ok (.aload_n 0, 1) := by decide +kernel
theorem dX12_write_44 : decode cX12_write 44 = .ok (.getfield 75, 3) := by decide +kernel
theorem dX12_write_47 : decode cX12_write 47 = .ok (.bipush 40, 2) := by decide +kernel
theorem dX12_write_49 : decode cX12_write 49 = .ok (.iload_n 1, 1) := by decide +kernel
theorem dX12_write_50 : decode cX12_write 50 = .ok (.imul, 1) := by decide +kernel
theorem dX12_write_51 : decode cX12_write 51 = .ok (.iload_n 2, 1) := by decide +kernel
theorem dX12_write_52 : decode cX12_write 52 = .ok (.iadd, 1) := by decide +kernel
theorem dX12_write_53 : decode cX12_write 53 = .ok (.lload_n 3, 1) := by decide +kernel
theorem dX12_write_54 : decode cX12_write 54 = .ok (.aload_n 0, 1) := by decide +kernel
theorem dX12_write_55 : decode cX12_write 55 = .ok (.getfield 69, 3) := by decide +kernel
theorem dX12_write_58 : decode cX12_write 58 = .ok (.iload_n 1, 1) := by decide +kernel
theorem dX12_write_59 : decode cX12_write 59 = .ok (.iaload, 1) := by decide +kernel
theorem dX12_write_60 : decode cX12_write 60 = .ok (.invokestatic 396, 3) := by decide +kernel
theorem dX12_write_63 : decode cX12_write 63 = .ok (.lastore, 1) := by decide +kernel
theorem dX12_write_64 : decode cX12_write 64 = .ok (.aload_n 0, 1) := by decide +kernel
theorem dX12_write_65 : decode cX12_write 65 = .ok (.getfield 75, 3) := by decide +kernel
theorem dX12_write_68 : decode cX12_write 68 = .ok (.bipush 40, 2) := by decide +kernel
theorem dX12_write_70 : decode cX12_write 70 = .ok (.iload_n 1, 1) := by decide +kernel
theorem dX12_write_71 : decode cX12_write 71 = .ok (.imul, 1) := by decide +kernel
theorem dX12_write_72 : decode cX12_write 72 = .ok (.iload_n 2, 1) := by decide +kernel
theorem dX12_write_73 : decode cX12_write 73 = .ok (.iadd, 1) := by decide +kernel
theorem dX12_write_74 : decode cX12_write 74 = .ok (.laload, 1) := by decide +kernel
theorem dX12_write_75 : decode cX12_write 75 = .ok (.lreturn, 1) := by decide +kernel
theorem kw_1768 : Cond.constantLong "FootholdWallModel" 394 (-7) ∈ gw := gw_of (tb_of 1768 (by decide +kernel)) (by decide +kernel)
theorem kw_1769 : Cond.methodLink "FootholdWallModel" 396 yX12_cut ∈ gw := gw_of (tb_of 1769 (by decide +kernel)) (by decide +kernel)
theorem kw_1770 : Cond.static yX12_cut ∈ gw := gw_of (tb_of 1770 (by decide +kernel)) (by decide +kernel)
theorem kw_1771 : Cond.code yX12_cut cX12_cut 3 (some (.long)) ∈ gw := gw_of (tb_of 1771 (by decide +kernel)) (by decide +kernel)
theorem wr_nt {g : Nat} {t i : Int} {v : Int64} {r : Int32} (h : NTF g t r.toInt) (h0 : r.toInt ≠ 0) : WRF g t i v r.toInt64 := by
  rcases h with ⟨h1, h2⟩ | ⟨h1, h2, h3⟩ | ⟨h1, h2, h3⟩
  · have e : r = -2 := Int32.toInt_inj.mp (by rw [h2]; decide)
    exact Or.inl ⟨h1, by rw [e]; decide⟩
  · have e : r = -6 := Int32.toInt_inj.mp (by rw [h3]; decide)
    exact Or.inr (Or.inl ⟨h1, h2, by rw [e]; decide⟩)
  · exact absurd h3 h0
theorem nt_z {g : Nat} {t r : Int} (h : NTF g t r) (h0 : r = 0) : cdv g t.toNat ≠ 0 := by
  rcases h with ⟨h1, h2⟩ | ⟨h1, h2, h3⟩ | ⟨h1, h2, h3⟩
  · omega
  · omega
  · exact h2
theorem nt_b {g : Nat} {t r : Int} (h : NTF g t r) (h0 : r = 0) : 0 ≤ t ∧ t ≤ 3 := by
  rcases h with ⟨h1, h2⟩ | ⟨h1, h2, h3⟩ | ⟨h1, h2, h3⟩
  · omega
  · omega
  · exact h1
theorem many_s {g j : Nat} {x : Int} (h : cdv g j ≠ 0) (e : x = pvr (2 * g + 1) j) : x = szv (cdv g j) := by rw [e, pvr_m, szv_n h]
set_option maxHeartbeats 4000000 in
set_option maxRecDepth 100000 in
theorem s_M_writeF (l : Launch) (D : va_G) (cs : CS) (kf : KF) (T : TF) (O : List Nat) (X : va_W) (a0 hg mq : Nat) (x1 : Int32) (x2 : Int32) (x3 : Int64) (t_a0 : T a0 = some (22, hg, mq)) (b_hg : hg < 90) (hO : okO T O [2, 9, 22]) : TK l D cs kf yX12_write cX12_write 6 (some (.long)) { frames := 2, cells := 0, slots := 0, locals := 46 } [.ref a0, .int x1, .int x2, .long x3] T O X (Tl D cs (fun r u => u = (T, O, X) ∧ (WRF mq x1.toInt x2.toInt x3 r))) := by
  refine tk_of (by decide) (Nat.le_of_ble_eq_true rfl) (fun p e s m below meth c ls A H locs hx hb hr hml hown hts hlocks hnm hkb hH hS hA hOX hks hE hl => ?_)
  have hown : s.vm.findClass RX12 = some m.cls := hown
  have hl : lv_has ls 6 [(0, .ref a0), (1, .int x1), (2, .int x2), (3, .long x3)] := hl
  refine lv_aload_n hx hb dX12_write_0 rfl (lv_at hl 0 rfl) ?_
  refine lv_iconst (v := 0) hx hb dX12_write_1 (by decide) ?_
  refine t_put (ci := 12) (lst := ft12 hg mq) (v := .int 0) (ty := tyX12 0) (C := RX12) (F := TX12) (N := 36) hx hb hts uX12 tyX12 tyX12_ok nmX12 hown hkb hH hS t_a0 (hO.no t_a0 (by decide)) (fun _ => Iff.rfl) rfl rfl 0 (by decide) rfl (⟨_, rfl⟩) kw_1223 (fun _ h9 => h9) rfl (tyX12_ok 0 (by decide)) rfl rfl dX12_write_2 (fun H locs hH hS => ?_)
  refine lv_aload_n hx hb dX12_write_5 rfl (lv_at hl 0 rfl) ?_
  refine lv_iload_n hx hb dX12_write_6 rfl (lv_at hl 1 rfl) ?_
  refine tk_i hH hS hA (tr_V (n := 1) (As := [.int x1]) hx hb hml hown hts hkb hH hOX hks hE hS hA (s_M_noTrayF l D cs kf T O X a0 hg mq x1 t_a0 b_hg (hO.sub (by decide))) kw_1523 kw_1525 ks_75 kw_13 kw_1526 (by decide +kernel) ⟨Nat.le_of_ble_eq_true rfl, Nat.le_of_ble_eq_true rfl⟩ (HT.recv (ci := 12) hkb hH t_a0 (hO.no t_a0 (by decide)) rfl) rfl rfl hl.1 (Nat.le_of_ble_eq_true rfl) dX12_write_7 ⟨Nat.le_of_ble_eq_true rfl, Nat.le_of_ble_eq_true rfl⟩) (fun v7 u H locs hz9 hH hS => ?_)
  obtain ⟨rfl, l_v7, u_v7, x_v70⟩ := hz9
  have hH : HT D cs A T O X H := hH
  refine W.widen (k := 0) (n := 0) (Nat.le_of_ble_eq_true rfl) (Nat.le_of_ble_eq_true rfl) ?_
  refine lv_istore (lv' := [(5, .int v7), (0, .ref a0), (1, .int x1), (2, .int x2), (3, .long x3)]) hx hb dX12_write_10 hl (by decide) rfl (fun ls hl => ?_)
  refine lv_iload hx hb dX12_write_12 (lv_at hl 0 rfl) ?_
  refine lv_if_eq (tgt := 21) hx hb dX12_write_14 (by decide) (fun c14 => ?_) (fun c14 => ?_)
  · skip
    have tc14 := f_eq (k := 0) (by decide) c14
    have nt9 := nt_b x_v70 (by omega)
    refine lv_iload_n hx hb dX12_write_21 rfl (lv_at hl 3 rfl) ?_
    refine lv_i2l hx hb dX12_write_22 rfl ?_
    refine lv_lconst (v := 0) hx hb dX12_write_23 (by decide) ?_
    refine lv_aload_n hx hb dX12_write_24 rfl (lv_at hl 1 rfl) ?_
    refine t_get (ci := 12) (lst := ft12 hg mq) (C := RX12) (F := TX12) (N := 36) hx hb hts uX12 hown hkb hH t_a0 (hO.no t_a0 (by decide)) (fun _ h9 => h9) rfl rfl 34 (by decide) rfl kw_1257 (fun _ h9 => h9) dX12_write_25 (fun v9 h9 => ?_)
    obtain ⟨v25, rfl, t_v25⟩ := h9
    refine lv_iload_n hx hb dX12_write_28 rfl (lv_at hl 2 rfl) ?_
    refine t_ild4 hx hb hkb hH t_v25 (hO.no t_v25 (by decide)) (by omega) (by omega) dX12_write_29 (fun v29 pv_v29 l_v29 u_v29 => ?_)
    have l_v29 : 0 ≤ v29.toInt := by rw [pv_v29]; exact pvr_nn _ _
    refine lv_iconst (v := 1) hx hb dX12_write_30 (by decide) ?_
    refine lv_isub hx hb dX12_write_31 ?_
    refine lv_topi (fun v31 ev31 => ?_)
    have tv31 : v31.toInt = v29.toInt - (1) := by rw [ev31]; exact sub_i rfl (by decide : (1 : Int32).toInt = 1) (by omega) (by omega)
    refine lv_i2l hx hb dX12_write_32 rfl ?_
    refine tk_i hH hS hA (tr_S (n := 3) (As := [.long x2.toInt64, .long 0, .long v31.toInt64]) hx hb hml hown hts hkb hH hOX hks hE hS hA (s_M_within l D cs kf T O X x2.toInt64 0 v31.toInt64  (hO.sub (by decide))) kw_1341 kw_1342 kw_13 kw_1343 (by decide +kernel) ⟨Nat.le_of_ble_eq_true rfl, Nat.le_of_ble_eq_true rfl⟩ rfl rfl hl.1 (Nat.le_of_ble_eq_true rfl) dX12_write_33 ⟨Nat.le_of_ble_eq_true rfl, Nat.le_of_ble_eq_true rfl⟩) (fun v33 u H locs hz9 hH hS => ?_)
    obtain ⟨rfl, l_v33, u_v33, x_v330, x_v331⟩ := hz9
    simp only [Int32.toInt_toInt64] at x_v330 x_v331
    have k9_0 : (0 : Int64).toInt = 0 := by decide
    have hH : HT D cs A T O X H := hH
    refine W.widen (k := 0) (n := 0) (Nat.le_of_ble_eq_true rfl) (Nat.le_of_ble_eq_true rfl) ?_
    refine lv_if_ne (tgt := 43) hx hb dX12_write_36 (by decide) (fun c36 => ?_) (fun c36 => ?_)
    · skip
      have tc36 := f_ne (k := 0) (by decide) c36
      replace x_v330 := x_v330.resolve_left tc36
      clear x_v331
      have hO0 := hO
      obtain ⟨fs9, ho9, hH⟩ := hH.take t_a0 (hO0.no t_a0 (by decide))
      have hp0 : okL T (ft12 hg mq) fs9 := ho9
      clear ho9
      obtain ⟨v9, fs9, rfl, h9, hp1⟩ := okL_i hp0
      obtain ⟨q43_0, rfl⟩ := h9
      obtain ⟨v9, fs9, rfl, h9, hp2⟩ := okL_i hp1
      obtain ⟨q43_1, rfl, t_q43_1⟩ := h9
      obtain ⟨v9, fs9, rfl, h9, hp3⟩ := okL_i hp2
      obtain ⟨q43_2, rfl, t_q43_2⟩ := h9
      obtain ⟨v9, fs9, rfl, h9, hp4⟩ := okL_i hp3
      obtain ⟨q43_3, rfl, t_q43_3⟩ := h9
      obtain ⟨v9, fs9, rfl, h9, hp5⟩ := okL_i hp4
      obtain ⟨q43_4, rfl, t_q43_4⟩ := h9
      obtain ⟨v9, fs9, rfl, h9, hp6⟩ := okL_i hp5
      obtain ⟨q43_5, rfl, l_q43_5, u_q43_5⟩ := h9
      obtain ⟨v9, fs9, rfl, h9, hp7⟩ := okL_i hp6
      obtain ⟨q43_6, rfl⟩ := h9
      obtain ⟨v9, fs9, rfl, h9, hp8⟩ := okL_i hp7
      obtain ⟨q43_7, rfl⟩ := h9
      obtain ⟨v9, fs9, rfl, h9, hp9⟩ := okL_i hp8
      obtain ⟨q43_8, rfl⟩ := h9
      obtain ⟨v9, fs9, rfl, h9, hp10⟩ := okL_i hp9
      obtain ⟨q43_9, rfl⟩ := h9
      obtain ⟨v9, fs9, rfl, h9, hp11⟩ := okL_i hp10
      obtain ⟨q43_10, rfl, l_q43_10, u_q43_10⟩ := h9
      obtain ⟨v9, fs9, rfl, h9, hp12⟩ := okL_i hp11
      obtain ⟨q43_11, rfl⟩ := h9
      obtain ⟨v9, fs9, rfl, h9, hp13⟩ := okL_i hp12
      obtain ⟨q43_12, rfl⟩ := h9
      obtain ⟨v9, fs9, rfl, h9, hp14⟩ := okL_i hp13
      obtain ⟨q43_13, rfl⟩ := h9
      obtain ⟨v9, fs9, rfl, h9, hp15⟩ := okL_i hp14
      obtain ⟨q43_14, rfl⟩ := h9
      obtain ⟨v9, fs9, rfl, h9, hp16⟩ := okL_i hp15
      obtain ⟨q43_15, rfl, t_q43_15⟩ := h9
      obtain ⟨v9, fs9, rfl, h9, hp17⟩ := okL_i hp16
      obtain ⟨q43_16, rfl⟩ := h9
      obtain ⟨v9, fs9, rfl, h9, hp18⟩ := okL_i hp17
      obtain ⟨q43_17, rfl, t_q43_17⟩ := h9
      obtain ⟨v9, fs9, rfl, h9, hp19⟩ := okL_i hp18
      obtain ⟨q43_18, rfl, t_q43_18⟩ := h9
      obtain ⟨v9, fs9, rfl, h9, hp20⟩ := okL_i hp19
      obtain ⟨q43_19, rfl, t_q43_19⟩ := h9
      obtain ⟨v9, fs9, rfl, h9, hp21⟩ := okL_i hp20
      obtain ⟨q43_20, rfl, l_q43_20, u_q43_20⟩ := h9
      obtain ⟨v9, fs9, rfl, h9, hp22⟩ := okL_i hp21
      obtain ⟨q43_21, rfl, t_q43_21⟩ := h9
      obtain ⟨v9, fs9, rfl, h9, hp23⟩ := okL_i hp22
      obtain ⟨q43_22, rfl, t_q43_22⟩ := h9
      obtain ⟨v9, fs9, rfl, h9, hp24⟩ := okL_i hp23
      obtain ⟨q43_23, rfl⟩ := h9
      obtain ⟨v9, fs9, rfl, h9, hp25⟩ := okL_i hp24
      obtain ⟨q43_24, rfl⟩ := h9
      obtain ⟨v9, fs9, rfl, h9, hp26⟩ := okL_i hp25
      obtain ⟨q43_25, rfl⟩ := h9
      obtain ⟨v9, fs9, rfl, h9, hp27⟩ := okL_i hp26
      obtain ⟨q43_26, rfl, t_q43_26⟩ := h9
      obtain ⟨v9, fs9, rfl, h9, hp28⟩ := okL_i hp27
      obtain ⟨q43_27, rfl, t_q43_27⟩ := h9
      obtain ⟨v9, fs9, rfl, h9, hp29⟩ := okL_i hp28
      obtain ⟨q43_28, rfl, t_q43_28⟩ := h9
      obtain ⟨v9, fs9, rfl, h9, hp30⟩ := okL_i hp29
      obtain ⟨q43_29, rfl, t_q43_29⟩ := h9
      obtain ⟨v9, fs9, rfl, h9, hp31⟩ := okL_i hp30
      obtain ⟨q43_30, rfl, t_q43_30⟩ := h9
      obtain ⟨v9, fs9, rfl, h9, hp32⟩ := okL_i hp31
      obtain ⟨q43_31, rfl, t_q43_31⟩ := h9
      obtain ⟨v9, fs9, rfl, h9, hp33⟩ := okL_i hp32
      obtain ⟨q43_32, rfl⟩ := h9
      obtain ⟨v9, fs9, rfl, h9, hp34⟩ := okL_i hp33
      obtain ⟨q43_33, rfl, t_q43_33⟩ := h9
      obtain ⟨v9, fs9, rfl, h9, hp35⟩ := okL_i hp34
      obtain ⟨q43_34, rfl, t_q43_34⟩ := h9
      obtain ⟨v9, fs9, rfl, h9, hp36⟩ := okL_i hp35
      obtain ⟨q43_35, rfl, t_q43_35⟩ := h9
      have hpz := okL_z hp36
      subst hpz
      have hH : HT D cs A T (a0 :: O) ((a0, .inr (12, [.int q43_0, .ref q43_1, .ref q43_2, .ref q43_3, .ref q43_4, .int q43_5, .int q43_6, .int q43_7, .int q43_8, .int q43_9, .int q43_10, .int q43_11, .int q43_12, .int q43_13, .int q43_14, .ref q43_15, .int q43_16, .ref q43_17, .ref q43_18, .ref q43_19, .int q43_20, .ref q43_21, .ref q43_22, .int q43_23, .int q43_24, .int q43_25, .ref q43_26, .ref q43_27, .ref q43_28, .ref q43_29, .ref q43_30, .ref q43_31, .int q43_32, .ref q43_33, .ref q43_34, .ref q43_35])) :: X) H := hH
      have hO : okO T (a0 :: O) [2, 9] := okO.cons (hO0.sub (by decide)) t_a0 (by decide)
      obtain ⟨e9, hs9, hH⟩ := HT.takeA hH t_q43_35 (nm_c (tag_ne t_q43_35 t_a0 (fun q => absurd (show 2 = 22 from congrArg Prod.fst q) (by decide))) (hO0.no t_q43_35 (by decide)))
      obtain ⟨f35, rfl⟩ : ∃ f : Nat → Int64, e9 = .inl (cs.2.2.1, 160, .inr (.inl f)) := hs9
      have hO : okO T (q43_35 :: a0 :: O) [9] := okO.cons (hO.sub (by decide)) t_q43_35 (by decide)
      refine lv_aload_n hx hb dX12_write_43 rfl (lv_at hl 1 rfl) ?_
      refine x_getk (ci := 12) (C := RX12) (F := TX12) (N := 36) (v := .ref q43_35) hx hb hts uX12 hown hkb hH 1 rfl rfl 35 (by decide) rfl kw_1258 (fun _ h9 => h9) dX12_write_44 ?_
      refine lv_bipush (v := 40) hx hb dX12_write_47 (by decide) ?_
      refine lv_iload_n hx hb dX12_write_49 rfl (lv_at hl 2 rfl) ?_
      refine lv_imul hx hb dX12_write_50 ?_
      refine lv_topi (fun v50 ev50 => ?_)
      have tv50 : v50.toInt = (40) * x1.toInt := by rw [ev50]; exact mul_i (by decide : (40 : Int32).toInt = 40) rfl (by omega) (by omega)
      refine lv_iload_n hx hb dX12_write_51 rfl (lv_at hl 3 rfl) ?_
      refine lv_iadd hx hb dX12_write_52 ?_
      refine lv_topi (fun v52 ev52 => ?_)
      have tv52 : v52.toInt = v50.toInt + x2.toInt := by rw [ev52]; exact add_i rfl rfl (by omega) (by omega)
      refine lv_lload_n hx hb dX12_write_53 rfl (lv_at hl 4 rfl) ?_
      refine lv_aload_n hx hb dX12_write_54 rfl (lv_at hl 1 rfl) ?_
      refine x_getk (ci := 12) (C := RX12) (F := TX12) (N := 36) (v := .ref q43_33) hx hb hts uX12 hown hkb hH 1 rfl rfl 33 (by decide) rfl kw_1256 (fun _ h9 => h9) dX12_write_55 ?_
      refine lv_iload_n hx hb dX12_write_58 rfl (lv_at hl 2 rfl) ?_
      refine t_ild4 hx hb hkb hH t_q43_33 (hO.no t_q43_33 (by decide)) (by omega) (by omega) dX12_write_59 (fun v59 pv_v59 l_v59 u_v59 => ?_)
      refine tk_l hH hS hA (tr_S (n := 2) (As := [.long x3, .int v59]) hx hb hml hown hts hkb hH (ox_c (ox_c hOX)) hks hE hS hA (s_M_cutF l D cs kf T (q43_35 :: a0 :: O) ((q43_35, .inl (cs.2.2.1, 160, .inr (.inl f35))) :: (a0, .inr (12, [.int q43_0, .ref q43_1, .ref q43_2, .ref q43_3, .ref q43_4, .int q43_5, .int q43_6, .int q43_7, .int q43_8, .int q43_9, .int q43_10, .int q43_11, .int q43_12, .int q43_13, .int q43_14, .ref q43_15, .int q43_16, .ref q43_17, .ref q43_18, .ref q43_19, .int q43_20, .ref q43_21, .ref q43_22, .int q43_23, .int q43_24, .int q43_25, .ref q43_26, .ref q43_27, .ref q43_28, .ref q43_29, .ref q43_30, .ref q43_31, .int q43_32, .ref q43_33, .ref q43_34, .ref q43_35])) :: X) x3 v59  (hO.sub (by decide))) kw_1769 kw_1770 kw_13 kw_1771 (by decide +kernel) ⟨Nat.le_of_ble_eq_true rfl, Nat.le_of_ble_eq_true rfl⟩ rfl rfl hl.1 (Nat.le_of_ble_eq_true rfl) dX12_write_60 ⟨Nat.le_of_ble_eq_true rfl, Nat.le_of_ble_eq_true rfl⟩) (fun v60 u H locs hz9 hH hS => ?_)
      obtain ⟨rfl, x_v600⟩ := hz9
      have hH : HT D cs A T (q43_35 :: a0 :: O) ((q43_35, .inl (cs.2.2.1, 160, .inr (.inl f35))) :: (a0, .inr (12, [.int q43_0, .ref q43_1, .ref q43_2, .ref q43_3, .ref q43_4, .int q43_5, .int q43_6, .int q43_7, .int q43_8, .int q43_9, .int q43_10, .int q43_11, .int q43_12, .int q43_13, .int q43_14, .ref q43_15, .int q43_16, .ref q43_17, .ref q43_18, .ref q43_19, .int q43_20, .ref q43_21, .ref q43_22, .int q43_23, .int q43_24, .int q43_25, .ref q43_26, .ref q43_27, .ref q43_28, .ref q43_29, .ref q43_30, .ref q43_31, .int q43_32, .ref q43_33, .ref q43_34, .ref q43_35])) :: X) H := hH
      refine W.widen (k := 0) (n := 0) (Nat.le_of_ble_eq_true rfl) (Nat.le_of_ble_eq_true rfl) ?_
      refine xa_lst hx hb hkb hH hS 0 rfl (by omega) (by omega) dX12_write_63 (fun H locs hH hS => ?_)
      have hH : HT D cs A T (q43_35 :: a0 :: O) ((q43_35, .inl (cs.2.2.1, 160, .inr (.inl (vp_updL f35 (v52.toInt.toNat) v60)))) :: (a0, .inr (12, [.int q43_0, .ref q43_1, .ref q43_2, .ref q43_3, .ref q43_4, .int q43_5, .int q43_6, .int q43_7, .int q43_8, .int q43_9, .int q43_10, .int q43_11, .int q43_12, .int q43_13, .int q43_14, .ref q43_15, .int q43_16, .ref q43_17, .ref q43_18, .ref q43_19, .int q43_20, .ref q43_21, .ref q43_22, .int q43_23, .int q43_24, .int q43_25, .ref q43_26, .ref q43_27, .ref q43_28, .ref q43_29, .ref q43_30, .ref q43_31, .int q43_32, .ref q43_33, .ref q43_34, .ref q43_35])) :: X) H := hH
      obtain ⟨F63, eF63⟩ : ∃ f9, f9 = vp_updL f35 (v52.toInt.toNat) v60 := ⟨_, rfl⟩
      have hH : HT D cs A T (q43_35 :: a0 :: O) ((q43_35, .inl (cs.2.2.1, 160, .inr (.inl F63))) :: (a0, .inr (12, [.int q43_0, .ref q43_1, .ref q43_2, .ref q43_3, .ref q43_4, .int q43_5, .int q43_6, .int q43_7, .int q43_8, .int q43_9, .int q43_10, .int q43_11, .int q43_12, .int q43_13, .int q43_14, .ref q43_15, .int q43_16, .ref q43_17, .ref q43_18, .ref q43_19, .int q43_20, .ref q43_21, .ref q43_22, .int q43_23, .int q43_24, .int q43_25, .ref q43_26, .ref q43_27, .ref q43_28, .ref q43_29, .ref q43_30, .ref q43_31, .int q43_32, .ref q43_33, .ref q43_34, .ref q43_35])) :: X) H := eF63 ▸ hH
      refine lv_aload_n hx hb dX12_write_64 rfl (lv_at hl 1 rfl) ?_
      refine x_getk (ci := 12) (C := RX12) (F := TX12) (N := 36) (v := .ref q43_35) hx hb hts uX12 hown hkb hH 1 rfl rfl 35 (by decide) rfl kw_1258 (fun _ h9 => h9) dX12_write_65 ?_
      refine lv_bipush (v := 40) hx hb dX12_write_68 (by decide) ?_
      refine lv_iload_n hx hb dX12_write_70 rfl (lv_at hl 2 rfl) ?_
      refine lv_imul hx hb dX12_write_71 ?_
      refine lv_topi (fun v71 ev71 => ?_)
      have tv71 : v71.toInt = (40) * x1.toInt := by rw [ev71]; exact mul_i (by decide : (40 : Int32).toInt = 40) rfl (by omega) (by omega)
      refine lv_iload_n hx hb dX12_write_72 rfl (lv_at hl 3 rfl) ?_
      refine lv_iadd hx hb dX12_write_73 ?_
      refine lv_topi (fun v73 ev73 => ?_)
      have tv73 : v73.toInt = v71.toInt + x2.toInt := by rw [ev73]; exact add_i rfl rfl (by omega) (by omega)
      refine xa_lld hx hb hkb hH 0 rfl (by omega) (by omega) dX12_write_74 ?_
      refine lv_topl (fun v74 ev74 => ?_)
      have hH : HT D cs A T (a0 :: O) ((a0, .inr (12, [.int q43_0, .ref q43_1, .ref q43_2, .ref q43_3, .ref q43_4, .int q43_5, .int q43_6, .int q43_7, .int q43_8, .int q43_9, .int q43_10, .int q43_11, .int q43_12, .int q43_13, .int q43_14, .ref q43_15, .int q43_16, .ref q43_17, .ref q43_18, .ref q43_19, .int q43_20, .ref q43_21, .ref q43_22, .int q43_23, .int q43_24, .int q43_25, .ref q43_26, .ref q43_27, .ref q43_28, .ref q43_29, .ref q43_30, .ref q43_31, .int q43_32, .ref q43_33, .ref q43_34, .ref q43_35])) :: X) H := HT.layA hH t_q43_35 (show sp cs T (2, 160, 0) _ from ⟨_, rfl⟩)
      have hH : HT D cs A T O X H := HT.lay (ci := 12) hH t_a0 (okL_c (⟨_, rfl⟩) (okL_c (⟨_, rfl, t_q43_1⟩) (okL_c (⟨_, rfl, t_q43_2⟩) (okL_c (⟨_, rfl, t_q43_3⟩) (okL_c (⟨_, rfl, t_q43_4⟩) (okL_c (⟨_, rfl, by omega, by omega⟩) (okL_c (⟨_, rfl⟩) (okL_c (⟨_, rfl⟩) (okL_c (⟨_, rfl⟩) (okL_c (⟨_, rfl⟩) (okL_c (⟨_, rfl, by omega, by omega⟩) (okL_c (⟨_, rfl⟩) (okL_c (⟨_, rfl⟩) (okL_c (⟨_, rfl⟩) (okL_c (⟨_, rfl⟩) (okL_c (⟨_, rfl, t_q43_15⟩) (okL_c (⟨_, rfl⟩) (okL_c (⟨_, rfl, t_q43_17⟩) (okL_c (⟨_, rfl, t_q43_18⟩) (okL_c (⟨_, rfl, t_q43_19⟩) (okL_c (⟨_, rfl, by omega, by omega⟩) (okL_c (⟨_, rfl, t_q43_21⟩) (okL_c (⟨_, rfl, t_q43_22⟩) (okL_c (⟨_, rfl⟩) (okL_c (⟨_, rfl⟩) (okL_c (⟨_, rfl⟩) (okL_c (⟨_, rfl, t_q43_26⟩) (okL_c (⟨_, rfl, t_q43_27⟩) (okL_c (⟨_, rfl, t_q43_28⟩) (okL_c (⟨_, rfl, t_q43_29⟩) (okL_c (⟨_, rfl, t_q43_30⟩) (okL_c (⟨_, rfl, t_q43_31⟩) (okL_c (⟨_, rfl⟩) (okL_c (⟨_, rfl, t_q43_33⟩) (okL_c (⟨_, rfl, t_q43_34⟩) (okL_c (⟨_, rfl, t_q43_35⟩) (okL_n)))))))))))))))))))))))))))))))))))))
      have hO := hO0
      exact te_l hx hb hr hlocks hH hS (⟨rfl, (Or.inr (Or.inr (Or.inr ⟨by omega, nt_z x_v70 (by omega), by have q9 := many_s (nt_z x_v70 (by omega)) pv_v29; omega, by rw [rd_back (i := v52.toInt.toNat) (show v74 = F63 v52.toInt.toNat by rw [show v52.toInt.toNat = v73.toInt.toNat by omega]; exact ev74) eF63, x_v600, pv_v59, pvr_s]⟩)))⟩) dX12_write_75
    · skip
      have tc36 := f_eq (k := 0) (by decide) c36
      clear x_v330
      replace x_v331 := x_v331.resolve_left (fun q9 => q9 tc36)
      refine lv_ldc2 hx hb hown (hts _ kw_1768) dX12_write_39 ?_
      exact te_l hx hb hr hlocks hH hS (⟨rfl, (Or.inr (Or.inr (Or.inl ⟨by omega, nt_z x_v70 (by omega), by have q9 := many_s (nt_z x_v70 (by omega)) pv_v29; omega, rfl⟩)))⟩) dX12_write_42
  · skip
    have tc14 := f_ne (k := 0) (by decide) c14
    refine lv_iload hx hb dX12_write_17 (lv_at hl 0 rfl) ?_
    refine lv_i2l hx hb dX12_write_19 rfl ?_
    exact te_l hx hb hr hlocks hH hS (⟨rfl, (wr_nt x_v70 (by omega))⟩) dX12_write_20
theorem dX12_numbers_0 : decode cX12_numbers 0 = .ok (.aload_n 0, 1) := by decide +kernel
theorem dX12_numbers_1 : decode cX12_numbers 1 = .ok (.iconst 0, 1) := by decide +kernel
theorem dX12_numbers_2 : decode cX12_numbers 2 = .ok (.putfield 1, 3) := by decide +kernel
theorem dX12_numbers_5 : decode cX12_numbers 5 = .ok (.iload_n 1, 1) := by decide +kernel
theorem dX12_numbers_6 : decode cX12_numbers 6 = .ok (.i2l, 1) := by decide +kernel
theorem dX12_numbers_7 : decode cX12_numbers 7 = .ok (.lconst 0, 1) := by decide +kernel
theorem dX12_numbers_8 : decode cX12_numbers 8 = .ok (.ldc2_w 275, 3) := by decide +kernel
theorem dX12_numbers_11 : decode cX12_numbers 11 = .ok (.invokestatic 144, 3) := by decide +kernel
theorem dX12_numbers_14 : decode cX12_numbers 14 = .ok (.ifCond .eq 15, 3) := by decide +kernel
theorem dX12_numbers_17 : decode cX12_numbers 17 = .ok (.iload_n 2, 1) := by decide +kernel
theorem dX12_numbers_18 : decode cX12_numbers 18 = .ok (.i2l, 1) := by decide +kernel
theorem dX12_numbers_19 : decode cX12_numbers 19 = .ok (.lconst 0, 1) := by decide +kernel
theorem dX12_numbers_20 : decode cX12_numbers 20 = .ok (.ldc2_w 275, 3) := by decide +kernel
theorem dX12_numbers_23 : decode cX12_numbers 23 = .ok (.invokestatic 144, 3) := by decide +kernel
theorem dX12_numbers_26 : decode cX12_numbers 26 = .ok (.ifCond .ne 6, 3) := by decide +kernel
theorem dX12_numbers_29 : decode cX12_numbers 29 = .ok (.bipush (-2), 2) := by decide +kernel
theorem dX12_numbers_31 : decode cX12_numbers 31 = .ok (.ireturn, 1) := by decide +kernel
theorem dX12_numbers_32 : decode cX12_numbers 32 = .ok (.iload_n 3, 1) := by decide +kernel
theorem dX12_numbers_33 : decode cX12_numbers 33 = .ok (.i2l, 1) := by decide +kernel
theorem dX12_numbers_34 : decode cX12_numbers 34 = .ok (.lconst 0, 1) := by decide +kernel
theorem dX12_numbers_35 : decode cX12_numbers 35 = .ok (.ldc2_w 324, 3) := by decide +kernel
theorem dX12_numbers_38 : decode cX12_numbers 38 = .ok (.invokestatic 144, 3) := by decide +kernel
theorem dX12_numbers_41 : decode cX12_numbers 41 = .ok (.ifCond .ne 6, 3) := by decide +kernel
theorem dX12_numbers_44 : decode cX12_numbers 44 = .ok (.bipush (-3), 2) := by decide +kernel
theorem dX12_numbers_46 : decode cX12_numbers 46 = .ok (.ireturn, 1) := by decide +kernel
theorem dX12_numbers_47 : decode cX12_numbers 47 = .ok (.aload_n 0, 1) := by decide +kernel
theorem dX12_numbers_48 : decode cX12_numbers 48 = .ok (.getfield 69, 3) := by decide +kernel
theorem dX12_numbers_51 : decode cX12_numbers 51 = .ok (.iload_n 1, 1) := by decide +kernel
theorem dX12_numbers_52 : decode cX12_numbers 52 = .ok (.iload_n 2, 1) := by decide +kernel
theorem dX12_numbers_53 : decode cX12_numbers 53 = .ok (.iastore, 1) := by decide +kernel
theorem dX12_numbers_54 : decode cX12_numbers 54 = .ok (.aload_n 0, 1) := by decide +kernel
theorem dX12_numbers_55 : decode cX12_numbers 55 = .ok (.getfield 72, 3) := by decide +kernel
theorem dX12_numbers_58 : decode cX12_numbers 58 = .ok (.iload_n 1, 1) := by decide +kernel
theorem dX12_numbers_59 : decode cX12_numbers 59 = .ok (.iload_n 3, 1) := by decide +kernel
theorem dX12_numbers_60 : decode cX12_numbers 60 = .ok (.iastore, 1) := by decide +kernel
theorem dX12_numbers_61 : decode cX12_numbers 61 = .ok (.iconst 0, 1) := by decide +kernel
theorem dX12_numbers_62 : decode cX12_numbers 62 = .ok (.istore 4, 2) := by decide +kernel
theorem dX12_numbers_64 : decode cX12_numbers 64 = .ok (.iload 4, 2) := by decide +kernel
theorem dX12_numbers_66 : decode cX12_numbers 66 = .ok (.iload_n 3, 1) := by decide +kernel
theorem dX12_numbers_67 : decode cX12_numbers 67 = .ok (.if_icmp .ge 22, 3) := by decide +kernel
theorem dX12_numbers_70 : decode cX12_numbers 70 = .ok (.aload_n 0, 1) := by decide +kernel
theorem dX12_numbers_71 : decode cX12_numbers 71 = .ok (.getfield 75, 3) := by decide +kernel
theorem dX12_numbers_74 : decode cX12_numbers 74 = .ok (.bipush 40, 2) := by decide +kernel
theorem dX12_numbers_76 : decode cX12_numbers 76 = .ok (.iload_n 1, 1) := by decide +kernel
theorem dX12_numbers_77 : decode cX12_numbers 77 = .ok (.imul, 1) := by decide +kernel
theorem dX12_numbers_78 : decode cX12_numbers 78 = .ok (.iload 4, 2) := by decide +kernel
theorem dX12_numbers_80 : decode cX12_numbers 80 = .ok (.iadd, 1) := by decide +kernel
theorem dX12_numbers_81 : decode cX12_numbers 81 = .ok (.lconst 0, 1) := by decide +kernel
theorem dX12_numbers_82 : decode cX12_numbers 82 = .ok (.lastore, 1) := by decide +kernel
theorem dX12_numbers_83 : decode cX12_numbers 83 = .ok (.iinc 4 1, 3) := by decide +kernel
theorem dX12_numbers_86 : decode cX12_numbers 86 = .ok (.goto (-22), 3) := by decide +kernel
theorem dX12_numbers_89 : decode cX12_numbers 89 = .ok (.iconst 0, 1) := by decide +kernel
theorem dX12_numbers_90 : decode cX12_numbers 90 = .ok (.ireturn, 1) := by decide +kernel
set_option maxHeartbeats 4000000 in
set_option maxRecDepth 100000 in
theorem s_M_numbers (l : Launch) (D : va_G) (cs : CS) (kf : KF) (T : TF) (O : List Nat) (X : va_W) (a0 hg mq : Nat) (x1 : Int32) (x2 : Int32) (x3 : Int32) (t_a0 : T a0 = some (22, hg, mq)) (b_hg : hg < 90) (hU : ∀ (b : Nat) (tg : Tg), T b = some tg → tg.1 = 22 → b = a0) (hO : okO T O [2, 9, 22]) : TK l D cs kf yX12_numbers cX12_numbers 5 (some (.int)) { frames := 1, cells := 0, slots := 0, locals := 25 } [.ref a0, .int x1, .int x2, .int x3] T O X (Ti D cs (fun r u => ∃ (T2 : TF) (mq2 : Nat), u = (T2, O, X) ∧ -3 ≤ r.toInt ∧ r.toInt ≤ 0 ∧ (Trm T T2 a0) ∧ (T2 a0 = some (22, hg, mq2)) ∧ (NGF mq mq2 x1.toInt x2.toInt x3.toInt r.toInt))) := by
  refine tk_of (by decide) (Nat.le_of_ble_eq_true rfl) (fun p e s m below meth c ls A H locs hx hb hr hml hown hts hlocks hnm hkb hH hS hA hOX hks hE hl => ?_)
  have hown : s.vm.findClass RX12 = some m.cls := hown
  have hl : lv_has ls 5 [(0, .ref a0), (1, .int x1), (2, .int x2), (3, .int x3)] := hl
  have hO0 := hO
  obtain ⟨fs9, ho9, hH⟩ := hH.take t_a0 (hO0.no t_a0 (by decide))
  have hp0 : okL T (ft12 hg mq) fs9 := ho9
  clear ho9
  obtain ⟨v9, fs9, rfl, h9, hp1⟩ := okL_i hp0
  obtain ⟨q0_0, rfl⟩ := h9
  obtain ⟨v9, fs9, rfl, h9, hp2⟩ := okL_i hp1
  obtain ⟨q0_1, rfl, t_q0_1⟩ := h9
  obtain ⟨v9, fs9, rfl, h9, hp3⟩ := okL_i hp2
  obtain ⟨q0_2, rfl, t_q0_2⟩ := h9
  obtain ⟨v9, fs9, rfl, h9, hp4⟩ := okL_i hp3
  obtain ⟨q0_3, rfl, t_q0_3⟩ := h9
  obtain ⟨v9, fs9, rfl, h9, hp5⟩ := okL_i hp4
  obtain ⟨q0_4, rfl, t_q0_4⟩ := h9
  obtain ⟨v9, fs9, rfl, h9, hp6⟩ := okL_i hp5
  obtain ⟨q0_5, rfl, l_q0_5, u_q0_5⟩ := h9
  obtain ⟨v9, fs9, rfl, h9, hp7⟩ := okL_i hp6
  obtain ⟨q0_6, rfl⟩ := h9
  obtain ⟨v9, fs9, rfl, h9, hp8⟩ := okL_i hp7
  obtain ⟨q0_7, rfl⟩ := h9
  obtain ⟨v9, fs9, rfl, h9, hp9⟩ := okL_i hp8
  obtain ⟨q0_8, rfl⟩ := h9
  obtain ⟨v9, fs9, rfl, h9, hp10⟩ := okL_i hp9
  obtain ⟨q0_9, rfl⟩ := h9
  obtain ⟨v9, fs9, rfl, h9, hp11⟩ := okL_i hp10
  obtain ⟨q0_10, rfl, l_q0_10, u_q0_10⟩ := h9
  obtain ⟨v9, fs9, rfl, h9, hp12⟩ := okL_i hp11
  obtain ⟨q0_11, rfl⟩ := h9
  obtain ⟨v9, fs9, rfl, h9, hp13⟩ := okL_i hp12
  obtain ⟨q0_12, rfl⟩ := h9
  obtain ⟨v9, fs9, rfl, h9, hp14⟩ := okL_i hp13
  obtain ⟨q0_13, rfl⟩ := h9
  obtain ⟨v9, fs9, rfl, h9, hp15⟩ := okL_i hp14
  obtain ⟨q0_14, rfl⟩ := h9
  obtain ⟨v9, fs9, rfl, h9, hp16⟩ := okL_i hp15
  obtain ⟨q0_15, rfl, t_q0_15⟩ := h9
  obtain ⟨v9, fs9, rfl, h9, hp17⟩ := okL_i hp16
  obtain ⟨q0_16, rfl⟩ := h9
  obtain ⟨v9, fs9, rfl, h9, hp18⟩ := okL_i hp17
  obtain ⟨q0_17, rfl, t_q0_17⟩ := h9
  obtain ⟨v9, fs9, rfl, h9, hp19⟩ := okL_i hp18
  obtain ⟨q0_18, rfl, t_q0_18⟩ := h9
  obtain ⟨v9, fs9, rfl, h9, hp20⟩ := okL_i hp19
  obtain ⟨q0_19, rfl, t_q0_19⟩ := h9
  obtain ⟨v9, fs9, rfl, h9, hp21⟩ := okL_i hp20
  obtain ⟨q0_20, rfl, l_q0_20, u_q0_20⟩ := h9
  obtain ⟨v9, fs9, rfl, h9, hp22⟩ := okL_i hp21
  obtain ⟨q0_21, rfl, t_q0_21⟩ := h9
  obtain ⟨v9, fs9, rfl, h9, hp23⟩ := okL_i hp22
  obtain ⟨q0_22, rfl, t_q0_22⟩ := h9
  obtain ⟨v9, fs9, rfl, h9, hp24⟩ := okL_i hp23
  obtain ⟨q0_23, rfl⟩ := h9
  obtain ⟨v9, fs9, rfl, h9, hp25⟩ := okL_i hp24
  obtain ⟨q0_24, rfl⟩ := h9
  obtain ⟨v9, fs9, rfl, h9, hp26⟩ := okL_i hp25
  obtain ⟨q0_25, rfl⟩ := h9
  obtain ⟨v9, fs9, rfl, h9, hp27⟩ := okL_i hp26
  obtain ⟨q0_26, rfl, t_q0_26⟩ := h9
  obtain ⟨v9, fs9, rfl, h9, hp28⟩ := okL_i hp27
  obtain ⟨q0_27, rfl, t_q0_27⟩ := h9
  obtain ⟨v9, fs9, rfl, h9, hp29⟩ := okL_i hp28
  obtain ⟨q0_28, rfl, t_q0_28⟩ := h9
  obtain ⟨v9, fs9, rfl, h9, hp30⟩ := okL_i hp29
  obtain ⟨q0_29, rfl, t_q0_29⟩ := h9
  obtain ⟨v9, fs9, rfl, h9, hp31⟩ := okL_i hp30
  obtain ⟨q0_30, rfl, t_q0_30⟩ := h9
  obtain ⟨v9, fs9, rfl, h9, hp32⟩ := okL_i hp31
  obtain ⟨q0_31, rfl, t_q0_31⟩ := h9
  obtain ⟨v9, fs9, rfl, h9, hp33⟩ := okL_i hp32
  obtain ⟨q0_32, rfl⟩ := h9
  obtain ⟨v9, fs9, rfl, h9, hp34⟩ := okL_i hp33
  obtain ⟨q0_33, rfl, t_q0_33⟩ := h9
  obtain ⟨v9, fs9, rfl, h9, hp35⟩ := okL_i hp34
  obtain ⟨q0_34, rfl, t_q0_34⟩ := h9
  obtain ⟨v9, fs9, rfl, h9, hp36⟩ := okL_i hp35
  obtain ⟨q0_35, rfl, t_q0_35⟩ := h9
  have hpz := okL_z hp36
  subst hpz
  have hH : HT D cs A T (a0 :: O) ((a0, .inr (12, [.int q0_0, .ref q0_1, .ref q0_2, .ref q0_3, .ref q0_4, .int q0_5, .int q0_6, .int q0_7, .int q0_8, .int q0_9, .int q0_10, .int q0_11, .int q0_12, .int q0_13, .int q0_14, .ref q0_15, .int q0_16, .ref q0_17, .ref q0_18, .ref q0_19, .int q0_20, .ref q0_21, .ref q0_22, .int q0_23, .int q0_24, .int q0_25, .ref q0_26, .ref q0_27, .ref q0_28, .ref q0_29, .ref q0_30, .ref q0_31, .int q0_32, .ref q0_33, .ref q0_34, .ref q0_35])) :: X) H := hH
  have hO : okO T (a0 :: O) [2, 9] := okO.cons (hO0.sub (by decide)) t_a0 (by decide)
  obtain ⟨e9, hs9, hH⟩ := HT.takeA hH t_q0_34 (nm_c (tag_ne t_q0_34 t_a0 (fun q => absurd (show 9 = 22 from congrArg Prod.fst q) (by decide))) (hO0.no t_q0_34 (by decide)))
  obtain ⟨f34, rfl, -, p_f34⟩ : ∃ f : Nat → Int32, e9 = .inl (cs.2.1, 4, .inl f) ∧ (4 ≠ 4 → ∀ j, cp (2 * mq + 1) (f j)) ∧ (4 = 4 → ∀ j, j < 4 → ((f j).toInt = pvr (2 * mq + 1) j ∧ -1 ≤ (f j).toInt ∧ (f j).toInt ≤ 40)) := hs9
  have p_f34 := p_f34 rfl
  have hO : okO T (q0_34 :: a0 :: O) [2] := okO.cons (hO.sub (by decide)) t_q0_34 (by decide)
  obtain ⟨e9, hs9, hH⟩ := HT.takeA hH t_q0_33 (nm_c (tag_ne t_q0_33 t_q0_34 (fun q => by have q9 := congrArg (fun z : Tg => z.2.2) q; simp only at q9; omega)) (nm_c (tag_ne t_q0_33 t_a0 (fun q => absurd (show 9 = 22 from congrArg Prod.fst q) (by decide))) (hO0.no t_q0_33 (by decide))))
  obtain ⟨f33, rfl, -, p_f33⟩ : ∃ f : Nat → Int32, e9 = .inl (cs.2.1, 4, .inl f) ∧ (4 ≠ 4 → ∀ j, cp (2 * mq) (f j)) ∧ (4 = 4 → ∀ j, j < 4 → ((f j).toInt = pvr (2 * mq) j ∧ -1 ≤ (f j).toInt ∧ (f j).toInt ≤ 40)) := hs9
  have p_f33 := p_f33 rfl
  have hO : okO T (q0_33 :: q0_34 :: a0 :: O) [2] := okO.cons (hO.sub (by decide)) t_q0_33 (by decide)
  refine lv_aload_n hx hb dX12_numbers_0 rfl (lv_at hl 0 rfl) ?_
  refine lv_iconst (v := 0) hx hb dX12_numbers_1 (by decide) ?_
  refine x_putk (ci := 12) (v := .int 0) (ty := tyX12 0) (C := RX12) (F := TX12) (N := 36) hx hb hts uX12 tyX12 tyX12_ok nmX12 hown hkb hH hS 2 rfl rfl 0 (by decide) kw_1223 (fun _ h9 => h9) rfl (tyX12_ok 0 (by decide)) rfl rfl (Nat.le_of_ble_eq_true rfl) dX12_numbers_2 (fun H locs hH hS => ?_)
  have hH : HT D cs A T (q0_33 :: q0_34 :: a0 :: O) ((q0_33, .inl (cs.2.1, 4, .inl f33)) :: (q0_34, .inl (cs.2.1, 4, .inl f34)) :: (a0, .inr (12, [.int 0, .ref q0_1, .ref q0_2, .ref q0_3, .ref q0_4, .int q0_5, .int q0_6, .int q0_7, .int q0_8, .int q0_9, .int q0_10, .int q0_11, .int q0_12, .int q0_13, .int q0_14, .ref q0_15, .int q0_16, .ref q0_17, .ref q0_18, .ref q0_19, .int q0_20, .ref q0_21, .ref q0_22, .int q0_23, .int q0_24, .int q0_25, .ref q0_26, .ref q0_27, .ref q0_28, .ref q0_29, .ref q0_30, .ref q0_31, .int q0_32, .ref q0_33, .ref q0_34, .ref q0_35])) :: X) H := hH
  refine lv_iload_n hx hb dX12_numbers_5 rfl (lv_at hl 1 rfl) ?_
  refine lv_i2l hx hb dX12_numbers_6 rfl ?_
  refine lv_lconst (v := 0) hx hb dX12_numbers_7 (by decide) ?_
  refine lv_ldc2 hx hb hown (hts _ kw_1527) dX12_numbers_8 ?_
  refine tk_i hH hS hA (tr_S (n := 3) (As := [.long x1.toInt64, .long 0, .long 3]) hx hb hml hown hts hkb hH (ox_c (ox_c (ox_c hOX))) hks hE hS hA (s_M_within l D cs kf T (q0_33 :: q0_34 :: a0 :: O) ((q0_33, .inl (cs.2.1, 4, .inl f33)) :: (q0_34, .inl (cs.2.1, 4, .inl f34)) :: (a0, .inr (12, [.int 0, .ref q0_1, .ref q0_2, .ref q0_3, .ref q0_4, .int q0_5, .int q0_6, .int q0_7, .int q0_8, .int q0_9, .int q0_10, .int q0_11, .int q0_12, .int q0_13, .int q0_14, .ref q0_15, .int q0_16, .ref q0_17, .ref q0_18, .ref q0_19, .int q0_20, .ref q0_21, .ref q0_22, .int q0_23, .int q0_24, .int q0_25, .ref q0_26, .ref q0_27, .ref q0_28, .ref q0_29, .ref q0_30, .ref q0_31, .int q0_32, .ref q0_33, .ref q0_34, .ref q0_35])) :: X) x1.toInt64 0 3  (hO.sub (by decide))) kw_1341 kw_1342 kw_13 kw_1343 (by decide +kernel) ⟨Nat.le_of_ble_eq_true rfl, Nat.le_of_ble_eq_true rfl⟩ rfl rfl hl.1 (Nat.le_of_ble_eq_true rfl) dX12_numbers_11 ⟨Nat.le_of_ble_eq_true rfl, Nat.le_of_ble_eq_true rfl⟩) (fun v11 u H locs hz9 hH hS => ?_)
  obtain ⟨rfl, l_v11, u_v11, x_v110, x_v111⟩ := hz9
  simp only [Int32.toInt_toInt64] at x_v110 x_v111
  have k9_0 : (0 : Int64).toInt = 0 := by decide
  have k9_3 : (3 : Int64).toInt = 3 := by decide
  have hH : HT D cs A T (q0_33 :: q0_34 :: a0 :: O) ((q0_33, .inl (cs.2.1, 4, .inl f33)) :: (q0_34, .inl (cs.2.1, 4, .inl f34)) :: (a0, .inr (12, [.int 0, .ref q0_1, .ref q0_2, .ref q0_3, .ref q0_4, .int q0_5, .int q0_6, .int q0_7, .int q0_8, .int q0_9, .int q0_10, .int q0_11, .int q0_12, .int q0_13, .int q0_14, .ref q0_15, .int q0_16, .ref q0_17, .ref q0_18, .ref q0_19, .int q0_20, .ref q0_21, .ref q0_22, .int q0_23, .int q0_24, .int q0_25, .ref q0_26, .ref q0_27, .ref q0_28, .ref q0_29, .ref q0_30, .ref q0_31, .int q0_32, .ref q0_33, .ref q0_34, .ref q0_35])) :: X) H := hH
  refine W.widen (k := 0) (n := 0) (Nat.le_of_ble_eq_true rfl) (Nat.le_of_ble_eq_true rfl) ?_
  refine lv_if_eq (tgt := 29) hx hb dX12_numbers_14 (by decide) (fun c14 => ?_) (fun c14 => ?_)
  · skip
    have tc14 := f_eq (k := 0) (by decide) c14
    clear x_v110
    replace x_v111 := x_v111.resolve_left (fun q9 => q9 tc14)
    refine lv_bipush (v := (-2)) hx hb dX12_numbers_29 (by decide) ?_
    have hH : HT D cs A T (q0_34 :: a0 :: O) ((q0_34, .inl (cs.2.1, 4, .inl f34)) :: (a0, .inr (12, [.int 0, .ref q0_1, .ref q0_2, .ref q0_3, .ref q0_4, .int q0_5, .int q0_6, .int q0_7, .int q0_8, .int q0_9, .int q0_10, .int q0_11, .int q0_12, .int q0_13, .int q0_14, .ref q0_15, .int q0_16, .ref q0_17, .ref q0_18, .ref q0_19, .int q0_20, .ref q0_21, .ref q0_22, .int q0_23, .int q0_24, .int q0_25, .ref q0_26, .ref q0_27, .ref q0_28, .ref q0_29, .ref q0_30, .ref q0_31, .int q0_32, .ref q0_33, .ref q0_34, .ref q0_35])) :: X) H := HT.layA hH t_q0_33 (show sp cs T (9, 4, (2 * mq)) _ from ⟨_, rfl, fun q => absurd rfl q, fun _ => p_f33⟩)
    have hH : HT D cs A T (a0 :: O) ((a0, .inr (12, [.int 0, .ref q0_1, .ref q0_2, .ref q0_3, .ref q0_4, .int q0_5, .int q0_6, .int q0_7, .int q0_8, .int q0_9, .int q0_10, .int q0_11, .int q0_12, .int q0_13, .int q0_14, .ref q0_15, .int q0_16, .ref q0_17, .ref q0_18, .ref q0_19, .int q0_20, .ref q0_21, .ref q0_22, .int q0_23, .int q0_24, .int q0_25, .ref q0_26, .ref q0_27, .ref q0_28, .ref q0_29, .ref q0_30, .ref q0_31, .int q0_32, .ref q0_33, .ref q0_34, .ref q0_35])) :: X) H := HT.layA hH t_q0_34 (show sp cs T (9, 4, (2 * mq + 1)) _ from ⟨_, rfl, fun q => absurd rfl q, fun _ => p_f34⟩)
    have hH : HT D cs A T O X H := HT.lay (ci := 12) hH t_a0 (okL_c (⟨_, rfl⟩) (okL_c (⟨_, rfl, t_q0_1⟩) (okL_c (⟨_, rfl, t_q0_2⟩) (okL_c (⟨_, rfl, t_q0_3⟩) (okL_c (⟨_, rfl, t_q0_4⟩) (okL_c (⟨_, rfl, by omega, by omega⟩) (okL_c (⟨_, rfl⟩) (okL_c (⟨_, rfl⟩) (okL_c (⟨_, rfl⟩) (okL_c (⟨_, rfl⟩) (okL_c (⟨_, rfl, by omega, by omega⟩) (okL_c (⟨_, rfl⟩) (okL_c (⟨_, rfl⟩) (okL_c (⟨_, rfl⟩) (okL_c (⟨_, rfl⟩) (okL_c (⟨_, rfl, t_q0_15⟩) (okL_c (⟨_, rfl⟩) (okL_c (⟨_, rfl, t_q0_17⟩) (okL_c (⟨_, rfl, t_q0_18⟩) (okL_c (⟨_, rfl, t_q0_19⟩) (okL_c (⟨_, rfl, by omega, by omega⟩) (okL_c (⟨_, rfl, t_q0_21⟩) (okL_c (⟨_, rfl, t_q0_22⟩) (okL_c (⟨_, rfl⟩) (okL_c (⟨_, rfl⟩) (okL_c (⟨_, rfl⟩) (okL_c (⟨_, rfl, t_q0_26⟩) (okL_c (⟨_, rfl, t_q0_27⟩) (okL_c (⟨_, rfl, t_q0_28⟩) (okL_c (⟨_, rfl, t_q0_29⟩) (okL_c (⟨_, rfl, t_q0_30⟩) (okL_c (⟨_, rfl, t_q0_31⟩) (okL_c (⟨_, rfl⟩) (okL_c (⟨_, rfl, t_q0_33⟩) (okL_c (⟨_, rfl, t_q0_34⟩) (okL_c (⟨_, rfl, t_q0_35⟩) (okL_n)))))))))))))))))))))))))))))))))))))
    have hO := hO0
    have z9_m2 : ((-2) : Int32).toInt = -2 := by decide
    exact te_i hx hb hr hlocks hH hS (⟨T, mq, rfl, by decide, by decide, Trm.rf, t_a0, (Or.inl ⟨by decide, by omega, rfl⟩)⟩) dX12_numbers_31
  · skip
    have tc14 := f_ne (k := 0) (by decide) c14
    replace x_v110 := x_v110.resolve_left tc14
    clear x_v111
    refine lv_iload_n hx hb dX12_numbers_17 rfl (lv_at hl 2 rfl) ?_
    refine lv_i2l hx hb dX12_numbers_18 rfl ?_
    refine lv_lconst (v := 0) hx hb dX12_numbers_19 (by decide) ?_
    refine lv_ldc2 hx hb hown (hts _ kw_1527) dX12_numbers_20 ?_
    refine tk_i hH hS hA (tr_S (n := 3) (As := [.long x2.toInt64, .long 0, .long 3]) hx hb hml hown hts hkb hH (ox_c (ox_c (ox_c hOX))) hks hE hS hA (s_M_within l D cs kf T (q0_33 :: q0_34 :: a0 :: O) ((q0_33, .inl (cs.2.1, 4, .inl f33)) :: (q0_34, .inl (cs.2.1, 4, .inl f34)) :: (a0, .inr (12, [.int 0, .ref q0_1, .ref q0_2, .ref q0_3, .ref q0_4, .int q0_5, .int q0_6, .int q0_7, .int q0_8, .int q0_9, .int q0_10, .int q0_11, .int q0_12, .int q0_13, .int q0_14, .ref q0_15, .int q0_16, .ref q0_17, .ref q0_18, .ref q0_19, .int q0_20, .ref q0_21, .ref q0_22, .int q0_23, .int q0_24, .int q0_25, .ref q0_26, .ref q0_27, .ref q0_28, .ref q0_29, .ref q0_30, .ref q0_31, .int q0_32, .ref q0_33, .ref q0_34, .ref q0_35])) :: X) x2.toInt64 0 3  (hO.sub (by decide))) kw_1341 kw_1342 kw_13 kw_1343 (by decide +kernel) ⟨Nat.le_of_ble_eq_true rfl, Nat.le_of_ble_eq_true rfl⟩ rfl rfl hl.1 (Nat.le_of_ble_eq_true rfl) dX12_numbers_23 ⟨Nat.le_of_ble_eq_true rfl, Nat.le_of_ble_eq_true rfl⟩) (fun v23 u H locs hz9 hH hS => ?_)
    obtain ⟨rfl, l_v23, u_v23, x_v230, x_v231⟩ := hz9
    simp only [Int32.toInt_toInt64] at x_v230 x_v231
    have k9_0 : (0 : Int64).toInt = 0 := by decide
    have k9_3 : (3 : Int64).toInt = 3 := by decide
    have hH : HT D cs A T (q0_33 :: q0_34 :: a0 :: O) ((q0_33, .inl (cs.2.1, 4, .inl f33)) :: (q0_34, .inl (cs.2.1, 4, .inl f34)) :: (a0, .inr (12, [.int 0, .ref q0_1, .ref q0_2, .ref q0_3, .ref q0_4, .int q0_5, .int q0_6, .int q0_7, .int q0_8, .int q0_9, .int q0_10, .int q0_11, .int q0_12, .int q0_13, .int q0_14, .ref q0_15, .int q0_16, .ref q0_17, .ref q0_18, .ref q0_19, .int q0_20, .ref q0_21, .ref q0_22, .int q0_23, .int q0_24, .int q0_25, .ref q0_26, .ref q0_27, .ref q0_28, .ref q0_29, .ref q0_30, .ref q0_31, .int q0_32, .ref q0_33, .ref q0_34, .ref q0_35])) :: X) H := hH
    refine W.widen (k := 0) (n := 0) (Nat.le_of_ble_eq_true rfl) (Nat.le_of_ble_eq_true rfl) ?_
    refine lv_if_ne (tgt := 32) hx hb dX12_numbers_26 (by decide) (fun c26 => ?_) (fun c26 => ?_)
    · skip
      have tc26 := f_ne (k := 0) (by decide) c26
      replace x_v230 := x_v230.resolve_left tc26
      clear x_v231
      refine lv_iload_n hx hb dX12_numbers_32 rfl (lv_at hl 3 rfl) ?_
      refine lv_i2l hx hb dX12_numbers_33 rfl ?_
      refine lv_lconst (v := 0) hx hb dX12_numbers_34 (by decide) ?_
      refine lv_ldc2 hx hb hown (hts _ kw_1607) dX12_numbers_35 ?_
      refine tk_i hH hS hA (tr_S (n := 3) (As := [.long x3.toInt64, .long 0, .long 40]) hx hb hml hown hts hkb hH (ox_c (ox_c (ox_c hOX))) hks hE hS hA (s_M_within l D cs kf T (q0_33 :: q0_34 :: a0 :: O) ((q0_33, .inl (cs.2.1, 4, .inl f33)) :: (q0_34, .inl (cs.2.1, 4, .inl f34)) :: (a0, .inr (12, [.int 0, .ref q0_1, .ref q0_2, .ref q0_3, .ref q0_4, .int q0_5, .int q0_6, .int q0_7, .int q0_8, .int q0_9, .int q0_10, .int q0_11, .int q0_12, .int q0_13, .int q0_14, .ref q0_15, .int q0_16, .ref q0_17, .ref q0_18, .ref q0_19, .int q0_20, .ref q0_21, .ref q0_22, .int q0_23, .int q0_24, .int q0_25, .ref q0_26, .ref q0_27, .ref q0_28, .ref q0_29, .ref q0_30, .ref q0_31, .int q0_32, .ref q0_33, .ref q0_34, .ref q0_35])) :: X) x3.toInt64 0 40  (hO.sub (by decide))) kw_1341 kw_1342 kw_13 kw_1343 (by decide +kernel) ⟨Nat.le_of_ble_eq_true rfl, Nat.le_of_ble_eq_true rfl⟩ rfl rfl hl.1 (Nat.le_of_ble_eq_true rfl) dX12_numbers_38 ⟨Nat.le_of_ble_eq_true rfl, Nat.le_of_ble_eq_true rfl⟩) (fun v38 u H locs hz9 hH hS => ?_)
      obtain ⟨rfl, l_v38, u_v38, x_v380, x_v381⟩ := hz9
      simp only [Int32.toInt_toInt64] at x_v380 x_v381
      have k9_0 : (0 : Int64).toInt = 0 := by decide
      have k9_40 : (40 : Int64).toInt = 40 := by decide
      have hH : HT D cs A T (q0_33 :: q0_34 :: a0 :: O) ((q0_33, .inl (cs.2.1, 4, .inl f33)) :: (q0_34, .inl (cs.2.1, 4, .inl f34)) :: (a0, .inr (12, [.int 0, .ref q0_1, .ref q0_2, .ref q0_3, .ref q0_4, .int q0_5, .int q0_6, .int q0_7, .int q0_8, .int q0_9, .int q0_10, .int q0_11, .int q0_12, .int q0_13, .int q0_14, .ref q0_15, .int q0_16, .ref q0_17, .ref q0_18, .ref q0_19, .int q0_20, .ref q0_21, .ref q0_22, .int q0_23, .int q0_24, .int q0_25, .ref q0_26, .ref q0_27, .ref q0_28, .ref q0_29, .ref q0_30, .ref q0_31, .int q0_32, .ref q0_33, .ref q0_34, .ref q0_35])) :: X) H := hH
      refine W.widen (k := 0) (n := 0) (Nat.le_of_ble_eq_true rfl) (Nat.le_of_ble_eq_true rfl) ?_
      refine lv_if_ne (tgt := 47) hx hb dX12_numbers_41 (by decide) (fun c41 => ?_) (fun c41 => ?_)
      · skip
        have tc41 := f_ne (k := 0) (by decide) c41
        replace x_v380 := x_v380.resolve_left tc41
        clear x_v381
        refine lv_aload_n hx hb dX12_numbers_47 rfl (lv_at hl 0 rfl) ?_
        refine x_getk (ci := 12) (C := RX12) (F := TX12) (N := 36) (v := .ref q0_33) hx hb hts uX12 hown hkb hH 2 rfl rfl 33 (by decide) rfl kw_1256 (fun _ h9 => h9) dX12_numbers_48 ?_
        refine lv_iload_n hx hb dX12_numbers_51 rfl (lv_at hl 1 rfl) ?_
        refine lv_iload_n hx hb dX12_numbers_52 rfl (lv_at hl 2 rfl) ?_
        refine xa_ist hx hb hkb hH hS 0 rfl (by omega) (by omega) dX12_numbers_53 (fun H locs hH hS => ?_)
        have hH : HT D cs A T (q0_33 :: q0_34 :: a0 :: O) ((q0_33, .inl (cs.2.1, 4, .inl (upd f33 (x1.toInt.toNat) x2))) :: (q0_34, .inl (cs.2.1, 4, .inl f34)) :: (a0, .inr (12, [.int 0, .ref q0_1, .ref q0_2, .ref q0_3, .ref q0_4, .int q0_5, .int q0_6, .int q0_7, .int q0_8, .int q0_9, .int q0_10, .int q0_11, .int q0_12, .int q0_13, .int q0_14, .ref q0_15, .int q0_16, .ref q0_17, .ref q0_18, .ref q0_19, .int q0_20, .ref q0_21, .ref q0_22, .int q0_23, .int q0_24, .int q0_25, .ref q0_26, .ref q0_27, .ref q0_28, .ref q0_29, .ref q0_30, .ref q0_31, .int q0_32, .ref q0_33, .ref q0_34, .ref q0_35])) :: X) H := hH
        obtain ⟨F53, eF53⟩ : ∃ f9, f9 = upd f33 (x1.toInt.toNat) x2 := ⟨_, rfl⟩
        have hH : HT D cs A T (q0_33 :: q0_34 :: a0 :: O) ((q0_33, .inl (cs.2.1, 4, .inl F53)) :: (q0_34, .inl (cs.2.1, 4, .inl f34)) :: (a0, .inr (12, [.int 0, .ref q0_1, .ref q0_2, .ref q0_3, .ref q0_4, .int q0_5, .int q0_6, .int q0_7, .int q0_8, .int q0_9, .int q0_10, .int q0_11, .int q0_12, .int q0_13, .int q0_14, .ref q0_15, .int q0_16, .ref q0_17, .ref q0_18, .ref q0_19, .int q0_20, .ref q0_21, .ref q0_22, .int q0_23, .int q0_24, .int q0_25, .ref q0_26, .ref q0_27, .ref q0_28, .ref q0_29, .ref q0_30, .ref q0_31, .int q0_32, .ref q0_33, .ref q0_34, .ref q0_35])) :: X) H := eF53 ▸ hH
        refine lv_aload_n hx hb dX12_numbers_54 rfl (lv_at hl 0 rfl) ?_
        refine x_getk (ci := 12) (C := RX12) (F := TX12) (N := 36) (v := .ref q0_34) hx hb hts uX12 hown hkb hH 2 rfl rfl 34 (by decide) rfl kw_1257 (fun _ h9 => h9) dX12_numbers_55 ?_
        refine lv_iload_n hx hb dX12_numbers_58 rfl (lv_at hl 1 rfl) ?_
        refine lv_iload_n hx hb dX12_numbers_59 rfl (lv_at hl 3 rfl) ?_
        refine xa_ist hx hb hkb hH hS 1 rfl (by omega) (by omega) dX12_numbers_60 (fun H locs hH hS => ?_)
        have hH : HT D cs A T (q0_33 :: q0_34 :: a0 :: O) ((q0_33, .inl (cs.2.1, 4, .inl F53)) :: (q0_34, .inl (cs.2.1, 4, .inl (upd f34 (x1.toInt.toNat) x3))) :: (a0, .inr (12, [.int 0, .ref q0_1, .ref q0_2, .ref q0_3, .ref q0_4, .int q0_5, .int q0_6, .int q0_7, .int q0_8, .int q0_9, .int q0_10, .int q0_11, .int q0_12, .int q0_13, .int q0_14, .ref q0_15, .int q0_16, .ref q0_17, .ref q0_18, .ref q0_19, .int q0_20, .ref q0_21, .ref q0_22, .int q0_23, .int q0_24, .int q0_25, .ref q0_26, .ref q0_27, .ref q0_28, .ref q0_29, .ref q0_30, .ref q0_31, .int q0_32, .ref q0_33, .ref q0_34, .ref q0_35])) :: X) H := hH
        obtain ⟨F60, eF60⟩ : ∃ f9, f9 = upd f34 (x1.toInt.toNat) x3 := ⟨_, rfl⟩
        have hH : HT D cs A T (q0_33 :: q0_34 :: a0 :: O) ((q0_33, .inl (cs.2.1, 4, .inl F53)) :: (q0_34, .inl (cs.2.1, 4, .inl F60)) :: (a0, .inr (12, [.int 0, .ref q0_1, .ref q0_2, .ref q0_3, .ref q0_4, .int q0_5, .int q0_6, .int q0_7, .int q0_8, .int q0_9, .int q0_10, .int q0_11, .int q0_12, .int q0_13, .int q0_14, .ref q0_15, .int q0_16, .ref q0_17, .ref q0_18, .ref q0_19, .int q0_20, .ref q0_21, .ref q0_22, .int q0_23, .int q0_24, .int q0_25, .ref q0_26, .ref q0_27, .ref q0_28, .ref q0_29, .ref q0_30, .ref q0_31, .int q0_32, .ref q0_33, .ref q0_34, .ref q0_35])) :: X) H := eF60 ▸ hH
        refine lv_iconst (v := 0) hx hb dX12_numbers_61 (by decide) ?_
        have J64 : ∀ (n : Nat) (p64_4 : Int32) (H : Heap) (locs : List Loc) (ls : Array Slot), (40 - p64_4.toInt).toNat = n → (0 ≤ p64_4.toInt) → (p64_4.toInt ≤ 40) → ((0 ≤ x1.toInt ∧ x1.toInt ≤ 3) ∧ (0 ≤ x2.toInt ∧ x2.toInt ≤ 3) ∧ (0 ≤ x3.toInt ∧ x3.toInt ≤ 40)) → HT D cs A T (q0_33 :: q0_34 :: a0 :: O) ((q0_33, .inl (cs.2.1, 4, .inl F53)) :: (q0_34, .inl (cs.2.1, 4, .inl F60)) :: (a0, .inr (12, [.int 0, .ref q0_1, .ref q0_2, .ref q0_3, .ref q0_4, .int q0_5, .int q0_6, .int q0_7, .int q0_8, .int q0_9, .int q0_10, .int q0_11, .int q0_12, .int q0_13, .int q0_14, .ref q0_15, .int q0_16, .ref q0_17, .ref q0_18, .ref q0_19, .int q0_20, .ref q0_21, .ref q0_22, .int q0_23, .int q0_24, .int q0_25, .ref q0_26, .ref q0_27, .ref q0_28, .ref q0_29, .ref q0_30, .ref q0_31, .int q0_32, .ref q0_33, .ref q0_34, .ref q0_35])) :: X) H → va_S A s.heap H locs → lv_has ls 5 [(4, .int p64_4), (0, .ref a0), (1, .int x1), (3, .int x3)] → W p l e { frames := 1, cells := 0, slots := 0, locals := 25 } s m [.ref a0, .int x1, .int x2, .int x3].toArray below meth c H locs 0 0 (MQ below (Ti D cs (fun r u => ∃ (T2 : TF) (mq2 : Nat), u = (T2, O, X) ∧ -3 ≤ r.toInt ∧ r.toInt ≤ 0 ∧ (Trm T T2 a0) ∧ (T2 a0 = some (22, hg, mq2)) ∧ (NGF mq mq2 x1.toInt x2.toInt x3.toInt r.toInt)) A) [.ref a0, .int x1, .int x2, .int x3].toArray s 0 0 A) (F0 m 64 ls []) := by
          intro n
          induction n using Nat.strongRecOn with
          | _ n ih64 =>
            intro p64_4 H locs ls hm64 l_p64_4 u_p64_4 i64 hH hS hl
            refine lv_iload hx hb dX12_numbers_64 (lv_at hl 0 rfl) ?_
            refine lv_iload_n hx hb dX12_numbers_66 rfl (lv_at hl 3 rfl) ?_
            refine lv_icmp_ge (tgt := 89) hx hb dX12_numbers_67 (by decide) (fun c67 => ?_) (fun c67 => ?_)
            · skip
              have fuc67 := full_i p64_4
              have fvc67 := full_i x3
              have tc67 := g_le c67
              refine lv_iconst (v := 0) hx hb dX12_numbers_89 (by decide) ?_
              obtain ⟨T2, th1, th2, tm2, hs2, rk2, hH⟩ := HT.mn (mq2 := (gset mq x1.toInt.toNat (1 + x2.toInt.toNat + 4 * x3.toInt.toNat))) hH t_a0 t_q0_33 t_q0_34 hU (by simp) (by simp) (by simp)
              have t_q0_1 := (hs2 _ (tag_ne t_q0_1 t_a0 (fun q => absurd (show 8 = 22 from congrArg Prod.fst q) (by decide))) (tag_ne t_q0_1 t_q0_33 (fun q => absurd (show 8 = 9 from congrArg Prod.fst q) (by decide))) (tag_ne t_q0_1 t_q0_34 (fun q => absurd (show 8 = 9 from congrArg Prod.fst q) (by decide)))).trans t_q0_1
              have t_q0_2 := (hs2 _ (tag_ne t_q0_2 t_a0 (fun q => absurd (show 3 = 22 from congrArg Prod.fst q) (by decide))) (tag_ne t_q0_2 t_q0_33 (fun q => absurd (show 3 = 9 from congrArg Prod.fst q) (by decide))) (tag_ne t_q0_2 t_q0_34 (fun q => absurd (show 3 = 9 from congrArg Prod.fst q) (by decide)))).trans t_q0_2
              have t_q0_3 := (hs2 _ (tag_ne t_q0_3 t_a0 (fun q => absurd (show 1 = 22 from congrArg Prod.fst q) (by decide))) (tag_ne t_q0_3 t_q0_33 (fun q => absurd (show 1 = 9 from congrArg Prod.fst q) (by decide))) (tag_ne t_q0_3 t_q0_34 (fun q => absurd (show 1 = 9 from congrArg Prod.fst q) (by decide)))).trans t_q0_3
              have t_q0_4 := (hs2 _ (tag_ne t_q0_4 t_a0 (fun q => absurd (show 8 = 22 from congrArg Prod.fst q) (by decide))) (tag_ne t_q0_4 t_q0_33 (fun q => absurd (show 8 = 9 from congrArg Prod.fst q) (by decide))) (tag_ne t_q0_4 t_q0_34 (fun q => absurd (show 8 = 9 from congrArg Prod.fst q) (by decide)))).trans t_q0_4
              have t_q0_15 := (hs2 _ (tag_ne t_q0_15 t_a0 (fun q => absurd (show 1 = 22 from congrArg Prod.fst q) (by decide))) (tag_ne t_q0_15 t_q0_33 (fun q => absurd (show 1 = 9 from congrArg Prod.fst q) (by decide))) (tag_ne t_q0_15 t_q0_34 (fun q => absurd (show 1 = 9 from congrArg Prod.fst q) (by decide)))).trans t_q0_15
              have t_q0_17 := (hs2 _ (tag_ne t_q0_17 t_a0 (fun q => absurd (show 9 = 22 from congrArg Prod.fst q) (by decide))) (tag_ne t_q0_17 t_q0_33 (fun q => absurd (show 14 = 4 from congrArg (fun z => z.2.1) q) (by decide))) (tag_ne t_q0_17 t_q0_34 (fun q => absurd (show 14 = 4 from congrArg (fun z => z.2.1) q) (by decide)))).trans t_q0_17
              have t_q0_18 := (hs2 _ (tag_ne t_q0_18 t_a0 (fun q => absurd (show 9 = 22 from congrArg Prod.fst q) (by decide))) (tag_ne t_q0_18 t_q0_33 (fun q => absurd (show 14 = 4 from congrArg (fun z => z.2.1) q) (by decide))) (tag_ne t_q0_18 t_q0_34 (fun q => absurd (show 14 = 4 from congrArg (fun z => z.2.1) q) (by decide)))).trans t_q0_18
              have t_q0_19 := (hs2 _ (tag_ne t_q0_19 t_a0 (fun q => absurd (show 1 = 22 from congrArg Prod.fst q) (by decide))) (tag_ne t_q0_19 t_q0_33 (fun q => absurd (show 1 = 9 from congrArg Prod.fst q) (by decide))) (tag_ne t_q0_19 t_q0_34 (fun q => absurd (show 1 = 9 from congrArg Prod.fst q) (by decide)))).trans t_q0_19
              have t_q0_21 := (hs2 _ (tag_ne t_q0_21 t_a0 (fun q => absurd (show 1 = 22 from congrArg Prod.fst q) (by decide))) (tag_ne t_q0_21 t_q0_33 (fun q => absurd (show 1 = 9 from congrArg Prod.fst q) (by decide))) (tag_ne t_q0_21 t_q0_34 (fun q => absurd (show 1 = 9 from congrArg Prod.fst q) (by decide)))).trans t_q0_21
              have t_q0_22 := (hs2 _ (tag_ne t_q0_22 t_a0 (fun q => absurd (show 1 = 22 from congrArg Prod.fst q) (by decide))) (tag_ne t_q0_22 t_q0_33 (fun q => absurd (show 1 = 9 from congrArg Prod.fst q) (by decide))) (tag_ne t_q0_22 t_q0_34 (fun q => absurd (show 1 = 9 from congrArg Prod.fst q) (by decide)))).trans t_q0_22
              have t_q0_26 := (hs2 _ (tag_ne t_q0_26 t_a0 (fun q => absurd (show 2 = 22 from congrArg Prod.fst q) (by decide))) (tag_ne t_q0_26 t_q0_33 (fun q => absurd (show 2 = 9 from congrArg Prod.fst q) (by decide))) (tag_ne t_q0_26 t_q0_34 (fun q => absurd (show 2 = 9 from congrArg Prod.fst q) (by decide)))).trans t_q0_26
              have t_q0_27 := (hs2 _ (tag_ne t_q0_27 t_a0 (fun q => absurd (show 3 = 22 from congrArg Prod.fst q) (by decide))) (tag_ne t_q0_27 t_q0_33 (fun q => absurd (show 3 = 9 from congrArg Prod.fst q) (by decide))) (tag_ne t_q0_27 t_q0_34 (fun q => absurd (show 3 = 9 from congrArg Prod.fst q) (by decide)))).trans t_q0_27
              have t_q0_28 := (hs2 _ (tag_ne t_q0_28 t_a0 (fun q => absurd (show 0 = 22 from congrArg Prod.fst q) (by decide))) (tag_ne t_q0_28 t_q0_33 (fun q => absurd (show 0 = 9 from congrArg Prod.fst q) (by decide))) (tag_ne t_q0_28 t_q0_34 (fun q => absurd (show 0 = 9 from congrArg Prod.fst q) (by decide)))).trans t_q0_28
              have t_q0_29 := (hs2 _ (tag_ne t_q0_29 t_a0 (fun q => absurd (show 1 = 22 from congrArg Prod.fst q) (by decide))) (tag_ne t_q0_29 t_q0_33 (fun q => absurd (show 1 = 9 from congrArg Prod.fst q) (by decide))) (tag_ne t_q0_29 t_q0_34 (fun q => absurd (show 1 = 9 from congrArg Prod.fst q) (by decide)))).trans t_q0_29
              have t_q0_30 := (hs2 _ (tag_ne t_q0_30 t_a0 (fun q => absurd (show 1 = 22 from congrArg Prod.fst q) (by decide))) (tag_ne t_q0_30 t_q0_33 (fun q => absurd (show 1 = 9 from congrArg Prod.fst q) (by decide))) (tag_ne t_q0_30 t_q0_34 (fun q => absurd (show 1 = 9 from congrArg Prod.fst q) (by decide)))).trans t_q0_30
              have t_q0_31 := (hs2 _ (tag_ne t_q0_31 t_a0 (fun q => absurd (show 1 = 22 from congrArg Prod.fst q) (by decide))) (tag_ne t_q0_31 t_q0_33 (fun q => absurd (show 1 = 9 from congrArg Prod.fst q) (by decide))) (tag_ne t_q0_31 t_q0_34 (fun q => absurd (show 1 = 9 from congrArg Prod.fst q) (by decide)))).trans t_q0_31
              have t_q0_35 := (hs2 _ (tag_ne t_q0_35 t_a0 (fun q => absurd (show 2 = 22 from congrArg Prod.fst q) (by decide))) (tag_ne t_q0_35 t_q0_33 (fun q => absurd (show 2 = 9 from congrArg Prod.fst q) (by decide))) (tag_ne t_q0_35 t_q0_34 (fun q => absurd (show 2 = 9 from congrArg Prod.fst q) (by decide)))).trans t_q0_35
              have t_q0_33 := th1
              have t_q0_34 := th2
              have t_a0 := tm2
              have hH : HT D cs A T2 (q0_34 :: a0 :: O) ((q0_34, .inl (cs.2.1, 4, .inl F60)) :: (a0, .inr (12, [.int 0, .ref q0_1, .ref q0_2, .ref q0_3, .ref q0_4, .int q0_5, .int q0_6, .int q0_7, .int q0_8, .int q0_9, .int q0_10, .int q0_11, .int q0_12, .int q0_13, .int q0_14, .ref q0_15, .int q0_16, .ref q0_17, .ref q0_18, .ref q0_19, .int q0_20, .ref q0_21, .ref q0_22, .int q0_23, .int q0_24, .int q0_25, .ref q0_26, .ref q0_27, .ref q0_28, .ref q0_29, .ref q0_30, .ref q0_31, .int q0_32, .ref q0_33, .ref q0_34, .ref q0_35])) :: X) H := HT.layA hH t_q0_33 (show sp cs T2 (9, 4, 2 * (gset mq x1.toInt.toNat (1 + x2.toInt.toNat + 4 * x3.toInt.toNat))) _ from ⟨F53, rfl, fun q => absurd rfl q, fun _ => pin_s (by omega) (by omega) (by omega) (by omega) p_f33 eF53⟩)
              have hH : HT D cs A T2 (a0 :: O) ((a0, .inr (12, [.int 0, .ref q0_1, .ref q0_2, .ref q0_3, .ref q0_4, .int q0_5, .int q0_6, .int q0_7, .int q0_8, .int q0_9, .int q0_10, .int q0_11, .int q0_12, .int q0_13, .int q0_14, .ref q0_15, .int q0_16, .ref q0_17, .ref q0_18, .ref q0_19, .int q0_20, .ref q0_21, .ref q0_22, .int q0_23, .int q0_24, .int q0_25, .ref q0_26, .ref q0_27, .ref q0_28, .ref q0_29, .ref q0_30, .ref q0_31, .int q0_32, .ref q0_33, .ref q0_34, .ref q0_35])) :: X) H := HT.layA hH t_q0_34 (show sp cs T2 (9, 4, 2 * (gset mq x1.toInt.toNat (1 + x2.toInt.toNat + 4 * x3.toInt.toNat)) + 1) _ from ⟨F60, rfl, fun q => absurd rfl q, fun _ => pin_m (by omega) (by omega) (by omega) (by omega) p_f34 eF60⟩)
              have hH : HT D cs A T2 O X H := HT.lay (ci := 12) hH t_a0 (okL_c (⟨_, rfl⟩) (okL_c (⟨_, rfl, t_q0_1⟩) (okL_c (⟨_, rfl, t_q0_2⟩) (okL_c (⟨_, rfl, t_q0_3⟩) (okL_c (⟨_, rfl, t_q0_4⟩) (okL_c (⟨_, rfl, by omega, by omega⟩) (okL_c (⟨_, rfl⟩) (okL_c (⟨_, rfl⟩) (okL_c (⟨_, rfl⟩) (okL_c (⟨_, rfl⟩) (okL_c (⟨_, rfl, by omega, by omega⟩) (okL_c (⟨_, rfl⟩) (okL_c (⟨_, rfl⟩) (okL_c (⟨_, rfl⟩) (okL_c (⟨_, rfl⟩) (okL_c (⟨_, rfl, t_q0_15⟩) (okL_c (⟨_, rfl⟩) (okL_c (⟨_, rfl, t_q0_17⟩) (okL_c (⟨_, rfl, t_q0_18⟩) (okL_c (⟨_, rfl, t_q0_19⟩) (okL_c (⟨_, rfl, by omega, by omega⟩) (okL_c (⟨_, rfl, t_q0_21⟩) (okL_c (⟨_, rfl, t_q0_22⟩) (okL_c (⟨_, rfl⟩) (okL_c (⟨_, rfl⟩) (okL_c (⟨_, rfl⟩) (okL_c (⟨_, rfl, t_q0_26⟩) (okL_c (⟨_, rfl, t_q0_27⟩) (okL_c (⟨_, rfl, t_q0_28⟩) (okL_c (⟨_, rfl, t_q0_29⟩) (okL_c (⟨_, rfl, t_q0_30⟩) (okL_c (⟨_, rfl, t_q0_31⟩) (okL_c (⟨_, rfl⟩) (okL_c (⟨_, rfl, t_q0_33⟩) (okL_c (⟨_, rfl, t_q0_34⟩) (okL_c (⟨_, rfl, t_q0_35⟩) (okL_n)))))))))))))))))))))))))))))))))))))
              have hO := hO0
              have z9_0 : (0 : Int32).toInt = 0 := by decide
              exact te_i hx hb hr hlocks hH hS (⟨T2, (gset mq x1.toInt.toNat (1 + x2.toInt.toNat + 4 * x3.toInt.toNat)), rfl, by decide, by decide, rk2, tm2, (Or.inr (Or.inr ⟨by decide, by omega, by omega, rfl⟩))⟩) dX12_numbers_90
            · skip
              have fuc67 := full_i p64_4
              have fvc67 := full_i x3
              have tc67 := g_nle c67
              refine lv_aload_n hx hb dX12_numbers_70 rfl (lv_at hl 1 rfl) ?_
              refine x_getk (ci := 12) (C := RX12) (F := TX12) (N := 36) (v := .ref q0_35) hx hb hts uX12 hown hkb hH 2 rfl rfl 35 (by decide) rfl kw_1258 (fun _ h9 => h9) dX12_numbers_71 ?_
              refine lv_bipush (v := 40) hx hb dX12_numbers_74 (by decide) ?_
              refine lv_iload_n hx hb dX12_numbers_76 rfl (lv_at hl 2 rfl) ?_
              refine lv_imul hx hb dX12_numbers_77 ?_
              refine lv_topi (fun v77 ev77 => ?_)
              have tv77 : v77.toInt = (40) * x1.toInt := by rw [ev77]; exact mul_i (by decide : (40 : Int32).toInt = 40) rfl (by omega) (by omega)
              refine lv_iload hx hb dX12_numbers_78 (lv_at hl 0 rfl) ?_
              refine lv_iadd hx hb dX12_numbers_80 ?_
              refine lv_topi (fun v80 ev80 => ?_)
              have tv80 : v80.toInt = v77.toInt + p64_4.toInt := by rw [ev80]; exact add_i rfl rfl (by omega) (by omega)
              refine lv_lconst (v := 0) hx hb dX12_numbers_81 (by decide) ?_
              refine t_lst hx hb hkb hH hS t_q0_35 (hO.no t_q0_35 (by decide)) (by omega) (by omega) dX12_numbers_82 (fun H locs hH hS => ?_)
              obtain ⟨v83, ev83⟩ : ∃ y : Int32, y = p64_4 + 1 := ⟨_, rfl⟩
              have tv83 : v83.toInt = p64_4.toInt + (1) := by rw [ev83]; exact add_i rfl (by decide) (by omega) (by omega)
              refine lv_iinc (v := v83) (lv' := [(4, .int v83), (0, .ref a0), (1, .int x1), (3, .int x3)]) hx hb dX12_numbers_83 hl (k := 0) rfl (by rw [ev83]; rfl) (by decide) rfl (fun ls hl => ?_)
              refine lv_goto (tgt := 64) hx hb dX12_numbers_86 (by decide) ?_
              exact ih64 _ (by omega) v83 _ _ _ rfl (by omega) (by omega) (by omega) hH hS (lv_sub hl [0, 1, 2, 3] rfl)
        refine lv_istore (lv' := [(4, .int 0), (0, .ref a0), (1, .int x1), (2, .int x2), (3, .int x3)]) hx hb dX12_numbers_62 hl (by decide) rfl (fun ls hl => ?_)
        have z_0 : (0 : Int32).toInt = 0 := by decide
        exact J64 _ 0 _ _ _ rfl (by decide) (by decide) (by omega) hH hS (lv_sub hl [0, 1, 2, 4] rfl)
      · skip
        have tc41 := f_eq (k := 0) (by decide) c41
        clear x_v380
        replace x_v381 := x_v381.resolve_left (fun q9 => q9 tc41)
        refine lv_bipush (v := (-3)) hx hb dX12_numbers_44 (by decide) ?_
        have hH : HT D cs A T (q0_34 :: a0 :: O) ((q0_34, .inl (cs.2.1, 4, .inl f34)) :: (a0, .inr (12, [.int 0, .ref q0_1, .ref q0_2, .ref q0_3, .ref q0_4, .int q0_5, .int q0_6, .int q0_7, .int q0_8, .int q0_9, .int q0_10, .int q0_11, .int q0_12, .int q0_13, .int q0_14, .ref q0_15, .int q0_16, .ref q0_17, .ref q0_18, .ref q0_19, .int q0_20, .ref q0_21, .ref q0_22, .int q0_23, .int q0_24, .int q0_25, .ref q0_26, .ref q0_27, .ref q0_28, .ref q0_29, .ref q0_30, .ref q0_31, .int q0_32, .ref q0_33, .ref q0_34, .ref q0_35])) :: X) H := HT.layA hH t_q0_33 (show sp cs T (9, 4, (2 * mq)) _ from ⟨_, rfl, fun q => absurd rfl q, fun _ => p_f33⟩)
        have hH : HT D cs A T (a0 :: O) ((a0, .inr (12, [.int 0, .ref q0_1, .ref q0_2, .ref q0_3, .ref q0_4, .int q0_5, .int q0_6, .int q0_7, .int q0_8, .int q0_9, .int q0_10, .int q0_11, .int q0_12, .int q0_13, .int q0_14, .ref q0_15, .int q0_16, .ref q0_17, .ref q0_18, .ref q0_19, .int q0_20, .ref q0_21, .ref q0_22, .int q0_23, .int q0_24, .int q0_25, .ref q0_26, .ref q0_27, .ref q0_28, .ref q0_29, .ref q0_30, .ref q0_31, .int q0_32, .ref q0_33, .ref q0_34, .ref q0_35])) :: X) H := HT.layA hH t_q0_34 (show sp cs T (9, 4, (2 * mq + 1)) _ from ⟨_, rfl, fun q => absurd rfl q, fun _ => p_f34⟩)
        have hH : HT D cs A T O X H := HT.lay (ci := 12) hH t_a0 (okL_c (⟨_, rfl⟩) (okL_c (⟨_, rfl, t_q0_1⟩) (okL_c (⟨_, rfl, t_q0_2⟩) (okL_c (⟨_, rfl, t_q0_3⟩) (okL_c (⟨_, rfl, t_q0_4⟩) (okL_c (⟨_, rfl, by omega, by omega⟩) (okL_c (⟨_, rfl⟩) (okL_c (⟨_, rfl⟩) (okL_c (⟨_, rfl⟩) (okL_c (⟨_, rfl⟩) (okL_c (⟨_, rfl, by omega, by omega⟩) (okL_c (⟨_, rfl⟩) (okL_c (⟨_, rfl⟩) (okL_c (⟨_, rfl⟩) (okL_c (⟨_, rfl⟩) (okL_c (⟨_, rfl, t_q0_15⟩) (okL_c (⟨_, rfl⟩) (okL_c (⟨_, rfl, t_q0_17⟩) (okL_c (⟨_, rfl, t_q0_18⟩) (okL_c (⟨_, rfl, t_q0_19⟩) (okL_c (⟨_, rfl, by omega, by omega⟩) (okL_c (⟨_, rfl, t_q0_21⟩) (okL_c (⟨_, rfl, t_q0_22⟩) (okL_c (⟨_, rfl⟩) (okL_c (⟨_, rfl⟩) (okL_c (⟨_, rfl⟩) (okL_c (⟨_, rfl, t_q0_26⟩) (okL_c (⟨_, rfl, t_q0_27⟩) (okL_c (⟨_, rfl, t_q0_28⟩) (okL_c (⟨_, rfl, t_q0_29⟩) (okL_c (⟨_, rfl, t_q0_30⟩) (okL_c (⟨_, rfl, t_q0_31⟩) (okL_c (⟨_, rfl⟩) (okL_c (⟨_, rfl, t_q0_33⟩) (okL_c (⟨_, rfl, t_q0_34⟩) (okL_c (⟨_, rfl, t_q0_35⟩) (okL_n)))))))))))))))))))))))))))))))))))))
        have hO := hO0
        have z9_m3 : ((-3) : Int32).toInt = -3 := by decide
        exact te_i hx hb hr hlocks hH hS (⟨T, mq, rfl, by decide, by decide, Trm.rf, t_a0, (Or.inr (Or.inl ⟨by decide, by omega, by omega, rfl⟩))⟩) dX12_numbers_46
    · skip
      have tc26 := f_eq (k := 0) (by decide) c26
      clear x_v230
      replace x_v231 := x_v231.resolve_left (fun q9 => q9 tc26)
      refine lv_bipush (v := (-2)) hx hb dX12_numbers_29 (by decide) ?_
      have hH : HT D cs A T (q0_34 :: a0 :: O) ((q0_34, .inl (cs.2.1, 4, .inl f34)) :: (a0, .inr (12, [.int 0, .ref q0_1, .ref q0_2, .ref q0_3, .ref q0_4, .int q0_5, .int q0_6, .int q0_7, .int q0_8, .int q0_9, .int q0_10, .int q0_11, .int q0_12, .int q0_13, .int q0_14, .ref q0_15, .int q0_16, .ref q0_17, .ref q0_18, .ref q0_19, .int q0_20, .ref q0_21, .ref q0_22, .int q0_23, .int q0_24, .int q0_25, .ref q0_26, .ref q0_27, .ref q0_28, .ref q0_29, .ref q0_30, .ref q0_31, .int q0_32, .ref q0_33, .ref q0_34, .ref q0_35])) :: X) H := HT.layA hH t_q0_33 (show sp cs T (9, 4, (2 * mq)) _ from ⟨_, rfl, fun q => absurd rfl q, fun _ => p_f33⟩)
      have hH : HT D cs A T (a0 :: O) ((a0, .inr (12, [.int 0, .ref q0_1, .ref q0_2, .ref q0_3, .ref q0_4, .int q0_5, .int q0_6, .int q0_7, .int q0_8, .int q0_9, .int q0_10, .int q0_11, .int q0_12, .int q0_13, .int q0_14, .ref q0_15, .int q0_16, .ref q0_17, .ref q0_18, .ref q0_19, .int q0_20, .ref q0_21, .ref q0_22, .int q0_23, .int q0_24, .int q0_25, .ref q0_26, .ref q0_27, .ref q0_28, .ref q0_29, .ref q0_30, .ref q0_31, .int q0_32, .ref q0_33, .ref q0_34, .ref q0_35])) :: X) H := HT.layA hH t_q0_34 (show sp cs T (9, 4, (2 * mq + 1)) _ from ⟨_, rfl, fun q => absurd rfl q, fun _ => p_f34⟩)
      have hH : HT D cs A T O X H := HT.lay (ci := 12) hH t_a0 (okL_c (⟨_, rfl⟩) (okL_c (⟨_, rfl, t_q0_1⟩) (okL_c (⟨_, rfl, t_q0_2⟩) (okL_c (⟨_, rfl, t_q0_3⟩) (okL_c (⟨_, rfl, t_q0_4⟩) (okL_c (⟨_, rfl, by omega, by omega⟩) (okL_c (⟨_, rfl⟩) (okL_c (⟨_, rfl⟩) (okL_c (⟨_, rfl⟩) (okL_c (⟨_, rfl⟩) (okL_c (⟨_, rfl, by omega, by omega⟩) (okL_c (⟨_, rfl⟩) (okL_c (⟨_, rfl⟩) (okL_c (⟨_, rfl⟩) (okL_c (⟨_, rfl⟩) (okL_c (⟨_, rfl, t_q0_15⟩) (okL_c (⟨_, rfl⟩) (okL_c (⟨_, rfl, t_q0_17⟩) (okL_c (⟨_, rfl, t_q0_18⟩) (okL_c (⟨_, rfl, t_q0_19⟩) (okL_c (⟨_, rfl, by omega, by omega⟩) (okL_c (⟨_, rfl, t_q0_21⟩) (okL_c (⟨_, rfl, t_q0_22⟩) (okL_c (⟨_, rfl⟩) (okL_c (⟨_, rfl⟩) (okL_c (⟨_, rfl⟩) (okL_c (⟨_, rfl, t_q0_26⟩) (okL_c (⟨_, rfl, t_q0_27⟩) (okL_c (⟨_, rfl, t_q0_28⟩) (okL_c (⟨_, rfl, t_q0_29⟩) (okL_c (⟨_, rfl, t_q0_30⟩) (okL_c (⟨_, rfl, t_q0_31⟩) (okL_c (⟨_, rfl⟩) (okL_c (⟨_, rfl, t_q0_33⟩) (okL_c (⟨_, rfl, t_q0_34⟩) (okL_c (⟨_, rfl, t_q0_35⟩) (okL_n)))))))))))))))))))))))))))))))))))))
      have hO := hO0
      have z9_m2 : ((-2) : Int32).toInt = -2 := by decide
      exact te_i hx hb hr hlocks hH hS (⟨T, mq, rfl, by decide, by decide, Trm.rf, t_a0, (Or.inl ⟨by decide, by omega, rfl⟩)⟩) dX12_numbers_31
/-! what a fresh object answers, and small facts -/
theorem in_n {k n : Nat} (h : k < n) (hn : n < 2 ^ 31) : vp_in (nI k) n := nI_in h hn
theorem in_k {x : Int32} {k n : Nat} (hx : x = nI k) (h : k < n) (hn : n < 2 ^ 31) : vp_in x n := by rw [hx]; exact nI_in h hn
theorem upd_z (k : Nat) : upd (fun _ => 0) k 0 = fun _ => 0 := by
  funext j
  unfold upd
  split <;> rfl
/-- the reference's row of numbers while it is made plain: h HOLDS behind -/
def plh (h : Nat) : Nat → Int32 := fun k => if (59 ≤ k ∧ k < 59 + h) ∨ (73 ≤ k ∧ k < 73 + h) then -1 else 0
theorem plh_0 : (fun _ => 0) = plh 0 := by
  funext j
  unfold plh
  rw [if_neg (by omega)]
theorem plh_s (k : Nat) : upd (upd (plh k) (59 + k) (-1)) (73 + k) (-1) = plh (k + 1) := by
  funext j
  unfold upd plh
  by_cases h1 : j = 73 + k
  · rw [if_pos h1, if_pos (by omega)]
  · rw [if_neg h1]
    by_cases h2 : j = 59 + k
    · rw [if_pos h2, if_pos (by omega)]
    · rw [if_neg h2]
      by_cases h3 : (59 ≤ j ∧ j < 59 + k) ∨ (73 ≤ j ∧ j < 73 + k)
      · rw [if_pos h3, if_pos (by omega)]
      · rw [if_neg h3, if_neg (by omega)]
def F_wall (n : Int32) : Int32 := if n.toInt = 0 then 0 else -3
def F_fault (w : Int32) : Int32 := if w.toInt = 0 then 0 else -1
def F_judge (t w : Int32) : Int32 := if t.toInt < 0 ∨ 3 < t.toInt ∨ w.toInt < 0 ∨ 2 < w.toInt then -2 else -6
def F_tray (t : Int32) : Int32 := if t.toInt < 0 ∨ 3 < t.toInt then -2 else -6
theorem F_tray_n {t : Int32} (h : F_tray t = 0) : False := by
  unfold F_tray at h
  split at h <;> exact absurd h (by decide)
def F_days (n : Int32) : Int32 := if n.toInt < 1 ∨ 99 < n.toInt then -3 else n
def F_rain (n : Int32) : Int32 := if n.toInt < 1 ∨ 14 < n.toInt then -3 else 0
def F_season (n : Int32) : Int32 := if n.toInt < 1 ∨ 40 < n.toInt then -3 else -5
def F_whose (w : Int32) : Int32 := if w.toInt = 0 then 0 else -3
def F_inTurn (w k : Int32) : Int32 := if ¬ w.toInt = 0 then -3 else if k.toInt = 0 then 0 else if 10 ≤ k.toInt ∧ k.toInt ≤ 14 then -1 else -2
def F_numbers (t w n : Int32) : Int32 := if t.toInt < 0 ∨ 3 < t.toInt ∨ w.toInt < 0 ∨ 3 < w.toInt then -2 else if n.toInt < 0 ∨ 40 < n.toInt then -3 else 0
def F_write (t : Int32) : Int64 := (F_tray t).toInt64
def F_image (i : Int32) : Int32 := if i.toInt < 0 ∨ 1 < i.toInt then -2 else 0
def F_restore (i : Int32) : Int32 := if i.toInt < 0 ∨ 1 < i.toInt then -2 else -5
def F_count (w : Int32) : Int32 := if 0 ≤ w.toInt ∧ w.toInt ≤ 9 then 0 else -1
def F_isTray (t : Int32) : Int32 := if 0 ≤ t.toInt ∧ t.toInt ≤ 3 then 1 else 0
theorem F_isTray_0 {t : Int32} (h : F_isTray t = 0) : t.toInt < 0 ∨ 3 < t.toInt := by
  unfold F_isTray at h
  split at h
  · exact absurd h (by decide)
  · omega
theorem F_isTray_1 {t : Int32} (h : ¬ F_isTray t = 0) : 0 ≤ t.toInt ∧ t.toInt ≤ 3 := by
  unfold F_isTray at h
  split at h
  · omega
  · exact absurd rfl h
def F_isImage (t : Int32) : Int32 := if 0 ≤ t.toInt ∧ t.toInt ≤ 1 then 1 else 0
theorem F_isImage_0 {t : Int32} (h : F_isImage t = 0) : t.toInt < 0 ∨ 1 < t.toInt := by
  unfold F_isImage at h
  split at h
  · exact absurd h (by decide)
  · omega
theorem F_isImage_1 {t : Int32} (h : ¬ F_isImage t = 0) : 0 ≤ t.toInt ∧ t.toInt ≤ 1 := by
  unfold F_isImage at h
  split at h
  · omega
  · exact absurd rfl h
def F_asks5 (t : Int32) : Int32 := if t.toInt = 0 ∨ (10 ≤ t.toInt ∧ t.toInt ≤ 14) then 1 else 0
theorem F_asks5_0 {t : Int32} (h : F_asks5 t = 0) : ¬ t.toInt = 0 ∧ (t.toInt < 10 ∨ 14 < t.toInt) := by
  unfold F_asks5 at h
  split at h
  · exact absurd h (by decide)
  · omega
theorem F_asks5_1 {t : Int32} (h : ¬ F_asks5 t = 0) : t.toInt = 0 ∨ (10 ≤ t.toInt ∧ t.toInt ≤ 14) := by
  unfold F_asks5 at h
  split at h
  · omega
  · exact absurd rfl h
def F_isSet (t : Int32) : Int32 := if t.toInt = 0 then 1 else 0
theorem F_isSet_0 {t : Int32} (h : F_isSet t = 0) : ¬ t.toInt = 0 := by
  unfold F_isSet at h
  split at h
  · exact absurd h (by decide)
  · omega
theorem F_isSet_1 {t : Int32} (h : ¬ F_isSet t = 0) : t.toInt = 0 := by
  unfold F_isSet at h
  split at h
  · omega
  · exact absurd rfl h
theorem lg_self (x : Int64) : lg_cmp x x = 0 := (lg_cmp_eq x x).mpr rfl
/-- the reference's sorts of its TRAYS at first -/
def rs4 : Nat → Int32 := upd (upd (upd (upd (fun _ => 0) 0 (-1)) 1 (-1)) 2 (-1)) 3 (-1)
theorem rs4_at {t : Int32} (h0 : 0 ≤ t.toInt) (h3 : t.toInt ≤ 3) : rs4 t.toNatClampNeg = -1 := by
  have h : t.toNatClampNeg = t.toInt.toNat := rfl
  rcases (show t.toInt.toNat = 0 ∨ t.toInt.toNat = 1 ∨ t.toInt.toNat = 2 ∨ t.toInt.toNat = 3 by omega) with q | q | q | q <;> rw [h, q] <;> rfl
theorem in40 {t k v w : Int32} (h0 : 0 ≤ t.toInt) (h3 : t.toInt ≤ 3) (e1 : v = 40 * t) (e2 : w = v + k) (hz : (decide (40 * 0 + k < 0) || decide (160 ≤ (40 * 0 + k).toNatClampNeg) || (decide (40 * 1 + k < 0) || decide (160 ≤ (40 * 1 + k).toNatClampNeg)) || (decide (40 * 2 + k < 0) || decide (160 ≤ (40 * 2 + k).toNatClampNeg)) || (decide (40 * 3 + k < 0) || decide (160 ≤ (40 * 3 + k).toNatClampNeg))) = false) : vp_in w 160 := by
  simp only [Bool.or_eq_false_iff, decide_eq_false_iff_not] at hz
  obtain ⟨⟨⟨⟨a1, a2⟩, b1, b2⟩, c1, c2⟩, d1, d2⟩ := hz
  have ht : t = 0 ∨ t = 1 ∨ t = 2 ∨ t = 3 := by
    rcases (show t.toInt = 0 ∨ t.toInt = 1 ∨ t.toInt = 2 ∨ t.toInt = 3 by omega) with q | q | q | q
    · exact Or.inl (Int32.toInt_inj.mp (q.trans (by decide)))
    · exact Or.inr (Or.inl (Int32.toInt_inj.mp (q.trans (by decide))))
    · exact Or.inr (Or.inr (Or.inl (Int32.toInt_inj.mp (q.trans (by decide)))))
    · exact Or.inr (Or.inr (Or.inr (Int32.toInt_inj.mp (q.trans (by decide)))))
  subst e2 e1
  intro q
  rcases ht with rfl | rfl | rfl | rfl
  · exact q.elim a1 a2
  · exact q.elim b1 b2
  · exact q.elim c1 c2
  · exact q.elim d1 d2
def plc : Nat → Int32 := plh 14
theorem plc_s (k : Nat) (h : k < 14) : upd (upd plc (59 + k) (-1)) (73 + k) (-1) = plc := by
  funext j
  unfold plc upd plh
  by_cases h1 : j = 73 + k
  · rw [if_pos h1, if_pos (by omega)]
  · rw [if_neg h1]
    by_cases h2 : j = 59 + k
    · rw [if_pos h2, if_pos (by omega)]
    · rw [if_neg h2]
theorem ar_of {t : FieldType} {args : Array Value} {s : State} (h : (Cond.arrayClass t).before args s = true) (hp : ∀ (U : State) (k : ClassId), U.vm.findClass ("[" ++ t.toString) = some k → va_RA U k t) : ∃ cA : ClassId, ArrOfT s cA t ∧ va_RA s cA t := by
  obtain ⟨c, k, comp, h1, h2, h3⟩ := Cond.arrayClass_spec h
  exact ⟨c, fun n z => ⟨fun k h => (by cases h), k, h2, comp, h3⟩, hp s c h1⟩
theorem ao_of {C : String} {s : State} (h : va_AO C s) : ∃ cA : ClassId, ArrOfT s cA (.object C) ∧ va_RA s cA (.object C) := by
  obtain ⟨comp, c, k, h1, _, h3, h4, h5⟩ := Cond.arrayOver_spec h
  exact ⟨c, fun n z => ⟨fun k h => (by cases h), k, h3, comp, h4⟩, k, comp, h3, h4, h1, h5⟩
theorem dX0_init_0 : decode cX0_init 0 = .ok (.aload_n 0, 1) := by decide +kernel
theorem dX0_init_1 : decode cX0_init 1 = .ok (.invokespecial 3, 3) := by decide +kernel
theorem dX0_init_4 : decode cX0_init 4 = .ok (.aload_n 0, 1) := by decide +kernel
theorem dX0_init_5 : decode cX0_init 5 = .ok (.iconst 1, 1) := by decide +kernel
theorem dX0_init_6 : decode cX0_init 6 = .ok (.newarray .int, 2) := by decide +kernel
theorem dX0_init_8 : decode cX0_init 8 = .ok (.putfield 9, 3) := by decide +kernel
theorem dX0_init_11 : decode cX0_init 11 = .ok (.aload_n 0, 1) := by decide +kernel
theorem dX0_init_12 : decode cX0_init 12 = .ok (.iconst 0, 1) := by decide +kernel
theorem dX0_init_13 : decode cX0_init 13 = .ok (.putfield 15, 3) := by decide +kernel
theorem dX0_init_16 : decode cX0_init 16 = .ok (.aload_n 0, 1) := by decide +kernel
theorem dX0_init_17 : decode cX0_init 17 = .ok (.bipush 14, 2) := by decide +kernel
theorem dX0_init_19 : decode cX0_init 19 = .ok (.newarray .int, 2) := by decide +kernel
theorem dX0_init_21 : decode cX0_init 21 = .ok (.putfield 19, 3) := by decide +kernel
theorem dX0_init_24 : decode cX0_init 24 = .ok (.aload_n 0, 1) := by decide +kernel
theorem dX0_init_25 : decode cX0_init 25 = .ok (.bipush 14, 2) := by decide +kernel
theorem dX0_init_27 : decode cX0_init 27 = .ok (.newarray .int, 2) := by decide +kernel
theorem dX0_init_29 : decode cX0_init 29 = .ok (.putfield 22, 3) := by decide +kernel
theorem dX0_init_32 : decode cX0_init 32 = .ok (.return_, 1) := by decide +kernel
theorem dX10_init_0 : decode cX10_init 0 = .ok (.aload_n 0, 1) := by decide +kernel
theorem dX10_init_1 : decode cX10_init 1 = .ok (.invokespecial 3, 3) := by decide +kernel
theorem dX10_init_4 : decode cX10_init 4 = .ok (.aload_n 0, 1) := by decide +kernel
theorem dX10_init_5 : decode cX10_init 5 = .ok (.bipush 14, 2) := by decide +kernel
theorem dX10_init_7 : decode cX10_init 7 = .ok (.newarray .int, 2) := by decide +kernel
theorem dX10_init_9 : decode cX10_init 9 = .ok (.putfield 9, 3) := by decide +kernel
theorem dX10_init_12 : decode cX10_init 12 = .ok (.aload_n 0, 1) := by decide +kernel
theorem dX10_init_13 : decode cX10_init 13 = .ok (.bipush 14, 2) := by decide +kernel
theorem dX10_init_15 : decode cX10_init 15 = .ok (.newarray .int, 2) := by decide +kernel
theorem dX10_init_17 : decode cX10_init 17 = .ok (.putfield 15, 3) := by decide +kernel
theorem dX10_init_20 : decode cX10_init 20 = .ok (.aload_n 0, 1) := by decide +kernel
theorem dX10_init_21 : decode cX10_init 21 = .ok (.iconst 0, 1) := by decide +kernel
theorem dX10_init_22 : decode cX10_init 22 = .ok (.putfield 18, 3) := by decide +kernel
theorem dX10_init_25 : decode cX10_init 25 = .ok (.aload_n 0, 1) := by decide +kernel
theorem dX10_init_26 : decode cX10_init 26 = .ok (.bipush 14, 2) := by decide +kernel
theorem dX10_init_28 : decode cX10_init 28 = .ok (.newarray .long, 2) := by decide +kernel
theorem dX10_init_30 : decode cX10_init 30 = .ok (.putfield 22, 3) := by decide +kernel
theorem dX10_init_33 : decode cX10_init 33 = .ok (.aload_n 0, 1) := by decide +kernel
theorem dX10_init_34 : decode cX10_init 34 = .ok (.bipush 14, 2) := by decide +kernel
theorem dX10_init_36 : decode cX10_init 36 = .ok (.newarray .int, 2) := by decide +kernel
theorem dX10_init_38 : decode cX10_init 38 = .ok (.putfield 26, 3) := by decide +kernel
theorem dX10_init_41 : decode cX10_init 41 = .ok (.aload_n 0, 1) := by decide +kernel
theorem dX10_init_42 : decode cX10_init 42 = .ok (.bipush 14, 2) := by decide +kernel
theorem dX10_init_44 : decode cX10_init 44 = .ok (.newarray .int, 2) := by decide +kernel
theorem dX10_init_46 : decode cX10_init 46 = .ok (.putfield 29, 3) := by decide +kernel
theorem dX10_init_49 : decode cX10_init 49 = .ok (.aload_n 0, 1) := by decide +kernel
theorem dX10_init_50 : decode cX10_init 50 = .ok (.iconst 0, 1) := by decide +kernel
theorem dX10_init_51 : decode cX10_init 51 = .ok (.putfield 32, 3) := by decide +kernel
theorem dX10_init_54 : decode cX10_init 54 = .ok (.return_, 1) := by decide +kernel
theorem dX1_init_0 : decode cX1_init 0 = .ok (.aload_n 0, 1) := by decide +kernel
theorem dX1_init_1 : decode cX1_init 1 = .ok (.invokespecial 3, 3) := by decide +kernel
theorem dX1_init_4 : decode cX1_init 4 = .ok (.aload_n 0, 1) := by decide +kernel
theorem dX1_init_5 : decode cX1_init 5 = .ok (.bipush 14, 2) := by decide +kernel
theorem dX1_init_7 : decode cX1_init 7 = .ok (.newarray .int, 2) := by decide +kernel
theorem dX1_init_9 : decode cX1_init 9 = .ok (.putfield 9, 3) := by decide +kernel
theorem dX1_init_12 : decode cX1_init 12 = .ok (.aload_n 0, 1) := by decide +kernel
theorem dX1_init_13 : decode cX1_init 13 = .ok (.bipush 14, 2) := by decide +kernel
theorem dX1_init_15 : decode cX1_init 15 = .ok (.newarray .int, 2) := by decide +kernel
theorem dX1_init_17 : decode cX1_init 17 = .ok (.putfield 15, 3) := by decide +kernel
theorem dX1_init_20 : decode cX1_init 20 = .ok (.aload_n 0, 1) := by decide +kernel
theorem dX1_init_21 : decode cX1_init 21 = .ok (.iconst 0, 1) := by decide +kernel
theorem dX1_init_22 : decode cX1_init 22 = .ok (.putfield 18, 3) := by decide +kernel
theorem dX1_init_25 : decode cX1_init 25 = .ok (.aload_n 0, 1) := by decide +kernel
theorem dX1_init_26 : decode cX1_init 26 = .ok (.bipush 28, 2) := by decide +kernel
theorem dX1_init_28 : decode cX1_init 28 = .ok (.newarray .int, 2) := by decide +kernel
theorem dX1_init_30 : decode cX1_init 30 = .ok (.putfield 22, 3) := by decide +kernel
theorem dX1_init_33 : decode cX1_init 33 = .ok (.aload_n 0, 1) := by decide +kernel
theorem dX1_init_34 : decode cX1_init 34 = .ok (.iconst 0, 1) := by decide +kernel
theorem dX1_init_35 : decode cX1_init 35 = .ok (.putfield 25, 3) := by decide +kernel
theorem dX1_init_38 : decode cX1_init 38 = .ok (.aload_n 0, 1) := by decide +kernel
theorem dX1_init_39 : decode cX1_init 39 = .ok (.iconst 0, 1) := by decide +kernel
theorem dX1_init_40 : decode cX1_init 40 = .ok (.putfield 28, 3) := by decide +kernel
theorem dX1_init_43 : decode cX1_init 43 = .ok (.aload_n 0, 1) := by decide +kernel
theorem dX1_init_44 : decode cX1_init 44 = .ok (.bipush 28, 2) := by decide +kernel
theorem dX1_init_46 : decode cX1_init 46 = .ok (.newarray .int, 2) := by decide +kernel
theorem dX1_init_48 : decode cX1_init 48 = .ok (.putfield 31, 3) := by decide +kernel
theorem dX1_init_51 : decode cX1_init 51 = .ok (.return_, 1) := by decide +kernel
theorem dX3_init_0 : decode cX3_init 0 = .ok (.aload_n 0, 1) := by decide +kernel
theorem dX3_init_1 : decode cX3_init 1 = .ok (.invokespecial 3, 3) := by decide +kernel
theorem dX3_init_4 : decode cX3_init 4 = .ok (.aload_n 0, 1) := by decide +kernel
theorem dX3_init_5 : decode cX3_init 5 = .ok (.sipush 900, 3) := by decide +kernel
theorem dX3_init_8 : decode cX3_init 8 = .ok (.newarray .int, 2) := by decide +kernel
theorem dX3_init_10 : decode cX3_init 10 = .ok (.putfield 9, 3) := by decide +kernel
theorem dX3_init_13 : decode cX3_init 13 = .ok (.aload_n 0, 1) := by decide +kernel
theorem dX3_init_14 : decode cX3_init 14 = .ok (.iconst 0, 1) := by decide +kernel
theorem dX3_init_15 : decode cX3_init 15 = .ok (.putfield 15, 3) := by decide +kernel
theorem dX3_init_18 : decode cX3_init 18 = .ok (.aload_n 0, 1) := by decide +kernel
theorem dX3_init_19 : decode cX3_init 19 = .ok (.aload_n 1, 1) := by decide +kernel
theorem dX3_init_20 : decode cX3_init 20 = .ok (.putfield 19, 3) := by decide +kernel
theorem dX3_init_23 : decode cX3_init 23 = .ok (.return_, 1) := by decide +kernel
theorem dX4_init_0 : decode cX4_init 0 = .ok (.aload_n 0, 1) := by decide +kernel
theorem dX4_init_1 : decode cX4_init 1 = .ok (.invokespecial 3, 3) := by decide +kernel
theorem dX4_init_4 : decode cX4_init 4 = .ok (.aload_n 0, 1) := by decide +kernel
theorem dX4_init_5 : decode cX4_init 5 = .ok (.new 9, 3) := by decide +kernel
theorem dX4_init_8 : decode cX4_init 8 = .ok (.dup, 1) := by decide +kernel
theorem dX4_init_9 : decode cX4_init 9 = .ok (.invokespecial 11, 3) := by decide +kernel
theorem dX4_init_12 : decode cX4_init 12 = .ok (.putfield 12, 3) := by decide +kernel
theorem dX4_init_15 : decode cX4_init 15 = .ok (.aload_n 0, 1) := by decide +kernel
theorem dX4_init_16 : decode cX4_init 16 = .ok (.new 18, 3) := by decide +kernel
theorem dX4_init_19 : decode cX4_init 19 = .ok (.dup, 1) := by decide +kernel
theorem dX4_init_20 : decode cX4_init 20 = .ok (.aload_n 0, 1) := by decide +kernel
theorem dX4_init_21 : decode cX4_init 21 = .ok (.getfield 12, 3) := by decide +kernel
theorem dX4_init_24 : decode cX4_init 24 = .ok (.invokespecial 20, 3) := by decide +kernel
theorem dX4_init_27 : decode cX4_init 27 = .ok (.putfield 23, 3) := by decide +kernel
theorem dX4_init_30 : decode cX4_init 30 = .ok (.aload_n 0, 1) := by decide +kernel
theorem dX4_init_31 : decode cX4_init 31 = .ok (.new 27, 3) := by decide +kernel
theorem dX4_init_34 : decode cX4_init 34 = .ok (.dup, 1) := by decide +kernel
theorem dX4_init_35 : decode cX4_init 35 = .ok (.bipush 14, 2) := by decide +kernel
theorem dX4_init_37 : decode cX4_init 37 = .ok (.iconst 5, 1) := by decide +kernel
theorem dX4_init_38 : decode cX4_init 38 = .ok (.aconst_null, 1) := by decide +kernel
theorem dX4_init_39 : decode cX4_init 39 = .ok (.invokespecial 29, 3) := by decide +kernel
theorem dX4_init_42 : decode cX4_init 42 = .ok (.putfield 32, 3) := by decide +kernel
theorem dX4_init_45 : decode cX4_init 45 = .ok (.aload_n 0, 1) := by decide +kernel
theorem dX4_init_46 : decode cX4_init 46 = .ok (.iconst 0, 1) := by decide +kernel
theorem dX4_init_47 : decode cX4_init 47 = .ok (.putfield 36, 3) := by decide +kernel
theorem dX4_init_50 : decode cX4_init 50 = .ok (.aload_n 0, 1) := by decide +kernel
theorem dX4_init_51 : decode cX4_init 51 = .ok (.new 40, 3) := by decide +kernel
theorem dX4_init_54 : decode cX4_init 54 = .ok (.dup, 1) := by decide +kernel
theorem dX4_init_55 : decode cX4_init 55 = .ok (.invokespecial 42, 3) := by decide +kernel
theorem dX4_init_58 : decode cX4_init 58 = .ok (.putfield 43, 3) := by decide +kernel
theorem dX4_init_61 : decode cX4_init 61 = .ok (.return_, 1) := by decide +kernel
theorem dX5_init_0 : decode cX5_init 0 = .ok (.aload_n 0, 1) := by decide +kernel
theorem dX5_init_1 : decode cX5_init 1 = .ok (.invokespecial 3, 3) := by decide +kernel
theorem dX5_init_4 : decode cX5_init 4 = .ok (.aload_n 0, 1) := by decide +kernel
theorem dX5_init_5 : decode cX5_init 5 = .ok (.iconst 0, 1) := by decide +kernel
theorem dX5_init_6 : decode cX5_init 6 = .ok (.putfield 9, 3) := by decide +kernel
theorem dX5_init_9 : decode cX5_init 9 = .ok (.aload_n 0, 1) := by decide +kernel
theorem dX5_init_10 : decode cX5_init 10 = .ok (.iconst 0, 1) := by decide +kernel
theorem dX5_init_11 : decode cX5_init 11 = .ok (.putfield 15, 3) := by decide +kernel
theorem dX5_init_14 : decode cX5_init 14 = .ok (.aload_n 0, 1) := by decide +kernel
theorem dX5_init_15 : decode cX5_init 15 = .ok (.iconst 0, 1) := by decide +kernel
theorem dX5_init_16 : decode cX5_init 16 = .ok (.putfield 18, 3) := by decide +kernel
theorem dX5_init_19 : decode cX5_init 19 = .ok (.aload_n 0, 1) := by decide +kernel
theorem dX5_init_20 : decode cX5_init 20 = .ok (.bipush 14, 2) := by decide +kernel
theorem dX5_init_22 : decode cX5_init 22 = .ok (.newarray .int, 2) := by decide +kernel
theorem dX5_init_24 : decode cX5_init 24 = .ok (.putfield 21, 3) := by decide +kernel
theorem dX5_init_27 : decode cX5_init 27 = .ok (.aload_n 0, 1) := by decide +kernel
theorem dX5_init_28 : decode cX5_init 28 = .ok (.bipush 14, 2) := by decide +kernel
theorem dX5_init_30 : decode cX5_init 30 = .ok (.newarray .int, 2) := by decide +kernel
theorem dX5_init_32 : decode cX5_init 32 = .ok (.putfield 25, 3) := by decide +kernel
theorem dX5_init_35 : decode cX5_init 35 = .ok (.aload_n 0, 1) := by decide +kernel
theorem dX5_init_36 : decode cX5_init 36 = .ok (.aload_n 1, 1) := by decide +kernel
theorem dX5_init_37 : decode cX5_init 37 = .ok (.putfield 28, 3) := by decide +kernel
theorem dX5_init_40 : decode cX5_init 40 = .ok (.return_, 1) := by decide +kernel
theorem dX6_init_0 : decode cX6_init 0 = .ok (.aload_n 0, 1) := by decide +kernel
theorem dX6_init_1 : decode cX6_init 1 = .ok (.invokespecial 3, 3) := by decide +kernel
theorem dX6_init_4 : decode cX6_init 4 = .ok (.aload_n 0, 1) := by decide +kernel
theorem dX6_init_5 : decode cX6_init 5 = .ok (.iconst 0, 1) := by decide +kernel
theorem dX6_init_6 : decode cX6_init 6 = .ok (.putfield 9, 3) := by decide +kernel
theorem dX6_init_9 : decode cX6_init 9 = .ok (.aload_n 0, 1) := by decide +kernel
theorem dX6_init_10 : decode cX6_init 10 = .ok (.iconst 0, 1) := by decide +kernel
theorem dX6_init_11 : decode cX6_init 11 = .ok (.putfield 15, 3) := by decide +kernel
theorem dX6_init_14 : decode cX6_init 14 = .ok (.aload_n 0, 1) := by decide +kernel
theorem dX6_init_15 : decode cX6_init 15 = .ok (.iconst 0, 1) := by decide +kernel
theorem dX6_init_16 : decode cX6_init 16 = .ok (.putfield 18, 3) := by decide +kernel
theorem dX6_init_19 : decode cX6_init 19 = .ok (.aload_n 0, 1) := by decide +kernel
theorem dX6_init_20 : decode cX6_init 20 = .ok (.iconst 0, 1) := by decide +kernel
theorem dX6_init_21 : decode cX6_init 21 = .ok (.putfield 21, 3) := by decide +kernel
theorem dX6_init_24 : decode cX6_init 24 = .ok (.aload_n 0, 1) := by decide +kernel
theorem dX6_init_25 : decode cX6_init 25 = .ok (.bipush 14, 2) := by decide +kernel
theorem dX6_init_27 : decode cX6_init 27 = .ok (.newarray .int, 2) := by decide +kernel
theorem dX6_init_29 : decode cX6_init 29 = .ok (.putfield 24, 3) := by decide +kernel
theorem dX6_init_32 : decode cX6_init 32 = .ok (.aload_n 0, 1) := by decide +kernel
theorem dX6_init_33 : decode cX6_init 33 = .ok (.bipush 14, 2) := by decide +kernel
theorem dX6_init_35 : decode cX6_init 35 = .ok (.newarray .int, 2) := by decide +kernel
theorem dX6_init_37 : decode cX6_init 37 = .ok (.putfield 28, 3) := by decide +kernel
theorem dX6_init_40 : decode cX6_init 40 = .ok (.return_, 1) := by decide +kernel
theorem dX7_init_0 : decode cX7_init 0 = .ok (.aload_n 0, 1) := by decide +kernel
theorem dX7_init_1 : decode cX7_init 1 = .ok (.invokespecial 3, 3) := by decide +kernel
theorem dX7_init_4 : decode cX7_init 4 = .ok (.aload_n 0, 1) := by decide +kernel
theorem dX7_init_5 : decode cX7_init 5 = .ok (.iconst 0, 1) := by decide +kernel
theorem dX7_init_6 : decode cX7_init 6 = .ok (.newarray .byte, 2) := by decide +kernel
theorem dX7_init_8 : decode cX7_init 8 = .ok (.putfield 9, 3) := by decide +kernel
theorem dX7_init_11 : decode cX7_init 11 = .ok (.aload_n 0, 1) := by decide +kernel
theorem dX7_init_12 : decode cX7_init 12 = .ok (.iconst 0, 1) := by decide +kernel
theorem dX7_init_13 : decode cX7_init 13 = .ok (.putfield 15, 3) := by decide +kernel
theorem dX7_init_16 : decode cX7_init 16 = .ok (.aload_n 0, 1) := by decide +kernel
theorem dX7_init_17 : decode cX7_init 17 = .ok (.iconst 0, 1) := by decide +kernel
theorem dX7_init_18 : decode cX7_init 18 = .ok (.putfield 19, 3) := by decide +kernel
theorem dX7_init_21 : decode cX7_init 21 = .ok (.aload_n 0, 1) := by decide +kernel
theorem dX7_init_22 : decode cX7_init 22 = .ok (.iconst 0, 1) := by decide +kernel
theorem dX7_init_23 : decode cX7_init 23 = .ok (.putfield 22, 3) := by decide +kernel
theorem dX7_init_26 : decode cX7_init 26 = .ok (.aload_n 0, 1) := by decide +kernel
theorem dX7_init_27 : decode cX7_init 27 = .ok (.iconst 0, 1) := by decide +kernel
theorem dX7_init_28 : decode cX7_init 28 = .ok (.putfield 25, 3) := by decide +kernel
theorem dX7_init_31 : decode cX7_init 31 = .ok (.aload_n 0, 1) := by decide +kernel
theorem dX7_init_32 : decode cX7_init 32 = .ok (.iconst 0, 1) := by decide +kernel
theorem dX7_init_33 : decode cX7_init 33 = .ok (.putfield 28, 3) := by decide +kernel
theorem dX7_init_36 : decode cX7_init 36 = .ok (.aload_n 0, 1) := by decide +kernel
theorem dX7_init_37 : decode cX7_init 37 = .ok (.iconst 0, 1) := by decide +kernel
theorem dX7_init_38 : decode cX7_init 38 = .ok (.putfield 31, 3) := by decide +kernel
theorem dX7_init_41 : decode cX7_init 41 = .ok (.aload_n 0, 1) := by decide +kernel
theorem dX7_init_42 : decode cX7_init 42 = .ok (.iconst (-1), 1) := by decide +kernel
theorem dX7_init_43 : decode cX7_init 43 = .ok (.putfield 34, 3) := by decide +kernel
theorem dX7_init_46 : decode cX7_init 46 = .ok (.return_, 1) := by decide +kernel
theorem dX8_init_0 : decode cX8_init 0 = .ok (.aload_n 0, 1) := by decide +kernel
theorem dX8_init_1 : decode cX8_init 1 = .ok (.invokespecial 3, 3) := by decide +kernel
theorem dX8_init_4 : decode cX8_init 4 = .ok (.aload_n 0, 1) := by decide +kernel
theorem dX8_init_5 : decode cX8_init 5 = .ok (.bipush 40, 2) := by decide +kernel
theorem dX8_init_7 : decode cX8_init 7 = .ok (.newarray .long, 2) := by decide +kernel
theorem dX8_init_9 : decode cX8_init 9 = .ok (.putfield 9, 3) := by decide +kernel
theorem dX8_init_12 : decode cX8_init 12 = .ok (.aload_n 0, 1) := by decide +kernel
theorem dX8_init_13 : decode cX8_init 13 = .ok (.iconst 0, 1) := by decide +kernel
theorem dX8_init_14 : decode cX8_init 14 = .ok (.putfield 15, 3) := by decide +kernel
theorem dX8_init_17 : decode cX8_init 17 = .ok (.aload_n 0, 1) := by decide +kernel
theorem dX8_init_18 : decode cX8_init 18 = .ok (.iconst (-1), 1) := by decide +kernel
theorem dX8_init_19 : decode cX8_init 19 = .ok (.putfield 19, 3) := by decide +kernel
theorem dX8_init_22 : decode cX8_init 22 = .ok (.return_, 1) := by decide +kernel
theorem kw_37 : Cond.methodLink "FootholdWall$Reader" 3 objectInit ∈ gw := gw_of (tb_of 37 (by decide +kernel)) (by decide +kernel)
theorem kw_38 : Cond.classLink "FootholdWall$Reader" 9 "FootholdWall$Tokens" ∈ gw := gw_of (tb_of 38 (by decide +kernel)) (by decide +kernel)
theorem kw_39 : Cond.instantiable "FootholdWall$Tokens" 8 ∈ gw := gw_of (tb_of 39 (by decide +kernel)) (by decide +kernel)
theorem kw_41 : Cond.instanceMethod yX7_init ∈ gw := gw_of (tb_of 41 (by decide +kernel)) (by decide +kernel)
theorem kw_42 : Cond.code yX7_init cX7_init 1 none ∈ gw := gw_of (tb_of 42 (by decide +kernel)) (by decide +kernel)
theorem kw_43 : Cond.methodLink "FootholdWall$Tokens" 3 objectInit ∈ gw := gw_of (tb_of 43 (by decide +kernel)) (by decide +kernel)
theorem kw_75 : Cond.arrayClass .byte ∈ gw := gw_of (tb_of 75 (by decide +kernel)) (by decide +kernel)
theorem kw_76 : Cond.classLink "FootholdWall$Reader" 18 "FootholdWall$LawReader" ∈ gw := gw_of (tb_of 76 (by decide +kernel)) (by decide +kernel)
theorem kw_77 : Cond.instantiable "FootholdWall$LawReader" 3 ∈ gw := gw_of (tb_of 77 (by decide +kernel)) (by decide +kernel)
theorem kw_78 : Cond.methodLink "FootholdWall$Reader" 20 yX3_init ∈ gw := gw_of (tb_of 78 (by decide +kernel)) (by decide +kernel)
theorem kw_79 : Cond.instanceMethod yX3_init ∈ gw := gw_of (tb_of 79 (by decide +kernel)) (by decide +kernel)
theorem kw_80 : Cond.code yX3_init cX3_init 2 none ∈ gw := gw_of (tb_of 80 (by decide +kernel)) (by decide +kernel)
theorem kw_81 : Cond.methodLink "FootholdWall$LawReader" 3 objectInit ∈ gw := gw_of (tb_of 81 (by decide +kernel)) (by decide +kernel)
theorem kw_93 : Cond.classLink "FootholdWall$Reader" 27 "FootholdWall$Wall" ∈ gw := gw_of (tb_of 93 (by decide +kernel)) (by decide +kernel)
theorem kw_95 : Cond.methodLink "FootholdWall$Reader" 29 yX9_init ∈ gw := gw_of (tb_of 95 (by decide +kernel)) (by decide +kernel)
theorem kw_179 : Cond.classLink "FootholdWall$Reader" 40 "FootholdWall$State" ∈ gw := gw_of (tb_of 179 (by decide +kernel)) (by decide +kernel)
theorem kw_180 : Cond.instantiable "FootholdWall$State" 6 ∈ gw := gw_of (tb_of 180 (by decide +kernel)) (by decide +kernel)
theorem kw_182 : Cond.instanceMethod yX6_init ∈ gw := gw_of (tb_of 182 (by decide +kernel)) (by decide +kernel)
theorem kw_183 : Cond.code yX6_init cX6_init 1 none ∈ gw := gw_of (tb_of 183 (by decide +kernel)) (by decide +kernel)
theorem kw_184 : Cond.methodLink "FootholdWall$State" 3 objectInit ∈ gw := gw_of (tb_of 184 (by decide +kernel)) (by decide +kernel)
theorem kw_243 : Cond.methodLink "FootholdWall$Rows" 3 objectInit ∈ gw := gw_of (tb_of 243 (by decide +kernel)) (by decide +kernel)
theorem kw_271 : Cond.methodLink "FootholdWall$Ways" 3 objectInit ∈ gw := gw_of (tb_of 271 (by decide +kernel)) (by decide +kernel)
theorem kw_295 : Cond.arrayClass .long ∈ gw := gw_of (tb_of 295 (by decide +kernel)) (by decide +kernel)
theorem kw_301 : Cond.methodLink "FootholdWall$Cut" 3 objectInit ∈ gw := gw_of (tb_of 301 (by decide +kernel)) (by decide +kernel)
theorem kw_329 : Cond.methodLink "FootholdWall$Chains" 3 objectInit ∈ gw := gw_of (tb_of 329 (by decide +kernel)) (by decide +kernel)
theorem kw_348 : Cond.methodLink "FootholdWall$Tray" 3 objectInit ∈ gw := gw_of (tb_of 348 (by decide +kernel)) (by decide +kernel)
set_option maxHeartbeats 4000000 in
set_option maxRecDepth 100000 in
theorem c_State_init (l : Launch) (D : va_G) (cB cI cJ cZ cS cW cT cR : ClassId) (h0 : Nat) : Kon l D (tyl cB cI cJ cZ cS cW cT cR) yX6_init cX6_init 1 none { frames := 1, cells := 2, slots := 28, locals := 12 } [.ref h0] [(h0, .inr (6, [.int 0, .int 0, .int 0, .int 0, .null, .null]))] (Qv D (fun u => ∃ (q_1 : Nat), ∃ (q_2 : Nat), u = [(h0, .inr (6, [.int 0, .int 0, .int 0, .int 0, .ref q_1, .ref q_2])), (q_1, .inl (cI, 14, .inl (fun _ => 0))), (q_2, .inl (cI, 14, .inl (fun _ => 0)))])) := by
  refine kon_of (by decide) (Nat.le_of_ble_eq_true rfl) (fun p e s m below meth c ls A hx hb hr hml hown hts hlocks hnm hkb hP hD hS hA hl => ?_)
  have hown : s.vm.findClass RX6 = some m.cls := hown
  have hl : lv_has ls 1 [(0, .ref h0)] := hl
  have hP : va_P D cls [(h0, .inr (6, [.int 0, .int 0, .int 0, .int 0, .null, .null]))] s.heap := hP
  refine lv_aload_n hx hb dX6_init_0 rfl (lv_at hl 0 rfl) ?_
  refine W.objInit hx hb hown (hts _ kw_184) (hts _ kw_30) (hts _ kw_31) rfl (by rw [hml]; exact hl.1) rfl dX6_init_1 (Nat.le_of_ble_eq_true rfl) (Nat.le_of_ble_eq_true rfl) ?_
  refine W.eq (g2 := F0 m 4 ls []) rfl ?_
  refine lv_aload_n hx hb dX6_init_4 rfl (lv_at hl 0 rfl) ?_
  refine lv_iconst (v := 0) hx hb dX6_init_5 (by decide) ?_
  refine va_put (D := D) (ci := 6) (v := .int 0) (ty := tyX6 0) (C := RX6) (T := TX6) (N := 6) hx hb hts uX6 tyX6 tyX6_ok nmX6 hown hkb.1 hP hD hS 0 rfl rfl 0 (by decide) (hts _ kw_185) (fun _ h9 => h9) rfl (tyX6_ok 0 (by decide)) rfl rfl (Nat.le_of_ble_eq_true rfl) dX6_init_6 (fun H locs hP hD hS => ?_)
  have hP : va_P D cls [(h0, .inr (6, [.int 0, .int 0, .int 0, .int 0, .null, .null]))] H := hP
  have hD : va_D A [(h0, .inr (6, [.int 0, .int 0, .int 0, .int 0, .null, .null]))] := hD
  refine lv_aload_n hx hb dX6_init_9 rfl (lv_at hl 0 rfl) ?_
  refine lv_iconst (v := 0) hx hb dX6_init_10 (by decide) ?_
  refine va_put (D := D) (ci := 6) (v := .int 0) (ty := tyX6 1) (C := RX6) (T := TX6) (N := 6) hx hb hts uX6 tyX6 tyX6_ok nmX6 hown hkb.1 hP hD hS 0 rfl rfl 1 (by decide) (hts _ kw_187) (fun _ h9 => h9) rfl (tyX6_ok 1 (by decide)) rfl rfl (Nat.le_of_ble_eq_true rfl) dX6_init_11 (fun H locs hP hD hS => ?_)
  have hP : va_P D cls [(h0, .inr (6, [.int 0, .int 0, .int 0, .int 0, .null, .null]))] H := hP
  have hD : va_D A [(h0, .inr (6, [.int 0, .int 0, .int 0, .int 0, .null, .null]))] := hD
  refine lv_aload_n hx hb dX6_init_14 rfl (lv_at hl 0 rfl) ?_
  refine lv_iconst (v := 0) hx hb dX6_init_15 (by decide) ?_
  refine va_put (D := D) (ci := 6) (v := .int 0) (ty := tyX6 2) (C := RX6) (T := TX6) (N := 6) hx hb hts uX6 tyX6 tyX6_ok nmX6 hown hkb.1 hP hD hS 0 rfl rfl 2 (by decide) (hts _ kw_189) (fun _ h9 => h9) rfl (tyX6_ok 2 (by decide)) rfl rfl (Nat.le_of_ble_eq_true rfl) dX6_init_16 (fun H locs hP hD hS => ?_)
  have hP : va_P D cls [(h0, .inr (6, [.int 0, .int 0, .int 0, .int 0, .null, .null]))] H := hP
  have hD : va_D A [(h0, .inr (6, [.int 0, .int 0, .int 0, .int 0, .null, .null]))] := hD
  refine lv_aload_n hx hb dX6_init_19 rfl (lv_at hl 0 rfl) ?_
  refine lv_iconst (v := 0) hx hb dX6_init_20 (by decide) ?_
  refine va_put (D := D) (ci := 6) (v := .int 0) (ty := tyX6 3) (C := RX6) (T := TX6) (N := 6) hx hb hts uX6 tyX6 tyX6_ok nmX6 hown hkb.1 hP hD hS 0 rfl rfl 3 (by decide) (hts _ kw_192) (fun _ h9 => h9) rfl (tyX6_ok 3 (by decide)) rfl rfl (Nat.le_of_ble_eq_true rfl) dX6_init_21 (fun H locs hP hD hS => ?_)
  have hP : va_P D cls [(h0, .inr (6, [.int 0, .int 0, .int 0, .int 0, .null, .null]))] H := hP
  have hD : va_D A [(h0, .inr (6, [.int 0, .int 0, .int 0, .int 0, .null, .null]))] := hD
  refine lv_aload_n hx hb dX6_init_24 rfl (lv_at hl 0 rfl) ?_
  refine lv_bipush (v := 14) hx hb dX6_init_25 (by decide) ?_
  refine n_a (atype := .int) (t := .int) (a0 := (14, .inl (fun _ => 0))) 1 rfl (fun _ _ h => h) hx hb (hts _ kw_92) rfl hkb.1 hP hD hS hA (fun _ => rfl) (by decide) (by decide +kernel) (by decide) (Nat.le_of_ble_eq_true rfl) (Nat.le_of_ble_eq_true rfl) dX6_init_27 (fun q_1 H hP hD hS => ?_)
  have hP : va_P D cls [(h0, .inr (6, [.int 0, .int 0, .int 0, .int 0, .null, .null])), (q_1, .inl (cI, 14, .inl (fun _ => 0)))] H := hP
  have hD : va_D A [(h0, .inr (6, [.int 0, .int 0, .int 0, .int 0, .null, .null])), (q_1, .inl (cI, 14, .inl (fun _ => 0)))] := hD
  refine W.widen (k := 1) (n := 14) (Nat.le_of_ble_eq_true rfl) (Nat.le_of_ble_eq_true rfl) ?_
  refine va_putF (D := D) (ci := 6) (v := .ref q_1) (ty := tyX6 4) (C := RX6) (T := TX6) (N := 6) hx hb hts uX6 tyX6 tyX6_ok nmX6 hown hkb.1 hP hD hS 0 rfl rfl 4 (by decide) (hts _ kw_194) (fun _ h9 => h9) rfl hnm rfl (tyX6_ok 4 (by decide)) rfl rfl (Nat.le_of_ble_eq_true rfl) dX6_init_29 (fun H locs hP hD hS => ?_)
  have hP : va_P D cls [(h0, .inr (6, [.int 0, .int 0, .int 0, .int 0, .ref q_1, .null])), (q_1, .inl (cI, 14, .inl (fun _ => 0)))] H := hP
  have hD : va_D A [(h0, .inr (6, [.int 0, .int 0, .int 0, .int 0, .ref q_1, .null])), (q_1, .inl (cI, 14, .inl (fun _ => 0)))] := hD
  refine lv_aload_n hx hb dX6_init_32 rfl (lv_at hl 0 rfl) ?_
  refine lv_bipush (v := 14) hx hb dX6_init_33 (by decide) ?_
  refine n_a (atype := .int) (t := .int) (a0 := (14, .inl (fun _ => 0))) 1 rfl (fun _ _ h => h) hx hb (hts _ kw_92) rfl hkb.1 hP hD hS hA (fun _ => rfl) (by decide) (by decide +kernel) (by decide) (Nat.le_of_ble_eq_true rfl) (Nat.le_of_ble_eq_true rfl) dX6_init_35 (fun q_2 H hP hD hS => ?_)
  have hP : va_P D cls [(h0, .inr (6, [.int 0, .int 0, .int 0, .int 0, .ref q_1, .null])), (q_1, .inl (cI, 14, .inl (fun _ => 0))), (q_2, .inl (cI, 14, .inl (fun _ => 0)))] H := hP
  have hD : va_D A [(h0, .inr (6, [.int 0, .int 0, .int 0, .int 0, .ref q_1, .null])), (q_1, .inl (cI, 14, .inl (fun _ => 0))), (q_2, .inl (cI, 14, .inl (fun _ => 0)))] := hD
  refine W.widen (k := 2) (n := 28) (Nat.le_of_ble_eq_true rfl) (Nat.le_of_ble_eq_true rfl) ?_
  refine va_putF (D := D) (ci := 6) (v := .ref q_2) (ty := tyX6 5) (C := RX6) (T := TX6) (N := 6) hx hb hts uX6 tyX6 tyX6_ok nmX6 hown hkb.1 hP hD hS 0 rfl rfl 5 (by decide) (hts _ kw_196) (fun _ h9 => h9) rfl hnm rfl (tyX6_ok 5 (by decide)) rfl rfl (Nat.le_of_ble_eq_true rfl) dX6_init_37 (fun H locs hP hD hS => ?_)
  have hP : va_P D cls [(h0, .inr (6, [.int 0, .int 0, .int 0, .int 0, .ref q_1, .ref q_2])), (q_1, .inl (cI, 14, .inl (fun _ => 0))), (q_2, .inl (cI, 14, .inl (fun _ => 0)))] H := hP
  have hD : va_D A [(h0, .inr (6, [.int 0, .int 0, .int 0, .int 0, .ref q_1, .ref q_2])), (q_1, .inl (cI, 14, .inl (fun _ => 0))), (q_2, .inl (cI, 14, .inl (fun _ => 0)))] := hD
  refine W.widen (k := 2) (n := 28) (Nat.le_of_ble_eq_true rfl) (Nat.le_of_ble_eq_true rfl) ?_
  exact e_v (u := [(h0, .inr (6, [.int 0, .int 0, .int 0, .int 0, .ref q_1, .ref q_2])), (q_1, .inl (cI, 14, .inl (fun _ => 0))), (q_2, .inl (cI, 14, .inl (fun _ => 0)))]) hx hb hr hlocks (hP.sub (ws' := [(h0, .inr (6, [.int 0, .int 0, .int 0, .int 0, .ref q_1, .ref q_2])), (q_1, .inl (cI, 14, .inl (fun _ => 0))), (q_2, .inl (cI, 14, .inl (fun _ => 0)))]) [0, 1, 2] rfl) (hD.sub (ws' := [(h0, .inr (6, [.int 0, .int 0, .int 0, .int 0, .ref q_1, .ref q_2])), (q_1, .inl (cI, 14, .inl (fun _ => 0))), (q_2, .inl (cI, 14, .inl (fun _ => 0)))]) [0, 1, 2] (by decide) rfl) hS ⟨q_1, q_2, rfl⟩ dX6_init_40
set_option maxHeartbeats 4000000 in
set_option maxRecDepth 100000 in
theorem c_Tray_init (l : Launch) (D : va_G) (cB cI cJ cZ cS cW cT cR : ClassId) (h0 : Nat) : Kon l D (tyl cB cI cJ cZ cS cW cT cR) yX8_init cX8_init 1 none { frames := 1, cells := 1, slots := 40, locals := 12 } [.ref h0] [(h0, .inr (8, [.null, .int 0, .int 0]))] (Qv D (fun u => ∃ (q_1 : Nat), u = [(h0, .inr (8, [.ref q_1, .int 0, .int (-1)])), (q_1, .inl (cJ, 40, .inr (.inl (fun _ => 0))))])) := by
  refine kon_of (by decide) (Nat.le_of_ble_eq_true rfl) (fun p e s m below meth c ls A hx hb hr hml hown hts hlocks hnm hkb hP hD hS hA hl => ?_)
  have hown : s.vm.findClass RX8 = some m.cls := hown
  have hl : lv_has ls 1 [(0, .ref h0)] := hl
  have hP : va_P D cls [(h0, .inr (8, [.null, .int 0, .int 0]))] s.heap := hP
  refine lv_aload_n hx hb dX8_init_0 rfl (lv_at hl 0 rfl) ?_
  refine W.objInit hx hb hown (hts _ kw_348) (hts _ kw_30) (hts _ kw_31) rfl (by rw [hml]; exact hl.1) rfl dX8_init_1 (Nat.le_of_ble_eq_true rfl) (Nat.le_of_ble_eq_true rfl) ?_
  refine W.eq (g2 := F0 m 4 ls []) rfl ?_
  refine lv_aload_n hx hb dX8_init_4 rfl (lv_at hl 0 rfl) ?_
  refine lv_bipush (v := 40) hx hb dX8_init_5 (by decide) ?_
  refine n_a (atype := .long) (t := .long) (a0 := (40, .inr (.inl (fun _ => 0)))) 2 rfl (fun _ _ h => h) hx hb (hts _ kw_295) rfl hkb.1 hP hD hS hA (fun _ => rfl) (by decide) (by decide +kernel) (by decide) (Nat.le_of_ble_eq_true rfl) (Nat.le_of_ble_eq_true rfl) dX8_init_7 (fun q_1 H hP hD hS => ?_)
  have hP : va_P D cls [(h0, .inr (8, [.null, .int 0, .int 0])), (q_1, .inl (cJ, 40, .inr (.inl (fun _ => 0))))] H := hP
  have hD : va_D A [(h0, .inr (8, [.null, .int 0, .int 0])), (q_1, .inl (cJ, 40, .inr (.inl (fun _ => 0))))] := hD
  refine W.widen (k := 1) (n := 40) (Nat.le_of_ble_eq_true rfl) (Nat.le_of_ble_eq_true rfl) ?_
  refine va_putF (D := D) (ci := 8) (v := .ref q_1) (ty := tyX8 0) (C := RX8) (T := TX8) (N := 3) hx hb hts uX8 tyX8 tyX8_ok nmX8 hown hkb.1 hP hD hS 0 rfl rfl 0 (by decide) (hts _ kw_349) (fun _ h9 => h9) rfl hnm rfl (tyX8_ok 0 (by decide)) rfl rfl (Nat.le_of_ble_eq_true rfl) dX8_init_9 (fun H locs hP hD hS => ?_)
  have hP : va_P D cls [(h0, .inr (8, [.ref q_1, .int 0, .int 0])), (q_1, .inl (cJ, 40, .inr (.inl (fun _ => 0))))] H := hP
  have hD : va_D A [(h0, .inr (8, [.ref q_1, .int 0, .int 0])), (q_1, .inl (cJ, 40, .inr (.inl (fun _ => 0))))] := hD
  refine lv_aload_n hx hb dX8_init_12 rfl (lv_at hl 0 rfl) ?_
  refine lv_iconst (v := 0) hx hb dX8_init_13 (by decide) ?_
  refine va_put (D := D) (ci := 8) (v := .int 0) (ty := tyX8 1) (C := RX8) (T := TX8) (N := 3) hx hb hts uX8 tyX8 tyX8_ok nmX8 hown hkb.1 hP hD hS 0 rfl rfl 1 (by decide) (hts _ kw_350) (fun _ h9 => h9) rfl (tyX8_ok 1 (by decide)) rfl rfl (Nat.le_of_ble_eq_true rfl) dX8_init_14 (fun H locs hP hD hS => ?_)
  have hP : va_P D cls [(h0, .inr (8, [.ref q_1, .int 0, .int 0])), (q_1, .inl (cJ, 40, .inr (.inl (fun _ => 0))))] H := hP
  have hD : va_D A [(h0, .inr (8, [.ref q_1, .int 0, .int 0])), (q_1, .inl (cJ, 40, .inr (.inl (fun _ => 0))))] := hD
  refine lv_aload_n hx hb dX8_init_17 rfl (lv_at hl 0 rfl) ?_
  refine lv_iconst (v := (-1)) hx hb dX8_init_18 (by decide) ?_
  refine va_put (D := D) (ci := 8) (v := .int (-1)) (ty := tyX8 2) (C := RX8) (T := TX8) (N := 3) hx hb hts uX8 tyX8 tyX8_ok nmX8 hown hkb.1 hP hD hS 0 rfl rfl 2 (by decide) (hts _ kw_351) (fun _ h9 => h9) rfl (tyX8_ok 2 (by decide)) rfl rfl (Nat.le_of_ble_eq_true rfl) dX8_init_19 (fun H locs hP hD hS => ?_)
  have hP : va_P D cls [(h0, .inr (8, [.ref q_1, .int 0, .int (-1)])), (q_1, .inl (cJ, 40, .inr (.inl (fun _ => 0))))] H := hP
  have hD : va_D A [(h0, .inr (8, [.ref q_1, .int 0, .int (-1)])), (q_1, .inl (cJ, 40, .inr (.inl (fun _ => 0))))] := hD
  refine W.widen (k := 1) (n := 40) (Nat.le_of_ble_eq_true rfl) (Nat.le_of_ble_eq_true rfl) ?_
  exact e_v (u := [(h0, .inr (8, [.ref q_1, .int 0, .int (-1)])), (q_1, .inl (cJ, 40, .inr (.inl (fun _ => 0))))]) hx hb hr hlocks (hP.sub (ws' := [(h0, .inr (8, [.ref q_1, .int 0, .int (-1)])), (q_1, .inl (cJ, 40, .inr (.inl (fun _ => 0))))]) [0, 1] rfl) (hD.sub (ws' := [(h0, .inr (8, [.ref q_1, .int 0, .int (-1)])), (q_1, .inl (cJ, 40, .inr (.inl (fun _ => 0))))]) [0, 1] (by decide) rfl) hS ⟨q_1, rfl⟩ dX8_init_22
set_option maxHeartbeats 4000000 in
set_option maxRecDepth 100000 in
theorem c_Tokens_init (l : Launch) (D : va_G) (cB cI cJ cZ cS cW cT cR : ClassId) (h0 : Nat) : Kon l D (tyl cB cI cJ cZ cS cW cT cR) yX7_init cX7_init 1 none { frames := 1, cells := 1, slots := 0, locals := 12 } [.ref h0] [(h0, .inr (7, [.null, .int 0, .int 0, .int 0, .int 0, .int 0, .int 0, .int 0]))] (Qv D (fun u => ∃ (q_1 : Nat), u = [(h0, .inr (7, [.ref q_1, .int 0, .int 0, .int 0, .int 0, .int 0, .int 0, .int (-1)])), (q_1, .inl (cB, 0, .inl (fun _ => 0)))])) := by
  refine kon_of (by decide) (Nat.le_of_ble_eq_true rfl) (fun p e s m below meth c ls A hx hb hr hml hown hts hlocks hnm hkb hP hD hS hA hl => ?_)
  have hown : s.vm.findClass RX7 = some m.cls := hown
  have hl : lv_has ls 1 [(0, .ref h0)] := hl
  have hP : va_P D cls [(h0, .inr (7, [.null, .int 0, .int 0, .int 0, .int 0, .int 0, .int 0, .int 0]))] s.heap := hP
  refine lv_aload_n hx hb dX7_init_0 rfl (lv_at hl 0 rfl) ?_
  refine W.objInit hx hb hown (hts _ kw_43) (hts _ kw_30) (hts _ kw_31) rfl (by rw [hml]; exact hl.1) rfl dX7_init_1 (Nat.le_of_ble_eq_true rfl) (Nat.le_of_ble_eq_true rfl) ?_
  refine W.eq (g2 := F0 m 4 ls []) rfl ?_
  refine lv_aload_n hx hb dX7_init_4 rfl (lv_at hl 0 rfl) ?_
  refine lv_iconst (v := 0) hx hb dX7_init_5 (by decide) ?_
  refine n_a (atype := .byte) (t := .byte) (a0 := (0, .inl (fun _ => 0))) 0 rfl (fun _ _ h => h) hx hb (hts _ kw_75) rfl hkb.1 hP hD hS hA (fun _ => rfl) (by decide) (by decide +kernel) (by decide) (Nat.le_of_ble_eq_true rfl) (Nat.le_of_ble_eq_true rfl) dX7_init_6 (fun q_1 H hP hD hS => ?_)
  have hP : va_P D cls [(h0, .inr (7, [.null, .int 0, .int 0, .int 0, .int 0, .int 0, .int 0, .int 0])), (q_1, .inl (cB, 0, .inl (fun _ => 0)))] H := hP
  have hD : va_D A [(h0, .inr (7, [.null, .int 0, .int 0, .int 0, .int 0, .int 0, .int 0, .int 0])), (q_1, .inl (cB, 0, .inl (fun _ => 0)))] := hD
  refine W.widen (k := 1) (n := 0) (Nat.le_of_ble_eq_true rfl) (Nat.le_of_ble_eq_true rfl) ?_
  refine va_put (D := D) (ci := 7) (v := .ref q_1) (ty := tyX7 0) (C := RX7) (T := TX7) (N := 8) hx hb hts uX7 tyX7 tyX7_ok nmX7 hown hkb.1 hP hD hS 0 rfl rfl 0 (by decide) (hts _ kw_44) (fun _ h9 => h9) rfl (tyX7_ok 0 (by decide)) rfl rfl (Nat.le_of_ble_eq_true rfl) dX7_init_8 (fun H locs hP hD hS => ?_)
  have hP : va_P D cls [(h0, .inr (7, [.ref q_1, .int 0, .int 0, .int 0, .int 0, .int 0, .int 0, .int 0])), (q_1, .inl (cB, 0, .inl (fun _ => 0)))] H := hP
  have hD : va_D A [(h0, .inr (7, [.ref q_1, .int 0, .int 0, .int 0, .int 0, .int 0, .int 0, .int 0])), (q_1, .inl (cB, 0, .inl (fun _ => 0)))] := hD
  refine lv_aload_n hx hb dX7_init_11 rfl (lv_at hl 0 rfl) ?_
  refine lv_iconst (v := 0) hx hb dX7_init_12 (by decide) ?_
  refine va_put (D := D) (ci := 7) (v := .int 0) (ty := tyX7 1) (C := RX7) (T := TX7) (N := 8) hx hb hts uX7 tyX7 tyX7_ok nmX7 hown hkb.1 hP hD hS 0 rfl rfl 1 (by decide) (hts _ kw_45) (fun _ h9 => h9) rfl (tyX7_ok 1 (by decide)) rfl rfl (Nat.le_of_ble_eq_true rfl) dX7_init_13 (fun H locs hP hD hS => ?_)
  have hP : va_P D cls [(h0, .inr (7, [.ref q_1, .int 0, .int 0, .int 0, .int 0, .int 0, .int 0, .int 0])), (q_1, .inl (cB, 0, .inl (fun _ => 0)))] H := hP
  have hD : va_D A [(h0, .inr (7, [.ref q_1, .int 0, .int 0, .int 0, .int 0, .int 0, .int 0, .int 0])), (q_1, .inl (cB, 0, .inl (fun _ => 0)))] := hD
  refine lv_aload_n hx hb dX7_init_16 rfl (lv_at hl 0 rfl) ?_
  refine lv_iconst (v := 0) hx hb dX7_init_17 (by decide) ?_
  refine va_put (D := D) (ci := 7) (v := .int 0) (ty := tyX7 2) (C := RX7) (T := TX7) (N := 8) hx hb hts uX7 tyX7 tyX7_ok nmX7 hown hkb.1 hP hD hS 0 rfl rfl 2 (by decide) (hts _ kw_46) (fun _ h9 => h9) rfl (tyX7_ok 2 (by decide)) rfl rfl (Nat.le_of_ble_eq_true rfl) dX7_init_18 (fun H locs hP hD hS => ?_)
  have hP : va_P D cls [(h0, .inr (7, [.ref q_1, .int 0, .int 0, .int 0, .int 0, .int 0, .int 0, .int 0])), (q_1, .inl (cB, 0, .inl (fun _ => 0)))] H := hP
  have hD : va_D A [(h0, .inr (7, [.ref q_1, .int 0, .int 0, .int 0, .int 0, .int 0, .int 0, .int 0])), (q_1, .inl (cB, 0, .inl (fun _ => 0)))] := hD
  refine lv_aload_n hx hb dX7_init_21 rfl (lv_at hl 0 rfl) ?_
  refine lv_iconst (v := 0) hx hb dX7_init_22 (by decide) ?_
  refine va_put (D := D) (ci := 7) (v := .int 0) (ty := tyX7 3) (C := RX7) (T := TX7) (N := 8) hx hb hts uX7 tyX7 tyX7_ok nmX7 hown hkb.1 hP hD hS 0 rfl rfl 3 (by decide) (hts _ kw_47) (fun _ h9 => h9) rfl (tyX7_ok 3 (by decide)) rfl rfl (Nat.le_of_ble_eq_true rfl) dX7_init_23 (fun H locs hP hD hS => ?_)
  have hP : va_P D cls [(h0, .inr (7, [.ref q_1, .int 0, .int 0, .int 0, .int 0, .int 0, .int 0, .int 0])), (q_1, .inl (cB, 0, .inl (fun _ => 0)))] H := hP
  have hD : va_D A [(h0, .inr (7, [.ref q_1, .int 0, .int 0, .int 0, .int 0, .int 0, .int 0, .int 0])), (q_1, .inl (cB, 0, .inl (fun _ => 0)))] := hD
  refine lv_aload_n hx hb dX7_init_26 rfl (lv_at hl 0 rfl) ?_
  refine lv_iconst (v := 0) hx hb dX7_init_27 (by decide) ?_
  refine va_put (D := D) (ci := 7) (v := .int 0) (ty := tyX7 4) (C := RX7) (T := TX7) (N := 8) hx hb hts uX7 tyX7 tyX7_ok nmX7 hown hkb.1 hP hD hS 0 rfl rfl 4 (by decide) (hts _ kw_48) (fun _ h9 => h9) rfl (tyX7_ok 4 (by decide)) rfl rfl (Nat.le_of_ble_eq_true rfl) dX7_init_28 (fun H locs hP hD hS => ?_)
  have hP : va_P D cls [(h0, .inr (7, [.ref q_1, .int 0, .int 0, .int 0, .int 0, .int 0, .int 0, .int 0])), (q_1, .inl (cB, 0, .inl (fun _ => 0)))] H := hP
  have hD : va_D A [(h0, .inr (7, [.ref q_1, .int 0, .int 0, .int 0, .int 0, .int 0, .int 0, .int 0])), (q_1, .inl (cB, 0, .inl (fun _ => 0)))] := hD
  refine lv_aload_n hx hb dX7_init_31 rfl (lv_at hl 0 rfl) ?_
  refine lv_iconst (v := 0) hx hb dX7_init_32 (by decide) ?_
  refine va_put (D := D) (ci := 7) (v := .int 0) (ty := tyX7 5) (C := RX7) (T := TX7) (N := 8) hx hb hts uX7 tyX7 tyX7_ok nmX7 hown hkb.1 hP hD hS 0 rfl rfl 5 (by decide) (hts _ kw_51) (fun _ h9 => h9) rfl (tyX7_ok 5 (by decide)) rfl rfl (Nat.le_of_ble_eq_true rfl) dX7_init_33 (fun H locs hP hD hS => ?_)
  have hP : va_P D cls [(h0, .inr (7, [.ref q_1, .int 0, .int 0, .int 0, .int 0, .int 0, .int 0, .int 0])), (q_1, .inl (cB, 0, .inl (fun _ => 0)))] H := hP
  have hD : va_D A [(h0, .inr (7, [.ref q_1, .int 0, .int 0, .int 0, .int 0, .int 0, .int 0, .int 0])), (q_1, .inl (cB, 0, .inl (fun _ => 0)))] := hD
  refine lv_aload_n hx hb dX7_init_36 rfl (lv_at hl 0 rfl) ?_
  refine lv_iconst (v := 0) hx hb dX7_init_37 (by decide) ?_
  refine va_put (D := D) (ci := 7) (v := .int 0) (ty := tyX7 6) (C := RX7) (T := TX7) (N := 8) hx hb hts uX7 tyX7 tyX7_ok nmX7 hown hkb.1 hP hD hS 0 rfl rfl 6 (by decide) (hts _ kw_54) (fun _ h9 => h9) rfl (tyX7_ok 6 (by decide)) rfl rfl (Nat.le_of_ble_eq_true rfl) dX7_init_38 (fun H locs hP hD hS => ?_)
  have hP : va_P D cls [(h0, .inr (7, [.ref q_1, .int 0, .int 0, .int 0, .int 0, .int 0, .int 0, .int 0])), (q_1, .inl (cB, 0, .inl (fun _ => 0)))] H := hP
  have hD : va_D A [(h0, .inr (7, [.ref q_1, .int 0, .int 0, .int 0, .int 0, .int 0, .int 0, .int 0])), (q_1, .inl (cB, 0, .inl (fun _ => 0)))] := hD
  refine lv_aload_n hx hb dX7_init_41 rfl (lv_at hl 0 rfl) ?_
  refine lv_iconst (v := (-1)) hx hb dX7_init_42 (by decide) ?_
  refine va_put (D := D) (ci := 7) (v := .int (-1)) (ty := tyX7 7) (C := RX7) (T := TX7) (N := 8) hx hb hts uX7 tyX7 tyX7_ok nmX7 hown hkb.1 hP hD hS 0 rfl rfl 7 (by decide) (hts _ kw_56) (fun _ h9 => h9) rfl (tyX7_ok 7 (by decide)) rfl rfl (Nat.le_of_ble_eq_true rfl) dX7_init_43 (fun H locs hP hD hS => ?_)
  have hP : va_P D cls [(h0, .inr (7, [.ref q_1, .int 0, .int 0, .int 0, .int 0, .int 0, .int 0, .int (-1)])), (q_1, .inl (cB, 0, .inl (fun _ => 0)))] H := hP
  have hD : va_D A [(h0, .inr (7, [.ref q_1, .int 0, .int 0, .int 0, .int 0, .int 0, .int 0, .int (-1)])), (q_1, .inl (cB, 0, .inl (fun _ => 0)))] := hD
  refine W.widen (k := 1) (n := 0) (Nat.le_of_ble_eq_true rfl) (Nat.le_of_ble_eq_true rfl) ?_
  exact e_v (u := [(h0, .inr (7, [.ref q_1, .int 0, .int 0, .int 0, .int 0, .int 0, .int 0, .int (-1)])), (q_1, .inl (cB, 0, .inl (fun _ => 0)))]) hx hb hr hlocks (hP.sub (ws' := [(h0, .inr (7, [.ref q_1, .int 0, .int 0, .int 0, .int 0, .int 0, .int 0, .int (-1)])), (q_1, .inl (cB, 0, .inl (fun _ => 0)))]) [0, 1] rfl) (hD.sub (ws' := [(h0, .inr (7, [.ref q_1, .int 0, .int 0, .int 0, .int 0, .int 0, .int 0, .int (-1)])), (q_1, .inl (cB, 0, .inl (fun _ => 0)))]) [0, 1] (by decide) rfl) hS ⟨q_1, rfl⟩ dX7_init_46
set_option maxHeartbeats 4000000 in
set_option maxRecDepth 100000 in
theorem c_LawReader_init (l : Launch) (D : va_G) (cB cI cJ cZ cS cW cT cR : ClassId) (h0 : Nat) (tk : Nat) : Kon l D (tyl cB cI cJ cZ cS cW cT cR) yX3_init cX3_init 2 none { frames := 1, cells := 1, slots := 900, locals := 12 } [.ref h0, .ref tk] [(h0, .inr (3, [.null, .null, .int 0]))] (Qv D (fun u => ∃ (q_1 : Nat), u = [(h0, .inr (3, [.ref tk, .ref q_1, .int 0])), (q_1, .inl (cI, 900, .inl (fun _ => 0)))])) := by
  refine kon_of (by decide) (Nat.le_of_ble_eq_true rfl) (fun p e s m below meth c ls A hx hb hr hml hown hts hlocks hnm hkb hP hD hS hA hl => ?_)
  have hown : s.vm.findClass RX3 = some m.cls := hown
  have hl : lv_has ls 2 [(0, .ref h0), (1, .ref tk)] := hl
  have hP : va_P D cls [(h0, .inr (3, [.null, .null, .int 0]))] s.heap := hP
  refine lv_aload_n hx hb dX3_init_0 rfl (lv_at hl 0 rfl) ?_
  refine W.objInit hx hb hown (hts _ kw_81) (hts _ kw_30) (hts _ kw_31) rfl (by rw [hml]; exact hl.1) rfl dX3_init_1 (Nat.le_of_ble_eq_true rfl) (Nat.le_of_ble_eq_true rfl) ?_
  refine W.eq (g2 := F0 m 4 ls []) rfl ?_
  refine lv_aload_n hx hb dX3_init_4 rfl (lv_at hl 0 rfl) ?_
  refine lv_sipush (v := 900) hx hb dX3_init_5 (by decide) ?_
  refine n_a (atype := .int) (t := .int) (a0 := (900, .inl (fun _ => 0))) 1 rfl (fun _ _ h => h) hx hb (hts _ kw_92) rfl hkb.1 hP hD hS hA (fun _ => rfl) (by decide) (by decide +kernel) (by decide) (Nat.le_of_ble_eq_true rfl) (Nat.le_of_ble_eq_true rfl) dX3_init_8 (fun q_1 H hP hD hS => ?_)
  have hP : va_P D cls [(h0, .inr (3, [.null, .null, .int 0])), (q_1, .inl (cI, 900, .inl (fun _ => 0)))] H := hP
  have hD : va_D A [(h0, .inr (3, [.null, .null, .int 0])), (q_1, .inl (cI, 900, .inl (fun _ => 0)))] := hD
  refine W.widen (k := 1) (n := 900) (Nat.le_of_ble_eq_true rfl) (Nat.le_of_ble_eq_true rfl) ?_
  refine va_putF (D := D) (ci := 3) (v := .ref q_1) (ty := tyX3 1) (C := RX3) (T := TX3) (N := 3) hx hb hts uX3 tyX3 tyX3_ok nmX3 hown hkb.1 hP hD hS 0 rfl rfl 1 (by decide) (hts _ kw_83) (fun _ h9 => h9) rfl hnm rfl (tyX3_ok 1 (by decide)) rfl rfl (Nat.le_of_ble_eq_true rfl) dX3_init_10 (fun H locs hP hD hS => ?_)
  have hP : va_P D cls [(h0, .inr (3, [.null, .ref q_1, .int 0])), (q_1, .inl (cI, 900, .inl (fun _ => 0)))] H := hP
  have hD : va_D A [(h0, .inr (3, [.null, .ref q_1, .int 0])), (q_1, .inl (cI, 900, .inl (fun _ => 0)))] := hD
  refine lv_aload_n hx hb dX3_init_13 rfl (lv_at hl 0 rfl) ?_
  refine lv_iconst (v := 0) hx hb dX3_init_14 (by decide) ?_
  refine va_put (D := D) (ci := 3) (v := .int 0) (ty := tyX3 2) (C := RX3) (T := TX3) (N := 3) hx hb hts uX3 tyX3 tyX3_ok nmX3 hown hkb.1 hP hD hS 0 rfl rfl 2 (by decide) (hts _ kw_84) (fun _ h9 => h9) rfl (tyX3_ok 2 (by decide)) rfl rfl (Nat.le_of_ble_eq_true rfl) dX3_init_15 (fun H locs hP hD hS => ?_)
  have hP : va_P D cls [(h0, .inr (3, [.null, .ref q_1, .int 0])), (q_1, .inl (cI, 900, .inl (fun _ => 0)))] H := hP
  have hD : va_D A [(h0, .inr (3, [.null, .ref q_1, .int 0])), (q_1, .inl (cI, 900, .inl (fun _ => 0)))] := hD
  refine lv_aload_n hx hb dX3_init_18 rfl (lv_at hl 0 rfl) ?_
  refine lv_aload_n hx hb dX3_init_19 rfl (lv_at hl 1 rfl) ?_
  refine va_putF (D := D) (ci := 3) (v := .ref tk) (ty := tyX3 0) (C := RX3) (T := TX3) (N := 3) hx hb hts uX3 tyX3 tyX3_ok nmX3 hown hkb.1 hP hD hS 0 rfl rfl 0 (by decide) (hts _ kw_82) (fun _ h9 => h9) rfl hnm rfl (tyX3_ok 0 (by decide)) rfl rfl (Nat.le_of_ble_eq_true rfl) dX3_init_20 (fun H locs hP hD hS => ?_)
  have hP : va_P D cls [(h0, .inr (3, [.ref tk, .ref q_1, .int 0])), (q_1, .inl (cI, 900, .inl (fun _ => 0)))] H := hP
  have hD : va_D A [(h0, .inr (3, [.ref tk, .ref q_1, .int 0])), (q_1, .inl (cI, 900, .inl (fun _ => 0)))] := hD
  refine W.widen (k := 1) (n := 900) (Nat.le_of_ble_eq_true rfl) (Nat.le_of_ble_eq_true rfl) ?_
  exact e_v (u := [(h0, .inr (3, [.ref tk, .ref q_1, .int 0])), (q_1, .inl (cI, 900, .inl (fun _ => 0)))]) hx hb hr hlocks (hP.sub (ws' := [(h0, .inr (3, [.ref tk, .ref q_1, .int 0])), (q_1, .inl (cI, 900, .inl (fun _ => 0)))]) [0, 1] rfl) (hD.sub (ws' := [(h0, .inr (3, [.ref tk, .ref q_1, .int 0])), (q_1, .inl (cI, 900, .inl (fun _ => 0)))]) [0, 1] (by decide) rfl) hS ⟨q_1, rfl⟩ dX3_init_23
set_option maxHeartbeats 4000000 in
set_option maxRecDepth 100000 in
theorem c_Wall_init_14 (l : Launch) (D : va_G) (cB cI cJ cZ cS cW cT cR : ClassId) (h0 : Nat) : Kon l D (tyl cB cI cJ cZ cS cW cT cR) yX9_init cX9_init 4 none { frames := 1, cells := 5, slots := 52, locals := 14 } [.ref h0, .int 14, .int 5, .null] [(h0, .inr (9, [.int 0, .int 0, .int 0, .int 0, .int 0, .int 0, .null, .null, .null, .null, .null, .null, .int 0, .int 0]))] (Qv D (fun u => ∃ (q_1 : Nat), ∃ (q_2 : Nat), ∃ (q_3 : Nat), ∃ (q_4 : Nat), ∃ (q_5 : Nat), u = [(h0, .inr (9, [.int 14, .int 5, .int 0, .int 0, .int 0, .int 0, .ref q_1, .ref q_2, .ref q_3, .ref q_4, .ref q_5, .null, .int 0, .int 1])), (q_1, .inl (cI, 14, .inl (fun _ => 0))), (q_2, .inl (cI, 14, .inl (fun _ => 0))), (q_3, .inl (cI, 14, .inl (fun _ => 0))), (q_4, .inl (cI, 5, .inl (fun _ => 0))), (q_5, .inl (cI, 5, .inl (fun _ => 0)))])) := by
  refine kon_of (by decide) (Nat.le_of_ble_eq_true rfl) (fun p e s m below meth c ls A hx hb hr hml hown hts hlocks hnm hkb hP hD hS hA hl => ?_)
  have hown : s.vm.findClass RX9 = some m.cls := hown
  have hl : lv_has ls 4 [(0, .ref h0), (1, .int 14), (2, .int 5), (3, .null)] := hl
  have hP : va_P D cls [(h0, .inr (9, [.int 0, .int 0, .int 0, .int 0, .int 0, .int 0, .null, .null, .null, .null, .null, .null, .int 0, .int 0]))] s.heap := hP
  refine lv_aload_n hx hb dX9_init_0 rfl (lv_at hl 0 rfl) ?_
  refine W.objInit hx hb hown (hts _ kw_98) (hts _ kw_30) (hts _ kw_31) rfl (by rw [hml]; exact hl.1) rfl dX9_init_1 (Nat.le_of_ble_eq_true rfl) (Nat.le_of_ble_eq_true rfl) ?_
  refine W.eq (g2 := F0 m 4 ls []) rfl ?_
  refine lv_aload_n hx hb dX9_init_4 rfl (lv_at hl 0 rfl) ?_
  refine lv_iconst (v := 0) hx hb dX9_init_5 (by decide) ?_
  refine va_put (D := D) (ci := 9) (v := .int 0) (ty := tyX9 2) (C := RX9) (T := TX9) (N := 14) hx hb hts uX9 tyX9 tyX9_ok nmX9 hown hkb.1 hP hD hS 0 rfl rfl 2 (by decide) (hts _ kw_113) (fun _ h9 => h9) rfl (tyX9_ok 2 (by decide)) rfl rfl (Nat.le_of_ble_eq_true rfl) dX9_init_6 (fun H locs hP hD hS => ?_)
  have hP : va_P D cls [(h0, .inr (9, [.int 0, .int 0, .int 0, .int 0, .int 0, .int 0, .null, .null, .null, .null, .null, .null, .int 0, .int 0]))] H := hP
  have hD : va_D A [(h0, .inr (9, [.int 0, .int 0, .int 0, .int 0, .int 0, .int 0, .null, .null, .null, .null, .null, .null, .int 0, .int 0]))] := hD
  refine lv_aload_n hx hb dX9_init_9 rfl (lv_at hl 0 rfl) ?_
  refine lv_iconst (v := 0) hx hb dX9_init_10 (by decide) ?_
  refine va_put (D := D) (ci := 9) (v := .int 0) (ty := tyX9 3) (C := RX9) (T := TX9) (N := 14) hx hb hts uX9 tyX9 tyX9_ok nmX9 hown hkb.1 hP hD hS 0 rfl rfl 3 (by decide) (hts _ kw_116) (fun _ h9 => h9) rfl (tyX9_ok 3 (by decide)) rfl rfl (Nat.le_of_ble_eq_true rfl) dX9_init_11 (fun H locs hP hD hS => ?_)
  have hP : va_P D cls [(h0, .inr (9, [.int 0, .int 0, .int 0, .int 0, .int 0, .int 0, .null, .null, .null, .null, .null, .null, .int 0, .int 0]))] H := hP
  have hD : va_D A [(h0, .inr (9, [.int 0, .int 0, .int 0, .int 0, .int 0, .int 0, .null, .null, .null, .null, .null, .null, .int 0, .int 0]))] := hD
  refine lv_aload_n hx hb dX9_init_14 rfl (lv_at hl 0 rfl) ?_
  refine lv_iconst (v := 0) hx hb dX9_init_15 (by decide) ?_
  refine va_put (D := D) (ci := 9) (v := .int 0) (ty := tyX9 4) (C := RX9) (T := TX9) (N := 14) hx hb hts uX9 tyX9 tyX9_ok nmX9 hown hkb.1 hP hD hS 0 rfl rfl 4 (by decide) (hts _ kw_123) (fun _ h9 => h9) rfl (tyX9_ok 4 (by decide)) rfl rfl (Nat.le_of_ble_eq_true rfl) dX9_init_16 (fun H locs hP hD hS => ?_)
  have hP : va_P D cls [(h0, .inr (9, [.int 0, .int 0, .int 0, .int 0, .int 0, .int 0, .null, .null, .null, .null, .null, .null, .int 0, .int 0]))] H := hP
  have hD : va_D A [(h0, .inr (9, [.int 0, .int 0, .int 0, .int 0, .int 0, .int 0, .null, .null, .null, .null, .null, .null, .int 0, .int 0]))] := hD
  refine lv_aload_n hx hb dX9_init_19 rfl (lv_at hl 0 rfl) ?_
  refine lv_iconst (v := 0) hx hb dX9_init_20 (by decide) ?_
  refine va_put (D := D) (ci := 9) (v := .int 0) (ty := tyX9 5) (C := RX9) (T := TX9) (N := 14) hx hb hts uX9 tyX9 tyX9_ok nmX9 hown hkb.1 hP hD hS 0 rfl rfl 5 (by decide) (hts _ kw_130) (fun _ h9 => h9) rfl (tyX9_ok 5 (by decide)) rfl rfl (Nat.le_of_ble_eq_true rfl) dX9_init_21 (fun H locs hP hD hS => ?_)
  have hP : va_P D cls [(h0, .inr (9, [.int 0, .int 0, .int 0, .int 0, .int 0, .int 0, .null, .null, .null, .null, .null, .null, .int 0, .int 0]))] H := hP
  have hD : va_D A [(h0, .inr (9, [.int 0, .int 0, .int 0, .int 0, .int 0, .int 0, .null, .null, .null, .null, .null, .null, .int 0, .int 0]))] := hD
  refine lv_aload_n hx hb dX9_init_24 rfl (lv_at hl 0 rfl) ?_
  refine lv_iconst (v := 0) hx hb dX9_init_25 (by decide) ?_
  refine lv_iload_n hx hb dX9_init_26 rfl (lv_at hl 1 rfl) ?_
  refine va_mmax hx hb (by rw [hml]; exact hl.1.symm) hown (hts _ kw_99) (hts _ kw_100) (hts _ kw_6) (hts _ kw_101) (Nat.le_of_ble_eq_true rfl) (Nat.le_of_ble_eq_true rfl) (Nat.le_of_ble_eq_true rfl) (Nat.le_of_ble_eq_true rfl) dX9_init_27 ?_
  refine lv_topc (y := 14) (by decide +kernel) ?_
  refine va_put (D := D) (ci := 9) (v := .int 14) (ty := tyX9 0) (C := RX9) (T := TX9) (N := 14) hx hb hts uX9 tyX9 tyX9_ok nmX9 hown hkb.1 hP hD hS 0 rfl rfl 0 (by decide) (hts _ kw_106) (fun _ h9 => h9) rfl (tyX9_ok 0 (by decide)) rfl rfl (Nat.le_of_ble_eq_true rfl) dX9_init_30 (fun H locs hP hD hS => ?_)
  have hP : va_P D cls [(h0, .inr (9, [.int 14, .int 0, .int 0, .int 0, .int 0, .int 0, .null, .null, .null, .null, .null, .null, .int 0, .int 0]))] H := hP
  have hD : va_D A [(h0, .inr (9, [.int 14, .int 0, .int 0, .int 0, .int 0, .int 0, .null, .null, .null, .null, .null, .null, .int 0, .int 0]))] := hD
  refine lv_aload_n hx hb dX9_init_33 rfl (lv_at hl 0 rfl) ?_
  refine lv_iconst (v := 0) hx hb dX9_init_34 (by decide) ?_
  refine lv_iload_n hx hb dX9_init_35 rfl (lv_at hl 2 rfl) ?_
  refine va_mmax hx hb (by rw [hml]; exact hl.1.symm) hown (hts _ kw_99) (hts _ kw_100) (hts _ kw_6) (hts _ kw_101) (Nat.le_of_ble_eq_true rfl) (Nat.le_of_ble_eq_true rfl) (Nat.le_of_ble_eq_true rfl) (Nat.le_of_ble_eq_true rfl) dX9_init_36 ?_
  refine lv_topc (y := 5) (by decide +kernel) ?_
  refine va_put (D := D) (ci := 9) (v := .int 5) (ty := tyX9 1) (C := RX9) (T := TX9) (N := 14) hx hb hts uX9 tyX9 tyX9_ok nmX9 hown hkb.1 hP hD hS 0 rfl rfl 1 (by decide) (hts _ kw_110) (fun _ h9 => h9) rfl (tyX9_ok 1 (by decide)) rfl rfl (Nat.le_of_ble_eq_true rfl) dX9_init_39 (fun H locs hP hD hS => ?_)
  have hP : va_P D cls [(h0, .inr (9, [.int 14, .int 5, .int 0, .int 0, .int 0, .int 0, .null, .null, .null, .null, .null, .null, .int 0, .int 0]))] H := hP
  have hD : va_D A [(h0, .inr (9, [.int 14, .int 5, .int 0, .int 0, .int 0, .int 0, .null, .null, .null, .null, .null, .null, .int 0, .int 0]))] := hD
  refine lv_aload_n hx hb dX9_init_42 rfl (lv_at hl 0 rfl) ?_
  refine lv_aload_n hx hb dX9_init_43 rfl (lv_at hl 0 rfl) ?_
  refine va_get (D := D) (ci := 9) (v := .int 14) (C := RX9) (T := TX9) (N := 14) hx hb hts uX9 hown hkb.1 hP 0 rfl rfl 0 (by decide) (hts _ kw_106) (fun _ h9 => h9) rfl dX9_init_44 ?_
  refine n_a (atype := .int) (t := .int) (a0 := (14, .inl (fun _ => 0))) 1 rfl (fun _ _ h => h) hx hb (hts _ kw_92) rfl hkb.1 hP hD hS hA (fun _ => rfl) (by decide) (by decide +kernel) (by decide) (Nat.le_of_ble_eq_true rfl) (Nat.le_of_ble_eq_true rfl) dX9_init_47 (fun q_1 H hP hD hS => ?_)
  have hP : va_P D cls [(h0, .inr (9, [.int 14, .int 5, .int 0, .int 0, .int 0, .int 0, .null, .null, .null, .null, .null, .null, .int 0, .int 0])), (q_1, .inl (cI, 14, .inl (fun _ => 0)))] H := hP
  have hD : va_D A [(h0, .inr (9, [.int 14, .int 5, .int 0, .int 0, .int 0, .int 0, .null, .null, .null, .null, .null, .null, .int 0, .int 0])), (q_1, .inl (cI, 14, .inl (fun _ => 0)))] := hD
  refine W.widen (k := 1) (n := 14) (Nat.le_of_ble_eq_true rfl) (Nat.le_of_ble_eq_true rfl) ?_
  refine va_putF (D := D) (ci := 9) (v := .ref q_1) (ty := tyX9 6) (C := RX9) (T := TX9) (N := 14) hx hb hts uX9 tyX9 tyX9_ok nmX9 hown hkb.1 hP hD hS 0 rfl rfl 6 (by decide) (hts _ kw_132) (fun _ h9 => h9) rfl hnm rfl (tyX9_ok 6 (by decide)) rfl rfl (Nat.le_of_ble_eq_true rfl) dX9_init_49 (fun H locs hP hD hS => ?_)
  have hP : va_P D cls [(h0, .inr (9, [.int 14, .int 5, .int 0, .int 0, .int 0, .int 0, .ref q_1, .null, .null, .null, .null, .null, .int 0, .int 0])), (q_1, .inl (cI, 14, .inl (fun _ => 0)))] H := hP
  have hD : va_D A [(h0, .inr (9, [.int 14, .int 5, .int 0, .int 0, .int 0, .int 0, .ref q_1, .null, .null, .null, .null, .null, .int 0, .int 0])), (q_1, .inl (cI, 14, .inl (fun _ => 0)))] := hD
  refine lv_aload_n hx hb dX9_init_52 rfl (lv_at hl 0 rfl) ?_
  refine lv_aload_n hx hb dX9_init_53 rfl (lv_at hl 0 rfl) ?_
  refine va_get (D := D) (ci := 9) (v := .int 14) (C := RX9) (T := TX9) (N := 14) hx hb hts uX9 hown hkb.1 hP 0 rfl rfl 0 (by decide) (hts _ kw_106) (fun _ h9 => h9) rfl dX9_init_54 ?_
  refine n_a (atype := .int) (t := .int) (a0 := (14, .inl (fun _ => 0))) 1 rfl (fun _ _ h => h) hx hb (hts _ kw_92) rfl hkb.1 hP hD hS hA (fun _ => rfl) (by decide) (by decide +kernel) (by decide) (Nat.le_of_ble_eq_true rfl) (Nat.le_of_ble_eq_true rfl) dX9_init_57 (fun q_2 H hP hD hS => ?_)
  have hP : va_P D cls [(h0, .inr (9, [.int 14, .int 5, .int 0, .int 0, .int 0, .int 0, .ref q_1, .null, .null, .null, .null, .null, .int 0, .int 0])), (q_1, .inl (cI, 14, .inl (fun _ => 0))), (q_2, .inl (cI, 14, .inl (fun _ => 0)))] H := hP
  have hD : va_D A [(h0, .inr (9, [.int 14, .int 5, .int 0, .int 0, .int 0, .int 0, .ref q_1, .null, .null, .null, .null, .null, .int 0, .int 0])), (q_1, .inl (cI, 14, .inl (fun _ => 0))), (q_2, .inl (cI, 14, .inl (fun _ => 0)))] := hD
  refine W.widen (k := 2) (n := 28) (Nat.le_of_ble_eq_true rfl) (Nat.le_of_ble_eq_true rfl) ?_
  refine va_putF (D := D) (ci := 9) (v := .ref q_2) (ty := tyX9 7) (C := RX9) (T := TX9) (N := 14) hx hb hts uX9 tyX9 tyX9_ok nmX9 hown hkb.1 hP hD hS 0 rfl rfl 7 (by decide) (hts _ kw_135) (fun _ h9 => h9) rfl hnm rfl (tyX9_ok 7 (by decide)) rfl rfl (Nat.le_of_ble_eq_true rfl) dX9_init_59 (fun H locs hP hD hS => ?_)
  have hP : va_P D cls [(h0, .inr (9, [.int 14, .int 5, .int 0, .int 0, .int 0, .int 0, .ref q_1, .ref q_2, .null, .null, .null, .null, .int 0, .int 0])), (q_1, .inl (cI, 14, .inl (fun _ => 0))), (q_2, .inl (cI, 14, .inl (fun _ => 0)))] H := hP
  have hD : va_D A [(h0, .inr (9, [.int 14, .int 5, .int 0, .int 0, .int 0, .int 0, .ref q_1, .ref q_2, .null, .null, .null, .null, .int 0, .int 0])), (q_1, .inl (cI, 14, .inl (fun _ => 0))), (q_2, .inl (cI, 14, .inl (fun _ => 0)))] := hD
  refine lv_aload_n hx hb dX9_init_62 rfl (lv_at hl 0 rfl) ?_
  refine lv_aload_n hx hb dX9_init_63 rfl (lv_at hl 0 rfl) ?_
  refine va_get (D := D) (ci := 9) (v := .int 14) (C := RX9) (T := TX9) (N := 14) hx hb hts uX9 hown hkb.1 hP 0 rfl rfl 0 (by decide) (hts _ kw_106) (fun _ h9 => h9) rfl dX9_init_64 ?_
  refine n_a (atype := .int) (t := .int) (a0 := (14, .inl (fun _ => 0))) 1 rfl (fun _ _ h => h) hx hb (hts _ kw_92) rfl hkb.1 hP hD hS hA (fun _ => rfl) (by decide) (by decide +kernel) (by decide) (Nat.le_of_ble_eq_true rfl) (Nat.le_of_ble_eq_true rfl) dX9_init_67 (fun q_3 H hP hD hS => ?_)
  have hP : va_P D cls [(h0, .inr (9, [.int 14, .int 5, .int 0, .int 0, .int 0, .int 0, .ref q_1, .ref q_2, .null, .null, .null, .null, .int 0, .int 0])), (q_1, .inl (cI, 14, .inl (fun _ => 0))), (q_2, .inl (cI, 14, .inl (fun _ => 0))), (q_3, .inl (cI, 14, .inl (fun _ => 0)))] H := hP
  have hD : va_D A [(h0, .inr (9, [.int 14, .int 5, .int 0, .int 0, .int 0, .int 0, .ref q_1, .ref q_2, .null, .null, .null, .null, .int 0, .int 0])), (q_1, .inl (cI, 14, .inl (fun _ => 0))), (q_2, .inl (cI, 14, .inl (fun _ => 0))), (q_3, .inl (cI, 14, .inl (fun _ => 0)))] := hD
  refine W.widen (k := 3) (n := 42) (Nat.le_of_ble_eq_true rfl) (Nat.le_of_ble_eq_true rfl) ?_
  refine va_putF (D := D) (ci := 9) (v := .ref q_3) (ty := tyX9 8) (C := RX9) (T := TX9) (N := 14) hx hb hts uX9 tyX9 tyX9_ok nmX9 hown hkb.1 hP hD hS 0 rfl rfl 8 (by decide) (hts _ kw_138) (fun _ h9 => h9) rfl hnm rfl (tyX9_ok 8 (by decide)) rfl rfl (Nat.le_of_ble_eq_true rfl) dX9_init_69 (fun H locs hP hD hS => ?_)
  have hP : va_P D cls [(h0, .inr (9, [.int 14, .int 5, .int 0, .int 0, .int 0, .int 0, .ref q_1, .ref q_2, .ref q_3, .null, .null, .null, .int 0, .int 0])), (q_1, .inl (cI, 14, .inl (fun _ => 0))), (q_2, .inl (cI, 14, .inl (fun _ => 0))), (q_3, .inl (cI, 14, .inl (fun _ => 0)))] H := hP
  have hD : va_D A [(h0, .inr (9, [.int 14, .int 5, .int 0, .int 0, .int 0, .int 0, .ref q_1, .ref q_2, .ref q_3, .null, .null, .null, .int 0, .int 0])), (q_1, .inl (cI, 14, .inl (fun _ => 0))), (q_2, .inl (cI, 14, .inl (fun _ => 0))), (q_3, .inl (cI, 14, .inl (fun _ => 0)))] := hD
  refine lv_aload_n hx hb dX9_init_72 rfl (lv_at hl 0 rfl) ?_
  refine lv_aload_n hx hb dX9_init_73 rfl (lv_at hl 0 rfl) ?_
  refine va_get (D := D) (ci := 9) (v := .int 5) (C := RX9) (T := TX9) (N := 14) hx hb hts uX9 hown hkb.1 hP 0 rfl rfl 1 (by decide) (hts _ kw_110) (fun _ h9 => h9) rfl dX9_init_74 ?_
  refine n_a (atype := .int) (t := .int) (a0 := (5, .inl (fun _ => 0))) 1 rfl (fun _ _ h => h) hx hb (hts _ kw_92) rfl hkb.1 hP hD hS hA (fun _ => rfl) (by decide) (by decide +kernel) (by decide) (Nat.le_of_ble_eq_true rfl) (Nat.le_of_ble_eq_true rfl) dX9_init_77 (fun q_4 H hP hD hS => ?_)
  have hP : va_P D cls [(h0, .inr (9, [.int 14, .int 5, .int 0, .int 0, .int 0, .int 0, .ref q_1, .ref q_2, .ref q_3, .null, .null, .null, .int 0, .int 0])), (q_1, .inl (cI, 14, .inl (fun _ => 0))), (q_2, .inl (cI, 14, .inl (fun _ => 0))), (q_3, .inl (cI, 14, .inl (fun _ => 0))), (q_4, .inl (cI, 5, .inl (fun _ => 0)))] H := hP
  have hD : va_D A [(h0, .inr (9, [.int 14, .int 5, .int 0, .int 0, .int 0, .int 0, .ref q_1, .ref q_2, .ref q_3, .null, .null, .null, .int 0, .int 0])), (q_1, .inl (cI, 14, .inl (fun _ => 0))), (q_2, .inl (cI, 14, .inl (fun _ => 0))), (q_3, .inl (cI, 14, .inl (fun _ => 0))), (q_4, .inl (cI, 5, .inl (fun _ => 0)))] := hD
  refine W.widen (k := 4) (n := 47) (Nat.le_of_ble_eq_true rfl) (Nat.le_of_ble_eq_true rfl) ?_
  refine va_putF (D := D) (ci := 9) (v := .ref q_4) (ty := tyX9 9) (C := RX9) (T := TX9) (N := 14) hx hb hts uX9 tyX9 tyX9_ok nmX9 hown hkb.1 hP hD hS 0 rfl rfl 9 (by decide) (hts _ kw_141) (fun _ h9 => h9) rfl hnm rfl (tyX9_ok 9 (by decide)) rfl rfl (Nat.le_of_ble_eq_true rfl) dX9_init_79 (fun H locs hP hD hS => ?_)
  have hP : va_P D cls [(h0, .inr (9, [.int 14, .int 5, .int 0, .int 0, .int 0, .int 0, .ref q_1, .ref q_2, .ref q_3, .ref q_4, .null, .null, .int 0, .int 0])), (q_1, .inl (cI, 14, .inl (fun _ => 0))), (q_2, .inl (cI, 14, .inl (fun _ => 0))), (q_3, .inl (cI, 14, .inl (fun _ => 0))), (q_4, .inl (cI, 5, .inl (fun _ => 0)))] H := hP
  have hD : va_D A [(h0, .inr (9, [.int 14, .int 5, .int 0, .int 0, .int 0, .int 0, .ref q_1, .ref q_2, .ref q_3, .ref q_4, .null, .null, .int 0, .int 0])), (q_1, .inl (cI, 14, .inl (fun _ => 0))), (q_2, .inl (cI, 14, .inl (fun _ => 0))), (q_3, .inl (cI, 14, .inl (fun _ => 0))), (q_4, .inl (cI, 5, .inl (fun _ => 0)))] := hD
  refine lv_aload_n hx hb dX9_init_82 rfl (lv_at hl 0 rfl) ?_
  refine lv_aload_n hx hb dX9_init_83 rfl (lv_at hl 0 rfl) ?_
  refine va_get (D := D) (ci := 9) (v := .int 5) (C := RX9) (T := TX9) (N := 14) hx hb hts uX9 hown hkb.1 hP 0 rfl rfl 1 (by decide) (hts _ kw_110) (fun _ h9 => h9) rfl dX9_init_84 ?_
  refine n_a (atype := .int) (t := .int) (a0 := (5, .inl (fun _ => 0))) 1 rfl (fun _ _ h => h) hx hb (hts _ kw_92) rfl hkb.1 hP hD hS hA (fun _ => rfl) (by decide) (by decide +kernel) (by decide) (Nat.le_of_ble_eq_true rfl) (Nat.le_of_ble_eq_true rfl) dX9_init_87 (fun q_5 H hP hD hS => ?_)
  have hP : va_P D cls [(h0, .inr (9, [.int 14, .int 5, .int 0, .int 0, .int 0, .int 0, .ref q_1, .ref q_2, .ref q_3, .ref q_4, .null, .null, .int 0, .int 0])), (q_1, .inl (cI, 14, .inl (fun _ => 0))), (q_2, .inl (cI, 14, .inl (fun _ => 0))), (q_3, .inl (cI, 14, .inl (fun _ => 0))), (q_4, .inl (cI, 5, .inl (fun _ => 0))), (q_5, .inl (cI, 5, .inl (fun _ => 0)))] H := hP
  have hD : va_D A [(h0, .inr (9, [.int 14, .int 5, .int 0, .int 0, .int 0, .int 0, .ref q_1, .ref q_2, .ref q_3, .ref q_4, .null, .null, .int 0, .int 0])), (q_1, .inl (cI, 14, .inl (fun _ => 0))), (q_2, .inl (cI, 14, .inl (fun _ => 0))), (q_3, .inl (cI, 14, .inl (fun _ => 0))), (q_4, .inl (cI, 5, .inl (fun _ => 0))), (q_5, .inl (cI, 5, .inl (fun _ => 0)))] := hD
  refine W.widen (k := 5) (n := 52) (Nat.le_of_ble_eq_true rfl) (Nat.le_of_ble_eq_true rfl) ?_
  refine va_putF (D := D) (ci := 9) (v := .ref q_5) (ty := tyX9 10) (C := RX9) (T := TX9) (N := 14) hx hb hts uX9 tyX9 tyX9_ok nmX9 hown hkb.1 hP hD hS 0 rfl rfl 10 (by decide) (hts _ kw_144) (fun _ h9 => h9) rfl hnm rfl (tyX9_ok 10 (by decide)) rfl rfl (Nat.le_of_ble_eq_true rfl) dX9_init_89 (fun H locs hP hD hS => ?_)
  have hP : va_P D cls [(h0, .inr (9, [.int 14, .int 5, .int 0, .int 0, .int 0, .int 0, .ref q_1, .ref q_2, .ref q_3, .ref q_4, .ref q_5, .null, .int 0, .int 0])), (q_1, .inl (cI, 14, .inl (fun _ => 0))), (q_2, .inl (cI, 14, .inl (fun _ => 0))), (q_3, .inl (cI, 14, .inl (fun _ => 0))), (q_4, .inl (cI, 5, .inl (fun _ => 0))), (q_5, .inl (cI, 5, .inl (fun _ => 0)))] H := hP
  have hD : va_D A [(h0, .inr (9, [.int 14, .int 5, .int 0, .int 0, .int 0, .int 0, .ref q_1, .ref q_2, .ref q_3, .ref q_4, .ref q_5, .null, .int 0, .int 0])), (q_1, .inl (cI, 14, .inl (fun _ => 0))), (q_2, .inl (cI, 14, .inl (fun _ => 0))), (q_3, .inl (cI, 14, .inl (fun _ => 0))), (q_4, .inl (cI, 5, .inl (fun _ => 0))), (q_5, .inl (cI, 5, .inl (fun _ => 0)))] := hD
  refine lv_aload_n hx hb dX9_init_92 rfl (lv_at hl 0 rfl) ?_
  refine lv_aload_nN hx hb dX9_init_93 rfl (lv_at hl 3 rfl) ?_
  refine va_putF (D := D) (ci := 9) (v := .null) (ty := tyX9 11) (C := RX9) (T := TX9) (N := 14) hx hb hts uX9 tyX9 tyX9_ok nmX9 hown hkb.1 hP hD hS 0 rfl rfl 11 (by decide) (hts _ kw_147) (fun _ h9 => h9) rfl hnm rfl (tyX9_ok 11 (by decide)) rfl rfl (Nat.le_of_ble_eq_true rfl) dX9_init_94 (fun H locs hP hD hS => ?_)
  have hP : va_P D cls [(h0, .inr (9, [.int 14, .int 5, .int 0, .int 0, .int 0, .int 0, .ref q_1, .ref q_2, .ref q_3, .ref q_4, .ref q_5, .null, .int 0, .int 0])), (q_1, .inl (cI, 14, .inl (fun _ => 0))), (q_2, .inl (cI, 14, .inl (fun _ => 0))), (q_3, .inl (cI, 14, .inl (fun _ => 0))), (q_4, .inl (cI, 5, .inl (fun _ => 0))), (q_5, .inl (cI, 5, .inl (fun _ => 0)))] H := hP
  have hD : va_D A [(h0, .inr (9, [.int 14, .int 5, .int 0, .int 0, .int 0, .int 0, .ref q_1, .ref q_2, .ref q_3, .ref q_4, .ref q_5, .null, .int 0, .int 0])), (q_1, .inl (cI, 14, .inl (fun _ => 0))), (q_2, .inl (cI, 14, .inl (fun _ => 0))), (q_3, .inl (cI, 14, .inl (fun _ => 0))), (q_4, .inl (cI, 5, .inl (fun _ => 0))), (q_5, .inl (cI, 5, .inl (fun _ => 0)))] := hD
  refine lv_aload_n hx hb dX9_init_97 rfl (lv_at hl 0 rfl) ?_
  refine lv_aload_nN hx hb dX9_init_98 rfl (lv_at hl 3 rfl) ?_
  refine lv_ifnullN (tgt := 115) hx hb dX9_init_99 (by decide) ?_
  refine lv_iconst (v := 0) hx hb dX9_init_115 (by decide) ?_
  refine va_putF (D := D) (ci := 9) (v := .int 0) (ty := tyX9 12) (C := RX9) (T := TX9) (N := 14) hx hb hts uX9 tyX9 tyX9_ok nmX9 hown hkb.1 hP hD hS 0 rfl rfl 12 (by decide) (hts _ kw_148) (fun _ h9 => h9) rfl hnm rfl (tyX9_ok 12 (by decide)) rfl rfl (Nat.le_of_ble_eq_true rfl) dX9_init_116 (fun H locs hP hD hS => ?_)
  have hP : va_P D cls [(h0, .inr (9, [.int 14, .int 5, .int 0, .int 0, .int 0, .int 0, .ref q_1, .ref q_2, .ref q_3, .ref q_4, .ref q_5, .null, .int 0, .int 0])), (q_1, .inl (cI, 14, .inl (fun _ => 0))), (q_2, .inl (cI, 14, .inl (fun _ => 0))), (q_3, .inl (cI, 14, .inl (fun _ => 0))), (q_4, .inl (cI, 5, .inl (fun _ => 0))), (q_5, .inl (cI, 5, .inl (fun _ => 0)))] H := hP
  have hD : va_D A [(h0, .inr (9, [.int 14, .int 5, .int 0, .int 0, .int 0, .int 0, .ref q_1, .ref q_2, .ref q_3, .ref q_4, .ref q_5, .null, .int 0, .int 0])), (q_1, .inl (cI, 14, .inl (fun _ => 0))), (q_2, .inl (cI, 14, .inl (fun _ => 0))), (q_3, .inl (cI, 14, .inl (fun _ => 0))), (q_4, .inl (cI, 5, .inl (fun _ => 0))), (q_5, .inl (cI, 5, .inl (fun _ => 0)))] := hD
  refine lv_aload_n hx hb dX9_init_119 rfl (lv_at hl 0 rfl) ?_
  refine lv_aload_nN hx hb dX9_init_120 rfl (lv_at hl 3 rfl) ?_
  refine lv_ifnullN (tgt := 132) hx hb dX9_init_121 (by decide) ?_
  refine lv_iconst (v := 1) hx hb dX9_init_132 (by decide) ?_
  refine lv_goto (tgt := 137) hx hb dX9_init_133 (by decide) ?_
  refine va_putF (D := D) (ci := 9) (v := .int 1) (ty := tyX9 13) (C := RX9) (T := TX9) (N := 14) hx hb hts uX9 tyX9 tyX9_ok nmX9 hown hkb.1 hP hD hS 0 rfl rfl 13 (by decide) (hts _ kw_149) (fun _ h9 => h9) rfl hnm rfl (tyX9_ok 13 (by decide)) rfl rfl (Nat.le_of_ble_eq_true rfl) dX9_init_137 (fun H locs hP hD hS => ?_)
  have hP : va_P D cls [(h0, .inr (9, [.int 14, .int 5, .int 0, .int 0, .int 0, .int 0, .ref q_1, .ref q_2, .ref q_3, .ref q_4, .ref q_5, .null, .int 0, .int 1])), (q_1, .inl (cI, 14, .inl (fun _ => 0))), (q_2, .inl (cI, 14, .inl (fun _ => 0))), (q_3, .inl (cI, 14, .inl (fun _ => 0))), (q_4, .inl (cI, 5, .inl (fun _ => 0))), (q_5, .inl (cI, 5, .inl (fun _ => 0)))] H := hP
  have hD : va_D A [(h0, .inr (9, [.int 14, .int 5, .int 0, .int 0, .int 0, .int 0, .ref q_1, .ref q_2, .ref q_3, .ref q_4, .ref q_5, .null, .int 0, .int 1])), (q_1, .inl (cI, 14, .inl (fun _ => 0))), (q_2, .inl (cI, 14, .inl (fun _ => 0))), (q_3, .inl (cI, 14, .inl (fun _ => 0))), (q_4, .inl (cI, 5, .inl (fun _ => 0))), (q_5, .inl (cI, 5, .inl (fun _ => 0)))] := hD
  refine W.widen (k := 5) (n := 52) (Nat.le_of_ble_eq_true rfl) (Nat.le_of_ble_eq_true rfl) ?_
  exact e_v (u := [(h0, .inr (9, [.int 14, .int 5, .int 0, .int 0, .int 0, .int 0, .ref q_1, .ref q_2, .ref q_3, .ref q_4, .ref q_5, .null, .int 0, .int 1])), (q_1, .inl (cI, 14, .inl (fun _ => 0))), (q_2, .inl (cI, 14, .inl (fun _ => 0))), (q_3, .inl (cI, 14, .inl (fun _ => 0))), (q_4, .inl (cI, 5, .inl (fun _ => 0))), (q_5, .inl (cI, 5, .inl (fun _ => 0)))]) hx hb hr hlocks (hP.sub (ws' := [(h0, .inr (9, [.int 14, .int 5, .int 0, .int 0, .int 0, .int 0, .ref q_1, .ref q_2, .ref q_3, .ref q_4, .ref q_5, .null, .int 0, .int 1])), (q_1, .inl (cI, 14, .inl (fun _ => 0))), (q_2, .inl (cI, 14, .inl (fun _ => 0))), (q_3, .inl (cI, 14, .inl (fun _ => 0))), (q_4, .inl (cI, 5, .inl (fun _ => 0))), (q_5, .inl (cI, 5, .inl (fun _ => 0)))]) [0, 1, 2, 3, 4, 5] rfl) (hD.sub (ws' := [(h0, .inr (9, [.int 14, .int 5, .int 0, .int 0, .int 0, .int 0, .ref q_1, .ref q_2, .ref q_3, .ref q_4, .ref q_5, .null, .int 0, .int 1])), (q_1, .inl (cI, 14, .inl (fun _ => 0))), (q_2, .inl (cI, 14, .inl (fun _ => 0))), (q_3, .inl (cI, 14, .inl (fun _ => 0))), (q_4, .inl (cI, 5, .inl (fun _ => 0))), (q_5, .inl (cI, 5, .inl (fun _ => 0)))]) [0, 1, 2, 3, 4, 5] (by decide) rfl) hS ⟨q_1, q_2, q_3, q_4, q_5, rfl⟩ dX9_init_140
set_option maxHeartbeats 4000000 in
set_option maxRecDepth 100000 in
theorem c_Wall_init_0 (l : Launch) (D : va_G) (cB cI cJ cZ cS cW cT cR : ClassId) (h0 : Nat) : Kon l D (tyl cB cI cJ cZ cS cW cT cR) yX9_init cX9_init 4 none { frames := 1, cells := 5, slots := 0, locals := 14 } [.ref h0, .int 0, .int 0, .null] [(h0, .inr (9, [.int 0, .int 0, .int 0, .int 0, .int 0, .int 0, .null, .null, .null, .null, .null, .null, .int 0, .int 0]))] (Qv D (fun u => ∃ (q_1 : Nat), ∃ (q_2 : Nat), ∃ (q_3 : Nat), ∃ (q_4 : Nat), ∃ (q_5 : Nat), u = [(h0, .inr (9, [.int 0, .int 0, .int 0, .int 0, .int 0, .int 0, .ref q_1, .ref q_2, .ref q_3, .ref q_4, .ref q_5, .null, .int 0, .int 1])), (q_1, .inl (cI, 0, .inl (fun _ => 0))), (q_2, .inl (cI, 0, .inl (fun _ => 0))), (q_3, .inl (cI, 0, .inl (fun _ => 0))), (q_4, .inl (cI, 0, .inl (fun _ => 0))), (q_5, .inl (cI, 0, .inl (fun _ => 0)))])) := by
  refine kon_of (by decide) (Nat.le_of_ble_eq_true rfl) (fun p e s m below meth c ls A hx hb hr hml hown hts hlocks hnm hkb hP hD hS hA hl => ?_)
  have hown : s.vm.findClass RX9 = some m.cls := hown
  have hl : lv_has ls 4 [(0, .ref h0), (1, .int 0), (2, .int 0), (3, .null)] := hl
  have hP : va_P D cls [(h0, .inr (9, [.int 0, .int 0, .int 0, .int 0, .int 0, .int 0, .null, .null, .null, .null, .null, .null, .int 0, .int 0]))] s.heap := hP
  refine lv_aload_n hx hb dX9_init_0 rfl (lv_at hl 0 rfl) ?_
  refine W.objInit hx hb hown (hts _ kw_98) (hts _ kw_30) (hts _ kw_31) rfl (by rw [hml]; exact hl.1) rfl dX9_init_1 (Nat.le_of_ble_eq_true rfl) (Nat.le_of_ble_eq_true rfl) ?_
  refine W.eq (g2 := F0 m 4 ls []) rfl ?_
  refine lv_aload_n hx hb dX9_init_4 rfl (lv_at hl 0 rfl) ?_
  refine lv_iconst (v := 0) hx hb dX9_init_5 (by decide) ?_
  refine va_put (D := D) (ci := 9) (v := .int 0) (ty := tyX9 2) (C := RX9) (T := TX9) (N := 14) hx hb hts uX9 tyX9 tyX9_ok nmX9 hown hkb.1 hP hD hS 0 rfl rfl 2 (by decide) (hts _ kw_113) (fun _ h9 => h9) rfl (tyX9_ok 2 (by decide)) rfl rfl (Nat.le_of_ble_eq_true rfl) dX9_init_6 (fun H locs hP hD hS => ?_)
  have hP : va_P D cls [(h0, .inr (9, [.int 0, .int 0, .int 0, .int 0, .int 0, .int 0, .null, .null, .null, .null, .null, .null, .int 0, .int 0]))] H := hP
  have hD : va_D A [(h0, .inr (9, [.int 0, .int 0, .int 0, .int 0, .int 0, .int 0, .null, .null, .null, .null, .null, .null, .int 0, .int 0]))] := hD
  refine lv_aload_n hx hb dX9_init_9 rfl (lv_at hl 0 rfl) ?_
  refine lv_iconst (v := 0) hx hb dX9_init_10 (by decide) ?_
  refine va_put (D := D) (ci := 9) (v := .int 0) (ty := tyX9 3) (C := RX9) (T := TX9) (N := 14) hx hb hts uX9 tyX9 tyX9_ok nmX9 hown hkb.1 hP hD hS 0 rfl rfl 3 (by decide) (hts _ kw_116) (fun _ h9 => h9) rfl (tyX9_ok 3 (by decide)) rfl rfl (Nat.le_of_ble_eq_true rfl) dX9_init_11 (fun H locs hP hD hS => ?_)
  have hP : va_P D cls [(h0, .inr (9, [.int 0, .int 0, .int 0, .int 0, .int 0, .int 0, .null, .null, .null, .null, .null, .null, .int 0, .int 0]))] H := hP
  have hD : va_D A [(h0, .inr (9, [.int 0, .int 0, .int 0, .int 0, .int 0, .int 0, .null, .null, .null, .null, .null, .null, .int 0, .int 0]))] := hD
  refine lv_aload_n hx hb dX9_init_14 rfl (lv_at hl 0 rfl) ?_
  refine lv_iconst (v := 0) hx hb dX9_init_15 (by decide) ?_
  refine va_put (D := D) (ci := 9) (v := .int 0) (ty := tyX9 4) (C := RX9) (T := TX9) (N := 14) hx hb hts uX9 tyX9 tyX9_ok nmX9 hown hkb.1 hP hD hS 0 rfl rfl 4 (by decide) (hts _ kw_123) (fun _ h9 => h9) rfl (tyX9_ok 4 (by decide)) rfl rfl (Nat.le_of_ble_eq_true rfl) dX9_init_16 (fun H locs hP hD hS => ?_)
  have hP : va_P D cls [(h0, .inr (9, [.int 0, .int 0, .int 0, .int 0, .int 0, .int 0, .null, .null, .null, .null, .null, .null, .int 0, .int 0]))] H := hP
  have hD : va_D A [(h0, .inr (9, [.int 0, .int 0, .int 0, .int 0, .int 0, .int 0, .null, .null, .null, .null, .null, .null, .int 0, .int 0]))] := hD
  refine lv_aload_n hx hb dX9_init_19 rfl (lv_at hl 0 rfl) ?_
  refine lv_iconst (v := 0) hx hb dX9_init_20 (by decide) ?_
  refine va_put (D := D) (ci := 9) (v := .int 0) (ty := tyX9 5) (C := RX9) (T := TX9) (N := 14) hx hb hts uX9 tyX9 tyX9_ok nmX9 hown hkb.1 hP hD hS 0 rfl rfl 5 (by decide) (hts _ kw_130) (fun _ h9 => h9) rfl (tyX9_ok 5 (by decide)) rfl rfl (Nat.le_of_ble_eq_true rfl) dX9_init_21 (fun H locs hP hD hS => ?_)
  have hP : va_P D cls [(h0, .inr (9, [.int 0, .int 0, .int 0, .int 0, .int 0, .int 0, .null, .null, .null, .null, .null, .null, .int 0, .int 0]))] H := hP
  have hD : va_D A [(h0, .inr (9, [.int 0, .int 0, .int 0, .int 0, .int 0, .int 0, .null, .null, .null, .null, .null, .null, .int 0, .int 0]))] := hD
  refine lv_aload_n hx hb dX9_init_24 rfl (lv_at hl 0 rfl) ?_
  refine lv_iconst (v := 0) hx hb dX9_init_25 (by decide) ?_
  refine lv_iload_n hx hb dX9_init_26 rfl (lv_at hl 1 rfl) ?_
  refine va_mmax hx hb (by rw [hml]; exact hl.1.symm) hown (hts _ kw_99) (hts _ kw_100) (hts _ kw_6) (hts _ kw_101) (Nat.le_of_ble_eq_true rfl) (Nat.le_of_ble_eq_true rfl) (Nat.le_of_ble_eq_true rfl) (Nat.le_of_ble_eq_true rfl) dX9_init_27 ?_
  refine lv_topc (y := 0) (by decide +kernel) ?_
  refine va_put (D := D) (ci := 9) (v := .int 0) (ty := tyX9 0) (C := RX9) (T := TX9) (N := 14) hx hb hts uX9 tyX9 tyX9_ok nmX9 hown hkb.1 hP hD hS 0 rfl rfl 0 (by decide) (hts _ kw_106) (fun _ h9 => h9) rfl (tyX9_ok 0 (by decide)) rfl rfl (Nat.le_of_ble_eq_true rfl) dX9_init_30 (fun H locs hP hD hS => ?_)
  have hP : va_P D cls [(h0, .inr (9, [.int 0, .int 0, .int 0, .int 0, .int 0, .int 0, .null, .null, .null, .null, .null, .null, .int 0, .int 0]))] H := hP
  have hD : va_D A [(h0, .inr (9, [.int 0, .int 0, .int 0, .int 0, .int 0, .int 0, .null, .null, .null, .null, .null, .null, .int 0, .int 0]))] := hD
  refine lv_aload_n hx hb dX9_init_33 rfl (lv_at hl 0 rfl) ?_
  refine lv_iconst (v := 0) hx hb dX9_init_34 (by decide) ?_
  refine lv_iload_n hx hb dX9_init_35 rfl (lv_at hl 2 rfl) ?_
  refine va_mmax hx hb (by rw [hml]; exact hl.1.symm) hown (hts _ kw_99) (hts _ kw_100) (hts _ kw_6) (hts _ kw_101) (Nat.le_of_ble_eq_true rfl) (Nat.le_of_ble_eq_true rfl) (Nat.le_of_ble_eq_true rfl) (Nat.le_of_ble_eq_true rfl) dX9_init_36 ?_
  refine lv_topc (y := 0) (by decide +kernel) ?_
  refine va_put (D := D) (ci := 9) (v := .int 0) (ty := tyX9 1) (C := RX9) (T := TX9) (N := 14) hx hb hts uX9 tyX9 tyX9_ok nmX9 hown hkb.1 hP hD hS 0 rfl rfl 1 (by decide) (hts _ kw_110) (fun _ h9 => h9) rfl (tyX9_ok 1 (by decide)) rfl rfl (Nat.le_of_ble_eq_true rfl) dX9_init_39 (fun H locs hP hD hS => ?_)
  have hP : va_P D cls [(h0, .inr (9, [.int 0, .int 0, .int 0, .int 0, .int 0, .int 0, .null, .null, .null, .null, .null, .null, .int 0, .int 0]))] H := hP
  have hD : va_D A [(h0, .inr (9, [.int 0, .int 0, .int 0, .int 0, .int 0, .int 0, .null, .null, .null, .null, .null, .null, .int 0, .int 0]))] := hD
  refine lv_aload_n hx hb dX9_init_42 rfl (lv_at hl 0 rfl) ?_
  refine lv_aload_n hx hb dX9_init_43 rfl (lv_at hl 0 rfl) ?_
  refine va_get (D := D) (ci := 9) (v := .int 0) (C := RX9) (T := TX9) (N := 14) hx hb hts uX9 hown hkb.1 hP 0 rfl rfl 0 (by decide) (hts _ kw_106) (fun _ h9 => h9) rfl dX9_init_44 ?_
  refine n_a (atype := .int) (t := .int) (a0 := (0, .inl (fun _ => 0))) 1 rfl (fun _ _ h => h) hx hb (hts _ kw_92) rfl hkb.1 hP hD hS hA (fun _ => rfl) (by decide) (by decide +kernel) (by decide) (Nat.le_of_ble_eq_true rfl) (Nat.le_of_ble_eq_true rfl) dX9_init_47 (fun q_1 H hP hD hS => ?_)
  have hP : va_P D cls [(h0, .inr (9, [.int 0, .int 0, .int 0, .int 0, .int 0, .int 0, .null, .null, .null, .null, .null, .null, .int 0, .int 0])), (q_1, .inl (cI, 0, .inl (fun _ => 0)))] H := hP
  have hD : va_D A [(h0, .inr (9, [.int 0, .int 0, .int 0, .int 0, .int 0, .int 0, .null, .null, .null, .null, .null, .null, .int 0, .int 0])), (q_1, .inl (cI, 0, .inl (fun _ => 0)))] := hD
  refine W.widen (k := 1) (n := 0) (Nat.le_of_ble_eq_true rfl) (Nat.le_of_ble_eq_true rfl) ?_
  refine va_putF (D := D) (ci := 9) (v := .ref q_1) (ty := tyX9 6) (C := RX9) (T := TX9) (N := 14) hx hb hts uX9 tyX9 tyX9_ok nmX9 hown hkb.1 hP hD hS 0 rfl rfl 6 (by decide) (hts _ kw_132) (fun _ h9 => h9) rfl hnm rfl (tyX9_ok 6 (by decide)) rfl rfl (Nat.le_of_ble_eq_true rfl) dX9_init_49 (fun H locs hP hD hS => ?_)
  have hP : va_P D cls [(h0, .inr (9, [.int 0, .int 0, .int 0, .int 0, .int 0, .int 0, .ref q_1, .null, .null, .null, .null, .null, .int 0, .int 0])), (q_1, .inl (cI, 0, .inl (fun _ => 0)))] H := hP
  have hD : va_D A [(h0, .inr (9, [.int 0, .int 0, .int 0, .int 0, .int 0, .int 0, .ref q_1, .null, .null, .null, .null, .null, .int 0, .int 0])), (q_1, .inl (cI, 0, .inl (fun _ => 0)))] := hD
  refine lv_aload_n hx hb dX9_init_52 rfl (lv_at hl 0 rfl) ?_
  refine lv_aload_n hx hb dX9_init_53 rfl (lv_at hl 0 rfl) ?_
  refine va_get (D := D) (ci := 9) (v := .int 0) (C := RX9) (T := TX9) (N := 14) hx hb hts uX9 hown hkb.1 hP 0 rfl rfl 0 (by decide) (hts _ kw_106) (fun _ h9 => h9) rfl dX9_init_54 ?_
  refine n_a (atype := .int) (t := .int) (a0 := (0, .inl (fun _ => 0))) 1 rfl (fun _ _ h => h) hx hb (hts _ kw_92) rfl hkb.1 hP hD hS hA (fun _ => rfl) (by decide) (by decide +kernel) (by decide) (Nat.le_of_ble_eq_true rfl) (Nat.le_of_ble_eq_true rfl) dX9_init_57 (fun q_2 H hP hD hS => ?_)
  have hP : va_P D cls [(h0, .inr (9, [.int 0, .int 0, .int 0, .int 0, .int 0, .int 0, .ref q_1, .null, .null, .null, .null, .null, .int 0, .int 0])), (q_1, .inl (cI, 0, .inl (fun _ => 0))), (q_2, .inl (cI, 0, .inl (fun _ => 0)))] H := hP
  have hD : va_D A [(h0, .inr (9, [.int 0, .int 0, .int 0, .int 0, .int 0, .int 0, .ref q_1, .null, .null, .null, .null, .null, .int 0, .int 0])), (q_1, .inl (cI, 0, .inl (fun _ => 0))), (q_2, .inl (cI, 0, .inl (fun _ => 0)))] := hD
  refine W.widen (k := 2) (n := 0) (Nat.le_of_ble_eq_true rfl) (Nat.le_of_ble_eq_true rfl) ?_
  refine va_putF (D := D) (ci := 9) (v := .ref q_2) (ty := tyX9 7) (C := RX9) (T := TX9) (N := 14) hx hb hts uX9 tyX9 tyX9_ok nmX9 hown hkb.1 hP hD hS 0 rfl rfl 7 (by decide) (hts _ kw_135) (fun _ h9 => h9) rfl hnm rfl (tyX9_ok 7 (by decide)) rfl rfl (Nat.le_of_ble_eq_true rfl) dX9_init_59 (fun H locs hP hD hS => ?_)
  have hP : va_P D cls [(h0, .inr (9, [.int 0, .int 0, .int 0, .int 0, .int 0, .int 0, .ref q_1, .ref q_2, .null, .null, .null, .null, .int 0, .int 0])), (q_1, .inl (cI, 0, .inl (fun _ => 0))), (q_2, .inl (cI, 0, .inl (fun _ => 0)))] H := hP
  have hD : va_D A [(h0, .inr (9, [.int 0, .int 0, .int 0, .int 0, .int 0, .int 0, .ref q_1, .ref q_2, .null, .null, .null, .null, .int 0, .int 0])), (q_1, .inl (cI, 0, .inl (fun _ => 0))), (q_2, .inl (cI, 0, .inl (fun _ => 0)))] := hD
  refine lv_aload_n hx hb dX9_init_62 rfl (lv_at hl 0 rfl) ?_
  refine lv_aload_n hx hb dX9_init_63 rfl (lv_at hl 0 rfl) ?_
  refine va_get (D := D) (ci := 9) (v := .int 0) (C := RX9) (T := TX9) (N := 14) hx hb hts uX9 hown hkb.1 hP 0 rfl rfl 0 (by decide) (hts _ kw_106) (fun _ h9 => h9) rfl dX9_init_64 ?_
  refine n_a (atype := .int) (t := .int) (a0 := (0, .inl (fun _ => 0))) 1 rfl (fun _ _ h => h) hx hb (hts _ kw_92) rfl hkb.1 hP hD hS hA (fun _ => rfl) (by decide) (by decide +kernel) (by decide) (Nat.le_of_ble_eq_true rfl) (Nat.le_of_ble_eq_true rfl) dX9_init_67 (fun q_3 H hP hD hS => ?_)
  have hP : va_P D cls [(h0, .inr (9, [.int 0, .int 0, .int 0, .int 0, .int 0, .int 0, .ref q_1, .ref q_2, .null, .null, .null, .null, .int 0, .int 0])), (q_1, .inl (cI, 0, .inl (fun _ => 0))), (q_2, .inl (cI, 0, .inl (fun _ => 0))), (q_3, .inl (cI, 0, .inl (fun _ => 0)))] H := hP
  have hD : va_D A [(h0, .inr (9, [.int 0, .int 0, .int 0, .int 0, .int 0, .int 0, .ref q_1, .ref q_2, .null, .null, .null, .null, .int 0, .int 0])), (q_1, .inl (cI, 0, .inl (fun _ => 0))), (q_2, .inl (cI, 0, .inl (fun _ => 0))), (q_3, .inl (cI, 0, .inl (fun _ => 0)))] := hD
  refine W.widen (k := 3) (n := 0) (Nat.le_of_ble_eq_true rfl) (Nat.le_of_ble_eq_true rfl) ?_
  refine va_putF (D := D) (ci := 9) (v := .ref q_3) (ty := tyX9 8) (C := RX9) (T := TX9) (N := 14) hx hb hts uX9 tyX9 tyX9_ok nmX9 hown hkb.1 hP hD hS 0 rfl rfl 8 (by decide) (hts _ kw_138) (fun _ h9 => h9) rfl hnm rfl (tyX9_ok 8 (by decide)) rfl rfl (Nat.le_of_ble_eq_true rfl) dX9_init_69 (fun H locs hP hD hS => ?_)
  have hP : va_P D cls [(h0, .inr (9, [.int 0, .int 0, .int 0, .int 0, .int 0, .int 0, .ref q_1, .ref q_2, .ref q_3, .null, .null, .null, .int 0, .int 0])), (q_1, .inl (cI, 0, .inl (fun _ => 0))), (q_2, .inl (cI, 0, .inl (fun _ => 0))), (q_3, .inl (cI, 0, .inl (fun _ => 0)))] H := hP
  have hD : va_D A [(h0, .inr (9, [.int 0, .int 0, .int 0, .int 0, .int 0, .int 0, .ref q_1, .ref q_2, .ref q_3, .null, .null, .null, .int 0, .int 0])), (q_1, .inl (cI, 0, .inl (fun _ => 0))), (q_2, .inl (cI, 0, .inl (fun _ => 0))), (q_3, .inl (cI, 0, .inl (fun _ => 0)))] := hD
  refine lv_aload_n hx hb dX9_init_72 rfl (lv_at hl 0 rfl) ?_
  refine lv_aload_n hx hb dX9_init_73 rfl (lv_at hl 0 rfl) ?_
  refine va_get (D := D) (ci := 9) (v := .int 0) (C := RX9) (T := TX9) (N := 14) hx hb hts uX9 hown hkb.1 hP 0 rfl rfl 1 (by decide) (hts _ kw_110) (fun _ h9 => h9) rfl dX9_init_74 ?_
  refine n_a (atype := .int) (t := .int) (a0 := (0, .inl (fun _ => 0))) 1 rfl (fun _ _ h => h) hx hb (hts _ kw_92) rfl hkb.1 hP hD hS hA (fun _ => rfl) (by decide) (by decide +kernel) (by decide) (Nat.le_of_ble_eq_true rfl) (Nat.le_of_ble_eq_true rfl) dX9_init_77 (fun q_4 H hP hD hS => ?_)
  have hP : va_P D cls [(h0, .inr (9, [.int 0, .int 0, .int 0, .int 0, .int 0, .int 0, .ref q_1, .ref q_2, .ref q_3, .null, .null, .null, .int 0, .int 0])), (q_1, .inl (cI, 0, .inl (fun _ => 0))), (q_2, .inl (cI, 0, .inl (fun _ => 0))), (q_3, .inl (cI, 0, .inl (fun _ => 0))), (q_4, .inl (cI, 0, .inl (fun _ => 0)))] H := hP
  have hD : va_D A [(h0, .inr (9, [.int 0, .int 0, .int 0, .int 0, .int 0, .int 0, .ref q_1, .ref q_2, .ref q_3, .null, .null, .null, .int 0, .int 0])), (q_1, .inl (cI, 0, .inl (fun _ => 0))), (q_2, .inl (cI, 0, .inl (fun _ => 0))), (q_3, .inl (cI, 0, .inl (fun _ => 0))), (q_4, .inl (cI, 0, .inl (fun _ => 0)))] := hD
  refine W.widen (k := 4) (n := 0) (Nat.le_of_ble_eq_true rfl) (Nat.le_of_ble_eq_true rfl) ?_
  refine va_putF (D := D) (ci := 9) (v := .ref q_4) (ty := tyX9 9) (C := RX9) (T := TX9) (N := 14) hx hb hts uX9 tyX9 tyX9_ok nmX9 hown hkb.1 hP hD hS 0 rfl rfl 9 (by decide) (hts _ kw_141) (fun _ h9 => h9) rfl hnm rfl (tyX9_ok 9 (by decide)) rfl rfl (Nat.le_of_ble_eq_true rfl) dX9_init_79 (fun H locs hP hD hS => ?_)
  have hP : va_P D cls [(h0, .inr (9, [.int 0, .int 0, .int 0, .int 0, .int 0, .int 0, .ref q_1, .ref q_2, .ref q_3, .ref q_4, .null, .null, .int 0, .int 0])), (q_1, .inl (cI, 0, .inl (fun _ => 0))), (q_2, .inl (cI, 0, .inl (fun _ => 0))), (q_3, .inl (cI, 0, .inl (fun _ => 0))), (q_4, .inl (cI, 0, .inl (fun _ => 0)))] H := hP
  have hD : va_D A [(h0, .inr (9, [.int 0, .int 0, .int 0, .int 0, .int 0, .int 0, .ref q_1, .ref q_2, .ref q_3, .ref q_4, .null, .null, .int 0, .int 0])), (q_1, .inl (cI, 0, .inl (fun _ => 0))), (q_2, .inl (cI, 0, .inl (fun _ => 0))), (q_3, .inl (cI, 0, .inl (fun _ => 0))), (q_4, .inl (cI, 0, .inl (fun _ => 0)))] := hD
  refine lv_aload_n hx hb dX9_init_82 rfl (lv_at hl 0 rfl) ?_
  refine lv_aload_n hx hb dX9_init_83 rfl (lv_at hl 0 rfl) ?_
  refine va_get (D := D) (ci := 9) (v := .int 0) (C := RX9) (T := TX9) (N := 14) hx hb hts uX9 hown hkb.1 hP 0 rfl rfl 1 (by decide) (hts _ kw_110) (fun _ h9 => h9) rfl dX9_init_84 ?_
  refine n_a (atype := .int) (t := .int) (a0 := (0, .inl (fun _ => 0))) 1 rfl (fun _ _ h => h) hx hb (hts _ kw_92) rfl hkb.1 hP hD hS hA (fun _ => rfl) (by decide) (by decide +kernel) (by decide) (Nat.le_of_ble_eq_true rfl) (Nat.le_of_ble_eq_true rfl) dX9_init_87 (fun q_5 H hP hD hS => ?_)
  have hP : va_P D cls [(h0, .inr (9, [.int 0, .int 0, .int 0, .int 0, .int 0, .int 0, .ref q_1, .ref q_2, .ref q_3, .ref q_4, .null, .null, .int 0, .int 0])), (q_1, .inl (cI, 0, .inl (fun _ => 0))), (q_2, .inl (cI, 0, .inl (fun _ => 0))), (q_3, .inl (cI, 0, .inl (fun _ => 0))), (q_4, .inl (cI, 0, .inl (fun _ => 0))), (q_5, .inl (cI, 0, .inl (fun _ => 0)))] H := hP
  have hD : va_D A [(h0, .inr (9, [.int 0, .int 0, .int 0, .int 0, .int 0, .int 0, .ref q_1, .ref q_2, .ref q_3, .ref q_4, .null, .null, .int 0, .int 0])), (q_1, .inl (cI, 0, .inl (fun _ => 0))), (q_2, .inl (cI, 0, .inl (fun _ => 0))), (q_3, .inl (cI, 0, .inl (fun _ => 0))), (q_4, .inl (cI, 0, .inl (fun _ => 0))), (q_5, .inl (cI, 0, .inl (fun _ => 0)))] := hD
  refine W.widen (k := 5) (n := 0) (Nat.le_of_ble_eq_true rfl) (Nat.le_of_ble_eq_true rfl) ?_
  refine va_putF (D := D) (ci := 9) (v := .ref q_5) (ty := tyX9 10) (C := RX9) (T := TX9) (N := 14) hx hb hts uX9 tyX9 tyX9_ok nmX9 hown hkb.1 hP hD hS 0 rfl rfl 10 (by decide) (hts _ kw_144) (fun _ h9 => h9) rfl hnm rfl (tyX9_ok 10 (by decide)) rfl rfl (Nat.le_of_ble_eq_true rfl) dX9_init_89 (fun H locs hP hD hS => ?_)
  have hP : va_P D cls [(h0, .inr (9, [.int 0, .int 0, .int 0, .int 0, .int 0, .int 0, .ref q_1, .ref q_2, .ref q_3, .ref q_4, .ref q_5, .null, .int 0, .int 0])), (q_1, .inl (cI, 0, .inl (fun _ => 0))), (q_2, .inl (cI, 0, .inl (fun _ => 0))), (q_3, .inl (cI, 0, .inl (fun _ => 0))), (q_4, .inl (cI, 0, .inl (fun _ => 0))), (q_5, .inl (cI, 0, .inl (fun _ => 0)))] H := hP
  have hD : va_D A [(h0, .inr (9, [.int 0, .int 0, .int 0, .int 0, .int 0, .int 0, .ref q_1, .ref q_2, .ref q_3, .ref q_4, .ref q_5, .null, .int 0, .int 0])), (q_1, .inl (cI, 0, .inl (fun _ => 0))), (q_2, .inl (cI, 0, .inl (fun _ => 0))), (q_3, .inl (cI, 0, .inl (fun _ => 0))), (q_4, .inl (cI, 0, .inl (fun _ => 0))), (q_5, .inl (cI, 0, .inl (fun _ => 0)))] := hD
  refine lv_aload_n hx hb dX9_init_92 rfl (lv_at hl 0 rfl) ?_
  refine lv_aload_nN hx hb dX9_init_93 rfl (lv_at hl 3 rfl) ?_
  refine va_putF (D := D) (ci := 9) (v := .null) (ty := tyX9 11) (C := RX9) (T := TX9) (N := 14) hx hb hts uX9 tyX9 tyX9_ok nmX9 hown hkb.1 hP hD hS 0 rfl rfl 11 (by decide) (hts _ kw_147) (fun _ h9 => h9) rfl hnm rfl (tyX9_ok 11 (by decide)) rfl rfl (Nat.le_of_ble_eq_true rfl) dX9_init_94 (fun H locs hP hD hS => ?_)
  have hP : va_P D cls [(h0, .inr (9, [.int 0, .int 0, .int 0, .int 0, .int 0, .int 0, .ref q_1, .ref q_2, .ref q_3, .ref q_4, .ref q_5, .null, .int 0, .int 0])), (q_1, .inl (cI, 0, .inl (fun _ => 0))), (q_2, .inl (cI, 0, .inl (fun _ => 0))), (q_3, .inl (cI, 0, .inl (fun _ => 0))), (q_4, .inl (cI, 0, .inl (fun _ => 0))), (q_5, .inl (cI, 0, .inl (fun _ => 0)))] H := hP
  have hD : va_D A [(h0, .inr (9, [.int 0, .int 0, .int 0, .int 0, .int 0, .int 0, .ref q_1, .ref q_2, .ref q_3, .ref q_4, .ref q_5, .null, .int 0, .int 0])), (q_1, .inl (cI, 0, .inl (fun _ => 0))), (q_2, .inl (cI, 0, .inl (fun _ => 0))), (q_3, .inl (cI, 0, .inl (fun _ => 0))), (q_4, .inl (cI, 0, .inl (fun _ => 0))), (q_5, .inl (cI, 0, .inl (fun _ => 0)))] := hD
  refine lv_aload_n hx hb dX9_init_97 rfl (lv_at hl 0 rfl) ?_
  refine lv_aload_nN hx hb dX9_init_98 rfl (lv_at hl 3 rfl) ?_
  refine lv_ifnullN (tgt := 115) hx hb dX9_init_99 (by decide) ?_
  refine lv_iconst (v := 0) hx hb dX9_init_115 (by decide) ?_
  refine va_putF (D := D) (ci := 9) (v := .int 0) (ty := tyX9 12) (C := RX9) (T := TX9) (N := 14) hx hb hts uX9 tyX9 tyX9_ok nmX9 hown hkb.1 hP hD hS 0 rfl rfl 12 (by decide) (hts _ kw_148) (fun _ h9 => h9) rfl hnm rfl (tyX9_ok 12 (by decide)) rfl rfl (Nat.le_of_ble_eq_true rfl) dX9_init_116 (fun H locs hP hD hS => ?_)
  have hP : va_P D cls [(h0, .inr (9, [.int 0, .int 0, .int 0, .int 0, .int 0, .int 0, .ref q_1, .ref q_2, .ref q_3, .ref q_4, .ref q_5, .null, .int 0, .int 0])), (q_1, .inl (cI, 0, .inl (fun _ => 0))), (q_2, .inl (cI, 0, .inl (fun _ => 0))), (q_3, .inl (cI, 0, .inl (fun _ => 0))), (q_4, .inl (cI, 0, .inl (fun _ => 0))), (q_5, .inl (cI, 0, .inl (fun _ => 0)))] H := hP
  have hD : va_D A [(h0, .inr (9, [.int 0, .int 0, .int 0, .int 0, .int 0, .int 0, .ref q_1, .ref q_2, .ref q_3, .ref q_4, .ref q_5, .null, .int 0, .int 0])), (q_1, .inl (cI, 0, .inl (fun _ => 0))), (q_2, .inl (cI, 0, .inl (fun _ => 0))), (q_3, .inl (cI, 0, .inl (fun _ => 0))), (q_4, .inl (cI, 0, .inl (fun _ => 0))), (q_5, .inl (cI, 0, .inl (fun _ => 0)))] := hD
  refine lv_aload_n hx hb dX9_init_119 rfl (lv_at hl 0 rfl) ?_
  refine lv_aload_nN hx hb dX9_init_120 rfl (lv_at hl 3 rfl) ?_
  refine lv_ifnullN (tgt := 132) hx hb dX9_init_121 (by decide) ?_
  refine lv_iconst (v := 1) hx hb dX9_init_132 (by decide) ?_
  refine lv_goto (tgt := 137) hx hb dX9_init_133 (by decide) ?_
  refine va_putF (D := D) (ci := 9) (v := .int 1) (ty := tyX9 13) (C := RX9) (T := TX9) (N := 14) hx hb hts uX9 tyX9 tyX9_ok nmX9 hown hkb.1 hP hD hS 0 rfl rfl 13 (by decide) (hts _ kw_149) (fun _ h9 => h9) rfl hnm rfl (tyX9_ok 13 (by decide)) rfl rfl (Nat.le_of_ble_eq_true rfl) dX9_init_137 (fun H locs hP hD hS => ?_)
  have hP : va_P D cls [(h0, .inr (9, [.int 0, .int 0, .int 0, .int 0, .int 0, .int 0, .ref q_1, .ref q_2, .ref q_3, .ref q_4, .ref q_5, .null, .int 0, .int 1])), (q_1, .inl (cI, 0, .inl (fun _ => 0))), (q_2, .inl (cI, 0, .inl (fun _ => 0))), (q_3, .inl (cI, 0, .inl (fun _ => 0))), (q_4, .inl (cI, 0, .inl (fun _ => 0))), (q_5, .inl (cI, 0, .inl (fun _ => 0)))] H := hP
  have hD : va_D A [(h0, .inr (9, [.int 0, .int 0, .int 0, .int 0, .int 0, .int 0, .ref q_1, .ref q_2, .ref q_3, .ref q_4, .ref q_5, .null, .int 0, .int 1])), (q_1, .inl (cI, 0, .inl (fun _ => 0))), (q_2, .inl (cI, 0, .inl (fun _ => 0))), (q_3, .inl (cI, 0, .inl (fun _ => 0))), (q_4, .inl (cI, 0, .inl (fun _ => 0))), (q_5, .inl (cI, 0, .inl (fun _ => 0)))] := hD
  refine W.widen (k := 5) (n := 0) (Nat.le_of_ble_eq_true rfl) (Nat.le_of_ble_eq_true rfl) ?_
  exact e_v (u := [(h0, .inr (9, [.int 0, .int 0, .int 0, .int 0, .int 0, .int 0, .ref q_1, .ref q_2, .ref q_3, .ref q_4, .ref q_5, .null, .int 0, .int 1])), (q_1, .inl (cI, 0, .inl (fun _ => 0))), (q_2, .inl (cI, 0, .inl (fun _ => 0))), (q_3, .inl (cI, 0, .inl (fun _ => 0))), (q_4, .inl (cI, 0, .inl (fun _ => 0))), (q_5, .inl (cI, 0, .inl (fun _ => 0)))]) hx hb hr hlocks (hP.sub (ws' := [(h0, .inr (9, [.int 0, .int 0, .int 0, .int 0, .int 0, .int 0, .ref q_1, .ref q_2, .ref q_3, .ref q_4, .ref q_5, .null, .int 0, .int 1])), (q_1, .inl (cI, 0, .inl (fun _ => 0))), (q_2, .inl (cI, 0, .inl (fun _ => 0))), (q_3, .inl (cI, 0, .inl (fun _ => 0))), (q_4, .inl (cI, 0, .inl (fun _ => 0))), (q_5, .inl (cI, 0, .inl (fun _ => 0)))]) [0, 1, 2, 3, 4, 5] rfl) (hD.sub (ws' := [(h0, .inr (9, [.int 0, .int 0, .int 0, .int 0, .int 0, .int 0, .ref q_1, .ref q_2, .ref q_3, .ref q_4, .ref q_5, .null, .int 0, .int 1])), (q_1, .inl (cI, 0, .inl (fun _ => 0))), (q_2, .inl (cI, 0, .inl (fun _ => 0))), (q_3, .inl (cI, 0, .inl (fun _ => 0))), (q_4, .inl (cI, 0, .inl (fun _ => 0))), (q_5, .inl (cI, 0, .inl (fun _ => 0)))]) [0, 1, 2, 3, 4, 5] (by decide) rfl) hS ⟨q_1, q_2, q_3, q_4, q_5, rfl⟩ dX9_init_140
set_option maxHeartbeats 4000000 in
set_option maxRecDepth 100000 in
theorem c_Rows_init (l : Launch) (D : va_G) (cB cI cJ cZ cS cW cT cR : ClassId) (h0 : Nat) (wl : Nat) : Kon l D (tyl cB cI cJ cZ cS cW cT cR) yX5_init cX5_init 2 none { frames := 1, cells := 2, slots := 28, locals := 12 } [.ref h0, .ref wl] [(h0, .inr (5, [.null, .int 0, .int 0, .int 0, .null, .null]))] (Qv D (fun u => ∃ (q_1 : Nat), ∃ (q_2 : Nat), u = [(h0, .inr (5, [.ref wl, .int 0, .int 0, .int 0, .ref q_1, .ref q_2])), (q_1, .inl (cI, 14, .inl (fun _ => 0))), (q_2, .inl (cI, 14, .inl (fun _ => 0)))])) := by
  refine kon_of (by decide) (Nat.le_of_ble_eq_true rfl) (fun p e s m below meth c ls A hx hb hr hml hown hts hlocks hnm hkb hP hD hS hA hl => ?_)
  have hown : s.vm.findClass RX5 = some m.cls := hown
  have hl : lv_has ls 2 [(0, .ref h0), (1, .ref wl)] := hl
  have hP : va_P D cls [(h0, .inr (5, [.null, .int 0, .int 0, .int 0, .null, .null]))] s.heap := hP
  refine lv_aload_n hx hb dX5_init_0 rfl (lv_at hl 0 rfl) ?_
  refine W.objInit hx hb hown (hts _ kw_243) (hts _ kw_30) (hts _ kw_31) rfl (by rw [hml]; exact hl.1) rfl dX5_init_1 (Nat.le_of_ble_eq_true rfl) (Nat.le_of_ble_eq_true rfl) ?_
  refine W.eq (g2 := F0 m 4 ls []) rfl ?_
  refine lv_aload_n hx hb dX5_init_4 rfl (lv_at hl 0 rfl) ?_
  refine lv_iconst (v := 0) hx hb dX5_init_5 (by decide) ?_
  refine va_put (D := D) (ci := 5) (v := .int 0) (ty := tyX5 1) (C := RX5) (T := TX5) (N := 6) hx hb hts uX5 tyX5 tyX5_ok nmX5 hown hkb.1 hP hD hS 0 rfl rfl 1 (by decide) (hts _ kw_248) (fun _ h9 => h9) rfl (tyX5_ok 1 (by decide)) rfl rfl (Nat.le_of_ble_eq_true rfl) dX5_init_6 (fun H locs hP hD hS => ?_)
  have hP : va_P D cls [(h0, .inr (5, [.null, .int 0, .int 0, .int 0, .null, .null]))] H := hP
  have hD : va_D A [(h0, .inr (5, [.null, .int 0, .int 0, .int 0, .null, .null]))] := hD
  refine lv_aload_n hx hb dX5_init_9 rfl (lv_at hl 0 rfl) ?_
  refine lv_iconst (v := 0) hx hb dX5_init_10 (by decide) ?_
  refine va_put (D := D) (ci := 5) (v := .int 0) (ty := tyX5 2) (C := RX5) (T := TX5) (N := 6) hx hb hts uX5 tyX5 tyX5_ok nmX5 hown hkb.1 hP hD hS 0 rfl rfl 2 (by decide) (hts _ kw_249) (fun _ h9 => h9) rfl (tyX5_ok 2 (by decide)) rfl rfl (Nat.le_of_ble_eq_true rfl) dX5_init_11 (fun H locs hP hD hS => ?_)
  have hP : va_P D cls [(h0, .inr (5, [.null, .int 0, .int 0, .int 0, .null, .null]))] H := hP
  have hD : va_D A [(h0, .inr (5, [.null, .int 0, .int 0, .int 0, .null, .null]))] := hD
  refine lv_aload_n hx hb dX5_init_14 rfl (lv_at hl 0 rfl) ?_
  refine lv_iconst (v := 0) hx hb dX5_init_15 (by decide) ?_
  refine va_put (D := D) (ci := 5) (v := .int 0) (ty := tyX5 3) (C := RX5) (T := TX5) (N := 6) hx hb hts uX5 tyX5 tyX5_ok nmX5 hown hkb.1 hP hD hS 0 rfl rfl 3 (by decide) (hts _ kw_250) (fun _ h9 => h9) rfl (tyX5_ok 3 (by decide)) rfl rfl (Nat.le_of_ble_eq_true rfl) dX5_init_16 (fun H locs hP hD hS => ?_)
  have hP : va_P D cls [(h0, .inr (5, [.null, .int 0, .int 0, .int 0, .null, .null]))] H := hP
  have hD : va_D A [(h0, .inr (5, [.null, .int 0, .int 0, .int 0, .null, .null]))] := hD
  refine lv_aload_n hx hb dX5_init_19 rfl (lv_at hl 0 rfl) ?_
  refine lv_bipush (v := 14) hx hb dX5_init_20 (by decide) ?_
  refine n_a (atype := .int) (t := .int) (a0 := (14, .inl (fun _ => 0))) 1 rfl (fun _ _ h => h) hx hb (hts _ kw_92) rfl hkb.1 hP hD hS hA (fun _ => rfl) (by decide) (by decide +kernel) (by decide) (Nat.le_of_ble_eq_true rfl) (Nat.le_of_ble_eq_true rfl) dX5_init_22 (fun q_1 H hP hD hS => ?_)
  have hP : va_P D cls [(h0, .inr (5, [.null, .int 0, .int 0, .int 0, .null, .null])), (q_1, .inl (cI, 14, .inl (fun _ => 0)))] H := hP
  have hD : va_D A [(h0, .inr (5, [.null, .int 0, .int 0, .int 0, .null, .null])), (q_1, .inl (cI, 14, .inl (fun _ => 0)))] := hD
  refine W.widen (k := 1) (n := 14) (Nat.le_of_ble_eq_true rfl) (Nat.le_of_ble_eq_true rfl) ?_
  refine va_putF (D := D) (ci := 5) (v := .ref q_1) (ty := tyX5 4) (C := RX5) (T := TX5) (N := 6) hx hb hts uX5 tyX5 tyX5_ok nmX5 hown hkb.1 hP hD hS 0 rfl rfl 4 (by decide) (hts _ kw_251) (fun _ h9 => h9) rfl hnm rfl (tyX5_ok 4 (by decide)) rfl rfl (Nat.le_of_ble_eq_true rfl) dX5_init_24 (fun H locs hP hD hS => ?_)
  have hP : va_P D cls [(h0, .inr (5, [.null, .int 0, .int 0, .int 0, .ref q_1, .null])), (q_1, .inl (cI, 14, .inl (fun _ => 0)))] H := hP
  have hD : va_D A [(h0, .inr (5, [.null, .int 0, .int 0, .int 0, .ref q_1, .null])), (q_1, .inl (cI, 14, .inl (fun _ => 0)))] := hD
  refine lv_aload_n hx hb dX5_init_27 rfl (lv_at hl 0 rfl) ?_
  refine lv_bipush (v := 14) hx hb dX5_init_28 (by decide) ?_
  refine n_a (atype := .int) (t := .int) (a0 := (14, .inl (fun _ => 0))) 1 rfl (fun _ _ h => h) hx hb (hts _ kw_92) rfl hkb.1 hP hD hS hA (fun _ => rfl) (by decide) (by decide +kernel) (by decide) (Nat.le_of_ble_eq_true rfl) (Nat.le_of_ble_eq_true rfl) dX5_init_30 (fun q_2 H hP hD hS => ?_)
  have hP : va_P D cls [(h0, .inr (5, [.null, .int 0, .int 0, .int 0, .ref q_1, .null])), (q_1, .inl (cI, 14, .inl (fun _ => 0))), (q_2, .inl (cI, 14, .inl (fun _ => 0)))] H := hP
  have hD : va_D A [(h0, .inr (5, [.null, .int 0, .int 0, .int 0, .ref q_1, .null])), (q_1, .inl (cI, 14, .inl (fun _ => 0))), (q_2, .inl (cI, 14, .inl (fun _ => 0)))] := hD
  refine W.widen (k := 2) (n := 28) (Nat.le_of_ble_eq_true rfl) (Nat.le_of_ble_eq_true rfl) ?_
  refine va_putF (D := D) (ci := 5) (v := .ref q_2) (ty := tyX5 5) (C := RX5) (T := TX5) (N := 6) hx hb hts uX5 tyX5 tyX5_ok nmX5 hown hkb.1 hP hD hS 0 rfl rfl 5 (by decide) (hts _ kw_252) (fun _ h9 => h9) rfl hnm rfl (tyX5_ok 5 (by decide)) rfl rfl (Nat.le_of_ble_eq_true rfl) dX5_init_32 (fun H locs hP hD hS => ?_)
  have hP : va_P D cls [(h0, .inr (5, [.null, .int 0, .int 0, .int 0, .ref q_1, .ref q_2])), (q_1, .inl (cI, 14, .inl (fun _ => 0))), (q_2, .inl (cI, 14, .inl (fun _ => 0)))] H := hP
  have hD : va_D A [(h0, .inr (5, [.null, .int 0, .int 0, .int 0, .ref q_1, .ref q_2])), (q_1, .inl (cI, 14, .inl (fun _ => 0))), (q_2, .inl (cI, 14, .inl (fun _ => 0)))] := hD
  refine lv_aload_n hx hb dX5_init_35 rfl (lv_at hl 0 rfl) ?_
  refine lv_aload_n hx hb dX5_init_36 rfl (lv_at hl 1 rfl) ?_
  refine va_put (D := D) (ci := 5) (v := .ref wl) (ty := tyX5 0) (C := RX5) (T := TX5) (N := 6) hx hb hts uX5 tyX5 tyX5_ok nmX5 hown hkb.1 hP hD hS 0 rfl rfl 0 (by decide) (hts _ kw_244) (fun _ h9 => h9) rfl (tyX5_ok 0 (by decide)) rfl rfl (Nat.le_of_ble_eq_true rfl) dX5_init_37 (fun H locs hP hD hS => ?_)
  have hP : va_P D cls [(h0, .inr (5, [.ref wl, .int 0, .int 0, .int 0, .ref q_1, .ref q_2])), (q_1, .inl (cI, 14, .inl (fun _ => 0))), (q_2, .inl (cI, 14, .inl (fun _ => 0)))] H := hP
  have hD : va_D A [(h0, .inr (5, [.ref wl, .int 0, .int 0, .int 0, .ref q_1, .ref q_2])), (q_1, .inl (cI, 14, .inl (fun _ => 0))), (q_2, .inl (cI, 14, .inl (fun _ => 0)))] := hD
  refine W.widen (k := 2) (n := 28) (Nat.le_of_ble_eq_true rfl) (Nat.le_of_ble_eq_true rfl) ?_
  exact e_v (u := [(h0, .inr (5, [.ref wl, .int 0, .int 0, .int 0, .ref q_1, .ref q_2])), (q_1, .inl (cI, 14, .inl (fun _ => 0))), (q_2, .inl (cI, 14, .inl (fun _ => 0)))]) hx hb hr hlocks (hP.sub (ws' := [(h0, .inr (5, [.ref wl, .int 0, .int 0, .int 0, .ref q_1, .ref q_2])), (q_1, .inl (cI, 14, .inl (fun _ => 0))), (q_2, .inl (cI, 14, .inl (fun _ => 0)))]) [0, 1, 2] rfl) (hD.sub (ws' := [(h0, .inr (5, [.ref wl, .int 0, .int 0, .int 0, .ref q_1, .ref q_2])), (q_1, .inl (cI, 14, .inl (fun _ => 0))), (q_2, .inl (cI, 14, .inl (fun _ => 0)))]) [0, 1, 2] (by decide) rfl) hS ⟨q_1, q_2, rfl⟩ dX5_init_40
set_option maxHeartbeats 4000000 in
set_option maxRecDepth 100000 in
theorem c_Ways_init (l : Launch) (D : va_G) (cB cI cJ cZ cS cW cT cR : ClassId) (h0 : Nat) : Kon l D (tyl cB cI cJ cZ cS cW cT cR) yX10_init cX10_init 1 none { frames := 1, cells := 5, slots := 70, locals := 12 } [.ref h0] [(h0, .inr (10, [.null, .null, .int 0, .null, .null, .null, .int 0]))] (Qv D (fun u => ∃ (q_1 : Nat), ∃ (q_2 : Nat), ∃ (q_3 : Nat), ∃ (q_4 : Nat), ∃ (q_5 : Nat), u = [(h0, .inr (10, [.ref q_1, .ref q_2, .int 0, .ref q_3, .ref q_4, .ref q_5, .int 0])), (q_1, .inl (cI, 14, .inl (fun _ => 0))), (q_2, .inl (cI, 14, .inl (fun _ => 0))), (q_3, .inl (cJ, 14, .inr (.inl (fun _ => 0)))), (q_4, .inl (cI, 14, .inl (fun _ => 0))), (q_5, .inl (cI, 14, .inl (fun _ => 0)))])) := by
  refine kon_of (by decide) (Nat.le_of_ble_eq_true rfl) (fun p e s m below meth c ls A hx hb hr hml hown hts hlocks hnm hkb hP hD hS hA hl => ?_)
  have hown : s.vm.findClass RX10 = some m.cls := hown
  have hl : lv_has ls 1 [(0, .ref h0)] := hl
  have hP : va_P D cls [(h0, .inr (10, [.null, .null, .int 0, .null, .null, .null, .int 0]))] s.heap := hP
  refine lv_aload_n hx hb dX10_init_0 rfl (lv_at hl 0 rfl) ?_
  refine W.objInit hx hb hown (hts _ kw_271) (hts _ kw_30) (hts _ kw_31) rfl (by rw [hml]; exact hl.1) rfl dX10_init_1 (Nat.le_of_ble_eq_true rfl) (Nat.le_of_ble_eq_true rfl) ?_
  refine W.eq (g2 := F0 m 4 ls []) rfl ?_
  refine lv_aload_n hx hb dX10_init_4 rfl (lv_at hl 0 rfl) ?_
  refine lv_bipush (v := 14) hx hb dX10_init_5 (by decide) ?_
  refine n_a (atype := .int) (t := .int) (a0 := (14, .inl (fun _ => 0))) 1 rfl (fun _ _ h => h) hx hb (hts _ kw_92) rfl hkb.1 hP hD hS hA (fun _ => rfl) (by decide) (by decide +kernel) (by decide) (Nat.le_of_ble_eq_true rfl) (Nat.le_of_ble_eq_true rfl) dX10_init_7 (fun q_1 H hP hD hS => ?_)
  have hP : va_P D cls [(h0, .inr (10, [.null, .null, .int 0, .null, .null, .null, .int 0])), (q_1, .inl (cI, 14, .inl (fun _ => 0)))] H := hP
  have hD : va_D A [(h0, .inr (10, [.null, .null, .int 0, .null, .null, .null, .int 0])), (q_1, .inl (cI, 14, .inl (fun _ => 0)))] := hD
  refine W.widen (k := 1) (n := 14) (Nat.le_of_ble_eq_true rfl) (Nat.le_of_ble_eq_true rfl) ?_
  refine va_putF (D := D) (ci := 10) (v := .ref q_1) (ty := tyX10 0) (C := RX10) (T := TX10) (N := 7) hx hb hts uX10 tyX10 tyX10_ok nmX10 hown hkb.1 hP hD hS 0 rfl rfl 0 (by decide) (hts _ kw_272) (fun _ h9 => h9) rfl hnm rfl (tyX10_ok 0 (by decide)) rfl rfl (Nat.le_of_ble_eq_true rfl) dX10_init_9 (fun H locs hP hD hS => ?_)
  have hP : va_P D cls [(h0, .inr (10, [.ref q_1, .null, .int 0, .null, .null, .null, .int 0])), (q_1, .inl (cI, 14, .inl (fun _ => 0)))] H := hP
  have hD : va_D A [(h0, .inr (10, [.ref q_1, .null, .int 0, .null, .null, .null, .int 0])), (q_1, .inl (cI, 14, .inl (fun _ => 0)))] := hD
  refine lv_aload_n hx hb dX10_init_12 rfl (lv_at hl 0 rfl) ?_
  refine lv_bipush (v := 14) hx hb dX10_init_13 (by decide) ?_
  refine n_a (atype := .int) (t := .int) (a0 := (14, .inl (fun _ => 0))) 1 rfl (fun _ _ h => h) hx hb (hts _ kw_92) rfl hkb.1 hP hD hS hA (fun _ => rfl) (by decide) (by decide +kernel) (by decide) (Nat.le_of_ble_eq_true rfl) (Nat.le_of_ble_eq_true rfl) dX10_init_15 (fun q_2 H hP hD hS => ?_)
  have hP : va_P D cls [(h0, .inr (10, [.ref q_1, .null, .int 0, .null, .null, .null, .int 0])), (q_1, .inl (cI, 14, .inl (fun _ => 0))), (q_2, .inl (cI, 14, .inl (fun _ => 0)))] H := hP
  have hD : va_D A [(h0, .inr (10, [.ref q_1, .null, .int 0, .null, .null, .null, .int 0])), (q_1, .inl (cI, 14, .inl (fun _ => 0))), (q_2, .inl (cI, 14, .inl (fun _ => 0)))] := hD
  refine W.widen (k := 2) (n := 28) (Nat.le_of_ble_eq_true rfl) (Nat.le_of_ble_eq_true rfl) ?_
  refine va_putF (D := D) (ci := 10) (v := .ref q_2) (ty := tyX10 1) (C := RX10) (T := TX10) (N := 7) hx hb hts uX10 tyX10 tyX10_ok nmX10 hown hkb.1 hP hD hS 0 rfl rfl 1 (by decide) (hts _ kw_273) (fun _ h9 => h9) rfl hnm rfl (tyX10_ok 1 (by decide)) rfl rfl (Nat.le_of_ble_eq_true rfl) dX10_init_17 (fun H locs hP hD hS => ?_)
  have hP : va_P D cls [(h0, .inr (10, [.ref q_1, .ref q_2, .int 0, .null, .null, .null, .int 0])), (q_1, .inl (cI, 14, .inl (fun _ => 0))), (q_2, .inl (cI, 14, .inl (fun _ => 0)))] H := hP
  have hD : va_D A [(h0, .inr (10, [.ref q_1, .ref q_2, .int 0, .null, .null, .null, .int 0])), (q_1, .inl (cI, 14, .inl (fun _ => 0))), (q_2, .inl (cI, 14, .inl (fun _ => 0)))] := hD
  refine lv_aload_n hx hb dX10_init_20 rfl (lv_at hl 0 rfl) ?_
  refine lv_iconst (v := 0) hx hb dX10_init_21 (by decide) ?_
  refine va_put (D := D) (ci := 10) (v := .int 0) (ty := tyX10 2) (C := RX10) (T := TX10) (N := 7) hx hb hts uX10 tyX10 tyX10_ok nmX10 hown hkb.1 hP hD hS 0 rfl rfl 2 (by decide) (hts _ kw_275) (fun _ h9 => h9) rfl (tyX10_ok 2 (by decide)) rfl rfl (Nat.le_of_ble_eq_true rfl) dX10_init_22 (fun H locs hP hD hS => ?_)
  have hP : va_P D cls [(h0, .inr (10, [.ref q_1, .ref q_2, .int 0, .null, .null, .null, .int 0])), (q_1, .inl (cI, 14, .inl (fun _ => 0))), (q_2, .inl (cI, 14, .inl (fun _ => 0)))] H := hP
  have hD : va_D A [(h0, .inr (10, [.ref q_1, .ref q_2, .int 0, .null, .null, .null, .int 0])), (q_1, .inl (cI, 14, .inl (fun _ => 0))), (q_2, .inl (cI, 14, .inl (fun _ => 0)))] := hD
  refine lv_aload_n hx hb dX10_init_25 rfl (lv_at hl 0 rfl) ?_
  refine lv_bipush (v := 14) hx hb dX10_init_26 (by decide) ?_
  refine n_a (atype := .long) (t := .long) (a0 := (14, .inr (.inl (fun _ => 0)))) 2 rfl (fun _ _ h => h) hx hb (hts _ kw_295) rfl hkb.1 hP hD hS hA (fun _ => rfl) (by decide) (by decide +kernel) (by decide) (Nat.le_of_ble_eq_true rfl) (Nat.le_of_ble_eq_true rfl) dX10_init_28 (fun q_3 H hP hD hS => ?_)
  have hP : va_P D cls [(h0, .inr (10, [.ref q_1, .ref q_2, .int 0, .null, .null, .null, .int 0])), (q_1, .inl (cI, 14, .inl (fun _ => 0))), (q_2, .inl (cI, 14, .inl (fun _ => 0))), (q_3, .inl (cJ, 14, .inr (.inl (fun _ => 0))))] H := hP
  have hD : va_D A [(h0, .inr (10, [.ref q_1, .ref q_2, .int 0, .null, .null, .null, .int 0])), (q_1, .inl (cI, 14, .inl (fun _ => 0))), (q_2, .inl (cI, 14, .inl (fun _ => 0))), (q_3, .inl (cJ, 14, .inr (.inl (fun _ => 0))))] := hD
  refine W.widen (k := 3) (n := 42) (Nat.le_of_ble_eq_true rfl) (Nat.le_of_ble_eq_true rfl) ?_
  refine va_putF (D := D) (ci := 10) (v := .ref q_3) (ty := tyX10 3) (C := RX10) (T := TX10) (N := 7) hx hb hts uX10 tyX10 tyX10_ok nmX10 hown hkb.1 hP hD hS 0 rfl rfl 3 (by decide) (hts _ kw_276) (fun _ h9 => h9) rfl hnm rfl (tyX10_ok 3 (by decide)) rfl rfl (Nat.le_of_ble_eq_true rfl) dX10_init_30 (fun H locs hP hD hS => ?_)
  have hP : va_P D cls [(h0, .inr (10, [.ref q_1, .ref q_2, .int 0, .ref q_3, .null, .null, .int 0])), (q_1, .inl (cI, 14, .inl (fun _ => 0))), (q_2, .inl (cI, 14, .inl (fun _ => 0))), (q_3, .inl (cJ, 14, .inr (.inl (fun _ => 0))))] H := hP
  have hD : va_D A [(h0, .inr (10, [.ref q_1, .ref q_2, .int 0, .ref q_3, .null, .null, .int 0])), (q_1, .inl (cI, 14, .inl (fun _ => 0))), (q_2, .inl (cI, 14, .inl (fun _ => 0))), (q_3, .inl (cJ, 14, .inr (.inl (fun _ => 0))))] := hD
  refine lv_aload_n hx hb dX10_init_33 rfl (lv_at hl 0 rfl) ?_
  refine lv_bipush (v := 14) hx hb dX10_init_34 (by decide) ?_
  refine n_a (atype := .int) (t := .int) (a0 := (14, .inl (fun _ => 0))) 1 rfl (fun _ _ h => h) hx hb (hts _ kw_92) rfl hkb.1 hP hD hS hA (fun _ => rfl) (by decide) (by decide +kernel) (by decide) (Nat.le_of_ble_eq_true rfl) (Nat.le_of_ble_eq_true rfl) dX10_init_36 (fun q_4 H hP hD hS => ?_)
  have hP : va_P D cls [(h0, .inr (10, [.ref q_1, .ref q_2, .int 0, .ref q_3, .null, .null, .int 0])), (q_1, .inl (cI, 14, .inl (fun _ => 0))), (q_2, .inl (cI, 14, .inl (fun _ => 0))), (q_3, .inl (cJ, 14, .inr (.inl (fun _ => 0)))), (q_4, .inl (cI, 14, .inl (fun _ => 0)))] H := hP
  have hD : va_D A [(h0, .inr (10, [.ref q_1, .ref q_2, .int 0, .ref q_3, .null, .null, .int 0])), (q_1, .inl (cI, 14, .inl (fun _ => 0))), (q_2, .inl (cI, 14, .inl (fun _ => 0))), (q_3, .inl (cJ, 14, .inr (.inl (fun _ => 0)))), (q_4, .inl (cI, 14, .inl (fun _ => 0)))] := hD
  refine W.widen (k := 4) (n := 56) (Nat.le_of_ble_eq_true rfl) (Nat.le_of_ble_eq_true rfl) ?_
  refine va_putF (D := D) (ci := 10) (v := .ref q_4) (ty := tyX10 4) (C := RX10) (T := TX10) (N := 7) hx hb hts uX10 tyX10 tyX10_ok nmX10 hown hkb.1 hP hD hS 0 rfl rfl 4 (by decide) (hts _ kw_277) (fun _ h9 => h9) rfl hnm rfl (tyX10_ok 4 (by decide)) rfl rfl (Nat.le_of_ble_eq_true rfl) dX10_init_38 (fun H locs hP hD hS => ?_)
  have hP : va_P D cls [(h0, .inr (10, [.ref q_1, .ref q_2, .int 0, .ref q_3, .ref q_4, .null, .int 0])), (q_1, .inl (cI, 14, .inl (fun _ => 0))), (q_2, .inl (cI, 14, .inl (fun _ => 0))), (q_3, .inl (cJ, 14, .inr (.inl (fun _ => 0)))), (q_4, .inl (cI, 14, .inl (fun _ => 0)))] H := hP
  have hD : va_D A [(h0, .inr (10, [.ref q_1, .ref q_2, .int 0, .ref q_3, .ref q_4, .null, .int 0])), (q_1, .inl (cI, 14, .inl (fun _ => 0))), (q_2, .inl (cI, 14, .inl (fun _ => 0))), (q_3, .inl (cJ, 14, .inr (.inl (fun _ => 0)))), (q_4, .inl (cI, 14, .inl (fun _ => 0)))] := hD
  refine lv_aload_n hx hb dX10_init_41 rfl (lv_at hl 0 rfl) ?_
  refine lv_bipush (v := 14) hx hb dX10_init_42 (by decide) ?_
  refine n_a (atype := .int) (t := .int) (a0 := (14, .inl (fun _ => 0))) 1 rfl (fun _ _ h => h) hx hb (hts _ kw_92) rfl hkb.1 hP hD hS hA (fun _ => rfl) (by decide) (by decide +kernel) (by decide) (Nat.le_of_ble_eq_true rfl) (Nat.le_of_ble_eq_true rfl) dX10_init_44 (fun q_5 H hP hD hS => ?_)
  have hP : va_P D cls [(h0, .inr (10, [.ref q_1, .ref q_2, .int 0, .ref q_3, .ref q_4, .null, .int 0])), (q_1, .inl (cI, 14, .inl (fun _ => 0))), (q_2, .inl (cI, 14, .inl (fun _ => 0))), (q_3, .inl (cJ, 14, .inr (.inl (fun _ => 0)))), (q_4, .inl (cI, 14, .inl (fun _ => 0))), (q_5, .inl (cI, 14, .inl (fun _ => 0)))] H := hP
  have hD : va_D A [(h0, .inr (10, [.ref q_1, .ref q_2, .int 0, .ref q_3, .ref q_4, .null, .int 0])), (q_1, .inl (cI, 14, .inl (fun _ => 0))), (q_2, .inl (cI, 14, .inl (fun _ => 0))), (q_3, .inl (cJ, 14, .inr (.inl (fun _ => 0)))), (q_4, .inl (cI, 14, .inl (fun _ => 0))), (q_5, .inl (cI, 14, .inl (fun _ => 0)))] := hD
  refine W.widen (k := 5) (n := 70) (Nat.le_of_ble_eq_true rfl) (Nat.le_of_ble_eq_true rfl) ?_
  refine va_putF (D := D) (ci := 10) (v := .ref q_5) (ty := tyX10 5) (C := RX10) (T := TX10) (N := 7) hx hb hts uX10 tyX10 tyX10_ok nmX10 hown hkb.1 hP hD hS 0 rfl rfl 5 (by decide) (hts _ kw_278) (fun _ h9 => h9) rfl hnm rfl (tyX10_ok 5 (by decide)) rfl rfl (Nat.le_of_ble_eq_true rfl) dX10_init_46 (fun H locs hP hD hS => ?_)
  have hP : va_P D cls [(h0, .inr (10, [.ref q_1, .ref q_2, .int 0, .ref q_3, .ref q_4, .ref q_5, .int 0])), (q_1, .inl (cI, 14, .inl (fun _ => 0))), (q_2, .inl (cI, 14, .inl (fun _ => 0))), (q_3, .inl (cJ, 14, .inr (.inl (fun _ => 0)))), (q_4, .inl (cI, 14, .inl (fun _ => 0))), (q_5, .inl (cI, 14, .inl (fun _ => 0)))] H := hP
  have hD : va_D A [(h0, .inr (10, [.ref q_1, .ref q_2, .int 0, .ref q_3, .ref q_4, .ref q_5, .int 0])), (q_1, .inl (cI, 14, .inl (fun _ => 0))), (q_2, .inl (cI, 14, .inl (fun _ => 0))), (q_3, .inl (cJ, 14, .inr (.inl (fun _ => 0)))), (q_4, .inl (cI, 14, .inl (fun _ => 0))), (q_5, .inl (cI, 14, .inl (fun _ => 0)))] := hD
  refine lv_aload_n hx hb dX10_init_49 rfl (lv_at hl 0 rfl) ?_
  refine lv_iconst (v := 0) hx hb dX10_init_50 (by decide) ?_
  refine va_put (D := D) (ci := 10) (v := .int 0) (ty := tyX10 6) (C := RX10) (T := TX10) (N := 7) hx hb hts uX10 tyX10 tyX10_ok nmX10 hown hkb.1 hP hD hS 0 rfl rfl 6 (by decide) (hts _ kw_279) (fun _ h9 => h9) rfl (tyX10_ok 6 (by decide)) rfl rfl (Nat.le_of_ble_eq_true rfl) dX10_init_51 (fun H locs hP hD hS => ?_)
  have hP : va_P D cls [(h0, .inr (10, [.ref q_1, .ref q_2, .int 0, .ref q_3, .ref q_4, .ref q_5, .int 0])), (q_1, .inl (cI, 14, .inl (fun _ => 0))), (q_2, .inl (cI, 14, .inl (fun _ => 0))), (q_3, .inl (cJ, 14, .inr (.inl (fun _ => 0)))), (q_4, .inl (cI, 14, .inl (fun _ => 0))), (q_5, .inl (cI, 14, .inl (fun _ => 0)))] H := hP
  have hD : va_D A [(h0, .inr (10, [.ref q_1, .ref q_2, .int 0, .ref q_3, .ref q_4, .ref q_5, .int 0])), (q_1, .inl (cI, 14, .inl (fun _ => 0))), (q_2, .inl (cI, 14, .inl (fun _ => 0))), (q_3, .inl (cJ, 14, .inr (.inl (fun _ => 0)))), (q_4, .inl (cI, 14, .inl (fun _ => 0))), (q_5, .inl (cI, 14, .inl (fun _ => 0)))] := hD
  refine W.widen (k := 5) (n := 70) (Nat.le_of_ble_eq_true rfl) (Nat.le_of_ble_eq_true rfl) ?_
  exact e_v (u := [(h0, .inr (10, [.ref q_1, .ref q_2, .int 0, .ref q_3, .ref q_4, .ref q_5, .int 0])), (q_1, .inl (cI, 14, .inl (fun _ => 0))), (q_2, .inl (cI, 14, .inl (fun _ => 0))), (q_3, .inl (cJ, 14, .inr (.inl (fun _ => 0)))), (q_4, .inl (cI, 14, .inl (fun _ => 0))), (q_5, .inl (cI, 14, .inl (fun _ => 0)))]) hx hb hr hlocks (hP.sub (ws' := [(h0, .inr (10, [.ref q_1, .ref q_2, .int 0, .ref q_3, .ref q_4, .ref q_5, .int 0])), (q_1, .inl (cI, 14, .inl (fun _ => 0))), (q_2, .inl (cI, 14, .inl (fun _ => 0))), (q_3, .inl (cJ, 14, .inr (.inl (fun _ => 0)))), (q_4, .inl (cI, 14, .inl (fun _ => 0))), (q_5, .inl (cI, 14, .inl (fun _ => 0)))]) [0, 1, 2, 3, 4, 5] rfl) (hD.sub (ws' := [(h0, .inr (10, [.ref q_1, .ref q_2, .int 0, .ref q_3, .ref q_4, .ref q_5, .int 0])), (q_1, .inl (cI, 14, .inl (fun _ => 0))), (q_2, .inl (cI, 14, .inl (fun _ => 0))), (q_3, .inl (cJ, 14, .inr (.inl (fun _ => 0)))), (q_4, .inl (cI, 14, .inl (fun _ => 0))), (q_5, .inl (cI, 14, .inl (fun _ => 0)))]) [0, 1, 2, 3, 4, 5] (by decide) rfl) hS ⟨q_1, q_2, q_3, q_4, q_5, rfl⟩ dX10_init_54
set_option maxHeartbeats 4000000 in
set_option maxRecDepth 100000 in
theorem c_Cut_init (l : Launch) (D : va_G) (cB cI cJ cZ cS cW cT cR : ClassId) (h0 : Nat) : Kon l D (tyl cB cI cJ cZ cS cW cT cR) yX1_init cX1_init 1 none { frames := 1, cells := 4, slots := 84, locals := 12 } [.ref h0] [(h0, .inr (1, [.null, .null, .int 0, .null, .int 0, .int 0, .null]))] (Qv D (fun u => ∃ (q_1 : Nat), ∃ (q_2 : Nat), ∃ (q_3 : Nat), ∃ (q_4 : Nat), u = [(h0, .inr (1, [.ref q_1, .ref q_2, .int 0, .ref q_3, .int 0, .int 0, .ref q_4])), (q_1, .inl (cI, 14, .inl (fun _ => 0))), (q_2, .inl (cI, 14, .inl (fun _ => 0))), (q_3, .inl (cI, 28, .inl (fun _ => 0))), (q_4, .inl (cI, 28, .inl (fun _ => 0)))])) := by
  refine kon_of (by decide) (Nat.le_of_ble_eq_true rfl) (fun p e s m below meth c ls A hx hb hr hml hown hts hlocks hnm hkb hP hD hS hA hl => ?_)
  have hown : s.vm.findClass RX1 = some m.cls := hown
  have hl : lv_has ls 1 [(0, .ref h0)] := hl
  have hP : va_P D cls [(h0, .inr (1, [.null, .null, .int 0, .null, .int 0, .int 0, .null]))] s.heap := hP
  refine lv_aload_n hx hb dX1_init_0 rfl (lv_at hl 0 rfl) ?_
  refine W.objInit hx hb hown (hts _ kw_301) (hts _ kw_30) (hts _ kw_31) rfl (by rw [hml]; exact hl.1) rfl dX1_init_1 (Nat.le_of_ble_eq_true rfl) (Nat.le_of_ble_eq_true rfl) ?_
  refine W.eq (g2 := F0 m 4 ls []) rfl ?_
  refine lv_aload_n hx hb dX1_init_4 rfl (lv_at hl 0 rfl) ?_
  refine lv_bipush (v := 14) hx hb dX1_init_5 (by decide) ?_
  refine n_a (atype := .int) (t := .int) (a0 := (14, .inl (fun _ => 0))) 1 rfl (fun _ _ h => h) hx hb (hts _ kw_92) rfl hkb.1 hP hD hS hA (fun _ => rfl) (by decide) (by decide +kernel) (by decide) (Nat.le_of_ble_eq_true rfl) (Nat.le_of_ble_eq_true rfl) dX1_init_7 (fun q_1 H hP hD hS => ?_)
  have hP : va_P D cls [(h0, .inr (1, [.null, .null, .int 0, .null, .int 0, .int 0, .null])), (q_1, .inl (cI, 14, .inl (fun _ => 0)))] H := hP
  have hD : va_D A [(h0, .inr (1, [.null, .null, .int 0, .null, .int 0, .int 0, .null])), (q_1, .inl (cI, 14, .inl (fun _ => 0)))] := hD
  refine W.widen (k := 1) (n := 14) (Nat.le_of_ble_eq_true rfl) (Nat.le_of_ble_eq_true rfl) ?_
  refine va_putF (D := D) (ci := 1) (v := .ref q_1) (ty := tyX1 0) (C := RX1) (T := TX1) (N := 7) hx hb hts uX1 tyX1 tyX1_ok nmX1 hown hkb.1 hP hD hS 0 rfl rfl 0 (by decide) (hts _ kw_302) (fun _ h9 => h9) rfl hnm rfl (tyX1_ok 0 (by decide)) rfl rfl (Nat.le_of_ble_eq_true rfl) dX1_init_9 (fun H locs hP hD hS => ?_)
  have hP : va_P D cls [(h0, .inr (1, [.ref q_1, .null, .int 0, .null, .int 0, .int 0, .null])), (q_1, .inl (cI, 14, .inl (fun _ => 0)))] H := hP
  have hD : va_D A [(h0, .inr (1, [.ref q_1, .null, .int 0, .null, .int 0, .int 0, .null])), (q_1, .inl (cI, 14, .inl (fun _ => 0)))] := hD
  refine lv_aload_n hx hb dX1_init_12 rfl (lv_at hl 0 rfl) ?_
  refine lv_bipush (v := 14) hx hb dX1_init_13 (by decide) ?_
  refine n_a (atype := .int) (t := .int) (a0 := (14, .inl (fun _ => 0))) 1 rfl (fun _ _ h => h) hx hb (hts _ kw_92) rfl hkb.1 hP hD hS hA (fun _ => rfl) (by decide) (by decide +kernel) (by decide) (Nat.le_of_ble_eq_true rfl) (Nat.le_of_ble_eq_true rfl) dX1_init_15 (fun q_2 H hP hD hS => ?_)
  have hP : va_P D cls [(h0, .inr (1, [.ref q_1, .null, .int 0, .null, .int 0, .int 0, .null])), (q_1, .inl (cI, 14, .inl (fun _ => 0))), (q_2, .inl (cI, 14, .inl (fun _ => 0)))] H := hP
  have hD : va_D A [(h0, .inr (1, [.ref q_1, .null, .int 0, .null, .int 0, .int 0, .null])), (q_1, .inl (cI, 14, .inl (fun _ => 0))), (q_2, .inl (cI, 14, .inl (fun _ => 0)))] := hD
  refine W.widen (k := 2) (n := 28) (Nat.le_of_ble_eq_true rfl) (Nat.le_of_ble_eq_true rfl) ?_
  refine va_putF (D := D) (ci := 1) (v := .ref q_2) (ty := tyX1 1) (C := RX1) (T := TX1) (N := 7) hx hb hts uX1 tyX1 tyX1_ok nmX1 hown hkb.1 hP hD hS 0 rfl rfl 1 (by decide) (hts _ kw_303) (fun _ h9 => h9) rfl hnm rfl (tyX1_ok 1 (by decide)) rfl rfl (Nat.le_of_ble_eq_true rfl) dX1_init_17 (fun H locs hP hD hS => ?_)
  have hP : va_P D cls [(h0, .inr (1, [.ref q_1, .ref q_2, .int 0, .null, .int 0, .int 0, .null])), (q_1, .inl (cI, 14, .inl (fun _ => 0))), (q_2, .inl (cI, 14, .inl (fun _ => 0)))] H := hP
  have hD : va_D A [(h0, .inr (1, [.ref q_1, .ref q_2, .int 0, .null, .int 0, .int 0, .null])), (q_1, .inl (cI, 14, .inl (fun _ => 0))), (q_2, .inl (cI, 14, .inl (fun _ => 0)))] := hD
  refine lv_aload_n hx hb dX1_init_20 rfl (lv_at hl 0 rfl) ?_
  refine lv_iconst (v := 0) hx hb dX1_init_21 (by decide) ?_
  refine va_put (D := D) (ci := 1) (v := .int 0) (ty := tyX1 2) (C := RX1) (T := TX1) (N := 7) hx hb hts uX1 tyX1 tyX1_ok nmX1 hown hkb.1 hP hD hS 0 rfl rfl 2 (by decide) (hts _ kw_304) (fun _ h9 => h9) rfl (tyX1_ok 2 (by decide)) rfl rfl (Nat.le_of_ble_eq_true rfl) dX1_init_22 (fun H locs hP hD hS => ?_)
  have hP : va_P D cls [(h0, .inr (1, [.ref q_1, .ref q_2, .int 0, .null, .int 0, .int 0, .null])), (q_1, .inl (cI, 14, .inl (fun _ => 0))), (q_2, .inl (cI, 14, .inl (fun _ => 0)))] H := hP
  have hD : va_D A [(h0, .inr (1, [.ref q_1, .ref q_2, .int 0, .null, .int 0, .int 0, .null])), (q_1, .inl (cI, 14, .inl (fun _ => 0))), (q_2, .inl (cI, 14, .inl (fun _ => 0)))] := hD
  refine lv_aload_n hx hb dX1_init_25 rfl (lv_at hl 0 rfl) ?_
  refine lv_bipush (v := 28) hx hb dX1_init_26 (by decide) ?_
  refine n_a (atype := .int) (t := .int) (a0 := (28, .inl (fun _ => 0))) 1 rfl (fun _ _ h => h) hx hb (hts _ kw_92) rfl hkb.1 hP hD hS hA (fun _ => rfl) (by decide) (by decide +kernel) (by decide) (Nat.le_of_ble_eq_true rfl) (Nat.le_of_ble_eq_true rfl) dX1_init_28 (fun q_3 H hP hD hS => ?_)
  have hP : va_P D cls [(h0, .inr (1, [.ref q_1, .ref q_2, .int 0, .null, .int 0, .int 0, .null])), (q_1, .inl (cI, 14, .inl (fun _ => 0))), (q_2, .inl (cI, 14, .inl (fun _ => 0))), (q_3, .inl (cI, 28, .inl (fun _ => 0)))] H := hP
  have hD : va_D A [(h0, .inr (1, [.ref q_1, .ref q_2, .int 0, .null, .int 0, .int 0, .null])), (q_1, .inl (cI, 14, .inl (fun _ => 0))), (q_2, .inl (cI, 14, .inl (fun _ => 0))), (q_3, .inl (cI, 28, .inl (fun _ => 0)))] := hD
  refine W.widen (k := 3) (n := 56) (Nat.le_of_ble_eq_true rfl) (Nat.le_of_ble_eq_true rfl) ?_
  refine va_putF (D := D) (ci := 1) (v := .ref q_3) (ty := tyX1 3) (C := RX1) (T := TX1) (N := 7) hx hb hts uX1 tyX1 tyX1_ok nmX1 hown hkb.1 hP hD hS 0 rfl rfl 3 (by decide) (hts _ kw_305) (fun _ h9 => h9) rfl hnm rfl (tyX1_ok 3 (by decide)) rfl rfl (Nat.le_of_ble_eq_true rfl) dX1_init_30 (fun H locs hP hD hS => ?_)
  have hP : va_P D cls [(h0, .inr (1, [.ref q_1, .ref q_2, .int 0, .ref q_3, .int 0, .int 0, .null])), (q_1, .inl (cI, 14, .inl (fun _ => 0))), (q_2, .inl (cI, 14, .inl (fun _ => 0))), (q_3, .inl (cI, 28, .inl (fun _ => 0)))] H := hP
  have hD : va_D A [(h0, .inr (1, [.ref q_1, .ref q_2, .int 0, .ref q_3, .int 0, .int 0, .null])), (q_1, .inl (cI, 14, .inl (fun _ => 0))), (q_2, .inl (cI, 14, .inl (fun _ => 0))), (q_3, .inl (cI, 28, .inl (fun _ => 0)))] := hD
  refine lv_aload_n hx hb dX1_init_33 rfl (lv_at hl 0 rfl) ?_
  refine lv_iconst (v := 0) hx hb dX1_init_34 (by decide) ?_
  refine va_put (D := D) (ci := 1) (v := .int 0) (ty := tyX1 4) (C := RX1) (T := TX1) (N := 7) hx hb hts uX1 tyX1 tyX1_ok nmX1 hown hkb.1 hP hD hS 0 rfl rfl 4 (by decide) (hts _ kw_306) (fun _ h9 => h9) rfl (tyX1_ok 4 (by decide)) rfl rfl (Nat.le_of_ble_eq_true rfl) dX1_init_35 (fun H locs hP hD hS => ?_)
  have hP : va_P D cls [(h0, .inr (1, [.ref q_1, .ref q_2, .int 0, .ref q_3, .int 0, .int 0, .null])), (q_1, .inl (cI, 14, .inl (fun _ => 0))), (q_2, .inl (cI, 14, .inl (fun _ => 0))), (q_3, .inl (cI, 28, .inl (fun _ => 0)))] H := hP
  have hD : va_D A [(h0, .inr (1, [.ref q_1, .ref q_2, .int 0, .ref q_3, .int 0, .int 0, .null])), (q_1, .inl (cI, 14, .inl (fun _ => 0))), (q_2, .inl (cI, 14, .inl (fun _ => 0))), (q_3, .inl (cI, 28, .inl (fun _ => 0)))] := hD
  refine lv_aload_n hx hb dX1_init_38 rfl (lv_at hl 0 rfl) ?_
  refine lv_iconst (v := 0) hx hb dX1_init_39 (by decide) ?_
  refine va_put (D := D) (ci := 1) (v := .int 0) (ty := tyX1 5) (C := RX1) (T := TX1) (N := 7) hx hb hts uX1 tyX1 tyX1_ok nmX1 hown hkb.1 hP hD hS 0 rfl rfl 5 (by decide) (hts _ kw_307) (fun _ h9 => h9) rfl (tyX1_ok 5 (by decide)) rfl rfl (Nat.le_of_ble_eq_true rfl) dX1_init_40 (fun H locs hP hD hS => ?_)
  have hP : va_P D cls [(h0, .inr (1, [.ref q_1, .ref q_2, .int 0, .ref q_3, .int 0, .int 0, .null])), (q_1, .inl (cI, 14, .inl (fun _ => 0))), (q_2, .inl (cI, 14, .inl (fun _ => 0))), (q_3, .inl (cI, 28, .inl (fun _ => 0)))] H := hP
  have hD : va_D A [(h0, .inr (1, [.ref q_1, .ref q_2, .int 0, .ref q_3, .int 0, .int 0, .null])), (q_1, .inl (cI, 14, .inl (fun _ => 0))), (q_2, .inl (cI, 14, .inl (fun _ => 0))), (q_3, .inl (cI, 28, .inl (fun _ => 0)))] := hD
  refine lv_aload_n hx hb dX1_init_43 rfl (lv_at hl 0 rfl) ?_
  refine lv_bipush (v := 28) hx hb dX1_init_44 (by decide) ?_
  refine n_a (atype := .int) (t := .int) (a0 := (28, .inl (fun _ => 0))) 1 rfl (fun _ _ h => h) hx hb (hts _ kw_92) rfl hkb.1 hP hD hS hA (fun _ => rfl) (by decide) (by decide +kernel) (by decide) (Nat.le_of_ble_eq_true rfl) (Nat.le_of_ble_eq_true rfl) dX1_init_46 (fun q_4 H hP hD hS => ?_)
  have hP : va_P D cls [(h0, .inr (1, [.ref q_1, .ref q_2, .int 0, .ref q_3, .int 0, .int 0, .null])), (q_1, .inl (cI, 14, .inl (fun _ => 0))), (q_2, .inl (cI, 14, .inl (fun _ => 0))), (q_3, .inl (cI, 28, .inl (fun _ => 0))), (q_4, .inl (cI, 28, .inl (fun _ => 0)))] H := hP
  have hD : va_D A [(h0, .inr (1, [.ref q_1, .ref q_2, .int 0, .ref q_3, .int 0, .int 0, .null])), (q_1, .inl (cI, 14, .inl (fun _ => 0))), (q_2, .inl (cI, 14, .inl (fun _ => 0))), (q_3, .inl (cI, 28, .inl (fun _ => 0))), (q_4, .inl (cI, 28, .inl (fun _ => 0)))] := hD
  refine W.widen (k := 4) (n := 84) (Nat.le_of_ble_eq_true rfl) (Nat.le_of_ble_eq_true rfl) ?_
  refine va_putF (D := D) (ci := 1) (v := .ref q_4) (ty := tyX1 6) (C := RX1) (T := TX1) (N := 7) hx hb hts uX1 tyX1 tyX1_ok nmX1 hown hkb.1 hP hD hS 0 rfl rfl 6 (by decide) (hts _ kw_308) (fun _ h9 => h9) rfl hnm rfl (tyX1_ok 6 (by decide)) rfl rfl (Nat.le_of_ble_eq_true rfl) dX1_init_48 (fun H locs hP hD hS => ?_)
  have hP : va_P D cls [(h0, .inr (1, [.ref q_1, .ref q_2, .int 0, .ref q_3, .int 0, .int 0, .ref q_4])), (q_1, .inl (cI, 14, .inl (fun _ => 0))), (q_2, .inl (cI, 14, .inl (fun _ => 0))), (q_3, .inl (cI, 28, .inl (fun _ => 0))), (q_4, .inl (cI, 28, .inl (fun _ => 0)))] H := hP
  have hD : va_D A [(h0, .inr (1, [.ref q_1, .ref q_2, .int 0, .ref q_3, .int 0, .int 0, .ref q_4])), (q_1, .inl (cI, 14, .inl (fun _ => 0))), (q_2, .inl (cI, 14, .inl (fun _ => 0))), (q_3, .inl (cI, 28, .inl (fun _ => 0))), (q_4, .inl (cI, 28, .inl (fun _ => 0)))] := hD
  refine W.widen (k := 4) (n := 84) (Nat.le_of_ble_eq_true rfl) (Nat.le_of_ble_eq_true rfl) ?_
  exact e_v (u := [(h0, .inr (1, [.ref q_1, .ref q_2, .int 0, .ref q_3, .int 0, .int 0, .ref q_4])), (q_1, .inl (cI, 14, .inl (fun _ => 0))), (q_2, .inl (cI, 14, .inl (fun _ => 0))), (q_3, .inl (cI, 28, .inl (fun _ => 0))), (q_4, .inl (cI, 28, .inl (fun _ => 0)))]) hx hb hr hlocks (hP.sub (ws' := [(h0, .inr (1, [.ref q_1, .ref q_2, .int 0, .ref q_3, .int 0, .int 0, .ref q_4])), (q_1, .inl (cI, 14, .inl (fun _ => 0))), (q_2, .inl (cI, 14, .inl (fun _ => 0))), (q_3, .inl (cI, 28, .inl (fun _ => 0))), (q_4, .inl (cI, 28, .inl (fun _ => 0)))]) [0, 1, 2, 3, 4] rfl) (hD.sub (ws' := [(h0, .inr (1, [.ref q_1, .ref q_2, .int 0, .ref q_3, .int 0, .int 0, .ref q_4])), (q_1, .inl (cI, 14, .inl (fun _ => 0))), (q_2, .inl (cI, 14, .inl (fun _ => 0))), (q_3, .inl (cI, 28, .inl (fun _ => 0))), (q_4, .inl (cI, 28, .inl (fun _ => 0)))]) [0, 1, 2, 3, 4] (by decide) rfl) hS ⟨q_1, q_2, q_3, q_4, rfl⟩ dX1_init_51
set_option maxHeartbeats 4000000 in
set_option maxRecDepth 100000 in
theorem c_Chains_init (l : Launch) (D : va_G) (cB cI cJ cZ cS cW cT cR : ClassId) (h0 : Nat) : Kon l D (tyl cB cI cJ cZ cS cW cT cR) yX0_init cX0_init 1 none { frames := 1, cells := 3, slots := 29, locals := 12 } [.ref h0] [(h0, .inr (0, [.null, .int 0, .null, .null]))] (Qv D (fun u => ∃ (q_1 : Nat), ∃ (q_2 : Nat), ∃ (q_3 : Nat), u = [(h0, .inr (0, [.ref q_1, .int 0, .ref q_2, .ref q_3])), (q_1, .inl (cI, 1, .inl (fun _ => 0))), (q_2, .inl (cI, 14, .inl (fun _ => 0))), (q_3, .inl (cI, 14, .inl (fun _ => 0)))])) := by
  refine kon_of (by decide) (Nat.le_of_ble_eq_true rfl) (fun p e s m below meth c ls A hx hb hr hml hown hts hlocks hnm hkb hP hD hS hA hl => ?_)
  have hown : s.vm.findClass RX0 = some m.cls := hown
  have hl : lv_has ls 1 [(0, .ref h0)] := hl
  have hP : va_P D cls [(h0, .inr (0, [.null, .int 0, .null, .null]))] s.heap := hP
  refine lv_aload_n hx hb dX0_init_0 rfl (lv_at hl 0 rfl) ?_
  refine W.objInit hx hb hown (hts _ kw_329) (hts _ kw_30) (hts _ kw_31) rfl (by rw [hml]; exact hl.1) rfl dX0_init_1 (Nat.le_of_ble_eq_true rfl) (Nat.le_of_ble_eq_true rfl) ?_
  refine W.eq (g2 := F0 m 4 ls []) rfl ?_
  refine lv_aload_n hx hb dX0_init_4 rfl (lv_at hl 0 rfl) ?_
  refine lv_iconst (v := 1) hx hb dX0_init_5 (by decide) ?_
  refine n_a (atype := .int) (t := .int) (a0 := (1, .inl (fun _ => 0))) 1 rfl (fun _ _ h => h) hx hb (hts _ kw_92) rfl hkb.1 hP hD hS hA (fun _ => rfl) (by decide) (by decide +kernel) (by decide) (Nat.le_of_ble_eq_true rfl) (Nat.le_of_ble_eq_true rfl) dX0_init_6 (fun q_1 H hP hD hS => ?_)
  have hP : va_P D cls [(h0, .inr (0, [.null, .int 0, .null, .null])), (q_1, .inl (cI, 1, .inl (fun _ => 0)))] H := hP
  have hD : va_D A [(h0, .inr (0, [.null, .int 0, .null, .null])), (q_1, .inl (cI, 1, .inl (fun _ => 0)))] := hD
  refine W.widen (k := 1) (n := 1) (Nat.le_of_ble_eq_true rfl) (Nat.le_of_ble_eq_true rfl) ?_
  refine va_put (D := D) (ci := 0) (v := .ref q_1) (ty := tyX0 0) (C := RX0) (T := TX0) (N := 4) hx hb hts uX0 tyX0 tyX0_ok nmX0 hown hkb.1 hP hD hS 0 rfl rfl 0 (by decide) (hts _ kw_330) (fun _ h9 => h9) rfl (tyX0_ok 0 (by decide)) rfl rfl (Nat.le_of_ble_eq_true rfl) dX0_init_8 (fun H locs hP hD hS => ?_)
  have hP : va_P D cls [(h0, .inr (0, [.ref q_1, .int 0, .null, .null])), (q_1, .inl (cI, 1, .inl (fun _ => 0)))] H := hP
  have hD : va_D A [(h0, .inr (0, [.ref q_1, .int 0, .null, .null])), (q_1, .inl (cI, 1, .inl (fun _ => 0)))] := hD
  refine lv_aload_n hx hb dX0_init_11 rfl (lv_at hl 0 rfl) ?_
  refine lv_iconst (v := 0) hx hb dX0_init_12 (by decide) ?_
  refine va_put (D := D) (ci := 0) (v := .int 0) (ty := tyX0 1) (C := RX0) (T := TX0) (N := 4) hx hb hts uX0 tyX0 tyX0_ok nmX0 hown hkb.1 hP hD hS 0 rfl rfl 1 (by decide) (hts _ kw_331) (fun _ h9 => h9) rfl (tyX0_ok 1 (by decide)) rfl rfl (Nat.le_of_ble_eq_true rfl) dX0_init_13 (fun H locs hP hD hS => ?_)
  have hP : va_P D cls [(h0, .inr (0, [.ref q_1, .int 0, .null, .null])), (q_1, .inl (cI, 1, .inl (fun _ => 0)))] H := hP
  have hD : va_D A [(h0, .inr (0, [.ref q_1, .int 0, .null, .null])), (q_1, .inl (cI, 1, .inl (fun _ => 0)))] := hD
  refine lv_aload_n hx hb dX0_init_16 rfl (lv_at hl 0 rfl) ?_
  refine lv_bipush (v := 14) hx hb dX0_init_17 (by decide) ?_
  refine n_a (atype := .int) (t := .int) (a0 := (14, .inl (fun _ => 0))) 1 rfl (fun _ _ h => h) hx hb (hts _ kw_92) rfl hkb.1 hP hD hS hA (fun _ => rfl) (by decide) (by decide +kernel) (by decide) (Nat.le_of_ble_eq_true rfl) (Nat.le_of_ble_eq_true rfl) dX0_init_19 (fun q_2 H hP hD hS => ?_)
  have hP : va_P D cls [(h0, .inr (0, [.ref q_1, .int 0, .null, .null])), (q_1, .inl (cI, 1, .inl (fun _ => 0))), (q_2, .inl (cI, 14, .inl (fun _ => 0)))] H := hP
  have hD : va_D A [(h0, .inr (0, [.ref q_1, .int 0, .null, .null])), (q_1, .inl (cI, 1, .inl (fun _ => 0))), (q_2, .inl (cI, 14, .inl (fun _ => 0)))] := hD
  refine W.widen (k := 2) (n := 15) (Nat.le_of_ble_eq_true rfl) (Nat.le_of_ble_eq_true rfl) ?_
  refine va_putF (D := D) (ci := 0) (v := .ref q_2) (ty := tyX0 2) (C := RX0) (T := TX0) (N := 4) hx hb hts uX0 tyX0 tyX0_ok nmX0 hown hkb.1 hP hD hS 0 rfl rfl 2 (by decide) (hts _ kw_332) (fun _ h9 => h9) rfl hnm rfl (tyX0_ok 2 (by decide)) rfl rfl (Nat.le_of_ble_eq_true rfl) dX0_init_21 (fun H locs hP hD hS => ?_)
  have hP : va_P D cls [(h0, .inr (0, [.ref q_1, .int 0, .ref q_2, .null])), (q_1, .inl (cI, 1, .inl (fun _ => 0))), (q_2, .inl (cI, 14, .inl (fun _ => 0)))] H := hP
  have hD : va_D A [(h0, .inr (0, [.ref q_1, .int 0, .ref q_2, .null])), (q_1, .inl (cI, 1, .inl (fun _ => 0))), (q_2, .inl (cI, 14, .inl (fun _ => 0)))] := hD
  refine lv_aload_n hx hb dX0_init_24 rfl (lv_at hl 0 rfl) ?_
  refine lv_bipush (v := 14) hx hb dX0_init_25 (by decide) ?_
  refine n_a (atype := .int) (t := .int) (a0 := (14, .inl (fun _ => 0))) 1 rfl (fun _ _ h => h) hx hb (hts _ kw_92) rfl hkb.1 hP hD hS hA (fun _ => rfl) (by decide) (by decide +kernel) (by decide) (Nat.le_of_ble_eq_true rfl) (Nat.le_of_ble_eq_true rfl) dX0_init_27 (fun q_3 H hP hD hS => ?_)
  have hP : va_P D cls [(h0, .inr (0, [.ref q_1, .int 0, .ref q_2, .null])), (q_1, .inl (cI, 1, .inl (fun _ => 0))), (q_2, .inl (cI, 14, .inl (fun _ => 0))), (q_3, .inl (cI, 14, .inl (fun _ => 0)))] H := hP
  have hD : va_D A [(h0, .inr (0, [.ref q_1, .int 0, .ref q_2, .null])), (q_1, .inl (cI, 1, .inl (fun _ => 0))), (q_2, .inl (cI, 14, .inl (fun _ => 0))), (q_3, .inl (cI, 14, .inl (fun _ => 0)))] := hD
  refine W.widen (k := 3) (n := 29) (Nat.le_of_ble_eq_true rfl) (Nat.le_of_ble_eq_true rfl) ?_
  refine va_putF (D := D) (ci := 0) (v := .ref q_3) (ty := tyX0 3) (C := RX0) (T := TX0) (N := 4) hx hb hts uX0 tyX0 tyX0_ok nmX0 hown hkb.1 hP hD hS 0 rfl rfl 3 (by decide) (hts _ kw_333) (fun _ h9 => h9) rfl hnm rfl (tyX0_ok 3 (by decide)) rfl rfl (Nat.le_of_ble_eq_true rfl) dX0_init_29 (fun H locs hP hD hS => ?_)
  have hP : va_P D cls [(h0, .inr (0, [.ref q_1, .int 0, .ref q_2, .ref q_3])), (q_1, .inl (cI, 1, .inl (fun _ => 0))), (q_2, .inl (cI, 14, .inl (fun _ => 0))), (q_3, .inl (cI, 14, .inl (fun _ => 0)))] H := hP
  have hD : va_D A [(h0, .inr (0, [.ref q_1, .int 0, .ref q_2, .ref q_3])), (q_1, .inl (cI, 1, .inl (fun _ => 0))), (q_2, .inl (cI, 14, .inl (fun _ => 0))), (q_3, .inl (cI, 14, .inl (fun _ => 0)))] := hD
  refine W.widen (k := 3) (n := 29) (Nat.le_of_ble_eq_true rfl) (Nat.le_of_ble_eq_true rfl) ?_
  exact e_v (u := [(h0, .inr (0, [.ref q_1, .int 0, .ref q_2, .ref q_3])), (q_1, .inl (cI, 1, .inl (fun _ => 0))), (q_2, .inl (cI, 14, .inl (fun _ => 0))), (q_3, .inl (cI, 14, .inl (fun _ => 0)))]) hx hb hr hlocks (hP.sub (ws' := [(h0, .inr (0, [.ref q_1, .int 0, .ref q_2, .ref q_3])), (q_1, .inl (cI, 1, .inl (fun _ => 0))), (q_2, .inl (cI, 14, .inl (fun _ => 0))), (q_3, .inl (cI, 14, .inl (fun _ => 0)))]) [0, 1, 2, 3] rfl) (hD.sub (ws' := [(h0, .inr (0, [.ref q_1, .int 0, .ref q_2, .ref q_3])), (q_1, .inl (cI, 1, .inl (fun _ => 0))), (q_2, .inl (cI, 14, .inl (fun _ => 0))), (q_3, .inl (cI, 14, .inl (fun _ => 0)))]) [0, 1, 2, 3] (by decide) rfl) hS ⟨q_1, q_2, q_3, rfl⟩ dX0_init_32
set_option maxHeartbeats 4000000 in
set_option maxRecDepth 100000 in
theorem c_Reader_init (l : Launch) (D : va_G) (cB cI cJ cZ cS cW cT cR : ClassId) (h0 : Nat) : Kon l D (tyl cB cI cJ cZ cS cW cT cR) yX4_init cX4_init 1 none { frames := 2, cells := 13, slots := 1011, locals := 37 } [.ref h0] [(h0, .inr (4, [.null, .null, .null, .int 0, .null]))] (Qv D (fun u => ∃ (q_1 : Nat), ∃ (q_4 : Nat), ∃ (q_7 : Nat), ∃ (q_14 : Nat), ∃ (q_2 : Nat), ∃ (q_5 : Nat), ∃ (q_8 : Nat), ∃ (q_9 : Nat), ∃ (q_10 : Nat), ∃ (q_11 : Nat), ∃ (q_12 : Nat), ∃ (q_15 : Nat), ∃ (q_16 : Nat), u = [(h0, .inr (4, [.ref q_1, .ref q_4, .ref q_7, .int 0, .ref q_14])), (q_1, .inr (7, [.ref q_2, .int 0, .int 0, .int 0, .int 0, .int 0, .int 0, .int (-1)])), (q_2, .inl (cB, 0, .inl (fun _ => 0))), (q_4, .inr (3, [.ref q_1, .ref q_5, .int 0])), (q_5, .inl (cI, 900, .inl (fun _ => 0))), (q_7, .inr (9, [.int 14, .int 5, .int 0, .int 0, .int 0, .int 0, .ref q_8, .ref q_9, .ref q_10, .ref q_11, .ref q_12, .null, .int 0, .int 1])), (q_8, .inl (cI, 14, .inl (fun _ => 0))), (q_9, .inl (cI, 14, .inl (fun _ => 0))), (q_10, .inl (cI, 14, .inl (fun _ => 0))), (q_11, .inl (cI, 5, .inl (fun _ => 0))), (q_12, .inl (cI, 5, .inl (fun _ => 0))), (q_14, .inr (6, [.int 0, .int 0, .int 0, .int 0, .ref q_15, .ref q_16])), (q_15, .inl (cI, 14, .inl (fun _ => 0))), (q_16, .inl (cI, 14, .inl (fun _ => 0)))])) := by
  refine kon_of (by decide) (Nat.le_of_ble_eq_true rfl) (fun p e s m below meth c ls A hx hb hr hml hown hts hlocks hnm hkb hP hD hS hA hl => ?_)
  have hown : s.vm.findClass RX4 = some m.cls := hown
  have hl : lv_has ls 1 [(0, .ref h0)] := hl
  have hP : va_P D cls [(h0, .inr (4, [.null, .null, .null, .int 0, .null]))] s.heap := hP
  refine lv_aload_n hx hb dX4_init_0 rfl (lv_at hl 0 rfl) ?_
  refine W.objInit hx hb hown (hts _ kw_37) (hts _ kw_30) (hts _ kw_31) rfl (by rw [hml]; exact hl.1) rfl dX4_init_1 (Nat.le_of_ble_eq_true rfl) (Nat.le_of_ble_eq_true rfl) ?_
  refine W.eq (g2 := F0 m 4 ls []) rfl ?_
  refine lv_aload_n hx hb dX4_init_4 rfl (lv_at hl 0 rfl) ?_
  refine va_new (ci := 7) (fs := [.null, .int 0, .int 0, .int 0, .int 0, .int 0, .int 0, .int 0]) (C := RX7) (T := TX7) (N := 8) hx hb hts uX7 tyX7 tyX7_ok hown (hts _ kw_38) (hts _ kw_39) (hts _ kw_3) hkb.1 hP hD hS hA rfl dfX7 (Nat.le_of_ble_eq_true rfl) (Nat.le_of_ble_eq_true rfl) dX4_init_5 (fun q_1 H hP hD hS => ?_)
  have hP : va_P D cls [(h0, .inr (4, [.null, .null, .null, .int 0, .null])), (q_1, .inr (7, [.null, .int 0, .int 0, .int 0, .int 0, .int 0, .int 0, .int 0]))] H := hP
  have hD : va_D A [(h0, .inr (4, [.null, .null, .null, .int 0, .null])), (q_1, .inr (7, [.null, .int 0, .int 0, .int 0, .int 0, .int 0, .int 0, .int 0]))] := hD
  refine W.widen (k := 1) (n := 8) (Nat.le_of_ble_eq_true rfl) (Nat.le_of_ble_eq_true rfl) ?_
  refine lv_dup hx hb dX4_init_8 rfl ?_
  have hPc := hP.sub (ws' := [(q_1, .inr (7, [.null, .int 0, .int 0, .int 0, .int 0, .int 0, .int 0, .int 0]))]) [1] rfl
  have hDc := hD.sub (ws' := [(q_1, .inr (7, [.null, .int 0, .int 0, .int 0, .int 0, .int 0, .int 0, .int 0]))]) [1] (by decide) rfl
  refine k_v (wc := [(q_1, .inr (7, [.null, .int 0, .int 0, .int 0, .int 0, .int 0, .int 0, .int 0]))]) (wr := [(h0, .inr (4, [.null, .null, .null, .int 0, .null]))]) hP hD hS hA [1] [0] rfl rfl rfl (by decide) (r_N (n := 0) (As := []) hx hb hml hown hts hkb hPc hDc (c_Tokens_init l D cB cI cJ cZ cS cW cT cR q_1) hkb.2.2.2.1 kw_41 kw_3 kw_42 rfl (by decide +kernel) ⟨Nat.le_of_ble_eq_true rfl, Nat.le_of_ble_eq_true rfl⟩ rfl rfl hl.1 (Nat.le_of_ble_eq_true rfl) dX4_init_9 ⟨Nat.le_of_ble_eq_true rfl, Nat.le_of_ble_eq_true rfl⟩) (fun u H locs hw hP hD hS => ?_)
  obtain ⟨q_2, rfl⟩ := hw
  have hP : va_P D cls [(h0, .inr (4, [.null, .null, .null, .int 0, .null])), (q_1, .inr (7, [.ref q_2, .int 0, .int 0, .int 0, .int 0, .int 0, .int 0, .int (-1)])), (q_2, .inl (cB, 0, .inl (fun _ => 0)))] H := hP
  have hD : va_D A [(h0, .inr (4, [.null, .null, .null, .int 0, .null])), (q_1, .inr (7, [.ref q_2, .int 0, .int 0, .int 0, .int 0, .int 0, .int 0, .int (-1)])), (q_2, .inl (cB, 0, .inl (fun _ => 0)))] := hD
  refine W.widen (k := 2) (n := 8) (Nat.le_of_ble_eq_true rfl) (Nat.le_of_ble_eq_true rfl) ?_
  refine va_putF (D := D) (ci := 4) (v := .ref q_1) (ty := tyX4 0) (C := RX4) (T := TX4) (N := 5) hx hb hts uX4 tyX4 tyX4_ok nmX4 hown hkb.1 hP hD hS 0 rfl rfl 0 (by decide) (hts _ kw_211) (fun _ h9 => h9) rfl hnm rfl (tyX4_ok 0 (by decide)) rfl rfl (Nat.le_of_ble_eq_true rfl) dX4_init_12 (fun H locs hP hD hS => ?_)
  have hP : va_P D cls [(h0, .inr (4, [.ref q_1, .null, .null, .int 0, .null])), (q_1, .inr (7, [.ref q_2, .int 0, .int 0, .int 0, .int 0, .int 0, .int 0, .int (-1)])), (q_2, .inl (cB, 0, .inl (fun _ => 0)))] H := hP
  have hD : va_D A [(h0, .inr (4, [.ref q_1, .null, .null, .int 0, .null])), (q_1, .inr (7, [.ref q_2, .int 0, .int 0, .int 0, .int 0, .int 0, .int 0, .int (-1)])), (q_2, .inl (cB, 0, .inl (fun _ => 0)))] := hD
  refine lv_aload_n hx hb dX4_init_15 rfl (lv_at hl 0 rfl) ?_
  refine va_new (ci := 3) (fs := [.null, .null, .int 0]) (C := RX3) (T := TX3) (N := 3) hx hb hts uX3 tyX3 tyX3_ok hown (hts _ kw_76) (hts _ kw_77) (hts _ kw_4) hkb.1 hP hD hS hA rfl dfX3 (Nat.le_of_ble_eq_true rfl) (Nat.le_of_ble_eq_true rfl) dX4_init_16 (fun q_4 H hP hD hS => ?_)
  have hP : va_P D cls [(h0, .inr (4, [.ref q_1, .null, .null, .int 0, .null])), (q_1, .inr (7, [.ref q_2, .int 0, .int 0, .int 0, .int 0, .int 0, .int 0, .int (-1)])), (q_2, .inl (cB, 0, .inl (fun _ => 0))), (q_4, .inr (3, [.null, .null, .int 0]))] H := hP
  have hD : va_D A [(h0, .inr (4, [.ref q_1, .null, .null, .int 0, .null])), (q_1, .inr (7, [.ref q_2, .int 0, .int 0, .int 0, .int 0, .int 0, .int 0, .int (-1)])), (q_2, .inl (cB, 0, .inl (fun _ => 0))), (q_4, .inr (3, [.null, .null, .int 0]))] := hD
  refine W.widen (k := 3) (n := 11) (Nat.le_of_ble_eq_true rfl) (Nat.le_of_ble_eq_true rfl) ?_
  refine lv_dup hx hb dX4_init_19 rfl ?_
  refine lv_aload_n hx hb dX4_init_20 rfl (lv_at hl 0 rfl) ?_
  refine va_get (D := D) (ci := 4) (v := .ref q_1) (C := RX4) (T := TX4) (N := 5) hx hb hts uX4 hown hkb.1 hP 0 rfl rfl 0 (by decide) (hts _ kw_211) (fun _ h9 => h9) rfl dX4_init_21 ?_
  have hPc := hP.sub (ws' := [(q_4, .inr (3, [.null, .null, .int 0]))]) [3] rfl
  have hDc := hD.sub (ws' := [(q_4, .inr (3, [.null, .null, .int 0]))]) [3] (by decide) rfl
  refine k_v (wc := [(q_4, .inr (3, [.null, .null, .int 0]))]) (wr := [(h0, .inr (4, [.ref q_1, .null, .null, .int 0, .null])), (q_1, .inr (7, [.ref q_2, .int 0, .int 0, .int 0, .int 0, .int 0, .int 0, .int (-1)])), (q_2, .inl (cB, 0, .inl (fun _ => 0)))]) hP hD hS hA [3] [0, 1, 2] rfl rfl rfl (by decide) (r_I (n := 1) (As := [.ref q_1]) hx hb hml hown hts hkb hPc hDc (c_LawReader_init l D cB cI cJ cZ cS cW cT cR q_4 q_1) kw_78 kw_79 kw_4 kw_80 rfl (by decide +kernel) ⟨Nat.le_of_ble_eq_true rfl, Nat.le_of_ble_eq_true rfl⟩ rfl rfl hl.1 (Nat.le_of_ble_eq_true rfl) dX4_init_24 ⟨Nat.le_of_ble_eq_true rfl, Nat.le_of_ble_eq_true rfl⟩) (fun u H locs hw hP hD hS => ?_)
  obtain ⟨q_5, rfl⟩ := hw
  have hP : va_P D cls [(h0, .inr (4, [.ref q_1, .null, .null, .int 0, .null])), (q_1, .inr (7, [.ref q_2, .int 0, .int 0, .int 0, .int 0, .int 0, .int 0, .int (-1)])), (q_2, .inl (cB, 0, .inl (fun _ => 0))), (q_4, .inr (3, [.ref q_1, .ref q_5, .int 0])), (q_5, .inl (cI, 900, .inl (fun _ => 0)))] H := hP
  have hD : va_D A [(h0, .inr (4, [.ref q_1, .null, .null, .int 0, .null])), (q_1, .inr (7, [.ref q_2, .int 0, .int 0, .int 0, .int 0, .int 0, .int 0, .int (-1)])), (q_2, .inl (cB, 0, .inl (fun _ => 0))), (q_4, .inr (3, [.ref q_1, .ref q_5, .int 0])), (q_5, .inl (cI, 900, .inl (fun _ => 0)))] := hD
  refine W.widen (k := 4) (n := 911) (Nat.le_of_ble_eq_true rfl) (Nat.le_of_ble_eq_true rfl) ?_
  refine va_putF (D := D) (ci := 4) (v := .ref q_4) (ty := tyX4 1) (C := RX4) (T := TX4) (N := 5) hx hb hts uX4 tyX4 tyX4_ok nmX4 hown hkb.1 hP hD hS 0 rfl rfl 1 (by decide) (hts _ kw_213) (fun _ h9 => h9) rfl hnm rfl (tyX4_ok 1 (by decide)) rfl rfl (Nat.le_of_ble_eq_true rfl) dX4_init_27 (fun H locs hP hD hS => ?_)
  have hP : va_P D cls [(h0, .inr (4, [.ref q_1, .ref q_4, .null, .int 0, .null])), (q_1, .inr (7, [.ref q_2, .int 0, .int 0, .int 0, .int 0, .int 0, .int 0, .int (-1)])), (q_2, .inl (cB, 0, .inl (fun _ => 0))), (q_4, .inr (3, [.ref q_1, .ref q_5, .int 0])), (q_5, .inl (cI, 900, .inl (fun _ => 0)))] H := hP
  have hD : va_D A [(h0, .inr (4, [.ref q_1, .ref q_4, .null, .int 0, .null])), (q_1, .inr (7, [.ref q_2, .int 0, .int 0, .int 0, .int 0, .int 0, .int 0, .int (-1)])), (q_2, .inl (cB, 0, .inl (fun _ => 0))), (q_4, .inr (3, [.ref q_1, .ref q_5, .int 0])), (q_5, .inl (cI, 900, .inl (fun _ => 0)))] := hD
  refine lv_aload_n hx hb dX4_init_30 rfl (lv_at hl 0 rfl) ?_
  refine va_new (ci := 9) (fs := [.int 0, .int 0, .int 0, .int 0, .int 0, .int 0, .null, .null, .null, .null, .null, .null, .int 0, .int 0]) (C := RX9) (T := TX9) (N := 14) hx hb hts uX9 tyX9 tyX9_ok hown (hts _ kw_93) (hts _ kw_94) (hts _ kw_5) hkb.1 hP hD hS hA rfl dfX9 (Nat.le_of_ble_eq_true rfl) (Nat.le_of_ble_eq_true rfl) dX4_init_31 (fun q_7 H hP hD hS => ?_)
  have hP : va_P D cls [(h0, .inr (4, [.ref q_1, .ref q_4, .null, .int 0, .null])), (q_1, .inr (7, [.ref q_2, .int 0, .int 0, .int 0, .int 0, .int 0, .int 0, .int (-1)])), (q_2, .inl (cB, 0, .inl (fun _ => 0))), (q_4, .inr (3, [.ref q_1, .ref q_5, .int 0])), (q_5, .inl (cI, 900, .inl (fun _ => 0))), (q_7, .inr (9, [.int 0, .int 0, .int 0, .int 0, .int 0, .int 0, .null, .null, .null, .null, .null, .null, .int 0, .int 0]))] H := hP
  have hD : va_D A [(h0, .inr (4, [.ref q_1, .ref q_4, .null, .int 0, .null])), (q_1, .inr (7, [.ref q_2, .int 0, .int 0, .int 0, .int 0, .int 0, .int 0, .int (-1)])), (q_2, .inl (cB, 0, .inl (fun _ => 0))), (q_4, .inr (3, [.ref q_1, .ref q_5, .int 0])), (q_5, .inl (cI, 900, .inl (fun _ => 0))), (q_7, .inr (9, [.int 0, .int 0, .int 0, .int 0, .int 0, .int 0, .null, .null, .null, .null, .null, .null, .int 0, .int 0]))] := hD
  refine W.widen (k := 5) (n := 925) (Nat.le_of_ble_eq_true rfl) (Nat.le_of_ble_eq_true rfl) ?_
  refine lv_dup hx hb dX4_init_34 rfl ?_
  refine lv_bipush (v := 14) hx hb dX4_init_35 (by decide) ?_
  refine lv_iconst (v := 5) hx hb dX4_init_37 (by decide) ?_
  refine lv_null hx hb dX4_init_38 ?_
  have hPc := hP.sub (ws' := [(q_7, .inr (9, [.int 0, .int 0, .int 0, .int 0, .int 0, .int 0, .null, .null, .null, .null, .null, .null, .int 0, .int 0]))]) [5] rfl
  have hDc := hD.sub (ws' := [(q_7, .inr (9, [.int 0, .int 0, .int 0, .int 0, .int 0, .int 0, .null, .null, .null, .null, .null, .null, .int 0, .int 0]))]) [5] (by decide) rfl
  refine k_v (wc := [(q_7, .inr (9, [.int 0, .int 0, .int 0, .int 0, .int 0, .int 0, .null, .null, .null, .null, .null, .null, .int 0, .int 0]))]) (wr := [(h0, .inr (4, [.ref q_1, .ref q_4, .null, .int 0, .null])), (q_1, .inr (7, [.ref q_2, .int 0, .int 0, .int 0, .int 0, .int 0, .int 0, .int (-1)])), (q_2, .inl (cB, 0, .inl (fun _ => 0))), (q_4, .inr (3, [.ref q_1, .ref q_5, .int 0])), (q_5, .inl (cI, 900, .inl (fun _ => 0)))]) hP hD hS hA [5] [0, 1, 2, 3, 4] rfl rfl rfl (by decide) (r_I (n := 3) (As := [.int 14, .int 5, .null]) hx hb hml hown hts hkb hPc hDc (c_Wall_init_14 l D cB cI cJ cZ cS cW cT cR q_7) kw_95 kw_96 kw_5 kw_97 rfl (by decide +kernel) ⟨Nat.le_of_ble_eq_true rfl, Nat.le_of_ble_eq_true rfl⟩ rfl rfl hl.1 (Nat.le_of_ble_eq_true rfl) dX4_init_39 ⟨Nat.le_of_ble_eq_true rfl, Nat.le_of_ble_eq_true rfl⟩) (fun u H locs hw hP hD hS => ?_)
  obtain ⟨q_8, q_9, q_10, q_11, q_12, rfl⟩ := hw
  have hP : va_P D cls [(h0, .inr (4, [.ref q_1, .ref q_4, .null, .int 0, .null])), (q_1, .inr (7, [.ref q_2, .int 0, .int 0, .int 0, .int 0, .int 0, .int 0, .int (-1)])), (q_2, .inl (cB, 0, .inl (fun _ => 0))), (q_4, .inr (3, [.ref q_1, .ref q_5, .int 0])), (q_5, .inl (cI, 900, .inl (fun _ => 0))), (q_7, .inr (9, [.int 14, .int 5, .int 0, .int 0, .int 0, .int 0, .ref q_8, .ref q_9, .ref q_10, .ref q_11, .ref q_12, .null, .int 0, .int 1])), (q_8, .inl (cI, 14, .inl (fun _ => 0))), (q_9, .inl (cI, 14, .inl (fun _ => 0))), (q_10, .inl (cI, 14, .inl (fun _ => 0))), (q_11, .inl (cI, 5, .inl (fun _ => 0))), (q_12, .inl (cI, 5, .inl (fun _ => 0)))] H := hP
  have hD : va_D A [(h0, .inr (4, [.ref q_1, .ref q_4, .null, .int 0, .null])), (q_1, .inr (7, [.ref q_2, .int 0, .int 0, .int 0, .int 0, .int 0, .int 0, .int (-1)])), (q_2, .inl (cB, 0, .inl (fun _ => 0))), (q_4, .inr (3, [.ref q_1, .ref q_5, .int 0])), (q_5, .inl (cI, 900, .inl (fun _ => 0))), (q_7, .inr (9, [.int 14, .int 5, .int 0, .int 0, .int 0, .int 0, .ref q_8, .ref q_9, .ref q_10, .ref q_11, .ref q_12, .null, .int 0, .int 1])), (q_8, .inl (cI, 14, .inl (fun _ => 0))), (q_9, .inl (cI, 14, .inl (fun _ => 0))), (q_10, .inl (cI, 14, .inl (fun _ => 0))), (q_11, .inl (cI, 5, .inl (fun _ => 0))), (q_12, .inl (cI, 5, .inl (fun _ => 0)))] := hD
  refine W.widen (k := 10) (n := 977) (Nat.le_of_ble_eq_true rfl) (Nat.le_of_ble_eq_true rfl) ?_
  refine va_putF (D := D) (ci := 4) (v := .ref q_7) (ty := tyX4 2) (C := RX4) (T := TX4) (N := 5) hx hb hts uX4 tyX4 tyX4_ok nmX4 hown hkb.1 hP hD hS 0 rfl rfl 2 (by decide) (hts _ kw_214) (fun _ h9 => h9) rfl hnm rfl (tyX4_ok 2 (by decide)) rfl rfl (Nat.le_of_ble_eq_true rfl) dX4_init_42 (fun H locs hP hD hS => ?_)
  have hP : va_P D cls [(h0, .inr (4, [.ref q_1, .ref q_4, .ref q_7, .int 0, .null])), (q_1, .inr (7, [.ref q_2, .int 0, .int 0, .int 0, .int 0, .int 0, .int 0, .int (-1)])), (q_2, .inl (cB, 0, .inl (fun _ => 0))), (q_4, .inr (3, [.ref q_1, .ref q_5, .int 0])), (q_5, .inl (cI, 900, .inl (fun _ => 0))), (q_7, .inr (9, [.int 14, .int 5, .int 0, .int 0, .int 0, .int 0, .ref q_8, .ref q_9, .ref q_10, .ref q_11, .ref q_12, .null, .int 0, .int 1])), (q_8, .inl (cI, 14, .inl (fun _ => 0))), (q_9, .inl (cI, 14, .inl (fun _ => 0))), (q_10, .inl (cI, 14, .inl (fun _ => 0))), (q_11, .inl (cI, 5, .inl (fun _ => 0))), (q_12, .inl (cI, 5, .inl (fun _ => 0)))] H := hP
  have hD : va_D A [(h0, .inr (4, [.ref q_1, .ref q_4, .ref q_7, .int 0, .null])), (q_1, .inr (7, [.ref q_2, .int 0, .int 0, .int 0, .int 0, .int 0, .int 0, .int (-1)])), (q_2, .inl (cB, 0, .inl (fun _ => 0))), (q_4, .inr (3, [.ref q_1, .ref q_5, .int 0])), (q_5, .inl (cI, 900, .inl (fun _ => 0))), (q_7, .inr (9, [.int 14, .int 5, .int 0, .int 0, .int 0, .int 0, .ref q_8, .ref q_9, .ref q_10, .ref q_11, .ref q_12, .null, .int 0, .int 1])), (q_8, .inl (cI, 14, .inl (fun _ => 0))), (q_9, .inl (cI, 14, .inl (fun _ => 0))), (q_10, .inl (cI, 14, .inl (fun _ => 0))), (q_11, .inl (cI, 5, .inl (fun _ => 0))), (q_12, .inl (cI, 5, .inl (fun _ => 0)))] := hD
  refine lv_aload_n hx hb dX4_init_45 rfl (lv_at hl 0 rfl) ?_
  refine lv_iconst (v := 0) hx hb dX4_init_46 (by decide) ?_
  refine va_put (D := D) (ci := 4) (v := .int 0) (ty := tyX4 3) (C := RX4) (T := TX4) (N := 5) hx hb hts uX4 tyX4 tyX4_ok nmX4 hown hkb.1 hP hD hS 0 rfl rfl 3 (by decide) (hts _ kw_215) (fun _ h9 => h9) rfl (tyX4_ok 3 (by decide)) rfl rfl (Nat.le_of_ble_eq_true rfl) dX4_init_47 (fun H locs hP hD hS => ?_)
  have hP : va_P D cls [(h0, .inr (4, [.ref q_1, .ref q_4, .ref q_7, .int 0, .null])), (q_1, .inr (7, [.ref q_2, .int 0, .int 0, .int 0, .int 0, .int 0, .int 0, .int (-1)])), (q_2, .inl (cB, 0, .inl (fun _ => 0))), (q_4, .inr (3, [.ref q_1, .ref q_5, .int 0])), (q_5, .inl (cI, 900, .inl (fun _ => 0))), (q_7, .inr (9, [.int 14, .int 5, .int 0, .int 0, .int 0, .int 0, .ref q_8, .ref q_9, .ref q_10, .ref q_11, .ref q_12, .null, .int 0, .int 1])), (q_8, .inl (cI, 14, .inl (fun _ => 0))), (q_9, .inl (cI, 14, .inl (fun _ => 0))), (q_10, .inl (cI, 14, .inl (fun _ => 0))), (q_11, .inl (cI, 5, .inl (fun _ => 0))), (q_12, .inl (cI, 5, .inl (fun _ => 0)))] H := hP
  have hD : va_D A [(h0, .inr (4, [.ref q_1, .ref q_4, .ref q_7, .int 0, .null])), (q_1, .inr (7, [.ref q_2, .int 0, .int 0, .int 0, .int 0, .int 0, .int 0, .int (-1)])), (q_2, .inl (cB, 0, .inl (fun _ => 0))), (q_4, .inr (3, [.ref q_1, .ref q_5, .int 0])), (q_5, .inl (cI, 900, .inl (fun _ => 0))), (q_7, .inr (9, [.int 14, .int 5, .int 0, .int 0, .int 0, .int 0, .ref q_8, .ref q_9, .ref q_10, .ref q_11, .ref q_12, .null, .int 0, .int 1])), (q_8, .inl (cI, 14, .inl (fun _ => 0))), (q_9, .inl (cI, 14, .inl (fun _ => 0))), (q_10, .inl (cI, 14, .inl (fun _ => 0))), (q_11, .inl (cI, 5, .inl (fun _ => 0))), (q_12, .inl (cI, 5, .inl (fun _ => 0)))] := hD
  refine lv_aload_n hx hb dX4_init_50 rfl (lv_at hl 0 rfl) ?_
  refine va_new (ci := 6) (fs := [.int 0, .int 0, .int 0, .int 0, .null, .null]) (C := RX6) (T := TX6) (N := 6) hx hb hts uX6 tyX6 tyX6_ok hown (hts _ kw_179) (hts _ kw_180) (hts _ kw_7) hkb.1 hP hD hS hA rfl dfX6 (Nat.le_of_ble_eq_true rfl) (Nat.le_of_ble_eq_true rfl) dX4_init_51 (fun q_14 H hP hD hS => ?_)
  have hP : va_P D cls [(h0, .inr (4, [.ref q_1, .ref q_4, .ref q_7, .int 0, .null])), (q_1, .inr (7, [.ref q_2, .int 0, .int 0, .int 0, .int 0, .int 0, .int 0, .int (-1)])), (q_2, .inl (cB, 0, .inl (fun _ => 0))), (q_4, .inr (3, [.ref q_1, .ref q_5, .int 0])), (q_5, .inl (cI, 900, .inl (fun _ => 0))), (q_7, .inr (9, [.int 14, .int 5, .int 0, .int 0, .int 0, .int 0, .ref q_8, .ref q_9, .ref q_10, .ref q_11, .ref q_12, .null, .int 0, .int 1])), (q_8, .inl (cI, 14, .inl (fun _ => 0))), (q_9, .inl (cI, 14, .inl (fun _ => 0))), (q_10, .inl (cI, 14, .inl (fun _ => 0))), (q_11, .inl (cI, 5, .inl (fun _ => 0))), (q_12, .inl (cI, 5, .inl (fun _ => 0))), (q_14, .inr (6, [.int 0, .int 0, .int 0, .int 0, .null, .null]))] H := hP
  have hD : va_D A [(h0, .inr (4, [.ref q_1, .ref q_4, .ref q_7, .int 0, .null])), (q_1, .inr (7, [.ref q_2, .int 0, .int 0, .int 0, .int 0, .int 0, .int 0, .int (-1)])), (q_2, .inl (cB, 0, .inl (fun _ => 0))), (q_4, .inr (3, [.ref q_1, .ref q_5, .int 0])), (q_5, .inl (cI, 900, .inl (fun _ => 0))), (q_7, .inr (9, [.int 14, .int 5, .int 0, .int 0, .int 0, .int 0, .ref q_8, .ref q_9, .ref q_10, .ref q_11, .ref q_12, .null, .int 0, .int 1])), (q_8, .inl (cI, 14, .inl (fun _ => 0))), (q_9, .inl (cI, 14, .inl (fun _ => 0))), (q_10, .inl (cI, 14, .inl (fun _ => 0))), (q_11, .inl (cI, 5, .inl (fun _ => 0))), (q_12, .inl (cI, 5, .inl (fun _ => 0))), (q_14, .inr (6, [.int 0, .int 0, .int 0, .int 0, .null, .null]))] := hD
  refine W.widen (k := 11) (n := 983) (Nat.le_of_ble_eq_true rfl) (Nat.le_of_ble_eq_true rfl) ?_
  refine lv_dup hx hb dX4_init_54 rfl ?_
  have hPc := hP.sub (ws' := [(q_14, .inr (6, [.int 0, .int 0, .int 0, .int 0, .null, .null]))]) [11] rfl
  have hDc := hD.sub (ws' := [(q_14, .inr (6, [.int 0, .int 0, .int 0, .int 0, .null, .null]))]) [11] (by decide) rfl
  refine k_v (wc := [(q_14, .inr (6, [.int 0, .int 0, .int 0, .int 0, .null, .null]))]) (wr := [(h0, .inr (4, [.ref q_1, .ref q_4, .ref q_7, .int 0, .null])), (q_1, .inr (7, [.ref q_2, .int 0, .int 0, .int 0, .int 0, .int 0, .int 0, .int (-1)])), (q_2, .inl (cB, 0, .inl (fun _ => 0))), (q_4, .inr (3, [.ref q_1, .ref q_5, .int 0])), (q_5, .inl (cI, 900, .inl (fun _ => 0))), (q_7, .inr (9, [.int 14, .int 5, .int 0, .int 0, .int 0, .int 0, .ref q_8, .ref q_9, .ref q_10, .ref q_11, .ref q_12, .null, .int 0, .int 1])), (q_8, .inl (cI, 14, .inl (fun _ => 0))), (q_9, .inl (cI, 14, .inl (fun _ => 0))), (q_10, .inl (cI, 14, .inl (fun _ => 0))), (q_11, .inl (cI, 5, .inl (fun _ => 0))), (q_12, .inl (cI, 5, .inl (fun _ => 0)))]) hP hD hS hA [11] [0, 1, 2, 3, 4, 5, 6, 7, 8, 9, 10] rfl rfl rfl (by decide) (r_N (n := 0) (As := []) hx hb hml hown hts hkb hPc hDc (c_State_init l D cB cI cJ cZ cS cW cT cR q_14) hkb.2.2.2.2.1 kw_182 kw_7 kw_183 rfl (by decide +kernel) ⟨Nat.le_of_ble_eq_true rfl, Nat.le_of_ble_eq_true rfl⟩ rfl rfl hl.1 (Nat.le_of_ble_eq_true rfl) dX4_init_55 ⟨Nat.le_of_ble_eq_true rfl, Nat.le_of_ble_eq_true rfl⟩) (fun u H locs hw hP hD hS => ?_)
  obtain ⟨q_15, q_16, rfl⟩ := hw
  have hP : va_P D cls [(h0, .inr (4, [.ref q_1, .ref q_4, .ref q_7, .int 0, .null])), (q_1, .inr (7, [.ref q_2, .int 0, .int 0, .int 0, .int 0, .int 0, .int 0, .int (-1)])), (q_2, .inl (cB, 0, .inl (fun _ => 0))), (q_4, .inr (3, [.ref q_1, .ref q_5, .int 0])), (q_5, .inl (cI, 900, .inl (fun _ => 0))), (q_7, .inr (9, [.int 14, .int 5, .int 0, .int 0, .int 0, .int 0, .ref q_8, .ref q_9, .ref q_10, .ref q_11, .ref q_12, .null, .int 0, .int 1])), (q_8, .inl (cI, 14, .inl (fun _ => 0))), (q_9, .inl (cI, 14, .inl (fun _ => 0))), (q_10, .inl (cI, 14, .inl (fun _ => 0))), (q_11, .inl (cI, 5, .inl (fun _ => 0))), (q_12, .inl (cI, 5, .inl (fun _ => 0))), (q_14, .inr (6, [.int 0, .int 0, .int 0, .int 0, .ref q_15, .ref q_16])), (q_15, .inl (cI, 14, .inl (fun _ => 0))), (q_16, .inl (cI, 14, .inl (fun _ => 0)))] H := hP
  have hD : va_D A [(h0, .inr (4, [.ref q_1, .ref q_4, .ref q_7, .int 0, .null])), (q_1, .inr (7, [.ref q_2, .int 0, .int 0, .int 0, .int 0, .int 0, .int 0, .int (-1)])), (q_2, .inl (cB, 0, .inl (fun _ => 0))), (q_4, .inr (3, [.ref q_1, .ref q_5, .int 0])), (q_5, .inl (cI, 900, .inl (fun _ => 0))), (q_7, .inr (9, [.int 14, .int 5, .int 0, .int 0, .int 0, .int 0, .ref q_8, .ref q_9, .ref q_10, .ref q_11, .ref q_12, .null, .int 0, .int 1])), (q_8, .inl (cI, 14, .inl (fun _ => 0))), (q_9, .inl (cI, 14, .inl (fun _ => 0))), (q_10, .inl (cI, 14, .inl (fun _ => 0))), (q_11, .inl (cI, 5, .inl (fun _ => 0))), (q_12, .inl (cI, 5, .inl (fun _ => 0))), (q_14, .inr (6, [.int 0, .int 0, .int 0, .int 0, .ref q_15, .ref q_16])), (q_15, .inl (cI, 14, .inl (fun _ => 0))), (q_16, .inl (cI, 14, .inl (fun _ => 0)))] := hD
  refine W.widen (k := 13) (n := 1011) (Nat.le_of_ble_eq_true rfl) (Nat.le_of_ble_eq_true rfl) ?_
  refine va_putF (D := D) (ci := 4) (v := .ref q_14) (ty := tyX4 4) (C := RX4) (T := TX4) (N := 5) hx hb hts uX4 tyX4 tyX4_ok nmX4 hown hkb.1 hP hD hS 0 rfl rfl 4 (by decide) (hts _ kw_216) (fun _ h9 => h9) rfl hnm rfl (tyX4_ok 4 (by decide)) rfl rfl (Nat.le_of_ble_eq_true rfl) dX4_init_58 (fun H locs hP hD hS => ?_)
  have hP : va_P D cls [(h0, .inr (4, [.ref q_1, .ref q_4, .ref q_7, .int 0, .ref q_14])), (q_1, .inr (7, [.ref q_2, .int 0, .int 0, .int 0, .int 0, .int 0, .int 0, .int (-1)])), (q_2, .inl (cB, 0, .inl (fun _ => 0))), (q_4, .inr (3, [.ref q_1, .ref q_5, .int 0])), (q_5, .inl (cI, 900, .inl (fun _ => 0))), (q_7, .inr (9, [.int 14, .int 5, .int 0, .int 0, .int 0, .int 0, .ref q_8, .ref q_9, .ref q_10, .ref q_11, .ref q_12, .null, .int 0, .int 1])), (q_8, .inl (cI, 14, .inl (fun _ => 0))), (q_9, .inl (cI, 14, .inl (fun _ => 0))), (q_10, .inl (cI, 14, .inl (fun _ => 0))), (q_11, .inl (cI, 5, .inl (fun _ => 0))), (q_12, .inl (cI, 5, .inl (fun _ => 0))), (q_14, .inr (6, [.int 0, .int 0, .int 0, .int 0, .ref q_15, .ref q_16])), (q_15, .inl (cI, 14, .inl (fun _ => 0))), (q_16, .inl (cI, 14, .inl (fun _ => 0)))] H := hP
  have hD : va_D A [(h0, .inr (4, [.ref q_1, .ref q_4, .ref q_7, .int 0, .ref q_14])), (q_1, .inr (7, [.ref q_2, .int 0, .int 0, .int 0, .int 0, .int 0, .int 0, .int (-1)])), (q_2, .inl (cB, 0, .inl (fun _ => 0))), (q_4, .inr (3, [.ref q_1, .ref q_5, .int 0])), (q_5, .inl (cI, 900, .inl (fun _ => 0))), (q_7, .inr (9, [.int 14, .int 5, .int 0, .int 0, .int 0, .int 0, .ref q_8, .ref q_9, .ref q_10, .ref q_11, .ref q_12, .null, .int 0, .int 1])), (q_8, .inl (cI, 14, .inl (fun _ => 0))), (q_9, .inl (cI, 14, .inl (fun _ => 0))), (q_10, .inl (cI, 14, .inl (fun _ => 0))), (q_11, .inl (cI, 5, .inl (fun _ => 0))), (q_12, .inl (cI, 5, .inl (fun _ => 0))), (q_14, .inr (6, [.int 0, .int 0, .int 0, .int 0, .ref q_15, .ref q_16])), (q_15, .inl (cI, 14, .inl (fun _ => 0))), (q_16, .inl (cI, 14, .inl (fun _ => 0)))] := hD
  refine W.widen (k := 13) (n := 1011) (Nat.le_of_ble_eq_true rfl) (Nat.le_of_ble_eq_true rfl) ?_
  exact e_v (u := [(h0, .inr (4, [.ref q_1, .ref q_4, .ref q_7, .int 0, .ref q_14])), (q_1, .inr (7, [.ref q_2, .int 0, .int 0, .int 0, .int 0, .int 0, .int 0, .int (-1)])), (q_2, .inl (cB, 0, .inl (fun _ => 0))), (q_4, .inr (3, [.ref q_1, .ref q_5, .int 0])), (q_5, .inl (cI, 900, .inl (fun _ => 0))), (q_7, .inr (9, [.int 14, .int 5, .int 0, .int 0, .int 0, .int 0, .ref q_8, .ref q_9, .ref q_10, .ref q_11, .ref q_12, .null, .int 0, .int 1])), (q_8, .inl (cI, 14, .inl (fun _ => 0))), (q_9, .inl (cI, 14, .inl (fun _ => 0))), (q_10, .inl (cI, 14, .inl (fun _ => 0))), (q_11, .inl (cI, 5, .inl (fun _ => 0))), (q_12, .inl (cI, 5, .inl (fun _ => 0))), (q_14, .inr (6, [.int 0, .int 0, .int 0, .int 0, .ref q_15, .ref q_16])), (q_15, .inl (cI, 14, .inl (fun _ => 0))), (q_16, .inl (cI, 14, .inl (fun _ => 0)))]) hx hb hr hlocks (hP.sub (ws' := [(h0, .inr (4, [.ref q_1, .ref q_4, .ref q_7, .int 0, .ref q_14])), (q_1, .inr (7, [.ref q_2, .int 0, .int 0, .int 0, .int 0, .int 0, .int 0, .int (-1)])), (q_2, .inl (cB, 0, .inl (fun _ => 0))), (q_4, .inr (3, [.ref q_1, .ref q_5, .int 0])), (q_5, .inl (cI, 900, .inl (fun _ => 0))), (q_7, .inr (9, [.int 14, .int 5, .int 0, .int 0, .int 0, .int 0, .ref q_8, .ref q_9, .ref q_10, .ref q_11, .ref q_12, .null, .int 0, .int 1])), (q_8, .inl (cI, 14, .inl (fun _ => 0))), (q_9, .inl (cI, 14, .inl (fun _ => 0))), (q_10, .inl (cI, 14, .inl (fun _ => 0))), (q_11, .inl (cI, 5, .inl (fun _ => 0))), (q_12, .inl (cI, 5, .inl (fun _ => 0))), (q_14, .inr (6, [.int 0, .int 0, .int 0, .int 0, .ref q_15, .ref q_16])), (q_15, .inl (cI, 14, .inl (fun _ => 0))), (q_16, .inl (cI, 14, .inl (fun _ => 0)))]) [0, 1, 2, 3, 4, 5, 6, 7, 8, 9, 10, 11, 12, 13] rfl) (hD.sub (ws' := [(h0, .inr (4, [.ref q_1, .ref q_4, .ref q_7, .int 0, .ref q_14])), (q_1, .inr (7, [.ref q_2, .int 0, .int 0, .int 0, .int 0, .int 0, .int 0, .int (-1)])), (q_2, .inl (cB, 0, .inl (fun _ => 0))), (q_4, .inr (3, [.ref q_1, .ref q_5, .int 0])), (q_5, .inl (cI, 900, .inl (fun _ => 0))), (q_7, .inr (9, [.int 14, .int 5, .int 0, .int 0, .int 0, .int 0, .ref q_8, .ref q_9, .ref q_10, .ref q_11, .ref q_12, .null, .int 0, .int 1])), (q_8, .inl (cI, 14, .inl (fun _ => 0))), (q_9, .inl (cI, 14, .inl (fun _ => 0))), (q_10, .inl (cI, 14, .inl (fun _ => 0))), (q_11, .inl (cI, 5, .inl (fun _ => 0))), (q_12, .inl (cI, 5, .inl (fun _ => 0))), (q_14, .inr (6, [.int 0, .int 0, .int 0, .int 0, .ref q_15, .ref q_16])), (q_15, .inl (cI, 14, .inl (fun _ => 0))), (q_16, .inl (cI, 14, .inl (fun _ => 0)))]) [0, 1, 2, 3, 4, 5, 6, 7, 8, 9, 10, 11, 12, 13] (by decide) rfl) hS ⟨q_1, q_4, q_7, q_14, q_2, q_5, q_8, q_9, q_10, q_11, q_12, q_15, q_16, rfl⟩ dX4_init_61
set_option maxHeartbeats 4000000 in
set_option maxRecDepth 100000 in
theorem c_plain3906 (l : Launch) (D : va_G) (cB cI cJ cZ cS cW cT cR : ClassId) (a_to : Nat) : Kon l D (tyl cB cI cJ cZ cS cW cT cR) yX12_plain cX12_plain 2 none { frames := 0, cells := 0, slots := 0, locals := 0 } [.ref a_to] [(a_to, .inl (cI, 3906, .inl (fun _ => 0)))] (Qv D (fun u => u = [(a_to, .inl (cI, 3906, .inl plc))])) := by
  refine kon_of (by decide) (Nat.le_of_ble_eq_true rfl) (fun p e s m below meth c ls A hx hb hr hml hown hts hlocks hnm hkb hP hD hS hA hl => ?_)
  have hown : s.vm.findClass RX12 = some m.cls := hown
  have hl : lv_has ls 2 [(0, .ref a_to)] := hl
  have hP : va_P D cls [(a_to, .inl (cI, 3906, .inl (fun _ => 0)))] s.heap := hP
  refine lv_iconst (v := 0) hx hb dX12_plain_0 (by decide) ?_
  refine lv_istore_n (lv' := [(1, .int 0), (0, .ref a_to)]) hx hb dX12_plain_1 rfl hl (by decide) rfl (fun ls hl => ?_)
  have lp_5 : ∀ (n_1 k_2 : Nat) (x_3 : Int32) (H : Heap) (locs : List Loc) (ls : Array Slot), k_2 + n_1 = 1302 → x_3 = nI k_2 → va_P D cls [(a_to, .inl (cI, 3906, .inl (fun _ => 0)))] H → va_D A [(a_to, .inl (cI, 3906, .inl (fun _ => 0)))] → va_S A s.heap H locs → lv_has ls 2 [(1, .int x_3), (0, .ref a_to)] → W p l e { frames := 0, cells := 0, slots := 0, locals := 0 } s m [.ref a_to].toArray below meth c H locs 0 0 (MQ below (Qv D (fun u => u = [(a_to, .inl (cI, 3906, .inl plc))]) A) [.ref a_to].toArray s 0 0 A) (F0 m 2 ls []) := by
    intro n_1
    induction n_1 with
    | zero =>
      intro k_2 x_3  H locs ls hk_4 hx_3  hP hD hS hl
      have hzx_3 : x_3.toInt = (k_2 : Int) := by rw [hx_3]; exact nI_toInt (by omega)
      refine lv_iload_n hx hb dX12_plain_2 rfl (lv_at hl 0 rfl) ?_
      refine lv_sipush (v := 1302) hx hb dX12_plain_3 (by decide) ?_
      refine lv_icmp_ge (tgt := 19) hx hb dX12_plain_6 (by decide) (fun _ => ?_) (fun c_6 => by exfalso; have tc_6 := f_nge (k := 1302) (by decide) c_6; omega)
      refine lv_iconst (v := 0) hx hb dX12_plain_19 (by decide) ?_
      refine lv_istore_n (lv' := [(1, .int 0), (0, .ref a_to)]) hx hb dX12_plain_20 rfl hl (by decide) rfl (fun ls hl => ?_)
      have lp_11 : ∀ (n_7 k_8 : Nat) (x_9 : Int32) (H : Heap) (locs : List Loc) (ls : Array Slot), k_8 + n_7 = 14 → x_9 = nI k_8 → va_P D cls [(a_to, .inl (cI, 3906, .inl (plh k_8)))] H → va_D A [(a_to, .inl (cI, 3906, .inl (plh k_8)))] → va_S A s.heap H locs → lv_has ls 2 [(1, .int x_9), (0, .ref a_to)] → W p l e { frames := 0, cells := 0, slots := 0, locals := 0 } s m [.ref a_to].toArray below meth c H locs 0 0 (MQ below (Qv D (fun u => u = [(a_to, .inl (cI, 3906, .inl plc))]) A) [.ref a_to].toArray s 0 0 A) (F0 m 21 ls []) := by
        intro n_7
        induction n_7 with
        | zero =>
          intro k_8 x_9  H locs ls hk_10 hx_9  hP hD hS hl
          have hzx_9 : x_9.toInt = (k_8 : Int) := by rw [hx_9]; exact nI_toInt (by omega)
          obtain rfl : k_8 = 14 := by omega
          have hP : va_P D cls [(a_to, .inl (cI, 3906, .inl plc))] H := hP
          have hD : va_D A [(a_to, .inl (cI, 3906, .inl plc))] := hD
          refine lv_iload_n hx hb dX12_plain_21 rfl (lv_at hl 0 rfl) ?_
          refine lv_bipush (v := 14) hx hb dX12_plain_22 (by decide) ?_
          refine lv_icmp_ge (tgt := 47) hx hb dX12_plain_24 (by decide) (fun _ => ?_) (fun c_12 => by exfalso; have tc_12 := f_nge (k := 14) (by decide) c_12; omega)
          refine W.widen (k := 0) (n := 0) (Nat.le_of_ble_eq_true rfl) (Nat.le_of_ble_eq_true rfl) ?_
          exact e_v (u := [(a_to, .inl (cI, 3906, .inl plc))]) hx hb hr hlocks (hP.sub (ws' := [(a_to, .inl (cI, 3906, .inl plc))]) [0] rfl) (hD.sub (ws' := [(a_to, .inl (cI, 3906, .inl plc))]) [0] (by decide) rfl) hS rfl dX12_plain_47
        | succ n_7 ih =>
          intro k_8 x_9  H locs ls hk_10 hx_9  hP hD hS hl
          have hzx_9 : x_9.toInt = (k_8 : Int) := by rw [hx_9]; exact nI_toInt (by omega)
          refine lv_iload_n hx hb dX12_plain_21 rfl (lv_at hl 0 rfl) ?_
          refine lv_bipush (v := 14) hx hb dX12_plain_22 (by decide) ?_
          refine lv_icmp_ge (tgt := 47) hx hb dX12_plain_24 (by decide) (fun c_13 => by exfalso; have tc_13 := f_ge (k := 14) (by decide) c_13; omega) (fun _ => ?_)
          refine lv_aload_n hx hb dX12_plain_27 rfl (lv_at hl 1 rfl) ?_
          refine lv_bipush (v := 59) hx hb dX12_plain_28 (by decide) ?_
          refine lv_iload_n hx hb dX12_plain_30 rfl (lv_at hl 0 rfl) ?_
          refine lv_iadd hx hb dX12_plain_31 ?_
          refine lv_topc (y := nI (59 + k_8)) (by rw [hx_9]; exact nI_add 59 k_8) ?_
          refine lv_iconst (v := (-1)) hx hb dX12_plain_32 (by decide) ?_
          refine s_i 0 1 hx hb hkb.1 hP hD hS rfl rfl (in_n (by omega) (by decide)) (59 + k_8) (nI_clamp (by omega)) dX12_plain_33 (fun H locs hP hD hS => ?_)
          have hP : va_P D cls [(a_to, .inl (cI, 3906, .inl (upd (plh k_8) (59 + k_8) (-1))))] H := hP
          have hD : va_D A [(a_to, .inl (cI, 3906, .inl (upd (plh k_8) (59 + k_8) (-1))))] := hD
          refine lv_aload_n hx hb dX12_plain_34 rfl (lv_at hl 1 rfl) ?_
          refine lv_bipush (v := 73) hx hb dX12_plain_35 (by decide) ?_
          refine lv_iload_n hx hb dX12_plain_37 rfl (lv_at hl 0 rfl) ?_
          refine lv_iadd hx hb dX12_plain_38 ?_
          refine lv_topc (y := nI (73 + k_8)) (by rw [hx_9]; exact nI_add 73 k_8) ?_
          refine lv_iconst (v := (-1)) hx hb dX12_plain_39 (by decide) ?_
          refine s_i 0 1 hx hb hkb.1 hP hD hS rfl rfl (in_n (by omega) (by decide)) (73 + k_8) (nI_clamp (by omega)) dX12_plain_40 (fun H locs hP hD hS => ?_)
          have hP : va_P D cls [(a_to, .inl (cI, 3906, .inl (upd (upd (plh k_8) (59 + k_8) (-1)) (73 + k_8) (-1))))] H := hP
          have hD : va_D A [(a_to, .inl (cI, 3906, .inl (upd (upd (plh k_8) (59 + k_8) (-1)) (73 + k_8) (-1))))] := hD
          obtain ⟨v_14, ev_14⟩ : ∃ y : Int32, y = x_9 + 1 := ⟨_, rfl⟩
          refine lv_iinc (v := v_14) (lv' := [(1, .int v_14), (0, .ref a_to)]) hx hb dX12_plain_41 hl (k := 0) rfl (by rw [ev_14]; rfl) (by decide) rfl (fun ls hl => ?_)
          refine lv_goto (tgt := 21) hx hb dX12_plain_44 (by decide) ?_
          rw [plh_s] at hP hD
          have hP : va_P D cls [(a_to, .inl (cI, 3906, .inl (plh (k_8 + 1))))] H := hP
          have hD : va_D A [(a_to, .inl (cI, 3906, .inl (plh (k_8 + 1))))] := hD
          exact ih (k_8 + 1) v_14  _ _ _ (by omega) (by rw [ev_14, hx_9]; exact nI_1 k_8)  (hP.sub (ws' := [(a_to, .inl (cI, 3906, .inl (plh (k_8 + 1))))]) [0] rfl) (hD.sub (ws' := [(a_to, .inl (cI, 3906, .inl (plh (k_8 + 1))))]) [0] (by decide) rfl) hS (lv_sub hl [0, 1] rfl)
      exact lp_11 14 0 0  _ _ _ (by rfl) nI_0.symm  (by rw [← plh_0]; exact hP) (by rw [← plh_0]; exact hD) hS (lv_sub hl [0, 1] rfl)
    | succ n_1 ih =>
      intro k_2 x_3  H locs ls hk_4 hx_3  hP hD hS hl
      have hzx_3 : x_3.toInt = (k_2 : Int) := by rw [hx_3]; exact nI_toInt (by omega)
      refine lv_iload_n hx hb dX12_plain_2 rfl (lv_at hl 0 rfl) ?_
      refine lv_sipush (v := 1302) hx hb dX12_plain_3 (by decide) ?_
      refine lv_icmp_ge (tgt := 19) hx hb dX12_plain_6 (by decide) (fun c_15 => by exfalso; have tc_15 := f_ge (k := 1302) (by decide) c_15; omega) (fun _ => ?_)
      refine lv_aload_n hx hb dX12_plain_9 rfl (lv_at hl 1 rfl) ?_
      refine lv_iload_n hx hb dX12_plain_10 rfl (lv_at hl 0 rfl) ?_
      refine lv_iconst (v := 0) hx hb dX12_plain_11 (by decide) ?_
      refine s_i 0 1 hx hb hkb.1 hP hD hS rfl rfl (in_k hx_3 (by omega) (by decide)) k_2 (by rw [hx_3]; exact nI_clamp (by omega)) dX12_plain_12 (fun H locs hP hD hS => ?_)
      have hP : va_P D cls [(a_to, .inl (cI, 3906, .inl (upd (fun _ => 0) k_2 0)))] H := hP
      have hD : va_D A [(a_to, .inl (cI, 3906, .inl (upd (fun _ => 0) k_2 0)))] := hD
      obtain ⟨v_16, ev_16⟩ : ∃ y : Int32, y = x_3 + 1 := ⟨_, rfl⟩
      refine lv_iinc (v := v_16) (lv' := [(1, .int v_16), (0, .ref a_to)]) hx hb dX12_plain_13 hl (k := 0) rfl (by rw [ev_16]; rfl) (by decide) rfl (fun ls hl => ?_)
      refine lv_goto (tgt := 2) hx hb dX12_plain_16 (by decide) ?_
      rw [upd_z] at hP hD
      have hP : va_P D cls [(a_to, .inl (cI, 3906, .inl (fun _ => 0)))] H := hP
      have hD : va_D A [(a_to, .inl (cI, 3906, .inl (fun _ => 0)))] := hD
      exact ih (k_2 + 1) v_16  _ _ _ (by omega) (by rw [ev_16, hx_3]; exact nI_1 k_2)  (hP.sub (ws' := [(a_to, .inl (cI, 3906, .inl (fun _ => 0)))]) [0] rfl) (hD.sub (ws' := [(a_to, .inl (cI, 3906, .inl (fun _ => 0)))]) [0] (by decide) rfl) hS (lv_sub hl [0, 1] rfl)
  exact lp_5 1302 0 0  _ _ _ (by rfl) nI_0.symm  (hP) (hD) hS (lv_sub hl [0, 1] rfl)
theorem dX11_init_0 : decode cX11_init 0 = .ok (.aload_n 0, 1) := by decide +kernel
theorem dX11_init_1 : decode cX11_init 1 = .ok (.invokespecial 1, 3) := by decide +kernel
theorem dX11_init_4 : decode cX11_init 4 = .ok (.aload_n 0, 1) := by decide +kernel
theorem dX11_init_5 : decode cX11_init 5 = .ok (.sipush 900, 3) := by decide +kernel
theorem dX11_init_8 : decode cX11_init 8 = .ok (.newarray .byte, 2) := by decide +kernel
theorem dX11_init_10 : decode cX11_init 10 = .ok (.putfield 9, 3) := by decide +kernel
theorem dX11_init_13 : decode cX11_init 13 = .ok (.aload_n 0, 1) := by decide +kernel
theorem dX11_init_14 : decode cX11_init 14 = .ok (.iconst 0, 1) := by decide +kernel
theorem dX11_init_15 : decode cX11_init 15 = .ok (.putfield 13, 3) := by decide +kernel
theorem dX11_init_18 : decode cX11_init 18 = .ok (.aload_n 0, 1) := by decide +kernel
theorem dX11_init_19 : decode cX11_init 19 = .ok (.new 17, 3) := by decide +kernel
theorem dX11_init_22 : decode cX11_init 22 = .ok (.dup, 1) := by decide +kernel
theorem dX11_init_23 : decode cX11_init 23 = .ok (.invokespecial 19, 3) := by decide +kernel
theorem dX11_init_26 : decode cX11_init 26 = .ok (.putfield 20, 3) := by decide +kernel
theorem dX11_init_29 : decode cX11_init 29 = .ok (.aload_n 0, 1) := by decide +kernel
theorem dX11_init_30 : decode cX11_init 30 = .ok (.new 24, 3) := by decide +kernel
theorem dX11_init_33 : decode cX11_init 33 = .ok (.dup, 1) := by decide +kernel
theorem dX11_init_34 : decode cX11_init 34 = .ok (.iconst 0, 1) := by decide +kernel
theorem dX11_init_35 : decode cX11_init 35 = .ok (.iconst 0, 1) := by decide +kernel
theorem dX11_init_36 : decode cX11_init 36 = .ok (.aconst_null, 1) := by decide +kernel
theorem dX11_init_37 : decode cX11_init 37 = .ok (.invokespecial 26, 3) := by decide +kernel
theorem dX11_init_40 : decode cX11_init 40 = .ok (.putfield 29, 3) := by decide +kernel
theorem dX11_init_43 : decode cX11_init 43 = .ok (.aload_n 0, 1) := by decide +kernel
theorem dX11_init_44 : decode cX11_init 44 = .ok (.new 33, 3) := by decide +kernel
theorem dX11_init_47 : decode cX11_init 47 = .ok (.dup, 1) := by decide +kernel
theorem dX11_init_48 : decode cX11_init 48 = .ok (.invokespecial 35, 3) := by decide +kernel
theorem dX11_init_51 : decode cX11_init 51 = .ok (.putfield 36, 3) := by decide +kernel
theorem dX11_init_54 : decode cX11_init 54 = .ok (.aload_n 0, 1) := by decide +kernel
theorem dX11_init_55 : decode cX11_init 55 = .ok (.new 33, 3) := by decide +kernel
theorem dX11_init_58 : decode cX11_init 58 = .ok (.dup, 1) := by decide +kernel
theorem dX11_init_59 : decode cX11_init 59 = .ok (.invokespecial 35, 3) := by decide +kernel
theorem dX11_init_62 : decode cX11_init 62 = .ok (.putfield 40, 3) := by decide +kernel
theorem dX11_init_65 : decode cX11_init 65 = .ok (.aload_n 0, 1) := by decide +kernel
theorem dX11_init_66 : decode cX11_init 66 = .ok (.bipush 10, 2) := by decide +kernel
theorem dX11_init_68 : decode cX11_init 68 = .ok (.anewarray 33, 3) := by decide +kernel
theorem dX11_init_71 : decode cX11_init 71 = .ok (.putfield 43, 3) := by decide +kernel
theorem dX11_init_74 : decode cX11_init 74 = .ok (.aload_n 0, 1) := by decide +kernel
theorem dX11_init_75 : decode cX11_init 75 = .ok (.iconst 0, 1) := by decide +kernel
theorem dX11_init_76 : decode cX11_init 76 = .ok (.putfield 47, 3) := by decide +kernel
theorem dX11_init_79 : decode cX11_init 79 = .ok (.aload_n 0, 1) := by decide +kernel
theorem dX11_init_80 : decode cX11_init 80 = .ok (.iconst 0, 1) := by decide +kernel
theorem dX11_init_81 : decode cX11_init 81 = .ok (.putfield 50, 3) := by decide +kernel
theorem dX11_init_84 : decode cX11_init 84 = .ok (.aload_n 0, 1) := by decide +kernel
theorem dX11_init_85 : decode cX11_init 85 = .ok (.iconst 2, 1) := by decide +kernel
theorem dX11_init_86 : decode cX11_init 86 = .ok (.anewarray 24, 3) := by decide +kernel
theorem dX11_init_89 : decode cX11_init 89 = .ok (.putfield 53, 3) := by decide +kernel
theorem dX11_init_92 : decode cX11_init 92 = .ok (.aload_n 0, 1) := by decide +kernel
theorem dX11_init_93 : decode cX11_init 93 = .ok (.iconst 2, 1) := by decide +kernel
theorem dX11_init_94 : decode cX11_init 94 = .ok (.anewarray 33, 3) := by decide +kernel
theorem dX11_init_97 : decode cX11_init 97 = .ok (.putfield 57, 3) := by decide +kernel
theorem dX11_init_100 : decode cX11_init 100 = .ok (.aload_n 0, 1) := by decide +kernel
theorem dX11_init_101 : decode cX11_init 101 = .ok (.iconst 4, 1) := by decide +kernel
theorem dX11_init_102 : decode cX11_init 102 = .ok (.anewarray 60, 3) := by decide +kernel
theorem dX11_init_105 : decode cX11_init 105 = .ok (.putfield 62, 3) := by decide +kernel
theorem dX11_init_108 : decode cX11_init 108 = .ok (.aload_n 0, 1) := by decide +kernel
theorem dX11_init_109 : decode cX11_init 109 = .ok (.iconst 5, 1) := by decide +kernel
theorem dX11_init_110 : decode cX11_init 110 = .ok (.anewarray 66, 3) := by decide +kernel
theorem dX11_init_113 : decode cX11_init 113 = .ok (.putfield 68, 3) := by decide +kernel
theorem dX11_init_116 : decode cX11_init 116 = .ok (.aload_n 0, 1) := by decide +kernel
theorem dX11_init_117 : decode cX11_init 117 = .ok (.new 66, 3) := by decide +kernel
theorem dX11_init_120 : decode cX11_init 120 = .ok (.dup, 1) := by decide +kernel
theorem dX11_init_121 : decode cX11_init 121 = .ok (.aload_n 0, 1) := by decide +kernel
theorem dX11_init_122 : decode cX11_init 122 = .ok (.getfield 29, 3) := by decide +kernel
theorem dX11_init_125 : decode cX11_init 125 = .ok (.invokespecial 72, 3) := by decide +kernel
theorem dX11_init_128 : decode cX11_init 128 = .ok (.putfield 75, 3) := by decide +kernel
theorem dX11_init_131 : decode cX11_init 131 = .ok (.aload_n 0, 1) := by decide +kernel
theorem dX11_init_132 : decode cX11_init 132 = .ok (.new 79, 3) := by decide +kernel
theorem dX11_init_135 : decode cX11_init 135 = .ok (.dup, 1) := by decide +kernel
theorem dX11_init_136 : decode cX11_init 136 = .ok (.invokespecial 81, 3) := by decide +kernel
theorem dX11_init_139 : decode cX11_init 139 = .ok (.putfield 82, 3) := by decide +kernel
theorem dX11_init_142 : decode cX11_init 142 = .ok (.aload_n 0, 1) := by decide +kernel
theorem dX11_init_143 : decode cX11_init 143 = .ok (.new 86, 3) := by decide +kernel
theorem dX11_init_146 : decode cX11_init 146 = .ok (.dup, 1) := by decide +kernel
theorem dX11_init_147 : decode cX11_init 147 = .ok (.invokespecial 88, 3) := by decide +kernel
theorem dX11_init_150 : decode cX11_init 150 = .ok (.putfield 89, 3) := by decide +kernel
theorem dX11_init_153 : decode cX11_init 153 = .ok (.aload_n 0, 1) := by decide +kernel
theorem dX11_init_154 : decode cX11_init 154 = .ok (.new 93, 3) := by decide +kernel
theorem dX11_init_157 : decode cX11_init 157 = .ok (.dup, 1) := by decide +kernel
theorem dX11_init_158 : decode cX11_init 158 = .ok (.invokespecial 95, 3) := by decide +kernel
theorem dX11_init_161 : decode cX11_init 161 = .ok (.putfield 96, 3) := by decide +kernel
theorem dX11_init_164 : decode cX11_init 164 = .ok (.aload_n 0, 1) := by decide +kernel
theorem dX11_init_165 : decode cX11_init 165 = .ok (.iconst 5, 1) := by decide +kernel
theorem dX11_init_166 : decode cX11_init 166 = .ok (.newarray .int, 2) := by decide +kernel
theorem dX11_init_168 : decode cX11_init 168 = .ok (.putfield 100, 3) := by decide +kernel
theorem dX11_init_171 : decode cX11_init 171 = .ok (.aload_n 0, 1) := by decide +kernel
theorem dX11_init_172 : decode cX11_init 172 = .ok (.iconst 5, 1) := by decide +kernel
theorem dX11_init_173 : decode cX11_init 173 = .ok (.newarray .int, 2) := by decide +kernel
theorem dX11_init_175 : decode cX11_init 175 = .ok (.putfield 104, 3) := by decide +kernel
theorem dX11_init_178 : decode cX11_init 178 = .ok (.aload_n 0, 1) := by decide +kernel
theorem dX11_init_179 : decode cX11_init 179 = .ok (.iconst (-1), 1) := by decide +kernel
theorem dX11_init_180 : decode cX11_init 180 = .ok (.putfield 107, 3) := by decide +kernel
theorem dX11_init_183 : decode cX11_init 183 = .ok (.iconst 0, 1) := by decide +kernel
theorem dX11_init_184 : decode cX11_init 184 = .ok (.istore_n 1, 1) := by decide +kernel
theorem dX11_init_185 : decode cX11_init 185 = .ok (.iload_n 1, 1) := by decide +kernel
theorem dX11_init_186 : decode cX11_init 186 = .ok (.bipush 10, 2) := by decide +kernel
theorem dX11_init_188 : decode cX11_init 188 = .ok (.if_icmp .ge 22, 3) := by decide +kernel
theorem dX11_init_191 : decode cX11_init 191 = .ok (.aload_n 0, 1) := by decide +kernel
theorem dX11_init_192 : decode cX11_init 192 = .ok (.getfield 43, 3) := by decide +kernel
theorem dX11_init_195 : decode cX11_init 195 = .ok (.iload_n 1, 1) := by decide +kernel
theorem dX11_init_196 : decode cX11_init 196 = .ok (.new 33, 3) := by decide +kernel
theorem dX11_init_199 : decode cX11_init 199 = .ok (.dup, 1) := by decide +kernel
theorem dX11_init_200 : decode cX11_init 200 = .ok (.invokespecial 35, 3) := by decide +kernel
theorem dX11_init_203 : decode cX11_init 203 = .ok (.aastore, 1) := by decide +kernel
theorem dX11_init_204 : decode cX11_init 204 = .ok (.iinc 1 1, 3) := by decide +kernel
theorem dX11_init_207 : decode cX11_init 207 = .ok (.goto (-22), 3) := by decide +kernel
theorem dX11_init_210 : decode cX11_init 210 = .ok (.iconst 0, 1) := by decide +kernel
theorem dX11_init_211 : decode cX11_init 211 = .ok (.istore_n 1, 1) := by decide +kernel
theorem dX11_init_212 : decode cX11_init 212 = .ok (.iload_n 1, 1) := by decide +kernel
theorem dX11_init_213 : decode cX11_init 213 = .ok (.iconst 2, 1) := by decide +kernel
theorem dX11_init_214 : decode cX11_init 214 = .ok (.if_icmp .ge 22, 3) := by decide +kernel
theorem dX11_init_217 : decode cX11_init 217 = .ok (.aload_n 0, 1) := by decide +kernel
theorem dX11_init_218 : decode cX11_init 218 = .ok (.getfield 57, 3) := by decide +kernel
theorem dX11_init_221 : decode cX11_init 221 = .ok (.iload_n 1, 1) := by decide +kernel
theorem dX11_init_222 : decode cX11_init 222 = .ok (.new 33, 3) := by decide +kernel
theorem dX11_init_225 : decode cX11_init 225 = .ok (.dup, 1) := by decide +kernel
theorem dX11_init_226 : decode cX11_init 226 = .ok (.invokespecial 35, 3) := by decide +kernel
theorem dX11_init_229 : decode cX11_init 229 = .ok (.aastore, 1) := by decide +kernel
theorem dX11_init_230 : decode cX11_init 230 = .ok (.iinc 1 1, 3) := by decide +kernel
theorem dX11_init_233 : decode cX11_init 233 = .ok (.goto (-21), 3) := by decide +kernel
theorem dX11_init_236 : decode cX11_init 236 = .ok (.iconst 0, 1) := by decide +kernel
theorem dX11_init_237 : decode cX11_init 237 = .ok (.istore_n 1, 1) := by decide +kernel
theorem dX11_init_238 : decode cX11_init 238 = .ok (.iload_n 1, 1) := by decide +kernel
theorem dX11_init_239 : decode cX11_init 239 = .ok (.iconst 4, 1) := by decide +kernel
theorem dX11_init_240 : decode cX11_init 240 = .ok (.if_icmp .ge 22, 3) := by decide +kernel
theorem dX11_init_243 : decode cX11_init 243 = .ok (.aload_n 0, 1) := by decide +kernel
theorem dX11_init_244 : decode cX11_init 244 = .ok (.getfield 62, 3) := by decide +kernel
theorem dX11_init_247 : decode cX11_init 247 = .ok (.iload_n 1, 1) := by decide +kernel
theorem dX11_init_248 : decode cX11_init 248 = .ok (.new 60, 3) := by decide +kernel
theorem dX11_init_251 : decode cX11_init 251 = .ok (.dup, 1) := by decide +kernel
theorem dX11_init_252 : decode cX11_init 252 = .ok (.invokespecial 110, 3) := by decide +kernel
theorem dX11_init_255 : decode cX11_init 255 = .ok (.aastore, 1) := by decide +kernel
theorem dX11_init_256 : decode cX11_init 256 = .ok (.iinc 1 1, 3) := by decide +kernel
theorem dX11_init_259 : decode cX11_init 259 = .ok (.goto (-21), 3) := by decide +kernel
theorem dX11_init_262 : decode cX11_init 262 = .ok (.iconst 0, 1) := by decide +kernel
theorem dX11_init_263 : decode cX11_init 263 = .ok (.istore_n 1, 1) := by decide +kernel
theorem dX11_init_264 : decode cX11_init 264 = .ok (.iload_n 1, 1) := by decide +kernel
theorem dX11_init_265 : decode cX11_init 265 = .ok (.iconst 5, 1) := by decide +kernel
theorem dX11_init_266 : decode cX11_init 266 = .ok (.if_icmp .ge 26, 3) := by decide +kernel
theorem dX11_init_269 : decode cX11_init 269 = .ok (.aload_n 0, 1) := by decide +kernel
theorem dX11_init_270 : decode cX11_init 270 = .ok (.getfield 68, 3) := by decide +kernel
theorem dX11_init_273 : decode cX11_init 273 = .ok (.iload_n 1, 1) := by decide +kernel
theorem dX11_init_274 : decode cX11_init 274 = .ok (.new 66, 3) := by decide +kernel
theorem dX11_init_277 : decode cX11_init 277 = .ok (.dup, 1) := by decide +kernel
theorem dX11_init_278 : decode cX11_init 278 = .ok (.aload_n 0, 1) := by decide +kernel
theorem dX11_init_279 : decode cX11_init 279 = .ok (.getfield 29, 3) := by decide +kernel
theorem dX11_init_282 : decode cX11_init 282 = .ok (.invokespecial 72, 3) := by decide +kernel
theorem dX11_init_285 : decode cX11_init 285 = .ok (.aastore, 1) := by decide +kernel
theorem dX11_init_286 : decode cX11_init 286 = .ok (.iinc 1 1, 3) := by decide +kernel
theorem dX11_init_289 : decode cX11_init 289 = .ok (.goto (-25), 3) := by decide +kernel
theorem dX11_init_292 : decode cX11_init 292 = .ok (.return_, 1) := by decide +kernel
theorem kw_29 : Cond.methodLink "FootholdWall" 1 objectInit ∈ gw := gw_of (tb_of 29 (by decide +kernel)) (by decide +kernel)
theorem kw_32 : Cond.classLink "FootholdWall" 17 "FootholdWall$Reader" ∈ gw := gw_of (tb_of 32 (by decide +kernel)) (by decide +kernel)
theorem kw_33 : Cond.instantiable "FootholdWall$Reader" 5 ∈ gw := gw_of (tb_of 33 (by decide +kernel)) (by decide +kernel)
theorem kw_35 : Cond.instanceMethod yX4_init ∈ gw := gw_of (tb_of 35 (by decide +kernel)) (by decide +kernel)
theorem kw_36 : Cond.code yX4_init cX4_init 1 none ∈ gw := gw_of (tb_of 36 (by decide +kernel)) (by decide +kernel)
theorem kw_229 : Cond.classLink "FootholdWall" 24 "FootholdWall$Wall" ∈ gw := gw_of (tb_of 229 (by decide +kernel)) (by decide +kernel)
theorem kw_230 : Cond.methodLink "FootholdWall" 26 yX9_init ∈ gw := gw_of (tb_of 230 (by decide +kernel)) (by decide +kernel)
theorem kw_231 : Cond.classLink "FootholdWall" 33 "FootholdWall$State" ∈ gw := gw_of (tb_of 231 (by decide +kernel)) (by decide +kernel)
theorem kw_235 : Cond.classLink "FootholdWall" 60 "FootholdWall$Tray" ∈ gw := gw_of (tb_of 235 (by decide +kernel)) (by decide +kernel)
theorem kw_237 : Cond.classLink "FootholdWall" 66 "FootholdWall$Rows" ∈ gw := gw_of (tb_of 237 (by decide +kernel)) (by decide +kernel)
theorem kw_239 : Cond.instantiable "FootholdWall$Rows" 6 ∈ gw := gw_of (tb_of 239 (by decide +kernel)) (by decide +kernel)
theorem kw_240 : Cond.methodLink "FootholdWall" 72 yX5_init ∈ gw := gw_of (tb_of 240 (by decide +kernel)) (by decide +kernel)
theorem kw_241 : Cond.instanceMethod yX5_init ∈ gw := gw_of (tb_of 241 (by decide +kernel)) (by decide +kernel)
theorem kw_242 : Cond.code yX5_init cX5_init 2 none ∈ gw := gw_of (tb_of 242 (by decide +kernel)) (by decide +kernel)
theorem kw_266 : Cond.classLink "FootholdWall" 79 "FootholdWall$Ways" ∈ gw := gw_of (tb_of 266 (by decide +kernel)) (by decide +kernel)
theorem kw_267 : Cond.instantiable "FootholdWall$Ways" 7 ∈ gw := gw_of (tb_of 267 (by decide +kernel)) (by decide +kernel)
theorem kw_269 : Cond.instanceMethod yX10_init ∈ gw := gw_of (tb_of 269 (by decide +kernel)) (by decide +kernel)
theorem kw_270 : Cond.code yX10_init cX10_init 1 none ∈ gw := gw_of (tb_of 270 (by decide +kernel)) (by decide +kernel)
theorem kw_296 : Cond.classLink "FootholdWall" 86 "FootholdWall$Cut" ∈ gw := gw_of (tb_of 296 (by decide +kernel)) (by decide +kernel)
theorem kw_297 : Cond.instantiable "FootholdWall$Cut" 7 ∈ gw := gw_of (tb_of 297 (by decide +kernel)) (by decide +kernel)
theorem kw_299 : Cond.instanceMethod yX1_init ∈ gw := gw_of (tb_of 299 (by decide +kernel)) (by decide +kernel)
theorem kw_300 : Cond.code yX1_init cX1_init 1 none ∈ gw := gw_of (tb_of 300 (by decide +kernel)) (by decide +kernel)
theorem kw_324 : Cond.classLink "FootholdWall" 93 "FootholdWall$Chains" ∈ gw := gw_of (tb_of 324 (by decide +kernel)) (by decide +kernel)
theorem kw_325 : Cond.instantiable "FootholdWall$Chains" 4 ∈ gw := gw_of (tb_of 325 (by decide +kernel)) (by decide +kernel)
theorem kw_327 : Cond.instanceMethod yX0_init ∈ gw := gw_of (tb_of 327 (by decide +kernel)) (by decide +kernel)
theorem kw_328 : Cond.code yX0_init cX0_init 1 none ∈ gw := gw_of (tb_of 328 (by decide +kernel)) (by decide +kernel)
theorem kw_344 : Cond.instantiable "FootholdWall$Tray" 3 ∈ gw := gw_of (tb_of 344 (by decide +kernel)) (by decide +kernel)
theorem kw_346 : Cond.instanceMethod yX8_init ∈ gw := gw_of (tb_of 346 (by decide +kernel)) (by decide +kernel)
theorem kw_347 : Cond.code yX8_init cX8_init 1 none ∈ gw := gw_of (tb_of 347 (by decide +kernel)) (by decide +kernel)
