set_option maxHeartbeats 4000000 in
set_option maxRecDepth 100000 in
theorem s_M_order (l : Launch) (D : va_G) (cs : CS) (kf : KF) (T : TF) (O : List Nat) (X : va_W) (a0 hg mq : Nat) (x1 : Int32) (x2 : Int32) (x3 : Int32) (t_a0 : T a0 = some (22, hg, mq)) (b_hg : hg < 90) (hO : okO T O [0, 1, 8, 9, 22]) : TK l D cs kf yX12_order cX12_order 11 (some (.int)) { frames := 6, cells := 0, slots := 0, locals := 144 } [.ref a0, .int x1, .int x2, .int x3] T O X (Ti D cs (fun r u => u = (T, O, X) ∧ -3 ≤ r.toInt ∧ r.toInt ≤ 99)) := by
  refine tk_of (by decide) (Nat.le_of_ble_eq_true rfl) (fun p e s m below meth c ls A H locs hx hb hr hml hown hts hlocks hnm hkb hH hS hA hOX hks hE hl => ?_)
  have hown : s.vm.findClass RX12 = some m.cls := hown
  have hl : lv_has ls 11 [(0, .ref a0), (1, .int x1), (2, .int x2), (3, .int x3)] := hl
  have hO0 := hO
  obtain ⟨fs9, ho9, hH⟩ := hH.take t_a0 (hO0.no t_a0 (by decide))
  have hp0 : okL T (ft12 hg mq) fs9 := ho9
  clear ho9
  obtain ⟨v9, fs9, rfl, h9, hp1⟩ := okL_i hp0
  obtain ⟨q0_0, rfl⟩ := h9
  obtain ⟨v9, fs9, rfl, h9, hp2⟩ := okL_i hp1
  obtain ⟨q0_1, rfl, t_q0_1⟩ := h9
  obtain ⟨v9, fs9, rfl, h9, hp3⟩ := okL_i hp2
  obtain ⟨q0_2, rfl, t_q0_2⟩ := h9
  obtain ⟨v9, fs9, rfl, h9, hp4⟩ := okL_i hp3
  obtain ⟨q0_3, rfl, t_q0_3⟩ := h9
  obtain ⟨v9, fs9, rfl, h9, hp5⟩ := okL_i hp4
  obtain ⟨q0_4, rfl, t_q0_4⟩ := h9
  obtain ⟨v9, fs9, rfl, h9, hp6⟩ := okL_i hp5
  obtain ⟨q0_5, rfl, l_q0_5, u_q0_5, eg_q0_5⟩ := h9
  obtain ⟨v9, fs9, rfl, h9, hp7⟩ := okL_i hp6
  obtain ⟨q0_6, rfl⟩ := h9
  obtain ⟨v9, fs9, rfl, h9, hp8⟩ := okL_i hp7
  obtain ⟨q0_7, rfl⟩ := h9
  obtain ⟨v9, fs9, rfl, h9, hp9⟩ := okL_i hp8
  obtain ⟨q0_8, rfl⟩ := h9
  obtain ⟨v9, fs9, rfl, h9, hp10⟩ := okL_i hp9
  obtain ⟨q0_9, rfl⟩ := h9
  obtain ⟨v9, fs9, rfl, h9, hp11⟩ := okL_i hp10
  obtain ⟨q0_10, rfl, l_q0_10, u_q0_10⟩ := h9
  obtain ⟨v9, fs9, rfl, h9, hp12⟩ := okL_i hp11
  obtain ⟨q0_11, rfl⟩ := h9
  obtain ⟨v9, fs9, rfl, h9, hp13⟩ := okL_i hp12
  obtain ⟨q0_12, rfl⟩ := h9
  obtain ⟨v9, fs9, rfl, h9, hp14⟩ := okL_i hp13
  obtain ⟨q0_13, rfl⟩ := h9
  obtain ⟨v9, fs9, rfl, h9, hp15⟩ := okL_i hp14
  obtain ⟨q0_14, rfl⟩ := h9
  obtain ⟨v9, fs9, rfl, h9, hp16⟩ := okL_i hp15
  obtain ⟨q0_15, rfl, t_q0_15⟩ := h9
  obtain ⟨v9, fs9, rfl, h9, hp17⟩ := okL_i hp16
  obtain ⟨q0_16, rfl⟩ := h9
  obtain ⟨v9, fs9, rfl, h9, hp18⟩ := okL_i hp17
  obtain ⟨q0_17, rfl, t_q0_17⟩ := h9
  obtain ⟨v9, fs9, rfl, h9, hp19⟩ := okL_i hp18
  obtain ⟨q0_18, rfl, t_q0_18⟩ := h9
  obtain ⟨v9, fs9, rfl, h9, hp20⟩ := okL_i hp19
  obtain ⟨q0_19, rfl, t_q0_19⟩ := h9
  obtain ⟨v9, fs9, rfl, h9, hp21⟩ := okL_i hp20
  obtain ⟨q0_20, rfl, l_q0_20, u_q0_20⟩ := h9
  obtain ⟨v9, fs9, rfl, h9, hp22⟩ := okL_i hp21
  obtain ⟨q0_21, rfl, t_q0_21⟩ := h9
  obtain ⟨v9, fs9, rfl, h9, hp23⟩ := okL_i hp22
  obtain ⟨q0_22, rfl, t_q0_22⟩ := h9
  obtain ⟨v9, fs9, rfl, h9, hp24⟩ := okL_i hp23
  obtain ⟨q0_23, rfl⟩ := h9
  obtain ⟨v9, fs9, rfl, h9, hp25⟩ := okL_i hp24
  obtain ⟨q0_24, rfl⟩ := h9
  obtain ⟨v9, fs9, rfl, h9, hp26⟩ := okL_i hp25
  obtain ⟨q0_25, rfl⟩ := h9
  obtain ⟨v9, fs9, rfl, h9, hp27⟩ := okL_i hp26
  obtain ⟨q0_26, rfl, t_q0_26⟩ := h9
  obtain ⟨v9, fs9, rfl, h9, hp28⟩ := okL_i hp27
  obtain ⟨q0_27, rfl, t_q0_27⟩ := h9
  obtain ⟨v9, fs9, rfl, h9, hp29⟩ := okL_i hp28
  obtain ⟨q0_28, rfl, t_q0_28⟩ := h9
  obtain ⟨v9, fs9, rfl, h9, hp30⟩ := okL_i hp29
  obtain ⟨q0_29, rfl, t_q0_29⟩ := h9
  obtain ⟨v9, fs9, rfl, h9, hp31⟩ := okL_i hp30
  obtain ⟨q0_30, rfl, t_q0_30⟩ := h9
  obtain ⟨v9, fs9, rfl, h9, hp32⟩ := okL_i hp31
  obtain ⟨q0_31, rfl, t_q0_31⟩ := h9
  obtain ⟨v9, fs9, rfl, h9, hp33⟩ := okL_i hp32
  obtain ⟨q0_32, rfl⟩ := h9
  obtain ⟨v9, fs9, rfl, h9, hp34⟩ := okL_i hp33
  obtain ⟨q0_33, rfl, t_q0_33⟩ := h9
  obtain ⟨v9, fs9, rfl, h9, hp35⟩ := okL_i hp34
  obtain ⟨q0_34, rfl, t_q0_34⟩ := h9
  obtain ⟨v9, fs9, rfl, h9, hp36⟩ := okL_i hp35
  obtain ⟨q0_35, rfl, t_q0_35⟩ := h9
  have hpz := okL_z hp36
  subst hpz
  have hH : HT D cs A T (a0 :: O) ((a0, .inr (12, [.int q0_0, .ref q0_1, .ref q0_2, .ref q0_3, .ref q0_4, .int q0_5, .int q0_6, .int q0_7, .int q0_8, .int q0_9, .int q0_10, .int q0_11, .int q0_12, .int q0_13, .int q0_14, .ref q0_15, .int q0_16, .ref q0_17, .ref q0_18, .ref q0_19, .int q0_20, .ref q0_21, .ref q0_22, .int q0_23, .int q0_24, .int q0_25, .ref q0_26, .ref q0_27, .ref q0_28, .ref q0_29, .ref q0_30, .ref q0_31, .int q0_32, .ref q0_33, .ref q0_34, .ref q0_35])) :: X) H := hH
  have hO : okO T (a0 :: O) [0, 1, 8, 9] := okO.cons (hO0.sub (by decide)) t_a0 (by decide)
  obtain ⟨e9, hs9, hH⟩ := HT.takeA hH t_q0_17 (nm_c (tag_ne t_q0_17 t_a0 (fun q => absurd (show 9 = 22 from congrArg Prod.fst q) (by decide))) (hO0.no t_q0_17 (by decide)))
  obtain ⟨f17, rfl, c_f17⟩ : ∃ f : Nat → Int32, e9 = .inl (cs.2.1, 14, .inl f) ∧ ∀ j, cp 1 (f j) := hs9
  have hO : okO T (q0_17 :: a0 :: O) [1] := okO.cons (hO.sub (by decide)) t_q0_17 (by decide)
  have hH : HT D cs A T (a0 :: q0_17 :: O) ((a0, .inr (12, [.int q0_0, .ref q0_1, .ref q0_2, .ref q0_3, .ref q0_4, .int q0_5, .int q0_6, .int q0_7, .int q0_8, .int q0_9, .int q0_10, .int q0_11, .int q0_12, .int q0_13, .int q0_14, .ref q0_15, .int q0_16, .ref q0_17, .ref q0_18, .ref q0_19, .int q0_20, .ref q0_21, .ref q0_22, .int q0_23, .int q0_24, .int q0_25, .ref q0_26, .ref q0_27, .ref q0_28, .ref q0_29, .ref q0_30, .ref q0_31, .int q0_32, .ref q0_33, .ref q0_34, .ref q0_35])) :: (q0_17, .inl (cs.2.1, 14, .inl f17)) :: X) H := HT.swap hH
  have hO := okO.swap hO
  obtain ⟨e9, hs9, hH⟩ := HT.takeA hH t_q0_28 (nm_c (tag_ne t_q0_28 t_a0 (fun q => absurd (show 0 = 22 from congrArg Prod.fst q) (by decide))) (nm_c (tag_ne t_q0_28 t_q0_17 (fun q => absurd (show 0 = 9 from congrArg Prod.fst q) (by decide))) (hO0.no t_q0_28 (by decide))))
  obtain ⟨f28, rfl⟩ : ∃ f : Nat → Int32, e9 = .inl (cs.1, 229376, .inl f) := hs9
  have hO : okO T (q0_28 :: a0 :: q0_17 :: O) [1] := okO.cons (hO.sub (by decide)) t_q0_28 (by decide)
  have hH : HT D cs A T (a0 :: q0_28 :: q0_17 :: O) ((a0, .inr (12, [.int q0_0, .ref q0_1, .ref q0_2, .ref q0_3, .ref q0_4, .int q0_5, .int q0_6, .int q0_7, .int q0_8, .int q0_9, .int q0_10, .int q0_11, .int q0_12, .int q0_13, .int q0_14, .ref q0_15, .int q0_16, .ref q0_17, .ref q0_18, .ref q0_19, .int q0_20, .ref q0_21, .ref q0_22, .int q0_23, .int q0_24, .int q0_25, .ref q0_26, .ref q0_27, .ref q0_28, .ref q0_29, .ref q0_30, .ref q0_31, .int q0_32, .ref q0_33, .ref q0_34, .ref q0_35])) :: (q0_28, .inl (cs.1, 229376, .inl f28)) :: (q0_17, .inl (cs.2.1, 14, .inl f17)) :: X) H := HT.swap hH
  have hO := okO.swap hO
  obtain ⟨e9, hs9, hH⟩ := HT.takeA hH t_q0_1 (nm_c (tag_ne t_q0_1 t_a0 (fun q => absurd (show 8 = 22 from congrArg Prod.fst q) (by decide))) (nm_c (tag_ne t_q0_1 t_q0_28 (fun q => absurd (show 8 = 0 from congrArg Prod.fst q) (by decide))) (nm_c (tag_ne t_q0_1 t_q0_17 (fun q => absurd (show 8 = 9 from congrArg Prod.fst q) (by decide))) (hO0.no t_q0_1 (by decide)))))
  obtain ⟨f1, rfl, s_f1, g_f1⟩ : ∃ f : Nat → Int32, e9 = .inl (cs.2.1, 3906, .inl f) ∧ B8 3906 f ∧ (3906 = 3906 → f 1 = nI (hg / 6) ∧ f 2 = nI (hg % 6)) := hs9
  have hO : okO T (q0_1 :: a0 :: q0_28 :: q0_17 :: O) [1] := okO.cons (hO.sub (by decide)) t_q0_1 (by decide)
  have g_f1 := g_f1 rfl
  refine lv_aload_n hx hb dX12_order_0 rfl (lv_at hl 0 rfl) ?_
  refine lv_iconst (v := 0) hx hb dX12_order_1 (by decide) ?_
  refine x_putk (ci := 12) (v := .int 0) (ty := tyX12 0) (C := RX12) (F := TX12) (N := 36) hx hb hts uX12 tyX12 tyX12_ok nmX12 hown hkb hH hS 1 rfl rfl 0 (by decide) kw_1223 (fun _ h9 => h9) rfl (tyX12_ok 0 (by decide)) rfl rfl (Nat.le_of_ble_eq_true rfl) dX12_order_2 (fun H locs hH hS => ?_)
  have hH : HT D cs A T (q0_1 :: a0 :: q0_28 :: q0_17 :: O) ((q0_1, .inl (cs.2.1, 3906, .inl f1)) :: (a0, .inr (12, [.int 0, .ref q0_1, .ref q0_2, .ref q0_3, .ref q0_4, .int q0_5, .int q0_6, .int q0_7, .int q0_8, .int q0_9, .int q0_10, .int q0_11, .int q0_12, .int q0_13, .int q0_14, .ref q0_15, .int q0_16, .ref q0_17, .ref q0_18, .ref q0_19, .int q0_20, .ref q0_21, .ref q0_22, .int q0_23, .int q0_24, .int q0_25, .ref q0_26, .ref q0_27, .ref q0_28, .ref q0_29, .ref q0_30, .ref q0_31, .int q0_32, .ref q0_33, .ref q0_34, .ref q0_35])) :: (q0_28, .inl (cs.1, 229376, .inl f28)) :: (q0_17, .inl (cs.2.1, 14, .inl f17)) :: X) H := hH
  refine lv_aload_n hx hb dX12_order_5 rfl (lv_at hl 0 rfl) ?_
  refine lv_iload_n hx hb dX12_order_6 rfl (lv_at hl 1 rfl) ?_
  refine lv_i2l hx hb dX12_order_7 rfl ?_
  have z9_0 : (0 : Int32).toInt = 0 := by decide
  refine tk_i hH hS hA (tr_V (n := 1) (As := [.long x1.toInt64]) hx hb hml hown hts hkb hH (ox_c (ox_c (ox_c (ox_c hOX)))) hks hE hS hA (s_M_isGuideX l D cs kf T (q0_28 :: q0_17 :: O) ((q0_28, .inl (cs.1, 229376, .inl f28)) :: (q0_17, .inl (cs.2.1, 14, .inl f17)) :: X) a0 hg mq x1.toInt64 f1 (.int 0) q0_1 (.ref q0_2) (.ref q0_3) (.ref q0_4) (.int q0_5) (.int q0_6) (.int q0_7) (.int q0_8) (.int q0_9) (.int q0_10) (.int q0_11) (.int q0_12) (.int q0_13) (.int q0_14) q0_15 q0_16 [.ref q0_17, .ref q0_18, .ref q0_19, .int q0_20, .ref q0_21, .ref q0_22, .int q0_23, .int q0_24, .int q0_25, .ref q0_26, .ref q0_27, .ref q0_28, .ref q0_29, .ref q0_30, .ref q0_31, .int q0_32, .ref q0_33, .ref q0_34, .ref q0_35] t_a0 b_hg s_f1 g_f1 t_q0_1 t_q0_15 (hO.sub (by decide))) kw_1470 kw_1472 ks_67 kw_13 kw_1473 (by decide +kernel) ⟨Nat.le_of_ble_eq_true rfl, Nat.le_of_ble_eq_true rfl⟩ (x_recv (ci := 12) hkb hH 1 rfl rfl) rfl rfl hl.1 (Nat.le_of_ble_eq_true rfl) dX12_order_8 ⟨Nat.le_of_ble_eq_true rfl, Nat.le_of_ble_eq_true rfl⟩) (fun v8 u H locs hz9 hH hS => ?_)
  obtain ⟨rfl, l_v8, u_v8, x_v80⟩ := hz9
  have hH : HT D cs A T (q0_1 :: a0 :: q0_28 :: q0_17 :: O) ((q0_1, .inl (cs.2.1, 3906, .inl f1)) :: (a0, .inr (12, [.int 0, .ref q0_1, .ref q0_2, .ref q0_3, .ref q0_4, .int q0_5, .int q0_6, .int q0_7, .int q0_8, .int q0_9, .int q0_10, .int q0_11, .int q0_12, .int q0_13, .int q0_14, .ref q0_15, .int q0_16, .ref q0_17, .ref q0_18, .ref q0_19, .int q0_20, .ref q0_21, .ref q0_22, .int q0_23, .int q0_24, .int q0_25, .ref q0_26, .ref q0_27, .ref q0_28, .ref q0_29, .ref q0_30, .ref q0_31, .int q0_32, .ref q0_33, .ref q0_34, .ref q0_35])) :: (q0_28, .inl (cs.1, 229376, .inl f28)) :: (q0_17, .inl (cs.2.1, 14, .inl f17)) :: X) H := hH
  refine W.widen (k := 0) (n := 0) (Nat.le_of_ble_eq_true rfl) (Nat.le_of_ble_eq_true rfl) ?_
  have J32 : ∀  (H : Heap) (locs : List Loc) (ls : Array Slot), HT D cs A T (q0_1 :: a0 :: q0_28 :: q0_17 :: O) ((q0_1, .inl (cs.2.1, 3906, .inl f1)) :: (a0, .inr (12, [.int 0, .ref q0_1, .ref q0_2, .ref q0_3, .ref q0_4, .int q0_5, .int q0_6, .int q0_7, .int q0_8, .int q0_9, .int q0_10, .int q0_11, .int q0_12, .int q0_13, .int q0_14, .ref q0_15, .int q0_16, .ref q0_17, .ref q0_18, .ref q0_19, .int q0_20, .ref q0_21, .ref q0_22, .int q0_23, .int q0_24, .int q0_25, .ref q0_26, .ref q0_27, .ref q0_28, .ref q0_29, .ref q0_30, .ref q0_31, .int q0_32, .ref q0_33, .ref q0_34, .ref q0_35])) :: (q0_28, .inl (cs.1, 229376, .inl f28)) :: (q0_17, .inl (cs.2.1, 14, .inl f17)) :: X) H → va_S A s.heap H locs → lv_has ls 11 [] → W p l e { frames := 6, cells := 0, slots := 0, locals := 144 } s m [.ref a0, .int x1, .int x2, .int x3].toArray below meth c H locs 0 0 (MQ below (Ti D cs (fun r u => u = (T, O, X) ∧ -3 ≤ r.toInt ∧ r.toInt ≤ 99) A) [.ref a0, .int x1, .int x2, .int x3].toArray s 0 0 A) (F0 m 32 ls []) := by
    intro  H locs ls  hH hS hl
    refine lv_bipush (v := (-2)) hx hb dX12_order_32 (by decide) ?_
    have hH : HT D cs A T (a0 :: q0_28 :: q0_17 :: O) ((a0, .inr (12, [.int 0, .ref q0_1, .ref q0_2, .ref q0_3, .ref q0_4, .int q0_5, .int q0_6, .int q0_7, .int q0_8, .int q0_9, .int q0_10, .int q0_11, .int q0_12, .int q0_13, .int q0_14, .ref q0_15, .int q0_16, .ref q0_17, .ref q0_18, .ref q0_19, .int q0_20, .ref q0_21, .ref q0_22, .int q0_23, .int q0_24, .int q0_25, .ref q0_26, .ref q0_27, .ref q0_28, .ref q0_29, .ref q0_30, .ref q0_31, .int q0_32, .ref q0_33, .ref q0_34, .ref q0_35])) :: (q0_28, .inl (cs.1, 229376, .inl f28)) :: (q0_17, .inl (cs.2.1, 14, .inl f17)) :: X) H := HT.layA hH t_q0_1 (show sp cs T (8, 3906, hg) _ from ⟨_, rfl, s_f1, fun _ => g_f1⟩)
    have hH : HT D cs A T (q0_28 :: q0_17 :: O) ((q0_28, .inl (cs.1, 229376, .inl f28)) :: (q0_17, .inl (cs.2.1, 14, .inl f17)) :: X) H := HT.lay (ci := 12) hH t_a0 (okL_c (⟨_, rfl⟩) (okL_c (⟨_, rfl, t_q0_1⟩) (okL_c (⟨_, rfl, t_q0_2⟩) (okL_c (⟨_, rfl, t_q0_3⟩) (okL_c (⟨_, rfl, t_q0_4⟩) (okL_c (⟨_, rfl, by omega, by omega, by omega⟩) (okL_c (⟨_, rfl⟩) (okL_c (⟨_, rfl⟩) (okL_c (⟨_, rfl⟩) (okL_c (⟨_, rfl⟩) (okL_c (⟨_, rfl, by omega, by omega⟩) (okL_c (⟨_, rfl⟩) (okL_c (⟨_, rfl⟩) (okL_c (⟨_, rfl⟩) (okL_c (⟨_, rfl⟩) (okL_c (⟨_, rfl, t_q0_15⟩) (okL_c (⟨_, rfl⟩) (okL_c (⟨_, rfl, t_q0_17⟩) (okL_c (⟨_, rfl, t_q0_18⟩) (okL_c (⟨_, rfl, t_q0_19⟩) (okL_c (⟨_, rfl, by omega, by omega⟩) (okL_c (⟨_, rfl, t_q0_21⟩) (okL_c (⟨_, rfl, t_q0_22⟩) (okL_c (⟨_, rfl⟩) (okL_c (⟨_, rfl⟩) (okL_c (⟨_, rfl⟩) (okL_c (⟨_, rfl, t_q0_26⟩) (okL_c (⟨_, rfl, t_q0_27⟩) (okL_c (⟨_, rfl, t_q0_28⟩) (okL_c (⟨_, rfl, t_q0_29⟩) (okL_c (⟨_, rfl, t_q0_30⟩) (okL_c (⟨_, rfl, t_q0_31⟩) (okL_c (⟨_, rfl⟩) (okL_c (⟨_, rfl, t_q0_33⟩) (okL_c (⟨_, rfl, t_q0_34⟩) (okL_c (⟨_, rfl, t_q0_35⟩) (okL_n)))))))))))))))))))))))))))))))))))))
    have hO := hO0
    have hH : HT D cs A T (q0_17 :: O) ((q0_17, .inl (cs.2.1, 14, .inl f17)) :: X) H := HT.layA hH t_q0_28 (show sp cs T (0, 229376, 0) _ from ⟨_, rfl⟩)
    have hH : HT D cs A T O X H := HT.layA hH t_q0_17 (show sp cs T (9, 14, 1) _ from ⟨_, rfl, c_f17⟩)
    have z9_m2 : ((-2) : Int32).toInt = -2 := by decide
    exact te_i hx hb hr hlocks hH hS (⟨rfl, by decide, by decide⟩) dX12_order_34
  simp only [Int32.toInt_toInt64] at x_v80
  refine lv_if_eq (tgt := 32) hx hb dX12_order_11 (by decide) (fun c11 => ?_) (fun c11 => ?_)
  · skip
    have tc11 := f_eq (k := 0) (by decide) c11
    clear x_v80
    exact J32  _ _ _  hH hS (lv_sub hl [] rfl)
  · skip
    have tc11 := f_ne (k := 0) (by decide) c11
    replace x_v80 := x_v80.resolve_left tc11
    refine lv_iload_n hx hb dX12_order_14 rfl (lv_at hl 3 rfl) ?_
    have J35 : ∀  (H : Heap) (locs : List Loc) (ls : Array Slot), (0 ≤ x3.toInt) → (x3.toInt ≤ 23) → HT D cs A T (q0_1 :: a0 :: q0_28 :: q0_17 :: O) ((q0_1, .inl (cs.2.1, 3906, .inl f1)) :: (a0, .inr (12, [.int 0, .ref q0_1, .ref q0_2, .ref q0_3, .ref q0_4, .int q0_5, .int q0_6, .int q0_7, .int q0_8, .int q0_9, .int q0_10, .int q0_11, .int q0_12, .int q0_13, .int q0_14, .ref q0_15, .int q0_16, .ref q0_17, .ref q0_18, .ref q0_19, .int q0_20, .ref q0_21, .ref q0_22, .int q0_23, .int q0_24, .int q0_25, .ref q0_26, .ref q0_27, .ref q0_28, .ref q0_29, .ref q0_30, .ref q0_31, .int q0_32, .ref q0_33, .ref q0_34, .ref q0_35])) :: (q0_28, .inl (cs.1, 229376, .inl f28)) :: (q0_17, .inl (cs.2.1, 14, .inl f17)) :: X) H → va_S A s.heap H locs → lv_has ls 11 [(0, .ref a0), (1, .int x1), (2, .int x2), (3, .int x3)] → W p l e { frames := 6, cells := 0, slots := 0, locals := 144 } s m [.ref a0, .int x1, .int x2, .int x3].toArray below meth c H locs 0 0 (MQ below (Ti D cs (fun r u => u = (T, O, X) ∧ -3 ≤ r.toInt ∧ r.toInt ≤ 99) A) [.ref a0, .int x1, .int x2, .int x3].toArray s 0 0 A) (F0 m 35 ls []) := by
      intro  H locs ls l_x3 u_x3 hH hS hl
      refine lv_aload_n hx hb dX12_order_35 rfl (lv_at hl 0 rfl) ?_
      refine lv_iload_n hx hb dX12_order_36 rfl (lv_at hl 2 rfl) ?_
      have z9_0 : (0 : Int32).toInt = 0 := by decide
      refine tk_i hH hS hA (tr_V (n := 1) (As := [.int x2]) hx hb hml hown hts hkb hH (ox_c (ox_c (ox_c (ox_c hOX)))) hks hE hS hA (s_M_isSetOfX l D cs kf T (q0_28 :: q0_17 :: O) ((q0_28, .inl (cs.1, 229376, .inl f28)) :: (q0_17, .inl (cs.2.1, 14, .inl f17)) :: X) a0 hg mq x2 f1 (.int 0) q0_1 (.ref q0_2) (.ref q0_3) (.ref q0_4) (.int q0_5) (.int q0_6) (.int q0_7) (.int q0_8) (.int q0_9) (.int q0_10) (.int q0_11) (.int q0_12) (.int q0_13) (.int q0_14) q0_15 q0_16 [.ref q0_17, .ref q0_18, .ref q0_19, .int q0_20, .ref q0_21, .ref q0_22, .int q0_23, .int q0_24, .int q0_25, .ref q0_26, .ref q0_27, .ref q0_28, .ref q0_29, .ref q0_30, .ref q0_31, .int q0_32, .ref q0_33, .ref q0_34, .ref q0_35] t_a0 b_hg s_f1 g_f1 t_q0_1 t_q0_15 (hO.sub (by decide))) kw_1720 kw_1722 ks_98 kw_13 kw_1723 (by decide +kernel) ⟨Nat.le_of_ble_eq_true rfl, Nat.le_of_ble_eq_true rfl⟩ (x_recv (ci := 12) hkb hH 1 rfl rfl) rfl rfl hl.1 (Nat.le_of_ble_eq_true rfl) dX12_order_37 ⟨Nat.le_of_ble_eq_true rfl, Nat.le_of_ble_eq_true rfl⟩) (fun v37 u H locs hz9 hH hS => ?_)
      obtain ⟨rfl, l_v37, u_v37, x_v370⟩ := hz9
      have hH : HT D cs A T (q0_1 :: a0 :: q0_28 :: q0_17 :: O) ((q0_1, .inl (cs.2.1, 3906, .inl f1)) :: (a0, .inr (12, [.int 0, .ref q0_1, .ref q0_2, .ref q0_3, .ref q0_4, .int q0_5, .int q0_6, .int q0_7, .int q0_8, .int q0_9, .int q0_10, .int q0_11, .int q0_12, .int q0_13, .int q0_14, .ref q0_15, .int q0_16, .ref q0_17, .ref q0_18, .ref q0_19, .int q0_20, .ref q0_21, .ref q0_22, .int q0_23, .int q0_24, .int q0_25, .ref q0_26, .ref q0_27, .ref q0_28, .ref q0_29, .ref q0_30, .ref q0_31, .int q0_32, .ref q0_33, .ref q0_34, .ref q0_35])) :: (q0_28, .inl (cs.1, 229376, .inl f28)) :: (q0_17, .inl (cs.2.1, 14, .inl f17)) :: X) H := hH
      refine W.widen (k := 0) (n := 0) (Nat.le_of_ble_eq_true rfl) (Nat.le_of_ble_eq_true rfl) ?_
      refine lv_if_ne (tgt := 46) hx hb dX12_order_40 (by decide) (fun c40 => ?_) (fun c40 => ?_)
      · skip
        have tc40 := f_ne (k := 0) (by decide) c40
        replace x_v370 := x_v370.resolve_left tc40
        refine lv_aload_n hx hb dX12_order_46 rfl (lv_at hl 0 rfl) ?_
        refine lv_iload_n hx hb dX12_order_47 rfl (lv_at hl 1 rfl) ?_
        refine lv_iload_n hx hb dX12_order_48 rfl (lv_at hl 2 rfl) ?_
        have z9_0 : (0 : Int32).toInt = 0 := by decide
        refine tk_i hH hS hA (tr_V (n := 2) (As := [.int x1, .int x2]) hx hb hml hown hts hkb hH (ox_c (ox_c (ox_c (ox_c hOX)))) hks hE hS hA (s_M_laysWhoseX l D cs kf T O X a0 hg mq x1 x2 f1 (.int 0) q0_1 (.ref q0_2) (.ref q0_3) (.ref q0_4) (.int q0_5) (.int q0_6) (.int q0_7) (.int q0_8) (.int q0_9) (.int q0_10) (.int q0_11) (.int q0_12) (.int q0_13) (.int q0_14) q0_15 q0_16 q0_17 (.ref q0_18) (.ref q0_19) (.int q0_20) (.ref q0_21) (.ref q0_22) (.int q0_23) (.int q0_24) (.int q0_25) (.ref q0_26) (.ref q0_27) q0_28 [.ref q0_29, .ref q0_30, .ref q0_31, .int q0_32, .ref q0_33, .ref q0_34, .ref q0_35] f28 f17 t_a0 b_hg (by omega) (by omega) (by omega) (by omega) s_f1 g_f1 t_q0_1 t_q0_15 t_q0_17 t_q0_28 c_f17 (hO.sub (by decide))) kw_1728 kw_1730 ks_100 kw_13 kw_1731 (by decide +kernel) ⟨Nat.le_of_ble_eq_true rfl, Nat.le_of_ble_eq_true rfl⟩ (x_recv (ci := 12) hkb hH 1 rfl rfl) rfl rfl hl.1 (Nat.le_of_ble_eq_true rfl) dX12_order_49 ⟨Nat.le_of_ble_eq_true rfl, Nat.le_of_ble_eq_true rfl⟩) (fun v49 u H locs hz9 hH hS => ?_)
        obtain ⟨n49_1_16, F49_2, F49_3, rfl, l_v49, u_v49, x_v490, x_v491, x_v492⟩ := hz9
        have c_F49_3 := x_v492
        have hH : HT D cs A T (q0_1 :: a0 :: q0_28 :: q0_17 :: O) ((q0_1, .inl (cs.2.1, 3906, .inl f1)) :: (a0, .inr (12, [.int 0, .ref q0_1, .ref q0_2, .ref q0_3, .ref q0_4, .int q0_5, .int q0_6, .int q0_7, .int q0_8, .int q0_9, .int q0_10, .int q0_11, .int q0_12, .int q0_13, .int q0_14, .ref q0_15, .int n49_1_16, .ref q0_17, .ref q0_18, .ref q0_19, .int q0_20, .ref q0_21, .ref q0_22, .int q0_23, .int q0_24, .int q0_25, .ref q0_26, .ref q0_27, .ref q0_28, .ref q0_29, .ref q0_30, .ref q0_31, .int q0_32, .ref q0_33, .ref q0_34, .ref q0_35])) :: (q0_28, .inl (cs.1, 229376, .inl F49_2)) :: (q0_17, .inl (cs.2.1, 14, .inl F49_3)) :: X) H := hH
        refine W.widen (k := 0) (n := 0) (Nat.le_of_ble_eq_true rfl) (Nat.le_of_ble_eq_true rfl) ?_
        refine lv_istore (lv' := [(4, .int v49), (0, .ref a0), (1, .int x1), (2, .int x2), (3, .int x3)]) hx hb dX12_order_52 hl (by decide) rfl (fun ls hl => ?_)
        refine lv_iload hx hb dX12_order_54 (lv_at hl 0 rfl) ?_
        refine lv_iconst (v := (-1)) hx hb dX12_order_56 (by decide) ?_
        refine lv_icmp_ne (tgt := 62) hx hb dX12_order_57 (by decide) (fun c57 => ?_) (fun c57 => ?_)
        · skip
          have tc57 := f_ne (k := -1) (by decide) c57
          refine lv_iload_n hx hb dX12_order_62 rfl (lv_at hl 3 rfl) ?_
          refine lv_aload_n hx hb dX12_order_63 rfl (lv_at hl 1 rfl) ?_
          have z9_0 : (0 : Int32).toInt = 0 := by decide
          refine tk_i hH hS hA (tr_V (n := 0) (As := []) hx hb hml hown hts hkb hH (ox_c (ox_c (ox_c (ox_c hOX)))) hks hE hS hA (s_M_thereSetF l D cs kf T (q0_28 :: q0_17 :: O) ((q0_28, .inl (cs.1, 229376, .inl F49_2)) :: (q0_17, .inl (cs.2.1, 14, .inl F49_3)) :: X) a0 hg mq f1 (.int 0) q0_1 (.ref q0_2) (.ref q0_3) (.ref q0_4) (.int q0_5) (.int q0_6) (.int q0_7) (.int q0_8) (.int q0_9) (.int q0_10) (.int q0_11) (.int q0_12) (.int q0_13) (.int q0_14) q0_15 n49_1_16 [.ref q0_17, .ref q0_18, .ref q0_19, .int q0_20, .ref q0_21, .ref q0_22, .int q0_23, .int q0_24, .int q0_25, .ref q0_26, .ref q0_27, .ref q0_28, .ref q0_29, .ref q0_30, .ref q0_31, .int q0_32, .ref q0_33, .ref q0_34, .ref q0_35] t_a0 b_hg s_f1 g_f1 t_q0_1 t_q0_15 (hO.sub (by decide))) kw_1724 kw_1726 ks_99 kw_13 kw_1727 (by decide +kernel) ⟨Nat.le_of_ble_eq_true rfl, Nat.le_of_ble_eq_true rfl⟩ (x_recv (ci := 12) hkb hH 1 rfl rfl) rfl rfl hl.1 (Nat.le_of_ble_eq_true rfl) dX12_order_64 ⟨Nat.le_of_ble_eq_true rfl, Nat.le_of_ble_eq_true rfl⟩) (fun v64 u H locs hz9 hH hS => ?_)
          obtain ⟨rfl, l_v64, u_v64, x_v640⟩ := hz9
          have hH : HT D cs A T (q0_1 :: a0 :: q0_28 :: q0_17 :: O) ((q0_1, .inl (cs.2.1, 3906, .inl f1)) :: (a0, .inr (12, [.int 0, .ref q0_1, .ref q0_2, .ref q0_3, .ref q0_4, .int q0_5, .int q0_6, .int q0_7, .int q0_8, .int q0_9, .int q0_10, .int q0_11, .int q0_12, .int q0_13, .int q0_14, .ref q0_15, .int n49_1_16, .ref q0_17, .ref q0_18, .ref q0_19, .int q0_20, .ref q0_21, .ref q0_22, .int q0_23, .int q0_24, .int q0_25, .ref q0_26, .ref q0_27, .ref q0_28, .ref q0_29, .ref q0_30, .ref q0_31, .int q0_32, .ref q0_33, .ref q0_34, .ref q0_35])) :: (q0_28, .inl (cs.1, 229376, .inl F49_2)) :: (q0_17, .inl (cs.2.1, 14, .inl F49_3)) :: X) H := hH
          refine W.widen (k := 0) (n := 0) (Nat.le_of_ble_eq_true rfl) (Nat.le_of_ble_eq_true rfl) ?_
          refine lv_aload_n hx hb dX12_order_67 rfl (lv_at hl 1 rfl) ?_
          have z9_0 : (0 : Int32).toInt = 0 := by decide
          refine tk_i hH hS hA (tr_V (n := 0) (As := []) hx hb hml hown hts hkb hH (ox_c (ox_c (ox_c (ox_c hOX)))) hks hE hS hA (s_M_endsF l D cs kf T (q0_28 :: q0_17 :: O) ((q0_28, .inl (cs.1, 229376, .inl F49_2)) :: (q0_17, .inl (cs.2.1, 14, .inl F49_3)) :: X) a0 hg mq f1 (.int 0) q0_1 (.ref q0_2) (.ref q0_3) (.ref q0_4) (.int q0_5) (.int q0_6) (.int q0_7) (.int q0_8) (.int q0_9) (.int q0_10) (.int q0_11) (.int q0_12) (.int q0_13) (.int q0_14) q0_15 n49_1_16 [.ref q0_17, .ref q0_18, .ref q0_19, .int q0_20, .ref q0_21, .ref q0_22, .int q0_23, .int q0_24, .int q0_25, .ref q0_26, .ref q0_27, .ref q0_28, .ref q0_29, .ref q0_30, .ref q0_31, .int q0_32, .ref q0_33, .ref q0_34, .ref q0_35] t_a0 b_hg s_f1 g_f1 t_q0_1 t_q0_15 (hO.sub (by decide))) kw_1536 kw_1538 ks_78 kw_13 kw_1539 (by decide +kernel) ⟨Nat.le_of_ble_eq_true rfl, Nat.le_of_ble_eq_true rfl⟩ (x_recv (ci := 12) hkb hH 1 rfl rfl) rfl rfl hl.1 (Nat.le_of_ble_eq_true rfl) dX12_order_68 ⟨Nat.le_of_ble_eq_true rfl, Nat.le_of_ble_eq_true rfl⟩) (fun v68 u H locs hz9 hH hS => ?_)
          obtain ⟨rfl, l_v68, u_v68, x_v680⟩ := hz9
          have hH : HT D cs A T (q0_1 :: a0 :: q0_28 :: q0_17 :: O) ((q0_1, .inl (cs.2.1, 3906, .inl f1)) :: (a0, .inr (12, [.int 0, .ref q0_1, .ref q0_2, .ref q0_3, .ref q0_4, .int q0_5, .int q0_6, .int q0_7, .int q0_8, .int q0_9, .int q0_10, .int q0_11, .int q0_12, .int q0_13, .int q0_14, .ref q0_15, .int n49_1_16, .ref q0_17, .ref q0_18, .ref q0_19, .int q0_20, .ref q0_21, .ref q0_22, .int q0_23, .int q0_24, .int q0_25, .ref q0_26, .ref q0_27, .ref q0_28, .ref q0_29, .ref q0_30, .ref q0_31, .int q0_32, .ref q0_33, .ref q0_34, .ref q0_35])) :: (q0_28, .inl (cs.1, 229376, .inl F49_2)) :: (q0_17, .inl (cs.2.1, 14, .inl F49_3)) :: X) H := hH
          refine W.widen (k := 0) (n := 0) (Nat.le_of_ble_eq_true rfl) (Nat.le_of_ble_eq_true rfl) ?_
          refine lv_iand hx hb dX12_order_71 ?_
          refine lv_topi (fun v71 ev71 => ?_)
          have tv71 : 0 ≤ v71.toInt ∧ v71.toInt ≤ v64.toInt := by rw [ev71]; exact and_l (by omega)
          have ttv71 : 0 ≤ v71.toInt ∧ v71.toInt ≤ v68.toInt := by rw [ev71]; exact and_r (by omega)
          refine lv_ior hx hb dX12_order_72 ?_
          refine lv_topi (fun v72 ev72 => ?_)
          have tv72 : 0 ≤ v72.toInt ∧ v72.toInt < 16384 := by rw [ev72]; exact or_b 14 (by decide) (by omega) (by omega) (by omega) (by omega)
          refine lv_istore (lv' := [(5, .int v72), (4, .int v49), (0, .ref a0), (1, .int x1), (2, .int x2), (3, .int x3)]) hx hb dX12_order_73 hl (by decide) rfl (fun ls hl => ?_)
          have h72 : v72 = (x2 ||| (thS f1 (hg / 6) &&& (f1 4 ||| f1 5))) := by rw [ev72, ev71, x_v640, x_v680]
          refine lv_iconst (v := 1) hx hb dX12_order_75 (by decide) ?_
          refine lv_iload hx hb dX12_order_76 (lv_at hl 1 rfl) ?_
          refine lv_ishl hx hb dX12_order_78 ?_
          refine lv_topi (fun v78 ev78 => ?_)
          have tv78 : 1 ≤ v78.toInt ∧ v78.toInt ≤ 8192 := by rw [ev78]; exact shl_b 13 (by decide) (by omega) (by omega)
          refine lv_istore (lv' := [(6, .int v78), (5, .int v72), (4, .int v49), (0, .ref a0), (1, .int x1), (2, .int x2), (3, .int x3)]) hx hb dX12_order_79 hl (by decide) rfl (fun ls hl => ?_)
          refine lv_aload_n hx hb dX12_order_81 rfl (lv_at hl 3 rfl) ?_
          refine lv_iload hx hb dX12_order_82 (lv_at hl 0 rfl) ?_
          refine lv_iload hx hb dX12_order_84 (lv_at hl 2 rfl) ?_
          have z9_0 : (0 : Int32).toInt = 0 := by decide
          refine tk_i hH hS hA (tr_V (n := 2) (As := [.int v78, .int v49]) hx hb hml hown hts hkb hH (ox_c (ox_c (ox_c (ox_c hOX)))) hks hE hS hA (s_M_moreByX l D cs kf T O X a0 hg mq v78 v49 f1 (.int 0) q0_1 (.ref q0_2) (.ref q0_3) (.ref q0_4) (.int q0_5) (.int q0_6) (.int q0_7) (.int q0_8) (.int q0_9) (.int q0_10) (.int q0_11) (.int q0_12) (.int q0_13) (.int q0_14) q0_15 n49_1_16 q0_17 (.ref q0_18) (.ref q0_19) (.int q0_20) (.ref q0_21) (.ref q0_22) (.int q0_23) (.int q0_24) (.int q0_25) (.ref q0_26) (.ref q0_27) q0_28 [.ref q0_29, .ref q0_30, .ref q0_31, .int q0_32, .ref q0_33, .ref q0_34, .ref q0_35] F49_2 F49_3 t_a0 b_hg (by omega) (by omega) (by omega) (by omega) s_f1 g_f1 t_q0_1 t_q0_15 t_q0_17 t_q0_28 (hO.sub (by decide))) kw_1736 kw_1738 ks_102 kw_13 kw_1739 (by decide +kernel) ⟨Nat.le_of_ble_eq_true rfl, Nat.le_of_ble_eq_true rfl⟩ (x_recv (ci := 12) hkb hH 1 rfl rfl) rfl rfl hl.1 (Nat.le_of_ble_eq_true rfl) dX12_order_86 ⟨Nat.le_of_ble_eq_true rfl, Nat.le_of_ble_eq_true rfl⟩) (fun v86 u H locs hz9 hH hS => ?_)
          obtain ⟨rfl, x_v860⟩ := hz9
          have hH : HT D cs A T (q0_1 :: a0 :: q0_28 :: q0_17 :: O) ((q0_1, .inl (cs.2.1, 3906, .inl f1)) :: (a0, .inr (12, [.int 0, .ref q0_1, .ref q0_2, .ref q0_3, .ref q0_4, .int q0_5, .int q0_6, .int q0_7, .int q0_8, .int q0_9, .int q0_10, .int q0_11, .int q0_12, .int q0_13, .int q0_14, .ref q0_15, .int n49_1_16, .ref q0_17, .ref q0_18, .ref q0_19, .int q0_20, .ref q0_21, .ref q0_22, .int q0_23, .int q0_24, .int q0_25, .ref q0_26, .ref q0_27, .ref q0_28, .ref q0_29, .ref q0_30, .ref q0_31, .int q0_32, .ref q0_33, .ref q0_34, .ref q0_35])) :: (q0_28, .inl (cs.1, 229376, .inl F49_2)) :: (q0_17, .inl (cs.2.1, 14, .inl F49_3)) :: X) H := hH
          refine W.widen (k := 0) (n := 0) (Nat.le_of_ble_eq_true rfl) (Nat.le_of_ble_eq_true rfl) ?_
          have q86 := LOx_0 (x := v72) (v := v86) (by rw [h72]; exact x_v490) tc57 (by omega) ev78 x_v860
          have w9 : WS (hg / 6) v72.toInt.toNat F49_3 F49_2 0 := by rw [h72]; exact x_v491
          have b86 := LOx.b w9 q86 (by omega)
          refine lv_iconst (v := 1) hx hb dX12_order_89 (by decide) ?_
          refine lv_iadd hx hb dX12_order_90 ?_
          refine lv_topi (fun v90 ev90 => ?_)
          have tv90 : v90.toInt = v86.toInt + (1) := by rw [ev90]; exact add_i rfl (by decide : (1 : Int32).toInt = 1) (by omega) (by omega)
          refine lv_istore (lv' := [(7, .int v90), (6, .int v78), (5, .int v72), (4, .int v49), (0, .ref a0), (1, .int x1), (2, .int x2), (3, .int x3)]) hx hb dX12_order_91 hl (by decide) rfl (fun ls hl => ?_)
          refine lv_iload_n hx hb dX12_order_93 rfl (lv_at hl 7 rfl) ?_
          refine lv_if_ne (tgt := 100) hx hb dX12_order_94 (by decide) (fun c94 => ?_) (fun c94 => ?_)
          · skip
            have tc94 := f_ne (k := 0) (by decide) c94
            refine lv_iload_n hx hb dX12_order_100 rfl (lv_at hl 7 rfl) ?_
            refine lv_bipush (v := 10) hx hb dX12_order_101 (by decide) ?_
            refine lv_isub hx hb dX12_order_103 ?_
            refine lv_topi (fun v103 ev103 => ?_)
            have tv103 : v103.toInt = x3.toInt - (10) := by rw [ev103]; exact sub_i rfl (by decide : (10 : Int32).toInt = 10) (by omega) (by omega)
            refine lv_iload hx hb dX12_order_104 (lv_at hl 0 rfl) ?_
            refine lv_icmp_lt (tgt := 111) hx hb dX12_order_106 (by decide) (fun c106 => ?_) (fun c106 => ?_)
            · skip
              have fuc106 := full_i v103
              have fvc106 := full_i v90
              have tc106 := g_lt c106
              refine lv_iconst (v := 0) hx hb dX12_order_111 (by decide) ?_
              have J114 : ∀ (n : Nat) (p114_8 : Int32) (p114_6 : Int32) (p114_4 : Int32) (H : Heap) (locs : List Loc) (ls : Array Slot), (13 - p114_8.toInt).toNat = n → (0 ≤ p114_8.toInt) → (p114_8.toInt ≤ 13) → (0 ≤ p114_6.toInt) → (p114_6.toInt ≤ 16383) → (0 ≤ p114_4.toInt) → (p114_4.toInt ≤ 13) → (LOx hg v72 F49_2 p114_4 p114_6 (v86.toInt - p114_8.toInt)) → HT D cs A T (q0_1 :: a0 :: q0_28 :: q0_17 :: O) ((q0_1, .inl (cs.2.1, 3906, .inl f1)) :: (a0, .inr (12, [.int 0, .ref q0_1, .ref q0_2, .ref q0_3, .ref q0_4, .int q0_5, .int q0_6, .int q0_7, .int q0_8, .int q0_9, .int q0_10, .int q0_11, .int q0_12, .int q0_13, .int q0_14, .ref q0_15, .int n49_1_16, .ref q0_17, .ref q0_18, .ref q0_19, .int q0_20, .ref q0_21, .ref q0_22, .int q0_23, .int q0_24, .int q0_25, .ref q0_26, .ref q0_27, .ref q0_28, .ref q0_29, .ref q0_30, .ref q0_31, .int q0_32, .ref q0_33, .ref q0_34, .ref q0_35])) :: (q0_28, .inl (cs.1, 229376, .inl F49_2)) :: (q0_17, .inl (cs.2.1, 14, .inl F49_3)) :: X) H → va_S A s.heap H locs → lv_has ls 11 [(8, .int p114_8), (6, .int p114_6), (5, .int v72), (4, .int p114_4), (0, .ref a0), (3, .int x3)] → W p l e { frames := 6, cells := 0, slots := 0, locals := 144 } s m [.ref a0, .int x1, .int x2, .int x3].toArray below meth c H locs 0 0 (MQ below (Ti D cs (fun r u => u = (T, O, X) ∧ -3 ≤ r.toInt ∧ r.toInt ≤ 99) A) [.ref a0, .int x1, .int x2, .int x3].toArray s 0 0 A) (F0 m 114 ls []) := by
                intro n
                induction n using Nat.strongRecOn with
                | _ n ih114 =>
                  intro p114_8 p114_6 p114_4 H locs ls hm114 l_p114_8 u_p114_8 l_p114_6 u_p114_6 l_p114_4 u_p114_4 i114 hH hS hl
                  refine lv_iload hx hb dX12_order_114 (lv_at hl 0 rfl) ?_
                  refine lv_iload_n hx hb dX12_order_116 rfl (lv_at hl 5 rfl) ?_
                  refine lv_bipush (v := 10) hx hb dX12_order_117 (by decide) ?_
                  refine lv_isub hx hb dX12_order_119 ?_
                  refine lv_topi (fun v119 ev119 => ?_)
                  have tv119 : v119.toInt = x3.toInt - (10) := by rw [ev119]; exact sub_i rfl (by decide : (10 : Int32).toInt = 10) (by omega) (by omega)
                  refine lv_icmp_ge (tgt := 205) hx hb dX12_order_120 (by decide) (fun c120 => ?_) (fun c120 => ?_)
                  · skip
                    have fuc120 := full_i p114_8
                    have fvc120 := full_i v119
                    have tc120 := g_le c120
                    refine lv_iload hx hb dX12_order_205 (lv_at hl 3 rfl) ?_
                    have hH : HT D cs A T (a0 :: q0_28 :: q0_17 :: O) ((a0, .inr (12, [.int 0, .ref q0_1, .ref q0_2, .ref q0_3, .ref q0_4, .int q0_5, .int q0_6, .int q0_7, .int q0_8, .int q0_9, .int q0_10, .int q0_11, .int q0_12, .int q0_13, .int q0_14, .ref q0_15, .int n49_1_16, .ref q0_17, .ref q0_18, .ref q0_19, .int q0_20, .ref q0_21, .ref q0_22, .int q0_23, .int q0_24, .int q0_25, .ref q0_26, .ref q0_27, .ref q0_28, .ref q0_29, .ref q0_30, .ref q0_31, .int q0_32, .ref q0_33, .ref q0_34, .ref q0_35])) :: (q0_28, .inl (cs.1, 229376, .inl F49_2)) :: (q0_17, .inl (cs.2.1, 14, .inl F49_3)) :: X) H := HT.layA hH t_q0_1 (show sp cs T (8, 3906, hg) _ from ⟨_, rfl, s_f1, fun _ => g_f1⟩)
                    have hH : HT D cs A T (q0_28 :: q0_17 :: O) ((q0_28, .inl (cs.1, 229376, .inl F49_2)) :: (q0_17, .inl (cs.2.1, 14, .inl F49_3)) :: X) H := HT.lay (ci := 12) hH t_a0 (okL_c (⟨_, rfl⟩) (okL_c (⟨_, rfl, t_q0_1⟩) (okL_c (⟨_, rfl, t_q0_2⟩) (okL_c (⟨_, rfl, t_q0_3⟩) (okL_c (⟨_, rfl, t_q0_4⟩) (okL_c (⟨_, rfl, by omega, by omega, by omega⟩) (okL_c (⟨_, rfl⟩) (okL_c (⟨_, rfl⟩) (okL_c (⟨_, rfl⟩) (okL_c (⟨_, rfl⟩) (okL_c (⟨_, rfl, by omega, by omega⟩) (okL_c (⟨_, rfl⟩) (okL_c (⟨_, rfl⟩) (okL_c (⟨_, rfl⟩) (okL_c (⟨_, rfl⟩) (okL_c (⟨_, rfl, t_q0_15⟩) (okL_c (⟨_, rfl⟩) (okL_c (⟨_, rfl, t_q0_17⟩) (okL_c (⟨_, rfl, t_q0_18⟩) (okL_c (⟨_, rfl, t_q0_19⟩) (okL_c (⟨_, rfl, by omega, by omega⟩) (okL_c (⟨_, rfl, t_q0_21⟩) (okL_c (⟨_, rfl, t_q0_22⟩) (okL_c (⟨_, rfl⟩) (okL_c (⟨_, rfl⟩) (okL_c (⟨_, rfl⟩) (okL_c (⟨_, rfl, t_q0_26⟩) (okL_c (⟨_, rfl, t_q0_27⟩) (okL_c (⟨_, rfl, t_q0_28⟩) (okL_c (⟨_, rfl, t_q0_29⟩) (okL_c (⟨_, rfl, t_q0_30⟩) (okL_c (⟨_, rfl, t_q0_31⟩) (okL_c (⟨_, rfl⟩) (okL_c (⟨_, rfl, t_q0_33⟩) (okL_c (⟨_, rfl, t_q0_34⟩) (okL_c (⟨_, rfl, t_q0_35⟩) (okL_n)))))))))))))))))))))))))))))))))))))
                    have hO := hO0
                    have hH : HT D cs A T (q0_17 :: O) ((q0_17, .inl (cs.2.1, 14, .inl F49_3)) :: X) H := HT.layA hH t_q0_28 (show sp cs T (0, 229376, 0) _ from ⟨_, rfl⟩)
                    have hH : HT D cs A T O X H := HT.layA hH t_q0_17 (show sp cs T (9, 14, 1) _ from ⟨_, rfl, c_F49_3⟩)
                    exact te_i hx hb hr hlocks hH hS (⟨rfl, by omega, by omega⟩) dX12_order_207
                  · skip
                    have fuc120 := full_i p114_8
                    have fvc120 := full_i v119
                    have tc120 := g_nle c120
                    refine lv_aload_n hx hb dX12_order_123 rfl (lv_at hl 4 rfl) ?_
                    refine lv_iload hx hb dX12_order_124 (lv_at hl 1 rfl) ?_
                    refine lv_iload hx hb dX12_order_126 (lv_at hl 3 rfl) ?_
                    have z9_0 : (0 : Int32).toInt = 0 := by decide
                    refine tk_i hH hS hA (tr_V (n := 2) (As := [.int p114_6, .int p114_4]) hx hb hml hown hts hkb hH (ox_c (ox_c (ox_c (ox_c hOX)))) hks hE hS hA (s_M_moreByX l D cs kf T O X a0 hg mq p114_6 p114_4 f1 (.int 0) q0_1 (.ref q0_2) (.ref q0_3) (.ref q0_4) (.int q0_5) (.int q0_6) (.int q0_7) (.int q0_8) (.int q0_9) (.int q0_10) (.int q0_11) (.int q0_12) (.int q0_13) (.int q0_14) q0_15 n49_1_16 q0_17 (.ref q0_18) (.ref q0_19) (.int q0_20) (.ref q0_21) (.ref q0_22) (.int q0_23) (.int q0_24) (.int q0_25) (.ref q0_26) (.ref q0_27) q0_28 [.ref q0_29, .ref q0_30, .ref q0_31, .int q0_32, .ref q0_33, .ref q0_34, .ref q0_35] F49_2 F49_3 t_a0 b_hg (by omega) (by omega) (by omega) (by omega) s_f1 g_f1 t_q0_1 t_q0_15 t_q0_17 t_q0_28 (hO.sub (by decide))) kw_1736 kw_1738 ks_102 kw_13 kw_1739 (by decide +kernel) ⟨Nat.le_of_ble_eq_true rfl, Nat.le_of_ble_eq_true rfl⟩ (x_recv (ci := 12) hkb hH 1 rfl rfl) rfl rfl hl.1 (Nat.le_of_ble_eq_true rfl) dX12_order_128 ⟨Nat.le_of_ble_eq_true rfl, Nat.le_of_ble_eq_true rfl⟩) (fun v128 u H locs hz9 hH hS => ?_)
                    obtain ⟨rfl, x_v1280⟩ := hz9
                    have hH : HT D cs A T (q0_1 :: a0 :: q0_28 :: q0_17 :: O) ((q0_1, .inl (cs.2.1, 3906, .inl f1)) :: (a0, .inr (12, [.int 0, .ref q0_1, .ref q0_2, .ref q0_3, .ref q0_4, .int q0_5, .int q0_6, .int q0_7, .int q0_8, .int q0_9, .int q0_10, .int q0_11, .int q0_12, .int q0_13, .int q0_14, .ref q0_15, .int n49_1_16, .ref q0_17, .ref q0_18, .ref q0_19, .int q0_20, .ref q0_21, .ref q0_22, .int q0_23, .int q0_24, .int q0_25, .ref q0_26, .ref q0_27, .ref q0_28, .ref q0_29, .ref q0_30, .ref q0_31, .int q0_32, .ref q0_33, .ref q0_34, .ref q0_35])) :: (q0_28, .inl (cs.1, 229376, .inl F49_2)) :: (q0_17, .inl (cs.2.1, 14, .inl F49_3)) :: X) H := hH
                    refine W.widen (k := 0) (n := 0) (Nat.le_of_ble_eq_true rfl) (Nat.le_of_ble_eq_true rfl) ?_
                    have e128 : v128.toInt = v86.toInt - p114_8.toInt := by rw [x_v1280]; exact i114.2.2.2.2.1
                    have b128 : 1 ≤ v128.toInt ∧ v128.toInt ≤ 98 := by omega
                    refine lv_iconst (v := 1) hx hb dX12_order_131 (by decide) ?_
                    refine lv_isub hx hb dX12_order_132 ?_
                    refine lv_topi (fun v132 ev132 => ?_)
                    have tv132 : v132.toInt = v128.toInt - (1) := by rw [ev132]; exact sub_i rfl (by decide : (1 : Int32).toInt = 1) (by omega) (by omega)
                    refine lv_istore (lv' := [(9, .int v132), (8, .int p114_8), (6, .int p114_6), (5, .int v72), (4, .int p114_4), (0, .ref a0), (3, .int x3)]) hx hb dX12_order_133 hl (by decide) rfl (fun ls hl => ?_)
                    refine lv_iconst (v := 0) hx hb dX12_order_135 (by decide) ?_
                    have J138 : ∀ (n : Nat) (p138_10 : Int32) (H : Heap) (locs : List Loc) (ls : Array Slot), (14 - p138_10.toInt).toNat = n → (0 ≤ p138_10.toInt) → (p138_10.toInt ≤ 13) → (LPx hg v72 F49_3 F49_2 p114_4 p114_6 v132.toInt p138_10.toInt.toNat) → HT D cs A T (q0_1 :: a0 :: q0_28 :: q0_17 :: O) ((q0_1, .inl (cs.2.1, 3906, .inl f1)) :: (a0, .inr (12, [.int 0, .ref q0_1, .ref q0_2, .ref q0_3, .ref q0_4, .int q0_5, .int q0_6, .int q0_7, .int q0_8, .int q0_9, .int q0_10, .int q0_11, .int q0_12, .int q0_13, .int q0_14, .ref q0_15, .int n49_1_16, .ref q0_17, .ref q0_18, .ref q0_19, .int q0_20, .ref q0_21, .ref q0_22, .int q0_23, .int q0_24, .int q0_25, .ref q0_26, .ref q0_27, .ref q0_28, .ref q0_29, .ref q0_30, .ref q0_31, .int q0_32, .ref q0_33, .ref q0_34, .ref q0_35])) :: (q0_28, .inl (cs.1, 229376, .inl F49_2)) :: (q0_17, .inl (cs.2.1, 14, .inl F49_3)) :: X) H → va_S A s.heap H locs → lv_has ls 11 [(10, .int p138_10), (9, .int v132), (8, .int p114_8), (6, .int p114_6), (5, .int v72), (4, .int p114_4), (0, .ref a0), (3, .int x3)] → W p l e { frames := 6, cells := 0, slots := 0, locals := 144 } s m [.ref a0, .int x1, .int x2, .int x3].toArray below meth c H locs 0 0 (MQ below (Ti D cs (fun r u => u = (T, O, X) ∧ -3 ≤ r.toInt ∧ r.toInt ≤ 99) A) [.ref a0, .int x1, .int x2, .int x3].toArray s 0 0 A) (F0 m 138 ls []) := by
                      intro n
                      induction n using Nat.strongRecOn with
                      | _ n ih138 =>
                        intro p138_10 H locs ls hm138 l_p138_10 u_p138_10 i138 hH hS hl
                        refine lv_aload_n hx hb dX12_order_138 rfl (lv_at hl 6 rfl) ?_
                        refine x_getk (ci := 12) (C := RX12) (F := TX12) (N := 36) (v := .ref q0_17) hx hb hts uX12 hown hkb hH 1 rfl rfl 17 (by decide) rfl kw_1240 (fun _ h9 => h9) dX12_order_139 ?_
                        refine lv_iload hx hb dX12_order_142 (lv_at hl 5 rfl) ?_
                        refine xa_ild hx hb hkb hH 3 rfl (by omega) (by omega) dX12_order_144 ?_
                        refine lv_topi (fun v144 ev144 => ?_)
                        have tv144 : v144 = F49_3 p114_4.toInt.toNat := ev144
                        refine lv_iload hx hb dX12_order_145 (lv_at hl 4 rfl) ?_
                        refine lv_iand hx hb dX12_order_147 ?_
                        refine lv_topi (fun v147 ev147 => ?_)
                        have tv147 : 0 ≤ v147.toInt ∧ v147.toInt ≤ v72.toInt := by rw [ev147]; exact and_r (by omega)
                        refine lv_iload hx hb dX12_order_148 (lv_at hl 3 rfl) ?_
                        refine lv_iconst (v := (-1)) hx hb dX12_order_150 (by decide) ?_
                        refine lv_ixor hx hb dX12_order_151 ?_
                        refine lv_topi (fun v151 ev151 => ?_)
                        refine lv_iand hx hb dX12_order_152 ?_
                        refine lv_topi (fun v152 ev152 => ?_)
                        have tv152 : 0 ≤ v152.toInt ∧ v152.toInt ≤ v147.toInt := by rw [ev152]; exact and_l (by omega)
                        refine lv_i2l hx hb dX12_order_153 rfl ?_
                        have hb9 := LPx_bits (k := p138_10) tv144 ev147 (by omega) (by omega) ev151 (by omega) ev152 (by omega) (by omega) (by omega)
                        refine lv_iload hx hb dX12_order_154 (lv_at hl 0 rfl) ?_
                        refine tk_i hH hS hA (tr_S (n := 2) (As := [.long v152.toInt64, .int p138_10]) hx hb hml hown hts hkb hH (ox_c (ox_c (ox_c (ox_c hOX)))) hks hE hS hA (s_M_isIn2 l D cs kf T (q0_1 :: a0 :: q0_28 :: q0_17 :: O) ((q0_1, .inl (cs.2.1, 3906, .inl f1)) :: (a0, .inr (12, [.int 0, .ref q0_1, .ref q0_2, .ref q0_3, .ref q0_4, .int q0_5, .int q0_6, .int q0_7, .int q0_8, .int q0_9, .int q0_10, .int q0_11, .int q0_12, .int q0_13, .int q0_14, .ref q0_15, .int n49_1_16, .ref q0_17, .ref q0_18, .ref q0_19, .int q0_20, .ref q0_21, .ref q0_22, .int q0_23, .int q0_24, .int q0_25, .ref q0_26, .ref q0_27, .ref q0_28, .ref q0_29, .ref q0_30, .ref q0_31, .int q0_32, .ref q0_33, .ref q0_34, .ref q0_35])) :: (q0_28, .inl (cs.1, 229376, .inl F49_2)) :: (q0_17, .inl (cs.2.1, 14, .inl F49_3)) :: X) v152.toInt64 p138_10  (hO.sub (by decide))) kw_1440 kw_1441 kw_13 kw_1442 (by decide +kernel) ⟨Nat.le_of_ble_eq_true rfl, Nat.le_of_ble_eq_true rfl⟩ rfl rfl hl.1 (Nat.le_of_ble_eq_true rfl) dX12_order_156 ⟨Nat.le_of_ble_eq_true rfl, Nat.le_of_ble_eq_true rfl⟩) (fun v156 u H locs hz9 hH hS => ?_)
                        obtain ⟨rfl, l_v156, u_v156, x_v1560⟩ := hz9
                        have hH : HT D cs A T (q0_1 :: a0 :: q0_28 :: q0_17 :: O) ((q0_1, .inl (cs.2.1, 3906, .inl f1)) :: (a0, .inr (12, [.int 0, .ref q0_1, .ref q0_2, .ref q0_3, .ref q0_4, .int q0_5, .int q0_6, .int q0_7, .int q0_8, .int q0_9, .int q0_10, .int q0_11, .int q0_12, .int q0_13, .int q0_14, .ref q0_15, .int n49_1_16, .ref q0_17, .ref q0_18, .ref q0_19, .int q0_20, .ref q0_21, .ref q0_22, .int q0_23, .int q0_24, .int q0_25, .ref q0_26, .ref q0_27, .ref q0_28, .ref q0_29, .ref q0_30, .ref q0_31, .int q0_32, .ref q0_33, .ref q0_34, .ref q0_35])) :: (q0_28, .inl (cs.1, 229376, .inl F49_2)) :: (q0_17, .inl (cs.2.1, 14, .inl F49_3)) :: X) H := hH
                        refine W.widen (k := 0) (n := 0) (Nat.le_of_ble_eq_true rfl) (Nat.le_of_ble_eq_true rfl) ?_
                        have J180 : ∀  (H : Heap) (locs : List Loc) (ls : Array Slot), (LPx hg v72 F49_3 F49_2 p114_4 p114_6 v132.toInt (p138_10.toInt.toNat + 1)) → HT D cs A T (q0_1 :: a0 :: q0_28 :: q0_17 :: O) ((q0_1, .inl (cs.2.1, 3906, .inl f1)) :: (a0, .inr (12, [.int 0, .ref q0_1, .ref q0_2, .ref q0_3, .ref q0_4, .int q0_5, .int q0_6, .int q0_7, .int q0_8, .int q0_9, .int q0_10, .int q0_11, .int q0_12, .int q0_13, .int q0_14, .ref q0_15, .int n49_1_16, .ref q0_17, .ref q0_18, .ref q0_19, .int q0_20, .ref q0_21, .ref q0_22, .int q0_23, .int q0_24, .int q0_25, .ref q0_26, .ref q0_27, .ref q0_28, .ref q0_29, .ref q0_30, .ref q0_31, .int q0_32, .ref q0_33, .ref q0_34, .ref q0_35])) :: (q0_28, .inl (cs.1, 229376, .inl F49_2)) :: (q0_17, .inl (cs.2.1, 14, .inl F49_3)) :: X) H → va_S A s.heap H locs → lv_has ls 11 [(10, .int p138_10), (9, .int v132), (8, .int p114_8), (6, .int p114_6), (5, .int v72), (4, .int p114_4), (0, .ref a0), (3, .int x3)] → W p l e { frames := 6, cells := 0, slots := 0, locals := 144 } s m [.ref a0, .int x1, .int x2, .int x3].toArray below meth c H locs 0 0 (MQ below (Ti D cs (fun r u => u = (T, O, X) ∧ -3 ≤ r.toInt ∧ r.toInt ≤ 99) A) [.ref a0, .int x1, .int x2, .int x3].toArray s 0 0 A) (F0 m 180 ls []) := by
                          intro  H locs ls i180 hH hS hl
                          have l180 := i180.lt
                          obtain ⟨v180, ev180⟩ : ∃ y : Int32, y = p138_10 + 1 := ⟨_, rfl⟩
                          have tv180 : v180.toInt = p138_10.toInt + (1) := by rw [ev180]; exact add_i rfl (by decide) (by omega) (by omega)
                          refine lv_iinc (v := v180) (lv' := [(10, .int v180), (9, .int v132), (8, .int p114_8), (6, .int p114_6), (5, .int v72), (4, .int p114_4), (0, .ref a0), (3, .int x3)]) hx hb dX12_order_180 hl (k := 0) rfl (by rw [ev180]; rfl) (by decide) rfl (fun ls hl => ?_)
                          refine lv_goto (tgt := 138) hx hb dX12_order_183 (by decide) ?_
                          exact ih138 _ (by omega) v180 _ _ _ rfl (by omega) (by omega) (by first | (refine LPx_e i180 ?_; omega) | (refine LPx_0 w9 i114 ?_ ?_ e128 tv132 (by decide) <;> omega)) hH hS (lv_sub hl [0, 1, 2, 3, 4, 5, 6, 7] rfl)
                        refine lv_if_eq (tgt := 180) hx hb dX12_order_159 (by decide) (fun c159 => ?_) (fun c159 => ?_)
                        · skip
                          have tc159 := f_eq (k := 0) (by decide) c159
                          exact J180  _ _ _ (by first | (refine LPx_no i138 hb9 x_v1560 ?_; omega) | (refine LPx_ne i138 ?_ ?_ ?_ ev168 ev169 ?_ ?_ x_v1720 ?_ <;> omega)) hH hS (lv_sub hl [0, 1, 2, 3, 4, 5, 6, 7] rfl)
                        · skip
                          have tc159 := f_ne (k := 0) (by decide) c159
                          refine lv_aload_n hx hb dX12_order_162 rfl (lv_at hl 6 rfl) ?_
                          refine lv_iload hx hb dX12_order_163 (lv_at hl 3 rfl) ?_
                          refine lv_iconst (v := 1) hx hb dX12_order_165 (by decide) ?_
                          refine lv_iload hx hb dX12_order_166 (lv_at hl 0 rfl) ?_
                          refine lv_ishl hx hb dX12_order_168 ?_
                          refine lv_topi (fun v168 ev168 => ?_)
                          have tv168 : 1 ≤ v168.toInt ∧ v168.toInt ≤ 8192 := by rw [ev168]; exact shl_b 13 (by decide) (by omega) (by omega)
                          refine lv_ior hx hb dX12_order_169 ?_
                          refine lv_topi (fun v169 ev169 => ?_)
                          have tv169 : 0 ≤ v169.toInt ∧ v169.toInt < 16384 := by rw [ev169]; exact or_b 14 (by decide) (by omega) (by omega) (by omega) (by omega)
                          refine lv_iload hx hb dX12_order_170 (lv_at hl 0 rfl) ?_
                          have z9_0 : (0 : Int32).toInt = 0 := by decide
                          refine tk_i hH hS hA (tr_V (n := 2) (As := [.int v169, .int p138_10]) hx hb hml hown hts hkb hH (ox_c (ox_c (ox_c (ox_c hOX)))) hks hE hS hA (s_M_moreByX l D cs kf T O X a0 hg mq v169 p138_10 f1 (.int 0) q0_1 (.ref q0_2) (.ref q0_3) (.ref q0_4) (.int q0_5) (.int q0_6) (.int q0_7) (.int q0_8) (.int q0_9) (.int q0_10) (.int q0_11) (.int q0_12) (.int q0_13) (.int q0_14) q0_15 n49_1_16 q0_17 (.ref q0_18) (.ref q0_19) (.int q0_20) (.ref q0_21) (.ref q0_22) (.int q0_23) (.int q0_24) (.int q0_25) (.ref q0_26) (.ref q0_27) q0_28 [.ref q0_29, .ref q0_30, .ref q0_31, .int q0_32, .ref q0_33, .ref q0_34, .ref q0_35] F49_2 F49_3 t_a0 b_hg (by omega) (by omega) (by omega) (by omega) s_f1 g_f1 t_q0_1 t_q0_15 t_q0_17 t_q0_28 (hO.sub (by decide))) kw_1736 kw_1738 ks_102 kw_13 kw_1739 (by decide +kernel) ⟨Nat.le_of_ble_eq_true rfl, Nat.le_of_ble_eq_true rfl⟩ (x_recv (ci := 12) hkb hH 1 rfl rfl) rfl rfl hl.1 (Nat.le_of_ble_eq_true rfl) dX12_order_172 ⟨Nat.le_of_ble_eq_true rfl, Nat.le_of_ble_eq_true rfl⟩) (fun v172 u H locs hz9 hH hS => ?_)
                          obtain ⟨rfl, x_v1720⟩ := hz9
                          have hH : HT D cs A T (q0_1 :: a0 :: q0_28 :: q0_17 :: O) ((q0_1, .inl (cs.2.1, 3906, .inl f1)) :: (a0, .inr (12, [.int 0, .ref q0_1, .ref q0_2, .ref q0_3, .ref q0_4, .int q0_5, .int q0_6, .int q0_7, .int q0_8, .int q0_9, .int q0_10, .int q0_11, .int q0_12, .int q0_13, .int q0_14, .ref q0_15, .int n49_1_16, .ref q0_17, .ref q0_18, .ref q0_19, .int q0_20, .ref q0_21, .ref q0_22, .int q0_23, .int q0_24, .int q0_25, .ref q0_26, .ref q0_27, .ref q0_28, .ref q0_29, .ref q0_30, .ref q0_31, .int q0_32, .ref q0_33, .ref q0_34, .ref q0_35])) :: (q0_28, .inl (cs.1, 229376, .inl F49_2)) :: (q0_17, .inl (cs.2.1, 14, .inl F49_3)) :: X) H := hH
                          refine W.widen (k := 0) (n := 0) (Nat.le_of_ble_eq_true rfl) (Nat.le_of_ble_eq_true rfl) ?_
                          refine lv_iload hx hb dX12_order_175 (lv_at hl 1 rfl) ?_
                          refine lv_icmp_eq (tgt := 186) hx hb dX12_order_177 (by decide) (fun c177 => ?_) (fun c177 => ?_)
                          · skip
                            have fuc177 := full_i v172
                            have fvc177 := full_i v132
                            have tc177 := g_eq c177
                            refine lv_iload hx hb dX12_order_186 (lv_at hl 0 rfl) ?_
                            refine lv_istore (lv' := [(4, .int p138_10), (10, .int p138_10), (9, .int v132), (8, .int p114_8), (6, .int p114_6), (5, .int v72), (0, .ref a0), (3, .int x3)]) hx hb dX12_order_188 hl (by decide) rfl (fun ls hl => ?_)
                            refine lv_iload hx hb dX12_order_190 (lv_at hl 4 rfl) ?_
                            refine lv_iconst (v := 1) hx hb dX12_order_192 (by decide) ?_
                            refine lv_iload hx hb dX12_order_193 (lv_at hl 1 rfl) ?_
                            refine lv_ishl hx hb dX12_order_195 ?_
                            refine lv_topi (fun v195 ev195 => ?_)
                            have tv195 : 1 ≤ v195.toInt ∧ v195.toInt ≤ 8192 := by rw [ev195]; exact shl_b 13 (by decide) (by omega) (by omega)
                            refine lv_ior hx hb dX12_order_196 ?_
                            refine lv_topi (fun v196 ev196 => ?_)
                            have tv196 : 0 ≤ v196.toInt ∧ v196.toInt < 16384 := by rw [ev196]; exact or_b 14 (by decide) (by omega) (by omega) (by omega) (by omega)
                            refine lv_istore (lv' := [(6, .int v196), (4, .int p138_10), (10, .int p138_10), (9, .int v132), (8, .int p114_8), (5, .int v72), (0, .ref a0), (3, .int x3)]) hx hb dX12_order_197 hl (by decide) rfl (fun ls hl => ?_)
                            obtain ⟨v199, ev199⟩ : ∃ y : Int32, y = p114_8 + 1 := ⟨_, rfl⟩
                            have tv199 : v199.toInt = p114_8.toInt + (1) := by rw [ev199]; exact add_i rfl (by decide) (by omega) (by omega)
                            refine lv_iinc (v := v199) (lv' := [(8, .int v199), (6, .int v196), (4, .int p138_10), (10, .int p138_10), (9, .int v132), (5, .int v72), (0, .ref a0), (3, .int x3)]) hx hb dX12_order_199 hl (k := 4) rfl (by rw [ev199]; rfl) (by decide) rfl (fun ls hl => ?_)
                            refine lv_goto (tgt := 114) hx hb dX12_order_202 (by decide) ?_
                            exact ih114 _ (by omega) v199 v196 p138_10 _ _ _ rfl (by omega) (by omega) (by omega) (by omega) (by omega) (by omega) (by first | (rw [show (0 : Int32).toInt = 0 by decide, Int.sub_zero]; exact q86) | (refine LOx_n i114 i138 hb9 x_v1560 ?_ ?_ ?_ ?_ ev168 ev169 ?_ ?_ x_v1720 ?_ ev195 ev196 ?_ ?_ <;> omega)) hH hS (lv_sub hl [0, 1, 5, 2, 6, 7] rfl)
                          · skip
                            have fuc177 := full_i v172
                            have fvc177 := full_i v132
                            have tc177 := g_ne c177
                            exact J180  _ _ _ (by first | (refine LPx_no i138 hb9 x_v1560 ?_; omega) | (refine LPx_ne i138 ?_ ?_ ?_ ev168 ev169 ?_ ?_ x_v1720 ?_ <;> omega)) hH hS (lv_sub hl [0, 1, 2, 3, 4, 5, 6, 7] rfl)
                    refine lv_istore (lv' := [(10, .int 0), (9, .int v132), (8, .int p114_8), (6, .int p114_6), (5, .int v72), (4, .int p114_4), (0, .ref a0), (3, .int x3)]) hx hb dX12_order_136 hl (by decide) rfl (fun ls hl => ?_)
                    have z_0 : (0 : Int32).toInt = 0 := by decide
                    exact J138 _ 0 _ _ _ rfl (by decide) (by decide) (by first | (refine LPx_e i180 ?_; omega) | (refine LPx_0 w9 i114 ?_ ?_ e128 tv132 (by decide) <;> omega)) hH hS (lv_sub hl [0, 1, 2, 3, 4, 5, 6, 7] rfl)
              refine lv_istore (lv' := [(8, .int 0), (7, .int v90), (6, .int v78), (5, .int v72), (4, .int v49), (0, .ref a0), (1, .int x1), (2, .int x2), (3, .int x3)]) hx hb dX12_order_112 hl (by decide) rfl (fun ls hl => ?_)
              have z_0 : (0 : Int32).toInt = 0 := by decide
              exact J114 _ 0 v78 v49 _ _ _ rfl (by decide) (by decide) (by omega) (by omega) (by omega) (by omega) (by first | (rw [show (0 : Int32).toInt = 0 by decide, Int.sub_zero]; exact q86) | (refine LOx_n i114 i138 hb9 x_v1560 ?_ ?_ ?_ ?_ ev168 ev169 ?_ ?_ x_v1720 ?_ ev195 ev196 ?_ ?_ <;> omega)) hH hS (lv_sub hl [0, 2, 3, 4, 5, 8] rfl)
            · skip
              have fuc106 := full_i v103
              have fvc106 := full_i v90
              have tc106 := g_nlt c106
              refine lv_iconst (v := (-1)) hx hb dX12_order_109 (by decide) ?_
              have hH : HT D cs A T (a0 :: q0_28 :: q0_17 :: O) ((a0, .inr (12, [.int 0, .ref q0_1, .ref q0_2, .ref q0_3, .ref q0_4, .int q0_5, .int q0_6, .int q0_7, .int q0_8, .int q0_9, .int q0_10, .int q0_11, .int q0_12, .int q0_13, .int q0_14, .ref q0_15, .int n49_1_16, .ref q0_17, .ref q0_18, .ref q0_19, .int q0_20, .ref q0_21, .ref q0_22, .int q0_23, .int q0_24, .int q0_25, .ref q0_26, .ref q0_27, .ref q0_28, .ref q0_29, .ref q0_30, .ref q0_31, .int q0_32, .ref q0_33, .ref q0_34, .ref q0_35])) :: (q0_28, .inl (cs.1, 229376, .inl F49_2)) :: (q0_17, .inl (cs.2.1, 14, .inl F49_3)) :: X) H := HT.layA hH t_q0_1 (show sp cs T (8, 3906, hg) _ from ⟨_, rfl, s_f1, fun _ => g_f1⟩)
              have hH : HT D cs A T (q0_28 :: q0_17 :: O) ((q0_28, .inl (cs.1, 229376, .inl F49_2)) :: (q0_17, .inl (cs.2.1, 14, .inl F49_3)) :: X) H := HT.lay (ci := 12) hH t_a0 (okL_c (⟨_, rfl⟩) (okL_c (⟨_, rfl, t_q0_1⟩) (okL_c (⟨_, rfl, t_q0_2⟩) (okL_c (⟨_, rfl, t_q0_3⟩) (okL_c (⟨_, rfl, t_q0_4⟩) (okL_c (⟨_, rfl, by omega, by omega, by omega⟩) (okL_c (⟨_, rfl⟩) (okL_c (⟨_, rfl⟩) (okL_c (⟨_, rfl⟩) (okL_c (⟨_, rfl⟩) (okL_c (⟨_, rfl, by omega, by omega⟩) (okL_c (⟨_, rfl⟩) (okL_c (⟨_, rfl⟩) (okL_c (⟨_, rfl⟩) (okL_c (⟨_, rfl⟩) (okL_c (⟨_, rfl, t_q0_15⟩) (okL_c (⟨_, rfl⟩) (okL_c (⟨_, rfl, t_q0_17⟩) (okL_c (⟨_, rfl, t_q0_18⟩) (okL_c (⟨_, rfl, t_q0_19⟩) (okL_c (⟨_, rfl, by omega, by omega⟩) (okL_c (⟨_, rfl, t_q0_21⟩) (okL_c (⟨_, rfl, t_q0_22⟩) (okL_c (⟨_, rfl⟩) (okL_c (⟨_, rfl⟩) (okL_c (⟨_, rfl⟩) (okL_c (⟨_, rfl, t_q0_26⟩) (okL_c (⟨_, rfl, t_q0_27⟩) (okL_c (⟨_, rfl, t_q0_28⟩) (okL_c (⟨_, rfl, t_q0_29⟩) (okL_c (⟨_, rfl, t_q0_30⟩) (okL_c (⟨_, rfl, t_q0_31⟩) (okL_c (⟨_, rfl⟩) (okL_c (⟨_, rfl, t_q0_33⟩) (okL_c (⟨_, rfl, t_q0_34⟩) (okL_c (⟨_, rfl, t_q0_35⟩) (okL_n)))))))))))))))))))))))))))))))))))))
              have hO := hO0
              have hH : HT D cs A T (q0_17 :: O) ((q0_17, .inl (cs.2.1, 14, .inl F49_3)) :: X) H := HT.layA hH t_q0_28 (show sp cs T (0, 229376, 0) _ from ⟨_, rfl⟩)
              have hH : HT D cs A T O X H := HT.layA hH t_q0_17 (show sp cs T (9, 14, 1) _ from ⟨_, rfl, c_F49_3⟩)
              have z9_m1 : ((-1) : Int32).toInt = -1 := by decide
              exact te_i hx hb hr hlocks hH hS (⟨rfl, by decide, by decide⟩) dX12_order_110
          · skip
            have tc94 := f_eq (k := 0) (by decide) c94
            refine lv_iload hx hb dX12_order_97 (lv_at hl 0 rfl) ?_
            have hH : HT D cs A T (a0 :: q0_28 :: q0_17 :: O) ((a0, .inr (12, [.int 0, .ref q0_1, .ref q0_2, .ref q0_3, .ref q0_4, .int q0_5, .int q0_6, .int q0_7, .int q0_8, .int q0_9, .int q0_10, .int q0_11, .int q0_12, .int q0_13, .int q0_14, .ref q0_15, .int n49_1_16, .ref q0_17, .ref q0_18, .ref q0_19, .int q0_20, .ref q0_21, .ref q0_22, .int q0_23, .int q0_24, .int q0_25, .ref q0_26, .ref q0_27, .ref q0_28, .ref q0_29, .ref q0_30, .ref q0_31, .int q0_32, .ref q0_33, .ref q0_34, .ref q0_35])) :: (q0_28, .inl (cs.1, 229376, .inl F49_2)) :: (q0_17, .inl (cs.2.1, 14, .inl F49_3)) :: X) H := HT.layA hH t_q0_1 (show sp cs T (8, 3906, hg) _ from ⟨_, rfl, s_f1, fun _ => g_f1⟩)
            have hH : HT D cs A T (q0_28 :: q0_17 :: O) ((q0_28, .inl (cs.1, 229376, .inl F49_2)) :: (q0_17, .inl (cs.2.1, 14, .inl F49_3)) :: X) H := HT.lay (ci := 12) hH t_a0 (okL_c (⟨_, rfl⟩) (okL_c (⟨_, rfl, t_q0_1⟩) (okL_c (⟨_, rfl, t_q0_2⟩) (okL_c (⟨_, rfl, t_q0_3⟩) (okL_c (⟨_, rfl, t_q0_4⟩) (okL_c (⟨_, rfl, by omega, by omega, by omega⟩) (okL_c (⟨_, rfl⟩) (okL_c (⟨_, rfl⟩) (okL_c (⟨_, rfl⟩) (okL_c (⟨_, rfl⟩) (okL_c (⟨_, rfl, by omega, by omega⟩) (okL_c (⟨_, rfl⟩) (okL_c (⟨_, rfl⟩) (okL_c (⟨_, rfl⟩) (okL_c (⟨_, rfl⟩) (okL_c (⟨_, rfl, t_q0_15⟩) (okL_c (⟨_, rfl⟩) (okL_c (⟨_, rfl, t_q0_17⟩) (okL_c (⟨_, rfl, t_q0_18⟩) (okL_c (⟨_, rfl, t_q0_19⟩) (okL_c (⟨_, rfl, by omega, by omega⟩) (okL_c (⟨_, rfl, t_q0_21⟩) (okL_c (⟨_, rfl, t_q0_22⟩) (okL_c (⟨_, rfl⟩) (okL_c (⟨_, rfl⟩) (okL_c (⟨_, rfl⟩) (okL_c (⟨_, rfl, t_q0_26⟩) (okL_c (⟨_, rfl, t_q0_27⟩) (okL_c (⟨_, rfl, t_q0_28⟩) (okL_c (⟨_, rfl, t_q0_29⟩) (okL_c (⟨_, rfl, t_q0_30⟩) (okL_c (⟨_, rfl, t_q0_31⟩) (okL_c (⟨_, rfl⟩) (okL_c (⟨_, rfl, t_q0_33⟩) (okL_c (⟨_, rfl, t_q0_34⟩) (okL_c (⟨_, rfl, t_q0_35⟩) (okL_n)))))))))))))))))))))))))))))))))))))
            have hO := hO0
            have hH : HT D cs A T (q0_17 :: O) ((q0_17, .inl (cs.2.1, 14, .inl F49_3)) :: X) H := HT.layA hH t_q0_28 (show sp cs T (0, 229376, 0) _ from ⟨_, rfl⟩)
            have hH : HT D cs A T O X H := HT.layA hH t_q0_17 (show sp cs T (9, 14, 1) _ from ⟨_, rfl, c_F49_3⟩)
            exact te_i hx hb hr hlocks hH hS (⟨rfl, by omega, by omega⟩) dX12_order_99
        · skip
          have tc57 := f_eq (k := -1) (by decide) c57
          refine lv_iconst (v := (-1)) hx hb dX12_order_60 (by decide) ?_
          have hH : HT D cs A T (a0 :: q0_28 :: q0_17 :: O) ((a0, .inr (12, [.int 0, .ref q0_1, .ref q0_2, .ref q0_3, .ref q0_4, .int q0_5, .int q0_6, .int q0_7, .int q0_8, .int q0_9, .int q0_10, .int q0_11, .int q0_12, .int q0_13, .int q0_14, .ref q0_15, .int n49_1_16, .ref q0_17, .ref q0_18, .ref q0_19, .int q0_20, .ref q0_21, .ref q0_22, .int q0_23, .int q0_24, .int q0_25, .ref q0_26, .ref q0_27, .ref q0_28, .ref q0_29, .ref q0_30, .ref q0_31, .int q0_32, .ref q0_33, .ref q0_34, .ref q0_35])) :: (q0_28, .inl (cs.1, 229376, .inl F49_2)) :: (q0_17, .inl (cs.2.1, 14, .inl F49_3)) :: X) H := HT.layA hH t_q0_1 (show sp cs T (8, 3906, hg) _ from ⟨_, rfl, s_f1, fun _ => g_f1⟩)
          have hH : HT D cs A T (q0_28 :: q0_17 :: O) ((q0_28, .inl (cs.1, 229376, .inl F49_2)) :: (q0_17, .inl (cs.2.1, 14, .inl F49_3)) :: X) H := HT.lay (ci := 12) hH t_a0 (okL_c (⟨_, rfl⟩) (okL_c (⟨_, rfl, t_q0_1⟩) (okL_c (⟨_, rfl, t_q0_2⟩) (okL_c (⟨_, rfl, t_q0_3⟩) (okL_c (⟨_, rfl, t_q0_4⟩) (okL_c (⟨_, rfl, by omega, by omega, by omega⟩) (okL_c (⟨_, rfl⟩) (okL_c (⟨_, rfl⟩) (okL_c (⟨_, rfl⟩) (okL_c (⟨_, rfl⟩) (okL_c (⟨_, rfl, by omega, by omega⟩) (okL_c (⟨_, rfl⟩) (okL_c (⟨_, rfl⟩) (okL_c (⟨_, rfl⟩) (okL_c (⟨_, rfl⟩) (okL_c (⟨_, rfl, t_q0_15⟩) (okL_c (⟨_, rfl⟩) (okL_c (⟨_, rfl, t_q0_17⟩) (okL_c (⟨_, rfl, t_q0_18⟩) (okL_c (⟨_, rfl, t_q0_19⟩) (okL_c (⟨_, rfl, by omega, by omega⟩) (okL_c (⟨_, rfl, t_q0_21⟩) (okL_c (⟨_, rfl, t_q0_22⟩) (okL_c (⟨_, rfl⟩) (okL_c (⟨_, rfl⟩) (okL_c (⟨_, rfl⟩) (okL_c (⟨_, rfl, t_q0_26⟩) (okL_c (⟨_, rfl, t_q0_27⟩) (okL_c (⟨_, rfl, t_q0_28⟩) (okL_c (⟨_, rfl, t_q0_29⟩) (okL_c (⟨_, rfl, t_q0_30⟩) (okL_c (⟨_, rfl, t_q0_31⟩) (okL_c (⟨_, rfl⟩) (okL_c (⟨_, rfl, t_q0_33⟩) (okL_c (⟨_, rfl, t_q0_34⟩) (okL_c (⟨_, rfl, t_q0_35⟩) (okL_n)))))))))))))))))))))))))))))))))))))
          have hO := hO0
          have hH : HT D cs A T (q0_17 :: O) ((q0_17, .inl (cs.2.1, 14, .inl F49_3)) :: X) H := HT.layA hH t_q0_28 (show sp cs T (0, 229376, 0) _ from ⟨_, rfl⟩)
          have hH : HT D cs A T O X H := HT.layA hH t_q0_17 (show sp cs T (9, 14, 1) _ from ⟨_, rfl, c_F49_3⟩)
          have z9_m1 : ((-1) : Int32).toInt = -1 := by decide
          exact te_i hx hb hr hlocks hH hS (⟨rfl, by decide, by decide⟩) dX12_order_61
      · skip
        have tc40 := f_eq (k := 0) (by decide) c40
        clear x_v370
        refine lv_bipush (v := (-3)) hx hb dX12_order_43 (by decide) ?_
        have hH : HT D cs A T (a0 :: q0_28 :: q0_17 :: O) ((a0, .inr (12, [.int 0, .ref q0_1, .ref q0_2, .ref q0_3, .ref q0_4, .int q0_5, .int q0_6, .int q0_7, .int q0_8, .int q0_9, .int q0_10, .int q0_11, .int q0_12, .int q0_13, .int q0_14, .ref q0_15, .int q0_16, .ref q0_17, .ref q0_18, .ref q0_19, .int q0_20, .ref q0_21, .ref q0_22, .int q0_23, .int q0_24, .int q0_25, .ref q0_26, .ref q0_27, .ref q0_28, .ref q0_29, .ref q0_30, .ref q0_31, .int q0_32, .ref q0_33, .ref q0_34, .ref q0_35])) :: (q0_28, .inl (cs.1, 229376, .inl f28)) :: (q0_17, .inl (cs.2.1, 14, .inl f17)) :: X) H := HT.layA hH t_q0_1 (show sp cs T (8, 3906, hg) _ from ⟨_, rfl, s_f1, fun _ => g_f1⟩)
        have hH : HT D cs A T (q0_28 :: q0_17 :: O) ((q0_28, .inl (cs.1, 229376, .inl f28)) :: (q0_17, .inl (cs.2.1, 14, .inl f17)) :: X) H := HT.lay (ci := 12) hH t_a0 (okL_c (⟨_, rfl⟩) (okL_c (⟨_, rfl, t_q0_1⟩) (okL_c (⟨_, rfl, t_q0_2⟩) (okL_c (⟨_, rfl, t_q0_3⟩) (okL_c (⟨_, rfl, t_q0_4⟩) (okL_c (⟨_, rfl, by omega, by omega, by omega⟩) (okL_c (⟨_, rfl⟩) (okL_c (⟨_, rfl⟩) (okL_c (⟨_, rfl⟩) (okL_c (⟨_, rfl⟩) (okL_c (⟨_, rfl, by omega, by omega⟩) (okL_c (⟨_, rfl⟩) (okL_c (⟨_, rfl⟩) (okL_c (⟨_, rfl⟩) (okL_c (⟨_, rfl⟩) (okL_c (⟨_, rfl, t_q0_15⟩) (okL_c (⟨_, rfl⟩) (okL_c (⟨_, rfl, t_q0_17⟩) (okL_c (⟨_, rfl, t_q0_18⟩) (okL_c (⟨_, rfl, t_q0_19⟩) (okL_c (⟨_, rfl, by omega, by omega⟩) (okL_c (⟨_, rfl, t_q0_21⟩) (okL_c (⟨_, rfl, t_q0_22⟩) (okL_c (⟨_, rfl⟩) (okL_c (⟨_, rfl⟩) (okL_c (⟨_, rfl⟩) (okL_c (⟨_, rfl, t_q0_26⟩) (okL_c (⟨_, rfl, t_q0_27⟩) (okL_c (⟨_, rfl, t_q0_28⟩) (okL_c (⟨_, rfl, t_q0_29⟩) (okL_c (⟨_, rfl, t_q0_30⟩) (okL_c (⟨_, rfl, t_q0_31⟩) (okL_c (⟨_, rfl⟩) (okL_c (⟨_, rfl, t_q0_33⟩) (okL_c (⟨_, rfl, t_q0_34⟩) (okL_c (⟨_, rfl, t_q0_35⟩) (okL_n)))))))))))))))))))))))))))))))))))))
        have hO := hO0
        have hH : HT D cs A T (q0_17 :: O) ((q0_17, .inl (cs.2.1, 14, .inl f17)) :: X) H := HT.layA hH t_q0_28 (show sp cs T (0, 229376, 0) _ from ⟨_, rfl⟩)
        have hH : HT D cs A T O X H := HT.layA hH t_q0_17 (show sp cs T (9, 14, 1) _ from ⟨_, rfl, c_f17⟩)
        have z9_m3 : ((-3) : Int32).toInt = -3 := by decide
        exact te_i hx hb hr hlocks hH hS (⟨rfl, by decide, by decide⟩) dX12_order_45
    refine lv_if_eq (tgt := 35) hx hb dX12_order_15 (by decide) (fun c15 => ?_) (fun c15 => ?_)
    · skip
      have tc15 := f_eq (k := 0) (by decide) c15
      exact J35  _ _ _ (by omega) (by omega) hH hS (lv_sub hl [0, 1, 2, 3] rfl)
    · skip
      have tc15 := f_ne (k := 0) (by decide) c15
      refine lv_iload_n hx hb dX12_order_18 rfl (lv_at hl 3 rfl) ?_
      refine lv_i2l hx hb dX12_order_19 rfl ?_
      refine lv_ldc2 hx hb hown (hts _ kw_1602) dX12_order_20 ?_
      refine lv_ldc2 hx hb hown (hts _ kw_1617) dX12_order_23 ?_
      refine tk_i hH hS hA (tr_S (n := 3) (As := [.long x3.toInt64, .long 10, .long 23]) hx hb hml hown hts hkb hH (ox_c (ox_c (ox_c (ox_c hOX)))) hks hE hS hA (s_M_within l D cs kf T (q0_1 :: a0 :: q0_28 :: q0_17 :: O) ((q0_1, .inl (cs.2.1, 3906, .inl f1)) :: (a0, .inr (12, [.int 0, .ref q0_1, .ref q0_2, .ref q0_3, .ref q0_4, .int q0_5, .int q0_6, .int q0_7, .int q0_8, .int q0_9, .int q0_10, .int q0_11, .int q0_12, .int q0_13, .int q0_14, .ref q0_15, .int q0_16, .ref q0_17, .ref q0_18, .ref q0_19, .int q0_20, .ref q0_21, .ref q0_22, .int q0_23, .int q0_24, .int q0_25, .ref q0_26, .ref q0_27, .ref q0_28, .ref q0_29, .ref q0_30, .ref q0_31, .int q0_32, .ref q0_33, .ref q0_34, .ref q0_35])) :: (q0_28, .inl (cs.1, 229376, .inl f28)) :: (q0_17, .inl (cs.2.1, 14, .inl f17)) :: X) x3.toInt64 10 23  (hO.sub (by decide))) kw_1341 kw_1342 kw_13 kw_1343 (by decide +kernel) ⟨Nat.le_of_ble_eq_true rfl, Nat.le_of_ble_eq_true rfl⟩ rfl rfl hl.1 (Nat.le_of_ble_eq_true rfl) dX12_order_26 ⟨Nat.le_of_ble_eq_true rfl, Nat.le_of_ble_eq_true rfl⟩) (fun v26 u H locs hz9 hH hS => ?_)
      obtain ⟨rfl, l_v26, u_v26, x_v260, x_v261⟩ := hz9
      simp only [Int32.toInt_toInt64] at x_v260 x_v261
      have k9_10 : (10 : Int64).toInt = 10 := by decide
      have k9_23 : (23 : Int64).toInt = 23 := by decide
      have hH : HT D cs A T (q0_1 :: a0 :: q0_28 :: q0_17 :: O) ((q0_1, .inl (cs.2.1, 3906, .inl f1)) :: (a0, .inr (12, [.int 0, .ref q0_1, .ref q0_2, .ref q0_3, .ref q0_4, .int q0_5, .int q0_6, .int q0_7, .int q0_8, .int q0_9, .int q0_10, .int q0_11, .int q0_12, .int q0_13, .int q0_14, .ref q0_15, .int q0_16, .ref q0_17, .ref q0_18, .ref q0_19, .int q0_20, .ref q0_21, .ref q0_22, .int q0_23, .int q0_24, .int q0_25, .ref q0_26, .ref q0_27, .ref q0_28, .ref q0_29, .ref q0_30, .ref q0_31, .int q0_32, .ref q0_33, .ref q0_34, .ref q0_35])) :: (q0_28, .inl (cs.1, 229376, .inl f28)) :: (q0_17, .inl (cs.2.1, 14, .inl f17)) :: X) H := hH
      refine W.widen (k := 0) (n := 0) (Nat.le_of_ble_eq_true rfl) (Nat.le_of_ble_eq_true rfl) ?_
      refine lv_if_ne (tgt := 35) hx hb dX12_order_29 (by decide) (fun c29 => ?_) (fun c29 => ?_)
      · skip
        have tc29 := f_ne (k := 0) (by decide) c29
        replace x_v260 := x_v260.resolve_left tc29
        clear x_v261
        exact J35  _ _ _ (by omega) (by omega) hH hS (lv_sub hl [0, 1, 2, 3] rfl)
      · skip
        have tc29 := f_eq (k := 0) (by decide) c29
        clear x_v260
        replace x_v261 := x_v261.resolve_left (fun q9 => q9 tc29)
        exact J32  _ _ _  hH hS (lv_sub hl [] rfl)
