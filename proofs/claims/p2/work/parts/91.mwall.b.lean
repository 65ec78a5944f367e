set_option maxHeartbeats 4000000 in
set_option maxRecDepth 100000 in
theorem s_M_wall (l : Launch) (D : va_G) (cs : CS) (kf : KF) (T : TF) (O : List Nat) (X : va_W) (a0 hg mq : Nat) (x1 : Int32) (t_a0 : T a0 = some (22, hg, mq)) (b_hg : hg < 90) (hU : ∀ (b : Nat) (tg : Tg), T b = some tg → tg.1 = 22 → b = a0) (hO : okO T O [1, 8, 22]) : TK l D cs kf yX12_wall cX12_wall 3 (some (.int)) { frames := 33, cells := 0, slots := 0, locals := 703 } [.ref a0, .int x1] T O X (Ti D cs (fun r u => ∃ (T2 : TF) (hg2 : Nat) (mq2 : Nat), u = (T2, O, X) ∧ (Trm T T2 a0) ∧ (T2 a0 = some (22, hg2, mq2)) ∧ (hg2 < 90) ∧ (WLF mq mq2 x1.toInt))) := by
  refine tk_of (by decide) (Nat.le_of_ble_eq_true rfl) (fun p e s m below meth c ls A H locs hx hb hr hml hown hts hlocks hnm hkb hH hS hA hOX hks hE hl => ?_)
  have hown : s.vm.findClass RX12 = some m.cls := hown
  have hl : lv_has ls 3 [(0, .ref a0), (1, .int x1)] := hl
  have hO0 := hO
  obtain ⟨fs9, ho9, hH⟩ := hH.take t_a0 (hO0.no t_a0 (by decide))
  have hp0 : okL T (ft12 hg mq) fs9 := ho9
  clear ho9
  obtain ⟨v9, fs9, rfl, h9, hp1⟩ := okL_i hp0
  obtain ⟨q0_0, rfl⟩ := h9
  obtain ⟨v9, fs9, rfl, h9, hp2⟩ := okL_i hp1
  obtain ⟨q0_1, rfl, t_q0_1⟩ := h9
  obtain ⟨v9, fs9, rfl, h9, hp3⟩ := okL_i hp2
  obtain ⟨q0_2, rfl, t_q0_2⟩ := h9
  obtain ⟨v9, fs9, rfl, h9, hp4⟩ := okL_i hp3
  obtain ⟨q0_3, rfl, t_q0_3⟩ := h9
  obtain ⟨v9, fs9, rfl, h9, hp5⟩ := okL_i hp4
  obtain ⟨q0_4, rfl, t_q0_4⟩ := h9
  obtain ⟨v9, fs9, rfl, h9, hp6⟩ := okL_i hp5
  obtain ⟨q0_5, rfl, l_q0_5, u_q0_5, eg_q0_5⟩ := h9
  obtain ⟨v9, fs9, rfl, h9, hp7⟩ := okL_i hp6
  obtain ⟨q0_6, rfl⟩ := h9
  obtain ⟨v9, fs9, rfl, h9, hp8⟩ := okL_i hp7
  obtain ⟨q0_7, rfl⟩ := h9
  obtain ⟨v9, fs9, rfl, h9, hp9⟩ := okL_i hp8
  obtain ⟨q0_8, rfl⟩ := h9
  obtain ⟨v9, fs9, rfl, h9, hp10⟩ := okL_i hp9
  obtain ⟨q0_9, rfl⟩ := h9
  obtain ⟨v9, fs9, rfl, h9, hp11⟩ := okL_i hp10
  obtain ⟨q0_10, rfl, l_q0_10, u_q0_10⟩ := h9
  obtain ⟨v9, fs9, rfl, h9, hp12⟩ := okL_i hp11
  obtain ⟨q0_11, rfl⟩ := h9
  obtain ⟨v9, fs9, rfl, h9, hp13⟩ := okL_i hp12
  obtain ⟨q0_12, rfl⟩ := h9
  obtain ⟨v9, fs9, rfl, h9, hp14⟩ := okL_i hp13
  obtain ⟨q0_13, rfl⟩ := h9
  obtain ⟨v9, fs9, rfl, h9, hp15⟩ := okL_i hp14
  obtain ⟨q0_14, rfl⟩ := h9
  obtain ⟨v9, fs9, rfl, h9, hp16⟩ := okL_i hp15
  obtain ⟨q0_15, rfl, t_q0_15⟩ := h9
  obtain ⟨v9, fs9, rfl, h9, hp17⟩ := okL_i hp16
  obtain ⟨q0_16, rfl⟩ := h9
  obtain ⟨v9, fs9, rfl, h9, hp18⟩ := okL_i hp17
  obtain ⟨q0_17, rfl, t_q0_17⟩ := h9
  obtain ⟨v9, fs9, rfl, h9, hp19⟩ := okL_i hp18
  obtain ⟨q0_18, rfl, t_q0_18⟩ := h9
  obtain ⟨v9, fs9, rfl, h9, hp20⟩ := okL_i hp19
  obtain ⟨q0_19, rfl, t_q0_19⟩ := h9
  obtain ⟨v9, fs9, rfl, h9, hp21⟩ := okL_i hp20
  obtain ⟨q0_20, rfl, l_q0_20, u_q0_20⟩ := h9
  obtain ⟨v9, fs9, rfl, h9, hp22⟩ := okL_i hp21
  obtain ⟨q0_21, rfl, t_q0_21⟩ := h9
  obtain ⟨v9, fs9, rfl, h9, hp23⟩ := okL_i hp22
  obtain ⟨q0_22, rfl, t_q0_22⟩ := h9
  obtain ⟨v9, fs9, rfl, h9, hp24⟩ := okL_i hp23
  obtain ⟨q0_23, rfl⟩ := h9
  obtain ⟨v9, fs9, rfl, h9, hp25⟩ := okL_i hp24
  obtain ⟨q0_24, rfl⟩ := h9
  obtain ⟨v9, fs9, rfl, h9, hp26⟩ := okL_i hp25
  obtain ⟨q0_25, rfl⟩ := h9
  obtain ⟨v9, fs9, rfl, h9, hp27⟩ := okL_i hp26
  obtain ⟨q0_26, rfl, t_q0_26⟩ := h9
  obtain ⟨v9, fs9, rfl, h9, hp28⟩ := okL_i hp27
  obtain ⟨q0_27, rfl, t_q0_27⟩ := h9
  obtain ⟨v9, fs9, rfl, h9, hp29⟩ := okL_i hp28
  obtain ⟨q0_28, rfl, t_q0_28⟩ := h9
  obtain ⟨v9, fs9, rfl, h9, hp30⟩ := okL_i hp29
  obtain ⟨q0_29, rfl, t_q0_29⟩ := h9
  obtain ⟨v9, fs9, rfl, h9, hp31⟩ := okL_i hp30
  obtain ⟨q0_30, rfl, t_q0_30⟩ := h9
  obtain ⟨v9, fs9, rfl, h9, hp32⟩ := okL_i hp31
  obtain ⟨q0_31, rfl, t_q0_31⟩ := h9
  obtain ⟨v9, fs9, rfl, h9, hp33⟩ := okL_i hp32
  obtain ⟨q0_32, rfl⟩ := h9
  obtain ⟨v9, fs9, rfl, h9, hp34⟩ := okL_i hp33
  obtain ⟨q0_33, rfl, t_q0_33⟩ := h9
  obtain ⟨v9, fs9, rfl, h9, hp35⟩ := okL_i hp34
  obtain ⟨q0_34, rfl, t_q0_34⟩ := h9
  obtain ⟨v9, fs9, rfl, h9, hp36⟩ := okL_i hp35
  obtain ⟨q0_35, rfl, t_q0_35⟩ := h9
  have hpz := okL_z hp36
  subst hpz
  have hH : HT D cs A T (a0 :: O) ((a0, .inr (12, [.int q0_0, .ref q0_1, .ref q0_2, .ref q0_3, .ref q0_4, .int q0_5, .int q0_6, .int q0_7, .int q0_8, .int q0_9, .int q0_10, .int q0_11, .int q0_12, .int q0_13, .int q0_14, .ref q0_15, .int q0_16, .ref q0_17, .ref q0_18, .ref q0_19, .int q0_20, .ref q0_21, .ref q0_22, .int q0_23, .int q0_24, .int q0_25, .ref q0_26, .ref q0_27, .ref q0_28, .ref q0_29, .ref q0_30, .ref q0_31, .int q0_32, .ref q0_33, .ref q0_34, .ref q0_35])) :: X) H := hH
  have hO : okO T (a0 :: O) [1, 8] := okO.cons (hO0.sub (by decide)) t_a0 (by decide)
  obtain ⟨e9, hs9, hH⟩ := HT.takeA hH t_q0_4 (nm_c (tag_ne t_q0_4 t_a0 (by first | decide | exact fun q => absurd (show 8 = 22 from congrArg Prod.fst q) (by decide))) (hO0.no t_q0_4 (by decide)))
  obtain ⟨f4, rfl, s_f4, -⟩ : ∃ f : Nat → Int32, e9 = .inl (cs.2.1, 1302, .inl f) ∧ B8 1302 f ∧ (1302 = 3906 → f 1 = nI (0 / 6) ∧ f 2 = nI (0 % 6)) := hs9
  have s_f4 := S8_of s_f4
  have hO : okO T (q0_4 :: a0 :: O) [1] := okO.cons (hO.sub (by decide)) t_q0_4 (by decide)
  have hH : HT D cs A T (a0 :: q0_4 :: O) ((a0, .inr (12, [.int q0_0, .ref q0_1, .ref q0_2, .ref q0_3, .ref q0_4, .int q0_5, .int q0_6, .int q0_7, .int q0_8, .int q0_9, .int q0_10, .int q0_11, .int q0_12, .int q0_13, .int q0_14, .ref q0_15, .int q0_16, .ref q0_17, .ref q0_18, .ref q0_19, .int q0_20, .ref q0_21, .ref q0_22, .int q0_23, .int q0_24, .int q0_25, .ref q0_26, .ref q0_27, .ref q0_28, .ref q0_29, .ref q0_30, .ref q0_31, .int q0_32, .ref q0_33, .ref q0_34, .ref q0_35])) :: (q0_4, .inl (cs.2.1, 1302, .inl f4)) :: X) H := HT.swap hH
  have hO := okO.swap hO
  refine lv_aload_n hx hb dX12_wall_0 rfl (lv_at hl 0 rfl) ?_
  refine lv_iconst (v := 0) hx hb dX12_wall_1 (by decide) ?_
  refine x_putk (ci := 12) (v := .int 0) (ty := tyX12 0) (C := RX12) (F := TX12) (N := 36) hx hb hts uX12 tyX12 tyX12_ok nmX12 hown hkb hH hS 0 rfl rfl 0 (by decide) kw_1223 (fun _ h9 => h9) rfl (tyX12_ok 0 (by decide)) rfl rfl (Nat.le_of_ble_eq_true rfl) dX12_wall_2 (fun H locs hH hS => ?_)
  have hH : HT D cs A T (a0 :: q0_4 :: O) ((a0, .inr (12, [.int 0, .ref q0_1, .ref q0_2, .ref q0_3, .ref q0_4, .int q0_5, .int q0_6, .int q0_7, .int q0_8, .int q0_9, .int q0_10, .int q0_11, .int q0_12, .int q0_13, .int q0_14, .ref q0_15, .int q0_16, .ref q0_17, .ref q0_18, .ref q0_19, .int q0_20, .ref q0_21, .ref q0_22, .int q0_23, .int q0_24, .int q0_25, .ref q0_26, .ref q0_27, .ref q0_28, .ref q0_29, .ref q0_30, .ref q0_31, .int q0_32, .ref q0_33, .ref q0_34, .ref q0_35])) :: (q0_4, .inl (cs.2.1, 1302, .inl f4)) :: X) H := hH
  refine lv_iload_n hx hb dX12_wall_5 rfl (lv_at hl 1 rfl) ?_
  refine lv_i2l hx hb dX12_wall_6 rfl ?_
  refine lv_lconst (v := 0) hx hb dX12_wall_7 (by decide) ?_
  refine lv_aload_n hx hb dX12_wall_8 rfl (lv_at hl 0 rfl) ?_
  refine x_getk (ci := 12) (C := RX12) (F := TX12) (N := 36) (v := .int q0_5) hx hb hts uX12 hown hkb hH 0 rfl rfl 5 (by decide) rfl kw_1228 (fun _ h9 => h9) dX12_wall_9 ?_
  refine lv_i2l hx hb dX12_wall_12 rfl ?_
  refine tk_i hH hS hA (tr_S (n := 3) (As := [.long x1.toInt64, .long 0, .long q0_5.toInt64]) hx hb hml hown hts hkb hH (ox_c (ox_c hOX)) hks hE hS hA (s_M_within l D cs kf T (a0 :: q0_4 :: O) ((a0, .inr (12, [.int 0, .ref q0_1, .ref q0_2, .ref q0_3, .ref q0_4, .int q0_5, .int q0_6, .int q0_7, .int q0_8, .int q0_9, .int q0_10, .int q0_11, .int q0_12, .int q0_13, .int q0_14, .ref q0_15, .int q0_16, .ref q0_17, .ref q0_18, .ref q0_19, .int q0_20, .ref q0_21, .ref q0_22, .int q0_23, .int q0_24, .int q0_25, .ref q0_26, .ref q0_27, .ref q0_28, .ref q0_29, .ref q0_30, .ref q0_31, .int q0_32, .ref q0_33, .ref q0_34, .ref q0_35])) :: (q0_4, .inl (cs.2.1, 1302, .inl f4)) :: X) x1.toInt64 0 q0_5.toInt64  (hO.sub (by decide))) kw_1341 kw_1342 kw_13 kw_1343 (by decide +kernel) ⟨Nat.le_of_ble_eq_true rfl, Nat.le_of_ble_eq_true rfl⟩ rfl rfl hl.1 (Nat.le_of_ble_eq_true rfl) dX12_wall_13 ⟨Nat.le_of_ble_eq_true rfl, Nat.le_of_ble_eq_true rfl⟩) (fun v13 u H locs hz9 hH hS => ?_)
  obtain ⟨rfl, l_v13, u_v13, x_v130, x_v131⟩ := hz9
  simp only [Int32.toInt_toInt64] at x_v130 x_v131
  have k9_0 : (0 : Int64).toInt = 0 := by decide
  have hH : HT D cs A T (a0 :: q0_4 :: O) ((a0, .inr (12, [.int 0, .ref q0_1, .ref q0_2, .ref q0_3, .ref q0_4, .int q0_5, .int q0_6, .int q0_7, .int q0_8, .int q0_9, .int q0_10, .int q0_11, .int q0_12, .int q0_13, .int q0_14, .ref q0_15, .int q0_16, .ref q0_17, .ref q0_18, .ref q0_19, .int q0_20, .ref q0_21, .ref q0_22, .int q0_23, .int q0_24, .int q0_25, .ref q0_26, .ref q0_27, .ref q0_28, .ref q0_29, .ref q0_30, .ref q0_31, .int q0_32, .ref q0_33, .ref q0_34, .ref q0_35])) :: (q0_4, .inl (cs.2.1, 1302, .inl f4)) :: X) H := hH
  refine W.widen (k := 0) (n := 0) (Nat.le_of_ble_eq_true rfl) (Nat.le_of_ble_eq_true rfl) ?_
  refine lv_if_ne (tgt := 22) hx hb dX12_wall_16 (by decide) (fun c16 => ?_) (fun c16 => ?_)
  · skip
    have tc16 := f_ne (k := 0) (by decide) c16
    replace x_v130 := x_v130.resolve_left tc16
    clear x_v131
    refine lv_aload_n hx hb dX12_wall_22 rfl (lv_at hl 0 rfl) ?_
    refine lv_iload_n hx hb dX12_wall_23 rfl (lv_at hl 1 rfl) ?_
    refine x_putk (ci := 12) (v := .int x1) (ty := tyX12 8) (C := RX12) (F := TX12) (N := 36) hx hb hts uX12 tyX12 tyX12_ok nmX12 hown hkb hH hS 0 rfl rfl 8 (by decide) kw_1231 (fun _ h9 => h9) rfl (tyX12_ok 8 (by decide)) rfl rfl (Nat.le_of_ble_eq_true rfl) dX12_wall_24 (fun H locs hH hS => ?_)
    have hH : HT D cs A T (a0 :: q0_4 :: O) ((a0, .inr (12, [.int 0, .ref q0_1, .ref q0_2, .ref q0_3, .ref q0_4, .int q0_5, .int q0_6, .int q0_7, .int x1, .int q0_9, .int q0_10, .int q0_11, .int q0_12, .int q0_13, .int q0_14, .ref q0_15, .int q0_16, .ref q0_17, .ref q0_18, .ref q0_19, .int q0_20, .ref q0_21, .ref q0_22, .int q0_23, .int q0_24, .int q0_25, .ref q0_26, .ref q0_27, .ref q0_28, .ref q0_29, .ref q0_30, .ref q0_31, .int q0_32, .ref q0_33, .ref q0_34, .ref q0_35])) :: (q0_4, .inl (cs.2.1, 1302, .inl f4)) :: X) H := hH
    refine lv_aload_n hx hb dX12_wall_27 rfl (lv_at hl 0 rfl) ?_
    refine lv_iconst (v := 0) hx hb dX12_wall_28 (by decide) ?_
    refine x_putk (ci := 12) (v := .int 0) (ty := tyX12 5) (C := RX12) (F := TX12) (N := 36) hx hb hts uX12 tyX12 tyX12_ok nmX12 hown hkb hH hS 0 rfl rfl 5 (by decide) kw_1228 (fun _ h9 => h9) rfl (tyX12_ok 5 (by decide)) rfl rfl (Nat.le_of_ble_eq_true rfl) dX12_wall_29 (fun H locs hH hS => ?_)
    have hH : HT D cs A T (a0 :: q0_4 :: O) ((a0, .inr (12, [.int 0, .ref q0_1, .ref q0_2, .ref q0_3, .ref q0_4, .int 0, .int q0_6, .int q0_7, .int x1, .int q0_9, .int q0_10, .int q0_11, .int q0_12, .int q0_13, .int q0_14, .ref q0_15, .int q0_16, .ref q0_17, .ref q0_18, .ref q0_19, .int q0_20, .ref q0_21, .ref q0_22, .int q0_23, .int q0_24, .int q0_25, .ref q0_26, .ref q0_27, .ref q0_28, .ref q0_29, .ref q0_30, .ref q0_31, .int q0_32, .ref q0_33, .ref q0_34, .ref q0_35])) :: (q0_4, .inl (cs.2.1, 1302, .inl f4)) :: X) H := hH
    refine lv_aload_n hx hb dX12_wall_32 rfl (lv_at hl 0 rfl) ?_
    refine lv_iconst (v := 0) hx hb dX12_wall_33 (by decide) ?_
    refine x_putk (ci := 12) (v := .int 0) (ty := tyX12 7) (C := RX12) (F := TX12) (N := 36) hx hb hts uX12 tyX12 tyX12_ok nmX12 hown hkb hH hS 0 rfl rfl 7 (by decide) kw_1230 (fun _ h9 => h9) rfl (tyX12_ok 7 (by decide)) rfl rfl (Nat.le_of_ble_eq_true rfl) dX12_wall_34 (fun H locs hH hS => ?_)
    have hH : HT D cs A T (a0 :: q0_4 :: O) ((a0, .inr (12, [.int 0, .ref q0_1, .ref q0_2, .ref q0_3, .ref q0_4, .int 0, .int q0_6, .int 0, .int x1, .int q0_9, .int q0_10, .int q0_11, .int q0_12, .int q0_13, .int q0_14, .ref q0_15, .int q0_16, .ref q0_17, .ref q0_18, .ref q0_19, .int q0_20, .ref q0_21, .ref q0_22, .int q0_23, .int q0_24, .int q0_25, .ref q0_26, .ref q0_27, .ref q0_28, .ref q0_29, .ref q0_30, .ref q0_31, .int q0_32, .ref q0_33, .ref q0_34, .ref q0_35])) :: (q0_4, .inl (cs.2.1, 1302, .inl f4)) :: X) H := hH
    refine lv_aload_n hx hb dX12_wall_37 rfl (lv_at hl 0 rfl) ?_
    refine lv_iconst (v := 0) hx hb dX12_wall_38 (by decide) ?_
    refine x_putk (ci := 12) (v := .int 0) (ty := tyX12 11) (C := RX12) (F := TX12) (N := 36) hx hb hts uX12 tyX12 tyX12_ok nmX12 hown hkb hH hS 0 rfl rfl 11 (by decide) kw_1234 (fun _ h9 => h9) rfl (tyX12_ok 11 (by decide)) rfl rfl (Nat.le_of_ble_eq_true rfl) dX12_wall_39 (fun H locs hH hS => ?_)
    have hH : HT D cs A T (a0 :: q0_4 :: O) ((a0, .inr (12, [.int 0, .ref q0_1, .ref q0_2, .ref q0_3, .ref q0_4, .int 0, .int q0_6, .int 0, .int x1, .int q0_9, .int q0_10, .int 0, .int q0_12, .int q0_13, .int q0_14, .ref q0_15, .int q0_16, .ref q0_17, .ref q0_18, .ref q0_19, .int q0_20, .ref q0_21, .ref q0_22, .int q0_23, .int q0_24, .int q0_25, .ref q0_26, .ref q0_27, .ref q0_28, .ref q0_29, .ref q0_30, .ref q0_31, .int q0_32, .ref q0_33, .ref q0_34, .ref q0_35])) :: (q0_4, .inl (cs.2.1, 1302, .inl f4)) :: X) H := hH
    refine lv_aload_n hx hb dX12_wall_42 rfl (lv_at hl 0 rfl) ?_
    refine x_getk (ci := 12) (C := RX12) (F := TX12) (N := 36) (v := .ref q0_4) hx hb hts uX12 hown hkb hH 0 rfl rfl 4 (by decide) rfl kw_1227 (fun _ h9 => h9) dX12_wall_43 ?_
    have z9_0 : (0 : Int32).toInt = 0 := by decide
    have z9_0 : (0 : Int32).toInt = 0 := by decide
    have z9_0 : (0 : Int32).toInt = 0 := by decide
    have z9_0 : (0 : Int32).toInt = 0 := by decide
    refine tk_v hH hS hA (tr_S (n := 1) (As := [.ref q0_4]) hx hb hml hown hts hkb hH (ox_c (ox_c hOX)) hks hE hS hA (s_M_plain0 l D cs kf T O X (.int 0) (.ref q0_1) (.ref q0_2) (.ref q0_3) q0_4 [.int 0, .int q0_6, .int 0, .int x1, .int q0_9, .int q0_10, .int 0, .int q0_12, .int q0_13, .int q0_14, .ref q0_15, .int q0_16, .ref q0_17, .ref q0_18, .ref q0_19, .int q0_20, .ref q0_21, .ref q0_22, .int q0_23, .int q0_24, .int q0_25, .ref q0_26, .ref q0_27, .ref q0_28, .ref q0_29, .ref q0_30, .ref q0_31, .int q0_32, .ref q0_33, .ref q0_34, .ref q0_35] f4 a0 hg mq t_q0_4 t_a0 (hO.sub (by decide))) kw_1220 kw_1221 kw_13 kw_1222 (by decide +kernel) ⟨Nat.le_of_ble_eq_true rfl, Nat.le_of_ble_eq_true rfl⟩ rfl rfl hl.1 (Nat.le_of_ble_eq_true rfl) dX12_wall_46 ⟨Nat.le_of_ble_eq_true rfl, Nat.le_of_ble_eq_true rfl⟩) (fun u H locs hz9 hH hS => ?_)
    obtain ⟨F46_1, rfl, x_v460⟩ := hz9
    have s_F46_1 := x_v460
    have hH : HT D cs A T (a0 :: q0_4 :: O) ((a0, .inr (12, [.int 0, .ref q0_1, .ref q0_2, .ref q0_3, .ref q0_4, .int 0, .int q0_6, .int 0, .int x1, .int q0_9, .int q0_10, .int 0, .int q0_12, .int q0_13, .int q0_14, .ref q0_15, .int q0_16, .ref q0_17, .ref q0_18, .ref q0_19, .int q0_20, .ref q0_21, .ref q0_22, .int q0_23, .int q0_24, .int q0_25, .ref q0_26, .ref q0_27, .ref q0_28, .ref q0_29, .ref q0_30, .ref q0_31, .int q0_32, .ref q0_33, .ref q0_34, .ref q0_35])) :: (q0_4, .inl (cs.2.1, 1302, .inl F46_1)) :: X) H := hH
    refine W.widen (k := 0) (n := 0) (Nat.le_of_ble_eq_true rfl) (Nat.le_of_ble_eq_true rfl) ?_
    refine lv_aload_n hx hb dX12_wall_49 rfl (lv_at hl 0 rfl) ?_
    have J53 : ∀ (n : Nat) (f53_106 : Int32) (f53_107 : Int32) (f53_109 : Int32) (f53_110 : Int32) (f53_111 : Int32) (f53_112 : Int32) (g53_1 : Nat → Int32) (H : Heap) (locs : List Loc) (ls : Array Slot), ((900 - f53_106.toInt) * 2 + wz f53_111).toNat = n → (S8 g53_1) → (0 ≤ f53_106.toInt) → (f53_106.toInt ≤ 900) → (0 ≤ f53_107.toInt) → (f53_107.toInt ≤ 900) → (0 ≤ f53_110.toInt) → (f53_110.toInt ≤ 999) → (f53_106.toInt ≤ f53_107.toInt) → (f53_107.toInt ≤ x1.toInt) → (TK3 f53_109 f53_106 f53_107) → (0 ≤ x1.toInt ∧ x1.toInt ≤ (mq : Int)) → HT D cs A T (a0 :: q0_4 :: O) ((a0, .inr (12, [.int 0, .ref q0_1, .ref q0_2, .ref q0_3, .ref q0_4, .int 0, .int f53_106, .int f53_107, .int x1, .int f53_109, .int f53_110, .int f53_111, .int f53_112, .int q0_13, .int q0_14, .ref q0_15, .int q0_16, .ref q0_17, .ref q0_18, .ref q0_19, .int q0_20, .ref q0_21, .ref q0_22, .int q0_23, .int q0_24, .int q0_25, .ref q0_26, .ref q0_27, .ref q0_28, .ref q0_29, .ref q0_30, .ref q0_31, .int q0_32, .ref q0_33, .ref q0_34, .ref q0_35])) :: (q0_4, .inl (cs.2.1, 1302, .inl g53_1)) :: X) H → va_S A s.heap H locs → lv_has ls 3 [(0, .ref a0)] → W p l e { frames := 33, cells := 0, slots := 0, locals := 703 } s m [.ref a0, .int x1].toArray below meth c H locs 0 0 (MQ below (Ti D cs (fun r u => ∃ (T2 : TF) (hg2 : Nat) (mq2 : Nat), u = (T2, O, X) ∧ (Trm T T2 a0) ∧ (T2 a0 = some (22, hg2, mq2)) ∧ (hg2 < 90) ∧ (WLF mq mq2 x1.toInt)) A) [.ref a0, .int x1].toArray s 0 0 A) (F0 m 53 ls []) := by
      intro n
      induction n using Nat.strongRecOn with
      | _ n ih53 =>
        intro f53_106 f53_107 f53_109 f53_110 f53_111 f53_112 g53_1 H locs ls hm53 s_g53_1 l_f53_106 u_f53_106 l_f53_107 u_f53_107 l_f53_110 u_f53_110 ia53 ib53 ic53 iw53 hH hS hl
        refine lv_aload_n hx hb dX12_wall_53 rfl (lv_at hl 0 rfl) ?_
        refine x_getk (ci := 12) (C := RX12) (F := TX12) (N := 36) (v := .int f53_111) hx hb hts uX12 hown hkb hH 0 rfl rfl 11 (by decide) rfl kw_1234 (fun _ h9 => h9) dX12_wall_54 ?_
        have J100 : ∀  (H : Heap) (locs : List Loc) (ls : Array Slot), HT D cs A T (a0 :: q0_4 :: O) ((a0, .inr (12, [.int 0, .ref q0_1, .ref q0_2, .ref q0_3, .ref q0_4, .int 0, .int f53_106, .int f53_107, .int x1, .int f53_109, .int f53_110, .int f53_111, .int f53_112, .int q0_13, .int q0_14, .ref q0_15, .int q0_16, .ref q0_17, .ref q0_18, .ref q0_19, .int q0_20, .ref q0_21, .ref q0_22, .int q0_23, .int q0_24, .int q0_25, .ref q0_26, .ref q0_27, .ref q0_28, .ref q0_29, .ref q0_30, .ref q0_31, .int q0_32, .ref q0_33, .ref q0_34, .ref q0_35])) :: (q0_4, .inl (cs.2.1, 1302, .inl g53_1)) :: X) H → va_S A s.heap H locs → lv_has ls 3 [(0, .ref a0)] → W p l e { frames := 33, cells := 0, slots := 0, locals := 703 } s m [.ref a0, .int x1].toArray below meth c H locs 0 0 (MQ below (Ti D cs (fun r u => ∃ (T2 : TF) (hg2 : Nat) (mq2 : Nat), u = (T2, O, X) ∧ (Trm T T2 a0) ∧ (T2 a0 = some (22, hg2, mq2)) ∧ (hg2 < 90) ∧ (WLF mq mq2 x1.toInt)) A) [.ref a0, .int x1].toArray s 0 0 A) (F0 m 100 ls []) := by
          intro  H locs ls  hH hS hl
          refine lv_aload_n hx hb dX12_wall_100 rfl (lv_at hl 0 rfl) ?_
          refine lv_aload_n hx hb dX12_wall_101 rfl (lv_at hl 0 rfl) ?_
          refine x_getk (ci := 12) (C := RX12) (F := TX12) (N := 36) (v := .int f53_111) hx hb hts uX12 hown hkb hH 0 rfl rfl 11 (by decide) rfl kw_1234 (fun _ h9 => h9) dX12_wall_102 ?_
          refine x_putk (ci := 12) (v := .int f53_111) (ty := tyX12 13) (C := RX12) (F := TX12) (N := 36) hx hb hts uX12 tyX12 tyX12_ok nmX12 hown hkb hH hS 0 rfl rfl 13 (by decide) kw_1236 (fun _ h9 => h9) rfl (tyX12_ok 13 (by decide)) rfl rfl (Nat.le_of_ble_eq_true rfl) dX12_wall_105 (fun H locs hH hS => ?_)
          have hH : HT D cs A T (a0 :: q0_4 :: O) ((a0, .inr (12, [.int 0, .ref q0_1, .ref q0_2, .ref q0_3, .ref q0_4, .int 0, .int f53_106, .int f53_107, .int x1, .int f53_109, .int f53_110, .int f53_111, .int f53_112, .int f53_111, .int q0_14, .ref q0_15, .int q0_16, .ref q0_17, .ref q0_18, .ref q0_19, .int q0_20, .ref q0_21, .ref q0_22, .int q0_23, .int q0_24, .int q0_25, .ref q0_26, .ref q0_27, .ref q0_28, .ref q0_29, .ref q0_30, .ref q0_31, .int q0_32, .ref q0_33, .ref q0_34, .ref q0_35])) :: (q0_4, .inl (cs.2.1, 1302, .inl g53_1)) :: X) H := hH
          refine lv_aload_n hx hb dX12_wall_108 rfl (lv_at hl 0 rfl) ?_
          refine lv_aload_n hx hb dX12_wall_109 rfl (lv_at hl 0 rfl) ?_
          refine x_getk (ci := 12) (C := RX12) (F := TX12) (N := 36) (v := .int f53_111) hx hb hts uX12 hown hkb hH 0 rfl rfl 11 (by decide) rfl kw_1234 (fun _ h9 => h9) dX12_wall_110 ?_
          have J142 : ∀ (f142_114 : Int32) (H : Heap) (locs : List Loc) (ls : Array Slot), (0 ≤ f53_111.toInt) → (f53_111.toInt ≤ 0) → HT D cs A T (a0 :: q0_4 :: O) ((a0, .inr (12, [.int 0, .ref q0_1, .ref q0_2, .ref q0_3, .ref q0_4, .int 0, .int f53_106, .int f53_107, .int x1, .int f53_109, .int f53_110, .int f53_111, .int f53_112, .int f53_111, .int f142_114, .ref q0_15, .int q0_16, .ref q0_17, .ref q0_18, .ref q0_19, .int q0_20, .ref q0_21, .ref q0_22, .int q0_23, .int q0_24, .int q0_25, .ref q0_26, .ref q0_27, .ref q0_28, .ref q0_29, .ref q0_30, .ref q0_31, .int q0_32, .ref q0_33, .ref q0_34, .ref q0_35])) :: (q0_4, .inl (cs.2.1, 1302, .inl g53_1)) :: X) H → va_S A s.heap H locs → lv_has ls 3 [(0, .ref a0)] → W p l e { frames := 33, cells := 0, slots := 0, locals := 703 } s m [.ref a0, .int x1].toArray below meth c H locs 0 0 (MQ below (Ti D cs (fun r u => ∃ (T2 : TF) (hg2 : Nat) (mq2 : Nat), u = (T2, O, X) ∧ (Trm T T2 a0) ∧ (T2 a0 = some (22, hg2, mq2)) ∧ (hg2 < 90) ∧ (WLF mq mq2 x1.toInt)) A) [.ref a0, .int x1].toArray s 0 0 A) (F0 m 142 ls []) := by
            intro f142_114 H locs ls l_f53_111 u_f53_111 hH hS hl
            obtain ⟨e9, hs9, hH⟩ := HT.takeA hH t_q0_1 (nm_c (tag_ne t_q0_1 t_a0 (fun q => absurd (show 8 = 22 from congrArg Prod.fst q) (by decide))) (nm_c (tag_ne t_q0_1 t_q0_4 (fun q => absurd (show 3906 = 1302 from congrArg (fun z => z.2.1) q) (by decide))) (hO0.no t_q0_1 (by decide))))
            obtain ⟨f1, rfl, s_f1, g_f1⟩ : ∃ f : Nat → Int32, e9 = .inl (cs.2.1, 3906, .inl f) ∧ B8 3906 f ∧ (3906 = 3906 → f 1 = nI (hg / 6) ∧ f 2 = nI (hg % 6)) := hs9
            have hO : okO T (q0_1 :: a0 :: q0_4 :: O) [1] := okO.cons (hO.sub (by decide)) t_q0_1 (by decide)
            refine lv_iconst (v := 0) hx hb dX12_wall_142 (by decide) ?_
            have J144 : ∀ (n : Nat) (p144_2 : Int32) (g144_0 : Nat → Int32) (H : Heap) (locs : List Loc) (ls : Array Slot), (1302 - p144_2.toInt).toNat = n → (0 ≤ p144_2.toInt) → (p144_2.toInt ≤ 1302) → (CW f1 g53_1 g144_0 p144_2.toInt.toNat) → (0 ≤ x1.toInt ∧ x1.toInt ≤ (mq : Int)) → HT D cs A T (q0_1 :: a0 :: q0_4 :: O) ((q0_1, .inl (cs.2.1, 3906, .inl g144_0)) :: (a0, .inr (12, [.int 0, .ref q0_1, .ref q0_2, .ref q0_3, .ref q0_4, .int 0, .int f53_106, .int f53_107, .int x1, .int f53_109, .int f53_110, .int f53_111, .int f53_112, .int f53_111, .int f142_114, .ref q0_15, .int q0_16, .ref q0_17, .ref q0_18, .ref q0_19, .int q0_20, .ref q0_21, .ref q0_22, .int q0_23, .int q0_24, .int q0_25, .ref q0_26, .ref q0_27, .ref q0_28, .ref q0_29, .ref q0_30, .ref q0_31, .int q0_32, .ref q0_33, .ref q0_34, .ref q0_35])) :: (q0_4, .inl (cs.2.1, 1302, .inl g53_1)) :: X) H → va_S A s.heap H locs → lv_has ls 3 [(2, .int p144_2), (0, .ref a0)] → W p l e { frames := 33, cells := 0, slots := 0, locals := 703 } s m [.ref a0, .int x1].toArray below meth c H locs 0 0 (MQ below (Ti D cs (fun r u => ∃ (T2 : TF) (hg2 : Nat) (mq2 : Nat), u = (T2, O, X) ∧ (Trm T T2 a0) ∧ (T2 a0 = some (22, hg2, mq2)) ∧ (hg2 < 90) ∧ (WLF mq mq2 x1.toInt)) A) [.ref a0, .int x1].toArray s 0 0 A) (F0 m 144 ls []) := by
              intro n
              induction n using Nat.strongRecOn with
              | _ n ih144 =>
                intro p144_2 g144_0 H locs ls hm144 l_p144_2 u_p144_2 i144 iw144 hH hS hl
                refine lv_iload_n hx hb dX12_wall_144 rfl (lv_at hl 0 rfl) ?_
                refine lv_sipush (v := 1302) hx hb dX12_wall_145 (by decide) ?_
                refine lv_icmp_ge (tgt := 169) hx hb dX12_wall_148 (by decide) (fun c148 => ?_) (fun c148 => ?_)
                · skip
                  have tc148 := f_ge (k := 1302) (by decide) c148
                  have s_g144_0 := CW_B8 i144 (by omega) s_f1 s_g53_1
                  obtain ⟨hg, b_hg, g_g144_0⟩ := hg_of s_g144_0.first
                  refine lv_iconst (v := 0) hx hb dX12_wall_169 (by decide) ?_
                  have J171 : ∀ (n : Nat) (p171_2 : Int32) (g171_0 : Nat → Int32) (H : Heap) (locs : List Loc) (ls : Array Slot), (14 - p171_2.toInt).toNat = n → (B8 3906 g171_0) → (g171_0 1 = nI (hg / 6) ∧ g171_0 2 = nI (hg % 6)) → (0 ≤ p171_2.toInt) → (p171_2.toInt ≤ 14) → (0 ≤ x1.toInt ∧ x1.toInt ≤ (mq : Int)) → HT D cs A T (q0_1 :: a0 :: q0_4 :: O) ((q0_1, .inl (cs.2.1, 3906, .inl g171_0)) :: (a0, .inr (12, [.int 0, .ref q0_1, .ref q0_2, .ref q0_3, .ref q0_4, .int 0, .int f53_106, .int f53_107, .int x1, .int f53_109, .int f53_110, .int f53_111, .int f53_112, .int f53_111, .int f142_114, .ref q0_15, .int q0_16, .ref q0_17, .ref q0_18, .ref q0_19, .int q0_20, .ref q0_21, .ref q0_22, .int q0_23, .int q0_24, .int q0_25, .ref q0_26, .ref q0_27, .ref q0_28, .ref q0_29, .ref q0_30, .ref q0_31, .int q0_32, .ref q0_33, .ref q0_34, .ref q0_35])) :: (q0_4, .inl (cs.2.1, 1302, .inl g53_1)) :: X) H → va_S A s.heap H locs → lv_has ls 3 [(2, .int p171_2), (0, .ref a0)] → W p l e { frames := 33, cells := 0, slots := 0, locals := 703 } s m [.ref a0, .int x1].toArray below meth c H locs 0 0 (MQ below (Ti D cs (fun r u => ∃ (T2 : TF) (hg2 : Nat) (mq2 : Nat), u = (T2, O, X) ∧ (Trm T T2 a0) ∧ (T2 a0 = some (22, hg2, mq2)) ∧ (hg2 < 90) ∧ (WLF mq mq2 x1.toInt)) A) [.ref a0, .int x1].toArray s 0 0 A) (F0 m 171 ls []) := by
                    intro n
                    induction n using Nat.strongRecOn with
                    | _ n ih171 =>
                      intro p171_2 g171_0 H locs ls hm171 s_g171_0 g_g171_0 l_p171_2 u_p171_2 iw171 hH hS hl
                      refine lv_iload_n hx hb dX12_wall_171 rfl (lv_at hl 0 rfl) ?_
                      refine lv_aload_n hx hb dX12_wall_172 rfl (lv_at hl 1 rfl) ?_
                      refine x_getk (ci := 12) (C := RX12) (F := TX12) (N := 36) (v := .ref q0_1) hx hb hts uX12 hown hkb hH 1 rfl rfl 1 (by decide) rfl kw_1224 (fun _ h9 => h9) dX12_wall_173 ?_
                      refine lv_iconst (v := 1) hx hb dX12_wall_176 (by decide) ?_
                      refine xa_ild hx hb hkb hH 0 rfl (by decide) (by decide) dX12_wall_177 ?_
                      refine lv_topi (fun v177 ev177 => ?_)
                      have tv177 : v177 = g171_0 1 := by rw [ev177]; rfl
                      have bv177 : 0 ≤ v177.toInt ∧ v177.toInt ≤ 14 := by rw [ev177]; exact (s_g171_0.at (by decide) 1).1 (by decide)
                      have hv177 : v177.toInt = ((hg / 6 : Nat) : Int) := by rw [tv177, g_g171_0.1]; exact nI_toInt (by omega)
                      refine lv_icmp_ge (tgt := 216) hx hb dX12_wall_178 (by decide) (fun c178 => ?_) (fun c178 => ?_)
                      · skip
                        have fuc178 := full_i p171_2
                        have fvc178 := full_i v177
                        have tc178 := g_le c178
                        refine lv_aload_n hx hb dX12_wall_216 rfl (lv_at hl 1 rfl) ?_
                        refine x_getk (ci := 12) (C := RX12) (F := TX12) (N := 36) (v := .ref q0_1) hx hb hts uX12 hown hkb hH 1 rfl rfl 1 (by decide) rfl kw_1224 (fun _ h9 => h9) dX12_wall_217 ?_
                        refine lv_iconst (v := 0) hx hb dX12_wall_220 (by decide) ?_
                        refine xa_ild hx hb hkb hH 0 rfl (by decide) (by decide) dX12_wall_221 ?_
                        refine lv_topi (fun v221 ev221 => ?_)
                        have tv221 : v221 = g171_0 0 := by rw [ev221]; rfl
                        obtain ⟨T2, ta2, tm2, hs2, rk2, hH⟩ := HT.rk (hg2 := hg) (mq2 := 0) hH t_a0 t_q0_1 hU (by simp) (by simp)
                        have t_q0_2 := (hs2 _ (tag_ne t_q0_2 t_a0 (fun q => absurd (show 3 = 22 from congrArg Prod.fst q) (by decide))) (tag_ne t_q0_2 t_q0_1 (fun q => absurd (show 3 = 8 from congrArg Prod.fst q) (by decide)))).trans t_q0_2
                        have t_q0_3 := (hs2 _ (tag_ne t_q0_3 t_a0 (fun q => absurd (show 1 = 22 from congrArg Prod.fst q) (by decide))) (tag_ne t_q0_3 t_q0_1 (fun q => absurd (show 1 = 8 from congrArg Prod.fst q) (by decide)))).trans t_q0_3
                        have t_q0_4 := (hs2 _ (tag_ne t_q0_4 t_a0 (fun q => absurd (show 8 = 22 from congrArg Prod.fst q) (by decide))) (tag_ne t_q0_4 t_q0_1 (fun q => absurd (show 1302 = 3906 from congrArg (fun z => z.2.1) q) (by decide)))).trans t_q0_4
                        have t_q0_15 := (hs2 _ (tag_ne t_q0_15 t_a0 (fun q => absurd (show 1 = 22 from congrArg Prod.fst q) (by decide))) (tag_ne t_q0_15 t_q0_1 (fun q => absurd (show 1 = 8 from congrArg Prod.fst q) (by decide)))).trans t_q0_15
                        have t_q0_17 := (hs2 _ (tag_ne t_q0_17 t_a0 (fun q => absurd (show 9 = 22 from congrArg Prod.fst q) (by decide))) (tag_ne t_q0_17 t_q0_1 (fun q => absurd (show 9 = 8 from congrArg Prod.fst q) (by decide)))).trans t_q0_17
                        have t_q0_18 := (hs2 _ (tag_ne t_q0_18 t_a0 (fun q => absurd (show 9 = 22 from congrArg Prod.fst q) (by decide))) (tag_ne t_q0_18 t_q0_1 (fun q => absurd (show 9 = 8 from congrArg Prod.fst q) (by decide)))).trans t_q0_18
                        have t_q0_19 := (hs2 _ (tag_ne t_q0_19 t_a0 (fun q => absurd (show 1 = 22 from congrArg Prod.fst q) (by decide))) (tag_ne t_q0_19 t_q0_1 (fun q => absurd (show 1 = 8 from congrArg Prod.fst q) (by decide)))).trans t_q0_19
                        have t_q0_21 := (hs2 _ (tag_ne t_q0_21 t_a0 (fun q => absurd (show 1 = 22 from congrArg Prod.fst q) (by decide))) (tag_ne t_q0_21 t_q0_1 (fun q => absurd (show 1 = 8 from congrArg Prod.fst q) (by decide)))).trans t_q0_21
                        have t_q0_22 := (hs2 _ (tag_ne t_q0_22 t_a0 (fun q => absurd (show 1 = 22 from congrArg Prod.fst q) (by decide))) (tag_ne t_q0_22 t_q0_1 (fun q => absurd (show 1 = 8 from congrArg Prod.fst q) (by decide)))).trans t_q0_22
                        have t_q0_26 := (hs2 _ (tag_ne t_q0_26 t_a0 (fun q => absurd (show 2 = 22 from congrArg Prod.fst q) (by decide))) (tag_ne t_q0_26 t_q0_1 (fun q => absurd (show 2 = 8 from congrArg Prod.fst q) (by decide)))).trans t_q0_26
                        have t_q0_27 := (hs2 _ (tag_ne t_q0_27 t_a0 (fun q => absurd (show 3 = 22 from congrArg Prod.fst q) (by decide))) (tag_ne t_q0_27 t_q0_1 (fun q => absurd (show 3 = 8 from congrArg Prod.fst q) (by decide)))).trans t_q0_27
                        have t_q0_28 := (hs2 _ (tag_ne t_q0_28 t_a0 (fun q => absurd (show 0 = 22 from congrArg Prod.fst q) (by decide))) (tag_ne t_q0_28 t_q0_1 (fun q => absurd (show 0 = 8 from congrArg Prod.fst q) (by decide)))).trans t_q0_28
                        have t_q0_29 := (hs2 _ (tag_ne t_q0_29 t_a0 (fun q => absurd (show 1 = 22 from congrArg Prod.fst q) (by decide))) (tag_ne t_q0_29 t_q0_1 (fun q => absurd (show 1 = 8 from congrArg Prod.fst q) (by decide)))).trans t_q0_29
                        have t_q0_30 := (hs2 _ (tag_ne t_q0_30 t_a0 (fun q => absurd (show 1 = 22 from congrArg Prod.fst q) (by decide))) (tag_ne t_q0_30 t_q0_1 (fun q => absurd (show 1 = 8 from congrArg Prod.fst q) (by decide)))).trans t_q0_30
                        have t_q0_31 := (hs2 _ (tag_ne t_q0_31 t_a0 (fun q => absurd (show 1 = 22 from congrArg Prod.fst q) (by decide))) (tag_ne t_q0_31 t_q0_1 (fun q => absurd (show 1 = 8 from congrArg Prod.fst q) (by decide)))).trans t_q0_31
                        have t_q0_33 := (hs2 _ (tag_ne t_q0_33 t_a0 (fun q => absurd (show 1 = 22 from congrArg Prod.fst q) (by decide))) (tag_ne t_q0_33 t_q0_1 (fun q => absurd (show 1 = 8 from congrArg Prod.fst q) (by decide)))).trans t_q0_33
                        have t_q0_34 := (hs2 _ (tag_ne t_q0_34 t_a0 (fun q => absurd (show 1 = 22 from congrArg Prod.fst q) (by decide))) (tag_ne t_q0_34 t_q0_1 (fun q => absurd (show 1 = 8 from congrArg Prod.fst q) (by decide)))).trans t_q0_34
                        have t_q0_35 := (hs2 _ (tag_ne t_q0_35 t_a0 (fun q => absurd (show 2 = 22 from congrArg Prod.fst q) (by decide))) (tag_ne t_q0_35 t_q0_1 (fun q => absurd (show 2 = 8 from congrArg Prod.fst q) (by decide)))).trans t_q0_35
                        have hH : HT D cs A T2 (a0 :: q0_4 :: O) ((a0, .inr (12, [.int 0, .ref q0_1, .ref q0_2, .ref q0_3, .ref q0_4, .int 0, .int f53_106, .int f53_107, .int x1, .int f53_109, .int f53_110, .int f53_111, .int f53_112, .int f53_111, .int f142_114, .ref q0_15, .int q0_16, .ref q0_17, .ref q0_18, .ref q0_19, .int q0_20, .ref q0_21, .ref q0_22, .int q0_23, .int q0_24, .int q0_25, .ref q0_26, .ref q0_27, .ref q0_28, .ref q0_29, .ref q0_30, .ref q0_31, .int q0_32, .ref q0_33, .ref q0_34, .ref q0_35])) :: (q0_4, .inl (cs.2.1, 1302, .inl g53_1)) :: X) H := HT.layA hH ta2 (show sp cs T2 (8, 3906, hg) _ from ⟨_, rfl, s_g171_0, fun _ => g_g171_0⟩)
                        have t_q0_1 := ta2
                        have t_a0 := tm2
                        have hH : HT D cs A T2 (q0_4 :: O) ((q0_4, .inl (cs.2.1, 1302, .inl g53_1)) :: X) H := HT.lay (ci := 12) hH t_a0 (okL_c (⟨_, rfl⟩) (okL_c (⟨_, rfl, t_q0_1⟩) (okL_c (⟨_, rfl, t_q0_2⟩) (okL_c (⟨_, rfl, t_q0_3⟩) (okL_c (⟨_, rfl, t_q0_4⟩) (okL_c (⟨_, rfl, by decide, by decide, by have k9 : (0 : Int32).toInt = 0 := (by decide); omega⟩) (okL_c (⟨_, rfl⟩) (okL_c (⟨_, rfl⟩) (okL_c (⟨_, rfl⟩) (okL_c (⟨_, rfl⟩) (okL_c (⟨_, rfl, by omega, by omega⟩) (okL_c (⟨_, rfl⟩) (okL_c (⟨_, rfl⟩) (okL_c (⟨_, rfl⟩) (okL_c (⟨_, rfl⟩) (okL_c (⟨_, rfl, t_q0_15⟩) (okL_c (⟨_, rfl⟩) (okL_c (⟨_, rfl, t_q0_17⟩) (okL_c (⟨_, rfl, t_q0_18⟩) (okL_c (⟨_, rfl, t_q0_19⟩) (okL_c (⟨_, rfl, by omega, by omega⟩) (okL_c (⟨_, rfl, t_q0_21⟩) (okL_c (⟨_, rfl, t_q0_22⟩) (okL_c (⟨_, rfl⟩) (okL_c (⟨_, rfl⟩) (okL_c (⟨_, rfl⟩) (okL_c (⟨_, rfl, t_q0_26⟩) (okL_c (⟨_, rfl, t_q0_27⟩) (okL_c (⟨_, rfl, t_q0_28⟩) (okL_c (⟨_, rfl, t_q0_29⟩) (okL_c (⟨_, rfl, t_q0_30⟩) (okL_c (⟨_, rfl, t_q0_31⟩) (okL_c (⟨_, rfl⟩) (okL_c (⟨_, rfl, t_q0_33⟩) (okL_c (⟨_, rfl, t_q0_34⟩) (okL_c (⟨_, rfl, t_q0_35⟩) (okL_n)))))))))))))))))))))))))))))))))))))
                        have hO := hO0
                        have hH : HT D cs A T2 O X H := HT.layA hH t_q0_4 (show sp cs T2 (8, 1302, 0) _ from ⟨_, rfl, B8_of s_g53_1, fun q => absurd q (by decide)⟩)
                        exact te_i hx hb hr hlocks hH hS (⟨T2, hg, 0, rfl, rk2, tm2, b_hg, (by unfold WLF; omega)⟩) dX12_wall_222
                      · skip
                        have fuc178 := full_i p171_2
                        have fvc178 := full_i v177
                        have tc178 := g_nle c178
                        refine lv_aload_n hx hb dX12_wall_181 rfl (lv_at hl 1 rfl) ?_
                        refine x_getk (ci := 12) (C := RX12) (F := TX12) (N := 36) (v := .ref q0_1) hx hb hts uX12 hown hkb hH 1 rfl rfl 1 (by decide) rfl kw_1224 (fun _ h9 => h9) dX12_wall_182 ?_
                        refine lv_bipush (v := 59) hx hb dX12_wall_185 (by decide) ?_
                        refine lv_iload_n hx hb dX12_wall_187 rfl (lv_at hl 0 rfl) ?_
                        refine lv_iadd hx hb dX12_wall_188 ?_
                        refine lv_topi (fun v188 ev188 => ?_)
                        have tv188 : v188.toInt = (59) + p171_2.toInt := by rw [ev188]; exact add_i (by decide : (59 : Int32).toInt = 59) rfl (by omega) (by omega)
                        refine xa_ild hx hb hkb hH 0 rfl (by omega) (by omega) dX12_wall_189 ?_
                        refine lv_topi (fun v189 ev189 => ?_)
                        have tv189 : v189 = g171_0 v188.toInt.toNat := ev189
                        refine lv_iconst (v := (-1)) hx hb dX12_wall_190 (by decide) ?_
                        have J210 : ∀ (g210_0 : Nat → Int32) (H : Heap) (locs : List Loc) (ls : Array Slot), (B8 3906 g210_0) → (g210_0 1 = nI (hg / 6) ∧ g210_0 2 = nI (hg % 6)) → HT D cs A T (q0_1 :: a0 :: q0_4 :: O) ((q0_1, .inl (cs.2.1, 3906, .inl g210_0)) :: (a0, .inr (12, [.int 0, .ref q0_1, .ref q0_2, .ref q0_3, .ref q0_4, .int 0, .int f53_106, .int f53_107, .int x1, .int f53_109, .int f53_110, .int f53_111, .int f53_112, .int f53_111, .int f142_114, .ref q0_15, .int q0_16, .ref q0_17, .ref q0_18, .ref q0_19, .int q0_20, .ref q0_21, .ref q0_22, .int q0_23, .int q0_24, .int q0_25, .ref q0_26, .ref q0_27, .ref q0_28, .ref q0_29, .ref q0_30, .ref q0_31, .int q0_32, .ref q0_33, .ref q0_34, .ref q0_35])) :: (q0_4, .inl (cs.2.1, 1302, .inl g53_1)) :: X) H → va_S A s.heap H locs → lv_has ls 3 [(2, .int p171_2), (0, .ref a0)] → W p l e { frames := 33, cells := 0, slots := 0, locals := 703 } s m [.ref a0, .int x1].toArray below meth c H locs 0 0 (MQ below (Ti D cs (fun r u => ∃ (T2 : TF) (hg2 : Nat) (mq2 : Nat), u = (T2, O, X) ∧ (Trm T T2 a0) ∧ (T2 a0 = some (22, hg2, mq2)) ∧ (hg2 < 90) ∧ (WLF mq mq2 x1.toInt)) A) [.ref a0, .int x1].toArray s 0 0 A) (F0 m 210 ls []) := by
                          intro g210_0 H locs ls s_g210_0 g_g210_0 hH hS hl
                          obtain ⟨v210, ev210⟩ : ∃ y : Int32, y = p171_2 + 1 := ⟨_, rfl⟩
                          have tv210 : v210.toInt = p171_2.toInt + (1) := by rw [ev210]; exact add_i rfl (by decide) (by omega) (by omega)
                          refine lv_iinc (v := v210) (lv' := [(2, .int v210), (0, .ref a0)]) hx hb dX12_wall_210 hl (k := 0) rfl (by rw [ev210]; rfl) (by decide) rfl (fun ls hl => ?_)
                          refine lv_goto (tgt := 171) hx hb dX12_wall_213 (by decide) ?_
                          exact ih171 _ (by omega) v210 g210_0 _ _ _ rfl s_g210_0 g_g210_0 (by omega) (by omega) (by omega) hH hS (lv_sub hl [0, 1] rfl)
                        refine lv_icmp_eq (tgt := 210) hx hb dX12_wall_191 (by decide) (fun c191 => ?_) (fun c191 => ?_)
                        · skip
                          have tc191 := f_eq (k := -1) (by decide) c191
                          exact J210 g171_0 _ _ _ s_g171_0 g_g171_0 hH hS (lv_sub hl [0, 1] rfl)
                        · skip
                          have tc191 := f_ne (k := -1) (by decide) c191
                          refine lv_aload_n hx hb dX12_wall_194 rfl (lv_at hl 1 rfl) ?_
                          refine x_getk (ci := 12) (C := RX12) (F := TX12) (N := 36) (v := .ref q0_1) hx hb hts uX12 hown hkb hH 1 rfl rfl 1 (by decide) rfl kw_1224 (fun _ h9 => h9) dX12_wall_195 ?_
                          refine lv_bipush (v := 73) hx hb dX12_wall_198 (by decide) ?_
                          refine lv_iload_n hx hb dX12_wall_200 rfl (lv_at hl 0 rfl) ?_
                          refine lv_iadd hx hb dX12_wall_201 ?_
                          refine lv_topi (fun v201 ev201 => ?_)
                          have tv201 : v201.toInt = (73) + p171_2.toInt := by rw [ev201]; exact add_i (by decide : (73 : Int32).toInt = 73) rfl (by omega) (by omega)
                          refine lv_aload_n hx hb dX12_wall_202 rfl (lv_at hl 1 rfl) ?_
                          refine x_getk (ci := 12) (C := RX12) (F := TX12) (N := 36) (v := .ref q0_1) hx hb hts uX12 hown hkb hH 1 rfl rfl 1 (by decide) rfl kw_1224 (fun _ h9 => h9) dX12_wall_203 ?_
                          refine lv_bipush (v := 88) hx hb dX12_wall_206 (by decide) ?_
                          refine xa_ild hx hb hkb hH 0 rfl (by decide) (by decide) dX12_wall_208 ?_
                          refine lv_topi (fun v208 ev208 => ?_)
                          have tv208 : v208 = g171_0 88 := by rw [ev208]; rfl
                          refine xa_ist hx hb hkb hH hS 0 rfl (by omega) (by omega) dX12_wall_209 (fun H locs hH hS => ?_)
                          have hH : HT D cs A T (q0_1 :: a0 :: q0_4 :: O) ((q0_1, .inl (cs.2.1, 3906, .inl (upd g171_0 (v201.toInt.toNat) v208))) :: (a0, .inr (12, [.int 0, .ref q0_1, .ref q0_2, .ref q0_3, .ref q0_4, .int 0, .int f53_106, .int f53_107, .int x1, .int f53_109, .int f53_110, .int f53_111, .int f53_112, .int f53_111, .int f142_114, .ref q0_15, .int q0_16, .ref q0_17, .ref q0_18, .ref q0_19, .int q0_20, .ref q0_21, .ref q0_22, .int q0_23, .int q0_24, .int q0_25, .ref q0_26, .ref q0_27, .ref q0_28, .ref q0_29, .ref q0_30, .ref q0_31, .int q0_32, .ref q0_33, .ref q0_34, .ref q0_35])) :: (q0_4, .inl (cs.2.1, 1302, .inl g53_1)) :: X) H := hH
                          obtain ⟨F209, eF209⟩ : ∃ f9, f9 = upd g171_0 (v201.toInt.toNat) v208 := ⟨_, rfl⟩
                          have hH : HT D cs A T (q0_1 :: a0 :: q0_4 :: O) ((q0_1, .inl (cs.2.1, 3906, .inl F209)) :: (a0, .inr (12, [.int 0, .ref q0_1, .ref q0_2, .ref q0_3, .ref q0_4, .int 0, .int f53_106, .int f53_107, .int x1, .int f53_109, .int f53_110, .int f53_111, .int f53_112, .int f53_111, .int f142_114, .ref q0_15, .int q0_16, .ref q0_17, .ref q0_18, .ref q0_19, .int q0_20, .ref q0_21, .ref q0_22, .int q0_23, .int q0_24, .int q0_25, .ref q0_26, .ref q0_27, .ref q0_28, .ref q0_29, .ref q0_30, .ref q0_31, .int q0_32, .ref q0_33, .ref q0_34, .ref q0_35])) :: (q0_4, .inl (cs.2.1, 1302, .inl g53_1)) :: X) H := eF209 ▸ hH
                          have g_F209 : F209 1 = nI (hg / 6) ∧ F209 2 = nI (hg % 6) := by rw [eF209]; exact ⟨(upd_ne (by omega)).trans g_g171_0.1, (upd_ne (by omega)).trans g_g171_0.2⟩
                          have s_F209 : B8 3906 F209 := by rw [eF209]; exact s_g171_0.put (i := v201) (x := v208) (by omega) (by omega) (p8_far (by omega) (⟨by omega, by omega⟩))
                          exact J210 F209 _ _ _ s_F209 g_F209 hH hS (lv_sub hl [0, 1] rfl)
                  refine lv_istore_n (lv' := [(2, .int 0), (0, .ref a0)]) hx hb dX12_wall_170 rfl hl (by decide) rfl (fun ls hl => ?_)
                  have z_0 : (0 : Int32).toInt = 0 := by decide
                  exact J171 _ 0 g144_0 _ _ _ rfl s_g144_0 g_g144_0 (by decide) (by decide) (by omega) hH hS (lv_sub hl [0, 1] rfl)
                · skip
                  have tc148 := f_nge (k := 1302) (by decide) c148
                  refine lv_aload_n hx hb dX12_wall_151 rfl (lv_at hl 1 rfl) ?_
                  refine x_getk (ci := 12) (C := RX12) (F := TX12) (N := 36) (v := .ref q0_1) hx hb hts uX12 hown hkb hH 1 rfl rfl 1 (by decide) rfl kw_1224 (fun _ h9 => h9) dX12_wall_152 ?_
                  refine lv_iload_n hx hb dX12_wall_155 rfl (lv_at hl 0 rfl) ?_
                  refine lv_aload_n hx hb dX12_wall_156 rfl (lv_at hl 1 rfl) ?_
                  refine x_getk (ci := 12) (C := RX12) (F := TX12) (N := 36) (v := .ref q0_4) hx hb hts uX12 hown hkb hH 1 rfl rfl 4 (by decide) rfl kw_1227 (fun _ h9 => h9) dX12_wall_157 ?_
                  refine lv_iload_n hx hb dX12_wall_160 rfl (lv_at hl 0 rfl) ?_
                  refine xa_ild hx hb hkb hH 2 rfl (by omega) (by omega) dX12_wall_161 ?_
                  refine lv_topi (fun v161 ev161 => ?_)
                  have tv161 : v161 = g53_1 p144_2.toInt.toNat := ev161
                  refine xa_ist hx hb hkb hH hS 0 rfl (by omega) (by omega) dX12_wall_162 (fun H locs hH hS => ?_)
                  have hH : HT D cs A T (q0_1 :: a0 :: q0_4 :: O) ((q0_1, .inl (cs.2.1, 3906, .inl (upd g144_0 (p144_2.toInt.toNat) v161))) :: (a0, .inr (12, [.int 0, .ref q0_1, .ref q0_2, .ref q0_3, .ref q0_4, .int 0, .int f53_106, .int f53_107, .int x1, .int f53_109, .int f53_110, .int f53_111, .int f53_112, .int f53_111, .int f142_114, .ref q0_15, .int q0_16, .ref q0_17, .ref q0_18, .ref q0_19, .int q0_20, .ref q0_21, .ref q0_22, .int q0_23, .int q0_24, .int q0_25, .ref q0_26, .ref q0_27, .ref q0_28, .ref q0_29, .ref q0_30, .ref q0_31, .int q0_32, .ref q0_33, .ref q0_34, .ref q0_35])) :: (q0_4, .inl (cs.2.1, 1302, .inl g53_1)) :: X) H := hH
                  obtain ⟨F162, eF162⟩ : ∃ f9, f9 = upd g144_0 (p144_2.toInt.toNat) v161 := ⟨_, rfl⟩
                  have hH : HT D cs A T (q0_1 :: a0 :: q0_4 :: O) ((q0_1, .inl (cs.2.1, 3906, .inl F162)) :: (a0, .inr (12, [.int 0, .ref q0_1, .ref q0_2, .ref q0_3, .ref q0_4, .int 0, .int f53_106, .int f53_107, .int x1, .int f53_109, .int f53_110, .int f53_111, .int f53_112, .int f53_111, .int f142_114, .ref q0_15, .int q0_16, .ref q0_17, .ref q0_18, .ref q0_19, .int q0_20, .ref q0_21, .ref q0_22, .int q0_23, .int q0_24, .int q0_25, .ref q0_26, .ref q0_27, .ref q0_28, .ref q0_29, .ref q0_30, .ref q0_31, .int q0_32, .ref q0_33, .ref q0_34, .ref q0_35])) :: (q0_4, .inl (cs.2.1, 1302, .inl g53_1)) :: X) H := eF162 ▸ hH
                  obtain ⟨v163, ev163⟩ : ∃ y : Int32, y = p144_2 + 1 := ⟨_, rfl⟩
                  have tv163 : v163.toInt = p144_2.toInt + (1) := by rw [ev163]; exact add_i rfl (by decide) (by omega) (by omega)
                  refine lv_iinc (v := v163) (lv' := [(2, .int v163), (0, .ref a0)]) hx hb dX12_wall_163 hl (k := 0) rfl (by rw [ev163]; rfl) (by decide) rfl (fun ls hl => ?_)
                  refine lv_goto (tgt := 144) hx hb dX12_wall_166 (by decide) ?_
                  exact ih144 _ (by omega) v163 F162 _ _ _ rfl (by omega) (by omega) (by first | (refine CW_0 ?_; decide) | (refine CW_s i144 ?_ tv163 tv161 eF162; omega)) (by omega) hH hS (lv_sub hl [0, 1] rfl)
            refine lv_istore_n (lv' := [(2, .int 0), (0, .ref a0)]) hx hb dX12_wall_143 rfl hl (by decide) rfl (fun ls hl => ?_)
            have z_0 : (0 : Int32).toInt = 0 := by decide
            exact J144 _ 0 f1 _ _ _ rfl (by decide) (by decide) (by first | (refine CW_0 ?_; decide) | (refine CW_s i144 ?_ tv163 tv161 eF162; omega)) (by omega) hH hS (lv_sub hl [0, 1] rfl)
          refine lv_if_ne (tgt := 120) hx hb dX12_wall_113 (by decide) (fun c113 => ?_) (fun c113 => ?_)
          · skip
            have tc113 := f_ne (k := 0) (by decide) c113
            refine lv_aload_n hx hb dX12_wall_120 rfl (lv_at hl 0 rfl) ?_
            refine x_getk (ci := 12) (C := RX12) (F := TX12) (N := 36) (v := .int f53_112) hx hb hts uX12 hown hkb hH 0 rfl rfl 12 (by decide) rfl kw_1235 (fun _ h9 => h9) dX12_wall_121 ?_
            refine x_putk (ci := 12) (v := .int f53_112) (ty := tyX12 14) (C := RX12) (F := TX12) (N := 36) hx hb hts uX12 tyX12 tyX12_ok nmX12 hown hkb hH hS 0 rfl rfl 14 (by decide) kw_1237 (fun _ h9 => h9) rfl (tyX12_ok 14 (by decide)) rfl rfl (Nat.le_of_ble_eq_true rfl) dX12_wall_124 (fun H locs hH hS => ?_)
            have hH : HT D cs A T (a0 :: q0_4 :: O) ((a0, .inr (12, [.int 0, .ref q0_1, .ref q0_2, .ref q0_3, .ref q0_4, .int 0, .int f53_106, .int f53_107, .int x1, .int f53_109, .int f53_110, .int f53_111, .int f53_112, .int f53_111, .int f53_112, .ref q0_15, .int q0_16, .ref q0_17, .ref q0_18, .ref q0_19, .int q0_20, .ref q0_21, .ref q0_22, .int q0_23, .int q0_24, .int q0_25, .ref q0_26, .ref q0_27, .ref q0_28, .ref q0_29, .ref q0_30, .ref q0_31, .int q0_32, .ref q0_33, .ref q0_34, .ref q0_35])) :: (q0_4, .inl (cs.2.1, 1302, .inl g53_1)) :: X) H := hH
            refine lv_aload_n hx hb dX12_wall_127 rfl (lv_at hl 0 rfl) ?_
            refine x_getk (ci := 12) (C := RX12) (F := TX12) (N := 36) (v := .int f53_111) hx hb hts uX12 hown hkb hH 0 rfl rfl 11 (by decide) rfl kw_1234 (fun _ h9 => h9) dX12_wall_128 ?_
            refine lv_if_eq (tgt := 142) hx hb dX12_wall_131 (by decide) (fun c131 => ?_) (fun c131 => ?_)
            · skip
              have tc131 := f_eq (k := 0) (by decide) c131
              exact J142 f53_112 _ _ _ (by omega) (by omega) hH hS (lv_sub hl [0] rfl)
            · skip
              have tc131 := f_ne (k := 0) (by decide) c131
              refine lv_bipush (v := (-30)) hx hb dX12_wall_134 (by decide) ?_
              refine lv_aload_n hx hb dX12_wall_136 rfl (lv_at hl 0 rfl) ?_
              refine x_getk (ci := 12) (C := RX12) (F := TX12) (N := 36) (v := .int f53_111) hx hb hts uX12 hown hkb hH 0 rfl rfl 11 (by decide) rfl kw_1234 (fun _ h9 => h9) dX12_wall_137 ?_
              refine lv_isub hx hb dX12_wall_140 ?_
              refine lv_topi (fun v140 ev140 => ?_)
              obtain ⟨T2, tm2, hs2, rk2, hH⟩ := HT.mg (mq2 := 0) hH t_a0 hU (by simp)
              have t_q0_1 := (hs2 _ (tag_ne t_q0_1 t_a0 (fun q => absurd (show 8 = 22 from congrArg Prod.fst q) (by decide)))).trans t_q0_1
              have t_q0_2 := (hs2 _ (tag_ne t_q0_2 t_a0 (fun q => absurd (show 3 = 22 from congrArg Prod.fst q) (by decide)))).trans t_q0_2
              have t_q0_3 := (hs2 _ (tag_ne t_q0_3 t_a0 (fun q => absurd (show 1 = 22 from congrArg Prod.fst q) (by decide)))).trans t_q0_3
              have t_q0_4 := (hs2 _ (tag_ne t_q0_4 t_a0 (fun q => absurd (show 8 = 22 from congrArg Prod.fst q) (by decide)))).trans t_q0_4
              have t_q0_15 := (hs2 _ (tag_ne t_q0_15 t_a0 (fun q => absurd (show 1 = 22 from congrArg Prod.fst q) (by decide)))).trans t_q0_15
              have t_q0_17 := (hs2 _ (tag_ne t_q0_17 t_a0 (fun q => absurd (show 9 = 22 from congrArg Prod.fst q) (by decide)))).trans t_q0_17
              have t_q0_18 := (hs2 _ (tag_ne t_q0_18 t_a0 (fun q => absurd (show 9 = 22 from congrArg Prod.fst q) (by decide)))).trans t_q0_18
              have t_q0_19 := (hs2 _ (tag_ne t_q0_19 t_a0 (fun q => absurd (show 1 = 22 from congrArg Prod.fst q) (by decide)))).trans t_q0_19
              have t_q0_21 := (hs2 _ (tag_ne t_q0_21 t_a0 (fun q => absurd (show 1 = 22 from congrArg Prod.fst q) (by decide)))).trans t_q0_21
              have t_q0_22 := (hs2 _ (tag_ne t_q0_22 t_a0 (fun q => absurd (show 1 = 22 from congrArg Prod.fst q) (by decide)))).trans t_q0_22
              have t_q0_26 := (hs2 _ (tag_ne t_q0_26 t_a0 (fun q => absurd (show 2 = 22 from congrArg Prod.fst q) (by decide)))).trans t_q0_26
              have t_q0_27 := (hs2 _ (tag_ne t_q0_27 t_a0 (fun q => absurd (show 3 = 22 from congrArg Prod.fst q) (by decide)))).trans t_q0_27
              have t_q0_28 := (hs2 _ (tag_ne t_q0_28 t_a0 (fun q => absurd (show 0 = 22 from congrArg Prod.fst q) (by decide)))).trans t_q0_28
              have t_q0_29 := (hs2 _ (tag_ne t_q0_29 t_a0 (fun q => absurd (show 1 = 22 from congrArg Prod.fst q) (by decide)))).trans t_q0_29
              have t_q0_30 := (hs2 _ (tag_ne t_q0_30 t_a0 (fun q => absurd (show 1 = 22 from congrArg Prod.fst q) (by decide)))).trans t_q0_30
              have t_q0_31 := (hs2 _ (tag_ne t_q0_31 t_a0 (fun q => absurd (show 1 = 22 from congrArg Prod.fst q) (by decide)))).trans t_q0_31
              have t_q0_33 := (hs2 _ (tag_ne t_q0_33 t_a0 (fun q => absurd (show 1 = 22 from congrArg Prod.fst q) (by decide)))).trans t_q0_33
              have t_q0_34 := (hs2 _ (tag_ne t_q0_34 t_a0 (fun q => absurd (show 1 = 22 from congrArg Prod.fst q) (by decide)))).trans t_q0_34
              have t_q0_35 := (hs2 _ (tag_ne t_q0_35 t_a0 (fun q => absurd (show 2 = 22 from congrArg Prod.fst q) (by decide)))).trans t_q0_35
              have t_a0 := tm2
              have hH : HT D cs A T2 (q0_4 :: O) ((q0_4, .inl (cs.2.1, 1302, .inl g53_1)) :: X) H := HT.lay (ci := 12) hH t_a0 (okL_c (⟨_, rfl⟩) (okL_c (⟨_, rfl, t_q0_1⟩) (okL_c (⟨_, rfl, t_q0_2⟩) (okL_c (⟨_, rfl, t_q0_3⟩) (okL_c (⟨_, rfl, t_q0_4⟩) (okL_c (⟨_, rfl, by decide, by decide, by have k9 : (0 : Int32).toInt = 0 := (by decide); omega⟩) (okL_c (⟨_, rfl⟩) (okL_c (⟨_, rfl⟩) (okL_c (⟨_, rfl⟩) (okL_c (⟨_, rfl⟩) (okL_c (⟨_, rfl, by omega, by omega⟩) (okL_c (⟨_, rfl⟩) (okL_c (⟨_, rfl⟩) (okL_c (⟨_, rfl⟩) (okL_c (⟨_, rfl⟩) (okL_c (⟨_, rfl, t_q0_15⟩) (okL_c (⟨_, rfl⟩) (okL_c (⟨_, rfl, t_q0_17⟩) (okL_c (⟨_, rfl, t_q0_18⟩) (okL_c (⟨_, rfl, t_q0_19⟩) (okL_c (⟨_, rfl, by omega, by omega⟩) (okL_c (⟨_, rfl, t_q0_21⟩) (okL_c (⟨_, rfl, t_q0_22⟩) (okL_c (⟨_, rfl⟩) (okL_c (⟨_, rfl⟩) (okL_c (⟨_, rfl⟩) (okL_c (⟨_, rfl, t_q0_26⟩) (okL_c (⟨_, rfl, t_q0_27⟩) (okL_c (⟨_, rfl, t_q0_28⟩) (okL_c (⟨_, rfl, t_q0_29⟩) (okL_c (⟨_, rfl, t_q0_30⟩) (okL_c (⟨_, rfl, t_q0_31⟩) (okL_c (⟨_, rfl⟩) (okL_c (⟨_, rfl, t_q0_33⟩) (okL_c (⟨_, rfl, t_q0_34⟩) (okL_c (⟨_, rfl, t_q0_35⟩) (okL_n)))))))))))))))))))))))))))))))))))))
              have hO := hO0
              have hH : HT D cs A T2 O X H := HT.layA hH t_q0_4 (show sp cs T2 (8, 1302, 0) _ from ⟨_, rfl, B8_of s_g53_1, fun q => absurd q (by decide)⟩)
              exact te_i hx hb hr hlocks hH hS (⟨T2, hg, 0, rfl, rk2, tm2, b_hg, (by unfold WLF; omega)⟩) dX12_wall_141
          · skip
            have tc113 := f_eq (k := 0) (by decide) c113
            refine lv_iconst (v := (-1)) hx hb dX12_wall_116 (by decide) ?_
            refine lv_goto (tgt := 124) hx hb dX12_wall_117 (by decide) ?_
            refine x_putk (ci := 12) (v := .int (-1)) (ty := tyX12 14) (C := RX12) (F := TX12) (N := 36) hx hb hts uX12 tyX12 tyX12_ok nmX12 hown hkb hH hS 0 rfl rfl 14 (by decide) kw_1237 (fun _ h9 => h9) rfl (tyX12_ok 14 (by decide)) rfl rfl (Nat.le_of_ble_eq_true rfl) dX12_wall_124 (fun H locs hH hS => ?_)
            have hH : HT D cs A T (a0 :: q0_4 :: O) ((a0, .inr (12, [.int 0, .ref q0_1, .ref q0_2, .ref q0_3, .ref q0_4, .int 0, .int f53_106, .int f53_107, .int x1, .int f53_109, .int f53_110, .int f53_111, .int f53_112, .int f53_111, .int (-1), .ref q0_15, .int q0_16, .ref q0_17, .ref q0_18, .ref q0_19, .int q0_20, .ref q0_21, .ref q0_22, .int q0_23, .int q0_24, .int q0_25, .ref q0_26, .ref q0_27, .ref q0_28, .ref q0_29, .ref q0_30, .ref q0_31, .int q0_32, .ref q0_33, .ref q0_34, .ref q0_35])) :: (q0_4, .inl (cs.2.1, 1302, .inl g53_1)) :: X) H := hH
            refine lv_aload_n hx hb dX12_wall_127 rfl (lv_at hl 0 rfl) ?_
            refine x_getk (ci := 12) (C := RX12) (F := TX12) (N := 36) (v := .int f53_111) hx hb hts uX12 hown hkb hH 0 rfl rfl 11 (by decide) rfl kw_1234 (fun _ h9 => h9) dX12_wall_128 ?_
            refine lv_if_eq (tgt := 142) hx hb dX12_wall_131 (by decide) (fun c131 => ?_) (fun c131 => ?_)
            · skip
              have tc131 := f_eq (k := 0) (by decide) c131
              exact J142 (-1) _ _ _ (by omega) (by omega) hH hS (lv_sub hl [0] rfl)
            · skip
              have tc131 := f_ne (k := 0) (by decide) c131
              exfalso; omega
        refine lv_if_ne (tgt := 100) hx hb dX12_wall_57 (by decide) (fun c57 => ?_) (fun c57 => ?_)
        · skip
          have tc57 := f_ne (k := 0) (by decide) c57
          exact J100  _ _ _  hH hS (lv_sub hl [0] rfl)
        · skip
          have tc57 := f_eq (k := 0) (by decide) c57
          refine lv_aload_n hx hb dX12_wall_60 rfl (lv_at hl 0 rfl) ?_
          refine x_getk (ci := 12) (C := RX12) (F := TX12) (N := 36) (v := .int f53_109) hx hb hts uX12 hown hkb hH 0 rfl rfl 9 (by decide) rfl kw_1232 (fun _ h9 => h9) dX12_wall_61 ?_
          refine lv_bipush (v := 22) hx hb dX12_wall_64 (by decide) ?_
          refine lv_icmp_eq (tgt := 100) hx hb dX12_wall_66 (by decide) (fun c66 => ?_) (fun c66 => ?_)
          · skip
            have tc66 := f_eq (k := 22) (by decide) c66
            exact J100  _ _ _  hH hS (lv_sub hl [0] rfl)
          · skip
            have tc66 := f_ne (k := 22) (by decide) c66
            have hw1 := wz_1 tc57
            refine lv_aload_n hx hb dX12_wall_69 rfl (lv_at hl 0 rfl) ?_
            have z9_0 : (0 : Int32).toInt = 0 := by decide
            have z9_0 : (0 : Int32).toInt = 0 := by decide
            refine tk_v hH hS hA (tr_V (n := 0) (As := []) hx hb hml hown hts hkb hH (ox_c (ox_c hOX)) hks hE hS hA (s_M_readLine l D cs kf T O X a0 hg mq (.int 0) (.ref q0_1) (.ref q0_2) q0_3 q0_4 (.int 0) f53_106 f53_107 x1 f53_109 f53_110 f53_111 f53_112 [.int q0_13, .int q0_14, .ref q0_15, .int q0_16, .ref q0_17, .ref q0_18, .ref q0_19, .int q0_20, .ref q0_21, .ref q0_22, .int q0_23, .int q0_24, .int q0_25, .ref q0_26, .ref q0_27, .ref q0_28, .ref q0_29, .ref q0_30, .ref q0_31, .int q0_32, .ref q0_33, .ref q0_34, .ref q0_35] g53_1 t_a0 b_hg t_q0_3 t_q0_4 (by omega) (by omega) (by omega) (by omega) (by omega) (by omega) (by omega) (by omega) s_g53_1 (by omega) (by omega) ic53 (by omega) (by omega) (hO.sub (by decide))) kw_1366 kw_1368 ks_46 kw_13 kw_1369 (by decide +kernel) ⟨Nat.le_of_ble_eq_true rfl, Nat.le_of_ble_eq_true rfl⟩ (x_recv (ci := 12) hkb hH 0 rfl rfl) rfl rfl hl.1 (Nat.le_of_ble_eq_true rfl) dX12_wall_70 ⟨Nat.le_of_ble_eq_true rfl, Nat.le_of_ble_eq_true rfl⟩) (fun u H locs hz9 hH hS => ?_)
            obtain ⟨n70_0_6, n70_0_7, n70_0_9, n70_0_10, n70_0_11, n70_0_12, F70_1, rfl, x_v700, x_v701, x_v702, x_v703, x_v704, x_v705, x_v706⟩ := hz9
            have s_F70_1 := x_v700
            have hH : HT D cs A T (a0 :: q0_4 :: O) ((a0, .inr (12, [.int 0, .ref q0_1, .ref q0_2, .ref q0_3, .ref q0_4, .int 0, .int n70_0_6, .int n70_0_7, .int x1, .int n70_0_9, .int n70_0_10, .int n70_0_11, .int n70_0_12, .int q0_13, .int q0_14, .ref q0_15, .int q0_16, .ref q0_17, .ref q0_18, .ref q0_19, .int q0_20, .ref q0_21, .ref q0_22, .int q0_23, .int q0_24, .int q0_25, .ref q0_26, .ref q0_27, .ref q0_28, .ref q0_29, .ref q0_30, .ref q0_31, .int q0_32, .ref q0_33, .ref q0_34, .ref q0_35])) :: (q0_4, .inl (cs.2.1, 1302, .inl F70_1)) :: X) H := hH
            refine W.widen (k := 0) (n := 0) (Nat.le_of_ble_eq_true rfl) (Nat.le_of_ble_eq_true rfl) ?_
            refine lv_aload_n hx hb dX12_wall_73 rfl (lv_at hl 0 rfl) ?_
            refine lv_bipush (v := 30) hx hb dX12_wall_74 (by decide) ?_
            have z9_0 : (0 : Int32).toInt = 0 := by decide
            have z9_0 : (0 : Int32).toInt = 0 := by decide
            have z9_30 : (30 : Int32).toInt = 30 := by decide
            refine tk_i hH hS hA (tr_V (n := 1) (As := [.int 30]) hx hb hml hown hts hkb hH (ox_c (ox_c hOX)) hks hE hS hA (s_M_eats l D cs kf T (q0_4 :: O) ((q0_4, .inl (cs.2.1, 1302, .inl F70_1)) :: X) a0 hg mq (30) (.int 0) (.ref q0_1) (.ref q0_2) q0_3 q0_4 (.int 0) n70_0_6 n70_0_7 x1 n70_0_9 n70_0_10 n70_0_11 n70_0_12 [.int q0_13, .int q0_14, .ref q0_15, .int q0_16, .ref q0_17, .ref q0_18, .ref q0_19, .int q0_20, .ref q0_21, .ref q0_22, .int q0_23, .int q0_24, .int q0_25, .ref q0_26, .ref q0_27, .ref q0_28, .ref q0_29, .ref q0_30, .ref q0_31, .int q0_32, .ref q0_33, .ref q0_34, .ref q0_35] t_a0 b_hg t_q0_3 t_q0_4 (by omega) (by omega) (by omega) (by omega) (by omega) (by omega) (by omega) (by omega) (by omega) (by omega) x_v704 (by omega) (hO.sub (by decide))) kw_1390 kw_1392 ks_52 kw_13 kw_1393 (by decide +kernel) ⟨Nat.le_of_ble_eq_true rfl, Nat.le_of_ble_eq_true rfl⟩ (x_recv (ci := 12) hkb hH 0 rfl rfl) rfl rfl hl.1 (Nat.le_of_ble_eq_true rfl) dX12_wall_76 ⟨Nat.le_of_ble_eq_true rfl, Nat.le_of_ble_eq_true rfl⟩) (fun v76 u H locs hz9 hH hS => ?_)
            obtain ⟨n76_0_6, n76_0_7, n76_0_9, n76_0_10, rfl, l_v76, u_v76, x_v760, x_v761, x_v762, x_v763, x_v764, x_v765, x_v766⟩ := hz9
            have hH : HT D cs A T (a0 :: q0_4 :: O) ((a0, .inr (12, [.int 0, .ref q0_1, .ref q0_2, .ref q0_3, .ref q0_4, .int 0, .int n76_0_6, .int n76_0_7, .int x1, .int n76_0_9, .int n76_0_10, .int n70_0_11, .int n70_0_12, .int q0_13, .int q0_14, .ref q0_15, .int q0_16, .ref q0_17, .ref q0_18, .ref q0_19, .int q0_20, .ref q0_21, .ref q0_22, .int q0_23, .int q0_24, .int q0_25, .ref q0_26, .ref q0_27, .ref q0_28, .ref q0_29, .ref q0_30, .ref q0_31, .int q0_32, .ref q0_33, .ref q0_34, .ref q0_35])) :: (q0_4, .inl (cs.2.1, 1302, .inl F70_1)) :: X) H := hH
            refine W.widen (k := 0) (n := 0) (Nat.le_of_ble_eq_true rfl) (Nat.le_of_ble_eq_true rfl) ?_
            refine lv_if_ne (tgt := 87) hx hb dX12_wall_79 (by decide) (fun c79 => ?_) (fun c79 => ?_)
            · skip
              have tc79 := f_ne (k := 0) (by decide) c79
              replace x_v766 := x_v766.resolve_left tc79
              refine lv_aload_n hx hb dX12_wall_87 rfl (lv_at hl 0 rfl) ?_
              refine x_getk (ci := 12) (C := RX12) (F := TX12) (N := 36) (v := .ref q0_4) hx hb hts uX12 hown hkb hH 0 rfl rfl 4 (by decide) rfl kw_1227 (fun _ h9 => h9) dX12_wall_88 ?_
              refine lv_iconst (v := 0) hx hb dX12_wall_91 (by decide) ?_
              refine lv_dup2_11 hx hb dX12_wall_92 rfl rfl ?_
              refine xa_ild hx hb hkb hH 1 rfl (by decide) (by decide) dX12_wall_93 ?_
              refine lv_topi (fun v93 ev93 => ?_)
              have tv93 : v93 = F70_1 0 := by rw [ev93]; rfl
              refine lv_iconst (v := 1) hx hb dX12_wall_94 (by decide) ?_
              refine lv_iadd hx hb dX12_wall_95 ?_
              refine lv_topi (fun v95 ev95 => ?_)
              refine xa_ist hx hb hkb hH hS 1 rfl (by decide) (by decide) dX12_wall_96 (fun H locs hH hS => ?_)
              have hH : HT D cs A T (a0 :: q0_4 :: O) ((a0, .inr (12, [.int 0, .ref q0_1, .ref q0_2, .ref q0_3, .ref q0_4, .int 0, .int n76_0_6, .int n76_0_7, .int x1, .int n76_0_9, .int n76_0_10, .int n70_0_11, .int n70_0_12, .int q0_13, .int q0_14, .ref q0_15, .int q0_16, .ref q0_17, .ref q0_18, .ref q0_19, .int q0_20, .ref q0_21, .ref q0_22, .int q0_23, .int q0_24, .int q0_25, .ref q0_26, .ref q0_27, .ref q0_28, .ref q0_29, .ref q0_30, .ref q0_31, .int q0_32, .ref q0_33, .ref q0_34, .ref q0_35])) :: (q0_4, .inl (cs.2.1, 1302, .inl (upd F70_1 (0) v95))) :: X) H := hH
              obtain ⟨F96, eF96⟩ : ∃ f9, f9 = upd F70_1 (0) v95 := ⟨_, rfl⟩
              have hH : HT D cs A T (a0 :: q0_4 :: O) ((a0, .inr (12, [.int 0, .ref q0_1, .ref q0_2, .ref q0_3, .ref q0_4, .int 0, .int n76_0_6, .int n76_0_7, .int x1, .int n76_0_9, .int n76_0_10, .int n70_0_11, .int n70_0_12, .int q0_13, .int q0_14, .ref q0_15, .int q0_16, .ref q0_17, .ref q0_18, .ref q0_19, .int q0_20, .ref q0_21, .ref q0_22, .int q0_23, .int q0_24, .int q0_25, .ref q0_26, .ref q0_27, .ref q0_28, .ref q0_29, .ref q0_30, .ref q0_31, .int q0_32, .ref q0_33, .ref q0_34, .ref q0_35])) :: (q0_4, .inl (cs.2.1, 1302, .inl F96)) :: X) H := eF96 ▸ hH
              have s_F96 : S8 F96 := eF96 ▸ S8_put (i := 0) (x := v95) s_F70_1 (by decide) (by decide) (⟨fun q9 => absurd q9 (by decide), fun q9 => absurd q9 (by decide), fun q9 => absurd q9 (by decide), fun q9 => absurd q9 (by decide), fun q9 => absurd q9 (by decide), fun q9 => absurd q9 (by decide), fun q9 => absurd q9 (by decide)⟩)
              have hw2 := wz_b n70_0_11
              refine lv_goto (tgt := 53) hx hb dX12_wall_97 (by decide) ?_
              exact ih53 _ (by omega) n76_0_6 n76_0_7 n76_0_9 n76_0_10 n70_0_11 n70_0_12 F96 _ _ _ rfl s_F96 (by omega) (by omega) (by omega) (by omega) (by omega) (by omega) (by omega) (by omega) x_v763 (by omega) hH hS (lv_sub hl [0] rfl)
            · skip
              have tc79 := f_eq (k := 0) (by decide) c79
              clear x_v766
              refine lv_aload_n hx hb dX12_wall_82 rfl (lv_at hl 0 rfl) ?_
              refine lv_iconst (v := 2) hx hb dX12_wall_83 (by decide) ?_
              have z9_0 : (0 : Int32).toInt = 0 := by decide
              have z9_0 : (0 : Int32).toInt = 0 := by decide
              have z9_2 : (2 : Int32).toInt = 2 := by decide
              refine tk_v hH hS hA (tr_V (n := 1) (As := [.int 2]) hx hb hml hown hts hkb hH (ox_c (ox_c hOX)) hks hE hS hA (s_M_fails l D cs kf T (q0_4 :: O) ((q0_4, .inl (cs.2.1, 1302, .inl F70_1)) :: X) a0 hg mq (2) (.int 0) (.ref q0_1) (.ref q0_2) q0_3 q0_4 (.int 0) n76_0_6 n76_0_7 x1 n76_0_9 n76_0_10 n70_0_11 n70_0_12 [.int q0_13, .int q0_14, .ref q0_15, .int q0_16, .ref q0_17, .ref q0_18, .ref q0_19, .int q0_20, .ref q0_21, .ref q0_22, .int q0_23, .int q0_24, .int q0_25, .ref q0_26, .ref q0_27, .ref q0_28, .ref q0_29, .ref q0_30, .ref q0_31, .int q0_32, .ref q0_33, .ref q0_34, .ref q0_35] t_a0 b_hg (by decide) (by decide) t_q0_3 t_q0_4 (by omega) (by omega) (by omega) (by omega) (by omega) (by omega) (by omega) (by omega) (hO.sub (by decide))) kw_1378 kw_1380 ks_49 kw_13 kw_1381 (by decide +kernel) ⟨Nat.le_of_ble_eq_true rfl, Nat.le_of_ble_eq_true rfl⟩ (x_recv (ci := 12) hkb hH 0 rfl rfl) rfl rfl hl.1 (Nat.le_of_ble_eq_true rfl) dX12_wall_84 ⟨Nat.le_of_ble_eq_true rfl, Nat.le_of_ble_eq_true rfl⟩) (fun u H locs hz9 hH hS => ?_)
              obtain ⟨n84_0_11, n84_0_12, rfl, x_v840⟩ := hz9
              have hH : HT D cs A T (a0 :: q0_4 :: O) ((a0, .inr (12, [.int 0, .ref q0_1, .ref q0_2, .ref q0_3, .ref q0_4, .int 0, .int n76_0_6, .int n76_0_7, .int x1, .int n76_0_9, .int n76_0_10, .int n84_0_11, .int n84_0_12, .int q0_13, .int q0_14, .ref q0_15, .int q0_16, .ref q0_17, .ref q0_18, .ref q0_19, .int q0_20, .ref q0_21, .ref q0_22, .int q0_23, .int q0_24, .int q0_25, .ref q0_26, .ref q0_27, .ref q0_28, .ref q0_29, .ref q0_30, .ref q0_31, .int q0_32, .ref q0_33, .ref q0_34, .ref q0_35])) :: (q0_4, .inl (cs.2.1, 1302, .inl F70_1)) :: X) H := hH
              refine W.widen (k := 0) (n := 0) (Nat.le_of_ble_eq_true rfl) (Nat.le_of_ble_eq_true rfl) ?_
              refine lv_aload_n hx hb dX12_wall_87 rfl (lv_at hl 0 rfl) ?_
              refine x_getk (ci := 12) (C := RX12) (F := TX12) (N := 36) (v := .ref q0_4) hx hb hts uX12 hown hkb hH 0 rfl rfl 4 (by decide) rfl kw_1227 (fun _ h9 => h9) dX12_wall_88 ?_
              refine lv_iconst (v := 0) hx hb dX12_wall_91 (by decide) ?_
              refine lv_dup2_11 hx hb dX12_wall_92 rfl rfl ?_
              refine xa_ild hx hb hkb hH 1 rfl (by decide) (by decide) dX12_wall_93 ?_
              refine lv_topi (fun v93 ev93 => ?_)
              have tv93 : v93 = F70_1 0 := by rw [ev93]; rfl
              refine lv_iconst (v := 1) hx hb dX12_wall_94 (by decide) ?_
              refine lv_iadd hx hb dX12_wall_95 ?_
              refine lv_topi (fun v95 ev95 => ?_)
              refine xa_ist hx hb hkb hH hS 1 rfl (by decide) (by decide) dX12_wall_96 (fun H locs hH hS => ?_)
              have hH : HT D cs A T (a0 :: q0_4 :: O) ((a0, .inr (12, [.int 0, .ref q0_1, .ref q0_2, .ref q0_3, .ref q0_4, .int 0, .int n76_0_6, .int n76_0_7, .int x1, .int n76_0_9, .int n76_0_10, .int n84_0_11, .int n84_0_12, .int q0_13, .int q0_14, .ref q0_15, .int q0_16, .ref q0_17, .ref q0_18, .ref q0_19, .int q0_20, .ref q0_21, .ref q0_22, .int q0_23, .int q0_24, .int q0_25, .ref q0_26, .ref q0_27, .ref q0_28, .ref q0_29, .ref q0_30, .ref q0_31, .int q0_32, .ref q0_33, .ref q0_34, .ref q0_35])) :: (q0_4, .inl (cs.2.1, 1302, .inl (upd F70_1 (0) v95))) :: X) H := hH
              obtain ⟨F96, eF96⟩ : ∃ f9, f9 = upd F70_1 (0) v95 := ⟨_, rfl⟩
              have hH : HT D cs A T (a0 :: q0_4 :: O) ((a0, .inr (12, [.int 0, .ref q0_1, .ref q0_2, .ref q0_3, .ref q0_4, .int 0, .int n76_0_6, .int n76_0_7, .int x1, .int n76_0_9, .int n76_0_10, .int n84_0_11, .int n84_0_12, .int q0_13, .int q0_14, .ref q0_15, .int q0_16, .ref q0_17, .ref q0_18, .ref q0_19, .int q0_20, .ref q0_21, .ref q0_22, .int q0_23, .int q0_24, .int q0_25, .ref q0_26, .ref q0_27, .ref q0_28, .ref q0_29, .ref q0_30, .ref q0_31, .int q0_32, .ref q0_33, .ref q0_34, .ref q0_35])) :: (q0_4, .inl (cs.2.1, 1302, .inl F96)) :: X) H := eF96 ▸ hH
              have s_F96 : S8 F96 := eF96 ▸ S8_put (i := 0) (x := v95) s_F70_1 (by decide) (by decide) (⟨fun q9 => absurd q9 (by decide), fun q9 => absurd q9 (by decide), fun q9 => absurd q9 (by decide), fun q9 => absurd q9 (by decide), fun q9 => absurd q9 (by decide), fun q9 => absurd q9 (by decide), fun q9 => absurd q9 (by decide)⟩)
              have hw2 := wz_b n84_0_11
              try have hw3 := wz_0 x_v840
              refine lv_goto (tgt := 53) hx hb dX12_wall_97 (by decide) ?_
              exact ih53 _ (by omega) n76_0_6 n76_0_7 n76_0_9 n76_0_10 n84_0_11 n84_0_12 F96 _ _ _ rfl s_F96 (by omega) (by omega) (by omega) (by omega) (by omega) (by omega) (by omega) (by omega) x_v763 (by omega) hH hS (lv_sub hl [0] rfl)
    have z9_0 : (0 : Int32).toInt = 0 := by decide
    have z9_0 : (0 : Int32).toInt = 0 := by decide
    have z9_0 : (0 : Int32).toInt = 0 := by decide
    have z9_0 : (0 : Int32).toInt = 0 := by decide
    refine tk_v hH hS hA (tr_V (n := 0) (As := []) hx hb hml hown hts hkb hH (ox_c (ox_c hOX)) hks hE hS hA (s_M_next0 l D cs kf T (q0_4 :: O) ((q0_4, .inl (cs.2.1, 1302, .inl F46_1)) :: X) a0 hg mq (.int 0) (.ref q0_1) (.ref q0_2) q0_3 q0_4 (.int 0) q0_6 (0) x1 q0_9 q0_10 (0) q0_12 [.int q0_13, .int q0_14, .ref q0_15, .int q0_16, .ref q0_17, .ref q0_18, .ref q0_19, .int q0_20, .ref q0_21, .ref q0_22, .int q0_23, .int q0_24, .int q0_25, .ref q0_26, .ref q0_27, .ref q0_28, .ref q0_29, .ref q0_30, .ref q0_31, .int q0_32, .ref q0_33, .ref q0_34, .ref q0_35] t_a0 b_hg t_q0_3 t_q0_4 (by decide) (by decide) (by omega) (by omega) (by omega) (by omega) (by omega) (hO.sub (by decide))) kw_1344 kw_1346 ks_43 kw_13 kw_1347 (by decide +kernel) ⟨Nat.le_of_ble_eq_true rfl, Nat.le_of_ble_eq_true rfl⟩ (x_recv (ci := 12) hkb hH 0 rfl rfl) rfl rfl hl.1 (Nat.le_of_ble_eq_true rfl) dX12_wall_50 ⟨Nat.le_of_ble_eq_true rfl, Nat.le_of_ble_eq_true rfl⟩) (fun u H locs hz9 hH hS => ?_)
    obtain ⟨n50_0_6, n50_0_7, n50_0_9, n50_0_10, rfl, x_v500, x_v501, x_v502, x_v503, x_v504, x_v505⟩ := hz9
    have hH : HT D cs A T (a0 :: q0_4 :: O) ((a0, .inr (12, [.int 0, .ref q0_1, .ref q0_2, .ref q0_3, .ref q0_4, .int 0, .int n50_0_6, .int n50_0_7, .int x1, .int n50_0_9, .int n50_0_10, .int 0, .int q0_12, .int q0_13, .int q0_14, .ref q0_15, .int q0_16, .ref q0_17, .ref q0_18, .ref q0_19, .int q0_20, .ref q0_21, .ref q0_22, .int q0_23, .int q0_24, .int q0_25, .ref q0_26, .ref q0_27, .ref q0_28, .ref q0_29, .ref q0_30, .ref q0_31, .int q0_32, .ref q0_33, .ref q0_34, .ref q0_35])) :: (q0_4, .inl (cs.2.1, 1302, .inl F46_1)) :: X) H := hH
    refine W.widen (k := 0) (n := 0) (Nat.le_of_ble_eq_true rfl) (Nat.le_of_ble_eq_true rfl) ?_
    have z_0 : (0 : Int32).toInt = 0 := by decide
    exact J53 _ n50_0_6 n50_0_7 n50_0_9 n50_0_10 0 q0_12 F46_1 _ _ _ rfl s_F46_1 (by omega) (by omega) (by omega) (by omega) (by omega) (by omega) (by omega) (by omega) x_v503 (by omega) hH hS (lv_sub hl [0] rfl)
  · skip
    have tc16 := f_eq (k := 0) (by decide) c16
    clear x_v130
    replace x_v131 := x_v131.resolve_left (fun q9 => q9 tc16)
    refine lv_bipush (v := (-3)) hx hb dX12_wall_19 (by decide) ?_
    have hH : HT D cs A T (q0_4 :: O) ((q0_4, .inl (cs.2.1, 1302, .inl f4)) :: X) H := HT.lay (ci := 12) hH t_a0 (okL_c (⟨_, rfl⟩) (okL_c (⟨_, rfl, t_q0_1⟩) (okL_c (⟨_, rfl, t_q0_2⟩) (okL_c (⟨_, rfl, t_q0_3⟩) (okL_c (⟨_, rfl, t_q0_4⟩) (okL_c (⟨_, rfl, by omega, by omega, by omega⟩) (okL_c (⟨_, rfl⟩) (okL_c (⟨_, rfl⟩) (okL_c (⟨_, rfl⟩) (okL_c (⟨_, rfl⟩) (okL_c (⟨_, rfl, by omega, by omega⟩) (okL_c (⟨_, rfl⟩) (okL_c (⟨_, rfl⟩) (okL_c (⟨_, rfl⟩) (okL_c (⟨_, rfl⟩) (okL_c (⟨_, rfl, t_q0_15⟩) (okL_c (⟨_, rfl⟩) (okL_c (⟨_, rfl, t_q0_17⟩) (okL_c (⟨_, rfl, t_q0_18⟩) (okL_c (⟨_, rfl, t_q0_19⟩) (okL_c (⟨_, rfl, by omega, by omega⟩) (okL_c (⟨_, rfl, t_q0_21⟩) (okL_c (⟨_, rfl, t_q0_22⟩) (okL_c (⟨_, rfl⟩) (okL_c (⟨_, rfl⟩) (okL_c (⟨_, rfl⟩) (okL_c (⟨_, rfl, t_q0_26⟩) (okL_c (⟨_, rfl, t_q0_27⟩) (okL_c (⟨_, rfl, t_q0_28⟩) (okL_c (⟨_, rfl, t_q0_29⟩) (okL_c (⟨_, rfl, t_q0_30⟩) (okL_c (⟨_, rfl, t_q0_31⟩) (okL_c (⟨_, rfl⟩) (okL_c (⟨_, rfl, t_q0_33⟩) (okL_c (⟨_, rfl, t_q0_34⟩) (okL_c (⟨_, rfl, t_q0_35⟩) (okL_n)))))))))))))))))))))))))))))))))))))
    have hO := hO0
    have hH : HT D cs A T O X H := HT.layA hH t_q0_4 (show sp cs T (8, 1302, 0) _ from ⟨_, rfl, B8_of s_f4, fun q => absurd q (by decide)⟩)
    have z9_m3 : ((-3) : Int32).toInt = -3 := by decide
    exact te_i hx hb hr hlocks hH hS (⟨T, hg, mq, rfl, Trm.rf, t_a0, b_hg, (by unfold WLF; omega)⟩) dX12_wall_21
