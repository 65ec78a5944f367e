set_option maxHeartbeats 4000000 in
set_option maxRecDepth 100000 in
theorem s_M_feed (l : Launch) (D : va_G) (cs : CS) (kf : KF) (T : TF) (O : List Nat) (X : va_W) (a0 hg mq : Nat) (x1 : Int32) (x2 : Int32) (x3 : Int32) (x4 : Int32) (x5 : Int32) (t_a0 : T a0 = some (22, hg, mq)) (b_hg : hg < 90) (hU : ∀ (b : Nat) (tg : Tg), T b = some tg → tg.1 = 22 → b = a0) (hO : okO T O [1, 22]) : TK l D cs kf yX12_feed cX12_feed 8 (some (.int)) { frames := 0, cells := 0, slots := 0, locals := 0 } [.ref a0, .int x1, .int x2, .int x3, .int x4, .int x5] T O X (Ti D cs (fun r u => ∃ (T2 : TF) (mq2 : Nat), u = (T2, O, X) ∧ -5 ≤ r.toInt ∧ r.toInt ≤ 900 ∧ (Trm T T2 a0) ∧ (T2 a0 = some (22, hg, mq2)) ∧ (FDF mq mq2 r.toInt))) := by
  refine tk_of (by decide) (Nat.le_of_ble_eq_true rfl) (fun p e s m below meth c ls A H locs hx hb hr hml hown hts hlocks hnm hkb hH hS hA hOX hks hE hl => ?_)
  have hown : s.vm.findClass RX12 = some m.cls := hown
  have hl : lv_has ls 8 [(0, .ref a0), (1, .int x1), (2, .int x2), (3, .int x3), (4, .int x4), (5, .int x5)] := hl
  have hO0 := hO
  obtain ⟨fs9, ho9, hH⟩ := hH.take t_a0 (hO0.no t_a0 (by decide))
  have hp0 : okL T (ft12 hg mq) fs9 := ho9
  clear ho9
  obtain ⟨v9, fs9, rfl, h9, hp1⟩ := okL_i hp0
  obtain ⟨q0_0, rfl⟩ := h9
  obtain ⟨v9, fs9, rfl, h9, hp2⟩ := okL_i hp1
  obtain ⟨q0_1, rfl, t_q0_1⟩ := h9
  obtain ⟨v9, fs9, rfl, h9, hp3⟩ := okL_i hp2
  obtain ⟨q0_2, rfl, t_q0_2⟩ := h9
  obtain ⟨v9, fs9, rfl, h9, hp4⟩ := okL_i hp3
  obtain ⟨q0_3, rfl, t_q0_3⟩ := h9
  obtain ⟨v9, fs9, rfl, h9, hp5⟩ := okL_i hp4
  obtain ⟨q0_4, rfl, t_q0_4⟩ := h9
  obtain ⟨v9, fs9, rfl, h9, hp6⟩ := okL_i hp5
  obtain ⟨q0_5, rfl, l_q0_5, u_q0_5, eg_q0_5⟩ := h9
  obtain ⟨v9, fs9, rfl, h9, hp7⟩ := okL_i hp6
  obtain ⟨q0_6, rfl⟩ := h9
  obtain ⟨v9, fs9, rfl, h9, hp8⟩ := okL_i hp7
  obtain ⟨q0_7, rfl⟩ := h9
  obtain ⟨v9, fs9, rfl, h9, hp9⟩ := okL_i hp8
  obtain ⟨q0_8, rfl⟩ := h9
  obtain ⟨v9, fs9, rfl, h9, hp10⟩ := okL_i hp9
  obtain ⟨q0_9, rfl⟩ := h9
  obtain ⟨v9, fs9, rfl, h9, hp11⟩ := okL_i hp10
  obtain ⟨q0_10, rfl, l_q0_10, u_q0_10⟩ := h9
  obtain ⟨v9, fs9, rfl, h9, hp12⟩ := okL_i hp11
  obtain ⟨q0_11, rfl⟩ := h9
  obtain ⟨v9, fs9, rfl, h9, hp13⟩ := okL_i hp12
  obtain ⟨q0_12, rfl⟩ := h9
  obtain ⟨v9, fs9, rfl, h9, hp14⟩ := okL_i hp13
  obtain ⟨q0_13, rfl⟩ := h9
  obtain ⟨v9, fs9, rfl, h9, hp15⟩ := okL_i hp14
  obtain ⟨q0_14, rfl⟩ := h9
  obtain ⟨v9, fs9, rfl, h9, hp16⟩ := okL_i hp15
  obtain ⟨q0_15, rfl, t_q0_15⟩ := h9
  obtain ⟨v9, fs9, rfl, h9, hp17⟩ := okL_i hp16
  obtain ⟨q0_16, rfl⟩ := h9
  obtain ⟨v9, fs9, rfl, h9, hp18⟩ := okL_i hp17
  obtain ⟨q0_17, rfl, t_q0_17⟩ := h9
  obtain ⟨v9, fs9, rfl, h9, hp19⟩ := okL_i hp18
  obtain ⟨q0_18, rfl, t_q0_18⟩ := h9
  obtain ⟨v9, fs9, rfl, h9, hp20⟩ := okL_i hp19
  obtain ⟨q0_19, rfl, t_q0_19⟩ := h9
  obtain ⟨v9, fs9, rfl, h9, hp21⟩ := okL_i hp20
  obtain ⟨q0_20, rfl, l_q0_20, u_q0_20⟩ := h9
  obtain ⟨v9, fs9, rfl, h9, hp22⟩ := okL_i hp21
  obtain ⟨q0_21, rfl, t_q0_21⟩ := h9
  obtain ⟨v9, fs9, rfl, h9, hp23⟩ := okL_i hp22
  obtain ⟨q0_22, rfl, t_q0_22⟩ := h9
  obtain ⟨v9, fs9, rfl, h9, hp24⟩ := okL_i hp23
  obtain ⟨q0_23, rfl⟩ := h9
  obtain ⟨v9, fs9, rfl, h9, hp25⟩ := okL_i hp24
  obtain ⟨q0_24, rfl⟩ := h9
  obtain ⟨v9, fs9, rfl, h9, hp26⟩ := okL_i hp25
  obtain ⟨q0_25, rfl⟩ := h9
  obtain ⟨v9, fs9, rfl, h9, hp27⟩ := okL_i hp26
  obtain ⟨q0_26, rfl, t_q0_26⟩ := h9
  obtain ⟨v9, fs9, rfl, h9, hp28⟩ := okL_i hp27
  obtain ⟨q0_27, rfl, t_q0_27⟩ := h9
  obtain ⟨v9, fs9, rfl, h9, hp29⟩ := okL_i hp28
  obtain ⟨q0_28, rfl, t_q0_28⟩ := h9
  obtain ⟨v9, fs9, rfl, h9, hp30⟩ := okL_i hp29
  obtain ⟨q0_29, rfl, t_q0_29⟩ := h9
  obtain ⟨v9, fs9, rfl, h9, hp31⟩ := okL_i hp30
  obtain ⟨q0_30, rfl, t_q0_30⟩ := h9
  obtain ⟨v9, fs9, rfl, h9, hp32⟩ := okL_i hp31
  obtain ⟨q0_31, rfl, t_q0_31⟩ := h9
  obtain ⟨v9, fs9, rfl, h9, hp33⟩ := okL_i hp32
  obtain ⟨q0_32, rfl⟩ := h9
  obtain ⟨v9, fs9, rfl, h9, hp34⟩ := okL_i hp33
  obtain ⟨q0_33, rfl, t_q0_33⟩ := h9
  obtain ⟨v9, fs9, rfl, h9, hp35⟩ := okL_i hp34
  obtain ⟨q0_34, rfl, t_q0_34⟩ := h9
  obtain ⟨v9, fs9, rfl, h9, hp36⟩ := okL_i hp35
  obtain ⟨q0_35, rfl, t_q0_35⟩ := h9
  have hpz := okL_z hp36
  subst hpz
  have hH : HT D cs A T (a0 :: O) ((a0, .inr (12, [.int q0_0, .ref q0_1, .ref q0_2, .ref q0_3, .ref q0_4, .int q0_5, .int q0_6, .int q0_7, .int q0_8, .int q0_9, .int q0_10, .int q0_11, .int q0_12, .int q0_13, .int q0_14, .ref q0_15, .int q0_16, .ref q0_17, .ref q0_18, .ref q0_19, .int q0_20, .ref q0_21, .ref q0_22, .int q0_23, .int q0_24, .int q0_25, .ref q0_26, .ref q0_27, .ref q0_28, .ref q0_29, .ref q0_30, .ref q0_31, .int q0_32, .ref q0_33, .ref q0_34, .ref q0_35])) :: X) H := hH
  have hO : okO T (a0 :: O) [1] := okO.cons (hO0.sub (by decide)) t_a0 (by decide)
  refine lv_aload_n hx hb dX12_feed_0 rfl (lv_at hl 0 rfl) ?_
  refine lv_iconst (v := 0) hx hb dX12_feed_1 (by decide) ?_
  refine x_putk (ci := 12) (v := .int 0) (ty := tyX12 0) (C := RX12) (F := TX12) (N := 36) hx hb hts uX12 tyX12 tyX12_ok nmX12 hown hkb hH hS 0 rfl rfl 0 (by decide) kw_1223 (fun _ h9 => h9) rfl (tyX12_ok 0 (by decide)) rfl rfl (Nat.le_of_ble_eq_true rfl) dX12_feed_2 (fun H locs hH hS => ?_)
  have hH : HT D cs A T (a0 :: O) ((a0, .inr (12, [.int 0, .ref q0_1, .ref q0_2, .ref q0_3, .ref q0_4, .int q0_5, .int q0_6, .int q0_7, .int q0_8, .int q0_9, .int q0_10, .int q0_11, .int q0_12, .int q0_13, .int q0_14, .ref q0_15, .int q0_16, .ref q0_17, .ref q0_18, .ref q0_19, .int q0_20, .ref q0_21, .ref q0_22, .int q0_23, .int q0_24, .int q0_25, .ref q0_26, .ref q0_27, .ref q0_28, .ref q0_29, .ref q0_30, .ref q0_31, .int q0_32, .ref q0_33, .ref q0_34, .ref q0_35])) :: X) H := hH
  refine lv_aload_n hx hb dX12_feed_5 rfl (lv_at hl 0 rfl) ?_
  refine x_getk (ci := 12) (C := RX12) (F := TX12) (N := 36) (v := .int q0_5) hx hb hts uX12 hown hkb hH 0 rfl rfl 5 (by decide) rfl kw_1228 (fun _ h9 => h9) dX12_feed_6 ?_
  refine lv_bipush (v := 20) hx hb dX12_feed_9 (by decide) ?_
  refine lv_iadd hx hb dX12_feed_11 ?_
  refine lv_topi (fun v11 ev11 => ?_)
  have tv11 : v11.toInt = q0_5.toInt + (20) := by rw [ev11]; exact add_i rfl (by decide : (20 : Int32).toInt = 20) (by omega) (by omega)
  refine lv_sipush (v := 900) hx hb dX12_feed_12 (by decide) ?_
  refine lv_icmp_le (tgt := 21) hx hb dX12_feed_15 (by decide) (fun c15 => ?_) (fun c15 => ?_)
  · skip
    have tc15 := f_le (k := 900) (by decide) c15
    refine lv_iconst (v := 0) hx hb dX12_feed_21 (by decide) ?_
    have J24 : ∀ (n : Nat) (p24_6 : Int32) (f24_105 : Int32) (H : Heap) (locs : List Loc) (ls : Array Slot), (20 - p24_6.toInt).toNat = n → (0 ≤ p24_6.toInt) → (p24_6.toInt ≤ 20) → (0 ≤ f24_105.toInt) → (f24_105.toInt ≤ 900) → (f24_105.toInt = (mq : Int) + p24_6.toInt) → (mq ≤ 880) → HT D cs A T (a0 :: O) ((a0, .inr (12, [.int 0, .ref q0_1, .ref q0_2, .ref q0_3, .ref q0_4, .int f24_105, .int q0_6, .int q0_7, .int q0_8, .int q0_9, .int q0_10, .int q0_11, .int q0_12, .int q0_13, .int q0_14, .ref q0_15, .int q0_16, .ref q0_17, .ref q0_18, .ref q0_19, .int q0_20, .ref q0_21, .ref q0_22, .int q0_23, .int q0_24, .int q0_25, .ref q0_26, .ref q0_27, .ref q0_28, .ref q0_29, .ref q0_30, .ref q0_31, .int q0_32, .ref q0_33, .ref q0_34, .ref q0_35])) :: X) H → va_S A s.heap H locs → lv_has ls 8 [(6, .int p24_6), (0, .ref a0), (1, .int x1), (2, .int x2), (3, .int x3), (4, .int x4), (5, .int x5)] → W p l e { frames := 0, cells := 0, slots := 0, locals := 0 } s m [.ref a0, .int x1, .int x2, .int x3, .int x4, .int x5].toArray below meth c H locs 0 0 (MQ below (Ti D cs (fun r u => ∃ (T2 : TF) (mq2 : Nat), u = (T2, O, X) ∧ -5 ≤ r.toInt ∧ r.toInt ≤ 900 ∧ (Trm T T2 a0) ∧ (T2 a0 = some (22, hg, mq2)) ∧ (FDF mq mq2 r.toInt)) A) [.ref a0, .int x1, .int x2, .int x3, .int x4, .int x5].toArray s 0 0 A) (F0 m 24 ls []) := by
      intro n
      induction n using Nat.strongRecOn with
      | _ n ih24 =>
        intro p24_6 f24_105 H locs ls hm24 l_p24_6 u_p24_6 l_f24_105 u_f24_105 i24 j24 hH hS hl
        refine lv_iload hx hb dX12_feed_24 (lv_at hl 0 rfl) ?_
        refine lv_bipush (v := 20) hx hb dX12_feed_26 (by decide) ?_
        refine lv_icmp_ge (tgt := 121) hx hb dX12_feed_28 (by decide) (fun c28 => ?_) (fun c28 => ?_)
        · skip
          have tc28 := f_ge (k := 20) (by decide) c28
          refine lv_aload_n hx hb dX12_feed_121 rfl (lv_at hl 1 rfl) ?_
          refine x_getk (ci := 12) (C := RX12) (F := TX12) (N := 36) (v := .int f24_105) hx hb hts uX12 hown hkb hH 0 rfl rfl 5 (by decide) rfl kw_1228 (fun _ h9 => h9) dX12_feed_122 ?_
          obtain ⟨T2, tm2, hs2, rk2, hH⟩ := HT.mg (mq2 := (f24_105.toInt.toNat)) hH t_a0 hU (by simp)
          have t_q0_1 := (hs2 _ (tag_ne t_q0_1 t_a0 (fun q => absurd (show 8 = 22 from congrArg Prod.fst q) (by decide)))).trans t_q0_1
          have t_q0_2 := (hs2 _ (tag_ne t_q0_2 t_a0 (fun q => absurd (show 3 = 22 from congrArg Prod.fst q) (by decide)))).trans t_q0_2
          have t_q0_3 := (hs2 _ (tag_ne t_q0_3 t_a0 (fun q => absurd (show 1 = 22 from congrArg Prod.fst q) (by decide)))).trans t_q0_3
          have t_q0_4 := (hs2 _ (tag_ne t_q0_4 t_a0 (fun q => absurd (show 8 = 22 from congrArg Prod.fst q) (by decide)))).trans t_q0_4
          have t_q0_15 := (hs2 _ (tag_ne t_q0_15 t_a0 (fun q => absurd (show 1 = 22 from congrArg Prod.fst q) (by decide)))).trans t_q0_15
          have t_q0_17 := (hs2 _ (tag_ne t_q0_17 t_a0 (fun q => absurd (show 9 = 22 from congrArg Prod.fst q) (by decide)))).trans t_q0_17
          have t_q0_18 := (hs2 _ (tag_ne t_q0_18 t_a0 (fun q => absurd (show 9 = 22 from congrArg Prod.fst q) (by decide)))).trans t_q0_18
          have t_q0_19 := (hs2 _ (tag_ne t_q0_19 t_a0 (fun q => absurd (show 1 = 22 from congrArg Prod.fst q) (by decide)))).trans t_q0_19
          have t_q0_21 := (hs2 _ (tag_ne t_q0_21 t_a0 (fun q => absurd (show 1 = 22 from congrArg Prod.fst q) (by decide)))).trans t_q0_21
          have t_q0_22 := (hs2 _ (tag_ne t_q0_22 t_a0 (fun q => absurd (show 1 = 22 from congrArg Prod.fst q) (by decide)))).trans t_q0_22
          have t_q0_26 := (hs2 _ (tag_ne t_q0_26 t_a0 (fun q => absurd (show 2 = 22 from congrArg Prod.fst q) (by decide)))).trans t_q0_26
          have t_q0_27 := (hs2 _ (tag_ne t_q0_27 t_a0 (fun q => absurd (show 3 = 22 from congrArg Prod.fst q) (by decide)))).trans t_q0_27
          have t_q0_28 := (hs2 _ (tag_ne t_q0_28 t_a0 (fun q => absurd (show 0 = 22 from congrArg Prod.fst q) (by decide)))).trans t_q0_28
          have t_q0_29 := (hs2 _ (tag_ne t_q0_29 t_a0 (fun q => absurd (show 1 = 22 from congrArg Prod.fst q) (by decide)))).trans t_q0_29
          have t_q0_30 := (hs2 _ (tag_ne t_q0_30 t_a0 (fun q => absurd (show 1 = 22 from congrArg Prod.fst q) (by decide)))).trans t_q0_30
          have t_q0_31 := (hs2 _ (tag_ne t_q0_31 t_a0 (fun q => absurd (show 1 = 22 from congrArg Prod.fst q) (by decide)))).trans t_q0_31
          have t_q0_33 := (hs2 _ (tag_ne t_q0_33 t_a0 (fun q => absurd (show 1 = 22 from congrArg Prod.fst q) (by decide)))).trans t_q0_33
          have t_q0_34 := (hs2 _ (tag_ne t_q0_34 t_a0 (fun q => absurd (show 1 = 22 from congrArg Prod.fst q) (by decide)))).trans t_q0_34
          have t_q0_35 := (hs2 _ (tag_ne t_q0_35 t_a0 (fun q => absurd (show 2 = 22 from congrArg Prod.fst q) (by decide)))).trans t_q0_35
          have t_a0 := tm2
          have hH : HT D cs A T2 O X H := HT.lay (ci := 12) hH t_a0 (okL_c (⟨_, rfl⟩) (okL_c (⟨_, rfl, t_q0_1⟩) (okL_c (⟨_, rfl, t_q0_2⟩) (okL_c (⟨_, rfl, t_q0_3⟩) (okL_c (⟨_, rfl, t_q0_4⟩) (okL_c (⟨_, rfl, by omega, by omega, by omega⟩) (okL_c (⟨_, rfl⟩) (okL_c (⟨_, rfl⟩) (okL_c (⟨_, rfl⟩) (okL_c (⟨_, rfl⟩) (okL_c (⟨_, rfl, by omega, by omega⟩) (okL_c (⟨_, rfl⟩) (okL_c (⟨_, rfl⟩) (okL_c (⟨_, rfl⟩) (okL_c (⟨_, rfl⟩) (okL_c (⟨_, rfl, t_q0_15⟩) (okL_c (⟨_, rfl⟩) (okL_c (⟨_, rfl, t_q0_17⟩) (okL_c (⟨_, rfl, t_q0_18⟩) (okL_c (⟨_, rfl, t_q0_19⟩) (okL_c (⟨_, rfl, by omega, by omega⟩) (okL_c (⟨_, rfl, t_q0_21⟩) (okL_c (⟨_, rfl, t_q0_22⟩) (okL_c (⟨_, rfl⟩) (okL_c (⟨_, rfl⟩) (okL_c (⟨_, rfl⟩) (okL_c (⟨_, rfl, t_q0_26⟩) (okL_c (⟨_, rfl, t_q0_27⟩) (okL_c (⟨_, rfl, t_q0_28⟩) (okL_c (⟨_, rfl, t_q0_29⟩) (okL_c (⟨_, rfl, t_q0_30⟩) (okL_c (⟨_, rfl, t_q0_31⟩) (okL_c (⟨_, rfl⟩) (okL_c (⟨_, rfl, t_q0_33⟩) (okL_c (⟨_, rfl, t_q0_34⟩) (okL_c (⟨_, rfl, t_q0_35⟩) (okL_n)))))))))))))))))))))))))))))))))))))
          have hO := hO0
          exact te_i hx hb hr hlocks hH hS (⟨T2, (f24_105.toInt.toNat), rfl, by omega, by omega, rk2, tm2, (by have k9 : (-5 : Int32).toInt = -5 := (by decide); unfold FDF; omega)⟩) dX12_feed_125
        · skip
          have tc28 := f_nge (k := 20) (by decide) c28
          refine lv_iload hx hb dX12_feed_31 (lv_at hl 0 rfl) ?_
          refine lv_iconst (v := 4) hx hb dX12_feed_33 (by decide) ?_
          have J77 : ∀ (k77_0 : Int32) (H : Heap) (locs : List Loc) (ls : Array Slot), HT D cs A T (a0 :: O) ((a0, .inr (12, [.int 0, .ref q0_1, .ref q0_2, .ref q0_3, .ref q0_4, .int f24_105, .int q0_6, .int q0_7, .int q0_8, .int q0_9, .int q0_10, .int q0_11, .int q0_12, .int q0_13, .int q0_14, .ref q0_15, .int q0_16, .ref q0_17, .ref q0_18, .ref q0_19, .int q0_20, .ref q0_21, .ref q0_22, .int q0_23, .int q0_24, .int q0_25, .ref q0_26, .ref q0_27, .ref q0_28, .ref q0_29, .ref q0_30, .ref q0_31, .int q0_32, .ref q0_33, .ref q0_34, .ref q0_35])) :: X) H → va_S A s.heap H locs → lv_has ls 8 [(6, .int p24_6), (0, .ref a0), (1, .int x1), (2, .int x2), (3, .int x3), (4, .int x4), (5, .int x5)] → W p l e { frames := 0, cells := 0, slots := 0, locals := 0 } s m [.ref a0, .int x1, .int x2, .int x3, .int x4, .int x5].toArray below meth c H locs 0 0 (MQ below (Ti D cs (fun r u => ∃ (T2 : TF) (mq2 : Nat), u = (T2, O, X) ∧ -5 ≤ r.toInt ∧ r.toInt ≤ 900 ∧ (Trm T T2 a0) ∧ (T2 a0 = some (22, hg, mq2)) ∧ (FDF mq mq2 r.toInt)) A) [.ref a0, .int x1, .int x2, .int x3, .int x4, .int x5].toArray s 0 0 A) (F0 m 77 ls [.int k77_0]) := by
            intro k77_0 H locs ls  hH hS hl
            refine lv_istore (lv' := [(7, .int k77_0), (6, .int p24_6), (0, .ref a0), (1, .int x1), (2, .int x2), (3, .int x3), (4, .int x4), (5, .int x5)]) hx hb dX12_feed_77 hl (by decide) rfl (fun ls hl => ?_)
            refine lv_aload_n hx hb dX12_feed_79 rfl (lv_at hl 2 rfl) ?_
            refine x_getk (ci := 12) (C := RX12) (F := TX12) (N := 36) (v := .ref q0_3) hx hb hts uX12 hown hkb hH 0 rfl rfl 3 (by decide) rfl kw_1226 (fun _ h9 => h9) dX12_feed_80 ?_
            refine lv_aload_n hx hb dX12_feed_83 rfl (lv_at hl 2 rfl) ?_
            refine x_getk (ci := 12) (C := RX12) (F := TX12) (N := 36) (v := .int f24_105) hx hb hts uX12 hown hkb hH 0 rfl rfl 5 (by decide) rfl kw_1228 (fun _ h9 => h9) dX12_feed_84 ?_
            refine lv_iload hx hb dX12_feed_87 (lv_at hl 0 rfl) ?_
            refine lv_bipush (v := 24) hx hb dX12_feed_89 (by decide) ?_
            refine lv_bipush (v := 8) hx hb dX12_feed_91 (by decide) ?_
            refine lv_iload hx hb dX12_feed_93 (lv_at hl 1 rfl) ?_
            refine lv_iconst (v := 4) hx hb dX12_feed_95 (by decide) ?_
            refine lv_irem hx hb dX12_feed_96 (by decide) ?_
            refine lv_topi (fun v96 ev96 => ?_)
            have tv96 : (0 ≤ p24_6.toInt → 0 ≤ v96.toInt) ∧ v96.toInt < 4 ∧ -4 < v96.toInt ∧ (p24_6.toInt ≤ 0 → v96.toInt ≤ 0) := by rw [ev96]; exact irem_b (by decide) (by decide)
            refine lv_imul hx hb dX12_feed_97 ?_
            refine lv_topi (fun v97 ev97 => ?_)
            have tv97 : v97.toInt = (8) * v96.toInt := by rw [ev97]; exact mul_i (by decide : (8 : Int32).toInt = 8) rfl (by omega) (by omega)
            refine lv_isub hx hb dX12_feed_98 ?_
            refine lv_topi (fun v98 ev98 => ?_)
            have tv98 : v98.toInt = (24) - v97.toInt := by rw [ev98]; exact sub_i (by decide : (24 : Int32).toInt = 24) rfl (by omega) (by omega)
            refine lv_ishr hx hb dX12_feed_99 ?_
            refine lv_topi (fun v99 ev99 => ?_)
            refine lv_sipush (v := 255) hx hb dX12_feed_100 (by decide) ?_
            refine lv_iand hx hb dX12_feed_103 ?_
            refine lv_topi (fun v103 ev103 => ?_)
            have tv103 : 0 ≤ v103.toInt ∧ v103.toInt ≤ 255 := by rw [ev103]; exact and_r (by decide)
            refine t_ist hx hb hkb hH hS t_q0_3 (hO.no t_q0_3 (by decide)) (by omega) (by omega) (cp_0 _) dX12_feed_104 (fun H locs hH hS => ?_)
            refine lv_aload_n hx hb dX12_feed_105 rfl (lv_at hl 2 rfl) ?_
            refine lv_dup hx hb dX12_feed_106 rfl ?_
            refine x_getk (ci := 12) (C := RX12) (F := TX12) (N := 36) (v := .int f24_105) hx hb hts uX12 hown hkb hH 0 rfl rfl 5 (by decide) rfl kw_1228 (fun _ h9 => h9) dX12_feed_107 ?_
            refine lv_iconst (v := 1) hx hb dX12_feed_110 (by decide) ?_
            refine lv_iadd hx hb dX12_feed_111 ?_
            refine lv_topi (fun v111 ev111 => ?_)
            have tv111 : v111.toInt = f24_105.toInt + (1) := by rw [ev111]; exact add_i rfl (by decide : (1 : Int32).toInt = 1) (by omega) (by omega)
            refine x_putk (ci := 12) (v := .int v111) (ty := tyX12 5) (C := RX12) (F := TX12) (N := 36) hx hb hts uX12 tyX12 tyX12_ok nmX12 hown hkb hH hS 0 rfl rfl 5 (by decide) kw_1228 (fun _ h9 => h9) rfl (tyX12_ok 5 (by decide)) rfl rfl (Nat.le_of_ble_eq_true rfl) dX12_feed_112 (fun H locs hH hS => ?_)
            have hH : HT D cs A T (a0 :: O) ((a0, .inr (12, [.int 0, .ref q0_1, .ref q0_2, .ref q0_3, .ref q0_4, .int v111, .int q0_6, .int q0_7, .int q0_8, .int q0_9, .int q0_10, .int q0_11, .int q0_12, .int q0_13, .int q0_14, .ref q0_15, .int q0_16, .ref q0_17, .ref q0_18, .ref q0_19, .int q0_20, .ref q0_21, .ref q0_22, .int q0_23, .int q0_24, .int q0_25, .ref q0_26, .ref q0_27, .ref q0_28, .ref q0_29, .ref q0_30, .ref q0_31, .int q0_32, .ref q0_33, .ref q0_34, .ref q0_35])) :: X) H := hH
            obtain ⟨v115, ev115⟩ : ∃ y : Int32, y = p24_6 + 1 := ⟨_, rfl⟩
            have tv115 : v115.toInt = p24_6.toInt + (1) := by rw [ev115]; exact add_i rfl (by decide) (by omega) (by omega)
            refine lv_iinc (v := v115) (lv' := [(6, .int v115), (7, .int k77_0), (0, .ref a0), (1, .int x1), (2, .int x2), (3, .int x3), (4, .int x4), (5, .int x5)]) hx hb dX12_feed_115 hl (k := 1) rfl (by rw [ev115]; rfl) (by decide) rfl (fun ls hl => ?_)
            refine lv_goto (tgt := 24) hx hb dX12_feed_118 (by decide) ?_
            exact ih24 _ (by omega) v115 v111 _ _ _ rfl (by omega) (by omega) (by omega) (by omega) (by omega) (by omega) hH hS (lv_sub hl [0, 2, 3, 4, 5, 6, 7] rfl)
          refine lv_icmp_ge (tgt := 41) hx hb dX12_feed_34 (by decide) (fun c34 => ?_) (fun c34 => ?_)
          · skip
            have tc34 := f_ge (k := 4) (by decide) c34
            refine lv_iload hx hb dX12_feed_41 (lv_at hl 0 rfl) ?_
            refine lv_bipush (v := 8) hx hb dX12_feed_43 (by decide) ?_
            refine lv_icmp_ge (tgt := 52) hx hb dX12_feed_45 (by decide) (fun c45 => ?_) (fun c45 => ?_)
            · skip
              have tc45 := f_ge (k := 8) (by decide) c45
              refine lv_iload hx hb dX12_feed_52 (lv_at hl 0 rfl) ?_
              refine lv_bipush (v := 12) hx hb dX12_feed_54 (by decide) ?_
              refine lv_icmp_ge (tgt := 63) hx hb dX12_feed_56 (by decide) (fun c56 => ?_) (fun c56 => ?_)
              · skip
                have tc56 := f_ge (k := 12) (by decide) c56
                refine lv_iload hx hb dX12_feed_63 (lv_at hl 0 rfl) ?_
                refine lv_bipush (v := 16) hx hb dX12_feed_65 (by decide) ?_
                refine lv_icmp_ge (tgt := 75) hx hb dX12_feed_67 (by decide) (fun c67 => ?_) (fun c67 => ?_)
                · skip
                  have tc67 := f_ge (k := 16) (by decide) c67
                  refine lv_iload hx hb dX12_feed_75 (lv_at hl 6 rfl) ?_
                  exact J77 x5 _ _ _  hH hS (lv_sub hl [0, 1, 2, 3, 4, 5, 6] rfl)
                · skip
                  have tc67 := f_nge (k := 16) (by decide) c67
                  refine lv_iload hx hb dX12_feed_70 (lv_at hl 5 rfl) ?_
                  refine lv_goto (tgt := 77) hx hb dX12_feed_72 (by decide) ?_
                  exact J77 x4 _ _ _  hH hS (lv_sub hl [0, 1, 2, 3, 4, 5, 6] rfl)
              · skip
                have tc56 := f_nge (k := 12) (by decide) c56
                refine lv_iload_n hx hb dX12_feed_59 rfl (lv_at hl 4 rfl) ?_
                refine lv_goto (tgt := 77) hx hb dX12_feed_60 (by decide) ?_
                exact J77 x3 _ _ _  hH hS (lv_sub hl [0, 1, 2, 3, 4, 5, 6] rfl)
            · skip
              have tc45 := f_nge (k := 8) (by decide) c45
              refine lv_iload_n hx hb dX12_feed_48 rfl (lv_at hl 3 rfl) ?_
              refine lv_goto (tgt := 77) hx hb dX12_feed_49 (by decide) ?_
              exact J77 x2 _ _ _  hH hS (lv_sub hl [0, 1, 2, 3, 4, 5, 6] rfl)
          · skip
            have tc34 := f_nge (k := 4) (by decide) c34
            refine lv_iload_n hx hb dX12_feed_37 rfl (lv_at hl 2 rfl) ?_
            refine lv_goto (tgt := 77) hx hb dX12_feed_38 (by decide) ?_
            exact J77 x1 _ _ _  hH hS (lv_sub hl [0, 1, 2, 3, 4, 5, 6] rfl)
    refine lv_istore (lv' := [(6, .int 0), (0, .ref a0), (1, .int x1), (2, .int x2), (3, .int x3), (4, .int x4), (5, .int x5)]) hx hb dX12_feed_22 hl (by decide) rfl (fun ls hl => ?_)
    have z_0 : (0 : Int32).toInt = 0 := by decide
    exact J24 _ 0 q0_5 _ _ _ rfl (by decide) (by decide) (by omega) (by omega) (by omega) (by omega) hH hS (lv_sub hl [0, 1, 2, 3, 4, 5, 6] rfl)
  · skip
    have tc15 := f_nle (k := 900) (by decide) c15
    refine lv_bipush (v := (-5)) hx hb dX12_feed_18 (by decide) ?_
    have hH : HT D cs A T O X H := HT.lay (ci := 12) hH t_a0 (okL_c (⟨_, rfl⟩) (okL_c (⟨_, rfl, t_q0_1⟩) (okL_c (⟨_, rfl, t_q0_2⟩) (okL_c (⟨_, rfl, t_q0_3⟩) (okL_c (⟨_, rfl, t_q0_4⟩) (okL_c (⟨_, rfl, by omega, by omega, by omega⟩) (okL_c (⟨_, rfl⟩) (okL_c (⟨_, rfl⟩) (okL_c (⟨_, rfl⟩) (okL_c (⟨_, rfl⟩) (okL_c (⟨_, rfl, by omega, by omega⟩) (okL_c (⟨_, rfl⟩) (okL_c (⟨_, rfl⟩) (okL_c (⟨_, rfl⟩) (okL_c (⟨_, rfl⟩) (okL_c (⟨_, rfl, t_q0_15⟩) (okL_c (⟨_, rfl⟩) (okL_c (⟨_, rfl, t_q0_17⟩) (okL_c (⟨_, rfl, t_q0_18⟩) (okL_c (⟨_, rfl, t_q0_19⟩) (okL_c (⟨_, rfl, by omega, by omega⟩) (okL_c (⟨_, rfl, t_q0_21⟩) (okL_c (⟨_, rfl, t_q0_22⟩) (okL_c (⟨_, rfl⟩) (okL_c (⟨_, rfl⟩) (okL_c (⟨_, rfl⟩) (okL_c (⟨_, rfl, t_q0_26⟩) (okL_c (⟨_, rfl, t_q0_27⟩) (okL_c (⟨_, rfl, t_q0_28⟩) (okL_c (⟨_, rfl, t_q0_29⟩) (okL_c (⟨_, rfl, t_q0_30⟩) (okL_c (⟨_, rfl, t_q0_31⟩) (okL_c (⟨_, rfl⟩) (okL_c (⟨_, rfl, t_q0_33⟩) (okL_c (⟨_, rfl, t_q0_34⟩) (okL_c (⟨_, rfl, t_q0_35⟩) (okL_n)))))))))))))))))))))))))))))))))))))
    have hO := hO0
    have z9_m5 : ((-5) : Int32).toInt = -5 := by decide
    exact te_i hx hb hr hlocks hH hS (⟨T, mq, rfl, by decide, by decide, Trm.rf, t_a0, (by have k9 : (-5 : Int32).toInt = -5 := (by decide); unfold FDF; omega)⟩) dX12_feed_20
