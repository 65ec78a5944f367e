set_option maxHeartbeats 4000000 in
set_option maxRecDepth 100000 in
theorem s_M_restore (l : Launch) (D : va_G) (cs : CS) (kf : KF) (T : TF) (O : List Nat) (X : va_W) (a0 hg mq : Nat) (x1 : Int32) (t_a0 : T a0 = some (22, hg, mq)) (b_hg : hg < 90) (hU : ∀ (b : Nat) (tg : Tg), T b = some tg → tg.1 = 22 → b = a0) (hO : okO T O [3, 8, 22]) : TK l D cs kf yX12_restore cX12_restore 3 (some (.int)) { frames := 1, cells := 0, slots := 0, locals := 25 } [.ref a0, .int x1] T O X (Ti D cs (fun r u => ∃ (T2 : TF) (hg2 : Nat), u = (T2, O, X) ∧ -5 ≤ r.toInt ∧ r.toInt ≤ 0 ∧ (Trm T T2 a0) ∧ (T2 a0 = some (22, hg2, mq)) ∧ (hg2 < 90))) := by
  refine tk_of (by decide) (Nat.le_of_ble_eq_true rfl) (fun p e s m below meth c ls A H locs hx hb hr hml hown hts hlocks hnm hkb hH hS hA hOX hks hE hl => ?_)
  have hown : s.vm.findClass RX12 = some m.cls := hown
  have hl : lv_has ls 3 [(0, .ref a0), (1, .int x1)] := hl
  have hO0 := hO
  obtain ⟨fs9, ho9, hH⟩ := hH.take t_a0 (hO0.no t_a0 (by decide))
  have hp0 : okL T (ft12 hg mq) fs9 := ho9
  clear ho9
  obtain ⟨v9, fs9, rfl, h9, hp1⟩ := okL_i hp0
  obtain ⟨q0_0, rfl⟩ := h9
  obtain ⟨v9, fs9, rfl, h9, hp2⟩ := okL_i hp1
  obtain ⟨q0_1, rfl, t_q0_1⟩ := h9
  obtain ⟨v9, fs9, rfl, h9, hp3⟩ := okL_i hp2
  obtain ⟨q0_2, rfl, t_q0_2⟩ := h9
  obtain ⟨v9, fs9, rfl, h9, hp4⟩ := okL_i hp3
  obtain ⟨q0_3, rfl, t_q0_3⟩ := h9
  obtain ⟨v9, fs9, rfl, h9, hp5⟩ := okL_i hp4
  obtain ⟨q0_4, rfl, t_q0_4⟩ := h9
  obtain ⟨v9, fs9, rfl, h9, hp6⟩ := okL_i hp5
  obtain ⟨q0_5, rfl, l_q0_5, u_q0_5, eg_q0_5⟩ := h9
  obtain ⟨v9, fs9, rfl, h9, hp7⟩ := okL_i hp6
  obtain ⟨q0_6, rfl⟩ := h9
  obtain ⟨v9, fs9, rfl, h9, hp8⟩ := okL_i hp7
  obtain ⟨q0_7, rfl⟩ := h9
  obtain ⟨v9, fs9, rfl, h9, hp9⟩ := okL_i hp8
  obtain ⟨q0_8, rfl⟩ := h9
  obtain ⟨v9, fs9, rfl, h9, hp10⟩ := okL_i hp9
  obtain ⟨q0_9, rfl⟩ := h9
  obtain ⟨v9, fs9, rfl, h9, hp11⟩ := okL_i hp10
  obtain ⟨q0_10, rfl, l_q0_10, u_q0_10⟩ := h9
  obtain ⟨v9, fs9, rfl, h9, hp12⟩ := okL_i hp11
  obtain ⟨q0_11, rfl⟩ := h9
  obtain ⟨v9, fs9, rfl, h9, hp13⟩ := okL_i hp12
  obtain ⟨q0_12, rfl⟩ := h9
  obtain ⟨v9, fs9, rfl, h9, hp14⟩ := okL_i hp13
  obtain ⟨q0_13, rfl⟩ := h9
  obtain ⟨v9, fs9, rfl, h9, hp15⟩ := okL_i hp14
  obtain ⟨q0_14, rfl⟩ := h9
  obtain ⟨v9, fs9, rfl, h9, hp16⟩ := okL_i hp15
  obtain ⟨q0_15, rfl, t_q0_15⟩ := h9
  obtain ⟨v9, fs9, rfl, h9, hp17⟩ := okL_i hp16
  obtain ⟨q0_16, rfl⟩ := h9
  obtain ⟨v9, fs9, rfl, h9, hp18⟩ := okL_i hp17
  obtain ⟨q0_17, rfl, t_q0_17⟩ := h9
  obtain ⟨v9, fs9, rfl, h9, hp19⟩ := okL_i hp18
  obtain ⟨q0_18, rfl, t_q0_18⟩ := h9
  obtain ⟨v9, fs9, rfl, h9, hp20⟩ := okL_i hp19
  obtain ⟨q0_19, rfl, t_q0_19⟩ := h9
  obtain ⟨v9, fs9, rfl, h9, hp21⟩ := okL_i hp20
  obtain ⟨q0_20, rfl, l_q0_20, u_q0_20⟩ := h9
  obtain ⟨v9, fs9, rfl, h9, hp22⟩ := okL_i hp21
  obtain ⟨q0_21, rfl, t_q0_21⟩ := h9
  obtain ⟨v9, fs9, rfl, h9, hp23⟩ := okL_i hp22
  obtain ⟨q0_22, rfl, t_q0_22⟩ := h9
  obtain ⟨v9, fs9, rfl, h9, hp24⟩ := okL_i hp23
  obtain ⟨q0_23, rfl⟩ := h9
  obtain ⟨v9, fs9, rfl, h9, hp25⟩ := okL_i hp24
  obtain ⟨q0_24, rfl⟩ := h9
  obtain ⟨v9, fs9, rfl, h9, hp26⟩ := okL_i hp25
  obtain ⟨q0_25, rfl⟩ := h9
  obtain ⟨v9, fs9, rfl, h9, hp27⟩ := okL_i hp26
  obtain ⟨q0_26, rfl, t_q0_26⟩ := h9
  obtain ⟨v9, fs9, rfl, h9, hp28⟩ := okL_i hp27
  obtain ⟨q0_27, rfl, t_q0_27⟩ := h9
  obtain ⟨v9, fs9, rfl, h9, hp29⟩ := okL_i hp28
  obtain ⟨q0_28, rfl, t_q0_28⟩ := h9
  obtain ⟨v9, fs9, rfl, h9, hp30⟩ := okL_i hp29
  obtain ⟨q0_29, rfl, t_q0_29⟩ := h9
  obtain ⟨v9, fs9, rfl, h9, hp31⟩ := okL_i hp30
  obtain ⟨q0_30, rfl, t_q0_30⟩ := h9
  obtain ⟨v9, fs9, rfl, h9, hp32⟩ := okL_i hp31
  obtain ⟨q0_31, rfl, t_q0_31⟩ := h9
  obtain ⟨v9, fs9, rfl, h9, hp33⟩ := okL_i hp32
  obtain ⟨q0_32, rfl⟩ := h9
  obtain ⟨v9, fs9, rfl, h9, hp34⟩ := okL_i hp33
  obtain ⟨q0_33, rfl, t_q0_33⟩ := h9
  obtain ⟨v9, fs9, rfl, h9, hp35⟩ := okL_i hp34
  obtain ⟨q0_34, rfl, t_q0_34⟩ := h9
  obtain ⟨v9, fs9, rfl, h9, hp36⟩ := okL_i hp35
  obtain ⟨q0_35, rfl, t_q0_35⟩ := h9
  have hpz := okL_z hp36
  subst hpz
  have hH : HT D cs A T (a0 :: O) ((a0, .inr (12, [.int q0_0, .ref q0_1, .ref q0_2, .ref q0_3, .ref q0_4, .int q0_5, .int q0_6, .int q0_7, .int q0_8, .int q0_9, .int q0_10, .int q0_11, .int q0_12, .int q0_13, .int q0_14, .ref q0_15, .int q0_16, .ref q0_17, .ref q0_18, .ref q0_19, .int q0_20, .ref q0_21, .ref q0_22, .int q0_23, .int q0_24, .int q0_25, .ref q0_26, .ref q0_27, .ref q0_28, .ref q0_29, .ref q0_30, .ref q0_31, .int q0_32, .ref q0_33, .ref q0_34, .ref q0_35])) :: X) H := hH
  have hO : okO T (a0 :: O) [3, 8] := okO.cons (hO0.sub (by decide)) t_a0 (by decide)
  obtain ⟨e9, hs9, hH⟩ := HT.takeA hH t_q0_1 (nm_c (tag_ne t_q0_1 t_a0 (fun q => absurd (show 8 = 22 from congrArg Prod.fst q) (by decide))) (hO0.no t_q0_1 (by decide)))
  obtain ⟨f1, rfl, s_f1, g_f1⟩ : ∃ f : Nat → Int32, e9 = .inl (cs.2.1, 3906, .inl f) ∧ B8 3906 f ∧ (3906 = 3906 → f 1 = nI (hg / 6) ∧ f 2 = nI (hg % 6)) := hs9
  have g_f1 := g_f1 rfl
  have hO : okO T (q0_1 :: a0 :: O) [3] := okO.cons (hO.sub (by decide)) t_q0_1 (by decide)
  refine lv_aload_n hx hb dX12_restore_0 rfl (lv_at hl 0 rfl) ?_
  refine lv_iconst (v := 0) hx hb dX12_restore_1 (by decide) ?_
  refine x_putk (ci := 12) (v := .int 0) (ty := tyX12 0) (C := RX12) (F := TX12) (N := 36) hx hb hts uX12 tyX12 tyX12_ok nmX12 hown hkb hH hS 1 rfl rfl 0 (by decide) kw_1223 (fun _ h9 => h9) rfl (tyX12_ok 0 (by decide)) rfl rfl (Nat.le_of_ble_eq_true rfl) dX12_restore_2 (fun H locs hH hS => ?_)
  have hH : HT D cs A T (q0_1 :: a0 :: O) ((q0_1, .inl (cs.2.1, 3906, .inl f1)) :: (a0, .inr (12, [.int 0, .ref q0_1, .ref q0_2, .ref q0_3, .ref q0_4, .int q0_5, .int q0_6, .int q0_7, .int q0_8, .int q0_9, .int q0_10, .int q0_11, .int q0_12, .int q0_13, .int q0_14, .ref q0_15, .int q0_16, .ref q0_17, .ref q0_18, .ref q0_19, .int q0_20, .ref q0_21, .ref q0_22, .int q0_23, .int q0_24, .int q0_25, .ref q0_26, .ref q0_27, .ref q0_28, .ref q0_29, .ref q0_30, .ref q0_31, .int q0_32, .ref q0_33, .ref q0_34, .ref q0_35])) :: X) H := hH
  refine lv_iload_n hx hb dX12_restore_5 rfl (lv_at hl 1 rfl) ?_
  refine lv_i2l hx hb dX12_restore_6 rfl ?_
  refine lv_lconst (v := 0) hx hb dX12_restore_7 (by decide) ?_
  refine lv_lconst (v := 1) hx hb dX12_restore_8 (by decide) ?_
  refine tk_i hH hS hA (tr_S (n := 3) (As := [.long x1.toInt64, .long 0, .long 1]) hx hb hml hown hts hkb hH (ox_c (ox_c hOX)) hks hE hS hA (s_M_within l D cs kf T (q0_1 :: a0 :: O) ((q0_1, .inl (cs.2.1, 3906, .inl f1)) :: (a0, .inr (12, [.int 0, .ref q0_1, .ref q0_2, .ref q0_3, .ref q0_4, .int q0_5, .int q0_6, .int q0_7, .int q0_8, .int q0_9, .int q0_10, .int q0_11, .int q0_12, .int q0_13, .int q0_14, .ref q0_15, .int q0_16, .ref q0_17, .ref q0_18, .ref q0_19, .int q0_20, .ref q0_21, .ref q0_22, .int q0_23, .int q0_24, .int q0_25, .ref q0_26, .ref q0_27, .ref q0_28, .ref q0_29, .ref q0_30, .ref q0_31, .int q0_32, .ref q0_33, .ref q0_34, .ref q0_35])) :: X) x1.toInt64 0 1  (hO.sub (by decide))) kw_1341 kw_1342 kw_13 kw_1343 (by decide +kernel) ⟨Nat.le_of_ble_eq_true rfl, Nat.le_of_ble_eq_true rfl⟩ rfl rfl hl.1 (Nat.le_of_ble_eq_true rfl) dX12_restore_9 ⟨Nat.le_of_ble_eq_true rfl, Nat.le_of_ble_eq_true rfl⟩) (fun v9 u H locs hz9 hH hS => ?_)
  obtain ⟨rfl, l_v9, u_v9, x_v90, x_v91⟩ := hz9
  simp only [Int32.toInt_toInt64] at x_v90 x_v91
  have k9_0 : (0 : Int64).toInt = 0 := by decide
  have k9_1 : (1 : Int64).toInt = 1 := by decide
  have hH : HT D cs A T (q0_1 :: a0 :: O) ((q0_1, .inl (cs.2.1, 3906, .inl f1)) :: (a0, .inr (12, [.int 0, .ref q0_1, .ref q0_2, .ref q0_3, .ref q0_4, .int q0_5, .int q0_6, .int q0_7, .int q0_8, .int q0_9, .int q0_10, .int q0_11, .int q0_12, .int q0_13, .int q0_14, .ref q0_15, .int q0_16, .ref q0_17, .ref q0_18, .ref q0_19, .int q0_20, .ref q0_21, .ref q0_22, .int q0_23, .int q0_24, .int q0_25, .ref q0_26, .ref q0_27, .ref q0_28, .ref q0_29, .ref q0_30, .ref q0_31, .int q0_32, .ref q0_33, .ref q0_34, .ref q0_35])) :: X) H := hH
  refine W.widen (k := 0) (n := 0) (Nat.le_of_ble_eq_true rfl) (Nat.le_of_ble_eq_true rfl) ?_
  refine lv_if_ne (tgt := 18) hx hb dX12_restore_12 (by decide) (fun c12 => ?_) (fun c12 => ?_)
  · skip
    have tc12 := f_ne (k := 0) (by decide) c12
    replace x_v90 := x_v90.resolve_left tc12
    clear x_v91
    refine lv_aload_n hx hb dX12_restore_18 rfl (lv_at hl 0 rfl) ?_
    refine x_getk (ci := 12) (C := RX12) (F := TX12) (N := 36) (v := .ref q0_2) hx hb hts uX12 hown hkb hH 1 rfl rfl 2 (by decide) rfl kw_1225 (fun _ h9 => h9) dX12_restore_19 ?_
    refine lv_iload_n hx hb dX12_restore_22 rfl (lv_at hl 1 rfl) ?_
    refine t_zld hx hb hkb hH t_q0_2 (hO.no t_q0_2 (by decide)) (by omega) (by omega) dX12_restore_23 (fun v23 => ?_)
    refine lv_if_ne (tgt := 30) hx hb dX12_restore_24 (by decide) (fun c24 => ?_) (fun c24 => ?_)
    · skip
      have tc24 := f_ne (k := 0) (by decide) c24
      refine lv_iconst (v := 0) hx hb dX12_restore_30 (by decide) ?_
      have J32 : ∀ (n : Nat) (p32_2 : Int32) (g32_0 : Nat → Int32) (H : Heap) (locs : List Loc) (ls : Array Slot), (1302 - p32_2.toInt).toNat = n → (0 ≤ p32_2.toInt) → (p32_2.toInt ≤ 1302) → (CR f1 g32_0 (1302 * (x1.toInt.toNat + 1)) p32_2.toInt.toNat) → HT D cs A T (q0_1 :: a0 :: O) ((q0_1, .inl (cs.2.1, 3906, .inl g32_0)) :: (a0, .inr (12, [.int 0, .ref q0_1, .ref q0_2, .ref q0_3, .ref q0_4, .int q0_5, .int q0_6, .int q0_7, .int q0_8, .int q0_9, .int q0_10, .int q0_11, .int q0_12, .int q0_13, .int q0_14, .ref q0_15, .int q0_16, .ref q0_17, .ref q0_18, .ref q0_19, .int q0_20, .ref q0_21, .ref q0_22, .int q0_23, .int q0_24, .int q0_25, .ref q0_26, .ref q0_27, .ref q0_28, .ref q0_29, .ref q0_30, .ref q0_31, .int q0_32, .ref q0_33, .ref q0_34, .ref q0_35])) :: X) H → va_S A s.heap H locs → lv_has ls 3 [(2, .int p32_2), (0, .ref a0), (1, .int x1)] → W p l e { frames := 1, cells := 0, slots := 0, locals := 25 } s m [.ref a0, .int x1].toArray below meth c H locs 0 0 (MQ below (Ti D cs (fun r u => ∃ (T2 : TF) (hg2 : Nat), u = (T2, O, X) ∧ -5 ≤ r.toInt ∧ r.toInt ≤ 0 ∧ (Trm T T2 a0) ∧ (T2 a0 = some (22, hg2, mq)) ∧ (hg2 < 90)) A) [.ref a0, .int x1].toArray s 0 0 A) (F0 m 32 ls []) := by
        intro n
        induction n using Nat.strongRecOn with
        | _ n ih32 =>
          intro p32_2 g32_0 H locs ls hm32 l_p32_2 u_p32_2 i32 hH hS hl
          refine lv_iload_n hx hb dX12_restore_32 rfl (lv_at hl 0 rfl) ?_
          refine lv_sipush (v := 1302) hx hb dX12_restore_33 (by decide) ?_
          refine lv_icmp_ge (tgt := 65) hx hb dX12_restore_36 (by decide) (fun c36 => ?_) (fun c36 => ?_)
          · skip
            have tc36 := f_ge (k := 1302) (by decide) c36
            have hB9 := CR_B8 i32 (by omega) s_f1 (x1.toInt.toNat + 1) (by omega) (by omega)
            refine lv_aload_n hx hb dX12_restore_65 rfl (lv_at hl 1 rfl) ?_
            refine x_getk (ci := 12) (C := RX12) (F := TX12) (N := 36) (v := .ref q0_1) hx hb hts uX12 hown hkb hH 1 rfl rfl 1 (by decide) rfl kw_1224 (fun _ h9 => h9) dX12_restore_66 ?_
            refine lv_bipush (v := 90) hx hb dX12_restore_69 (by decide) ?_
            refine lv_iconst (v := 0) hx hb dX12_restore_71 (by decide) ?_
            refine xa_ist hx hb hkb hH hS 0 rfl (by decide) (by decide) dX12_restore_72 (fun H locs hH hS => ?_)
            have hH : HT D cs A T (q0_1 :: a0 :: O) ((q0_1, .inl (cs.2.1, 3906, .inl (upd g32_0 (90) (0 : Int32)))) :: (a0, .inr (12, [.int 0, .ref q0_1, .ref q0_2, .ref q0_3, .ref q0_4, .int q0_5, .int q0_6, .int q0_7, .int q0_8, .int q0_9, .int q0_10, .int q0_11, .int q0_12, .int q0_13, .int q0_14, .ref q0_15, .int q0_16, .ref q0_17, .ref q0_18, .ref q0_19, .int q0_20, .ref q0_21, .ref q0_22, .int q0_23, .int q0_24, .int q0_25, .ref q0_26, .ref q0_27, .ref q0_28, .ref q0_29, .ref q0_30, .ref q0_31, .int q0_32, .ref q0_33, .ref q0_34, .ref q0_35])) :: X) H := hH
            obtain ⟨F72, eF72⟩ : ∃ f9, f9 = upd g32_0 (90) (0 : Int32) := ⟨_, rfl⟩
            have hH : HT D cs A T (q0_1 :: a0 :: O) ((q0_1, .inl (cs.2.1, 3906, .inl F72)) :: (a0, .inr (12, [.int 0, .ref q0_1, .ref q0_2, .ref q0_3, .ref q0_4, .int q0_5, .int q0_6, .int q0_7, .int q0_8, .int q0_9, .int q0_10, .int q0_11, .int q0_12, .int q0_13, .int q0_14, .ref q0_15, .int q0_16, .ref q0_17, .ref q0_18, .ref q0_19, .int q0_20, .ref q0_21, .ref q0_22, .int q0_23, .int q0_24, .int q0_25, .ref q0_26, .ref q0_27, .ref q0_28, .ref q0_29, .ref q0_30, .ref q0_31, .int q0_32, .ref q0_33, .ref q0_34, .ref q0_35])) :: X) H := eF72 ▸ hH
            have hB8 : B8 3906 F72 := by rw [eF72]; exact hB9.put (i := 90) (x := 0) (by decide) (by decide) (p8_90 (by decide) (by decide) (by decide))
            obtain ⟨hg2, hgb, hgq⟩ := hg_of hB8.first
            refine lv_iconst (v := 0) hx hb dX12_restore_73 (by decide) ?_
            obtain ⟨T2, ta2, tm2, hs2, rk2, hH⟩ := HT.rk (hg2 := hg2) (mq2 := mq) hH t_a0 t_q0_1 hU (by simp) (by simp)
            have t_q0_2 := (hs2 _ (tag_ne t_q0_2 t_a0 (fun q => absurd (show 3 = 22 from congrArg Prod.fst q) (by decide))) (tag_ne t_q0_2 t_q0_1 (fun q => absurd (show 3 = 8 from congrArg Prod.fst q) (by decide)))).trans t_q0_2
            have t_q0_3 := (hs2 _ (tag_ne t_q0_3 t_a0 (fun q => absurd (show 1 = 22 from congrArg Prod.fst q) (by decide))) (tag_ne t_q0_3 t_q0_1 (fun q => absurd (show 1 = 8 from congrArg Prod.fst q) (by decide)))).trans t_q0_3
            have t_q0_4 := (hs2 _ (tag_ne t_q0_4 t_a0 (fun q => absurd (show 8 = 22 from congrArg Prod.fst q) (by decide))) (tag_ne t_q0_4 t_q0_1 (fun q => absurd (show 1302 = 3906 from congrArg (fun z => z.2.1) q) (by decide)))).trans t_q0_4
            have t_q0_15 := (hs2 _ (tag_ne t_q0_15 t_a0 (fun q => absurd (show 1 = 22 from congrArg Prod.fst q) (by decide))) (tag_ne t_q0_15 t_q0_1 (fun q => absurd (show 1 = 8 from congrArg Prod.fst q) (by decide)))).trans t_q0_15
            have t_q0_17 := (hs2 _ (tag_ne t_q0_17 t_a0 (fun q => absurd (show 9 = 22 from congrArg Prod.fst q) (by decide))) (tag_ne t_q0_17 t_q0_1 (fun q => absurd (show 9 = 8 from congrArg Prod.fst q) (by decide)))).trans t_q0_17
            have t_q0_18 := (hs2 _ (tag_ne t_q0_18 t_a0 (fun q => absurd (show 9 = 22 from congrArg Prod.fst q) (by decide))) (tag_ne t_q0_18 t_q0_1 (fun q => absurd (show 9 = 8 from congrArg Prod.fst q) (by decide)))).trans t_q0_18
            have t_q0_19 := (hs2 _ (tag_ne t_q0_19 t_a0 (fun q => absurd (show 1 = 22 from congrArg Prod.fst q) (by decide))) (tag_ne t_q0_19 t_q0_1 (fun q => absurd (show 1 = 8 from congrArg Prod.fst q) (by decide)))).trans t_q0_19
            have t_q0_21 := (hs2 _ (tag_ne t_q0_21 t_a0 (fun q => absurd (show 1 = 22 from congrArg Prod.fst q) (by decide))) (tag_ne t_q0_21 t_q0_1 (fun q => absurd (show 1 = 8 from congrArg Prod.fst q) (by decide)))).trans t_q0_21
            have t_q0_22 := (hs2 _ (tag_ne t_q0_22 t_a0 (fun q => absurd (show 1 = 22 from congrArg Prod.fst q) (by decide))) (tag_ne t_q0_22 t_q0_1 (fun q => absurd (show 1 = 8 from congrArg Prod.fst q) (by decide)))).trans t_q0_22
            have t_q0_26 := (hs2 _ (tag_ne t_q0_26 t_a0 (fun q => absurd (show 2 = 22 from congrArg Prod.fst q) (by decide))) (tag_ne t_q0_26 t_q0_1 (fun q => absurd (show 2 = 8 from congrArg Prod.fst q) (by decide)))).trans t_q0_26
            have t_q0_27 := (hs2 _ (tag_ne t_q0_27 t_a0 (fun q => absurd (show 3 = 22 from congrArg Prod.fst q) (by decide))) (tag_ne t_q0_27 t_q0_1 (fun q => absurd (show 3 = 8 from congrArg Prod.fst q) (by decide)))).trans t_q0_27
            have t_q0_28 := (hs2 _ (tag_ne t_q0_28 t_a0 (fun q => absurd (show 0 = 22 from congrArg Prod.fst q) (by decide))) (tag_ne t_q0_28 t_q0_1 (fun q => absurd (show 0 = 8 from congrArg Prod.fst q) (by decide)))).trans t_q0_28
            have t_q0_29 := (hs2 _ (tag_ne t_q0_29 t_a0 (fun q => absurd (show 1 = 22 from congrArg Prod.fst q) (by decide))) (tag_ne t_q0_29 t_q0_1 (fun q => absurd (show 1 = 8 from congrArg Prod.fst q) (by decide)))).trans t_q0_29
            have t_q0_30 := (hs2 _ (tag_ne t_q0_30 t_a0 (fun q => absurd (show 1 = 22 from congrArg Prod.fst q) (by decide))) (tag_ne t_q0_30 t_q0_1 (fun q => absurd (show 1 = 8 from congrArg Prod.fst q) (by decide)))).trans t_q0_30
            have t_q0_31 := (hs2 _ (tag_ne t_q0_31 t_a0 (fun q => absurd (show 1 = 22 from congrArg Prod.fst q) (by decide))) (tag_ne t_q0_31 t_q0_1 (fun q => absurd (show 1 = 8 from congrArg Prod.fst q) (by decide)))).trans t_q0_31
            have t_q0_33 := (hs2 _ (tag_ne t_q0_33 t_a0 (fun q => absurd (show 1 = 22 from congrArg Prod.fst q) (by decide))) (tag_ne t_q0_33 t_q0_1 (fun q => absurd (show 1 = 8 from congrArg Prod.fst q) (by decide)))).trans t_q0_33
            have t_q0_34 := (hs2 _ (tag_ne t_q0_34 t_a0 (fun q => absurd (show 1 = 22 from congrArg Prod.fst q) (by decide))) (tag_ne t_q0_34 t_q0_1 (fun q => absurd (show 1 = 8 from congrArg Prod.fst q) (by decide)))).trans t_q0_34
            have t_q0_35 := (hs2 _ (tag_ne t_q0_35 t_a0 (fun q => absurd (show 2 = 22 from congrArg Prod.fst q) (by decide))) (tag_ne t_q0_35 t_q0_1 (fun q => absurd (show 2 = 8 from congrArg Prod.fst q) (by decide)))).trans t_q0_35
            have hH : HT D cs A T2 (a0 :: O) ((a0, .inr (12, [.int 0, .ref q0_1, .ref q0_2, .ref q0_3, .ref q0_4, .int q0_5, .int q0_6, .int q0_7, .int q0_8, .int q0_9, .int q0_10, .int q0_11, .int q0_12, .int q0_13, .int q0_14, .ref q0_15, .int q0_16, .ref q0_17, .ref q0_18, .ref q0_19, .int q0_20, .ref q0_21, .ref q0_22, .int q0_23, .int q0_24, .int q0_25, .ref q0_26, .ref q0_27, .ref q0_28, .ref q0_29, .ref q0_30, .ref q0_31, .int q0_32, .ref q0_33, .ref q0_34, .ref q0_35])) :: X) H := HT.layA hH ta2 (show sp cs T2 (8, 3906, hg2) _ from ⟨_, rfl, hB8, fun _ => hgq⟩)
            have t_q0_1 := ta2
            have t_a0 := tm2
            have hH : HT D cs A T2 O X H := HT.lay (ci := 12) hH t_a0 (okL_c (⟨_, rfl⟩) (okL_c (⟨_, rfl, t_q0_1⟩) (okL_c (⟨_, rfl, t_q0_2⟩) (okL_c (⟨_, rfl, t_q0_3⟩) (okL_c (⟨_, rfl, t_q0_4⟩) (okL_c (⟨_, rfl, by omega, by omega, by omega⟩) (okL_c (⟨_, rfl⟩) (okL_c (⟨_, rfl⟩) (okL_c (⟨_, rfl⟩) (okL_c (⟨_, rfl⟩) (okL_c (⟨_, rfl, by omega, by omega⟩) (okL_c (⟨_, rfl⟩) (okL_c (⟨_, rfl⟩) (okL_c (⟨_, rfl⟩) (okL_c (⟨_, rfl⟩) (okL_c (⟨_, rfl, t_q0_15⟩) (okL_c (⟨_, rfl⟩) (okL_c (⟨_, rfl, t_q0_17⟩) (okL_c (⟨_, rfl, t_q0_18⟩) (okL_c (⟨_, rfl, t_q0_19⟩) (okL_c (⟨_, rfl, by omega, by omega⟩) (okL_c (⟨_, rfl, t_q0_21⟩) (okL_c (⟨_, rfl, t_q0_22⟩) (okL_c (⟨_, rfl⟩) (okL_c (⟨_, rfl⟩) (okL_c (⟨_, rfl⟩) (okL_c (⟨_, rfl, t_q0_26⟩) (okL_c (⟨_, rfl, t_q0_27⟩) (okL_c (⟨_, rfl, t_q0_28⟩) (okL_c (⟨_, rfl, t_q0_29⟩) (okL_c (⟨_, rfl, t_q0_30⟩) (okL_c (⟨_, rfl, t_q0_31⟩) (okL_c (⟨_, rfl⟩) (okL_c (⟨_, rfl, t_q0_33⟩) (okL_c (⟨_, rfl, t_q0_34⟩) (okL_c (⟨_, rfl, t_q0_35⟩) (okL_n)))))))))))))))))))))))))))))))))))))
            have hO := hO0
            have z9_0 : (0 : Int32).toInt = 0 := by decide
            exact te_i hx hb hr hlocks hH hS (⟨T2, hg2, rfl, by decide, by decide, rk2, tm2, hgb⟩) dX12_restore_74
          · skip
            have tc36 := f_nge (k := 1302) (by decide) c36
            refine lv_aload_n hx hb dX12_restore_39 rfl (lv_at hl 1 rfl) ?_
            refine x_getk (ci := 12) (C := RX12) (F := TX12) (N := 36) (v := .ref q0_1) hx hb hts uX12 hown hkb hH 1 rfl rfl 1 (by decide) rfl kw_1224 (fun _ h9 => h9) dX12_restore_40 ?_
            refine lv_iload_n hx hb dX12_restore_43 rfl (lv_at hl 0 rfl) ?_
            refine lv_aload_n hx hb dX12_restore_44 rfl (lv_at hl 1 rfl) ?_
            refine x_getk (ci := 12) (C := RX12) (F := TX12) (N := 36) (v := .ref q0_1) hx hb hts uX12 hown hkb hH 1 rfl rfl 1 (by decide) rfl kw_1224 (fun _ h9 => h9) dX12_restore_45 ?_
            refine lv_sipush (v := 1302) hx hb dX12_restore_48 (by decide) ?_
            refine lv_iload_n hx hb dX12_restore_51 rfl (lv_at hl 2 rfl) ?_
            refine lv_iconst (v := 1) hx hb dX12_restore_52 (by decide) ?_
            refine lv_iadd hx hb dX12_restore_53 ?_
            refine lv_topi (fun v53 ev53 => ?_)
            have tv53 : v53.toInt = x1.toInt + (1) := by rw [ev53]; exact add_i rfl (by decide : (1 : Int32).toInt = 1) (by omega) (by omega)
            refine lv_imul hx hb dX12_restore_54 ?_
            refine lv_topi (fun v54 ev54 => ?_)
            have tv54 : v54.toInt = (1302) * v53.toInt := by rw [ev54]; exact mul_i (by decide : (1302 : Int32).toInt = 1302) rfl (by omega) (by omega)
            refine lv_iload_n hx hb dX12_restore_55 rfl (lv_at hl 0 rfl) ?_
            refine lv_iadd hx hb dX12_restore_56 ?_
            refine lv_topi (fun v56 ev56 => ?_)
            have tv56 : v56.toInt = v54.toInt + p32_2.toInt := by rw [ev56]; exact add_i rfl rfl (by omega) (by omega)
            refine xa_ild hx hb hkb hH 0 rfl (by omega) (by omega) dX12_restore_57 ?_
            refine lv_topi (fun v57 ev57 => ?_)
            have tv57 : v57 = g32_0 v56.toInt.toNat := ev57
            refine xa_ist hx hb hkb hH hS 0 rfl (by omega) (by omega) dX12_restore_58 (fun H locs hH hS => ?_)
            have hH : HT D cs A T (q0_1 :: a0 :: O) ((q0_1, .inl (cs.2.1, 3906, .inl (upd g32_0 (p32_2.toInt.toNat) v57))) :: (a0, .inr (12, [.int 0, .ref q0_1, .ref q0_2, .ref q0_3, .ref q0_4, .int q0_5, .int q0_6, .int q0_7, .int q0_8, .int q0_9, .int q0_10, .int q0_11, .int q0_12, .int q0_13, .int q0_14, .ref q0_15, .int q0_16, .ref q0_17, .ref q0_18, .ref q0_19, .int q0_20, .ref q0_21, .ref q0_22, .int q0_23, .int q0_24, .int q0_25, .ref q0_26, .ref q0_27, .ref q0_28, .ref q0_29, .ref q0_30, .ref q0_31, .int q0_32, .ref q0_33, .ref q0_34, .ref q0_35])) :: X) H := hH
            obtain ⟨F58, eF58⟩ : ∃ f9, f9 = upd g32_0 (p32_2.toInt.toNat) v57 := ⟨_, rfl⟩
            have hH : HT D cs A T (q0_1 :: a0 :: O) ((q0_1, .inl (cs.2.1, 3906, .inl F58)) :: (a0, .inr (12, [.int 0, .ref q0_1, .ref q0_2, .ref q0_3, .ref q0_4, .int q0_5, .int q0_6, .int q0_7, .int q0_8, .int q0_9, .int q0_10, .int q0_11, .int q0_12, .int q0_13, .int q0_14, .ref q0_15, .int q0_16, .ref q0_17, .ref q0_18, .ref q0_19, .int q0_20, .ref q0_21, .ref q0_22, .int q0_23, .int q0_24, .int q0_25, .ref q0_26, .ref q0_27, .ref q0_28, .ref q0_29, .ref q0_30, .ref q0_31, .int q0_32, .ref q0_33, .ref q0_34, .ref q0_35])) :: X) H := eF58 ▸ hH
            obtain ⟨v59, ev59⟩ : ∃ y : Int32, y = p32_2 + 1 := ⟨_, rfl⟩
            have tv59 : v59.toInt = p32_2.toInt + (1) := by rw [ev59]; exact add_i rfl (by decide) (by omega) (by omega)
            refine lv_iinc (v := v59) (lv' := [(2, .int v59), (0, .ref a0), (1, .int x1)]) hx hb dX12_restore_59 hl (k := 0) rfl (by rw [ev59]; rfl) (by decide) rfl (fun ls hl => ?_)
            refine lv_goto (tgt := 32) hx hb dX12_restore_62 (by decide) ?_
            exact ih32 _ (by omega) v59 F58 _ _ _ rfl (by omega) (by omega) (by first | (refine CR_0 ?_; decide) | (refine CR_s i32 ?_ ?_ ?_ tv59 ?_ tv57 eF58 <;> omega)) hH hS (lv_sub hl [0, 1, 2] rfl)
      refine lv_istore_n (lv' := [(2, .int 0), (0, .ref a0), (1, .int x1)]) hx hb dX12_restore_31 rfl hl (by decide) rfl (fun ls hl => ?_)
      have z_0 : (0 : Int32).toInt = 0 := by decide
      exact J32 _ 0 f1 _ _ _ rfl (by decide) (by decide) (by first | (refine CR_0 ?_; decide) | (refine CR_s i32 ?_ ?_ ?_ tv59 ?_ tv57 eF58 <;> omega)) hH hS (lv_sub hl [0, 1, 2] rfl)
    · skip
      have tc24 := f_eq (k := 0) (by decide) c24
      refine lv_bipush (v := (-5)) hx hb dX12_restore_27 (by decide) ?_
      have hH : HT D cs A T (a0 :: O) ((a0, .inr (12, [.int 0, .ref q0_1, .ref q0_2, .ref q0_3, .ref q0_4, .int q0_5, .int q0_6, .int q0_7, .int q0_8, .int q0_9, .int q0_10, .int q0_11, .int q0_12, .int q0_13, .int q0_14, .ref q0_15, .int q0_16, .ref q0_17, .ref q0_18, .ref q0_19, .int q0_20, .ref q0_21, .ref q0_22, .int q0_23, .int q0_24, .int q0_25, .ref q0_26, .ref q0_27, .ref q0_28, .ref q0_29, .ref q0_30, .ref q0_31, .int q0_32, .ref q0_33, .ref q0_34, .ref q0_35])) :: X) H := HT.layA hH t_q0_1 (show sp cs T (8, 3906, hg) _ from ⟨_, rfl, s_f1, fun _ => g_f1⟩)
      have hH : HT D cs A T O X H := HT.lay (ci := 12) hH t_a0 (okL_c (⟨_, rfl⟩) (okL_c (⟨_, rfl, t_q0_1⟩) (okL_c (⟨_, rfl, t_q0_2⟩) (okL_c (⟨_, rfl, t_q0_3⟩) (okL_c (⟨_, rfl, t_q0_4⟩) (okL_c (⟨_, rfl, by omega, by omega, by omega⟩) (okL_c (⟨_, rfl⟩) (okL_c (⟨_, rfl⟩) (okL_c (⟨_, rfl⟩) (okL_c (⟨_, rfl⟩) (okL_c (⟨_, rfl, by omega, by omega⟩) (okL_c (⟨_, rfl⟩) (okL_c (⟨_, rfl⟩) (okL_c (⟨_, rfl⟩) (okL_c (⟨_, rfl⟩) (okL_c (⟨_, rfl, t_q0_15⟩) (okL_c (⟨_, rfl⟩) (okL_c (⟨_, rfl, t_q0_17⟩) (okL_c (⟨_, rfl, t_q0_18⟩) (okL_c (⟨_, rfl, t_q0_19⟩) (okL_c (⟨_, rfl, by omega, by omega⟩) (okL_c (⟨_, rfl, t_q0_21⟩) (okL_c (⟨_, rfl, t_q0_22⟩) (okL_c (⟨_, rfl⟩) (okL_c (⟨_, rfl⟩) (okL_c (⟨_, rfl⟩) (okL_c (⟨_, rfl, t_q0_26⟩) (okL_c (⟨_, rfl, t_q0_27⟩) (okL_c (⟨_, rfl, t_q0_28⟩) (okL_c (⟨_, rfl, t_q0_29⟩) (okL_c (⟨_, rfl, t_q0_30⟩) (okL_c (⟨_, rfl, t_q0_31⟩) (okL_c (⟨_, rfl⟩) (okL_c (⟨_, rfl, t_q0_33⟩) (okL_c (⟨_, rfl, t_q0_34⟩) (okL_c (⟨_, rfl, t_q0_35⟩) (okL_n)))))))))))))))))))))))))))))))))))))
      have hO := hO0
      have z9_m5 : ((-5) : Int32).toInt = -5 := by decide
      exact te_i hx hb hr hlocks hH hS (⟨T, hg, rfl, by decide, by decide, Trm.rf, t_a0, b_hg⟩) dX12_restore_29
  · skip
    have tc12 := f_eq (k := 0) (by decide) c12
    clear x_v90
    replace x_v91 := x_v91.resolve_left (fun q9 => q9 tc12)
    refine lv_bipush (v := (-2)) hx hb dX12_restore_15 (by decide) ?_
    have hH : HT D cs A T (a0 :: O) ((a0, .inr (12, [.int 0, .ref q0_1, .ref q0_2, .ref q0_3, .ref q0_4, .int q0_5, .int q0_6, .int q0_7, .int q0_8, .int q0_9, .int q0_10, .int q0_11, .int q0_12, .int q0_13, .int q0_14, .ref q0_15, .int q0_16, .ref q0_17, .ref q0_18, .ref q0_19, .int q0_20, .ref q0_21, .ref q0_22, .int q0_23, .int q0_24, .int q0_25, .ref q0_26, .ref q0_27, .ref q0_28, .ref q0_29, .ref q0_30, .ref q0_31, .int q0_32, .ref q0_33, .ref q0_34, .ref q0_35])) :: X) H := HT.layA hH t_q0_1 (show sp cs T (8, 3906, hg) _ from ⟨_, rfl, s_f1, fun _ => g_f1⟩)
    have hH : HT D cs A T O X H := HT.lay (ci := 12) hH t_a0 (okL_c (⟨_, rfl⟩) (okL_c (⟨_, rfl, t_q0_1⟩) (okL_c (⟨_, rfl, t_q0_2⟩) (okL_c (⟨_, rfl, t_q0_3⟩) (okL_c (⟨_, rfl, t_q0_4⟩) (okL_c (⟨_, rfl, by omega, by omega, by omega⟩) (okL_c (⟨_, rfl⟩) (okL_c (⟨_, rfl⟩) (okL_c (⟨_, rfl⟩) (okL_c (⟨_, rfl⟩) (okL_c (⟨_, rfl, by omega, by omega⟩) (okL_c (⟨_, rfl⟩) (okL_c (⟨_, rfl⟩) (okL_c (⟨_, rfl⟩) (okL_c (⟨_, rfl⟩) (okL_c (⟨_, rfl, t_q0_15⟩) (okL_c (⟨_, rfl⟩) (okL_c (⟨_, rfl, t_q0_17⟩) (okL_c (⟨_, rfl, t_q0_18⟩) (okL_c (⟨_, rfl, t_q0_19⟩) (okL_c (⟨_, rfl, by omega, by omega⟩) (okL_c (⟨_, rfl, t_q0_21⟩) (okL_c (⟨_, rfl, t_q0_22⟩) (okL_c (⟨_, rfl⟩) (okL_c (⟨_, rfl⟩) (okL_c (⟨_, rfl⟩) (okL_c (⟨_, rfl, t_q0_26⟩) (okL_c (⟨_, rfl, t_q0_27⟩) (okL_c (⟨_, rfl, t_q0_28⟩) (okL_c (⟨_, rfl, t_q0_29⟩) (okL_c (⟨_, rfl, t_q0_30⟩) (okL_c (⟨_, rfl, t_q0_31⟩) (okL_c (⟨_, rfl⟩) (okL_c (⟨_, rfl, t_q0_33⟩) (okL_c (⟨_, rfl, t_q0_34⟩) (okL_c (⟨_, rfl, t_q0_35⟩) (okL_n)))))))))))))))))))))))))))))))))))))
    have hO := hO0
    have z9_m2 : ((-2) : Int32).toInt = -2 := by decide
    exact te_i hx hb hr hlocks hH hS (⟨T, hg, rfl, by decide, by decide, Trm.rf, t_a0, b_hg⟩) dX12_restore_17
