set_option maxHeartbeats 4000000 in
set_option maxRecDepth 100000 in
theorem s_M_lists (l : Launch) (D : va_G) (cs : CS) (kf : KF) (T : TF) (O : List Nat) (X : va_W) (a0 hg mq : Nat) (x1 : Int32) (x2 : Int32) (t_a0 : T a0 = some (22, hg, mq)) (b_hg : hg < 90) (hO : okO T O [1, 2, 8, 9, 22]) : TK l D cs kf yX12_lists cX12_lists 6 (some (.int)) { frames := 6, cells := 0, slots := 0, locals := 140 } [.ref a0, .int x1, .int x2] T O X (Ti D cs (fun r u => u = (T, O, X) ∧ -6 ≤ r.toInt ∧ r.toInt ≤ 15)) := by
  refine tk_of (by decide) (Nat.le_of_ble_eq_true rfl) (fun p e s m below meth c ls A H locs hx hb hr hml hown hts hlocks hnm hkb hH hS hA hOX hks hE hl => ?_)
  have hown : s.vm.findClass RX12 = some m.cls := hown
  have hl : lv_has ls 6 [(0, .ref a0), (1, .int x1), (2, .int x2)] := hl
  refine lv_aload_n hx hb dX12_lists_0 rfl (lv_at hl 0 rfl) ?_
  refine lv_iconst (v := 0) hx hb dX12_lists_1 (by decide) ?_
  refine t_put (ci := 12) (lst := ft12 hg mq) (v := .int 0) (ty := tyX12 0) (C := RX12) (F := TX12) (N := 36) hx hb hts uX12 tyX12 tyX12_ok nmX12 hown hkb hH hS t_a0 (hO.no t_a0 (by decide)) (fun _ => Iff.rfl) rfl rfl 0 (by decide) rfl (⟨_, rfl⟩) kw_1223 (fun _ h9 => h9) rfl (tyX12_ok 0 (by decide)) rfl rfl dX12_lists_2 (fun H locs hH hS => ?_)
  refine lv_iload_n hx hb dX12_lists_5 rfl (lv_at hl 1 rfl) ?_
  refine lv_i2l hx hb dX12_lists_6 rfl ?_
  refine lv_lconst (v := 0) hx hb dX12_lists_7 (by decide) ?_
  refine lv_ldc2 hx hb hown (hts _ kw_1527) dX12_lists_8 ?_
  refine tk_i hH hS hA (tr_S (n := 3) (As := [.long x1.toInt64, .long 0, .long 3]) hx hb hml hown hts hkb hH hOX hks hE hS hA (s_M_within l D cs kf T O X x1.toInt64 0 3  (hO.sub (by decide))) kw_1341 kw_1342 kw_13 kw_1343 (by decide +kernel) ⟨Nat.le_of_ble_eq_true rfl, Nat.le_of_ble_eq_true rfl⟩ rfl rfl hl.1 (Nat.le_of_ble_eq_true rfl) dX12_lists_11 ⟨Nat.le_of_ble_eq_true rfl, Nat.le_of_ble_eq_true rfl⟩) (fun v11 u H locs hz9 hH hS => ?_)
  obtain ⟨rfl, l_v11, u_v11, x_v110, x_v111⟩ := hz9
  simp only [Int32.toInt_toInt64] at x_v110 x_v111
  have k9_0 : (0 : Int64).toInt = 0 := by decide
  have k9_3 : (3 : Int64).toInt = 3 := by decide
  have hH : HT D cs A T O X H := hH
  refine W.widen (k := 0) (n := 0) (Nat.le_of_ble_eq_true rfl) (Nat.le_of_ble_eq_true rfl) ?_
  have J26 : ∀  (H : Heap) (locs : List Loc) (ls : Array Slot), HT D cs A T O X H → va_S A s.heap H locs → lv_has ls 6 [] → W p l e { frames := 6, cells := 0, slots := 0, locals := 140 } s m [.ref a0, .int x1, .int x2].toArray below meth c H locs 0 0 (MQ below (Ti D cs (fun r u => u = (T, O, X) ∧ -6 ≤ r.toInt ∧ r.toInt ≤ 15) A) [.ref a0, .int x1, .int x2].toArray s 0 0 A) (F0 m 26 ls []) := by
    intro  H locs ls  hH hS hl
    refine lv_bipush (v := (-2)) hx hb dX12_lists_26 (by decide) ?_
    have z9_m2 : ((-2) : Int32).toInt = -2 := by decide
    exact te_i hx hb hr hlocks hH hS (⟨rfl, by decide, by decide⟩) dX12_lists_28
  refine lv_if_eq (tgt := 26) hx hb dX12_lists_14 (by decide) (fun c14 => ?_) (fun c14 => ?_)
  · skip
    have tc14 := f_eq (k := 0) (by decide) c14
    clear x_v110
    replace x_v111 := x_v111.resolve_left (fun q9 => q9 tc14)
    exact J26  _ _ _  hH hS (lv_sub hl [] rfl)
  · skip
    have tc14 := f_ne (k := 0) (by decide) c14
    replace x_v110 := x_v110.resolve_left tc14
    clear x_v111
    refine lv_aload_n hx hb dX12_lists_17 rfl (lv_at hl 0 rfl) ?_
    refine lv_iload_n hx hb dX12_lists_18 rfl (lv_at hl 2 rfl) ?_
    refine lv_i2l hx hb dX12_lists_19 rfl ?_
    refine tk_i hH hS hA (tr_V (n := 1) (As := [.long x2.toInt64]) hx hb hml hown hts hkb hH hOX hks hE hS hA (s_M_isGuide l D cs kf T O X a0 hg mq x2.toInt64 t_a0 b_hg (hO.sub (by decide))) kw_1470 kw_1472 ks_67 kw_13 kw_1473 (by decide +kernel) ⟨Nat.le_of_ble_eq_true rfl, Nat.le_of_ble_eq_true rfl⟩ (HT.recv (ci := 12) hkb hH t_a0 (hO.no t_a0 (by decide)) rfl) rfl rfl hl.1 (Nat.le_of_ble_eq_true rfl) dX12_lists_20 ⟨Nat.le_of_ble_eq_true rfl, Nat.le_of_ble_eq_true rfl⟩) (fun v20 u H locs hz9 hH hS => ?_)
    obtain ⟨rfl, l_v20, u_v20, x_v200⟩ := hz9
    simp only [Int32.toInt_toInt64] at x_v200
    have hH : HT D cs A T O X H := hH
    refine W.widen (k := 0) (n := 0) (Nat.le_of_ble_eq_true rfl) (Nat.le_of_ble_eq_true rfl) ?_
    refine lv_if_ne (tgt := 29) hx hb dX12_lists_23 (by decide) (fun c23 => ?_) (fun c23 => ?_)
    · skip
      have tc23 := f_ne (k := 0) (by decide) c23
      replace x_v200 := x_v200.resolve_left tc23
      refine lv_aload_n hx hb dX12_lists_29 rfl (lv_at hl 0 rfl) ?_
      refine lv_iload_n hx hb dX12_lists_30 rfl (lv_at hl 1 rfl) ?_
      refine tk_i hH hS hA (tr_V (n := 1) (As := [.int x1]) hx hb hml hown hts hkb hH hOX hks hE hS hA (s_M_noTray l D cs kf T O X a0 hg mq x1 t_a0 b_hg (hO.sub (by decide))) kw_1523 kw_1525 ks_75 kw_13 kw_1526 (by decide +kernel) ⟨Nat.le_of_ble_eq_true rfl, Nat.le_of_ble_eq_true rfl⟩ (HT.recv (ci := 12) hkb hH t_a0 (hO.no t_a0 (by decide)) rfl) rfl rfl hl.1 (Nat.le_of_ble_eq_true rfl) dX12_lists_31 ⟨Nat.le_of_ble_eq_true rfl, Nat.le_of_ble_eq_true rfl⟩) (fun v31 u H locs hz9 hH hS => ?_)
      obtain ⟨rfl, l_v31, u_v31, x_v310⟩ := hz9
      have hH : HT D cs A T O X H := hH
      refine W.widen (k := 0) (n := 0) (Nat.le_of_ble_eq_true rfl) (Nat.le_of_ble_eq_true rfl) ?_
      refine lv_istore_n (lv' := [(3, .int v31), (0, .ref a0), (1, .int x1), (2, .int x2)]) hx hb dX12_lists_34 rfl hl (by decide) rfl (fun ls hl => ?_)
      refine lv_iload_n hx hb dX12_lists_35 rfl (lv_at hl 0 rfl) ?_
      refine lv_if_eq (tgt := 41) hx hb dX12_lists_36 (by decide) (fun c36 => ?_) (fun c36 => ?_)
      · skip
        have tc36 := f_eq (k := 0) (by decide) c36
        refine lv_aload_n hx hb dX12_lists_41 rfl (lv_at hl 1 rfl) ?_
        refine lv_iload_n hx hb dX12_lists_42 rfl (lv_at hl 3 rfl) ?_
        refine tk_i hH hS hA (tr_V (n := 1) (As := [.int x2]) hx hb hml hown hts hkb hH hOX hks hE hS hA (s_M_laysWayOf l D cs kf T O X a0 hg mq x2 t_a0 b_hg (by omega) (by omega) (hO.sub (by decide))) kw_1560 kw_1562 ks_82 kw_13 kw_1563 (by decide +kernel) ⟨Nat.le_of_ble_eq_true rfl, Nat.le_of_ble_eq_true rfl⟩ (HT.recv (ci := 12) hkb hH t_a0 (hO.no t_a0 (by decide)) rfl) rfl rfl hl.1 (Nat.le_of_ble_eq_true rfl) dX12_lists_43 ⟨Nat.le_of_ble_eq_true rfl, Nat.le_of_ble_eq_true rfl⟩) (fun v43 u H locs hz9 hH hS => ?_)
        obtain ⟨rfl, l_v43, u_v43⟩ := hz9
        have hH : HT D cs A T O X H := hH
        refine W.widen (k := 0) (n := 0) (Nat.le_of_ble_eq_true rfl) (Nat.le_of_ble_eq_true rfl) ?_
        refine lv_if_ne (tgt := 52) hx hb dX12_lists_46 (by decide) (fun c46 => ?_) (fun c46 => ?_)
        · skip
          have tc46 := f_ne (k := 0) (by decide) c46
          have hO0 := hO
          obtain ⟨fs9, ho9, hH⟩ := hH.take t_a0 (hO0.no t_a0 (by decide))
          have hp0 : okL T (ft12 hg mq) fs9 := ho9
          clear ho9
          obtain ⟨v9, fs9, rfl, h9, hp1⟩ := okL_i hp0
          obtain ⟨q52_0, rfl⟩ := h9
          obtain ⟨v9, fs9, rfl, h9, hp2⟩ := okL_i hp1
          obtain ⟨q52_1, rfl, t_q52_1⟩ := h9
          obtain ⟨v9, fs9, rfl, h9, hp3⟩ := okL_i hp2
          obtain ⟨q52_2, rfl, t_q52_2⟩ := h9
          obtain ⟨v9, fs9, rfl, h9, hp4⟩ := okL_i hp3
          obtain ⟨q52_3, rfl, t_q52_3⟩ := h9
          obtain ⟨v9, fs9, rfl, h9, hp5⟩ := okL_i hp4
          obtain ⟨q52_4, rfl, t_q52_4⟩ := h9
          obtain ⟨v9, fs9, rfl, h9, hp6⟩ := okL_i hp5
          obtain ⟨q52_5, rfl, l_q52_5, u_q52_5, eg_q52_5⟩ := h9
          obtain ⟨v9, fs9, rfl, h9, hp7⟩ := okL_i hp6
          obtain ⟨q52_6, rfl⟩ := h9
          obtain ⟨v9, fs9, rfl, h9, hp8⟩ := okL_i hp7
          obtain ⟨q52_7, rfl⟩ := h9
          obtain ⟨v9, fs9, rfl, h9, hp9⟩ := okL_i hp8
          obtain ⟨q52_8, rfl⟩ := h9
          obtain ⟨v9, fs9, rfl, h9, hp10⟩ := okL_i hp9
          obtain ⟨q52_9, rfl⟩ := h9
          obtain ⟨v9, fs9, rfl, h9, hp11⟩ := okL_i hp10
          obtain ⟨q52_10, rfl, l_q52_10, u_q52_10⟩ := h9
          obtain ⟨v9, fs9, rfl, h9, hp12⟩ := okL_i hp11
          obtain ⟨q52_11, rfl⟩ := h9
          obtain ⟨v9, fs9, rfl, h9, hp13⟩ := okL_i hp12
          obtain ⟨q52_12, rfl⟩ := h9
          obtain ⟨v9, fs9, rfl, h9, hp14⟩ := okL_i hp13
          obtain ⟨q52_13, rfl⟩ := h9
          obtain ⟨v9, fs9, rfl, h9, hp15⟩ := okL_i hp14
          obtain ⟨q52_14, rfl⟩ := h9
          obtain ⟨v9, fs9, rfl, h9, hp16⟩ := okL_i hp15
          obtain ⟨q52_15, rfl, t_q52_15⟩ := h9
          obtain ⟨v9, fs9, rfl, h9, hp17⟩ := okL_i hp16
          obtain ⟨q52_16, rfl⟩ := h9
          obtain ⟨v9, fs9, rfl, h9, hp18⟩ := okL_i hp17
          obtain ⟨q52_17, rfl, t_q52_17⟩ := h9
          obtain ⟨v9, fs9, rfl, h9, hp19⟩ := okL_i hp18
          obtain ⟨q52_18, rfl, t_q52_18⟩ := h9
          obtain ⟨v9, fs9, rfl, h9, hp20⟩ := okL_i hp19
          obtain ⟨q52_19, rfl, t_q52_19⟩ := h9
          obtain ⟨v9, fs9, rfl, h9, hp21⟩ := okL_i hp20
          obtain ⟨q52_20, rfl, l_q52_20, u_q52_20⟩ := h9
          obtain ⟨v9, fs9, rfl, h9, hp22⟩ := okL_i hp21
          obtain ⟨q52_21, rfl, t_q52_21⟩ := h9
          obtain ⟨v9, fs9, rfl, h9, hp23⟩ := okL_i hp22
          obtain ⟨q52_22, rfl, t_q52_22⟩ := h9
          obtain ⟨v9, fs9, rfl, h9, hp24⟩ := okL_i hp23
          obtain ⟨q52_23, rfl⟩ := h9
          obtain ⟨v9, fs9, rfl, h9, hp25⟩ := okL_i hp24
          obtain ⟨q52_24, rfl⟩ := h9
          obtain ⟨v9, fs9, rfl, h9, hp26⟩ := okL_i hp25
          obtain ⟨q52_25, rfl⟩ := h9
          obtain ⟨v9, fs9, rfl, h9, hp27⟩ := okL_i hp26
          obtain ⟨q52_26, rfl, t_q52_26⟩ := h9
          obtain ⟨v9, fs9, rfl, h9, hp28⟩ := okL_i hp27
          obtain ⟨q52_27, rfl, t_q52_27⟩ := h9
          obtain ⟨v9, fs9, rfl, h9, hp29⟩ := okL_i hp28
          obtain ⟨q52_28, rfl, t_q52_28⟩ := h9
          obtain ⟨v9, fs9, rfl, h9, hp30⟩ := okL_i hp29
          obtain ⟨q52_29, rfl, t_q52_29⟩ := h9
          obtain ⟨v9, fs9, rfl, h9, hp31⟩ := okL_i hp30
          obtain ⟨q52_30, rfl, t_q52_30⟩ := h9
          obtain ⟨v9, fs9, rfl, h9, hp32⟩ := okL_i hp31
          obtain ⟨q52_31, rfl, t_q52_31⟩ := h9
          obtain ⟨v9, fs9, rfl, h9, hp33⟩ := okL_i hp32
          obtain ⟨q52_32, rfl⟩ := h9
          obtain ⟨v9, fs9, rfl, h9, hp34⟩ := okL_i hp33
          obtain ⟨q52_33, rfl, t_q52_33⟩ := h9
          obtain ⟨v9, fs9, rfl, h9, hp35⟩ := okL_i hp34
          obtain ⟨q52_34, rfl, t_q52_34⟩ := h9
          obtain ⟨v9, fs9, rfl, h9, hp36⟩ := okL_i hp35
          obtain ⟨q52_35, rfl, t_q52_35⟩ := h9
          have hpz := okL_z hp36
          subst hpz
          have hH : HT D cs A T (a0 :: O) ((a0, .inr (12, [.int q52_0, .ref q52_1, .ref q52_2, .ref q52_3, .ref q52_4, .int q52_5, .int q52_6, .int q52_7, .int q52_8, .int q52_9, .int q52_10, .int q52_11, .int q52_12, .int q52_13, .int q52_14, .ref q52_15, .int q52_16, .ref q52_17, .ref q52_18, .ref q52_19, .int q52_20, .ref q52_21, .ref q52_22, .int q52_23, .int q52_24, .int q52_25, .ref q52_26, .ref q52_27, .ref q52_28, .ref q52_29, .ref q52_30, .ref q52_31, .int q52_32, .ref q52_33, .ref q52_34, .ref q52_35])) :: X) H := hH
          have hO : okO T (a0 :: O) [1, 2, 8, 9] := okO.cons (hO0.sub (by decide)) t_a0 (by decide)
          obtain ⟨e9, hs9, hH⟩ := HT.takeA hH t_q52_34 (nm_c (tag_ne t_q52_34 t_a0 (fun q => absurd (show 1 = 22 from congrArg Prod.fst q) (by decide))) (hO0.no t_q52_34 (by decide)))
          obtain ⟨f34, rfl, c_f34⟩ : ∃ f : Nat → Int32, e9 = .inl (cs.2.1, 4, .inl f) ∧ ∀ j, cp 6 (f j) := hs9
          have hO : okO T (q52_34 :: a0 :: O) [2, 8, 9] := okO.cons (hO.sub (by decide)) t_q52_34 (by decide)
          refine lv_aload_n hx hb dX12_lists_52 rfl (lv_at hl 1 rfl) ?_
          refine x_getk (ci := 12) (C := RX12) (F := TX12) (N := 36) (v := .int q52_20) hx hb hts uX12 hown hkb hH 1 rfl rfl 20 (by decide) rfl kw_1243 (fun _ h9 => h9) dX12_lists_53 ?_
          refine lv_iconst (v := 1) hx hb dX12_lists_56 (by decide) ?_
          refine lv_iadd hx hb dX12_lists_57 ?_
          refine lv_topi (fun v57 ev57 => ?_)
          have tv57 : v57.toInt = q52_20.toInt + (1) := by rw [ev57]; exact add_i rfl (by decide : (1 : Int32).toInt = 1) (by omega) (by omega)
          refine lv_aload_n hx hb dX12_lists_58 rfl (lv_at hl 1 rfl) ?_
          refine x_getk (ci := 12) (C := RX12) (F := TX12) (N := 36) (v := .ref q52_34) hx hb hts uX12 hown hkb hH 1 rfl rfl 34 (by decide) rfl kw_1257 (fun _ h9 => h9) dX12_lists_59 ?_
          refine lv_iload_n hx hb dX12_lists_62 rfl (lv_at hl 2 rfl) ?_
          refine xa_ild hx hb hkb hH 0 rfl (by omega) (by omega) dX12_lists_63 ?_
          refine lv_topi (fun v63 ev63 => ?_)
          have tv63 : v63 = f34 x1.toInt.toNat := ev63
          have J87 : ∀ (n : Nat) (p87_5 : Int32) (p87_4 : Int32) (H : Heap) (locs : List Loc) (ls : Array Slot), (15 - p87_5.toInt).toNat = n → (0 ≤ p87_5.toInt) → (p87_5.toInt ≤ 15) → (0 ≤ p87_4.toInt) → (p87_4.toInt ≤ 15) → HT D cs A T (q52_34 :: a0 :: O) ((q52_34, .inl (cs.2.1, 4, .inl f34)) :: (a0, .inr (12, [.int q52_0, .ref q52_1, .ref q52_2, .ref q52_3, .ref q52_4, .int q52_5, .int q52_6, .int q52_7, .int q52_8, .int q52_9, .int q52_10, .int q52_11, .int q52_12, .int q52_13, .int q52_14, .ref q52_15, .int q52_16, .ref q52_17, .ref q52_18, .ref q52_19, .int q52_20, .ref q52_21, .ref q52_22, .int q52_23, .int q52_24, .int q52_25, .ref q52_26, .ref q52_27, .ref q52_28, .ref q52_29, .ref q52_30, .ref q52_31, .int q52_32, .ref q52_33, .ref q52_34, .ref q52_35])) :: X) H → va_S A s.heap H locs → lv_has ls 6 [(5, .int p87_5), (4, .int p87_4), (0, .ref a0), (1, .int x1), (2, .int x2)] → W p l e { frames := 6, cells := 0, slots := 0, locals := 140 } s m [.ref a0, .int x1, .int x2].toArray below meth c H locs 0 0 (MQ below (Ti D cs (fun r u => u = (T, O, X) ∧ -6 ≤ r.toInt ∧ r.toInt ≤ 15) A) [.ref a0, .int x1, .int x2].toArray s 0 0 A) (F0 m 87 ls []) := by
            intro n
            induction n using Nat.strongRecOn with
            | _ n ih87 =>
              intro p87_5 p87_4 H locs ls hm87 l_p87_5 u_p87_5 l_p87_4 u_p87_4 hH hS hl
              refine lv_iload hx hb dX12_lists_87 (lv_at hl 0 rfl) ?_
              refine lv_iload hx hb dX12_lists_89 (lv_at hl 1 rfl) ?_
              refine lv_icmp_ge (tgt := 132) hx hb dX12_lists_91 (by decide) (fun c91 => ?_) (fun c91 => ?_)
              · skip
                have fuc91 := full_i p87_5
                have fvc91 := full_i p87_4
                have tc91 := g_le c91
                refine lv_iload hx hb dX12_lists_132 (lv_at hl 1 rfl) ?_
                have hH : HT D cs A T (a0 :: O) ((a0, .inr (12, [.int q52_0, .ref q52_1, .ref q52_2, .ref q52_3, .ref q52_4, .int q52_5, .int q52_6, .int q52_7, .int q52_8, .int q52_9, .int q52_10, .int q52_11, .int q52_12, .int q52_13, .int q52_14, .ref q52_15, .int q52_16, .ref q52_17, .ref q52_18, .ref q52_19, .int q52_20, .ref q52_21, .ref q52_22, .int q52_23, .int q52_24, .int q52_25, .ref q52_26, .ref q52_27, .ref q52_28, .ref q52_29, .ref q52_30, .ref q52_31, .int q52_32, .ref q52_33, .ref q52_34, .ref q52_35])) :: X) H := HT.layA hH t_q52_34 (show sp cs T (1, 4, 6) _ from ⟨_, rfl, c_f34⟩)
                have hH : HT D cs A T O X H := HT.lay (ci := 12) hH t_a0 (okL_c (⟨_, rfl⟩) (okL_c (⟨_, rfl, t_q52_1⟩) (okL_c (⟨_, rfl, t_q52_2⟩) (okL_c (⟨_, rfl, t_q52_3⟩) (okL_c (⟨_, rfl, t_q52_4⟩) (okL_c (⟨_, rfl, by omega, by omega, by omega⟩) (okL_c (⟨_, rfl⟩) (okL_c (⟨_, rfl⟩) (okL_c (⟨_, rfl⟩) (okL_c (⟨_, rfl⟩) (okL_c (⟨_, rfl, by omega, by omega⟩) (okL_c (⟨_, rfl⟩) (okL_c (⟨_, rfl⟩) (okL_c (⟨_, rfl⟩) (okL_c (⟨_, rfl⟩) (okL_c (⟨_, rfl, t_q52_15⟩) (okL_c (⟨_, rfl⟩) (okL_c (⟨_, rfl, t_q52_17⟩) (okL_c (⟨_, rfl, t_q52_18⟩) (okL_c (⟨_, rfl, t_q52_19⟩) (okL_c (⟨_, rfl, by omega, by omega⟩) (okL_c (⟨_, rfl, t_q52_21⟩) (okL_c (⟨_, rfl, t_q52_22⟩) (okL_c (⟨_, rfl⟩) (okL_c (⟨_, rfl⟩) (okL_c (⟨_, rfl⟩) (okL_c (⟨_, rfl, t_q52_26⟩) (okL_c (⟨_, rfl, t_q52_27⟩) (okL_c (⟨_, rfl, t_q52_28⟩) (okL_c (⟨_, rfl, t_q52_29⟩) (okL_c (⟨_, rfl, t_q52_30⟩) (okL_c (⟨_, rfl, t_q52_31⟩) (okL_c (⟨_, rfl⟩) (okL_c (⟨_, rfl, t_q52_33⟩) (okL_c (⟨_, rfl, t_q52_34⟩) (okL_c (⟨_, rfl, t_q52_35⟩) (okL_n)))))))))))))))))))))))))))))))))))))
                have hO := hO0
                exact te_i hx hb hr hlocks hH hS (⟨rfl, by omega, by omega⟩) dX12_lists_134
              · skip
                have fuc91 := full_i p87_5
                have fvc91 := full_i p87_4
                have tc91 := g_nle c91
                refine lv_aload_n hx hb dX12_lists_94 rfl (lv_at hl 2 rfl) ?_
                refine x_getk (ci := 12) (C := RX12) (F := TX12) (N := 36) (v := .ref q52_35) hx hb hts uX12 hown hkb hH 1 rfl rfl 35 (by decide) rfl kw_1258 (fun _ h9 => h9) dX12_lists_95 ?_
                refine lv_bipush (v := 40) hx hb dX12_lists_98 (by decide) ?_
                refine lv_iload_n hx hb dX12_lists_100 rfl (lv_at hl 3 rfl) ?_
                refine lv_imul hx hb dX12_lists_101 ?_
                refine lv_topi (fun v101 ev101 => ?_)
                have tv101 : v101.toInt = (40) * x1.toInt := by rw [ev101]; exact mul_i (by decide : (40 : Int32).toInt = 40) rfl (by omega) (by omega)
                refine lv_iload hx hb dX12_lists_102 (lv_at hl 0 rfl) ?_
                refine lv_iadd hx hb dX12_lists_104 ?_
                refine lv_topi (fun v104 ev104 => ?_)
                have tv104 : v104.toInt = v101.toInt + p87_5.toInt := by rw [ev104]; exact add_i rfl rfl (by omega) (by omega)
                refine lv_iload hx hb dX12_lists_105 (lv_at hl 0 rfl) ?_
                have J125 : ∀ (k125_0 : Int64) (H : Heap) (locs : List Loc) (ls : Array Slot), HT D cs A T (q52_34 :: a0 :: O) ((q52_34, .inl (cs.2.1, 4, .inl f34)) :: (a0, .inr (12, [.int q52_0, .ref q52_1, .ref q52_2, .ref q52_3, .ref q52_4, .int q52_5, .int q52_6, .int q52_7, .int q52_8, .int q52_9, .int q52_10, .int q52_11, .int q52_12, .int q52_13, .int q52_14, .ref q52_15, .int q52_16, .ref q52_17, .ref q52_18, .ref q52_19, .int q52_20, .ref q52_21, .ref q52_22, .int q52_23, .int q52_24, .int q52_25, .ref q52_26, .ref q52_27, .ref q52_28, .ref q52_29, .ref q52_30, .ref q52_31, .int q52_32, .ref q52_33, .ref q52_34, .ref q52_35])) :: X) H → va_S A s.heap H locs → lv_has ls 6 [(5, .int p87_5), (4, .int p87_4), (0, .ref a0), (1, .int x1), (2, .int x2)] → W p l e { frames := 6, cells := 0, slots := 0, locals := 140 } s m [.ref a0, .int x1, .int x2].toArray below meth c H locs 0 0 (MQ below (Ti D cs (fun r u => u = (T, O, X) ∧ -6 ≤ r.toInt ∧ r.toInt ≤ 15) A) [.ref a0, .int x1, .int x2].toArray s 0 0 A) (F0 m 125 ls [.long k125_0, .int v104, .ref q52_35]) := by
                  intro k125_0 H locs ls  hH hS hl
                  refine t_lst hx hb hkb hH hS t_q52_35 (hO.no t_q52_35 (by decide)) (by omega) (by omega) dX12_lists_125 (fun H locs hH hS => ?_)
                  obtain ⟨v126, ev126⟩ : ∃ y : Int32, y = p87_5 + 1 := ⟨_, rfl⟩
                  have tv126 : v126.toInt = p87_5.toInt + (1) := by rw [ev126]; exact add_i rfl (by decide) (by omega) (by omega)
                  refine lv_iinc (v := v126) (lv' := [(5, .int v126), (4, .int p87_4), (0, .ref a0), (1, .int x1), (2, .int x2)]) hx hb dX12_lists_126 hl (k := 0) rfl (by rw [ev126]; rfl) (by decide) rfl (fun ls hl => ?_)
                  refine lv_goto (tgt := 87) hx hb dX12_lists_129 (by decide) ?_
                  exact ih87 _ (by omega) v126 p87_4 _ _ _ rfl (by omega) (by omega) (by omega) (by omega) hH hS (lv_sub hl [0, 1, 2, 3, 4] rfl)
                refine lv_if_ne (tgt := 115) hx hb dX12_lists_107 (by decide) (fun c107 => ?_) (fun c107 => ?_)
                · skip
                  have tc107 := f_ne (k := 0) (by decide) c107
                  refine lv_aload_n hx hb dX12_lists_115 rfl (lv_at hl 2 rfl) ?_
                  refine x_getk (ci := 12) (C := RX12) (F := TX12) (N := 36) (v := .ref q52_19) hx hb hts uX12 hown hkb hH 1 rfl rfl 19 (by decide) rfl kw_1242 (fun _ h9 => h9) dX12_lists_116 ?_
                  refine lv_iload hx hb dX12_lists_119 (lv_at hl 0 rfl) ?_
                  refine lv_iconst (v := 1) hx hb dX12_lists_121 (by decide) ?_
                  refine lv_isub hx hb dX12_lists_122 ?_
                  refine lv_topi (fun v122 ev122 => ?_)
                  have tv122 : v122.toInt = p87_5.toInt - (1) := by rw [ev122]; exact sub_i rfl (by decide : (1 : Int32).toInt = 1) (by omega) (by omega)
                  refine t_ild hx hb hkb hH t_q52_19 (nm_c (tag_ne t_q52_19 t_q52_34 (by decide)) (nm_c (tag_ne t_q52_19 t_a0 (fun q => absurd (show 1 = 22 from congrArg Prod.fst q) (by decide))) (hO0.no t_q52_19 (by decide)))) (by omega) (by omega) dX12_lists_123 (fun v123 h9 => ?_)
                  have tv123 : 0 ≤ v123.toInt ∧ v123.toInt ≤ 13 := h9
                  refine lv_i2l hx hb dX12_lists_124 rfl ?_
                  exact J125 v123.toInt64 _ _ _  hH hS (lv_sub hl [0, 1, 2, 3, 4] rfl)
                · skip
                  have tc107 := f_eq (k := 0) (by decide) c107
                  refine lv_iload_n hx hb dX12_lists_110 rfl (lv_at hl 4 rfl) ?_
                  refine lv_i2l hx hb dX12_lists_111 rfl ?_
                  refine lv_goto (tgt := 125) hx hb dX12_lists_112 (by decide) ?_
                  exact J125 x2.toInt64 _ _ _  hH hS (lv_sub hl [0, 1, 2, 3, 4] rfl)
          have hb63 : 0 ≤ v63.toInt ∧ v63.toInt ≤ 40 := by rw [tv63]; exact c_f34 _
          refine lv_icmp_ge (tgt := 76) hx hb dX12_lists_64 (by decide) (fun c64 => ?_) (fun c64 => ?_)
          · skip
            have fuc64 := full_i v57
            have fvc64 := full_i v63
            have tc64 := g_le c64
            refine lv_aload_n hx hb dX12_lists_76 rfl (lv_at hl 1 rfl) ?_
            refine x_getk (ci := 12) (C := RX12) (F := TX12) (N := 36) (v := .ref q52_34) hx hb hts uX12 hown hkb hH 1 rfl rfl 34 (by decide) rfl kw_1257 (fun _ h9 => h9) dX12_lists_77 ?_
            refine lv_iload_n hx hb dX12_lists_80 rfl (lv_at hl 2 rfl) ?_
            refine xa_ild hx hb hkb hH 0 rfl (by omega) (by omega) dX12_lists_81 ?_
            refine lv_topi (fun v81 ev81 => ?_)
            have tv81 : v81 = f34 x1.toInt.toNat := ev81
            have hq9 : v81.toInt = v63.toInt := by rw [tv81, tv63]
            refine lv_istore (lv' := [(4, .int v81), (3, .int v31), (0, .ref a0), (1, .int x1), (2, .int x2)]) hx hb dX12_lists_82 hl (by decide) rfl (fun ls hl => ?_)
            refine lv_iconst (v := 0) hx hb dX12_lists_84 (by decide) ?_
            refine lv_istore (lv' := [(5, .int 0), (4, .int v81), (3, .int v31), (0, .ref a0), (1, .int x1), (2, .int x2)]) hx hb dX12_lists_85 hl (by decide) rfl (fun ls hl => ?_)
            exact J87 _ 0 v81 _ _ _ rfl (by decide) (by decide) (by omega) (by omega) hH hS (lv_sub hl [0, 1, 3, 4, 5] rfl)
          · skip
            have fuc64 := full_i v57
            have fvc64 := full_i v63
            have tc64 := g_nle c64
            refine lv_aload_n hx hb dX12_lists_67 rfl (lv_at hl 1 rfl) ?_
            refine x_getk (ci := 12) (C := RX12) (F := TX12) (N := 36) (v := .int q52_20) hx hb hts uX12 hown hkb hH 1 rfl rfl 20 (by decide) rfl kw_1243 (fun _ h9 => h9) dX12_lists_68 ?_
            refine lv_iconst (v := 1) hx hb dX12_lists_71 (by decide) ?_
            refine lv_iadd hx hb dX12_lists_72 ?_
            refine lv_topi (fun v72 ev72 => ?_)
            have tv72 : v72.toInt = q52_20.toInt + (1) := by rw [ev72]; exact add_i rfl (by decide : (1 : Int32).toInt = 1) (by omega) (by omega)
            refine lv_goto (tgt := 82) hx hb dX12_lists_73 (by decide) ?_
            refine lv_istore (lv' := [(4, .int v72), (3, .int v31), (0, .ref a0), (1, .int x1), (2, .int x2)]) hx hb dX12_lists_82 hl (by decide) rfl (fun ls hl => ?_)
            refine lv_iconst (v := 0) hx hb dX12_lists_84 (by decide) ?_
            refine lv_istore (lv' := [(5, .int 0), (4, .int v72), (3, .int v31), (0, .ref a0), (1, .int x1), (2, .int x2)]) hx hb dX12_lists_85 hl (by decide) rfl (fun ls hl => ?_)
            exact J87 _ 0 v72 _ _ _ rfl (by decide) (by decide) (by omega) (by omega) hH hS (lv_sub hl [0, 1, 3, 4, 5] rfl)
        · skip
          have tc46 := f_eq (k := 0) (by decide) c46
          refine lv_bipush (v := (-5)) hx hb dX12_lists_49 (by decide) ?_
          have z9_m5 : ((-5) : Int32).toInt = -5 := by decide
          exact te_i hx hb hr hlocks hH hS (⟨rfl, by decide, by decide⟩) dX12_lists_51
      · skip
        have tc36 := f_ne (k := 0) (by decide) c36
        refine lv_iload_n hx hb dX12_lists_39 rfl (lv_at hl 0 rfl) ?_
        exact te_i hx hb hr hlocks hH hS (⟨rfl, by omega, by omega⟩) dX12_lists_40
    · skip
      have tc23 := f_eq (k := 0) (by decide) c23
      clear x_v200
      exact J26  _ _ _  hH hS (lv_sub hl [] rfl)
