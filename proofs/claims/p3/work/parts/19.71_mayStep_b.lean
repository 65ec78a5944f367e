set_option maxHeartbeats 4000000 in
set_option maxRecDepth 100000 in
theorem s_M_wordOf (l : Launch) (D : va_G) (cs : CS) (kf : KF) (T : TF) (O : List Nat) (X : va_W) (a0 hg mq : Nat) (x1 : Int32) (x2 : Int32) (x3 : Int32) (x4 : Int32) (f1 : Nat → Int32) (o0 : Value) (y1 : Nat) (o2 : Value) (o3 : Value) (o4 : Value) (o5 : Value) (o6 : Value) (o7 : Value) (o8 : Value) (o9 : Value) (o10 : Value) (o11 : Value) (o12 : Value) (o13 : Value) (o14 : Value) (y15 : Nat) (y16 : Int32) (tl : List Value) (t_a0 : T a0 = some (22, hg, mq)) (b_hg : hg < 90) (l_x2 : 0 ≤ x2.toInt) (u_x2 : x2.toInt ≤ 4) (l_x3 : 0 ≤ x3.toInt) (u_x3 : x3.toInt ≤ 13) (l_x4 : 0 ≤ x4.toInt) (u_x4 : x4.toInt ≤ 13) (s_f1 : B8 3906 f1) (g_f1 : f1 1 = nI (hg / 6) ∧ f1 2 = nI (hg % 6)) (t_y1 : T y1 = some (8, 3906, hg)) (t_y15 : T y15 = some (1, 900, 0)) (hO : okO T (y1 :: a0 :: O) []) : TK l D cs kf yX12_wordOf cX12_wordOf 7 (some (.int)) { frames := 1, cells := 0, slots := 0, locals := 22 } [.ref a0, .int x1, .int x2, .int x3, .int x4] T (y1 :: a0 :: O) ((y1, .inl (cs.2.1, 3906, .inl f1)) :: (a0, .inr (12, o0 :: (.ref y1) :: o2 :: o3 :: o4 :: o5 :: o6 :: o7 :: o8 :: o9 :: o10 :: o11 :: o12 :: o13 :: o14 :: (.ref y15) :: (.int y16) :: tl)) :: X) (Ti D cs (fun r u => u = (T, y1 :: a0 :: O, (y1, .inl (cs.2.1, 3906, .inl f1)) :: (a0, .inr (12, o0 :: (.ref y1) :: o2 :: o3 :: o4 :: o5 :: o6 :: o7 :: o8 :: o9 :: o10 :: o11 :: o12 :: o13 :: o14 :: (.ref y15) :: (.int y16) :: tl)) :: X))) := by
  refine tk_of (by decide) (Nat.le_of_ble_eq_true rfl) (fun p e s m below meth c ls A H locs hx hb hr hml hown hts hlocks hnm hkb hH hS hA hOX hks hE hl => ?_)
  have hown : s.vm.findClass RX12 = some m.cls := hown
  have hl : lv_has ls 7 [(0, .ref a0), (1, .int x1), (2, .int x2), (3, .int x3), (4, .int x4)] := hl
  have hOXf := hOX
  refine lv_aload_n hx hb dX12_wordOf_0 rfl (lv_at hl 0 rfl) ?_
  refine x_getk (ci := 12) (C := RX12) (F := TX12) (N := 36) (v := .ref y1) hx hb hts uX12 hown hkb hH 1 rfl rfl 1 (by decide) rfl kw_1224 (fun _ h9 => h9) dX12_wordOf_1 ?_
  refine lv_bipush (v := 7) hx hb dX12_wordOf_4 (by decide) ?_
  refine lv_iload hx hb dX12_wordOf_6 (lv_at hl 4 rfl) ?_
  refine lv_iadd hx hb dX12_wordOf_8 ?_
  refine lv_topi (fun v8 ev8 => ?_)
  have tv8 : v8.toInt = (7) + x4.toInt := by rw [ev8]; exact add_i (by decide : (7 : Int32).toInt = 7) rfl (by omega) (by omega)
  refine xa_ild hx hb hkb hH 0 rfl (by omega) (by omega) dX12_wordOf_9 ?_
  refine lv_topi (fun v9 ev9 => ?_)
  have tv9 : v9 = f1 v8.toInt.toNat := ev9
  refine lv_aload_n hx hb dX12_wordOf_10 rfl (lv_at hl 0 rfl) ?_
  refine x_getk (ci := 12) (C := RX12) (F := TX12) (N := 36) (v := .ref y1) hx hb hts uX12 hown hkb hH 1 rfl rfl 1 (by decide) rfl kw_1224 (fun _ h9 => h9) dX12_wordOf_11 ?_
  refine lv_bipush (v := 7) hx hb dX12_wordOf_14 (by decide) ?_
  refine lv_iload_n hx hb dX12_wordOf_16 rfl (lv_at hl 3 rfl) ?_
  refine lv_iadd hx hb dX12_wordOf_17 ?_
  refine lv_topi (fun v17 ev17 => ?_)
  have tv17 : v17.toInt = (7) + x3.toInt := by rw [ev17]; exact add_i (by decide : (7 : Int32).toInt = 7) rfl (by omega) (by omega)
  refine xa_ild hx hb hkb hH 0 rfl (by omega) (by omega) dX12_wordOf_18 ?_
  refine lv_topi (fun v18 ev18 => ?_)
  have tv18 : v18 = f1 v17.toInt.toNat := ev18
  refine lv_isub hx hb dX12_wordOf_19 ?_
  refine lv_topi (fun v19 ev19 => ?_)
  refine tk_i hH hS hA (tr_S (n := 1) (As := [.int v19]) hx hb hml hown hts hkb hH (ox_map hOX rfl) hks hE hS hA (s_M_far l D cs kf T (y1 :: a0 :: O) ((y1, .inl (cs.2.1, 3906, .inl f1)) :: (a0, .inr (12, o0 :: (.ref y1) :: o2 :: o3 :: o4 :: o5 :: o6 :: o7 :: o8 :: o9 :: o10 :: o11 :: o12 :: o13 :: o14 :: (.ref y15) :: (.int y16) :: tl)) :: X) v19  (hO.sub (by decide))) kw_1490 kw_1491 kw_13 kw_1492 (by decide +kernel) ⟨Nat.le_of_ble_eq_true rfl, Nat.le_of_ble_eq_true rfl⟩ rfl rfl hl.1 (Nat.le_of_ble_eq_true rfl) dX12_wordOf_20 ⟨Nat.le_of_ble_eq_true rfl, Nat.le_of_ble_eq_true rfl⟩) (fun v20 u H locs hz9 hH hS => ?_)
  have hz9 : u = (T, y1 :: a0 :: O, (y1, .inl (cs.2.1, 3906, .inl f1)) :: (a0, .inr (12, o0 :: (.ref y1) :: o2 :: o3 :: o4 :: o5 :: o6 :: o7 :: o8 :: o9 :: o10 :: o11 :: o12 :: o13 :: o14 :: (.ref y15) :: (.int y16) :: tl)) :: X) := hz9
  subst hz9
  have hH : HT D cs A T (y1 :: a0 :: O) ((y1, .inl (cs.2.1, 3906, .inl f1)) :: (a0, .inr (12, o0 :: (.ref y1) :: o2 :: o3 :: o4 :: o5 :: o6 :: o7 :: o8 :: o9 :: o10 :: o11 :: o12 :: o13 :: o14 :: (.ref y15) :: (.int y16) :: tl)) :: X) H := hH
  refine W.widen (k := 0) (n := 0) (Nat.le_of_ble_eq_true rfl) (Nat.le_of_ble_eq_true rfl) ?_
  refine lv_istore (lv' := [(5, .int v20), (0, .ref a0), (1, .int x1), (2, .int x2), (3, .int x3), (4, .int x4)]) hx hb dX12_wordOf_23 hl (by decide) rfl (fun ls hl => ?_)
  refine lv_aload_n hx hb dX12_wordOf_25 rfl (lv_at hl 1 rfl) ?_
  refine x_getk (ci := 12) (C := RX12) (F := TX12) (N := 36) (v := .ref y1) hx hb hts uX12 hown hkb hH 1 rfl rfl 1 (by decide) rfl kw_1224 (fun _ h9 => h9) dX12_wordOf_26 ?_
  refine lv_bipush (v := 21) hx hb dX12_wordOf_29 (by decide) ?_
  refine lv_iload hx hb dX12_wordOf_31 (lv_at hl 5 rfl) ?_
  refine lv_iadd hx hb dX12_wordOf_33 ?_
  refine lv_topi (fun v33 ev33 => ?_)
  have tv33 : v33.toInt = (21) + x4.toInt := by rw [ev33]; exact add_i (by decide : (21 : Int32).toInt = 21) rfl (by omega) (by omega)
  refine xa_ild hx hb hkb hH 0 rfl (by omega) (by omega) dX12_wordOf_34 ?_
  refine lv_topi (fun v34 ev34 => ?_)
  have tv34 : v34 = f1 v33.toInt.toNat := ev34
  refine lv_aload_n hx hb dX12_wordOf_35 rfl (lv_at hl 1 rfl) ?_
  refine x_getk (ci := 12) (C := RX12) (F := TX12) (N := 36) (v := .ref y1) hx hb hts uX12 hown hkb hH 1 rfl rfl 1 (by decide) rfl kw_1224 (fun _ h9 => h9) dX12_wordOf_36 ?_
  refine lv_bipush (v := 21) hx hb dX12_wordOf_39 (by decide) ?_
  refine lv_iload_n hx hb dX12_wordOf_41 rfl (lv_at hl 4 rfl) ?_
  refine lv_iadd hx hb dX12_wordOf_42 ?_
  refine lv_topi (fun v42 ev42 => ?_)
  have tv42 : v42.toInt = (21) + x3.toInt := by rw [ev42]; exact add_i (by decide : (21 : Int32).toInt = 21) rfl (by omega) (by omega)
  refine xa_ild hx hb hkb hH 0 rfl (by omega) (by omega) dX12_wordOf_43 ?_
  refine lv_topi (fun v43 ev43 => ?_)
  have tv43 : v43 = f1 v42.toInt.toNat := ev43
  refine lv_isub hx hb dX12_wordOf_44 ?_
  refine lv_topi (fun v44 ev44 => ?_)
  refine lv_istore (lv' := [(6, .int v44), (5, .int v20), (0, .ref a0), (1, .int x1), (2, .int x2), (3, .int x3), (4, .int x4)]) hx hb dX12_wordOf_45 hl (by decide) rfl (fun ls hl => ?_)
  refine lv_iload_n hx hb dX12_wordOf_47 rfl (lv_at hl 3 rfl) ?_
  by_cases c48_0 : x1 = 0
  · skip
    refine lv_topc c48_0 ?_
    have tc48_0 := f_eq (k := 0) (by decide) c48_0
    refine lv_tableIn (off := 40) (tgt := 88) hx hb dX12_wordOf_48 (by decide) (by decide) (by decide) (by decide) ?_
    refine lv_iload hx hb dX12_wordOf_88 (lv_at hl 1 rfl) ?_
    exact te_i hx hb hr hlocks hH hS (rfl) dX12_wordOf_90
  have tc48_0 := f_ne (k := 0) (by decide) c48_0
  by_cases c48_1 : x1 = 1
  · skip
    refine lv_topc c48_1 ?_
    have tc48_1 := f_eq (k := 1) (by decide) c48_1
    refine lv_tableIn (off := 43) (tgt := 91) hx hb dX12_wordOf_48 (by decide) (by decide) (by decide) (by decide) ?_
    refine lv_iload hx hb dX12_wordOf_91 (lv_at hl 0 rfl) ?_
    exact te_i hx hb hr hlocks hH hS (rfl) dX12_wordOf_93
  have tc48_1 := f_ne (k := 1) (by decide) c48_1
  by_cases c48_2 : x1 = 2
  · skip
    refine lv_topc c48_2 ?_
    have tc48_2 := f_eq (k := 2) (by decide) c48_2
    refine lv_tableIn (off := 46) (tgt := 94) hx hb dX12_wordOf_48 (by decide) (by decide) (by decide) (by decide) ?_
    refine lv_iload hx hb dX12_wordOf_94 (lv_at hl 1 rfl) ?_
    refine lv_iload hx hb dX12_wordOf_96 (lv_at hl 0 rfl) ?_
    refine tk_i hH hS hA (tr_S (n := 1) (As := [.int v44]) hx hb hml hown hts hkb hH (ox_map hOX rfl) hks hE hS hA (s_M_far l D cs kf T (y1 :: a0 :: O) ((y1, .inl (cs.2.1, 3906, .inl f1)) :: (a0, .inr (12, o0 :: (.ref y1) :: o2 :: o3 :: o4 :: o5 :: o6 :: o7 :: o8 :: o9 :: o10 :: o11 :: o12 :: o13 :: o14 :: (.ref y15) :: (.int y16) :: tl)) :: X) v44  (hO.sub (by decide))) kw_1490 kw_1491 kw_13 kw_1492 (by decide +kernel) ⟨Nat.le_of_ble_eq_true rfl, Nat.le_of_ble_eq_true rfl⟩ rfl rfl hl.1 (Nat.le_of_ble_eq_true rfl) dX12_wordOf_98 ⟨Nat.le_of_ble_eq_true rfl, Nat.le_of_ble_eq_true rfl⟩) (fun v98 u H locs hz9 hH hS => ?_)
    have hz9 : u = (T, y1 :: a0 :: O, (y1, .inl (cs.2.1, 3906, .inl f1)) :: (a0, .inr (12, o0 :: (.ref y1) :: o2 :: o3 :: o4 :: o5 :: o6 :: o7 :: o8 :: o9 :: o10 :: o11 :: o12 :: o13 :: o14 :: (.ref y15) :: (.int y16) :: tl)) :: X) := hz9
    subst hz9
    have hH : HT D cs A T (y1 :: a0 :: O) ((y1, .inl (cs.2.1, 3906, .inl f1)) :: (a0, .inr (12, o0 :: (.ref y1) :: o2 :: o3 :: o4 :: o5 :: o6 :: o7 :: o8 :: o9 :: o10 :: o11 :: o12 :: o13 :: o14 :: (.ref y15) :: (.int y16) :: tl)) :: X) H := hH
    refine W.widen (k := 0) (n := 0) (Nat.le_of_ble_eq_true rfl) (Nat.le_of_ble_eq_true rfl) ?_
    refine lv_iadd hx hb dX12_wordOf_101 ?_
    refine lv_topi (fun v101 ev101 => ?_)
    exact te_i hx hb hr hlocks hH hS (rfl) dX12_wordOf_102
  have tc48_2 := f_ne (k := 2) (by decide) c48_2
  by_cases c48_3 : x1 = 3
  · skip
    refine lv_topc c48_3 ?_
    have tc48_3 := f_eq (k := 3) (by decide) c48_3
    refine lv_tableIn (off := 55) (tgt := 103) hx hb dX12_wordOf_48 (by decide) (by decide) (by decide) (by decide) ?_
    refine lv_aload_n hx hb dX12_wordOf_103 rfl (lv_at hl 2 rfl) ?_
    refine x_getk (ci := 12) (C := RX12) (F := TX12) (N := 36) (v := .int y16) hx hb hts uX12 hown hkb hH 1 rfl rfl 16 (by decide) rfl kw_1239 (fun _ h9 => h9) dX12_wordOf_104 ?_
    exact te_i hx hb hr hlocks hH hS (rfl) dX12_wordOf_107
  have tc48_3 := f_ne (k := 3) (by decide) c48_3
  by_cases c48_4 : x1 = 4
  · skip
    refine lv_topc c48_4 ?_
    have tc48_4 := f_eq (k := 4) (by decide) c48_4
    refine lv_tableIn (off := 60) (tgt := 108) hx hb dX12_wordOf_48 (by decide) (by decide) (by decide) (by decide) ?_
    refine lv_aload_n hx hb dX12_wordOf_108 rfl (lv_at hl 2 rfl) ?_
    refine x_getk (ci := 12) (C := RX12) (F := TX12) (N := 36) (v := .ref y1) hx hb hts uX12 hown hkb hH 1 rfl rfl 1 (by decide) rfl kw_1224 (fun _ h9 => h9) dX12_wordOf_109 ?_
    refine lv_bipush (v := 54) hx hb dX12_wordOf_112 (by decide) ?_
    refine lv_iload_n hx hb dX12_wordOf_114 rfl (lv_at hl 4 rfl) ?_
    refine lv_iadd hx hb dX12_wordOf_115 ?_
    refine lv_topi (fun v115 ev115 => ?_)
    have tv115 : v115.toInt = (54) + x2.toInt := by rw [ev115]; exact add_i (by decide : (54 : Int32).toInt = 54) rfl (by omega) (by omega)
    refine xa_ild hx hb hkb hH 0 rfl (by omega) (by omega) dX12_wordOf_116 ?_
    refine lv_topi (fun v116 ev116 => ?_)
    have tv116 : v116 = f1 v115.toInt.toNat := ev116
    exact te_i hx hb hr hlocks hH hS (rfl) dX12_wordOf_117
  have tc48_4 := f_ne (k := 4) (by decide) c48_4
  by_cases c48_5 : x1 = 5
  · skip
    refine lv_topc c48_5 ?_
    have tc48_5 := f_eq (k := 5) (by decide) c48_5
    refine lv_tableIn (off := 70) (tgt := 118) hx hb dX12_wordOf_48 (by decide) (by decide) (by decide) (by decide) ?_
    refine lv_aload_n hx hb dX12_wordOf_118 rfl (lv_at hl 2 rfl) ?_
    refine x_getk (ci := 12) (C := RX12) (F := TX12) (N := 36) (v := .ref y1) hx hb hts uX12 hown hkb hH 1 rfl rfl 1 (by decide) rfl kw_1224 (fun _ h9 => h9) dX12_wordOf_119 ?_
    refine lv_bipush (v := 6) hx hb dX12_wordOf_122 (by decide) ?_
    refine xa_ild hx hb hkb hH 0 rfl (by decide) (by decide) dX12_wordOf_124 ?_
    refine lv_topi (fun v124 ev124 => ?_)
    have tv124 : v124 = f1 6 := by rw [ev124]; rfl
    have bv124 : 0 ≤ v124.toInt ∧ v124.toInt ≤ 16383 := by rw [ev124]; exact (s_f1.at (by decide) 6).2.2.2.2.1 (by decide)
    refine lv_i2l hx hb dX12_wordOf_125 rfl ?_
    refine lv_iload hx hb dX12_wordOf_126 (lv_at hl 6 rfl) ?_
    refine tk_i hH hS hA (tr_S (n := 2) (As := [.long v124.toInt64, .int x4]) hx hb hml hown hts hkb hH (ox_map hOX rfl) hks hE hS hA (s_M_isIn2 l D cs kf T (y1 :: a0 :: O) ((y1, .inl (cs.2.1, 3906, .inl f1)) :: (a0, .inr (12, o0 :: (.ref y1) :: o2 :: o3 :: o4 :: o5 :: o6 :: o7 :: o8 :: o9 :: o10 :: o11 :: o12 :: o13 :: o14 :: (.ref y15) :: (.int y16) :: tl)) :: X) v124.toInt64 x4  (hO.sub (by decide))) kw_1440 kw_1441 kw_13 kw_1442 (by decide +kernel) ⟨Nat.le_of_ble_eq_true rfl, Nat.le_of_ble_eq_true rfl⟩ rfl rfl hl.1 (Nat.le_of_ble_eq_true rfl) dX12_wordOf_128 ⟨Nat.le_of_ble_eq_true rfl, Nat.le_of_ble_eq_true rfl⟩) (fun v128 u H locs hz9 hH hS => ?_)
    obtain ⟨rfl, l_v128, u_v128, x_v1280⟩ := hz9
    have hH : HT D cs A T (y1 :: a0 :: O) ((y1, .inl (cs.2.1, 3906, .inl f1)) :: (a0, .inr (12, o0 :: (.ref y1) :: o2 :: o3 :: o4 :: o5 :: o6 :: o7 :: o8 :: o9 :: o10 :: o11 :: o12 :: o13 :: o14 :: (.ref y15) :: (.int y16) :: tl)) :: X) H := hH
    refine W.widen (k := 0) (n := 0) (Nat.le_of_ble_eq_true rfl) (Nat.le_of_ble_eq_true rfl) ?_
    have J139 : ∀ (k139_0 : Int32) (H : Heap) (locs : List Loc) (ls : Array Slot), (0 ≤ k139_0.toInt) → (k139_0.toInt ≤ 1) → HT D cs A T (y1 :: a0 :: O) ((y1, .inl (cs.2.1, 3906, .inl f1)) :: (a0, .inr (12, o0 :: (.ref y1) :: o2 :: o3 :: o4 :: o5 :: o6 :: o7 :: o8 :: o9 :: o10 :: o11 :: o12 :: o13 :: o14 :: (.ref y15) :: (.int y16) :: tl)) :: X) H → va_S A s.heap H locs → lv_has ls 7 [] → W p l e { frames := 1, cells := 0, slots := 0, locals := 22 } s m [.ref a0, .int x1, .int x2, .int x3, .int x4].toArray below meth c H locs 0 0 (MQ below (Ti D cs (fun r u => u = (T, y1 :: a0 :: O, (y1, .inl (cs.2.1, 3906, .inl f1)) :: (a0, .inr (12, o0 :: (.ref y1) :: o2 :: o3 :: o4 :: o5 :: o6 :: o7 :: o8 :: o9 :: o10 :: o11 :: o12 :: o13 :: o14 :: (.ref y15) :: (.int y16) :: tl)) :: X)) A) [.ref a0, .int x1, .int x2, .int x3, .int x4].toArray s 0 0 A) (F0 m 139 ls [.int k139_0]) := by
      intro k139_0 H locs ls l_k139_0 u_k139_0 hH hS hl
      exact te_i hx hb hr hlocks hH hS (rfl) dX12_wordOf_139
    refine lv_if_eq (tgt := 138) hx hb dX12_wordOf_131 (by decide) (fun c131 => ?_) (fun c131 => ?_)
    · skip
      have tc131 := f_eq (k := 0) (by decide) c131
      refine lv_iconst (v := 0) hx hb dX12_wordOf_138 (by decide) ?_
      exact J139 0 _ _ _ (by decide) (by decide) hH hS (lv_sub hl [] rfl)
    · skip
      have tc131 := f_ne (k := 0) (by decide) c131
      refine lv_iconst (v := 1) hx hb dX12_wordOf_134 (by decide) ?_
      refine lv_goto (tgt := 139) hx hb dX12_wordOf_135 (by decide) ?_
      exact J139 1 _ _ _ (by decide) (by decide) hH hS (lv_sub hl [] rfl)
  have tc48_5 := f_ne (k := 5) (by decide) c48_5
  refine lv_tableOut (tgt := 140) hx hb dX12_wordOf_48 (by omega) (by decide) ?_
  refine lv_aload_n hx hb dX12_wordOf_140 rfl (lv_at hl 2 rfl) ?_
  refine x_getk (ci := 12) (C := RX12) (F := TX12) (N := 36) (v := .ref y1) hx hb hts uX12 hown hkb hH 1 rfl rfl 1 (by decide) rfl kw_1224 (fun _ h9 => h9) dX12_wordOf_141 ?_
  refine lv_bipush (v := 88) hx hb dX12_wordOf_144 (by decide) ?_
  refine xa_ild hx hb hkb hH 0 rfl (by decide) (by decide) dX12_wordOf_146 ?_
  refine lv_topi (fun v146 ev146 => ?_)
  have tv146 : v146 = f1 88 := by rw [ev146]; rfl
  exact te_i hx hb hr hlocks hH hS (rfl) dX12_wordOf_147
set_option maxHeartbeats 4000000 in
set_option maxRecDepth 100000 in
theorem s_M_mayStep (l : Launch) (D : va_G) (cs : CS) (kf : KF) (T : TF) (O : List Nat) (X : va_W) (a0 hg mq : Nat) (x1 : Int32) (x2 : Int32) (x3 : Int32) (t_a0 : T a0 = some (22, hg, mq)) (b_hg : hg < 90) (l_x1 : 0 ≤ x1.toInt) (u_x1 : x1.toInt ≤ 4) (l_x2 : 0 ≤ x2.toInt) (u_x2 : x2.toInt ≤ 13) (l_x3 : 0 ≤ x3.toInt) (u_x3 : x3.toInt ≤ 13) (hO : okO T O [1, 8, 22]) : TK l D cs kf yX12_mayStep cX12_mayStep 7 (some (.boolean)) { frames := 2, cells := 0, slots := 0, locals := 48 } [.ref a0, .int x1, .int x2, .int x3] T O X (Ti D cs (fun r u => u = (T, O, X) ∧ 0 ≤ r.toInt ∧ r.toInt ≤ 1)) := by
  refine tk_of (by decide) (Nat.le_of_ble_eq_true rfl) (fun p e s m below meth c ls A H locs hx hb hr hml hown hts hlocks hnm hkb hH hS hA hOX hks hE hl => ?_)
  have hown : s.vm.findClass RX12 = some m.cls := hown
  have hl : lv_has ls 7 [(0, .ref a0), (1, .int x1), (2, .int x2), (3, .int x3)] := hl
  have hO0 := hO
  obtain ⟨fs9, ho9, hH⟩ := hH.take t_a0 (hO0.no t_a0 (by decide))
  have hp0 : okL T (ft12 hg mq) fs9 := ho9
  clear ho9
  obtain ⟨v9, fs9, rfl, h9, hp1⟩ := okL_i hp0
  obtain ⟨q0_0, rfl⟩ := h9
  obtain ⟨v9, fs9, rfl, h9, hp2⟩ := okL_i hp1
  obtain ⟨q0_1, rfl, t_q0_1⟩ := h9
  obtain ⟨v9, fs9, rfl, h9, hp3⟩ := okL_i hp2
  obtain ⟨q0_2, rfl, t_q0_2⟩ := h9
  obtain ⟨v9, fs9, rfl, h9, hp4⟩ := okL_i hp3
  obtain ⟨q0_3, rfl, t_q0_3⟩ := h9
  obtain ⟨v9, fs9, rfl, h9, hp5⟩ := okL_i hp4
  obtain ⟨q0_4, rfl, t_q0_4⟩ := h9
  obtain ⟨v9, fs9, rfl, h9, hp6⟩ := okL_i hp5
  obtain ⟨q0_5, rfl, l_q0_5, u_q0_5, eg_q0_5⟩ := h9
  obtain ⟨v9, fs9, rfl, h9, hp7⟩ := okL_i hp6
  obtain ⟨q0_6, rfl⟩ := h9
  obtain ⟨v9, fs9, rfl, h9, hp8⟩ := okL_i hp7
  obtain ⟨q0_7, rfl⟩ := h9
  obtain ⟨v9, fs9, rfl, h9, hp9⟩ := okL_i hp8
  obtain ⟨q0_8, rfl⟩ := h9
  obtain ⟨v9, fs9, rfl, h9, hp10⟩ := okL_i hp9
  obtain ⟨q0_9, rfl⟩ := h9
  obtain ⟨v9, fs9, rfl, h9, hp11⟩ := okL_i hp10
  obtain ⟨q0_10, rfl, l_q0_10, u_q0_10⟩ := h9
  obtain ⟨v9, fs9, rfl, h9, hp12⟩ := okL_i hp11
  obtain ⟨q0_11, rfl⟩ := h9
  obtain ⟨v9, fs9, rfl, h9, hp13⟩ := okL_i hp12
  obtain ⟨q0_12, rfl⟩ := h9
  obtain ⟨v9, fs9, rfl, h9, hp14⟩ := okL_i hp13
  obtain ⟨q0_13, rfl, eg_q0_13⟩ := h9
  obtain ⟨v9, fs9, rfl, h9, hp15⟩ := okL_i hp14
  obtain ⟨q0_14, rfl, eg_q0_14⟩ := h9
  obtain ⟨v9, fs9, rfl, h9, hp16⟩ := okL_i hp15
  obtain ⟨q0_15, rfl, t_q0_15⟩ := h9
  obtain ⟨v9, fs9, rfl, h9, hp17⟩ := okL_i hp16
  obtain ⟨q0_16, rfl⟩ := h9
  obtain ⟨v9, fs9, rfl, h9, hp18⟩ := okL_i hp17
  obtain ⟨q0_17, rfl, t_q0_17⟩ := h9
  obtain ⟨v9, fs9, rfl, h9, hp19⟩ := okL_i hp18
  obtain ⟨q0_18, rfl, t_q0_18⟩ := h9
  obtain ⟨v9, fs9, rfl, h9, hp20⟩ := okL_i hp19
  obtain ⟨q0_19, rfl, t_q0_19⟩ := h9
  obtain ⟨v9, fs9, rfl, h9, hp21⟩ := okL_i hp20
  obtain ⟨q0_20, rfl, l_q0_20, u_q0_20⟩ := h9
  obtain ⟨v9, fs9, rfl, h9, hp22⟩ := okL_i hp21
  obtain ⟨q0_21, rfl, t_q0_21⟩ := h9
  obtain ⟨v9, fs9, rfl, h9, hp23⟩ := okL_i hp22
  obtain ⟨q0_22, rfl, t_q0_22⟩ := h9
  obtain ⟨v9, fs9, rfl, h9, hp24⟩ := okL_i hp23
  obtain ⟨q0_23, rfl⟩ := h9
  obtain ⟨v9, fs9, rfl, h9, hp25⟩ := okL_i hp24
  obtain ⟨q0_24, rfl⟩ := h9
  obtain ⟨v9, fs9, rfl, h9, hp26⟩ := okL_i hp25
  obtain ⟨q0_25, rfl⟩ := h9
  obtain ⟨v9, fs9, rfl, h9, hp27⟩ := okL_i hp26
  obtain ⟨q0_26, rfl, t_q0_26⟩ := h9
  obtain ⟨v9, fs9, rfl, h9, hp28⟩ := okL_i hp27
  obtain ⟨q0_27, rfl, t_q0_27⟩ := h9
  obtain ⟨v9, fs9, rfl, h9, hp29⟩ := okL_i hp28
  obtain ⟨q0_28, rfl, t_q0_28⟩ := h9
  obtain ⟨v9, fs9, rfl, h9, hp30⟩ := okL_i hp29
  obtain ⟨q0_29, rfl, t_q0_29⟩ := h9
  obtain ⟨v9, fs9, rfl, h9, hp31⟩ := okL_i hp30
  obtain ⟨q0_30, rfl, t_q0_30⟩ := h9
  obtain ⟨v9, fs9, rfl, h9, hp32⟩ := okL_i hp31
  obtain ⟨q0_31, rfl, t_q0_31⟩ := h9
  obtain ⟨v9, fs9, rfl, h9, hp33⟩ := okL_i hp32
  obtain ⟨q0_32, rfl⟩ := h9
  obtain ⟨v9, fs9, rfl, h9, hp34⟩ := okL_i hp33
  obtain ⟨q0_33, rfl, t_q0_33⟩ := h9
  obtain ⟨v9, fs9, rfl, h9, hp35⟩ := okL_i hp34
  obtain ⟨q0_34, rfl, t_q0_34⟩ := h9
  obtain ⟨v9, fs9, rfl, h9, hp36⟩ := okL_i hp35
  obtain ⟨q0_35, rfl, t_q0_35⟩ := h9
  have hpz := okL_z hp36
  subst hpz
  have hH : HT D cs A T (a0 :: O) ((a0, .inr (12, [.int q0_0, .ref q0_1, .ref q0_2, .ref q0_3, .ref q0_4, .int q0_5, .int q0_6, .int q0_7, .int q0_8, .int q0_9, .int q0_10, .int q0_11, .int q0_12, .int q0_13, .int q0_14, .ref q0_15, .int q0_16, .ref q0_17, .ref q0_18, .ref q0_19, .int q0_20, .ref q0_21, .ref q0_22, .int q0_23, .int q0_24, .int q0_25, .ref q0_26, .ref q0_27, .ref q0_28, .ref q0_29, .ref q0_30, .ref q0_31, .int q0_32, .ref q0_33, .ref q0_34, .ref q0_35])) :: X) H := hH
  have hO : okO T (a0 :: O) [1, 8] := okO.cons (hO0.sub (by decide)) t_a0 (by decide)
  obtain ⟨e9, hs9, hH⟩ := HT.takeA hH t_q0_1 (nm_c (tag_ne t_q0_1 t_a0 (by first | decide | exact fun q => absurd (show 8 = 22 from congrArg Prod.fst q) (by decide))) (hO0.no t_q0_1 (by decide)))
  obtain ⟨f1, rfl, s_f1, g_f1⟩ : ∃ f : Nat → Int32, e9 = .inl (cs.2.1, 3906, .inl f) ∧ B8 3906 f ∧ (3906 = 3906 → f 1 = nI (hg / 6) ∧ f 2 = nI (hg % 6)) := hs9
  have g_f1 := g_f1 rfl
  have hO : okO T (q0_1 :: a0 :: O) [1] := okO.cons (hO.sub (by decide)) t_q0_1 (by decide)
  refine lv_aload_n hx hb dX12_mayStep_0 rfl (lv_at hl 0 rfl) ?_
  refine x_getk (ci := 12) (C := RX12) (F := TX12) (N := 36) (v := .ref q0_1) hx hb hts uX12 hown hkb hH 1 rfl rfl 1 (by decide) rfl kw_1224 (fun _ h9 => h9) dX12_mayStep_1 ?_
  refine lv_iconst (v := 3) hx hb dX12_mayStep_4 (by decide) ?_
  refine xa_ild hx hb hkb hH 0 rfl (by decide) (by decide) dX12_mayStep_5 ?_
  refine lv_topi (fun v5 ev5 => ?_)
  have tv5 : v5 = f1 3 := by rw [ev5]; rfl
  refine lv_if_ne (tgt := 30) hx hb dX12_mayStep_6 (by decide) (fun c6 => ?_) (fun c6 => ?_)
  · skip
    have tc6 := f_ne (k := 0) (by decide) c6
    refine lv_iconst (v := 0) hx hb dX12_mayStep_30 (by decide) ?_
    refine lv_istore (lv' := [(4, .int 0), (0, .ref a0), (1, .int x1), (2, .int x2), (3, .int x3)]) hx hb dX12_mayStep_31 hl (by decide) rfl (fun ls hl => ?_)
    refine lv_iconst (v := 0) hx hb dX12_mayStep_33 (by decide) ?_
    have J36 : ∀ (n : Nat) (p36_5 : Int32) (p36_4 : Int32) (H : Heap) (locs : List Loc) (ls : Array Slot), (900 - p36_5.toInt).toNat = n → (0 ≤ p36_5.toInt) → (p36_5.toInt ≤ 900) → (0 ≤ p36_4.toInt) → (p36_4.toInt ≤ 900) → (p36_4.toInt = dpn f1 p36_5.toInt.toNat) → HT D cs A T (q0_1 :: a0 :: O) ((q0_1, .inl (cs.2.1, 3906, .inl f1)) :: (a0, .inr (12, [.int q0_0, .ref q0_1, .ref q0_2, .ref q0_3, .ref q0_4, .int q0_5, .int q0_6, .int q0_7, .int q0_8, .int q0_9, .int q0_10, .int q0_11, .int q0_12, .int q0_13, .int q0_14, .ref q0_15, .int q0_16, .ref q0_17, .ref q0_18, .ref q0_19, .int q0_20, .ref q0_21, .ref q0_22, .int q0_23, .int q0_24, .int q0_25, .ref q0_26, .ref q0_27, .ref q0_28, .ref q0_29, .ref q0_30, .ref q0_31, .int q0_32, .ref q0_33, .ref q0_34, .ref q0_35])) :: X) H → va_S A s.heap H locs → lv_has ls 7 [(5, .int p36_5), (4, .int p36_4), (0, .ref a0), (1, .int x1), (2, .int x2), (3, .int x3)] → W p l e { frames := 2, cells := 0, slots := 0, locals := 48 } s m [.ref a0, .int x1, .int x2, .int x3].toArray below meth c H locs 0 0 (MQ below (Ti D cs (fun r u => u = (T, O, X) ∧ 0 ≤ r.toInt ∧ r.toInt ≤ 1) A) [.ref a0, .int x1, .int x2, .int x3].toArray s 0 0 A) (F0 m 36 ls []) := by
      intro n
      induction n using Nat.strongRecOn with
      | _ n ih36 =>
        intro p36_5 p36_4 H locs ls hm36 l_p36_5 u_p36_5 l_p36_4 u_p36_4 i36 hH hS hl
        refine lv_iload hx hb dX12_mayStep_36 (lv_at hl 0 rfl) ?_
        refine lv_aload_n hx hb dX12_mayStep_38 rfl (lv_at hl 2 rfl) ?_
        refine x_getk (ci := 12) (C := RX12) (F := TX12) (N := 36) (v := .ref q0_1) hx hb hts uX12 hown hkb hH 1 rfl rfl 1 (by decide) rfl kw_1224 (fun _ h9 => h9) dX12_mayStep_39 ?_
        refine lv_sipush (v := 401) hx hb dX12_mayStep_42 (by decide) ?_
        refine xa_ild hx hb hkb hH 0 rfl (by decide) (by decide) dX12_mayStep_45 ?_
        refine lv_topi (fun v45 ev45 => ?_)
        have tv45 : v45 = f1 401 := by rw [ev45]; rfl
        have bv45 : 0 ≤ v45.toInt ∧ v45.toInt ≤ 900 := by rw [ev45]; exact (s_f1.at (by decide) 401).2.2.2.2.2.2 (by decide)
        refine lv_icmp_ge (tgt := 179) hx hb dX12_mayStep_46 (by decide) (fun c46 => ?_) (fun c46 => ?_)
        · skip
          have fuc46 := full_i p36_5
          have fvc46 := full_i v45
          have tc46 := g_le c46
          refine lv_aload_n hx hb dX12_mayStep_179 rfl (lv_at hl 2 rfl) ?_
          refine x_getk (ci := 12) (C := RX12) (F := TX12) (N := 36) (v := .ref q0_15) hx hb hts uX12 hown hkb hH 1 rfl rfl 15 (by decide) rfl kw_1238 (fun _ h9 => h9) dX12_mayStep_180 ?_
          refine lv_iconst (v := 0) hx hb dX12_mayStep_183 (by decide) ?_
          refine t_ild hx hb hkb hH t_q0_15 (hO.no t_q0_15 (by decide)) (by decide) (by decide) dX12_mayStep_184 (fun v184 h9 => ?_)
          refine lv_iconst (v := 1) hx hb dX12_mayStep_185 (by decide) ?_
          have J194 : ∀ (k194_0 : Int32) (H : Heap) (locs : List Loc) (ls : Array Slot), (0 ≤ k194_0.toInt) → (k194_0.toInt ≤ 1) → HT D cs A T (q0_1 :: a0 :: O) ((q0_1, .inl (cs.2.1, 3906, .inl f1)) :: (a0, .inr (12, [.int q0_0, .ref q0_1, .ref q0_2, .ref q0_3, .ref q0_4, .int q0_5, .int q0_6, .int q0_7, .int q0_8, .int q0_9, .int q0_10, .int q0_11, .int q0_12, .int q0_13, .int q0_14, .ref q0_15, .int q0_16, .ref q0_17, .ref q0_18, .ref q0_19, .int q0_20, .ref q0_21, .ref q0_22, .int q0_23, .int q0_24, .int q0_25, .ref q0_26, .ref q0_27, .ref q0_28, .ref q0_29, .ref q0_30, .ref q0_31, .int q0_32, .ref q0_33, .ref q0_34, .ref q0_35])) :: X) H → va_S A s.heap H locs → lv_has ls 7 [] → W p l e { frames := 2, cells := 0, slots := 0, locals := 48 } s m [.ref a0, .int x1, .int x2, .int x3].toArray below meth c H locs 0 0 (MQ below (Ti D cs (fun r u => u = (T, O, X) ∧ 0 ≤ r.toInt ∧ r.toInt ≤ 1) A) [.ref a0, .int x1, .int x2, .int x3].toArray s 0 0 A) (F0 m 194 ls [.int k194_0]) := by
            intro k194_0 H locs ls l_k194_0 u_k194_0 hH hS hl
            have hH : HT D cs A T (a0 :: O) ((a0, .inr (12, [.int q0_0, .ref q0_1, .ref q0_2, .ref q0_3, .ref q0_4, .int q0_5, .int q0_6, .int q0_7, .int q0_8, .int q0_9, .int q0_10, .int q0_11, .int q0_12, .int q0_13, .int q0_14, .ref q0_15, .int q0_16, .ref q0_17, .ref q0_18, .ref q0_19, .int q0_20, .ref q0_21, .ref q0_22, .int q0_23, .int q0_24, .int q0_25, .ref q0_26, .ref q0_27, .ref q0_28, .ref q0_29, .ref q0_30, .ref q0_31, .int q0_32, .ref q0_33, .ref q0_34, .ref q0_35])) :: X) H := HT.layA hH t_q0_1 (show sp cs T (8, 3906, hg) _ from ⟨_, rfl, s_f1, fun _ => g_f1⟩)
            have hH : HT D cs A T O X H := HT.lay (ci := 12) hH t_a0 (okL_c (⟨_, rfl⟩) (okL_c (⟨_, rfl, t_q0_1⟩) (okL_c (⟨_, rfl, t_q0_2⟩) (okL_c (⟨_, rfl, t_q0_3⟩) (okL_c (⟨_, rfl, t_q0_4⟩) (okL_c (⟨_, rfl, by omega, by omega, by omega⟩) (okL_c (⟨_, rfl⟩) (okL_c (⟨_, rfl⟩) (okL_c (⟨_, rfl⟩) (okL_c (⟨_, rfl⟩) (okL_c (⟨_, rfl, by omega, by omega⟩) (okL_c (⟨_, rfl⟩) (okL_c (⟨_, rfl⟩) (okL_c (⟨_, rfl, by omega⟩) (okL_c (⟨_, rfl, by omega⟩) (okL_c (⟨_, rfl, t_q0_15⟩) (okL_c (⟨_, rfl⟩) (okL_c (⟨_, rfl, t_q0_17⟩) (okL_c (⟨_, rfl, t_q0_18⟩) (okL_c (⟨_, rfl, t_q0_19⟩) (okL_c (⟨_, rfl, by omega, by omega⟩) (okL_c (⟨_, rfl, t_q0_21⟩) (okL_c (⟨_, rfl, t_q0_22⟩) (okL_c (⟨_, rfl⟩) (okL_c (⟨_, rfl⟩) (okL_c (⟨_, rfl⟩) (okL_c (⟨_, rfl, t_q0_26⟩) (okL_c (⟨_, rfl, t_q0_27⟩) (okL_c (⟨_, rfl, t_q0_28⟩) (okL_c (⟨_, rfl, t_q0_29⟩) (okL_c (⟨_, rfl, t_q0_30⟩) (okL_c (⟨_, rfl, t_q0_31⟩) (okL_c (⟨_, rfl⟩) (okL_c (⟨_, rfl, t_q0_33⟩) (okL_c (⟨_, rfl, t_q0_34⟩) (okL_c (⟨_, rfl, t_q0_35⟩) (okL_n)))))))))))))))))))))))))))))))))))))
            have hO := hO0
            exact te_z hx hb hr hlocks (nar01 (by omega) (by omega)) hH hS (⟨rfl, by omega, by omega⟩) dX12_mayStep_194
          refine lv_icmp_ne (tgt := 193) hx hb dX12_mayStep_186 (by decide) (fun c186 => ?_) (fun c186 => ?_)
          · skip
            have tc186 := f_ne (k := 1) (by decide) c186
            refine lv_iconst (v := 0) hx hb dX12_mayStep_193 (by decide) ?_
            exact J194 0 _ _ _ (by decide) (by decide) hH hS (lv_sub hl [] rfl)
          · skip
            have tc186 := f_eq (k := 1) (by decide) c186
            refine lv_iconst (v := 1) hx hb dX12_mayStep_189 (by decide) ?_
            refine lv_goto (tgt := 194) hx hb dX12_mayStep_190 (by decide) ?_
            exact J194 1 _ _ _ (by decide) (by decide) hH hS (lv_sub hl [] rfl)
        · skip
          have fuc46 := full_i p36_5
          have fvc46 := full_i v45
          have tc46 := g_nle c46
          refine lv_aload_n hx hb dX12_mayStep_49 rfl (lv_at hl 2 rfl) ?_
          refine x_getk (ci := 12) (C := RX12) (F := TX12) (N := 36) (v := .ref q0_1) hx hb hts uX12 hown hkb hH 1 rfl rfl 1 (by decide) rfl kw_1224 (fun _ h9 => h9) dX12_mayStep_50 ?_
          refine lv_sipush (v := 402) hx hb dX12_mayStep_53 (by decide) ?_
          refine lv_iload hx hb dX12_mayStep_56 (lv_at hl 0 rfl) ?_
          refine lv_iadd hx hb dX12_mayStep_58 ?_
          refine lv_topi (fun v58 ev58 => ?_)
          have tv58 : v58.toInt = (402) + p36_5.toInt := by rw [ev58]; exact add_i (by decide : (402 : Int32).toInt = 402) rfl (by omega) (by omega)
          refine xa_ild hx hb hkb hH 0 rfl (by omega) (by omega) dX12_mayStep_59 ?_
          refine lv_topi (fun v59 ev59 => ?_)
          have tv59 : v59 = f1 v58.toInt.toNat := ev59
          refine lv_istore (lv' := [(6, .int v59), (5, .int p36_5), (4, .int p36_4), (0, .ref a0), (1, .int x1), (2, .int x2), (3, .int x3)]) hx hb dX12_mayStep_60 hl (by decide) rfl (fun ls hl => ?_)
          have hc59 : v59 = f1 (402 + p36_5.toInt.toNat) := by rw [tv59, show v58.toInt.toNat = 402 + p36_5.toInt.toNat by omega]
          have hw9 := dpn_at s_f1.first (by omega) tv45 (by omega) hc59
          refine lv_iload hx hb dX12_mayStep_62 (lv_at hl 0 rfl) ?_
          refine lv_sipush (v := 3000) hx hb dX12_mayStep_64 (by decide) ?_
          refine lv_icmp_ge (tgt := 109) hx hb dX12_mayStep_67 (by decide) (fun c67 => ?_) (fun c67 => ?_)
          · skip
            have tc67 := f_ge (k := 3000) (by decide) c67
            refine lv_iload hx hb dX12_mayStep_109 (lv_at hl 0 rfl) ?_
            refine lv_sipush (v := 3008) hx hb dX12_mayStep_111 (by decide) ?_
            refine lv_icmp_ne (tgt := 140) hx hb dX12_mayStep_114 (by decide) (fun c114 => ?_) (fun c114 => ?_)
            · skip
              have tc114 := f_ne (k := 3008) (by decide) c114
              obtain ⟨v140, ev140⟩ : ∃ y : Int32, y = p36_4 + (-1) := ⟨_, rfl⟩
              have tv140 : v140.toInt = p36_4.toInt + (-1) := by rw [ev140]; exact add_i rfl (by decide) (by omega) (by omega)
              refine lv_iinc (v := v140) (lv' := [(4, .int v140), (6, .int v59), (5, .int p36_5), (0, .ref a0), (1, .int x1), (2, .int x2), (3, .int x3)]) hx hb dX12_mayStep_140 hl (k := 2) rfl (by rw [ev140]; rfl) (by decide) rfl (fun ls hl => ?_)
              refine lv_aload_n hx hb dX12_mayStep_143 rfl (lv_at hl 3 rfl) ?_
              refine x_getk (ci := 12) (C := RX12) (F := TX12) (N := 36) (v := .ref q0_15) hx hb hts uX12 hown hkb hH 1 rfl rfl 15 (by decide) rfl kw_1238 (fun _ h9 => h9) dX12_mayStep_144 ?_
              refine lv_iload hx hb dX12_mayStep_147 (lv_at hl 0 rfl) ?_
              refine lv_iconst (v := 1) hx hb dX12_mayStep_149 (by decide) ?_
              refine lv_isub hx hb dX12_mayStep_150 ?_
              refine lv_topi (fun v150 ev150 => ?_)
              have tv150 : v150.toInt = v140.toInt - (1) := by rw [ev150]; exact sub_i rfl (by decide : (1 : Int32).toInt = 1) (by omega) (by omega)
              refine lv_iload hx hb dX12_mayStep_151 (lv_at hl 1 rfl) ?_
              refine lv_aload_n hx hb dX12_mayStep_153 rfl (lv_at hl 3 rfl) ?_
              refine x_getk (ci := 12) (C := RX12) (F := TX12) (N := 36) (v := .ref q0_15) hx hb hts uX12 hown hkb hH 1 rfl rfl 15 (by decide) rfl kw_1238 (fun _ h9 => h9) dX12_mayStep_154 ?_
              refine lv_iload hx hb dX12_mayStep_157 (lv_at hl 0 rfl) ?_
              refine lv_iconst (v := 1) hx hb dX12_mayStep_159 (by decide) ?_
              refine lv_isub hx hb dX12_mayStep_160 ?_
              refine lv_topi (fun v160 ev160 => ?_)
              have tv160 : v160.toInt = v140.toInt - (1) := by rw [ev160]; exact sub_i rfl (by decide : (1 : Int32).toInt = 1) (by omega) (by omega)
              refine t_ild hx hb hkb hH t_q0_15 (hO.no t_q0_15 (by decide)) (by omega) (by omega) dX12_mayStep_161 (fun v161 h9 => ?_)
              refine lv_aload_n hx hb dX12_mayStep_162 rfl (lv_at hl 3 rfl) ?_
              refine x_getk (ci := 12) (C := RX12) (F := TX12) (N := 36) (v := .ref q0_15) hx hb hts uX12 hown hkb hH 1 rfl rfl 15 (by decide) rfl kw_1238 (fun _ h9 => h9) dX12_mayStep_163 ?_
              refine lv_iload hx hb dX12_mayStep_166 (lv_at hl 0 rfl) ?_
              refine t_ild hx hb hkb hH t_q0_15 (hO.no t_q0_15 (by decide)) (by omega) (by omega) dX12_mayStep_168 (fun v168 h9 => ?_)
              refine tk_i hH hS hA (tr_S (n := 3) (As := [.int v59, .int v161, .int v168]) hx hb hml hown hts hkb hH (ox_c (ox_c hOX)) hks hE hS hA (s_M_between l D cs kf T (q0_1 :: a0 :: O) ((q0_1, .inl (cs.2.1, 3906, .inl f1)) :: (a0, .inr (12, [.int q0_0, .ref q0_1, .ref q0_2, .ref q0_3, .ref q0_4, .int q0_5, .int q0_6, .int q0_7, .int q0_8, .int q0_9, .int q0_10, .int q0_11, .int q0_12, .int q0_13, .int q0_14, .ref q0_15, .int q0_16, .ref q0_17, .ref q0_18, .ref q0_19, .int q0_20, .ref q0_21, .ref q0_22, .int q0_23, .int q0_24, .int q0_25, .ref q0_26, .ref q0_27, .ref q0_28, .ref q0_29, .ref q0_30, .ref q0_31, .int q0_32, .ref q0_33, .ref q0_34, .ref q0_35])) :: X) v59 v161 v168  (hO.sub (by decide))) kw_1493 kw_1494 kw_13 kw_1495 (by decide +kernel) ⟨Nat.le_of_ble_eq_true rfl, Nat.le_of_ble_eq_true rfl⟩ rfl rfl hl.1 (Nat.le_of_ble_eq_true rfl) dX12_mayStep_169 ⟨Nat.le_of_ble_eq_true rfl, Nat.le_of_ble_eq_true rfl⟩) (fun v169 u H locs hz9 hH hS => ?_)
              have hz9 : u = (T, q0_1 :: a0 :: O, (q0_1, .inl (cs.2.1, 3906, .inl f1)) :: (a0, .inr (12, [.int q0_0, .ref q0_1, .ref q0_2, .ref q0_3, .ref q0_4, .int q0_5, .int q0_6, .int q0_7, .int q0_8, .int q0_9, .int q0_10, .int q0_11, .int q0_12, .int q0_13, .int q0_14, .ref q0_15, .int q0_16, .ref q0_17, .ref q0_18, .ref q0_19, .int q0_20, .ref q0_21, .ref q0_22, .int q0_23, .int q0_24, .int q0_25, .ref q0_26, .ref q0_27, .ref q0_28, .ref q0_29, .ref q0_30, .ref q0_31, .int q0_32, .ref q0_33, .ref q0_34, .ref q0_35])) :: X) := hz9
              subst hz9
              have hH : HT D cs A T (q0_1 :: a0 :: O) ((q0_1, .inl (cs.2.1, 3906, .inl f1)) :: (a0, .inr (12, [.int q0_0, .ref q0_1, .ref q0_2, .ref q0_3, .ref q0_4, .int q0_5, .int q0_6, .int q0_7, .int q0_8, .int q0_9, .int q0_10, .int q0_11, .int q0_12, .int q0_13, .int q0_14, .ref q0_15, .int q0_16, .ref q0_17, .ref q0_18, .ref q0_19, .int q0_20, .ref q0_21, .ref q0_22, .int q0_23, .int q0_24, .int q0_25, .ref q0_26, .ref q0_27, .ref q0_28, .ref q0_29, .ref q0_30, .ref q0_31, .int q0_32, .ref q0_33, .ref q0_34, .ref q0_35])) :: X) H := hH
              refine W.widen (k := 0) (n := 0) (Nat.le_of_ble_eq_true rfl) (Nat.le_of_ble_eq_true rfl) ?_
              refine t_ist hx hb hkb hH hS t_q0_15 (hO.no t_q0_15 (by decide)) (by omega) (by omega) (cp_0 _) dX12_mayStep_172 (fun H locs hH hS => ?_)
              obtain ⟨v173, ev173⟩ : ∃ y : Int32, y = p36_5 + 1 := ⟨_, rfl⟩
              have tv173 : v173.toInt = p36_5.toInt + (1) := by rw [ev173]; exact add_i rfl (by decide) (by omega) (by omega)
              refine lv_iinc (v := v173) (lv' := [(5, .int v173), (4, .int v140), (6, .int v59), (0, .ref a0), (1, .int x1), (2, .int x2), (3, .int x3)]) hx hb dX12_mayStep_173 hl (k := 2) rfl (by rw [ev173]; rfl) (by decide) rfl (fun ls hl => ?_)
              have hd9 := dpn_step (by omega) tv173 hc59
              refine lv_goto (tgt := 36) hx hb dX12_mayStep_176 (by decide) ?_
              exact ih36 _ (by omega) v173 v140 _ _ _ rfl (by omega) (by omega) (by omega) (by omega) (by first | omega | rfl) hH hS (lv_sub hl [0, 1, 3, 4, 5, 6] rfl)
            · skip
              have tc114 := f_eq (k := 3008) (by decide) c114
              refine lv_aload_n hx hb dX12_mayStep_117 rfl (lv_at hl 3 rfl) ?_
              refine x_getk (ci := 12) (C := RX12) (F := TX12) (N := 36) (v := .ref q0_15) hx hb hts uX12 hown hkb hH 1 rfl rfl 15 (by decide) rfl kw_1238 (fun _ h9 => h9) dX12_mayStep_118 ?_
              refine lv_iload hx hb dX12_mayStep_121 (lv_at hl 2 rfl) ?_
              refine lv_iconst (v := 1) hx hb dX12_mayStep_123 (by decide) ?_
              refine lv_isub hx hb dX12_mayStep_124 ?_
              refine lv_topi (fun v124 ev124 => ?_)
              have tv124 : v124.toInt = p36_4.toInt - (1) := by rw [ev124]; exact sub_i rfl (by decide : (1 : Int32).toInt = 1) (by omega) (by omega)
              refine lv_iconst (v := 1) hx hb dX12_mayStep_125 (by decide) ?_
              refine lv_aload_n hx hb dX12_mayStep_126 rfl (lv_at hl 3 rfl) ?_
              refine x_getk (ci := 12) (C := RX12) (F := TX12) (N := 36) (v := .ref q0_15) hx hb hts uX12 hown hkb hH 1 rfl rfl 15 (by decide) rfl kw_1238 (fun _ h9 => h9) dX12_mayStep_127 ?_
              refine lv_iload hx hb dX12_mayStep_130 (lv_at hl 2 rfl) ?_
              refine lv_iconst (v := 1) hx hb dX12_mayStep_132 (by decide) ?_
              refine lv_isub hx hb dX12_mayStep_133 ?_
              refine lv_topi (fun v133 ev133 => ?_)
              have tv133 : v133.toInt = p36_4.toInt - (1) := by rw [ev133]; exact sub_i rfl (by decide : (1 : Int32).toInt = 1) (by omega) (by omega)
              refine t_ild hx hb hkb hH t_q0_15 (hO.no t_q0_15 (by decide)) (by omega) (by omega) dX12_mayStep_134 (fun v134 h9 => ?_)
              refine lv_isub hx hb dX12_mayStep_135 ?_
              refine lv_topi (fun v135 ev135 => ?_)
              refine t_ist hx hb hkb hH hS t_q0_15 (hO.no t_q0_15 (by decide)) (by omega) (by omega) (cp_0 _) dX12_mayStep_136 (fun H locs hH hS => ?_)
              refine lv_goto (tgt := 173) hx hb dX12_mayStep_137 (by decide) ?_
              obtain ⟨v173, ev173⟩ : ∃ y : Int32, y = p36_5 + 1 := ⟨_, rfl⟩
              have tv173 : v173.toInt = p36_5.toInt + (1) := by rw [ev173]; exact add_i rfl (by decide) (by omega) (by omega)
              refine lv_iinc (v := v173) (lv' := [(5, .int v173), (6, .int v59), (4, .int p36_4), (0, .ref a0), (1, .int x1), (2, .int x2), (3, .int x3)]) hx hb dX12_mayStep_173 hl (k := 1) rfl (by rw [ev173]; rfl) (by decide) rfl (fun ls hl => ?_)
              have hd9 := dpn_step (by omega) tv173 hc59
              refine lv_goto (tgt := 36) hx hb dX12_mayStep_176 (by decide) ?_
              exact ih36 _ (by omega) v173 p36_4 _ _ _ rfl (by omega) (by omega) (by omega) (by omega) (by first | omega | rfl) hH hS (lv_sub hl [0, 2, 3, 4, 5, 6] rfl)
          · skip
            have tc67 := f_nge (k := 3000) (by decide) c67
            refine lv_aload_n hx hb dX12_mayStep_70 rfl (lv_at hl 3 rfl) ?_
            refine x_getk (ci := 12) (C := RX12) (F := TX12) (N := 36) (v := .ref q0_15) hx hb hts uX12 hown hkb hH 1 rfl rfl 15 (by decide) rfl kw_1238 (fun _ h9 => h9) dX12_mayStep_71 ?_
            refine lv_iload hx hb dX12_mayStep_74 (lv_at hl 2 rfl) ?_
            refine lv_iload hx hb dX12_mayStep_76 (lv_at hl 0 rfl) ?_
            refine lv_sipush (v := 1000) hx hb dX12_mayStep_78 (by decide) ?_
            have J102 : ∀ (k102_0 : Int32) (H : Heap) (locs : List Loc) (ls : Array Slot), HT D cs A T (q0_1 :: a0 :: O) ((q0_1, .inl (cs.2.1, 3906, .inl f1)) :: (a0, .inr (12, [.int q0_0, .ref q0_1, .ref q0_2, .ref q0_3, .ref q0_4, .int q0_5, .int q0_6, .int q0_7, .int q0_8, .int q0_9, .int q0_10, .int q0_11, .int q0_12, .int q0_13, .int q0_14, .ref q0_15, .int q0_16, .ref q0_17, .ref q0_18, .ref q0_19, .int q0_20, .ref q0_21, .ref q0_22, .int q0_23, .int q0_24, .int q0_25, .ref q0_26, .ref q0_27, .ref q0_28, .ref q0_29, .ref q0_30, .ref q0_31, .int q0_32, .ref q0_33, .ref q0_34, .ref q0_35])) :: X) H → va_S A s.heap H locs → lv_has ls 7 [(5, .int p36_5), (4, .int p36_4), (0, .ref a0), (1, .int x1), (2, .int x2), (3, .int x3)] → W p l e { frames := 2, cells := 0, slots := 0, locals := 48 } s m [.ref a0, .int x1, .int x2, .int x3].toArray below meth c H locs 0 0 (MQ below (Ti D cs (fun r u => u = (T, O, X) ∧ 0 ≤ r.toInt ∧ r.toInt ≤ 1) A) [.ref a0, .int x1, .int x2, .int x3].toArray s 0 0 A) (F0 m 102 ls [.int k102_0, .int p36_4, .ref q0_15]) := by
              intro k102_0 H locs ls  hH hS hl
              refine t_ist hx hb hkb hH hS t_q0_15 (hO.no t_q0_15 (by decide)) (by omega) (by omega) (cp_0 _) dX12_mayStep_102 (fun H locs hH hS => ?_)
              obtain ⟨v103, ev103⟩ : ∃ y : Int32, y = p36_4 + 1 := ⟨_, rfl⟩
              have tv103 : v103.toInt = p36_4.toInt + (1) := by rw [ev103]; exact add_i rfl (by decide) (by omega) (by omega)
              refine lv_iinc (v := v103) (lv' := [(4, .int v103), (5, .int p36_5), (0, .ref a0), (1, .int x1), (2, .int x2), (3, .int x3)]) hx hb dX12_mayStep_103 hl (k := 1) rfl (by rw [ev103]; rfl) (by decide) rfl (fun ls hl => ?_)
              refine lv_goto (tgt := 173) hx hb dX12_mayStep_106 (by decide) ?_
              obtain ⟨v173, ev173⟩ : ∃ y : Int32, y = p36_5 + 1 := ⟨_, rfl⟩
              have tv173 : v173.toInt = p36_5.toInt + (1) := by rw [ev173]; exact add_i rfl (by decide) (by omega) (by omega)
              refine lv_iinc (v := v173) (lv' := [(5, .int v173), (4, .int v103), (0, .ref a0), (1, .int x1), (2, .int x2), (3, .int x3)]) hx hb dX12_mayStep_173 hl (k := 1) rfl (by rw [ev173]; rfl) (by decide) rfl (fun ls hl => ?_)
              have hd9 := dpn_step (by omega) tv173 hc59
              refine lv_goto (tgt := 36) hx hb dX12_mayStep_176 (by decide) ?_
              exact ih36 _ (by omega) v173 v103 _ _ _ rfl (by omega) (by omega) (by omega) (by omega) (by first | omega | rfl) hH hS (lv_sub hl [0, 1, 2, 3, 4, 5] rfl)
            refine lv_icmp_ge (tgt := 89) hx hb dX12_mayStep_81 (by decide) (fun c81 => ?_) (fun c81 => ?_)
            · skip
              have tc81 := f_ge (k := 1000) (by decide) c81
              refine lv_aload_n hx hb dX12_mayStep_89 rfl (lv_at hl 3 rfl) ?_
              refine lv_iload hx hb dX12_mayStep_90 (lv_at hl 0 rfl) ?_
              refine lv_sipush (v := 1000) hx hb dX12_mayStep_92 (by decide) ?_
              refine lv_isub hx hb dX12_mayStep_95 ?_
              refine lv_topi (fun v95 ev95 => ?_)
              have tv95 : v95.toInt = v59.toInt - (1000) := by rw [ev95]; exact sub_i rfl (by decide : (1000 : Int32).toInt = 1000) (by omega) (by omega)
              refine lv_iload_n hx hb dX12_mayStep_96 rfl (lv_at hl 4 rfl) ?_
              refine lv_iload_n hx hb dX12_mayStep_97 rfl (lv_at hl 5 rfl) ?_
              refine lv_iload_n hx hb dX12_mayStep_98 rfl (lv_at hl 6 rfl) ?_
              refine tk_i hH hS hA (tr_V (n := 4) (As := [.int v95, .int x1, .int x2, .int x3]) hx hb hml hown hts hkb hH (ox_c (ox_c hOX)) hks hE hS hA (s_M_wordOf l D cs kf T O X a0 hg mq v95 x1 x2 x3 f1 (.int q0_0) q0_1 (.ref q0_2) (.ref q0_3) (.ref q0_4) (.int q0_5) (.int q0_6) (.int q0_7) (.int q0_8) (.int q0_9) (.int q0_10) (.int q0_11) (.int q0_12) (.int q0_13) (.int q0_14) q0_15 q0_16 [.ref q0_17, .ref q0_18, .ref q0_19, .int q0_20, .ref q0_21, .ref q0_22, .int q0_23, .int q0_24, .int q0_25, .ref q0_26, .ref q0_27, .ref q0_28, .ref q0_29, .ref q0_30, .ref q0_31, .int q0_32, .ref q0_33, .ref q0_34, .ref q0_35] t_a0 b_hg (by omega) (by omega) (by omega) (by omega) (by omega) (by omega) s_f1 g_f1 t_q0_1 t_q0_15 (hO.sub (by decide))) kw_1486 kw_1488 ks_70 kw_13 kw_1489 (by decide +kernel) ⟨Nat.le_of_ble_eq_true rfl, Nat.le_of_ble_eq_true rfl⟩ (x_recv (ci := 12) hkb hH 1 rfl rfl) rfl rfl hl.1 (Nat.le_of_ble_eq_true rfl) dX12_mayStep_99 ⟨Nat.le_of_ble_eq_true rfl, Nat.le_of_ble_eq_true rfl⟩) (fun v99 u H locs hz9 hH hS => ?_)
              obtain ⟨rfl⟩ := hz9
              have hH : HT D cs A T (q0_1 :: a0 :: O) ((q0_1, .inl (cs.2.1, 3906, .inl f1)) :: (a0, .inr (12, [.int q0_0, .ref q0_1, .ref q0_2, .ref q0_3, .ref q0_4, .int q0_5, .int q0_6, .int q0_7, .int q0_8, .int q0_9, .int q0_10, .int q0_11, .int q0_12, .int q0_13, .int q0_14, .ref q0_15, .int q0_16, .ref q0_17, .ref q0_18, .ref q0_19, .int q0_20, .ref q0_21, .ref q0_22, .int q0_23, .int q0_24, .int q0_25, .ref q0_26, .ref q0_27, .ref q0_28, .ref q0_29, .ref q0_30, .ref q0_31, .int q0_32, .ref q0_33, .ref q0_34, .ref q0_35])) :: X) H := hH
              refine W.widen (k := 0) (n := 0) (Nat.le_of_ble_eq_true rfl) (Nat.le_of_ble_eq_true rfl) ?_
              exact J102 v99 _ _ _  hH hS (lv_sub hl [1, 2, 3, 4, 5, 6] rfl)
            · skip
              have tc81 := f_nge (k := 1000) (by decide) c81
              refine lv_iload hx hb dX12_mayStep_84 (lv_at hl 0 rfl) ?_
              refine lv_goto (tgt := 102) hx hb dX12_mayStep_86 (by decide) ?_
              exact J102 v59 _ _ _  hH hS (lv_sub hl [1, 2, 3, 4, 5, 6] rfl)
    refine lv_istore (lv' := [(5, .int 0), (4, .int 0), (0, .ref a0), (1, .int x1), (2, .int x2), (3, .int x3)]) hx hb dX12_mayStep_34 hl (by decide) rfl (fun ls hl => ?_)
    have z_0 : (0 : Int32).toInt = 0 := by decide
    exact J36 _ 0 0 _ _ _ rfl (by decide) (by decide) (by decide) (by decide) (by first | omega | rfl) hH hS (lv_sub hl [0, 1, 2, 3, 4, 5] rfl)
  · skip
    have tc6 := f_eq (k := 0) (by decide) c6
    refine lv_aload_n hx hb dX12_mayStep_9 rfl (lv_at hl 0 rfl) ?_
    refine lv_iconst (v := 2) hx hb dX12_mayStep_10 (by decide) ?_
    refine lv_iload_n hx hb dX12_mayStep_11 rfl (lv_at hl 1 rfl) ?_
    refine lv_iload_n hx hb dX12_mayStep_12 rfl (lv_at hl 2 rfl) ?_
    refine lv_iload_n hx hb dX12_mayStep_13 rfl (lv_at hl 3 rfl) ?_
    have z9_2 : (2 : Int32).toInt = 2 := by decide
    refine tk_i hH hS hA (tr_V (n := 4) (As := [.int 2, .int x1, .int x2, .int x3]) hx hb hml hown hts hkb hH (ox_c (ox_c hOX)) hks hE hS hA (s_M_wordOf l D cs kf T O X a0 hg mq (2) x1 x2 x3 f1 (.int q0_0) q0_1 (.ref q0_2) (.ref q0_3) (.ref q0_4) (.int q0_5) (.int q0_6) (.int q0_7) (.int q0_8) (.int q0_9) (.int q0_10) (.int q0_11) (.int q0_12) (.int q0_13) (.int q0_14) q0_15 q0_16 [.ref q0_17, .ref q0_18, .ref q0_19, .int q0_20, .ref q0_21, .ref q0_22, .int q0_23, .int q0_24, .int q0_25, .ref q0_26, .ref q0_27, .ref q0_28, .ref q0_29, .ref q0_30, .ref q0_31, .int q0_32, .ref q0_33, .ref q0_34, .ref q0_35] t_a0 b_hg (by omega) (by omega) (by omega) (by omega) (by omega) (by omega) s_f1 g_f1 t_q0_1 t_q0_15 (hO.sub (by decide))) kw_1486 kw_1488 ks_70 kw_13 kw_1489 (by decide +kernel) ⟨Nat.le_of_ble_eq_true rfl, Nat.le_of_ble_eq_true rfl⟩ (x_recv (ci := 12) hkb hH 1 rfl rfl) rfl rfl hl.1 (Nat.le_of_ble_eq_true rfl) dX12_mayStep_14 ⟨Nat.le_of_ble_eq_true rfl, Nat.le_of_ble_eq_true rfl⟩) (fun v14 u H locs hz9 hH hS => ?_)
    obtain ⟨rfl⟩ := hz9
    have hH : HT D cs A T (q0_1 :: a0 :: O) ((q0_1, .inl (cs.2.1, 3906, .inl f1)) :: (a0, .inr (12, [.int q0_0, .ref q0_1, .ref q0_2, .ref q0_3, .ref q0_4, .int q0_5, .int q0_6, .int q0_7, .int q0_8, .int q0_9, .int q0_10, .int q0_11, .int q0_12, .int q0_13, .int q0_14, .ref q0_15, .int q0_16, .ref q0_17, .ref q0_18, .ref q0_19, .int q0_20, .ref q0_21, .ref q0_22, .int q0_23, .int q0_24, .int q0_25, .ref q0_26, .ref q0_27, .ref q0_28, .ref q0_29, .ref q0_30, .ref q0_31, .int q0_32, .ref q0_33, .ref q0_34, .ref q0_35])) :: X) H := hH
    refine W.widen (k := 0) (n := 0) (Nat.le_of_ble_eq_true rfl) (Nat.le_of_ble_eq_true rfl) ?_
    refine lv_aload_n hx hb dX12_mayStep_17 rfl (lv_at hl 0 rfl) ?_
    refine x_getk (ci := 12) (C := RX12) (F := TX12) (N := 36) (v := .int q0_16) hx hb hts uX12 hown hkb hH 1 rfl rfl 16 (by decide) rfl kw_1239 (fun _ h9 => h9) dX12_mayStep_18 ?_
    have J29 : ∀ (k29_0 : Int32) (H : Heap) (locs : List Loc) (ls : Array Slot), (0 ≤ k29_0.toInt) → (k29_0.toInt ≤ 1) → HT D cs A T (q0_1 :: a0 :: O) ((q0_1, .inl (cs.2.1, 3906, .inl f1)) :: (a0, .inr (12, [.int q0_0, .ref q0_1, .ref q0_2, .ref q0_3, .ref q0_4, .int q0_5, .int q0_6, .int q0_7, .int q0_8, .int q0_9, .int q0_10, .int q0_11, .int q0_12, .int q0_13, .int q0_14, .ref q0_15, .int q0_16, .ref q0_17, .ref q0_18, .ref q0_19, .int q0_20, .ref q0_21, .ref q0_22, .int q0_23, .int q0_24, .int q0_25, .ref q0_26, .ref q0_27, .ref q0_28, .ref q0_29, .ref q0_30, .ref q0_31, .int q0_32, .ref q0_33, .ref q0_34, .ref q0_35])) :: X) H → va_S A s.heap H locs → lv_has ls 7 [] → W p l e { frames := 2, cells := 0, slots := 0, locals := 48 } s m [.ref a0, .int x1, .int x2, .int x3].toArray below meth c H locs 0 0 (MQ below (Ti D cs (fun r u => u = (T, O, X) ∧ 0 ≤ r.toInt ∧ r.toInt ≤ 1) A) [.ref a0, .int x1, .int x2, .int x3].toArray s 0 0 A) (F0 m 29 ls [.int k29_0]) := by
      intro k29_0 H locs ls l_k29_0 u_k29_0 hH hS hl
      have hH : HT D cs A T (a0 :: O) ((a0, .inr (12, [.int q0_0, .ref q0_1, .ref q0_2, .ref q0_3, .ref q0_4, .int q0_5, .int q0_6, .int q0_7, .int q0_8, .int q0_9, .int q0_10, .int q0_11, .int q0_12, .int q0_13, .int q0_14, .ref q0_15, .int q0_16, .ref q0_17, .ref q0_18, .ref q0_19, .int q0_20, .ref q0_21, .ref q0_22, .int q0_23, .int q0_24, .int q0_25, .ref q0_26, .ref q0_27, .ref q0_28, .ref q0_29, .ref q0_30, .ref q0_31, .int q0_32, .ref q0_33, .ref q0_34, .ref q0_35])) :: X) H := HT.layA hH t_q0_1 (show sp cs T (8, 3906, hg) _ from ⟨_, rfl, s_f1, fun _ => g_f1⟩)
      have hH : HT D cs A T O X H := HT.lay (ci := 12) hH t_a0 (okL_c (⟨_, rfl⟩) (okL_c (⟨_, rfl, t_q0_1⟩) (okL_c (⟨_, rfl, t_q0_2⟩) (okL_c (⟨_, rfl, t_q0_3⟩) (okL_c (⟨_, rfl, t_q0_4⟩) (okL_c (⟨_, rfl, by omega, by omega, by omega⟩) (okL_c (⟨_, rfl⟩) (okL_c (⟨_, rfl⟩) (okL_c (⟨_, rfl⟩) (okL_c (⟨_, rfl⟩) (okL_c (⟨_, rfl, by omega, by omega⟩) (okL_c (⟨_, rfl⟩) (okL_c (⟨_, rfl⟩) (okL_c (⟨_, rfl, by omega⟩) (okL_c (⟨_, rfl, by omega⟩) (okL_c (⟨_, rfl, t_q0_15⟩) (okL_c (⟨_, rfl⟩) (okL_c (⟨_, rfl, t_q0_17⟩) (okL_c (⟨_, rfl, t_q0_18⟩) (okL_c (⟨_, rfl, t_q0_19⟩) (okL_c (⟨_, rfl, by omega, by omega⟩) (okL_c (⟨_, rfl, t_q0_21⟩) (okL_c (⟨_, rfl, t_q0_22⟩) (okL_c (⟨_, rfl⟩) (okL_c (⟨_, rfl⟩) (okL_c (⟨_, rfl⟩) (okL_c (⟨_, rfl, t_q0_26⟩) (okL_c (⟨_, rfl, t_q0_27⟩) (okL_c (⟨_, rfl, t_q0_28⟩) (okL_c (⟨_, rfl, t_q0_29⟩) (okL_c (⟨_, rfl, t_q0_30⟩) (okL_c (⟨_, rfl, t_q0_31⟩) (okL_c (⟨_, rfl⟩) (okL_c (⟨_, rfl, t_q0_33⟩) (okL_c (⟨_, rfl, t_q0_34⟩) (okL_c (⟨_, rfl, t_q0_35⟩) (okL_n)))))))))))))))))))))))))))))))))))))
      have hO := hO0
      exact te_z hx hb hr hlocks (nar01 (by omega) (by omega)) hH hS (⟨rfl, by omega, by omega⟩) dX12_mayStep_29
    refine lv_icmp_gt (tgt := 28) hx hb dX12_mayStep_21 (by decide) (fun c21 => ?_) (fun c21 => ?_)
    · skip
      have fuc21 := full_i v14
      have fvc21 := full_i q0_16
      have tc21 := g_lt c21
      refine lv_iconst (v := 0) hx hb dX12_mayStep_28 (by decide) ?_
      exact J29 0 _ _ _ (by decide) (by decide) hH hS (lv_sub hl [] rfl)
    · skip
      have fuc21 := full_i v14
      have fvc21 := full_i q0_16
      have tc21 := g_nlt c21
      refine lv_iconst (v := 1) hx hb dX12_mayStep_24 (by decide) ?_
      refine lv_goto (tgt := 29) hx hb dX12_mayStep_25 (by decide) ?_
      exact J29 1 _ _ _ (by decide) (by decide) hH hS (lv_sub hl [] rfl)
theorem dX12_comesTo_0 : decode cX12_comesTo 0 = .ok (.iload_n 1, 1) := by decide +kernel
theorem dX12_comesTo_1 : decode cX12_comesTo 1 = .ok (.aload_n 0, 1) := by decide +kernel
theorem dX12_comesTo_2 : decode cX12_comesTo 2 = .ok (.getfield 13, 3) := by decide +kernel
theorem dX12_comesTo_5 : decode cX12_comesTo 5 = .ok (.iconst 4, 1) := by decide +kernel
theorem dX12_comesTo_6 : decode cX12_comesTo 6 = .ok (.iaload, 1) := by decide +kernel
theorem dX12_comesTo_7 : decode cX12_comesTo 7 = .ok (.iand, 1) := by decide +kernel
theorem dX12_comesTo_8 : decode cX12_comesTo 8 = .ok (.istore_n 2, 1) := by decide +kernel
theorem dX12_comesTo_9 : decode cX12_comesTo 9 = .ok (.iconst 0, 1) := by decide +kernel
theorem dX12_comesTo_10 : decode cX12_comesTo 10 = .ok (.istore_n 3, 1) := by decide +kernel
theorem dX12_comesTo_11 : decode cX12_comesTo 11 = .ok (.iload_n 3, 1) := by decide +kernel
theorem dX12_comesTo_12 : decode cX12_comesTo 12 = .ok (.iload_n 2, 1) := by decide +kernel
theorem dX12_comesTo_13 : decode cX12_comesTo 13 = .ok (.if_icmp .eq 50, 3) := by decide +kernel
theorem dX12_comesTo_16 : decode cX12_comesTo 16 = .ok (.iload_n 2, 1) := by decide +kernel
theorem dX12_comesTo_17 : decode cX12_comesTo 17 = .ok (.istore_n 3, 1) := by decide +kernel
theorem dX12_comesTo_18 : decode cX12_comesTo 18 = .ok (.iconst 0, 1) := by decide +kernel
theorem dX12_comesTo_19 : decode cX12_comesTo 19 = .ok (.istore 4, 2) := by decide +kernel
theorem dX12_comesTo_21 : decode cX12_comesTo 21 = .ok (.iload 4, 2) := by decide +kernel
theorem dX12_comesTo_23 : decode cX12_comesTo 23 = .ok (.aload_n 0, 1) := by decide +kernel
theorem dX12_comesTo_24 : decode cX12_comesTo 24 = .ok (.getfield 13, 3) := by decide +kernel
theorem dX12_comesTo_27 : decode cX12_comesTo 27 = .ok (.iconst 1, 1) := by decide +kernel
theorem dX12_comesTo_28 : decode cX12_comesTo 28 = .ok (.iaload, 1) := by decide +kernel
theorem dX12_comesTo_29 : decode cX12_comesTo 29 = .ok (.if_icmp .ge 31, 3) := by decide +kernel
theorem dX12_comesTo_32 : decode cX12_comesTo 32 = .ok (.iload_n 3, 1) := by decide +kernel
theorem dX12_comesTo_33 : decode cX12_comesTo 33 = .ok (.i2l, 1) := by decide +kernel
theorem dX12_comesTo_34 : decode cX12_comesTo 34 = .ok (.iload 4, 2) := by decide +kernel
theorem dX12_comesTo_36 : decode cX12_comesTo 36 = .ok (.invokestatic 186, 3) := by decide +kernel
theorem dX12_comesTo_39 : decode cX12_comesTo 39 = .ok (.ifCond .eq 15, 3) := by decide +kernel
theorem dX12_comesTo_42 : decode cX12_comesTo 42 = .ok (.iload_n 2, 1) := by decide +kernel
theorem dX12_comesTo_43 : decode cX12_comesTo 43 = .ok (.aload_n 0, 1) := by decide +kernel
theorem dX12_comesTo_44 : decode cX12_comesTo 44 = .ok (.getfield 33, 3) := by decide +kernel
theorem dX12_comesTo_47 : decode cX12_comesTo 47 = .ok (.iload 4, 2) := by decide +kernel
theorem dX12_comesTo_49 : decode cX12_comesTo 49 = .ok (.iaload, 1) := by decide +kernel
theorem dX12_comesTo_50 : decode cX12_comesTo 50 = .ok (.iload_n 1, 1) := by decide +kernel
theorem dX12_comesTo_51 : decode cX12_comesTo 51 = .ok (.iand, 1) := by decide +kernel
theorem dX12_comesTo_52 : decode cX12_comesTo 52 = .ok (.ior, 1) := by decide +kernel
theorem dX12_comesTo_53 : decode cX12_comesTo 53 = .ok (.istore_n 2, 1) := by decide +kernel
theorem dX12_comesTo_54 : decode cX12_comesTo 54 = .ok (.iinc 4 1, 3) := by decide +kernel
theorem dX12_comesTo_57 : decode cX12_comesTo 57 = .ok (.goto (-36), 3) := by decide +kernel
theorem dX12_comesTo_60 : decode cX12_comesTo 60 = .ok (.goto (-49), 3) := by decide +kernel
theorem dX12_comesTo_63 : decode cX12_comesTo 63 = .ok (.iload_n 2, 1) := by decide +kernel
theorem dX12_comesTo_64 : decode cX12_comesTo 64 = .ok (.ireturn, 1) := by decide +kernel
theorem dX12_hasClimb_0 : decode cX12_hasClimb 0 = .ok (.aload_n 0, 1) := by decide +kernel
theorem dX12_hasClimb_1 : decode cX12_hasClimb 1 = .ok (.iload_n 1, 1) := by decide +kernel
theorem dX12_hasClimb_2 : decode cX12_hasClimb 2 = .ok (.invokevirtual 254, 3) := by decide +kernel
theorem dX12_hasClimb_5 : decode cX12_hasClimb 5 = .ok (.aload_n 0, 1) := by decide +kernel
theorem dX12_hasClimb_6 : decode cX12_hasClimb 6 = .ok (.getfield 13, 3) := by decide +kernel
theorem dX12_hasClimb_9 : decode cX12_hasClimb 9 = .ok (.iconst 5, 1) := by decide +kernel
theorem dX12_hasClimb_10 : decode cX12_hasClimb 10 = .ok (.iaload, 1) := by decide +kernel
theorem dX12_hasClimb_11 : decode cX12_hasClimb 11 = .ok (.iand, 1) := by decide +kernel
theorem dX12_hasClimb_12 : decode cX12_hasClimb 12 = .ok (.ifCond .eq 7, 3) := by decide +kernel
theorem dX12_hasClimb_15 : decode cX12_hasClimb 15 = .ok (.iconst 1, 1) := by decide +kernel
theorem dX12_hasClimb_16 : decode cX12_hasClimb 16 = .ok (.goto 4, 3) := by decide +kernel
theorem dX12_hasClimb_19 : decode cX12_hasClimb 19 = .ok (.iconst 0, 1) := by decide +kernel
theorem dX12_hasClimb_20 : decode cX12_hasClimb 20 = .ok (.ireturn, 1) := by decide +kernel
theorem dX12_laysGuide_0 : decode cX12_laysGuide 0 = .ok (.aload_n 0, 1) := by decide +kernel
theorem dX12_laysGuide_1 : decode cX12_laysGuide 1 = .ok (.iload_n 1, 1) := by decide +kernel
theorem dX12_laysGuide_2 : decode cX12_laysGuide 2 = .ok (.aload_n 0, 1) := by decide +kernel
theorem dX12_laysGuide_3 : decode cX12_laysGuide 3 = .ok (.getfield 13, 3) := by decide +kernel
theorem dX12_laysGuide_6 : decode cX12_laysGuide 6 = .ok (.bipush 49, 2) := by decide +kernel
theorem dX12_laysGuide_8 : decode cX12_laysGuide 8 = .ok (.iload_n 1, 1) := by decide +kernel
theorem dX12_laysGuide_9 : decode cX12_laysGuide 9 = .ok (.iadd, 1) := by decide +kernel
theorem dX12_laysGuide_10 : decode cX12_laysGuide 10 = .ok (.iaload, 1) := by decide +kernel
theorem dX12_laysGuide_11 : decode cX12_laysGuide 11 = .ok (.invokevirtual 250, 3) := by decide +kernel
theorem dX12_laysGuide_14 : decode cX12_laysGuide 14 = .ok (.return_, 1) := by decide +kernel
theorem dX12_laysSteps_0 : decode cX12_laysSteps 0 = .ok (.aload_n 0, 1) := by decide +kernel
theorem dX12_laysSteps_1 : decode cX12_laysSteps 1 = .ok (.iload_n 2, 1) := by decide +kernel
theorem dX12_laysSteps_2 : decode cX12_laysSteps 2 = .ok (.putfield 231, 3) := by decide +kernel
theorem dX12_laysSteps_5 : decode cX12_laysSteps 5 = .ok (.iconst 0, 1) := by decide +kernel
theorem dX12_laysSteps_6 : decode cX12_laysSteps 6 = .ok (.istore_n 3, 1) := by decide +kernel
theorem dX12_laysSteps_7 : decode cX12_laysSteps 7 = .ok (.iload_n 3, 1) := by decide +kernel
theorem dX12_laysSteps_8 : decode cX12_laysSteps 8 = .ok (.aload_n 0, 1) := by decide +kernel
theorem dX12_laysSteps_9 : decode cX12_laysSteps 9 = .ok (.getfield 13, 3) := by decide +kernel
theorem dX12_laysSteps_12 : decode cX12_laysSteps 12 = .ok (.iconst 1, 1) := by decide +kernel
theorem dX12_laysSteps_13 : decode cX12_laysSteps 13 = .ok (.iaload, 1) := by decide +kernel
theorem dX12_laysSteps_14 : decode cX12_laysSteps 14 = .ok (.if_icmp .ge 80, 3) := by decide +kernel
theorem dX12_laysSteps_17 : decode cX12_laysSteps 17 = .ok (.aload_n 0, 1) := by decide +kernel
theorem dX12_laysSteps_18 : decode cX12_laysSteps 18 = .ok (.getfield 33, 3) := by decide +kernel
theorem dX12_laysSteps_21 : decode cX12_laysSteps 21 = .ok (.iload_n 3, 1) := by decide +kernel
theorem dX12_laysSteps_22 : decode cX12_laysSteps 22 = .ok (.iconst 0, 1) := by decide +kernel
theorem dX12_laysSteps_23 : decode cX12_laysSteps 23 = .ok (.iastore, 1) := by decide +kernel
theorem dX12_laysSteps_24 : decode cX12_laysSteps 24 = .ok (.iconst 0, 1) := by decide +kernel
theorem dX12_laysSteps_25 : decode cX12_laysSteps 25 = .ok (.istore 4, 2) := by decide +kernel
theorem dX12_laysSteps_27 : decode cX12_laysSteps 27 = .ok (.iload 4, 2) := by decide +kernel
theorem dX12_laysSteps_29 : decode cX12_laysSteps 29 = .ok (.aload_n 0, 1) := by decide +kernel
theorem dX12_laysSteps_30 : decode cX12_laysSteps 30 = .ok (.getfield 13, 3) := by decide +kernel
theorem dX12_laysSteps_33 : decode cX12_laysSteps 33 = .ok (.iconst 1, 1) := by decide +kernel
theorem dX12_laysSteps_34 : decode cX12_laysSteps 34 = .ok (.iaload, 1) := by decide +kernel
theorem dX12_laysSteps_35 : decode cX12_laysSteps 35 = .ok (.if_icmp .ge 53, 3) := by decide +kernel
theorem dX12_laysSteps_38 : decode cX12_laysSteps 38 = .ok (.aload_n 0, 1) := by decide +kernel
theorem dX12_laysSteps_39 : decode cX12_laysSteps 39 = .ok (.getfield 13, 3) := by decide +kernel
theorem dX12_laysSteps_42 : decode cX12_laysSteps 42 = .ok (.iconst 5, 1) := by decide +kernel
theorem dX12_laysSteps_43 : decode cX12_laysSteps 43 = .ok (.iaload, 1) := by decide +kernel
theorem dX12_laysSteps_44 : decode cX12_laysSteps 44 = .ok (.i2l, 1) := by decide +kernel
theorem dX12_laysSteps_45 : decode cX12_laysSteps 45 = .ok (.iload_n 3, 1) := by decide +kernel
theorem dX12_laysSteps_46 : decode cX12_laysSteps 46 = .ok (.invokestatic 186, 3) := by decide +kernel
theorem dX12_laysSteps_49 : decode cX12_laysSteps 49 = .ok (.ifCond .ne 39, 3) := by decide +kernel
theorem dX12_laysSteps_52 : decode cX12_laysSteps 52 = .ok (.iload 4, 2) := by decide +kernel
theorem dX12_laysSteps_54 : decode cX12_laysSteps 54 = .ok (.iload_n 3, 1) := by decide +kernel
theorem dX12_laysSteps_55 : decode cX12_laysSteps 55 = .ok (.if_icmp .eq 27, 3) := by decide +kernel
theorem dX12_laysSteps_58 : decode cX12_laysSteps 58 = .ok (.aload_n 0, 1) := by decide +kernel
theorem dX12_laysSteps_59 : decode cX12_laysSteps 59 = .ok (.iload_n 1, 1) := by decide +kernel
theorem dX12_laysSteps_60 : decode cX12_laysSteps 60 = .ok (.iload_n 3, 1) := by decide +kernel
theorem dX12_laysSteps_61 : decode cX12_laysSteps 61 = .ok (.iload 4, 2) := by decide +kernel
theorem dX12_laysSteps_63 : decode cX12_laysSteps 63 = .ok (.invokevirtual 246, 3) := by decide +kernel
theorem dX12_laysSteps_66 : decode cX12_laysSteps 66 = .ok (.ifCond .eq 16, 3) := by decide +kernel
theorem dX12_laysSteps_69 : decode cX12_laysSteps 69 = .ok (.aload_n 0, 1) := by decide +kernel
theorem dX12_laysSteps_70 : decode cX12_laysSteps 70 = .ok (.getfield 33, 3) := by decide +kernel
theorem dX12_laysSteps_73 : decode cX12_laysSteps 73 = .ok (.iload_n 3, 1) := by decide +kernel
theorem dX12_laysSteps_74 : decode cX12_laysSteps 74 = .ok (.dup2, 1) := by decide +kernel
theorem dX12_laysSteps_75 : decode cX12_laysSteps 75 = .ok (.iaload, 1) := by decide +kernel
theorem dX12_laysSteps_76 : decode cX12_laysSteps 76 = .ok (.iconst 1, 1) := by decide +kernel
theorem dX12_laysSteps_77 : decode cX12_laysSteps 77 = .ok (.iload 4, 2) := by decide +kernel
theorem dX12_laysSteps_79 : decode cX12_laysSteps 79 = .ok (.ishl, 1) := by decide +kernel
theorem dX12_laysSteps_80 : decode cX12_laysSteps 80 = .ok (.ior, 1) := by decide +kernel
theorem dX12_laysSteps_81 : decode cX12_laysSteps 81 = .ok (.iastore, 1) := by decide +kernel
theorem dX12_laysSteps_82 : decode cX12_laysSteps 82 = .ok (.iinc 4 1, 3) := by decide +kernel
theorem dX12_laysSteps_85 : decode cX12_laysSteps 85 = .ok (.goto (-58), 3) := by decide +kernel
theorem dX12_laysSteps_88 : decode cX12_laysSteps 88 = .ok (.iinc 3 1, 3) := by decide +kernel
theorem dX12_laysSteps_91 : decode cX12_laysSteps 91 = .ok (.goto (-84), 3) := by decide +kernel
theorem dX12_laysSteps_94 : decode cX12_laysSteps 94 = .ok (.return_, 1) := by decide +kernel
theorem dX12_reach_0 : decode cX12_reach 0 = .ok (.aload_n 0, 1) := by decide +kernel
theorem dX12_reach_1 : decode cX12_reach 1 = .ok (.iconst 0, 1) := by decide +kernel
theorem dX12_reach_2 : decode cX12_reach 2 = .ok (.putfield 1, 3) := by decide +kernel
theorem dX12_reach_5 : decode cX12_reach 5 = .ok (.aload_n 0, 1) := by decide +kernel
theorem dX12_reach_6 : decode cX12_reach 6 = .ok (.iload_n 1, 1) := by decide +kernel
theorem dX12_reach_7 : decode cX12_reach 7 = .ok (.i2l, 1) := by decide +kernel
theorem dX12_reach_8 : decode cX12_reach 8 = .ok (.invokevirtual 222, 3) := by decide +kernel
theorem dX12_reach_11 : decode cX12_reach 11 = .ok (.ifCond .ne 6, 3) := by decide +kernel
theorem dX12_reach_14 : decode cX12_reach 14 = .ok (.bipush (-2), 2) := by decide +kernel
theorem dX12_reach_16 : decode cX12_reach 16 = .ok (.ireturn, 1) := by decide +kernel
theorem dX12_reach_17 : decode cX12_reach 17 = .ok (.aload_n 0, 1) := by decide +kernel
theorem dX12_reach_18 : decode cX12_reach 18 = .ok (.iload_n 1, 1) := by decide +kernel
theorem dX12_reach_19 : decode cX12_reach 19 = .ok (.invokevirtual 257, 3) := by decide +kernel
theorem dX12_reach_22 : decode cX12_reach 22 = .ok (.aload_n 0, 1) := by decide +kernel
theorem dX12_reach_23 : decode cX12_reach 23 = .ok (.aload_n 0, 1) := by decide +kernel
theorem dX12_reach_24 : decode cX12_reach 24 = .ok (.invokevirtual 260, 3) := by decide +kernel
theorem dX12_reach_27 : decode cX12_reach 27 = .ok (.invokevirtual 254, 3) := by decide +kernel
theorem dX12_reach_30 : decode cX12_reach 30 = .ok (.ireturn, 1) := by decide +kernel
theorem dX12_steps_0 : decode cX12_steps 0 = .ok (.aload_n 0, 1) := by decide +kernel
theorem dX12_steps_1 : decode cX12_steps 1 = .ok (.iconst 0, 1) := by decide +kernel
theorem dX12_steps_2 : decode cX12_steps 2 = .ok (.putfield 1, 3) := by decide +kernel
theorem dX12_steps_5 : decode cX12_steps 5 = .ok (.aload_n 0, 1) := by decide +kernel
theorem dX12_steps_6 : decode cX12_steps 6 = .ok (.iload_n 1, 1) := by decide +kernel
theorem dX12_steps_7 : decode cX12_steps 7 = .ok (.i2l, 1) := by decide +kernel
theorem dX12_steps_8 : decode cX12_steps 8 = .ok (.invokevirtual 222, 3) := by decide +kernel
theorem dX12_steps_11 : decode cX12_steps 11 = .ok (.ifCond .eq 26, 3) := by decide +kernel
theorem dX12_steps_14 : decode cX12_steps 14 = .ok (.aload_n 0, 1) := by decide +kernel
theorem dX12_steps_15 : decode cX12_steps 15 = .ok (.iload_n 2, 1) := by decide +kernel
theorem dX12_steps_16 : decode cX12_steps 16 = .ok (.i2l, 1) := by decide +kernel
theorem dX12_steps_17 : decode cX12_steps 17 = .ok (.invokevirtual 218, 3) := by decide +kernel
theorem dX12_steps_20 : decode cX12_steps 20 = .ok (.ifCond .eq 17, 3) := by decide +kernel
theorem dX12_steps_23 : decode cX12_steps 23 = .ok (.aload_n 0, 1) := by decide +kernel
theorem dX12_steps_24 : decode cX12_steps 24 = .ok (.iload_n 3, 1) := by decide +kernel
theorem dX12_steps_25 : decode cX12_steps 25 = .ok (.i2l, 1) := by decide +kernel
theorem dX12_steps_26 : decode cX12_steps 26 = .ok (.invokevirtual 218, 3) := by decide +kernel
theorem dX12_steps_29 : decode cX12_steps 29 = .ok (.ifCond .eq 8, 3) := by decide +kernel
theorem dX12_steps_32 : decode cX12_steps 32 = .ok (.iload_n 2, 1) := by decide +kernel
theorem dX12_steps_33 : decode cX12_steps 33 = .ok (.iload_n 3, 1) := by decide +kernel
theorem dX12_steps_34 : decode cX12_steps 34 = .ok (.if_icmp .ne 6, 3) := by decide +kernel
theorem dX12_steps_37 : decode cX12_steps 37 = .ok (.bipush (-2), 2) := by decide +kernel
theorem dX12_steps_39 : decode cX12_steps 39 = .ok (.ireturn, 1) := by decide +kernel
theorem dX12_steps_40 : decode cX12_steps 40 = .ok (.aload_n 0, 1) := by decide +kernel
theorem dX12_steps_41 : decode cX12_steps 41 = .ok (.aload_n 0, 1) := by decide +kernel
theorem dX12_steps_42 : decode cX12_steps 42 = .ok (.getfield 13, 3) := by decide +kernel
theorem dX12_steps_45 : decode cX12_steps 45 = .ok (.bipush 49, 2) := by decide +kernel
theorem dX12_steps_47 : decode cX12_steps 47 = .ok (.iload_n 1, 1) := by decide +kernel
theorem dX12_steps_48 : decode cX12_steps 48 = .ok (.iadd, 1) := by decide +kernel
theorem dX12_steps_49 : decode cX12_steps 49 = .ok (.iaload, 1) := by decide +kernel
theorem dX12_steps_50 : decode cX12_steps 50 = .ok (.putfield 231, 3) := by decide +kernel
theorem dX12_steps_53 : decode cX12_steps 53 = .ok (.aload_n 0, 1) := by decide +kernel
theorem dX12_steps_54 : decode cX12_steps 54 = .ok (.iload_n 1, 1) := by decide +kernel
theorem dX12_steps_55 : decode cX12_steps 55 = .ok (.iload_n 2, 1) := by decide +kernel
theorem dX12_steps_56 : decode cX12_steps 56 = .ok (.iload_n 3, 1) := by decide +kernel
theorem dX12_steps_57 : decode cX12_steps 57 = .ok (.invokevirtual 246, 3) := by decide +kernel
theorem dX12_steps_60 : decode cX12_steps 60 = .ok (.ifCond .eq 7, 3) := by decide +kernel
theorem dX12_steps_63 : decode cX12_steps 63 = .ok (.iconst 1, 1) := by decide +kernel
theorem dX12_steps_64 : decode cX12_steps 64 = .ok (.goto 4, 3) := by decide +kernel
theorem dX12_steps_67 : decode cX12_steps 67 = .ok (.iconst 0, 1) := by decide +kernel
theorem dX12_steps_68 : decode cX12_steps 68 = .ok (.ireturn, 1) := by decide +kernel
theorem kw_1240 : Cond.fieldLink "FootholdWallModel" 33 "FootholdWallModel" "onTo" "[I" ∈ gw := gw_of (tb_of 1240 (by decide +kernel)) (by decide +kernel)
theorem kw_1482 : Cond.methodLink "FootholdWallModel" 246 yX12_mayStep ∈ gw := gw_of (tb_of 1482 (by decide +kernel)) (by decide +kernel)
theorem kw_1484 : Cond.instanceMethod yX12_mayStep ∈ gw := gw_of (tb_of 1484 (by decide +kernel)) (by decide +kernel)
theorem kw_1485 : Cond.code yX12_mayStep cX12_mayStep 7 (some (.boolean)) ∈ gw := gw_of (tb_of 1485 (by decide +kernel)) (by decide +kernel)
theorem kw_1502 : Cond.methodLink "FootholdWallModel" 257 yX12_laysGuide ∈ gw := gw_of (tb_of 1502 (by decide +kernel)) (by decide +kernel)
theorem kw_1504 : Cond.instanceMethod yX12_laysGuide ∈ gw := gw_of (tb_of 1504 (by decide +kernel)) (by decide +kernel)
theorem kw_1505 : Cond.code yX12_laysGuide cX12_laysGuide 2 none ∈ gw := gw_of (tb_of 1505 (by decide +kernel)) (by decide +kernel)
theorem kw_1506 : Cond.methodLink "FootholdWallModel" 250 yX12_laysSteps ∈ gw := gw_of (tb_of 1506 (by decide +kernel)) (by decide +kernel)
theorem kw_1508 : Cond.instanceMethod yX12_laysSteps ∈ gw := gw_of (tb_of 1508 (by decide +kernel)) (by decide +kernel)
theorem kw_1509 : Cond.code yX12_laysSteps cX12_laysSteps 5 none ∈ gw := gw_of (tb_of 1509 (by decide +kernel)) (by decide +kernel)
theorem kw_1514 : Cond.methodLink "FootholdWallModel" 254 yX12_comesTo ∈ gw := gw_of (tb_of 1514 (by decide +kernel)) (by decide +kernel)
theorem kw_1516 : Cond.instanceMethod yX12_comesTo ∈ gw := gw_of (tb_of 1516 (by decide +kernel)) (by decide +kernel)
theorem kw_1517 : Cond.code yX12_comesTo cX12_comesTo 5 (some (.int)) ∈ gw := gw_of (tb_of 1517 (by decide +kernel)) (by decide +kernel)
theorem ks_69 : Cond.selects RX12 yX12_mayStep yX12_mayStep ∈ gw := gw_of (pv_of 69 (by decide +kernel)) (by decide +kernel)
theorem ks_71 : Cond.selects RX12 yX12_laysGuide yX12_laysGuide ∈ gw := gw_of (pv_of 71 (by decide +kernel)) (by decide +kernel)
theorem ks_72 : Cond.selects RX12 yX12_laysSteps yX12_laysSteps ∈ gw := gw_of (pv_of 72 (by decide +kernel)) (by decide +kernel)
theorem ks_74 : Cond.selects RX12 yX12_comesTo yX12_comesTo ∈ gw := gw_of (pv_of 74 (by decide +kernel)) (by decide +kernel)
set_option maxHeartbeats 4000000 in
set_option maxRecDepth 100000 in
theorem s_M_laysSteps (l : Launch) (D : va_G) (cs : CS) (kf : KF) (T : TF) (O : List Nat) (X : va_W) (a0 hg mq : Nat) (x1 : Int32) (x2 : Int32) (t_a0 : T a0 = some (22, hg, mq)) (b_hg : hg < 90) (l_x1 : 0 ≤ x1.toInt) (u_x1 : x1.toInt ≤ 4) (hO : okO T O [1, 8, 9, 22]) : TK l D cs kf yX12_laysSteps cX12_laysSteps 5 none { frames := 3, cells := 0, slots := 0, locals := 74 } [.ref a0, .int x1, .int x2] T O X (Tv D cs (fun u => u = (T, O, X))) := by
  refine tk_of (by decide) (Nat.le_of_ble_eq_true rfl) (fun p e s m below meth c ls A H locs hx hb hr hml hown hts hlocks hnm hkb hH hS hA hOX hks hE hl => ?_)
  have hown : s.vm.findClass RX12 = some m.cls := hown
  have hl : lv_has ls 5 [(0, .ref a0), (1, .int x1), (2, .int x2)] := hl
  refine lv_aload_n hx hb dX12_laysSteps_0 rfl (lv_at hl 0 rfl) ?_
  refine lv_iload_n hx hb dX12_laysSteps_1 rfl (lv_at hl 2 rfl) ?_
  refine t_put (ci := 12) (lst := ft12 hg mq) (v := .int x2) (ty := tyX12 16) (C := RX12) (F := TX12) (N := 36) hx hb hts uX12 tyX12 tyX12_ok nmX12 hown hkb hH hS t_a0 (hO.no t_a0 (by decide)) (fun _ => Iff.rfl) rfl rfl 16 (by decide) rfl (⟨_, rfl⟩) kw_1239 (fun _ h9 => h9) rfl (tyX12_ok 16 (by decide)) rfl rfl dX12_laysSteps_2 (fun H locs hH hS => ?_)
  refine lv_iconst (v := 0) hx hb dX12_laysSteps_5 (by decide) ?_
  have J7 : ∀ (n : Nat) (p7_3 : Int32) (H : Heap) (locs : List Loc) (ls : Array Slot), (14 - p7_3.toInt).toNat = n → (0 ≤ p7_3.toInt) → (p7_3.toInt ≤ 14) → HT D cs A T O X H → va_S A s.heap H locs → lv_has ls 5 [(3, .int p7_3), (0, .ref a0), (1, .int x1)] → W p l e { frames := 3, cells := 0, slots := 0, locals := 74 } s m [.ref a0, .int x1, .int x2].toArray below meth c H locs 0 0 (MQ below (Tv D cs (fun u => u = (T, O, X)) A) [.ref a0, .int x1, .int x2].toArray s 0 0 A) (F0 m 7 ls []) := by
    intro n
    induction n using Nat.strongRecOn with
    | _ n ih7 =>
      intro p7_3 H locs ls hm7 l_p7_3 u_p7_3 hH hS hl
      refine lv_iload_n hx hb dX12_laysSteps_7 rfl (lv_at hl 0 rfl) ?_
      refine lv_aload_n hx hb dX12_laysSteps_8 rfl (lv_at hl 1 rfl) ?_
      refine t_get (ci := 12) (lst := ft12 hg mq) (C := RX12) (F := TX12) (N := 36) hx hb hts uX12 hown hkb hH t_a0 (hO.no t_a0 (by decide)) (fun _ h9 => h9) rfl rfl 1 (by decide) rfl kw_1224 (fun _ h9 => h9) dX12_laysSteps_9 (fun v9 h9 => ?_)
      obtain ⟨v9, rfl, t_v9⟩ := h9
      refine lv_iconst (v := 1) hx hb dX12_laysSteps_12 (by decide) ?_
      refine t_ild8 hx hb hkb hH t_v9 (hO.no t_v9 (by decide)) (by decide) (by decide) (by decide) dX12_laysSteps_13 (fun v13 h9 h8 => ?_)
      have q9 := (h8 rfl).1 rfl
      subst q9
      have eH9 : (nI (hg / 6)).toInt = (((hg / 6) : Nat) : Int) := nI_toInt (by omega)
      refine lv_icmp_ge (tgt := 94) hx hb dX12_laysSteps_14 (by decide) (fun c14 => ?_) (fun c14 => ?_)
      · skip
        have fuc14 := full_i p7_3
        have fvc14 := full_i (nI (hg / 6))
        have tc14 := g_le c14
        exact te_v hx hb hr hlocks hH hS rfl dX12_laysSteps_94
      · skip
        have fuc14 := full_i p7_3
        have fvc14 := full_i (nI (hg / 6))
        have tc14 := g_nle c14
        refine lv_aload_n hx hb dX12_laysSteps_17 rfl (lv_at hl 1 rfl) ?_
        refine t_get (ci := 12) (lst := ft12 hg mq) (C := RX12) (F := TX12) (N := 36) hx hb hts uX12 hown hkb hH t_a0 (hO.no t_a0 (by decide)) (fun _ h9 => h9) rfl rfl 17 (by decide) rfl kw_1240 (fun _ h9 => h9) dX12_laysSteps_18 (fun v9 h9 => ?_)
        obtain ⟨v18, rfl, t_v18⟩ := h9
        refine lv_iload_n hx hb dX12_laysSteps_21 rfl (lv_at hl 0 rfl) ?_
        refine lv_iconst (v := 0) hx hb dX12_laysSteps_22 (by decide) ?_
        refine t_ist9 hx hb hkb hH hS t_v18 (hO.no9 t_v18 (by decide)) (by omega) (by omega) (show 0 ≤ (0 : Int32).toInt ∧ (0 : Int32).toInt ≤ 16383 from by decide) dX12_laysSteps_23 (fun H locs hH hS => ?_)
        refine lv_iconst (v := 0) hx hb dX12_laysSteps_24 (by decide) ?_
        have J27 : ∀ (n : Nat) (p27_4 : Int32) (H : Heap) (locs : List Loc) (ls : Array Slot), (14 - p27_4.toInt).toNat = n → (0 ≤ p27_4.toInt) → (p27_4.toInt ≤ 14) → HT D cs A T O X H → va_S A s.heap H locs → lv_has ls 5 [(4, .int p27_4), (3, .int p7_3), (0, .ref a0), (1, .int x1)] → W p l e { frames := 3, cells := 0, slots := 0, locals := 74 } s m [.ref a0, .int x1, .int x2].toArray below meth c H locs 0 0 (MQ below (Tv D cs (fun u => u = (T, O, X)) A) [.ref a0, .int x1, .int x2].toArray s 0 0 A) (F0 m 27 ls []) := by
          intro n
          induction n using Nat.strongRecOn with
          | _ n ih27 =>
            intro p27_4 H locs ls hm27 l_p27_4 u_p27_4 hH hS hl
            refine lv_iload hx hb dX12_laysSteps_27 (lv_at hl 0 rfl) ?_
            refine lv_aload_n hx hb dX12_laysSteps_29 rfl (lv_at hl 2 rfl) ?_
            refine t_get (ci := 12) (lst := ft12 hg mq) (C := RX12) (F := TX12) (N := 36) hx hb hts uX12 hown hkb hH t_a0 (hO.no t_a0 (by decide)) (fun _ h9 => h9) rfl rfl 1 (by decide) rfl kw_1224 (fun _ h9 => h9) dX12_laysSteps_30 (fun v9 h9 => ?_)
            obtain ⟨v30, rfl, t_v30⟩ := h9
            refine lv_iconst (v := 1) hx hb dX12_laysSteps_33 (by decide) ?_
            refine t_ild8 hx hb hkb hH t_v30 (hO.no t_v30 (by decide)) (by decide) (by decide) (by decide) dX12_laysSteps_34 (fun v34 h9 h8 => ?_)
            have q9 := (h8 rfl).1 rfl
            subst q9
            have eH9 : (nI (hg / 6)).toInt = (((hg / 6) : Nat) : Int) := nI_toInt (by omega)
            have J88 : ∀  (H : Heap) (locs : List Loc) (ls : Array Slot), HT D cs A T O X H → va_S A s.heap H locs → lv_has ls 5 [(3, .int p7_3), (0, .ref a0), (1, .int x1)] → W p l e { frames := 3, cells := 0, slots := 0, locals := 74 } s m [.ref a0, .int x1, .int x2].toArray below meth c H locs 0 0 (MQ below (Tv D cs (fun u => u = (T, O, X)) A) [.ref a0, .int x1, .int x2].toArray s 0 0 A) (F0 m 88 ls []) := by
              intro  H locs ls  hH hS hl
              obtain ⟨v88, ev88⟩ : ∃ y : Int32, y = p7_3 + 1 := ⟨_, rfl⟩
              have tv88 : v88.toInt = p7_3.toInt + (1) := by rw [ev88]; exact add_i rfl (by decide) (by omega) (by omega)
              refine lv_iinc (v := v88) (lv' := [(3, .int v88), (0, .ref a0), (1, .int x1)]) hx hb dX12_laysSteps_88 hl (k := 0) rfl (by rw [ev88]; rfl) (by decide) rfl (fun ls hl => ?_)
              refine lv_goto (tgt := 7) hx hb dX12_laysSteps_91 (by decide) ?_
              exact ih7 _ (by omega) v88 _ _ _ rfl (by omega) (by omega) hH hS (lv_sub hl [0, 1, 2] rfl)
            refine lv_icmp_ge (tgt := 88) hx hb dX12_laysSteps_35 (by decide) (fun c35 => ?_) (fun c35 => ?_)
            · skip
              have fuc35 := full_i p27_4
              have fvc35 := full_i (nI (hg / 6))
              have tc35 := g_le c35
              exact J88  _ _ _  hH hS (lv_sub hl [1, 2, 3] rfl)
            · skip
              have fuc35 := full_i p27_4
              have fvc35 := full_i (nI (hg / 6))
              have tc35 := g_nle c35
              refine lv_aload_n hx hb dX12_laysSteps_38 rfl (lv_at hl 2 rfl) ?_
              refine t_get (ci := 12) (lst := ft12 hg mq) (C := RX12) (F := TX12) (N := 36) hx hb hts uX12 hown hkb hH t_a0 (hO.no t_a0 (by decide)) (fun _ h9 => h9) rfl rfl 1 (by decide) rfl kw_1224 (fun _ h9 => h9) dX12_laysSteps_39 (fun v9 h9 => ?_)
              obtain ⟨v39, rfl, t_v39⟩ := h9
              refine lv_iconst (v := 5) hx hb dX12_laysSteps_42 (by decide) ?_
              refine t_ild8 hx hb hkb hH t_v39 (hO.no t_v39 (by decide)) (by decide) (by decide) (by decide) dX12_laysSteps_43 (fun v43 h9 h8 => ?_)
              have tv43 : 0 ≤ v43.toInt ∧ v43.toInt ≤ 16383 := h9.2.2.2.1 (by decide)
              refine lv_i2l hx hb dX12_laysSteps_44 rfl ?_
              refine lv_iload_n hx hb dX12_laysSteps_45 rfl (lv_at hl 1 rfl) ?_
              refine tk_i hH hS hA (tr_S (n := 2) (As := [.long v43.toInt64, .int p7_3]) hx hb hml hown hts hkb hH hOX hks hE hS hA (s_M_isIn2 l D cs kf T O X v43.toInt64 p7_3  (hO.sub (by decide))) kw_1440 kw_1441 kw_13 kw_1442 (by decide +kernel) ⟨Nat.le_of_ble_eq_true rfl, Nat.le_of_ble_eq_true rfl⟩ rfl rfl hl.1 (Nat.le_of_ble_eq_true rfl) dX12_laysSteps_46 ⟨Nat.le_of_ble_eq_true rfl, Nat.le_of_ble_eq_true rfl⟩) (fun v46 u H locs hz9 hH hS => ?_)
              obtain ⟨rfl, l_v46, u_v46, x_v460⟩ := hz9
              have hH : HT D cs A T O X H := hH
              refine W.widen (k := 0) (n := 0) (Nat.le_of_ble_eq_true rfl) (Nat.le_of_ble_eq_true rfl) ?_
              refine lv_if_ne (tgt := 88) hx hb dX12_laysSteps_49 (by decide) (fun c49 => ?_) (fun c49 => ?_)
              · skip
                have tc49 := f_ne (k := 0) (by decide) c49
                exact J88  _ _ _  hH hS (lv_sub hl [1, 2, 3] rfl)
              · skip
                have tc49 := f_eq (k := 0) (by decide) c49
                refine lv_iload hx hb dX12_laysSteps_52 (lv_at hl 0 rfl) ?_
                refine lv_iload_n hx hb dX12_laysSteps_54 rfl (lv_at hl 1 rfl) ?_
                have J82 : ∀  (H : Heap) (locs : List Loc) (ls : Array Slot), HT D cs A T O X H → va_S A s.heap H locs → lv_has ls 5 [(4, .int p27_4), (3, .int p7_3), (0, .ref a0), (1, .int x1)] → W p l e { frames := 3, cells := 0, slots := 0, locals := 74 } s m [.ref a0, .int x1, .int x2].toArray below meth c H locs 0 0 (MQ below (Tv D cs (fun u => u = (T, O, X)) A) [.ref a0, .int x1, .int x2].toArray s 0 0 A) (F0 m 82 ls []) := by
                  intro  H locs ls  hH hS hl
                  obtain ⟨v82, ev82⟩ : ∃ y : Int32, y = p27_4 + 1 := ⟨_, rfl⟩
                  have tv82 : v82.toInt = p27_4.toInt + (1) := by rw [ev82]; exact add_i rfl (by decide) (by omega) (by omega)
                  refine lv_iinc (v := v82) (lv' := [(4, .int v82), (3, .int p7_3), (0, .ref a0), (1, .int x1)]) hx hb dX12_laysSteps_82 hl (k := 0) rfl (by rw [ev82]; rfl) (by decide) rfl (fun ls hl => ?_)
                  refine lv_goto (tgt := 27) hx hb dX12_laysSteps_85 (by decide) ?_
                  exact ih27 _ (by omega) v82 _ _ _ rfl (by omega) (by omega) hH hS (lv_sub hl [0, 1, 2, 3] rfl)
                refine lv_icmp_eq (tgt := 82) hx hb dX12_laysSteps_55 (by decide) (fun c55 => ?_) (fun c55 => ?_)
                · skip
                  have fuc55 := full_i p27_4
                  have fvc55 := full_i p7_3
                  have tc55 := g_eq c55
                  exact J82  _ _ _  hH hS (lv_sub hl [0, 1, 2, 3] rfl)
                · skip
                  have fuc55 := full_i p27_4
                  have fvc55 := full_i p7_3
                  have tc55 := g_ne c55
                  refine lv_aload_n hx hb dX12_laysSteps_58 rfl (lv_at hl 2 rfl) ?_
                  refine lv_iload_n hx hb dX12_laysSteps_59 rfl (lv_at hl 3 rfl) ?_
                  refine lv_iload_n hx hb dX12_laysSteps_60 rfl (lv_at hl 1 rfl) ?_
                  refine lv_iload hx hb dX12_laysSteps_61 (lv_at hl 0 rfl) ?_
                  refine tk_i hH hS hA (tr_V (n := 3) (As := [.int x1, .int p7_3, .int p27_4]) hx hb hml hown hts hkb hH hOX hks hE hS hA (s_M_mayStep l D cs kf T O X a0 hg mq x1 p7_3 p27_4 t_a0 b_hg (by omega) (by omega) (by omega) (by omega) (by omega) (by omega) (hO.sub (by decide))) kw_1482 kw_1484 ks_69 kw_13 kw_1485 (by decide +kernel) ⟨Nat.le_of_ble_eq_true rfl, Nat.le_of_ble_eq_true rfl⟩ (HT.recv (ci := 12) hkb hH t_a0 (hO.no t_a0 (by decide)) rfl) rfl rfl hl.1 (Nat.le_of_ble_eq_true rfl) dX12_laysSteps_63 ⟨Nat.le_of_ble_eq_true rfl, Nat.le_of_ble_eq_true rfl⟩) (fun v63 u H locs hz9 hH hS => ?_)
                  obtain ⟨rfl, l_v63, u_v63⟩ := hz9
                  have hH : HT D cs A T O X H := hH
                  refine W.widen (k := 0) (n := 0) (Nat.le_of_ble_eq_true rfl) (Nat.le_of_ble_eq_true rfl) ?_
                  refine lv_if_eq (tgt := 82) hx hb dX12_laysSteps_66 (by decide) (fun c66 => ?_) (fun c66 => ?_)
                  · skip
                    have tc66 := f_eq (k := 0) (by decide) c66
                    exact J82  _ _ _  hH hS (lv_sub hl [0, 1, 2, 3] rfl)
                  · skip
                    have tc66 := f_ne (k := 0) (by decide) c66
                    refine lv_aload_n hx hb dX12_laysSteps_69 rfl (lv_at hl 2 rfl) ?_
                    refine t_get (ci := 12) (lst := ft12 hg mq) (C := RX12) (F := TX12) (N := 36) hx hb hts uX12 hown hkb hH t_a0 (hO.no t_a0 (by decide)) (fun _ h9 => h9) rfl rfl 17 (by decide) rfl kw_1240 (fun _ h9 => h9) dX12_laysSteps_70 (fun v9 h9 => ?_)
                    obtain ⟨v70, rfl, t_v70⟩ := h9
                    refine lv_iload_n hx hb dX12_laysSteps_73 rfl (lv_at hl 1 rfl) ?_
                    refine lv_dup2_11 hx hb dX12_laysSteps_74 rfl rfl ?_
                    refine t_ild9 hx hb hkb hH t_v70 (hO.no9 t_v70 (by decide)) (by omega) (by omega) dX12_laysSteps_75 (fun v75 h9 => ?_)
                    have tv75 : 0 ≤ v75.toInt ∧ v75.toInt ≤ 16383 := h9
                    refine lv_iconst (v := 1) hx hb dX12_laysSteps_76 (by decide) ?_
                    refine lv_iload hx hb dX12_laysSteps_77 (lv_at hl 0 rfl) ?_
                    refine lv_ishl hx hb dX12_laysSteps_79 ?_
                    refine lv_topi (fun v79 ev79 => ?_)
                    have tv79 : 1 ≤ v79.toInt ∧ v79.toInt ≤ 8192 := by rw [ev79]; exact shl_b 13 (by decide) (by omega) (by omega)
                    refine lv_ior hx hb dX12_laysSteps_80 ?_
                    refine lv_topi (fun v80 ev80 => ?_)
                    have tv80 : 0 ≤ v80.toInt ∧ v80.toInt < 16384 := by rw [ev80]; exact or_b 14 (by decide) (by omega) (by omega) (by omega) (by omega)
                    refine t_ist9 hx hb hkb hH hS t_v70 (hO.no9 t_v70 (by decide)) (by omega) (by omega) (show 0 ≤ v80.toInt ∧ v80.toInt ≤ 16383 from by omega) dX12_laysSteps_81 (fun H locs hH hS => ?_)
                    exact J82  _ _ _  hH hS (lv_sub hl [0, 1, 2, 3] rfl)
        refine lv_istore (lv' := [(4, .int 0), (3, .int p7_3), (0, .ref a0), (1, .int x1)]) hx hb dX12_laysSteps_25 hl (by decide) rfl (fun ls hl => ?_)
        exact J27 _ 0 _ _ _ rfl (by decide) (by decide) hH hS (lv_sub hl [0, 1, 2, 3] rfl)
  refine lv_istore_n (lv' := [(3, .int 0), (0, .ref a0), (1, .int x1), (2, .int x2)]) hx hb dX12_laysSteps_6 rfl hl (by decide) rfl (fun ls hl => ?_)
  exact J7 _ 0 _ _ _ rfl (by decide) (by decide) hH hS (lv_sub hl [0, 1, 2] rfl)
set_option maxHeartbeats 4000000 in
set_option maxRecDepth 100000 in
theorem s_M_laysGuide (l : Launch) (D : va_G) (cs : CS) (kf : KF) (T : TF) (O : List Nat) (X : va_W) (a0 hg mq : Nat) (x1 : Int32) (t_a0 : T a0 = some (22, hg, mq)) (b_hg : hg < 90) (l_x1 : 0 ≤ x1.toInt) (u_x1 : x1.toInt ≤ 4) (hO : okO T O [1, 8, 9, 22]) : TK l D cs kf yX12_laysGuide cX12_laysGuide 2 none { frames := 4, cells := 0, slots := 0, locals := 98 } [.ref a0, .int x1] T O X (Tv D cs (fun u => u = (T, O, X))) := by
  refine tk_of (by decide) (Nat.le_of_ble_eq_true rfl) (fun p e s m below meth c ls A H locs hx hb hr hml hown hts hlocks hnm hkb hH hS hA hOX hks hE hl => ?_)
  have hown : s.vm.findClass RX12 = some m.cls := hown
  have hl : lv_has ls 2 [(0, .ref a0), (1, .int x1)] := hl
  refine lv_aload_n hx hb dX12_laysGuide_0 rfl (lv_at hl 0 rfl) ?_
  refine lv_iload_n hx hb dX12_laysGuide_1 rfl (lv_at hl 1 rfl) ?_
  refine lv_aload_n hx hb dX12_laysGuide_2 rfl (lv_at hl 0 rfl) ?_
  refine t_get (ci := 12) (lst := ft12 hg mq) (C := RX12) (F := TX12) (N := 36) hx hb hts uX12 hown hkb hH t_a0 (hO.no t_a0 (by decide)) (fun _ h9 => h9) rfl rfl 1 (by decide) rfl kw_1224 (fun _ h9 => h9) dX12_laysGuide_3 (fun v9 h9 => ?_)
  obtain ⟨v3, rfl, t_v3⟩ := h9
  refine lv_bipush (v := 49) hx hb dX12_laysGuide_6 (by decide) ?_
  refine lv_iload_n hx hb dX12_laysGuide_8 rfl (lv_at hl 1 rfl) ?_
  refine lv_iadd hx hb dX12_laysGuide_9 ?_
  refine lv_topi (fun v9 ev9 => ?_)
  have tv9 : v9.toInt = (49) + x1.toInt := by rw [ev9]; exact add_i (by decide : (49 : Int32).toInt = 49) rfl (by omega) (by omega)
  refine t_ild8 hx hb hkb hH t_v3 (hO.no t_v3 (by decide)) (by decide) (by omega) (by omega) dX12_laysGuide_10 (fun v10 h9 h8 => ?_)
  refine tk_v hH hS hA (tr_V (n := 2) (As := [.int x1, .int v10]) hx hb hml hown hts hkb hH hOX hks hE hS hA (s_M_laysSteps l D cs kf T O X a0 hg mq x1 v10 t_a0 b_hg (by omega) (by omega) (hO.sub (by decide))) kw_1506 kw_1508 ks_72 kw_13 kw_1509 (by decide +kernel) ⟨Nat.le_of_ble_eq_true rfl, Nat.le_of_ble_eq_true rfl⟩ (HT.recv (ci := 12) hkb hH t_a0 (hO.no t_a0 (by decide)) rfl) rfl rfl hl.1 (Nat.le_of_ble_eq_true rfl) dX12_laysGuide_11 ⟨Nat.le_of_ble_eq_true rfl, Nat.le_of_ble_eq_true rfl⟩) (fun u H locs hz9 hH hS => ?_)
  have hz9 : u = (T, O, X) := hz9
  subst hz9
  have hH : HT D cs A T O X H := hH
  refine W.widen (k := 0) (n := 0) (Nat.le_of_ble_eq_true rfl) (Nat.le_of_ble_eq_true rfl) ?_
  exact te_v hx hb hr hlocks hH hS rfl dX12_laysGuide_14
set_option maxHeartbeats 4000000 in
set_option maxRecDepth 100000 in
theorem s_M_comesTo (l : Launch) (D : va_G) (cs : CS) (kf : KF) (T : TF) (O : List Nat) (X : va_W) (a0 hg mq : Nat) (x1 : Int32) (t_a0 : T a0 = some (22, hg, mq)) (b_hg : hg < 90) (hO : okO T O [8, 9, 22]) : TK l D cs kf yX12_comesTo cX12_comesTo 5 (some (.int)) { frames := 1, cells := 0, slots := 0, locals := 22 } [.ref a0, .int x1] T O X (Ti D cs (fun r u => u = (T, O, X) ∧ 0 ≤ r.toInt ∧ r.toInt ≤ 16383)) := by
  refine tk_of (by decide) (Nat.le_of_ble_eq_true rfl) (fun p e s m below meth c ls A H locs hx hb hr hml hown hts hlocks hnm hkb hH hS hA hOX hks hE hl => ?_)
  have hown : s.vm.findClass RX12 = some m.cls := hown
  have hl : lv_has ls 5 [(0, .ref a0), (1, .int x1)] := hl
  refine lv_iload_n hx hb dX12_comesTo_0 rfl (lv_at hl 1 rfl) ?_
  refine lv_aload_n hx hb dX12_comesTo_1 rfl (lv_at hl 0 rfl) ?_
  refine t_get (ci := 12) (lst := ft12 hg mq) (C := RX12) (F := TX12) (N := 36) hx hb hts uX12 hown hkb hH t_a0 (hO.no t_a0 (by decide)) (fun _ h9 => h9) rfl rfl 1 (by decide) rfl kw_1224 (fun _ h9 => h9) dX12_comesTo_2 (fun v9 h9 => ?_)
  obtain ⟨v2, rfl, t_v2⟩ := h9
  refine lv_iconst (v := 4) hx hb dX12_comesTo_5 (by decide) ?_
  refine t_ild8 hx hb hkb hH t_v2 (hO.no t_v2 (by decide)) (by decide) (by decide) (by decide) dX12_comesTo_6 (fun v6 h9 h8 => ?_)
  have tv6 : 0 ≤ v6.toInt ∧ v6.toInt ≤ 16383 := h9.2.2.1 (by decide)
  refine lv_iand hx hb dX12_comesTo_7 ?_
  refine lv_topi (fun v7 ev7 => ?_)
  have tv7 : 0 ≤ v7.toInt ∧ v7.toInt ≤ v6.toInt := by rw [ev7]; exact and_r (by omega)
  refine lv_istore_n (lv' := [(2, .int v7), (0, .ref a0), (1, .int x1)]) hx hb dX12_comesTo_8 rfl hl (by decide) rfl (fun ls hl => ?_)
  refine lv_iconst (v := 0) hx hb dX12_comesTo_9 (by decide) ?_
  have J11 : ∀ (n : Nat) (p11_3 : Int32) (p11_2 : Int32) (H : Heap) (locs : List Loc) (ls : Array Slot), (16384 - p11_3.toInt).toNat = n → (0 ≤ p11_3.toInt) → (p11_3.toInt ≤ 16383) → (0 ≤ p11_2.toInt) → (p11_2.toInt ≤ 16383) → (p11_3.toInt ≤ p11_2.toInt ∧ 0 ≤ p11_3.toInt) → HT D cs A T O X H → va_S A s.heap H locs → lv_has ls 5 [(3, .int p11_3), (2, .int p11_2), (0, .ref a0), (1, .int x1)] → W p l e { frames := 1, cells := 0, slots := 0, locals := 22 } s m [.ref a0, .int x1].toArray below meth c H locs 0 0 (MQ below (Ti D cs (fun r u => u = (T, O, X) ∧ 0 ≤ r.toInt ∧ r.toInt ≤ 16383) A) [.ref a0, .int x1].toArray s 0 0 A) (F0 m 11 ls []) := by
    intro n
    induction n using Nat.strongRecOn with
    | _ n ih11 =>
      intro p11_3 p11_2 H locs ls hm11 l_p11_3 u_p11_3 l_p11_2 u_p11_2 i11 hH hS hl
      refine lv_iload_n hx hb dX12_comesTo_11 rfl (lv_at hl 0 rfl) ?_
      refine lv_iload_n hx hb dX12_comesTo_12 rfl (lv_at hl 1 rfl) ?_
      refine lv_icmp_eq (tgt := 63) hx hb dX12_comesTo_13 (by decide) (fun c13 => ?_) (fun c13 => ?_)
      · skip
        have fuc13 := full_i p11_3
        have fvc13 := full_i p11_2
        have tc13 := g_eq c13
        refine lv_iload_n hx hb dX12_comesTo_63 rfl (lv_at hl 1 rfl) ?_
        exact te_i hx hb hr hlocks hH hS (⟨rfl, by omega, by omega⟩) dX12_comesTo_64
      · skip
        have fuc13 := full_i p11_3
        have fvc13 := full_i p11_2
        have tc13 := g_ne c13
        refine lv_iload_n hx hb dX12_comesTo_16 rfl (lv_at hl 1 rfl) ?_
        refine lv_istore_n (lv' := [(3, .int p11_2), (2, .int p11_2), (0, .ref a0), (1, .int x1)]) hx hb dX12_comesTo_17 rfl hl (by decide) rfl (fun ls hl => ?_)
        refine lv_iconst (v := 0) hx hb dX12_comesTo_18 (by decide) ?_
        have J21 : ∀ (n : Nat) (p21_4 : Int32) (p21_2 : Int32) (H : Heap) (locs : List Loc) (ls : Array Slot), (14 - p21_4.toInt).toNat = n → (0 ≤ p21_4.toInt) → (p21_4.toInt ≤ 14) → (0 ≤ p21_2.toInt) → (p21_2.toInt ≤ 16383) → (p11_2.toInt ≤ p21_2.toInt) → HT D cs A T O X H → va_S A s.heap H locs → lv_has ls 5 [(4, .int p21_4), (3, .int p11_2), (2, .int p21_2), (0, .ref a0), (1, .int x1)] → W p l e { frames := 1, cells := 0, slots := 0, locals := 22 } s m [.ref a0, .int x1].toArray below meth c H locs 0 0 (MQ below (Ti D cs (fun r u => u = (T, O, X) ∧ 0 ≤ r.toInt ∧ r.toInt ≤ 16383) A) [.ref a0, .int x1].toArray s 0 0 A) (F0 m 21 ls []) := by
          intro n
          induction n using Nat.strongRecOn with
          | _ n ih21 =>
            intro p21_4 p21_2 H locs ls hm21 l_p21_4 u_p21_4 l_p21_2 u_p21_2 i21 hH hS hl
            refine lv_iload hx hb dX12_comesTo_21 (lv_at hl 0 rfl) ?_
            refine lv_aload_n hx hb dX12_comesTo_23 rfl (lv_at hl 3 rfl) ?_
            refine t_get (ci := 12) (lst := ft12 hg mq) (C := RX12) (F := TX12) (N := 36) hx hb hts uX12 hown hkb hH t_a0 (hO.no t_a0 (by decide)) (fun _ h9 => h9) rfl rfl 1 (by decide) rfl kw_1224 (fun _ h9 => h9) dX12_comesTo_24 (fun v9 h9 => ?_)
            obtain ⟨v24, rfl, t_v24⟩ := h9
            refine lv_iconst (v := 1) hx hb dX12_comesTo_27 (by decide) ?_
            refine t_ild8 hx hb hkb hH t_v24 (hO.no t_v24 (by decide)) (by decide) (by decide) (by decide) dX12_comesTo_28 (fun v28 h9 h8 => ?_)
            have q9 := (h8 rfl).1 rfl
            subst q9
            have eH9 : (nI (hg / 6)).toInt = (((hg / 6) : Nat) : Int) := nI_toInt (by omega)
            refine lv_icmp_ge (tgt := 60) hx hb dX12_comesTo_29 (by decide) (fun c29 => ?_) (fun c29 => ?_)
            · skip
              have fuc29 := full_i p21_4
              have fvc29 := full_i (nI (hg / 6))
              have tc29 := g_le c29
              refine lv_goto (tgt := 11) hx hb dX12_comesTo_60 (by decide) ?_
              exact ih11 _ (by omega) p11_2 p21_2 _ _ _ rfl (by omega) (by omega) (by omega) (by omega) (by omega) hH hS (lv_sub hl [1, 2, 3, 4] rfl)
            · skip
              have fuc29 := full_i p21_4
              have fvc29 := full_i (nI (hg / 6))
              have tc29 := g_nle c29
              refine lv_iload_n hx hb dX12_comesTo_32 rfl (lv_at hl 1 rfl) ?_
              refine lv_i2l hx hb dX12_comesTo_33 rfl ?_
              refine lv_iload hx hb dX12_comesTo_34 (lv_at hl 0 rfl) ?_
              refine tk_i hH hS hA (tr_S (n := 2) (As := [.long p11_2.toInt64, .int p21_4]) hx hb hml hown hts hkb hH hOX hks hE hS hA (s_M_isIn2 l D cs kf T O X p11_2.toInt64 p21_4  (hO.sub (by decide))) kw_1440 kw_1441 kw_13 kw_1442 (by decide +kernel) ⟨Nat.le_of_ble_eq_true rfl, Nat.le_of_ble_eq_true rfl⟩ rfl rfl hl.1 (Nat.le_of_ble_eq_true rfl) dX12_comesTo_36 ⟨Nat.le_of_ble_eq_true rfl, Nat.le_of_ble_eq_true rfl⟩) (fun v36 u H locs hz9 hH hS => ?_)
              obtain ⟨rfl, l_v36, u_v36, x_v360⟩ := hz9
              have hH : HT D cs A T O X H := hH
              refine W.widen (k := 0) (n := 0) (Nat.le_of_ble_eq_true rfl) (Nat.le_of_ble_eq_true rfl) ?_
              refine lv_if_eq (tgt := 54) hx hb dX12_comesTo_39 (by decide) (fun c39 => ?_) (fun c39 => ?_)
              · skip
                have tc39 := f_eq (k := 0) (by decide) c39
                obtain ⟨v54, ev54⟩ : ∃ y : Int32, y = p21_4 + 1 := ⟨_, rfl⟩
                have tv54 : v54.toInt = p21_4.toInt + (1) := by rw [ev54]; exact add_i rfl (by decide) (by omega) (by omega)
                refine lv_iinc (v := v54) (lv' := [(4, .int v54), (3, .int p11_2), (2, .int p21_2), (0, .ref a0), (1, .int x1)]) hx hb dX12_comesTo_54 hl (k := 0) rfl (by rw [ev54]; rfl) (by decide) rfl (fun ls hl => ?_)
                refine lv_goto (tgt := 21) hx hb dX12_comesTo_57 (by decide) ?_
                exact ih21 _ (by omega) v54 p21_2 _ _ _ rfl (by omega) (by omega) (by omega) (by omega) (by omega) hH hS (lv_sub hl [0, 1, 2, 3, 4] rfl)
              · skip
                have tc39 := f_ne (k := 0) (by decide) c39
                refine lv_iload_n hx hb dX12_comesTo_42 rfl (lv_at hl 2 rfl) ?_
                refine lv_aload_n hx hb dX12_comesTo_43 rfl (lv_at hl 3 rfl) ?_
                refine t_get (ci := 12) (lst := ft12 hg mq) (C := RX12) (F := TX12) (N := 36) hx hb hts uX12 hown hkb hH t_a0 (hO.no t_a0 (by decide)) (fun _ h9 => h9) rfl rfl 17 (by decide) rfl kw_1240 (fun _ h9 => h9) dX12_comesTo_44 (fun v9 h9 => ?_)
                obtain ⟨v44, rfl, t_v44⟩ := h9
                refine lv_iload hx hb dX12_comesTo_47 (lv_at hl 0 rfl) ?_
                refine t_ild9 hx hb hkb hH t_v44 (hO.no9 t_v44 (by decide)) (by omega) (by omega) dX12_comesTo_49 (fun v49 h9 => ?_)
                have tv49 : 0 ≤ v49.toInt ∧ v49.toInt ≤ 16383 := h9
                refine lv_iload_n hx hb dX12_comesTo_50 rfl (lv_at hl 4 rfl) ?_
                refine lv_iand hx hb dX12_comesTo_51 ?_
                refine lv_topi (fun v51 ev51 => ?_)
                have tv51 : 0 ≤ v51.toInt ∧ v51.toInt ≤ v49.toInt := by rw [ev51]; exact and_l (by omega)
                refine lv_ior hx hb dX12_comesTo_52 ?_
                refine lv_topi (fun v52 ev52 => ?_)
                have tv52 : 0 ≤ v52.toInt ∧ v52.toInt < 16384 := by rw [ev52]; exact or_b 14 (by decide) (by omega) (by omega) (by omega) (by omega)
                have ho9 := or_ge (x := p21_2) (y := v51) (by omega) (by omega)
                rw [← ev52] at ho9
                refine lv_istore_n (lv' := [(2, .int v52), (4, .int p21_4), (3, .int p11_2), (0, .ref a0), (1, .int x1)]) hx hb dX12_comesTo_53 rfl hl (by decide) rfl (fun ls hl => ?_)
                obtain ⟨v54, ev54⟩ : ∃ y : Int32, y = p21_4 + 1 := ⟨_, rfl⟩
                have tv54 : v54.toInt = p21_4.toInt + (1) := by rw [ev54]; exact add_i rfl (by decide) (by omega) (by omega)
                refine lv_iinc (v := v54) (lv' := [(4, .int v54), (2, .int v52), (3, .int p11_2), (0, .ref a0), (1, .int x1)]) hx hb dX12_comesTo_54 hl (k := 1) rfl (by rw [ev54]; rfl) (by decide) rfl (fun ls hl => ?_)
                refine lv_goto (tgt := 21) hx hb dX12_comesTo_57 (by decide) ?_
                exact ih21 _ (by omega) v54 v52 _ _ _ rfl (by omega) (by omega) (by omega) (by omega) (by omega) hH hS (lv_sub hl [0, 2, 1, 3, 4] rfl)
        refine lv_istore (lv' := [(4, .int 0), (3, .int p11_2), (2, .int p11_2), (0, .ref a0), (1, .int x1)]) hx hb dX12_comesTo_19 hl (by decide) rfl (fun ls hl => ?_)
        have z_0 : (0 : Int32).toInt = 0 := by decide
        exact J21 _ 0 p11_2 _ _ _ rfl (by decide) (by decide) (by omega) (by omega) (by omega) hH hS (lv_sub hl [0, 1, 2, 3, 4] rfl)
  refine lv_istore_n (lv' := [(3, .int 0), (2, .int v7), (0, .ref a0), (1, .int x1)]) hx hb dX12_comesTo_10 rfl hl (by decide) rfl (fun ls hl => ?_)
  have z_0 : (0 : Int32).toInt = 0 := by decide
  exact J11 _ 0 v7 _ _ _ rfl (by decide) (by decide) (by omega) (by omega) (by omega) hH hS (lv_sub hl [0, 1, 2, 3] rfl)
set_option maxHeartbeats 4000000 in
set_option maxRecDepth 100000 in
theorem s_M_hasClimb (l : Launch) (D : va_G) (cs : CS) (kf : KF) (T : TF) (O : List Nat) (X : va_W) (a0 hg mq : Nat) (x1 : Int32) (t_a0 : T a0 = some (22, hg, mq)) (b_hg : hg < 90) (hO : okO T O [8, 9, 22]) : TK l D cs kf yX12_hasClimb cX12_hasClimb 2 (some (.boolean)) { frames := 2, cells := 0, slots := 0, locals := 46 } [.ref a0, .int x1] T O X (Ti D cs (fun r u => u = (T, O, X) ∧ 0 ≤ r.toInt ∧ r.toInt ≤ 1)) := by
  refine tk_of (by decide) (Nat.le_of_ble_eq_true rfl) (fun p e s m below meth c ls A H locs hx hb hr hml hown hts hlocks hnm hkb hH hS hA hOX hks hE hl => ?_)
  have hown : s.vm.findClass RX12 = some m.cls := hown
  have hl : lv_has ls 2 [(0, .ref a0), (1, .int x1)] := hl
  refine lv_aload_n hx hb dX12_hasClimb_0 rfl (lv_at hl 0 rfl) ?_
  refine lv_iload_n hx hb dX12_hasClimb_1 rfl (lv_at hl 1 rfl) ?_
  refine tk_i hH hS hA (tr_V (n := 1) (As := [.int x1]) hx hb hml hown hts hkb hH hOX hks hE hS hA (s_M_comesTo l D cs kf T O X a0 hg mq x1 t_a0 b_hg (hO.sub (by decide))) kw_1514 kw_1516 ks_74 kw_13 kw_1517 (by decide +kernel) ⟨Nat.le_of_ble_eq_true rfl, Nat.le_of_ble_eq_true rfl⟩ (HT.recv (ci := 12) hkb hH t_a0 (hO.no t_a0 (by decide)) rfl) rfl rfl hl.1 (Nat.le_of_ble_eq_true rfl) dX12_hasClimb_2 ⟨Nat.le_of_ble_eq_true rfl, Nat.le_of_ble_eq_true rfl⟩) (fun v2 u H locs hz9 hH hS => ?_)
  obtain ⟨rfl, l_v2, u_v2⟩ := hz9
  have hH : HT D cs A T O X H := hH
  refine W.widen (k := 0) (n := 0) (Nat.le_of_ble_eq_true rfl) (Nat.le_of_ble_eq_true rfl) ?_
  refine lv_aload_n hx hb dX12_hasClimb_5 rfl (lv_at hl 0 rfl) ?_
  refine t_get (ci := 12) (lst := ft12 hg mq) (C := RX12) (F := TX12) (N := 36) hx hb hts uX12 hown hkb hH t_a0 (hO.no t_a0 (by decide)) (fun _ h9 => h9) rfl rfl 1 (by decide) rfl kw_1224 (fun _ h9 => h9) dX12_hasClimb_6 (fun v9 h9 => ?_)
  obtain ⟨v6, rfl, t_v6⟩ := h9
  refine lv_iconst (v := 5) hx hb dX12_hasClimb_9 (by decide) ?_
  refine t_ild8 hx hb hkb hH t_v6 (hO.no t_v6 (by decide)) (by decide) (by decide) (by decide) dX12_hasClimb_10 (fun v10 h9 h8 => ?_)
  have tv10 : 0 ≤ v10.toInt ∧ v10.toInt ≤ 16383 := h9.2.2.2.1 (by decide)
  refine lv_iand hx hb dX12_hasClimb_11 ?_
  refine lv_topi (fun v11 ev11 => ?_)
  have tv11 : 0 ≤ v11.toInt ∧ v11.toInt ≤ v2.toInt := by rw [ev11]; exact and_l (by omega)
  have ttv11 : 0 ≤ v11.toInt ∧ v11.toInt ≤ v10.toInt := by rw [ev11]; exact and_r (by omega)
  have J20 : ∀ (k20_0 : Int32) (H : Heap) (locs : List Loc) (ls : Array Slot), (0 ≤ k20_0.toInt) → (k20_0.toInt ≤ 1) → HT D cs A T O X H → va_S A s.heap H locs → lv_has ls 2 [] → W p l e { frames := 2, cells := 0, slots := 0, locals := 46 } s m [.ref a0, .int x1].toArray below meth c H locs 0 0 (MQ below (Ti D cs (fun r u => u = (T, O, X) ∧ 0 ≤ r.toInt ∧ r.toInt ≤ 1) A) [.ref a0, .int x1].toArray s 0 0 A) (F0 m 20 ls [.int k20_0]) := by
    intro k20_0 H locs ls l_k20_0 u_k20_0 hH hS hl
    exact te_z hx hb hr hlocks (nar01 (by omega) (by omega)) hH hS (⟨rfl, by omega, by omega⟩) dX12_hasClimb_20
  refine lv_if_eq (tgt := 19) hx hb dX12_hasClimb_12 (by decide) (fun c12 => ?_) (fun c12 => ?_)
  · skip
    have tc12 := f_eq (k := 0) (by decide) c12
    refine lv_iconst (v := 0) hx hb dX12_hasClimb_19 (by decide) ?_
    exact J20 0 _ _ _ (by decide) (by decide) hH hS (lv_sub hl [] rfl)
  · skip
    have tc12 := f_ne (k := 0) (by decide) c12
    refine lv_iconst (v := 1) hx hb dX12_hasClimb_15 (by decide) ?_
    refine lv_goto (tgt := 20) hx hb dX12_hasClimb_16 (by decide) ?_
    exact J20 1 _ _ _ (by decide) (by decide) hH hS (lv_sub hl [] rfl)
set_option maxHeartbeats 4000000 in
set_option maxRecDepth 100000 in
theorem s_M_reach (l : Launch) (D : va_G) (cs : CS) (kf : KF) (T : TF) (O : List Nat) (X : va_W) (a0 hg mq : Nat) (x1 : Int32) (t_a0 : T a0 = some (22, hg, mq)) (b_hg : hg < 90) (hO : okO T O [1, 8, 9, 22]) : TK l D cs kf yX12_reach cX12_reach 2 (some (.int)) { frames := 5, cells := 0, slots := 0, locals := 119 } [.ref a0, .int x1] T O X (Ti D cs (fun r u => u = (T, O, X) ∧ -2 ≤ r.toInt ∧ r.toInt ≤ 16383)) := by
  refine tk_of (by decide) (Nat.le_of_ble_eq_true rfl) (fun p e s m below meth c ls A H locs hx hb hr hml hown hts hlocks hnm hkb hH hS hA hOX hks hE hl => ?_)
  have hown : s.vm.findClass RX12 = some m.cls := hown
  have hl : lv_has ls 2 [(0, .ref a0), (1, .int x1)] := hl
  refine lv_aload_n hx hb dX12_reach_0 rfl (lv_at hl 0 rfl) ?_
  refine lv_iconst (v := 0) hx hb dX12_reach_1 (by decide) ?_
  refine t_put (ci := 12) (lst := ft12 hg mq) (v := .int 0) (ty := tyX12 0) (C := RX12) (F := TX12) (N := 36) hx hb hts uX12 tyX12 tyX12_ok nmX12 hown hkb hH hS t_a0 (hO.no t_a0 (by decide)) (fun _ => Iff.rfl) rfl rfl 0 (by decide) rfl (⟨_, rfl⟩) kw_1223 (fun _ h9 => h9) rfl (tyX12_ok 0 (by decide)) rfl rfl dX12_reach_2 (fun H locs hH hS => ?_)
  refine lv_aload_n hx hb dX12_reach_5 rfl (lv_at hl 0 rfl) ?_
  refine lv_iload_n hx hb dX12_reach_6 rfl (lv_at hl 1 rfl) ?_
  refine lv_i2l hx hb dX12_reach_7 rfl ?_
  refine tk_i hH hS hA (tr_V (n := 1) (As := [.long x1.toInt64]) hx hb hml hown hts hkb hH hOX hks hE hS hA (s_M_isGuide l D cs kf T O X a0 hg mq x1.toInt64 t_a0 b_hg (hO.sub (by decide))) kw_1470 kw_1472 ks_67 kw_13 kw_1473 (by decide +kernel) ⟨Nat.le_of_ble_eq_true rfl, Nat.le_of_ble_eq_true rfl⟩ (HT.recv (ci := 12) hkb hH t_a0 (hO.no t_a0 (by decide)) rfl) rfl rfl hl.1 (Nat.le_of_ble_eq_true rfl) dX12_reach_8 ⟨Nat.le_of_ble_eq_true rfl, Nat.le_of_ble_eq_true rfl⟩) (fun v8 u H locs hz9 hH hS => ?_)
  obtain ⟨rfl, l_v8, u_v8, x_v80⟩ := hz9
  simp only [Int32.toInt_toInt64] at x_v80
  have hH : HT D cs A T O X H := hH
  refine W.widen (k := 0) (n := 0) (Nat.le_of_ble_eq_true rfl) (Nat.le_of_ble_eq_true rfl) ?_
  refine lv_if_ne (tgt := 17) hx hb dX12_reach_11 (by decide) (fun c11 => ?_) (fun c11 => ?_)
  · skip
    have tc11 := f_ne (k := 0) (by decide) c11
    replace x_v80 := x_v80.resolve_left tc11
    refine lv_aload_n hx hb dX12_reach_17 rfl (lv_at hl 0 rfl) ?_
    refine lv_iload_n hx hb dX12_reach_18 rfl (lv_at hl 1 rfl) ?_
    refine tk_v hH hS hA (tr_V (n := 1) (As := [.int x1]) hx hb hml hown hts hkb hH hOX hks hE hS hA (s_M_laysGuide l D cs kf T O X a0 hg mq x1 t_a0 b_hg (by omega) (by omega) (hO.sub (by decide))) kw_1502 kw_1504 ks_71 kw_13 kw_1505 (by decide +kernel) ⟨Nat.le_of_ble_eq_true rfl, Nat.le_of_ble_eq_true rfl⟩ (HT.recv (ci := 12) hkb hH t_a0 (hO.no t_a0 (by decide)) rfl) rfl rfl hl.1 (Nat.le_of_ble_eq_true rfl) dX12_reach_19 ⟨Nat.le_of_ble_eq_true rfl, Nat.le_of_ble_eq_true rfl⟩) (fun u H locs hz9 hH hS => ?_)
    have hz9 : u = (T, O, X) := hz9
    subst hz9
    have hH : HT D cs A T O X H := hH
    refine W.widen (k := 0) (n := 0) (Nat.le_of_ble_eq_true rfl) (Nat.le_of_ble_eq_true rfl) ?_
    refine lv_aload_n hx hb dX12_reach_22 rfl (lv_at hl 0 rfl) ?_
    refine lv_aload_n hx hb dX12_reach_23 rfl (lv_at hl 0 rfl) ?_
    refine tk_i hH hS hA (tr_V (n := 0) (As := []) hx hb hml hown hts hkb hH hOX hks hE hS hA (s_M_openSet l D cs kf T O X a0 hg mq t_a0 b_hg (hO.sub (by decide))) kw_1510 kw_1512 ks_73 kw_13 kw_1513 (by decide +kernel) ⟨Nat.le_of_ble_eq_true rfl, Nat.le_of_ble_eq_true rfl⟩ (HT.recv (ci := 12) hkb hH t_a0 (hO.no t_a0 (by decide)) rfl) rfl rfl hl.1 (Nat.le_of_ble_eq_true rfl) dX12_reach_24 ⟨Nat.le_of_ble_eq_true rfl, Nat.le_of_ble_eq_true rfl⟩) (fun v24 u H locs hz9 hH hS => ?_)
    obtain ⟨rfl, l_v24, u_v24⟩ := hz9
    have hH : HT D cs A T O X H := hH
    refine W.widen (k := 0) (n := 0) (Nat.le_of_ble_eq_true rfl) (Nat.le_of_ble_eq_true rfl) ?_
    refine tk_i hH hS hA (tr_V (n := 1) (As := [.int v24]) hx hb hml hown hts hkb hH hOX hks hE hS hA (s_M_comesTo l D cs kf T O X a0 hg mq v24 t_a0 b_hg (hO.sub (by decide))) kw_1514 kw_1516 ks_74 kw_13 kw_1517 (by decide +kernel) ⟨Nat.le_of_ble_eq_true rfl, Nat.le_of_ble_eq_true rfl⟩ (HT.recv (ci := 12) hkb hH t_a0 (hO.no t_a0 (by decide)) rfl) rfl rfl hl.1 (Nat.le_of_ble_eq_true rfl) dX12_reach_27 ⟨Nat.le_of_ble_eq_true rfl, Nat.le_of_ble_eq_true rfl⟩) (fun v27 u H locs hz9 hH hS => ?_)
    obtain ⟨rfl, l_v27, u_v27⟩ := hz9
    have hH : HT D cs A T O X H := hH
    refine W.widen (k := 0) (n := 0) (Nat.le_of_ble_eq_true rfl) (Nat.le_of_ble_eq_true rfl) ?_
    exact te_i hx hb hr hlocks hH hS (⟨rfl, by omega, by omega⟩) dX12_reach_30
  · skip
    have tc11 := f_eq (k := 0) (by decide) c11
    clear x_v80
    refine lv_bipush (v := (-2)) hx hb dX12_reach_14 (by decide) ?_
    exact te_i hx hb hr hlocks hH hS (⟨rfl, by decide, by decide⟩) dX12_reach_16
set_option maxHeartbeats 4000000 in
set_option maxRecDepth 100000 in
theorem s_M_steps (l : Launch) (D : va_G) (cs : CS) (kf : KF) (T : TF) (O : List Nat) (X : va_W) (a0 hg mq : Nat) (x1 : Int32) (x2 : Int32) (x3 : Int32) (t_a0 : T a0 = some (22, hg, mq)) (b_hg : hg < 90) (hO : okO T O [1, 8, 22]) : TK l D cs kf yX12_steps cX12_steps 4 (some (.int)) { frames := 3, cells := 0, slots := 0, locals := 74 } [.ref a0, .int x1, .int x2, .int x3] T O X (Ti D cs (fun r u => u = (T, O, X) ∧ -2 ≤ r.toInt ∧ r.toInt ≤ 1)) := by
  refine tk_of (by decide) (Nat.le_of_ble_eq_true rfl) (fun p e s m below meth c ls A H locs hx hb hr hml hown hts hlocks hnm hkb hH hS hA hOX hks hE hl => ?_)
  have hown : s.vm.findClass RX12 = some m.cls := hown
  have hl : lv_has ls 4 [(0, .ref a0), (1, .int x1), (2, .int x2), (3, .int x3)] := hl
  refine lv_aload_n hx hb dX12_steps_0 rfl (lv_at hl 0 rfl) ?_
  refine lv_iconst (v := 0) hx hb dX12_steps_1 (by decide) ?_
  refine t_put (ci := 12) (lst := ft12 hg mq) (v := .int 0) (ty := tyX12 0) (C := RX12) (F := TX12) (N := 36) hx hb hts uX12 tyX12 tyX12_ok nmX12 hown hkb hH hS t_a0 (hO.no t_a0 (by decide)) (fun _ => Iff.rfl) rfl rfl 0 (by decide) rfl (⟨_, rfl⟩) kw_1223 (fun _ h9 => h9) rfl (tyX12_ok 0 (by decide)) rfl rfl dX12_steps_2 (fun H locs hH hS => ?_)
  refine lv_aload_n hx hb dX12_steps_5 rfl (lv_at hl 0 rfl) ?_
  refine lv_iload_n hx hb dX12_steps_6 rfl (lv_at hl 1 rfl) ?_
  refine lv_i2l hx hb dX12_steps_7 rfl ?_
  refine tk_i hH hS hA (tr_V (n := 1) (As := [.long x1.toInt64]) hx hb hml hown hts hkb hH hOX hks hE hS hA (s_M_isGuide l D cs kf T O X a0 hg mq x1.toInt64 t_a0 b_hg (hO.sub (by decide))) kw_1470 kw_1472 ks_67 kw_13 kw_1473 (by decide +kernel) ⟨Nat.le_of_ble_eq_true rfl, Nat.le_of_ble_eq_true rfl⟩ (HT.recv (ci := 12) hkb hH t_a0 (hO.no t_a0 (by decide)) rfl) rfl rfl hl.1 (Nat.le_of_ble_eq_true rfl) dX12_steps_8 ⟨Nat.le_of_ble_eq_true rfl, Nat.le_of_ble_eq_true rfl⟩) (fun v8 u H locs hz9 hH hS => ?_)
  obtain ⟨rfl, l_v8, u_v8, x_v80⟩ := hz9
  simp only [Int32.toInt_toInt64] at x_v80
  have hH : HT D cs A T O X H := hH
  refine W.widen (k := 0) (n := 0) (Nat.le_of_ble_eq_true rfl) (Nat.le_of_ble_eq_true rfl) ?_
  have J37 : ∀  (H : Heap) (locs : List Loc) (ls : Array Slot), HT D cs A T O X H → va_S A s.heap H locs → lv_has ls 4 [] → W p l e { frames := 3, cells := 0, slots := 0, locals := 74 } s m [.ref a0, .int x1, .int x2, .int x3].toArray below meth c H locs 0 0 (MQ below (Ti D cs (fun r u => u = (T, O, X) ∧ -2 ≤ r.toInt ∧ r.toInt ≤ 1) A) [.ref a0, .int x1, .int x2, .int x3].toArray s 0 0 A) (F0 m 37 ls []) := by
    intro  H locs ls  hH hS hl
    refine lv_bipush (v := (-2)) hx hb dX12_steps_37 (by decide) ?_
    exact te_i hx hb hr hlocks hH hS (⟨rfl, by decide, by decide⟩) dX12_steps_39
  refine lv_if_eq (tgt := 37) hx hb dX12_steps_11 (by decide) (fun c11 => ?_) (fun c11 => ?_)
  · skip
    have tc11 := f_eq (k := 0) (by decide) c11
    clear x_v80
    exact J37  _ _ _  hH hS (lv_sub hl [] rfl)
  · skip
    have tc11 := f_ne (k := 0) (by decide) c11
    replace x_v80 := x_v80.resolve_left tc11
    refine lv_aload_n hx hb dX12_steps_14 rfl (lv_at hl 0 rfl) ?_
    refine lv_iload_n hx hb dX12_steps_15 rfl (lv_at hl 2 rfl) ?_
    refine lv_i2l hx hb dX12_steps_16 rfl ?_
    refine tk_i hH hS hA (tr_V (n := 1) (As := [.long x2.toInt64]) hx hb hml hown hts hkb hH hOX hks hE hS hA (s_M_isHold l D cs kf T O X a0 hg mq x2.toInt64 t_a0 b_hg (hO.sub (by decide))) kw_1454 kw_1456 ks_64 kw_13 kw_1457 (by decide +kernel) ⟨Nat.le_of_ble_eq_true rfl, Nat.le_of_ble_eq_true rfl⟩ (HT.recv (ci := 12) hkb hH t_a0 (hO.no t_a0 (by decide)) rfl) rfl rfl hl.1 (Nat.le_of_ble_eq_true rfl) dX12_steps_17 ⟨Nat.le_of_ble_eq_true rfl, Nat.le_of_ble_eq_true rfl⟩) (fun v17 u H locs hz9 hH hS => ?_)
    obtain ⟨rfl, l_v17, u_v17, x_v170⟩ := hz9
    simp only [Int32.toInt_toInt64] at x_v170
    have hH : HT D cs A T O X H := hH
    refine W.widen (k := 0) (n := 0) (Nat.le_of_ble_eq_true rfl) (Nat.le_of_ble_eq_true rfl) ?_
    refine lv_if_eq (tgt := 37) hx hb dX12_steps_20 (by decide) (fun c20 => ?_) (fun c20 => ?_)
    · skip
      have tc20 := f_eq (k := 0) (by decide) c20
      clear x_v170
      exact J37  _ _ _  hH hS (lv_sub hl [] rfl)
    · skip
      have tc20 := f_ne (k := 0) (by decide) c20
      replace x_v170 := x_v170.resolve_left tc20
      refine lv_aload_n hx hb dX12_steps_23 rfl (lv_at hl 0 rfl) ?_
      refine lv_iload_n hx hb dX12_steps_24 rfl (lv_at hl 3 rfl) ?_
      refine lv_i2l hx hb dX12_steps_25 rfl ?_
      refine tk_i hH hS hA (tr_V (n := 1) (As := [.long x3.toInt64]) hx hb hml hown hts hkb hH hOX hks hE hS hA (s_M_isHold l D cs kf T O X a0 hg mq x3.toInt64 t_a0 b_hg (hO.sub (by decide))) kw_1454 kw_1456 ks_64 kw_13 kw_1457 (by decide +kernel) ⟨Nat.le_of_ble_eq_true rfl, Nat.le_of_ble_eq_true rfl⟩ (HT.recv (ci := 12) hkb hH t_a0 (hO.no t_a0 (by decide)) rfl) rfl rfl hl.1 (Nat.le_of_ble_eq_true rfl) dX12_steps_26 ⟨Nat.le_of_ble_eq_true rfl, Nat.le_of_ble_eq_true rfl⟩) (fun v26 u H locs hz9 hH hS => ?_)
      obtain ⟨rfl, l_v26, u_v26, x_v260⟩ := hz9
      simp only [Int32.toInt_toInt64] at x_v260
      have hH : HT D cs A T O X H := hH
      refine W.widen (k := 0) (n := 0) (Nat.le_of_ble_eq_true rfl) (Nat.le_of_ble_eq_true rfl) ?_
      refine lv_if_eq (tgt := 37) hx hb dX12_steps_29 (by decide) (fun c29 => ?_) (fun c29 => ?_)
      · skip
        have tc29 := f_eq (k := 0) (by decide) c29
        clear x_v260
        exact J37  _ _ _  hH hS (lv_sub hl [] rfl)
      · skip
        have tc29 := f_ne (k := 0) (by decide) c29
        replace x_v260 := x_v260.resolve_left tc29
        refine lv_iload_n hx hb dX12_steps_32 rfl (lv_at hl 2 rfl) ?_
        refine lv_iload_n hx hb dX12_steps_33 rfl (lv_at hl 3 rfl) ?_
        refine lv_icmp_ne (tgt := 40) hx hb dX12_steps_34 (by decide) (fun c34 => ?_) (fun c34 => ?_)
        · skip
          have fuc34 := full_i x2
          have fvc34 := full_i x3
          have tc34 := g_ne c34
          refine lv_aload_n hx hb dX12_steps_40 rfl (lv_at hl 0 rfl) ?_
          refine lv_aload_n hx hb dX12_steps_41 rfl (lv_at hl 0 rfl) ?_
          refine t_get (ci := 12) (lst := ft12 hg mq) (C := RX12) (F := TX12) (N := 36) hx hb hts uX12 hown hkb hH t_a0 (hO.no t_a0 (by decide)) (fun _ h9 => h9) rfl rfl 1 (by decide) rfl kw_1224 (fun _ h9 => h9) dX12_steps_42 (fun v9 h9 => ?_)
          obtain ⟨v42, rfl, t_v42⟩ := h9
          refine lv_bipush (v := 49) hx hb dX12_steps_45 (by decide) ?_
          refine lv_iload_n hx hb dX12_steps_47 rfl (lv_at hl 1 rfl) ?_
          refine lv_iadd hx hb dX12_steps_48 ?_
          refine lv_topi (fun v48 ev48 => ?_)
          have tv48 : v48.toInt = (49) + x1.toInt := by rw [ev48]; exact add_i (by decide : (49 : Int32).toInt = 49) rfl (by omega) (by omega)
          refine t_ild8 hx hb hkb hH t_v42 (hO.no t_v42 (by decide)) (by decide) (by omega) (by omega) dX12_steps_49 (fun v49 h9 h8 => ?_)
          refine t_put (ci := 12) (lst := ft12 hg mq) (v := .int v49) (ty := tyX12 16) (C := RX12) (F := TX12) (N := 36) hx hb hts uX12 tyX12 tyX12_ok nmX12 hown hkb hH hS t_a0 (hO.no t_a0 (by decide)) (fun _ => Iff.rfl) rfl rfl 16 (by decide) rfl (⟨_, rfl⟩) kw_1239 (fun _ h9 => h9) rfl (tyX12_ok 16 (by decide)) rfl rfl dX12_steps_50 (fun H locs hH hS => ?_)
          refine lv_aload_n hx hb dX12_steps_53 rfl (lv_at hl 0 rfl) ?_
          refine lv_iload_n hx hb dX12_steps_54 rfl (lv_at hl 1 rfl) ?_
          refine lv_iload_n hx hb dX12_steps_55 rfl (lv_at hl 2 rfl) ?_
          refine lv_iload_n hx hb dX12_steps_56 rfl (lv_at hl 3 rfl) ?_
          refine tk_i hH hS hA (tr_V (n := 3) (As := [.int x1, .int x2, .int x3]) hx hb hml hown hts hkb hH hOX hks hE hS hA (s_M_mayStep l D cs kf T O X a0 hg mq x1 x2 x3 t_a0 b_hg (by omega) (by omega) (by omega) (by omega) (by omega) (by omega) (hO.sub (by decide))) kw_1482 kw_1484 ks_69 kw_13 kw_1485 (by decide +kernel) ⟨Nat.le_of_ble_eq_true rfl, Nat.le_of_ble_eq_true rfl⟩ (HT.recv (ci := 12) hkb hH t_a0 (hO.no t_a0 (by decide)) rfl) rfl rfl hl.1 (Nat.le_of_ble_eq_true rfl) dX12_steps_57 ⟨Nat.le_of_ble_eq_true rfl, Nat.le_of_ble_eq_true rfl⟩) (fun v57 u H locs hz9 hH hS => ?_)
          obtain ⟨rfl, l_v57, u_v57⟩ := hz9
          have hH : HT D cs A T O X H := hH
          refine W.widen (k := 0) (n := 0) (Nat.le_of_ble_eq_true rfl) (Nat.le_of_ble_eq_true rfl) ?_
          have J68 : ∀ (k68_0 : Int32) (H : Heap) (locs : List Loc) (ls : Array Slot), (0 ≤ k68_0.toInt) → (k68_0.toInt ≤ 1) → HT D cs A T O X H → va_S A s.heap H locs → lv_has ls 4 [] → W p l e { frames := 3, cells := 0, slots := 0, locals := 74 } s m [.ref a0, .int x1, .int x2, .int x3].toArray below meth c H locs 0 0 (MQ below (Ti D cs (fun r u => u = (T, O, X) ∧ -2 ≤ r.toInt ∧ r.toInt ≤ 1) A) [.ref a0, .int x1, .int x2, .int x3].toArray s 0 0 A) (F0 m 68 ls [.int k68_0]) := by
            intro k68_0 H locs ls l_k68_0 u_k68_0 hH hS hl
            exact te_i hx hb hr hlocks hH hS (⟨rfl, by omega, by omega⟩) dX12_steps_68
          refine lv_if_eq (tgt := 67) hx hb dX12_steps_60 (by decide) (fun c60 => ?_) (fun c60 => ?_)
          · skip
            have tc60 := f_eq (k := 0) (by decide) c60
            refine lv_iconst (v := 0) hx hb dX12_steps_67 (by decide) ?_
            exact J68 0 _ _ _ (by decide) (by decide) hH hS (lv_sub hl [] rfl)
          · skip
            have tc60 := f_ne (k := 0) (by decide) c60
            refine lv_iconst (v := 1) hx hb dX12_steps_63 (by decide) ?_
            refine lv_goto (tgt := 68) hx hb dX12_steps_64 (by decide) ?_
            exact J68 1 _ _ _ (by decide) (by decide) hH hS (lv_sub hl [] rfl)
        · skip
          have fuc34 := full_i x2
          have fvc34 := full_i x3
          have tc34 := g_eq c34
          exact J37  _ _ _  hH hS (lv_sub hl [] rfl)
theorem dX12_breaks_0 : decode cX12_breaks 0 = .ok (.aload_n 0, 1) := by decide +kernel
theorem dX12_breaks_1 : decode cX12_breaks 1 = .ok (.iconst 0, 1) := by decide +kernel
theorem dX12_breaks_2 : decode cX12_breaks 2 = .ok (.putfield 1, 3) := by decide +kernel
theorem dX12_breaks_5 : decode cX12_breaks 5 = .ok (.aload_n 0, 1) := by decide +kernel
theorem dX12_breaks_6 : decode cX12_breaks 6 = .ok (.iload_n 1, 1) := by decide +kernel
theorem dX12_breaks_7 : decode cX12_breaks 7 = .ok (.i2l, 1) := by decide +kernel
theorem dX12_breaks_8 : decode cX12_breaks 8 = .ok (.invokevirtual 218, 3) := by decide +kernel
theorem dX12_breaks_11 : decode cX12_breaks 11 = .ok (.ifCond .ne 6, 3) := by decide +kernel
theorem dX12_breaks_14 : decode cX12_breaks 14 = .ok (.bipush (-2), 2) := by decide +kernel
theorem dX12_breaks_16 : decode cX12_breaks 16 = .ok (.ireturn, 1) := by decide +kernel
theorem dX12_breaks_17 : decode cX12_breaks 17 = .ok (.aload_n 0, 1) := by decide +kernel
theorem dX12_breaks_18 : decode cX12_breaks 18 = .ok (.getfield 13, 3) := by decide +kernel
theorem dX12_breaks_21 : decode cX12_breaks 21 = .ok (.bipush 87, 2) := by decide +kernel
theorem dX12_breaks_23 : decode cX12_breaks 23 = .ok (.iaload, 1) := by decide +kernel
theorem dX12_breaks_24 : decode cX12_breaks 24 = .ok (.i2l, 1) := by decide +kernel
theorem dX12_breaks_25 : decode cX12_breaks 25 = .ok (.iload_n 1, 1) := by decide +kernel
theorem dX12_breaks_26 : decode cX12_breaks 26 = .ok (.invokestatic 186, 3) := by decide +kernel
theorem dX12_breaks_29 : decode cX12_breaks 29 = .ok (.ifCond .eq 6, 3) := by decide +kernel
theorem dX12_breaks_32 : decode cX12_breaks 32 = .ok (.bipush (-5), 2) := by decide +kernel
theorem dX12_breaks_34 : decode cX12_breaks 34 = .ok (.ireturn, 1) := by decide +kernel
theorem dX12_breaks_35 : decode cX12_breaks 35 = .ok (.aload_n 0, 1) := by decide +kernel
theorem dX12_breaks_36 : decode cX12_breaks 36 = .ok (.invokevirtual 295, 3) := by decide +kernel
theorem dX12_breaks_39 : decode cX12_breaks 39 = .ok (.aload_n 0, 1) := by decide +kernel
theorem dX12_breaks_40 : decode cX12_breaks 40 = .ok (.getfield 13, 3) := by decide +kernel
theorem dX12_breaks_43 : decode cX12_breaks 43 = .ok (.bipush 59, 2) := by decide +kernel
theorem dX12_breaks_45 : decode cX12_breaks 45 = .ok (.iload_n 1, 1) := by decide +kernel
theorem dX12_breaks_46 : decode cX12_breaks 46 = .ok (.iadd, 1) := by decide +kernel
theorem dX12_breaks_47 : decode cX12_breaks 47 = .ok (.iaload, 1) := by decide +kernel
theorem dX12_breaks_48 : decode cX12_breaks 48 = .ok (.iconst (-1), 1) := by decide +kernel
theorem dX12_breaks_49 : decode cX12_breaks 49 = .ok (.if_icmp .ne 7, 3) := by decide +kernel
theorem dX12_breaks_52 : decode cX12_breaks 52 = .ok (.iconst 0, 1) := by decide +kernel
theorem dX12_breaks_53 : decode cX12_breaks 53 = .ok (.goto 4, 3) := by decide +kernel
theorem dX12_breaks_56 : decode cX12_breaks 56 = .ok (.iconst 1, 1) := by decide +kernel
theorem dX12_breaks_57 : decode cX12_breaks 57 = .ok (.istore_n 2, 1) := by decide +kernel
theorem dX12_breaks_58 : decode cX12_breaks 58 = .ok (.aload_n 0, 1) := by decide +kernel
theorem dX12_breaks_59 : decode cX12_breaks 59 = .ok (.getfield 13, 3) := by decide +kernel
theorem dX12_breaks_62 : decode cX12_breaks 62 = .ok (.iload_n 1, 1) := by decide +kernel
theorem dX12_breaks_63 : decode cX12_breaks 63 = .ok (.invokestatic 202, 3) := by decide +kernel
theorem dX12_breaks_66 : decode cX12_breaks 66 = .ok (.aload_n 0, 1) := by decide +kernel
theorem dX12_breaks_67 : decode cX12_breaks 67 = .ok (.invokevirtual 301, 3) := by decide +kernel
theorem dX12_breaks_70 : decode cX12_breaks 70 = .ok (.iload_n 2, 1) := by decide +kernel
theorem dX12_breaks_71 : decode cX12_breaks 71 = .ok (.ireturn, 1) := by decide +kernel
theorem dX12_days_0 : decode cX12_days 0 = .ok (.aload_n 0, 1) := by decide +kernel
theorem dX12_days_1 : decode cX12_days 1 = .ok (.iconst 0, 1) := by decide +kernel
theorem dX12_days_2 : decode cX12_days 2 = .ok (.putfield 1, 3) := by decide +kernel
theorem dX12_days_5 : decode cX12_days 5 = .ok (.iload_n 1, 1) := by decide +kernel
theorem dX12_days_6 : decode cX12_days 6 = .ok (.i2l, 1) := by decide +kernel
theorem dX12_days_7 : decode cX12_days 7 = .ok (.lconst 1, 1) := by decide +kernel
theorem dX12_days_8 : decode cX12_days 8 = .ok (.ldc2_w 307, 3) := by decide +kernel
theorem dX12_days_11 : decode cX12_days 11 = .ok (.invokestatic 144, 3) := by decide +kernel
theorem dX12_days_14 : decode cX12_days 14 = .ok (.ifCond .ne 6, 3) := by decide +kernel
theorem dX12_days_17 : decode cX12_days 17 = .ok (.bipush (-3), 2) := by decide +kernel
theorem dX12_days_19 : decode cX12_days 19 = .ok (.ireturn, 1) := by decide +kernel
theorem dX12_days_20 : decode cX12_days 20 = .ok (.aload_n 0, 1) := by decide +kernel
theorem dX12_days_21 : decode cX12_days 21 = .ok (.invokevirtual 295, 3) := by decide +kernel
theorem dX12_days_24 : decode cX12_days 24 = .ok (.aload_n 0, 1) := by decide +kernel
theorem dX12_days_25 : decode cX12_days 25 = .ok (.getfield 13, 3) := by decide +kernel
theorem dX12_days_28 : decode cX12_days 28 = .ok (.bipush 88, 2) := by decide +kernel
theorem dX12_days_30 : decode cX12_days 30 = .ok (.dup2, 1) := by decide +kernel
theorem dX12_days_31 : decode cX12_days 31 = .ok (.iaload, 1) := by decide +kernel
theorem dX12_days_32 : decode cX12_days 32 = .ok (.iload_n 1, 1) := by decide +kernel
theorem dX12_days_33 : decode cX12_days 33 = .ok (.iadd, 1) := by decide +kernel
theorem dX12_days_34 : decode cX12_days 34 = .ok (.iastore, 1) := by decide +kernel
theorem dX12_days_35 : decode cX12_days 35 = .ok (.aload_n 0, 1) := by decide +kernel
theorem dX12_days_36 : decode cX12_days 36 = .ok (.invokevirtual 301, 3) := by decide +kernel
theorem dX12_days_39 : decode cX12_days 39 = .ok (.aload_n 0, 1) := by decide +kernel
theorem dX12_days_40 : decode cX12_days 40 = .ok (.getfield 13, 3) := by decide +kernel
theorem dX12_days_43 : decode cX12_days 43 = .ok (.bipush 88, 2) := by decide +kernel
theorem dX12_days_45 : decode cX12_days 45 = .ok (.iaload, 1) := by decide +kernel
theorem dX12_days_46 : decode cX12_days 46 = .ok (.ireturn, 1) := by decide +kernel
theorem dX12_draw_0 : decode cX12_draw 0 = .ok (.aload_n 0, 1) := by decide +kernel
theorem dX12_draw_1 : decode cX12_draw 1 = .ok (.ldc_w 320, 3) := by decide +kernel
theorem dX12_draw_4 : decode cX12_draw 4 = .ok (.aload_n 0, 1) := by decide +kernel
theorem dX12_draw_5 : decode cX12_draw 5 = .ok (.getfield 321, 3) := by decide +kernel
theorem dX12_draw_8 : decode cX12_draw 8 = .ok (.imul, 1) := by decide +kernel
theorem dX12_draw_9 : decode cX12_draw 9 = .ok (.sipush 12345, 3) := by decide +kernel
theorem dX12_draw_12 : decode cX12_draw 12 = .ok (.iadd, 1) := by decide +kernel
theorem dX12_draw_13 : decode cX12_draw 13 = .ok (.putfield 321, 3) := by decide +kernel
theorem dX12_draw_16 : decode cX12_draw 16 = .ok (.aload_n 0, 1) := by decide +kernel
theorem dX12_draw_17 : decode cX12_draw 17 = .ok (.getfield 321, 3) := by decide +kernel
theorem dX12_draw_20 : decode cX12_draw 20 = .ok (.bipush 16, 2) := by decide +kernel
theorem dX12_draw_22 : decode cX12_draw 22 = .ok (.iushr, 1) := by decide +kernel
theorem dX12_draw_23 : decode cX12_draw 23 = .ok (.iload_n 1, 1) := by decide +kernel
theorem dX12_draw_24 : decode cX12_draw 24 = .ok (.irem, 1) := by decide +kernel
theorem dX12_draw_25 : decode cX12_draw 25 = .ok (.ireturn, 1) := by decide +kernel
theorem dX12_isAhead_0 : decode cX12_isAhead 0 = .ok (.iconst 0, 1) := by decide +kernel
theorem dX12_isAhead_1 : decode cX12_isAhead 1 = .ok (.istore_n 1, 1) := by decide +kernel
theorem dX12_isAhead_2 : decode cX12_isAhead 2 = .ok (.iload_n 1, 1) := by decide +kernel
theorem dX12_isAhead_3 : decode cX12_isAhead 3 = .ok (.bipush 31, 2) := by decide +kernel
theorem dX12_isAhead_5 : decode cX12_isAhead 5 = .ok (.if_icmp .ge 24, 3) := by decide +kernel
theorem dX12_isAhead_8 : decode cX12_isAhead 8 = .ok (.aload_n 0, 1) := by decide +kernel
theorem dX12_isAhead_9 : decode cX12_isAhead 9 = .ok (.getfield 13, 3) := by decide +kernel
theorem dX12_isAhead_12 : decode cX12_isAhead 12 = .ok (.bipush 59, 2) := by decide +kernel
theorem dX12_isAhead_14 : decode cX12_isAhead 14 = .ok (.iload_n 1, 1) := by decide +kernel
theorem dX12_isAhead_15 : decode cX12_isAhead 15 = .ok (.iadd, 1) := by decide +kernel
theorem dX12_isAhead_16 : decode cX12_isAhead 16 = .ok (.aload_n 0, 1) := by decide +kernel
theorem dX12_isAhead_17 : decode cX12_isAhead 17 = .ok (.getfield 45, 3) := by decide +kernel
theorem dX12_isAhead_20 : decode cX12_isAhead 20 = .ok (.iload_n 1, 1) := by decide +kernel
theorem dX12_isAhead_21 : decode cX12_isAhead 21 = .ok (.iaload, 1) := by decide +kernel
theorem dX12_isAhead_22 : decode cX12_isAhead 22 = .ok (.iastore, 1) := by decide +kernel
theorem dX12_isAhead_23 : decode cX12_isAhead 23 = .ok (.iinc 1 1, 3) := by decide +kernel
theorem dX12_isAhead_26 : decode cX12_isAhead 26 = .ok (.goto (-24), 3) := by decide +kernel
theorem dX12_isAhead_29 : decode cX12_isAhead 29 = .ok (.return_, 1) := by decide +kernel
theorem dX12_keeps_0 : decode cX12_keeps 0 = .ok (.iconst 0, 1) := by decide +kernel
theorem dX12_keeps_1 : decode cX12_keeps 1 = .ok (.istore_n 1, 1) := by decide +kernel
theorem dX12_keeps_2 : decode cX12_keeps 2 = .ok (.iload_n 1, 1) := by decide +kernel
theorem dX12_keeps_3 : decode cX12_keeps 3 = .ok (.bipush 31, 2) := by decide +kernel
theorem dX12_keeps_5 : decode cX12_keeps 5 = .ok (.if_icmp .ge 24, 3) := by decide +kernel
theorem dX12_keeps_8 : decode cX12_keeps 8 = .ok (.aload_n 0, 1) := by decide +kernel
theorem dX12_keeps_9 : decode cX12_keeps 9 = .ok (.getfield 42, 3) := by decide +kernel
theorem dX12_keeps_12 : decode cX12_keeps 12 = .ok (.iload_n 1, 1) := by decide +kernel
theorem dX12_keeps_13 : decode cX12_keeps 13 = .ok (.aload_n 0, 1) := by decide +kernel
theorem dX12_keeps_14 : decode cX12_keeps 14 = .ok (.getfield 13, 3) := by decide +kernel
theorem dX12_keeps_17 : decode cX12_keeps 17 = .ok (.bipush 59, 2) := by decide +kernel
theorem dX12_keeps_19 : decode cX12_keeps 19 = .ok (.iload_n 1, 1) := by decide +kernel
theorem dX12_keeps_20 : decode cX12_keeps 20 = .ok (.iadd, 1) := by decide +kernel
theorem dX12_keeps_21 : decode cX12_keeps 21 = .ok (.iaload, 1) := by decide +kernel
theorem dX12_keeps_22 : decode cX12_keeps 22 = .ok (.iastore, 1) := by decide +kernel
theorem dX12_keeps_23 : decode cX12_keeps 23 = .ok (.iinc 1 1, 3) := by decide +kernel
theorem dX12_keeps_26 : decode cX12_keeps 26 = .ok (.goto (-24), 3) := by decide +kernel
theorem dX12_keeps_29 : decode cX12_keeps 29 = .ok (.return_, 1) := by decide +kernel
theorem dX12_keepsAhead_0 : decode cX12_keepsAhead 0 = .ok (.iconst 0, 1) := by decide +kernel
theorem dX12_keepsAhead_1 : decode cX12_keepsAhead 1 = .ok (.istore_n 1, 1) := by decide +kernel
theorem dX12_keepsAhead_2 : decode cX12_keepsAhead 2 = .ok (.iload_n 1, 1) := by decide +kernel
theorem dX12_keepsAhead_3 : decode cX12_keepsAhead 3 = .ok (.bipush 31, 2) := by decide +kernel
theorem dX12_keepsAhead_5 : decode cX12_keepsAhead 5 = .ok (.if_icmp .ge 24, 3) := by decide +kernel
theorem dX12_keepsAhead_8 : decode cX12_keepsAhead 8 = .ok (.aload_n 0, 1) := by decide +kernel
theorem dX12_keepsAhead_9 : decode cX12_keepsAhead 9 = .ok (.getfield 45, 3) := by decide +kernel
theorem dX12_keepsAhead_12 : decode cX12_keepsAhead 12 = .ok (.iload_n 1, 1) := by decide +kernel
theorem dX12_keepsAhead_13 : decode cX12_keepsAhead 13 = .ok (.aload_n 0, 1) := by decide +kernel
theorem dX12_keepsAhead_14 : decode cX12_keepsAhead 14 = .ok (.getfield 13, 3) := by decide +kernel
theorem dX12_keepsAhead_17 : decode cX12_keepsAhead 17 = .ok (.bipush 59, 2) := by decide +kernel
theorem dX12_keepsAhead_19 : decode cX12_keepsAhead 19 = .ok (.iload_n 1, 1) := by decide +kernel
theorem dX12_keepsAhead_20 : decode cX12_keepsAhead 20 = .ok (.iadd, 1) := by decide +kernel
theorem dX12_keepsAhead_21 : decode cX12_keepsAhead 21 = .ok (.iaload, 1) := by decide +kernel
theorem dX12_keepsAhead_22 : decode cX12_keepsAhead 22 = .ok (.iastore, 1) := by decide +kernel
theorem dX12_keepsAhead_23 : decode cX12_keepsAhead 23 = .ok (.iinc 1 1, 3) := by decide +kernel
theorem dX12_keepsAhead_26 : decode cX12_keepsAhead 26 = .ok (.goto (-24), 3) := by decide +kernel
theorem dX12_keepsAhead_29 : decode cX12_keepsAhead 29 = .ok (.return_, 1) := by decide +kernel
theorem dX12_newYear_0 : decode cX12_newYear 0 = .ok (.aload_n 0, 1) := by decide +kernel
theorem dX12_newYear_1 : decode cX12_newYear 1 = .ok (.iconst 0, 1) := by decide +kernel
theorem dX12_newYear_2 : decode cX12_newYear 2 = .ok (.putfield 1, 3) := by decide +kernel
theorem dX12_newYear_5 : decode cX12_newYear 5 = .ok (.aload_n 0, 1) := by decide +kernel
theorem dX12_newYear_6 : decode cX12_newYear 6 = .ok (.invokevirtual 295, 3) := by decide +kernel
theorem dX12_newYear_9 : decode cX12_newYear 9 = .ok (.aload_n 0, 1) := by decide +kernel
theorem dX12_newYear_10 : decode cX12_newYear 10 = .ok (.invokevirtual 315, 3) := by decide +kernel
theorem dX12_newYear_13 : decode cX12_newYear 13 = .ok (.istore_n 1, 1) := by decide +kernel
theorem dX12_newYear_14 : decode cX12_newYear 14 = .ok (.iconst 0, 1) := by decide +kernel
theorem dX12_newYear_15 : decode cX12_newYear 15 = .ok (.istore_n 2, 1) := by decide +kernel
theorem dX12_newYear_16 : decode cX12_newYear 16 = .ok (.iload_n 2, 1) := by decide +kernel
theorem dX12_newYear_17 : decode cX12_newYear 17 = .ok (.bipush 14, 2) := by decide +kernel
theorem dX12_newYear_19 : decode cX12_newYear 19 = .ok (.if_icmp .ge 29, 3) := by decide +kernel
theorem dX12_newYear_22 : decode cX12_newYear 22 = .ok (.aload_n 0, 1) := by decide +kernel
theorem dX12_newYear_23 : decode cX12_newYear 23 = .ok (.getfield 13, 3) := by decide +kernel
theorem dX12_newYear_26 : decode cX12_newYear 26 = .ok (.bipush 59, 2) := by decide +kernel
theorem dX12_newYear_28 : decode cX12_newYear 28 = .ok (.iload_n 2, 1) := by decide +kernel
theorem dX12_newYear_29 : decode cX12_newYear 29 = .ok (.iadd, 1) := by decide +kernel
theorem dX12_newYear_30 : decode cX12_newYear 30 = .ok (.iconst (-1), 1) := by decide +kernel
theorem dX12_newYear_31 : decode cX12_newYear 31 = .ok (.iastore, 1) := by decide +kernel
theorem dX12_newYear_32 : decode cX12_newYear 32 = .ok (.aload_n 0, 1) := by decide +kernel
theorem dX12_newYear_33 : decode cX12_newYear 33 = .ok (.getfield 13, 3) := by decide +kernel
theorem dX12_newYear_36 : decode cX12_newYear 36 = .ok (.bipush 73, 2) := by decide +kernel
theorem dX12_newYear_38 : decode cX12_newYear 38 = .ok (.iload_n 2, 1) := by decide +kernel
theorem dX12_newYear_39 : decode cX12_newYear 39 = .ok (.iadd, 1) := by decide +kernel
theorem dX12_newYear_40 : decode cX12_newYear 40 = .ok (.iconst (-1), 1) := by decide +kernel
theorem dX12_newYear_41 : decode cX12_newYear 41 = .ok (.iastore, 1) := by decide +kernel
theorem dX12_newYear_42 : decode cX12_newYear 42 = .ok (.iinc 2 1, 3) := by decide +kernel
theorem dX12_newYear_45 : decode cX12_newYear 45 = .ok (.goto (-29), 3) := by decide +kernel
theorem dX12_newYear_48 : decode cX12_newYear 48 = .ok (.aload_n 0, 1) := by decide +kernel
theorem dX12_newYear_49 : decode cX12_newYear 49 = .ok (.getfield 13, 3) := by decide +kernel
theorem dX12_newYear_52 : decode cX12_newYear 52 = .ok (.bipush 88, 2) := by decide +kernel
theorem dX12_newYear_54 : decode cX12_newYear 54 = .ok (.iconst 0, 1) := by decide +kernel
theorem dX12_newYear_55 : decode cX12_newYear 55 = .ok (.iastore, 1) := by decide +kernel
theorem dX12_newYear_56 : decode cX12_newYear 56 = .ok (.aload_n 0, 1) := by decide +kernel
theorem dX12_newYear_57 : decode cX12_newYear 57 = .ok (.getfield 13, 3) := by decide +kernel
theorem dX12_newYear_60 : decode cX12_newYear 60 = .ok (.bipush 89, 2) := by decide +kernel
theorem dX12_newYear_62 : decode cX12_newYear 62 = .ok (.dup2, 1) := by decide +kernel
theorem dX12_newYear_63 : decode cX12_newYear 63 = .ok (.iaload, 1) := by decide +kernel
theorem dX12_newYear_64 : decode cX12_newYear 64 = .ok (.iconst 1, 1) := by decide +kernel
theorem dX12_newYear_65 : decode cX12_newYear 65 = .ok (.iadd, 1) := by decide +kernel
theorem dX12_newYear_66 : decode cX12_newYear 66 = .ok (.iastore, 1) := by decide +kernel
theorem dX12_newYear_67 : decode cX12_newYear 67 = .ok (.aload_n 0, 1) := by decide +kernel
theorem dX12_newYear_68 : decode cX12_newYear 68 = .ok (.invokevirtual 301, 3) := by decide +kernel
theorem dX12_newYear_71 : decode cX12_newYear 71 = .ok (.iload_n 1, 1) := by decide +kernel
theorem dX12_newYear_72 : decode cX12_newYear 72 = .ok (.ireturn, 1) := by decide +kernel
theorem dX12_noTray_0 : decode cX12_noTray 0 = .ok (.iload_n 1, 1) := by decide +kernel
theorem dX12_noTray_1 : decode cX12_noTray 1 = .ok (.i2l, 1) := by decide +kernel
theorem dX12_noTray_2 : decode cX12_noTray 2 = .ok (.lconst 0, 1) := by decide +kernel
theorem dX12_noTray_3 : decode cX12_noTray 3 = .ok (.ldc2_w 275, 3) := by decide +kernel
theorem dX12_noTray_6 : decode cX12_noTray 6 = .ok (.invokestatic 144, 3) := by decide +kernel
theorem dX12_noTray_9 : decode cX12_noTray 9 = .ok (.ifCond .ne 8, 3) := by decide +kernel
theorem dX12_noTray_12 : decode cX12_noTray 12 = .ok (.bipush (-2), 2) := by decide +kernel
theorem dX12_noTray_14 : decode cX12_noTray 14 = .ok (.goto 19, 3) := by decide +kernel
theorem dX12_noTray_17 : decode cX12_noTray 17 = .ok (.aload_n 0, 1) := by decide +kernel
theorem dX12_noTray_18 : decode cX12_noTray 18 = .ok (.getfield 69, 3) := by decide +kernel
theorem dX12_noTray_21 : decode cX12_noTray 21 = .ok (.iload_n 1, 1) := by decide +kernel
theorem dX12_noTray_22 : decode cX12_noTray 22 = .ok (.iaload, 1) := by decide +kernel
theorem dX12_noTray_23 : decode cX12_noTray 23 = .ok (.iconst (-1), 1) := by decide +kernel
theorem dX12_noTray_24 : decode cX12_noTray 24 = .ok (.if_icmp .ne 8, 3) := by decide +kernel
theorem dX12_noTray_27 : decode cX12_noTray 27 = .ok (.bipush (-6), 2) := by decide +kernel
theorem dX12_noTray_29 : decode cX12_noTray 29 = .ok (.goto 4, 3) := by decide +kernel
theorem dX12_noTray_32 : decode cX12_noTray 32 = .ok (.iconst 0, 1) := by decide +kernel
theorem dX12_noTray_33 : decode cX12_noTray 33 = .ok (.ireturn, 1) := by decide +kernel
theorem dX12_notes_0 : decode cX12_notes 0 = .ok (.aload_n 0, 1) := by decide +kernel
theorem dX12_notes_1 : decode cX12_notes 1 = .ok (.getfield 13, 3) := by decide +kernel
theorem dX12_notes_4 : decode cX12_notes 4 = .ok (.bipush 90, 2) := by decide +kernel
theorem dX12_notes_6 : decode cX12_notes 6 = .ok (.iaload, 1) := by decide +kernel
theorem dX12_notes_7 : decode cX12_notes 7 = .ok (.bipush 10, 2) := by decide +kernel
theorem dX12_notes_9 : decode cX12_notes 9 = .ok (.if_icmp .ne 47, 3) := by decide +kernel
theorem dX12_notes_12 : decode cX12_notes 12 = .ok (.iconst 0, 1) := by decide +kernel
theorem dX12_notes_13 : decode cX12_notes 13 = .ok (.istore_n 1, 1) := by decide +kernel
theorem dX12_notes_14 : decode cX12_notes 14 = .ok (.iload_n 1, 1) := by decide +kernel
theorem dX12_notes_15 : decode cX12_notes 15 = .ok (.sipush 279, 3) := by decide +kernel
theorem dX12_notes_18 : decode cX12_notes 18 = .ok (.if_icmp .ge 27, 3) := by decide +kernel
theorem dX12_notes_21 : decode cX12_notes 21 = .ok (.aload_n 0, 1) := by decide +kernel
theorem dX12_notes_22 : decode cX12_notes 22 = .ok (.getfield 13, 3) := by decide +kernel
theorem dX12_notes_25 : decode cX12_notes 25 = .ok (.bipush 91, 2) := by decide +kernel
theorem dX12_notes_27 : decode cX12_notes 27 = .ok (.iload_n 1, 1) := by decide +kernel
theorem dX12_notes_28 : decode cX12_notes 28 = .ok (.iadd, 1) := by decide +kernel
theorem dX12_notes_29 : decode cX12_notes 29 = .ok (.aload_n 0, 1) := by decide +kernel
theorem dX12_notes_30 : decode cX12_notes 30 = .ok (.getfield 13, 3) := by decide +kernel
theorem dX12_notes_33 : decode cX12_notes 33 = .ok (.bipush 122, 2) := by decide +kernel
theorem dX12_notes_35 : decode cX12_notes 35 = .ok (.iload_n 1, 1) := by decide +kernel
theorem dX12_notes_36 : decode cX12_notes 36 = .ok (.iadd, 1) := by decide +kernel
theorem dX12_notes_37 : decode cX12_notes 37 = .ok (.iaload, 1) := by decide +kernel
theorem dX12_notes_38 : decode cX12_notes 38 = .ok (.iastore, 1) := by decide +kernel
theorem dX12_notes_39 : decode cX12_notes 39 = .ok (.iinc 1 1, 3) := by decide +kernel
theorem dX12_notes_42 : decode cX12_notes 42 = .ok (.goto (-28), 3) := by decide +kernel
theorem dX12_notes_45 : decode cX12_notes 45 = .ok (.aload_n 0, 1) := by decide +kernel
theorem dX12_notes_46 : decode cX12_notes 46 = .ok (.getfield 13, 3) := by decide +kernel
theorem dX12_notes_49 : decode cX12_notes 49 = .ok (.bipush 90, 2) := by decide +kernel
theorem dX12_notes_51 : decode cX12_notes 51 = .ok (.dup2, 1) := by decide +kernel
theorem dX12_notes_52 : decode cX12_notes 52 = .ok (.iaload, 1) := by decide +kernel
theorem dX12_notes_53 : decode cX12_notes 53 = .ok (.iconst 1, 1) := by decide +kernel
theorem dX12_notes_54 : decode cX12_notes 54 = .ok (.isub, 1) := by decide +kernel
theorem dX12_notes_55 : decode cX12_notes 55 = .ok (.iastore, 1) := by decide +kernel
theorem dX12_notes_56 : decode cX12_notes 56 = .ok (.iconst 0, 1) := by decide +kernel
theorem dX12_notes_57 : decode cX12_notes 57 = .ok (.istore_n 1, 1) := by decide +kernel
theorem dX12_notes_58 : decode cX12_notes 58 = .ok (.iload_n 1, 1) := by decide +kernel
theorem dX12_notes_59 : decode cX12_notes 59 = .ok (.bipush 31, 2) := by decide +kernel
theorem dX12_notes_61 : decode cX12_notes 61 = .ok (.if_icmp .ge 35, 3) := by decide +kernel
theorem dX12_notes_64 : decode cX12_notes 64 = .ok (.aload_n 0, 1) := by decide +kernel
theorem dX12_notes_65 : decode cX12_notes 65 = .ok (.getfield 13, 3) := by decide +kernel
theorem dX12_notes_68 : decode cX12_notes 68 = .ok (.bipush 91, 2) := by decide +kernel
theorem dX12_notes_70 : decode cX12_notes 70 = .ok (.bipush 31, 2) := by decide +kernel
theorem dX12_notes_72 : decode cX12_notes 72 = .ok (.aload_n 0, 1) := by decide +kernel
theorem dX12_notes_73 : decode cX12_notes 73 = .ok (.getfield 13, 3) := by decide +kernel
theorem dX12_notes_76 : decode cX12_notes 76 = .ok (.bipush 90, 2) := by decide +kernel
theorem dX12_notes_78 : decode cX12_notes 78 = .ok (.iaload, 1) := by decide +kernel
theorem dX12_notes_79 : decode cX12_notes 79 = .ok (.imul, 1) := by decide +kernel
theorem dX12_notes_80 : decode cX12_notes 80 = .ok (.iadd, 1) := by decide +kernel
theorem dX12_notes_81 : decode cX12_notes 81 = .ok (.iload_n 1, 1) := by decide +kernel
theorem dX12_notes_82 : decode cX12_notes 82 = .ok (.iadd, 1) := by decide +kernel
theorem dX12_notes_83 : decode cX12_notes 83 = .ok (.aload_n 0, 1) := by decide +kernel
theorem dX12_notes_84 : decode cX12_notes 84 = .ok (.getfield 42, 3) := by decide +kernel
theorem dX12_notes_87 : decode cX12_notes 87 = .ok (.iload_n 1, 1) := by decide +kernel
theorem dX12_notes_88 : decode cX12_notes 88 = .ok (.iaload, 1) := by decide +kernel
theorem dX12_notes_89 : decode cX12_notes 89 = .ok (.iastore, 1) := by decide +kernel
theorem dX12_notes_90 : decode cX12_notes 90 = .ok (.iinc 1 1, 3) := by decide +kernel
theorem dX12_notes_93 : decode cX12_notes 93 = .ok (.goto (-35), 3) := by decide +kernel
theorem dX12_notes_96 : decode cX12_notes 96 = .ok (.aload_n 0, 1) := by decide +kernel
theorem dX12_notes_97 : decode cX12_notes 97 = .ok (.getfield 13, 3) := by decide +kernel
theorem dX12_notes_100 : decode cX12_notes 100 = .ok (.bipush 90, 2) := by decide +kernel
theorem dX12_notes_102 : decode cX12_notes 102 = .ok (.dup2, 1) := by decide +kernel
theorem dX12_notes_103 : decode cX12_notes 103 = .ok (.iaload, 1) := by decide +kernel
theorem dX12_notes_104 : decode cX12_notes 104 = .ok (.iconst 1, 1) := by decide +kernel
theorem dX12_notes_105 : decode cX12_notes 105 = .ok (.iadd, 1) := by decide +kernel
theorem dX12_notes_106 : decode cX12_notes 106 = .ok (.iastore, 1) := by decide +kernel
theorem dX12_notes_107 : decode cX12_notes 107 = .ok (.return_, 1) := by decide +kernel
theorem dX12_rain_0 : decode cX12_rain 0 = .ok (.aload_n 0, 1) := by decide +kernel
theorem dX12_rain_1 : decode cX12_rain 1 = .ok (.iconst 0, 1) := by decide +kernel
theorem dX12_rain_2 : decode cX12_rain 2 = .ok (.putfield 1, 3) := by decide +kernel
theorem dX12_rain_5 : decode cX12_rain 5 = .ok (.iload_n 1, 1) := by decide +kernel
theorem dX12_rain_6 : decode cX12_rain 6 = .ok (.i2l, 1) := by decide +kernel
theorem dX12_rain_7 : decode cX12_rain 7 = .ok (.lconst 1, 1) := by decide +kernel
theorem dX12_rain_8 : decode cX12_rain 8 = .ok (.ldc2_w 309, 3) := by decide +kernel
theorem dX12_rain_11 : decode cX12_rain 11 = .ok (.invokestatic 144, 3) := by decide +kernel
theorem dX12_rain_14 : decode cX12_rain 14 = .ok (.ifCond .ne 6, 3) := by decide +kernel
theorem dX12_rain_17 : decode cX12_rain 17 = .ok (.bipush (-3), 2) := by decide +kernel
theorem dX12_rain_19 : decode cX12_rain 19 = .ok (.ireturn, 1) := by decide +kernel
theorem dX12_rain_20 : decode cX12_rain 20 = .ok (.aload_n 0, 1) := by decide +kernel
theorem dX12_rain_21 : decode cX12_rain 21 = .ok (.invokevirtual 295, 3) := by decide +kernel
theorem dX12_rain_24 : decode cX12_rain 24 = .ok (.iconst 0, 1) := by decide +kernel
theorem dX12_rain_25 : decode cX12_rain 25 = .ok (.istore_n 2, 1) := by decide +kernel
theorem dX12_rain_26 : decode cX12_rain 26 = .ok (.iconst 0, 1) := by decide +kernel
theorem dX12_rain_27 : decode cX12_rain 27 = .ok (.istore_n 3, 1) := by decide +kernel
theorem dX12_rain_28 : decode cX12_rain 28 = .ok (.iload_n 3, 1) := by decide +kernel
theorem dX12_rain_29 : decode cX12_rain 29 = .ok (.iload_n 1, 1) := by decide +kernel
theorem dX12_rain_30 : decode cX12_rain 30 = .ok (.if_icmp .ge 24, 3) := by decide +kernel
theorem dX12_rain_33 : decode cX12_rain 33 = .ok (.iload_n 2, 1) := by decide +kernel
theorem dX12_rain_34 : decode cX12_rain 34 = .ok (.aload_n 0, 1) := by decide +kernel
theorem dX12_rain_35 : decode cX12_rain 35 = .ok (.invokevirtual 311, 3) := by decide +kernel
theorem dX12_rain_38 : decode cX12_rain 38 = .ok (.ifCond .eq 7, 3) := by decide +kernel
theorem dX12_rain_41 : decode cX12_rain 41 = .ok (.iconst 1, 1) := by decide +kernel
theorem dX12_rain_42 : decode cX12_rain 42 = .ok (.goto 4, 3) := by decide +kernel
theorem dX12_rain_45 : decode cX12_rain 45 = .ok (.iconst 0, 1) := by decide +kernel
theorem dX12_rain_46 : decode cX12_rain 46 = .ok (.iadd, 1) := by decide +kernel
theorem dX12_rain_47 : decode cX12_rain 47 = .ok (.istore_n 2, 1) := by decide +kernel
theorem dX12_rain_48 : decode cX12_rain 48 = .ok (.iinc 3 1, 3) := by decide +kernel
theorem dX12_rain_51 : decode cX12_rain 51 = .ok (.goto (-23), 3) := by decide +kernel
theorem dX12_rain_54 : decode cX12_rain 54 = .ok (.iload_n 2, 1) := by decide +kernel
theorem dX12_rain_55 : decode cX12_rain 55 = .ok (.ifCond .le 7, 3) := by decide +kernel
theorem dX12_rain_58 : decode cX12_rain 58 = .ok (.aload_n 0, 1) := by decide +kernel
theorem dX12_rain_59 : decode cX12_rain 59 = .ok (.invokevirtual 301, 3) := by decide +kernel
theorem dX12_rain_62 : decode cX12_rain 62 = .ok (.iload_n 2, 1) := by decide +kernel
theorem dX12_rain_63 : decode cX12_rain 63 = .ok (.ireturn, 1) := by decide +kernel
theorem dX12_rains_0 : decode cX12_rains 0 = .ok (.iconst (-1), 1) := by decide +kernel
theorem dX12_rains_1 : decode cX12_rains 1 = .ok (.istore_n 1, 1) := by decide +kernel
theorem dX12_rains_2 : decode cX12_rains 2 = .ok (.iconst 0, 1) := by decide +kernel
theorem dX12_rains_3 : decode cX12_rains 3 = .ok (.istore_n 2, 1) := by decide +kernel
theorem dX12_rains_4 : decode cX12_rains 4 = .ok (.iload_n 2, 1) := by decide +kernel
theorem dX12_rains_5 : decode cX12_rains 5 = .ok (.aload_n 0, 1) := by decide +kernel
theorem dX12_rains_6 : decode cX12_rains 6 = .ok (.getfield 13, 3) := by decide +kernel
theorem dX12_rains_9 : decode cX12_rains 9 = .ok (.iconst 1, 1) := by decide +kernel
theorem dX12_rains_10 : decode cX12_rains 10 = .ok (.iaload, 1) := by decide +kernel
theorem dX12_rains_11 : decode cX12_rains 11 = .ok (.if_icmp .ge 50, 3) := by decide +kernel
theorem dX12_rains_14 : decode cX12_rains 14 = .ok (.aload_n 0, 1) := by decide +kernel
theorem dX12_rains_15 : decode cX12_rains 15 = .ok (.getfield 13, 3) := by decide +kernel
theorem dX12_rains_18 : decode cX12_rains 18 = .ok (.bipush 59, 2) := by decide +kernel
theorem dX12_rains_20 : decode cX12_rains 20 = .ok (.iload_n 2, 1) := by decide +kernel
theorem dX12_rains_21 : decode cX12_rains 21 = .ok (.iadd, 1) := by decide +kernel
theorem dX12_rains_22 : decode cX12_rains 22 = .ok (.iaload, 1) := by decide +kernel
theorem dX12_rains_23 : decode cX12_rains 23 = .ok (.iconst (-1), 1) := by decide +kernel
theorem dX12_rains_24 : decode cX12_rains 24 = .ok (.if_icmp .eq 31, 3) := by decide +kernel
theorem dX12_rains_27 : decode cX12_rains 27 = .ok (.iload_n 1, 1) := by decide +kernel
theorem dX12_rains_28 : decode cX12_rains 28 = .ok (.iconst (-1), 1) := by decide +kernel
theorem dX12_rains_29 : decode cX12_rains 29 = .ok (.if_icmp .eq 24, 3) := by decide +kernel
theorem dX12_rains_32 : decode cX12_rains 32 = .ok (.aload_n 0, 1) := by decide +kernel
theorem dX12_rains_33 : decode cX12_rains 33 = .ok (.getfield 13, 3) := by decide +kernel
theorem dX12_rains_36 : decode cX12_rains 36 = .ok (.bipush 73, 2) := by decide +kernel
theorem dX12_rains_38 : decode cX12_rains 38 = .ok (.iload_n 2, 1) := by decide +kernel
theorem dX12_rains_39 : decode cX12_rains 39 = .ok (.iadd, 1) := by decide +kernel
theorem dX12_rains_40 : decode cX12_rains 40 = .ok (.iaload, 1) := by decide +kernel
theorem dX12_rains_41 : decode cX12_rains 41 = .ok (.aload_n 0, 1) := by decide +kernel
theorem dX12_rains_42 : decode cX12_rains 42 = .ok (.getfield 13, 3) := by decide +kernel
theorem dX12_rains_45 : decode cX12_rains 45 = .ok (.bipush 73, 2) := by decide +kernel
theorem dX12_rains_47 : decode cX12_rains 47 = .ok (.iload_n 1, 1) := by decide +kernel
theorem dX12_rains_48 : decode cX12_rains 48 = .ok (.iadd, 1) := by decide +kernel
theorem dX12_rains_49 : decode cX12_rains 49 = .ok (.iaload, 1) := by decide +kernel
theorem dX12_rains_50 : decode cX12_rains 50 = .ok (.if_icmp .ge 5, 3) := by decide +kernel
theorem dX12_rains_53 : decode cX12_rains 53 = .ok (.iload_n 2, 1) := by decide +kernel
theorem dX12_rains_54 : decode cX12_rains 54 = .ok (.istore_n 1, 1) := by decide +kernel
theorem dX12_rains_55 : decode cX12_rains 55 = .ok (.iinc 2 1, 3) := by decide +kernel
theorem dX12_rains_58 : decode cX12_rains 58 = .ok (.goto (-54), 3) := by decide +kernel
theorem dX12_rains_61 : decode cX12_rains 61 = .ok (.iload_n 1, 1) := by decide +kernel
theorem dX12_rains_62 : decode cX12_rains 62 = .ok (.iconst (-1), 1) := by decide +kernel
theorem dX12_rains_63 : decode cX12_rains 63 = .ok (.if_icmp .ne 5, 3) := by decide +kernel
theorem dX12_rains_66 : decode cX12_rains 66 = .ok (.iconst 0, 1) := by decide +kernel
theorem dX12_rains_67 : decode cX12_rains 67 = .ok (.ireturn, 1) := by decide +kernel
theorem dX12_rains_68 : decode cX12_rains 68 = .ok (.aload_n 0, 1) := by decide +kernel
theorem dX12_rains_69 : decode cX12_rains 69 = .ok (.getfield 13, 3) := by decide +kernel
theorem dX12_rains_72 : decode cX12_rains 72 = .ok (.bipush 59, 2) := by decide +kernel
theorem dX12_rains_74 : decode cX12_rains 74 = .ok (.iload_n 1, 1) := by decide +kernel
theorem dX12_rains_75 : decode cX12_rains 75 = .ok (.iadd, 1) := by decide +kernel
theorem dX12_rains_76 : decode cX12_rains 76 = .ok (.iconst (-1), 1) := by decide +kernel
theorem dX12_rains_77 : decode cX12_rains 77 = .ok (.iastore, 1) := by decide +kernel
theorem dX12_rains_78 : decode cX12_rains 78 = .ok (.aload_n 0, 1) := by decide +kernel
theorem dX12_rains_79 : decode cX12_rains 79 = .ok (.getfield 13, 3) := by decide +kernel
theorem dX12_rains_82 : decode cX12_rains 82 = .ok (.bipush 73, 2) := by decide +kernel
theorem dX12_rains_84 : decode cX12_rains 84 = .ok (.iload_n 1, 1) := by decide +kernel
theorem dX12_rains_85 : decode cX12_rains 85 = .ok (.iadd, 1) := by decide +kernel
theorem dX12_rains_86 : decode cX12_rains 86 = .ok (.iconst (-1), 1) := by decide +kernel
theorem dX12_rains_87 : decode cX12_rains 87 = .ok (.iastore, 1) := by decide +kernel
theorem dX12_rains_88 : decode cX12_rains 88 = .ok (.iconst 1, 1) := by decide +kernel
theorem dX12_rains_89 : decode cX12_rains 89 = .ok (.ireturn, 1) := by decide +kernel
theorem dX12_undo_0 : decode cX12_undo 0 = .ok (.aload_n 0, 1) := by decide +kernel
theorem dX12_undo_1 : decode cX12_undo 1 = .ok (.iconst 0, 1) := by decide +kernel
theorem dX12_undo_2 : decode cX12_undo 2 = .ok (.putfield 1, 3) := by decide +kernel
theorem dX12_undo_5 : decode cX12_undo 5 = .ok (.iload_n 1, 1) := by decide +kernel
theorem dX12_undo_6 : decode cX12_undo 6 = .ok (.i2l, 1) := by decide +kernel
theorem dX12_undo_7 : decode cX12_undo 7 = .ok (.lconst 1, 1) := by decide +kernel
theorem dX12_undo_8 : decode cX12_undo 8 = .ok (.ldc2_w 318, 3) := by decide +kernel
theorem dX12_undo_11 : decode cX12_undo 11 = .ok (.invokestatic 144, 3) := by decide +kernel
theorem dX12_undo_14 : decode cX12_undo 14 = .ok (.ifCond .eq 14, 3) := by decide +kernel
theorem dX12_undo_17 : decode cX12_undo 17 = .ok (.iload_n 1, 1) := by decide +kernel
theorem dX12_undo_18 : decode cX12_undo 18 = .ok (.aload_n 0, 1) := by decide +kernel
theorem dX12_undo_19 : decode cX12_undo 19 = .ok (.getfield 13, 3) := by decide +kernel
theorem dX12_undo_22 : decode cX12_undo 22 = .ok (.bipush 90, 2) := by decide +kernel
theorem dX12_undo_24 : decode cX12_undo 24 = .ok (.iaload, 1) := by decide +kernel
theorem dX12_undo_25 : decode cX12_undo 25 = .ok (.if_icmp .le 6, 3) := by decide +kernel
theorem dX12_undo_28 : decode cX12_undo 28 = .ok (.bipush (-3), 2) := by decide +kernel
theorem dX12_undo_30 : decode cX12_undo 30 = .ok (.ireturn, 1) := by decide +kernel
theorem dX12_undo_31 : decode cX12_undo 31 = .ok (.aload_n 0, 1) := by decide +kernel
theorem dX12_undo_32 : decode cX12_undo 32 = .ok (.getfield 13, 3) := by decide +kernel
theorem dX12_undo_35 : decode cX12_undo 35 = .ok (.bipush 90, 2) := by decide +kernel
theorem dX12_undo_37 : decode cX12_undo 37 = .ok (.dup2, 1) := by decide +kernel
theorem dX12_undo_38 : decode cX12_undo 38 = .ok (.iaload, 1) := by decide +kernel
theorem dX12_undo_39 : decode cX12_undo 39 = .ok (.iload_n 1, 1) := by decide +kernel
theorem dX12_undo_40 : decode cX12_undo 40 = .ok (.isub, 1) := by decide +kernel
theorem dX12_undo_41 : decode cX12_undo 41 = .ok (.iastore, 1) := by decide +kernel
theorem dX12_undo_42 : decode cX12_undo 42 = .ok (.iconst 0, 1) := by decide +kernel
theorem dX12_undo_43 : decode cX12_undo 43 = .ok (.istore_n 2, 1) := by decide +kernel
theorem dX12_undo_44 : decode cX12_undo 44 = .ok (.iload_n 2, 1) := by decide +kernel
theorem dX12_undo_45 : decode cX12_undo 45 = .ok (.bipush 31, 2) := by decide +kernel
theorem dX12_undo_47 : decode cX12_undo 47 = .ok (.if_icmp .ge 38, 3) := by decide +kernel
theorem dX12_undo_50 : decode cX12_undo 50 = .ok (.aload_n 0, 1) := by decide +kernel
theorem dX12_undo_51 : decode cX12_undo 51 = .ok (.getfield 13, 3) := by decide +kernel
theorem dX12_undo_54 : decode cX12_undo 54 = .ok (.bipush 59, 2) := by decide +kernel
theorem dX12_undo_56 : decode cX12_undo 56 = .ok (.iload_n 2, 1) := by decide +kernel
theorem dX12_undo_57 : decode cX12_undo 57 = .ok (.iadd, 1) := by decide +kernel
theorem dX12_undo_58 : decode cX12_undo 58 = .ok (.aload_n 0, 1) := by decide +kernel
theorem dX12_undo_59 : decode cX12_undo 59 = .ok (.getfield 13, 3) := by decide +kernel
theorem dX12_undo_62 : decode cX12_undo 62 = .ok (.bipush 91, 2) := by decide +kernel
theorem dX12_undo_64 : decode cX12_undo 64 = .ok (.bipush 31, 2) := by decide +kernel
theorem dX12_undo_66 : decode cX12_undo 66 = .ok (.aload_n 0, 1) := by decide +kernel
theorem dX12_undo_67 : decode cX12_undo 67 = .ok (.getfield 13, 3) := by decide +kernel
theorem dX12_undo_70 : decode cX12_undo 70 = .ok (.bipush 90, 2) := by decide +kernel
theorem dX12_undo_72 : decode cX12_undo 72 = .ok (.iaload, 1) := by decide +kernel
theorem dX12_undo_73 : decode cX12_undo 73 = .ok (.imul, 1) := by decide +kernel
theorem dX12_undo_74 : decode cX12_undo 74 = .ok (.iadd, 1) := by decide +kernel
theorem dX12_undo_75 : decode cX12_undo 75 = .ok (.iload_n 2, 1) := by decide +kernel
theorem dX12_undo_76 : decode cX12_undo 76 = .ok (.iadd, 1) := by decide +kernel
theorem dX12_undo_77 : decode cX12_undo 77 = .ok (.iaload, 1) := by decide +kernel
theorem dX12_undo_78 : decode cX12_undo 78 = .ok (.iastore, 1) := by decide +kernel
theorem dX12_undo_79 : decode cX12_undo 79 = .ok (.iinc 2 1, 3) := by decide +kernel
theorem dX12_undo_82 : decode cX12_undo 82 = .ok (.goto (-38), 3) := by decide +kernel
theorem dX12_undo_85 : decode cX12_undo 85 = .ok (.aload_n 0, 1) := by decide +kernel
theorem dX12_undo_86 : decode cX12_undo 86 = .ok (.getfield 13, 3) := by decide +kernel
theorem dX12_undo_89 : decode cX12_undo 89 = .ok (.bipush 90, 2) := by decide +kernel
theorem dX12_undo_91 : decode cX12_undo 91 = .ok (.iaload, 1) := by decide +kernel
theorem dX12_undo_92 : decode cX12_undo 92 = .ok (.ireturn, 1) := by decide +kernel
theorem dX12_usesRow_0 : decode cX12_usesRow 0 = .ok (.iconst 0, 1) := by decide +kernel
theorem dX12_usesRow_1 : decode cX12_usesRow 1 = .ok (.istore_n 2, 1) := by decide +kernel
theorem dX12_usesRow_2 : decode cX12_usesRow 2 = .ok (.iconst 0, 1) := by decide +kernel
theorem dX12_usesRow_3 : decode cX12_usesRow 3 = .ok (.istore_n 3, 1) := by decide +kernel
theorem dX12_usesRow_4 : decode cX12_usesRow 4 = .ok (.iload_n 3, 1) := by decide +kernel
theorem dX12_usesRow_5 : decode cX12_usesRow 5 = .ok (.aload_n 0, 1) := by decide +kernel
theorem dX12_usesRow_6 : decode cX12_usesRow 6 = .ok (.getfield 266, 3) := by decide +kernel
theorem dX12_usesRow_9 : decode cX12_usesRow 9 = .ok (.if_icmp .ge 68, 3) := by decide +kernel
theorem dX12_usesRow_12 : decode cX12_usesRow 12 = .ok (.aload_n 0, 1) := by decide +kernel
theorem dX12_usesRow_13 : decode cX12_usesRow 13 = .ok (.invokevirtual 272, 3) := by decide +kernel
theorem dX12_usesRow_16 : decode cX12_usesRow 16 = .ok (.i2l, 1) := by decide +kernel
theorem dX12_usesRow_17 : decode cX12_usesRow 17 = .ok (.aload_n 0, 1) := by decide +kernel
theorem dX12_usesRow_18 : decode cX12_usesRow 18 = .ok (.getfield 39, 3) := by decide +kernel
theorem dX12_usesRow_21 : decode cX12_usesRow 21 = .ok (.iload_n 3, 1) := by decide +kernel
theorem dX12_usesRow_22 : decode cX12_usesRow 22 = .ok (.iaload, 1) := by decide +kernel
theorem dX12_usesRow_23 : decode cX12_usesRow 23 = .ok (.invokestatic 186, 3) := by decide +kernel
theorem dX12_usesRow_26 : decode cX12_usesRow 26 = .ok (.ifCond .eq 6, 3) := by decide +kernel
theorem dX12_usesRow_29 : decode cX12_usesRow 29 = .ok (.goto 42, 3) := by decide +kernel
theorem dX12_usesRow_32 : decode cX12_usesRow 32 = .ok (.aload_n 0, 1) := by decide +kernel
theorem dX12_usesRow_33 : decode cX12_usesRow 33 = .ok (.getfield 13, 3) := by decide +kernel
theorem dX12_usesRow_36 : decode cX12_usesRow 36 = .ok (.bipush 59, 2) := by decide +kernel
theorem dX12_usesRow_38 : decode cX12_usesRow 38 = .ok (.aload_n 0, 1) := by decide +kernel
theorem dX12_usesRow_39 : decode cX12_usesRow 39 = .ok (.getfield 39, 3) := by decide +kernel
theorem dX12_usesRow_42 : decode cX12_usesRow 42 = .ok (.iload_n 3, 1) := by decide +kernel
theorem dX12_usesRow_43 : decode cX12_usesRow 43 = .ok (.iaload, 1) := by decide +kernel
theorem dX12_usesRow_44 : decode cX12_usesRow 44 = .ok (.iadd, 1) := by decide +kernel
theorem dX12_usesRow_45 : decode cX12_usesRow 45 = .ok (.iload_n 1, 1) := by decide +kernel
theorem dX12_usesRow_46 : decode cX12_usesRow 46 = .ok (.iastore, 1) := by decide +kernel
theorem dX12_usesRow_47 : decode cX12_usesRow 47 = .ok (.aload_n 0, 1) := by decide +kernel
theorem dX12_usesRow_48 : decode cX12_usesRow 48 = .ok (.getfield 13, 3) := by decide +kernel
theorem dX12_usesRow_51 : decode cX12_usesRow 51 = .ok (.bipush 73, 2) := by decide +kernel
theorem dX12_usesRow_53 : decode cX12_usesRow 53 = .ok (.aload_n 0, 1) := by decide +kernel
theorem dX12_usesRow_54 : decode cX12_usesRow 54 = .ok (.getfield 39, 3) := by decide +kernel
theorem dX12_usesRow_57 : decode cX12_usesRow 57 = .ok (.iload_n 3, 1) := by decide +kernel
theorem dX12_usesRow_58 : decode cX12_usesRow 58 = .ok (.iaload, 1) := by decide +kernel
theorem dX12_usesRow_59 : decode cX12_usesRow 59 = .ok (.iadd, 1) := by decide +kernel
theorem dX12_usesRow_60 : decode cX12_usesRow 60 = .ok (.aload_n 0, 1) := by decide +kernel
theorem dX12_usesRow_61 : decode cX12_usesRow 61 = .ok (.getfield 13, 3) := by decide +kernel
theorem dX12_usesRow_64 : decode cX12_usesRow 64 = .ok (.bipush 88, 2) := by decide +kernel
theorem dX12_usesRow_66 : decode cX12_usesRow 66 = .ok (.iaload, 1) := by decide +kernel
theorem dX12_usesRow_67 : decode cX12_usesRow 67 = .ok (.iastore, 1) := by decide +kernel
theorem dX12_usesRow_68 : decode cX12_usesRow 68 = .ok (.iinc 2 1, 3) := by decide +kernel
theorem dX12_usesRow_71 : decode cX12_usesRow 71 = .ok (.iinc 3 1, 3) := by decide +kernel
theorem dX12_usesRow_74 : decode cX12_usesRow 74 = .ok (.goto (-70), 3) := by decide +kernel
theorem dX12_usesRow_77 : decode cX12_usesRow 77 = .ok (.iload_n 2, 1) := by decide +kernel
theorem dX12_usesRow_78 : decode cX12_usesRow 78 = .ok (.ireturn, 1) := by decide +kernel
theorem kw_1242 : Cond.fieldLink "FootholdWallModel" 39 "FootholdWallModel" "row" "[I" ∈ gw := gw_of (tb_of 1242 (by decide +kernel)) (by decide +kernel)
theorem kw_1243 : Cond.fieldLink "FootholdWallModel" 266 "FootholdWallModel" "rowMany1" "I" ∈ gw := gw_of (tb_of 1243 (by decide +kernel)) (by decide +kernel)
theorem kw_1244 : Cond.fieldLink "FootholdWallModel" 42 "FootholdWallModel" "was" "[I" ∈ gw := gw_of (tb_of 1244 (by decide +kernel)) (by decide +kernel)
theorem kw_1245 : Cond.fieldLink "FootholdWallModel" 45 "FootholdWallModel" "ahead" "[I" ∈ gw := gw_of (tb_of 1245 (by decide +kernel)) (by decide +kernel)
theorem kw_1248 : Cond.fieldLink "FootholdWallModel" 321 "FootholdWallModel" "x" "I" ∈ gw := gw_of (tb_of 1248 (by decide +kernel)) (by decide +kernel)
theorem kw_1256 : Cond.fieldLink "FootholdWallModel" 69 "FootholdWallModel" "rowSort" "[I" ∈ gw := gw_of (tb_of 1256 (by decide +kernel)) (by decide +kernel)
theorem kw_1527 : Cond.constantLong "FootholdWallModel" 275 3 ∈ gw := gw_of (tb_of 1527 (by decide +kernel)) (by decide +kernel)
theorem kw_1536 : Cond.methodLink "FootholdWallModel" 272 yX12_ends ∈ gw := gw_of (tb_of 1536 (by decide +kernel)) (by decide +kernel)
theorem kw_1538 : Cond.instanceMethod yX12_ends ∈ gw := gw_of (tb_of 1538 (by decide +kernel)) (by decide +kernel)
theorem kw_1539 : Cond.code yX12_ends cX12_ends 1 (some (.int)) ∈ gw := gw_of (tb_of 1539 (by decide +kernel)) (by decide +kernel)
theorem kw_1544 : Cond.methodLink "FootholdWallModel" 295 yX12_keeps ∈ gw := gw_of (tb_of 1544 (by decide +kernel)) (by decide +kernel)
theorem kw_1546 : Cond.instanceMethod yX12_keeps ∈ gw := gw_of (tb_of 1546 (by decide +kernel)) (by decide +kernel)
theorem kw_1547 : Cond.code yX12_keeps cX12_keeps 2 none ∈ gw := gw_of (tb_of 1547 (by decide +kernel)) (by decide +kernel)
theorem kw_1552 : Cond.methodLink "FootholdWallModel" 301 yX12_notes ∈ gw := gw_of (tb_of 1552 (by decide +kernel)) (by decide +kernel)
theorem kw_1554 : Cond.instanceMethod yX12_notes ∈ gw := gw_of (tb_of 1554 (by decide +kernel)) (by decide +kernel)
theorem kw_1555 : Cond.code yX12_notes cX12_notes 2 none ∈ gw := gw_of (tb_of 1555 (by decide +kernel)) (by decide +kernel)
theorem kw_1576 : Cond.constantLong "FootholdWallModel" 307 99 ∈ gw := gw_of (tb_of 1576 (by decide +kernel)) (by decide +kernel)
theorem kw_1581 : Cond.constantLong "FootholdWallModel" 309 14 ∈ gw := gw_of (tb_of 1581 (by decide +kernel)) (by decide +kernel)
theorem kw_1582 : Cond.methodLink "FootholdWallModel" 311 yX12_rains ∈ gw := gw_of (tb_of 1582 (by decide +kernel)) (by decide +kernel)
theorem kw_1584 : Cond.instanceMethod yX12_rains ∈ gw := gw_of (tb_of 1584 (by decide +kernel)) (by decide +kernel)
theorem kw_1585 : Cond.code yX12_rains cX12_rains 3 (some (.boolean)) ∈ gw := gw_of (tb_of 1585 (by decide +kernel)) (by decide +kernel)
theorem kw_1602 : Cond.constantLong "FootholdWallModel" 318 10 ∈ gw := gw_of (tb_of 1602 (by decide +kernel)) (by decide +kernel)
theorem kw_1612 : Cond.constant "FootholdWallModel" 320 1103515245 ∈ gw := gw_of (tb_of 1612 (by decide +kernel)) (by decide +kernel)
theorem ks_78 : Cond.selects RX12 yX12_ends yX12_ends ∈ gw := gw_of (pv_of 78 (by decide +kernel)) (by decide +kernel)
theorem ks_79 : Cond.selects RX12 yX12_keeps yX12_keeps ∈ gw := gw_of (pv_of 79 (by decide +kernel)) (by decide +kernel)
theorem ks_81 : Cond.selects RX12 yX12_notes yX12_notes ∈ gw := gw_of (pv_of 81 (by decide +kernel)) (by decide +kernel)
theorem ks_85 : Cond.selects RX12 yX12_rains yX12_rains ∈ gw := gw_of (pv_of 85 (by decide +kernel)) (by decide +kernel)
set_option maxHeartbeats 4000000 in
set_option maxRecDepth 100000 in
theorem s_M_usesRow (l : Launch) (D : va_G) (cs : CS) (kf : KF) (T : TF) (O : List Nat) (X : va_W) (a0 hg mq : Nat) (x1 : Int32) (t_a0 : T a0 = some (22, hg, mq)) (b_hg : hg < 90) (hO : okO T O [1, 8, 22]) : TK l D cs kf yX12_usesRow cX12_usesRow 4 (some (.int)) { frames := 1, cells := 0, slots := 0, locals := 22 } [.ref a0, .int x1] T O X (Ti D cs (fun r u => u = (T, O, X))) := by
  refine tk_of (by decide) (Nat.le_of_ble_eq_true rfl) (fun p e s m below meth c ls A H locs hx hb hr hml hown hts hlocks hnm hkb hH hS hA hOX hks hE hl => ?_)
  have hown : s.vm.findClass RX12 = some m.cls := hown
  have hl : lv_has ls 4 [(0, .ref a0), (1, .int x1)] := hl
  refine lv_iconst (v := 0) hx hb dX12_usesRow_0 (by decide) ?_
  refine lv_istore_n (lv' := [(2, .int 0), (0, .ref a0), (1, .int x1)]) hx hb dX12_usesRow_1 rfl hl (by decide) rfl (fun ls hl => ?_)
  refine lv_iconst (v := 0) hx hb dX12_usesRow_2 (by decide) ?_
  have J4 : ∀ (n : Nat) (p4_3 : Int32) (p4_2 : Int32) (H : Heap) (locs : List Loc) (ls : Array Slot), (14 - p4_3.toInt).toNat = n → (0 ≤ p4_3.toInt) → (p4_3.toInt ≤ 14) → HT D cs A T O X H → va_S A s.heap H locs → lv_has ls 4 [(3, .int p4_3), (2, .int p4_2), (0, .ref a0), (1, .int x1)] → W p l e { frames := 1, cells := 0, slots := 0, locals := 22 } s m [.ref a0, .int x1].toArray below meth c H locs 0 0 (MQ below (Ti D cs (fun r u => u = (T, O, X)) A) [.ref a0, .int x1].toArray s 0 0 A) (F0 m 4 ls []) := by
    intro n
    induction n using Nat.strongRecOn with
    | _ n ih4 =>
      intro p4_3 p4_2 H locs ls hm4 l_p4_3 u_p4_3 hH hS hl
      refine lv_iload_n hx hb dX12_usesRow_4 rfl (lv_at hl 0 rfl) ?_
      refine lv_aload_n hx hb dX12_usesRow_5 rfl (lv_at hl 2 rfl) ?_
      refine t_get (ci := 12) (lst := ft12 hg mq) (C := RX12) (F := TX12) (N := 36) hx hb hts uX12 hown hkb hH t_a0 (hO.no t_a0 (by decide)) (fun _ h9 => h9) rfl rfl 20 (by decide) rfl kw_1243 (fun _ h9 => h9) dX12_usesRow_6 (fun v9 h9 => ?_)
      obtain ⟨v6, rfl, l_v6, u_v6⟩ := h9
      refine lv_icmp_ge (tgt := 77) hx hb dX12_usesRow_9 (by decide) (fun c9 => ?_) (fun c9 => ?_)
      · skip
        have fuc9 := full_i p4_3
        have fvc9 := full_i v6
        have tc9 := g_le c9
        refine lv_iload_n hx hb dX12_usesRow_77 rfl (lv_at hl 1 rfl) ?_
        exact te_i hx hb hr hlocks hH hS (rfl) dX12_usesRow_78
      · skip
        have fuc9 := full_i p4_3
        have fvc9 := full_i v6
        have tc9 := g_nle c9
        refine lv_aload_n hx hb dX12_usesRow_12 rfl (lv_at hl 2 rfl) ?_
        refine tk_i hH hS hA (tr_V (n := 0) (As := []) hx hb hml hown hts hkb hH hOX hks hE hS hA (s_M_ends l D cs kf T O X a0 hg mq t_a0 b_hg (hO.sub (by decide))) kw_1536 kw_1538 ks_78 kw_13 kw_1539 (by decide +kernel) ⟨Nat.le_of_ble_eq_true rfl, Nat.le_of_ble_eq_true rfl⟩ (HT.recv (ci := 12) hkb hH t_a0 (hO.no t_a0 (by decide)) rfl) rfl rfl hl.1 (Nat.le_of_ble_eq_true rfl) dX12_usesRow_13 ⟨Nat.le_of_ble_eq_true rfl, Nat.le_of_ble_eq_true rfl⟩) (fun v13 u H locs hz9 hH hS => ?_)
        obtain ⟨rfl, l_v13, u_v13⟩ := hz9
        have hH : HT D cs A T O X H := hH
        refine W.widen (k := 0) (n := 0) (Nat.le_of_ble_eq_true rfl) (Nat.le_of_ble_eq_true rfl) ?_
        refine lv_i2l hx hb dX12_usesRow_16 rfl ?_
        refine lv_aload_n hx hb dX12_usesRow_17 rfl (lv_at hl 2 rfl) ?_
        refine t_get (ci := 12) (lst := ft12 hg mq) (C := RX12) (F := TX12) (N := 36) hx hb hts uX12 hown hkb hH t_a0 (hO.no t_a0 (by decide)) (fun _ h9 => h9) rfl rfl 19 (by decide) rfl kw_1242 (fun _ h9 => h9) dX12_usesRow_18 (fun v9 h9 => ?_)
        obtain ⟨v18, rfl, t_v18⟩ := h9
        refine lv_iload_n hx hb dX12_usesRow_21 rfl (lv_at hl 0 rfl) ?_
        refine t_ild hx hb hkb hH t_v18 (hO.no t_v18 (by decide)) (by omega) (by omega) dX12_usesRow_22 (fun v22 h9 => ?_)
        have tv22 : 0 ≤ v22.toInt ∧ v22.toInt ≤ 13 := h9
        refine tk_i hH hS hA (tr_S (n := 2) (As := [.long v13.toInt64, .int v22]) hx hb hml hown hts hkb hH hOX hks hE hS hA (s_M_isIn2 l D cs kf T O X v13.toInt64 v22  (hO.sub (by decide))) kw_1440 kw_1441 kw_13 kw_1442 (by decide +kernel) ⟨Nat.le_of_ble_eq_true rfl, Nat.le_of_ble_eq_true rfl⟩ rfl rfl hl.1 (Nat.le_of_ble_eq_true rfl) dX12_usesRow_23 ⟨Nat.le_of_ble_eq_true rfl, Nat.le_of_ble_eq_true rfl⟩) (fun v23 u H locs hz9 hH hS => ?_)
        obtain ⟨rfl, l_v23, u_v23, x_v230⟩ := hz9
        have hH : HT D cs A T O X H := hH
        refine W.widen (k := 0) (n := 0) (Nat.le_of_ble_eq_true rfl) (Nat.le_of_ble_eq_true rfl) ?_
        have J71 : ∀ (p71_2 : Int32) (H : Heap) (locs : List Loc) (ls : Array Slot), HT D cs A T O X H → va_S A s.heap H locs → lv_has ls 4 [(3, .int p4_3), (2, .int p71_2), (0, .ref a0), (1, .int x1)] → W p l e { frames := 1, cells := 0, slots := 0, locals := 22 } s m [.ref a0, .int x1].toArray below meth c H locs 0 0 (MQ below (Ti D cs (fun r u => u = (T, O, X)) A) [.ref a0, .int x1].toArray s 0 0 A) (F0 m 71 ls []) := by
          intro p71_2 H locs ls  hH hS hl
          obtain ⟨v71, ev71⟩ : ∃ y : Int32, y = p4_3 + 1 := ⟨_, rfl⟩
          have tv71 : v71.toInt = p4_3.toInt + (1) := by rw [ev71]; exact add_i rfl (by decide) (by omega) (by omega)
          refine lv_iinc (v := v71) (lv' := [(3, .int v71), (2, .int p71_2), (0, .ref a0), (1, .int x1)]) hx hb dX12_usesRow_71 hl (k := 0) rfl (by rw [ev71]; rfl) (by decide) rfl (fun ls hl => ?_)
          refine lv_goto (tgt := 4) hx hb dX12_usesRow_74 (by decide) ?_
          exact ih4 _ (by omega) v71 p71_2 _ _ _ rfl (by omega) (by omega) hH hS (lv_sub hl [0, 1, 2, 3] rfl)
        refine lv_if_eq (tgt := 32) hx hb dX12_usesRow_26 (by decide) (fun c26 => ?_) (fun c26 => ?_)
        · skip
          have tc26 := f_eq (k := 0) (by decide) c26
          refine lv_aload_n hx hb dX12_usesRow_32 rfl (lv_at hl 2 rfl) ?_
          refine t_get (ci := 12) (lst := ft12 hg mq) (C := RX12) (F := TX12) (N := 36) hx hb hts uX12 hown hkb hH t_a0 (hO.no t_a0 (by decide)) (fun _ h9 => h9) rfl rfl 1 (by decide) rfl kw_1224 (fun _ h9 => h9) dX12_usesRow_33 (fun v9 h9 => ?_)
          obtain ⟨v33, rfl, t_v33⟩ := h9
          refine lv_bipush (v := 59) hx hb dX12_usesRow_36 (by decide) ?_
          refine lv_aload_n hx hb dX12_usesRow_38 rfl (lv_at hl 2 rfl) ?_
          refine t_get (ci := 12) (lst := ft12 hg mq) (C := RX12) (F := TX12) (N := 36) hx hb hts uX12 hown hkb hH t_a0 (hO.no t_a0 (by decide)) (fun _ h9 => h9) rfl rfl 19 (by decide) rfl kw_1242 (fun _ h9 => h9) dX12_usesRow_39 (fun v9 h9 => ?_)
          obtain ⟨v39, rfl, t_v39⟩ := h9
          refine lv_iload_n hx hb dX12_usesRow_42 rfl (lv_at hl 0 rfl) ?_
          refine t_ild hx hb hkb hH t_v39 (hO.no t_v39 (by decide)) (by omega) (by omega) dX12_usesRow_43 (fun v43 h9 => ?_)
          have tv43 : 0 ≤ v43.toInt ∧ v43.toInt ≤ 13 := h9
          refine lv_iadd hx hb dX12_usesRow_44 ?_
          refine lv_topi (fun v44 ev44 => ?_)
          have tv44 : v44.toInt = (59) + v43.toInt := by rw [ev44]; exact add_i (by decide : (59 : Int32).toInt = 59) rfl (by omega) (by omega)
          refine lv_iload_n hx hb dX12_usesRow_45 rfl (lv_at hl 3 rfl) ?_
          refine t_ist8 hx hb hkb hH hS t_v33 (hO.no t_v33 (by decide)) (by decide) (by omega) (by omega) (by omega) (by omega) (p8_far (by omega) (by omega)) dX12_usesRow_46 (fun H locs hH hS => ?_)
          refine lv_aload_n hx hb dX12_usesRow_47 rfl (lv_at hl 2 rfl) ?_
          refine t_get (ci := 12) (lst := ft12 hg mq) (C := RX12) (F := TX12) (N := 36) hx hb hts uX12 hown hkb hH t_a0 (hO.no t_a0 (by decide)) (fun _ h9 => h9) rfl rfl 1 (by decide) rfl kw_1224 (fun _ h9 => h9) dX12_usesRow_48 (fun v9 h9 => ?_)
          obtain ⟨v48, rfl, t_v48⟩ := h9
          refine lv_bipush (v := 73) hx hb dX12_usesRow_51 (by decide) ?_
          refine lv_aload_n hx hb dX12_usesRow_53 rfl (lv_at hl 2 rfl) ?_
          refine t_get (ci := 12) (lst := ft12 hg mq) (C := RX12) (F := TX12) (N := 36) hx hb hts uX12 hown hkb hH t_a0 (hO.no t_a0 (by decide)) (fun _ h9 => h9) rfl rfl 19 (by decide) rfl kw_1242 (fun _ h9 => h9) dX12_usesRow_54 (fun v9 h9 => ?_)
          obtain ⟨v54, rfl, t_v54⟩ := h9
          refine lv_iload_n hx hb dX12_usesRow_57 rfl (lv_at hl 0 rfl) ?_
          refine t_ild hx hb hkb hH t_v54 (hO.no t_v54 (by decide)) (by omega) (by omega) dX12_usesRow_58 (fun v58 h9 => ?_)
          have tv58 : 0 ≤ v58.toInt ∧ v58.toInt ≤ 13 := h9
          refine lv_iadd hx hb dX12_usesRow_59 ?_
          refine lv_topi (fun v59 ev59 => ?_)
          have tv59 : v59.toInt = (73) + v58.toInt := by rw [ev59]; exact add_i (by decide : (73 : Int32).toInt = 73) rfl (by omega) (by omega)
          refine lv_aload_n hx hb dX12_usesRow_60 rfl (lv_at hl 2 rfl) ?_
          refine t_get (ci := 12) (lst := ft12 hg mq) (C := RX12) (F := TX12) (N := 36) hx hb hts uX12 hown hkb hH t_a0 (hO.no t_a0 (by decide)) (fun _ h9 => h9) rfl rfl 1 (by decide) rfl kw_1224 (fun _ h9 => h9) dX12_usesRow_61 (fun v9 h9 => ?_)
          obtain ⟨v61, rfl, t_v61⟩ := h9
          refine lv_bipush (v := 88) hx hb dX12_usesRow_64 (by decide) ?_
          refine t_ild8 hx hb hkb hH t_v61 (hO.no t_v61 (by decide)) (by decide) (by decide) (by decide) dX12_usesRow_66 (fun v66 h9 h8 => ?_)
          refine t_ist8 hx hb hkb hH hS t_v48 (hO.no t_v48 (by decide)) (by decide) (by omega) (by omega) (by omega) (by omega) (p8_far (by omega) (by omega)) dX12_usesRow_67 (fun H locs hH hS => ?_)
          obtain ⟨v68, ev68⟩ : ∃ y : Int32, y = p4_2 + 1 := ⟨_, rfl⟩
          refine lv_iinc (v := v68) (lv' := [(2, .int v68), (3, .int p4_3), (0, .ref a0), (1, .int x1)]) hx hb dX12_usesRow_68 hl (k := 1) rfl (by rw [ev68]; rfl) (by decide) rfl (fun ls hl => ?_)
          exact J71 v68 _ _ _  hH hS (lv_sub hl [1, 0, 2, 3] rfl)
        · skip
          have tc26 := f_ne (k := 0) (by decide) c26
          refine lv_goto (tgt := 71) hx hb dX12_usesRow_29 (by decide) ?_
          exact J71 p4_2 _ _ _  hH hS (lv_sub hl [0, 1, 2, 3] rfl)
  refine lv_istore_n (lv' := [(3, .int 0), (2, .int 0), (0, .ref a0), (1, .int x1)]) hx hb dX12_usesRow_3 rfl hl (by decide) rfl (fun ls hl => ?_)
  exact J4 _ 0 0 _ _ _ rfl (by decide) (by decide) hH hS (lv_sub hl [0, 1, 2, 3] rfl)
set_option maxHeartbeats 4000000 in
set_option maxRecDepth 100000 in
theorem s_M_keeps (l : Launch) (D : va_G) (cs : CS) (kf : KF) (T : TF) (O : List Nat) (X : va_W) (a0 hg mq : Nat) (t_a0 : T a0 = some (22, hg, mq)) (b_hg : hg < 90) (hO : okO T O [1, 8, 22]) : TK l D cs kf yX12_keeps cX12_keeps 2 none { frames := 0, cells := 0, slots := 0, locals := 0 } [.ref a0] T O X (Tv D cs (fun u => u = (T, O, X))) := by
  refine tk_of (by decide) (Nat.le_of_ble_eq_true rfl) (fun p e s m below meth c ls A H locs hx hb hr hml hown hts hlocks hnm hkb hH hS hA hOX hks hE hl => ?_)
  have hown : s.vm.findClass RX12 = some m.cls := hown
  have hl : lv_has ls 2 [(0, .ref a0)] := hl
  refine lv_iconst (v := 0) hx hb dX12_keeps_0 (by decide) ?_
  have J2 : ∀ (n : Nat) (p2_1 : Int32) (H : Heap) (locs : List Loc) (ls : Array Slot), (31 - p2_1.toInt).toNat = n → (0 ≤ p2_1.toInt) → (p2_1.toInt ≤ 31) → HT D cs A T O X H → va_S A s.heap H locs → lv_has ls 2 [(1, .int p2_1), (0, .ref a0)] → W p l e { frames := 0, cells := 0, slots := 0, locals := 0 } s m [.ref a0].toArray below meth c H locs 0 0 (MQ below (Tv D cs (fun u => u = (T, O, X)) A) [.ref a0].toArray s 0 0 A) (F0 m 2 ls []) := by
    intro n
    induction n using Nat.strongRecOn with
    | _ n ih2 =>
      intro p2_1 H locs ls hm2 l_p2_1 u_p2_1 hH hS hl
      refine lv_iload_n hx hb dX12_keeps_2 rfl (lv_at hl 0 rfl) ?_
      refine lv_bipush (v := 31) hx hb dX12_keeps_3 (by decide) ?_
      refine lv_icmp_ge (tgt := 29) hx hb dX12_keeps_5 (by decide) (fun c5 => ?_) (fun c5 => ?_)
      · skip
        have tc5 := f_ge (k := 31) (by decide) c5
        exact te_v hx hb hr hlocks hH hS rfl dX12_keeps_29
      · skip
        have tc5 := f_nge (k := 31) (by decide) c5
        refine lv_aload_n hx hb dX12_keeps_8 rfl (lv_at hl 1 rfl) ?_
        refine t_get (ci := 12) (lst := ft12 hg mq) (C := RX12) (F := TX12) (N := 36) hx hb hts uX12 hown hkb hH t_a0 (hO.no t_a0 (by decide)) (fun _ h9 => h9) rfl rfl 21 (by decide) rfl kw_1244 (fun _ h9 => h9) dX12_keeps_9 (fun v9 h9 => ?_)
        obtain ⟨v9, rfl, t_v9⟩ := h9
        refine lv_iload_n hx hb dX12_keeps_12 rfl (lv_at hl 0 rfl) ?_
        refine lv_aload_n hx hb dX12_keeps_13 rfl (lv_at hl 1 rfl) ?_
        refine t_get (ci := 12) (lst := ft12 hg mq) (C := RX12) (F := TX12) (N := 36) hx hb hts uX12 hown hkb hH t_a0 (hO.no t_a0 (by decide)) (fun _ h9 => h9) rfl rfl 1 (by decide) rfl kw_1224 (fun _ h9 => h9) dX12_keeps_14 (fun v9 h9 => ?_)
        obtain ⟨v14, rfl, t_v14⟩ := h9
        refine lv_bipush (v := 59) hx hb dX12_keeps_17 (by decide) ?_
        refine lv_iload_n hx hb dX12_keeps_19 rfl (lv_at hl 0 rfl) ?_
        refine lv_iadd hx hb dX12_keeps_20 ?_
        refine lv_topi (fun v20 ev20 => ?_)
        have tv20 : v20.toInt = (59) + p2_1.toInt := by rw [ev20]; exact add_i (by decide : (59 : Int32).toInt = 59) rfl (by omega) (by omega)
        refine t_ild8 hx hb hkb hH t_v14 (hO.no t_v14 (by decide)) (by decide) (by omega) (by omega) dX12_keeps_21 (fun v21 h9 h8 => ?_)
        refine t_ist hx hb hkb hH hS t_v9 (hO.no t_v9 (by decide)) (by omega) (by omega) (cp_0 _) dX12_keeps_22 (fun H locs hH hS => ?_)
        obtain ⟨v23, ev23⟩ : ∃ y : Int32, y = p2_1 + 1 := ⟨_, rfl⟩
        have tv23 : v23.toInt = p2_1.toInt + (1) := by rw [ev23]; exact add_i rfl (by decide) (by omega) (by omega)
        refine lv_iinc (v := v23) (lv' := [(1, .int v23), (0, .ref a0)]) hx hb dX12_keeps_23 hl (k := 0) rfl (by rw [ev23]; rfl) (by decide) rfl (fun ls hl => ?_)
        refine lv_goto (tgt := 2) hx hb dX12_keeps_26 (by decide) ?_
        exact ih2 _ (by omega) v23 _ _ _ rfl (by omega) (by omega) hH hS (lv_sub hl [0, 1] rfl)
  refine lv_istore_n (lv' := [(1, .int 0), (0, .ref a0)]) hx hb dX12_keeps_1 rfl hl (by decide) rfl (fun ls hl => ?_)
  exact J2 _ 0 _ _ _ rfl (by decide) (by decide) hH hS (lv_sub hl [0, 1] rfl)
set_option maxHeartbeats 4000000 in
set_option maxRecDepth 100000 in
theorem s_M_keepsAhead (l : Launch) (D : va_G) (cs : CS) (kf : KF) (T : TF) (O : List Nat) (X : va_W) (a0 hg mq : Nat) (t_a0 : T a0 = some (22, hg, mq)) (b_hg : hg < 90) (hO : okO T O [1, 8, 22]) : TK l D cs kf yX12_keepsAhead cX12_keepsAhead 2 none { frames := 0, cells := 0, slots := 0, locals := 0 } [.ref a0] T O X (Tv D cs (fun u => u = (T, O, X))) := by
  refine tk_of (by decide) (Nat.le_of_ble_eq_true rfl) (fun p e s m below meth c ls A H locs hx hb hr hml hown hts hlocks hnm hkb hH hS hA hOX hks hE hl => ?_)
  have hown : s.vm.findClass RX12 = some m.cls := hown
  have hl : lv_has ls 2 [(0, .ref a0)] := hl
  refine lv_iconst (v := 0) hx hb dX12_keepsAhead_0 (by decide) ?_
  have J2 : ∀ (n : Nat) (p2_1 : Int32) (H : Heap) (locs : List Loc) (ls : Array Slot), (31 - p2_1.toInt).toNat = n → (0 ≤ p2_1.toInt) → (p2_1.toInt ≤ 31) → HT D cs A T O X H → va_S A s.heap H locs → lv_has ls 2 [(1, .int p2_1), (0, .ref a0)] → W p l e { frames := 0, cells := 0, slots := 0, locals := 0 } s m [.ref a0].toArray below meth c H locs 0 0 (MQ below (Tv D cs (fun u => u = (T, O, X)) A) [.ref a0].toArray s 0 0 A) (F0 m 2 ls []) := by
    intro n
    induction n using Nat.strongRecOn with
    | _ n ih2 =>
      intro p2_1 H locs ls hm2 l_p2_1 u_p2_1 hH hS hl
      refine lv_iload_n hx hb dX12_keepsAhead_2 rfl (lv_at hl 0 rfl) ?_
      refine lv_bipush (v := 31) hx hb dX12_keepsAhead_3 (by decide) ?_
      refine lv_icmp_ge (tgt := 29) hx hb dX12_keepsAhead_5 (by decide) (fun c5 => ?_) (fun c5 => ?_)
      · skip
        have tc5 := f_ge (k := 31) (by decide) c5
        exact te_v hx hb hr hlocks hH hS rfl dX12_keepsAhead_29
      · skip
        have tc5 := f_nge (k := 31) (by decide) c5
        refine lv_aload_n hx hb dX12_keepsAhead_8 rfl (lv_at hl 1 rfl) ?_
        refine t_get (ci := 12) (lst := ft12 hg mq) (C := RX12) (F := TX12) (N := 36) hx hb hts uX12 hown hkb hH t_a0 (hO.no t_a0 (by decide)) (fun _ h9 => h9) rfl rfl 22 (by decide) rfl kw_1245 (fun _ h9 => h9) dX12_keepsAhead_9 (fun v9 h9 => ?_)
        obtain ⟨v9, rfl, t_v9⟩ := h9
        refine lv_iload_n hx hb dX12_keepsAhead_12 rfl (lv_at hl 0 rfl) ?_
        refine lv_aload_n hx hb dX12_keepsAhead_13 rfl (lv_at hl 1 rfl) ?_
        refine t_get (ci := 12) (lst := ft12 hg mq) (C := RX12) (F := TX12) (N := 36) hx hb hts uX12 hown hkb hH t_a0 (hO.no t_a0 (by decide)) (fun _ h9 => h9) rfl rfl 1 (by decide) rfl kw_1224 (fun _ h9 => h9) dX12_keepsAhead_14 (fun v9 h9 => ?_)
        obtain ⟨v14, rfl, t_v14⟩ := h9
        refine lv_bipush (v := 59) hx hb dX12_keepsAhead_17 (by decide) ?_
        refine lv_iload_n hx hb dX12_keepsAhead_19 rfl (lv_at hl 0 rfl) ?_
        refine lv_iadd hx hb dX12_keepsAhead_20 ?_
        refine lv_topi (fun v20 ev20 => ?_)
        have tv20 : v20.toInt = (59) + p2_1.toInt := by rw [ev20]; exact add_i (by decide : (59 : Int32).toInt = 59) rfl (by omega) (by omega)
        refine t_ild8 hx hb hkb hH t_v14 (hO.no t_v14 (by decide)) (by decide) (by omega) (by omega) dX12_keepsAhead_21 (fun v21 h9 h8 => ?_)
        refine t_ist hx hb hkb hH hS t_v9 (hO.no t_v9 (by decide)) (by omega) (by omega) (cp_0 _) dX12_keepsAhead_22 (fun H locs hH hS => ?_)
        obtain ⟨v23, ev23⟩ : ∃ y : Int32, y = p2_1 + 1 := ⟨_, rfl⟩
        have tv23 : v23.toInt = p2_1.toInt + (1) := by rw [ev23]; exact add_i rfl (by decide) (by omega) (by omega)
        refine lv_iinc (v := v23) (lv' := [(1, .int v23), (0, .ref a0)]) hx hb dX12_keepsAhead_23 hl (k := 0) rfl (by rw [ev23]; rfl) (by decide) rfl (fun ls hl => ?_)
        refine lv_goto (tgt := 2) hx hb dX12_keepsAhead_26 (by decide) ?_
        exact ih2 _ (by omega) v23 _ _ _ rfl (by omega) (by omega) hH hS (lv_sub hl [0, 1] rfl)
  refine lv_istore_n (lv' := [(1, .int 0), (0, .ref a0)]) hx hb dX12_keepsAhead_1 rfl hl (by decide) rfl (fun ls hl => ?_)
  exact J2 _ 0 _ _ _ rfl (by decide) (by decide) hH hS (lv_sub hl [0, 1] rfl)
set_option maxHeartbeats 4000000 in
set_option maxRecDepth 100000 in
theorem s_M_isAhead (l : Launch) (D : va_G) (cs : CS) (kf : KF) (T : TF) (O : List Nat) (X : va_W) (a0 hg mq : Nat) (t_a0 : T a0 = some (22, hg, mq)) (b_hg : hg < 90) (hO : okO T O [1, 8, 22]) : TK l D cs kf yX12_isAhead cX12_isAhead 2 none { frames := 0, cells := 0, slots := 0, locals := 0 } [.ref a0] T O X (Tv D cs (fun u => u = (T, O, X))) := by
  refine tk_of (by decide) (Nat.le_of_ble_eq_true rfl) (fun p e s m below meth c ls A H locs hx hb hr hml hown hts hlocks hnm hkb hH hS hA hOX hks hE hl => ?_)
  have hown : s.vm.findClass RX12 = some m.cls := hown
  have hl : lv_has ls 2 [(0, .ref a0)] := hl
  refine lv_iconst (v := 0) hx hb dX12_isAhead_0 (by decide) ?_
  have J2 : ∀ (n : Nat) (p2_1 : Int32) (H : Heap) (locs : List Loc) (ls : Array Slot), (31 - p2_1.toInt).toNat = n → (0 ≤ p2_1.toInt) → (p2_1.toInt ≤ 31) → HT D cs A T O X H → va_S A s.heap H locs → lv_has ls 2 [(1, .int p2_1), (0, .ref a0)] → W p l e { frames := 0, cells := 0, slots := 0, locals := 0 } s m [.ref a0].toArray below meth c H locs 0 0 (MQ below (Tv D cs (fun u => u = (T, O, X)) A) [.ref a0].toArray s 0 0 A) (F0 m 2 ls []) := by
    intro n
    induction n using Nat.strongRecOn with
    | _ n ih2 =>
      intro p2_1 H locs ls hm2 l_p2_1 u_p2_1 hH hS hl
      refine lv_iload_n hx hb dX12_isAhead_2 rfl (lv_at hl 0 rfl) ?_
      refine lv_bipush (v := 31) hx hb dX12_isAhead_3 (by decide) ?_
      refine lv_icmp_ge (tgt := 29) hx hb dX12_isAhead_5 (by decide) (fun c5 => ?_) (fun c5 => ?_)
      · skip
        have tc5 := f_ge (k := 31) (by decide) c5
        exact te_v hx hb hr hlocks hH hS rfl dX12_isAhead_29
      · skip
        have tc5 := f_nge (k := 31) (by decide) c5
        refine lv_aload_n hx hb dX12_isAhead_8 rfl (lv_at hl 1 rfl) ?_
        refine t_get (ci := 12) (lst := ft12 hg mq) (C := RX12) (F := TX12) (N := 36) hx hb hts uX12 hown hkb hH t_a0 (hO.no t_a0 (by decide)) (fun _ h9 => h9) rfl rfl 1 (by decide) rfl kw_1224 (fun _ h9 => h9) dX12_isAhead_9 (fun v9 h9 => ?_)
        obtain ⟨v9, rfl, t_v9⟩ := h9
        refine lv_bipush (v := 59) hx hb dX12_isAhead_12 (by decide) ?_
        refine lv_iload_n hx hb dX12_isAhead_14 rfl (lv_at hl 0 rfl) ?_
        refine lv_iadd hx hb dX12_isAhead_15 ?_
        refine lv_topi (fun v15 ev15 => ?_)
        have tv15 : v15.toInt = (59) + p2_1.toInt := by rw [ev15]; exact add_i (by decide : (59 : Int32).toInt = 59) rfl (by omega) (by omega)
        refine lv_aload_n hx hb dX12_isAhead_16 rfl (lv_at hl 1 rfl) ?_
        refine t_get (ci := 12) (lst := ft12 hg mq) (C := RX12) (F := TX12) (N := 36) hx hb hts uX12 hown hkb hH t_a0 (hO.no t_a0 (by decide)) (fun _ h9 => h9) rfl rfl 22 (by decide) rfl kw_1245 (fun _ h9 => h9) dX12_isAhead_17 (fun v9 h9 => ?_)
        obtain ⟨v17, rfl, t_v17⟩ := h9
        refine lv_iload_n hx hb dX12_isAhead_20 rfl (lv_at hl 0 rfl) ?_
        refine t_ild hx hb hkb hH t_v17 (hO.no t_v17 (by decide)) (by omega) (by omega) dX12_isAhead_21 (fun v21 h9 => ?_)
        refine t_ist8 hx hb hkb hH hS t_v9 (hO.no t_v9 (by decide)) (by decide) (by omega) (by omega) (by omega) (by omega) (p8_far (by omega) (by omega)) dX12_isAhead_22 (fun H locs hH hS => ?_)
        obtain ⟨v23, ev23⟩ : ∃ y : Int32, y = p2_1 + 1 := ⟨_, rfl⟩
        have tv23 : v23.toInt = p2_1.toInt + (1) := by rw [ev23]; exact add_i rfl (by decide) (by omega) (by omega)
        refine lv_iinc (v := v23) (lv' := [(1, .int v23), (0, .ref a0)]) hx hb dX12_isAhead_23 hl (k := 0) rfl (by rw [ev23]; rfl) (by decide) rfl (fun ls hl => ?_)
        refine lv_goto (tgt := 2) hx hb dX12_isAhead_26 (by decide) ?_
        exact ih2 _ (by omega) v23 _ _ _ rfl (by omega) (by omega) hH hS (lv_sub hl [0, 1] rfl)
  refine lv_istore_n (lv' := [(1, .int 0), (0, .ref a0)]) hx hb dX12_isAhead_1 rfl hl (by decide) rfl (fun ls hl => ?_)
  exact J2 _ 0 _ _ _ rfl (by decide) (by decide) hH hS (lv_sub hl [0, 1] rfl)
set_option maxHeartbeats 4000000 in
set_option maxRecDepth 100000 in
theorem s_M_notes (l : Launch) (D : va_G) (cs : CS) (kf : KF) (T : TF) (O : List Nat) (X : va_W) (a0 hg mq : Nat) (t_a0 : T a0 = some (22, hg, mq)) (b_hg : hg < 90) (hO : okO T O [1, 8, 22]) : TK l D cs kf yX12_notes cX12_notes 2 none { frames := 0, cells := 0, slots := 0, locals := 0 } [.ref a0] T O X (Tv D cs (fun u => u = (T, O, X))) := by
  refine tk_of (by decide) (Nat.le_of_ble_eq_true rfl) (fun p e s m below meth c ls A H locs hx hb hr hml hown hts hlocks hnm hkb hH hS hA hOX hks hE hl => ?_)
  have hown : s.vm.findClass RX12 = some m.cls := hown
  have hl : lv_has ls 2 [(0, .ref a0)] := hl
  have hO0 := hO
  obtain ⟨fs9, ho9, hH⟩ := hH.take t_a0 (hO0.no t_a0 (by decide))
  have hp0 : okL T (ft12 hg mq) fs9 := ho9
  clear ho9
  obtain ⟨v9, fs9, rfl, h9, hp1⟩ := okL_i hp0
  obtain ⟨q0_0, rfl⟩ := h9
  obtain ⟨v9, fs9, rfl, h9, hp2⟩ := okL_i hp1
  obtain ⟨q0_1, rfl, t_q0_1⟩ := h9
  obtain ⟨v9, fs9, rfl, h9, hp3⟩ := okL_i hp2
  obtain ⟨q0_2, rfl, t_q0_2⟩ := h9
  obtain ⟨v9, fs9, rfl, h9, hp4⟩ := okL_i hp3
  obtain ⟨q0_3, rfl, t_q0_3⟩ := h9
  obtain ⟨v9, fs9, rfl, h9, hp5⟩ := okL_i hp4
  obtain ⟨q0_4, rfl, t_q0_4⟩ := h9
  obtain ⟨v9, fs9, rfl, h9, hp6⟩ := okL_i hp5
  obtain ⟨q0_5, rfl, l_q0_5, u_q0_5, eg_q0_5⟩ := h9
  obtain ⟨v9, fs9, rfl, h9, hp7⟩ := okL_i hp6
  obtain ⟨q0_6, rfl⟩ := h9
  obtain ⟨v9, fs9, rfl, h9, hp8⟩ := okL_i hp7
  obtain ⟨q0_7, rfl⟩ := h9
  obtain ⟨v9, fs9, rfl, h9, hp9⟩ := okL_i hp8
  obtain ⟨q0_8, rfl⟩ := h9
  obtain ⟨v9, fs9, rfl, h9, hp10⟩ := okL_i hp9
  obtain ⟨q0_9, rfl⟩ := h9
  obtain ⟨v9, fs9, rfl, h9, hp11⟩ := okL_i hp10
  obtain ⟨q0_10, rfl, l_q0_10, u_q0_10⟩ := h9
  obtain ⟨v9, fs9, rfl, h9, hp12⟩ := okL_i hp11
  obtain ⟨q0_11, rfl⟩ := h9
  obtain ⟨v9, fs9, rfl, h9, hp13⟩ := okL_i hp12
  obtain ⟨q0_12, rfl⟩ := h9
  obtain ⟨v9, fs9, rfl, h9, hp14⟩ := okL_i hp13
  obtain ⟨q0_13, rfl, eg_q0_13⟩ := h9
  obtain ⟨v9, fs9, rfl, h9, hp15⟩ := okL_i hp14
  obtain ⟨q0_14, rfl, eg_q0_14⟩ := h9
  obtain ⟨v9, fs9, rfl, h9, hp16⟩ := okL_i hp15
  obtain ⟨q0_15, rfl, t_q0_15⟩ := h9
  obtain ⟨v9, fs9, rfl, h9, hp17⟩ := okL_i hp16
  obtain ⟨q0_16, rfl⟩ := h9
  obtain ⟨v9, fs9, rfl, h9, hp18⟩ := okL_i hp17
  obtain ⟨q0_17, rfl, t_q0_17⟩ := h9
  obtain ⟨v9, fs9, rfl, h9, hp19⟩ := okL_i hp18
  obtain ⟨q0_18, rfl, t_q0_18⟩ := h9
  obtain ⟨v9, fs9, rfl, h9, hp20⟩ := okL_i hp19
  obtain ⟨q0_19, rfl, t_q0_19⟩ := h9
  obtain ⟨v9, fs9, rfl, h9, hp21⟩ := okL_i hp20
  obtain ⟨q0_20, rfl, l_q0_20, u_q0_20⟩ := h9
  obtain ⟨v9, fs9, rfl, h9, hp22⟩ := okL_i hp21
  obtain ⟨q0_21, rfl, t_q0_21⟩ := h9
  obtain ⟨v9, fs9, rfl, h9, hp23⟩ := okL_i hp22
  obtain ⟨q0_22, rfl, t_q0_22⟩ := h9
  obtain ⟨v9, fs9, rfl, h9, hp24⟩ := okL_i hp23
  obtain ⟨q0_23, rfl⟩ := h9
  obtain ⟨v9, fs9, rfl, h9, hp25⟩ := okL_i hp24
  obtain ⟨q0_24, rfl⟩ := h9
  obtain ⟨v9, fs9, rfl, h9, hp26⟩ := okL_i hp25
  obtain ⟨q0_25, rfl⟩ := h9
  obtain ⟨v9, fs9, rfl, h9, hp27⟩ := okL_i hp26
  obtain ⟨q0_26, rfl, t_q0_26⟩ := h9
  obtain ⟨v9, fs9, rfl, h9, hp28⟩ := okL_i hp27
  obtain ⟨q0_27, rfl, t_q0_27⟩ := h9
  obtain ⟨v9, fs9, rfl, h9, hp29⟩ := okL_i hp28
  obtain ⟨q0_28, rfl, t_q0_28⟩ := h9
  obtain ⟨v9, fs9, rfl, h9, hp30⟩ := okL_i hp29
  obtain ⟨q0_29, rfl, t_q0_29⟩ := h9
  obtain ⟨v9, fs9, rfl, h9, hp31⟩ := okL_i hp30
  obtain ⟨q0_30, rfl, t_q0_30⟩ := h9
  obtain ⟨v9, fs9, rfl, h9, hp32⟩ := okL_i hp31
  obtain ⟨q0_31, rfl, t_q0_31⟩ := h9
  obtain ⟨v9, fs9, rfl, h9, hp33⟩ := okL_i hp32
  obtain ⟨q0_32, rfl⟩ := h9
  obtain ⟨v9, fs9, rfl, h9, hp34⟩ := okL_i hp33
  obtain ⟨q0_33, rfl, t_q0_33⟩ := h9
  obtain ⟨v9, fs9, rfl, h9, hp35⟩ := okL_i hp34
  obtain ⟨q0_34, rfl, t_q0_34⟩ := h9
  obtain ⟨v9, fs9, rfl, h9, hp36⟩ := okL_i hp35
  obtain ⟨q0_35, rfl, t_q0_35⟩ := h9
  have hpz := okL_z hp36
  subst hpz
  have hH : HT D cs A T (a0 :: O) ((a0, .inr (12, [.int q0_0, .ref q0_1, .ref q0_2, .ref q0_3, .ref q0_4, .int q0_5, .int q0_6, .int q0_7, .int q0_8, .int q0_9, .int q0_10, .int q0_11, .int q0_12, .int q0_13, .int q0_14, .ref q0_15, .int q0_16, .ref q0_17, .ref q0_18, .ref q0_19, .int q0_20, .ref q0_21, .ref q0_22, .int q0_23, .int q0_24, .int q0_25, .ref q0_26, .ref q0_27, .ref q0_28, .ref q0_29, .ref q0_30, .ref q0_31, .int q0_32, .ref q0_33, .ref q0_34, .ref q0_35])) :: X) H := hH
  have hO : okO T (a0 :: O) [1, 8] := okO.cons (hO0.sub (by decide)) t_a0 (by decide)
  obtain ⟨e9, hs9, hH⟩ := HT.takeA hH t_q0_1 (nm_c (tag_ne t_q0_1 t_a0 (by first | decide | exact fun q => absurd (show 8 = 22 from congrArg Prod.fst q) (by decide))) (hO0.no t_q0_1 (by decide)))
  obtain ⟨f1, rfl, s_f1, g_f1⟩ : ∃ f : Nat → Int32, e9 = .inl (cs.2.1, 3906, .inl f) ∧ B8 3906 f ∧ (3906 = 3906 → f 1 = nI (hg / 6) ∧ f 2 = nI (hg % 6)) := hs9
  have g_f1 := g_f1 rfl
  have hO : okO T (q0_1 :: a0 :: O) [1] := okO.cons (hO.sub (by decide)) t_q0_1 (by decide)
  refine lv_aload_n hx hb dX12_notes_0 rfl (lv_at hl 0 rfl) ?_
  refine x_getk (ci := 12) (C := RX12) (F := TX12) (N := 36) (v := .ref q0_1) hx hb hts uX12 hown hkb hH 1 rfl rfl 1 (by decide) rfl kw_1224 (fun _ h9 => h9) dX12_notes_1 ?_
  refine lv_bipush (v := 90) hx hb dX12_notes_4 (by decide) ?_
  refine xa_ild hx hb hkb hH 0 rfl (by decide) (by decide) dX12_notes_6 ?_
  refine lv_topi (fun v6 ev6 => ?_)
  have tv6 : v6 = f1 90 := by rw [ev6]; rfl
  have bv6 : 0 ≤ v6.toInt ∧ v6.toInt ≤ 10 := by rw [ev6]; exact (s_f1.at (by decide) 90).2.2.2.2.2.1 (by decide)
  refine lv_bipush (v := 10) hx hb dX12_notes_7 (by decide) ?_
  have J56 : ∀ (g56_0 : Nat → Int32) (H : Heap) (locs : List Loc) (ls : Array Slot), (B8 3906 g56_0) → (g56_0 1 = nI (hg / 6) ∧ g56_0 2 = nI (hg % 6)) → ((g56_0 90).toInt ≤ 9) → HT D cs A T (q0_1 :: a0 :: O) ((q0_1, .inl (cs.2.1, 3906, .inl g56_0)) :: (a0, .inr (12, [.int q0_0, .ref q0_1, .ref q0_2, .ref q0_3, .ref q0_4, .int q0_5, .int q0_6, .int q0_7, .int q0_8, .int q0_9, .int q0_10, .int q0_11, .int q0_12, .int q0_13, .int q0_14, .ref q0_15, .int q0_16, .ref q0_17, .ref q0_18, .ref q0_19, .int q0_20, .ref q0_21, .ref q0_22, .int q0_23, .int q0_24, .int q0_25, .ref q0_26, .ref q0_27, .ref q0_28, .ref q0_29, .ref q0_30, .ref q0_31, .int q0_32, .ref q0_33, .ref q0_34, .ref q0_35])) :: X) H → va_S A s.heap H locs → lv_has ls 2 [(0, .ref a0)] → W p l e { frames := 0, cells := 0, slots := 0, locals := 0 } s m [.ref a0].toArray below meth c H locs 0 0 (MQ below (Tv D cs (fun u => u = (T, O, X)) A) [.ref a0].toArray s 0 0 A) (F0 m 56 ls []) := by
    intro g56_0 H locs ls s_g56_0 g_g56_0 i56 hH hS hl
    refine lv_iconst (v := 0) hx hb dX12_notes_56 (by decide) ?_
    have J58 : ∀ (n : Nat) (p58_1 : Int32) (g58_0 : Nat → Int32) (H : Heap) (locs : List Loc) (ls : Array Slot), (31 - p58_1.toInt).toNat = n → (B8 3906 g58_0) → (g58_0 1 = nI (hg / 6) ∧ g58_0 2 = nI (hg % 6)) → (0 ≤ p58_1.toInt) → (p58_1.toInt ≤ 31) → (g58_0 90 = g56_0 90) → HT D cs A T (q0_1 :: a0 :: O) ((q0_1, .inl (cs.2.1, 3906, .inl g58_0)) :: (a0, .inr (12, [.int q0_0, .ref q0_1, .ref q0_2, .ref q0_3, .ref q0_4, .int q0_5, .int q0_6, .int q0_7, .int q0_8, .int q0_9, .int q0_10, .int q0_11, .int q0_12, .int q0_13, .int q0_14, .ref q0_15, .int q0_16, .ref q0_17, .ref q0_18, .ref q0_19, .int q0_20, .ref q0_21, .ref q0_22, .int q0_23, .int q0_24, .int q0_25, .ref q0_26, .ref q0_27, .ref q0_28, .ref q0_29, .ref q0_30, .ref q0_31, .int q0_32, .ref q0_33, .ref q0_34, .ref q0_35])) :: X) H → va_S A s.heap H locs → lv_has ls 2 [(1, .int p58_1), (0, .ref a0)] → W p l e { frames := 0, cells := 0, slots := 0, locals := 0 } s m [.ref a0].toArray below meth c H locs 0 0 (MQ below (Tv D cs (fun u => u = (T, O, X)) A) [.ref a0].toArray s 0 0 A) (F0 m 58 ls []) := by
      intro n
      induction n using Nat.strongRecOn with
      | _ n ih58 =>
        intro p58_1 g58_0 H locs ls hm58 s_g58_0 g_g58_0 l_p58_1 u_p58_1 i58 hH hS hl
        refine lv_iload_n hx hb dX12_notes_58 rfl (lv_at hl 0 rfl) ?_
        refine lv_bipush (v := 31) hx hb dX12_notes_59 (by decide) ?_
        refine lv_icmp_ge (tgt := 96) hx hb dX12_notes_61 (by decide) (fun c61 => ?_) (fun c61 => ?_)
        · skip
          have tc61 := f_ge (k := 31) (by decide) c61
          refine lv_aload_n hx hb dX12_notes_96 rfl (lv_at hl 1 rfl) ?_
          refine x_getk (ci := 12) (C := RX12) (F := TX12) (N := 36) (v := .ref q0_1) hx hb hts uX12 hown hkb hH 1 rfl rfl 1 (by decide) rfl kw_1224 (fun _ h9 => h9) dX12_notes_97 ?_
          refine lv_bipush (v := 90) hx hb dX12_notes_100 (by decide) ?_
          refine lv_dup2_11 hx hb dX12_notes_102 rfl rfl ?_
          refine xa_ild hx hb hkb hH 0 rfl (by decide) (by decide) dX12_notes_103 ?_
          refine lv_topi (fun v103 ev103 => ?_)
          have tv103 : v103 = g58_0 90 := by rw [ev103]; rfl
          have bv103 : 0 ≤ v103.toInt ∧ v103.toInt ≤ 10 := by rw [ev103]; exact (s_g58_0.at (by decide) 90).2.2.2.2.2.1 (by decide)
          have hq9 : v103.toInt = (g56_0 90).toInt := by rw [tv103, i58]
          refine lv_iconst (v := 1) hx hb dX12_notes_104 (by decide) ?_
          refine lv_iadd hx hb dX12_notes_105 ?_
          refine lv_topi (fun v105 ev105 => ?_)
          have tv105 : v105.toInt = v103.toInt + (1) := by rw [ev105]; exact add_i rfl (by decide : (1 : Int32).toInt = 1) (by omega) (by omega)
          refine xa_ist hx hb hkb hH hS 0 rfl (by decide) (by decide) dX12_notes_106 (fun H locs hH hS => ?_)
          have hH : HT D cs A T (q0_1 :: a0 :: O) ((q0_1, .inl (cs.2.1, 3906, .inl (upd g58_0 (90) v105))) :: (a0, .inr (12, [.int q0_0, .ref q0_1, .ref q0_2, .ref q0_3, .ref q0_4, .int q0_5, .int q0_6, .int q0_7, .int q0_8, .int q0_9, .int q0_10, .int q0_11, .int q0_12, .int q0_13, .int q0_14, .ref q0_15, .int q0_16, .ref q0_17, .ref q0_18, .ref q0_19, .int q0_20, .ref q0_21, .ref q0_22, .int q0_23, .int q0_24, .int q0_25, .ref q0_26, .ref q0_27, .ref q0_28, .ref q0_29, .ref q0_30, .ref q0_31, .int q0_32, .ref q0_33, .ref q0_34, .ref q0_35])) :: X) H := hH
          obtain ⟨F106, eF106⟩ : ∃ f9, f9 = upd g58_0 (90) v105 := ⟨_, rfl⟩
          have hH : HT D cs A T (q0_1 :: a0 :: O) ((q0_1, .inl (cs.2.1, 3906, .inl F106)) :: (a0, .inr (12, [.int q0_0, .ref q0_1, .ref q0_2, .ref q0_3, .ref q0_4, .int q0_5, .int q0_6, .int q0_7, .int q0_8, .int q0_9, .int q0_10, .int q0_11, .int q0_12, .int q0_13, .int q0_14, .ref q0_15, .int q0_16, .ref q0_17, .ref q0_18, .ref q0_19, .int q0_20, .ref q0_21, .ref q0_22, .int q0_23, .int q0_24, .int q0_25, .ref q0_26, .ref q0_27, .ref q0_28, .ref q0_29, .ref q0_30, .ref q0_31, .int q0_32, .ref q0_33, .ref q0_34, .ref q0_35])) :: X) H := eF106 ▸ hH
          have g_F106 : F106 1 = nI (hg / 6) ∧ F106 2 = nI (hg % 6) := by rw [eF106]; exact ⟨(upd_ne (by decide)).trans g_g58_0.1, (upd_ne (by decide)).trans g_g58_0.2⟩
          have s_F106 : B8 3906 F106 := by rw [eF106]; exact s_g58_0.put (i := 90) (x := v105) (by decide) (by decide) (⟨fun q9 => absurd q9 (by decide), fun q9 => absurd q9 (by decide), fun q9 => absurd q9 (by decide), fun q9 => absurd q9 (by decide), fun q9 => absurd q9 (by decide), fun _ => ⟨by omega, by omega⟩, fun q9 => absurd q9 (by decide)⟩)
          have hH : HT D cs A T (a0 :: O) ((a0, .inr (12, [.int q0_0, .ref q0_1, .ref q0_2, .ref q0_3, .ref q0_4, .int q0_5, .int q0_6, .int q0_7, .int q0_8, .int q0_9, .int q0_10, .int q0_11, .int q0_12, .int q0_13, .int q0_14, .ref q0_15, .int q0_16, .ref q0_17, .ref q0_18, .ref q0_19, .int q0_20, .ref q0_21, .ref q0_22, .int q0_23, .int q0_24, .int q0_25, .ref q0_26, .ref q0_27, .ref q0_28, .ref q0_29, .ref q0_30, .ref q0_31, .int q0_32, .ref q0_33, .ref q0_34, .ref q0_35])) :: X) H := HT.layA hH t_q0_1 (show sp cs T (8, 3906, hg) _ from ⟨_, rfl, s_F106, fun _ => g_F106⟩)
          have hH : HT D cs A T O X H := HT.lay (ci := 12) hH t_a0 (okL_c (⟨_, rfl⟩) (okL_c (⟨_, rfl, t_q0_1⟩) (okL_c (⟨_, rfl, t_q0_2⟩) (okL_c (⟨_, rfl, t_q0_3⟩) (okL_c (⟨_, rfl, t_q0_4⟩) (okL_c (⟨_, rfl, by omega, by omega, by omega⟩) (okL_c (⟨_, rfl⟩) (okL_c (⟨_, rfl⟩) (okL_c (⟨_, rfl⟩) (okL_c (⟨_, rfl⟩) (okL_c (⟨_, rfl, by omega, by omega⟩) (okL_c (⟨_, rfl⟩) (okL_c (⟨_, rfl⟩) (okL_c (⟨_, rfl, by omega⟩) (okL_c (⟨_, rfl, by omega⟩) (okL_c (⟨_, rfl, t_q0_15⟩) (okL_c (⟨_, rfl⟩) (okL_c (⟨_, rfl, t_q0_17⟩) (okL_c (⟨_, rfl, t_q0_18⟩) (okL_c (⟨_, rfl, t_q0_19⟩) (okL_c (⟨_, rfl, by omega, by omega⟩) (okL_c (⟨_, rfl, t_q0_21⟩) (okL_c (⟨_, rfl, t_q0_22⟩) (okL_c (⟨_, rfl⟩) (okL_c (⟨_, rfl⟩) (okL_c (⟨_, rfl⟩) (okL_c (⟨_, rfl, t_q0_26⟩) (okL_c (⟨_, rfl, t_q0_27⟩) (okL_c (⟨_, rfl, t_q0_28⟩) (okL_c (⟨_, rfl, t_q0_29⟩) (okL_c (⟨_, rfl, t_q0_30⟩) (okL_c (⟨_, rfl, t_q0_31⟩) (okL_c (⟨_, rfl⟩) (okL_c (⟨_, rfl, t_q0_33⟩) (okL_c (⟨_, rfl, t_q0_34⟩) (okL_c (⟨_, rfl, t_q0_35⟩) (okL_n)))))))))))))))))))))))))))))))))))))
          have hO := hO0
          exact te_v hx hb hr hlocks hH hS (rfl) dX12_notes_107
        · skip
          have tc61 := f_nge (k := 31) (by decide) c61
          refine lv_aload_n hx hb dX12_notes_64 rfl (lv_at hl 1 rfl) ?_
          refine x_getk (ci := 12) (C := RX12) (F := TX12) (N := 36) (v := .ref q0_1) hx hb hts uX12 hown hkb hH 1 rfl rfl 1 (by decide) rfl kw_1224 (fun _ h9 => h9) dX12_notes_65 ?_
          refine lv_bipush (v := 91) hx hb dX12_notes_68 (by decide) ?_
          refine lv_bipush (v := 31) hx hb dX12_notes_70 (by decide) ?_
          refine lv_aload_n hx hb dX12_notes_72 rfl (lv_at hl 1 rfl) ?_
          refine x_getk (ci := 12) (C := RX12) (F := TX12) (N := 36) (v := .ref q0_1) hx hb hts uX12 hown hkb hH 1 rfl rfl 1 (by decide) rfl kw_1224 (fun _ h9 => h9) dX12_notes_73 ?_
          refine lv_bipush (v := 90) hx hb dX12_notes_76 (by decide) ?_
          refine xa_ild hx hb hkb hH 0 rfl (by decide) (by decide) dX12_notes_78 ?_
          refine lv_topi (fun v78 ev78 => ?_)
          have tv78 : v78 = g58_0 90 := by rw [ev78]; rfl
          have bv78 : 0 ≤ v78.toInt ∧ v78.toInt ≤ 10 := by rw [ev78]; exact (s_g58_0.at (by decide) 90).2.2.2.2.2.1 (by decide)
          have hq9 : v78.toInt = (g56_0 90).toInt := by rw [tv78, i58]
          refine lv_imul hx hb dX12_notes_79 ?_
          refine lv_topi (fun v79 ev79 => ?_)
          have tv79 : v79.toInt = (31) * v78.toInt := by rw [ev79]; exact mul_i (by decide : (31 : Int32).toInt = 31) rfl (by omega) (by omega)
          refine lv_iadd hx hb dX12_notes_80 ?_
          refine lv_topi (fun v80 ev80 => ?_)
          have tv80 : v80.toInt = (91) + v79.toInt := by rw [ev80]; exact add_i (by decide : (91 : Int32).toInt = 91) rfl (by omega) (by omega)
          refine lv_iload_n hx hb dX12_notes_81 rfl (lv_at hl 0 rfl) ?_
          refine lv_iadd hx hb dX12_notes_82 ?_
          refine lv_topi (fun v82 ev82 => ?_)
          have tv82 : v82.toInt = v80.toInt + p58_1.toInt := by rw [ev82]; exact add_i rfl rfl (by omega) (by omega)
          refine lv_aload_n hx hb dX12_notes_83 rfl (lv_at hl 1 rfl) ?_
          refine x_getk (ci := 12) (C := RX12) (F := TX12) (N := 36) (v := .ref q0_21) hx hb hts uX12 hown hkb hH 1 rfl rfl 21 (by decide) rfl kw_1244 (fun _ h9 => h9) dX12_notes_84 ?_
          refine lv_iload_n hx hb dX12_notes_87 rfl (lv_at hl 0 rfl) ?_
          refine t_ild hx hb hkb hH t_q0_21 (hO.no t_q0_21 (by decide)) (by omega) (by omega) dX12_notes_88 (fun v88 h9 => ?_)
          refine xa_ist hx hb hkb hH hS 0 rfl (by omega) (by omega) dX12_notes_89 (fun H locs hH hS => ?_)
          have hH : HT D cs A T (q0_1 :: a0 :: O) ((q0_1, .inl (cs.2.1, 3906, .inl (upd g58_0 (v82.toInt.toNat) v88))) :: (a0, .inr (12, [.int q0_0, .ref q0_1, .ref q0_2, .ref q0_3, .ref q0_4, .int q0_5, .int q0_6, .int q0_7, .int q0_8, .int q0_9, .int q0_10, .int q0_11, .int q0_12, .int q0_13, .int q0_14, .ref q0_15, .int q0_16, .ref q0_17, .ref q0_18, .ref q0_19, .int q0_20, .ref q0_21, .ref q0_22, .int q0_23, .int q0_24, .int q0_25, .ref q0_26, .ref q0_27, .ref q0_28, .ref q0_29, .ref q0_30, .ref q0_31, .int q0_32, .ref q0_33, .ref q0_34, .ref q0_35])) :: X) H := hH
          obtain ⟨F89, eF89⟩ : ∃ f9, f9 = upd g58_0 (v82.toInt.toNat) v88 := ⟨_, rfl⟩
          have hH : HT D cs A T (q0_1 :: a0 :: O) ((q0_1, .inl (cs.2.1, 3906, .inl F89)) :: (a0, .inr (12, [.int q0_0, .ref q0_1, .ref q0_2, .ref q0_3, .ref q0_4, .int q0_5, .int q0_6, .int q0_7, .int q0_8, .int q0_9, .int q0_10, .int q0_11, .int q0_12, .int q0_13, .int q0_14, .ref q0_15, .int q0_16, .ref q0_17, .ref q0_18, .ref q0_19, .int q0_20, .ref q0_21, .ref q0_22, .int q0_23, .int q0_24, .int q0_25, .ref q0_26, .ref q0_27, .ref q0_28, .ref q0_29, .ref q0_30, .ref q0_31, .int q0_32, .ref q0_33, .ref q0_34, .ref q0_35])) :: X) H := eF89 ▸ hH
          have g_F89 : F89 1 = nI (hg / 6) ∧ F89 2 = nI (hg % 6) := by rw [eF89]; exact ⟨(upd_ne (by omega)).trans g_g58_0.1, (upd_ne (by omega)).trans g_g58_0.2⟩
          have s_F89 : B8 3906 F89 := by rw [eF89]; exact s_g58_0.put (i := v82) (x := v88) (by omega) (by omega) (p8_far (by omega) (⟨by omega, by omega⟩))
          obtain ⟨v90, ev90⟩ : ∃ y : Int32, y = p58_1 + 1 := ⟨_, rfl⟩
          have tv90 : v90.toInt = p58_1.toInt + (1) := by rw [ev90]; exact add_i rfl (by decide) (by omega) (by omega)
          refine lv_iinc (v := v90) (lv' := [(1, .int v90), (0, .ref a0)]) hx hb dX12_notes_90 hl (k := 0) rfl (by rw [ev90]; rfl) (by decide) rfl (fun ls hl => ?_)
          refine lv_goto (tgt := 58) hx hb dX12_notes_93 (by decide) ?_
          exact ih58 _ (by omega) v90 F89 _ _ _ rfl s_F89 g_F89 (by omega) (by omega) (by first | rfl | (rw [eF89, upd_ne (by omega)]; exact i58)) hH hS (lv_sub hl [0, 1] rfl)
    refine lv_istore_n (lv' := [(1, .int 0), (0, .ref a0)]) hx hb dX12_notes_57 rfl hl (by decide) rfl (fun ls hl => ?_)
    have z_0 : (0 : Int32).toInt = 0 := by decide
    exact J58 _ 0 g56_0 _ _ _ rfl s_g56_0 g_g56_0 (by decide) (by decide) (by first | rfl | (rw [eF89, upd_ne (by omega)]; exact i58)) hH hS (lv_sub hl [0, 1] rfl)
  refine lv_icmp_ne (tgt := 56) hx hb dX12_notes_9 (by decide) (fun c9 => ?_) (fun c9 => ?_)
  · skip
    have tc9 := f_ne (k := 10) (by decide) c9
    exact J56 f1 _ _ _ s_f1 g_f1 (by first | (rw [← tv6]; omega) | (rw [eF55, upd_eq]; omega)) hH hS (lv_sub hl [0] rfl)
  · skip
    have tc9 := f_eq (k := 10) (by decide) c9
    refine lv_iconst (v := 0) hx hb dX12_notes_12 (by decide) ?_
    have J14 : ∀ (n : Nat) (p14_1 : Int32) (g14_0 : Nat → Int32) (H : Heap) (locs : List Loc) (ls : Array Slot), (279 - p14_1.toInt).toNat = n → (B8 3906 g14_0) → (g14_0 1 = nI (hg / 6) ∧ g14_0 2 = nI (hg % 6)) → (0 ≤ p14_1.toInt) → (p14_1.toInt ≤ 279) → (g14_0 90 = f1 90) → HT D cs A T (q0_1 :: a0 :: O) ((q0_1, .inl (cs.2.1, 3906, .inl g14_0)) :: (a0, .inr (12, [.int q0_0, .ref q0_1, .ref q0_2, .ref q0_3, .ref q0_4, .int q0_5, .int q0_6, .int q0_7, .int q0_8, .int q0_9, .int q0_10, .int q0_11, .int q0_12, .int q0_13, .int q0_14, .ref q0_15, .int q0_16, .ref q0_17, .ref q0_18, .ref q0_19, .int q0_20, .ref q0_21, .ref q0_22, .int q0_23, .int q0_24, .int q0_25, .ref q0_26, .ref q0_27, .ref q0_28, .ref q0_29, .ref q0_30, .ref q0_31, .int q0_32, .ref q0_33, .ref q0_34, .ref q0_35])) :: X) H → va_S A s.heap H locs → lv_has ls 2 [(1, .int p14_1), (0, .ref a0)] → W p l e { frames := 0, cells := 0, slots := 0, locals := 0 } s m [.ref a0].toArray below meth c H locs 0 0 (MQ below (Tv D cs (fun u => u = (T, O, X)) A) [.ref a0].toArray s 0 0 A) (F0 m 14 ls []) := by
      intro n
      induction n using Nat.strongRecOn with
      | _ n ih14 =>
        intro p14_1 g14_0 H locs ls hm14 s_g14_0 g_g14_0 l_p14_1 u_p14_1 i14 hH hS hl
        refine lv_iload_n hx hb dX12_notes_14 rfl (lv_at hl 0 rfl) ?_
        refine lv_sipush (v := 279) hx hb dX12_notes_15 (by decide) ?_
        refine lv_icmp_ge (tgt := 45) hx hb dX12_notes_18 (by decide) (fun c18 => ?_) (fun c18 => ?_)
        · skip
          have tc18 := f_ge (k := 279) (by decide) c18
          refine lv_aload_n hx hb dX12_notes_45 rfl (lv_at hl 1 rfl) ?_
          refine x_getk (ci := 12) (C := RX12) (F := TX12) (N := 36) (v := .ref q0_1) hx hb hts uX12 hown hkb hH 1 rfl rfl 1 (by decide) rfl kw_1224 (fun _ h9 => h9) dX12_notes_46 ?_
          refine lv_bipush (v := 90) hx hb dX12_notes_49 (by decide) ?_
          refine lv_dup2_11 hx hb dX12_notes_51 rfl rfl ?_
          refine xa_ild hx hb hkb hH 0 rfl (by decide) (by decide) dX12_notes_52 ?_
          refine lv_topi (fun v52 ev52 => ?_)
          have tv52 : v52 = g14_0 90 := by rw [ev52]; rfl
          have bv52 : 0 ≤ v52.toInt ∧ v52.toInt ≤ 10 := by rw [ev52]; exact (s_g14_0.at (by decide) 90).2.2.2.2.2.1 (by decide)
          have hq9 : v52.toInt = v6.toInt := by rw [tv52, i14, tv6]
          refine lv_iconst (v := 1) hx hb dX12_notes_53 (by decide) ?_
          refine lv_isub hx hb dX12_notes_54 ?_
          refine lv_topi (fun v54 ev54 => ?_)
          have tv54 : v54.toInt = v52.toInt - (1) := by rw [ev54]; exact sub_i rfl (by decide : (1 : Int32).toInt = 1) (by omega) (by omega)
          refine xa_ist hx hb hkb hH hS 0 rfl (by decide) (by decide) dX12_notes_55 (fun H locs hH hS => ?_)
          have hH : HT D cs A T (q0_1 :: a0 :: O) ((q0_1, .inl (cs.2.1, 3906, .inl (upd g14_0 (90) v54))) :: (a0, .inr (12, [.int q0_0, .ref q0_1, .ref q0_2, .ref q0_3, .ref q0_4, .int q0_5, .int q0_6, .int q0_7, .int q0_8, .int q0_9, .int q0_10, .int q0_11, .int q0_12, .int q0_13, .int q0_14, .ref q0_15, .int q0_16, .ref q0_17, .ref q0_18, .ref q0_19, .int q0_20, .ref q0_21, .ref q0_22, .int q0_23, .int q0_24, .int q0_25, .ref q0_26, .ref q0_27, .ref q0_28, .ref q0_29, .ref q0_30, .ref q0_31, .int q0_32, .ref q0_33, .ref q0_34, .ref q0_35])) :: X) H := hH
          obtain ⟨F55, eF55⟩ : ∃ f9, f9 = upd g14_0 (90) v54 := ⟨_, rfl⟩
          have hH : HT D cs A T (q0_1 :: a0 :: O) ((q0_1, .inl (cs.2.1, 3906, .inl F55)) :: (a0, .inr (12, [.int q0_0, .ref q0_1, .ref q0_2, .ref q0_3, .ref q0_4, .int q0_5, .int q0_6, .int q0_7, .int q0_8, .int q0_9, .int q0_10, .int q0_11, .int q0_12, .int q0_13, .int q0_14, .ref q0_15, .int q0_16, .ref q0_17, .ref q0_18, .ref q0_19, .int q0_20, .ref q0_21, .ref q0_22, .int q0_23, .int q0_24, .int q0_25, .ref q0_26, .ref q0_27, .ref q0_28, .ref q0_29, .ref q0_30, .ref q0_31, .int q0_32, .ref q0_33, .ref q0_34, .ref q0_35])) :: X) H := eF55 ▸ hH
          have g_F55 : F55 1 = nI (hg / 6) ∧ F55 2 = nI (hg % 6) := by rw [eF55]; exact ⟨(upd_ne (by decide)).trans g_g14_0.1, (upd_ne (by decide)).trans g_g14_0.2⟩
          have s_F55 : B8 3906 F55 := by rw [eF55]; exact s_g14_0.put (i := 90) (x := v54) (by decide) (by decide) (⟨fun q9 => absurd q9 (by decide), fun q9 => absurd q9 (by decide), fun q9 => absurd q9 (by decide), fun q9 => absurd q9 (by decide), fun q9 => absurd q9 (by decide), fun _ => ⟨by omega, by omega⟩, fun q9 => absurd q9 (by decide)⟩)
          exact J56 F55 _ _ _ s_F55 g_F55 (by first | (rw [← tv6]; omega) | (rw [eF55, upd_eq]; omega)) hH hS (lv_sub hl [1] rfl)
        · skip
          have tc18 := f_nge (k := 279) (by decide) c18
          refine lv_aload_n hx hb dX12_notes_21 rfl (lv_at hl 1 rfl) ?_
          refine x_getk (ci := 12) (C := RX12) (F := TX12) (N := 36) (v := .ref q0_1) hx hb hts uX12 hown hkb hH 1 rfl rfl 1 (by decide) rfl kw_1224 (fun _ h9 => h9) dX12_notes_22 ?_
          refine lv_bipush (v := 91) hx hb dX12_notes_25 (by decide) ?_
          refine lv_iload_n hx hb dX12_notes_27 rfl (lv_at hl 0 rfl) ?_
          refine lv_iadd hx hb dX12_notes_28 ?_
          refine lv_topi (fun v28 ev28 => ?_)
          have tv28 : v28.toInt = (91) + p14_1.toInt := by rw [ev28]; exact add_i (by decide : (91 : Int32).toInt = 91) rfl (by omega) (by omega)
          refine lv_aload_n hx hb dX12_notes_29 rfl (lv_at hl 1 rfl) ?_
          refine x_getk (ci := 12) (C := RX12) (F := TX12) (N := 36) (v := .ref q0_1) hx hb hts uX12 hown hkb hH 1 rfl rfl 1 (by decide) rfl kw_1224 (fun _ h9 => h9) dX12_notes_30 ?_
          refine lv_bipush (v := 122) hx hb dX12_notes_33 (by decide) ?_
          refine lv_iload_n hx hb dX12_notes_35 rfl (lv_at hl 0 rfl) ?_
          refine lv_iadd hx hb dX12_notes_36 ?_
          refine lv_topi (fun v36 ev36 => ?_)
          have tv36 : v36.toInt = (122) + p14_1.toInt := by rw [ev36]; exact add_i (by decide : (122 : Int32).toInt = 122) rfl (by omega) (by omega)
          refine xa_ild hx hb hkb hH 0 rfl (by omega) (by omega) dX12_notes_37 ?_
          refine lv_topi (fun v37 ev37 => ?_)
          have tv37 : v37 = g14_0 v36.toInt.toNat := ev37
          refine xa_ist hx hb hkb hH hS 0 rfl (by omega) (by omega) dX12_notes_38 (fun H locs hH hS => ?_)
          have hH : HT D cs A T (q0_1 :: a0 :: O) ((q0_1, .inl (cs.2.1, 3906, .inl (upd g14_0 (v28.toInt.toNat) v37))) :: (a0, .inr (12, [.int q0_0, .ref q0_1, .ref q0_2, .ref q0_3, .ref q0_4, .int q0_5, .int q0_6, .int q0_7, .int q0_8, .int q0_9, .int q0_10, .int q0_11, .int q0_12, .int q0_13, .int q0_14, .ref q0_15, .int q0_16, .ref q0_17, .ref q0_18, .ref q0_19, .int q0_20, .ref q0_21, .ref q0_22, .int q0_23, .int q0_24, .int q0_25, .ref q0_26, .ref q0_27, .ref q0_28, .ref q0_29, .ref q0_30, .ref q0_31, .int q0_32, .ref q0_33, .ref q0_34, .ref q0_35])) :: X) H := hH
          obtain ⟨F38, eF38⟩ : ∃ f9, f9 = upd g14_0 (v28.toInt.toNat) v37 := ⟨_, rfl⟩
          have hH : HT D cs A T (q0_1 :: a0 :: O) ((q0_1, .inl (cs.2.1, 3906, .inl F38)) :: (a0, .inr (12, [.int q0_0, .ref q0_1, .ref q0_2, .ref q0_3, .ref q0_4, .int q0_5, .int q0_6, .int q0_7, .int q0_8, .int q0_9, .int q0_10, .int q0_11, .int q0_12, .int q0_13, .int q0_14, .ref q0_15, .int q0_16, .ref q0_17, .ref q0_18, .ref q0_19, .int q0_20, .ref q0_21, .ref q0_22, .int q0_23, .int q0_24, .int q0_25, .ref q0_26, .ref q0_27, .ref q0_28, .ref q0_29, .ref q0_30, .ref q0_31, .int q0_32, .ref q0_33, .ref q0_34, .ref q0_35])) :: X) H := eF38 ▸ hH
          have g_F38 : F38 1 = nI (hg / 6) ∧ F38 2 = nI (hg % 6) := by rw [eF38]; exact ⟨(upd_ne (by omega)).trans g_g14_0.1, (upd_ne (by omega)).trans g_g14_0.2⟩
          have s_F38 : B8 3906 F38 := by rw [eF38]; exact s_g14_0.put (i := v28) (x := v37) (by omega) (by omega) (p8_far (by omega) (⟨by omega, by omega⟩))
          obtain ⟨v39, ev39⟩ : ∃ y : Int32, y = p14_1 + 1 := ⟨_, rfl⟩
          have tv39 : v39.toInt = p14_1.toInt + (1) := by rw [ev39]; exact add_i rfl (by decide) (by omega) (by omega)
          refine lv_iinc (v := v39) (lv' := [(1, .int v39), (0, .ref a0)]) hx hb dX12_notes_39 hl (k := 0) rfl (by rw [ev39]; rfl) (by decide) rfl (fun ls hl => ?_)
          refine lv_goto (tgt := 14) hx hb dX12_notes_42 (by decide) ?_
          exact ih14 _ (by omega) v39 F38 _ _ _ rfl s_F38 g_F38 (by omega) (by omega) (by first | rfl | (rw [eF38, upd_ne (by omega)]; exact i14)) hH hS (lv_sub hl [0, 1] rfl)
    refine lv_istore_n (lv' := [(1, .int 0), (0, .ref a0)]) hx hb dX12_notes_13 rfl hl (by decide) rfl (fun ls hl => ?_)
    have z_0 : (0 : Int32).toInt = 0 := by decide
    exact J14 _ 0 f1 _ _ _ rfl s_f1 g_f1 (by decide) (by decide) (by first | rfl | (rw [eF38, upd_ne (by omega)]; exact i14)) hH hS (lv_sub hl [0, 1] rfl)
set_option maxHeartbeats 4000000 in
set_option maxRecDepth 100000 in
theorem s_M_undo (l : Launch) (D : va_G) (cs : CS) (kf : KF) (T : TF) (O : List Nat) (X : va_W) (a0 hg mq : Nat) (x1 : Int32) (t_a0 : T a0 = some (22, hg, mq)) (b_hg : hg < 90) (hO : okO T O [8, 22]) : TK l D cs kf yX12_undo cX12_undo 3 (some (.int)) { frames := 1, cells := 0, slots := 0, locals := 25 } [.ref a0, .int x1] T O X (Ti D cs (fun r u => u = (T, O, X) ∧ -3 ≤ r.toInt ∧ r.toInt ≤ 10)) := by
  refine tk_of (by decide) (Nat.le_of_ble_eq_true rfl) (fun p e s m below meth c ls A H locs hx hb hr hml hown hts hlocks hnm hkb hH hS hA hOX hks hE hl => ?_)
  have hown : s.vm.findClass RX12 = some m.cls := hown
  have hl : lv_has ls 3 [(0, .ref a0), (1, .int x1)] := hl
  have hO0 := hO
  obtain ⟨fs9, ho9, hH⟩ := hH.take t_a0 (hO0.no t_a0 (by decide))
  have hp0 : okL T (ft12 hg mq) fs9 := ho9
  clear ho9
  obtain ⟨v9, fs9, rfl, h9, hp1⟩ := okL_i hp0
  obtain ⟨q0_0, rfl⟩ := h9
  obtain ⟨v9, fs9, rfl, h9, hp2⟩ := okL_i hp1
  obtain ⟨q0_1, rfl, t_q0_1⟩ := h9
  obtain ⟨v9, fs9, rfl, h9, hp3⟩ := okL_i hp2
  obtain ⟨q0_2, rfl, t_q0_2⟩ := h9
  obtain ⟨v9, fs9, rfl, h9, hp4⟩ := okL_i hp3
  obtain ⟨q0_3, rfl, t_q0_3⟩ := h9
  obtain ⟨v9, fs9, rfl, h9, hp5⟩ := okL_i hp4
  obtain ⟨q0_4, rfl, t_q0_4⟩ := h9
  obtain ⟨v9, fs9, rfl, h9, hp6⟩ := okL_i hp5
  obtain ⟨q0_5, rfl, l_q0_5, u_q0_5, eg_q0_5⟩ := h9
  obtain ⟨v9, fs9, rfl, h9, hp7⟩ := okL_i hp6
  obtain ⟨q0_6, rfl⟩ := h9
  obtain ⟨v9, fs9, rfl, h9, hp8⟩ := okL_i hp7
  obtain ⟨q0_7, rfl⟩ := h9
  obtain ⟨v9, fs9, rfl, h9, hp9⟩ := okL_i hp8
  obtain ⟨q0_8, rfl⟩ := h9
  obtain ⟨v9, fs9, rfl, h9, hp10⟩ := okL_i hp9
  obtain ⟨q0_9, rfl⟩ := h9
  obtain ⟨v9, fs9, rfl, h9, hp11⟩ := okL_i hp10
  obtain ⟨q0_10, rfl, l_q0_10, u_q0_10⟩ := h9
  obtain ⟨v9, fs9, rfl, h9, hp12⟩ := okL_i hp11
  obtain ⟨q0_11, rfl⟩ := h9
  obtain ⟨v9, fs9, rfl, h9, hp13⟩ := okL_i hp12
  obtain ⟨q0_12, rfl⟩ := h9
  obtain ⟨v9, fs9, rfl, h9, hp14⟩ := okL_i hp13
  obtain ⟨q0_13, rfl, eg_q0_13⟩ := h9
  obtain ⟨v9, fs9, rfl, h9, hp15⟩ := okL_i hp14
  obtain ⟨q0_14, rfl, eg_q0_14⟩ := h9
  obtain ⟨v9, fs9, rfl, h9, hp16⟩ := okL_i hp15
  obtain ⟨q0_15, rfl, t_q0_15⟩ := h9
  obtain ⟨v9, fs9, rfl, h9, hp17⟩ := okL_i hp16
  obtain ⟨q0_16, rfl⟩ := h9
  obtain ⟨v9, fs9, rfl, h9, hp18⟩ := okL_i hp17
  obtain ⟨q0_17, rfl, t_q0_17⟩ := h9
  obtain ⟨v9, fs9, rfl, h9, hp19⟩ := okL_i hp18
  obtain ⟨q0_18, rfl, t_q0_18⟩ := h9
  obtain ⟨v9, fs9, rfl, h9, hp20⟩ := okL_i hp19
  obtain ⟨q0_19, rfl, t_q0_19⟩ := h9
  obtain ⟨v9, fs9, rfl, h9, hp21⟩ := okL_i hp20
  obtain ⟨q0_20, rfl, l_q0_20, u_q0_20⟩ := h9
  obtain ⟨v9, fs9, rfl, h9, hp22⟩ := okL_i hp21
  obtain ⟨q0_21, rfl, t_q0_21⟩ := h9
  obtain ⟨v9, fs9, rfl, h9, hp23⟩ := okL_i hp22
  obtain ⟨q0_22, rfl, t_q0_22⟩ := h9
  obtain ⟨v9, fs9, rfl, h9, hp24⟩ := okL_i hp23
  obtain ⟨q0_23, rfl⟩ := h9
  obtain ⟨v9, fs9, rfl, h9, hp25⟩ := okL_i hp24
  obtain ⟨q0_24, rfl⟩ := h9
  obtain ⟨v9, fs9, rfl, h9, hp26⟩ := okL_i hp25
  obtain ⟨q0_25, rfl⟩ := h9
  obtain ⟨v9, fs9, rfl, h9, hp27⟩ := okL_i hp26
  obtain ⟨q0_26, rfl, t_q0_26⟩ := h9
  obtain ⟨v9, fs9, rfl, h9, hp28⟩ := okL_i hp27
  obtain ⟨q0_27, rfl, t_q0_27⟩ := h9
  obtain ⟨v9, fs9, rfl, h9, hp29⟩ := okL_i hp28
  obtain ⟨q0_28, rfl, t_q0_28⟩ := h9
  obtain ⟨v9, fs9, rfl, h9, hp30⟩ := okL_i hp29
  obtain ⟨q0_29, rfl, t_q0_29⟩ := h9
  obtain ⟨v9, fs9, rfl, h9, hp31⟩ := okL_i hp30
  obtain ⟨q0_30, rfl, t_q0_30⟩ := h9
  obtain ⟨v9, fs9, rfl, h9, hp32⟩ := okL_i hp31
  obtain ⟨q0_31, rfl, t_q0_31⟩ := h9
  obtain ⟨v9, fs9, rfl, h9, hp33⟩ := okL_i hp32
  obtain ⟨q0_32, rfl⟩ := h9
  obtain ⟨v9, fs9, rfl, h9, hp34⟩ := okL_i hp33
  obtain ⟨q0_33, rfl, t_q0_33⟩ := h9
  obtain ⟨v9, fs9, rfl, h9, hp35⟩ := okL_i hp34
  obtain ⟨q0_34, rfl, t_q0_34⟩ := h9
  obtain ⟨v9, fs9, rfl, h9, hp36⟩ := okL_i hp35
  obtain ⟨q0_35, rfl, t_q0_35⟩ := h9
  have hpz := okL_z hp36
  subst hpz
  have hH : HT D cs A T (a0 :: O) ((a0, .inr (12, [.int q0_0, .ref q0_1, .ref q0_2, .ref q0_3, .ref q0_4, .int q0_5, .int q0_6, .int q0_7, .int q0_8, .int q0_9, .int q0_10, .int q0_11, .int q0_12, .int q0_13, .int q0_14, .ref q0_15, .int q0_16, .ref q0_17, .ref q0_18, .ref q0_19, .int q0_20, .ref q0_21, .ref q0_22, .int q0_23, .int q0_24, .int q0_25, .ref q0_26, .ref q0_27, .ref q0_28, .ref q0_29, .ref q0_30, .ref q0_31, .int q0_32, .ref q0_33, .ref q0_34, .ref q0_35])) :: X) H := hH
  have hO : okO T (a0 :: O) [8] := okO.cons (hO0.sub (by decide)) t_a0 (by decide)
  obtain ⟨e9, hs9, hH⟩ := HT.takeA hH t_q0_1 (nm_c (tag_ne t_q0_1 t_a0 (by first | decide | exact fun q => absurd (show 8 = 22 from congrArg Prod.fst q) (by decide))) (hO0.no t_q0_1 (by decide)))
  obtain ⟨f1, rfl, s_f1, g_f1⟩ : ∃ f : Nat → Int32, e9 = .inl (cs.2.1, 3906, .inl f) ∧ B8 3906 f ∧ (3906 = 3906 → f 1 = nI (hg / 6) ∧ f 2 = nI (hg % 6)) := hs9
  have g_f1 := g_f1 rfl
  have hO : okO T (q0_1 :: a0 :: O) [] := okO.cons (hO.sub (by decide)) t_q0_1 (by decide)
  refine lv_aload_n hx hb dX12_undo_0 rfl (lv_at hl 0 rfl) ?_
  refine lv_iconst (v := 0) hx hb dX12_undo_1 (by decide) ?_
  refine x_putk (ci := 12) (v := .int 0) (ty := tyX12 0) (C := RX12) (F := TX12) (N := 36) hx hb hts uX12 tyX12 tyX12_ok nmX12 hown hkb hH hS 1 rfl rfl 0 (by decide) kw_1223 (fun _ h9 => h9) rfl (tyX12_ok 0 (by decide)) rfl rfl (Nat.le_of_ble_eq_true rfl) dX12_undo_2 (fun H locs hH hS => ?_)
  have hH : HT D cs A T (q0_1 :: a0 :: O) ((q0_1, .inl (cs.2.1, 3906, .inl f1)) :: (a0, .inr (12, [.int 0, .ref q0_1, .ref q0_2, .ref q0_3, .ref q0_4, .int q0_5, .int q0_6, .int q0_7, .int q0_8, .int q0_9, .int q0_10, .int q0_11, .int q0_12, .int q0_13, .int q0_14, .ref q0_15, .int q0_16, .ref q0_17, .ref q0_18, .ref q0_19, .int q0_20, .ref q0_21, .ref q0_22, .int q0_23, .int q0_24, .int q0_25, .ref q0_26, .ref q0_27, .ref q0_28, .ref q0_29, .ref q0_30, .ref q0_31, .int q0_32, .ref q0_33, .ref q0_34, .ref q0_35])) :: X) H := hH
  refine lv_iload_n hx hb dX12_undo_5 rfl (lv_at hl 1 rfl) ?_
  refine lv_i2l hx hb dX12_undo_6 rfl ?_
  refine lv_lconst (v := 1) hx hb dX12_undo_7 (by decide) ?_
  refine lv_ldc2 hx hb hown (hts _ kw_1602) dX12_undo_8 ?_
  refine tk_i hH hS hA (tr_S (n := 3) (As := [.long x1.toInt64, .long 1, .long 10]) hx hb hml hown hts hkb hH (ox_c (ox_c hOX)) hks hE hS hA (s_M_within l D cs kf T (q0_1 :: a0 :: O) ((q0_1, .inl (cs.2.1, 3906, .inl f1)) :: (a0, .inr (12, [.int 0, .ref q0_1, .ref q0_2, .ref q0_3, .ref q0_4, .int q0_5, .int q0_6, .int q0_7, .int q0_8, .int q0_9, .int q0_10, .int q0_11, .int q0_12, .int q0_13, .int q0_14, .ref q0_15, .int q0_16, .ref q0_17, .ref q0_18, .ref q0_19, .int q0_20, .ref q0_21, .ref q0_22, .int q0_23, .int q0_24, .int q0_25, .ref q0_26, .ref q0_27, .ref q0_28, .ref q0_29, .ref q0_30, .ref q0_31, .int q0_32, .ref q0_33, .ref q0_34, .ref q0_35])) :: X) x1.toInt64 1 10  (hO.sub (by decide))) kw_1341 kw_1342 kw_13 kw_1343 (by decide +kernel) ⟨Nat.le_of_ble_eq_true rfl, Nat.le_of_ble_eq_true rfl⟩ rfl rfl hl.1 (Nat.le_of_ble_eq_true rfl) dX12_undo_11 ⟨Nat.le_of_ble_eq_true rfl, Nat.le_of_ble_eq_true rfl⟩) (fun v11 u H locs hz9 hH hS => ?_)
  obtain ⟨rfl, l_v11, u_v11, x_v110, x_v111⟩ := hz9
  simp only [Int32.toInt_toInt64] at x_v110 x_v111
  have k9_1 : (1 : Int64).toInt = 1 := by decide
  have k9_10 : (10 : Int64).toInt = 10 := by decide
  have hH : HT D cs A T (q0_1 :: a0 :: O) ((q0_1, .inl (cs.2.1, 3906, .inl f1)) :: (a0, .inr (12, [.int 0, .ref q0_1, .ref q0_2, .ref q0_3, .ref q0_4, .int q0_5, .int q0_6, .int q0_7, .int q0_8, .int q0_9, .int q0_10, .int q0_11, .int q0_12, .int q0_13, .int q0_14, .ref q0_15, .int q0_16, .ref q0_17, .ref q0_18, .ref q0_19, .int q0_20, .ref q0_21, .ref q0_22, .int q0_23, .int q0_24, .int q0_25, .ref q0_26, .ref q0_27, .ref q0_28, .ref q0_29, .ref q0_30, .ref q0_31, .int q0_32, .ref q0_33, .ref q0_34, .ref q0_35])) :: X) H := hH
  refine W.widen (k := 0) (n := 0) (Nat.le_of_ble_eq_true rfl) (Nat.le_of_ble_eq_true rfl) ?_
  refine lv_if_eq (tgt := 28) hx hb dX12_undo_14 (by decide) (fun c14 => ?_) (fun c14 => ?_)
  · skip
    have tc14 := f_eq (k := 0) (by decide) c14
    clear x_v110
    replace x_v111 := x_v111.resolve_left (fun q9 => q9 tc14)
    refine lv_bipush (v := (-3)) hx hb dX12_undo_28 (by decide) ?_
    have hH : HT D cs A T (a0 :: O) ((a0, .inr (12, [.int 0, .ref q0_1, .ref q0_2, .ref q0_3, .ref q0_4, .int q0_5, .int q0_6, .int q0_7, .int q0_8, .int q0_9, .int q0_10, .int q0_11, .int q0_12, .int q0_13, .int q0_14, .ref q0_15, .int q0_16, .ref q0_17, .ref q0_18, .ref q0_19, .int q0_20, .ref q0_21, .ref q0_22, .int q0_23, .int q0_24, .int q0_25, .ref q0_26, .ref q0_27, .ref q0_28, .ref q0_29, .ref q0_30, .ref q0_31, .int q0_32, .ref q0_33, .ref q0_34, .ref q0_35])) :: X) H := HT.layA hH t_q0_1 (show sp cs T (8, 3906, hg) _ from ⟨_, rfl, s_f1, fun _ => g_f1⟩)
    have hH : HT D cs A T O X H := HT.lay (ci := 12) hH t_a0 (okL_c (⟨_, rfl⟩) (okL_c (⟨_, rfl, t_q0_1⟩) (okL_c (⟨_, rfl, t_q0_2⟩) (okL_c (⟨_, rfl, t_q0_3⟩) (okL_c (⟨_, rfl, t_q0_4⟩) (okL_c (⟨_, rfl, by omega, by omega, by omega⟩) (okL_c (⟨_, rfl⟩) (okL_c (⟨_, rfl⟩) (okL_c (⟨_, rfl⟩) (okL_c (⟨_, rfl⟩) (okL_c (⟨_, rfl, by omega, by omega⟩) (okL_c (⟨_, rfl⟩) (okL_c (⟨_, rfl⟩) (okL_c (⟨_, rfl, by omega⟩) (okL_c (⟨_, rfl, by omega⟩) (okL_c (⟨_, rfl, t_q0_15⟩) (okL_c (⟨_, rfl⟩) (okL_c (⟨_, rfl, t_q0_17⟩) (okL_c (⟨_, rfl, t_q0_18⟩) (okL_c (⟨_, rfl, t_q0_19⟩) (okL_c (⟨_, rfl, by omega, by omega⟩) (okL_c (⟨_, rfl, t_q0_21⟩) (okL_c (⟨_, rfl, t_q0_22⟩) (okL_c (⟨_, rfl⟩) (okL_c (⟨_, rfl⟩) (okL_c (⟨_, rfl⟩) (okL_c (⟨_, rfl, t_q0_26⟩) (okL_c (⟨_, rfl, t_q0_27⟩) (okL_c (⟨_, rfl, t_q0_28⟩) (okL_c (⟨_, rfl, t_q0_29⟩) (okL_c (⟨_, rfl, t_q0_30⟩) (okL_c (⟨_, rfl, t_q0_31⟩) (okL_c (⟨_, rfl⟩) (okL_c (⟨_, rfl, t_q0_33⟩) (okL_c (⟨_, rfl, t_q0_34⟩) (okL_c (⟨_, rfl, t_q0_35⟩) (okL_n)))))))))))))))))))))))))))))))))))))
    have hO := hO0
    have z9_m3 : ((-3) : Int32).toInt = -3 := by decide
    exact te_i hx hb hr hlocks hH hS (⟨rfl, by decide, by decide⟩) dX12_undo_30
  · skip
    have tc14 := f_ne (k := 0) (by decide) c14
    replace x_v110 := x_v110.resolve_left tc14
    clear x_v111
    refine lv_iload_n hx hb dX12_undo_17 rfl (lv_at hl 1 rfl) ?_
    refine lv_aload_n hx hb dX12_undo_18 rfl (lv_at hl 0 rfl) ?_
    refine x_getk (ci := 12) (C := RX12) (F := TX12) (N := 36) (v := .ref q0_1) hx hb hts uX12 hown hkb hH 1 rfl rfl 1 (by decide) rfl kw_1224 (fun _ h9 => h9) dX12_undo_19 ?_
    refine lv_bipush (v := 90) hx hb dX12_undo_22 (by decide) ?_
    refine xa_ild hx hb hkb hH 0 rfl (by decide) (by decide) dX12_undo_24 ?_
    refine lv_topi (fun v24 ev24 => ?_)
    have tv24 : v24 = f1 90 := by rw [ev24]; rfl
    have bv24 : 0 ≤ v24.toInt ∧ v24.toInt ≤ 10 := by rw [ev24]; exact (s_f1.at (by decide) 90).2.2.2.2.2.1 (by decide)
    refine lv_icmp_le (tgt := 31) hx hb dX12_undo_25 (by decide) (fun c25 => ?_) (fun c25 => ?_)
    · skip
      have fuc25 := full_i x1
      have fvc25 := full_i v24
      have tc25 := g_le c25
      refine lv_aload_n hx hb dX12_undo_31 rfl (lv_at hl 0 rfl) ?_
      refine x_getk (ci := 12) (C := RX12) (F := TX12) (N := 36) (v := .ref q0_1) hx hb hts uX12 hown hkb hH 1 rfl rfl 1 (by decide) rfl kw_1224 (fun _ h9 => h9) dX12_undo_32 ?_
      refine lv_bipush (v := 90) hx hb dX12_undo_35 (by decide) ?_
      refine lv_dup2_11 hx hb dX12_undo_37 rfl rfl ?_
      refine xa_ild hx hb hkb hH 0 rfl (by decide) (by decide) dX12_undo_38 ?_
      refine lv_topi (fun v38 ev38 => ?_)
      have tv38 : v38 = f1 90 := by rw [ev38]; rfl
      have bv38 : 0 ≤ v38.toInt ∧ v38.toInt ≤ 10 := by rw [ev38]; exact (s_f1.at (by decide) 90).2.2.2.2.2.1 (by decide)
      have hq9 : v38.toInt = v24.toInt := by rw [tv38, tv24]
      refine lv_iload_n hx hb dX12_undo_39 rfl (lv_at hl 1 rfl) ?_
      refine lv_isub hx hb dX12_undo_40 ?_
      refine lv_topi (fun v40 ev40 => ?_)
      have tv40 : v40.toInt = v38.toInt - x1.toInt := by rw [ev40]; exact sub_i rfl rfl (by omega) (by omega)
      refine xa_ist hx hb hkb hH hS 0 rfl (by decide) (by decide) dX12_undo_41 (fun H locs hH hS => ?_)
      have hH : HT D cs A T (q0_1 :: a0 :: O) ((q0_1, .inl (cs.2.1, 3906, .inl (upd f1 (90) v40))) :: (a0, .inr (12, [.int 0, .ref q0_1, .ref q0_2, .ref q0_3, .ref q0_4, .int q0_5, .int q0_6, .int q0_7, .int q0_8, .int q0_9, .int q0_10, .int q0_11, .int q0_12, .int q0_13, .int q0_14, .ref q0_15, .int q0_16, .ref q0_17, .ref q0_18, .ref q0_19, .int q0_20, .ref q0_21, .ref q0_22, .int q0_23, .int q0_24, .int q0_25, .ref q0_26, .ref q0_27, .ref q0_28, .ref q0_29, .ref q0_30, .ref q0_31, .int q0_32, .ref q0_33, .ref q0_34, .ref q0_35])) :: X) H := hH
      obtain ⟨F41, eF41⟩ : ∃ f9, f9 = upd f1 (90) v40 := ⟨_, rfl⟩
      have hH : HT D cs A T (q0_1 :: a0 :: O) ((q0_1, .inl (cs.2.1, 3906, .inl F41)) :: (a0, .inr (12, [.int 0, .ref q0_1, .ref q0_2, .ref q0_3, .ref q0_4, .int q0_5, .int q0_6, .int q0_7, .int q0_8, .int q0_9, .int q0_10, .int q0_11, .int q0_12, .int q0_13, .int q0_14, .ref q0_15, .int q0_16, .ref q0_17, .ref q0_18, .ref q0_19, .int q0_20, .ref q0_21, .ref q0_22, .int q0_23, .int q0_24, .int q0_25, .ref q0_26, .ref q0_27, .ref q0_28, .ref q0_29, .ref q0_30, .ref q0_31, .int q0_32, .ref q0_33, .ref q0_34, .ref q0_35])) :: X) H := eF41 ▸ hH
      have g_F41 : F41 1 = nI (hg / 6) ∧ F41 2 = nI (hg % 6) := by rw [eF41]; exact ⟨(upd_ne (by decide)).trans g_f1.1, (upd_ne (by decide)).trans g_f1.2⟩
      have s_F41 : B8 3906 F41 := by rw [eF41]; exact s_f1.put (i := 90) (x := v40) (by decide) (by decide) (⟨fun q9 => absurd q9 (by decide), fun q9 => absurd q9 (by decide), fun q9 => absurd q9 (by decide), fun q9 => absurd q9 (by decide), fun q9 => absurd q9 (by decide), fun _ => ⟨by omega, by omega⟩, fun q9 => absurd q9 (by decide)⟩)
      refine lv_iconst (v := 0) hx hb dX12_undo_42 (by decide) ?_
      have J44 : ∀ (n : Nat) (p44_2 : Int32) (g44_0 : Nat → Int32) (H : Heap) (locs : List Loc) (ls : Array Slot), (31 - p44_2.toInt).toNat = n → (B8 3906 g44_0) → (g44_0 1 = nI (hg / 6) ∧ g44_0 2 = nI (hg % 6)) → (0 ≤ p44_2.toInt) → (p44_2.toInt ≤ 31) → HT D cs A T (q0_1 :: a0 :: O) ((q0_1, .inl (cs.2.1, 3906, .inl g44_0)) :: (a0, .inr (12, [.int 0, .ref q0_1, .ref q0_2, .ref q0_3, .ref q0_4, .int q0_5, .int q0_6, .int q0_7, .int q0_8, .int q0_9, .int q0_10, .int q0_11, .int q0_12, .int q0_13, .int q0_14, .ref q0_15, .int q0_16, .ref q0_17, .ref q0_18, .ref q0_19, .int q0_20, .ref q0_21, .ref q0_22, .int q0_23, .int q0_24, .int q0_25, .ref q0_26, .ref q0_27, .ref q0_28, .ref q0_29, .ref q0_30, .ref q0_31, .int q0_32, .ref q0_33, .ref q0_34, .ref q0_35])) :: X) H → va_S A s.heap H locs → lv_has ls 3 [(2, .int p44_2), (0, .ref a0)] → W p l e { frames := 1, cells := 0, slots := 0, locals := 25 } s m [.ref a0, .int x1].toArray below meth c H locs 0 0 (MQ below (Ti D cs (fun r u => u = (T, O, X) ∧ -3 ≤ r.toInt ∧ r.toInt ≤ 10) A) [.ref a0, .int x1].toArray s 0 0 A) (F0 m 44 ls []) := by
        intro n
        induction n using Nat.strongRecOn with
        | _ n ih44 =>
          intro p44_2 g44_0 H locs ls hm44 s_g44_0 g_g44_0 l_p44_2 u_p44_2 hH hS hl
          refine lv_iload_n hx hb dX12_undo_44 rfl (lv_at hl 0 rfl) ?_
          refine lv_bipush (v := 31) hx hb dX12_undo_45 (by decide) ?_
          refine lv_icmp_ge (tgt := 85) hx hb dX12_undo_47 (by decide) (fun c47 => ?_) (fun c47 => ?_)
          · skip
            have tc47 := f_ge (k := 31) (by decide) c47
            refine lv_aload_n hx hb dX12_undo_85 rfl (lv_at hl 1 rfl) ?_
            refine x_getk (ci := 12) (C := RX12) (F := TX12) (N := 36) (v := .ref q0_1) hx hb hts uX12 hown hkb hH 1 rfl rfl 1 (by decide) rfl kw_1224 (fun _ h9 => h9) dX12_undo_86 ?_
            refine lv_bipush (v := 90) hx hb dX12_undo_89 (by decide) ?_
            refine xa_ild hx hb hkb hH 0 rfl (by decide) (by decide) dX12_undo_91 ?_
            refine lv_topi (fun v91 ev91 => ?_)
            have tv91 : v91 = g44_0 90 := by rw [ev91]; rfl
            have bv91 : 0 ≤ v91.toInt ∧ v91.toInt ≤ 10 := by rw [ev91]; exact (s_g44_0.at (by decide) 90).2.2.2.2.2.1 (by decide)
            have hH : HT D cs A T (a0 :: O) ((a0, .inr (12, [.int 0, .ref q0_1, .ref q0_2, .ref q0_3, .ref q0_4, .int q0_5, .int q0_6, .int q0_7, .int q0_8, .int q0_9, .int q0_10, .int q0_11, .int q0_12, .int q0_13, .int q0_14, .ref q0_15, .int q0_16, .ref q0_17, .ref q0_18, .ref q0_19, .int q0_20, .ref q0_21, .ref q0_22, .int q0_23, .int q0_24, .int q0_25, .ref q0_26, .ref q0_27, .ref q0_28, .ref q0_29, .ref q0_30, .ref q0_31, .int q0_32, .ref q0_33, .ref q0_34, .ref q0_35])) :: X) H := HT.layA hH t_q0_1 (show sp cs T (8, 3906, hg) _ from ⟨_, rfl, s_g44_0, fun _ => g_g44_0⟩)
            have hH : HT D cs A T O X H := HT.lay (ci := 12) hH t_a0 (okL_c (⟨_, rfl⟩) (okL_c (⟨_, rfl, t_q0_1⟩) (okL_c (⟨_, rfl, t_q0_2⟩) (okL_c (⟨_, rfl, t_q0_3⟩) (okL_c (⟨_, rfl, t_q0_4⟩) (okL_c (⟨_, rfl, by omega, by omega, by omega⟩) (okL_c (⟨_, rfl⟩) (okL_c (⟨_, rfl⟩) (okL_c (⟨_, rfl⟩) (okL_c (⟨_, rfl⟩) (okL_c (⟨_, rfl, by omega, by omega⟩) (okL_c (⟨_, rfl⟩) (okL_c (⟨_, rfl⟩) (okL_c (⟨_, rfl, by omega⟩) (okL_c (⟨_, rfl, by omega⟩) (okL_c (⟨_, rfl, t_q0_15⟩) (okL_c (⟨_, rfl⟩) (okL_c (⟨_, rfl, t_q0_17⟩) (okL_c (⟨_, rfl, t_q0_18⟩) (okL_c (⟨_, rfl, t_q0_19⟩) (okL_c (⟨_, rfl, by omega, by omega⟩) (okL_c (⟨_, rfl, t_q0_21⟩) (okL_c (⟨_, rfl, t_q0_22⟩) (okL_c (⟨_, rfl⟩) (okL_c (⟨_, rfl⟩) (okL_c (⟨_, rfl⟩) (okL_c (⟨_, rfl, t_q0_26⟩) (okL_c (⟨_, rfl, t_q0_27⟩) (okL_c (⟨_, rfl, t_q0_28⟩) (okL_c (⟨_, rfl, t_q0_29⟩) (okL_c (⟨_, rfl, t_q0_30⟩) (okL_c (⟨_, rfl, t_q0_31⟩) (okL_c (⟨_, rfl⟩) (okL_c (⟨_, rfl, t_q0_33⟩) (okL_c (⟨_, rfl, t_q0_34⟩) (okL_c (⟨_, rfl, t_q0_35⟩) (okL_n)))))))))))))))))))))))))))))))))))))
            have hO := hO0
            exact te_i hx hb hr hlocks hH hS (⟨rfl, by omega, by omega⟩) dX12_undo_92
          · skip
            have tc47 := f_nge (k := 31) (by decide) c47
            refine lv_aload_n hx hb dX12_undo_50 rfl (lv_at hl 1 rfl) ?_
            refine x_getk (ci := 12) (C := RX12) (F := TX12) (N := 36) (v := .ref q0_1) hx hb hts uX12 hown hkb hH 1 rfl rfl 1 (by decide) rfl kw_1224 (fun _ h9 => h9) dX12_undo_51 ?_
            refine lv_bipush (v := 59) hx hb dX12_undo_54 (by decide) ?_
            refine lv_iload_n hx hb dX12_undo_56 rfl (lv_at hl 0 rfl) ?_
            refine lv_iadd hx hb dX12_undo_57 ?_
            refine lv_topi (fun v57 ev57 => ?_)
            have tv57 : v57.toInt = (59) + p44_2.toInt := by rw [ev57]; exact add_i (by decide : (59 : Int32).toInt = 59) rfl (by omega) (by omega)
            refine lv_aload_n hx hb dX12_undo_58 rfl (lv_at hl 1 rfl) ?_
            refine x_getk (ci := 12) (C := RX12) (F := TX12) (N := 36) (v := .ref q0_1) hx hb hts uX12 hown hkb hH 1 rfl rfl 1 (by decide) rfl kw_1224 (fun _ h9 => h9) dX12_undo_59 ?_
            refine lv_bipush (v := 91) hx hb dX12_undo_62 (by decide) ?_
            refine lv_bipush (v := 31) hx hb dX12_undo_64 (by decide) ?_
            refine lv_aload_n hx hb dX12_undo_66 rfl (lv_at hl 1 rfl) ?_
            refine x_getk (ci := 12) (C := RX12) (F := TX12) (N := 36) (v := .ref q0_1) hx hb hts uX12 hown hkb hH 1 rfl rfl 1 (by decide) rfl kw_1224 (fun _ h9 => h9) dX12_undo_67 ?_
            refine lv_bipush (v := 90) hx hb dX12_undo_70 (by decide) ?_
            refine xa_ild hx hb hkb hH 0 rfl (by decide) (by decide) dX12_undo_72 ?_
            refine lv_topi (fun v72 ev72 => ?_)
            have tv72 : v72 = g44_0 90 := by rw [ev72]; rfl
            have bv72 : 0 ≤ v72.toInt ∧ v72.toInt ≤ 10 := by rw [ev72]; exact (s_g44_0.at (by decide) 90).2.2.2.2.2.1 (by decide)
            refine lv_imul hx hb dX12_undo_73 ?_
            refine lv_topi (fun v73 ev73 => ?_)
            have tv73 : v73.toInt = (31) * v72.toInt := by rw [ev73]; exact mul_i (by decide : (31 : Int32).toInt = 31) rfl (by omega) (by omega)
            refine lv_iadd hx hb dX12_undo_74 ?_
            refine lv_topi (fun v74 ev74 => ?_)
            have tv74 : v74.toInt = (91) + v73.toInt := by rw [ev74]; exact add_i (by decide : (91 : Int32).toInt = 91) rfl (by omega) (by omega)
            refine lv_iload_n hx hb dX12_undo_75 rfl (lv_at hl 0 rfl) ?_
            refine lv_iadd hx hb dX12_undo_76 ?_
            refine lv_topi (fun v76 ev76 => ?_)
            have tv76 : v76.toInt = v74.toInt + p44_2.toInt := by rw [ev76]; exact add_i rfl rfl (by omega) (by omega)
            refine xa_ild hx hb hkb hH 0 rfl (by omega) (by omega) dX12_undo_77 ?_
            refine lv_topi (fun v77 ev77 => ?_)
            have tv77 : v77 = g44_0 v76.toInt.toNat := ev77
            refine xa_ist hx hb hkb hH hS 0 rfl (by omega) (by omega) dX12_undo_78 (fun H locs hH hS => ?_)
            have hH : HT D cs A T (q0_1 :: a0 :: O) ((q0_1, .inl (cs.2.1, 3906, .inl (upd g44_0 (v57.toInt.toNat) v77))) :: (a0, .inr (12, [.int 0, .ref q0_1, .ref q0_2, .ref q0_3, .ref q0_4, .int q0_5, .int q0_6, .int q0_7, .int q0_8, .int q0_9, .int q0_10, .int q0_11, .int q0_12, .int q0_13, .int q0_14, .ref q0_15, .int q0_16, .ref q0_17, .ref q0_18, .ref q0_19, .int q0_20, .ref q0_21, .ref q0_22, .int q0_23, .int q0_24, .int q0_25, .ref q0_26, .ref q0_27, .ref q0_28, .ref q0_29, .ref q0_30, .ref q0_31, .int q0_32, .ref q0_33, .ref q0_34, .ref q0_35])) :: X) H := hH
            obtain ⟨F78, eF78⟩ : ∃ f9, f9 = upd g44_0 (v57.toInt.toNat) v77 := ⟨_, rfl⟩
            have hH : HT D cs A T (q0_1 :: a0 :: O) ((q0_1, .inl (cs.2.1, 3906, .inl F78)) :: (a0, .inr (12, [.int 0, .ref q0_1, .ref q0_2, .ref q0_3, .ref q0_4, .int q0_5, .int q0_6, .int q0_7, .int q0_8, .int q0_9, .int q0_10, .int q0_11, .int q0_12, .int q0_13, .int q0_14, .ref q0_15, .int q0_16, .ref q0_17, .ref q0_18, .ref q0_19, .int q0_20, .ref q0_21, .ref q0_22, .int q0_23, .int q0_24, .int q0_25, .ref q0_26, .ref q0_27, .ref q0_28, .ref q0_29, .ref q0_30, .ref q0_31, .int q0_32, .ref q0_33, .ref q0_34, .ref q0_35])) :: X) H := eF78 ▸ hH
            have g_F78 : F78 1 = nI (hg / 6) ∧ F78 2 = nI (hg % 6) := by rw [eF78]; exact ⟨(upd_ne (by omega)).trans g_g44_0.1, (upd_ne (by omega)).trans g_g44_0.2⟩
            have s_F78 : B8 3906 F78 := by rw [eF78]; exact s_g44_0.put (i := v57) (x := v77) (by omega) (by omega) (p8_far (by omega) (⟨by omega, by omega⟩))
            obtain ⟨v79, ev79⟩ : ∃ y : Int32, y = p44_2 + 1 := ⟨_, rfl⟩
            have tv79 : v79.toInt = p44_2.toInt + (1) := by rw [ev79]; exact add_i rfl (by decide) (by omega) (by omega)
            refine lv_iinc (v := v79) (lv' := [(2, .int v79), (0, .ref a0)]) hx hb dX12_undo_79 hl (k := 0) rfl (by rw [ev79]; rfl) (by decide) rfl (fun ls hl => ?_)
            refine lv_goto (tgt := 44) hx hb dX12_undo_82 (by decide) ?_
            exact ih44 _ (by omega) v79 F78 _ _ _ rfl s_F78 g_F78 (by omega) (by omega) hH hS (lv_sub hl [0, 1] rfl)
      refine lv_istore_n (lv' := [(2, .int 0), (0, .ref a0), (1, .int x1)]) hx hb dX12_undo_43 rfl hl (by decide) rfl (fun ls hl => ?_)
      exact J44 _ 0 F41 _ _ _ rfl s_F41 g_F41 (by decide) (by decide) hH hS (lv_sub hl [0, 1] rfl)
    · skip
      have fuc25 := full_i x1
      have fvc25 := full_i v24
      have tc25 := g_nle c25
      refine lv_bipush (v := (-3)) hx hb dX12_undo_28 (by decide) ?_
      have hH : HT D cs A T (a0 :: O) ((a0, .inr (12, [.int 0, .ref q0_1, .ref q0_2, .ref q0_3, .ref q0_4, .int q0_5, .int q0_6, .int q0_7, .int q0_8, .int q0_9, .int q0_10, .int q0_11, .int q0_12, .int q0_13, .int q0_14, .ref q0_15, .int q0_16, .ref q0_17, .ref q0_18, .ref q0_19, .int q0_20, .ref q0_21, .ref q0_22, .int q0_23, .int q0_24, .int q0_25, .ref q0_26, .ref q0_27, .ref q0_28, .ref q0_29, .ref q0_30, .ref q0_31, .int q0_32, .ref q0_33, .ref q0_34, .ref q0_35])) :: X) H := HT.layA hH t_q0_1 (show sp cs T (8, 3906, hg) _ from ⟨_, rfl, s_f1, fun _ => g_f1⟩)
      have hH : HT D cs A T O X H := HT.lay (ci := 12) hH t_a0 (okL_c (⟨_, rfl⟩) (okL_c (⟨_, rfl, t_q0_1⟩) (okL_c (⟨_, rfl, t_q0_2⟩) (okL_c (⟨_, rfl, t_q0_3⟩) (okL_c (⟨_, rfl, t_q0_4⟩) (okL_c (⟨_, rfl, by omega, by omega, by omega⟩) (okL_c (⟨_, rfl⟩) (okL_c (⟨_, rfl⟩) (okL_c (⟨_, rfl⟩) (okL_c (⟨_, rfl⟩) (okL_c (⟨_, rfl, by omega, by omega⟩) (okL_c (⟨_, rfl⟩) (okL_c (⟨_, rfl⟩) (okL_c (⟨_, rfl, by omega⟩) (okL_c (⟨_, rfl, by omega⟩) (okL_c (⟨_, rfl, t_q0_15⟩) (okL_c (⟨_, rfl⟩) (okL_c (⟨_, rfl, t_q0_17⟩) (okL_c (⟨_, rfl, t_q0_18⟩) (okL_c (⟨_, rfl, t_q0_19⟩) (okL_c (⟨_, rfl, by omega, by omega⟩) (okL_c (⟨_, rfl, t_q0_21⟩) (okL_c (⟨_, rfl, t_q0_22⟩) (okL_c (⟨_, rfl⟩) (okL_c (⟨_, rfl⟩) (okL_c (⟨_, rfl⟩) (okL_c (⟨_, rfl, t_q0_26⟩) (okL_c (⟨_, rfl, t_q0_27⟩) (okL_c (⟨_, rfl, t_q0_28⟩) (okL_c (⟨_, rfl, t_q0_29⟩) (okL_c (⟨_, rfl, t_q0_30⟩) (okL_c (⟨_, rfl, t_q0_31⟩) (okL_c (⟨_, rfl⟩) (okL_c (⟨_, rfl, t_q0_33⟩) (okL_c (⟨_, rfl, t_q0_34⟩) (okL_c (⟨_, rfl, t_q0_35⟩) (okL_n)))))))))))))))))))))))))))))))))))))
      have hO := hO0
      have z9_m3 : ((-3) : Int32).toInt = -3 := by decide
      exact te_i hx hb hr hlocks hH hS (⟨rfl, by decide, by decide⟩) dX12_undo_30
set_option maxHeartbeats 4000000 in
set_option maxRecDepth 100000 in
theorem s_M_noTray (l : Launch) (D : va_G) (cs : CS) (kf : KF) (T : TF) (O : List Nat) (X : va_W) (a0 hg mq : Nat) (x1 : Int32) (t_a0 : T a0 = some (22, hg, mq)) (b_hg : hg < 90) (hO : okO T O [1, 22]) : TK l D cs kf yX12_noTray cX12_noTray 2 (some (.int)) { frames := 1, cells := 0, slots := 0, locals := 25 } [.ref a0, .int x1] T O X (Ti D cs (fun r u => u = (T, O, X) ∧ -6 ≤ r.toInt ∧ r.toInt ≤ 0 ∧ (r.toInt ≠ 0 ∨ (0 ≤ x1.toInt ∧ x1.toInt ≤ 3)))) := by
  refine tk_of (by decide) (Nat.le_of_ble_eq_true rfl) (fun p e s m below meth c ls A H locs hx hb hr hml hown hts hlocks hnm hkb hH hS hA hOX hks hE hl => ?_)
  have hown : s.vm.findClass RX12 = some m.cls := hown
  have hl : lv_has ls 2 [(0, .ref a0), (1, .int x1)] := hl
  refine lv_iload_n hx hb dX12_noTray_0 rfl (lv_at hl 1 rfl) ?_
  refine lv_i2l hx hb dX12_noTray_1 rfl ?_
  refine lv_lconst (v := 0) hx hb dX12_noTray_2 (by decide) ?_
  refine lv_ldc2 hx hb hown (hts _ kw_1527) dX12_noTray_3 ?_
  refine tk_i hH hS hA (tr_S (n := 3) (As := [.long x1.toInt64, .long 0, .long 3]) hx hb hml hown hts hkb hH hOX hks hE hS hA (s_M_within l D cs kf T O X x1.toInt64 0 3  (hO.sub (by decide))) kw_1341 kw_1342 kw_13 kw_1343 (by decide +kernel) ⟨Nat.le_of_ble_eq_true rfl, Nat.le_of_ble_eq_true rfl⟩ rfl rfl hl.1 (Nat.le_of_ble_eq_true rfl) dX12_noTray_6 ⟨Nat.le_of_ble_eq_true rfl, Nat.le_of_ble_eq_true rfl⟩) (fun v6 u H locs hz9 hH hS => ?_)
  obtain ⟨rfl, l_v6, u_v6, x_v60, x_v61⟩ := hz9
  simp only [Int32.toInt_toInt64] at x_v60 x_v61
  have k9_0 : (0 : Int64).toInt = 0 := by decide
  have k9_3 : (3 : Int64).toInt = 3 := by decide
  have hH : HT D cs A T O X H := hH
  refine W.widen (k := 0) (n := 0) (Nat.le_of_ble_eq_true rfl) (Nat.le_of_ble_eq_true rfl) ?_
  refine lv_if_ne (tgt := 17) hx hb dX12_noTray_9 (by decide) (fun c9 => ?_) (fun c9 => ?_)
  · skip
    have tc9 := f_ne (k := 0) (by decide) c9
    replace x_v60 := x_v60.resolve_left tc9
    clear x_v61
    refine lv_aload_n hx hb dX12_noTray_17 rfl (lv_at hl 0 rfl) ?_
    refine t_get (ci := 12) (lst := ft12 hg mq) (C := RX12) (F := TX12) (N := 36) hx hb hts uX12 hown hkb hH t_a0 (hO.no t_a0 (by decide)) (fun _ h9 => h9) rfl rfl 33 (by decide) rfl kw_1256 (fun _ h9 => h9) dX12_noTray_18 (fun v9 h9 => ?_)
    obtain ⟨v18, rfl, t_v18⟩ := h9
    refine lv_iload_n hx hb dX12_noTray_21 rfl (lv_at hl 1 rfl) ?_
    refine t_ild hx hb hkb hH t_v18 (hO.no t_v18 (by decide)) (by omega) (by omega) dX12_noTray_22 (fun v22 h9 => ?_)
    refine lv_iconst (v := (-1)) hx hb dX12_noTray_23 (by decide) ?_
    refine lv_icmp_ne (tgt := 32) hx hb dX12_noTray_24 (by decide) (fun c24 => ?_) (fun c24 => ?_)
    · skip
      have tc24 := f_ne (k := -1) (by decide) c24
      refine lv_iconst (v := 0) hx hb dX12_noTray_32 (by decide) ?_
      have z9 : (0 : Int32).toInt = 0 := by decide
      exact te_i hx hb hr hlocks hH hS (⟨rfl, by decide, by decide, by omega⟩) dX12_noTray_33
    · skip
      have tc24 := f_eq (k := -1) (by decide) c24
      refine lv_bipush (v := (-6)) hx hb dX12_noTray_27 (by decide) ?_
      refine lv_goto (tgt := 33) hx hb dX12_noTray_29 (by decide) ?_
      have z9 : ((-6) : Int32).toInt = -6 := by decide
      exact te_i hx hb hr hlocks hH hS (⟨rfl, by decide, by decide, by omega⟩) dX12_noTray_33
  · skip
    have tc9 := f_eq (k := 0) (by decide) c9
    clear x_v60
    replace x_v61 := x_v61.resolve_left (fun q9 => q9 tc9)
    refine lv_bipush (v := (-2)) hx hb dX12_noTray_12 (by decide) ?_
    refine lv_goto (tgt := 33) hx hb dX12_noTray_14 (by decide) ?_
    have z9 : ((-2) : Int32).toInt = -2 := by decide
    exact te_i hx hb hr hlocks hH hS (⟨rfl, by decide, by decide, by omega⟩) dX12_noTray_33
set_option maxHeartbeats 4000000 in
set_option maxRecDepth 100000 in
theorem s_M_days (l : Launch) (D : va_G) (cs : CS) (kf : KF) (T : TF) (O : List Nat) (X : va_W) (a0 hg mq : Nat) (x1 : Int32) (t_a0 : T a0 = some (22, hg, mq)) (b_hg : hg < 90) (hO : okO T O [1, 8, 22]) : TK l D cs kf yX12_days cX12_days 2 (some (.int)) { frames := 1, cells := 0, slots := 0, locals := 25 } [.ref a0, .int x1] T O X (Ti D cs (fun r u => u = (T, O, X))) := by
  refine tk_of (by decide) (Nat.le_of_ble_eq_true rfl) (fun p e s m below meth c ls A H locs hx hb hr hml hown hts hlocks hnm hkb hH hS hA hOX hks hE hl => ?_)
  have hown : s.vm.findClass RX12 = some m.cls := hown
  have hl : lv_has ls 2 [(0, .ref a0), (1, .int x1)] := hl
  refine lv_aload_n hx hb dX12_days_0 rfl (lv_at hl 0 rfl) ?_
  refine lv_iconst (v := 0) hx hb dX12_days_1 (by decide) ?_
  refine t_put (ci := 12) (lst := ft12 hg mq) (v := .int 0) (ty := tyX12 0) (C := RX12) (F := TX12) (N := 36) hx hb hts uX12 tyX12 tyX12_ok nmX12 hown hkb hH hS t_a0 (hO.no t_a0 (by decide)) (fun _ => Iff.rfl) rfl rfl 0 (by decide) rfl (⟨_, rfl⟩) kw_1223 (fun _ h9 => h9) rfl (tyX12_ok 0 (by decide)) rfl rfl dX12_days_2 (fun H locs hH hS => ?_)
  refine lv_iload_n hx hb dX12_days_5 rfl (lv_at hl 1 rfl) ?_
  refine lv_i2l hx hb dX12_days_6 rfl ?_
  refine lv_lconst (v := 1) hx hb dX12_days_7 (by decide) ?_
  refine lv_ldc2 hx hb hown (hts _ kw_1576) dX12_days_8 ?_
  refine tk_i hH hS hA (tr_S (n := 3) (As := [.long x1.toInt64, .long 1, .long 99]) hx hb hml hown hts hkb hH hOX hks hE hS hA (s_M_within l D cs kf T O X x1.toInt64 1 99  (hO.sub (by decide))) kw_1341 kw_1342 kw_13 kw_1343 (by decide +kernel) ⟨Nat.le_of_ble_eq_true rfl, Nat.le_of_ble_eq_true rfl⟩ rfl rfl hl.1 (Nat.le_of_ble_eq_true rfl) dX12_days_11 ⟨Nat.le_of_ble_eq_true rfl, Nat.le_of_ble_eq_true rfl⟩) (fun v11 u H locs hz9 hH hS => ?_)
  obtain ⟨rfl, l_v11, u_v11, x_v110, x_v111⟩ := hz9
  simp only [Int32.toInt_toInt64] at x_v110 x_v111
  have k9_1 : (1 : Int64).toInt = 1 := by decide
  have k9_99 : (99 : Int64).toInt = 99 := by decide
  have hH : HT D cs A T O X H := hH
  refine W.widen (k := 0) (n := 0) (Nat.le_of_ble_eq_true rfl) (Nat.le_of_ble_eq_true rfl) ?_
  refine lv_if_ne (tgt := 20) hx hb dX12_days_14 (by decide) (fun c14 => ?_) (fun c14 => ?_)
  · skip
    have tc14 := f_ne (k := 0) (by decide) c14
    replace x_v110 := x_v110.resolve_left tc14
    clear x_v111
    refine lv_aload_n hx hb dX12_days_20 rfl (lv_at hl 0 rfl) ?_
    refine tk_v hH hS hA (tr_V (n := 0) (As := []) hx hb hml hown hts hkb hH hOX hks hE hS hA (s_M_keeps l D cs kf T O X a0 hg mq t_a0 b_hg (hO.sub (by decide))) kw_1544 kw_1546 ks_79 kw_13 kw_1547 (by decide +kernel) ⟨Nat.le_of_ble_eq_true rfl, Nat.le_of_ble_eq_true rfl⟩ (HT.recv (ci := 12) hkb hH t_a0 (hO.no t_a0 (by decide)) rfl) rfl rfl hl.1 (Nat.le_of_ble_eq_true rfl) dX12_days_21 ⟨Nat.le_of_ble_eq_true rfl, Nat.le_of_ble_eq_true rfl⟩) (fun u H locs hz9 hH hS => ?_)
    have hz9 : u = (T, O, X) := hz9
    subst hz9
    have hH : HT D cs A T O X H := hH
    refine W.widen (k := 0) (n := 0) (Nat.le_of_ble_eq_true rfl) (Nat.le_of_ble_eq_true rfl) ?_
    refine lv_aload_n hx hb dX12_days_24 rfl (lv_at hl 0 rfl) ?_
    refine t_get (ci := 12) (lst := ft12 hg mq) (C := RX12) (F := TX12) (N := 36) hx hb hts uX12 hown hkb hH t_a0 (hO.no t_a0 (by decide)) (fun _ h9 => h9) rfl rfl 1 (by decide) rfl kw_1224 (fun _ h9 => h9) dX12_days_25 (fun v9 h9 => ?_)
    obtain ⟨v25, rfl, t_v25⟩ := h9
    refine lv_bipush (v := 88) hx hb dX12_days_28 (by decide) ?_
    refine lv_dup2_11 hx hb dX12_days_30 rfl rfl ?_
    refine t_ild8 hx hb hkb hH t_v25 (hO.no t_v25 (by decide)) (by decide) (by decide) (by decide) dX12_days_31 (fun v31 h9 h8 => ?_)
    refine lv_iload_n hx hb dX12_days_32 rfl (lv_at hl 1 rfl) ?_
    refine lv_iadd hx hb dX12_days_33 ?_
    refine lv_topi (fun v33 ev33 => ?_)
    refine t_ist8 hx hb hkb hH hS t_v25 (hO.no t_v25 (by decide)) (by decide) (by decide) (by decide) (by decide) (by decide) (p8_far (by decide) (by decide)) dX12_days_34 (fun H locs hH hS => ?_)
    refine lv_aload_n hx hb dX12_days_35 rfl (lv_at hl 0 rfl) ?_
    refine tk_v hH hS hA (tr_V (n := 0) (As := []) hx hb hml hown hts hkb hH hOX hks hE hS hA (s_M_notes l D cs kf T O X a0 hg mq t_a0 b_hg (hO.sub (by decide))) kw_1552 kw_1554 ks_81 kw_13 kw_1555 (by decide +kernel) ⟨Nat.le_of_ble_eq_true rfl, Nat.le_of_ble_eq_true rfl⟩ (HT.recv (ci := 12) hkb hH t_a0 (hO.no t_a0 (by decide)) rfl) rfl rfl hl.1 (Nat.le_of_ble_eq_true rfl) dX12_days_36 ⟨Nat.le_of_ble_eq_true rfl, Nat.le_of_ble_eq_true rfl⟩) (fun u H locs hz9 hH hS => ?_)
    obtain ⟨rfl⟩ := hz9
    have hH : HT D cs A T O X H := hH
    refine W.widen (k := 0) (n := 0) (Nat.le_of_ble_eq_true rfl) (Nat.le_of_ble_eq_true rfl) ?_
    refine lv_aload_n hx hb dX12_days_39 rfl (lv_at hl 0 rfl) ?_
    refine t_get (ci := 12) (lst := ft12 hg mq) (C := RX12) (F := TX12) (N := 36) hx hb hts uX12 hown hkb hH t_a0 (hO.no t_a0 (by decide)) (fun _ h9 => h9) rfl rfl 1 (by decide) rfl kw_1224 (fun _ h9 => h9) dX12_days_40 (fun v9 h9 => ?_)
    obtain ⟨v40, rfl, t_v40⟩ := h9
    refine lv_bipush (v := 88) hx hb dX12_days_43 (by decide) ?_
    refine t_ild8 hx hb hkb hH t_v40 (hO.no t_v40 (by decide)) (by decide) (by decide) (by decide) dX12_days_45 (fun v45 h9 h8 => ?_)
    exact te_i hx hb hr hlocks hH hS (rfl) dX12_days_46
  · skip
    have tc14 := f_eq (k := 0) (by decide) c14
    clear x_v110
    replace x_v111 := x_v111.resolve_left (fun q9 => q9 tc14)
    refine lv_bipush (v := (-3)) hx hb dX12_days_17 (by decide) ?_
    exact te_i hx hb hr hlocks hH hS (rfl) dX12_days_19
set_option maxHeartbeats 4000000 in
set_option maxRecDepth 100000 in
theorem s_M_rains (l : Launch) (D : va_G) (cs : CS) (kf : KF) (T : TF) (O : List Nat) (X : va_W) (a0 hg mq : Nat) (t_a0 : T a0 = some (22, hg, mq)) (b_hg : hg < 90) (hO : okO T O [8, 22]) : TK l D cs kf yX12_rains cX12_rains 3 (some (.boolean)) { frames := 0, cells := 0, slots := 0, locals := 0 } [.ref a0] T O X (Ti D cs (fun r u => u = (T, O, X) ∧ 0 ≤ r.toInt ∧ r.toInt ≤ 1)) := by
  refine tk_of (by decide) (Nat.le_of_ble_eq_true rfl) (fun p e s m below meth c ls A H locs hx hb hr hml hown hts hlocks hnm hkb hH hS hA hOX hks hE hl => ?_)
  have hown : s.vm.findClass RX12 = some m.cls := hown
  have hl : lv_has ls 3 [(0, .ref a0)] := hl
  refine lv_iconst (v := (-1)) hx hb dX12_rains_0 (by decide) ?_
  refine lv_istore_n (lv' := [(1, .int (-1)), (0, .ref a0)]) hx hb dX12_rains_1 rfl hl (by decide) rfl (fun ls hl => ?_)
  refine lv_iconst (v := 0) hx hb dX12_rains_2 (by decide) ?_
  have J4 : ∀ (n : Nat) (p4_2 : Int32) (p4_1 : Int32) (H : Heap) (locs : List Loc) (ls : Array Slot), (14 - p4_2.toInt).toNat = n → (0 ≤ p4_2.toInt) → (p4_2.toInt ≤ 14) → (-1 ≤ p4_1.toInt) → (p4_1.toInt ≤ 13) → HT D cs A T O X H → va_S A s.heap H locs → lv_has ls 3 [(2, .int p4_2), (1, .int p4_1), (0, .ref a0)] → W p l e { frames := 0, cells := 0, slots := 0, locals := 0 } s m [.ref a0].toArray below meth c H locs 0 0 (MQ below (Ti D cs (fun r u => u = (T, O, X) ∧ 0 ≤ r.toInt ∧ r.toInt ≤ 1) A) [.ref a0].toArray s 0 0 A) (F0 m 4 ls []) := by
    intro n
    induction n using Nat.strongRecOn with
    | _ n ih4 =>
      intro p4_2 p4_1 H locs ls hm4 l_p4_2 u_p4_2 l_p4_1 u_p4_1 hH hS hl
      refine lv_iload_n hx hb dX12_rains_4 rfl (lv_at hl 0 rfl) ?_
      refine lv_aload_n hx hb dX12_rains_5 rfl (lv_at hl 2 rfl) ?_
      refine t_get (ci := 12) (lst := ft12 hg mq) (C := RX12) (F := TX12) (N := 36) hx hb hts uX12 hown hkb hH t_a0 (hO.no t_a0 (by decide)) (fun _ h9 => h9) rfl rfl 1 (by decide) rfl kw_1224 (fun _ h9 => h9) dX12_rains_6 (fun v9 h9 => ?_)
      obtain ⟨v6, rfl, t_v6⟩ := h9
      refine lv_iconst (v := 1) hx hb dX12_rains_9 (by decide) ?_
      refine t_ild8 hx hb hkb hH t_v6 (hO.no t_v6 (by decide)) (by decide) (by decide) (by decide) dX12_rains_10 (fun v10 h9 h8 => ?_)
      have q9 := (h8 rfl).1 rfl
      subst q9
      have eH9 : (nI (hg / 6)).toInt = (((hg / 6) : Nat) : Int) := nI_toInt (by omega)
      refine lv_icmp_ge (tgt := 61) hx hb dX12_rains_11 (by decide) (fun c11 => ?_) (fun c11 => ?_)
      · skip
        have fuc11 := full_i p4_2
        have fvc11 := full_i (nI (hg / 6))
        have tc11 := g_le c11
        refine lv_iload_n hx hb dX12_rains_61 rfl (lv_at hl 1 rfl) ?_
        refine lv_iconst (v := (-1)) hx hb dX12_rains_62 (by decide) ?_
        refine lv_icmp_ne (tgt := 68) hx hb dX12_rains_63 (by decide) (fun c63 => ?_) (fun c63 => ?_)
        · skip
          have tc63 := f_ne (k := -1) (by decide) c63
          refine lv_aload_n hx hb dX12_rains_68 rfl (lv_at hl 2 rfl) ?_
          refine t_get (ci := 12) (lst := ft12 hg mq) (C := RX12) (F := TX12) (N := 36) hx hb hts uX12 hown hkb hH t_a0 (hO.no t_a0 (by decide)) (fun _ h9 => h9) rfl rfl 1 (by decide) rfl kw_1224 (fun _ h9 => h9) dX12_rains_69 (fun v9 h9 => ?_)
          obtain ⟨v69, rfl, t_v69⟩ := h9
          refine lv_bipush (v := 59) hx hb dX12_rains_72 (by decide) ?_
          refine lv_iload_n hx hb dX12_rains_74 rfl (lv_at hl 1 rfl) ?_
          refine lv_iadd hx hb dX12_rains_75 ?_
          refine lv_topi (fun v75 ev75 => ?_)
          have tv75 : v75.toInt = (59) + p4_1.toInt := by rw [ev75]; exact add_i (by decide : (59 : Int32).toInt = 59) rfl (by omega) (by omega)
          refine lv_iconst (v := (-1)) hx hb dX12_rains_76 (by decide) ?_
          refine t_ist8 hx hb hkb hH hS t_v69 (hO.no t_v69 (by decide)) (by decide) (by omega) (by omega) (by omega) (by omega) (p8_far (by omega) (by omega)) dX12_rains_77 (fun H locs hH hS => ?_)
          refine lv_aload_n hx hb dX12_rains_78 rfl (lv_at hl 2 rfl) ?_
          refine t_get (ci := 12) (lst := ft12 hg mq) (C := RX12) (F := TX12) (N := 36) hx hb hts uX12 hown hkb hH t_a0 (hO.no t_a0 (by decide)) (fun _ h9 => h9) rfl rfl 1 (by decide) rfl kw_1224 (fun _ h9 => h9) dX12_rains_79 (fun v9 h9 => ?_)
          obtain ⟨v79, rfl, t_v79⟩ := h9
          refine lv_bipush (v := 73) hx hb dX12_rains_82 (by decide) ?_
          refine lv_iload_n hx hb dX12_rains_84 rfl (lv_at hl 1 rfl) ?_
          refine lv_iadd hx hb dX12_rains_85 ?_
          refine lv_topi (fun v85 ev85 => ?_)
          have tv85 : v85.toInt = (73) + p4_1.toInt := by rw [ev85]; exact add_i (by decide : (73 : Int32).toInt = 73) rfl (by omega) (by omega)
          refine lv_iconst (v := (-1)) hx hb dX12_rains_86 (by decide) ?_
          refine t_ist8 hx hb hkb hH hS t_v79 (hO.no t_v79 (by decide)) (by decide) (by omega) (by omega) (by omega) (by omega) (p8_far (by omega) (by omega)) dX12_rains_87 (fun H locs hH hS => ?_)
          refine lv_iconst (v := 1) hx hb dX12_rains_88 (by decide) ?_
          exact te_z hx hb hr hlocks (by rfl) hH hS (⟨rfl, by decide, by decide⟩) dX12_rains_89
        · skip
          have tc63 := f_eq (k := -1) (by decide) c63
          refine lv_iconst (v := 0) hx hb dX12_rains_66 (by decide) ?_
          exact te_z hx hb hr hlocks (by rfl) hH hS (⟨rfl, by decide, by decide⟩) dX12_rains_67
      · skip
        have fuc11 := full_i p4_2
        have fvc11 := full_i (nI (hg / 6))
        have tc11 := g_nle c11
        refine lv_aload_n hx hb dX12_rains_14 rfl (lv_at hl 2 rfl) ?_
        refine t_get (ci := 12) (lst := ft12 hg mq) (C := RX12) (F := TX12) (N := 36) hx hb hts uX12 hown hkb hH t_a0 (hO.no t_a0 (by decide)) (fun _ h9 => h9) rfl rfl 1 (by decide) rfl kw_1224 (fun _ h9 => h9) dX12_rains_15 (fun v9 h9 => ?_)
        obtain ⟨v15, rfl, t_v15⟩ := h9
        refine lv_bipush (v := 59) hx hb dX12_rains_18 (by decide) ?_
        refine lv_iload_n hx hb dX12_rains_20 rfl (lv_at hl 0 rfl) ?_
        refine lv_iadd hx hb dX12_rains_21 ?_
        refine lv_topi (fun v21 ev21 => ?_)
        have tv21 : v21.toInt = (59) + p4_2.toInt := by rw [ev21]; exact add_i (by decide : (59 : Int32).toInt = 59) rfl (by omega) (by omega)
        refine t_ild8 hx hb hkb hH t_v15 (hO.no t_v15 (by decide)) (by decide) (by omega) (by omega) dX12_rains_22 (fun v22 h9 h8 => ?_)
        refine lv_iconst (v := (-1)) hx hb dX12_rains_23 (by decide) ?_
        have J55 : ∀ (p55_1 : Int32) (H : Heap) (locs : List Loc) (ls : Array Slot), (-1 ≤ p55_1.toInt) → (p55_1.toInt ≤ 13) → HT D cs A T O X H → va_S A s.heap H locs → lv_has ls 3 [(2, .int p4_2), (1, .int p55_1), (0, .ref a0)] → W p l e { frames := 0, cells := 0, slots := 0, locals := 0 } s m [.ref a0].toArray below meth c H locs 0 0 (MQ below (Ti D cs (fun r u => u = (T, O, X) ∧ 0 ≤ r.toInt ∧ r.toInt ≤ 1) A) [.ref a0].toArray s 0 0 A) (F0 m 55 ls []) := by
          intro p55_1 H locs ls l_p55_1 u_p55_1 hH hS hl
          obtain ⟨v55, ev55⟩ : ∃ y : Int32, y = p4_2 + 1 := ⟨_, rfl⟩
          have tv55 : v55.toInt = p4_2.toInt + (1) := by rw [ev55]; exact add_i rfl (by decide) (by omega) (by omega)
          refine lv_iinc (v := v55) (lv' := [(2, .int v55), (1, .int p55_1), (0, .ref a0)]) hx hb dX12_rains_55 hl (k := 0) rfl (by rw [ev55]; rfl) (by decide) rfl (fun ls hl => ?_)
          refine lv_goto (tgt := 4) hx hb dX12_rains_58 (by decide) ?_
          exact ih4 _ (by omega) v55 p55_1 _ _ _ rfl (by omega) (by omega) (by omega) (by omega) hH hS (lv_sub hl [0, 1, 2] rfl)
        refine lv_icmp_eq (tgt := 55) hx hb dX12_rains_24 (by decide) (fun c24 => ?_) (fun c24 => ?_)
        · skip
          have tc24 := f_eq (k := -1) (by decide) c24
          exact J55 p4_1 _ _ _ (by omega) (by omega) hH hS (lv_sub hl [0, 1, 2] rfl)
        · skip
          have tc24 := f_ne (k := -1) (by decide) c24
          refine lv_iload_n hx hb dX12_rains_27 rfl (lv_at hl 1 rfl) ?_
          refine lv_iconst (v := (-1)) hx hb dX12_rains_28 (by decide) ?_
          have J53 : ∀  (H : Heap) (locs : List Loc) (ls : Array Slot), HT D cs A T O X H → va_S A s.heap H locs → lv_has ls 3 [(2, .int p4_2), (0, .ref a0)] → W p l e { frames := 0, cells := 0, slots := 0, locals := 0 } s m [.ref a0].toArray below meth c H locs 0 0 (MQ below (Ti D cs (fun r u => u = (T, O, X) ∧ 0 ≤ r.toInt ∧ r.toInt ≤ 1) A) [.ref a0].toArray s 0 0 A) (F0 m 53 ls []) := by
            intro  H locs ls  hH hS hl
            refine lv_iload_n hx hb dX12_rains_53 rfl (lv_at hl 0 rfl) ?_
            refine lv_istore_n (lv' := [(1, .int p4_2), (2, .int p4_2), (0, .ref a0)]) hx hb dX12_rains_54 rfl hl (by decide) rfl (fun ls hl => ?_)
            exact J55 p4_2 _ _ _ (by omega) (by omega) hH hS (lv_sub hl [1, 0, 2] rfl)
          refine lv_icmp_eq (tgt := 53) hx hb dX12_rains_29 (by decide) (fun c29 => ?_) (fun c29 => ?_)
          · skip
            have tc29 := f_eq (k := -1) (by decide) c29
            exact J53  _ _ _  hH hS (lv_sub hl [0, 2] rfl)
          · skip
            have tc29 := f_ne (k := -1) (by decide) c29
            refine lv_aload_n hx hb dX12_rains_32 rfl (lv_at hl 2 rfl) ?_
            refine t_get (ci := 12) (lst := ft12 hg mq) (C := RX12) (F := TX12) (N := 36) hx hb hts uX12 hown hkb hH t_a0 (hO.no t_a0 (by decide)) (fun _ h9 => h9) rfl rfl 1 (by decide) rfl kw_1224 (fun _ h9 => h9) dX12_rains_33 (fun v9 h9 => ?_)
            obtain ⟨v33, rfl, t_v33⟩ := h9
            refine lv_bipush (v := 73) hx hb dX12_rains_36 (by decide) ?_
            refine lv_iload_n hx hb dX12_rains_38 rfl (lv_at hl 0 rfl) ?_
            refine lv_iadd hx hb dX12_rains_39 ?_
            refine lv_topi (fun v39 ev39 => ?_)
            have tv39 : v39.toInt = (73) + p4_2.toInt := by rw [ev39]; exact add_i (by decide : (73 : Int32).toInt = 73) rfl (by omega) (by omega)
            refine t_ild8 hx hb hkb hH t_v33 (hO.no t_v33 (by decide)) (by decide) (by omega) (by omega) dX12_rains_40 (fun v40 h9 h8 => ?_)
            refine lv_aload_n hx hb dX12_rains_41 rfl (lv_at hl 2 rfl) ?_
            refine t_get (ci := 12) (lst := ft12 hg mq) (C := RX12) (F := TX12) (N := 36) hx hb hts uX12 hown hkb hH t_a0 (hO.no t_a0 (by decide)) (fun _ h9 => h9) rfl rfl 1 (by decide) rfl kw_1224 (fun _ h9 => h9) dX12_rains_42 (fun v9 h9 => ?_)
            obtain ⟨v42, rfl, t_v42⟩ := h9
            refine lv_bipush (v := 73) hx hb dX12_rains_45 (by decide) ?_
            refine lv_iload_n hx hb dX12_rains_47 rfl (lv_at hl 1 rfl) ?_
            refine lv_iadd hx hb dX12_rains_48 ?_
            refine lv_topi (fun v48 ev48 => ?_)
            have tv48 : v48.toInt = (73) + p4_1.toInt := by rw [ev48]; exact add_i (by decide : (73 : Int32).toInt = 73) rfl (by omega) (by omega)
            refine t_ild8 hx hb hkb hH t_v42 (hO.no t_v42 (by decide)) (by decide) (by omega) (by omega) dX12_rains_49 (fun v49 h9 h8 => ?_)
            refine lv_icmp_ge (tgt := 55) hx hb dX12_rains_50 (by decide) (fun c50 => ?_) (fun c50 => ?_)
            · skip
              have fuc50 := full_i v40
              have fvc50 := full_i v49
              have tc50 := g_le c50
              exact J55 p4_1 _ _ _ (by omega) (by omega) hH hS (lv_sub hl [0, 1, 2] rfl)
            · skip
              have fuc50 := full_i v40
              have fvc50 := full_i v49
              have tc50 := g_nle c50
              exact J53  _ _ _  hH hS (lv_sub hl [0, 2] rfl)
  refine lv_istore_n (lv' := [(2, .int 0), (1, .int (-1)), (0, .ref a0)]) hx hb dX12_rains_3 rfl hl (by decide) rfl (fun ls hl => ?_)
  exact J4 _ 0 (-1) _ _ _ rfl (by decide) (by decide) (by decide) (by decide) hH hS (lv_sub hl [0, 1, 2] rfl)
set_option maxHeartbeats 4000000 in
set_option maxRecDepth 100000 in
theorem s_M_rain (l : Launch) (D : va_G) (cs : CS) (kf : KF) (T : TF) (O : List Nat) (X : va_W) (a0 hg mq : Nat) (x1 : Int32) (t_a0 : T a0 = some (22, hg, mq)) (b_hg : hg < 90) (hO : okO T O [1, 8, 22]) : TK l D cs kf yX12_rain cX12_rain 4 (some (.int)) { frames := 1, cells := 0, slots := 0, locals := 25 } [.ref a0, .int x1] T O X (Ti D cs (fun r u => u = (T, O, X))) := by
  refine tk_of (by decide) (Nat.le_of_ble_eq_true rfl) (fun p e s m below meth c ls A H locs hx hb hr hml hown hts hlocks hnm hkb hH hS hA hOX hks hE hl => ?_)
  have hown : s.vm.findClass RX12 = some m.cls := hown
  have hl : lv_has ls 4 [(0, .ref a0), (1, .int x1)] := hl
  refine lv_aload_n hx hb dX12_rain_0 rfl (lv_at hl 0 rfl) ?_
  refine lv_iconst (v := 0) hx hb dX12_rain_1 (by decide) ?_
  refine t_put (ci := 12) (lst := ft12 hg mq) (v := .int 0) (ty := tyX12 0) (C := RX12) (F := TX12) (N := 36) hx hb hts uX12 tyX12 tyX12_ok nmX12 hown hkb hH hS t_a0 (hO.no t_a0 (by decide)) (fun _ => Iff.rfl) rfl rfl 0 (by decide) rfl (⟨_, rfl⟩) kw_1223 (fun _ h9 => h9) rfl (tyX12_ok 0 (by decide)) rfl rfl dX12_rain_2 (fun H locs hH hS => ?_)
  refine lv_iload_n hx hb dX12_rain_5 rfl (lv_at hl 1 rfl) ?_
  refine lv_i2l hx hb dX12_rain_6 rfl ?_
  refine lv_lconst (v := 1) hx hb dX12_rain_7 (by decide) ?_
  refine lv_ldc2 hx hb hown (hts _ kw_1581) dX12_rain_8 ?_
  refine tk_i hH hS hA (tr_S (n := 3) (As := [.long x1.toInt64, .long 1, .long 14]) hx hb hml hown hts hkb hH hOX hks hE hS hA (s_M_within l D cs kf T O X x1.toInt64 1 14  (hO.sub (by decide))) kw_1341 kw_1342 kw_13 kw_1343 (by decide +kernel) ⟨Nat.le_of_ble_eq_true rfl, Nat.le_of_ble_eq_true rfl⟩ rfl rfl hl.1 (Nat.le_of_ble_eq_true rfl) dX12_rain_11 ⟨Nat.le_of_ble_eq_true rfl, Nat.le_of_ble_eq_true rfl⟩) (fun v11 u H locs hz9 hH hS => ?_)
  obtain ⟨rfl, l_v11, u_v11, x_v110, x_v111⟩ := hz9
  simp only [Int32.toInt_toInt64] at x_v110 x_v111
  have k9_1 : (1 : Int64).toInt = 1 := by decide
  have k9_14 : (14 : Int64).toInt = 14 := by decide
  have hH : HT D cs A T O X H := hH
  refine W.widen (k := 0) (n := 0) (Nat.le_of_ble_eq_true rfl) (Nat.le_of_ble_eq_true rfl) ?_
  refine lv_if_ne (tgt := 20) hx hb dX12_rain_14 (by decide) (fun c14 => ?_) (fun c14 => ?_)
  · skip
    have tc14 := f_ne (k := 0) (by decide) c14
    replace x_v110 := x_v110.resolve_left tc14
    clear x_v111
    refine lv_aload_n hx hb dX12_rain_20 rfl (lv_at hl 0 rfl) ?_
    refine tk_v hH hS hA (tr_V (n := 0) (As := []) hx hb hml hown hts hkb hH hOX hks hE hS hA (s_M_keeps l D cs kf T O X a0 hg mq t_a0 b_hg (hO.sub (by decide))) kw_1544 kw_1546 ks_79 kw_13 kw_1547 (by decide +kernel) ⟨Nat.le_of_ble_eq_true rfl, Nat.le_of_ble_eq_true rfl⟩ (HT.recv (ci := 12) hkb hH t_a0 (hO.no t_a0 (by decide)) rfl) rfl rfl hl.1 (Nat.le_of_ble_eq_true rfl) dX12_rain_21 ⟨Nat.le_of_ble_eq_true rfl, Nat.le_of_ble_eq_true rfl⟩) (fun u H locs hz9 hH hS => ?_)
    have hz9 : u = (T, O, X) := hz9
    subst hz9
    have hH : HT D cs A T O X H := hH
    refine W.widen (k := 0) (n := 0) (Nat.le_of_ble_eq_true rfl) (Nat.le_of_ble_eq_true rfl) ?_
    refine lv_iconst (v := 0) hx hb dX12_rain_24 (by decide) ?_
    refine lv_istore_n (lv' := [(2, .int 0), (0, .ref a0), (1, .int x1)]) hx hb dX12_rain_25 rfl hl (by decide) rfl (fun ls hl => ?_)
    refine lv_iconst (v := 0) hx hb dX12_rain_26 (by decide) ?_
    have J28 : ∀ (n : Nat) (p28_3 : Int32) (p28_2 : Int32) (H : Heap) (locs : List Loc) (ls : Array Slot), (14 - p28_3.toInt).toNat = n → (0 ≤ p28_3.toInt) → (p28_3.toInt ≤ 14) → HT D cs A T O X H → va_S A s.heap H locs → lv_has ls 4 [(3, .int p28_3), (2, .int p28_2), (0, .ref a0), (1, .int x1)] → W p l e { frames := 1, cells := 0, slots := 0, locals := 25 } s m [.ref a0, .int x1].toArray below meth c H locs 0 0 (MQ below (Ti D cs (fun r u => u = (T, O, X)) A) [.ref a0, .int x1].toArray s 0 0 A) (F0 m 28 ls []) := by
      intro n
      induction n using Nat.strongRecOn with
      | _ n ih28 =>
        intro p28_3 p28_2 H locs ls hm28 l_p28_3 u_p28_3 hH hS hl
        refine lv_iload_n hx hb dX12_rain_28 rfl (lv_at hl 0 rfl) ?_
        refine lv_iload_n hx hb dX12_rain_29 rfl (lv_at hl 3 rfl) ?_
        refine lv_icmp_ge (tgt := 54) hx hb dX12_rain_30 (by decide) (fun c30 => ?_) (fun c30 => ?_)
        · skip
          have fuc30 := full_i p28_3
          have fvc30 := full_i x1
          have tc30 := g_le c30
          refine lv_iload_n hx hb dX12_rain_54 rfl (lv_at hl 1 rfl) ?_
          have J62 : ∀  (H : Heap) (locs : List Loc) (ls : Array Slot), HT D cs A T O X H → va_S A s.heap H locs → lv_has ls 4 [(2, .int p28_2)] → W p l e { frames := 1, cells := 0, slots := 0, locals := 25 } s m [.ref a0, .int x1].toArray below meth c H locs 0 0 (MQ below (Ti D cs (fun r u => u = (T, O, X)) A) [.ref a0, .int x1].toArray s 0 0 A) (F0 m 62 ls []) := by
            intro  H locs ls  hH hS hl
            refine lv_iload_n hx hb dX12_rain_62 rfl (lv_at hl 0 rfl) ?_
            exact te_i hx hb hr hlocks hH hS (rfl) dX12_rain_63
          refine lv_if_le (tgt := 62) hx hb dX12_rain_55 (by decide) (fun c55 => ?_) (fun c55 => ?_)
          · skip
            have tc55 := f_le (k := 0) (by decide) c55
            exact J62  _ _ _  hH hS (lv_sub hl [1] rfl)
          · skip
            have tc55 := f_nle (k := 0) (by decide) c55
            refine lv_aload_n hx hb dX12_rain_58 rfl (lv_at hl 2 rfl) ?_
            refine tk_v hH hS hA (tr_V (n := 0) (As := []) hx hb hml hown hts hkb hH hOX hks hE hS hA (s_M_notes l D cs kf T O X a0 hg mq t_a0 b_hg (hO.sub (by decide))) kw_1552 kw_1554 ks_81 kw_13 kw_1555 (by decide +kernel) ⟨Nat.le_of_ble_eq_true rfl, Nat.le_of_ble_eq_true rfl⟩ (HT.recv (ci := 12) hkb hH t_a0 (hO.no t_a0 (by decide)) rfl) rfl rfl hl.1 (Nat.le_of_ble_eq_true rfl) dX12_rain_59 ⟨Nat.le_of_ble_eq_true rfl, Nat.le_of_ble_eq_true rfl⟩) (fun u H locs hz9 hH hS => ?_)
            obtain ⟨rfl⟩ := hz9
            have hH : HT D cs A T O X H := hH
            refine W.widen (k := 0) (n := 0) (Nat.le_of_ble_eq_true rfl) (Nat.le_of_ble_eq_true rfl) ?_
            exact J62  _ _ _  hH hS (lv_sub hl [1] rfl)
        · skip
          have fuc30 := full_i p28_3
          have fvc30 := full_i x1
          have tc30 := g_nle c30
          refine lv_iload_n hx hb dX12_rain_33 rfl (lv_at hl 1 rfl) ?_
          refine lv_aload_n hx hb dX12_rain_34 rfl (lv_at hl 2 rfl) ?_
          refine tk_i hH hS hA (tr_V (n := 0) (As := []) hx hb hml hown hts hkb hH hOX hks hE hS hA (s_M_rains l D cs kf T O X a0 hg mq t_a0 b_hg (hO.sub (by decide))) kw_1582 kw_1584 ks_85 kw_13 kw_1585 (by decide +kernel) ⟨Nat.le_of_ble_eq_true rfl, Nat.le_of_ble_eq_true rfl⟩ (HT.recv (ci := 12) hkb hH t_a0 (hO.no t_a0 (by decide)) rfl) rfl rfl hl.1 (Nat.le_of_ble_eq_true rfl) dX12_rain_35 ⟨Nat.le_of_ble_eq_true rfl, Nat.le_of_ble_eq_true rfl⟩) (fun v35 u H locs hz9 hH hS => ?_)
          obtain ⟨rfl, l_v35, u_v35⟩ := hz9
          have hH : HT D cs A T O X H := hH
          refine W.widen (k := 0) (n := 0) (Nat.le_of_ble_eq_true rfl) (Nat.le_of_ble_eq_true rfl) ?_
          have J46 : ∀ (k46_0 : Int32) (H : Heap) (locs : List Loc) (ls : Array Slot), (0 ≤ k46_0.toInt) → (k46_0.toInt ≤ 1) → HT D cs A T O X H → va_S A s.heap H locs → lv_has ls 4 [(3, .int p28_3), (0, .ref a0), (1, .int x1)] → W p l e { frames := 1, cells := 0, slots := 0, locals := 25 } s m [.ref a0, .int x1].toArray below meth c H locs 0 0 (MQ below (Ti D cs (fun r u => u = (T, O, X)) A) [.ref a0, .int x1].toArray s 0 0 A) (F0 m 46 ls [.int k46_0, .int p28_2]) := by
            intro k46_0 H locs ls l_k46_0 u_k46_0 hH hS hl
            refine lv_iadd hx hb dX12_rain_46 ?_
            refine lv_topi (fun v46 ev46 => ?_)
            refine lv_istore_n (lv' := [(2, .int v46), (3, .int p28_3), (0, .ref a0), (1, .int x1)]) hx hb dX12_rain_47 rfl hl (by decide) rfl (fun ls hl => ?_)
            obtain ⟨v48, ev48⟩ : ∃ y : Int32, y = p28_3 + 1 := ⟨_, rfl⟩
            have tv48 : v48.toInt = p28_3.toInt + (1) := by rw [ev48]; exact add_i rfl (by decide) (by omega) (by omega)
            refine lv_iinc (v := v48) (lv' := [(3, .int v48), (2, .int v46), (0, .ref a0), (1, .int x1)]) hx hb dX12_rain_48 hl (k := 1) rfl (by rw [ev48]; rfl) (by decide) rfl (fun ls hl => ?_)
            refine lv_goto (tgt := 28) hx hb dX12_rain_51 (by decide) ?_
            exact ih28 _ (by omega) v48 v46 _ _ _ rfl (by omega) (by omega) hH hS (lv_sub hl [0, 1, 2, 3] rfl)
          refine lv_if_eq (tgt := 45) hx hb dX12_rain_38 (by decide) (fun c38 => ?_) (fun c38 => ?_)
          · skip
            have tc38 := f_eq (k := 0) (by decide) c38
            refine lv_iconst (v := 0) hx hb dX12_rain_45 (by decide) ?_
            exact J46 0 _ _ _ (by decide) (by decide) hH hS (lv_sub hl [0, 2, 3] rfl)
          · skip
            have tc38 := f_ne (k := 0) (by decide) c38
            refine lv_iconst (v := 1) hx hb dX12_rain_41 (by decide) ?_
            refine lv_goto (tgt := 46) hx hb dX12_rain_42 (by decide) ?_
            exact J46 1 _ _ _ (by decide) (by decide) hH hS (lv_sub hl [0, 2, 3] rfl)
    refine lv_istore_n (lv' := [(3, .int 0), (2, .int 0), (0, .ref a0), (1, .int x1)]) hx hb dX12_rain_27 rfl hl (by decide) rfl (fun ls hl => ?_)
    exact J28 _ 0 0 _ _ _ rfl (by decide) (by decide) hH hS (lv_sub hl [0, 1, 2, 3] rfl)
  · skip
    have tc14 := f_eq (k := 0) (by decide) c14
    clear x_v110
    replace x_v111 := x_v111.resolve_left (fun q9 => q9 tc14)
    refine lv_bipush (v := (-3)) hx hb dX12_rain_17 (by decide) ?_
    exact te_i hx hb hr hlocks hH hS (rfl) dX12_rain_19
set_option maxHeartbeats 4000000 in
set_option maxRecDepth 100000 in
theorem s_M_breaks (l : Launch) (D : va_G) (cs : CS) (kf : KF) (T : TF) (O : List Nat) (X : va_W) (a0 hg mq : Nat) (x1 : Int32) (t_a0 : T a0 = some (22, hg, mq)) (b_hg : hg < 90) (hO : okO T O [1, 8, 22]) : TK l D cs kf yX12_breaks cX12_breaks 3 (some (.int)) { frames := 2, cells := 0, slots := 0, locals := 47 } [.ref a0, .int x1] T O X (Ti D cs (fun r u => u = (T, O, X) ∧ -5 ≤ r.toInt ∧ r.toInt ≤ 1)) := by
  refine tk_of (by decide) (Nat.le_of_ble_eq_true rfl) (fun p e s m below meth c ls A H locs hx hb hr hml hown hts hlocks hnm hkb hH hS hA hOX hks hE hl => ?_)
  have hown : s.vm.findClass RX12 = some m.cls := hown
  have hl : lv_has ls 3 [(0, .ref a0), (1, .int x1)] := hl
  refine lv_aload_n hx hb dX12_breaks_0 rfl (lv_at hl 0 rfl) ?_
  refine lv_iconst (v := 0) hx hb dX12_breaks_1 (by decide) ?_
  refine t_put (ci := 12) (lst := ft12 hg mq) (v := .int 0) (ty := tyX12 0) (C := RX12) (F := TX12) (N := 36) hx hb hts uX12 tyX12 tyX12_ok nmX12 hown hkb hH hS t_a0 (hO.no t_a0 (by decide)) (fun _ => Iff.rfl) rfl rfl 0 (by decide) rfl (⟨_, rfl⟩) kw_1223 (fun _ h9 => h9) rfl (tyX12_ok 0 (by decide)) rfl rfl dX12_breaks_2 (fun H locs hH hS => ?_)
  refine lv_aload_n hx hb dX12_breaks_5 rfl (lv_at hl 0 rfl) ?_
  refine lv_iload_n hx hb dX12_breaks_6 rfl (lv_at hl 1 rfl) ?_
  refine lv_i2l hx hb dX12_breaks_7 rfl ?_
  refine tk_i hH hS hA (tr_V (n := 1) (As := [.long x1.toInt64]) hx hb hml hown hts hkb hH hOX hks hE hS hA (s_M_isHold l D cs kf T O X a0 hg mq x1.toInt64 t_a0 b_hg (hO.sub (by decide))) kw_1454 kw_1456 ks_64 kw_13 kw_1457 (by decide +kernel) ⟨Nat.le_of_ble_eq_true rfl, Nat.le_of_ble_eq_true rfl⟩ (HT.recv (ci := 12) hkb hH t_a0 (hO.no t_a0 (by decide)) rfl) rfl rfl hl.1 (Nat.le_of_ble_eq_true rfl) dX12_breaks_8 ⟨Nat.le_of_ble_eq_true rfl, Nat.le_of_ble_eq_true rfl⟩) (fun v8 u H locs hz9 hH hS => ?_)
  obtain ⟨rfl, l_v8, u_v8, x_v80⟩ := hz9
  simp only [Int32.toInt_toInt64] at x_v80
  have hH : HT D cs A T O X H := hH
  refine W.widen (k := 0) (n := 0) (Nat.le_of_ble_eq_true rfl) (Nat.le_of_ble_eq_true rfl) ?_
  refine lv_if_ne (tgt := 17) hx hb dX12_breaks_11 (by decide) (fun c11 => ?_) (fun c11 => ?_)
  · skip
    have tc11 := f_ne (k := 0) (by decide) c11
    replace x_v80 := x_v80.resolve_left tc11
    refine lv_aload_n hx hb dX12_breaks_17 rfl (lv_at hl 0 rfl) ?_
    refine t_get (ci := 12) (lst := ft12 hg mq) (C := RX12) (F := TX12) (N := 36) hx hb hts uX12 hown hkb hH t_a0 (hO.no t_a0 (by decide)) (fun _ h9 => h9) rfl rfl 1 (by decide) rfl kw_1224 (fun _ h9 => h9) dX12_breaks_18 (fun v9 h9 => ?_)
    obtain ⟨v18, rfl, t_v18⟩ := h9
    refine lv_bipush (v := 87) hx hb dX12_breaks_21 (by decide) ?_
    refine t_ild8 hx hb hkb hH t_v18 (hO.no t_v18 (by decide)) (by decide) (by decide) (by decide) dX12_breaks_23 (fun v23 h9 h8 => ?_)
    refine lv_i2l hx hb dX12_breaks_24 rfl ?_
    refine lv_iload_n hx hb dX12_breaks_25 rfl (lv_at hl 1 rfl) ?_
    refine tk_i hH hS hA (tr_S (n := 2) (As := [.long v23.toInt64, .int x1]) hx hb hml hown hts hkb hH hOX hks hE hS hA (s_M_isIn2 l D cs kf T O X v23.toInt64 x1  (hO.sub (by decide))) kw_1440 kw_1441 kw_13 kw_1442 (by decide +kernel) ⟨Nat.le_of_ble_eq_true rfl, Nat.le_of_ble_eq_true rfl⟩ rfl rfl hl.1 (Nat.le_of_ble_eq_true rfl) dX12_breaks_26 ⟨Nat.le_of_ble_eq_true rfl, Nat.le_of_ble_eq_true rfl⟩) (fun v26 u H locs hz9 hH hS => ?_)
    obtain ⟨rfl, l_v26, u_v26, x_v260⟩ := hz9
    have hH : HT D cs A T O X H := hH
    refine W.widen (k := 0) (n := 0) (Nat.le_of_ble_eq_true rfl) (Nat.le_of_ble_eq_true rfl) ?_
    refine lv_if_eq (tgt := 35) hx hb dX12_breaks_29 (by decide) (fun c29 => ?_) (fun c29 => ?_)
    · skip
      have tc29 := f_eq (k := 0) (by decide) c29
      refine lv_aload_n hx hb dX12_breaks_35 rfl (lv_at hl 0 rfl) ?_
      refine tk_v hH hS hA (tr_V (n := 0) (As := []) hx hb hml hown hts hkb hH hOX hks hE hS hA (s_M_keeps l D cs kf T O X a0 hg mq t_a0 b_hg (hO.sub (by decide))) kw_1544 kw_1546 ks_79 kw_13 kw_1547 (by decide +kernel) ⟨Nat.le_of_ble_eq_true rfl, Nat.le_of_ble_eq_true rfl⟩ (HT.recv (ci := 12) hkb hH t_a0 (hO.no t_a0 (by decide)) rfl) rfl rfl hl.1 (Nat.le_of_ble_eq_true rfl) dX12_breaks_36 ⟨Nat.le_of_ble_eq_true rfl, Nat.le_of_ble_eq_true rfl⟩) (fun u H locs hz9 hH hS => ?_)
      have hz9 : u = (T, O, X) := hz9
      subst hz9
      have hH : HT D cs A T O X H := hH
      refine W.widen (k := 0) (n := 0) (Nat.le_of_ble_eq_true rfl) (Nat.le_of_ble_eq_true rfl) ?_
      refine lv_aload_n hx hb dX12_breaks_39 rfl (lv_at hl 0 rfl) ?_
      refine t_get (ci := 12) (lst := ft12 hg mq) (C := RX12) (F := TX12) (N := 36) hx hb hts uX12 hown hkb hH t_a0 (hO.no t_a0 (by decide)) (fun _ h9 => h9) rfl rfl 1 (by decide) rfl kw_1224 (fun _ h9 => h9) dX12_breaks_40 (fun v9 h9 => ?_)
      obtain ⟨v40, rfl, t_v40⟩ := h9
      refine lv_bipush (v := 59) hx hb dX12_breaks_43 (by decide) ?_
      refine lv_iload_n hx hb dX12_breaks_45 rfl (lv_at hl 1 rfl) ?_
      refine lv_iadd hx hb dX12_breaks_46 ?_
      refine lv_topi (fun v46 ev46 => ?_)
      have tv46 : v46.toInt = (59) + x1.toInt := by rw [ev46]; exact add_i (by decide : (59 : Int32).toInt = 59) rfl (by omega) (by omega)
      refine t_ild8 hx hb hkb hH t_v40 (hO.no t_v40 (by decide)) (by decide) (by omega) (by omega) dX12_breaks_47 (fun v47 h9 h8 => ?_)
      refine lv_iconst (v := (-1)) hx hb dX12_breaks_48 (by decide) ?_
      have J57 : ∀ (k57_0 : Int32) (H : Heap) (locs : List Loc) (ls : Array Slot), (0 ≤ k57_0.toInt) → (k57_0.toInt ≤ 1) → HT D cs A T O X H → va_S A s.heap H locs → lv_has ls 3 [(0, .ref a0), (1, .int x1)] → W p l e { frames := 2, cells := 0, slots := 0, locals := 47 } s m [.ref a0, .int x1].toArray below meth c H locs 0 0 (MQ below (Ti D cs (fun r u => u = (T, O, X) ∧ -5 ≤ r.toInt ∧ r.toInt ≤ 1) A) [.ref a0, .int x1].toArray s 0 0 A) (F0 m 57 ls [.int k57_0]) := by
        intro k57_0 H locs ls l_k57_0 u_k57_0 hH hS hl
        refine lv_istore_n (lv' := [(2, .int k57_0), (0, .ref a0), (1, .int x1)]) hx hb dX12_breaks_57 rfl hl (by decide) rfl (fun ls hl => ?_)
        refine lv_aload_n hx hb dX12_breaks_58 rfl (lv_at hl 1 rfl) ?_
        refine t_get (ci := 12) (lst := ft12 hg mq) (C := RX12) (F := TX12) (N := 36) hx hb hts uX12 hown hkb hH t_a0 (hO.no t_a0 (by decide)) (fun _ h9 => h9) rfl rfl 1 (by decide) rfl kw_1224 (fun _ h9 => h9) dX12_breaks_59 (fun v9 h9 => ?_)
        obtain ⟨v59, rfl, t_v59⟩ := h9
        refine lv_iload_n hx hb dX12_breaks_62 rfl (lv_at hl 2 rfl) ?_
        refine tk_v hH hS hA (tr_S (n := 2) (As := [.ref v59, .int x1]) hx hb hml hown hts hkb hH hOX hks hE hS hA (s_M_breaksOf l D cs kf T O X v59 hg x1 t_v59 (by omega) (by omega) (hO.sub (by decide))) kw_1443 kw_1444 kw_13 kw_1445 (by decide +kernel) ⟨Nat.le_of_ble_eq_true rfl, Nat.le_of_ble_eq_true rfl⟩ rfl rfl hl.1 (Nat.le_of_ble_eq_true rfl) dX12_breaks_63 ⟨Nat.le_of_ble_eq_true rfl, Nat.le_of_ble_eq_true rfl⟩) (fun u H locs hz9 hH hS => ?_)
        have hz9 : u = (T, O, X) := hz9
        subst hz9
        have hH : HT D cs A T O X H := hH
        refine W.widen (k := 0) (n := 0) (Nat.le_of_ble_eq_true rfl) (Nat.le_of_ble_eq_true rfl) ?_
        refine lv_aload_n hx hb dX12_breaks_66 rfl (lv_at hl 1 rfl) ?_
        refine tk_v hH hS hA (tr_V (n := 0) (As := []) hx hb hml hown hts hkb hH hOX hks hE hS hA (s_M_notes l D cs kf T O X a0 hg mq t_a0 b_hg (hO.sub (by decide))) kw_1552 kw_1554 ks_81 kw_13 kw_1555 (by decide +kernel) ⟨Nat.le_of_ble_eq_true rfl, Nat.le_of_ble_eq_true rfl⟩ (HT.recv (ci := 12) hkb hH t_a0 (hO.no t_a0 (by decide)) rfl) rfl rfl hl.1 (Nat.le_of_ble_eq_true rfl) dX12_breaks_67 ⟨Nat.le_of_ble_eq_true rfl, Nat.le_of_ble_eq_true rfl⟩) (fun u H locs hz9 hH hS => ?_)
        obtain ⟨rfl⟩ := hz9
        have hH : HT D cs A T O X H := hH
        refine W.widen (k := 0) (n := 0) (Nat.le_of_ble_eq_true rfl) (Nat.le_of_ble_eq_true rfl) ?_
        refine lv_iload_n hx hb dX12_breaks_70 rfl (lv_at hl 0 rfl) ?_
        exact te_i hx hb hr hlocks hH hS (⟨rfl, by omega, by omega⟩) dX12_breaks_71
      refine lv_icmp_ne (tgt := 56) hx hb dX12_breaks_49 (by decide) (fun c49 => ?_) (fun c49 => ?_)
      · skip
        have tc49 := f_ne (k := -1) (by decide) c49
        refine lv_iconst (v := 1) hx hb dX12_breaks_56 (by decide) ?_
        exact J57 1 _ _ _ (by decide) (by decide) hH hS (lv_sub hl [0, 1] rfl)
      · skip
        have tc49 := f_eq (k := -1) (by decide) c49
        refine lv_iconst (v := 0) hx hb dX12_breaks_52 (by decide) ?_
        refine lv_goto (tgt := 57) hx hb dX12_breaks_53 (by decide) ?_
        exact J57 0 _ _ _ (by decide) (by decide) hH hS (lv_sub hl [0, 1] rfl)
    · skip
      have tc29 := f_ne (k := 0) (by decide) c29
      refine lv_bipush (v := (-5)) hx hb dX12_breaks_32 (by decide) ?_
      exact te_i hx hb hr hlocks hH hS (⟨rfl, by decide, by decide⟩) dX12_breaks_34
  · skip
    have tc11 := f_eq (k := 0) (by decide) c11
    clear x_v80
    refine lv_bipush (v := (-2)) hx hb dX12_breaks_14 (by decide) ?_
    exact te_i hx hb hr hlocks hH hS (⟨rfl, by decide, by decide⟩) dX12_breaks_16
set_option maxHeartbeats 4000000 in
set_option maxRecDepth 100000 in
theorem s_M_newYear (l : Launch) (D : va_G) (cs : CS) (kf : KF) (T : TF) (O : List Nat) (X : va_W) (a0 hg mq : Nat) (t_a0 : T a0 = some (22, hg, mq)) (b_hg : hg < 90) (hO : okO T O [1, 8, 22]) : TK l D cs kf yX12_newYear cX12_newYear 3 (some (.int)) { frames := 1, cells := 0, slots := 0, locals := 22 } [.ref a0] T O X (Ti D cs (fun r u => u = (T, O, X))) := by
  refine tk_of (by decide) (Nat.le_of_ble_eq_true rfl) (fun p e s m below meth c ls A H locs hx hb hr hml hown hts hlocks hnm hkb hH hS hA hOX hks hE hl => ?_)
  have hown : s.vm.findClass RX12 = some m.cls := hown
  have hl : lv_has ls 3 [(0, .ref a0)] := hl
  refine lv_aload_n hx hb dX12_newYear_0 rfl (lv_at hl 0 rfl) ?_
  refine lv_iconst (v := 0) hx hb dX12_newYear_1 (by decide) ?_
  refine t_put (ci := 12) (lst := ft12 hg mq) (v := .int 0) (ty := tyX12 0) (C := RX12) (F := TX12) (N := 36) hx hb hts uX12 tyX12 tyX12_ok nmX12 hown hkb hH hS t_a0 (hO.no t_a0 (by decide)) (fun _ => Iff.rfl) rfl rfl 0 (by decide) rfl (⟨_, rfl⟩) kw_1223 (fun _ h9 => h9) rfl (tyX12_ok 0 (by decide)) rfl rfl dX12_newYear_2 (fun H locs hH hS => ?_)
  refine lv_aload_n hx hb dX12_newYear_5 rfl (lv_at hl 0 rfl) ?_
  refine tk_v hH hS hA (tr_V (n := 0) (As := []) hx hb hml hown hts hkb hH hOX hks hE hS hA (s_M_keeps l D cs kf T O X a0 hg mq t_a0 b_hg (hO.sub (by decide))) kw_1544 kw_1546 ks_79 kw_13 kw_1547 (by decide +kernel) ⟨Nat.le_of_ble_eq_true rfl, Nat.le_of_ble_eq_true rfl⟩ (HT.recv (ci := 12) hkb hH t_a0 (hO.no t_a0 (by decide)) rfl) rfl rfl hl.1 (Nat.le_of_ble_eq_true rfl) dX12_newYear_6 ⟨Nat.le_of_ble_eq_true rfl, Nat.le_of_ble_eq_true rfl⟩) (fun u H locs hz9 hH hS => ?_)
  have hz9 : u = (T, O, X) := hz9
  subst hz9
  have hH : HT D cs A T O X H := hH
  refine W.widen (k := 0) (n := 0) (Nat.le_of_ble_eq_true rfl) (Nat.le_of_ble_eq_true rfl) ?_
  refine lv_aload_n hx hb dX12_newYear_9 rfl (lv_at hl 0 rfl) ?_
  refine tk_i hH hS hA (tr_V (n := 0) (As := []) hx hb hml hown hts hkb hH hOX hks hE hS hA (s_M_usedMany l D cs kf T O X a0 hg mq t_a0 b_hg (hO.sub (by decide))) kw_1594 kw_1596 ks_86 kw_13 kw_1597 (by decide +kernel) ⟨Nat.le_of_ble_eq_true rfl, Nat.le_of_ble_eq_true rfl⟩ (HT.recv (ci := 12) hkb hH t_a0 (hO.no t_a0 (by decide)) rfl) rfl rfl hl.1 (Nat.le_of_ble_eq_true rfl) dX12_newYear_10 ⟨Nat.le_of_ble_eq_true rfl, Nat.le_of_ble_eq_true rfl⟩) (fun v10 u H locs hz9 hH hS => ?_)
  have hz9 : u = (T, O, X) := hz9
  subst hz9
  have hH : HT D cs A T O X H := hH
  refine W.widen (k := 0) (n := 0) (Nat.le_of_ble_eq_true rfl) (Nat.le_of_ble_eq_true rfl) ?_
  refine lv_istore_n (lv' := [(1, .int v10), (0, .ref a0)]) hx hb dX12_newYear_13 rfl hl (by decide) rfl (fun ls hl => ?_)
  refine lv_iconst (v := 0) hx hb dX12_newYear_14 (by decide) ?_
  have J16 : ∀ (n : Nat) (p16_2 : Int32) (H : Heap) (locs : List Loc) (ls : Array Slot), (14 - p16_2.toInt).toNat = n → (0 ≤ p16_2.toInt) → (p16_2.toInt ≤ 14) → HT D cs A T O X H → va_S A s.heap H locs → lv_has ls 3 [(2, .int p16_2), (1, .int v10), (0, .ref a0)] → W p l e { frames := 1, cells := 0, slots := 0, locals := 22 } s m [.ref a0].toArray below meth c H locs 0 0 (MQ below (Ti D cs (fun r u => u = (T, O, X)) A) [.ref a0].toArray s 0 0 A) (F0 m 16 ls []) := by
    intro n
    induction n using Nat.strongRecOn with
    | _ n ih16 =>
      intro p16_2 H locs ls hm16 l_p16_2 u_p16_2 hH hS hl
      refine lv_iload_n hx hb dX12_newYear_16 rfl (lv_at hl 0 rfl) ?_
      refine lv_bipush (v := 14) hx hb dX12_newYear_17 (by decide) ?_
      refine lv_icmp_ge (tgt := 48) hx hb dX12_newYear_19 (by decide) (fun c19 => ?_) (fun c19 => ?_)
      · skip
        have tc19 := f_ge (k := 14) (by decide) c19
        refine lv_aload_n hx hb dX12_newYear_48 rfl (lv_at hl 2 rfl) ?_
        refine t_get (ci := 12) (lst := ft12 hg mq) (C := RX12) (F := TX12) (N := 36) hx hb hts uX12 hown hkb hH t_a0 (hO.no t_a0 (by decide)) (fun _ h9 => h9) rfl rfl 1 (by decide) rfl kw_1224 (fun _ h9 => h9) dX12_newYear_49 (fun v9 h9 => ?_)
        obtain ⟨v49, rfl, t_v49⟩ := h9
        refine lv_bipush (v := 88) hx hb dX12_newYear_52 (by decide) ?_
        refine lv_iconst (v := 0) hx hb dX12_newYear_54 (by decide) ?_
        refine t_ist8 hx hb hkb hH hS t_v49 (hO.no t_v49 (by decide)) (by decide) (by decide) (by decide) (by decide) (by decide) (p8_far (by decide) (by decide)) dX12_newYear_55 (fun H locs hH hS => ?_)
        refine lv_aload_n hx hb dX12_newYear_56 rfl (lv_at hl 2 rfl) ?_
        refine t_get (ci := 12) (lst := ft12 hg mq) (C := RX12) (F := TX12) (N := 36) hx hb hts uX12 hown hkb hH t_a0 (hO.no t_a0 (by decide)) (fun _ h9 => h9) rfl rfl 1 (by decide) rfl kw_1224 (fun _ h9 => h9) dX12_newYear_57 (fun v9 h9 => ?_)
        obtain ⟨v57, rfl, t_v57⟩ := h9
        refine lv_bipush (v := 89) hx hb dX12_newYear_60 (by decide) ?_
        refine lv_dup2_11 hx hb dX12_newYear_62 rfl rfl ?_
        refine t_ild8 hx hb hkb hH t_v57 (hO.no t_v57 (by decide)) (by decide) (by decide) (by decide) dX12_newYear_63 (fun v63 h9 h8 => ?_)
        refine lv_iconst (v := 1) hx hb dX12_newYear_64 (by decide) ?_
        refine lv_iadd hx hb dX12_newYear_65 ?_
        refine lv_topi (fun v65 ev65 => ?_)
        refine t_ist8 hx hb hkb hH hS t_v57 (hO.no t_v57 (by decide)) (by decide) (by decide) (by decide) (by decide) (by decide) (p8_far (by decide) (by decide)) dX12_newYear_66 (fun H locs hH hS => ?_)
        refine lv_aload_n hx hb dX12_newYear_67 rfl (lv_at hl 2 rfl) ?_
        refine tk_v hH hS hA (tr_V (n := 0) (As := []) hx hb hml hown hts hkb hH hOX hks hE hS hA (s_M_notes l D cs kf T O X a0 hg mq t_a0 b_hg (hO.sub (by decide))) kw_1552 kw_1554 ks_81 kw_13 kw_1555 (by decide +kernel) ⟨Nat.le_of_ble_eq_true rfl, Nat.le_of_ble_eq_true rfl⟩ (HT.recv (ci := 12) hkb hH t_a0 (hO.no t_a0 (by decide)) rfl) rfl rfl hl.1 (Nat.le_of_ble_eq_true rfl) dX12_newYear_68 ⟨Nat.le_of_ble_eq_true rfl, Nat.le_of_ble_eq_true rfl⟩) (fun u H locs hz9 hH hS => ?_)
        obtain ⟨rfl⟩ := hz9
        have hH : HT D cs A T O X H := hH
        refine W.widen (k := 0) (n := 0) (Nat.le_of_ble_eq_true rfl) (Nat.le_of_ble_eq_true rfl) ?_
        refine lv_iload_n hx hb dX12_newYear_71 rfl (lv_at hl 1 rfl) ?_
        exact te_i hx hb hr hlocks hH hS (rfl) dX12_newYear_72
      · skip
        have tc19 := f_nge (k := 14) (by decide) c19
        refine lv_aload_n hx hb dX12_newYear_22 rfl (lv_at hl 2 rfl) ?_
        refine t_get (ci := 12) (lst := ft12 hg mq) (C := RX12) (F := TX12) (N := 36) hx hb hts uX12 hown hkb hH t_a0 (hO.no t_a0 (by decide)) (fun _ h9 => h9) rfl rfl 1 (by decide) rfl kw_1224 (fun _ h9 => h9) dX12_newYear_23 (fun v9 h9 => ?_)
        obtain ⟨v23, rfl, t_v23⟩ := h9
        refine lv_bipush (v := 59) hx hb dX12_newYear_26 (by decide) ?_
        refine lv_iload_n hx hb dX12_newYear_28 rfl (lv_at hl 0 rfl) ?_
        refine lv_iadd hx hb dX12_newYear_29 ?_
        refine lv_topi (fun v29 ev29 => ?_)
        have tv29 : v29.toInt = (59) + p16_2.toInt := by rw [ev29]; exact add_i (by decide : (59 : Int32).toInt = 59) rfl (by omega) (by omega)
        refine lv_iconst (v := (-1)) hx hb dX12_newYear_30 (by decide) ?_
        refine t_ist8 hx hb hkb hH hS t_v23 (hO.no t_v23 (by decide)) (by decide) (by omega) (by omega) (by omega) (by omega) (p8_far (by omega) (by omega)) dX12_newYear_31 (fun H locs hH hS => ?_)
        refine lv_aload_n hx hb dX12_newYear_32 rfl (lv_at hl 2 rfl) ?_
        refine t_get (ci := 12) (lst := ft12 hg mq) (C := RX12) (F := TX12) (N := 36) hx hb hts uX12 hown hkb hH t_a0 (hO.no t_a0 (by decide)) (fun _ h9 => h9) rfl rfl 1 (by decide) rfl kw_1224 (fun _ h9 => h9) dX12_newYear_33 (fun v9 h9 => ?_)
        obtain ⟨v33, rfl, t_v33⟩ := h9
        refine lv_bipush (v := 73) hx hb dX12_newYear_36 (by decide) ?_
        refine lv_iload_n hx hb dX12_newYear_38 rfl (lv_at hl 0 rfl) ?_
        refine lv_iadd hx hb dX12_newYear_39 ?_
        refine lv_topi (fun v39 ev39 => ?_)
        have tv39 : v39.toInt = (73) + p16_2.toInt := by rw [ev39]; exact add_i (by decide : (73 : Int32).toInt = 73) rfl (by omega) (by omega)
        refine lv_iconst (v := (-1)) hx hb dX12_newYear_40 (by decide) ?_
        refine t_ist8 hx hb hkb hH hS t_v33 (hO.no t_v33 (by decide)) (by decide) (by omega) (by omega) (by omega) (by omega) (p8_far (by omega) (by omega)) dX12_newYear_41 (fun H locs hH hS => ?_)
        obtain ⟨v42, ev42⟩ : ∃ y : Int32, y = p16_2 + 1 := ⟨_, rfl⟩
        have tv42 : v42.toInt = p16_2.toInt + (1) := by rw [ev42]; exact add_i rfl (by decide) (by omega) (by omega)
        refine lv_iinc (v := v42) (lv' := [(2, .int v42), (1, .int v10), (0, .ref a0)]) hx hb dX12_newYear_42 hl (k := 0) rfl (by rw [ev42]; rfl) (by decide) rfl (fun ls hl => ?_)
        refine lv_goto (tgt := 16) hx hb dX12_newYear_45 (by decide) ?_
        exact ih16 _ (by omega) v42 _ _ _ rfl (by omega) (by omega) hH hS (lv_sub hl [0, 1, 2] rfl)
  refine lv_istore_n (lv' := [(2, .int 0), (1, .int v10), (0, .ref a0)]) hx hb dX12_newYear_15 rfl hl (by decide) rfl (fun ls hl => ?_)
  exact J16 _ 0 _ _ _ rfl (by decide) (by decide) hH hS (lv_sub hl [0, 1, 2] rfl)
set_option maxHeartbeats 4000000 in
set_option maxRecDepth 100000 in
theorem s_M_draw (l : Launch) (D : va_G) (cs : CS) (kf : KF) (T : TF) (O : List Nat) (X : va_W) (a0 hg mq : Nat) (x1 : Int32) (t_a0 : T a0 = some (22, hg, mq)) (b_hg : hg < 90) (l_x1 : 1 ≤ x1.toInt) (u_x1 : x1.toInt ≤ 5) (hO : okO T O [22]) : TK l D cs kf yX12_draw cX12_draw 2 (some (.int)) { frames := 0, cells := 0, slots := 0, locals := 0 } [.ref a0, .int x1] T O X (Ti D cs (fun r u => u = (T, O, X) ∧ 0 ≤ r.toInt ∧ r.toInt ≤ 4)) := by
  refine tk_of (by decide) (Nat.le_of_ble_eq_true rfl) (fun p e s m below meth c ls A H locs hx hb hr hml hown hts hlocks hnm hkb hH hS hA hOX hks hE hl => ?_)
  have hown : s.vm.findClass RX12 = some m.cls := hown
  have hl : lv_has ls 2 [(0, .ref a0), (1, .int x1)] := hl
  refine lv_aload_n hx hb dX12_draw_0 rfl (lv_at hl 0 rfl) ?_
  refine lv_ldcw hx hb hown (hts _ kw_1612) dX12_draw_1 ?_
  refine lv_aload_n hx hb dX12_draw_4 rfl (lv_at hl 0 rfl) ?_
  refine t_get (ci := 12) (lst := ft12 hg mq) (C := RX12) (F := TX12) (N := 36) hx hb hts uX12 hown hkb hH t_a0 (hO.no t_a0 (by decide)) (fun _ h9 => h9) rfl rfl 25 (by decide) rfl kw_1248 (fun _ h9 => h9) dX12_draw_5 (fun v9 h9 => ?_)
  obtain ⟨v5, rfl⟩ := h9
  refine lv_imul hx hb dX12_draw_8 ?_
  refine lv_topi (fun v8 ev8 => ?_)
  refine lv_sipush (v := 12345) hx hb dX12_draw_9 (by decide) ?_
  refine lv_iadd hx hb dX12_draw_12 ?_
  refine lv_topi (fun v12 ev12 => ?_)
  refine t_put (ci := 12) (lst := ft12 hg mq) (v := .int v12) (ty := tyX12 25) (C := RX12) (F := TX12) (N := 36) hx hb hts uX12 tyX12 tyX12_ok nmX12 hown hkb hH hS t_a0 (hO.no t_a0 (by decide)) (fun _ => Iff.rfl) rfl rfl 25 (by decide) rfl (⟨_, rfl⟩) kw_1248 (fun _ h9 => h9) rfl (tyX12_ok 25 (by decide)) rfl rfl dX12_draw_13 (fun H locs hH hS => ?_)
  refine lv_aload_n hx hb dX12_draw_16 rfl (lv_at hl 0 rfl) ?_
  refine t_get (ci := 12) (lst := ft12 hg mq) (C := RX12) (F := TX12) (N := 36) hx hb hts uX12 hown hkb hH t_a0 (hO.no t_a0 (by decide)) (fun _ h9 => h9) rfl rfl 25 (by decide) rfl kw_1248 (fun _ h9 => h9) dX12_draw_17 (fun v9 h9 => ?_)
  obtain ⟨v17, rfl⟩ := h9
  refine lv_bipush (v := 16) hx hb dX12_draw_20 (by decide) ?_
  refine lv_iushr hx hb dX12_draw_22 rfl ?_
  refine lv_topi (fun v22 ev22 => ?_)
  have tv22 : 0 ≤ v22.toInt ∧ v22.toInt < 65536 := by rw [ev22]; exact ushr_c 16 (by decide +kernel) (by decide) (by decide)
  refine lv_iload_n hx hb dX12_draw_23 rfl (lv_at hl 1 rfl) ?_
  refine lv_irem hx hb dX12_draw_24 (ne0_i (by omega)) ?_
  refine lv_topi (fun v24 ev24 => ?_)
  have tv24 : (0 ≤ v22.toInt → 0 ≤ v24.toInt) ∧ v24.toInt < x1.toInt ∧ -x1.toInt < v24.toInt ∧ (v22.toInt ≤ 0 → v24.toInt ≤ 0) := by rw [ev24]; exact irem_b rfl (by omega)
  exact te_i hx hb hr hlocks hH hS (⟨rfl, by omega, by omega⟩) dX12_draw_25
theorem dX12_climbs_0 : decode cX12_climbs 0 = .ok (.aload_n 0, 1) := by decide +kernel
theorem dX12_climbs_1 : decode cX12_climbs 1 = .ok (.iconst 0, 1) := by decide +kernel
theorem dX12_climbs_2 : decode cX12_climbs 2 = .ok (.putfield 1, 3) := by decide +kernel
theorem dX12_climbs_5 : decode cX12_climbs 5 = .ok (.aload_n 0, 1) := by decide +kernel
theorem dX12_climbs_6 : decode cX12_climbs 6 = .ok (.iload_n 1, 1) := by decide +kernel
theorem dX12_climbs_7 : decode cX12_climbs 7 = .ok (.i2l, 1) := by decide +kernel
theorem dX12_climbs_8 : decode cX12_climbs 8 = .ok (.invokevirtual 222, 3) := by decide +kernel
theorem dX12_climbs_11 : decode cX12_climbs 11 = .ok (.ifCond .ne 7, 3) := by decide +kernel
theorem dX12_climbs_14 : decode cX12_climbs 14 = .ok (.ldc2_w 341, 3) := by decide +kernel
theorem dX12_climbs_17 : decode cX12_climbs 17 = .ok (.lreturn, 1) := by decide +kernel
theorem dX12_climbs_18 : decode cX12_climbs 18 = .ok (.iload_n 2, 1) := by decide +kernel
theorem dX12_climbs_19 : decode cX12_climbs 19 = .ok (.i2l, 1) := by decide +kernel
theorem dX12_climbs_20 : decode cX12_climbs 20 = .ok (.lconst 1, 1) := by decide +kernel
theorem dX12_climbs_21 : decode cX12_climbs 21 = .ok (.ldc2_w 347, 3) := by decide +kernel
theorem dX12_climbs_24 : decode cX12_climbs 24 = .ok (.invokestatic 144, 3) := by decide +kernel
theorem dX12_climbs_27 : decode cX12_climbs 27 = .ok (.ifCond .ne 7, 3) := by decide +kernel
theorem dX12_climbs_30 : decode cX12_climbs 30 = .ok (.ldc2_w 349, 3) := by decide +kernel
theorem dX12_climbs_33 : decode cX12_climbs 33 = .ok (.lreturn, 1) := by decide +kernel
theorem dX12_climbs_34 : decode cX12_climbs 34 = .ok (.aload_n 0, 1) := by decide +kernel
theorem dX12_climbs_35 : decode cX12_climbs 35 = .ok (.iload_n 1, 1) := by decide +kernel
theorem dX12_climbs_36 : decode cX12_climbs 36 = .ok (.invokevirtual 351, 3) := by decide +kernel
theorem dX12_climbs_39 : decode cX12_climbs 39 = .ok (.aload_n 0, 1) := by decide +kernel
theorem dX12_climbs_40 : decode cX12_climbs 40 = .ok (.iconst 1, 1) := by decide +kernel
theorem dX12_climbs_41 : decode cX12_climbs 41 = .ok (.iload_n 2, 1) := by decide +kernel
theorem dX12_climbs_42 : decode cX12_climbs 42 = .ok (.invokevirtual 343, 3) := by decide +kernel
theorem dX12_climbs_45 : decode cX12_climbs 45 = .ok (.lreturn, 1) := by decide +kernel
theorem dX12_climbsBy_0 : decode cX12_climbsBy 0 = .ok (.lconst 0, 1) := by decide +kernel
theorem dX12_climbsBy_1 : decode cX12_climbsBy 1 = .ok (.lstore_n 2, 1) := by decide +kernel
theorem dX12_climbsBy_2 : decode cX12_climbsBy 2 = .ok (.iconst 0, 1) := by decide +kernel
theorem dX12_climbsBy_3 : decode cX12_climbsBy 3 = .ok (.istore 4, 2) := by decide +kernel
theorem dX12_climbsBy_5 : decode cX12_climbsBy 5 = .ok (.iload 4, 2) := by decide +kernel
theorem dX12_climbsBy_7 : decode cX12_climbsBy 7 = .ok (.aload_n 0, 1) := by decide +kernel
theorem dX12_climbsBy_8 : decode cX12_climbsBy 8 = .ok (.getfield 13, 3) := by decide +kernel
theorem dX12_climbsBy_11 : decode cX12_climbsBy 11 = .ok (.iconst 1, 1) := by decide +kernel
theorem dX12_climbsBy_12 : decode cX12_climbsBy 12 = .ok (.iaload, 1) := by decide +kernel
theorem dX12_climbsBy_13 : decode cX12_climbsBy 13 = .ok (.if_icmp .ge 39, 3) := by decide +kernel
theorem dX12_climbsBy_16 : decode cX12_climbsBy 16 = .ok (.aload_n 0, 1) := by decide +kernel
theorem dX12_climbsBy_17 : decode cX12_climbsBy 17 = .ok (.getfield 13, 3) := by decide +kernel
theorem dX12_climbsBy_20 : decode cX12_climbsBy 20 = .ok (.iconst 5, 1) := by decide +kernel
theorem dX12_climbsBy_21 : decode cX12_climbsBy 21 = .ok (.iaload, 1) := by decide +kernel
theorem dX12_climbsBy_22 : decode cX12_climbsBy 22 = .ok (.i2l, 1) := by decide +kernel
theorem dX12_climbsBy_23 : decode cX12_climbsBy 23 = .ok (.iload 4, 2) := by decide +kernel
theorem dX12_climbsBy_25 : decode cX12_climbsBy 25 = .ok (.invokestatic 186, 3) := by decide +kernel
theorem dX12_climbsBy_28 : decode cX12_climbsBy 28 = .ok (.ifCond .eq 18, 3) := by decide +kernel
theorem dX12_climbsBy_31 : decode cX12_climbsBy 31 = .ok (.lload_n 2, 1) := by decide +kernel
theorem dX12_climbsBy_32 : decode cX12_climbsBy 32 = .ok (.aload_n 0, 1) := by decide +kernel
theorem dX12_climbsBy_33 : decode cX12_climbsBy 33 = .ok (.getfield 49, 3) := by decide +kernel
theorem dX12_climbsBy_36 : decode cX12_climbsBy 36 = .ok (.bipush 14, 2) := by decide +kernel
theorem dX12_climbsBy_38 : decode cX12_climbsBy 38 = .ok (.iload_n 1, 1) := by decide +kernel
theorem dX12_climbsBy_39 : decode cX12_climbsBy 39 = .ok (.imul, 1) := by decide +kernel
theorem dX12_climbsBy_40 : decode cX12_climbsBy 40 = .ok (.iload 4, 2) := by decide +kernel
theorem dX12_climbsBy_42 : decode cX12_climbsBy 42 = .ok (.iadd, 1) := by decide +kernel
theorem dX12_climbsBy_43 : decode cX12_climbsBy 43 = .ok (.laload, 1) := by decide +kernel
theorem dX12_climbsBy_44 : decode cX12_climbsBy 44 = .ok (.ladd, 1) := by decide +kernel
theorem dX12_climbsBy_45 : decode cX12_climbsBy 45 = .ok (.lstore_n 2, 1) := by decide +kernel
theorem dX12_climbsBy_46 : decode cX12_climbsBy 46 = .ok (.iinc 4 1, 3) := by decide +kernel
theorem dX12_climbsBy_49 : decode cX12_climbsBy 49 = .ok (.goto (-44), 3) := by decide +kernel
theorem dX12_climbsBy_52 : decode cX12_climbsBy 52 = .ok (.lload_n 2, 1) := by decide +kernel
theorem dX12_climbsBy_53 : decode cX12_climbsBy 53 = .ok (.lreturn, 1) := by decide +kernel
theorem dX12_climbsOf_0 : decode cX12_climbsOf 0 = .ok (.lconst 0, 1) := by decide +kernel
theorem dX12_climbsOf_1 : decode cX12_climbsOf 1 = .ok (.lstore_n 3, 1) := by decide +kernel
theorem dX12_climbsOf_2 : decode cX12_climbsOf 2 = .ok (.iconst 0, 1) := by decide +kernel
theorem dX12_climbsOf_3 : decode cX12_climbsOf 3 = .ok (.istore 5, 2) := by decide +kernel
theorem dX12_climbsOf_5 : decode cX12_climbsOf 5 = .ok (.iload 5, 2) := by decide +kernel
theorem dX12_climbsOf_7 : decode cX12_climbsOf 7 = .ok (.iconst 1, 1) := by decide +kernel
theorem dX12_climbsOf_8 : decode cX12_climbsOf 8 = .ok (.aload_n 0, 1) := by decide +kernel
theorem dX12_climbsOf_9 : decode cX12_climbsOf 9 = .ok (.getfield 13, 3) := by decide +kernel
theorem dX12_climbsOf_12 : decode cX12_climbsOf 12 = .ok (.iconst 1, 1) := by decide +kernel
theorem dX12_climbsOf_13 : decode cX12_climbsOf 13 = .ok (.iaload, 1) := by decide +kernel
theorem dX12_climbsOf_14 : decode cX12_climbsOf 14 = .ok (.ishl, 1) := by decide +kernel
theorem dX12_climbsOf_15 : decode cX12_climbsOf 15 = .ok (.if_icmp .ge 34, 3) := by decide +kernel
theorem dX12_climbsOf_18 : decode cX12_climbsOf 18 = .ok (.iload 5, 2) := by decide +kernel
theorem dX12_climbsOf_20 : decode cX12_climbsOf 20 = .ok (.invokestatic 334, 3) := by decide +kernel
theorem dX12_climbsOf_23 : decode cX12_climbsOf 23 = .ok (.i2l, 1) := by decide +kernel
theorem dX12_climbsOf_24 : decode cX12_climbsOf 24 = .ok (.iload_n 1, 1) := by decide +kernel
theorem dX12_climbsOf_25 : decode cX12_climbsOf 25 = .ok (.i2l, 1) := by decide +kernel
theorem dX12_climbsOf_26 : decode cX12_climbsOf 26 = .ok (.iload_n 2, 1) := by decide +kernel
theorem dX12_climbsOf_27 : decode cX12_climbsOf 27 = .ok (.i2l, 1) := by decide +kernel
theorem dX12_climbsOf_28 : decode cX12_climbsOf 28 = .ok (.invokestatic 144, 3) := by decide +kernel
theorem dX12_climbsOf_31 : decode cX12_climbsOf 31 = .ok (.ifCond .eq 12, 3) := by decide +kernel
theorem dX12_climbsOf_34 : decode cX12_climbsOf 34 = .ok (.lload_n 3, 1) := by decide +kernel
theorem dX12_climbsOf_35 : decode cX12_climbsOf 35 = .ok (.aload_n 0, 1) := by decide +kernel
theorem dX12_climbsOf_36 : decode cX12_climbsOf 36 = .ok (.iload 5, 2) := by decide +kernel
theorem dX12_climbsOf_38 : decode cX12_climbsOf 38 = .ok (.invokevirtual 337, 3) := by decide +kernel
theorem dX12_climbsOf_41 : decode cX12_climbsOf 41 = .ok (.ladd, 1) := by decide +kernel
theorem dX12_climbsOf_42 : decode cX12_climbsOf 42 = .ok (.lstore_n 3, 1) := by decide +kernel
theorem dX12_climbsOf_43 : decode cX12_climbsOf 43 = .ok (.iinc 5 1, 3) := by decide +kernel
theorem dX12_climbsOf_46 : decode cX12_climbsOf 46 = .ok (.goto (-41), 3) := by decide +kernel
theorem dX12_climbsOf_49 : decode cX12_climbsOf 49 = .ok (.lload_n 3, 1) := by decide +kernel
theorem dX12_climbsOf_50 : decode cX12_climbsOf 50 = .ok (.lreturn, 1) := by decide +kernel
theorem dX12_laysClimbs_0 : decode cX12_laysClimbs 0 = .ok (.iconst 1, 1) := by decide +kernel
theorem dX12_laysClimbs_1 : decode cX12_laysClimbs 1 = .ok (.aload_n 0, 1) := by decide +kernel
theorem dX12_laysClimbs_2 : decode cX12_laysClimbs 2 = .ok (.getfield 13, 3) := by decide +kernel
theorem dX12_laysClimbs_5 : decode cX12_laysClimbs 5 = .ok (.iconst 1, 1) := by decide +kernel
theorem dX12_laysClimbs_6 : decode cX12_laysClimbs 6 = .ok (.iaload, 1) := by decide +kernel
theorem dX12_laysClimbs_7 : decode cX12_laysClimbs 7 = .ok (.ishl, 1) := by decide +kernel
theorem dX12_laysClimbs_8 : decode cX12_laysClimbs 8 = .ok (.istore_n 2, 1) := by decide +kernel
theorem dX12_laysClimbs_9 : decode cX12_laysClimbs 9 = .ok (.iconst 0, 1) := by decide +kernel
theorem dX12_laysClimbs_10 : decode cX12_laysClimbs 10 = .ok (.istore_n 3, 1) := by decide +kernel
theorem dX12_laysClimbs_11 : decode cX12_laysClimbs 11 = .ok (.iload_n 3, 1) := by decide +kernel
theorem dX12_laysClimbs_12 : decode cX12_laysClimbs 12 = .ok (.bipush 14, 2) := by decide +kernel
theorem dX12_laysClimbs_14 : decode cX12_laysClimbs 14 = .ok (.iload_n 2, 1) := by decide +kernel
theorem dX12_laysClimbs_15 : decode cX12_laysClimbs 15 = .ok (.imul, 1) := by decide +kernel
theorem dX12_laysClimbs_16 : decode cX12_laysClimbs 16 = .ok (.if_icmp .ge 16, 3) := by decide +kernel
theorem dX12_laysClimbs_19 : decode cX12_laysClimbs 19 = .ok (.aload_n 0, 1) := by decide +kernel
theorem dX12_laysClimbs_20 : decode cX12_laysClimbs 20 = .ok (.getfield 49, 3) := by decide +kernel
theorem dX12_laysClimbs_23 : decode cX12_laysClimbs 23 = .ok (.iload_n 3, 1) := by decide +kernel
theorem dX12_laysClimbs_24 : decode cX12_laysClimbs 24 = .ok (.lconst 0, 1) := by decide +kernel
theorem dX12_laysClimbs_25 : decode cX12_laysClimbs 25 = .ok (.lastore, 1) := by decide +kernel
theorem dX12_laysClimbs_26 : decode cX12_laysClimbs 26 = .ok (.iinc 3 1, 3) := by decide +kernel
theorem dX12_laysClimbs_29 : decode cX12_laysClimbs 29 = .ok (.goto (-18), 3) := by decide +kernel
theorem dX12_laysClimbs_32 : decode cX12_laysClimbs 32 = .ok (.iconst 0, 1) := by decide +kernel
theorem dX12_laysClimbs_33 : decode cX12_laysClimbs 33 = .ok (.istore_n 3, 1) := by decide +kernel
theorem dX12_laysClimbs_34 : decode cX12_laysClimbs 34 = .ok (.iload_n 3, 1) := by decide +kernel
theorem dX12_laysClimbs_35 : decode cX12_laysClimbs 35 = .ok (.aload_n 0, 1) := by decide +kernel
theorem dX12_laysClimbs_36 : decode cX12_laysClimbs 36 = .ok (.getfield 13, 3) := by decide +kernel
theorem dX12_laysClimbs_39 : decode cX12_laysClimbs 39 = .ok (.iconst 1, 1) := by decide +kernel
theorem dX12_laysClimbs_40 : decode cX12_laysClimbs 40 = .ok (.iaload, 1) := by decide +kernel
theorem dX12_laysClimbs_41 : decode cX12_laysClimbs 41 = .ok (.if_icmp .ge 39, 3) := by decide +kernel
theorem dX12_laysClimbs_44 : decode cX12_laysClimbs 44 = .ok (.iload_n 1, 1) := by decide +kernel
theorem dX12_laysClimbs_45 : decode cX12_laysClimbs 45 = .ok (.aload_n 0, 1) := by decide +kernel
theorem dX12_laysClimbs_46 : decode cX12_laysClimbs 46 = .ok (.getfield 13, 3) := by decide +kernel
theorem dX12_laysClimbs_49 : decode cX12_laysClimbs 49 = .ok (.iconst 4, 1) := by decide +kernel
theorem dX12_laysClimbs_50 : decode cX12_laysClimbs 50 = .ok (.iaload, 1) := by decide +kernel
theorem dX12_laysClimbs_51 : decode cX12_laysClimbs 51 = .ok (.iand, 1) := by decide +kernel
theorem dX12_laysClimbs_52 : decode cX12_laysClimbs 52 = .ok (.i2l, 1) := by decide +kernel
theorem dX12_laysClimbs_53 : decode cX12_laysClimbs 53 = .ok (.iload_n 3, 1) := by decide +kernel
theorem dX12_laysClimbs_54 : decode cX12_laysClimbs 54 = .ok (.invokestatic 186, 3) := by decide +kernel
theorem dX12_laysClimbs_57 : decode cX12_laysClimbs 57 = .ok (.ifCond .eq 17, 3) := by decide +kernel
theorem dX12_laysClimbs_60 : decode cX12_laysClimbs 60 = .ok (.aload_n 0, 1) := by decide +kernel
theorem dX12_laysClimbs_61 : decode cX12_laysClimbs 61 = .ok (.getfield 49, 3) := by decide +kernel
theorem dX12_laysClimbs_64 : decode cX12_laysClimbs 64 = .ok (.bipush 14, 2) := by decide +kernel
theorem dX12_laysClimbs_66 : decode cX12_laysClimbs 66 = .ok (.iconst 1, 1) := by decide +kernel
theorem dX12_laysClimbs_67 : decode cX12_laysClimbs 67 = .ok (.iload_n 3, 1) := by decide +kernel
theorem dX12_laysClimbs_68 : decode cX12_laysClimbs 68 = .ok (.ishl, 1) := by decide +kernel
theorem dX12_laysClimbs_69 : decode cX12_laysClimbs 69 = .ok (.imul, 1) := by decide +kernel
theorem dX12_laysClimbs_70 : decode cX12_laysClimbs 70 = .ok (.iload_n 3, 1) := by decide +kernel
theorem dX12_laysClimbs_71 : decode cX12_laysClimbs 71 = .ok (.iadd, 1) := by decide +kernel
theorem dX12_laysClimbs_72 : decode cX12_laysClimbs 72 = .ok (.lconst 1, 1) := by decide +kernel
theorem dX12_laysClimbs_73 : decode cX12_laysClimbs 73 = .ok (.lastore, 1) := by decide +kernel
theorem dX12_laysClimbs_74 : decode cX12_laysClimbs 74 = .ok (.iinc 3 1, 3) := by decide +kernel
theorem dX12_laysClimbs_77 : decode cX12_laysClimbs 77 = .ok (.goto (-43), 3) := by decide +kernel
theorem dX12_laysClimbs_80 : decode cX12_laysClimbs 80 = .ok (.iconst 0, 1) := by decide +kernel
theorem dX12_laysClimbs_81 : decode cX12_laysClimbs 81 = .ok (.istore_n 3, 1) := by decide +kernel
theorem dX12_laysClimbs_82 : decode cX12_laysClimbs 82 = .ok (.iload_n 3, 1) := by decide +kernel
theorem dX12_laysClimbs_83 : decode cX12_laysClimbs 83 = .ok (.iload_n 2, 1) := by decide +kernel
theorem dX12_laysClimbs_84 : decode cX12_laysClimbs 84 = .ok (.if_icmp .ge 129, 3) := by decide +kernel
theorem dX12_laysClimbs_87 : decode cX12_laysClimbs 87 = .ok (.iload_n 3, 1) := by decide +kernel
theorem dX12_laysClimbs_88 : decode cX12_laysClimbs 88 = .ok (.iload_n 1, 1) := by decide +kernel
theorem dX12_laysClimbs_89 : decode cX12_laysClimbs 89 = .ok (.iconst (-1), 1) := by decide +kernel
theorem dX12_laysClimbs_90 : decode cX12_laysClimbs 90 = .ok (.ixor, 1) := by decide +kernel
theorem dX12_laysClimbs_91 : decode cX12_laysClimbs 91 = .ok (.iand, 1) := by decide +kernel
theorem dX12_laysClimbs_92 : decode cX12_laysClimbs 92 = .ok (.ifCond .eq 6, 3) := by decide +kernel
theorem dX12_laysClimbs_95 : decode cX12_laysClimbs 95 = .ok (.goto 112, 3) := by decide +kernel
theorem dX12_laysClimbs_98 : decode cX12_laysClimbs 98 = .ok (.iconst 0, 1) := by decide +kernel
theorem dX12_laysClimbs_99 : decode cX12_laysClimbs 99 = .ok (.istore 4, 2) := by decide +kernel
theorem dX12_laysClimbs_101 : decode cX12_laysClimbs 101 = .ok (.iload 4, 2) := by decide +kernel
theorem dX12_laysClimbs_103 : decode cX12_laysClimbs 103 = .ok (.aload_n 0, 1) := by decide +kernel
theorem dX12_laysClimbs_104 : decode cX12_laysClimbs 104 = .ok (.getfield 13, 3) := by decide +kernel
theorem dX12_laysClimbs_107 : decode cX12_laysClimbs 107 = .ok (.iconst 1, 1) := by decide +kernel
theorem dX12_laysClimbs_108 : decode cX12_laysClimbs 108 = .ok (.iaload, 1) := by decide +kernel
theorem dX12_laysClimbs_109 : decode cX12_laysClimbs 109 = .ok (.if_icmp .ge 98, 3) := by decide +kernel
theorem dX12_laysClimbs_112 : decode cX12_laysClimbs 112 = .ok (.aload_n 0, 1) := by decide +kernel
theorem dX12_laysClimbs_113 : decode cX12_laysClimbs 113 = .ok (.getfield 49, 3) := by decide +kernel
theorem dX12_laysClimbs_116 : decode cX12_laysClimbs 116 = .ok (.bipush 14, 2) := by decide +kernel
theorem dX12_laysClimbs_118 : decode cX12_laysClimbs 118 = .ok (.iload_n 3, 1) := by decide +kernel
theorem dX12_laysClimbs_119 : decode cX12_laysClimbs 119 = .ok (.imul, 1) := by decide +kernel
theorem dX12_laysClimbs_120 : decode cX12_laysClimbs 120 = .ok (.iload 4, 2) := by decide +kernel
theorem dX12_laysClimbs_122 : decode cX12_laysClimbs 122 = .ok (.iadd, 1) := by decide +kernel
theorem dX12_laysClimbs_123 : decode cX12_laysClimbs 123 = .ok (.laload, 1) := by decide +kernel
theorem dX12_laysClimbs_124 : decode cX12_laysClimbs 124 = .ok (.lstore 5, 2) := by decide +kernel
theorem dX12_laysClimbs_126 : decode cX12_laysClimbs 126 = .ok (.aload_n 0, 1) := by decide +kernel
theorem dX12_laysClimbs_127 : decode cX12_laysClimbs 127 = .ok (.getfield 33, 3) := by decide +kernel
theorem dX12_laysClimbs_130 : decode cX12_laysClimbs 130 = .ok (.iload 4, 2) := by decide +kernel
theorem dX12_laysClimbs_132 : decode cX12_laysClimbs 132 = .ok (.iaload, 1) := by decide +kernel
theorem dX12_laysClimbs_133 : decode cX12_laysClimbs 133 = .ok (.iload_n 1, 1) := by decide +kernel
theorem dX12_laysClimbs_134 : decode cX12_laysClimbs 134 = .ok (.iand, 1) := by decide +kernel
theorem dX12_laysClimbs_135 : decode cX12_laysClimbs 135 = .ok (.iload_n 3, 1) := by decide +kernel
theorem dX12_laysClimbs_136 : decode cX12_laysClimbs 136 = .ok (.iconst (-1), 1) := by decide +kernel
theorem dX12_laysClimbs_137 : decode cX12_laysClimbs 137 = .ok (.ixor, 1) := by decide +kernel
theorem dX12_laysClimbs_138 : decode cX12_laysClimbs 138 = .ok (.iand, 1) := by decide +kernel
theorem dX12_laysClimbs_139 : decode cX12_laysClimbs 139 = .ok (.istore 7, 2) := by decide +kernel
theorem dX12_laysClimbs_141 : decode cX12_laysClimbs 141 = .ok (.iconst 0, 1) := by decide +kernel
theorem dX12_laysClimbs_142 : decode cX12_laysClimbs 142 = .ok (.istore 8, 2) := by decide +kernel
theorem dX12_laysClimbs_144 : decode cX12_laysClimbs 144 = .ok (.iload 8, 2) := by decide +kernel
theorem dX12_laysClimbs_146 : decode cX12_laysClimbs 146 = .ok (.aload_n 0, 1) := by decide +kernel
theorem dX12_laysClimbs_147 : decode cX12_laysClimbs 147 = .ok (.getfield 13, 3) := by decide +kernel
theorem dX12_laysClimbs_150 : decode cX12_laysClimbs 150 = .ok (.iconst 1, 1) := by decide +kernel
theorem dX12_laysClimbs_151 : decode cX12_laysClimbs 151 = .ok (.iaload, 1) := by decide +kernel
theorem dX12_laysClimbs_152 : decode cX12_laysClimbs 152 = .ok (.if_icmp .ge 49, 3) := by decide +kernel
theorem dX12_laysClimbs_155 : decode cX12_laysClimbs 155 = .ok (.lload 5, 2) := by decide +kernel
theorem dX12_laysClimbs_157 : decode cX12_laysClimbs 157 = .ok (.lconst 0, 1) := by decide +kernel
theorem dX12_laysClimbs_158 : decode cX12_laysClimbs 158 = .ok (.lcmp, 1) := by decide +kernel
theorem dX12_laysClimbs_159 : decode cX12_laysClimbs 159 = .ok (.ifCond .le 42, 3) := by decide +kernel
theorem dX12_laysClimbs_162 : decode cX12_laysClimbs 162 = .ok (.iload 7, 2) := by decide +kernel
theorem dX12_laysClimbs_164 : decode cX12_laysClimbs 164 = .ok (.i2l, 1) := by decide +kernel
theorem dX12_laysClimbs_165 : decode cX12_laysClimbs 165 = .ok (.iload 8, 2) := by decide +kernel
theorem dX12_laysClimbs_167 : decode cX12_laysClimbs 167 = .ok (.invokestatic 186, 3) := by decide +kernel
theorem dX12_laysClimbs_170 : decode cX12_laysClimbs 170 = .ok (.ifCond .eq 25, 3) := by decide +kernel
theorem dX12_laysClimbs_173 : decode cX12_laysClimbs 173 = .ok (.aload_n 0, 1) := by decide +kernel
theorem dX12_laysClimbs_174 : decode cX12_laysClimbs 174 = .ok (.getfield 49, 3) := by decide +kernel
theorem dX12_laysClimbs_177 : decode cX12_laysClimbs 177 = .ok (.bipush 14, 2) := by decide +kernel
theorem dX12_laysClimbs_179 : decode cX12_laysClimbs 179 = .ok (.iload_n 3, 1) := by decide +kernel
theorem dX12_laysClimbs_180 : decode cX12_laysClimbs 180 = .ok (.iconst 1, 1) := by decide +kernel
theorem dX12_laysClimbs_181 : decode cX12_laysClimbs 181 = .ok (.iload 8, 2) := by decide +kernel
theorem dX12_laysClimbs_183 : decode cX12_laysClimbs 183 = .ok (.ishl, 1) := by decide +kernel
theorem dX12_laysClimbs_184 : decode cX12_laysClimbs 184 = .ok (.ior, 1) := by decide +kernel
theorem dX12_laysClimbs_185 : decode cX12_laysClimbs 185 = .ok (.imul, 1) := by decide +kernel
theorem dX12_laysClimbs_186 : decode cX12_laysClimbs 186 = .ok (.iload 8, 2) := by decide +kernel
theorem dX12_laysClimbs_188 : decode cX12_laysClimbs 188 = .ok (.iadd, 1) := by decide +kernel
theorem dX12_laysClimbs_189 : decode cX12_laysClimbs 189 = .ok (.dup2, 1) := by decide +kernel
theorem dX12_laysClimbs_190 : decode cX12_laysClimbs 190 = .ok (.laload, 1) := by decide +kernel
theorem dX12_laysClimbs_191 : decode cX12_laysClimbs 191 = .ok (.lload 5, 2) := by decide +kernel
theorem dX12_laysClimbs_193 : decode cX12_laysClimbs 193 = .ok (.ladd, 1) := by decide +kernel
theorem dX12_laysClimbs_194 : decode cX12_laysClimbs 194 = .ok (.lastore, 1) := by decide +kernel
theorem dX12_laysClimbs_195 : decode cX12_laysClimbs 195 = .ok (.iinc 8 1, 3) := by decide +kernel
theorem dX12_laysClimbs_198 : decode cX12_laysClimbs 198 = .ok (.goto (-54), 3) := by decide +kernel
theorem dX12_laysClimbs_201 : decode cX12_laysClimbs 201 = .ok (.iinc 4 1, 3) := by decide +kernel
theorem dX12_laysClimbs_204 : decode cX12_laysClimbs 204 = .ok (.goto (-103), 3) := by decide +kernel
theorem dX12_laysClimbs_207 : decode cX12_laysClimbs 207 = .ok (.iinc 3 1, 3) := by decide +kernel
theorem dX12_laysClimbs_210 : decode cX12_laysClimbs 210 = .ok (.goto (-128), 3) := by decide +kernel
theorem dX12_laysClimbs_213 : decode cX12_laysClimbs 213 = .ok (.return_, 1) := by decide +kernel
theorem dX12_laysClimbsOf_0 : decode cX12_laysClimbsOf 0 = .ok (.aload_n 0, 1) := by decide +kernel
theorem dX12_laysClimbsOf_1 : decode cX12_laysClimbsOf 1 = .ok (.iload_n 1, 1) := by decide +kernel
theorem dX12_laysClimbsOf_2 : decode cX12_laysClimbsOf 2 = .ok (.invokevirtual 257, 3) := by decide +kernel
theorem dX12_laysClimbsOf_5 : decode cX12_laysClimbsOf 5 = .ok (.aload_n 0, 1) := by decide +kernel
theorem dX12_laysClimbsOf_6 : decode cX12_laysClimbsOf 6 = .ok (.aload_n 0, 1) := by decide +kernel
theorem dX12_laysClimbsOf_7 : decode cX12_laysClimbsOf 7 = .ok (.invokevirtual 260, 3) := by decide +kernel
theorem dX12_laysClimbsOf_10 : decode cX12_laysClimbsOf 10 = .ok (.invokevirtual 329, 3) := by decide +kernel
theorem dX12_laysClimbsOf_13 : decode cX12_laysClimbsOf 13 = .ok (.return_, 1) := by decide +kernel
theorem kw_1249 : Cond.fieldLink "FootholdWallModel" 49 "FootholdWallModel" "climbs" "[J" ∈ gw := gw_of (tb_of 1249 (by decide +kernel)) (by decide +kernel)
theorem kw_1622 : Cond.constantLong "FootholdWallModel" 341 (-2) ∈ gw := gw_of (tb_of 1622 (by decide +kernel)) (by decide +kernel)
theorem kw_1623 : Cond.methodLink "FootholdWallModel" 329 yX12_laysClimbs ∈ gw := gw_of (tb_of 1623 (by decide +kernel)) (by decide +kernel)
theorem kw_1625 : Cond.instanceMethod yX12_laysClimbs ∈ gw := gw_of (tb_of 1625 (by decide +kernel)) (by decide +kernel)
theorem kw_1626 : Cond.code yX12_laysClimbs cX12_laysClimbs 9 none ∈ gw := gw_of (tb_of 1626 (by decide +kernel)) (by decide +kernel)
theorem kw_1627 : Cond.methodLink "FootholdWallModel" 343 yX12_climbsOf ∈ gw := gw_of (tb_of 1627 (by decide +kernel)) (by decide +kernel)
theorem kw_1629 : Cond.instanceMethod yX12_climbsOf ∈ gw := gw_of (tb_of 1629 (by decide +kernel)) (by decide +kernel)
theorem kw_1630 : Cond.code yX12_climbsOf cX12_climbsOf 6 (some (.long)) ∈ gw := gw_of (tb_of 1630 (by decide +kernel)) (by decide +kernel)
theorem kw_1634 : Cond.methodLink "FootholdWallModel" 337 yX12_climbsBy ∈ gw := gw_of (tb_of 1634 (by decide +kernel)) (by decide +kernel)
theorem kw_1636 : Cond.instanceMethod yX12_climbsBy ∈ gw := gw_of (tb_of 1636 (by decide +kernel)) (by decide +kernel)
theorem kw_1637 : Cond.code yX12_climbsBy cX12_climbsBy 5 (some (.long)) ∈ gw := gw_of (tb_of 1637 (by decide +kernel)) (by decide +kernel)
theorem kw_1642 : Cond.constantLong "FootholdWallModel" 347 7 ∈ gw := gw_of (tb_of 1642 (by decide +kernel)) (by decide +kernel)
theorem kw_1643 : Cond.constantLong "FootholdWallModel" 349 (-3) ∈ gw := gw_of (tb_of 1643 (by decide +kernel)) (by decide +kernel)
theorem kw_1644 : Cond.methodLink "FootholdWallModel" 351 yX12_laysClimbsOf ∈ gw := gw_of (tb_of 1644 (by decide +kernel)) (by decide +kernel)
theorem kw_1646 : Cond.instanceMethod yX12_laysClimbsOf ∈ gw := gw_of (tb_of 1646 (by decide +kernel)) (by decide +kernel)
theorem kw_1647 : Cond.code yX12_laysClimbsOf cX12_laysClimbsOf 2 none ∈ gw := gw_of (tb_of 1647 (by decide +kernel)) (by decide +kernel)
theorem ks_88 : Cond.selects RX12 yX12_laysClimbs yX12_laysClimbs ∈ gw := gw_of (pv_of 88 (by decide +kernel)) (by decide +kernel)
theorem ks_89 : Cond.selects RX12 yX12_climbsOf yX12_climbsOf ∈ gw := gw_of (pv_of 89 (by decide +kernel)) (by decide +kernel)
theorem ks_90 : Cond.selects RX12 yX12_climbsBy yX12_climbsBy ∈ gw := gw_of (pv_of 90 (by decide +kernel)) (by decide +kernel)
theorem ks_91 : Cond.selects RX12 yX12_laysClimbsOf yX12_laysClimbsOf ∈ gw := gw_of (pv_of 91 (by decide +kernel)) (by decide +kernel)
set_option maxHeartbeats 4000000 in
set_option maxRecDepth 100000 in
theorem s_M_laysClimbs (l : Launch) (D : va_G) (cs : CS) (kf : KF) (T : TF) (O : List Nat) (X : va_W) (a0 hg mq : Nat) (x1 : Int32) (t_a0 : T a0 = some (22, hg, mq)) (b_hg : hg < 90) (hO : okO T O [2, 8, 9, 22]) : TK l D cs kf yX12_laysClimbs cX12_laysClimbs 9 none { frames := 1, cells := 0, slots := 0, locals := 22 } [.ref a0, .int x1] T O X (Tv D cs (fun u => u = (T, O, X))) := by
  refine tk_of (by decide) (Nat.le_of_ble_eq_true rfl) (fun p e s m below meth c ls A H locs hx hb hr hml hown hts hlocks hnm hkb hH hS hA hOX hks hE hl => ?_)
  have hown : s.vm.findClass RX12 = some m.cls := hown
  have hl : lv_has ls 9 [(0, .ref a0), (1, .int x1)] := hl
  refine lv_iconst (v := 1) hx hb dX12_laysClimbs_0 (by decide) ?_
  refine lv_aload_n hx hb dX12_laysClimbs_1 rfl (lv_at hl 0 rfl) ?_
  refine t_get (ci := 12) (lst := ft12 hg mq) (C := RX12) (F := TX12) (N := 36) hx hb hts uX12 hown hkb hH t_a0 (hO.no t_a0 (by decide)) (fun _ h9 => h9) rfl rfl 1 (by decide) rfl kw_1224 (fun _ h9 => h9) dX12_laysClimbs_2 (fun v9 h9 => ?_)
  obtain ⟨v2, rfl, t_v2⟩ := h9
  refine lv_iconst (v := 1) hx hb dX12_laysClimbs_5 (by decide) ?_
  refine t_ild8 hx hb hkb hH t_v2 (hO.no t_v2 (by decide)) (by decide) (by decide) (by decide) dX12_laysClimbs_6 (fun v6 h9 h8 => ?_)
  have q9 := (h8 rfl).1 rfl
  subst q9
  have eH9 : (nI (hg / 6)).toInt = (((hg / 6) : Nat) : Int) := nI_toInt (by omega)
  refine lv_ishl hx hb dX12_laysClimbs_7 ?_
  refine lv_topi (fun v7 ev7 => ?_)
  have tv7 : 1 ≤ v7.toInt ∧ v7.toInt ≤ 16384 := by rw [ev7]; exact shl_b 14 (by decide) (by omega) (by omega)
  refine lv_istore_n (lv' := [(2, .int v7), (0, .ref a0), (1, .int x1)]) hx hb dX12_laysClimbs_8 rfl hl (by decide) rfl (fun ls hl => ?_)
  refine lv_iconst (v := 0) hx hb dX12_laysClimbs_9 (by decide) ?_
  have J11 : ∀ (n : Nat) (p11_3 : Int32) (H : Heap) (locs : List Loc) (ls : Array Slot), (2147483647 - p11_3.toInt).toNat = n → (0 ≤ p11_3.toInt) → HT D cs A T O X H → va_S A s.heap H locs → lv_has ls 9 [(3, .int p11_3), (2, .int v7), (0, .ref a0), (1, .int x1)] → W p l e { frames := 1, cells := 0, slots := 0, locals := 22 } s m [.ref a0, .int x1].toArray below meth c H locs 0 0 (MQ below (Tv D cs (fun u => u = (T, O, X)) A) [.ref a0, .int x1].toArray s 0 0 A) (F0 m 11 ls []) := by
    intro n
    induction n using Nat.strongRecOn with
    | _ n ih11 =>
      intro p11_3 H locs ls hm11 l_p11_3 hH hS hl
      refine lv_iload_n hx hb dX12_laysClimbs_11 rfl (lv_at hl 0 rfl) ?_
      refine lv_bipush (v := 14) hx hb dX12_laysClimbs_12 (by decide) ?_
      refine lv_iload_n hx hb dX12_laysClimbs_14 rfl (lv_at hl 1 rfl) ?_
      refine lv_imul hx hb dX12_laysClimbs_15 ?_
      refine lv_topi (fun v15 ev15 => ?_)
      have tv15 : v15.toInt = (14) * v7.toInt := by rw [ev15]; exact mul_i (by decide : (14 : Int32).toInt = 14) rfl (by omega) (by omega)
      refine lv_icmp_ge (tgt := 32) hx hb dX12_laysClimbs_16 (by decide) (fun c16 => ?_) (fun c16 => ?_)
      · skip
        have fuc16 := full_i p11_3
        have fvc16 := full_i v15
        have tc16 := g_le c16
        refine lv_iconst (v := 0) hx hb dX12_laysClimbs_32 (by decide) ?_
        have J34 : ∀ (n : Nat) (p34_3 : Int32) (H : Heap) (locs : List Loc) (ls : Array Slot), (14 - p34_3.toInt).toNat = n → (0 ≤ p34_3.toInt) → (p34_3.toInt ≤ 14) → HT D cs A T O X H → va_S A s.heap H locs → lv_has ls 9 [(3, .int p34_3), (2, .int v7), (0, .ref a0), (1, .int x1)] → W p l e { frames := 1, cells := 0, slots := 0, locals := 22 } s m [.ref a0, .int x1].toArray below meth c H locs 0 0 (MQ below (Tv D cs (fun u => u = (T, O, X)) A) [.ref a0, .int x1].toArray s 0 0 A) (F0 m 34 ls []) := by
          intro n
          induction n using Nat.strongRecOn with
          | _ n ih34 =>
            intro p34_3 H locs ls hm34 l_p34_3 u_p34_3 hH hS hl
            refine lv_iload_n hx hb dX12_laysClimbs_34 rfl (lv_at hl 0 rfl) ?_
            refine lv_aload_n hx hb dX12_laysClimbs_35 rfl (lv_at hl 2 rfl) ?_
            refine t_get (ci := 12) (lst := ft12 hg mq) (C := RX12) (F := TX12) (N := 36) hx hb hts uX12 hown hkb hH t_a0 (hO.no t_a0 (by decide)) (fun _ h9 => h9) rfl rfl 1 (by decide) rfl kw_1224 (fun _ h9 => h9) dX12_laysClimbs_36 (fun v9 h9 => ?_)
            obtain ⟨v36, rfl, t_v36⟩ := h9
            refine lv_iconst (v := 1) hx hb dX12_laysClimbs_39 (by decide) ?_
            refine t_ild8 hx hb hkb hH t_v36 (hO.no t_v36 (by decide)) (by decide) (by decide) (by decide) dX12_laysClimbs_40 (fun v40 h9 h8 => ?_)
            have q9 := (h8 rfl).1 rfl
            subst q9
            have eH9 : (nI (hg / 6)).toInt = (((hg / 6) : Nat) : Int) := nI_toInt (by omega)
            refine lv_icmp_ge (tgt := 80) hx hb dX12_laysClimbs_41 (by decide) (fun c41 => ?_) (fun c41 => ?_)
            · skip
              have fuc41 := full_i p34_3
              have fvc41 := full_i (nI (hg / 6))
              have tc41 := g_le c41
              refine lv_iconst (v := 0) hx hb dX12_laysClimbs_80 (by decide) ?_
              have J82 : ∀ (n : Nat) (p82_3 : Int32) (H : Heap) (locs : List Loc) (ls : Array Slot), (16384 - p82_3.toInt).toNat = n → (0 ≤ p82_3.toInt) → (p82_3.toInt ≤ 16384) → HT D cs A T O X H → va_S A s.heap H locs → lv_has ls 9 [(3, .int p82_3), (2, .int v7), (0, .ref a0), (1, .int x1)] → W p l e { frames := 1, cells := 0, slots := 0, locals := 22 } s m [.ref a0, .int x1].toArray below meth c H locs 0 0 (MQ below (Tv D cs (fun u => u = (T, O, X)) A) [.ref a0, .int x1].toArray s 0 0 A) (F0 m 82 ls []) := by
                intro n
                induction n using Nat.strongRecOn with
                | _ n ih82 =>
                  intro p82_3 H locs ls hm82 l_p82_3 u_p82_3 hH hS hl
                  refine lv_iload_n hx hb dX12_laysClimbs_82 rfl (lv_at hl 0 rfl) ?_
                  refine lv_iload_n hx hb dX12_laysClimbs_83 rfl (lv_at hl 1 rfl) ?_
                  refine lv_icmp_ge (tgt := 213) hx hb dX12_laysClimbs_84 (by decide) (fun c84 => ?_) (fun c84 => ?_)
                  · skip
                    have fuc84 := full_i p82_3
                    have fvc84 := full_i v7
                    have tc84 := g_le c84
                    exact te_v hx hb hr hlocks hH hS rfl dX12_laysClimbs_213
                  · skip
                    have fuc84 := full_i p82_3
                    have fvc84 := full_i v7
                    have tc84 := g_nle c84
                    refine lv_iload_n hx hb dX12_laysClimbs_87 rfl (lv_at hl 0 rfl) ?_
                    refine lv_iload_n hx hb dX12_laysClimbs_88 rfl (lv_at hl 3 rfl) ?_
                    refine lv_iconst (v := (-1)) hx hb dX12_laysClimbs_89 (by decide) ?_
                    refine lv_ixor hx hb dX12_laysClimbs_90 ?_
                    refine lv_topi (fun v90 ev90 => ?_)
                    refine lv_iand hx hb dX12_laysClimbs_91 ?_
                    refine lv_topi (fun v91 ev91 => ?_)
                    have tv91 : 0 ≤ v91.toInt ∧ v91.toInt ≤ p82_3.toInt := by rw [ev91]; exact and_l (by omega)
                    have J207 : ∀  (H : Heap) (locs : List Loc) (ls : Array Slot), HT D cs A T O X H → va_S A s.heap H locs → lv_has ls 9 [(3, .int p82_3), (2, .int v7), (0, .ref a0), (1, .int x1)] → W p l e { frames := 1, cells := 0, slots := 0, locals := 22 } s m [.ref a0, .int x1].toArray below meth c H locs 0 0 (MQ below (Tv D cs (fun u => u = (T, O, X)) A) [.ref a0, .int x1].toArray s 0 0 A) (F0 m 207 ls []) := by
                      intro  H locs ls  hH hS hl
                      obtain ⟨v207, ev207⟩ : ∃ y : Int32, y = p82_3 + 1 := ⟨_, rfl⟩
                      have tv207 : v207.toInt = p82_3.toInt + (1) := by rw [ev207]; exact add_i rfl (by decide) (by omega) (by omega)
                      refine lv_iinc (v := v207) (lv' := [(3, .int v207), (2, .int v7), (0, .ref a0), (1, .int x1)]) hx hb dX12_laysClimbs_207 hl (k := 0) rfl (by rw [ev207]; rfl) (by decide) rfl (fun ls hl => ?_)
                      refine lv_goto (tgt := 82) hx hb dX12_laysClimbs_210 (by decide) ?_
                      exact ih82 _ (by omega) v207 _ _ _ rfl (by omega) (by omega) hH hS (lv_sub hl [0, 1, 2, 3] rfl)
                    refine lv_if_eq (tgt := 98) hx hb dX12_laysClimbs_92 (by decide) (fun c92 => ?_) (fun c92 => ?_)
                    · skip
                      have tc92 := f_eq (k := 0) (by decide) c92
                      refine lv_iconst (v := 0) hx hb dX12_laysClimbs_98 (by decide) ?_
                      have J101 : ∀ (n : Nat) (p101_4 : Int32) (H : Heap) (locs : List Loc) (ls : Array Slot), (14 - p101_4.toInt).toNat = n → (0 ≤ p101_4.toInt) → (p101_4.toInt ≤ 14) → HT D cs A T O X H → va_S A s.heap H locs → lv_has ls 9 [(4, .int p101_4), (3, .int p82_3), (2, .int v7), (0, .ref a0), (1, .int x1)] → W p l e { frames := 1, cells := 0, slots := 0, locals := 22 } s m [.ref a0, .int x1].toArray below meth c H locs 0 0 (MQ below (Tv D cs (fun u => u = (T, O, X)) A) [.ref a0, .int x1].toArray s 0 0 A) (F0 m 101 ls []) := by
                        intro n
                        induction n using Nat.strongRecOn with
                        | _ n ih101 =>
                          intro p101_4 H locs ls hm101 l_p101_4 u_p101_4 hH hS hl
                          refine lv_iload hx hb dX12_laysClimbs_101 (lv_at hl 0 rfl) ?_
                          refine lv_aload_n hx hb dX12_laysClimbs_103 rfl (lv_at hl 3 rfl) ?_
                          refine t_get (ci := 12) (lst := ft12 hg mq) (C := RX12) (F := TX12) (N := 36) hx hb hts uX12 hown hkb hH t_a0 (hO.no t_a0 (by decide)) (fun _ h9 => h9) rfl rfl 1 (by decide) rfl kw_1224 (fun _ h9 => h9) dX12_laysClimbs_104 (fun v9 h9 => ?_)
                          obtain ⟨v104, rfl, t_v104⟩ := h9
                          refine lv_iconst (v := 1) hx hb dX12_laysClimbs_107 (by decide) ?_
                          refine t_ild8 hx hb hkb hH t_v104 (hO.no t_v104 (by decide)) (by decide) (by decide) (by decide) dX12_laysClimbs_108 (fun v108 h9 h8 => ?_)
                          have q9 := (h8 rfl).1 rfl
                          subst q9
                          have eH9 : (nI (hg / 6)).toInt = (((hg / 6) : Nat) : Int) := nI_toInt (by omega)
                          refine lv_icmp_ge (tgt := 207) hx hb dX12_laysClimbs_109 (by decide) (fun c109 => ?_) (fun c109 => ?_)
                          · skip
                            have fuc109 := full_i p101_4
                            have fvc109 := full_i (nI (hg / 6))
                            have tc109 := g_le c109
                            exact J207  _ _ _  hH hS (lv_sub hl [1, 2, 3, 4] rfl)
                          · skip
                            have fuc109 := full_i p101_4
                            have fvc109 := full_i (nI (hg / 6))
                            have tc109 := g_nle c109
                            refine lv_aload_n hx hb dX12_laysClimbs_112 rfl (lv_at hl 3 rfl) ?_
                            refine t_get (ci := 12) (lst := ft12 hg mq) (C := RX12) (F := TX12) (N := 36) hx hb hts uX12 hown hkb hH t_a0 (hO.no t_a0 (by decide)) (fun _ h9 => h9) rfl rfl 26 (by decide) rfl kw_1249 (fun _ h9 => h9) dX12_laysClimbs_113 (fun v9 h9 => ?_)
                            obtain ⟨v113, rfl, t_v113⟩ := h9
                            refine lv_bipush (v := 14) hx hb dX12_laysClimbs_116 (by decide) ?_
                            refine lv_iload_n hx hb dX12_laysClimbs_118 rfl (lv_at hl 1 rfl) ?_
                            refine lv_imul hx hb dX12_laysClimbs_119 ?_
                            refine lv_topi (fun v119 ev119 => ?_)
                            have tv119 : v119.toInt = (14) * p82_3.toInt := by rw [ev119]; exact mul_i (by decide : (14 : Int32).toInt = 14) rfl (by omega) (by omega)
                            refine lv_iload hx hb dX12_laysClimbs_120 (lv_at hl 0 rfl) ?_
                            refine lv_iadd hx hb dX12_laysClimbs_122 ?_
                            refine lv_topi (fun v122 ev122 => ?_)
                            have tv122 : v122.toInt = v119.toInt + p101_4.toInt := by rw [ev122]; exact add_i rfl rfl (by omega) (by omega)
                            refine t_lld hx hb hkb hH t_v113 (hO.no t_v113 (by decide)) (by omega) (by omega) dX12_laysClimbs_123 (fun v123 => ?_)
                            refine lv_lstore (lv' := [(5, .long v123), (4, .int p101_4), (3, .int p82_3), (2, .int v7), (0, .ref a0), (1, .int x1)]) hx hb dX12_laysClimbs_124 hl (by decide) rfl (fun ls hl => ?_)
                            refine lv_aload_n hx hb dX12_laysClimbs_126 rfl (lv_at hl 4 rfl) ?_
                            refine t_get (ci := 12) (lst := ft12 hg mq) (C := RX12) (F := TX12) (N := 36) hx hb hts uX12 hown hkb hH t_a0 (hO.no t_a0 (by decide)) (fun _ h9 => h9) rfl rfl 17 (by decide) rfl kw_1240 (fun _ h9 => h9) dX12_laysClimbs_127 (fun v9 h9 => ?_)
                            obtain ⟨v127, rfl, t_v127⟩ := h9
                            refine lv_iload hx hb dX12_laysClimbs_130 (lv_at hl 1 rfl) ?_
                            refine t_ild9 hx hb hkb hH t_v127 (hO.no9 t_v127 (by decide)) (by omega) (by omega) dX12_laysClimbs_132 (fun v132 h9 => ?_)
                            have tv132 : 0 ≤ v132.toInt ∧ v132.toInt ≤ 16383 := h9
                            refine lv_iload_n hx hb dX12_laysClimbs_133 rfl (lv_at hl 5 rfl) ?_
                            refine lv_iand hx hb dX12_laysClimbs_134 ?_
                            refine lv_topi (fun v134 ev134 => ?_)
                            have tv134 : 0 ≤ v134.toInt ∧ v134.toInt ≤ v132.toInt := by rw [ev134]; exact and_l (by omega)
                            refine lv_iload_n hx hb dX12_laysClimbs_135 rfl (lv_at hl 2 rfl) ?_
                            refine lv_iconst (v := (-1)) hx hb dX12_laysClimbs_136 (by decide) ?_
                            refine lv_ixor hx hb dX12_laysClimbs_137 ?_
                            refine lv_topi (fun v137 ev137 => ?_)
                            refine lv_iand hx hb dX12_laysClimbs_138 ?_
                            refine lv_topi (fun v138 ev138 => ?_)
                            have tv138 : 0 ≤ v138.toInt ∧ v138.toInt ≤ v134.toInt := by rw [ev138]; exact and_l (by omega)
                            refine lv_istore (lv' := [(7, .int v138), (5, .long v123), (4, .int p101_4), (3, .int p82_3), (2, .int v7), (0, .ref a0), (1, .int x1)]) hx hb dX12_laysClimbs_139 hl (by decide) rfl (fun ls hl => ?_)
                            refine lv_iconst (v := 0) hx hb dX12_laysClimbs_141 (by decide) ?_
                            have J144 : ∀ (n : Nat) (p144_8 : Int32) (H : Heap) (locs : List Loc) (ls : Array Slot), (14 - p144_8.toInt).toNat = n → (0 ≤ p144_8.toInt) → (p144_8.toInt ≤ 14) → HT D cs A T O X H → va_S A s.heap H locs → lv_has ls 9 [(8, .int p144_8), (7, .int v138), (5, .long v123), (4, .int p101_4), (3, .int p82_3), (2, .int v7), (0, .ref a0), (1, .int x1)] → W p l e { frames := 1, cells := 0, slots := 0, locals := 22 } s m [.ref a0, .int x1].toArray below meth c H locs 0 0 (MQ below (Tv D cs (fun u => u = (T, O, X)) A) [.ref a0, .int x1].toArray s 0 0 A) (F0 m 144 ls []) := by
                              intro n
                              induction n using Nat.strongRecOn with
                              | _ n ih144 =>
                                intro p144_8 H locs ls hm144 l_p144_8 u_p144_8 hH hS hl
                                refine lv_iload hx hb dX12_laysClimbs_144 (lv_at hl 0 rfl) ?_
                                refine lv_aload_n hx hb dX12_laysClimbs_146 rfl (lv_at hl 6 rfl) ?_
                                refine t_get (ci := 12) (lst := ft12 hg mq) (C := RX12) (F := TX12) (N := 36) hx hb hts uX12 hown hkb hH t_a0 (hO.no t_a0 (by decide)) (fun _ h9 => h9) rfl rfl 1 (by decide) rfl kw_1224 (fun _ h9 => h9) dX12_laysClimbs_147 (fun v9 h9 => ?_)
                                obtain ⟨v147, rfl, t_v147⟩ := h9
                                refine lv_iconst (v := 1) hx hb dX12_laysClimbs_150 (by decide) ?_
                                refine t_ild8 hx hb hkb hH t_v147 (hO.no t_v147 (by decide)) (by decide) (by decide) (by decide) dX12_laysClimbs_151 (fun v151 h9 h8 => ?_)
                                have q9 := (h8 rfl).1 rfl
                                subst q9
                                have eH9 : (nI (hg / 6)).toInt = (((hg / 6) : Nat) : Int) := nI_toInt (by omega)
                                have J201 : ∀  (H : Heap) (locs : List Loc) (ls : Array Slot), HT D cs A T O X H → va_S A s.heap H locs → lv_has ls 9 [(4, .int p101_4), (3, .int p82_3), (2, .int v7), (0, .ref a0), (1, .int x1)] → W p l e { frames := 1, cells := 0, slots := 0, locals := 22 } s m [.ref a0, .int x1].toArray below meth c H locs 0 0 (MQ below (Tv D cs (fun u => u = (T, O, X)) A) [.ref a0, .int x1].toArray s 0 0 A) (F0 m 201 ls []) := by
                                  intro  H locs ls  hH hS hl
                                  obtain ⟨v201, ev201⟩ : ∃ y : Int32, y = p101_4 + 1 := ⟨_, rfl⟩
                                  have tv201 : v201.toInt = p101_4.toInt + (1) := by rw [ev201]; exact add_i rfl (by decide) (by omega) (by omega)
                                  refine lv_iinc (v := v201) (lv' := [(4, .int v201), (3, .int p82_3), (2, .int v7), (0, .ref a0), (1, .int x1)]) hx hb dX12_laysClimbs_201 hl (k := 0) rfl (by rw [ev201]; rfl) (by decide) rfl (fun ls hl => ?_)
                                  refine lv_goto (tgt := 101) hx hb dX12_laysClimbs_204 (by decide) ?_
                                  exact ih101 _ (by omega) v201 _ _ _ rfl (by omega) (by omega) hH hS (lv_sub hl [0, 1, 2, 3, 4] rfl)
                                refine lv_icmp_ge (tgt := 201) hx hb dX12_laysClimbs_152 (by decide) (fun c152 => ?_) (fun c152 => ?_)
                                · skip
                                  have fuc152 := full_i p144_8
                                  have fvc152 := full_i (nI (hg / 6))
                                  have tc152 := g_le c152
                                  exact J201  _ _ _  hH hS (lv_sub hl [3, 4, 5, 6, 7] rfl)
                                · skip
                                  have fuc152 := full_i p144_8
                                  have fvc152 := full_i (nI (hg / 6))
                                  have tc152 := g_nle c152
                                  refine lv_lload hx hb dX12_laysClimbs_155 (lv_at hl 2 rfl) ?_
                                  refine lv_lconst (v := 0) hx hb dX12_laysClimbs_157 (by decide) ?_
                                  refine W.lcmp hx hb dX12_laysClimbs_158 ?_
                                  refine lv_if_le (tgt := 201) hx hb dX12_laysClimbs_159 (by decide) (fun c159 => ?_) (fun c159 => ?_)
                                  · skip
                                    have tc159 := le_l c159
                                    have kc159_0 : (0 : Int64).toInt = 0 := by decide
                                    exact J201  _ _ _  hH hS (lv_sub hl [3, 4, 5, 6, 7] rfl)
                                  · skip
                                    have tc159 := nle_l c159
                                    have kc159_0 : (0 : Int64).toInt = 0 := by decide
                                    refine lv_iload hx hb dX12_laysClimbs_162 (lv_at hl 1 rfl) ?_
                                    refine lv_i2l hx hb dX12_laysClimbs_164 rfl ?_
                                    refine lv_iload hx hb dX12_laysClimbs_165 (lv_at hl 0 rfl) ?_
                                    refine tk_i hH hS hA (tr_S (n := 2) (As := [.long v138.toInt64, .int p144_8]) hx hb hml hown hts hkb hH hOX hks hE hS hA (s_M_isIn2 l D cs kf T O X v138.toInt64 p144_8  (hO.sub (by decide))) kw_1440 kw_1441 kw_13 kw_1442 (by decide +kernel) ⟨Nat.le_of_ble_eq_true rfl, Nat.le_of_ble_eq_true rfl⟩ rfl rfl hl.1 (Nat.le_of_ble_eq_true rfl) dX12_laysClimbs_167 ⟨Nat.le_of_ble_eq_true rfl, Nat.le_of_ble_eq_true rfl⟩) (fun v167 u H locs hz9 hH hS => ?_)
                                    obtain ⟨rfl, l_v167, u_v167, x_v1670⟩ := hz9
                                    have hH : HT D cs A T O X H := hH
                                    refine W.widen (k := 0) (n := 0) (Nat.le_of_ble_eq_true rfl) (Nat.le_of_ble_eq_true rfl) ?_
                                    have J195 : ∀  (H : Heap) (locs : List Loc) (ls : Array Slot), HT D cs A T O X H → va_S A s.heap H locs → lv_has ls 9 [(8, .int p144_8), (7, .int v138), (5, .long v123), (4, .int p101_4), (3, .int p82_3), (2, .int v7), (0, .ref a0), (1, .int x1)] → W p l e { frames := 1, cells := 0, slots := 0, locals := 22 } s m [.ref a0, .int x1].toArray below meth c H locs 0 0 (MQ below (Tv D cs (fun u => u = (T, O, X)) A) [.ref a0, .int x1].toArray s 0 0 A) (F0 m 195 ls []) := by
                                      intro  H locs ls  hH hS hl
                                      obtain ⟨v195, ev195⟩ : ∃ y : Int32, y = p144_8 + 1 := ⟨_, rfl⟩
                                      have tv195 : v195.toInt = p144_8.toInt + (1) := by rw [ev195]; exact add_i rfl (by decide) (by omega) (by omega)
                                      refine lv_iinc (v := v195) (lv' := [(8, .int v195), (7, .int v138), (5, .long v123), (4, .int p101_4), (3, .int p82_3), (2, .int v7), (0, .ref a0), (1, .int x1)]) hx hb dX12_laysClimbs_195 hl (k := 0) rfl (by rw [ev195]; rfl) (by decide) rfl (fun ls hl => ?_)
                                      refine lv_goto (tgt := 144) hx hb dX12_laysClimbs_198 (by decide) ?_
                                      exact ih144 _ (by omega) v195 _ _ _ rfl (by omega) (by omega) hH hS (lv_sub hl [0, 1, 2, 3, 4, 5, 6, 7] rfl)
                                    refine lv_if_eq (tgt := 195) hx hb dX12_laysClimbs_170 (by decide) (fun c170 => ?_) (fun c170 => ?_)
                                    · skip
                                      have tc170 := f_eq (k := 0) (by decide) c170
                                      exact J195  _ _ _  hH hS (lv_sub hl [0, 1, 2, 3, 4, 5, 6, 7] rfl)
                                    · skip
                                      have tc170 := f_ne (k := 0) (by decide) c170
                                      refine lv_aload_n hx hb dX12_laysClimbs_173 rfl (lv_at hl 6 rfl) ?_
                                      refine t_get (ci := 12) (lst := ft12 hg mq) (C := RX12) (F := TX12) (N := 36) hx hb hts uX12 hown hkb hH t_a0 (hO.no t_a0 (by decide)) (fun _ h9 => h9) rfl rfl 26 (by decide) rfl kw_1249 (fun _ h9 => h9) dX12_laysClimbs_174 (fun v9 h9 => ?_)
                                      obtain ⟨v174, rfl, t_v174⟩ := h9
                                      refine lv_bipush (v := 14) hx hb dX12_laysClimbs_177 (by decide) ?_
                                      refine lv_iload_n hx hb dX12_laysClimbs_179 rfl (lv_at hl 4 rfl) ?_
                                      refine lv_iconst (v := 1) hx hb dX12_laysClimbs_180 (by decide) ?_
                                      refine lv_iload hx hb dX12_laysClimbs_181 (lv_at hl 0 rfl) ?_
                                      refine lv_ishl hx hb dX12_laysClimbs_183 ?_
                                      refine lv_topi (fun v183 ev183 => ?_)
                                      have tv183 : 1 ≤ v183.toInt ∧ v183.toInt ≤ 8192 := by rw [ev183]; exact shl_b 13 (by decide) (by omega) (by omega)
                                      refine lv_ior hx hb dX12_laysClimbs_184 ?_
                                      refine lv_topi (fun v184 ev184 => ?_)
                                      have tv184 : 0 ≤ v184.toInt ∧ v184.toInt < 16384 := by rw [ev184]; exact or_b 14 (by decide) (by omega) (by omega) (by omega) (by omega)
                                      refine lv_imul hx hb dX12_laysClimbs_185 ?_
                                      refine lv_topi (fun v185 ev185 => ?_)
                                      have tv185 : v185.toInt = (14) * v184.toInt := by rw [ev185]; exact mul_i (by decide : (14 : Int32).toInt = 14) rfl (by omega) (by omega)
                                      refine lv_iload hx hb dX12_laysClimbs_186 (lv_at hl 0 rfl) ?_
                                      refine lv_iadd hx hb dX12_laysClimbs_188 ?_
                                      refine lv_topi (fun v188 ev188 => ?_)
                                      have tv188 : v188.toInt = v185.toInt + p144_8.toInt := by rw [ev188]; exact add_i rfl rfl (by omega) (by omega)
                                      refine lv_dup2_11 hx hb dX12_laysClimbs_189 rfl rfl ?_
                                      refine t_lld hx hb hkb hH t_v174 (hO.no t_v174 (by decide)) (by omega) (by omega) dX12_laysClimbs_190 (fun v190 => ?_)
                                      refine lv_lload hx hb dX12_laysClimbs_191 (lv_at hl 2 rfl) ?_
                                      refine lv_ladd hx hb dX12_laysClimbs_193 ?_
                                      refine lv_topl (fun v193 ev193 => ?_)
                                      refine t_lst hx hb hkb hH hS t_v174 (hO.no t_v174 (by decide)) (by omega) (by omega) dX12_laysClimbs_194 (fun H locs hH hS => ?_)
                                      exact J195  _ _ _  hH hS (lv_sub hl [0, 1, 2, 3, 4, 5, 6, 7] rfl)
                            refine lv_istore (lv' := [(8, .int 0), (7, .int v138), (5, .long v123), (4, .int p101_4), (3, .int p82_3), (2, .int v7), (0, .ref a0), (1, .int x1)]) hx hb dX12_laysClimbs_142 hl (by decide) rfl (fun ls hl => ?_)
                            exact J144 _ 0 _ _ _ rfl (by decide) (by decide) hH hS (lv_sub hl [0, 1, 2, 3, 4, 5, 6, 7] rfl)
                      refine lv_istore (lv' := [(4, .int 0), (3, .int p82_3), (2, .int v7), (0, .ref a0), (1, .int x1)]) hx hb dX12_laysClimbs_99 hl (by decide) rfl (fun ls hl => ?_)
                      exact J101 _ 0 _ _ _ rfl (by decide) (by decide) hH hS (lv_sub hl [0, 1, 2, 3, 4] rfl)
                    · skip
                      have tc92 := f_ne (k := 0) (by decide) c92
                      refine lv_goto (tgt := 207) hx hb dX12_laysClimbs_95 (by decide) ?_
                      exact J207  _ _ _  hH hS (lv_sub hl [0, 1, 2, 3] rfl)
              refine lv_istore_n (lv' := [(3, .int 0), (2, .int v7), (0, .ref a0), (1, .int x1)]) hx hb dX12_laysClimbs_81 rfl hl (by decide) rfl (fun ls hl => ?_)
              exact J82 _ 0 _ _ _ rfl (by decide) (by decide) hH hS (lv_sub hl [0, 1, 2, 3] rfl)
            · skip
              have fuc41 := full_i p34_3
              have fvc41 := full_i (nI (hg / 6))
              have tc41 := g_nle c41
              refine lv_iload_n hx hb dX12_laysClimbs_44 rfl (lv_at hl 3 rfl) ?_
              refine lv_aload_n hx hb dX12_laysClimbs_45 rfl (lv_at hl 2 rfl) ?_
              refine t_get (ci := 12) (lst := ft12 hg mq) (C := RX12) (F := TX12) (N := 36) hx hb hts uX12 hown hkb hH t_a0 (hO.no t_a0 (by decide)) (fun _ h9 => h9) rfl rfl 1 (by decide) rfl kw_1224 (fun _ h9 => h9) dX12_laysClimbs_46 (fun v9 h9 => ?_)
              obtain ⟨v46, rfl, t_v46⟩ := h9
              refine lv_iconst (v := 4) hx hb dX12_laysClimbs_49 (by decide) ?_
              refine t_ild8 hx hb hkb hH t_v46 (hO.no t_v46 (by decide)) (by decide) (by decide) (by decide) dX12_laysClimbs_50 (fun v50 h9 h8 => ?_)
              have tv50 : 0 ≤ v50.toInt ∧ v50.toInt ≤ 16383 := h9.2.2.1 (by decide)
              refine lv_iand hx hb dX12_laysClimbs_51 ?_
              refine lv_topi (fun v51 ev51 => ?_)
              have tv51 : 0 ≤ v51.toInt ∧ v51.toInt ≤ v50.toInt := by rw [ev51]; exact and_r (by omega)
              refine lv_i2l hx hb dX12_laysClimbs_52 rfl ?_
              refine lv_iload_n hx hb dX12_laysClimbs_53 rfl (lv_at hl 0 rfl) ?_
              refine tk_i hH hS hA (tr_S (n := 2) (As := [.long v51.toInt64, .int p34_3]) hx hb hml hown hts hkb hH hOX hks hE hS hA (s_M_isIn2 l D cs kf T O X v51.toInt64 p34_3  (hO.sub (by decide))) kw_1440 kw_1441 kw_13 kw_1442 (by decide +kernel) ⟨Nat.le_of_ble_eq_true rfl, Nat.le_of_ble_eq_true rfl⟩ rfl rfl hl.1 (Nat.le_of_ble_eq_true rfl) dX12_laysClimbs_54 ⟨Nat.le_of_ble_eq_true rfl, Nat.le_of_ble_eq_true rfl⟩) (fun v54 u H locs hz9 hH hS => ?_)
              obtain ⟨rfl, l_v54, u_v54, x_v540⟩ := hz9
              have hH : HT D cs A T O X H := hH
              refine W.widen (k := 0) (n := 0) (Nat.le_of_ble_eq_true rfl) (Nat.le_of_ble_eq_true rfl) ?_
              have J74 : ∀  (H : Heap) (locs : List Loc) (ls : Array Slot), HT D cs A T O X H → va_S A s.heap H locs → lv_has ls 9 [(3, .int p34_3), (2, .int v7), (0, .ref a0), (1, .int x1)] → W p l e { frames := 1, cells := 0, slots := 0, locals := 22 } s m [.ref a0, .int x1].toArray below meth c H locs 0 0 (MQ below (Tv D cs (fun u => u = (T, O, X)) A) [.ref a0, .int x1].toArray s 0 0 A) (F0 m 74 ls []) := by
                intro  H locs ls  hH hS hl
                obtain ⟨v74, ev74⟩ : ∃ y : Int32, y = p34_3 + 1 := ⟨_, rfl⟩
                have tv74 : v74.toInt = p34_3.toInt + (1) := by rw [ev74]; exact add_i rfl (by decide) (by omega) (by omega)
                refine lv_iinc (v := v74) (lv' := [(3, .int v74), (2, .int v7), (0, .ref a0), (1, .int x1)]) hx hb dX12_laysClimbs_74 hl (k := 0) rfl (by rw [ev74]; rfl) (by decide) rfl (fun ls hl => ?_)
                refine lv_goto (tgt := 34) hx hb dX12_laysClimbs_77 (by decide) ?_
                exact ih34 _ (by omega) v74 _ _ _ rfl (by omega) (by omega) hH hS (lv_sub hl [0, 1, 2, 3] rfl)
              refine lv_if_eq (tgt := 74) hx hb dX12_laysClimbs_57 (by decide) (fun c57 => ?_) (fun c57 => ?_)
              · skip
                have tc57 := f_eq (k := 0) (by decide) c57
                exact J74  _ _ _  hH hS (lv_sub hl [0, 1, 2, 3] rfl)
              · skip
                have tc57 := f_ne (k := 0) (by decide) c57
                refine lv_aload_n hx hb dX12_laysClimbs_60 rfl (lv_at hl 2 rfl) ?_
                refine t_get (ci := 12) (lst := ft12 hg mq) (C := RX12) (F := TX12) (N := 36) hx hb hts uX12 hown hkb hH t_a0 (hO.no t_a0 (by decide)) (fun _ h9 => h9) rfl rfl 26 (by decide) rfl kw_1249 (fun _ h9 => h9) dX12_laysClimbs_61 (fun v9 h9 => ?_)
                obtain ⟨v61, rfl, t_v61⟩ := h9
                refine lv_bipush (v := 14) hx hb dX12_laysClimbs_64 (by decide) ?_
                refine lv_iconst (v := 1) hx hb dX12_laysClimbs_66 (by decide) ?_
                refine lv_iload_n hx hb dX12_laysClimbs_67 rfl (lv_at hl 0 rfl) ?_
                refine lv_ishl hx hb dX12_laysClimbs_68 ?_
                refine lv_topi (fun v68 ev68 => ?_)
                have tv68 : 1 ≤ v68.toInt ∧ v68.toInt ≤ 8192 := by rw [ev68]; exact shl_b 13 (by decide) (by omega) (by omega)
                refine lv_imul hx hb dX12_laysClimbs_69 ?_
                refine lv_topi (fun v69 ev69 => ?_)
                have tv69 : v69.toInt = (14) * v68.toInt := by rw [ev69]; exact mul_i (by decide : (14 : Int32).toInt = 14) rfl (by omega) (by omega)
                refine lv_iload_n hx hb dX12_laysClimbs_70 rfl (lv_at hl 0 rfl) ?_
                refine lv_iadd hx hb dX12_laysClimbs_71 ?_
                refine lv_topi (fun v71 ev71 => ?_)
                have tv71 : v71.toInt = v69.toInt + p34_3.toInt := by rw [ev71]; exact add_i rfl rfl (by omega) (by omega)
                refine lv_lconst (v := 1) hx hb dX12_laysClimbs_72 (by decide) ?_
                refine t_lst hx hb hkb hH hS t_v61 (hO.no t_v61 (by decide)) (by omega) (by omega) dX12_laysClimbs_73 (fun H locs hH hS => ?_)
                exact J74  _ _ _  hH hS (lv_sub hl [0, 1, 2, 3] rfl)
        refine lv_istore_n (lv' := [(3, .int 0), (2, .int v7), (0, .ref a0), (1, .int x1)]) hx hb dX12_laysClimbs_33 rfl hl (by decide) rfl (fun ls hl => ?_)
        exact J34 _ 0 _ _ _ rfl (by decide) (by decide) hH hS (lv_sub hl [0, 1, 2, 3] rfl)
      · skip
        have fuc16 := full_i p11_3
        have fvc16 := full_i v15
        have tc16 := g_nle c16
        refine lv_aload_n hx hb dX12_laysClimbs_19 rfl (lv_at hl 2 rfl) ?_
        refine t_get (ci := 12) (lst := ft12 hg mq) (C := RX12) (F := TX12) (N := 36) hx hb hts uX12 hown hkb hH t_a0 (hO.no t_a0 (by decide)) (fun _ h9 => h9) rfl rfl 26 (by decide) rfl kw_1249 (fun _ h9 => h9) dX12_laysClimbs_20 (fun v9 h9 => ?_)
        obtain ⟨v20, rfl, t_v20⟩ := h9
        refine lv_iload_n hx hb dX12_laysClimbs_23 rfl (lv_at hl 0 rfl) ?_
        refine lv_lconst (v := 0) hx hb dX12_laysClimbs_24 (by decide) ?_
        refine t_lst hx hb hkb hH hS t_v20 (hO.no t_v20 (by decide)) (by omega) (by omega) dX12_laysClimbs_25 (fun H locs hH hS => ?_)
        obtain ⟨v26, ev26⟩ : ∃ y : Int32, y = p11_3 + 1 := ⟨_, rfl⟩
        have tv26 : v26.toInt = p11_3.toInt + (1) := by rw [ev26]; exact add_i rfl (by decide) (by omega) (by omega)
        refine lv_iinc (v := v26) (lv' := [(3, .int v26), (2, .int v7), (0, .ref a0), (1, .int x1)]) hx hb dX12_laysClimbs_26 hl (k := 0) rfl (by rw [ev26]; rfl) (by decide) rfl (fun ls hl => ?_)
        refine lv_goto (tgt := 11) hx hb dX12_laysClimbs_29 (by decide) ?_
        exact ih11 _ (by omega) v26 _ _ _ rfl (by omega) hH hS (lv_sub hl [0, 1, 2, 3] rfl)
  refine lv_istore_n (lv' := [(3, .int 0), (2, .int v7), (0, .ref a0), (1, .int x1)]) hx hb dX12_laysClimbs_10 rfl hl (by decide) rfl (fun ls hl => ?_)
  exact J11 _ 0 _ _ _ rfl (by decide) hH hS (lv_sub hl [0, 1, 2, 3] rfl)
set_option maxHeartbeats 4000000 in
set_option maxRecDepth 100000 in
theorem s_M_climbsBy (l : Launch) (D : va_G) (cs : CS) (kf : KF) (T : TF) (O : List Nat) (X : va_W) (a0 hg mq : Nat) (x1 : Int32) (t_a0 : T a0 = some (22, hg, mq)) (b_hg : hg < 90) (l_x1 : 0 ≤ x1.toInt) (u_x1 : x1.toInt ≤ 16383) (hO : okO T O [2, 8, 22]) : TK l D cs kf yX12_climbsBy cX12_climbsBy 5 (some (.long)) { frames := 1, cells := 0, slots := 0, locals := 22 } [.ref a0, .int x1] T O X (Tl D cs (fun _ u => u = (T, O, X))) := by
  refine tk_of (by decide) (Nat.le_of_ble_eq_true rfl) (fun p e s m below meth c ls A H locs hx hb hr hml hown hts hlocks hnm hkb hH hS hA hOX hks hE hl => ?_)
  have hown : s.vm.findClass RX12 = some m.cls := hown
  have hl : lv_has ls 5 [(0, .ref a0), (1, .int x1)] := hl
  refine lv_lconst (v := 0) hx hb dX12_climbsBy_0 (by decide) ?_
  refine lv_lstore_n (lv' := [(2, .long 0), (0, .ref a0), (1, .int x1)]) hx hb dX12_climbsBy_1 rfl hl (by decide) rfl (fun ls hl => ?_)
  refine lv_iconst (v := 0) hx hb dX12_climbsBy_2 (by decide) ?_
  have J5 : ∀ (n : Nat) (p5_4 : Int32) (p5_2 : Int64) (H : Heap) (locs : List Loc) (ls : Array Slot), (14 - p5_4.toInt).toNat = n → (0 ≤ p5_4.toInt) → (p5_4.toInt ≤ 14) → HT D cs A T O X H → va_S A s.heap H locs → lv_has ls 5 [(4, .int p5_4), (2, .long p5_2), (0, .ref a0), (1, .int x1)] → W p l e { frames := 1, cells := 0, slots := 0, locals := 22 } s m [.ref a0, .int x1].toArray below meth c H locs 0 0 (MQ below (Tl D cs (fun _ u => u = (T, O, X)) A) [.ref a0, .int x1].toArray s 0 0 A) (F0 m 5 ls []) := by
    intro n
    induction n using Nat.strongRecOn with
    | _ n ih5 =>
      intro p5_4 p5_2 H locs ls hm5 l_p5_4 u_p5_4 hH hS hl
      refine lv_iload hx hb dX12_climbsBy_5 (lv_at hl 0 rfl) ?_
      refine lv_aload_n hx hb dX12_climbsBy_7 rfl (lv_at hl 2 rfl) ?_
      refine t_get (ci := 12) (lst := ft12 hg mq) (C := RX12) (F := TX12) (N := 36) hx hb hts uX12 hown hkb hH t_a0 (hO.no t_a0 (by decide)) (fun _ h9 => h9) rfl rfl 1 (by decide) rfl kw_1224 (fun _ h9 => h9) dX12_climbsBy_8 (fun v9 h9 => ?_)
      obtain ⟨v8, rfl, t_v8⟩ := h9
      refine lv_iconst (v := 1) hx hb dX12_climbsBy_11 (by decide) ?_
      refine t_ild8 hx hb hkb hH t_v8 (hO.no t_v8 (by decide)) (by decide) (by decide) (by decide) dX12_climbsBy_12 (fun v12 h9 h8 => ?_)
      have q9 := (h8 rfl).1 rfl
      subst q9
      have eH9 : (nI (hg / 6)).toInt = (((hg / 6) : Nat) : Int) := nI_toInt (by omega)
      refine lv_icmp_ge (tgt := 52) hx hb dX12_climbsBy_13 (by decide) (fun c13 => ?_) (fun c13 => ?_)
      · skip
        have fuc13 := full_i p5_4
        have fvc13 := full_i (nI (hg / 6))
        have tc13 := g_le c13
        refine lv_lload_n hx hb dX12_climbsBy_52 rfl (lv_at hl 1 rfl) ?_
        exact te_l hx hb hr hlocks hH hS rfl dX12_climbsBy_53
      · skip
        have fuc13 := full_i p5_4
        have fvc13 := full_i (nI (hg / 6))
        have tc13 := g_nle c13
        refine lv_aload_n hx hb dX12_climbsBy_16 rfl (lv_at hl 2 rfl) ?_
        refine t_get (ci := 12) (lst := ft12 hg mq) (C := RX12) (F := TX12) (N := 36) hx hb hts uX12 hown hkb hH t_a0 (hO.no t_a0 (by decide)) (fun _ h9 => h9) rfl rfl 1 (by decide) rfl kw_1224 (fun _ h9 => h9) dX12_climbsBy_17 (fun v9 h9 => ?_)
        obtain ⟨v17, rfl, t_v17⟩ := h9
        refine lv_iconst (v := 5) hx hb dX12_climbsBy_20 (by decide) ?_
        refine t_ild8 hx hb hkb hH t_v17 (hO.no t_v17 (by decide)) (by decide) (by decide) (by decide) dX12_climbsBy_21 (fun v21 h9 h8 => ?_)
        have tv21 : 0 ≤ v21.toInt ∧ v21.toInt ≤ 16383 := h9.2.2.2.1 (by decide)
        refine lv_i2l hx hb dX12_climbsBy_22 rfl ?_
        refine lv_iload hx hb dX12_climbsBy_23 (lv_at hl 0 rfl) ?_
        refine tk_i hH hS hA (tr_S (n := 2) (As := [.long v21.toInt64, .int p5_4]) hx hb hml hown hts hkb hH hOX hks hE hS hA (s_M_isIn2 l D cs kf T O X v21.toInt64 p5_4  (hO.sub (by decide))) kw_1440 kw_1441 kw_13 kw_1442 (by decide +kernel) ⟨Nat.le_of_ble_eq_true rfl, Nat.le_of_ble_eq_true rfl⟩ rfl rfl hl.1 (Nat.le_of_ble_eq_true rfl) dX12_climbsBy_25 ⟨Nat.le_of_ble_eq_true rfl, Nat.le_of_ble_eq_true rfl⟩) (fun v25 u H locs hz9 hH hS => ?_)
        obtain ⟨rfl, l_v25, u_v25, x_v250⟩ := hz9
        have hH : HT D cs A T O X H := hH
        refine W.widen (k := 0) (n := 0) (Nat.le_of_ble_eq_true rfl) (Nat.le_of_ble_eq_true rfl) ?_
        have J46 : ∀ (p46_2 : Int64) (H : Heap) (locs : List Loc) (ls : Array Slot), HT D cs A T O X H → va_S A s.heap H locs → lv_has ls 5 [(4, .int p5_4), (2, .long p46_2), (0, .ref a0), (1, .int x1)] → W p l e { frames := 1, cells := 0, slots := 0, locals := 22 } s m [.ref a0, .int x1].toArray below meth c H locs 0 0 (MQ below (Tl D cs (fun _ u => u = (T, O, X)) A) [.ref a0, .int x1].toArray s 0 0 A) (F0 m 46 ls []) := by
          intro p46_2 H locs ls  hH hS hl
          obtain ⟨v46, ev46⟩ : ∃ y : Int32, y = p5_4 + 1 := ⟨_, rfl⟩
          have tv46 : v46.toInt = p5_4.toInt + (1) := by rw [ev46]; exact add_i rfl (by decide) (by omega) (by omega)
          refine lv_iinc (v := v46) (lv' := [(4, .int v46), (2, .long p46_2), (0, .ref a0), (1, .int x1)]) hx hb dX12_climbsBy_46 hl (k := 0) rfl (by rw [ev46]; rfl) (by decide) rfl (fun ls hl => ?_)
          refine lv_goto (tgt := 5) hx hb dX12_climbsBy_49 (by decide) ?_
          exact ih5 _ (by omega) v46 p46_2 _ _ _ rfl (by omega) (by omega) hH hS (lv_sub hl [0, 1, 2, 3] rfl)
        refine lv_if_eq (tgt := 46) hx hb dX12_climbsBy_28 (by decide) (fun c28 => ?_) (fun c28 => ?_)
        · skip
          have tc28 := f_eq (k := 0) (by decide) c28
          exact J46 p5_2 _ _ _  hH hS (lv_sub hl [0, 1, 2, 3] rfl)
        · skip
          have tc28 := f_ne (k := 0) (by decide) c28
          refine lv_lload_n hx hb dX12_climbsBy_31 rfl (lv_at hl 1 rfl) ?_
          refine lv_aload_n hx hb dX12_climbsBy_32 rfl (lv_at hl 2 rfl) ?_
          refine t_get (ci := 12) (lst := ft12 hg mq) (C := RX12) (F := TX12) (N := 36) hx hb hts uX12 hown hkb hH t_a0 (hO.no t_a0 (by decide)) (fun _ h9 => h9) rfl rfl 26 (by decide) rfl kw_1249 (fun _ h9 => h9) dX12_climbsBy_33 (fun v9 h9 => ?_)
          obtain ⟨v33, rfl, t_v33⟩ := h9
          refine lv_bipush (v := 14) hx hb dX12_climbsBy_36 (by decide) ?_
          refine lv_iload_n hx hb dX12_climbsBy_38 rfl (lv_at hl 3 rfl) ?_
          refine lv_imul hx hb dX12_climbsBy_39 ?_
          refine lv_topi (fun v39 ev39 => ?_)
          have tv39 : v39.toInt = (14) * x1.toInt := by rw [ev39]; exact mul_i (by decide : (14 : Int32).toInt = 14) rfl (by omega) (by omega)
          refine lv_iload hx hb dX12_climbsBy_40 (lv_at hl 0 rfl) ?_
          refine lv_iadd hx hb dX12_climbsBy_42 ?_
          refine lv_topi (fun v42 ev42 => ?_)
          have tv42 : v42.toInt = v39.toInt + p5_4.toInt := by rw [ev42]; exact add_i rfl rfl (by omega) (by omega)
          refine t_lld hx hb hkb hH t_v33 (hO.no t_v33 (by decide)) (by omega) (by omega) dX12_climbsBy_43 (fun v43 => ?_)
          refine lv_ladd hx hb dX12_climbsBy_44 ?_
          refine lv_topl (fun v44 ev44 => ?_)
          refine lv_lstore_n (lv' := [(2, .long v44), (4, .int p5_4), (0, .ref a0), (1, .int x1)]) hx hb dX12_climbsBy_45 rfl hl (by decide) rfl (fun ls hl => ?_)
          exact J46 v44 _ _ _  hH hS (lv_sub hl [1, 0, 2, 3] rfl)
  refine lv_istore (lv' := [(4, .int 0), (2, .long 0), (0, .ref a0), (1, .int x1)]) hx hb dX12_climbsBy_3 hl (by decide) rfl (fun ls hl => ?_)
  exact J5 _ 0 0 _ _ _ rfl (by decide) (by decide) hH hS (lv_sub hl [0, 1, 2, 3] rfl)
set_option maxHeartbeats 4000000 in
set_option maxRecDepth 100000 in
theorem s_M_laysClimbsOf (l : Launch) (D : va_G) (cs : CS) (kf : KF) (T : TF) (O : List Nat) (X : va_W) (a0 hg mq : Nat) (x1 : Int32) (t_a0 : T a0 = some (22, hg, mq)) (b_hg : hg < 90) (l_x1 : 0 ≤ x1.toInt) (u_x1 : x1.toInt ≤ 4) (hO : okO T O [1, 2, 8, 9, 22]) : TK l D cs kf yX12_laysClimbsOf cX12_laysClimbsOf 2 none { frames := 5, cells := 0, slots := 0, locals := 119 } [.ref a0, .int x1] T O X (Tv D cs (fun u => u = (T, O, X))) := by
  refine tk_of (by decide) (Nat.le_of_ble_eq_true rfl) (fun p e s m below meth c ls A H locs hx hb hr hml hown hts hlocks hnm hkb hH hS hA hOX hks hE hl => ?_)
  have hown : s.vm.findClass RX12 = some m.cls := hown
  have hl : lv_has ls 2 [(0, .ref a0), (1, .int x1)] := hl
  refine lv_aload_n hx hb dX12_laysClimbsOf_0 rfl (lv_at hl 0 rfl) ?_
  refine lv_iload_n hx hb dX12_laysClimbsOf_1 rfl (lv_at hl 1 rfl) ?_
  refine tk_v hH hS hA (tr_V (n := 1) (As := [.int x1]) hx hb hml hown hts hkb hH hOX hks hE hS hA (s_M_laysGuide l D cs kf T O X a0 hg mq x1 t_a0 b_hg (by omega) (by omega) (hO.sub (by decide))) kw_1502 kw_1504 ks_71 kw_13 kw_1505 (by decide +kernel) ⟨Nat.le_of_ble_eq_true rfl, Nat.le_of_ble_eq_true rfl⟩ (HT.recv (ci := 12) hkb hH t_a0 (hO.no t_a0 (by decide)) rfl) rfl rfl hl.1 (Nat.le_of_ble_eq_true rfl) dX12_laysClimbsOf_2 ⟨Nat.le_of_ble_eq_true rfl, Nat.le_of_ble_eq_true rfl⟩) (fun u H locs hz9 hH hS => ?_)
  have hz9 : u = (T, O, X) := hz9
  subst hz9
  have hH : HT D cs A T O X H := hH
  refine W.widen (k := 0) (n := 0) (Nat.le_of_ble_eq_true rfl) (Nat.le_of_ble_eq_true rfl) ?_
  refine lv_aload_n hx hb dX12_laysClimbsOf_5 rfl (lv_at hl 0 rfl) ?_
  refine lv_aload_n hx hb dX12_laysClimbsOf_6 rfl (lv_at hl 0 rfl) ?_
  refine tk_i hH hS hA (tr_V (n := 0) (As := []) hx hb hml hown hts hkb hH hOX hks hE hS hA (s_M_openSet l D cs kf T O X a0 hg mq t_a0 b_hg (hO.sub (by decide))) kw_1510 kw_1512 ks_73 kw_13 kw_1513 (by decide +kernel) ⟨Nat.le_of_ble_eq_true rfl, Nat.le_of_ble_eq_true rfl⟩ (HT.recv (ci := 12) hkb hH t_a0 (hO.no t_a0 (by decide)) rfl) rfl rfl hl.1 (Nat.le_of_ble_eq_true rfl) dX12_laysClimbsOf_7 ⟨Nat.le_of_ble_eq_true rfl, Nat.le_of_ble_eq_true rfl⟩) (fun v7 u H locs hz9 hH hS => ?_)
  obtain ⟨rfl, l_v7, u_v7⟩ := hz9
  have hH : HT D cs A T O X H := hH
  refine W.widen (k := 0) (n := 0) (Nat.le_of_ble_eq_true rfl) (Nat.le_of_ble_eq_true rfl) ?_
  refine tk_v hH hS hA (tr_V (n := 1) (As := [.int v7]) hx hb hml hown hts hkb hH hOX hks hE hS hA (s_M_laysClimbs l D cs kf T O X a0 hg mq v7 t_a0 b_hg (hO.sub (by decide))) kw_1623 kw_1625 ks_88 kw_13 kw_1626 (by decide +kernel) ⟨Nat.le_of_ble_eq_true rfl, Nat.le_of_ble_eq_true rfl⟩ (HT.recv (ci := 12) hkb hH t_a0 (hO.no t_a0 (by decide)) rfl) rfl rfl hl.1 (Nat.le_of_ble_eq_true rfl) dX12_laysClimbsOf_10 ⟨Nat.le_of_ble_eq_true rfl, Nat.le_of_ble_eq_true rfl⟩) (fun u H locs hz9 hH hS => ?_)
  have hz9 : u = (T, O, X) := hz9
  subst hz9
  have hH : HT D cs A T O X H := hH
  refine W.widen (k := 0) (n := 0) (Nat.le_of_ble_eq_true rfl) (Nat.le_of_ble_eq_true rfl) ?_
  exact te_v hx hb hr hlocks hH hS rfl dX12_laysClimbsOf_13
set_option maxHeartbeats 4000000 in
set_option maxRecDepth 100000 in
theorem s_M_climbsOf (l : Launch) (D : va_G) (cs : CS) (kf : KF) (T : TF) (O : List Nat) (X : va_W) (a0 hg mq : Nat) (x1 : Int32) (x2 : Int32) (t_a0 : T a0 = some (22, hg, mq)) (b_hg : hg < 90) (hO : okO T O [2, 8, 22]) : TK l D cs kf yX12_climbsOf cX12_climbsOf 6 (some (.long)) { frames := 2, cells := 0, slots := 0, locals := 46 } [.ref a0, .int x1, .int x2] T O X (Tl D cs (fun _ u => u = (T, O, X))) := by
  refine tk_of (by decide) (Nat.le_of_ble_eq_true rfl) (fun p e s m below meth c ls A H locs hx hb hr hml hown hts hlocks hnm hkb hH hS hA hOX hks hE hl => ?_)
  have hown : s.vm.findClass RX12 = some m.cls := hown
  have hl : lv_has ls 6 [(0, .ref a0), (1, .int x1), (2, .int x2)] := hl
  refine lv_lconst (v := 0) hx hb dX12_climbsOf_0 (by decide) ?_
  refine lv_lstore_n (lv' := [(3, .long 0), (0, .ref a0), (1, .int x1), (2, .int x2)]) hx hb dX12_climbsOf_1 rfl hl (by decide) rfl (fun ls hl => ?_)
  refine lv_iconst (v := 0) hx hb dX12_climbsOf_2 (by decide) ?_
  have J5 : ∀ (n : Nat) (p5_5 : Int32) (p5_3 : Int64) (H : Heap) (locs : List Loc) (ls : Array Slot), (16384 - p5_5.toInt).toNat = n → (0 ≤ p5_5.toInt) → (p5_5.toInt ≤ 16384) → HT D cs A T O X H → va_S A s.heap H locs → lv_has ls 6 [(5, .int p5_5), (3, .long p5_3), (0, .ref a0), (1, .int x1), (2, .int x2)] → W p l e { frames := 2, cells := 0, slots := 0, locals := 46 } s m [.ref a0, .int x1, .int x2].toArray below meth c H locs 0 0 (MQ below (Tl D cs (fun _ u => u = (T, O, X)) A) [.ref a0, .int x1, .int x2].toArray s 0 0 A) (F0 m 5 ls []) := by
    intro n
    induction n using Nat.strongRecOn with
    | _ n ih5 =>
      intro p5_5 p5_3 H locs ls hm5 l_p5_5 u_p5_5 hH hS hl
      refine lv_iload hx hb dX12_climbsOf_5 (lv_at hl 0 rfl) ?_
      refine lv_iconst (v := 1) hx hb dX12_climbsOf_7 (by decide) ?_
      refine lv_aload_n hx hb dX12_climbsOf_8 rfl (lv_at hl 2 rfl) ?_
      refine t_get (ci := 12) (lst := ft12 hg mq) (C := RX12) (F := TX12) (N := 36) hx hb hts uX12 hown hkb hH t_a0 (hO.no t_a0 (by decide)) (fun _ h9 => h9) rfl rfl 1 (by decide) rfl kw_1224 (fun _ h9 => h9) dX12_climbsOf_9 (fun v9 h9 => ?_)
      obtain ⟨v9, rfl, t_v9⟩ := h9
      refine lv_iconst (v := 1) hx hb dX12_climbsOf_12 (by decide) ?_
      refine t_ild8 hx hb hkb hH t_v9 (hO.no t_v9 (by decide)) (by decide) (by decide) (by decide) dX12_climbsOf_13 (fun v13 h9 h8 => ?_)
      have q9 := (h8 rfl).1 rfl
      subst q9
      have eH9 : (nI (hg / 6)).toInt = (((hg / 6) : Nat) : Int) := nI_toInt (by omega)
      refine lv_ishl hx hb dX12_climbsOf_14 ?_
      refine lv_topi (fun v14 ev14 => ?_)
      have tv14 : 1 ≤ v14.toInt ∧ v14.toInt ≤ 16384 := by rw [ev14]; exact shl_b 14 (by decide) (by omega) (by omega)
      refine lv_icmp_ge (tgt := 49) hx hb dX12_climbsOf_15 (by decide) (fun c15 => ?_) (fun c15 => ?_)
      · skip
        have fuc15 := full_i p5_5
        have fvc15 := full_i v14
        have tc15 := g_le c15
        refine lv_lload_n hx hb dX12_climbsOf_49 rfl (lv_at hl 1 rfl) ?_
        exact te_l hx hb hr hlocks hH hS rfl dX12_climbsOf_50
      · skip
        have fuc15 := full_i p5_5
        have fvc15 := full_i v14
        have tc15 := g_nle c15
        refine lv_iload hx hb dX12_climbsOf_18 (lv_at hl 0 rfl) ?_
        refine tk_i hH hS hA (tr_S (n := 1) (As := [.int p5_5]) hx hb hml hown hts hkb hH hOX hks hE hS hA (s_M_bitsOf l D cs kf T O X p5_5  (hO.sub (by decide))) kw_1631 kw_1632 kw_13 kw_1633 (by decide +kernel) ⟨Nat.le_of_ble_eq_true rfl, Nat.le_of_ble_eq_true rfl⟩ rfl rfl hl.1 (Nat.le_of_ble_eq_true rfl) dX12_climbsOf_20 ⟨Nat.le_of_ble_eq_true rfl, Nat.le_of_ble_eq_true rfl⟩) (fun v20 u H locs hz9 hH hS => ?_)
        have hz9 : u = (T, O, X) := hz9
        subst hz9
        have hH : HT D cs A T O X H := hH
        refine W.widen (k := 0) (n := 0) (Nat.le_of_ble_eq_true rfl) (Nat.le_of_ble_eq_true rfl) ?_
        refine lv_i2l hx hb dX12_climbsOf_23 rfl ?_
        refine lv_iload_n hx hb dX12_climbsOf_24 rfl (lv_at hl 3 rfl) ?_
        refine lv_i2l hx hb dX12_climbsOf_25 rfl ?_
        refine lv_iload_n hx hb dX12_climbsOf_26 rfl (lv_at hl 4 rfl) ?_
        refine lv_i2l hx hb dX12_climbsOf_27 rfl ?_
        refine tk_i hH hS hA (tr_S (n := 3) (As := [.long v20.toInt64, .long x1.toInt64, .long x2.toInt64]) hx hb hml hown hts hkb hH hOX hks hE hS hA (s_M_within l D cs kf T O X v20.toInt64 x1.toInt64 x2.toInt64  (hO.sub (by decide))) kw_1341 kw_1342 kw_13 kw_1343 (by decide +kernel) ⟨Nat.le_of_ble_eq_true rfl, Nat.le_of_ble_eq_true rfl⟩ rfl rfl hl.1 (Nat.le_of_ble_eq_true rfl) dX12_climbsOf_28 ⟨Nat.le_of_ble_eq_true rfl, Nat.le_of_ble_eq_true rfl⟩) (fun v28 u H locs hz9 hH hS => ?_)
        obtain ⟨rfl, l_v28, u_v28, x_v280, x_v281⟩ := hz9
        simp only [Int32.toInt_toInt64] at x_v280 x_v281
        have hH : HT D cs A T O X H := hH
        refine W.widen (k := 0) (n := 0) (Nat.le_of_ble_eq_true rfl) (Nat.le_of_ble_eq_true rfl) ?_
        have J43 : ∀ (p43_3 : Int64) (H : Heap) (locs : List Loc) (ls : Array Slot), HT D cs A T O X H → va_S A s.heap H locs → lv_has ls 6 [(5, .int p5_5), (3, .long p43_3), (0, .ref a0), (1, .int x1), (2, .int x2)] → W p l e { frames := 2, cells := 0, slots := 0, locals := 46 } s m [.ref a0, .int x1, .int x2].toArray below meth c H locs 0 0 (MQ below (Tl D cs (fun _ u => u = (T, O, X)) A) [.ref a0, .int x1, .int x2].toArray s 0 0 A) (F0 m 43 ls []) := by
          intro p43_3 H locs ls  hH hS hl
          obtain ⟨v43, ev43⟩ : ∃ y : Int32, y = p5_5 + 1 := ⟨_, rfl⟩
          have tv43 : v43.toInt = p5_5.toInt + (1) := by rw [ev43]; exact add_i rfl (by decide) (by omega) (by omega)
          refine lv_iinc (v := v43) (lv' := [(5, .int v43), (3, .long p43_3), (0, .ref a0), (1, .int x1), (2, .int x2)]) hx hb dX12_climbsOf_43 hl (k := 0) rfl (by rw [ev43]; rfl) (by decide) rfl (fun ls hl => ?_)
          refine lv_goto (tgt := 5) hx hb dX12_climbsOf_46 (by decide) ?_
          exact ih5 _ (by omega) v43 p43_3 _ _ _ rfl (by omega) (by omega) hH hS (lv_sub hl [0, 1, 2, 3, 4] rfl)
        refine lv_if_eq (tgt := 43) hx hb dX12_climbsOf_31 (by decide) (fun c31 => ?_) (fun c31 => ?_)
        · skip
          have tc31 := f_eq (k := 0) (by decide) c31
          clear x_v280
          replace x_v281 := x_v281.resolve_left (fun q9 => q9 tc31)
          exact J43 p5_3 _ _ _  hH hS (lv_sub hl [0, 1, 2, 3, 4] rfl)
        · skip
          have tc31 := f_ne (k := 0) (by decide) c31
          replace x_v280 := x_v280.resolve_left tc31
          clear x_v281
          refine lv_lload_n hx hb dX12_climbsOf_34 rfl (lv_at hl 1 rfl) ?_
          refine lv_aload_n hx hb dX12_climbsOf_35 rfl (lv_at hl 2 rfl) ?_
          refine lv_iload hx hb dX12_climbsOf_36 (lv_at hl 0 rfl) ?_
          refine tk_l hH hS hA (tr_V (n := 1) (As := [.int p5_5]) hx hb hml hown hts hkb hH hOX hks hE hS hA (s_M_climbsBy l D cs kf T O X a0 hg mq p5_5 t_a0 b_hg (by omega) (by omega) (hO.sub (by decide))) kw_1634 kw_1636 ks_90 kw_13 kw_1637 (by decide +kernel) ⟨Nat.le_of_ble_eq_true rfl, Nat.le_of_ble_eq_true rfl⟩ (HT.recv (ci := 12) hkb hH t_a0 (hO.no t_a0 (by decide)) rfl) rfl rfl hl.1 (Nat.le_of_ble_eq_true rfl) dX12_climbsOf_38 ⟨Nat.le_of_ble_eq_true rfl, Nat.le_of_ble_eq_true rfl⟩) (fun v38 u H locs hz9 hH hS => ?_)
          have hz9 : u = (T, O, X) := hz9
          subst hz9
          have hH : HT D cs A T O X H := hH
          refine W.widen (k := 0) (n := 0) (Nat.le_of_ble_eq_true rfl) (Nat.le_of_ble_eq_true rfl) ?_
          refine lv_ladd hx hb dX12_climbsOf_41 ?_
          refine lv_topl (fun v41 ev41 => ?_)
          refine lv_lstore_n (lv' := [(3, .long v41), (5, .int p5_5), (0, .ref a0), (1, .int x1), (2, .int x2)]) hx hb dX12_climbsOf_42 rfl hl (by decide) rfl (fun ls hl => ?_)
          exact J43 v41 _ _ _  hH hS (lv_sub hl [1, 0, 2, 3, 4] rfl)
  refine lv_istore (lv' := [(5, .int 0), (3, .long 0), (0, .ref a0), (1, .int x1), (2, .int x2)]) hx hb dX12_climbsOf_3 hl (by decide) rfl (fun ls hl => ?_)
  exact J5 _ 0 0 _ _ _ rfl (by decide) (by decide) hH hS (lv_sub hl [0, 1, 2, 3, 4] rfl)
set_option maxHeartbeats 4000000 in
set_option maxRecDepth 100000 in
theorem s_M_climbs (l : Launch) (D : va_G) (cs : CS) (kf : KF) (T : TF) (O : List Nat) (X : va_W) (a0 hg mq : Nat) (x1 : Int32) (x2 : Int32) (t_a0 : T a0 = some (22, hg, mq)) (b_hg : hg < 90) (hO : okO T O [1, 2, 8, 9, 22]) : TK l D cs kf yX12_climbs cX12_climbs 3 (some (.long)) { frames := 6, cells := 0, slots := 0, locals := 140 } [.ref a0, .int x1, .int x2] T O X (Tl D cs (fun _ u => u = (T, O, X))) := by
  refine tk_of (by decide) (Nat.le_of_ble_eq_true rfl) (fun p e s m below meth c ls A H locs hx hb hr hml hown hts hlocks hnm hkb hH hS hA hOX hks hE hl => ?_)
  have hown : s.vm.findClass RX12 = some m.cls := hown
  have hl : lv_has ls 3 [(0, .ref a0), (1, .int x1), (2, .int x2)] := hl
  refine lv_aload_n hx hb dX12_climbs_0 rfl (lv_at hl 0 rfl) ?_
  refine lv_iconst (v := 0) hx hb dX12_climbs_1 (by decide) ?_
  refine t_put (ci := 12) (lst := ft12 hg mq) (v := .int 0) (ty := tyX12 0) (C := RX12) (F := TX12) (N := 36) hx hb hts uX12 tyX12 tyX12_ok nmX12 hown hkb hH hS t_a0 (hO.no t_a0 (by decide)) (fun _ => Iff.rfl) rfl rfl 0 (by decide) rfl (⟨_, rfl⟩) kw_1223 (fun _ h9 => h9) rfl (tyX12_ok 0 (by decide)) rfl rfl dX12_climbs_2 (fun H locs hH hS => ?_)
  refine lv_aload_n hx hb dX12_climbs_5 rfl (lv_at hl 0 rfl) ?_
  refine lv_iload_n hx hb dX12_climbs_6 rfl (lv_at hl 1 rfl) ?_
  refine lv_i2l hx hb dX12_climbs_7 rfl ?_
  refine tk_i hH hS hA (tr_V (n := 1) (As := [.long x1.toInt64]) hx hb hml hown hts hkb hH hOX hks hE hS hA (s_M_isGuide l D cs kf T O X a0 hg mq x1.toInt64 t_a0 b_hg (hO.sub (by decide))) kw_1470 kw_1472 ks_67 kw_13 kw_1473 (by decide +kernel) ⟨Nat.le_of_ble_eq_true rfl, Nat.le_of_ble_eq_true rfl⟩ (HT.recv (ci := 12) hkb hH t_a0 (hO.no t_a0 (by decide)) rfl) rfl rfl hl.1 (Nat.le_of_ble_eq_true rfl) dX12_climbs_8 ⟨Nat.le_of_ble_eq_true rfl, Nat.le_of_ble_eq_true rfl⟩) (fun v8 u H locs hz9 hH hS => ?_)
  obtain ⟨rfl, l_v8, u_v8, x_v80⟩ := hz9
  simp only [Int32.toInt_toInt64] at x_v80
  have hH : HT D cs A T O X H := hH
  refine W.widen (k := 0) (n := 0) (Nat.le_of_ble_eq_true rfl) (Nat.le_of_ble_eq_true rfl) ?_
  refine lv_if_ne (tgt := 18) hx hb dX12_climbs_11 (by decide) (fun c11 => ?_) (fun c11 => ?_)
  · skip
    have tc11 := f_ne (k := 0) (by decide) c11
    replace x_v80 := x_v80.resolve_left tc11
    refine lv_iload_n hx hb dX12_climbs_18 rfl (lv_at hl 2 rfl) ?_
    refine lv_i2l hx hb dX12_climbs_19 rfl ?_
    refine lv_lconst (v := 1) hx hb dX12_climbs_20 (by decide) ?_
    refine lv_ldc2 hx hb hown (hts _ kw_1642) dX12_climbs_21 ?_
    refine tk_i hH hS hA (tr_S (n := 3) (As := [.long x2.toInt64, .long 1, .long 7]) hx hb hml hown hts hkb hH hOX hks hE hS hA (s_M_within l D cs kf T O X x2.toInt64 1 7  (hO.sub (by decide))) kw_1341 kw_1342 kw_13 kw_1343 (by decide +kernel) ⟨Nat.le_of_ble_eq_true rfl, Nat.le_of_ble_eq_true rfl⟩ rfl rfl hl.1 (Nat.le_of_ble_eq_true rfl) dX12_climbs_24 ⟨Nat.le_of_ble_eq_true rfl, Nat.le_of_ble_eq_true rfl⟩) (fun v24 u H locs hz9 hH hS => ?_)
    obtain ⟨rfl, l_v24, u_v24, x_v240, x_v241⟩ := hz9
    simp only [Int32.toInt_toInt64] at x_v240 x_v241
    have k9_1 : (1 : Int64).toInt = 1 := by decide
    have k9_7 : (7 : Int64).toInt = 7 := by decide
    have hH : HT D cs A T O X H := hH
    refine W.widen (k := 0) (n := 0) (Nat.le_of_ble_eq_true rfl) (Nat.le_of_ble_eq_true rfl) ?_
    refine lv_if_ne (tgt := 34) hx hb dX12_climbs_27 (by decide) (fun c27 => ?_) (fun c27 => ?_)
    · skip
      have tc27 := f_ne (k := 0) (by decide) c27
      replace x_v240 := x_v240.resolve_left tc27
      clear x_v241
      refine lv_aload_n hx hb dX12_climbs_34 rfl (lv_at hl 0 rfl) ?_
      refine lv_iload_n hx hb dX12_climbs_35 rfl (lv_at hl 1 rfl) ?_
      refine tk_v hH hS hA (tr_V (n := 1) (As := [.int x1]) hx hb hml hown hts hkb hH hOX hks hE hS hA (s_M_laysClimbsOf l D cs kf T O X a0 hg mq x1 t_a0 b_hg (by omega) (by omega) (hO.sub (by decide))) kw_1644 kw_1646 ks_91 kw_13 kw_1647 (by decide +kernel) ⟨Nat.le_of_ble_eq_true rfl, Nat.le_of_ble_eq_true rfl⟩ (HT.recv (ci := 12) hkb hH t_a0 (hO.no t_a0 (by decide)) rfl) rfl rfl hl.1 (Nat.le_of_ble_eq_true rfl) dX12_climbs_36 ⟨Nat.le_of_ble_eq_true rfl, Nat.le_of_ble_eq_true rfl⟩) (fun u H locs hz9 hH hS => ?_)
      have hz9 : u = (T, O, X) := hz9
      subst hz9
      have hH : HT D cs A T O X H := hH
      refine W.widen (k := 0) (n := 0) (Nat.le_of_ble_eq_true rfl) (Nat.le_of_ble_eq_true rfl) ?_
      refine lv_aload_n hx hb dX12_climbs_39 rfl (lv_at hl 0 rfl) ?_
      refine lv_iconst (v := 1) hx hb dX12_climbs_40 (by decide) ?_
      refine lv_iload_n hx hb dX12_climbs_41 rfl (lv_at hl 2 rfl) ?_
      refine tk_l hH hS hA (tr_V (n := 2) (As := [.int 1, .int x2]) hx hb hml hown hts hkb hH hOX hks hE hS hA (s_M_climbsOf l D cs kf T O X a0 hg mq (1) x2 t_a0 b_hg (hO.sub (by decide))) kw_1627 kw_1629 ks_89 kw_13 kw_1630 (by decide +kernel) ⟨Nat.le_of_ble_eq_true rfl, Nat.le_of_ble_eq_true rfl⟩ (HT.recv (ci := 12) hkb hH t_a0 (hO.no t_a0 (by decide)) rfl) rfl rfl hl.1 (Nat.le_of_ble_eq_true rfl) dX12_climbs_42 ⟨Nat.le_of_ble_eq_true rfl, Nat.le_of_ble_eq_true rfl⟩) (fun v42 u H locs hz9 hH hS => ?_)
      have hz9 : u = (T, O, X) := hz9
      subst hz9
      have hH : HT D cs A T O X H := hH
      refine W.widen (k := 0) (n := 0) (Nat.le_of_ble_eq_true rfl) (Nat.le_of_ble_eq_true rfl) ?_
      exact te_l hx hb hr hlocks hH hS rfl dX12_climbs_45
    · skip
      have tc27 := f_eq (k := 0) (by decide) c27
      clear x_v240
      replace x_v241 := x_v241.resolve_left (fun q9 => q9 tc27)
      refine lv_ldc2 hx hb hown (hts _ kw_1643) dX12_climbs_30 ?_
      exact te_l hx hb hr hlocks hH hS rfl dX12_climbs_33
  · skip
    have tc11 := f_eq (k := 0) (by decide) c11
    clear x_v80
    refine lv_ldc2 hx hb hown (hts _ kw_1622) dX12_climbs_14 ?_
    exact te_l hx hb hr hlocks hH hS rfl dX12_climbs_17
theorem dX12_cutOf_0 : decode cX12_cutOf 0 = .ok (.iload_n 1, 1) := by decide +kernel
theorem dX12_cutOf_1 : decode cX12_cutOf 1 = .ok (.aload_n 0, 1) := by decide +kernel
theorem dX12_cutOf_2 : decode cX12_cutOf 2 = .ok (.invokevirtual 272, 3) := by decide +kernel
theorem dX12_cutOf_5 : decode cX12_cutOf 5 = .ok (.iconst (-1), 1) := by decide +kernel
theorem dX12_cutOf_6 : decode cX12_cutOf 6 = .ok (.ixor, 1) := by decide +kernel
theorem dX12_cutOf_7 : decode cX12_cutOf 7 = .ok (.iand, 1) := by decide +kernel
theorem dX12_cutOf_8 : decode cX12_cutOf 8 = .ok (.istore_n 2, 1) := by decide +kernel
theorem dX12_cutOf_9 : decode cX12_cutOf 9 = .ok (.aload_n 0, 1) := by decide +kernel
theorem dX12_cutOf_10 : decode cX12_cutOf 10 = .ok (.iload_n 1, 1) := by decide +kernel
theorem dX12_cutOf_11 : decode cX12_cutOf 11 = .ok (.aload_n 0, 1) := by decide +kernel
theorem dX12_cutOf_12 : decode cX12_cutOf 12 = .ok (.invokevirtual 272, 3) := by decide +kernel
theorem dX12_cutOf_15 : decode cX12_cutOf 15 = .ok (.iand, 1) := by decide +kernel
theorem dX12_cutOf_16 : decode cX12_cutOf 16 = .ok (.invokevirtual 354, 3) := by decide +kernel
theorem dX12_cutOf_19 : decode cX12_cutOf 19 = .ok (.ifCond .eq 5, 3) := by decide +kernel
theorem dX12_cutOf_22 : decode cX12_cutOf 22 = .ok (.iconst (-1), 1) := by decide +kernel
theorem dX12_cutOf_23 : decode cX12_cutOf 23 = .ok (.ireturn, 1) := by decide +kernel
theorem dX12_cutOf_24 : decode cX12_cutOf 24 = .ok (.iconst (-1), 1) := by decide +kernel
theorem dX12_cutOf_25 : decode cX12_cutOf 25 = .ok (.istore_n 3, 1) := by decide +kernel
theorem dX12_cutOf_26 : decode cX12_cutOf 26 = .ok (.iconst 0, 1) := by decide +kernel
theorem dX12_cutOf_27 : decode cX12_cutOf 27 = .ok (.istore 4, 2) := by decide +kernel
theorem dX12_cutOf_29 : decode cX12_cutOf 29 = .ok (.iload 4, 2) := by decide +kernel
theorem dX12_cutOf_31 : decode cX12_cutOf 31 = .ok (.iload_n 2, 1) := by decide +kernel
theorem dX12_cutOf_32 : decode cX12_cutOf 32 = .ok (.if_icmp .gt 54, 3) := by decide +kernel
theorem dX12_cutOf_35 : decode cX12_cutOf 35 = .ok (.iload 4, 2) := by decide +kernel
theorem dX12_cutOf_37 : decode cX12_cutOf 37 = .ok (.iload_n 2, 1) := by decide +kernel
theorem dX12_cutOf_38 : decode cX12_cutOf 38 = .ok (.iconst (-1), 1) := by decide +kernel
theorem dX12_cutOf_39 : decode cX12_cutOf 39 = .ok (.ixor, 1) := by decide +kernel
theorem dX12_cutOf_40 : decode cX12_cutOf 40 = .ok (.iand, 1) := by decide +kernel
theorem dX12_cutOf_41 : decode cX12_cutOf 41 = .ok (.ifCond .ne 39, 3) := by decide +kernel
theorem dX12_cutOf_44 : decode cX12_cutOf 44 = .ok (.iload_n 3, 1) := by decide +kernel
theorem dX12_cutOf_45 : decode cX12_cutOf 45 = .ok (.iconst (-1), 1) := by decide +kernel
theorem dX12_cutOf_46 : decode cX12_cutOf 46 = .ok (.if_icmp .eq 18, 3) := by decide +kernel
theorem dX12_cutOf_49 : decode cX12_cutOf 49 = .ok (.iload 4, 2) := by decide +kernel
theorem dX12_cutOf_51 : decode cX12_cutOf 51 = .ok (.invokestatic 334, 3) := by decide +kernel
theorem dX12_cutOf_54 : decode cX12_cutOf 54 = .ok (.iload_n 3, 1) := by decide +kernel
theorem dX12_cutOf_55 : decode cX12_cutOf 55 = .ok (.invokestatic 334, 3) := by decide +kernel
theorem dX12_cutOf_58 : decode cX12_cutOf 58 = .ok (.if_icmp .lt 6, 3) := by decide +kernel
theorem dX12_cutOf_61 : decode cX12_cutOf 61 = .ok (.goto 19, 3) := by decide +kernel
theorem dX12_cutOf_64 : decode cX12_cutOf 64 = .ok (.aload_n 0, 1) := by decide +kernel
theorem dX12_cutOf_65 : decode cX12_cutOf 65 = .ok (.iload_n 1, 1) := by decide +kernel
theorem dX12_cutOf_66 : decode cX12_cutOf 66 = .ok (.iload 4, 2) := by decide +kernel
theorem dX12_cutOf_68 : decode cX12_cutOf 68 = .ok (.iconst (-1), 1) := by decide +kernel
theorem dX12_cutOf_69 : decode cX12_cutOf 69 = .ok (.ixor, 1) := by decide +kernel
theorem dX12_cutOf_70 : decode cX12_cutOf 70 = .ok (.iand, 1) := by decide +kernel
theorem dX12_cutOf_71 : decode cX12_cutOf 71 = .ok (.invokevirtual 354, 3) := by decide +kernel
theorem dX12_cutOf_74 : decode cX12_cutOf 74 = .ok (.ifCond .ne 6, 3) := by decide +kernel
theorem dX12_cutOf_77 : decode cX12_cutOf 77 = .ok (.iload 4, 2) := by decide +kernel
theorem dX12_cutOf_79 : decode cX12_cutOf 79 = .ok (.istore_n 3, 1) := by decide +kernel
theorem dX12_cutOf_80 : decode cX12_cutOf 80 = .ok (.iinc 4 1, 3) := by decide +kernel
theorem dX12_cutOf_83 : decode cX12_cutOf 83 = .ok (.goto (-54), 3) := by decide +kernel
theorem dX12_cutOf_86 : decode cX12_cutOf 86 = .ok (.iload_n 3, 1) := by decide +kernel
theorem dX12_cutOf_87 : decode cX12_cutOf 87 = .ok (.ireturn, 1) := by decide +kernel
theorem dX12_highest_0 : decode cX12_highest 0 = .ok (.aload_n 0, 1) := by decide +kernel
theorem dX12_highest_1 : decode cX12_highest 1 = .ok (.iconst 0, 1) := by decide +kernel
theorem dX12_highest_2 : decode cX12_highest 2 = .ok (.putfield 1, 3) := by decide +kernel
theorem dX12_highest_5 : decode cX12_highest 5 = .ok (.aload_n 0, 1) := by decide +kernel
theorem dX12_highest_6 : decode cX12_highest 6 = .ok (.iload_n 1, 1) := by decide +kernel
theorem dX12_highest_7 : decode cX12_highest 7 = .ok (.i2l, 1) := by decide +kernel
theorem dX12_highest_8 : decode cX12_highest 8 = .ok (.invokevirtual 222, 3) := by decide +kernel
theorem dX12_highest_11 : decode cX12_highest 11 = .ok (.ifCond .ne 6, 3) := by decide +kernel
theorem dX12_highest_14 : decode cX12_highest 14 = .ok (.bipush (-2), 2) := by decide +kernel
theorem dX12_highest_16 : decode cX12_highest 16 = .ok (.ireturn, 1) := by decide +kernel
theorem dX12_highest_17 : decode cX12_highest 17 = .ok (.aload_n 0, 1) := by decide +kernel
theorem dX12_highest_18 : decode cX12_highest 18 = .ok (.iload_n 1, 1) := by decide +kernel
theorem dX12_highest_19 : decode cX12_highest 19 = .ok (.invokevirtual 257, 3) := by decide +kernel
theorem dX12_highest_22 : decode cX12_highest 22 = .ok (.aload_n 0, 1) := by decide +kernel
theorem dX12_highest_23 : decode cX12_highest 23 = .ok (.aload_n 0, 1) := by decide +kernel
theorem dX12_highest_24 : decode cX12_highest 24 = .ok (.invokevirtual 260, 3) := by decide +kernel
theorem dX12_highest_27 : decode cX12_highest 27 = .ok (.invokevirtual 254, 3) := by decide +kernel
theorem dX12_highest_30 : decode cX12_highest 30 = .ok (.istore_n 2, 1) := by decide +kernel
theorem dX12_highest_31 : decode cX12_highest 31 = .ok (.iconst (-1), 1) := by decide +kernel
theorem dX12_highest_32 : decode cX12_highest 32 = .ok (.istore_n 3, 1) := by decide +kernel
theorem dX12_highest_33 : decode cX12_highest 33 = .ok (.iconst 0, 1) := by decide +kernel
theorem dX12_highest_34 : decode cX12_highest 34 = .ok (.istore 4, 2) := by decide +kernel
theorem dX12_highest_36 : decode cX12_highest 36 = .ok (.iload 4, 2) := by decide +kernel
theorem dX12_highest_38 : decode cX12_highest 38 = .ok (.aload_n 0, 1) := by decide +kernel
theorem dX12_highest_39 : decode cX12_highest 39 = .ok (.getfield 13, 3) := by decide +kernel
theorem dX12_highest_42 : decode cX12_highest 42 = .ok (.iconst 1, 1) := by decide +kernel
theorem dX12_highest_43 : decode cX12_highest 43 = .ok (.iaload, 1) := by decide +kernel
theorem dX12_highest_44 : decode cX12_highest 44 = .ok (.if_icmp .ge 44, 3) := by decide +kernel
theorem dX12_highest_47 : decode cX12_highest 47 = .ok (.iload_n 2, 1) := by decide +kernel
theorem dX12_highest_48 : decode cX12_highest 48 = .ok (.i2l, 1) := by decide +kernel
theorem dX12_highest_49 : decode cX12_highest 49 = .ok (.iload 4, 2) := by decide +kernel
theorem dX12_highest_51 : decode cX12_highest 51 = .ok (.invokestatic 186, 3) := by decide +kernel
theorem dX12_highest_54 : decode cX12_highest 54 = .ok (.ifCond .eq 28, 3) := by decide +kernel
theorem dX12_highest_57 : decode cX12_highest 57 = .ok (.aload_n 0, 1) := by decide +kernel
theorem dX12_highest_58 : decode cX12_highest 58 = .ok (.getfield 13, 3) := by decide +kernel
theorem dX12_highest_61 : decode cX12_highest 61 = .ok (.bipush 21, 2) := by decide +kernel
theorem dX12_highest_63 : decode cX12_highest 63 = .ok (.iload 4, 2) := by decide +kernel
theorem dX12_highest_65 : decode cX12_highest 65 = .ok (.iadd, 1) := by decide +kernel
theorem dX12_highest_66 : decode cX12_highest 66 = .ok (.iaload, 1) := by decide +kernel
theorem dX12_highest_67 : decode cX12_highest 67 = .ok (.iload_n 3, 1) := by decide +kernel
theorem dX12_highest_68 : decode cX12_highest 68 = .ok (.if_icmp .le 14, 3) := by decide +kernel
theorem dX12_highest_71 : decode cX12_highest 71 = .ok (.aload_n 0, 1) := by decide +kernel
theorem dX12_highest_72 : decode cX12_highest 72 = .ok (.getfield 13, 3) := by decide +kernel
theorem dX12_highest_75 : decode cX12_highest 75 = .ok (.bipush 21, 2) := by decide +kernel
theorem dX12_highest_77 : decode cX12_highest 77 = .ok (.iload 4, 2) := by decide +kernel
theorem dX12_highest_79 : decode cX12_highest 79 = .ok (.iadd, 1) := by decide +kernel
theorem dX12_highest_80 : decode cX12_highest 80 = .ok (.iaload, 1) := by decide +kernel
theorem dX12_highest_81 : decode cX12_highest 81 = .ok (.istore_n 3, 1) := by decide +kernel
theorem dX12_highest_82 : decode cX12_highest 82 = .ok (.iinc 4 1, 3) := by decide +kernel
theorem dX12_highest_85 : decode cX12_highest 85 = .ok (.goto (-49), 3) := by decide +kernel
theorem dX12_highest_88 : decode cX12_highest 88 = .ok (.iload_n 3, 1) := by decide +kernel
theorem dX12_highest_89 : decode cX12_highest 89 = .ok (.ireturn, 1) := by decide +kernel
theorem dX12_needed_0 : decode cX12_needed 0 = .ok (.aload_n 0, 1) := by decide +kernel
theorem dX12_needed_1 : decode cX12_needed 1 = .ok (.iconst 0, 1) := by decide +kernel
theorem dX12_needed_2 : decode cX12_needed 2 = .ok (.putfield 1, 3) := by decide +kernel
theorem dX12_needed_5 : decode cX12_needed 5 = .ok (.aload_n 0, 1) := by decide +kernel
theorem dX12_needed_6 : decode cX12_needed 6 = .ok (.iload_n 1, 1) := by decide +kernel
theorem dX12_needed_7 : decode cX12_needed 7 = .ok (.i2l, 1) := by decide +kernel
theorem dX12_needed_8 : decode cX12_needed 8 = .ok (.invokevirtual 222, 3) := by decide +kernel
theorem dX12_needed_11 : decode cX12_needed 11 = .ok (.ifCond .eq 11, 3) := by decide +kernel
theorem dX12_needed_14 : decode cX12_needed 14 = .ok (.aload_n 0, 1) := by decide +kernel
theorem dX12_needed_15 : decode cX12_needed 15 = .ok (.iload_n 1, 1) := by decide +kernel
theorem dX12_needed_16 : decode cX12_needed 16 = .ok (.invokevirtual 363, 3) := by decide +kernel
theorem dX12_needed_19 : decode cX12_needed 19 = .ok (.goto 5, 3) := by decide +kernel
theorem dX12_needed_22 : decode cX12_needed 22 = .ok (.bipush (-2), 2) := by decide +kernel
theorem dX12_needed_24 : decode cX12_needed 24 = .ok (.ireturn, 1) := by decide +kernel
theorem dX12_neededBy_0 : decode cX12_neededBy 0 = .ok (.aload_n 0, 1) := by decide +kernel
theorem dX12_neededBy_1 : decode cX12_neededBy 1 = .ok (.iload_n 1, 1) := by decide +kernel
theorem dX12_neededBy_2 : decode cX12_neededBy 2 = .ok (.invokevirtual 257, 3) := by decide +kernel
theorem dX12_neededBy_5 : decode cX12_neededBy 5 = .ok (.aload_n 0, 1) := by decide +kernel
theorem dX12_neededBy_6 : decode cX12_neededBy 6 = .ok (.invokevirtual 260, 3) := by decide +kernel
theorem dX12_neededBy_9 : decode cX12_neededBy 9 = .ok (.istore_n 2, 1) := by decide +kernel
theorem dX12_neededBy_10 : decode cX12_neededBy 10 = .ok (.iconst 0, 1) := by decide +kernel
theorem dX12_neededBy_11 : decode cX12_neededBy 11 = .ok (.istore_n 3, 1) := by decide +kernel
theorem dX12_neededBy_12 : decode cX12_neededBy 12 = .ok (.iconst 0, 1) := by decide +kernel
theorem dX12_neededBy_13 : decode cX12_neededBy 13 = .ok (.istore 4, 2) := by decide +kernel
theorem dX12_neededBy_15 : decode cX12_neededBy 15 = .ok (.iload 4, 2) := by decide +kernel
theorem dX12_neededBy_17 : decode cX12_neededBy 17 = .ok (.aload_n 0, 1) := by decide +kernel
theorem dX12_neededBy_18 : decode cX12_neededBy 18 = .ok (.getfield 13, 3) := by decide +kernel
theorem dX12_neededBy_21 : decode cX12_neededBy 21 = .ok (.iconst 1, 1) := by decide +kernel
theorem dX12_neededBy_22 : decode cX12_neededBy 22 = .ok (.iaload, 1) := by decide +kernel
theorem dX12_neededBy_23 : decode cX12_neededBy 23 = .ok (.if_icmp .ge 56, 3) := by decide +kernel
theorem dX12_neededBy_26 : decode cX12_neededBy 26 = .ok (.aload_n 0, 1) := by decide +kernel
theorem dX12_neededBy_27 : decode cX12_neededBy 27 = .ok (.iload_n 2, 1) := by decide +kernel
theorem dX12_neededBy_28 : decode cX12_neededBy 28 = .ok (.invokevirtual 354, 3) := by decide +kernel
theorem dX12_neededBy_31 : decode cX12_neededBy 31 = .ok (.ifCond .eq 48, 3) := by decide +kernel
theorem dX12_neededBy_34 : decode cX12_neededBy 34 = .ok (.iload_n 2, 1) := by decide +kernel
theorem dX12_neededBy_35 : decode cX12_neededBy 35 = .ok (.aload_n 0, 1) := by decide +kernel
theorem dX12_neededBy_36 : decode cX12_neededBy 36 = .ok (.invokevirtual 272, 3) := by decide +kernel
theorem dX12_neededBy_39 : decode cX12_neededBy 39 = .ok (.iconst (-1), 1) := by decide +kernel
theorem dX12_neededBy_40 : decode cX12_neededBy 40 = .ok (.ixor, 1) := by decide +kernel
theorem dX12_neededBy_41 : decode cX12_neededBy 41 = .ok (.iand, 1) := by decide +kernel
theorem dX12_neededBy_42 : decode cX12_neededBy 42 = .ok (.i2l, 1) := by decide +kernel
theorem dX12_neededBy_43 : decode cX12_neededBy 43 = .ok (.iload 4, 2) := by decide +kernel
theorem dX12_neededBy_45 : decode cX12_neededBy 45 = .ok (.invokestatic 186, 3) := by decide +kernel
theorem dX12_neededBy_48 : decode cX12_neededBy 48 = .ok (.ifCond .eq 25, 3) := by decide +kernel
theorem dX12_neededBy_51 : decode cX12_neededBy 51 = .ok (.aload_n 0, 1) := by decide +kernel
theorem dX12_neededBy_52 : decode cX12_neededBy 52 = .ok (.iload_n 2, 1) := by decide +kernel
theorem dX12_neededBy_53 : decode cX12_neededBy 53 = .ok (.iconst 1, 1) := by decide +kernel
theorem dX12_neededBy_54 : decode cX12_neededBy 54 = .ok (.iload 4, 2) := by decide +kernel
theorem dX12_neededBy_56 : decode cX12_neededBy 56 = .ok (.ishl, 1) := by decide +kernel
theorem dX12_neededBy_57 : decode cX12_neededBy 57 = .ok (.iconst (-1), 1) := by decide +kernel
theorem dX12_neededBy_58 : decode cX12_neededBy 58 = .ok (.ixor, 1) := by decide +kernel
theorem dX12_neededBy_59 : decode cX12_neededBy 59 = .ok (.iand, 1) := by decide +kernel
theorem dX12_neededBy_60 : decode cX12_neededBy 60 = .ok (.invokevirtual 354, 3) := by decide +kernel
theorem dX12_neededBy_63 : decode cX12_neededBy 63 = .ok (.ifCond .ne 10, 3) := by decide +kernel
theorem dX12_neededBy_66 : decode cX12_neededBy 66 = .ok (.iload_n 3, 1) := by decide +kernel
theorem dX12_neededBy_67 : decode cX12_neededBy 67 = .ok (.iconst 1, 1) := by decide +kernel
theorem dX12_neededBy_68 : decode cX12_neededBy 68 = .ok (.iload 4, 2) := by decide +kernel
theorem dX12_neededBy_70 : decode cX12_neededBy 70 = .ok (.ishl, 1) := by decide +kernel
theorem dX12_neededBy_71 : decode cX12_neededBy 71 = .ok (.ior, 1) := by decide +kernel
theorem dX12_neededBy_72 : decode cX12_neededBy 72 = .ok (.istore_n 3, 1) := by decide +kernel
theorem dX12_neededBy_73 : decode cX12_neededBy 73 = .ok (.iinc 4 1, 3) := by decide +kernel
theorem dX12_neededBy_76 : decode cX12_neededBy 76 = .ok (.goto (-61), 3) := by decide +kernel
theorem dX12_neededBy_79 : decode cX12_neededBy 79 = .ok (.iload_n 3, 1) := by decide +kernel
theorem dX12_neededBy_80 : decode cX12_neededBy 80 = .ok (.ireturn, 1) := by decide +kernel
theorem dX12_needers_0 : decode cX12_needers 0 = .ok (.aload_n 0, 1) := by decide +kernel
theorem dX12_needers_1 : decode cX12_needers 1 = .ok (.iconst 0, 1) := by decide +kernel
theorem dX12_needers_2 : decode cX12_needers 2 = .ok (.putfield 1, 3) := by decide +kernel
theorem dX12_needers_5 : decode cX12_needers 5 = .ok (.aload_n 0, 1) := by decide +kernel
theorem dX12_needers_6 : decode cX12_needers 6 = .ok (.iload_n 1, 1) := by decide +kernel
theorem dX12_needers_7 : decode cX12_needers 7 = .ok (.i2l, 1) := by decide +kernel
theorem dX12_needers_8 : decode cX12_needers 8 = .ok (.invokevirtual 218, 3) := by decide +kernel
theorem dX12_needers_11 : decode cX12_needers 11 = .ok (.ifCond .ne 6, 3) := by decide +kernel
theorem dX12_needers_14 : decode cX12_needers 14 = .ok (.bipush (-2), 2) := by decide +kernel
theorem dX12_needers_16 : decode cX12_needers 16 = .ok (.ireturn, 1) := by decide +kernel
theorem dX12_needers_17 : decode cX12_needers 17 = .ok (.iconst 0, 1) := by decide +kernel
theorem dX12_needers_18 : decode cX12_needers 18 = .ok (.istore_n 2, 1) := by decide +kernel
theorem dX12_needers_19 : decode cX12_needers 19 = .ok (.iconst 0, 1) := by decide +kernel
theorem dX12_needers_20 : decode cX12_needers 20 = .ok (.istore_n 3, 1) := by decide +kernel
theorem dX12_needers_21 : decode cX12_needers 21 = .ok (.iload_n 3, 1) := by decide +kernel
theorem dX12_needers_22 : decode cX12_needers 22 = .ok (.aload_n 0, 1) := by decide +kernel
theorem dX12_needers_23 : decode cX12_needers 23 = .ok (.getfield 13, 3) := by decide +kernel
theorem dX12_needers_26 : decode cX12_needers 26 = .ok (.iconst 2, 1) := by decide +kernel
theorem dX12_needers_27 : decode cX12_needers 27 = .ok (.iaload, 1) := by decide +kernel
theorem dX12_needers_28 : decode cX12_needers 28 = .ok (.if_icmp .ge 32, 3) := by decide +kernel
theorem dX12_needers_31 : decode cX12_needers 31 = .ok (.iload_n 2, 1) := by decide +kernel
theorem dX12_needers_32 : decode cX12_needers 32 = .ok (.aload_n 0, 1) := by decide +kernel
theorem dX12_needers_33 : decode cX12_needers 33 = .ok (.iload_n 3, 1) := by decide +kernel
theorem dX12_needers_34 : decode cX12_needers 34 = .ok (.invokevirtual 363, 3) := by decide +kernel
theorem dX12_needers_37 : decode cX12_needers 37 = .ok (.i2l, 1) := by decide +kernel
theorem dX12_needers_38 : decode cX12_needers 38 = .ok (.iload_n 1, 1) := by decide +kernel
theorem dX12_needers_39 : decode cX12_needers 39 = .ok (.invokestatic 186, 3) := by decide +kernel
theorem dX12_needers_42 : decode cX12_needers 42 = .ok (.ifCond .eq 9, 3) := by decide +kernel
theorem dX12_needers_45 : decode cX12_needers 45 = .ok (.iconst 1, 1) := by decide +kernel
theorem dX12_needers_46 : decode cX12_needers 46 = .ok (.iload_n 3, 1) := by decide +kernel
theorem dX12_needers_47 : decode cX12_needers 47 = .ok (.ishl, 1) := by decide +kernel
theorem dX12_needers_48 : decode cX12_needers 48 = .ok (.goto 4, 3) := by decide +kernel
theorem dX12_needers_51 : decode cX12_needers 51 = .ok (.iconst 0, 1) := by decide +kernel
theorem dX12_needers_52 : decode cX12_needers 52 = .ok (.ior, 1) := by decide +kernel
theorem dX12_needers_53 : decode cX12_needers 53 = .ok (.istore_n 2, 1) := by decide +kernel
theorem dX12_needers_54 : decode cX12_needers 54 = .ok (.iinc 3 1, 3) := by decide +kernel
theorem dX12_needers_57 : decode cX12_needers 57 = .ok (.goto (-36), 3) := by decide +kernel
theorem dX12_needers_60 : decode cX12_needers 60 = .ok (.iload_n 2, 1) := by decide +kernel
theorem dX12_needers_61 : decode cX12_needers 61 = .ok (.ireturn, 1) := by decide +kernel
theorem dX12_parties_0 : decode cX12_parties 0 = .ok (.aload_n 0, 1) := by decide +kernel
theorem dX12_parties_1 : decode cX12_parties 1 = .ok (.iconst 0, 1) := by decide +kernel
theorem dX12_parties_2 : decode cX12_parties 2 = .ok (.putfield 1, 3) := by decide +kernel
theorem dX12_parties_5 : decode cX12_parties 5 = .ok (.aload_n 0, 1) := by decide +kernel
theorem dX12_parties_6 : decode cX12_parties 6 = .ok (.iload_n 1, 1) := by decide +kernel
theorem dX12_parties_7 : decode cX12_parties 7 = .ok (.i2l, 1) := by decide +kernel
theorem dX12_parties_8 : decode cX12_parties 8 = .ok (.invokevirtual 222, 3) := by decide +kernel
theorem dX12_parties_11 : decode cX12_parties 11 = .ok (.ifCond .ne 6, 3) := by decide +kernel
theorem dX12_parties_14 : decode cX12_parties 14 = .ok (.bipush (-2), 2) := by decide +kernel
theorem dX12_parties_16 : decode cX12_parties 16 = .ok (.ireturn, 1) := by decide +kernel
theorem dX12_parties_17 : decode cX12_parties 17 = .ok (.aload_n 0, 1) := by decide +kernel
theorem dX12_parties_18 : decode cX12_parties 18 = .ok (.iload_n 1, 1) := by decide +kernel
theorem dX12_parties_19 : decode cX12_parties 19 = .ok (.invokevirtual 257, 3) := by decide +kernel
theorem dX12_parties_22 : decode cX12_parties 22 = .ok (.aload_n 0, 1) := by decide +kernel
theorem dX12_parties_23 : decode cX12_parties 23 = .ok (.aload_n 0, 1) := by decide +kernel
theorem dX12_parties_24 : decode cX12_parties 24 = .ok (.invokevirtual 260, 3) := by decide +kernel
theorem dX12_parties_27 : decode cX12_parties 27 = .ok (.invokevirtual 360, 3) := by decide +kernel
theorem dX12_parties_30 : decode cX12_parties 30 = .ok (.ireturn, 1) := by decide +kernel
theorem dX12_partiesBy_0 : decode cX12_partiesBy 0 = .ok (.aload_n 0, 1) := by decide +kernel
theorem dX12_partiesBy_1 : decode cX12_partiesBy 1 = .ok (.iload_n 1, 1) := by decide +kernel
theorem dX12_partiesBy_2 : decode cX12_partiesBy 2 = .ok (.invokevirtual 357, 3) := by decide +kernel
theorem dX12_partiesBy_5 : decode cX12_partiesBy 5 = .ok (.istore_n 2, 1) := by decide +kernel
theorem dX12_partiesBy_6 : decode cX12_partiesBy 6 = .ok (.iload_n 2, 1) := by decide +kernel
theorem dX12_partiesBy_7 : decode cX12_partiesBy 7 = .ok (.iconst (-1), 1) := by decide +kernel
theorem dX12_partiesBy_8 : decode cX12_partiesBy 8 = .ok (.if_icmp .ne 8, 3) := by decide +kernel
theorem dX12_partiesBy_11 : decode cX12_partiesBy 11 = .ok (.bipush 99, 2) := by decide +kernel
theorem dX12_partiesBy_13 : decode cX12_partiesBy 13 = .ok (.goto 7, 3) := by decide +kernel
theorem dX12_partiesBy_16 : decode cX12_partiesBy 16 = .ok (.iload_n 2, 1) := by decide +kernel
theorem dX12_partiesBy_17 : decode cX12_partiesBy 17 = .ok (.invokestatic 334, 3) := by decide +kernel
theorem dX12_partiesBy_20 : decode cX12_partiesBy 20 = .ok (.ireturn, 1) := by decide +kernel
theorem dX12_shut_0 : decode cX12_shut 0 = .ok (.aload_n 0, 1) := by decide +kernel
theorem dX12_shut_1 : decode cX12_shut 1 = .ok (.iconst 0, 1) := by decide +kernel
theorem dX12_shut_2 : decode cX12_shut 2 = .ok (.putfield 1, 3) := by decide +kernel
theorem dX12_shut_5 : decode cX12_shut 5 = .ok (.aload_n 0, 1) := by decide +kernel
theorem dX12_shut_6 : decode cX12_shut 6 = .ok (.iload_n 1, 1) := by decide +kernel
theorem dX12_shut_7 : decode cX12_shut 7 = .ok (.i2l, 1) := by decide +kernel
theorem dX12_shut_8 : decode cX12_shut 8 = .ok (.invokevirtual 222, 3) := by decide +kernel
theorem dX12_shut_11 : decode cX12_shut 11 = .ok (.ifCond .eq 13, 3) := by decide +kernel
theorem dX12_shut_14 : decode cX12_shut 14 = .ok (.iload_n 2, 1) := by decide +kernel
theorem dX12_shut_15 : decode cX12_shut 15 = .ok (.i2l, 1) := by decide +kernel
theorem dX12_shut_16 : decode cX12_shut 16 = .ok (.lconst 0, 1) := by decide +kernel
theorem dX12_shut_17 : decode cX12_shut 17 = .ok (.lconst 1, 1) := by decide +kernel
theorem dX12_shut_18 : decode cX12_shut 18 = .ok (.invokestatic 144, 3) := by decide +kernel
theorem dX12_shut_21 : decode cX12_shut 21 = .ok (.ifCond .ne 6, 3) := by decide +kernel
theorem dX12_shut_24 : decode cX12_shut 24 = .ok (.bipush (-2), 2) := by decide +kernel
theorem dX12_shut_26 : decode cX12_shut 26 = .ok (.ireturn, 1) := by decide +kernel
theorem dX12_shut_27 : decode cX12_shut 27 = .ok (.aload_n 0, 1) := by decide +kernel
theorem dX12_shut_28 : decode cX12_shut 28 = .ok (.iload_n 1, 1) := by decide +kernel
theorem dX12_shut_29 : decode cX12_shut 29 = .ok (.invokevirtual 257, 3) := by decide +kernel
theorem dX12_shut_32 : decode cX12_shut 32 = .ok (.aload_n 0, 1) := by decide +kernel
theorem dX12_shut_33 : decode cX12_shut 33 = .ok (.aload_n 0, 1) := by decide +kernel
theorem dX12_shut_34 : decode cX12_shut 34 = .ok (.invokevirtual 260, 3) := by decide +kernel
theorem dX12_shut_37 : decode cX12_shut 37 = .ok (.invokevirtual 357, 3) := by decide +kernel
theorem dX12_shut_40 : decode cX12_shut 40 = .ok (.istore_n 3, 1) := by decide +kernel
theorem dX12_shut_41 : decode cX12_shut 41 = .ok (.iload_n 3, 1) := by decide +kernel
theorem dX12_shut_42 : decode cX12_shut 42 = .ok (.iconst (-1), 1) := by decide +kernel
theorem dX12_shut_43 : decode cX12_shut 43 = .ok (.if_icmp .eq 8, 3) := by decide +kernel
theorem dX12_shut_46 : decode cX12_shut 46 = .ok (.iload_n 2, 1) := by decide +kernel
theorem dX12_shut_47 : decode cX12_shut 47 = .ok (.iconst 1, 1) := by decide +kernel
theorem dX12_shut_48 : decode cX12_shut 48 = .ok (.if_icmp .ne 7, 3) := by decide +kernel
theorem dX12_shut_51 : decode cX12_shut 51 = .ok (.iload_n 3, 1) := by decide +kernel
theorem dX12_shut_52 : decode cX12_shut 52 = .ok (.goto 7, 3) := by decide +kernel
theorem dX12_shut_55 : decode cX12_shut 55 = .ok (.iload_n 3, 1) := by decide +kernel
theorem dX12_shut_56 : decode cX12_shut 56 = .ok (.invokestatic 334, 3) := by decide +kernel
theorem dX12_shut_59 : decode cX12_shut 59 = .ok (.ireturn, 1) := by decide +kernel
theorem kw_1652 : Cond.methodLink "FootholdWallModel" 360 yX12_partiesBy ∈ gw := gw_of (tb_of 1652 (by decide +kernel)) (by decide +kernel)
theorem kw_1654 : Cond.instanceMethod yX12_partiesBy ∈ gw := gw_of (tb_of 1654 (by decide +kernel)) (by decide +kernel)
theorem kw_1655 : Cond.code yX12_partiesBy cX12_partiesBy 3 (some (.int)) ∈ gw := gw_of (tb_of 1655 (by decide +kernel)) (by decide +kernel)
theorem kw_1656 : Cond.methodLink "FootholdWallModel" 357 yX12_cutOf ∈ gw := gw_of (tb_of 1656 (by decide +kernel)) (by decide +kernel)
theorem kw_1658 : Cond.instanceMethod yX12_cutOf ∈ gw := gw_of (tb_of 1658 (by decide +kernel)) (by decide +kernel)
theorem kw_1659 : Cond.code yX12_cutOf cX12_cutOf 5 (some (.int)) ∈ gw := gw_of (tb_of 1659 (by decide +kernel)) (by decide +kernel)
theorem kw_1660 : Cond.methodLink "FootholdWallModel" 354 yX12_hasClimb ∈ gw := gw_of (tb_of 1660 (by decide +kernel)) (by decide +kernel)
theorem kw_1662 : Cond.instanceMethod yX12_hasClimb ∈ gw := gw_of (tb_of 1662 (by decide +kernel)) (by decide +kernel)
theorem kw_1663 : Cond.code yX12_hasClimb cX12_hasClimb 2 (some (.boolean)) ∈ gw := gw_of (tb_of 1663 (by decide +kernel)) (by decide +kernel)
theorem kw_1672 : Cond.methodLink "FootholdWallModel" 363 yX12_neededBy ∈ gw := gw_of (tb_of 1672 (by decide +kernel)) (by decide +kernel)
theorem kw_1674 : Cond.instanceMethod yX12_neededBy ∈ gw := gw_of (tb_of 1674 (by decide +kernel)) (by decide +kernel)
theorem kw_1675 : Cond.code yX12_neededBy cX12_neededBy 5 (some (.int)) ∈ gw := gw_of (tb_of 1675 (by decide +kernel)) (by decide +kernel)
theorem ks_92 : Cond.selects RX12 yX12_partiesBy yX12_partiesBy ∈ gw := gw_of (pv_of 92 (by decide +kernel)) (by decide +kernel)
theorem ks_93 : Cond.selects RX12 yX12_cutOf yX12_cutOf ∈ gw := gw_of (pv_of 93 (by decide +kernel)) (by decide +kernel)
theorem ks_94 : Cond.selects RX12 yX12_hasClimb yX12_hasClimb ∈ gw := gw_of (pv_of 94 (by decide +kernel)) (by decide +kernel)
theorem ks_95 : Cond.selects RX12 yX12_neededBy yX12_neededBy ∈ gw := gw_of (pv_of 95 (by decide +kernel)) (by decide +kernel)
set_option maxHeartbeats 4000000 in
set_option maxRecDepth 100000 in
theorem s_M_cutOf (l : Launch) (D : va_G) (cs : CS) (kf : KF) (T : TF) (O : List Nat) (X : va_W) (a0 hg mq : Nat) (x1 : Int32) (t_a0 : T a0 = some (22, hg, mq)) (b_hg : hg < 90) (l_x1 : 0 ≤ x1.toInt) (u_x1 : x1.toInt ≤ 16383) (hO : okO T O [8, 9, 22]) : TK l D cs kf yX12_cutOf cX12_cutOf 5 (some (.int)) { frames := 3, cells := 0, slots := 0, locals := 67 } [.ref a0, .int x1] T O X (Ti D cs (fun r u => u = (T, O, X) ∧ -1 ≤ r.toInt ∧ r.toInt ≤ 16383)) := by
  refine tk_of (by decide) (Nat.le_of_ble_eq_true rfl) (fun p e s m below meth c ls A H locs hx hb hr hml hown hts hlocks hnm hkb hH hS hA hOX hks hE hl => ?_)
  have hown : s.vm.findClass RX12 = some m.cls := hown
  have hl : lv_has ls 5 [(0, .ref a0), (1, .int x1)] := hl
  refine lv_iload_n hx hb dX12_cutOf_0 rfl (lv_at hl 1 rfl) ?_
  refine lv_aload_n hx hb dX12_cutOf_1 rfl (lv_at hl 0 rfl) ?_
  refine tk_i hH hS hA (tr_V (n := 0) (As := []) hx hb hml hown hts hkb hH hOX hks hE hS hA (s_M_ends l D cs kf T O X a0 hg mq t_a0 b_hg (hO.sub (by decide))) kw_1536 kw_1538 ks_78 kw_13 kw_1539 (by decide +kernel) ⟨Nat.le_of_ble_eq_true rfl, Nat.le_of_ble_eq_true rfl⟩ (HT.recv (ci := 12) hkb hH t_a0 (hO.no t_a0 (by decide)) rfl) rfl rfl hl.1 (Nat.le_of_ble_eq_true rfl) dX12_cutOf_2 ⟨Nat.le_of_ble_eq_true rfl, Nat.le_of_ble_eq_true rfl⟩) (fun v2 u H locs hz9 hH hS => ?_)
  obtain ⟨rfl, l_v2, u_v2⟩ := hz9
  have hH : HT D cs A T O X H := hH
  refine W.widen (k := 0) (n := 0) (Nat.le_of_ble_eq_true rfl) (Nat.le_of_ble_eq_true rfl) ?_
  refine lv_iconst (v := (-1)) hx hb dX12_cutOf_5 (by decide) ?_
  refine lv_ixor hx hb dX12_cutOf_6 ?_
  refine lv_topi (fun v6 ev6 => ?_)
  refine lv_iand hx hb dX12_cutOf_7 ?_
  refine lv_topi (fun v7 ev7 => ?_)
  have tv7 : 0 ≤ v7.toInt ∧ v7.toInt ≤ x1.toInt := by rw [ev7]; exact and_l (by omega)
  refine lv_istore_n (lv' := [(2, .int v7), (0, .ref a0), (1, .int x1)]) hx hb dX12_cutOf_8 rfl hl (by decide) rfl (fun ls hl => ?_)
  refine lv_aload_n hx hb dX12_cutOf_9 rfl (lv_at hl 1 rfl) ?_
  refine lv_iload_n hx hb dX12_cutOf_10 rfl (lv_at hl 2 rfl) ?_
  refine lv_aload_n hx hb dX12_cutOf_11 rfl (lv_at hl 1 rfl) ?_
  refine tk_i hH hS hA (tr_V (n := 0) (As := []) hx hb hml hown hts hkb hH hOX hks hE hS hA (s_M_ends l D cs kf T O X a0 hg mq t_a0 b_hg (hO.sub (by decide))) kw_1536 kw_1538 ks_78 kw_13 kw_1539 (by decide +kernel) ⟨Nat.le_of_ble_eq_true rfl, Nat.le_of_ble_eq_true rfl⟩ (HT.recv (ci := 12) hkb hH t_a0 (hO.no t_a0 (by decide)) rfl) rfl rfl hl.1 (Nat.le_of_ble_eq_true rfl) dX12_cutOf_12 ⟨Nat.le_of_ble_eq_true rfl, Nat.le_of_ble_eq_true rfl⟩) (fun v12 u H locs hz9 hH hS => ?_)
  obtain ⟨rfl, l_v12, u_v12⟩ := hz9
  have hH : HT D cs A T O X H := hH
  refine W.widen (k := 0) (n := 0) (Nat.le_of_ble_eq_true rfl) (Nat.le_of_ble_eq_true rfl) ?_
  refine lv_iand hx hb dX12_cutOf_15 ?_
  refine lv_topi (fun v15 ev15 => ?_)
  have tv15 : 0 ≤ v15.toInt ∧ v15.toInt ≤ x1.toInt := by rw [ev15]; exact and_l (by omega)
  have ttv15 : 0 ≤ v15.toInt ∧ v15.toInt ≤ v12.toInt := by rw [ev15]; exact and_r (by omega)
  refine tk_i hH hS hA (tr_V (n := 1) (As := [.int v15]) hx hb hml hown hts hkb hH hOX hks hE hS hA (s_M_hasClimb l D cs kf T O X a0 hg mq v15 t_a0 b_hg (hO.sub (by decide))) kw_1660 kw_1662 ks_94 kw_13 kw_1663 (by decide +kernel) ⟨Nat.le_of_ble_eq_true rfl, Nat.le_of_ble_eq_true rfl⟩ (HT.recv (ci := 12) hkb hH t_a0 (hO.no t_a0 (by decide)) rfl) rfl rfl hl.1 (Nat.le_of_ble_eq_true rfl) dX12_cutOf_16 ⟨Nat.le_of_ble_eq_true rfl, Nat.le_of_ble_eq_true rfl⟩) (fun v16 u H locs hz9 hH hS => ?_)
  obtain ⟨rfl, l_v16, u_v16⟩ := hz9
  have hH : HT D cs A T O X H := hH
  refine W.widen (k := 0) (n := 0) (Nat.le_of_ble_eq_true rfl) (Nat.le_of_ble_eq_true rfl) ?_
  refine lv_if_eq (tgt := 24) hx hb dX12_cutOf_19 (by decide) (fun c19 => ?_) (fun c19 => ?_)
  · skip
    have tc19 := f_eq (k := 0) (by decide) c19
    refine lv_iconst (v := (-1)) hx hb dX12_cutOf_24 (by decide) ?_
    refine lv_istore_n (lv' := [(3, .int (-1)), (2, .int v7), (0, .ref a0), (1, .int x1)]) hx hb dX12_cutOf_25 rfl hl (by decide) rfl (fun ls hl => ?_)
    refine lv_iconst (v := 0) hx hb dX12_cutOf_26 (by decide) ?_
    have J29 : ∀ (n : Nat) (p29_4 : Int32) (p29_3 : Int32) (H : Heap) (locs : List Loc) (ls : Array Slot), (16384 - p29_4.toInt).toNat = n → (0 ≤ p29_4.toInt) → (p29_4.toInt ≤ 16384) → (-1 ≤ p29_3.toInt) → (p29_3.toInt ≤ 16383) → HT D cs A T O X H → va_S A s.heap H locs → lv_has ls 5 [(4, .int p29_4), (3, .int p29_3), (2, .int v7), (0, .ref a0), (1, .int x1)] → W p l e { frames := 3, cells := 0, slots := 0, locals := 67 } s m [.ref a0, .int x1].toArray below meth c H locs 0 0 (MQ below (Ti D cs (fun r u => u = (T, O, X) ∧ -1 ≤ r.toInt ∧ r.toInt ≤ 16383) A) [.ref a0, .int x1].toArray s 0 0 A) (F0 m 29 ls []) := by
      intro n
      induction n using Nat.strongRecOn with
      | _ n ih29 =>
        intro p29_4 p29_3 H locs ls hm29 l_p29_4 u_p29_4 l_p29_3 u_p29_3 hH hS hl
        refine lv_iload hx hb dX12_cutOf_29 (lv_at hl 0 rfl) ?_
        refine lv_iload_n hx hb dX12_cutOf_31 rfl (lv_at hl 2 rfl) ?_
        refine lv_icmp_gt (tgt := 86) hx hb dX12_cutOf_32 (by decide) (fun c32 => ?_) (fun c32 => ?_)
        · skip
          have fuc32 := full_i p29_4
          have fvc32 := full_i v7
          have tc32 := g_lt c32
          refine lv_iload_n hx hb dX12_cutOf_86 rfl (lv_at hl 1 rfl) ?_
          exact te_i hx hb hr hlocks hH hS (⟨rfl, by omega, by omega⟩) dX12_cutOf_87
        · skip
          have fuc32 := full_i p29_4
          have fvc32 := full_i v7
          have tc32 := g_nlt c32
          refine lv_iload hx hb dX12_cutOf_35 (lv_at hl 0 rfl) ?_
          refine lv_iload_n hx hb dX12_cutOf_37 rfl (lv_at hl 2 rfl) ?_
          refine lv_iconst (v := (-1)) hx hb dX12_cutOf_38 (by decide) ?_
          refine lv_ixor hx hb dX12_cutOf_39 ?_
          refine lv_topi (fun v39 ev39 => ?_)
          refine lv_iand hx hb dX12_cutOf_40 ?_
          refine lv_topi (fun v40 ev40 => ?_)
          have tv40 : 0 ≤ v40.toInt ∧ v40.toInt ≤ p29_4.toInt := by rw [ev40]; exact and_l (by omega)
          have J80 : ∀ (p80_3 : Int32) (H : Heap) (locs : List Loc) (ls : Array Slot), (-1 ≤ p80_3.toInt) → (p80_3.toInt ≤ 16383) → HT D cs A T O X H → va_S A s.heap H locs → lv_has ls 5 [(4, .int p29_4), (3, .int p80_3), (2, .int v7), (0, .ref a0), (1, .int x1)] → W p l e { frames := 3, cells := 0, slots := 0, locals := 67 } s m [.ref a0, .int x1].toArray below meth c H locs 0 0 (MQ below (Ti D cs (fun r u => u = (T, O, X) ∧ -1 ≤ r.toInt ∧ r.toInt ≤ 16383) A) [.ref a0, .int x1].toArray s 0 0 A) (F0 m 80 ls []) := by
            intro p80_3 H locs ls l_p80_3 u_p80_3 hH hS hl
            obtain ⟨v80, ev80⟩ : ∃ y : Int32, y = p29_4 + 1 := ⟨_, rfl⟩
            have tv80 : v80.toInt = p29_4.toInt + (1) := by rw [ev80]; exact add_i rfl (by decide) (by omega) (by omega)
            refine lv_iinc (v := v80) (lv' := [(4, .int v80), (3, .int p80_3), (2, .int v7), (0, .ref a0), (1, .int x1)]) hx hb dX12_cutOf_80 hl (k := 0) rfl (by rw [ev80]; rfl) (by decide) rfl (fun ls hl => ?_)
            refine lv_goto (tgt := 29) hx hb dX12_cutOf_83 (by decide) ?_
            exact ih29 _ (by omega) v80 p80_3 _ _ _ rfl (by omega) (by omega) (by omega) (by omega) hH hS (lv_sub hl [0, 1, 2, 3, 4] rfl)
          refine lv_if_ne (tgt := 80) hx hb dX12_cutOf_41 (by decide) (fun c41 => ?_) (fun c41 => ?_)
          · skip
            have tc41 := f_ne (k := 0) (by decide) c41
            exact J80 p29_3 _ _ _ (by omega) (by omega) hH hS (lv_sub hl [0, 1, 2, 3, 4] rfl)
          · skip
            have tc41 := f_eq (k := 0) (by decide) c41
            refine lv_iload_n hx hb dX12_cutOf_44 rfl (lv_at hl 1 rfl) ?_
            refine lv_iconst (v := (-1)) hx hb dX12_cutOf_45 (by decide) ?_
            have J64 : ∀  (H : Heap) (locs : List Loc) (ls : Array Slot), HT D cs A T O X H → va_S A s.heap H locs → lv_has ls 5 [(4, .int p29_4), (3, .int p29_3), (2, .int v7), (0, .ref a0), (1, .int x1)] → W p l e { frames := 3, cells := 0, slots := 0, locals := 67 } s m [.ref a0, .int x1].toArray below meth c H locs 0 0 (MQ below (Ti D cs (fun r u => u = (T, O, X) ∧ -1 ≤ r.toInt ∧ r.toInt ≤ 16383) A) [.ref a0, .int x1].toArray s 0 0 A) (F0 m 64 ls []) := by
              intro  H locs ls  hH hS hl
              refine lv_aload_n hx hb dX12_cutOf_64 rfl (lv_at hl 3 rfl) ?_
              refine lv_iload_n hx hb dX12_cutOf_65 rfl (lv_at hl 4 rfl) ?_
              refine lv_iload hx hb dX12_cutOf_66 (lv_at hl 0 rfl) ?_
              refine lv_iconst (v := (-1)) hx hb dX12_cutOf_68 (by decide) ?_
              refine lv_ixor hx hb dX12_cutOf_69 ?_
              refine lv_topi (fun v69 ev69 => ?_)
              refine lv_iand hx hb dX12_cutOf_70 ?_
              refine lv_topi (fun v70 ev70 => ?_)
              have tv70 : 0 ≤ v70.toInt ∧ v70.toInt ≤ x1.toInt := by rw [ev70]; exact and_l (by omega)
              refine tk_i hH hS hA (tr_V (n := 1) (As := [.int v70]) hx hb hml hown hts hkb hH hOX hks hE hS hA (s_M_hasClimb l D cs kf T O X a0 hg mq v70 t_a0 b_hg (hO.sub (by decide))) kw_1660 kw_1662 ks_94 kw_13 kw_1663 (by decide +kernel) ⟨Nat.le_of_ble_eq_true rfl, Nat.le_of_ble_eq_true rfl⟩ (HT.recv (ci := 12) hkb hH t_a0 (hO.no t_a0 (by decide)) rfl) rfl rfl hl.1 (Nat.le_of_ble_eq_true rfl) dX12_cutOf_71 ⟨Nat.le_of_ble_eq_true rfl, Nat.le_of_ble_eq_true rfl⟩) (fun v71 u H locs hz9 hH hS => ?_)
              obtain ⟨rfl, l_v71, u_v71⟩ := hz9
              have hH : HT D cs A T O X H := hH
              refine W.widen (k := 0) (n := 0) (Nat.le_of_ble_eq_true rfl) (Nat.le_of_ble_eq_true rfl) ?_
              refine lv_if_ne (tgt := 80) hx hb dX12_cutOf_74 (by decide) (fun c74 => ?_) (fun c74 => ?_)
              · skip
                have tc74 := f_ne (k := 0) (by decide) c74
                exact J80 p29_3 _ _ _ (by omega) (by omega) hH hS (lv_sub hl [0, 1, 2, 3, 4] rfl)
              · skip
                have tc74 := f_eq (k := 0) (by decide) c74
                refine lv_iload hx hb dX12_cutOf_77 (lv_at hl 0 rfl) ?_
                refine lv_istore_n (lv' := [(3, .int p29_4), (4, .int p29_4), (2, .int v7), (0, .ref a0), (1, .int x1)]) hx hb dX12_cutOf_79 rfl hl (by decide) rfl (fun ls hl => ?_)
                exact J80 p29_4 _ _ _ (by omega) (by omega) hH hS (lv_sub hl [1, 0, 2, 3, 4] rfl)
            refine lv_icmp_eq (tgt := 64) hx hb dX12_cutOf_46 (by decide) (fun c46 => ?_) (fun c46 => ?_)
            · skip
              have tc46 := f_eq (k := -1) (by decide) c46
              exact J64  _ _ _  hH hS (lv_sub hl [0, 1, 2, 3, 4] rfl)
            · skip
              have tc46 := f_ne (k := -1) (by decide) c46
              refine lv_iload hx hb dX12_cutOf_49 (lv_at hl 0 rfl) ?_
              refine tk_i hH hS hA (tr_S (n := 1) (As := [.int p29_4]) hx hb hml hown hts hkb hH hOX hks hE hS hA (s_M_bitsOf l D cs kf T O X p29_4  (hO.sub (by decide))) kw_1631 kw_1632 kw_13 kw_1633 (by decide +kernel) ⟨Nat.le_of_ble_eq_true rfl, Nat.le_of_ble_eq_true rfl⟩ rfl rfl hl.1 (Nat.le_of_ble_eq_true rfl) dX12_cutOf_51 ⟨Nat.le_of_ble_eq_true rfl, Nat.le_of_ble_eq_true rfl⟩) (fun v51 u H locs hz9 hH hS => ?_)
              have hz9 : u = (T, O, X) := hz9
              subst hz9
              have hH : HT D cs A T O X H := hH
              refine W.widen (k := 0) (n := 0) (Nat.le_of_ble_eq_true rfl) (Nat.le_of_ble_eq_true rfl) ?_
              refine lv_iload_n hx hb dX12_cutOf_54 rfl (lv_at hl 1 rfl) ?_
              refine tk_i hH hS hA (tr_S (n := 1) (As := [.int p29_3]) hx hb hml hown hts hkb hH hOX hks hE hS hA (s_M_bitsOf l D cs kf T O X p29_3  (hO.sub (by decide))) kw_1631 kw_1632 kw_13 kw_1633 (by decide +kernel) ⟨Nat.le_of_ble_eq_true rfl, Nat.le_of_ble_eq_true rfl⟩ rfl rfl hl.1 (Nat.le_of_ble_eq_true rfl) dX12_cutOf_55 ⟨Nat.le_of_ble_eq_true rfl, Nat.le_of_ble_eq_true rfl⟩) (fun v55 u H locs hz9 hH hS => ?_)
              have hz9 : u = (T, O, X) := hz9
              subst hz9
              have hH : HT D cs A T O X H := hH
              refine W.widen (k := 0) (n := 0) (Nat.le_of_ble_eq_true rfl) (Nat.le_of_ble_eq_true rfl) ?_
              refine lv_icmp_lt (tgt := 64) hx hb dX12_cutOf_58 (by decide) (fun c58 => ?_) (fun c58 => ?_)
              · skip
                have fuc58 := full_i v51
                have fvc58 := full_i v55
                have tc58 := g_lt c58
                exact J64  _ _ _  hH hS (lv_sub hl [0, 1, 2, 3, 4] rfl)
              · skip
                have fuc58 := full_i v51
                have fvc58 := full_i v55
                have tc58 := g_nlt c58
                refine lv_goto (tgt := 80) hx hb dX12_cutOf_61 (by decide) ?_
                exact J80 p29_3 _ _ _ (by omega) (by omega) hH hS (lv_sub hl [0, 1, 2, 3, 4] rfl)
    refine lv_istore (lv' := [(4, .int 0), (3, .int (-1)), (2, .int v7), (0, .ref a0), (1, .int x1)]) hx hb dX12_cutOf_27 hl (by decide) rfl (fun ls hl => ?_)
    exact J29 _ 0 (-1) _ _ _ rfl (by decide) (by decide) (by decide) (by decide) hH hS (lv_sub hl [0, 1, 2, 3, 4] rfl)
  · skip
    have tc19 := f_ne (k := 0) (by decide) c19
    refine lv_iconst (v := (-1)) hx hb dX12_cutOf_22 (by decide) ?_
    exact te_i hx hb hr hlocks hH hS (⟨rfl, by decide, by decide⟩) dX12_cutOf_23
set_option maxHeartbeats 4000000 in
set_option maxRecDepth 100000 in
theorem s_M_partiesBy (l : Launch) (D : va_G) (cs : CS) (kf : KF) (T : TF) (O : List Nat) (X : va_W) (a0 hg mq : Nat) (x1 : Int32) (t_a0 : T a0 = some (22, hg, mq)) (b_hg : hg < 90) (l_x1 : 0 ≤ x1.toInt) (u_x1 : x1.toInt ≤ 16383) (hO : okO T O [8, 9, 22]) : TK l D cs kf yX12_partiesBy cX12_partiesBy 3 (some (.int)) { frames := 4, cells := 0, slots := 0, locals := 91 } [.ref a0, .int x1] T O X (Ti D cs (fun r u => u = (T, O, X))) := by
  refine tk_of (by decide) (Nat.le_of_ble_eq_true rfl) (fun p e s m below meth c ls A H locs hx hb hr hml hown hts hlocks hnm hkb hH hS hA hOX hks hE hl => ?_)
  have hown : s.vm.findClass RX12 = some m.cls := hown
  have hl : lv_has ls 3 [(0, .ref a0), (1, .int x1)] := hl
  refine lv_aload_n hx hb dX12_partiesBy_0 rfl (lv_at hl 0 rfl) ?_
  refine lv_iload_n hx hb dX12_partiesBy_1 rfl (lv_at hl 1 rfl) ?_
  refine tk_i hH hS hA (tr_V (n := 1) (As := [.int x1]) hx hb hml hown hts hkb hH hOX hks hE hS hA (s_M_cutOf l D cs kf T O X a0 hg mq x1 t_a0 b_hg (by omega) (by omega) (hO.sub (by decide))) kw_1656 kw_1658 ks_93 kw_13 kw_1659 (by decide +kernel) ⟨Nat.le_of_ble_eq_true rfl, Nat.le_of_ble_eq_true rfl⟩ (HT.recv (ci := 12) hkb hH t_a0 (hO.no t_a0 (by decide)) rfl) rfl rfl hl.1 (Nat.le_of_ble_eq_true rfl) dX12_partiesBy_2 ⟨Nat.le_of_ble_eq_true rfl, Nat.le_of_ble_eq_true rfl⟩) (fun v2 u H locs hz9 hH hS => ?_)
  obtain ⟨rfl, l_v2, u_v2⟩ := hz9
  have hH : HT D cs A T O X H := hH
  refine W.widen (k := 0) (n := 0) (Nat.le_of_ble_eq_true rfl) (Nat.le_of_ble_eq_true rfl) ?_
  refine lv_istore_n (lv' := [(2, .int v2), (0, .ref a0), (1, .int x1)]) hx hb dX12_partiesBy_5 rfl hl (by decide) rfl (fun ls hl => ?_)
  refine lv_iload_n hx hb dX12_partiesBy_6 rfl (lv_at hl 0 rfl) ?_
  refine lv_iconst (v := (-1)) hx hb dX12_partiesBy_7 (by decide) ?_
  have J20 : ∀ (k20_0 : Int32) (H : Heap) (locs : List Loc) (ls : Array Slot), HT D cs A T O X H → va_S A s.heap H locs → lv_has ls 3 [] → W p l e { frames := 4, cells := 0, slots := 0, locals := 91 } s m [.ref a0, .int x1].toArray below meth c H locs 0 0 (MQ below (Ti D cs (fun r u => u = (T, O, X)) A) [.ref a0, .int x1].toArray s 0 0 A) (F0 m 20 ls [.int k20_0]) := by
    intro k20_0 H locs ls  hH hS hl
    exact te_i hx hb hr hlocks hH hS (rfl) dX12_partiesBy_20
  refine lv_icmp_ne (tgt := 16) hx hb dX12_partiesBy_8 (by decide) (fun c8 => ?_) (fun c8 => ?_)
  · skip
    have tc8 := f_ne (k := -1) (by decide) c8
    refine lv_iload_n hx hb dX12_partiesBy_16 rfl (lv_at hl 0 rfl) ?_
    refine tk_i hH hS hA (tr_S (n := 1) (As := [.int v2]) hx hb hml hown hts hkb hH hOX hks hE hS hA (s_M_bitsOf l D cs kf T O X v2  (hO.sub (by decide))) kw_1631 kw_1632 kw_13 kw_1633 (by decide +kernel) ⟨Nat.le_of_ble_eq_true rfl, Nat.le_of_ble_eq_true rfl⟩ rfl rfl hl.1 (Nat.le_of_ble_eq_true rfl) dX12_partiesBy_17 ⟨Nat.le_of_ble_eq_true rfl, Nat.le_of_ble_eq_true rfl⟩) (fun v17 u H locs hz9 hH hS => ?_)
    have hz9 : u = (T, O, X) := hz9
    subst hz9
    have hH : HT D cs A T O X H := hH
    refine W.widen (k := 0) (n := 0) (Nat.le_of_ble_eq_true rfl) (Nat.le_of_ble_eq_true rfl) ?_
    exact J20 v17 _ _ _  hH hS (lv_sub hl [] rfl)
  · skip
    have tc8 := f_eq (k := -1) (by decide) c8
    refine lv_bipush (v := 99) hx hb dX12_partiesBy_11 (by decide) ?_
    refine lv_goto (tgt := 20) hx hb dX12_partiesBy_13 (by decide) ?_
    exact J20 99 _ _ _  hH hS (lv_sub hl [] rfl)
set_option maxHeartbeats 4000000 in
set_option maxRecDepth 100000 in
theorem s_M_parties (l : Launch) (D : va_G) (cs : CS) (kf : KF) (T : TF) (O : List Nat) (X : va_W) (a0 hg mq : Nat) (x1 : Int32) (t_a0 : T a0 = some (22, hg, mq)) (b_hg : hg < 90) (hO : okO T O [1, 8, 9, 22]) : TK l D cs kf yX12_parties cX12_parties 2 (some (.int)) { frames := 5, cells := 0, slots := 0, locals := 119 } [.ref a0, .int x1] T O X (Ti D cs (fun r u => u = (T, O, X))) := by
  refine tk_of (by decide) (Nat.le_of_ble_eq_true rfl) (fun p e s m below meth c ls A H locs hx hb hr hml hown hts hlocks hnm hkb hH hS hA hOX hks hE hl => ?_)
  have hown : s.vm.findClass RX12 = some m.cls := hown
  have hl : lv_has ls 2 [(0, .ref a0), (1, .int x1)] := hl
  refine lv_aload_n hx hb dX12_parties_0 rfl (lv_at hl 0 rfl) ?_
  refine lv_iconst (v := 0) hx hb dX12_parties_1 (by decide) ?_
  refine t_put (ci := 12) (lst := ft12 hg mq) (v := .int 0) (ty := tyX12 0) (C := RX12) (F := TX12) (N := 36) hx hb hts uX12 tyX12 tyX12_ok nmX12 hown hkb hH hS t_a0 (hO.no t_a0 (by decide)) (fun _ => Iff.rfl) rfl rfl 0 (by decide) rfl (⟨_, rfl⟩) kw_1223 (fun _ h9 => h9) rfl (tyX12_ok 0 (by decide)) rfl rfl dX12_parties_2 (fun H locs hH hS => ?_)
  refine lv_aload_n hx hb dX12_parties_5 rfl (lv_at hl 0 rfl) ?_
  refine lv_iload_n hx hb dX12_parties_6 rfl (lv_at hl 1 rfl) ?_
  refine lv_i2l hx hb dX12_parties_7 rfl ?_
  refine tk_i hH hS hA (tr_V (n := 1) (As := [.long x1.toInt64]) hx hb hml hown hts hkb hH hOX hks hE hS hA (s_M_isGuide l D cs kf T O X a0 hg mq x1.toInt64 t_a0 b_hg (hO.sub (by decide))) kw_1470 kw_1472 ks_67 kw_13 kw_1473 (by decide +kernel) ⟨Nat.le_of_ble_eq_true rfl, Nat.le_of_ble_eq_true rfl⟩ (HT.recv (ci := 12) hkb hH t_a0 (hO.no t_a0 (by decide)) rfl) rfl rfl hl.1 (Nat.le_of_ble_eq_true rfl) dX12_parties_8 ⟨Nat.le_of_ble_eq_true rfl, Nat.le_of_ble_eq_true rfl⟩) (fun v8 u H locs hz9 hH hS => ?_)
  obtain ⟨rfl, l_v8, u_v8, x_v80⟩ := hz9
  simp only [Int32.toInt_toInt64] at x_v80
  have hH : HT D cs A T O X H := hH
  refine W.widen (k := 0) (n := 0) (Nat.le_of_ble_eq_true rfl) (Nat.le_of_ble_eq_true rfl) ?_
  refine lv_if_ne (tgt := 17) hx hb dX12_parties_11 (by decide) (fun c11 => ?_) (fun c11 => ?_)
  · skip
    have tc11 := f_ne (k := 0) (by decide) c11
    replace x_v80 := x_v80.resolve_left tc11
    refine lv_aload_n hx hb dX12_parties_17 rfl (lv_at hl 0 rfl) ?_
    refine lv_iload_n hx hb dX12_parties_18 rfl (lv_at hl 1 rfl) ?_
    refine tk_v hH hS hA (tr_V (n := 1) (As := [.int x1]) hx hb hml hown hts hkb hH hOX hks hE hS hA (s_M_laysGuide l D cs kf T O X a0 hg mq x1 t_a0 b_hg (by omega) (by omega) (hO.sub (by decide))) kw_1502 kw_1504 ks_71 kw_13 kw_1505 (by decide +kernel) ⟨Nat.le_of_ble_eq_true rfl, Nat.le_of_ble_eq_true rfl⟩ (HT.recv (ci := 12) hkb hH t_a0 (hO.no t_a0 (by decide)) rfl) rfl rfl hl.1 (Nat.le_of_ble_eq_true rfl) dX12_parties_19 ⟨Nat.le_of_ble_eq_true rfl, Nat.le_of_ble_eq_true rfl⟩) (fun u H locs hz9 hH hS => ?_)
    have hz9 : u = (T, O, X) := hz9
    subst hz9
    have hH : HT D cs A T O X H := hH
    refine W.widen (k := 0) (n := 0) (Nat.le_of_ble_eq_true rfl) (Nat.le_of_ble_eq_true rfl) ?_
    refine lv_aload_n hx hb dX12_parties_22 rfl (lv_at hl 0 rfl) ?_
    refine lv_aload_n hx hb dX12_parties_23 rfl (lv_at hl 0 rfl) ?_
    refine tk_i hH hS hA (tr_V (n := 0) (As := []) hx hb hml hown hts hkb hH hOX hks hE hS hA (s_M_openSet l D cs kf T O X a0 hg mq t_a0 b_hg (hO.sub (by decide))) kw_1510 kw_1512 ks_73 kw_13 kw_1513 (by decide +kernel) ⟨Nat.le_of_ble_eq_true rfl, Nat.le_of_ble_eq_true rfl⟩ (HT.recv (ci := 12) hkb hH t_a0 (hO.no t_a0 (by decide)) rfl) rfl rfl hl.1 (Nat.le_of_ble_eq_true rfl) dX12_parties_24 ⟨Nat.le_of_ble_eq_true rfl, Nat.le_of_ble_eq_true rfl⟩) (fun v24 u H locs hz9 hH hS => ?_)
    obtain ⟨rfl, l_v24, u_v24⟩ := hz9
    have hH : HT D cs A T O X H := hH
    refine W.widen (k := 0) (n := 0) (Nat.le_of_ble_eq_true rfl) (Nat.le_of_ble_eq_true rfl) ?_
    refine tk_i hH hS hA (tr_V (n := 1) (As := [.int v24]) hx hb hml hown hts hkb hH hOX hks hE hS hA (s_M_partiesBy l D cs kf T O X a0 hg mq v24 t_a0 b_hg (by omega) (by omega) (hO.sub (by decide))) kw_1652 kw_1654 ks_92 kw_13 kw_1655 (by decide +kernel) ⟨Nat.le_of_ble_eq_true rfl, Nat.le_of_ble_eq_true rfl⟩ (HT.recv (ci := 12) hkb hH t_a0 (hO.no t_a0 (by decide)) rfl) rfl rfl hl.1 (Nat.le_of_ble_eq_true rfl) dX12_parties_27 ⟨Nat.le_of_ble_eq_true rfl, Nat.le_of_ble_eq_true rfl⟩) (fun v27 u H locs hz9 hH hS => ?_)
    have hz9 : u = (T, O, X) := hz9
    subst hz9
    have hH : HT D cs A T O X H := hH
    refine W.widen (k := 0) (n := 0) (Nat.le_of_ble_eq_true rfl) (Nat.le_of_ble_eq_true rfl) ?_
    exact te_i hx hb hr hlocks hH hS (rfl) dX12_parties_30
  · skip
    have tc11 := f_eq (k := 0) (by decide) c11
    clear x_v80
    refine lv_bipush (v := (-2)) hx hb dX12_parties_14 (by decide) ?_
    exact te_i hx hb hr hlocks hH hS (rfl) dX12_parties_16
set_option maxHeartbeats 4000000 in
set_option maxRecDepth 100000 in
theorem s_M_shut (l : Launch) (D : va_G) (cs : CS) (kf : KF) (T : TF) (O : List Nat) (X : va_W) (a0 hg mq : Nat) (x1 : Int32) (x2 : Int32) (t_a0 : T a0 = some (22, hg, mq)) (b_hg : hg < 90) (hO : okO T O [1, 8, 9, 22]) : TK l D cs kf yX12_shut cX12_shut 4 (some (.int)) { frames := 5, cells := 0, slots := 0, locals := 119 } [.ref a0, .int x1, .int x2] T O X (Ti D cs (fun r u => u = (T, O, X))) := by
  refine tk_of (by decide) (Nat.le_of_ble_eq_true rfl) (fun p e s m below meth c ls A H locs hx hb hr hml hown hts hlocks hnm hkb hH hS hA hOX hks hE hl => ?_)
  have hown : s.vm.findClass RX12 = some m.cls := hown
  have hl : lv_has ls 4 [(0, .ref a0), (1, .int x1), (2, .int x2)] := hl
  refine lv_aload_n hx hb dX12_shut_0 rfl (lv_at hl 0 rfl) ?_
  refine lv_iconst (v := 0) hx hb dX12_shut_1 (by decide) ?_
  refine t_put (ci := 12) (lst := ft12 hg mq) (v := .int 0) (ty := tyX12 0) (C := RX12) (F := TX12) (N := 36) hx hb hts uX12 tyX12 tyX12_ok nmX12 hown hkb hH hS t_a0 (hO.no t_a0 (by decide)) (fun _ => Iff.rfl) rfl rfl 0 (by decide) rfl (⟨_, rfl⟩) kw_1223 (fun _ h9 => h9) rfl (tyX12_ok 0 (by decide)) rfl rfl dX12_shut_2 (fun H locs hH hS => ?_)
  refine lv_aload_n hx hb dX12_shut_5 rfl (lv_at hl 0 rfl) ?_
  refine lv_iload_n hx hb dX12_shut_6 rfl (lv_at hl 1 rfl) ?_
  refine lv_i2l hx hb dX12_shut_7 rfl ?_
  refine tk_i hH hS hA (tr_V (n := 1) (As := [.long x1.toInt64]) hx hb hml hown hts hkb hH hOX hks hE hS hA (s_M_isGuide l D cs kf T O X a0 hg mq x1.toInt64 t_a0 b_hg (hO.sub (by decide))) kw_1470 kw_1472 ks_67 kw_13 kw_1473 (by decide +kernel) ⟨Nat.le_of_ble_eq_true rfl, Nat.le_of_ble_eq_true rfl⟩ (HT.recv (ci := 12) hkb hH t_a0 (hO.no t_a0 (by decide)) rfl) rfl rfl hl.1 (Nat.le_of_ble_eq_true rfl) dX12_shut_8 ⟨Nat.le_of_ble_eq_true rfl, Nat.le_of_ble_eq_true rfl⟩) (fun v8 u H locs hz9 hH hS => ?_)
  obtain ⟨rfl, l_v8, u_v8, x_v80⟩ := hz9
  simp only [Int32.toInt_toInt64] at x_v80
  have hH : HT D cs A T O X H := hH
  refine W.widen (k := 0) (n := 0) (Nat.le_of_ble_eq_true rfl) (Nat.le_of_ble_eq_true rfl) ?_
  have J24 : ∀  (H : Heap) (locs : List Loc) (ls : Array Slot), HT D cs A T O X H → va_S A s.heap H locs → lv_has ls 4 [] → W p l e { frames := 5, cells := 0, slots := 0, locals := 119 } s m [.ref a0, .int x1, .int x2].toArray below meth c H locs 0 0 (MQ below (Ti D cs (fun r u => u = (T, O, X)) A) [.ref a0, .int x1, .int x2].toArray s 0 0 A) (F0 m 24 ls []) := by
    intro  H locs ls  hH hS hl
    refine lv_bipush (v := (-2)) hx hb dX12_shut_24 (by decide) ?_
    exact te_i hx hb hr hlocks hH hS (rfl) dX12_shut_26
  refine lv_if_eq (tgt := 24) hx hb dX12_shut_11 (by decide) (fun c11 => ?_) (fun c11 => ?_)
  · skip
    have tc11 := f_eq (k := 0) (by decide) c11
    clear x_v80
    exact J24  _ _ _  hH hS (lv_sub hl [] rfl)
  · skip
    have tc11 := f_ne (k := 0) (by decide) c11
    replace x_v80 := x_v80.resolve_left tc11
    refine lv_iload_n hx hb dX12_shut_14 rfl (lv_at hl 2 rfl) ?_
    refine lv_i2l hx hb dX12_shut_15 rfl ?_
    refine lv_lconst (v := 0) hx hb dX12_shut_16 (by decide) ?_
    refine lv_lconst (v := 1) hx hb dX12_shut_17 (by decide) ?_
    refine tk_i hH hS hA (tr_S (n := 3) (As := [.long x2.toInt64, .long 0, .long 1]) hx hb hml hown hts hkb hH hOX hks hE hS hA (s_M_within l D cs kf T O X x2.toInt64 0 1  (hO.sub (by decide))) kw_1341 kw_1342 kw_13 kw_1343 (by decide +kernel) ⟨Nat.le_of_ble_eq_true rfl, Nat.le_of_ble_eq_true rfl⟩ rfl rfl hl.1 (Nat.le_of_ble_eq_true rfl) dX12_shut_18 ⟨Nat.le_of_ble_eq_true rfl, Nat.le_of_ble_eq_true rfl⟩) (fun v18 u H locs hz9 hH hS => ?_)
    obtain ⟨rfl, l_v18, u_v18, x_v180, x_v181⟩ := hz9
    simp only [Int32.toInt_toInt64] at x_v180 x_v181
    have k9_0 : (0 : Int64).toInt = 0 := by decide
    have k9_1 : (1 : Int64).toInt = 1 := by decide
    have hH : HT D cs A T O X H := hH
    refine W.widen (k := 0) (n := 0) (Nat.le_of_ble_eq_true rfl) (Nat.le_of_ble_eq_true rfl) ?_
    refine lv_if_ne (tgt := 27) hx hb dX12_shut_21 (by decide) (fun c21 => ?_) (fun c21 => ?_)
    · skip
      have tc21 := f_ne (k := 0) (by decide) c21
      replace x_v180 := x_v180.resolve_left tc21
      clear x_v181
      refine lv_aload_n hx hb dX12_shut_27 rfl (lv_at hl 0 rfl) ?_
      refine lv_iload_n hx hb dX12_shut_28 rfl (lv_at hl 1 rfl) ?_
      refine tk_v hH hS hA (tr_V (n := 1) (As := [.int x1]) hx hb hml hown hts hkb hH hOX hks hE hS hA (s_M_laysGuide l D cs kf T O X a0 hg mq x1 t_a0 b_hg (by omega) (by omega) (hO.sub (by decide))) kw_1502 kw_1504 ks_71 kw_13 kw_1505 (by decide +kernel) ⟨Nat.le_of_ble_eq_true rfl, Nat.le_of_ble_eq_true rfl⟩ (HT.recv (ci := 12) hkb hH t_a0 (hO.no t_a0 (by decide)) rfl) rfl rfl hl.1 (Nat.le_of_ble_eq_true rfl) dX12_shut_29 ⟨Nat.le_of_ble_eq_true rfl, Nat.le_of_ble_eq_true rfl⟩) (fun u H locs hz9 hH hS => ?_)
      have hz9 : u = (T, O, X) := hz9
      subst hz9
      have hH : HT D cs A T O X H := hH
      refine W.widen (k := 0) (n := 0) (Nat.le_of_ble_eq_true rfl) (Nat.le_of_ble_eq_true rfl) ?_
      refine lv_aload_n hx hb dX12_shut_32 rfl (lv_at hl 0 rfl) ?_
      refine lv_aload_n hx hb dX12_shut_33 rfl (lv_at hl 0 rfl) ?_
      refine tk_i hH hS hA (tr_V (n := 0) (As := []) hx hb hml hown hts hkb hH hOX hks hE hS hA (s_M_openSet l D cs kf T O X a0 hg mq t_a0 b_hg (hO.sub (by decide))) kw_1510 kw_1512 ks_73 kw_13 kw_1513 (by decide +kernel) ⟨Nat.le_of_ble_eq_true rfl, Nat.le_of_ble_eq_true rfl⟩ (HT.recv (ci := 12) hkb hH t_a0 (hO.no t_a0 (by decide)) rfl) rfl rfl hl.1 (Nat.le_of_ble_eq_true rfl) dX12_shut_34 ⟨Nat.le_of_ble_eq_true rfl, Nat.le_of_ble_eq_true rfl⟩) (fun v34 u H locs hz9 hH hS => ?_)
      obtain ⟨rfl, l_v34, u_v34⟩ := hz9
      have hH : HT D cs A T O X H := hH
      refine W.widen (k := 0) (n := 0) (Nat.le_of_ble_eq_true rfl) (Nat.le_of_ble_eq_true rfl) ?_
      refine tk_i hH hS hA (tr_V (n := 1) (As := [.int v34]) hx hb hml hown hts hkb hH hOX hks hE hS hA (s_M_cutOf l D cs kf T O X a0 hg mq v34 t_a0 b_hg (by omega) (by omega) (hO.sub (by decide))) kw_1656 kw_1658 ks_93 kw_13 kw_1659 (by decide +kernel) ⟨Nat.le_of_ble_eq_true rfl, Nat.le_of_ble_eq_true rfl⟩ (HT.recv (ci := 12) hkb hH t_a0 (hO.no t_a0 (by decide)) rfl) rfl rfl hl.1 (Nat.le_of_ble_eq_true rfl) dX12_shut_37 ⟨Nat.le_of_ble_eq_true rfl, Nat.le_of_ble_eq_true rfl⟩) (fun v37 u H locs hz9 hH hS => ?_)
      obtain ⟨rfl, l_v37, u_v37⟩ := hz9
      have hH : HT D cs A T O X H := hH
      refine W.widen (k := 0) (n := 0) (Nat.le_of_ble_eq_true rfl) (Nat.le_of_ble_eq_true rfl) ?_
      refine lv_istore_n (lv' := [(3, .int v37), (0, .ref a0), (1, .int x1), (2, .int x2)]) hx hb dX12_shut_40 rfl hl (by decide) rfl (fun ls hl => ?_)
      refine lv_iload_n hx hb dX12_shut_41 rfl (lv_at hl 0 rfl) ?_
      refine lv_iconst (v := (-1)) hx hb dX12_shut_42 (by decide) ?_
      have J59 : ∀ (k59_0 : Int32) (H : Heap) (locs : List Loc) (ls : Array Slot), HT D cs A T O X H → va_S A s.heap H locs → lv_has ls 4 [] → W p l e { frames := 5, cells := 0, slots := 0, locals := 119 } s m [.ref a0, .int x1, .int x2].toArray below meth c H locs 0 0 (MQ below (Ti D cs (fun r u => u = (T, O, X)) A) [.ref a0, .int x1, .int x2].toArray s 0 0 A) (F0 m 59 ls [.int k59_0]) := by
        intro k59_0 H locs ls  hH hS hl
        exact te_i hx hb hr hlocks hH hS (rfl) dX12_shut_59
      have J51 : ∀  (H : Heap) (locs : List Loc) (ls : Array Slot), HT D cs A T O X H → va_S A s.heap H locs → lv_has ls 4 [(3, .int v37)] → W p l e { frames := 5, cells := 0, slots := 0, locals := 119 } s m [.ref a0, .int x1, .int x2].toArray below meth c H locs 0 0 (MQ below (Ti D cs (fun r u => u = (T, O, X)) A) [.ref a0, .int x1, .int x2].toArray s 0 0 A) (F0 m 51 ls []) := by
        intro  H locs ls  hH hS hl
        refine lv_iload_n hx hb dX12_shut_51 rfl (lv_at hl 0 rfl) ?_
        refine lv_goto (tgt := 59) hx hb dX12_shut_52 (by decide) ?_
        exact J59 v37 _ _ _  hH hS (lv_sub hl [] rfl)
      refine lv_icmp_eq (tgt := 51) hx hb dX12_shut_43 (by decide) (fun c43 => ?_) (fun c43 => ?_)
      · skip
        have tc43 := f_eq (k := -1) (by decide) c43
        exact J51  _ _ _  hH hS (lv_sub hl [0] rfl)
      · skip
        have tc43 := f_ne (k := -1) (by decide) c43
        refine lv_iload_n hx hb dX12_shut_46 rfl (lv_at hl 3 rfl) ?_
        refine lv_iconst (v := 1) hx hb dX12_shut_47 (by decide) ?_
        refine lv_icmp_ne (tgt := 55) hx hb dX12_shut_48 (by decide) (fun c48 => ?_) (fun c48 => ?_)
        · skip
          have tc48 := f_ne (k := 1) (by decide) c48
          refine lv_iload_n hx hb dX12_shut_55 rfl (lv_at hl 0 rfl) ?_
          refine tk_i hH hS hA (tr_S (n := 1) (As := [.int v37]) hx hb hml hown hts hkb hH hOX hks hE hS hA (s_M_bitsOf l D cs kf T O X v37  (hO.sub (by decide))) kw_1631 kw_1632 kw_13 kw_1633 (by decide +kernel) ⟨Nat.le_of_ble_eq_true rfl, Nat.le_of_ble_eq_true rfl⟩ rfl rfl hl.1 (Nat.le_of_ble_eq_true rfl) dX12_shut_56 ⟨Nat.le_of_ble_eq_true rfl, Nat.le_of_ble_eq_true rfl⟩) (fun v56 u H locs hz9 hH hS => ?_)
          have hz9 : u = (T, O, X) := hz9
          subst hz9
          have hH : HT D cs A T O X H := hH
          refine W.widen (k := 0) (n := 0) (Nat.le_of_ble_eq_true rfl) (Nat.le_of_ble_eq_true rfl) ?_
          exact J59 v56 _ _ _  hH hS (lv_sub hl [] rfl)
        · skip
          have tc48 := f_eq (k := 1) (by decide) c48
          exact J51  _ _ _  hH hS (lv_sub hl [0] rfl)
    · skip
      have tc21 := f_eq (k := 0) (by decide) c21
      clear x_v180
      replace x_v181 := x_v181.resolve_left (fun q9 => q9 tc21)
      exact J24  _ _ _  hH hS (lv_sub hl [] rfl)
set_option maxHeartbeats 4000000 in
set_option maxRecDepth 100000 in
theorem s_M_neededBy (l : Launch) (D : va_G) (cs : CS) (kf : KF) (T : TF) (O : List Nat) (X : va_W) (a0 hg mq : Nat) (x1 : Int32) (t_a0 : T a0 = some (22, hg, mq)) (b_hg : hg < 90) (l_x1 : 0 ≤ x1.toInt) (u_x1 : x1.toInt ≤ 4) (hO : okO T O [1, 8, 9, 22]) : TK l D cs kf yX12_neededBy cX12_neededBy 5 (some (.int)) { frames := 5, cells := 0, slots := 0, locals := 119 } [.ref a0, .int x1] T O X (Ti D cs (fun r u => u = (T, O, X) ∧ 0 ≤ r.toInt ∧ r.toInt ≤ 16383)) := by
  refine tk_of (by decide) (Nat.le_of_ble_eq_true rfl) (fun p e s m below meth c ls A H locs hx hb hr hml hown hts hlocks hnm hkb hH hS hA hOX hks hE hl => ?_)
  have hown : s.vm.findClass RX12 = some m.cls := hown
  have hl : lv_has ls 5 [(0, .ref a0), (1, .int x1)] := hl
  refine lv_aload_n hx hb dX12_neededBy_0 rfl (lv_at hl 0 rfl) ?_
  refine lv_iload_n hx hb dX12_neededBy_1 rfl (lv_at hl 1 rfl) ?_
  refine tk_v hH hS hA (tr_V (n := 1) (As := [.int x1]) hx hb hml hown hts hkb hH hOX hks hE hS hA (s_M_laysGuide l D cs kf T O X a0 hg mq x1 t_a0 b_hg (by omega) (by omega) (hO.sub (by decide))) kw_1502 kw_1504 ks_71 kw_13 kw_1505 (by decide +kernel) ⟨Nat.le_of_ble_eq_true rfl, Nat.le_of_ble_eq_true rfl⟩ (HT.recv (ci := 12) hkb hH t_a0 (hO.no t_a0 (by decide)) rfl) rfl rfl hl.1 (Nat.le_of_ble_eq_true rfl) dX12_neededBy_2 ⟨Nat.le_of_ble_eq_true rfl, Nat.le_of_ble_eq_true rfl⟩) (fun u H locs hz9 hH hS => ?_)
  have hz9 : u = (T, O, X) := hz9
  subst hz9
  have hH : HT D cs A T O X H := hH
  refine W.widen (k := 0) (n := 0) (Nat.le_of_ble_eq_true rfl) (Nat.le_of_ble_eq_true rfl) ?_
  refine lv_aload_n hx hb dX12_neededBy_5 rfl (lv_at hl 0 rfl) ?_
  refine tk_i hH hS hA (tr_V (n := 0) (As := []) hx hb hml hown hts hkb hH hOX hks hE hS hA (s_M_openSet l D cs kf T O X a0 hg mq t_a0 b_hg (hO.sub (by decide))) kw_1510 kw_1512 ks_73 kw_13 kw_1513 (by decide +kernel) ⟨Nat.le_of_ble_eq_true rfl, Nat.le_of_ble_eq_true rfl⟩ (HT.recv (ci := 12) hkb hH t_a0 (hO.no t_a0 (by decide)) rfl) rfl rfl hl.1 (Nat.le_of_ble_eq_true rfl) dX12_neededBy_6 ⟨Nat.le_of_ble_eq_true rfl, Nat.le_of_ble_eq_true rfl⟩) (fun v6 u H locs hz9 hH hS => ?_)
  obtain ⟨rfl, l_v6, u_v6⟩ := hz9
  have hH : HT D cs A T O X H := hH
  refine W.widen (k := 0) (n := 0) (Nat.le_of_ble_eq_true rfl) (Nat.le_of_ble_eq_true rfl) ?_
  refine lv_istore_n (lv' := [(2, .int v6), (0, .ref a0), (1, .int x1)]) hx hb dX12_neededBy_9 rfl hl (by decide) rfl (fun ls hl => ?_)
  refine lv_iconst (v := 0) hx hb dX12_neededBy_10 (by decide) ?_
  refine lv_istore_n (lv' := [(3, .int 0), (2, .int v6), (0, .ref a0), (1, .int x1)]) hx hb dX12_neededBy_11 rfl hl (by decide) rfl (fun ls hl => ?_)
  refine lv_iconst (v := 0) hx hb dX12_neededBy_12 (by decide) ?_
  have J15 : ∀ (n : Nat) (p15_4 : Int32) (p15_3 : Int32) (H : Heap) (locs : List Loc) (ls : Array Slot), (14 - p15_4.toInt).toNat = n → (0 ≤ p15_4.toInt) → (p15_4.toInt ≤ 14) → (0 ≤ p15_3.toInt) → (p15_3.toInt ≤ 16383) → HT D cs A T O X H → va_S A s.heap H locs → lv_has ls 5 [(4, .int p15_4), (3, .int p15_3), (2, .int v6), (0, .ref a0)] → W p l e { frames := 5, cells := 0, slots := 0, locals := 119 } s m [.ref a0, .int x1].toArray below meth c H locs 0 0 (MQ below (Ti D cs (fun r u => u = (T, O, X) ∧ 0 ≤ r.toInt ∧ r.toInt ≤ 16383) A) [.ref a0, .int x1].toArray s 0 0 A) (F0 m 15 ls []) := by
    intro n
    induction n using Nat.strongRecOn with
    | _ n ih15 =>
      intro p15_4 p15_3 H locs ls hm15 l_p15_4 u_p15_4 l_p15_3 u_p15_3 hH hS hl
      refine lv_iload hx hb dX12_neededBy_15 (lv_at hl 0 rfl) ?_
      refine lv_aload_n hx hb dX12_neededBy_17 rfl (lv_at hl 3 rfl) ?_
      refine t_get (ci := 12) (lst := ft12 hg mq) (C := RX12) (F := TX12) (N := 36) hx hb hts uX12 hown hkb hH t_a0 (hO.no t_a0 (by decide)) (fun _ h9 => h9) rfl rfl 1 (by decide) rfl kw_1224 (fun _ h9 => h9) dX12_neededBy_18 (fun v9 h9 => ?_)
      obtain ⟨v18, rfl, t_v18⟩ := h9
      refine lv_iconst (v := 1) hx hb dX12_neededBy_21 (by decide) ?_
      refine t_ild8 hx hb hkb hH t_v18 (hO.no t_v18 (by decide)) (by decide) (by decide) (by decide) dX12_neededBy_22 (fun v22 h9 h8 => ?_)
      have q9 := (h8 rfl).1 rfl
      subst q9
      have eH9 : (nI (hg / 6)).toInt = (((hg / 6) : Nat) : Int) := nI_toInt (by omega)
      have J79 : ∀  (H : Heap) (locs : List Loc) (ls : Array Slot), HT D cs A T O X H → va_S A s.heap H locs → lv_has ls 5 [(3, .int p15_3)] → W p l e { frames := 5, cells := 0, slots := 0, locals := 119 } s m [.ref a0, .int x1].toArray below meth c H locs 0 0 (MQ below (Ti D cs (fun r u => u = (T, O, X) ∧ 0 ≤ r.toInt ∧ r.toInt ≤ 16383) A) [.ref a0, .int x1].toArray s 0 0 A) (F0 m 79 ls []) := by
        intro  H locs ls  hH hS hl
        refine lv_iload_n hx hb dX12_neededBy_79 rfl (lv_at hl 0 rfl) ?_
        exact te_i hx hb hr hlocks hH hS (⟨rfl, by omega, by omega⟩) dX12_neededBy_80
      refine lv_icmp_ge (tgt := 79) hx hb dX12_neededBy_23 (by decide) (fun c23 => ?_) (fun c23 => ?_)
      · skip
        have fuc23 := full_i p15_4
        have fvc23 := full_i (nI (hg / 6))
        have tc23 := g_le c23
        exact J79  _ _ _  hH hS (lv_sub hl [1] rfl)
      · skip
        have fuc23 := full_i p15_4
        have fvc23 := full_i (nI (hg / 6))
        have tc23 := g_nle c23
        refine lv_aload_n hx hb dX12_neededBy_26 rfl (lv_at hl 3 rfl) ?_
        refine lv_iload_n hx hb dX12_neededBy_27 rfl (lv_at hl 2 rfl) ?_
        refine tk_i hH hS hA (tr_V (n := 1) (As := [.int v6]) hx hb hml hown hts hkb hH hOX hks hE hS hA (s_M_hasClimb l D cs kf T O X a0 hg mq v6 t_a0 b_hg (hO.sub (by decide))) kw_1660 kw_1662 ks_94 kw_13 kw_1663 (by decide +kernel) ⟨Nat.le_of_ble_eq_true rfl, Nat.le_of_ble_eq_true rfl⟩ (HT.recv (ci := 12) hkb hH t_a0 (hO.no t_a0 (by decide)) rfl) rfl rfl hl.1 (Nat.le_of_ble_eq_true rfl) dX12_neededBy_28 ⟨Nat.le_of_ble_eq_true rfl, Nat.le_of_ble_eq_true rfl⟩) (fun v28 u H locs hz9 hH hS => ?_)
        obtain ⟨rfl, l_v28, u_v28⟩ := hz9
        have hH : HT D cs A T O X H := hH
        refine W.widen (k := 0) (n := 0) (Nat.le_of_ble_eq_true rfl) (Nat.le_of_ble_eq_true rfl) ?_
        refine lv_if_eq (tgt := 79) hx hb dX12_neededBy_31 (by decide) (fun c31 => ?_) (fun c31 => ?_)
        · skip
          have tc31 := f_eq (k := 0) (by decide) c31
          exact J79  _ _ _  hH hS (lv_sub hl [1] rfl)
        · skip
          have tc31 := f_ne (k := 0) (by decide) c31
          refine lv_iload_n hx hb dX12_neededBy_34 rfl (lv_at hl 2 rfl) ?_
          refine lv_aload_n hx hb dX12_neededBy_35 rfl (lv_at hl 3 rfl) ?_
          refine tk_i hH hS hA (tr_V (n := 0) (As := []) hx hb hml hown hts hkb hH hOX hks hE hS hA (s_M_ends l D cs kf T O X a0 hg mq t_a0 b_hg (hO.sub (by decide))) kw_1536 kw_1538 ks_78 kw_13 kw_1539 (by decide +kernel) ⟨Nat.le_of_ble_eq_true rfl, Nat.le_of_ble_eq_true rfl⟩ (HT.recv (ci := 12) hkb hH t_a0 (hO.no t_a0 (by decide)) rfl) rfl rfl hl.1 (Nat.le_of_ble_eq_true rfl) dX12_neededBy_36 ⟨Nat.le_of_ble_eq_true rfl, Nat.le_of_ble_eq_true rfl⟩) (fun v36 u H locs hz9 hH hS => ?_)
          obtain ⟨rfl, l_v36, u_v36⟩ := hz9
          have hH : HT D cs A T O X H := hH
          refine W.widen (k := 0) (n := 0) (Nat.le_of_ble_eq_true rfl) (Nat.le_of_ble_eq_true rfl) ?_
          refine lv_iconst (v := (-1)) hx hb dX12_neededBy_39 (by decide) ?_
          refine lv_ixor hx hb dX12_neededBy_40 ?_
          refine lv_topi (fun v40 ev40 => ?_)
          refine lv_iand hx hb dX12_neededBy_41 ?_
          refine lv_topi (fun v41 ev41 => ?_)
          have tv41 : 0 ≤ v41.toInt ∧ v41.toInt ≤ v6.toInt := by rw [ev41]; exact and_l (by omega)
          refine lv_i2l hx hb dX12_neededBy_42 rfl ?_
          refine lv_iload hx hb dX12_neededBy_43 (lv_at hl 0 rfl) ?_
          refine tk_i hH hS hA (tr_S (n := 2) (As := [.long v41.toInt64, .int p15_4]) hx hb hml hown hts hkb hH hOX hks hE hS hA (s_M_isIn2 l D cs kf T O X v41.toInt64 p15_4  (hO.sub (by decide))) kw_1440 kw_1441 kw_13 kw_1442 (by decide +kernel) ⟨Nat.le_of_ble_eq_true rfl, Nat.le_of_ble_eq_true rfl⟩ rfl rfl hl.1 (Nat.le_of_ble_eq_true rfl) dX12_neededBy_45 ⟨Nat.le_of_ble_eq_true rfl, Nat.le_of_ble_eq_true rfl⟩) (fun v45 u H locs hz9 hH hS => ?_)
          obtain ⟨rfl, l_v45, u_v45, x_v450⟩ := hz9
          have hH : HT D cs A T O X H := hH
          refine W.widen (k := 0) (n := 0) (Nat.le_of_ble_eq_true rfl) (Nat.le_of_ble_eq_true rfl) ?_
          have J73 : ∀ (p73_3 : Int32) (H : Heap) (locs : List Loc) (ls : Array Slot), (0 ≤ p73_3.toInt) → (p73_3.toInt ≤ 16383) → HT D cs A T O X H → va_S A s.heap H locs → lv_has ls 5 [(4, .int p15_4), (3, .int p73_3), (2, .int v6), (0, .ref a0)] → W p l e { frames := 5, cells := 0, slots := 0, locals := 119 } s m [.ref a0, .int x1].toArray below meth c H locs 0 0 (MQ below (Ti D cs (fun r u => u = (T, O, X) ∧ 0 ≤ r.toInt ∧ r.toInt ≤ 16383) A) [.ref a0, .int x1].toArray s 0 0 A) (F0 m 73 ls []) := by
            intro p73_3 H locs ls l_p73_3 u_p73_3 hH hS hl
            obtain ⟨v73, ev73⟩ : ∃ y : Int32, y = p15_4 + 1 := ⟨_, rfl⟩
            have tv73 : v73.toInt = p15_4.toInt + (1) := by rw [ev73]; exact add_i rfl (by decide) (by omega) (by omega)
            refine lv_iinc (v := v73) (lv' := [(4, .int v73), (3, .int p73_3), (2, .int v6), (0, .ref a0)]) hx hb dX12_neededBy_73 hl (k := 0) rfl (by rw [ev73]; rfl) (by decide) rfl (fun ls hl => ?_)
            refine lv_goto (tgt := 15) hx hb dX12_neededBy_76 (by decide) ?_
            exact ih15 _ (by omega) v73 p73_3 _ _ _ rfl (by omega) (by omega) (by omega) (by omega) hH hS (lv_sub hl [0, 1, 2, 3] rfl)
          refine lv_if_eq (tgt := 73) hx hb dX12_neededBy_48 (by decide) (fun c48 => ?_) (fun c48 => ?_)
          · skip
            have tc48 := f_eq (k := 0) (by decide) c48
            exact J73 p15_3 _ _ _ (by omega) (by omega) hH hS (lv_sub hl [0, 1, 2, 3] rfl)
          · skip
            have tc48 := f_ne (k := 0) (by decide) c48
            refine lv_aload_n hx hb dX12_neededBy_51 rfl (lv_at hl 3 rfl) ?_
            refine lv_iload_n hx hb dX12_neededBy_52 rfl (lv_at hl 2 rfl) ?_
            refine lv_iconst (v := 1) hx hb dX12_neededBy_53 (by decide) ?_
            refine lv_iload hx hb dX12_neededBy_54 (lv_at hl 0 rfl) ?_
            refine lv_ishl hx hb dX12_neededBy_56 ?_
            refine lv_topi (fun v56 ev56 => ?_)
            have tv56 : 1 ≤ v56.toInt ∧ v56.toInt ≤ 8192 := by rw [ev56]; exact shl_b 13 (by decide) (by omega) (by omega)
            refine lv_iconst (v := (-1)) hx hb dX12_neededBy_57 (by decide) ?_
            refine lv_ixor hx hb dX12_neededBy_58 ?_
            refine lv_topi (fun v58 ev58 => ?_)
            refine lv_iand hx hb dX12_neededBy_59 ?_
            refine lv_topi (fun v59 ev59 => ?_)
            have tv59 : 0 ≤ v59.toInt ∧ v59.toInt ≤ v6.toInt := by rw [ev59]; exact and_l (by omega)
            refine tk_i hH hS hA (tr_V (n := 1) (As := [.int v59]) hx hb hml hown hts hkb hH hOX hks hE hS hA (s_M_hasClimb l D cs kf T O X a0 hg mq v59 t_a0 b_hg (hO.sub (by decide))) kw_1660 kw_1662 ks_94 kw_13 kw_1663 (by decide +kernel) ⟨Nat.le_of_ble_eq_true rfl, Nat.le_of_ble_eq_true rfl⟩ (HT.recv (ci := 12) hkb hH t_a0 (hO.no t_a0 (by decide)) rfl) rfl rfl hl.1 (Nat.le_of_ble_eq_true rfl) dX12_neededBy_60 ⟨Nat.le_of_ble_eq_true rfl, Nat.le_of_ble_eq_true rfl⟩) (fun v60 u H locs hz9 hH hS => ?_)
            obtain ⟨rfl, l_v60, u_v60⟩ := hz9
            have hH : HT D cs A T O X H := hH
            refine W.widen (k := 0) (n := 0) (Nat.le_of_ble_eq_true rfl) (Nat.le_of_ble_eq_true rfl) ?_
            refine lv_if_ne (tgt := 73) hx hb dX12_neededBy_63 (by decide) (fun c63 => ?_) (fun c63 => ?_)
            · skip
              have tc63 := f_ne (k := 0) (by decide) c63
              exact J73 p15_3 _ _ _ (by omega) (by omega) hH hS (lv_sub hl [0, 1, 2, 3] rfl)
            · skip
              have tc63 := f_eq (k := 0) (by decide) c63
              refine lv_iload_n hx hb dX12_neededBy_66 rfl (lv_at hl 1 rfl) ?_
              refine lv_iconst (v := 1) hx hb dX12_neededBy_67 (by decide) ?_
              refine lv_iload hx hb dX12_neededBy_68 (lv_at hl 0 rfl) ?_
              refine lv_ishl hx hb dX12_neededBy_70 ?_
              refine lv_topi (fun v70 ev70 => ?_)
              have tv70 : 1 ≤ v70.toInt ∧ v70.toInt ≤ 8192 := by rw [ev70]; exact shl_b 13 (by decide) (by omega) (by omega)
              refine lv_ior hx hb dX12_neededBy_71 ?_
              refine lv_topi (fun v71 ev71 => ?_)
              have tv71 : 0 ≤ v71.toInt ∧ v71.toInt < 16384 := by rw [ev71]; exact or_b 14 (by decide) (by omega) (by omega) (by omega) (by omega)
              refine lv_istore_n (lv' := [(3, .int v71), (4, .int p15_4), (2, .int v6), (0, .ref a0)]) hx hb dX12_neededBy_72 rfl hl (by decide) rfl (fun ls hl => ?_)
              exact J73 v71 _ _ _ (by omega) (by omega) hH hS (lv_sub hl [1, 0, 2, 3] rfl)
  refine lv_istore (lv' := [(4, .int 0), (3, .int 0), (2, .int v6), (0, .ref a0), (1, .int x1)]) hx hb dX12_neededBy_13 hl (by decide) rfl (fun ls hl => ?_)
  exact J15 _ 0 0 _ _ _ rfl (by decide) (by decide) (by decide) (by decide) hH hS (lv_sub hl [0, 1, 2, 3] rfl)
set_option maxHeartbeats 4000000 in
set_option maxRecDepth 100000 in
theorem s_M_needed (l : Launch) (D : va_G) (cs : CS) (kf : KF) (T : TF) (O : List Nat) (X : va_W) (a0 hg mq : Nat) (x1 : Int32) (t_a0 : T a0 = some (22, hg, mq)) (b_hg : hg < 90) (hO : okO T O [1, 8, 9, 22]) : TK l D cs kf yX12_needed cX12_needed 2 (some (.int)) { frames := 6, cells := 0, slots := 0, locals := 143 } [.ref a0, .int x1] T O X (Ti D cs (fun r u => u = (T, O, X) ∧ -2 ≤ r.toInt ∧ r.toInt ≤ 16383)) := by
  refine tk_of (by decide) (Nat.le_of_ble_eq_true rfl) (fun p e s m below meth c ls A H locs hx hb hr hml hown hts hlocks hnm hkb hH hS hA hOX hks hE hl => ?_)
  have hown : s.vm.findClass RX12 = some m.cls := hown
  have hl : lv_has ls 2 [(0, .ref a0), (1, .int x1)] := hl
  refine lv_aload_n hx hb dX12_needed_0 rfl (lv_at hl 0 rfl) ?_
  refine lv_iconst (v := 0) hx hb dX12_needed_1 (by decide) ?_
  refine t_put (ci := 12) (lst := ft12 hg mq) (v := .int 0) (ty := tyX12 0) (C := RX12) (F := TX12) (N := 36) hx hb hts uX12 tyX12 tyX12_ok nmX12 hown hkb hH hS t_a0 (hO.no t_a0 (by decide)) (fun _ => Iff.rfl) rfl rfl 0 (by decide) rfl (⟨_, rfl⟩) kw_1223 (fun _ h9 => h9) rfl (tyX12_ok 0 (by decide)) rfl rfl dX12_needed_2 (fun H locs hH hS => ?_)
  refine lv_aload_n hx hb dX12_needed_5 rfl (lv_at hl 0 rfl) ?_
  refine lv_iload_n hx hb dX12_needed_6 rfl (lv_at hl 1 rfl) ?_
  refine lv_i2l hx hb dX12_needed_7 rfl ?_
  refine tk_i hH hS hA (tr_V (n := 1) (As := [.long x1.toInt64]) hx hb hml hown hts hkb hH hOX hks hE hS hA (s_M_isGuide l D cs kf T O X a0 hg mq x1.toInt64 t_a0 b_hg (hO.sub (by decide))) kw_1470 kw_1472 ks_67 kw_13 kw_1473 (by decide +kernel) ⟨Nat.le_of_ble_eq_true rfl, Nat.le_of_ble_eq_true rfl⟩ (HT.recv (ci := 12) hkb hH t_a0 (hO.no t_a0 (by decide)) rfl) rfl rfl hl.1 (Nat.le_of_ble_eq_true rfl) dX12_needed_8 ⟨Nat.le_of_ble_eq_true rfl, Nat.le_of_ble_eq_true rfl⟩) (fun v8 u H locs hz9 hH hS => ?_)
  obtain ⟨rfl, l_v8, u_v8, x_v80⟩ := hz9
  simp only [Int32.toInt_toInt64] at x_v80
  have hH : HT D cs A T O X H := hH
  refine W.widen (k := 0) (n := 0) (Nat.le_of_ble_eq_true rfl) (Nat.le_of_ble_eq_true rfl) ?_
  have J24 : ∀ (k24_0 : Int32) (H : Heap) (locs : List Loc) (ls : Array Slot), (-2 ≤ k24_0.toInt) → (k24_0.toInt ≤ 16383) → HT D cs A T O X H → va_S A s.heap H locs → lv_has ls 2 [] → W p l e { frames := 6, cells := 0, slots := 0, locals := 143 } s m [.ref a0, .int x1].toArray below meth c H locs 0 0 (MQ below (Ti D cs (fun r u => u = (T, O, X) ∧ -2 ≤ r.toInt ∧ r.toInt ≤ 16383) A) [.ref a0, .int x1].toArray s 0 0 A) (F0 m 24 ls [.int k24_0]) := by
    intro k24_0 H locs ls l_k24_0 u_k24_0 hH hS hl
    exact te_i hx hb hr hlocks hH hS (⟨rfl, by omega, by omega⟩) dX12_needed_24
  refine lv_if_eq (tgt := 22) hx hb dX12_needed_11 (by decide) (fun c11 => ?_) (fun c11 => ?_)
  · skip
    have tc11 := f_eq (k := 0) (by decide) c11
    clear x_v80
    refine lv_bipush (v := (-2)) hx hb dX12_needed_22 (by decide) ?_
    exact J24 (-2) _ _ _ (by decide) (by decide) hH hS (lv_sub hl [] rfl)
  · skip
    have tc11 := f_ne (k := 0) (by decide) c11
    replace x_v80 := x_v80.resolve_left tc11
    refine lv_aload_n hx hb dX12_needed_14 rfl (lv_at hl 0 rfl) ?_
    refine lv_iload_n hx hb dX12_needed_15 rfl (lv_at hl 1 rfl) ?_
    refine tk_i hH hS hA (tr_V (n := 1) (As := [.int x1]) hx hb hml hown hts hkb hH hOX hks hE hS hA (s_M_neededBy l D cs kf T O X a0 hg mq x1 t_a0 b_hg (by omega) (by omega) (hO.sub (by decide))) kw_1672 kw_1674 ks_95 kw_13 kw_1675 (by decide +kernel) ⟨Nat.le_of_ble_eq_true rfl, Nat.le_of_ble_eq_true rfl⟩ (HT.recv (ci := 12) hkb hH t_a0 (hO.no t_a0 (by decide)) rfl) rfl rfl hl.1 (Nat.le_of_ble_eq_true rfl) dX12_needed_16 ⟨Nat.le_of_ble_eq_true rfl, Nat.le_of_ble_eq_true rfl⟩) (fun v16 u H locs hz9 hH hS => ?_)
    obtain ⟨rfl, l_v16, u_v16⟩ := hz9
    have hH : HT D cs A T O X H := hH
    refine W.widen (k := 0) (n := 0) (Nat.le_of_ble_eq_true rfl) (Nat.le_of_ble_eq_true rfl) ?_
    refine lv_goto (tgt := 24) hx hb dX12_needed_19 (by decide) ?_
    exact J24 v16 _ _ _ (by omega) (by omega) hH hS (lv_sub hl [] rfl)
set_option maxHeartbeats 4000000 in
set_option maxRecDepth 100000 in
theorem s_M_needers (l : Launch) (D : va_G) (cs : CS) (kf : KF) (T : TF) (O : List Nat) (X : va_W) (a0 hg mq : Nat) (x1 : Int32) (t_a0 : T a0 = some (22, hg, mq)) (b_hg : hg < 90) (hO : okO T O [1, 8, 9, 22]) : TK l D cs kf yX12_needers cX12_needers 4 (some (.int)) { frames := 6, cells := 0, slots := 0, locals := 143 } [.ref a0, .int x1] T O X (Ti D cs (fun r u => u = (T, O, X) ∧ -2 ≤ r.toInt ∧ r.toInt ≤ 16383)) := by
  refine tk_of (by decide) (Nat.le_of_ble_eq_true rfl) (fun p e s m below meth c ls A H locs hx hb hr hml hown hts hlocks hnm hkb hH hS hA hOX hks hE hl => ?_)
  have hown : s.vm.findClass RX12 = some m.cls := hown
  have hl : lv_has ls 4 [(0, .ref a0), (1, .int x1)] := hl
  refine lv_aload_n hx hb dX12_needers_0 rfl (lv_at hl 0 rfl) ?_
  refine lv_iconst (v := 0) hx hb dX12_needers_1 (by decide) ?_
  refine t_put (ci := 12) (lst := ft12 hg mq) (v := .int 0) (ty := tyX12 0) (C := RX12) (F := TX12) (N := 36) hx hb hts uX12 tyX12 tyX12_ok nmX12 hown hkb hH hS t_a0 (hO.no t_a0 (by decide)) (fun _ => Iff.rfl) rfl rfl 0 (by decide) rfl (⟨_, rfl⟩) kw_1223 (fun _ h9 => h9) rfl (tyX12_ok 0 (by decide)) rfl rfl dX12_needers_2 (fun H locs hH hS => ?_)
  refine lv_aload_n hx hb dX12_needers_5 rfl (lv_at hl 0 rfl) ?_
  refine lv_iload_n hx hb dX12_needers_6 rfl (lv_at hl 1 rfl) ?_
  refine lv_i2l hx hb dX12_needers_7 rfl ?_
  refine tk_i hH hS hA (tr_V (n := 1) (As := [.long x1.toInt64]) hx hb hml hown hts hkb hH hOX hks hE hS hA (s_M_isHold l D cs kf T O X a0 hg mq x1.toInt64 t_a0 b_hg (hO.sub (by decide))) kw_1454 kw_1456 ks_64 kw_13 kw_1457 (by decide +kernel) ⟨Nat.le_of_ble_eq_true rfl, Nat.le_of_ble_eq_true rfl⟩ (HT.recv (ci := 12) hkb hH t_a0 (hO.no t_a0 (by decide)) rfl) rfl rfl hl.1 (Nat.le_of_ble_eq_true rfl) dX12_needers_8 ⟨Nat.le_of_ble_eq_true rfl, Nat.le_of_ble_eq_true rfl⟩) (fun v8 u H locs hz9 hH hS => ?_)
  obtain ⟨rfl, l_v8, u_v8, x_v80⟩ := hz9
  simp only [Int32.toInt_toInt64] at x_v80
  have hH : HT D cs A T O X H := hH
  refine W.widen (k := 0) (n := 0) (Nat.le_of_ble_eq_true rfl) (Nat.le_of_ble_eq_true rfl) ?_
  refine lv_if_ne (tgt := 17) hx hb dX12_needers_11 (by decide) (fun c11 => ?_) (fun c11 => ?_)
  · skip
    have tc11 := f_ne (k := 0) (by decide) c11
    replace x_v80 := x_v80.resolve_left tc11
    refine lv_iconst (v := 0) hx hb dX12_needers_17 (by decide) ?_
    refine lv_istore_n (lv' := [(2, .int 0), (0, .ref a0), (1, .int x1)]) hx hb dX12_needers_18 rfl hl (by decide) rfl (fun ls hl => ?_)
    refine lv_iconst (v := 0) hx hb dX12_needers_19 (by decide) ?_
    have J21 : ∀ (n : Nat) (p21_3 : Int32) (p21_2 : Int32) (H : Heap) (locs : List Loc) (ls : Array Slot), (5 - p21_3.toInt).toNat = n → (0 ≤ p21_3.toInt) → (p21_3.toInt ≤ 5) → (0 ≤ p21_2.toInt) → (p21_2.toInt ≤ 16383) → HT D cs A T O X H → va_S A s.heap H locs → lv_has ls 4 [(3, .int p21_3), (2, .int p21_2), (0, .ref a0), (1, .int x1)] → W p l e { frames := 6, cells := 0, slots := 0, locals := 143 } s m [.ref a0, .int x1].toArray below meth c H locs 0 0 (MQ below (Ti D cs (fun r u => u = (T, O, X) ∧ -2 ≤ r.toInt ∧ r.toInt ≤ 16383) A) [.ref a0, .int x1].toArray s 0 0 A) (F0 m 21 ls []) := by
      intro n
      induction n using Nat.strongRecOn with
      | _ n ih21 =>
        intro p21_3 p21_2 H locs ls hm21 l_p21_3 u_p21_3 l_p21_2 u_p21_2 hH hS hl
        refine lv_iload_n hx hb dX12_needers_21 rfl (lv_at hl 0 rfl) ?_
        refine lv_aload_n hx hb dX12_needers_22 rfl (lv_at hl 2 rfl) ?_
        refine t_get (ci := 12) (lst := ft12 hg mq) (C := RX12) (F := TX12) (N := 36) hx hb hts uX12 hown hkb hH t_a0 (hO.no t_a0 (by decide)) (fun _ h9 => h9) rfl rfl 1 (by decide) rfl kw_1224 (fun _ h9 => h9) dX12_needers_23 (fun v9 h9 => ?_)
        obtain ⟨v23, rfl, t_v23⟩ := h9
        refine lv_iconst (v := 2) hx hb dX12_needers_26 (by decide) ?_
        refine t_ild8 hx hb hkb hH t_v23 (hO.no t_v23 (by decide)) (by decide) (by decide) (by decide) dX12_needers_27 (fun v27 h9 h8 => ?_)
        have q9 := (h8 rfl).2 rfl
        subst q9
        have eG9 : (nI (hg % 6)).toInt = (((hg % 6) : Nat) : Int) := nI_toInt (by omega)
        refine lv_icmp_ge (tgt := 60) hx hb dX12_needers_28 (by decide) (fun c28 => ?_) (fun c28 => ?_)
        · skip
          have fuc28 := full_i p21_3
          have fvc28 := full_i (nI (hg % 6))
          have tc28 := g_le c28
          refine lv_iload_n hx hb dX12_needers_60 rfl (lv_at hl 1 rfl) ?_
          exact te_i hx hb hr hlocks hH hS (⟨rfl, by omega, by omega⟩) dX12_needers_61
        · skip
          have fuc28 := full_i p21_3
          have fvc28 := full_i (nI (hg % 6))
          have tc28 := g_nle c28
          refine lv_iload_n hx hb dX12_needers_31 rfl (lv_at hl 1 rfl) ?_
          refine lv_aload_n hx hb dX12_needers_32 rfl (lv_at hl 2 rfl) ?_
          refine lv_iload_n hx hb dX12_needers_33 rfl (lv_at hl 0 rfl) ?_
          refine tk_i hH hS hA (tr_V (n := 1) (As := [.int p21_3]) hx hb hml hown hts hkb hH hOX hks hE hS hA (s_M_neededBy l D cs kf T O X a0 hg mq p21_3 t_a0 b_hg (by omega) (by omega) (hO.sub (by decide))) kw_1672 kw_1674 ks_95 kw_13 kw_1675 (by decide +kernel) ⟨Nat.le_of_ble_eq_true rfl, Nat.le_of_ble_eq_true rfl⟩ (HT.recv (ci := 12) hkb hH t_a0 (hO.no t_a0 (by decide)) rfl) rfl rfl hl.1 (Nat.le_of_ble_eq_true rfl) dX12_needers_34 ⟨Nat.le_of_ble_eq_true rfl, Nat.le_of_ble_eq_true rfl⟩) (fun v34 u H locs hz9 hH hS => ?_)
          obtain ⟨rfl, l_v34, u_v34⟩ := hz9
          have hH : HT D cs A T O X H := hH
          refine W.widen (k := 0) (n := 0) (Nat.le_of_ble_eq_true rfl) (Nat.le_of_ble_eq_true rfl) ?_
          refine lv_i2l hx hb dX12_needers_37 rfl ?_
          refine lv_iload_n hx hb dX12_needers_38 rfl (lv_at hl 3 rfl) ?_
          refine tk_i hH hS hA (tr_S (n := 2) (As := [.long v34.toInt64, .int x1]) hx hb hml hown hts hkb hH hOX hks hE hS hA (s_M_isIn2 l D cs kf T O X v34.toInt64 x1  (hO.sub (by decide))) kw_1440 kw_1441 kw_13 kw_1442 (by decide +kernel) ⟨Nat.le_of_ble_eq_true rfl, Nat.le_of_ble_eq_true rfl⟩ rfl rfl hl.1 (Nat.le_of_ble_eq_true rfl) dX12_needers_39 ⟨Nat.le_of_ble_eq_true rfl, Nat.le_of_ble_eq_true rfl⟩) (fun v39 u H locs hz9 hH hS => ?_)
          obtain ⟨rfl, l_v39, u_v39, x_v390⟩ := hz9
          have hH : HT D cs A T O X H := hH
          refine W.widen (k := 0) (n := 0) (Nat.le_of_ble_eq_true rfl) (Nat.le_of_ble_eq_true rfl) ?_
          have J52 : ∀ (k52_0 : Int32) (H : Heap) (locs : List Loc) (ls : Array Slot), (0 ≤ k52_0.toInt) → (k52_0.toInt ≤ 16) → HT D cs A T O X H → va_S A s.heap H locs → lv_has ls 4 [(3, .int p21_3), (0, .ref a0), (1, .int x1)] → W p l e { frames := 6, cells := 0, slots := 0, locals := 143 } s m [.ref a0, .int x1].toArray below meth c H locs 0 0 (MQ below (Ti D cs (fun r u => u = (T, O, X) ∧ -2 ≤ r.toInt ∧ r.toInt ≤ 16383) A) [.ref a0, .int x1].toArray s 0 0 A) (F0 m 52 ls [.int k52_0, .int p21_2]) := by
            intro k52_0 H locs ls l_k52_0 u_k52_0 hH hS hl
            refine lv_ior hx hb dX12_needers_52 ?_
            refine lv_topi (fun v52 ev52 => ?_)
            have tv52 : 0 ≤ v52.toInt ∧ v52.toInt < 16384 := by rw [ev52]; exact or_b 14 (by decide) (by omega) (by omega) (by omega) (by omega)
            refine lv_istore_n (lv' := [(2, .int v52), (3, .int p21_3), (0, .ref a0), (1, .int x1)]) hx hb dX12_needers_53 rfl hl (by decide) rfl (fun ls hl => ?_)
            obtain ⟨v54, ev54⟩ : ∃ y : Int32, y = p21_3 + 1 := ⟨_, rfl⟩
            have tv54 : v54.toInt = p21_3.toInt + (1) := by rw [ev54]; exact add_i rfl (by decide) (by omega) (by omega)
            refine lv_iinc (v := v54) (lv' := [(3, .int v54), (2, .int v52), (0, .ref a0), (1, .int x1)]) hx hb dX12_needers_54 hl (k := 1) rfl (by rw [ev54]; rfl) (by decide) rfl (fun ls hl => ?_)
            refine lv_goto (tgt := 21) hx hb dX12_needers_57 (by decide) ?_
            exact ih21 _ (by omega) v54 v52 _ _ _ rfl (by omega) (by omega) (by omega) (by omega) hH hS (lv_sub hl [0, 1, 2, 3] rfl)
          refine lv_if_eq (tgt := 51) hx hb dX12_needers_42 (by decide) (fun c42 => ?_) (fun c42 => ?_)
          · skip
            have tc42 := f_eq (k := 0) (by decide) c42
            refine lv_iconst (v := 0) hx hb dX12_needers_51 (by decide) ?_
            exact J52 0 _ _ _ (by decide) (by decide) hH hS (lv_sub hl [0, 2, 3] rfl)
          · skip
            have tc42 := f_ne (k := 0) (by decide) c42
            refine lv_iconst (v := 1) hx hb dX12_needers_45 (by decide) ?_
            refine lv_iload_n hx hb dX12_needers_46 rfl (lv_at hl 0 rfl) ?_
            refine lv_ishl hx hb dX12_needers_47 ?_
            refine lv_topi (fun v47 ev47 => ?_)
            have tv47 : 1 ≤ v47.toInt ∧ v47.toInt ≤ 16 := by rw [ev47]; exact shl_b 4 (by decide) (by omega) (by omega)
            refine lv_goto (tgt := 52) hx hb dX12_needers_48 (by decide) ?_
            exact J52 v47 _ _ _ (by omega) (by omega) hH hS (lv_sub hl [0, 2, 3] rfl)
    refine lv_istore_n (lv' := [(3, .int 0), (2, .int 0), (0, .ref a0), (1, .int x1)]) hx hb dX12_needers_20 rfl hl (by decide) rfl (fun ls hl => ?_)
    exact J21 _ 0 0 _ _ _ rfl (by decide) (by decide) (by decide) (by decide) hH hS (lv_sub hl [0, 1, 2, 3] rfl)
  · skip
    have tc11 := f_eq (k := 0) (by decide) c11
    clear x_v80
    refine lv_bipush (v := (-2)) hx hb dX12_needers_14 (by decide) ?_
    exact te_i hx hb hr hlocks hH hS (⟨rfl, by decide, by decide⟩) dX12_needers_16
set_option maxHeartbeats 4000000 in
set_option maxRecDepth 100000 in
theorem s_M_highest (l : Launch) (D : va_G) (cs : CS) (kf : KF) (T : TF) (O : List Nat) (X : va_W) (a0 hg mq : Nat) (x1 : Int32) (t_a0 : T a0 = some (22, hg, mq)) (b_hg : hg < 90) (hO : okO T O [1, 8, 9, 22]) : TK l D cs kf yX12_highest cX12_highest 5 (some (.int)) { frames := 5, cells := 0, slots := 0, locals := 119 } [.ref a0, .int x1] T O X (Ti D cs (fun r u => u = (T, O, X))) := by
  refine tk_of (by decide) (Nat.le_of_ble_eq_true rfl) (fun p e s m below meth c ls A H locs hx hb hr hml hown hts hlocks hnm hkb hH hS hA hOX hks hE hl => ?_)
  have hown : s.vm.findClass RX12 = some m.cls := hown
  have hl : lv_has ls 5 [(0, .ref a0), (1, .int x1)] := hl
  refine lv_aload_n hx hb dX12_highest_0 rfl (lv_at hl 0 rfl) ?_
  refine lv_iconst (v := 0) hx hb dX12_highest_1 (by decide) ?_
  refine t_put (ci := 12) (lst := ft12 hg mq) (v := .int 0) (ty := tyX12 0) (C := RX12) (F := TX12) (N := 36) hx hb hts uX12 tyX12 tyX12_ok nmX12 hown hkb hH hS t_a0 (hO.no t_a0 (by decide)) (fun _ => Iff.rfl) rfl rfl 0 (by decide) rfl (⟨_, rfl⟩) kw_1223 (fun _ h9 => h9) rfl (tyX12_ok 0 (by decide)) rfl rfl dX12_highest_2 (fun H locs hH hS => ?_)
  refine lv_aload_n hx hb dX12_highest_5 rfl (lv_at hl 0 rfl) ?_
  refine lv_iload_n hx hb dX12_highest_6 rfl (lv_at hl 1 rfl) ?_
  refine lv_i2l hx hb dX12_highest_7 rfl ?_
  refine tk_i hH hS hA (tr_V (n := 1) (As := [.long x1.toInt64]) hx hb hml hown hts hkb hH hOX hks hE hS hA (s_M_isGuide l D cs kf T O X a0 hg mq x1.toInt64 t_a0 b_hg (hO.sub (by decide))) kw_1470 kw_1472 ks_67 kw_13 kw_1473 (by decide +kernel) ⟨Nat.le_of_ble_eq_true rfl, Nat.le_of_ble_eq_true rfl⟩ (HT.recv (ci := 12) hkb hH t_a0 (hO.no t_a0 (by decide)) rfl) rfl rfl hl.1 (Nat.le_of_ble_eq_true rfl) dX12_highest_8 ⟨Nat.le_of_ble_eq_true rfl, Nat.le_of_ble_eq_true rfl⟩) (fun v8 u H locs hz9 hH hS => ?_)
  obtain ⟨rfl, l_v8, u_v8, x_v80⟩ := hz9
  simp only [Int32.toInt_toInt64] at x_v80
  have hH : HT D cs A T O X H := hH
  refine W.widen (k := 0) (n := 0) (Nat.le_of_ble_eq_true rfl) (Nat.le_of_ble_eq_true rfl) ?_
  refine lv_if_ne (tgt := 17) hx hb dX12_highest_11 (by decide) (fun c11 => ?_) (fun c11 => ?_)
  · skip
    have tc11 := f_ne (k := 0) (by decide) c11
    replace x_v80 := x_v80.resolve_left tc11
    refine lv_aload_n hx hb dX12_highest_17 rfl (lv_at hl 0 rfl) ?_
    refine lv_iload_n hx hb dX12_highest_18 rfl (lv_at hl 1 rfl) ?_
    refine tk_v hH hS hA (tr_V (n := 1) (As := [.int x1]) hx hb hml hown hts hkb hH hOX hks hE hS hA (s_M_laysGuide l D cs kf T O X a0 hg mq x1 t_a0 b_hg (by omega) (by omega) (hO.sub (by decide))) kw_1502 kw_1504 ks_71 kw_13 kw_1505 (by decide +kernel) ⟨Nat.le_of_ble_eq_true rfl, Nat.le_of_ble_eq_true rfl⟩ (HT.recv (ci := 12) hkb hH t_a0 (hO.no t_a0 (by decide)) rfl) rfl rfl hl.1 (Nat.le_of_ble_eq_true rfl) dX12_highest_19 ⟨Nat.le_of_ble_eq_true rfl, Nat.le_of_ble_eq_true rfl⟩) (fun u H locs hz9 hH hS => ?_)
    have hz9 : u = (T, O, X) := hz9
    subst hz9
    have hH : HT D cs A T O X H := hH
    refine W.widen (k := 0) (n := 0) (Nat.le_of_ble_eq_true rfl) (Nat.le_of_ble_eq_true rfl) ?_
    refine lv_aload_n hx hb dX12_highest_22 rfl (lv_at hl 0 rfl) ?_
    refine lv_aload_n hx hb dX12_highest_23 rfl (lv_at hl 0 rfl) ?_
    refine tk_i hH hS hA (tr_V (n := 0) (As := []) hx hb hml hown hts hkb hH hOX hks hE hS hA (s_M_openSet l D cs kf T O X a0 hg mq t_a0 b_hg (hO.sub (by decide))) kw_1510 kw_1512 ks_73 kw_13 kw_1513 (by decide +kernel) ⟨Nat.le_of_ble_eq_true rfl, Nat.le_of_ble_eq_true rfl⟩ (HT.recv (ci := 12) hkb hH t_a0 (hO.no t_a0 (by decide)) rfl) rfl rfl hl.1 (Nat.le_of_ble_eq_true rfl) dX12_highest_24 ⟨Nat.le_of_ble_eq_true rfl, Nat.le_of_ble_eq_true rfl⟩) (fun v24 u H locs hz9 hH hS => ?_)
    obtain ⟨rfl, l_v24, u_v24⟩ := hz9
    have hH : HT D cs A T O X H := hH
    refine W.widen (k := 0) (n := 0) (Nat.le_of_ble_eq_true rfl) (Nat.le_of_ble_eq_true rfl) ?_
    refine tk_i hH hS hA (tr_V (n := 1) (As := [.int v24]) hx hb hml hown hts hkb hH hOX hks hE hS hA (s_M_comesTo l D cs kf T O X a0 hg mq v24 t_a0 b_hg (hO.sub (by decide))) kw_1514 kw_1516 ks_74 kw_13 kw_1517 (by decide +kernel) ⟨Nat.le_of_ble_eq_true rfl, Nat.le_of_ble_eq_true rfl⟩ (HT.recv (ci := 12) hkb hH t_a0 (hO.no t_a0 (by decide)) rfl) rfl rfl hl.1 (Nat.le_of_ble_eq_true rfl) dX12_highest_27 ⟨Nat.le_of_ble_eq_true rfl, Nat.le_of_ble_eq_true rfl⟩) (fun v27 u H locs hz9 hH hS => ?_)
    obtain ⟨rfl, l_v27, u_v27⟩ := hz9
    have hH : HT D cs A T O X H := hH
    refine W.widen (k := 0) (n := 0) (Nat.le_of_ble_eq_true rfl) (Nat.le_of_ble_eq_true rfl) ?_
    refine lv_istore_n (lv' := [(2, .int v27), (0, .ref a0), (1, .int x1)]) hx hb dX12_highest_30 rfl hl (by decide) rfl (fun ls hl => ?_)
    refine lv_iconst (v := (-1)) hx hb dX12_highest_31 (by decide) ?_
    refine lv_istore_n (lv' := [(3, .int (-1)), (2, .int v27), (0, .ref a0), (1, .int x1)]) hx hb dX12_highest_32 rfl hl (by decide) rfl (fun ls hl => ?_)
    refine lv_iconst (v := 0) hx hb dX12_highest_33 (by decide) ?_
    have J36 : ∀ (n : Nat) (p36_4 : Int32) (p36_3 : Int32) (H : Heap) (locs : List Loc) (ls : Array Slot), (14 - p36_4.toInt).toNat = n → (0 ≤ p36_4.toInt) → (p36_4.toInt ≤ 14) → HT D cs A T O X H → va_S A s.heap H locs → lv_has ls 5 [(4, .int p36_4), (3, .int p36_3), (2, .int v27), (0, .ref a0)] → W p l e { frames := 5, cells := 0, slots := 0, locals := 119 } s m [.ref a0, .int x1].toArray below meth c H locs 0 0 (MQ below (Ti D cs (fun r u => u = (T, O, X)) A) [.ref a0, .int x1].toArray s 0 0 A) (F0 m 36 ls []) := by
      intro n
      induction n using Nat.strongRecOn with
      | _ n ih36 =>
        intro p36_4 p36_3 H locs ls hm36 l_p36_4 u_p36_4 hH hS hl
        refine lv_iload hx hb dX12_highest_36 (lv_at hl 0 rfl) ?_
        refine lv_aload_n hx hb dX12_highest_38 rfl (lv_at hl 3 rfl) ?_
        refine t_get (ci := 12) (lst := ft12 hg mq) (C := RX12) (F := TX12) (N := 36) hx hb hts uX12 hown hkb hH t_a0 (hO.no t_a0 (by decide)) (fun _ h9 => h9) rfl rfl 1 (by decide) rfl kw_1224 (fun _ h9 => h9) dX12_highest_39 (fun v9 h9 => ?_)
        obtain ⟨v39, rfl, t_v39⟩ := h9
        refine lv_iconst (v := 1) hx hb dX12_highest_42 (by decide) ?_
        refine t_ild8 hx hb hkb hH t_v39 (hO.no t_v39 (by decide)) (by decide) (by decide) (by decide) dX12_highest_43 (fun v43 h9 h8 => ?_)
        have q9 := (h8 rfl).1 rfl
        subst q9
        have eH9 : (nI (hg / 6)).toInt = (((hg / 6) : Nat) : Int) := nI_toInt (by omega)
        refine lv_icmp_ge (tgt := 88) hx hb dX12_highest_44 (by decide) (fun c44 => ?_) (fun c44 => ?_)
        · skip
          have fuc44 := full_i p36_4
          have fvc44 := full_i (nI (hg / 6))
          have tc44 := g_le c44
          refine lv_iload_n hx hb dX12_highest_88 rfl (lv_at hl 1 rfl) ?_
          exact te_i hx hb hr hlocks hH hS (rfl) dX12_highest_89
        · skip
          have fuc44 := full_i p36_4
          have fvc44 := full_i (nI (hg / 6))
          have tc44 := g_nle c44
          refine lv_iload_n hx hb dX12_highest_47 rfl (lv_at hl 2 rfl) ?_
          refine lv_i2l hx hb dX12_highest_48 rfl ?_
          refine lv_iload hx hb dX12_highest_49 (lv_at hl 0 rfl) ?_
          refine tk_i hH hS hA (tr_S (n := 2) (As := [.long v27.toInt64, .int p36_4]) hx hb hml hown hts hkb hH hOX hks hE hS hA (s_M_isIn2 l D cs kf T O X v27.toInt64 p36_4  (hO.sub (by decide))) kw_1440 kw_1441 kw_13 kw_1442 (by decide +kernel) ⟨Nat.le_of_ble_eq_true rfl, Nat.le_of_ble_eq_true rfl⟩ rfl rfl hl.1 (Nat.le_of_ble_eq_true rfl) dX12_highest_51 ⟨Nat.le_of_ble_eq_true rfl, Nat.le_of_ble_eq_true rfl⟩) (fun v51 u H locs hz9 hH hS => ?_)
          obtain ⟨rfl, l_v51, u_v51, x_v510⟩ := hz9
          have hH : HT D cs A T O X H := hH
          refine W.widen (k := 0) (n := 0) (Nat.le_of_ble_eq_true rfl) (Nat.le_of_ble_eq_true rfl) ?_
          have J82 : ∀ (p82_3 : Int32) (H : Heap) (locs : List Loc) (ls : Array Slot), HT D cs A T O X H → va_S A s.heap H locs → lv_has ls 5 [(4, .int p36_4), (3, .int p82_3), (2, .int v27), (0, .ref a0)] → W p l e { frames := 5, cells := 0, slots := 0, locals := 119 } s m [.ref a0, .int x1].toArray below meth c H locs 0 0 (MQ below (Ti D cs (fun r u => u = (T, O, X)) A) [.ref a0, .int x1].toArray s 0 0 A) (F0 m 82 ls []) := by
            intro p82_3 H locs ls  hH hS hl
            obtain ⟨v82, ev82⟩ : ∃ y : Int32, y = p36_4 + 1 := ⟨_, rfl⟩
            have tv82 : v82.toInt = p36_4.toInt + (1) := by rw [ev82]; exact add_i rfl (by decide) (by omega) (by omega)
            refine lv_iinc (v := v82) (lv' := [(4, .int v82), (3, .int p82_3), (2, .int v27), (0, .ref a0)]) hx hb dX12_highest_82 hl (k := 0) rfl (by rw [ev82]; rfl) (by decide) rfl (fun ls hl => ?_)
            refine lv_goto (tgt := 36) hx hb dX12_highest_85 (by decide) ?_
            exact ih36 _ (by omega) v82 p82_3 _ _ _ rfl (by omega) (by omega) hH hS (lv_sub hl [0, 1, 2, 3] rfl)
          refine lv_if_eq (tgt := 82) hx hb dX12_highest_54 (by decide) (fun c54 => ?_) (fun c54 => ?_)
          · skip
            have tc54 := f_eq (k := 0) (by decide) c54
            exact J82 p36_3 _ _ _  hH hS (lv_sub hl [0, 1, 2, 3] rfl)
          · skip
            have tc54 := f_ne (k := 0) (by decide) c54
            refine lv_aload_n hx hb dX12_highest_57 rfl (lv_at hl 3 rfl) ?_
            refine t_get (ci := 12) (lst := ft12 hg mq) (C := RX12) (F := TX12) (N := 36) hx hb hts uX12 hown hkb hH t_a0 (hO.no t_a0 (by decide)) (fun _ h9 => h9) rfl rfl 1 (by decide) rfl kw_1224 (fun _ h9 => h9) dX12_highest_58 (fun v9 h9 => ?_)
            obtain ⟨v58, rfl, t_v58⟩ := h9
            refine lv_bipush (v := 21) hx hb dX12_highest_61 (by decide) ?_
            refine lv_iload hx hb dX12_highest_63 (lv_at hl 0 rfl) ?_
            refine lv_iadd hx hb dX12_highest_65 ?_
            refine lv_topi (fun v65 ev65 => ?_)
            have tv65 : v65.toInt = (21) + p36_4.toInt := by rw [ev65]; exact add_i (by decide : (21 : Int32).toInt = 21) rfl (by omega) (by omega)
            refine t_ild8 hx hb hkb hH t_v58 (hO.no t_v58 (by decide)) (by decide) (by omega) (by omega) dX12_highest_66 (fun v66 h9 h8 => ?_)
            refine lv_iload_n hx hb dX12_highest_67 rfl (lv_at hl 1 rfl) ?_
            refine lv_icmp_le (tgt := 82) hx hb dX12_highest_68 (by decide) (fun c68 => ?_) (fun c68 => ?_)
            · skip
              have fuc68 := full_i v66
              have fvc68 := full_i p36_3
              have tc68 := g_le c68
              exact J82 p36_3 _ _ _  hH hS (lv_sub hl [0, 1, 2, 3] rfl)
            · skip
              have fuc68 := full_i v66
              have fvc68 := full_i p36_3
              have tc68 := g_nle c68
              refine lv_aload_n hx hb dX12_highest_71 rfl (lv_at hl 3 rfl) ?_
              refine t_get (ci := 12) (lst := ft12 hg mq) (C := RX12) (F := TX12) (N := 36) hx hb hts uX12 hown hkb hH t_a0 (hO.no t_a0 (by decide)) (fun _ h9 => h9) rfl rfl 1 (by decide) rfl kw_1224 (fun _ h9 => h9) dX12_highest_72 (fun v9 h9 => ?_)
              obtain ⟨v72, rfl, t_v72⟩ := h9
              refine lv_bipush (v := 21) hx hb dX12_highest_75 (by decide) ?_
              refine lv_iload hx hb dX12_highest_77 (lv_at hl 0 rfl) ?_
              refine lv_iadd hx hb dX12_highest_79 ?_
              refine lv_topi (fun v79 ev79 => ?_)
              have tv79 : v79.toInt = (21) + p36_4.toInt := by rw [ev79]; exact add_i (by decide : (21 : Int32).toInt = 21) rfl (by omega) (by omega)
              refine t_ild8 hx hb hkb hH t_v72 (hO.no t_v72 (by decide)) (by decide) (by omega) (by omega) dX12_highest_80 (fun v80 h9 h8 => ?_)
              refine lv_istore_n (lv' := [(3, .int v80), (4, .int p36_4), (2, .int v27), (0, .ref a0)]) hx hb dX12_highest_81 rfl hl (by decide) rfl (fun ls hl => ?_)
              exact J82 v80 _ _ _  hH hS (lv_sub hl [1, 0, 2, 3] rfl)
    refine lv_istore (lv' := [(4, .int 0), (3, .int (-1)), (2, .int v27), (0, .ref a0), (1, .int x1)]) hx hb dX12_highest_34 hl (by decide) rfl (fun ls hl => ?_)
    exact J36 _ 0 (-1) _ _ _ rfl (by decide) (by decide) hH hS (lv_sub hl [0, 1, 2, 3] rfl)
  · skip
    have tc11 := f_eq (k := 0) (by decide) c11
    clear x_v80
    refine lv_bipush (v := (-2)) hx hb dX12_highest_14 (by decide) ?_
    exact te_i hx hb hr hlocks hH hS (rfl) dX12_highest_16
theorem dX12_able_0 : decode cX12_able 0 = .ok (.aload_n 0, 1) := by decide +kernel
theorem dX12_able_1 : decode cX12_able 1 = .ok (.iconst 0, 1) := by decide +kernel
theorem dX12_able_2 : decode cX12_able 2 = .ok (.putfield 1, 3) := by decide +kernel
theorem dX12_able_5 : decode cX12_able 5 = .ok (.iconst 0, 1) := by decide +kernel
theorem dX12_able_6 : decode cX12_able 6 = .ok (.istore_n 1, 1) := by decide +kernel
theorem dX12_able_7 : decode cX12_able 7 = .ok (.iconst 0, 1) := by decide +kernel
theorem dX12_able_8 : decode cX12_able 8 = .ok (.istore_n 2, 1) := by decide +kernel
theorem dX12_able_9 : decode cX12_able 9 = .ok (.iload_n 2, 1) := by decide +kernel
theorem dX12_able_10 : decode cX12_able 10 = .ok (.aload_n 0, 1) := by decide +kernel
theorem dX12_able_11 : decode cX12_able 11 = .ok (.getfield 13, 3) := by decide +kernel
theorem dX12_able_14 : decode cX12_able 14 = .ok (.iconst 2, 1) := by decide +kernel
theorem dX12_able_15 : decode cX12_able 15 = .ok (.iaload, 1) := by decide +kernel
theorem dX12_able_16 : decode cX12_able 16 = .ok (.if_icmp .ge 35, 3) := by decide +kernel
theorem dX12_able_19 : decode cX12_able 19 = .ok (.aload_n 0, 1) := by decide +kernel
theorem dX12_able_20 : decode cX12_able 20 = .ok (.iload_n 2, 1) := by decide +kernel
theorem dX12_able_21 : decode cX12_able 21 = .ok (.invokevirtual 257, 3) := by decide +kernel
theorem dX12_able_24 : decode cX12_able 24 = .ok (.iload_n 1, 1) := by decide +kernel
theorem dX12_able_25 : decode cX12_able 25 = .ok (.aload_n 0, 1) := by decide +kernel
theorem dX12_able_26 : decode cX12_able 26 = .ok (.aload_n 0, 1) := by decide +kernel
theorem dX12_able_27 : decode cX12_able 27 = .ok (.invokevirtual 260, 3) := by decide +kernel
theorem dX12_able_30 : decode cX12_able 30 = .ok (.invokevirtual 354, 3) := by decide +kernel
theorem dX12_able_33 : decode cX12_able 33 = .ok (.ifCond .eq 9, 3) := by decide +kernel
theorem dX12_able_36 : decode cX12_able 36 = .ok (.iconst 1, 1) := by decide +kernel
theorem dX12_able_37 : decode cX12_able 37 = .ok (.iload_n 2, 1) := by decide +kernel
theorem dX12_able_38 : decode cX12_able 38 = .ok (.ishl, 1) := by decide +kernel
theorem dX12_able_39 : decode cX12_able 39 = .ok (.goto 4, 3) := by decide +kernel
theorem dX12_able_42 : decode cX12_able 42 = .ok (.iconst 0, 1) := by decide +kernel
theorem dX12_able_43 : decode cX12_able 43 = .ok (.ior, 1) := by decide +kernel
theorem dX12_able_44 : decode cX12_able 44 = .ok (.istore_n 1, 1) := by decide +kernel
theorem dX12_able_45 : decode cX12_able 45 = .ok (.iinc 2 1, 3) := by decide +kernel
theorem dX12_able_48 : decode cX12_able 48 = .ok (.goto (-39), 3) := by decide +kernel
theorem dX12_able_51 : decode cX12_able 51 = .ok (.iload_n 1, 1) := by decide +kernel
theorem dX12_able_52 : decode cX12_able 52 = .ok (.ireturn, 1) := by decide +kernel
theorem dX12_dearest_0 : decode cX12_dearest 0 = .ok (.aload_n 0, 1) := by decide +kernel
theorem dX12_dearest_1 : decode cX12_dearest 1 = .ok (.iconst 0, 1) := by decide +kernel
theorem dX12_dearest_2 : decode cX12_dearest 2 = .ok (.putfield 1, 3) := by decide +kernel
theorem dX12_dearest_5 : decode cX12_dearest 5 = .ok (.aload_n 0, 1) := by decide +kernel
theorem dX12_dearest_6 : decode cX12_dearest 6 = .ok (.iload_n 1, 1) := by decide +kernel
theorem dX12_dearest_7 : decode cX12_dearest 7 = .ok (.i2l, 1) := by decide +kernel
theorem dX12_dearest_8 : decode cX12_dearest 8 = .ok (.invokevirtual 222, 3) := by decide +kernel
theorem dX12_dearest_11 : decode cX12_dearest 11 = .ok (.ifCond .ne 6, 3) := by decide +kernel
theorem dX12_dearest_14 : decode cX12_dearest 14 = .ok (.bipush (-2), 2) := by decide +kernel
theorem dX12_dearest_16 : decode cX12_dearest 16 = .ok (.ireturn, 1) := by decide +kernel
theorem dX12_dearest_17 : decode cX12_dearest 17 = .ok (.aload_n 0, 1) := by decide +kernel
theorem dX12_dearest_18 : decode cX12_dearest 18 = .ok (.iload_n 1, 1) := by decide +kernel
theorem dX12_dearest_19 : decode cX12_dearest 19 = .ok (.invokevirtual 257, 3) := by decide +kernel
theorem dX12_dearest_22 : decode cX12_dearest 22 = .ok (.aload_n 0, 1) := by decide +kernel
theorem dX12_dearest_23 : decode cX12_dearest 23 = .ok (.invokevirtual 260, 3) := by decide +kernel
theorem dX12_dearest_26 : decode cX12_dearest 26 = .ok (.istore_n 2, 1) := by decide +kernel
theorem dX12_dearest_27 : decode cX12_dearest 27 = .ok (.aload_n 0, 1) := by decide +kernel
theorem dX12_dearest_28 : decode cX12_dearest 28 = .ok (.iload_n 2, 1) := by decide +kernel
theorem dX12_dearest_29 : decode cX12_dearest 29 = .ok (.invokevirtual 360, 3) := by decide +kernel
theorem dX12_dearest_32 : decode cX12_dearest 32 = .ok (.istore_n 3, 1) := by decide +kernel
theorem dX12_dearest_33 : decode cX12_dearest 33 = .ok (.iconst 0, 1) := by decide +kernel
theorem dX12_dearest_34 : decode cX12_dearest 34 = .ok (.istore 4, 2) := by decide +kernel
theorem dX12_dearest_36 : decode cX12_dearest 36 = .ok (.iload 4, 2) := by decide +kernel
theorem dX12_dearest_38 : decode cX12_dearest 38 = .ok (.aload_n 0, 1) := by decide +kernel
theorem dX12_dearest_39 : decode cX12_dearest 39 = .ok (.getfield 13, 3) := by decide +kernel
theorem dX12_dearest_42 : decode cX12_dearest 42 = .ok (.iconst 1, 1) := by decide +kernel
theorem dX12_dearest_43 : decode cX12_dearest 43 = .ok (.iaload, 1) := by decide +kernel
theorem dX12_dearest_44 : decode cX12_dearest 44 = .ok (.if_icmp .ge 45, 3) := by decide +kernel
theorem dX12_dearest_47 : decode cX12_dearest 47 = .ok (.iload_n 2, 1) := by decide +kernel
theorem dX12_dearest_48 : decode cX12_dearest 48 = .ok (.aload_n 0, 1) := by decide +kernel
theorem dX12_dearest_49 : decode cX12_dearest 49 = .ok (.invokevirtual 272, 3) := by decide +kernel
theorem dX12_dearest_52 : decode cX12_dearest 52 = .ok (.iconst (-1), 1) := by decide +kernel
theorem dX12_dearest_53 : decode cX12_dearest 53 = .ok (.ixor, 1) := by decide +kernel
theorem dX12_dearest_54 : decode cX12_dearest 54 = .ok (.iand, 1) := by decide +kernel
theorem dX12_dearest_55 : decode cX12_dearest 55 = .ok (.i2l, 1) := by decide +kernel
theorem dX12_dearest_56 : decode cX12_dearest 56 = .ok (.iload 4, 2) := by decide +kernel
theorem dX12_dearest_58 : decode cX12_dearest 58 = .ok (.invokestatic 186, 3) := by decide +kernel
theorem dX12_dearest_61 : decode cX12_dearest 61 = .ok (.ifCond .eq 22, 3) := by decide +kernel
theorem dX12_dearest_64 : decode cX12_dearest 64 = .ok (.aload_n 0, 1) := by decide +kernel
theorem dX12_dearest_65 : decode cX12_dearest 65 = .ok (.iload_n 2, 1) := by decide +kernel
theorem dX12_dearest_66 : decode cX12_dearest 66 = .ok (.iconst 1, 1) := by decide +kernel
theorem dX12_dearest_67 : decode cX12_dearest 67 = .ok (.iload 4, 2) := by decide +kernel
theorem dX12_dearest_69 : decode cX12_dearest 69 = .ok (.ishl, 1) := by decide +kernel
theorem dX12_dearest_70 : decode cX12_dearest 70 = .ok (.iconst (-1), 1) := by decide +kernel
theorem dX12_dearest_71 : decode cX12_dearest 71 = .ok (.ixor, 1) := by decide +kernel
theorem dX12_dearest_72 : decode cX12_dearest 72 = .ok (.iand, 1) := by decide +kernel
theorem dX12_dearest_73 : decode cX12_dearest 73 = .ok (.invokevirtual 360, 3) := by decide +kernel
theorem dX12_dearest_76 : decode cX12_dearest 76 = .ok (.iload_n 3, 1) := by decide +kernel
theorem dX12_dearest_77 : decode cX12_dearest 77 = .ok (.if_icmp .ge 6, 3) := by decide +kernel
theorem dX12_dearest_80 : decode cX12_dearest 80 = .ok (.iload 4, 2) := by decide +kernel
theorem dX12_dearest_82 : decode cX12_dearest 82 = .ok (.ireturn, 1) := by decide +kernel
theorem dX12_dearest_83 : decode cX12_dearest 83 = .ok (.iinc 4 1, 3) := by decide +kernel
theorem dX12_dearest_86 : decode cX12_dearest 86 = .ok (.goto (-50), 3) := by decide +kernel
theorem dX12_dearest_89 : decode cX12_dearest 89 = .ok (.iconst (-1), 1) := by decide +kernel
theorem dX12_dearest_90 : decode cX12_dearest 90 = .ok (.ireturn, 1) := by decide +kernel
theorem dX12_idle_0 : decode cX12_idle 0 = .ok (.aload_n 0, 1) := by decide +kernel
theorem dX12_idle_1 : decode cX12_idle 1 = .ok (.iconst 0, 1) := by decide +kernel
theorem dX12_idle_2 : decode cX12_idle 2 = .ok (.putfield 1, 3) := by decide +kernel
theorem dX12_idle_5 : decode cX12_idle 5 = .ok (.aload_n 0, 1) := by decide +kernel
theorem dX12_idle_6 : decode cX12_idle 6 = .ok (.iload_n 1, 1) := by decide +kernel
theorem dX12_idle_7 : decode cX12_idle 7 = .ok (.i2l, 1) := by decide +kernel
theorem dX12_idle_8 : decode cX12_idle 8 = .ok (.invokevirtual 222, 3) := by decide +kernel
theorem dX12_idle_11 : decode cX12_idle 11 = .ok (.ifCond .ne 6, 3) := by decide +kernel
theorem dX12_idle_14 : decode cX12_idle 14 = .ok (.bipush (-2), 2) := by decide +kernel
theorem dX12_idle_16 : decode cX12_idle 16 = .ok (.ireturn, 1) := by decide +kernel
theorem dX12_idle_17 : decode cX12_idle 17 = .ok (.aload_n 0, 1) := by decide +kernel
theorem dX12_idle_18 : decode cX12_idle 18 = .ok (.iload_n 1, 1) := by decide +kernel
theorem dX12_idle_19 : decode cX12_idle 19 = .ok (.invokevirtual 351, 3) := by decide +kernel
theorem dX12_idle_22 : decode cX12_idle 22 = .ok (.iconst 0, 1) := by decide +kernel
theorem dX12_idle_23 : decode cX12_idle 23 = .ok (.istore_n 2, 1) := by decide +kernel
theorem dX12_idle_24 : decode cX12_idle 24 = .ok (.iconst 0, 1) := by decide +kernel
theorem dX12_idle_25 : decode cX12_idle 25 = .ok (.istore_n 3, 1) := by decide +kernel
theorem dX12_idle_26 : decode cX12_idle 26 = .ok (.iload_n 3, 1) := by decide +kernel
theorem dX12_idle_27 : decode cX12_idle 27 = .ok (.iconst 1, 1) := by decide +kernel
theorem dX12_idle_28 : decode cX12_idle 28 = .ok (.aload_n 0, 1) := by decide +kernel
theorem dX12_idle_29 : decode cX12_idle 29 = .ok (.getfield 13, 3) := by decide +kernel
theorem dX12_idle_32 : decode cX12_idle 32 = .ok (.iconst 1, 1) := by decide +kernel
theorem dX12_idle_33 : decode cX12_idle 33 = .ok (.iaload, 1) := by decide +kernel
theorem dX12_idle_34 : decode cX12_idle 34 = .ok (.ishl, 1) := by decide +kernel
theorem dX12_idle_35 : decode cX12_idle 35 = .ok (.if_icmp .ge 23, 3) := by decide +kernel
theorem dX12_idle_38 : decode cX12_idle 38 = .ok (.aload_n 0, 1) := by decide +kernel
theorem dX12_idle_39 : decode cX12_idle 39 = .ok (.iload_n 3, 1) := by decide +kernel
theorem dX12_idle_40 : decode cX12_idle 40 = .ok (.invokevirtual 337, 3) := by decide +kernel
theorem dX12_idle_43 : decode cX12_idle 43 = .ok (.lconst 0, 1) := by decide +kernel
theorem dX12_idle_44 : decode cX12_idle 44 = .ok (.lcmp, 1) := by decide +kernel
theorem dX12_idle_45 : decode cX12_idle 45 = .ok (.ifCond .le 7, 3) := by decide +kernel
theorem dX12_idle_48 : decode cX12_idle 48 = .ok (.iload_n 2, 1) := by decide +kernel
theorem dX12_idle_49 : decode cX12_idle 49 = .ok (.iload_n 3, 1) := by decide +kernel
theorem dX12_idle_50 : decode cX12_idle 50 = .ok (.ior, 1) := by decide +kernel
theorem dX12_idle_51 : decode cX12_idle 51 = .ok (.istore_n 2, 1) := by decide +kernel
theorem dX12_idle_52 : decode cX12_idle 52 = .ok (.iinc 3 1, 3) := by decide +kernel
theorem dX12_idle_55 : decode cX12_idle 55 = .ok (.goto (-29), 3) := by decide +kernel
theorem dX12_idle_58 : decode cX12_idle 58 = .ok (.aload_n 0, 1) := by decide +kernel
theorem dX12_idle_59 : decode cX12_idle 59 = .ok (.invokevirtual 260, 3) := by decide +kernel
theorem dX12_idle_62 : decode cX12_idle 62 = .ok (.iload_n 2, 1) := by decide +kernel
theorem dX12_idle_63 : decode cX12_idle 63 = .ok (.iconst (-1), 1) := by decide +kernel
theorem dX12_idle_64 : decode cX12_idle 64 = .ok (.ixor, 1) := by decide +kernel
theorem dX12_idle_65 : decode cX12_idle 65 = .ok (.iand, 1) := by decide +kernel
theorem dX12_idle_66 : decode cX12_idle 66 = .ok (.ireturn, 1) := by decide +kernel
theorem dX12_isSetOf_0 : decode cX12_isSetOf 0 = .ok (.iload_n 1, 1) := by decide +kernel
theorem dX12_isSetOf_1 : decode cX12_isSetOf 1 = .ok (.aload_n 0, 1) := by decide +kernel
theorem dX12_isSetOf_2 : decode cX12_isSetOf 2 = .ok (.invokevirtual 372, 3) := by decide +kernel
theorem dX12_isSetOf_5 : decode cX12_isSetOf 5 = .ok (.aload_n 0, 1) := by decide +kernel
theorem dX12_isSetOf_6 : decode cX12_isSetOf 6 = .ok (.invokevirtual 272, 3) := by decide +kernel
theorem dX12_isSetOf_9 : decode cX12_isSetOf 9 = .ok (.iconst (-1), 1) := by decide +kernel
theorem dX12_isSetOf_10 : decode cX12_isSetOf 10 = .ok (.ixor, 1) := by decide +kernel
theorem dX12_isSetOf_11 : decode cX12_isSetOf 11 = .ok (.iand, 1) := by decide +kernel
theorem dX12_isSetOf_12 : decode cX12_isSetOf 12 = .ok (.iconst (-1), 1) := by decide +kernel
theorem dX12_isSetOf_13 : decode cX12_isSetOf 13 = .ok (.ixor, 1) := by decide +kernel
theorem dX12_isSetOf_14 : decode cX12_isSetOf 14 = .ok (.iand, 1) := by decide +kernel
theorem dX12_isSetOf_15 : decode cX12_isSetOf 15 = .ok (.ifCond .ne 7, 3) := by decide +kernel
theorem dX12_isSetOf_18 : decode cX12_isSetOf 18 = .ok (.iconst 1, 1) := by decide +kernel
theorem dX12_isSetOf_19 : decode cX12_isSetOf 19 = .ok (.goto 4, 3) := by decide +kernel
theorem dX12_isSetOf_22 : decode cX12_isSetOf 22 = .ok (.iconst 0, 1) := by decide +kernel
theorem dX12_isSetOf_23 : decode cX12_isSetOf 23 = .ok (.ireturn, 1) := by decide +kernel
theorem dX12_leastLeg_0 : decode cX12_leastLeg 0 = .ok (.aload_n 0, 1) := by decide +kernel
theorem dX12_leastLeg_1 : decode cX12_leastLeg 1 = .ok (.iconst 0, 1) := by decide +kernel
theorem dX12_leastLeg_2 : decode cX12_leastLeg 2 = .ok (.putfield 1, 3) := by decide +kernel
theorem dX12_leastLeg_5 : decode cX12_leastLeg 5 = .ok (.aload_n 0, 1) := by decide +kernel
theorem dX12_leastLeg_6 : decode cX12_leastLeg 6 = .ok (.iload_n 1, 1) := by decide +kernel
theorem dX12_leastLeg_7 : decode cX12_leastLeg 7 = .ok (.i2l, 1) := by decide +kernel
theorem dX12_leastLeg_8 : decode cX12_leastLeg 8 = .ok (.invokevirtual 222, 3) := by decide +kernel
theorem dX12_leastLeg_11 : decode cX12_leastLeg 11 = .ok (.ifCond .ne 6, 3) := by decide +kernel
theorem dX12_leastLeg_14 : decode cX12_leastLeg 14 = .ok (.bipush (-2), 2) := by decide +kernel
theorem dX12_leastLeg_16 : decode cX12_leastLeg 16 = .ok (.ireturn, 1) := by decide +kernel
theorem dX12_leastLeg_17 : decode cX12_leastLeg 17 = .ok (.iconst 0, 1) := by decide +kernel
theorem dX12_leastLeg_18 : decode cX12_leastLeg 18 = .ok (.istore_n 2, 1) := by decide +kernel
theorem dX12_leastLeg_19 : decode cX12_leastLeg 19 = .ok (.iload_n 2, 1) := by decide +kernel
theorem dX12_leastLeg_20 : decode cX12_leastLeg 20 = .ok (.bipush 100, 2) := by decide +kernel
theorem dX12_leastLeg_22 : decode cX12_leastLeg 22 = .ok (.if_icmp .ge 28, 3) := by decide +kernel
theorem dX12_leastLeg_25 : decode cX12_leastLeg 25 = .ok (.aload_n 0, 1) := by decide +kernel
theorem dX12_leastLeg_26 : decode cX12_leastLeg 26 = .ok (.iload_n 1, 1) := by decide +kernel
theorem dX12_leastLeg_27 : decode cX12_leastLeg 27 = .ok (.iload_n 2, 1) := by decide +kernel
theorem dX12_leastLeg_28 : decode cX12_leastLeg 28 = .ok (.invokevirtual 250, 3) := by decide +kernel
theorem dX12_leastLeg_31 : decode cX12_leastLeg 31 = .ok (.aload_n 0, 1) := by decide +kernel
theorem dX12_leastLeg_32 : decode cX12_leastLeg 32 = .ok (.aload_n 0, 1) := by decide +kernel
theorem dX12_leastLeg_33 : decode cX12_leastLeg 33 = .ok (.invokevirtual 260, 3) := by decide +kernel
theorem dX12_leastLeg_36 : decode cX12_leastLeg 36 = .ok (.invokevirtual 354, 3) := by decide +kernel
theorem dX12_leastLeg_39 : decode cX12_leastLeg 39 = .ok (.ifCond .eq 5, 3) := by decide +kernel
theorem dX12_leastLeg_42 : decode cX12_leastLeg 42 = .ok (.iload_n 2, 1) := by decide +kernel
theorem dX12_leastLeg_43 : decode cX12_leastLeg 43 = .ok (.ireturn, 1) := by decide +kernel
theorem dX12_leastLeg_44 : decode cX12_leastLeg 44 = .ok (.iinc 2 1, 3) := by decide +kernel
theorem dX12_leastLeg_47 : decode cX12_leastLeg 47 = .ok (.goto (-28), 3) := by decide +kernel
theorem dX12_leastLeg_50 : decode cX12_leastLeg 50 = .ok (.iconst (-1), 1) := by decide +kernel
theorem dX12_leastLeg_51 : decode cX12_leastLeg 51 = .ok (.ireturn, 1) := by decide +kernel
theorem dX12_opens_0 : decode cX12_opens 0 = .ok (.aload_n 0, 1) := by decide +kernel
theorem dX12_opens_1 : decode cX12_opens 1 = .ok (.iconst 0, 1) := by decide +kernel
theorem dX12_opens_2 : decode cX12_opens 2 = .ok (.putfield 1, 3) := by decide +kernel
theorem dX12_opens_5 : decode cX12_opens 5 = .ok (.aload_n 0, 1) := by decide +kernel
theorem dX12_opens_6 : decode cX12_opens 6 = .ok (.iload_n 1, 1) := by decide +kernel
theorem dX12_opens_7 : decode cX12_opens 7 = .ok (.i2l, 1) := by decide +kernel
theorem dX12_opens_8 : decode cX12_opens 8 = .ok (.invokevirtual 222, 3) := by decide +kernel
theorem dX12_opens_11 : decode cX12_opens 11 = .ok (.ifCond .ne 6, 3) := by decide +kernel
theorem dX12_opens_14 : decode cX12_opens 14 = .ok (.bipush (-2), 2) := by decide +kernel
theorem dX12_opens_16 : decode cX12_opens 16 = .ok (.ireturn, 1) := by decide +kernel
theorem dX12_opens_17 : decode cX12_opens 17 = .ok (.aload_n 0, 1) := by decide +kernel
theorem dX12_opens_18 : decode cX12_opens 18 = .ok (.invokevirtual 366, 3) := by decide +kernel
theorem dX12_opens_21 : decode cX12_opens 21 = .ok (.iconst (-1), 1) := by decide +kernel
theorem dX12_opens_22 : decode cX12_opens 22 = .ok (.istore_n 2, 1) := by decide +kernel
theorem dX12_opens_23 : decode cX12_opens 23 = .ok (.iconst 0, 1) := by decide +kernel
theorem dX12_opens_24 : decode cX12_opens 24 = .ok (.istore_n 3, 1) := by decide +kernel
theorem dX12_opens_25 : decode cX12_opens 25 = .ok (.iload_n 3, 1) := by decide +kernel
theorem dX12_opens_26 : decode cX12_opens 26 = .ok (.sipush 200, 3) := by decide +kernel
theorem dX12_opens_29 : decode cX12_opens 29 = .ok (.if_icmp .gt 49, 3) := by decide +kernel
theorem dX12_opens_32 : decode cX12_opens 32 = .ok (.iload_n 2, 1) := by decide +kernel
theorem dX12_opens_33 : decode cX12_opens 33 = .ok (.iconst (-1), 1) := by decide +kernel
theorem dX12_opens_34 : decode cX12_opens 34 = .ok (.if_icmp .ne 44, 3) := by decide +kernel
theorem dX12_opens_37 : decode cX12_opens 37 = .ok (.aload_n 0, 1) := by decide +kernel
theorem dX12_opens_38 : decode cX12_opens 38 = .ok (.iload_n 1, 1) := by decide +kernel
theorem dX12_opens_39 : decode cX12_opens 39 = .ok (.invokevirtual 257, 3) := by decide +kernel
theorem dX12_opens_42 : decode cX12_opens 42 = .ok (.aload_n 0, 1) := by decide +kernel
theorem dX12_opens_43 : decode cX12_opens 43 = .ok (.aload_n 0, 1) := by decide +kernel
theorem dX12_opens_44 : decode cX12_opens 44 = .ok (.invokevirtual 260, 3) := by decide +kernel
theorem dX12_opens_47 : decode cX12_opens 47 = .ok (.invokevirtual 354, 3) := by decide +kernel
theorem dX12_opens_50 : decode cX12_opens 50 = .ok (.ifCond .eq 11, 3) := by decide +kernel
theorem dX12_opens_53 : decode cX12_opens 53 = .ok (.aload_n 0, 1) := by decide +kernel
theorem dX12_opens_54 : decode cX12_opens 54 = .ok (.getfield 13, 3) := by decide +kernel
theorem dX12_opens_57 : decode cX12_opens 57 = .ok (.bipush 88, 2) := by decide +kernel
theorem dX12_opens_59 : decode cX12_opens 59 = .ok (.iaload, 1) := by decide +kernel
theorem dX12_opens_60 : decode cX12_opens 60 = .ok (.istore_n 2, 1) := by decide +kernel
theorem dX12_opens_61 : decode cX12_opens 61 = .ok (.aload_n 0, 1) := by decide +kernel
theorem dX12_opens_62 : decode cX12_opens 62 = .ok (.getfield 13, 3) := by decide +kernel
theorem dX12_opens_65 : decode cX12_opens 65 = .ok (.bipush 88, 2) := by decide +kernel
theorem dX12_opens_67 : decode cX12_opens 67 = .ok (.dup2, 1) := by decide +kernel
theorem dX12_opens_68 : decode cX12_opens 68 = .ok (.iaload, 1) := by decide +kernel
theorem dX12_opens_69 : decode cX12_opens 69 = .ok (.iconst 1, 1) := by decide +kernel
theorem dX12_opens_70 : decode cX12_opens 70 = .ok (.iadd, 1) := by decide +kernel
theorem dX12_opens_71 : decode cX12_opens 71 = .ok (.iastore, 1) := by decide +kernel
theorem dX12_opens_72 : decode cX12_opens 72 = .ok (.iinc 3 1, 3) := by decide +kernel
theorem dX12_opens_75 : decode cX12_opens 75 = .ok (.goto (-50), 3) := by decide +kernel
theorem dX12_opens_78 : decode cX12_opens 78 = .ok (.aload_n 0, 1) := by decide +kernel
theorem dX12_opens_79 : decode cX12_opens 79 = .ok (.invokevirtual 369, 3) := by decide +kernel
theorem dX12_opens_82 : decode cX12_opens 82 = .ok (.iload_n 2, 1) := by decide +kernel
theorem dX12_opens_83 : decode cX12_opens 83 = .ok (.ireturn, 1) := by decide +kernel
theorem dX12_saved_0 : decode cX12_saved 0 = .ok (.aload_n 0, 1) := by decide +kernel
theorem dX12_saved_1 : decode cX12_saved 1 = .ok (.iconst 0, 1) := by decide +kernel
theorem dX12_saved_2 : decode cX12_saved 2 = .ok (.putfield 1, 3) := by decide +kernel
theorem dX12_saved_5 : decode cX12_saved 5 = .ok (.aload_n 0, 1) := by decide +kernel
theorem dX12_saved_6 : decode cX12_saved 6 = .ok (.iload_n 1, 1) := by decide +kernel
theorem dX12_saved_7 : decode cX12_saved 7 = .ok (.i2l, 1) := by decide +kernel
theorem dX12_saved_8 : decode cX12_saved 8 = .ok (.invokevirtual 222, 3) := by decide +kernel
theorem dX12_saved_11 : decode cX12_saved 11 = .ok (.ifCond .ne 6, 3) := by decide +kernel
theorem dX12_saved_14 : decode cX12_saved 14 = .ok (.bipush (-2), 2) := by decide +kernel
theorem dX12_saved_16 : decode cX12_saved 16 = .ok (.ireturn, 1) := by decide +kernel
theorem dX12_saved_17 : decode cX12_saved 17 = .ok (.aload_n 0, 1) := by decide +kernel
theorem dX12_saved_18 : decode cX12_saved 18 = .ok (.iload_n 1, 1) := by decide +kernel
theorem dX12_saved_19 : decode cX12_saved 19 = .ok (.invokevirtual 351, 3) := by decide +kernel
theorem dX12_saved_22 : decode cX12_saved 22 = .ok (.iconst (-1), 1) := by decide +kernel
theorem dX12_saved_23 : decode cX12_saved 23 = .ok (.istore_n 2, 1) := by decide +kernel
theorem dX12_saved_24 : decode cX12_saved 24 = .ok (.iconst 0, 1) := by decide +kernel
theorem dX12_saved_25 : decode cX12_saved 25 = .ok (.istore_n 3, 1) := by decide +kernel
theorem dX12_saved_26 : decode cX12_saved 26 = .ok (.iload_n 3, 1) := by decide +kernel
theorem dX12_saved_27 : decode cX12_saved 27 = .ok (.iconst 1, 1) := by decide +kernel
theorem dX12_saved_28 : decode cX12_saved 28 = .ok (.aload_n 0, 1) := by decide +kernel
theorem dX12_saved_29 : decode cX12_saved 29 = .ok (.getfield 13, 3) := by decide +kernel
theorem dX12_saved_32 : decode cX12_saved 32 = .ok (.iconst 1, 1) := by decide +kernel
theorem dX12_saved_33 : decode cX12_saved 33 = .ok (.iaload, 1) := by decide +kernel
theorem dX12_saved_34 : decode cX12_saved 34 = .ok (.ishl, 1) := by decide +kernel
theorem dX12_saved_35 : decode cX12_saved 35 = .ok (.if_icmp .ge 70, 3) := by decide +kernel
theorem dX12_saved_38 : decode cX12_saved 38 = .ok (.iload_n 3, 1) := by decide +kernel
theorem dX12_saved_39 : decode cX12_saved 39 = .ok (.aload_n 0, 1) := by decide +kernel
theorem dX12_saved_40 : decode cX12_saved 40 = .ok (.invokevirtual 272, 3) := by decide +kernel
theorem dX12_saved_43 : decode cX12_saved 43 = .ok (.iconst (-1), 1) := by decide +kernel
theorem dX12_saved_44 : decode cX12_saved 44 = .ok (.ixor, 1) := by decide +kernel
theorem dX12_saved_45 : decode cX12_saved 45 = .ok (.iand, 1) := by decide +kernel
theorem dX12_saved_46 : decode cX12_saved 46 = .ok (.istore 4, 2) := by decide +kernel
theorem dX12_saved_48 : decode cX12_saved 48 = .ok (.aload_n 0, 1) := by decide +kernel
theorem dX12_saved_49 : decode cX12_saved 49 = .ok (.iload_n 3, 1) := by decide +kernel
theorem dX12_saved_50 : decode cX12_saved 50 = .ok (.invokevirtual 337, 3) := by decide +kernel
theorem dX12_saved_53 : decode cX12_saved 53 = .ok (.lconst 0, 1) := by decide +kernel
theorem dX12_saved_54 : decode cX12_saved 54 = .ok (.lcmp, 1) := by decide +kernel
theorem dX12_saved_55 : decode cX12_saved 55 = .ok (.ifCond .ne 6, 3) := by decide +kernel
theorem dX12_saved_58 : decode cX12_saved 58 = .ok (.goto 41, 3) := by decide +kernel
theorem dX12_saved_61 : decode cX12_saved 61 = .ok (.iload_n 2, 1) := by decide +kernel
theorem dX12_saved_62 : decode cX12_saved 62 = .ok (.iconst (-1), 1) := by decide +kernel
theorem dX12_saved_63 : decode cX12_saved 63 = .ok (.if_icmp .eq 33, 3) := by decide +kernel
theorem dX12_saved_66 : decode cX12_saved 66 = .ok (.iload 4, 2) := by decide +kernel
theorem dX12_saved_68 : decode cX12_saved 68 = .ok (.invokestatic 334, 3) := by decide +kernel
theorem dX12_saved_71 : decode cX12_saved 71 = .ok (.iload_n 2, 1) := by decide +kernel
theorem dX12_saved_72 : decode cX12_saved 72 = .ok (.invokestatic 334, 3) := by decide +kernel
theorem dX12_saved_75 : decode cX12_saved 75 = .ok (.if_icmp .lt 21, 3) := by decide +kernel
theorem dX12_saved_78 : decode cX12_saved 78 = .ok (.iload 4, 2) := by decide +kernel
theorem dX12_saved_80 : decode cX12_saved 80 = .ok (.invokestatic 334, 3) := by decide +kernel
theorem dX12_saved_83 : decode cX12_saved 83 = .ok (.iload_n 2, 1) := by decide +kernel
theorem dX12_saved_84 : decode cX12_saved 84 = .ok (.invokestatic 334, 3) := by decide +kernel
theorem dX12_saved_87 : decode cX12_saved 87 = .ok (.if_icmp .ne 12, 3) := by decide +kernel
theorem dX12_saved_90 : decode cX12_saved 90 = .ok (.iload 4, 2) := by decide +kernel
theorem dX12_saved_92 : decode cX12_saved 92 = .ok (.iload_n 2, 1) := by decide +kernel
theorem dX12_saved_93 : decode cX12_saved 93 = .ok (.if_icmp .ge 6, 3) := by decide +kernel
theorem dX12_saved_96 : decode cX12_saved 96 = .ok (.iload 4, 2) := by decide +kernel
theorem dX12_saved_98 : decode cX12_saved 98 = .ok (.istore_n 2, 1) := by decide +kernel
theorem dX12_saved_99 : decode cX12_saved 99 = .ok (.iinc 3 1, 3) := by decide +kernel
theorem dX12_saved_102 : decode cX12_saved 102 = .ok (.goto (-76), 3) := by decide +kernel
theorem dX12_saved_105 : decode cX12_saved 105 = .ok (.iload_n 2, 1) := by decide +kernel
theorem dX12_saved_106 : decode cX12_saved 106 = .ok (.ireturn, 1) := by decide +kernel
theorem dX12_together_0 : decode cX12_together 0 = .ok (.aload_n 0, 1) := by decide +kernel
theorem dX12_together_1 : decode cX12_together 1 = .ok (.iconst 0, 1) := by decide +kernel
theorem dX12_together_2 : decode cX12_together 2 = .ok (.putfield 1, 3) := by decide +kernel
theorem dX12_together_5 : decode cX12_together 5 = .ok (.aload_n 0, 1) := by decide +kernel
theorem dX12_together_6 : decode cX12_together 6 = .ok (.iload_n 1, 1) := by decide +kernel
theorem dX12_together_7 : decode cX12_together 7 = .ok (.i2l, 1) := by decide +kernel
theorem dX12_together_8 : decode cX12_together 8 = .ok (.invokevirtual 222, 3) := by decide +kernel
theorem dX12_together_11 : decode cX12_together 11 = .ok (.ifCond .eq 12, 3) := by decide +kernel
theorem dX12_together_14 : decode cX12_together 14 = .ok (.aload_n 0, 1) := by decide +kernel
theorem dX12_together_15 : decode cX12_together 15 = .ok (.iload_n 2, 1) := by decide +kernel
theorem dX12_together_16 : decode cX12_together 16 = .ok (.i2l, 1) := by decide +kernel
theorem dX12_together_17 : decode cX12_together 17 = .ok (.invokevirtual 222, 3) := by decide +kernel
theorem dX12_together_20 : decode cX12_together 20 = .ok (.ifCond .ne 6, 3) := by decide +kernel
theorem dX12_together_23 : decode cX12_together 23 = .ok (.bipush (-2), 2) := by decide +kernel
theorem dX12_together_25 : decode cX12_together 25 = .ok (.ireturn, 1) := by decide +kernel
theorem dX12_together_26 : decode cX12_together 26 = .ok (.aload_n 0, 1) := by decide +kernel
theorem dX12_together_27 : decode cX12_together 27 = .ok (.iload_n 1, 1) := by decide +kernel
theorem dX12_together_28 : decode cX12_together 28 = .ok (.invokevirtual 351, 3) := by decide +kernel
theorem dX12_together_31 : decode cX12_together 31 = .ok (.iconst 0, 1) := by decide +kernel
theorem dX12_together_32 : decode cX12_together 32 = .ok (.istore_n 3, 1) := by decide +kernel
theorem dX12_together_33 : decode cX12_together 33 = .ok (.iload_n 3, 1) := by decide +kernel
theorem dX12_together_34 : decode cX12_together 34 = .ok (.iconst 1, 1) := by decide +kernel
theorem dX12_together_35 : decode cX12_together 35 = .ok (.aload_n 0, 1) := by decide +kernel
theorem dX12_together_36 : decode cX12_together 36 = .ok (.getfield 13, 3) := by decide +kernel
theorem dX12_together_39 : decode cX12_together 39 = .ok (.iconst 1, 1) := by decide +kernel
theorem dX12_together_40 : decode cX12_together 40 = .ok (.iaload, 1) := by decide +kernel
theorem dX12_together_41 : decode cX12_together 41 = .ok (.ishl, 1) := by decide +kernel
theorem dX12_together_42 : decode cX12_together 42 = .ok (.if_icmp .ge 16, 3) := by decide +kernel
theorem dX12_together_45 : decode cX12_together 45 = .ok (.aload_n 0, 1) := by decide +kernel
theorem dX12_together_46 : decode cX12_together 46 = .ok (.getfield 53, 3) := by decide +kernel
theorem dX12_together_49 : decode cX12_together 49 = .ok (.iload_n 3, 1) := by decide +kernel
theorem dX12_together_50 : decode cX12_together 50 = .ok (.iconst 0, 1) := by decide +kernel
theorem dX12_together_51 : decode cX12_together 51 = .ok (.bastore, 1) := by decide +kernel
theorem dX12_together_52 : decode cX12_together 52 = .ok (.iinc 3 1, 3) := by decide +kernel
theorem dX12_together_55 : decode cX12_together 55 = .ok (.goto (-22), 3) := by decide +kernel
theorem dX12_together_58 : decode cX12_together 58 = .ok (.iconst 0, 1) := by decide +kernel
theorem dX12_together_59 : decode cX12_together 59 = .ok (.istore_n 3, 1) := by decide +kernel
theorem dX12_together_60 : decode cX12_together 60 = .ok (.iload_n 3, 1) := by decide +kernel
theorem dX12_together_61 : decode cX12_together 61 = .ok (.iconst 1, 1) := by decide +kernel
theorem dX12_together_62 : decode cX12_together 62 = .ok (.aload_n 0, 1) := by decide +kernel
theorem dX12_together_63 : decode cX12_together 63 = .ok (.getfield 13, 3) := by decide +kernel
theorem dX12_together_66 : decode cX12_together 66 = .ok (.iconst 1, 1) := by decide +kernel
theorem dX12_together_67 : decode cX12_together 67 = .ok (.iaload, 1) := by decide +kernel
theorem dX12_together_68 : decode cX12_together 68 = .ok (.ishl, 1) := by decide +kernel
theorem dX12_together_69 : decode cX12_together 69 = .ok (.if_icmp .ge 33, 3) := by decide +kernel
theorem dX12_together_72 : decode cX12_together 72 = .ok (.aload_n 0, 1) := by decide +kernel
theorem dX12_together_73 : decode cX12_together 73 = .ok (.iload_n 3, 1) := by decide +kernel
theorem dX12_together_74 : decode cX12_together 74 = .ok (.invokevirtual 337, 3) := by decide +kernel
theorem dX12_together_77 : decode cX12_together 77 = .ok (.lconst 0, 1) := by decide +kernel
theorem dX12_together_78 : decode cX12_together 78 = .ok (.lcmp, 1) := by decide +kernel
theorem dX12_together_79 : decode cX12_together 79 = .ok (.ifCond .le 17, 3) := by decide +kernel
theorem dX12_together_82 : decode cX12_together 82 = .ok (.aload_n 0, 1) := by decide +kernel
theorem dX12_together_83 : decode cX12_together 83 = .ok (.getfield 53, 3) := by decide +kernel
theorem dX12_together_86 : decode cX12_together 86 = .ok (.iload_n 3, 1) := by decide +kernel
theorem dX12_together_87 : decode cX12_together 87 = .ok (.aload_n 0, 1) := by decide +kernel
theorem dX12_together_88 : decode cX12_together 88 = .ok (.invokevirtual 272, 3) := by decide +kernel
theorem dX12_together_91 : decode cX12_together 91 = .ok (.iconst (-1), 1) := by decide +kernel
theorem dX12_together_92 : decode cX12_together 92 = .ok (.ixor, 1) := by decide +kernel
theorem dX12_together_93 : decode cX12_together 93 = .ok (.iand, 1) := by decide +kernel
theorem dX12_together_94 : decode cX12_together 94 = .ok (.iconst 1, 1) := by decide +kernel
theorem dX12_together_95 : decode cX12_together 95 = .ok (.bastore, 1) := by decide +kernel
theorem dX12_together_96 : decode cX12_together 96 = .ok (.iinc 3 1, 3) := by decide +kernel
theorem dX12_together_99 : decode cX12_together 99 = .ok (.goto (-39), 3) := by decide +kernel
theorem dX12_together_102 : decode cX12_together 102 = .ok (.aload_n 0, 1) := by decide +kernel
theorem dX12_together_103 : decode cX12_together 103 = .ok (.iload_n 2, 1) := by decide +kernel
theorem dX12_together_104 : decode cX12_together 104 = .ok (.invokevirtual 257, 3) := by decide +kernel
theorem dX12_together_107 : decode cX12_together 107 = .ok (.aload_n 0, 1) := by decide +kernel
theorem dX12_together_108 : decode cX12_together 108 = .ok (.invokevirtual 260, 3) := by decide +kernel
theorem dX12_together_111 : decode cX12_together 111 = .ok (.istore_n 3, 1) := by decide +kernel
theorem dX12_together_112 : decode cX12_together 112 = .ok (.iconst 0, 1) := by decide +kernel
theorem dX12_together_113 : decode cX12_together 113 = .ok (.istore 4, 2) := by decide +kernel
theorem dX12_together_115 : decode cX12_together 115 = .ok (.iload 4, 2) := by decide +kernel
theorem dX12_together_117 : decode cX12_together 117 = .ok (.iconst 1, 1) := by decide +kernel
theorem dX12_together_118 : decode cX12_together 118 = .ok (.aload_n 0, 1) := by decide +kernel
theorem dX12_together_119 : decode cX12_together 119 = .ok (.getfield 13, 3) := by decide +kernel
theorem dX12_together_122 : decode cX12_together 122 = .ok (.iconst 1, 1) := by decide +kernel
theorem dX12_together_123 : decode cX12_together 123 = .ok (.iaload, 1) := by decide +kernel
theorem dX12_together_124 : decode cX12_together 124 = .ok (.ishl, 1) := by decide +kernel
theorem dX12_together_125 : decode cX12_together 125 = .ok (.if_icmp .ge 34, 3) := by decide +kernel
theorem dX12_together_128 : decode cX12_together 128 = .ok (.aload_n 0, 1) := by decide +kernel
theorem dX12_together_129 : decode cX12_together 129 = .ok (.getfield 53, 3) := by decide +kernel
theorem dX12_together_132 : decode cX12_together 132 = .ok (.iload 4, 2) := by decide +kernel
theorem dX12_together_134 : decode cX12_together 134 = .ok (.baload, 1) := by decide +kernel
theorem dX12_together_135 : decode cX12_together 135 = .ok (.ifCond .eq 18, 3) := by decide +kernel
theorem dX12_together_138 : decode cX12_together 138 = .ok (.aload_n 0, 1) := by decide +kernel
theorem dX12_together_139 : decode cX12_together 139 = .ok (.iload_n 3, 1) := by decide +kernel
theorem dX12_together_140 : decode cX12_together 140 = .ok (.iload 4, 2) := by decide +kernel
theorem dX12_together_142 : decode cX12_together 142 = .ok (.iconst (-1), 1) := by decide +kernel
theorem dX12_together_143 : decode cX12_together 143 = .ok (.ixor, 1) := by decide +kernel
theorem dX12_together_144 : decode cX12_together 144 = .ok (.iand, 1) := by decide +kernel
theorem dX12_together_145 : decode cX12_together 145 = .ok (.invokevirtual 354, 3) := by decide +kernel
theorem dX12_together_148 : decode cX12_together 148 = .ok (.ifCond .eq 5, 3) := by decide +kernel
theorem dX12_together_151 : decode cX12_together 151 = .ok (.iconst 1, 1) := by decide +kernel
theorem dX12_together_152 : decode cX12_together 152 = .ok (.ireturn, 1) := by decide +kernel
theorem dX12_together_153 : decode cX12_together 153 = .ok (.iinc 4 1, 3) := by decide +kernel
theorem dX12_together_156 : decode cX12_together 156 = .ok (.goto (-41), 3) := by decide +kernel
theorem dX12_together_159 : decode cX12_together 159 = .ok (.iconst 0, 1) := by decide +kernel
theorem dX12_together_160 : decode cX12_together 160 = .ok (.ireturn, 1) := by decide +kernel
theorem kw_1250 : Cond.fieldLink "FootholdWallModel" 53 "FootholdWallModel" "uses" "[Z" ∈ gw := gw_of (tb_of 1250 (by decide +kernel)) (by decide +kernel)
theorem kw_1704 : Cond.methodLink "FootholdWallModel" 366 yX12_keepsAhead ∈ gw := gw_of (tb_of 1704 (by decide +kernel)) (by decide +kernel)
theorem kw_1706 : Cond.instanceMethod yX12_keepsAhead ∈ gw := gw_of (tb_of 1706 (by decide +kernel)) (by decide +kernel)
theorem kw_1707 : Cond.code yX12_keepsAhead cX12_keepsAhead 2 none ∈ gw := gw_of (tb_of 1707 (by decide +kernel)) (by decide +kernel)
theorem kw_1708 : Cond.methodLink "FootholdWallModel" 369 yX12_isAhead ∈ gw := gw_of (tb_of 1708 (by decide +kernel)) (by decide +kernel)
theorem kw_1710 : Cond.instanceMethod yX12_isAhead ∈ gw := gw_of (tb_of 1710 (by decide +kernel)) (by decide +kernel)
theorem kw_1711 : Cond.code yX12_isAhead cX12_isAhead 2 none ∈ gw := gw_of (tb_of 1711 (by decide +kernel)) (by decide +kernel)
theorem kw_1724 : Cond.methodLink "FootholdWallModel" 372 yX12_thereSet ∈ gw := gw_of (tb_of 1724 (by decide +kernel)) (by decide +kernel)
theorem kw_1726 : Cond.instanceMethod yX12_thereSet ∈ gw := gw_of (tb_of 1726 (by decide +kernel)) (by decide +kernel)
theorem kw_1727 : Cond.code yX12_thereSet cX12_thereSet 3 (some (.int)) ∈ gw := gw_of (tb_of 1727 (by decide +kernel)) (by decide +kernel)
theorem ks_96 : Cond.selects RX12 yX12_keepsAhead yX12_keepsAhead ∈ gw := gw_of (pv_of 96 (by decide +kernel)) (by decide +kernel)
theorem ks_97 : Cond.selects RX12 yX12_isAhead yX12_isAhead ∈ gw := gw_of (pv_of 97 (by decide +kernel)) (by decide +kernel)
theorem ks_99 : Cond.selects RX12 yX12_thereSet yX12_thereSet ∈ gw := gw_of (pv_of 99 (by decide +kernel)) (by decide +kernel)
