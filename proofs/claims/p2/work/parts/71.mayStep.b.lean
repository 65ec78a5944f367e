set_option maxHeartbeats 4000000 in
set_option maxRecDepth 100000 in
theorem s_M_isIn2 (l : Launch) (D : va_G) (cs : CS) (kf : KF) (T : TF) (O : List Nat) (X : va_W) (x0 : Int64) (x1 : Int32)  (hO : okO T O []) : TK l D cs kf yX12_isIn cX12_isIn 3 (some (.boolean)) { frames := 0, cells := 0, slots := 0, locals := 0 } [.long x0, .int x1] T O X (Ti D cs (fun r u => u = (T, O, X) ∧ 0 ≤ r.toInt ∧ r.toInt ≤ 1 ∧ (r = inF x0 x1))) := by
  refine tk_of (by decide) (Nat.le_of_ble_eq_true rfl) (fun p e s m below meth c ls A H locs hx hb hr hml hown hts hlocks hnm hkb hH hS hA hOX hks hE hl => ?_)
  have hown : s.vm.findClass RX12 = some m.cls := hown
  have hl : lv_has ls 3 [(0, .long x0), (2, .int x1)] := hl
  refine lv_lload_n hx hb dX12_isIn_0 rfl (lv_at hl 0 rfl) ?_
  refine lv_iload_n hx hb dX12_isIn_1 rfl (lv_at hl 1 rfl) ?_
  refine lv_lshr hx hb dX12_isIn_2 rfl ?_
  refine lv_topl (fun v2 ev2 => ?_)
  refine lv_lconst (v := 1) hx hb dX12_isIn_3 (by decide) ?_
  refine lv_land hx hb dX12_isIn_4 ?_
  refine lv_topl (fun v4 ev4 => ?_)
  refine lv_lconst (v := 1) hx hb dX12_isIn_5 (by decide) ?_
  refine W.lcmp hx hb dX12_isIn_6 ?_
  refine lv_if_ne (tgt := 14) hx hb dX12_isIn_7 (by decide) (fun c7 => ?_) (fun c7 => ?_)
  · skip
    have tc7 := ne_l c7
    have kc7_1 : (1 : Int64).toInt = 1 := by decide
    refine lv_iconst (v := 0) hx hb dX12_isIn_14 (by decide) ?_
    have z9_0 : (0 : Int32).toInt = 0 := by decide
    exact te_z hx hb hr hlocks (by rfl) hH hS (⟨rfl, by decide, by decide, inF_0 ev2 ev4 tc7⟩) dX12_isIn_15
  · skip
    have tc7 := eq_l c7
    have kc7_1 : (1 : Int64).toInt = 1 := by decide
    refine lv_iconst (v := 1) hx hb dX12_isIn_10 (by decide) ?_
    refine lv_goto (tgt := 15) hx hb dX12_isIn_11 (by decide) ?_
    have z9_1 : (1 : Int32).toInt = 1 := by decide
    exact te_z hx hb hr hlocks (by rfl) hH hS (⟨rfl, by decide, by decide, inF_1 ev2 ev4 tc7⟩) dX12_isIn_15
set_option maxHeartbeats 4000000 in
set_option maxRecDepth 100000 in
theorem s_M_wordOf (l : Launch) (D : va_G) (cs : CS) (kf : KF) (T : TF) (O : List Nat) (X : va_W) (a0 hg mq : Nat) (x1 : Int32) (x2 : Int32) (x3 : Int32) (x4 : Int32) (f1 : Nat → Int32) (o0 : Value) (y1 : Nat) (o2 : Value) (o3 : Value) (o4 : Value) (o5 : Value) (o6 : Value) (o7 : Value) (o8 : Value) (o9 : Value) (o10 : Value) (o11 : Value) (o12 : Value) (o13 : Value) (o14 : Value) (y15 : Nat) (y16 : Int32) (tl : List Value) (t_a0 : T a0 = some (22, hg, mq)) (b_hg : hg < 90) (l_x2 : 0 ≤ x2.toInt) (u_x2 : x2.toInt ≤ 4) (l_x3 : 0 ≤ x3.toInt) (u_x3 : x3.toInt ≤ 13) (l_x4 : 0 ≤ x4.toInt) (u_x4 : x4.toInt ≤ 13) (s_f1 : B8 3906 f1) (g_f1 : f1 1 = nI (hg / 6) ∧ f1 2 = nI (hg % 6)) (t_y1 : T y1 = some (8, 3906, hg)) (t_y15 : T y15 = some (1, 900, 0)) (hO : okO T (y1 :: a0 :: O) []) : TK l D cs kf yX12_wordOf cX12_wordOf 7 (some (.int)) { frames := 1, cells := 0, slots := 0, locals := 22 } [.ref a0, .int x1, .int x2, .int x3, .int x4] T (y1 :: a0 :: O) ((y1, .inl (cs.2.1, 3906, .inl f1)) :: (a0, .inr (12, o0 :: (.ref y1) :: o2 :: o3 :: o4 :: o5 :: o6 :: o7 :: o8 :: o9 :: o10 :: o11 :: o12 :: o13 :: o14 :: (.ref y15) :: (.int y16) :: tl)) :: X) (Ti D cs (fun r u => u = (T, y1 :: a0 :: O, (y1, .inl (cs.2.1, 3906, .inl f1)) :: (a0, .inr (12, o0 :: (.ref y1) :: o2 :: o3 :: o4 :: o5 :: o6 :: o7 :: o8 :: o9 :: o10 :: o11 :: o12 :: o13 :: o14 :: (.ref y15) :: (.int y16) :: tl)) :: X))) := by
  refine tk_of (by decide) (Nat.le_of_ble_eq_true rfl) (fun p e s m below meth c ls A H locs hx hb hr hml hown hts hlocks hnm hkb hH hS hA hOX hks hE hl => ?_)
  have hown : s.vm.findClass RX12 = some m.cls := hown
  have hl : lv_has ls 7 [(0, .ref a0), (1, .int x1), (2, .int x2), (3, .int x3), (4, .int x4)] := hl
  have hOXf := hOX
  refine lv_aload_n hx hb dX12_wordOf_0 rfl (lv_at hl 0 rfl) ?_
  refine x_getk (ci := 12) (C := RX12) (F := TX12) (N := 36) (v := .ref y1) hx hb hts uX12 hown hkb hH 1 rfl rfl 1 (by decide) rfl kw_1224 (fun _ h9 => h9) dX12_wordOf_1 ?_
  refine lv_bipush (v := 7) hx hb dX12_wordOf_4 (by decide) ?_
  refine lv_iload hx hb dX12_wordOf_6 (lv_at hl 4 rfl) ?_
  refine lv_iadd hx hb dX12_wordOf_8 ?_
  refine lv_topi (fun v8 ev8 => ?_)
  have tv8 : v8.toInt = (7) + x4.toInt := by rw [ev8]; exact add_i (by decide : (7 : Int32).toInt = 7) rfl (by omega) (by omega)
  refine xa_ild hx hb hkb hH 0 rfl (by omega) (by omega) dX12_wordOf_9 ?_
  refine lv_topi (fun v9 ev9 => ?_)
  have tv9 : v9 = f1 v8.toInt.toNat := ev9
  refine lv_aload_n hx hb dX12_wordOf_10 rfl (lv_at hl 0 rfl) ?_
  refine x_getk (ci := 12) (C := RX12) (F := TX12) (N := 36) (v := .ref y1) hx hb hts uX12 hown hkb hH 1 rfl rfl 1 (by decide) rfl kw_1224 (fun _ h9 => h9) dX12_wordOf_11 ?_
  refine lv_bipush (v := 7) hx hb dX12_wordOf_14 (by decide) ?_
  refine lv_iload_n hx hb dX12_wordOf_16 rfl (lv_at hl 3 rfl) ?_
  refine lv_iadd hx hb dX12_wordOf_17 ?_
  refine lv_topi (fun v17 ev17 => ?_)
  have tv17 : v17.toInt = (7) + x3.toInt := by rw [ev17]; exact add_i (by decide : (7 : Int32).toInt = 7) rfl (by omega) (by omega)
  refine xa_ild hx hb hkb hH 0 rfl (by omega) (by omega) dX12_wordOf_18 ?_
  refine lv_topi (fun v18 ev18 => ?_)
  have tv18 : v18 = f1 v17.toInt.toNat := ev18
  refine lv_isub hx hb dX12_wordOf_19 ?_
  refine lv_topi (fun v19 ev19 => ?_)
  refine tk_i hH hS hA (tr_S (n := 1) (As := [.int v19]) hx hb hml hown hts hkb hH (ox_map hOX rfl) hks hE hS hA (s_M_far l D cs kf T (y1 :: a0 :: O) ((y1, .inl (cs.2.1, 3906, .inl f1)) :: (a0, .inr (12, o0 :: (.ref y1) :: o2 :: o3 :: o4 :: o5 :: o6 :: o7 :: o8 :: o9 :: o10 :: o11 :: o12 :: o13 :: o14 :: (.ref y15) :: (.int y16) :: tl)) :: X) v19  (hO.sub (by decide))) kw_1490 kw_1491 kw_13 kw_1492 (by decide +kernel) ⟨Nat.le_of_ble_eq_true rfl, Nat.le_of_ble_eq_true rfl⟩ rfl rfl hl.1 (Nat.le_of_ble_eq_true rfl) dX12_wordOf_20 ⟨Nat.le_of_ble_eq_true rfl, Nat.le_of_ble_eq_true rfl⟩) (fun v20 u H locs hz9 hH hS => ?_)
  have hz9 : u = (T, y1 :: a0 :: O, (y1, .inl (cs.2.1, 3906, .inl f1)) :: (a0, .inr (12, o0 :: (.ref y1) :: o2 :: o3 :: o4 :: o5 :: o6 :: o7 :: o8 :: o9 :: o10 :: o11 :: o12 :: o13 :: o14 :: (.ref y15) :: (.int y16) :: tl)) :: X) := hz9
  subst hz9
  have hH : HT D cs A T (y1 :: a0 :: O) ((y1, .inl (cs.2.1, 3906, .inl f1)) :: (a0, .inr (12, o0 :: (.ref y1) :: o2 :: o3 :: o4 :: o5 :: o6 :: o7 :: o8 :: o9 :: o10 :: o11 :: o12 :: o13 :: o14 :: (.ref y15) :: (.int y16) :: tl)) :: X) H := hH
  refine W.widen (k := 0) (n := 0) (Nat.le_of_ble_eq_true rfl) (Nat.le_of_ble_eq_true rfl) ?_
  refine lv_istore (lv' := [(5, .int v20), (0, .ref a0), (1, .int x1), (2, .int x2), (3, .int x3), (4, .int x4)]) hx hb dX12_wordOf_23 hl (by decide) rfl (fun ls hl => ?_)
  refine lv_aload_n hx hb dX12_wordOf_25 rfl (lv_at hl 1 rfl) ?_
  refine x_getk (ci := 12) (C := RX12) (F := TX12) (N := 36) (v := .ref y1) hx hb hts uX12 hown hkb hH 1 rfl rfl 1 (by decide) rfl kw_1224 (fun _ h9 => h9) dX12_wordOf_26 ?_
  refine lv_bipush (v := 21) hx hb dX12_wordOf_29 (by decide) ?_
  refine lv_iload hx hb dX12_wordOf_31 (lv_at hl 5 rfl) ?_
  refine lv_iadd hx hb dX12_wordOf_33 ?_
  refine lv_topi (fun v33 ev33 => ?_)
  have tv33 : v33.toInt = (21) + x4.toInt := by rw [ev33]; exact add_i (by decide : (21 : Int32).toInt = 21) rfl (by omega) (by omega)
  refine xa_ild hx hb hkb hH 0 rfl (by omega) (by omega) dX12_wordOf_34 ?_
  refine lv_topi (fun v34 ev34 => ?_)
  have tv34 : v34 = f1 v33.toInt.toNat := ev34
  refine lv_aload_n hx hb dX12_wordOf_35 rfl (lv_at hl 1 rfl) ?_
  refine x_getk (ci := 12) (C := RX12) (F := TX12) (N := 36) (v := .ref y1) hx hb hts uX12 hown hkb hH 1 rfl rfl 1 (by decide) rfl kw_1224 (fun _ h9 => h9) dX12_wordOf_36 ?_
  refine lv_bipush (v := 21) hx hb dX12_wordOf_39 (by decide) ?_
  refine lv_iload_n hx hb dX12_wordOf_41 rfl (lv_at hl 4 rfl) ?_
  refine lv_iadd hx hb dX12_wordOf_42 ?_
  refine lv_topi (fun v42 ev42 => ?_)
  have tv42 : v42.toInt = (21) + x3.toInt := by rw [ev42]; exact add_i (by decide : (21 : Int32).toInt = 21) rfl (by omega) (by omega)
  refine xa_ild hx hb hkb hH 0 rfl (by omega) (by omega) dX12_wordOf_43 ?_
  refine lv_topi (fun v43 ev43 => ?_)
  have tv43 : v43 = f1 v42.toInt.toNat := ev43
  refine lv_isub hx hb dX12_wordOf_44 ?_
  refine lv_topi (fun v44 ev44 => ?_)
  refine lv_istore (lv' := [(6, .int v44), (5, .int v20), (0, .ref a0), (1, .int x1), (2, .int x2), (3, .int x3), (4, .int x4)]) hx hb dX12_wordOf_45 hl (by decide) rfl (fun ls hl => ?_)
  refine lv_iload_n hx hb dX12_wordOf_47 rfl (lv_at hl 3 rfl) ?_
  by_cases c48_0 : x1 = 0
  · skip
    refine lv_topc c48_0 ?_
    have tc48_0 := f_eq (k := 0) (by decide) c48_0
    refine lv_tableIn (off := 40) (tgt := 88) hx hb dX12_wordOf_48 (by decide) (by decide) (by decide) (by decide) ?_
    refine lv_iload hx hb dX12_wordOf_88 (lv_at hl 1 rfl) ?_
    exact te_i hx hb hr hlocks hH hS (rfl) dX12_wordOf_90
  have tc48_0 := f_ne (k := 0) (by decide) c48_0
  by_cases c48_1 : x1 = 1
  · skip
    refine lv_topc c48_1 ?_
    have tc48_1 := f_eq (k := 1) (by decide) c48_1
    refine lv_tableIn (off := 43) (tgt := 91) hx hb dX12_wordOf_48 (by decide) (by decide) (by decide) (by decide) ?_
    refine lv_iload hx hb dX12_wordOf_91 (lv_at hl 0 rfl) ?_
    exact te_i hx hb hr hlocks hH hS (rfl) dX12_wordOf_93
  have tc48_1 := f_ne (k := 1) (by decide) c48_1
  by_cases c48_2 : x1 = 2
  · skip
    refine lv_topc c48_2 ?_
    have tc48_2 := f_eq (k := 2) (by decide) c48_2
    refine lv_tableIn (off := 46) (tgt := 94) hx hb dX12_wordOf_48 (by decide) (by decide) (by decide) (by decide) ?_
    refine lv_iload hx hb dX12_wordOf_94 (lv_at hl 1 rfl) ?_
    refine lv_iload hx hb dX12_wordOf_96 (lv_at hl 0 rfl) ?_
    refine tk_i hH hS hA (tr_S (n := 1) (As := [.int v44]) hx hb hml hown hts hkb hH (ox_map hOX rfl) hks hE hS hA (s_M_far l D cs kf T (y1 :: a0 :: O) ((y1, .inl (cs.2.1, 3906, .inl f1)) :: (a0, .inr (12, o0 :: (.ref y1) :: o2 :: o3 :: o4 :: o5 :: o6 :: o7 :: o8 :: o9 :: o10 :: o11 :: o12 :: o13 :: o14 :: (.ref y15) :: (.int y16) :: tl)) :: X) v44  (hO.sub (by decide))) kw_1490 kw_1491 kw_13 kw_1492 (by decide +kernel) ⟨Nat.le_of_ble_eq_true rfl, Nat.le_of_ble_eq_true rfl⟩ rfl rfl hl.1 (Nat.le_of_ble_eq_true rfl) dX12_wordOf_98 ⟨Nat.le_of_ble_eq_true rfl, Nat.le_of_ble_eq_true rfl⟩) (fun v98 u H locs hz9 hH hS => ?_)
    have hz9 : u = (T, y1 :: a0 :: O, (y1, .inl (cs.2.1, 3906, .inl f1)) :: (a0, .inr (12, o0 :: (.ref y1) :: o2 :: o3 :: o4 :: o5 :: o6 :: o7 :: o8 :: o9 :: o10 :: o11 :: o12 :: o13 :: o14 :: (.ref y15) :: (.int y16) :: tl)) :: X) := hz9
    subst hz9
    have hH : HT D cs A T (y1 :: a0 :: O) ((y1, .inl (cs.2.1, 3906, .inl f1)) :: (a0, .inr (12, o0 :: (.ref y1) :: o2 :: o3 :: o4 :: o5 :: o6 :: o7 :: o8 :: o9 :: o10 :: o11 :: o12 :: o13 :: o14 :: (.ref y15) :: (.int y16) :: tl)) :: X) H := hH
    refine W.widen (k := 0) (n := 0) (Nat.le_of_ble_eq_true rfl) (Nat.le_of_ble_eq_true rfl) ?_
    refine lv_iadd hx hb dX12_wordOf_101 ?_
    refine lv_topi (fun v101 ev101 => ?_)
    exact te_i hx hb hr hlocks hH hS (rfl) dX12_wordOf_102
  have tc48_2 := f_ne (k := 2) (by decide) c48_2
  by_cases c48_3 : x1 = 3
  · skip
    refine lv_topc c48_3 ?_
    have tc48_3 := f_eq (k := 3) (by decide) c48_3
    refine lv_tableIn (off := 55) (tgt := 103) hx hb dX12_wordOf_48 (by decide) (by decide) (by decide) (by decide) ?_
    refine lv_aload_n hx hb dX12_wordOf_103 rfl (lv_at hl 2 rfl) ?_
    refine x_getk (ci := 12) (C := RX12) (F := TX12) (N := 36) (v := .int y16) hx hb hts uX12 hown hkb hH 1 rfl rfl 16 (by decide) rfl kw_1239 (fun _ h9 => h9) dX12_wordOf_104 ?_
    exact te_i hx hb hr hlocks hH hS (rfl) dX12_wordOf_107
  have tc48_3 := f_ne (k := 3) (by decide) c48_3
  by_cases c48_4 : x1 = 4
  · skip
    refine lv_topc c48_4 ?_
    have tc48_4 := f_eq (k := 4) (by decide) c48_4
    refine lv_tableIn (off := 60) (tgt := 108) hx hb dX12_wordOf_48 (by decide) (by decide) (by decide) (by decide) ?_
    refine lv_aload_n hx hb dX12_wordOf_108 rfl (lv_at hl 2 rfl) ?_
    refine x_getk (ci := 12) (C := RX12) (F := TX12) (N := 36) (v := .ref y1) hx hb hts uX12 hown hkb hH 1 rfl rfl 1 (by decide) rfl kw_1224 (fun _ h9 => h9) dX12_wordOf_109 ?_
    refine lv_bipush (v := 54) hx hb dX12_wordOf_112 (by decide) ?_
    refine lv_iload_n hx hb dX12_wordOf_114 rfl (lv_at hl 4 rfl) ?_
    refine lv_iadd hx hb dX12_wordOf_115 ?_
    refine lv_topi (fun v115 ev115 => ?_)
    have tv115 : v115.toInt = (54) + x2.toInt := by rw [ev115]; exact add_i (by decide : (54 : Int32).toInt = 54) rfl (by omega) (by omega)
    refine xa_ild hx hb hkb hH 0 rfl (by omega) (by omega) dX12_wordOf_116 ?_
    refine lv_topi (fun v116 ev116 => ?_)
    have tv116 : v116 = f1 v115.toInt.toNat := ev116
    exact te_i hx hb hr hlocks hH hS (rfl) dX12_wordOf_117
  have tc48_4 := f_ne (k := 4) (by decide) c48_4
  by_cases c48_5 : x1 = 5
  · skip
    refine lv_topc c48_5 ?_
    have tc48_5 := f_eq (k := 5) (by decide) c48_5
    refine lv_tableIn (off := 70) (tgt := 118) hx hb dX12_wordOf_48 (by decide) (by decide) (by decide) (by decide) ?_
    refine lv_aload_n hx hb dX12_wordOf_118 rfl (lv_at hl 2 rfl) ?_
    refine x_getk (ci := 12) (C := RX12) (F := TX12) (N := 36) (v := .ref y1) hx hb hts uX12 hown hkb hH 1 rfl rfl 1 (by decide) rfl kw_1224 (fun _ h9 => h9) dX12_wordOf_119 ?_
    refine lv_bipush (v := 6) hx hb dX12_wordOf_122 (by decide) ?_
    refine xa_ild hx hb hkb hH 0 rfl (by decide) (by decide) dX12_wordOf_124 ?_
    refine lv_topi (fun v124 ev124 => ?_)
    have tv124 : v124 = f1 6 := by rw [ev124]; rfl
    have bv124 : 0 ≤ v124.toInt ∧ v124.toInt ≤ 16383 := by rw [ev124]; exact (s_f1.at (by decide) 6).2.2.2.2.1 (by decide)
    refine lv_i2l hx hb dX12_wordOf_125 rfl ?_
    refine lv_iload hx hb dX12_wordOf_126 (lv_at hl 6 rfl) ?_
    refine tk_i hH hS hA (tr_S (n := 2) (As := [.long v124.toInt64, .int x4]) hx hb hml hown hts hkb hH (ox_map hOX rfl) hks hE hS hA (s_M_isIn2 l D cs kf T (y1 :: a0 :: O) ((y1, .inl (cs.2.1, 3906, .inl f1)) :: (a0, .inr (12, o0 :: (.ref y1) :: o2 :: o3 :: o4 :: o5 :: o6 :: o7 :: o8 :: o9 :: o10 :: o11 :: o12 :: o13 :: o14 :: (.ref y15) :: (.int y16) :: tl)) :: X) v124.toInt64 x4  (hO.sub (by decide))) kw_1440 kw_1441 kw_13 kw_1442 (by decide +kernel) ⟨Nat.le_of_ble_eq_true rfl, Nat.le_of_ble_eq_true rfl⟩ rfl rfl hl.1 (Nat.le_of_ble_eq_true rfl) dX12_wordOf_128 ⟨Nat.le_of_ble_eq_true rfl, Nat.le_of_ble_eq_true rfl⟩) (fun v128 u H locs hz9 hH hS => ?_)
    obtain ⟨rfl, l_v128, u_v128, x_v1280⟩ := hz9
    have hH : HT D cs A T (y1 :: a0 :: O) ((y1, .inl (cs.2.1, 3906, .inl f1)) :: (a0, .inr (12, o0 :: (.ref y1) :: o2 :: o3 :: o4 :: o5 :: o6 :: o7 :: o8 :: o9 :: o10 :: o11 :: o12 :: o13 :: o14 :: (.ref y15) :: (.int y16) :: tl)) :: X) H := hH
    refine W.widen (k := 0) (n := 0) (Nat.le_of_ble_eq_true rfl) (Nat.le_of_ble_eq_true rfl) ?_
    have J139 : ∀ (k139_0 : Int32) (H : Heap) (locs : List Loc) (ls : Array Slot), (0 ≤ k139_0.toInt) → (k139_0.toInt ≤ 1) → HT D cs A T (y1 :: a0 :: O) ((y1, .inl (cs.2.1, 3906, .inl f1)) :: (a0, .inr (12, o0 :: (.ref y1) :: o2 :: o3 :: o4 :: o5 :: o6 :: o7 :: o8 :: o9 :: o10 :: o11 :: o12 :: o13 :: o14 :: (.ref y15) :: (.int y16) :: tl)) :: X) H → va_S A s.heap H locs → lv_has ls 7 [] → W p l e { frames := 1, cells := 0, slots := 0, locals := 22 } s m [.ref a0, .int x1, .int x2, .int x3, .int x4].toArray below meth c H locs 0 0 (MQ below (Ti D cs (fun r u => u = (T, y1 :: a0 :: O, (y1, .inl (cs.2.1, 3906, .inl f1)) :: (a0, .inr (12, o0 :: (.ref y1) :: o2 :: o3 :: o4 :: o5 :: o6 :: o7 :: o8 :: o9 :: o10 :: o11 :: o12 :: o13 :: o14 :: (.ref y15) :: (.int y16) :: tl)) :: X)) A) [.ref a0, .int x1, .int x2, .int x3, .int x4].toArray s 0 0 A) (F0 m 139 ls [.int k139_0]) := by
      intro k139_0 H locs ls l_k139_0 u_k139_0 hH hS hl
      exact te_i hx hb hr hlocks hH hS (rfl) dX12_wordOf_139
    refine lv_if_eq (tgt := 138) hx hb dX12_wordOf_131 (by decide) (fun c131 => ?_) (fun c131 => ?_)
    · skip
      have tc131 := f_eq (k := 0) (by decide) c131
      refine lv_iconst (v := 0) hx hb dX12_wordOf_138 (by decide) ?_
      exact J139 0 _ _ _ (by decide) (by decide) hH hS (lv_sub hl [] rfl)
    · skip
      have tc131 := f_ne (k := 0) (by decide) c131
      refine lv_iconst (v := 1) hx hb dX12_wordOf_134 (by decide) ?_
      refine lv_goto (tgt := 139) hx hb dX12_wordOf_135 (by decide) ?_
      exact J139 1 _ _ _ (by decide) (by decide) hH hS (lv_sub hl [] rfl)
  have tc48_5 := f_ne (k := 5) (by decide) c48_5
  refine lv_tableOut (tgt := 140) hx hb dX12_wordOf_48 (by omega) (by decide) ?_
  refine lv_aload_n hx hb dX12_wordOf_140 rfl (lv_at hl 2 rfl) ?_
  refine x_getk (ci := 12) (C := RX12) (F := TX12) (N := 36) (v := .ref y1) hx hb hts uX12 hown hkb hH 1 rfl rfl 1 (by decide) rfl kw_1224 (fun _ h9 => h9) dX12_wordOf_141 ?_
  refine lv_bipush (v := 88) hx hb dX12_wordOf_144 (by decide) ?_
  refine xa_ild hx hb hkb hH 0 rfl (by decide) (by decide) dX12_wordOf_146 ?_
  refine lv_topi (fun v146 ev146 => ?_)
  have tv146 : v146 = f1 88 := by rw [ev146]; rfl
  exact te_i hx hb hr hlocks hH hS (rfl) dX12_wordOf_147
set_option maxHeartbeats 4000000 in
set_option maxRecDepth 100000 in
theorem s_M_mayStep (l : Launch) (D : va_G) (cs : CS) (kf : KF) (T : TF) (O : List Nat) (X : va_W) (a0 hg mq : Nat) (x1 : Int32) (x2 : Int32) (x3 : Int32) (t_a0 : T a0 = some (22, hg, mq)) (b_hg : hg < 90) (l_x1 : 0 ≤ x1.toInt) (u_x1 : x1.toInt ≤ 4) (l_x2 : 0 ≤ x2.toInt) (u_x2 : x2.toInt ≤ 13) (l_x3 : 0 ≤ x3.toInt) (u_x3 : x3.toInt ≤ 13) (hO : okO T O [1, 8, 22]) : TK l D cs kf yX12_mayStep cX12_mayStep 7 (some (.boolean)) { frames := 2, cells := 0, slots := 0, locals := 48 } [.ref a0, .int x1, .int x2, .int x3] T O X (Ti D cs (fun r u => u = (T, O, X) ∧ 0 ≤ r.toInt ∧ r.toInt ≤ 1)) := by
  refine tk_of (by decide) (Nat.le_of_ble_eq_true rfl) (fun p e s m below meth c ls A H locs hx hb hr hml hown hts hlocks hnm hkb hH hS hA hOX hks hE hl => ?_)
  have hown : s.vm.findClass RX12 = some m.cls := hown
  have hl : lv_has ls 7 [(0, .ref a0), (1, .int x1), (2, .int x2), (3, .int x3)] := hl
  have hO0 := hO
  obtain ⟨fs9, ho9, hH⟩ := hH.take t_a0 (hO0.no t_a0 (by decide))
  have hp0 : okL T (ft12 hg mq) fs9 := ho9
  clear ho9
  obtain ⟨v9, fs9, rfl, h9, hp1⟩ := okL_i hp0
  obtain ⟨q0_0, rfl⟩ := h9
  obtain ⟨v9, fs9, rfl, h9, hp2⟩ := okL_i hp1
  obtain ⟨q0_1, rfl, t_q0_1⟩ := h9
  obtain ⟨v9, fs9, rfl, h9, hp3⟩ := okL_i hp2
  obtain ⟨q0_2, rfl, t_q0_2⟩ := h9
  obtain ⟨v9, fs9, rfl, h9, hp4⟩ := okL_i hp3
  obtain ⟨q0_3, rfl, t_q0_3⟩ := h9
  obtain ⟨v9, fs9, rfl, h9, hp5⟩ := okL_i hp4
  obtain ⟨q0_4, rfl, t_q0_4⟩ := h9
  obtain ⟨v9, fs9, rfl, h9, hp6⟩ := okL_i hp5
  obtain ⟨q0_5, rfl, l_q0_5, u_q0_5, eg_q0_5⟩ := h9
  obtain ⟨v9, fs9, rfl, h9, hp7⟩ := okL_i hp6
  obtain ⟨q0_6, rfl⟩ := h9
  obtain ⟨v9, fs9, rfl, h9, hp8⟩ := okL_i hp7
  obtain ⟨q0_7, rfl⟩ := h9
  obtain ⟨v9, fs9, rfl, h9, hp9⟩ := okL_i hp8
  obtain ⟨q0_8, rfl⟩ := h9
  obtain ⟨v9, fs9, rfl, h9, hp10⟩ := okL_i hp9
  obtain ⟨q0_9, rfl⟩ := h9
  obtain ⟨v9, fs9, rfl, h9, hp11⟩ := okL_i hp10
  obtain ⟨q0_10, rfl, l_q0_10, u_q0_10⟩ := h9
  obtain ⟨v9, fs9, rfl, h9, hp12⟩ := okL_i hp11
  obtain ⟨q0_11, rfl⟩ := h9
  obtain ⟨v9, fs9, rfl, h9, hp13⟩ := okL_i hp12
  obtain ⟨q0_12, rfl⟩ := h9
  obtain ⟨v9, fs9, rfl, h9, hp14⟩ := okL_i hp13
  obtain ⟨q0_13, rfl⟩ := h9
  obtain ⟨v9, fs9, rfl, h9, hp15⟩ := okL_i hp14
  obtain ⟨q0_14, rfl⟩ := h9
  obtain ⟨v9, fs9, rfl, h9, hp16⟩ := okL_i hp15
  obtain ⟨q0_15, rfl, t_q0_15⟩ := h9
  obtain ⟨v9, fs9, rfl, h9, hp17⟩ := okL_i hp16
  obtain ⟨q0_16, rfl⟩ := h9
  obtain ⟨v9, fs9, rfl, h9, hp18⟩ := okL_i hp17
  obtain ⟨q0_17, rfl, t_q0_17⟩ := h9
  obtain ⟨v9, fs9, rfl, h9, hp19⟩ := okL_i hp18
  obtain ⟨q0_18, rfl, t_q0_18⟩ := h9
  obtain ⟨v9, fs9, rfl, h9, hp20⟩ := okL_i hp19
  obtain ⟨q0_19, rfl, t_q0_19⟩ := h9
  obtain ⟨v9, fs9, rfl, h9, hp21⟩ := okL_i hp20
  obtain ⟨q0_20, rfl, l_q0_20, u_q0_20⟩ := h9
  obtain ⟨v9, fs9, rfl, h9, hp22⟩ := okL_i hp21
  obtain ⟨q0_21, rfl, t_q0_21⟩ := h9
  obtain ⟨v9, fs9, rfl, h9, hp23⟩ := okL_i hp22
  obtain ⟨q0_22, rfl, t_q0_22⟩ := h9
  obtain ⟨v9, fs9, rfl, h9, hp24⟩ := okL_i hp23
  obtain ⟨q0_23, rfl⟩ := h9
  obtain ⟨v9, fs9, rfl, h9, hp25⟩ := okL_i hp24
  obtain ⟨q0_24, rfl⟩ := h9
  obtain ⟨v9, fs9, rfl, h9, hp26⟩ := okL_i hp25
  obtain ⟨q0_25, rfl⟩ := h9
  obtain ⟨v9, fs9, rfl, h9, hp27⟩ := okL_i hp26
  obtain ⟨q0_26, rfl, t_q0_26⟩ := h9
  obtain ⟨v9, fs9, rfl, h9, hp28⟩ := okL_i hp27
  obtain ⟨q0_27, rfl, t_q0_27⟩ := h9
  obtain ⟨v9, fs9, rfl, h9, hp29⟩ := okL_i hp28
  obtain ⟨q0_28, rfl, t_q0_28⟩ := h9
  obtain ⟨v9, fs9, rfl, h9, hp30⟩ := okL_i hp29
  obtain ⟨q0_29, rfl, t_q0_29⟩ := h9
  obtain ⟨v9, fs9, rfl, h9, hp31⟩ := okL_i hp30
  obtain ⟨q0_30, rfl, t_q0_30⟩ := h9
  obtain ⟨v9, fs9, rfl, h9, hp32⟩ := okL_i hp31
  obtain ⟨q0_31, rfl, t_q0_31⟩ := h9
  obtain ⟨v9, fs9, rfl, h9, hp33⟩ := okL_i hp32
  obtain ⟨q0_32, rfl⟩ := h9
  obtain ⟨v9, fs9, rfl, h9, hp34⟩ := okL_i hp33
  obtain ⟨q0_33, rfl, t_q0_33⟩ := h9
  obtain ⟨v9, fs9, rfl, h9, hp35⟩ := okL_i hp34
  obtain ⟨q0_34, rfl, t_q0_34⟩ := h9
  obtain ⟨v9, fs9, rfl, h9, hp36⟩ := okL_i hp35
  obtain ⟨q0_35, rfl, t_q0_35⟩ := h9
  have hpz := okL_z hp36
  subst hpz
  have hH : HT D cs A T (a0 :: O) ((a0, .inr (12, [.int q0_0, .ref q0_1, .ref q0_2, .ref q0_3, .ref q0_4, .int q0_5, .int q0_6, .int q0_7, .int q0_8, .int q0_9, .int q0_10, .int q0_11, .int q0_12, .int q0_13, .int q0_14, .ref q0_15, .int q0_16, .ref q0_17, .ref q0_18, .ref q0_19, .int q0_20, .ref q0_21, .ref q0_22, .int q0_23, .int q0_24, .int q0_25, .ref q0_26, .ref q0_27, .ref q0_28, .ref q0_29, .ref q0_30, .ref q0_31, .int q0_32, .ref q0_33, .ref q0_34, .ref q0_35])) :: X) H := hH
  have hO : okO T (a0 :: O) [1, 8] := okO.cons (hO0.sub (by decide)) t_a0 (by decide)
  obtain ⟨e9, hs9, hH⟩ := HT.takeA hH t_q0_1 (nm_c (tag_ne t_q0_1 t_a0 (by first | decide | exact fun q => absurd (show 8 = 22 from congrArg Prod.fst q) (by decide))) (hO0.no t_q0_1 (by decide)))
  obtain ⟨f1, rfl, s_f1, g_f1⟩ : ∃ f : Nat → Int32, e9 = .inl (cs.2.1, 3906, .inl f) ∧ B8 3906 f ∧ (3906 = 3906 → f 1 = nI (hg / 6) ∧ f 2 = nI (hg % 6)) := hs9
  have g_f1 := g_f1 rfl
  have hO : okO T (q0_1 :: a0 :: O) [1] := okO.cons (hO.sub (by decide)) t_q0_1 (by decide)
  refine lv_aload_n hx hb dX12_mayStep_0 rfl (lv_at hl 0 rfl) ?_
  refine x_getk (ci := 12) (C := RX12) (F := TX12) (N := 36) (v := .ref q0_1) hx hb hts uX12 hown hkb hH 1 rfl rfl 1 (by decide) rfl kw_1224 (fun _ h9 => h9) dX12_mayStep_1 ?_
  refine lv_iconst (v := 3) hx hb dX12_mayStep_4 (by decide) ?_
  refine xa_ild hx hb hkb hH 0 rfl (by decide) (by decide) dX12_mayStep_5 ?_
  refine lv_topi (fun v5 ev5 => ?_)
  have tv5 : v5 = f1 3 := by rw [ev5]; rfl
  refine lv_if_ne (tgt := 30) hx hb dX12_mayStep_6 (by decide) (fun c6 => ?_) (fun c6 => ?_)
  · skip
    have tc6 := f_ne (k := 0) (by decide) c6
    refine lv_iconst (v := 0) hx hb dX12_mayStep_30 (by decide) ?_
    refine lv_istore (lv' := [(4, .int 0), (0, .ref a0), (1, .int x1), (2, .int x2), (3, .int x3)]) hx hb dX12_mayStep_31 hl (by decide) rfl (fun ls hl => ?_)
    refine lv_iconst (v := 0) hx hb dX12_mayStep_33 (by decide) ?_
    have J36 : ∀ (n : Nat) (p36_5 : Int32) (p36_4 : Int32) (H : Heap) (locs : List Loc) (ls : Array Slot), (900 - p36_5.toInt).toNat = n → (0 ≤ p36_5.toInt) → (p36_5.toInt ≤ 900) → (0 ≤ p36_4.toInt) → (p36_4.toInt ≤ 900) → (p36_4.toInt = dpn f1 p36_5.toInt.toNat) → HT D cs A T (q0_1 :: a0 :: O) ((q0_1, .inl (cs.2.1, 3906, .inl f1)) :: (a0, .inr (12, [.int q0_0, .ref q0_1, .ref q0_2, .ref q0_3, .ref q0_4, .int q0_5, .int q0_6, .int q0_7, .int q0_8, .int q0_9, .int q0_10, .int q0_11, .int q0_12, .int q0_13, .int q0_14, .ref q0_15, .int q0_16, .ref q0_17, .ref q0_18, .ref q0_19, .int q0_20, .ref q0_21, .ref q0_22, .int q0_23, .int q0_24, .int q0_25, .ref q0_26, .ref q0_27, .ref q0_28, .ref q0_29, .ref q0_30, .ref q0_31, .int q0_32, .ref q0_33, .ref q0_34, .ref q0_35])) :: X) H → va_S A s.heap H locs → lv_has ls 7 [(5, .int p36_5), (4, .int p36_4), (0, .ref a0), (1, .int x1), (2, .int x2), (3, .int x3)] → W p l e { frames := 2, cells := 0, slots := 0, locals := 48 } s m [.ref a0, .int x1, .int x2, .int x3].toArray below meth c H locs 0 0 (MQ below (Ti D cs (fun r u => u = (T, O, X) ∧ 0 ≤ r.toInt ∧ r.toInt ≤ 1) A) [.ref a0, .int x1, .int x2, .int x3].toArray s 0 0 A) (F0 m 36 ls []) := by
      intro n
      induction n using Nat.strongRecOn with
      | _ n ih36 =>
        intro p36_5 p36_4 H locs ls hm36 l_p36_5 u_p36_5 l_p36_4 u_p36_4 i36 hH hS hl
        refine lv_iload hx hb dX12_mayStep_36 (lv_at hl 0 rfl) ?_
        refine lv_aload_n hx hb dX12_mayStep_38 rfl (lv_at hl 2 rfl) ?_
        refine x_getk (ci := 12) (C := RX12) (F := TX12) (N := 36) (v := .ref q0_1) hx hb hts uX12 hown hkb hH 1 rfl rfl 1 (by decide) rfl kw_1224 (fun _ h9 => h9) dX12_mayStep_39 ?_
        refine lv_sipush (v := 401) hx hb dX12_mayStep_42 (by decide) ?_
        refine xa_ild hx hb hkb hH 0 rfl (by decide) (by decide) dX12_mayStep_45 ?_
        refine lv_topi (fun v45 ev45 => ?_)
        have tv45 : v45 = f1 401 := by rw [ev45]; rfl
        have bv45 : 0 ≤ v45.toInt ∧ v45.toInt ≤ 900 := by rw [ev45]; exact (s_f1.at (by decide) 401).2.2.2.2.2.2 (by decide)
        refine lv_icmp_ge (tgt := 179) hx hb dX12_mayStep_46 (by decide) (fun c46 => ?_) (fun c46 => ?_)
        · skip
          have fuc46 := full_i p36_5
          have fvc46 := full_i v45
          have tc46 := g_le c46
          refine lv_aload_n hx hb dX12_mayStep_179 rfl (lv_at hl 2 rfl) ?_
          refine x_getk (ci := 12) (C := RX12) (F := TX12) (N := 36) (v := .ref q0_15) hx hb hts uX12 hown hkb hH 1 rfl rfl 15 (by decide) rfl kw_1238 (fun _ h9 => h9) dX12_mayStep_180 ?_
          refine lv_iconst (v := 0) hx hb dX12_mayStep_183 (by decide) ?_
          refine t_ild hx hb hkb hH t_q0_15 (hO.no t_q0_15 (by decide)) (by decide) (by decide) dX12_mayStep_184 (fun v184 h9 => ?_)
          refine lv_iconst (v := 1) hx hb dX12_mayStep_185 (by decide) ?_
          have J194 : ∀ (k194_0 : Int32) (H : Heap) (locs : List Loc) (ls : Array Slot), (0 ≤ k194_0.toInt) → (k194_0.toInt ≤ 1) → HT D cs A T (q0_1 :: a0 :: O) ((q0_1, .inl (cs.2.1, 3906, .inl f1)) :: (a0, .inr (12, [.int q0_0, .ref q0_1, .ref q0_2, .ref q0_3, .ref q0_4, .int q0_5, .int q0_6, .int q0_7, .int q0_8, .int q0_9, .int q0_10, .int q0_11, .int q0_12, .int q0_13, .int q0_14, .ref q0_15, .int q0_16, .ref q0_17, .ref q0_18, .ref q0_19, .int q0_20, .ref q0_21, .ref q0_22, .int q0_23, .int q0_24, .int q0_25, .ref q0_26, .ref q0_27, .ref q0_28, .ref q0_29, .ref q0_30, .ref q0_31, .int q0_32, .ref q0_33, .ref q0_34, .ref q0_35])) :: X) H → va_S A s.heap H locs → lv_has ls 7 [] → W p l e { frames := 2, cells := 0, slots := 0, locals := 48 } s m [.ref a0, .int x1, .int x2, .int x3].toArray below meth c H locs 0 0 (MQ below (Ti D cs (fun r u => u = (T, O, X) ∧ 0 ≤ r.toInt ∧ r.toInt ≤ 1) A) [.ref a0, .int x1, .int x2, .int x3].toArray s 0 0 A) (F0 m 194 ls [.int k194_0]) := by
            intro k194_0 H locs ls l_k194_0 u_k194_0 hH hS hl
            have hH : HT D cs A T (a0 :: O) ((a0, .inr (12, [.int q0_0, .ref q0_1, .ref q0_2, .ref q0_3, .ref q0_4, .int q0_5, .int q0_6, .int q0_7, .int q0_8, .int q0_9, .int q0_10, .int q0_11, .int q0_12, .int q0_13, .int q0_14, .ref q0_15, .int q0_16, .ref q0_17, .ref q0_18, .ref q0_19, .int q0_20, .ref q0_21, .ref q0_22, .int q0_23, .int q0_24, .int q0_25, .ref q0_26, .ref q0_27, .ref q0_28, .ref q0_29, .ref q0_30, .ref q0_31, .int q0_32, .ref q0_33, .ref q0_34, .ref q0_35])) :: X) H := HT.layA hH t_q0_1 (show sp cs T (8, 3906, hg) _ from ⟨_, rfl, s_f1, fun _ => g_f1⟩)
            have hH : HT D cs A T O X H := HT.lay (ci := 12) hH t_a0 (okL_c (⟨_, rfl⟩) (okL_c (⟨_, rfl, t_q0_1⟩) (okL_c (⟨_, rfl, t_q0_2⟩) (okL_c (⟨_, rfl, t_q0_3⟩) (okL_c (⟨_, rfl, t_q0_4⟩) (okL_c (⟨_, rfl, by omega, by omega, by omega⟩) (okL_c (⟨_, rfl⟩) (okL_c (⟨_, rfl⟩) (okL_c (⟨_, rfl⟩) (okL_c (⟨_, rfl⟩) (okL_c (⟨_, rfl, by omega, by omega⟩) (okL_c (⟨_, rfl⟩) (okL_c (⟨_, rfl⟩) (okL_c (⟨_, rfl⟩) (okL_c (⟨_, rfl⟩) (okL_c (⟨_, rfl, t_q0_15⟩) (okL_c (⟨_, rfl⟩) (okL_c (⟨_, rfl, t_q0_17⟩) (okL_c (⟨_, rfl, t_q0_18⟩) (okL_c (⟨_, rfl, t_q0_19⟩) (okL_c (⟨_, rfl, by omega, by omega⟩) (okL_c (⟨_, rfl, t_q0_21⟩) (okL_c (⟨_, rfl, t_q0_22⟩) (okL_c (⟨_, rfl⟩) (okL_c (⟨_, rfl⟩) (okL_c (⟨_, rfl⟩) (okL_c (⟨_, rfl, t_q0_26⟩) (okL_c (⟨_, rfl, t_q0_27⟩) (okL_c (⟨_, rfl, t_q0_28⟩) (okL_c (⟨_, rfl, t_q0_29⟩) (okL_c (⟨_, rfl, t_q0_30⟩) (okL_c (⟨_, rfl, t_q0_31⟩) (okL_c (⟨_, rfl⟩) (okL_c (⟨_, rfl, t_q0_33⟩) (okL_c (⟨_, rfl, t_q0_34⟩) (okL_c (⟨_, rfl, t_q0_35⟩) (okL_n)))))))))))))))))))))))))))))))))))))
            have hO := hO0
            exact te_z hx hb hr hlocks (nar01 (by omega) (by omega)) hH hS (⟨rfl, by omega, by omega⟩) dX12_mayStep_194
          refine lv_icmp_ne (tgt := 193) hx hb dX12_mayStep_186 (by decide) (fun c186 => ?_) (fun c186 => ?_)
          · skip
            have tc186 := f_ne (k := 1) (by decide) c186
            refine lv_iconst (v := 0) hx hb dX12_mayStep_193 (by decide) ?_
            exact J194 0 _ _ _ (by decide) (by decide) hH hS (lv_sub hl [] rfl)
          · skip
            have tc186 := f_eq (k := 1) (by decide) c186
            refine lv_iconst (v := 1) hx hb dX12_mayStep_189 (by decide) ?_
            refine lv_goto (tgt := 194) hx hb dX12_mayStep_190 (by decide) ?_
            exact J194 1 _ _ _ (by decide) (by decide) hH hS (lv_sub hl [] rfl)
        · skip
          have fuc46 := full_i p36_5
          have fvc46 := full_i v45
          have tc46 := g_nle c46
          refine lv_aload_n hx hb dX12_mayStep_49 rfl (lv_at hl 2 rfl) ?_
          refine x_getk (ci := 12) (C := RX12) (F := TX12) (N := 36) (v := .ref q0_1) hx hb hts uX12 hown hkb hH 1 rfl rfl 1 (by decide) rfl kw_1224 (fun _ h9 => h9) dX12_mayStep_50 ?_
          refine lv_sipush (v := 402) hx hb dX12_mayStep_53 (by decide) ?_
          refine lv_iload hx hb dX12_mayStep_56 (lv_at hl 0 rfl) ?_
          refine lv_iadd hx hb dX12_mayStep_58 ?_
          refine lv_topi (fun v58 ev58 => ?_)
          have tv58 : v58.toInt = (402) + p36_5.toInt := by rw [ev58]; exact add_i (by decide : (402 : Int32).toInt = 402) rfl (by omega) (by omega)
          refine xa_ild hx hb hkb hH 0 rfl (by omega) (by omega) dX12_mayStep_59 ?_
          refine lv_topi (fun v59 ev59 => ?_)
          have tv59 : v59 = f1 v58.toInt.toNat := ev59
          refine lv_istore (lv' := [(6, .int v59), (5, .int p36_5), (4, .int p36_4), (0, .ref a0), (1, .int x1), (2, .int x2), (3, .int x3)]) hx hb dX12_mayStep_60 hl (by decide) rfl (fun ls hl => ?_)
          have hc59 : v59 = f1 (402 + p36_5.toInt.toNat) := by rw [tv59, show v58.toInt.toNat = 402 + p36_5.toInt.toNat by omega]
          have hw9 := dpn_at s_f1.first (by omega) tv45 (by omega) hc59
          refine lv_iload hx hb dX12_mayStep_62 (lv_at hl 0 rfl) ?_
          refine lv_sipush (v := 3000) hx hb dX12_mayStep_64 (by decide) ?_
          refine lv_icmp_ge (tgt := 109) hx hb dX12_mayStep_67 (by decide) (fun c67 => ?_) (fun c67 => ?_)
          · skip
            have tc67 := f_ge (k := 3000) (by decide) c67
            refine lv_iload hx hb dX12_mayStep_109 (lv_at hl 0 rfl) ?_
            refine lv_sipush (v := 3008) hx hb dX12_mayStep_111 (by decide) ?_
            refine lv_icmp_ne (tgt := 140) hx hb dX12_mayStep_114 (by decide) (fun c114 => ?_) (fun c114 => ?_)
            · skip
              have tc114 := f_ne (k := 3008) (by decide) c114
              obtain ⟨v140, ev140⟩ : ∃ y : Int32, y = p36_4 + (-1) := ⟨_, rfl⟩
              have tv140 : v140.toInt = p36_4.toInt + (-1) := by rw [ev140]; exact add_i rfl (by decide) (by omega) (by omega)
              refine lv_iinc (v := v140) (lv' := [(4, .int v140), (6, .int v59), (5, .int p36_5), (0, .ref a0), (1, .int x1), (2, .int x2), (3, .int x3)]) hx hb dX12_mayStep_140 hl (k := 2) rfl (by rw [ev140]; rfl) (by decide) rfl (fun ls hl => ?_)
              refine lv_aload_n hx hb dX12_mayStep_143 rfl (lv_at hl 3 rfl) ?_
              refine x_getk (ci := 12) (C := RX12) (F := TX12) (N := 36) (v := .ref q0_15) hx hb hts uX12 hown hkb hH 1 rfl rfl 15 (by decide) rfl kw_1238 (fun _ h9 => h9) dX12_mayStep_144 ?_
              refine lv_iload hx hb dX12_mayStep_147 (lv_at hl 0 rfl) ?_
              refine lv_iconst (v := 1) hx hb dX12_mayStep_149 (by decide) ?_
              refine lv_isub hx hb dX12_mayStep_150 ?_
              refine lv_topi (fun v150 ev150 => ?_)
              have tv150 : v150.toInt = v140.toInt - (1) := by rw [ev150]; exact sub_i rfl (by decide : (1 : Int32).toInt = 1) (by omega) (by omega)
              refine lv_iload hx hb dX12_mayStep_151 (lv_at hl 1 rfl) ?_
              refine lv_aload_n hx hb dX12_mayStep_153 rfl (lv_at hl 3 rfl) ?_
              refine x_getk (ci := 12) (C := RX12) (F := TX12) (N := 36) (v := .ref q0_15) hx hb hts uX12 hown hkb hH 1 rfl rfl 15 (by decide) rfl kw_1238 (fun _ h9 => h9) dX12_mayStep_154 ?_
              refine lv_iload hx hb dX12_mayStep_157 (lv_at hl 0 rfl) ?_
              refine lv_iconst (v := 1) hx hb dX12_mayStep_159 (by decide) ?_
              refine lv_isub hx hb dX12_mayStep_160 ?_
              refine lv_topi (fun v160 ev160 => ?_)
              have tv160 : v160.toInt = v140.toInt - (1) := by rw [ev160]; exact sub_i rfl (by decide : (1 : Int32).toInt = 1) (by omega) (by omega)
              refine t_ild hx hb hkb hH t_q0_15 (hO.no t_q0_15 (by decide)) (by omega) (by omega) dX12_mayStep_161 (fun v161 h9 => ?_)
              refine lv_aload_n hx hb dX12_mayStep_162 rfl (lv_at hl 3 rfl) ?_
              refine x_getk (ci := 12) (C := RX12) (F := TX12) (N := 36) (v := .ref q0_15) hx hb hts uX12 hown hkb hH 1 rfl rfl 15 (by decide) rfl kw_1238 (fun _ h9 => h9) dX12_mayStep_163 ?_
              refine lv_iload hx hb dX12_mayStep_166 (lv_at hl 0 rfl) ?_
              refine t_ild hx hb hkb hH t_q0_15 (hO.no t_q0_15 (by decide)) (by omega) (by omega) dX12_mayStep_168 (fun v168 h9 => ?_)
              refine tk_i hH hS hA (tr_S (n := 3) (As := [.int v59, .int v161, .int v168]) hx hb hml hown hts hkb hH (ox_c (ox_c hOX)) hks hE hS hA (s_M_between l D cs kf T (q0_1 :: a0 :: O) ((q0_1, .inl (cs.2.1, 3906, .inl f1)) :: (a0, .inr (12, [.int q0_0, .ref q0_1, .ref q0_2, .ref q0_3, .ref q0_4, .int q0_5, .int q0_6, .int q0_7, .int q0_8, .int q0_9, .int q0_10, .int q0_11, .int q0_12, .int q0_13, .int q0_14, .ref q0_15, .int q0_16, .ref q0_17, .ref q0_18, .ref q0_19, .int q0_20, .ref q0_21, .ref q0_22, .int q0_23, .int q0_24, .int q0_25, .ref q0_26, .ref q0_27, .ref q0_28, .ref q0_29, .ref q0_30, .ref q0_31, .int q0_32, .ref q0_33, .ref q0_34, .ref q0_35])) :: X) v59 v161 v168  (hO.sub (by decide))) kw_1493 kw_1494 kw_13 kw_1495 (by decide +kernel) ⟨Nat.le_of_ble_eq_true rfl, Nat.le_of_ble_eq_true rfl⟩ rfl rfl hl.1 (Nat.le_of_ble_eq_true rfl) dX12_mayStep_169 ⟨Nat.le_of_ble_eq_true rfl, Nat.le_of_ble_eq_true rfl⟩) (fun v169 u H locs hz9 hH hS => ?_)
              have hz9 : u = (T, q0_1 :: a0 :: O, (q0_1, .inl (cs.2.1, 3906, .inl f1)) :: (a0, .inr (12, [.int q0_0, .ref q0_1, .ref q0_2, .ref q0_3, .ref q0_4, .int q0_5, .int q0_6, .int q0_7, .int q0_8, .int q0_9, .int q0_10, .int q0_11, .int q0_12, .int q0_13, .int q0_14, .ref q0_15, .int q0_16, .ref q0_17, .ref q0_18, .ref q0_19, .int q0_20, .ref q0_21, .ref q0_22, .int q0_23, .int q0_24, .int q0_25, .ref q0_26, .ref q0_27, .ref q0_28, .ref q0_29, .ref q0_30, .ref q0_31, .int q0_32, .ref q0_33, .ref q0_34, .ref q0_35])) :: X) := hz9
              subst hz9
              have hH : HT D cs A T (q0_1 :: a0 :: O) ((q0_1, .inl (cs.2.1, 3906, .inl f1)) :: (a0, .inr (12, [.int q0_0, .ref q0_1, .ref q0_2, .ref q0_3, .ref q0_4, .int q0_5, .int q0_6, .int q0_7, .int q0_8, .int q0_9, .int q0_10, .int q0_11, .int q0_12, .int q0_13, .int q0_14, .ref q0_15, .int q0_16, .ref q0_17, .ref q0_18, .ref q0_19, .int q0_20, .ref q0_21, .ref q0_22, .int q0_23, .int q0_24, .int q0_25, .ref q0_26, .ref q0_27, .ref q0_28, .ref q0_29, .ref q0_30, .ref q0_31, .int q0_32, .ref q0_33, .ref q0_34, .ref q0_35])) :: X) H := hH
              refine W.widen (k := 0) (n := 0) (Nat.le_of_ble_eq_true rfl) (Nat.le_of_ble_eq_true rfl) ?_
              refine t_ist hx hb hkb hH hS t_q0_15 (hO.no t_q0_15 (by decide)) (by omega) (by omega) (cp_0 _) dX12_mayStep_172 (fun H locs hH hS => ?_)
              obtain ⟨v173, ev173⟩ : ∃ y : Int32, y = p36_5 + 1 := ⟨_, rfl⟩
              have tv173 : v173.toInt = p36_5.toInt + (1) := by rw [ev173]; exact add_i rfl (by decide) (by omega) (by omega)
              refine lv_iinc (v := v173) (lv' := [(5, .int v173), (4, .int v140), (6, .int v59), (0, .ref a0), (1, .int x1), (2, .int x2), (3, .int x3)]) hx hb dX12_mayStep_173 hl (k := 2) rfl (by rw [ev173]; rfl) (by decide) rfl (fun ls hl => ?_)
              have hd9 := dpn_step (by omega) tv173 hc59
              refine lv_goto (tgt := 36) hx hb dX12_mayStep_176 (by decide) ?_
              exact ih36 _ (by omega) v173 v140 _ _ _ rfl (by omega) (by omega) (by omega) (by omega) (by first | omega | rfl) hH hS (lv_sub hl [0, 1, 3, 4, 5, 6] rfl)
            · skip
              have tc114 := f_eq (k := 3008) (by decide) c114
              refine lv_aload_n hx hb dX12_mayStep_117 rfl (lv_at hl 3 rfl) ?_
              refine x_getk (ci := 12) (C := RX12) (F := TX12) (N := 36) (v := .ref q0_15) hx hb hts uX12 hown hkb hH 1 rfl rfl 15 (by decide) rfl kw_1238 (fun _ h9 => h9) dX12_mayStep_118 ?_
              refine lv_iload hx hb dX12_mayStep_121 (lv_at hl 2 rfl) ?_
              refine lv_iconst (v := 1) hx hb dX12_mayStep_123 (by decide) ?_
              refine lv_isub hx hb dX12_mayStep_124 ?_
              refine lv_topi (fun v124 ev124 => ?_)
              have tv124 : v124.toInt = p36_4.toInt - (1) := by rw [ev124]; exact sub_i rfl (by decide : (1 : Int32).toInt = 1) (by omega) (by omega)
              refine lv_iconst (v := 1) hx hb dX12_mayStep_125 (by decide) ?_
              refine lv_aload_n hx hb dX12_mayStep_126 rfl (lv_at hl 3 rfl) ?_
              refine x_getk (ci := 12) (C := RX12) (F := TX12) (N := 36) (v := .ref q0_15) hx hb hts uX12 hown hkb hH 1 rfl rfl 15 (by decide) rfl kw_1238 (fun _ h9 => h9) dX12_mayStep_127 ?_
              refine lv_iload hx hb dX12_mayStep_130 (lv_at hl 2 rfl) ?_
              refine lv_iconst (v := 1) hx hb dX12_mayStep_132 (by decide) ?_
              refine lv_isub hx hb dX12_mayStep_133 ?_
              refine lv_topi (fun v133 ev133 => ?_)
              have tv133 : v133.toInt = p36_4.toInt - (1) := by rw [ev133]; exact sub_i rfl (by decide : (1 : Int32).toInt = 1) (by omega) (by omega)
              refine t_ild hx hb hkb hH t_q0_15 (hO.no t_q0_15 (by decide)) (by omega) (by omega) dX12_mayStep_134 (fun v134 h9 => ?_)
              refine lv_isub hx hb dX12_mayStep_135 ?_
              refine lv_topi (fun v135 ev135 => ?_)
              refine t_ist hx hb hkb hH hS t_q0_15 (hO.no t_q0_15 (by decide)) (by omega) (by omega) (cp_0 _) dX12_mayStep_136 (fun H locs hH hS => ?_)
              refine lv_goto (tgt := 173) hx hb dX12_mayStep_137 (by decide) ?_
              obtain ⟨v173, ev173⟩ : ∃ y : Int32, y = p36_5 + 1 := ⟨_, rfl⟩
              have tv173 : v173.toInt = p36_5.toInt + (1) := by rw [ev173]; exact add_i rfl (by decide) (by omega) (by omega)
              refine lv_iinc (v := v173) (lv' := [(5, .int v173), (6, .int v59), (4, .int p36_4), (0, .ref a0), (1, .int x1), (2, .int x2), (3, .int x3)]) hx hb dX12_mayStep_173 hl (k := 1) rfl (by rw [ev173]; rfl) (by decide) rfl (fun ls hl => ?_)
              have hd9 := dpn_step (by omega) tv173 hc59
              refine lv_goto (tgt := 36) hx hb dX12_mayStep_176 (by decide) ?_
              exact ih36 _ (by omega) v173 p36_4 _ _ _ rfl (by omega) (by omega) (by omega) (by omega) (by first | omega | rfl) hH hS (lv_sub hl [0, 2, 3, 4, 5, 6] rfl)
          · skip
            have tc67 := f_nge (k := 3000) (by decide) c67
            refine lv_aload_n hx hb dX12_mayStep_70 rfl (lv_at hl 3 rfl) ?_
            refine x_getk (ci := 12) (C := RX12) (F := TX12) (N := 36) (v := .ref q0_15) hx hb hts uX12 hown hkb hH 1 rfl rfl 15 (by decide) rfl kw_1238 (fun _ h9 => h9) dX12_mayStep_71 ?_
            refine lv_iload hx hb dX12_mayStep_74 (lv_at hl 2 rfl) ?_
            refine lv_iload hx hb dX12_mayStep_76 (lv_at hl 0 rfl) ?_
            refine lv_sipush (v := 1000) hx hb dX12_mayStep_78 (by decide) ?_
            have J102 : ∀ (k102_0 : Int32) (H : Heap) (locs : List Loc) (ls : Array Slot), HT D cs A T (q0_1 :: a0 :: O) ((q0_1, .inl (cs.2.1, 3906, .inl f1)) :: (a0, .inr (12, [.int q0_0, .ref q0_1, .ref q0_2, .ref q0_3, .ref q0_4, .int q0_5, .int q0_6, .int q0_7, .int q0_8, .int q0_9, .int q0_10, .int q0_11, .int q0_12, .int q0_13, .int q0_14, .ref q0_15, .int q0_16, .ref q0_17, .ref q0_18, .ref q0_19, .int q0_20, .ref q0_21, .ref q0_22, .int q0_23, .int q0_24, .int q0_25, .ref q0_26, .ref q0_27, .ref q0_28, .ref q0_29, .ref q0_30, .ref q0_31, .int q0_32, .ref q0_33, .ref q0_34, .ref q0_35])) :: X) H → va_S A s.heap H locs → lv_has ls 7 [(5, .int p36_5), (4, .int p36_4), (0, .ref a0), (1, .int x1), (2, .int x2), (3, .int x3)] → W p l e { frames := 2, cells := 0, slots := 0, locals := 48 } s m [.ref a0, .int x1, .int x2, .int x3].toArray below meth c H locs 0 0 (MQ below (Ti D cs (fun r u => u = (T, O, X) ∧ 0 ≤ r.toInt ∧ r.toInt ≤ 1) A) [.ref a0, .int x1, .int x2, .int x3].toArray s 0 0 A) (F0 m 102 ls [.int k102_0, .int p36_4, .ref q0_15]) := by
              intro k102_0 H locs ls  hH hS hl
              refine t_ist hx hb hkb hH hS t_q0_15 (hO.no t_q0_15 (by decide)) (by omega) (by omega) (cp_0 _) dX12_mayStep_102 (fun H locs hH hS => ?_)
              obtain ⟨v103, ev103⟩ : ∃ y : Int32, y = p36_4 + 1 := ⟨_, rfl⟩
              have tv103 : v103.toInt = p36_4.toInt + (1) := by rw [ev103]; exact add_i rfl (by decide) (by omega) (by omega)
              refine lv_iinc (v := v103) (lv' := [(4, .int v103), (5, .int p36_5), (0, .ref a0), (1, .int x1), (2, .int x2), (3, .int x3)]) hx hb dX12_mayStep_103 hl (k := 1) rfl (by rw [ev103]; rfl) (by decide) rfl (fun ls hl => ?_)
              refine lv_goto (tgt := 173) hx hb dX12_mayStep_106 (by decide) ?_
              obtain ⟨v173, ev173⟩ : ∃ y : Int32, y = p36_5 + 1 := ⟨_, rfl⟩
              have tv173 : v173.toInt = p36_5.toInt + (1) := by rw [ev173]; exact add_i rfl (by decide) (by omega) (by omega)
              refine lv_iinc (v := v173) (lv' := [(5, .int v173), (4, .int v103), (0, .ref a0), (1, .int x1), (2, .int x2), (3, .int x3)]) hx hb dX12_mayStep_173 hl (k := 1) rfl (by rw [ev173]; rfl) (by decide) rfl (fun ls hl => ?_)
              have hd9 := dpn_step (by omega) tv173 hc59
              refine lv_goto (tgt := 36) hx hb dX12_mayStep_176 (by decide) ?_
              exact ih36 _ (by omega) v173 v103 _ _ _ rfl (by omega) (by omega) (by omega) (by omega) (by first | omega | rfl) hH hS (lv_sub hl [0, 1, 2, 3, 4, 5] rfl)
            refine lv_icmp_ge (tgt := 89) hx hb dX12_mayStep_81 (by decide) (fun c81 => ?_) (fun c81 => ?_)
            · skip
              have tc81 := f_ge (k := 1000) (by decide) c81
              refine lv_aload_n hx hb dX12_mayStep_89 rfl (lv_at hl 3 rfl) ?_
              refine lv_iload hx hb dX12_mayStep_90 (lv_at hl 0 rfl) ?_
              refine lv_sipush (v := 1000) hx hb dX12_mayStep_92 (by decide) ?_
              refine lv_isub hx hb dX12_mayStep_95 ?_
              refine lv_topi (fun v95 ev95 => ?_)
              have tv95 : v95.toInt = v59.toInt - (1000) := by rw [ev95]; exact sub_i rfl (by decide : (1000 : Int32).toInt = 1000) (by omega) (by omega)
              refine lv_iload_n hx hb dX12_mayStep_96 rfl (lv_at hl 4 rfl) ?_
              refine lv_iload_n hx hb dX12_mayStep_97 rfl (lv_at hl 5 rfl) ?_
              refine lv_iload_n hx hb dX12_mayStep_98 rfl (lv_at hl 6 rfl) ?_
              refine tk_i hH hS hA (tr_V (n := 4) (As := [.int v95, .int x1, .int x2, .int x3]) hx hb hml hown hts hkb hH (ox_c (ox_c hOX)) hks hE hS hA (s_M_wordOf l D cs kf T O X a0 hg mq v95 x1 x2 x3 f1 (.int q0_0) q0_1 (.ref q0_2) (.ref q0_3) (.ref q0_4) (.int q0_5) (.int q0_6) (.int q0_7) (.int q0_8) (.int q0_9) (.int q0_10) (.int q0_11) (.int q0_12) (.int q0_13) (.int q0_14) q0_15 q0_16 [.ref q0_17, .ref q0_18, .ref q0_19, .int q0_20, .ref q0_21, .ref q0_22, .int q0_23, .int q0_24, .int q0_25, .ref q0_26, .ref q0_27, .ref q0_28, .ref q0_29, .ref q0_30, .ref q0_31, .int q0_32, .ref q0_33, .ref q0_34, .ref q0_35] t_a0 b_hg (by omega) (by omega) (by omega) (by omega) (by omega) (by omega) s_f1 g_f1 t_q0_1 t_q0_15 (hO.sub (by decide))) kw_1486 kw_1488 ks_70 kw_13 kw_1489 (by decide +kernel) ⟨Nat.le_of_ble_eq_true rfl, Nat.le_of_ble_eq_true rfl⟩ (x_recv (ci := 12) hkb hH 1 rfl rfl) rfl rfl hl.1 (Nat.le_of_ble_eq_true rfl) dX12_mayStep_99 ⟨Nat.le_of_ble_eq_true rfl, Nat.le_of_ble_eq_true rfl⟩) (fun v99 u H locs hz9 hH hS => ?_)
              obtain ⟨rfl⟩ := hz9
              have hH : HT D cs A T (q0_1 :: a0 :: O) ((q0_1, .inl (cs.2.1, 3906, .inl f1)) :: (a0, .inr (12, [.int q0_0, .ref q0_1, .ref q0_2, .ref q0_3, .ref q0_4, .int q0_5, .int q0_6, .int q0_7, .int q0_8, .int q0_9, .int q0_10, .int q0_11, .int q0_12, .int q0_13, .int q0_14, .ref q0_15, .int q0_16, .ref q0_17, .ref q0_18, .ref q0_19, .int q0_20, .ref q0_21, .ref q0_22, .int q0_23, .int q0_24, .int q0_25, .ref q0_26, .ref q0_27, .ref q0_28, .ref q0_29, .ref q0_30, .ref q0_31, .int q0_32, .ref q0_33, .ref q0_34, .ref q0_35])) :: X) H := hH
              refine W.widen (k := 0) (n := 0) (Nat.le_of_ble_eq_true rfl) (Nat.le_of_ble_eq_true rfl) ?_
              exact J102 v99 _ _ _  hH hS (lv_sub hl [1, 2, 3, 4, 5, 6] rfl)
            · skip
              have tc81 := f_nge (k := 1000) (by decide) c81
              refine lv_iload hx hb dX12_mayStep_84 (lv_at hl 0 rfl) ?_
              refine lv_goto (tgt := 102) hx hb dX12_mayStep_86 (by decide) ?_
              exact J102 v59 _ _ _  hH hS (lv_sub hl [1, 2, 3, 4, 5, 6] rfl)
    refine lv_istore (lv' := [(5, .int 0), (4, .int 0), (0, .ref a0), (1, .int x1), (2, .int x2), (3, .int x3)]) hx hb dX12_mayStep_34 hl (by decide) rfl (fun ls hl => ?_)
    have z_0 : (0 : Int32).toInt = 0 := by decide
    exact J36 _ 0 0 _ _ _ rfl (by decide) (by decide) (by decide) (by decide) (by first | omega | rfl) hH hS (lv_sub hl [0, 1, 2, 3, 4, 5] rfl)
  · skip
    have tc6 := f_eq (k := 0) (by decide) c6
    refine lv_aload_n hx hb dX12_mayStep_9 rfl (lv_at hl 0 rfl) ?_
    refine lv_iconst (v := 2) hx hb dX12_mayStep_10 (by decide) ?_
    refine lv_iload_n hx hb dX12_mayStep_11 rfl (lv_at hl 1 rfl) ?_
    refine lv_iload_n hx hb dX12_mayStep_12 rfl (lv_at hl 2 rfl) ?_
    refine lv_iload_n hx hb dX12_mayStep_13 rfl (lv_at hl 3 rfl) ?_
    have z9_2 : (2 : Int32).toInt = 2 := by decide
    refine tk_i hH hS hA (tr_V (n := 4) (As := [.int 2, .int x1, .int x2, .int x3]) hx hb hml hown hts hkb hH (ox_c (ox_c hOX)) hks hE hS hA (s_M_wordOf l D cs kf T O X a0 hg mq (2) x1 x2 x3 f1 (.int q0_0) q0_1 (.ref q0_2) (.ref q0_3) (.ref q0_4) (.int q0_5) (.int q0_6) (.int q0_7) (.int q0_8) (.int q0_9) (.int q0_10) (.int q0_11) (.int q0_12) (.int q0_13) (.int q0_14) q0_15 q0_16 [.ref q0_17, .ref q0_18, .ref q0_19, .int q0_20, .ref q0_21, .ref q0_22, .int q0_23, .int q0_24, .int q0_25, .ref q0_26, .ref q0_27, .ref q0_28, .ref q0_29, .ref q0_30, .ref q0_31, .int q0_32, .ref q0_33, .ref q0_34, .ref q0_35] t_a0 b_hg (by omega) (by omega) (by omega) (by omega) (by omega) (by omega) s_f1 g_f1 t_q0_1 t_q0_15 (hO.sub (by decide))) kw_1486 kw_1488 ks_70 kw_13 kw_1489 (by decide +kernel) ⟨Nat.le_of_ble_eq_true rfl, Nat.le_of_ble_eq_true rfl⟩ (x_recv (ci := 12) hkb hH 1 rfl rfl) rfl rfl hl.1 (Nat.le_of_ble_eq_true rfl) dX12_mayStep_14 ⟨Nat.le_of_ble_eq_true rfl, Nat.le_of_ble_eq_true rfl⟩) (fun v14 u H locs hz9 hH hS => ?_)
    obtain ⟨rfl⟩ := hz9
    have hH : HT D cs A T (q0_1 :: a0 :: O) ((q0_1, .inl (cs.2.1, 3906, .inl f1)) :: (a0, .inr (12, [.int q0_0, .ref q0_1, .ref q0_2, .ref q0_3, .ref q0_4, .int q0_5, .int q0_6, .int q0_7, .int q0_8, .int q0_9, .int q0_10, .int q0_11, .int q0_12, .int q0_13, .int q0_14, .ref q0_15, .int q0_16, .ref q0_17, .ref q0_18, .ref q0_19, .int q0_20, .ref q0_21, .ref q0_22, .int q0_23, .int q0_24, .int q0_25, .ref q0_26, .ref q0_27, .ref q0_28, .ref q0_29, .ref q0_30, .ref q0_31, .int q0_32, .ref q0_33, .ref q0_34, .ref q0_35])) :: X) H := hH
    refine W.widen (k := 0) (n := 0) (Nat.le_of_ble_eq_true rfl) (Nat.le_of_ble_eq_true rfl) ?_
    refine lv_aload_n hx hb dX12_mayStep_17 rfl (lv_at hl 0 rfl) ?_
    refine x_getk (ci := 12) (C := RX12) (F := TX12) (N := 36) (v := .int q0_16) hx hb hts uX12 hown hkb hH 1 rfl rfl 16 (by decide) rfl kw_1239 (fun _ h9 => h9) dX12_mayStep_18 ?_
    have J29 : ∀ (k29_0 : Int32) (H : Heap) (locs : List Loc) (ls : Array Slot), (0 ≤ k29_0.toInt) → (k29_0.toInt ≤ 1) → HT D cs A T (q0_1 :: a0 :: O) ((q0_1, .inl (cs.2.1, 3906, .inl f1)) :: (a0, .inr (12, [.int q0_0, .ref q0_1, .ref q0_2, .ref q0_3, .ref q0_4, .int q0_5, .int q0_6, .int q0_7, .int q0_8, .int q0_9, .int q0_10, .int q0_11, .int q0_12, .int q0_13, .int q0_14, .ref q0_15, .int q0_16, .ref q0_17, .ref q0_18, .ref q0_19, .int q0_20, .ref q0_21, .ref q0_22, .int q0_23, .int q0_24, .int q0_25, .ref q0_26, .ref q0_27, .ref q0_28, .ref q0_29, .ref q0_30, .ref q0_31, .int q0_32, .ref q0_33, .ref q0_34, .ref q0_35])) :: X) H → va_S A s.heap H locs → lv_has ls 7 [] → W p l e { frames := 2, cells := 0, slots := 0, locals := 48 } s m [.ref a0, .int x1, .int x2, .int x3].toArray below meth c H locs 0 0 (MQ below (Ti D cs (fun r u => u = (T, O, X) ∧ 0 ≤ r.toInt ∧ r.toInt ≤ 1) A) [.ref a0, .int x1, .int x2, .int x3].toArray s 0 0 A) (F0 m 29 ls [.int k29_0]) := by
      intro k29_0 H locs ls l_k29_0 u_k29_0 hH hS hl
      have hH : HT D cs A T (a0 :: O) ((a0, .inr (12, [.int q0_0, .ref q0_1, .ref q0_2, .ref q0_3, .ref q0_4, .int q0_5, .int q0_6, .int q0_7, .int q0_8, .int q0_9, .int q0_10, .int q0_11, .int q0_12, .int q0_13, .int q0_14, .ref q0_15, .int q0_16, .ref q0_17, .ref q0_18, .ref q0_19, .int q0_20, .ref q0_21, .ref q0_22, .int q0_23, .int q0_24, .int q0_25, .ref q0_26, .ref q0_27, .ref q0_28, .ref q0_29, .ref q0_30, .ref q0_31, .int q0_32, .ref q0_33, .ref q0_34, .ref q0_35])) :: X) H := HT.layA hH t_q0_1 (show sp cs T (8, 3906, hg) _ from ⟨_, rfl, s_f1, fun _ => g_f1⟩)
      have hH : HT D cs A T O X H := HT.lay (ci := 12) hH t_a0 (okL_c (⟨_, rfl⟩) (okL_c (⟨_, rfl, t_q0_1⟩) (okL_c (⟨_, rfl, t_q0_2⟩) (okL_c (⟨_, rfl, t_q0_3⟩) (okL_c (⟨_, rfl, t_q0_4⟩) (okL_c (⟨_, rfl, by omega, by omega, by omega⟩) (okL_c (⟨_, rfl⟩) (okL_c (⟨_, rfl⟩) (okL_c (⟨_, rfl⟩) (okL_c (⟨_, rfl⟩) (okL_c (⟨_, rfl, by omega, by omega⟩) (okL_c (⟨_, rfl⟩) (okL_c (⟨_, rfl⟩) (okL_c (⟨_, rfl⟩) (okL_c (⟨_, rfl⟩) (okL_c (⟨_, rfl, t_q0_15⟩) (okL_c (⟨_, rfl⟩) (okL_c (⟨_, rfl, t_q0_17⟩) (okL_c (⟨_, rfl, t_q0_18⟩) (okL_c (⟨_, rfl, t_q0_19⟩) (okL_c (⟨_, rfl, by omega, by omega⟩) (okL_c (⟨_, rfl, t_q0_21⟩) (okL_c (⟨_, rfl, t_q0_22⟩) (okL_c (⟨_, rfl⟩) (okL_c (⟨_, rfl⟩) (okL_c (⟨_, rfl⟩) (okL_c (⟨_, rfl, t_q0_26⟩) (okL_c (⟨_, rfl, t_q0_27⟩) (okL_c (⟨_, rfl, t_q0_28⟩) (okL_c (⟨_, rfl, t_q0_29⟩) (okL_c (⟨_, rfl, t_q0_30⟩) (okL_c (⟨_, rfl, t_q0_31⟩) (okL_c (⟨_, rfl⟩) (okL_c (⟨_, rfl, t_q0_33⟩) (okL_c (⟨_, rfl, t_q0_34⟩) (okL_c (⟨_, rfl, t_q0_35⟩) (okL_n)))))))))))))))))))))))))))))))))))))
      have hO := hO0
      exact te_z hx hb hr hlocks (nar01 (by omega) (by omega)) hH hS (⟨rfl, by omega, by omega⟩) dX12_mayStep_29
    refine lv_icmp_gt (tgt := 28) hx hb dX12_mayStep_21 (by decide) (fun c21 => ?_) (fun c21 => ?_)
    · skip
      have fuc21 := full_i v14
      have fvc21 := full_i q0_16
      have tc21 := g_lt c21
      refine lv_iconst (v := 0) hx hb dX12_mayStep_28 (by decide) ?_
      exact J29 0 _ _ _ (by decide) (by decide) hH hS (lv_sub hl [] rfl)
    · skip
      have fuc21 := full_i v14
      have fvc21 := full_i q0_16
      have tc21 := g_nlt c21
      refine lv_iconst (v := 1) hx hb dX12_mayStep_24 (by decide) ?_
      refine lv_goto (tgt := 29) hx hb dX12_mayStep_25 (by decide) ?_
      exact J29 1 _ _ _ (by decide) (by decide) hH hS (lv_sub hl [] rfl)
