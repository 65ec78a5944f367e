set_option maxHeartbeats 4000000 in
set_option maxRecDepth 100000 in
theorem s_M_moreByX (l : Launch) (D : va_G) (cs : CS) (kf : KF) (T : TF) (O : List Nat) (X : va_W) (a0 hg mq : Nat) (x1 : Int32) (x2 : Int32) (f1 : Nat → Int32) (o0 : Value) (y1 : Nat) (o2 : Value) (o3 : Value) (o4 : Value) (o5 : Value) (o6 : Value) (o7 : Value) (o8 : Value) (o9 : Value) (o10 : Value) (o11 : Value) (o12 : Value) (o13 : Value) (o14 : Value) (y15 : Nat) (y16 : Int32) (y17 : Nat) (o18 : Value) (o19 : Value) (o20 : Value) (o21 : Value) (o22 : Value) (o23 : Value) (o24 : Value) (o25 : Value) (o26 : Value) (o27 : Value) (y28 : Nat) (tl : List Value) (f28 : Nat → Int32) (f17 : Nat → Int32) (t_a0 : T a0 = some (22, hg, mq)) (b_hg : hg < 90) (l_x1 : 0 ≤ x1.toInt) (u_x1 : x1.toInt ≤ 16383) (l_x2 : 0 ≤ x2.toInt) (u_x2 : x2.toInt ≤ 13) (s_f1 : B8 3906 f1) (g_f1 : f1 1 = nI (hg / 6) ∧ f1 2 = nI (hg % 6)) (t_y1 : T y1 = some (8, 3906, hg)) (t_y15 : T y15 = some (1, 900, 0)) (t_y17 : T y17 = some (9, 14, 1)) (t_y28 : T y28 = some (0, 229376, 0)) (hO : okO T (y1 :: a0 :: y28 :: y17 :: O) []) : TK l D cs kf yX12_moreBy cX12_moreBy 3 (some (.int)) { frames := 0, cells := 0, slots := 0, locals := 0 } [.ref a0, .int x1, .int x2] T (y1 :: a0 :: y28 :: y17 :: O) ((y1, .inl (cs.2.1, 3906, .inl f1)) :: (a0, .inr (12, o0 :: (.ref y1) :: o2 :: o3 :: o4 :: o5 :: o6 :: o7 :: o8 :: o9 :: o10 :: o11 :: o12 :: o13 :: o14 :: (.ref y15) :: (.int y16) :: (.ref y17) :: o18 :: o19 :: o20 :: o21 :: o22 :: o23 :: o24 :: o25 :: o26 :: o27 :: (.ref y28) :: tl)) :: (y28, .inl (cs.1, 229376, .inl f28)) :: (y17, .inl (cs.2.1, 14, .inl f17)) :: X) (Ti D cs (fun r u => u = (T, y1 :: a0 :: y28 :: y17 :: O, (y1, .inl (cs.2.1, 3906, .inl f1)) :: (a0, .inr (12, o0 :: (.ref y1) :: o2 :: o3 :: o4 :: o5 :: o6 :: o7 :: o8 :: o9 :: o10 :: o11 :: o12 :: o13 :: o14 :: (.ref y15) :: (.int y16) :: (.ref y17) :: o18 :: o19 :: o20 :: o21 :: o22 :: o23 :: o24 :: o25 :: o26 :: o27 :: (.ref y28) :: tl)) :: (y28, .inl (cs.1, 229376, .inl f28)) :: (y17, .inl (cs.2.1, 14, .inl f17)) :: X) ∧ (r = f28 (14 * x1.toInt.toNat + x2.toInt.toNat)))) := by
  refine tk_of (by decide) (Nat.le_of_ble_eq_true rfl) (fun p e s m below meth c ls A H locs hx hb hr hml hown hts hlocks hnm hkb hH hS hA hOX hks hE hl => ?_)
  have hown : s.vm.findClass RX12 = some m.cls := hown
  have hl : lv_has ls 3 [(0, .ref a0), (1, .int x1), (2, .int x2)] := hl
  have hOXf := hOX
  refine lv_aload_n hx hb dX12_moreBy_0 rfl (lv_at hl 0 rfl) ?_
  refine x_getk (ci := 12) (C := RX12) (F := TX12) (N := 36) (v := .ref y28) hx hb hts uX12 hown hkb hH 1 rfl rfl 28 (by decide) rfl kw_1251 (fun _ h9 => h9) dX12_moreBy_1 ?_
  refine lv_bipush (v := 14) hx hb dX12_moreBy_4 (by decide) ?_
  refine lv_iload_n hx hb dX12_moreBy_6 rfl (lv_at hl 1 rfl) ?_
  refine lv_imul hx hb dX12_moreBy_7 ?_
  refine lv_topi (fun v7 ev7 => ?_)
  have tv7 : v7.toInt = (14) * x1.toInt := by rw [ev7]; exact mul_i (by decide : (14 : Int32).toInt = 14) rfl (by omega) (by omega)
  refine lv_iload_n hx hb dX12_moreBy_8 rfl (lv_at hl 2 rfl) ?_
  refine lv_iadd hx hb dX12_moreBy_9 ?_
  refine lv_topi (fun v9 ev9 => ?_)
  have tv9 : v9.toInt = v7.toInt + x2.toInt := by rw [ev9]; exact add_i rfl rfl (by omega) (by omega)
  refine xa_bld hx hb hkb hH 2 rfl (by omega) (by omega) dX12_moreBy_10 ?_
  refine lv_topi (fun v10 ev10 => ?_)
  have tv10 : v10 = f28 v9.toInt.toNat := ev10
  exact te_i hx hb hr hlocks hH hS (⟨rfl, (by rw [tv10, show v9.toInt.toNat = 14 * x1.toInt.toNat + x2.toInt.toNat by omega])⟩) dX12_moreBy_11
set_option maxHeartbeats 4000000 in
set_option maxRecDepth 100000 in
theorem s_M_laysStepsX (l : Launch) (D : va_G) (cs : CS) (kf : KF) (T : TF) (O : List Nat) (X : va_W) (a0 hg mq : Nat) (x1 : Int32) (x2 : Int32) (f1 : Nat → Int32) (o0 : Value) (y1 : Nat) (o2 : Value) (o3 : Value) (o4 : Value) (o5 : Value) (o6 : Value) (o7 : Value) (o8 : Value) (o9 : Value) (o10 : Value) (o11 : Value) (o12 : Value) (o13 : Value) (o14 : Value) (y15 : Nat) (y16 : Int32) (y17 : Nat) (o18 : Value) (o19 : Value) (o20 : Value) (o21 : Value) (o22 : Value) (o23 : Value) (o24 : Value) (o25 : Value) (o26 : Value) (o27 : Value) (y28 : Nat) (tl : List Value) (f28 : Nat → Int32) (f17 : Nat → Int32) (t_a0 : T a0 = some (22, hg, mq)) (b_hg : hg < 90) (l_x1 : 0 ≤ x1.toInt) (u_x1 : x1.toInt ≤ 4) (s_f1 : B8 3906 f1) (g_f1 : f1 1 = nI (hg / 6) ∧ f1 2 = nI (hg % 6)) (t_y1 : T y1 = some (8, 3906, hg)) (t_y15 : T y15 = some (1, 900, 0)) (t_y17 : T y17 = some (9, 14, 1)) (t_y28 : T y28 = some (0, 229376, 0)) (c_f17 : ∀ j, cp 1 (f17 j)) (hO : okO T (y1 :: a0 :: y28 :: y17 :: O) [1]) : TK l D cs kf yX12_laysSteps cX12_laysSteps 5 none { frames := 3, cells := 0, slots := 0, locals := 74 } [.ref a0, .int x1, .int x2] T (y1 :: a0 :: y28 :: y17 :: O) ((y1, .inl (cs.2.1, 3906, .inl f1)) :: (a0, .inr (12, o0 :: (.ref y1) :: o2 :: o3 :: o4 :: o5 :: o6 :: o7 :: o8 :: o9 :: o10 :: o11 :: o12 :: o13 :: o14 :: (.ref y15) :: (.int y16) :: (.ref y17) :: o18 :: o19 :: o20 :: o21 :: o22 :: o23 :: o24 :: o25 :: o26 :: o27 :: (.ref y28) :: tl)) :: (y28, .inl (cs.1, 229376, .inl f28)) :: (y17, .inl (cs.2.1, 14, .inl f17)) :: X) (Tv D cs (fun u => ∃ (n1_16 : Int32) (G3 : Nat → Int32), u = (T, y1 :: a0 :: y28 :: y17 :: O, (y1, .inl (cs.2.1, 3906, .inl f1)) :: (a0, .inr (12, o0 :: (.ref y1) :: o2 :: o3 :: o4 :: o5 :: o6 :: o7 :: o8 :: o9 :: o10 :: o11 :: o12 :: o13 :: o14 :: (.ref y15) :: (.int n1_16) :: (.ref y17) :: o18 :: o19 :: o20 :: o21 :: o22 :: o23 :: o24 :: o25 :: o26 :: o27 :: (.ref y28) :: tl)) :: (y28, .inl (cs.1, 229376, .inl f28)) :: (y17, .inl (cs.2.1, 14, .inl G3)) :: X) ∧ (∀ j, cp 1 (G3 j)))) := by
  refine tk_of (by decide) (Nat.le_of_ble_eq_true rfl) (fun p e s m below meth c ls A H locs hx hb hr hml hown hts hlocks hnm hkb hH hS hA hOX hks hE hl => ?_)
  have hown : s.vm.findClass RX12 = some m.cls := hown
  have hl : lv_has ls 5 [(0, .ref a0), (1, .int x1), (2, .int x2)] := hl
  have hOXf := hOX
  refine lv_aload_n hx hb dX12_laysSteps_0 rfl (lv_at hl 0 rfl) ?_
  refine lv_iload_n hx hb dX12_laysSteps_1 rfl (lv_at hl 2 rfl) ?_
  refine x_putk (ci := 12) (v := .int x2) (ty := tyX12 16) (C := RX12) (F := TX12) (N := 36) hx hb hts uX12 tyX12 tyX12_ok nmX12 hown hkb hH hS 1 rfl rfl 16 (by decide) kw_1239 (fun _ h9 => h9) rfl (tyX12_ok 16 (by decide)) rfl rfl (by show 16 < tl.length + 29; omega) dX12_laysSteps_2 (fun H locs hH hS => ?_)
  have hH : HT D cs A T (y1 :: a0 :: y28 :: y17 :: O) ((y1, .inl (cs.2.1, 3906, .inl f1)) :: (a0, .inr (12, o0 :: (.ref y1) :: o2 :: o3 :: o4 :: o5 :: o6 :: o7 :: o8 :: o9 :: o10 :: o11 :: o12 :: o13 :: o14 :: (.ref y15) :: (.int x2) :: (.ref y17) :: o18 :: o19 :: o20 :: o21 :: o22 :: o23 :: o24 :: o25 :: o26 :: o27 :: (.ref y28) :: tl)) :: (y28, .inl (cs.1, 229376, .inl f28)) :: (y17, .inl (cs.2.1, 14, .inl f17)) :: X) H := hH
  refine lv_iconst (v := 0) hx hb dX12_laysSteps_5 (by decide) ?_
  have J7 : ∀ (n : Nat) (p7_3 : Int32) (g7_3 : Nat → Int32) (H : Heap) (locs : List Loc) (ls : Array Slot), (14 - p7_3.toInt).toNat = n → (0 ≤ p7_3.toInt) → (p7_3.toInt ≤ 14) → (∀ j, cp 1 (g7_3 j)) → HT D cs A T (y1 :: a0 :: y28 :: y17 :: O) ((y1, .inl (cs.2.1, 3906, .inl f1)) :: (a0, .inr (12, o0 :: (.ref y1) :: o2 :: o3 :: o4 :: o5 :: o6 :: o7 :: o8 :: o9 :: o10 :: o11 :: o12 :: o13 :: o14 :: (.ref y15) :: (.int x2) :: (.ref y17) :: o18 :: o19 :: o20 :: o21 :: o22 :: o23 :: o24 :: o25 :: o26 :: o27 :: (.ref y28) :: tl)) :: (y28, .inl (cs.1, 229376, .inl f28)) :: (y17, .inl (cs.2.1, 14, .inl g7_3)) :: X) H → va_S A s.heap H locs → lv_has ls 5 [(3, .int p7_3), (0, .ref a0), (1, .int x1)] → W p l e { frames := 3, cells := 0, slots := 0, locals := 74 } s m [.ref a0, .int x1, .int x2].toArray below meth c H locs 0 0 (MQ below (Tv D cs (fun u => ∃ (n1_16 : Int32) (G3 : Nat → Int32), u = (T, y1 :: a0 :: y28 :: y17 :: O, (y1, .inl (cs.2.1, 3906, .inl f1)) :: (a0, .inr (12, o0 :: (.ref y1) :: o2 :: o3 :: o4 :: o5 :: o6 :: o7 :: o8 :: o9 :: o10 :: o11 :: o12 :: o13 :: o14 :: (.ref y15) :: (.int n1_16) :: (.ref y17) :: o18 :: o19 :: o20 :: o21 :: o22 :: o23 :: o24 :: o25 :: o26 :: o27 :: (.ref y28) :: tl)) :: (y28, .inl (cs.1, 229376, .inl f28)) :: (y17, .inl (cs.2.1, 14, .inl G3)) :: X) ∧ (∀ j, cp 1 (G3 j))) A) [.ref a0, .int x1, .int x2].toArray s 0 0 A) (F0 m 7 ls []) := by
    intro n
    induction n using Nat.strongRecOn with
    | _ n ih7 =>
      intro p7_3 g7_3 H locs ls hm7 l_p7_3 u_p7_3 c7 hH hS hl
      refine lv_iload_n hx hb dX12_laysSteps_7 rfl (lv_at hl 0 rfl) ?_
      refine lv_aload_n hx hb dX12_laysSteps_8 rfl (lv_at hl 1 rfl) ?_
      refine x_getk (ci := 12) (C := RX12) (F := TX12) (N := 36) (v := .ref y1) hx hb hts uX12 hown hkb hH 1 rfl rfl 1 (by decide) rfl kw_1224 (fun _ h9 => h9) dX12_laysSteps_9 ?_
      refine lv_iconst (v := 1) hx hb dX12_laysSteps_12 (by decide) ?_
      refine xa_ild hx hb hkb hH 0 rfl (by decide) (by decide) dX12_laysSteps_13 ?_
      refine lv_topi (fun v13 ev13 => ?_)
      have tv13 : v13 = f1 1 := by rw [ev13]; rfl
      have bv13 : 0 ≤ v13.toInt ∧ v13.toInt ≤ 14 := by rw [ev13]; exact (s_f1.at (by decide) 1).1 (by decide)
      have hv13 : v13.toInt = ((hg / 6 : Nat) : Int) := by rw [tv13, g_f1.1]; exact nI_toInt (by omega)
      refine lv_icmp_ge (tgt := 94) hx hb dX12_laysSteps_14 (by decide) (fun c14 => ?_) (fun c14 => ?_)
      · skip
        have fuc14 := full_i p7_3
        have fvc14 := full_i v13
        have tc14 := g_le c14
        exact te_v hx hb hr hlocks hH hS (⟨x2, g7_3, rfl, c7⟩) dX12_laysSteps_94
      · skip
        have fuc14 := full_i p7_3
        have fvc14 := full_i v13
        have tc14 := g_nle c14
        refine lv_aload_n hx hb dX12_laysSteps_17 rfl (lv_at hl 1 rfl) ?_
        refine x_getk (ci := 12) (C := RX12) (F := TX12) (N := 36) (v := .ref y17) hx hb hts uX12 hown hkb hH 1 rfl rfl 17 (by decide) rfl kw_1240 (fun _ h9 => h9) dX12_laysSteps_18 ?_
        refine lv_iload_n hx hb dX12_laysSteps_21 rfl (lv_at hl 0 rfl) ?_
        refine lv_iconst (v := 0) hx hb dX12_laysSteps_22 (by decide) ?_
        refine xa_ist hx hb hkb hH hS 3 rfl (by omega) (by omega) dX12_laysSteps_23 (fun H locs hH hS => ?_)
        have hH : HT D cs A T (y1 :: a0 :: y28 :: y17 :: O) ((y1, .inl (cs.2.1, 3906, .inl f1)) :: (a0, .inr (12, o0 :: (.ref y1) :: o2 :: o3 :: o4 :: o5 :: o6 :: o7 :: o8 :: o9 :: o10 :: o11 :: o12 :: o13 :: o14 :: (.ref y15) :: (.int x2) :: (.ref y17) :: o18 :: o19 :: o20 :: o21 :: o22 :: o23 :: o24 :: o25 :: o26 :: o27 :: (.ref y28) :: tl)) :: (y28, .inl (cs.1, 229376, .inl f28)) :: (y17, .inl (cs.2.1, 14, .inl (upd g7_3 (p7_3.toInt.toNat) (0 : Int32)))) :: X) H := hH
        obtain ⟨F23, eF23⟩ : ∃ f9, f9 = upd g7_3 (p7_3.toInt.toNat) (0 : Int32) := ⟨_, rfl⟩
        have hH : HT D cs A T (y1 :: a0 :: y28 :: y17 :: O) ((y1, .inl (cs.2.1, 3906, .inl f1)) :: (a0, .inr (12, o0 :: (.ref y1) :: o2 :: o3 :: o4 :: o5 :: o6 :: o7 :: o8 :: o9 :: o10 :: o11 :: o12 :: o13 :: o14 :: (.ref y15) :: (.int x2) :: (.ref y17) :: o18 :: o19 :: o20 :: o21 :: o22 :: o23 :: o24 :: o25 :: o26 :: o27 :: (.ref y28) :: tl)) :: (y28, .inl (cs.1, 229376, .inl f28)) :: (y17, .inl (cs.2.1, 14, .inl F23)) :: X) H := eF23 ▸ hH
        refine lv_iconst (v := 0) hx hb dX12_laysSteps_24 (by decide) ?_
        have J27 : ∀ (n : Nat) (p27_4 : Int32) (g27_3 : Nat → Int32) (H : Heap) (locs : List Loc) (ls : Array Slot), (14 - p27_4.toInt).toNat = n → (0 ≤ p27_4.toInt) → (p27_4.toInt ≤ 14) → (∀ j, cp 1 (g27_3 j)) → HT D cs A T (y1 :: a0 :: y28 :: y17 :: O) ((y1, .inl (cs.2.1, 3906, .inl f1)) :: (a0, .inr (12, o0 :: (.ref y1) :: o2 :: o3 :: o4 :: o5 :: o6 :: o7 :: o8 :: o9 :: o10 :: o11 :: o12 :: o13 :: o14 :: (.ref y15) :: (.int x2) :: (.ref y17) :: o18 :: o19 :: o20 :: o21 :: o22 :: o23 :: o24 :: o25 :: o26 :: o27 :: (.ref y28) :: tl)) :: (y28, .inl (cs.1, 229376, .inl f28)) :: (y17, .inl (cs.2.1, 14, .inl g27_3)) :: X) H → va_S A s.heap H locs → lv_has ls 5 [(4, .int p27_4), (3, .int p7_3), (0, .ref a0), (1, .int x1)] → W p l e { frames := 3, cells := 0, slots := 0, locals := 74 } s m [.ref a0, .int x1, .int x2].toArray below meth c H locs 0 0 (MQ below (Tv D cs (fun u => ∃ (n1_16 : Int32) (G3 : Nat → Int32), u = (T, y1 :: a0 :: y28 :: y17 :: O, (y1, .inl (cs.2.1, 3906, .inl f1)) :: (a0, .inr (12, o0 :: (.ref y1) :: o2 :: o3 :: o4 :: o5 :: o6 :: o7 :: o8 :: o9 :: o10 :: o11 :: o12 :: o13 :: o14 :: (.ref y15) :: (.int n1_16) :: (.ref y17) :: o18 :: o19 :: o20 :: o21 :: o22 :: o23 :: o24 :: o25 :: o26 :: o27 :: (.ref y28) :: tl)) :: (y28, .inl (cs.1, 229376, .inl f28)) :: (y17, .inl (cs.2.1, 14, .inl G3)) :: X) ∧ (∀ j, cp 1 (G3 j))) A) [.ref a0, .int x1, .int x2].toArray s 0 0 A) (F0 m 27 ls []) := by
          intro n
          induction n using Nat.strongRecOn with
          | _ n ih27 =>
            intro p27_4 g27_3 H locs ls hm27 l_p27_4 u_p27_4 c27 hH hS hl
            refine lv_iload hx hb dX12_laysSteps_27 (lv_at hl 0 rfl) ?_
            refine lv_aload_n hx hb dX12_laysSteps_29 rfl (lv_at hl 2 rfl) ?_
            refine x_getk (ci := 12) (C := RX12) (F := TX12) (N := 36) (v := .ref y1) hx hb hts uX12 hown hkb hH 1 rfl rfl 1 (by decide) rfl kw_1224 (fun _ h9 => h9) dX12_laysSteps_30 ?_
            refine lv_iconst (v := 1) hx hb dX12_laysSteps_33 (by decide) ?_
            refine xa_ild hx hb hkb hH 0 rfl (by decide) (by decide) dX12_laysSteps_34 ?_
            refine lv_topi (fun v34 ev34 => ?_)
            have tv34 : v34 = f1 1 := by rw [ev34]; rfl
            have bv34 : 0 ≤ v34.toInt ∧ v34.toInt ≤ 14 := by rw [ev34]; exact (s_f1.at (by decide) 1).1 (by decide)
            have hv34 : v34.toInt = ((hg / 6 : Nat) : Int) := by rw [tv34, g_f1.1]; exact nI_toInt (by omega)
            have J88 : ∀  (H : Heap) (locs : List Loc) (ls : Array Slot), HT D cs A T (y1 :: a0 :: y28 :: y17 :: O) ((y1, .inl (cs.2.1, 3906, .inl f1)) :: (a0, .inr (12, o0 :: (.ref y1) :: o2 :: o3 :: o4 :: o5 :: o6 :: o7 :: o8 :: o9 :: o10 :: o11 :: o12 :: o13 :: o14 :: (.ref y15) :: (.int x2) :: (.ref y17) :: o18 :: o19 :: o20 :: o21 :: o22 :: o23 :: o24 :: o25 :: o26 :: o27 :: (.ref y28) :: tl)) :: (y28, .inl (cs.1, 229376, .inl f28)) :: (y17, .inl (cs.2.1, 14, .inl g27_3)) :: X) H → va_S A s.heap H locs → lv_has ls 5 [(3, .int p7_3), (0, .ref a0), (1, .int x1)] → W p l e { frames := 3, cells := 0, slots := 0, locals := 74 } s m [.ref a0, .int x1, .int x2].toArray below meth c H locs 0 0 (MQ below (Tv D cs (fun u => ∃ (n1_16 : Int32) (G3 : Nat → Int32), u = (T, y1 :: a0 :: y28 :: y17 :: O, (y1, .inl (cs.2.1, 3906, .inl f1)) :: (a0, .inr (12, o0 :: (.ref y1) :: o2 :: o3 :: o4 :: o5 :: o6 :: o7 :: o8 :: o9 :: o10 :: o11 :: o12 :: o13 :: o14 :: (.ref y15) :: (.int n1_16) :: (.ref y17) :: o18 :: o19 :: o20 :: o21 :: o22 :: o23 :: o24 :: o25 :: o26 :: o27 :: (.ref y28) :: tl)) :: (y28, .inl (cs.1, 229376, .inl f28)) :: (y17, .inl (cs.2.1, 14, .inl G3)) :: X) ∧ (∀ j, cp 1 (G3 j))) A) [.ref a0, .int x1, .int x2].toArray s 0 0 A) (F0 m 88 ls []) := by
              intro  H locs ls  hH hS hl
              obtain ⟨v88, ev88⟩ : ∃ y : Int32, y = p7_3 + 1 := ⟨_, rfl⟩
              have tv88 : v88.toInt = p7_3.toInt + (1) := by rw [ev88]; exact add_i rfl (by decide) (by omega) (by omega)
              refine lv_iinc (v := v88) (lv' := [(3, .int v88), (0, .ref a0), (1, .int x1)]) hx hb dX12_laysSteps_88 hl (k := 0) rfl (by rw [ev88]; rfl) (by decide) rfl (fun ls hl => ?_)
              refine lv_goto (tgt := 7) hx hb dX12_laysSteps_91 (by decide) ?_
              exact ih7 _ (by omega) v88 g27_3 _ _ _ rfl (by omega) (by omega) (by first | exact c_f17 | exact c7 | exact c27 | exact c82 | (rw [eF23]; refine c1_put c7 ?_ ?_ <;> decide) | (rw [eF81]; refine c1_put c27 ?_ ?_ <;> omega)) hH hS (lv_sub hl [0, 1, 2] rfl)
            refine lv_icmp_ge (tgt := 88) hx hb dX12_laysSteps_35 (by decide) (fun c35 => ?_) (fun c35 => ?_)
            · skip
              have fuc35 := full_i p27_4
              have fvc35 := full_i v34
              have tc35 := g_le c35
              exact J88  _ _ _  hH hS (lv_sub hl [1, 2, 3] rfl)
            · skip
              have fuc35 := full_i p27_4
              have fvc35 := full_i v34
              have tc35 := g_nle c35
              refine lv_aload_n hx hb dX12_laysSteps_38 rfl (lv_at hl 2 rfl) ?_
              refine x_getk (ci := 12) (C := RX12) (F := TX12) (N := 36) (v := .ref y1) hx hb hts uX12 hown hkb hH 1 rfl rfl 1 (by decide) rfl kw_1224 (fun _ h9 => h9) dX12_laysSteps_39 ?_
              refine lv_iconst (v := 5) hx hb dX12_laysSteps_42 (by decide) ?_
              refine xa_ild hx hb hkb hH 0 rfl (by decide) (by decide) dX12_laysSteps_43 ?_
              refine lv_topi (fun v43 ev43 => ?_)
              have tv43 : v43 = f1 5 := by rw [ev43]; rfl
              have bv43 : 0 ≤ v43.toInt ∧ v43.toInt ≤ 16383 := by rw [ev43]; exact (s_f1.at (by decide) 5).2.2.2.1 (by decide)
              refine lv_i2l hx hb dX12_laysSteps_44 rfl ?_
              refine lv_iload_n hx hb dX12_laysSteps_45 rfl (lv_at hl 1 rfl) ?_
              refine tk_i hH hS hA (tr_S (n := 2) (As := [.long v43.toInt64, .int p7_3]) hx hb hml hown hts hkb hH (ox_map hOX rfl) hks hE hS hA (s_M_isIn2 l D cs kf T (y1 :: a0 :: y28 :: y17 :: O) ((y1, .inl (cs.2.1, 3906, .inl f1)) :: (a0, .inr (12, o0 :: (.ref y1) :: o2 :: o3 :: o4 :: o5 :: o6 :: o7 :: o8 :: o9 :: o10 :: o11 :: o12 :: o13 :: o14 :: (.ref y15) :: (.int x2) :: (.ref y17) :: o18 :: o19 :: o20 :: o21 :: o22 :: o23 :: o24 :: o25 :: o26 :: o27 :: (.ref y28) :: tl)) :: (y28, .inl (cs.1, 229376, .inl f28)) :: (y17, .inl (cs.2.1, 14, .inl g27_3)) :: X) v43.toInt64 p7_3  (hO.sub (by decide))) kw_1440 kw_1441 kw_13 kw_1442 (by decide +kernel) ⟨Nat.le_of_ble_eq_true rfl, Nat.le_of_ble_eq_true rfl⟩ rfl rfl hl.1 (Nat.le_of_ble_eq_true rfl) dX12_laysSteps_46 ⟨Nat.le_of_ble_eq_true rfl, Nat.le_of_ble_eq_true rfl⟩) (fun v46 u H locs hz9 hH hS => ?_)
              obtain ⟨rfl, l_v46, u_v46, x_v460⟩ := hz9
              have hH : HT D cs A T (y1 :: a0 :: y28 :: y17 :: O) ((y1, .inl (cs.2.1, 3906, .inl f1)) :: (a0, .inr (12, o0 :: (.ref y1) :: o2 :: o3 :: o4 :: o5 :: o6 :: o7 :: o8 :: o9 :: o10 :: o11 :: o12 :: o13 :: o14 :: (.ref y15) :: (.int x2) :: (.ref y17) :: o18 :: o19 :: o20 :: o21 :: o22 :: o23 :: o24 :: o25 :: o26 :: o27 :: (.ref y28) :: tl)) :: (y28, .inl (cs.1, 229376, .inl f28)) :: (y17, .inl (cs.2.1, 14, .inl g27_3)) :: X) H := hH
              refine W.widen (k := 0) (n := 0) (Nat.le_of_ble_eq_true rfl) (Nat.le_of_ble_eq_true rfl) ?_
              refine lv_if_ne (tgt := 88) hx hb dX12_laysSteps_49 (by decide) (fun c49 => ?_) (fun c49 => ?_)
              · skip
                have tc49 := f_ne (k := 0) (by decide) c49
                exact J88  _ _ _  hH hS (lv_sub hl [1, 2, 3] rfl)
              · skip
                have tc49 := f_eq (k := 0) (by decide) c49
                refine lv_iload hx hb dX12_laysSteps_52 (lv_at hl 0 rfl) ?_
                refine lv_iload_n hx hb dX12_laysSteps_54 rfl (lv_at hl 1 rfl) ?_
                have J82 : ∀ (g82_3 : Nat → Int32) (H : Heap) (locs : List Loc) (ls : Array Slot), (∀ j, cp 1 (g82_3 j)) → HT D cs A T (y1 :: a0 :: y28 :: y17 :: O) ((y1, .inl (cs.2.1, 3906, .inl f1)) :: (a0, .inr (12, o0 :: (.ref y1) :: o2 :: o3 :: o4 :: o5 :: o6 :: o7 :: o8 :: o9 :: o10 :: o11 :: o12 :: o13 :: o14 :: (.ref y15) :: (.int x2) :: (.ref y17) :: o18 :: o19 :: o20 :: o21 :: o22 :: o23 :: o24 :: o25 :: o26 :: o27 :: (.ref y28) :: tl)) :: (y28, .inl (cs.1, 229376, .inl f28)) :: (y17, .inl (cs.2.1, 14, .inl g82_3)) :: X) H → va_S A s.heap H locs → lv_has ls 5 [(4, .int p27_4), (3, .int p7_3), (0, .ref a0), (1, .int x1)] → W p l e { frames := 3, cells := 0, slots := 0, locals := 74 } s m [.ref a0, .int x1, .int x2].toArray below meth c H locs 0 0 (MQ below (Tv D cs (fun u => ∃ (n1_16 : Int32) (G3 : Nat → Int32), u = (T, y1 :: a0 :: y28 :: y17 :: O, (y1, .inl (cs.2.1, 3906, .inl f1)) :: (a0, .inr (12, o0 :: (.ref y1) :: o2 :: o3 :: o4 :: o5 :: o6 :: o7 :: o8 :: o9 :: o10 :: o11 :: o12 :: o13 :: o14 :: (.ref y15) :: (.int n1_16) :: (.ref y17) :: o18 :: o19 :: o20 :: o21 :: o22 :: o23 :: o24 :: o25 :: o26 :: o27 :: (.ref y28) :: tl)) :: (y28, .inl (cs.1, 229376, .inl f28)) :: (y17, .inl (cs.2.1, 14, .inl G3)) :: X) ∧ (∀ j, cp 1 (G3 j))) A) [.ref a0, .int x1, .int x2].toArray s 0 0 A) (F0 m 82 ls []) := by
                  intro g82_3 H locs ls c82 hH hS hl
                  obtain ⟨v82, ev82⟩ : ∃ y : Int32, y = p27_4 + 1 := ⟨_, rfl⟩
                  have tv82 : v82.toInt = p27_4.toInt + (1) := by rw [ev82]; exact add_i rfl (by decide) (by omega) (by omega)
                  refine lv_iinc (v := v82) (lv' := [(4, .int v82), (3, .int p7_3), (0, .ref a0), (1, .int x1)]) hx hb dX12_laysSteps_82 hl (k := 0) rfl (by rw [ev82]; rfl) (by decide) rfl (fun ls hl => ?_)
                  refine lv_goto (tgt := 27) hx hb dX12_laysSteps_85 (by decide) ?_
                  exact ih27 _ (by omega) v82 g82_3 _ _ _ rfl (by omega) (by omega) (by first | exact c_f17 | exact c7 | exact c27 | exact c82 | (rw [eF23]; refine c1_put c7 ?_ ?_ <;> decide) | (rw [eF81]; refine c1_put c27 ?_ ?_ <;> omega)) hH hS (lv_sub hl [0, 1, 2, 3] rfl)
                refine lv_icmp_eq (tgt := 82) hx hb dX12_laysSteps_55 (by decide) (fun c55 => ?_) (fun c55 => ?_)
                · skip
                  have fuc55 := full_i p27_4
                  have fvc55 := full_i p7_3
                  have tc55 := g_eq c55
                  exact J82 g27_3 _ _ _ (by first | exact c_f17 | exact c7 | exact c27 | exact c82 | (rw [eF23]; refine c1_put c7 ?_ ?_ <;> decide) | (rw [eF81]; refine c1_put c27 ?_ ?_ <;> omega)) hH hS (lv_sub hl [0, 1, 2, 3] rfl)
                · skip
                  have fuc55 := full_i p27_4
                  have fvc55 := full_i p7_3
                  have tc55 := g_ne c55
                  refine lv_aload_n hx hb dX12_laysSteps_58 rfl (lv_at hl 2 rfl) ?_
                  refine lv_iload_n hx hb dX12_laysSteps_59 rfl (lv_at hl 3 rfl) ?_
                  refine lv_iload_n hx hb dX12_laysSteps_60 rfl (lv_at hl 1 rfl) ?_
                  refine lv_iload hx hb dX12_laysSteps_61 (lv_at hl 0 rfl) ?_
                  refine tk_i hH hS hA (tr_V (n := 3) (As := [.int x1, .int p7_3, .int p27_4]) hx hb hml hown hts hkb hH (ox_map hOX rfl) hks hE hS hA (s_M_mayStepX l D cs kf T (y28 :: y17 :: O) ((y28, .inl (cs.1, 229376, .inl f28)) :: (y17, .inl (cs.2.1, 14, .inl g27_3)) :: X) a0 hg mq x1 p7_3 p27_4 f1 o0 y1 o2 o3 o4 o5 o6 o7 o8 o9 o10 o11 o12 o13 o14 y15 x2 ((.ref y17) :: o18 :: o19 :: o20 :: o21 :: o22 :: o23 :: o24 :: o25 :: o26 :: o27 :: (.ref y28) :: tl) t_a0 b_hg (by omega) (by omega) (by omega) (by omega) (by omega) (by omega) s_f1 g_f1 t_y1 t_y15 (hO.sub (by decide))) kw_1482 kw_1484 ks_69 kw_13 kw_1485 (by decide +kernel) ⟨Nat.le_of_ble_eq_true rfl, Nat.le_of_ble_eq_true rfl⟩ (x_recv (ci := 12) hkb hH 1 rfl rfl) rfl rfl hl.1 (Nat.le_of_ble_eq_true rfl) dX12_laysSteps_63 ⟨Nat.le_of_ble_eq_true rfl, Nat.le_of_ble_eq_true rfl⟩) (fun v63 u H locs hz9 hH hS => ?_)
                  obtain ⟨rfl, l_v63, u_v63⟩ := hz9
                  have hH : HT D cs A T (y1 :: a0 :: y28 :: y17 :: O) ((y1, .inl (cs.2.1, 3906, .inl f1)) :: (a0, .inr (12, o0 :: (.ref y1) :: o2 :: o3 :: o4 :: o5 :: o6 :: o7 :: o8 :: o9 :: o10 :: o11 :: o12 :: o13 :: o14 :: (.ref y15) :: (.int x2) :: (.ref y17) :: o18 :: o19 :: o20 :: o21 :: o22 :: o23 :: o24 :: o25 :: o26 :: o27 :: (.ref y28) :: tl)) :: (y28, .inl (cs.1, 229376, .inl f28)) :: (y17, .inl (cs.2.1, 14, .inl g27_3)) :: X) H := hH
                  refine W.widen (k := 0) (n := 0) (Nat.le_of_ble_eq_true rfl) (Nat.le_of_ble_eq_true rfl) ?_
                  refine lv_if_eq (tgt := 82) hx hb dX12_laysSteps_66 (by decide) (fun c66 => ?_) (fun c66 => ?_)
                  · skip
                    have tc66 := f_eq (k := 0) (by decide) c66
                    exact J82 g27_3 _ _ _ (by first | exact c_f17 | exact c7 | exact c27 | exact c82 | (rw [eF23]; refine c1_put c7 ?_ ?_ <;> decide) | (rw [eF81]; refine c1_put c27 ?_ ?_ <;> omega)) hH hS (lv_sub hl [0, 1, 2, 3] rfl)
                  · skip
                    have tc66 := f_ne (k := 0) (by decide) c66
                    refine lv_aload_n hx hb dX12_laysSteps_69 rfl (lv_at hl 2 rfl) ?_
                    refine x_getk (ci := 12) (C := RX12) (F := TX12) (N := 36) (v := .ref y17) hx hb hts uX12 hown hkb hH 1 rfl rfl 17 (by decide) rfl kw_1240 (fun _ h9 => h9) dX12_laysSteps_70 ?_
                    refine lv_iload_n hx hb dX12_laysSteps_73 rfl (lv_at hl 1 rfl) ?_
                    refine lv_dup2_11 hx hb dX12_laysSteps_74 rfl rfl ?_
                    refine xa_ild hx hb hkb hH 3 rfl (by omega) (by omega) dX12_laysSteps_75 ?_
                    refine lv_topi (fun v75 ev75 => ?_)
                    have tv75 : v75 = g27_3 p7_3.toInt.toNat := ev75
                    have b75 : 0 ≤ v75.toInt ∧ v75.toInt ≤ 16383 := by rw [tv75]; exact c27 _
                    refine lv_iconst (v := 1) hx hb dX12_laysSteps_76 (by decide) ?_
                    refine lv_iload hx hb dX12_laysSteps_77 (lv_at hl 0 rfl) ?_
                    refine lv_ishl hx hb dX12_laysSteps_79 ?_
                    refine lv_topi (fun v79 ev79 => ?_)
                    have tv79 : 1 ≤ v79.toInt ∧ v79.toInt ≤ 8192 := by rw [ev79]; exact shl_b 13 (by decide) (by omega) (by omega)
                    refine lv_ior hx hb dX12_laysSteps_80 ?_
                    refine lv_topi (fun v80 ev80 => ?_)
                    have tv80 : 0 ≤ v80.toInt ∧ v80.toInt < 16384 := by rw [ev80]; exact or_b 14 (by decide) (by omega) (by omega) (by omega) (by omega)
                    refine xa_ist hx hb hkb hH hS 3 rfl (by omega) (by omega) dX12_laysSteps_81 (fun H locs hH hS => ?_)
                    have hH : HT D cs A T (y1 :: a0 :: y28 :: y17 :: O) ((y1, .inl (cs.2.1, 3906, .inl f1)) :: (a0, .inr (12, o0 :: (.ref y1) :: o2 :: o3 :: o4 :: o5 :: o6 :: o7 :: o8 :: o9 :: o10 :: o11 :: o12 :: o13 :: o14 :: (.ref y15) :: (.int x2) :: (.ref y17) :: o18 :: o19 :: o20 :: o21 :: o22 :: o23 :: o24 :: o25 :: o26 :: o27 :: (.ref y28) :: tl)) :: (y28, .inl (cs.1, 229376, .inl f28)) :: (y17, .inl (cs.2.1, 14, .inl (upd g27_3 (p7_3.toInt.toNat) v80))) :: X) H := hH
                    obtain ⟨F81, eF81⟩ : ∃ f9, f9 = upd g27_3 (p7_3.toInt.toNat) v80 := ⟨_, rfl⟩
                    have hH : HT D cs A T (y1 :: a0 :: y28 :: y17 :: O) ((y1, .inl (cs.2.1, 3906, .inl f1)) :: (a0, .inr (12, o0 :: (.ref y1) :: o2 :: o3 :: o4 :: o5 :: o6 :: o7 :: o8 :: o9 :: o10 :: o11 :: o12 :: o13 :: o14 :: (.ref y15) :: (.int x2) :: (.ref y17) :: o18 :: o19 :: o20 :: o21 :: o22 :: o23 :: o24 :: o25 :: o26 :: o27 :: (.ref y28) :: tl)) :: (y28, .inl (cs.1, 229376, .inl f28)) :: (y17, .inl (cs.2.1, 14, .inl F81)) :: X) H := eF81 ▸ hH
                    exact J82 F81 _ _ _ (by first | exact c_f17 | exact c7 | exact c27 | exact c82 | (rw [eF23]; refine c1_put c7 ?_ ?_ <;> decide) | (rw [eF81]; refine c1_put c27 ?_ ?_ <;> omega)) hH hS (lv_sub hl [0, 1, 2, 3] rfl)
        refine lv_istore (lv' := [(4, .int 0), (3, .int p7_3), (0, .ref a0), (1, .int x1)]) hx hb dX12_laysSteps_25 hl (by decide) rfl (fun ls hl => ?_)
        have z_0 : (0 : Int32).toInt = 0 := by decide
        exact J27 _ 0 F23 _ _ _ rfl (by decide) (by decide) (by first | exact c_f17 | exact c7 | exact c27 | exact c82 | (rw [eF23]; refine c1_put c7 ?_ ?_ <;> decide) | (rw [eF81]; refine c1_put c27 ?_ ?_ <;> omega)) hH hS (lv_sub hl [0, 1, 2, 3] rfl)
  refine lv_istore_n (lv' := [(3, .int 0), (0, .ref a0), (1, .int x1), (2, .int x2)]) hx hb dX12_laysSteps_6 rfl hl (by decide) rfl (fun ls hl => ?_)
  have z_0 : (0 : Int32).toInt = 0 := by decide
  exact J7 _ 0 f17 _ _ _ rfl (by decide) (by decide) (by first | exact c_f17 | exact c7 | exact c27 | exact c82 | (rw [eF23]; refine c1_put c7 ?_ ?_ <;> decide) | (rw [eF81]; refine c1_put c27 ?_ ?_ <;> omega)) hH hS (lv_sub hl [0, 1, 2] rfl)
set_option maxHeartbeats 4000000 in
set_option maxRecDepth 100000 in
theorem s_M_laysGuideX (l : Launch) (D : va_G) (cs : CS) (kf : KF) (T : TF) (O : List Nat) (X : va_W) (a0 hg mq : Nat) (x1 : Int32) (f1 : Nat → Int32) (o0 : Value) (y1 : Nat) (o2 : Value) (o3 : Value) (o4 : Value) (o5 : Value) (o6 : Value) (o7 : Value) (o8 : Value) (o9 : Value) (o10 : Value) (o11 : Value) (o12 : Value) (o13 : Value) (o14 : Value) (y15 : Nat) (y16 : Int32) (y17 : Nat) (o18 : Value) (o19 : Value) (o20 : Value) (o21 : Value) (o22 : Value) (o23 : Value) (o24 : Value) (o25 : Value) (o26 : Value) (o27 : Value) (y28 : Nat) (tl : List Value) (f28 : Nat → Int32) (f17 : Nat → Int32) (t_a0 : T a0 = some (22, hg, mq)) (b_hg : hg < 90) (l_x1 : 0 ≤ x1.toInt) (u_x1 : x1.toInt ≤ 4) (s_f1 : B8 3906 f1) (g_f1 : f1 1 = nI (hg / 6) ∧ f1 2 = nI (hg % 6)) (t_y1 : T y1 = some (8, 3906, hg)) (t_y15 : T y15 = some (1, 900, 0)) (t_y17 : T y17 = some (9, 14, 1)) (t_y28 : T y28 = some (0, 229376, 0)) (c_f17 : ∀ j, cp 1 (f17 j)) (hO : okO T (y1 :: a0 :: y28 :: y17 :: O) [1]) : TK l D cs kf yX12_laysGuide cX12_laysGuide 2 none { frames := 4, cells := 0, slots := 0, locals := 98 } [.ref a0, .int x1] T (y1 :: a0 :: y28 :: y17 :: O) ((y1, .inl (cs.2.1, 3906, .inl f1)) :: (a0, .inr (12, o0 :: (.ref y1) :: o2 :: o3 :: o4 :: o5 :: o6 :: o7 :: o8 :: o9 :: o10 :: o11 :: o12 :: o13 :: o14 :: (.ref y15) :: (.int y16) :: (.ref y17) :: o18 :: o19 :: o20 :: o21 :: o22 :: o23 :: o24 :: o25 :: o26 :: o27 :: (.ref y28) :: tl)) :: (y28, .inl (cs.1, 229376, .inl f28)) :: (y17, .inl (cs.2.1, 14, .inl f17)) :: X) (Tv D cs (fun u => ∃ (n1_16 : Int32) (G3 : Nat → Int32), u = (T, y1 :: a0 :: y28 :: y17 :: O, (y1, .inl (cs.2.1, 3906, .inl f1)) :: (a0, .inr (12, o0 :: (.ref y1) :: o2 :: o3 :: o4 :: o5 :: o6 :: o7 :: o8 :: o9 :: o10 :: o11 :: o12 :: o13 :: o14 :: (.ref y15) :: (.int n1_16) :: (.ref y17) :: o18 :: o19 :: o20 :: o21 :: o22 :: o23 :: o24 :: o25 :: o26 :: o27 :: (.ref y28) :: tl)) :: (y28, .inl (cs.1, 229376, .inl f28)) :: (y17, .inl (cs.2.1, 14, .inl G3)) :: X) ∧ (∀ j, cp 1 (G3 j)))) := by
  refine tk_of (by decide) (Nat.le_of_ble_eq_true rfl) (fun p e s m below meth c ls A H locs hx hb hr hml hown hts hlocks hnm hkb hH hS hA hOX hks hE hl => ?_)
  have hown : s.vm.findClass RX12 = some m.cls := hown
  have hl : lv_has ls 2 [(0, .ref a0), (1, .int x1)] := hl
  have hOXf := hOX
  refine lv_aload_n hx hb dX12_laysGuide_0 rfl (lv_at hl 0 rfl) ?_
  refine lv_iload_n hx hb dX12_laysGuide_1 rfl (lv_at hl 1 rfl) ?_
  refine lv_aload_n hx hb dX12_laysGuide_2 rfl (lv_at hl 0 rfl) ?_
  refine x_getk (ci := 12) (C := RX12) (F := TX12) (N := 36) (v := .ref y1) hx hb hts uX12 hown hkb hH 1 rfl rfl 1 (by decide) rfl kw_1224 (fun _ h9 => h9) dX12_laysGuide_3 ?_
  refine lv_bipush (v := 49) hx hb dX12_laysGuide_6 (by decide) ?_
  refine lv_iload_n hx hb dX12_laysGuide_8 rfl (lv_at hl 1 rfl) ?_
  refine lv_iadd hx hb dX12_laysGuide_9 ?_
  refine lv_topi (fun v9 ev9 => ?_)
  have tv9 : v9.toInt = (49) + x1.toInt := by rw [ev9]; exact add_i (by decide : (49 : Int32).toInt = 49) rfl (by omega) (by omega)
  refine xa_ild hx hb hkb hH 0 rfl (by omega) (by omega) dX12_laysGuide_10 ?_
  refine lv_topi (fun v10 ev10 => ?_)
  have tv10 : v10 = f1 v9.toInt.toNat := ev10
  refine tk_v hH hS hA (tr_V (n := 2) (As := [.int x1, .int v10]) hx hb hml hown hts hkb hH (ox_map hOX rfl) hks hE hS hA (s_M_laysStepsX l D cs kf T O X a0 hg mq x1 v10 f1 o0 y1 o2 o3 o4 o5 o6 o7 o8 o9 o10 o11 o12 o13 o14 y15 y16 y17 o18 o19 o20 o21 o22 o23 o24 o25 o26 o27 y28 tl f28 f17 t_a0 b_hg (by omega) (by omega) s_f1 g_f1 t_y1 t_y15 t_y17 t_y28 c_f17 (hO.sub (by decide))) kw_1506 kw_1508 ks_72 kw_13 kw_1509 (by decide +kernel) ⟨Nat.le_of_ble_eq_true rfl, Nat.le_of_ble_eq_true rfl⟩ (x_recv (ci := 12) hkb hH 1 rfl rfl) rfl rfl hl.1 (Nat.le_of_ble_eq_true rfl) dX12_laysGuide_11 ⟨Nat.le_of_ble_eq_true rfl, Nat.le_of_ble_eq_true rfl⟩) (fun u H locs hz9 hH hS => ?_)
  obtain ⟨n11_1_16, F11_3, rfl, x_v110⟩ := hz9
  have c_F11_3 := x_v110
  have hH : HT D cs A T (y1 :: a0 :: y28 :: y17 :: O) ((y1, .inl (cs.2.1, 3906, .inl f1)) :: (a0, .inr (12, o0 :: (.ref y1) :: o2 :: o3 :: o4 :: o5 :: o6 :: o7 :: o8 :: o9 :: o10 :: o11 :: o12 :: o13 :: o14 :: (.ref y15) :: (.int n11_1_16) :: (.ref y17) :: o18 :: o19 :: o20 :: o21 :: o22 :: o23 :: o24 :: o25 :: o26 :: o27 :: (.ref y28) :: tl)) :: (y28, .inl (cs.1, 229376, .inl f28)) :: (y17, .inl (cs.2.1, 14, .inl F11_3)) :: X) H := hH
  refine W.widen (k := 0) (n := 0) (Nat.le_of_ble_eq_true rfl) (Nat.le_of_ble_eq_true rfl) ?_
  exact te_v hx hb hr hlocks hH hS (⟨n11_1_16, F11_3, rfl, x_v110⟩) dX12_laysGuide_14
