set_option maxHeartbeats 4000000 in
set_option maxRecDepth 100000 in
theorem s_M_isHoldX (l : Launch) (D : va_G) (cs : CS) (kf : KF) (T : TF) (O : List Nat) (X : va_W) (a0 hg mq : Nat) (x1 : Int64) (f1 : Nat → Int32) (o0 : Value) (y1 : Nat) (o2 : Value) (o3 : Value) (o4 : Value) (o5 : Value) (o6 : Value) (o7 : Value) (o8 : Value) (o9 : Value) (o10 : Value) (o11 : Value) (o12 : Value) (o13 : Value) (o14 : Value) (y15 : Nat) (y16 : Int32) (tl : List Value) (t_a0 : T a0 = some (22, hg, mq)) (b_hg : hg < 90) (s_f1 : B8 3906 f1) (g_f1 : f1 1 = nI (hg / 6) ∧ f1 2 = nI (hg % 6)) (t_y1 : T y1 = some (8, 3906, hg)) (t_y15 : T y15 = some (1, 900, 0)) (hO : okO T (y1 :: a0 :: O) []) : TK l D cs kf yX12_isHold cX12_isHold 3 (some (.boolean)) { frames := 1, cells := 0, slots := 0, locals := 25 } [.ref a0, .long x1] T (y1 :: a0 :: O) ((y1, .inl (cs.2.1, 3906, .inl f1)) :: (a0, .inr (12, o0 :: (.ref y1) :: o2 :: o3 :: o4 :: o5 :: o6 :: o7 :: o8 :: o9 :: o10 :: o11 :: o12 :: o13 :: o14 :: (.ref y15) :: (.int y16) :: tl)) :: X) (Ti D cs (fun r u => u = (T, y1 :: a0 :: O, (y1, .inl (cs.2.1, 3906, .inl f1)) :: (a0, .inr (12, o0 :: (.ref y1) :: o2 :: o3 :: o4 :: o5 :: o6 :: o7 :: o8 :: o9 :: o10 :: o11 :: o12 :: o13 :: o14 :: (.ref y15) :: (.int y16) :: tl)) :: X) ∧ 0 ≤ r.toInt ∧ r.toInt ≤ 1 ∧ (r.toInt = 0 ∨ (0 ≤ x1.toInt ∧ x1.toInt ≤ 13)))) := by
  refine tk_of (by decide) (Nat.le_of_ble_eq_true rfl) (fun p e s m below meth c ls A H locs hx hb hr hml hown hts hlocks hnm hkb hH hS hA hOX hks hE hl => ?_)
  have hown : s.vm.findClass RX12 = some m.cls := hown
  have hl : lv_has ls 3 [(0, .ref a0), (1, .long x1)] := hl
  have hOXf := hOX
  refine lv_lload_n hx hb dX12_isHold_0 rfl (lv_at hl 1 rfl) ?_
  refine lv_lconst (v := 0) hx hb dX12_isHold_1 (by decide) ?_
  refine lv_aload_n hx hb dX12_isHold_2 rfl (lv_at hl 0 rfl) ?_
  refine x_getk (ci := 12) (C := RX12) (F := TX12) (N := 36) (v := .ref y1) hx hb hts uX12 hown hkb hH 1 rfl rfl 1 (by decide) rfl kw_1224 (fun _ h9 => h9) dX12_isHold_3 ?_
  refine lv_iconst (v := 1) hx hb dX12_isHold_6 (by decide) ?_
  refine xa_ild hx hb hkb hH 0 rfl (by decide) (by decide) dX12_isHold_7 ?_
  refine lv_topi (fun v7 ev7 => ?_)
  have tv7 : v7 = f1 1 := by rw [ev7]; rfl
  have bv7 : 0 ≤ v7.toInt ∧ v7.toInt ≤ 14 := by rw [ev7]; exact (s_f1.at (by decide) 1).1 (by decide)
  have hv7 : v7.toInt = ((hg / 6 : Nat) : Int) := by rw [tv7, g_f1.1]; exact nI_toInt (by omega)
  refine lv_iconst (v := 1) hx hb dX12_isHold_8 (by decide) ?_
  refine lv_isub hx hb dX12_isHold_9 ?_
  refine lv_topi (fun v9 ev9 => ?_)
  have tv9 : v9.toInt = v7.toInt - (1) := by rw [ev9]; exact sub_i rfl (by decide : (1 : Int32).toInt = 1) (by omega) (by omega)
  refine lv_i2l hx hb dX12_isHold_10 rfl ?_
  refine tk_i hH hS hA (tr_S (n := 3) (As := [.long x1, .long 0, .long v9.toInt64]) hx hb hml hown hts hkb hH (ox_map hOX rfl) hks hE hS hA (s_M_within l D cs kf T (y1 :: a0 :: O) ((y1, .inl (cs.2.1, 3906, .inl f1)) :: (a0, .inr (12, o0 :: (.ref y1) :: o2 :: o3 :: o4 :: o5 :: o6 :: o7 :: o8 :: o9 :: o10 :: o11 :: o12 :: o13 :: o14 :: (.ref y15) :: (.int y16) :: tl)) :: X) x1 0 v9.toInt64  (hO.sub (by decide))) kw_1341 kw_1342 kw_13 kw_1343 (by decide +kernel) ⟨Nat.le_of_ble_eq_true rfl, Nat.le_of_ble_eq_true rfl⟩ rfl rfl hl.1 (Nat.le_of_ble_eq_true rfl) dX12_isHold_11 ⟨Nat.le_of_ble_eq_true rfl, Nat.le_of_ble_eq_true rfl⟩) (fun v11 u H locs hz9 hH hS => ?_)
  obtain ⟨rfl, l_v11, u_v11, x_v110, x_v111⟩ := hz9
  simp only [Int32.toInt_toInt64] at x_v110 x_v111
  have k9_0 : (0 : Int64).toInt = 0 := by decide
  have hH : HT D cs A T (y1 :: a0 :: O) ((y1, .inl (cs.2.1, 3906, .inl f1)) :: (a0, .inr (12, o0 :: (.ref y1) :: o2 :: o3 :: o4 :: o5 :: o6 :: o7 :: o8 :: o9 :: o10 :: o11 :: o12 :: o13 :: o14 :: (.ref y15) :: (.int y16) :: tl)) :: X) H := hH
  refine W.widen (k := 0) (n := 0) (Nat.le_of_ble_eq_true rfl) (Nat.le_of_ble_eq_true rfl) ?_
  exact te_z hx hb hr hlocks (nar01 (by omega) (by omega)) hH hS (⟨rfl, by omega, by omega, by omega⟩) dX12_isHold_14
set_option maxHeartbeats 4000000 in
set_option maxRecDepth 100000 in
theorem s_M_isGuideX (l : Launch) (D : va_G) (cs : CS) (kf : KF) (T : TF) (O : List Nat) (X : va_W) (a0 hg mq : Nat) (x1 : Int64) (f1 : Nat → Int32) (o0 : Value) (y1 : Nat) (o2 : Value) (o3 : Value) (o4 : Value) (o5 : Value) (o6 : Value) (o7 : Value) (o8 : Value) (o9 : Value) (o10 : Value) (o11 : Value) (o12 : Value) (o13 : Value) (o14 : Value) (y15 : Nat) (y16 : Int32) (tl : List Value) (t_a0 : T a0 = some (22, hg, mq)) (b_hg : hg < 90) (s_f1 : B8 3906 f1) (g_f1 : f1 1 = nI (hg / 6) ∧ f1 2 = nI (hg % 6)) (t_y1 : T y1 = some (8, 3906, hg)) (t_y15 : T y15 = some (1, 900, 0)) (hO : okO T (y1 :: a0 :: O) []) : TK l D cs kf yX12_isGuide cX12_isGuide 3 (some (.boolean)) { frames := 1, cells := 0, slots := 0, locals := 25 } [.ref a0, .long x1] T (y1 :: a0 :: O) ((y1, .inl (cs.2.1, 3906, .inl f1)) :: (a0, .inr (12, o0 :: (.ref y1) :: o2 :: o3 :: o4 :: o5 :: o6 :: o7 :: o8 :: o9 :: o10 :: o11 :: o12 :: o13 :: o14 :: (.ref y15) :: (.int y16) :: tl)) :: X) (Ti D cs (fun r u => u = (T, y1 :: a0 :: O, (y1, .inl (cs.2.1, 3906, .inl f1)) :: (a0, .inr (12, o0 :: (.ref y1) :: o2 :: o3 :: o4 :: o5 :: o6 :: o7 :: o8 :: o9 :: o10 :: o11 :: o12 :: o13 :: o14 :: (.ref y15) :: (.int y16) :: tl)) :: X) ∧ 0 ≤ r.toInt ∧ r.toInt ≤ 1 ∧ (r.toInt = 0 ∨ (0 ≤ x1.toInt ∧ x1.toInt ≤ 4)))) := by
  refine tk_of (by decide) (Nat.le_of_ble_eq_true rfl) (fun p e s m below meth c ls A H locs hx hb hr hml hown hts hlocks hnm hkb hH hS hA hOX hks hE hl => ?_)
  have hown : s.vm.findClass RX12 = some m.cls := hown
  have hl : lv_has ls 3 [(0, .ref a0), (1, .long x1)] := hl
  have hOXf := hOX
  refine lv_lload_n hx hb dX12_isGuide_0 rfl (lv_at hl 1 rfl) ?_
  refine lv_lconst (v := 0) hx hb dX12_isGuide_1 (by decide) ?_
  refine lv_aload_n hx hb dX12_isGuide_2 rfl (lv_at hl 0 rfl) ?_
  refine x_getk (ci := 12) (C := RX12) (F := TX12) (N := 36) (v := .ref y1) hx hb hts uX12 hown hkb hH 1 rfl rfl 1 (by decide) rfl kw_1224 (fun _ h9 => h9) dX12_isGuide_3 ?_
  refine lv_iconst (v := 2) hx hb dX12_isGuide_6 (by decide) ?_
  refine xa_ild hx hb hkb hH 0 rfl (by decide) (by decide) dX12_isGuide_7 ?_
  refine lv_topi (fun v7 ev7 => ?_)
  have tv7 : v7 = f1 2 := by rw [ev7]; rfl
  have bv7 : 0 ≤ v7.toInt ∧ v7.toInt ≤ 5 := by rw [ev7]; exact (s_f1.at (by decide) 2).2.1 (by decide)
  have hv7 : v7.toInt = ((hg % 6 : Nat) : Int) := by rw [tv7, g_f1.2]; exact nI_toInt (by omega)
  refine lv_iconst (v := 1) hx hb dX12_isGuide_8 (by decide) ?_
  refine lv_isub hx hb dX12_isGuide_9 ?_
  refine lv_topi (fun v9 ev9 => ?_)
  have tv9 : v9.toInt = v7.toInt - (1) := by rw [ev9]; exact sub_i rfl (by decide : (1 : Int32).toInt = 1) (by omega) (by omega)
  refine lv_i2l hx hb dX12_isGuide_10 rfl ?_
  refine tk_i hH hS hA (tr_S (n := 3) (As := [.long x1, .long 0, .long v9.toInt64]) hx hb hml hown hts hkb hH (ox_map hOX rfl) hks hE hS hA (s_M_within l D cs kf T (y1 :: a0 :: O) ((y1, .inl (cs.2.1, 3906, .inl f1)) :: (a0, .inr (12, o0 :: (.ref y1) :: o2 :: o3 :: o4 :: o5 :: o6 :: o7 :: o8 :: o9 :: o10 :: o11 :: o12 :: o13 :: o14 :: (.ref y15) :: (.int y16) :: tl)) :: X) x1 0 v9.toInt64  (hO.sub (by decide))) kw_1341 kw_1342 kw_13 kw_1343 (by decide +kernel) ⟨Nat.le_of_ble_eq_true rfl, Nat.le_of_ble_eq_true rfl⟩ rfl rfl hl.1 (Nat.le_of_ble_eq_true rfl) dX12_isGuide_11 ⟨Nat.le_of_ble_eq_true rfl, Nat.le_of_ble_eq_true rfl⟩) (fun v11 u H locs hz9 hH hS => ?_)
  obtain ⟨rfl, l_v11, u_v11, x_v110, x_v111⟩ := hz9
  simp only [Int32.toInt_toInt64] at x_v110 x_v111
  have k9_0 : (0 : Int64).toInt = 0 := by decide
  have hH : HT D cs A T (y1 :: a0 :: O) ((y1, .inl (cs.2.1, 3906, .inl f1)) :: (a0, .inr (12, o0 :: (.ref y1) :: o2 :: o3 :: o4 :: o5 :: o6 :: o7 :: o8 :: o9 :: o10 :: o11 :: o12 :: o13 :: o14 :: (.ref y15) :: (.int y16) :: tl)) :: X) H := hH
  refine W.widen (k := 0) (n := 0) (Nat.le_of_ble_eq_true rfl) (Nat.le_of_ble_eq_true rfl) ?_
  exact te_z hx hb hr hlocks (nar01 (by omega) (by omega)) hH hS (⟨rfl, by omega, by omega, by omega⟩) dX12_isGuide_14
set_option maxHeartbeats 4000000 in
set_option maxRecDepth 100000 in
theorem s_M_isThereX (l : Launch) (D : va_G) (cs : CS) (kf : KF) (T : TF) (O : List Nat) (X : va_W) (a0 hg mq : Nat) (x1 : Int32) (f1 : Nat → Int32) (o0 : Value) (y1 : Nat) (o2 : Value) (o3 : Value) (o4 : Value) (o5 : Value) (o6 : Value) (o7 : Value) (o8 : Value) (o9 : Value) (o10 : Value) (o11 : Value) (o12 : Value) (o13 : Value) (o14 : Value) (y15 : Nat) (y16 : Int32) (tl : List Value) (t_a0 : T a0 = some (22, hg, mq)) (b_hg : hg < 90) (l_x1 : 0 ≤ x1.toInt) (u_x1 : x1.toInt ≤ 13) (s_f1 : B8 3906 f1) (g_f1 : f1 1 = nI (hg / 6) ∧ f1 2 = nI (hg % 6)) (t_y1 : T y1 = some (8, 3906, hg)) (t_y15 : T y15 = some (1, 900, 0)) (hO : okO T (y1 :: a0 :: O) []) : TK l D cs kf yX12_isThere cX12_isThere 2 (some (.boolean)) { frames := 1, cells := 0, slots := 0, locals := 22 } [.ref a0, .int x1] T (y1 :: a0 :: O) ((y1, .inl (cs.2.1, 3906, .inl f1)) :: (a0, .inr (12, o0 :: (.ref y1) :: o2 :: o3 :: o4 :: o5 :: o6 :: o7 :: o8 :: o9 :: o10 :: o11 :: o12 :: o13 :: o14 :: (.ref y15) :: (.int y16) :: tl)) :: X) (Ti D cs (fun r u => u = (T, y1 :: a0 :: O, (y1, .inl (cs.2.1, 3906, .inl f1)) :: (a0, .inr (12, o0 :: (.ref y1) :: o2 :: o3 :: o4 :: o5 :: o6 :: o7 :: o8 :: o9 :: o10 :: o11 :: o12 :: o13 :: o14 :: (.ref y15) :: (.int y16) :: tl)) :: X) ∧ 0 ≤ r.toInt ∧ r.toInt ≤ 1)) := by
  refine tk_of (by decide) (Nat.le_of_ble_eq_true rfl) (fun p e s m below meth c ls A H locs hx hb hr hml hown hts hlocks hnm hkb hH hS hA hOX hks hE hl => ?_)
  have hown : s.vm.findClass RX12 = some m.cls := hown
  have hl : lv_has ls 2 [(0, .ref a0), (1, .int x1)] := hl
  have hOXf := hOX
  refine lv_aload_n hx hb dX12_isThere_0 rfl (lv_at hl 0 rfl) ?_
  refine x_getk (ci := 12) (C := RX12) (F := TX12) (N := 36) (v := .ref y1) hx hb hts uX12 hown hkb hH 1 rfl rfl 1 (by decide) rfl kw_1224 (fun _ h9 => h9) dX12_isThere_1 ?_
  refine lv_bipush (v := 87) hx hb dX12_isThere_4 (by decide) ?_
  refine xa_ild hx hb hkb hH 0 rfl (by decide) (by decide) dX12_isThere_6 ?_
  refine lv_topi (fun v6 ev6 => ?_)
  have tv6 : v6 = f1 87 := by rw [ev6]; rfl
  refine lv_i2l hx hb dX12_isThere_7 rfl ?_
  refine lv_iload_n hx hb dX12_isThere_8 rfl (lv_at hl 1 rfl) ?_
  refine tk_i hH hS hA (tr_S (n := 2) (As := [.long v6.toInt64, .int x1]) hx hb hml hown hts hkb hH (ox_map hOX rfl) hks hE hS hA (s_M_isIn2 l D cs kf T (y1 :: a0 :: O) ((y1, .inl (cs.2.1, 3906, .inl f1)) :: (a0, .inr (12, o0 :: (.ref y1) :: o2 :: o3 :: o4 :: o5 :: o6 :: o7 :: o8 :: o9 :: o10 :: o11 :: o12 :: o13 :: o14 :: (.ref y15) :: (.int y16) :: tl)) :: X) v6.toInt64 x1  (hO.sub (by decide))) kw_1440 kw_1441 kw_13 kw_1442 (by decide +kernel) ⟨Nat.le_of_ble_eq_true rfl, Nat.le_of_ble_eq_true rfl⟩ rfl rfl hl.1 (Nat.le_of_ble_eq_true rfl) dX12_isThere_9 ⟨Nat.le_of_ble_eq_true rfl, Nat.le_of_ble_eq_true rfl⟩) (fun v9 u H locs hz9 hH hS => ?_)
  obtain ⟨rfl, l_v9, u_v9, x_v90⟩ := hz9
  have hH : HT D cs A T (y1 :: a0 :: O) ((y1, .inl (cs.2.1, 3906, .inl f1)) :: (a0, .inr (12, o0 :: (.ref y1) :: o2 :: o3 :: o4 :: o5 :: o6 :: o7 :: o8 :: o9 :: o10 :: o11 :: o12 :: o13 :: o14 :: (.ref y15) :: (.int y16) :: tl)) :: X) H := hH
  refine W.widen (k := 0) (n := 0) (Nat.le_of_ble_eq_true rfl) (Nat.le_of_ble_eq_true rfl) ?_
  have J39 : ∀ (k39_0 : Int32) (H : Heap) (locs : List Loc) (ls : Array Slot), (0 ≤ k39_0.toInt) → (k39_0.toInt ≤ 1) → HT D cs A T (y1 :: a0 :: O) ((y1, .inl (cs.2.1, 3906, .inl f1)) :: (a0, .inr (12, o0 :: (.ref y1) :: o2 :: o3 :: o4 :: o5 :: o6 :: o7 :: o8 :: o9 :: o10 :: o11 :: o12 :: o13 :: o14 :: (.ref y15) :: (.int y16) :: tl)) :: X) H → va_S A s.heap H locs → lv_has ls 2 [] → W p l e { frames := 1, cells := 0, slots := 0, locals := 22 } s m [.ref a0, .int x1].toArray below meth c H locs 0 0 (MQ below (Ti D cs (fun r u => u = (T, y1 :: a0 :: O, (y1, .inl (cs.2.1, 3906, .inl f1)) :: (a0, .inr (12, o0 :: (.ref y1) :: o2 :: o3 :: o4 :: o5 :: o6 :: o7 :: o8 :: o9 :: o10 :: o11 :: o12 :: o13 :: o14 :: (.ref y15) :: (.int y16) :: tl)) :: X) ∧ 0 ≤ r.toInt ∧ r.toInt ≤ 1) A) [.ref a0, .int x1].toArray s 0 0 A) (F0 m 39 ls [.int k39_0]) := by
    intro k39_0 H locs ls l_k39_0 u_k39_0 hH hS hl
    exact te_z hx hb hr hlocks (nar01 (by omega) (by omega)) hH hS (⟨rfl, by omega, by omega⟩) dX12_isThere_39
  have J38 : ∀  (H : Heap) (locs : List Loc) (ls : Array Slot), HT D cs A T (y1 :: a0 :: O) ((y1, .inl (cs.2.1, 3906, .inl f1)) :: (a0, .inr (12, o0 :: (.ref y1) :: o2 :: o3 :: o4 :: o5 :: o6 :: o7 :: o8 :: o9 :: o10 :: o11 :: o12 :: o13 :: o14 :: (.ref y15) :: (.int y16) :: tl)) :: X) H → va_S A s.heap H locs → lv_has ls 2 [] → W p l e { frames := 1, cells := 0, slots := 0, locals := 22 } s m [.ref a0, .int x1].toArray below meth c H locs 0 0 (MQ below (Ti D cs (fun r u => u = (T, y1 :: a0 :: O, (y1, .inl (cs.2.1, 3906, .inl f1)) :: (a0, .inr (12, o0 :: (.ref y1) :: o2 :: o3 :: o4 :: o5 :: o6 :: o7 :: o8 :: o9 :: o10 :: o11 :: o12 :: o13 :: o14 :: (.ref y15) :: (.int y16) :: tl)) :: X) ∧ 0 ≤ r.toInt ∧ r.toInt ≤ 1) A) [.ref a0, .int x1].toArray s 0 0 A) (F0 m 38 ls []) := by
    intro  H locs ls  hH hS hl
    refine lv_iconst (v := 0) hx hb dX12_isThere_38 (by decide) ?_
    exact J39 0 _ _ _ (by decide) (by decide) hH hS (lv_sub hl [] rfl)
  refine lv_if_ne (tgt := 38) hx hb dX12_isThere_12 (by decide) (fun c12 => ?_) (fun c12 => ?_)
  · skip
    have tc12 := f_ne (k := 0) (by decide) c12
    exact J38  _ _ _  hH hS (lv_sub hl [] rfl)
  · skip
    have tc12 := f_eq (k := 0) (by decide) c12
    refine lv_aload_n hx hb dX12_isThere_15 rfl (lv_at hl 0 rfl) ?_
    refine x_getk (ci := 12) (C := RX12) (F := TX12) (N := 36) (v := .ref y1) hx hb hts uX12 hown hkb hH 1 rfl rfl 1 (by decide) rfl kw_1224 (fun _ h9 => h9) dX12_isThere_16 ?_
    refine lv_bipush (v := 88) hx hb dX12_isThere_19 (by decide) ?_
    refine xa_ild hx hb hkb hH 0 rfl (by decide) (by decide) dX12_isThere_21 ?_
    refine lv_topi (fun v21 ev21 => ?_)
    have tv21 : v21 = f1 88 := by rw [ev21]; rfl
    refine lv_aload_n hx hb dX12_isThere_22 rfl (lv_at hl 0 rfl) ?_
    refine x_getk (ci := 12) (C := RX12) (F := TX12) (N := 36) (v := .ref y1) hx hb hts uX12 hown hkb hH 1 rfl rfl 1 (by decide) rfl kw_1224 (fun _ h9 => h9) dX12_isThere_23 ?_
    refine lv_bipush (v := 35) hx hb dX12_isThere_26 (by decide) ?_
    refine lv_iload_n hx hb dX12_isThere_28 rfl (lv_at hl 1 rfl) ?_
    refine lv_iadd hx hb dX12_isThere_29 ?_
    refine lv_topi (fun v29 ev29 => ?_)
    have tv29 : v29.toInt = (35) + x1.toInt := by rw [ev29]; exact add_i (by decide : (35 : Int32).toInt = 35) rfl (by omega) (by omega)
    refine xa_ild hx hb hkb hH 0 rfl (by omega) (by omega) dX12_isThere_30 ?_
    refine lv_topi (fun v30 ev30 => ?_)
    have tv30 : v30 = f1 v29.toInt.toNat := ev30
    refine lv_icmp_lt (tgt := 38) hx hb dX12_isThere_31 (by decide) (fun c31 => ?_) (fun c31 => ?_)
    · skip
      have fuc31 := full_i v21
      have fvc31 := full_i v30
      have tc31 := g_lt c31
      exact J38  _ _ _  hH hS (lv_sub hl [] rfl)
    · skip
      have fuc31 := full_i v21
      have fvc31 := full_i v30
      have tc31 := g_nlt c31
      refine lv_iconst (v := 1) hx hb dX12_isThere_34 (by decide) ?_
      refine lv_goto (tgt := 39) hx hb dX12_isThere_35 (by decide) ?_
      exact J39 1 _ _ _ (by decide) (by decide) hH hS (lv_sub hl [] rfl)
set_option maxHeartbeats 4000000 in
set_option maxRecDepth 100000 in
theorem s_M_isOpenX (l : Launch) (D : va_G) (cs : CS) (kf : KF) (T : TF) (O : List Nat) (X : va_W) (a0 hg mq : Nat) (x1 : Int32) (f1 : Nat → Int32) (o0 : Value) (y1 : Nat) (o2 : Value) (o3 : Value) (o4 : Value) (o5 : Value) (o6 : Value) (o7 : Value) (o8 : Value) (o9 : Value) (o10 : Value) (o11 : Value) (o12 : Value) (o13 : Value) (o14 : Value) (y15 : Nat) (y16 : Int32) (tl : List Value) (t_a0 : T a0 = some (22, hg, mq)) (b_hg : hg < 90) (l_x1 : 0 ≤ x1.toInt) (u_x1 : x1.toInt ≤ 13) (s_f1 : B8 3906 f1) (g_f1 : f1 1 = nI (hg / 6) ∧ f1 2 = nI (hg % 6)) (t_y1 : T y1 = some (8, 3906, hg)) (t_y15 : T y15 = some (1, 900, 0)) (hO : okO T (y1 :: a0 :: O) []) : TK l D cs kf yX12_isOpen cX12_isOpen 2 (some (.boolean)) { frames := 2, cells := 0, slots := 0, locals := 43 } [.ref a0, .int x1] T (y1 :: a0 :: O) ((y1, .inl (cs.2.1, 3906, .inl f1)) :: (a0, .inr (12, o0 :: (.ref y1) :: o2 :: o3 :: o4 :: o5 :: o6 :: o7 :: o8 :: o9 :: o10 :: o11 :: o12 :: o13 :: o14 :: (.ref y15) :: (.int y16) :: tl)) :: X) (Ti D cs (fun r u => u = (T, y1 :: a0 :: O, (y1, .inl (cs.2.1, 3906, .inl f1)) :: (a0, .inr (12, o0 :: (.ref y1) :: o2 :: o3 :: o4 :: o5 :: o6 :: o7 :: o8 :: o9 :: o10 :: o11 :: o12 :: o13 :: o14 :: (.ref y15) :: (.int y16) :: tl)) :: X) ∧ 0 ≤ r.toInt ∧ r.toInt ≤ 1)) := by
  refine tk_of (by decide) (Nat.le_of_ble_eq_true rfl) (fun p e s m below meth c ls A H locs hx hb hr hml hown hts hlocks hnm hkb hH hS hA hOX hks hE hl => ?_)
  have hown : s.vm.findClass RX12 = some m.cls := hown
  have hl : lv_has ls 2 [(0, .ref a0), (1, .int x1)] := hl
  have hOXf := hOX
  refine lv_aload_n hx hb dX12_isOpen_0 rfl (lv_at hl 0 rfl) ?_
  refine lv_iload_n hx hb dX12_isOpen_1 rfl (lv_at hl 1 rfl) ?_
  refine tk_i hH hS hA (tr_V (n := 1) (As := [.int x1]) hx hb hml hown hts hkb hH (ox_map hOX rfl) hks hE hS hA (s_M_isThereX l D cs kf T O X a0 hg mq x1 f1 o0 y1 o2 o3 o4 o5 o6 o7 o8 o9 o10 o11 o12 o13 o14 y15 y16 tl t_a0 b_hg (by omega) (by omega) s_f1 g_f1 t_y1 t_y15 (hO.sub (by decide))) kw_1458 kw_1460 ks_65 kw_13 kw_1461 (by decide +kernel) ⟨Nat.le_of_ble_eq_true rfl, Nat.le_of_ble_eq_true rfl⟩ (x_recv (ci := 12) hkb hH 1 rfl rfl) rfl rfl hl.1 (Nat.le_of_ble_eq_true rfl) dX12_isOpen_2 ⟨Nat.le_of_ble_eq_true rfl, Nat.le_of_ble_eq_true rfl⟩) (fun v2 u H locs hz9 hH hS => ?_)
  obtain ⟨rfl, l_v2, u_v2⟩ := hz9
  have hH : HT D cs A T (y1 :: a0 :: O) ((y1, .inl (cs.2.1, 3906, .inl f1)) :: (a0, .inr (12, o0 :: (.ref y1) :: o2 :: o3 :: o4 :: o5 :: o6 :: o7 :: o8 :: o9 :: o10 :: o11 :: o12 :: o13 :: o14 :: (.ref y15) :: (.int y16) :: tl)) :: X) H := hH
  refine W.widen (k := 0) (n := 0) (Nat.le_of_ble_eq_true rfl) (Nat.le_of_ble_eq_true rfl) ?_
  have J26 : ∀ (k26_0 : Int32) (H : Heap) (locs : List Loc) (ls : Array Slot), (0 ≤ k26_0.toInt) → (k26_0.toInt ≤ 1) → HT D cs A T (y1 :: a0 :: O) ((y1, .inl (cs.2.1, 3906, .inl f1)) :: (a0, .inr (12, o0 :: (.ref y1) :: o2 :: o3 :: o4 :: o5 :: o6 :: o7 :: o8 :: o9 :: o10 :: o11 :: o12 :: o13 :: o14 :: (.ref y15) :: (.int y16) :: tl)) :: X) H → va_S A s.heap H locs → lv_has ls 2 [] → W p l e { frames := 2, cells := 0, slots := 0, locals := 43 } s m [.ref a0, .int x1].toArray below meth c H locs 0 0 (MQ below (Ti D cs (fun r u => u = (T, y1 :: a0 :: O, (y1, .inl (cs.2.1, 3906, .inl f1)) :: (a0, .inr (12, o0 :: (.ref y1) :: o2 :: o3 :: o4 :: o5 :: o6 :: o7 :: o8 :: o9 :: o10 :: o11 :: o12 :: o13 :: o14 :: (.ref y15) :: (.int y16) :: tl)) :: X) ∧ 0 ≤ r.toInt ∧ r.toInt ≤ 1) A) [.ref a0, .int x1].toArray s 0 0 A) (F0 m 26 ls [.int k26_0]) := by
    intro k26_0 H locs ls l_k26_0 u_k26_0 hH hS hl
    exact te_z hx hb hr hlocks (nar01 (by omega) (by omega)) hH hS (⟨rfl, by omega, by omega⟩) dX12_isOpen_26
  have J25 : ∀  (H : Heap) (locs : List Loc) (ls : Array Slot), HT D cs A T (y1 :: a0 :: O) ((y1, .inl (cs.2.1, 3906, .inl f1)) :: (a0, .inr (12, o0 :: (.ref y1) :: o2 :: o3 :: o4 :: o5 :: o6 :: o7 :: o8 :: o9 :: o10 :: o11 :: o12 :: o13 :: o14 :: (.ref y15) :: (.int y16) :: tl)) :: X) H → va_S A s.heap H locs → lv_has ls 2 [] → W p l e { frames := 2, cells := 0, slots := 0, locals := 43 } s m [.ref a0, .int x1].toArray below meth c H locs 0 0 (MQ below (Ti D cs (fun r u => u = (T, y1 :: a0 :: O, (y1, .inl (cs.2.1, 3906, .inl f1)) :: (a0, .inr (12, o0 :: (.ref y1) :: o2 :: o3 :: o4 :: o5 :: o6 :: o7 :: o8 :: o9 :: o10 :: o11 :: o12 :: o13 :: o14 :: (.ref y15) :: (.int y16) :: tl)) :: X) ∧ 0 ≤ r.toInt ∧ r.toInt ≤ 1) A) [.ref a0, .int x1].toArray s 0 0 A) (F0 m 25 ls []) := by
    intro  H locs ls  hH hS hl
    refine lv_iconst (v := 0) hx hb dX12_isOpen_25 (by decide) ?_
    exact J26 0 _ _ _ (by decide) (by decide) hH hS (lv_sub hl [] rfl)
  refine lv_if_eq (tgt := 25) hx hb dX12_isOpen_5 (by decide) (fun c5 => ?_) (fun c5 => ?_)
  · skip
    have tc5 := f_eq (k := 0) (by decide) c5
    exact J25  _ _ _  hH hS (lv_sub hl [] rfl)
  · skip
    have tc5 := f_ne (k := 0) (by decide) c5
    refine lv_aload_n hx hb dX12_isOpen_8 rfl (lv_at hl 0 rfl) ?_
    refine x_getk (ci := 12) (C := RX12) (F := TX12) (N := 36) (v := .ref y1) hx hb hts uX12 hown hkb hH 1 rfl rfl 1 (by decide) rfl kw_1224 (fun _ h9 => h9) dX12_isOpen_9 ?_
    refine lv_bipush (v := 59) hx hb dX12_isOpen_12 (by decide) ?_
    refine lv_iload_n hx hb dX12_isOpen_14 rfl (lv_at hl 1 rfl) ?_
    refine lv_iadd hx hb dX12_isOpen_15 ?_
    refine lv_topi (fun v15 ev15 => ?_)
    have tv15 : v15.toInt = (59) + x1.toInt := by rw [ev15]; exact add_i (by decide : (59 : Int32).toInt = 59) rfl (by omega) (by omega)
    refine xa_ild hx hb hkb hH 0 rfl (by omega) (by omega) dX12_isOpen_16 ?_
    refine lv_topi (fun v16 ev16 => ?_)
    have tv16 : v16 = f1 v15.toInt.toNat := ev16
    refine lv_iconst (v := (-1)) hx hb dX12_isOpen_17 (by decide) ?_
    refine lv_icmp_ne (tgt := 25) hx hb dX12_isOpen_18 (by decide) (fun c18 => ?_) (fun c18 => ?_)
    · skip
      have tc18 := f_ne (k := -1) (by decide) c18
      exact J25  _ _ _  hH hS (lv_sub hl [] rfl)
    · skip
      have tc18 := f_eq (k := -1) (by decide) c18
      refine lv_iconst (v := 1) hx hb dX12_isOpen_21 (by decide) ?_
      refine lv_goto (tgt := 26) hx hb dX12_isOpen_22 (by decide) ?_
      exact J26 1 _ _ _ (by decide) (by decide) hH hS (lv_sub hl [] rfl)
set_option maxHeartbeats 4000000 in
set_option maxRecDepth 100000 in
theorem s_M_endsX (l : Launch) (D : va_G) (cs : CS) (kf : KF) (T : TF) (O : List Nat) (X : va_W) (a0 hg mq : Nat) (f1 : Nat → Int32) (o0 : Value) (y1 : Nat) (o2 : Value) (o3 : Value) (o4 : Value) (o5 : Value) (o6 : Value) (o7 : Value) (o8 : Value) (o9 : Value) (o10 : Value) (o11 : Value) (o12 : Value) (o13 : Value) (o14 : Value) (y15 : Nat) (y16 : Int32) (tl : List Value) (t_a0 : T a0 = some (22, hg, mq)) (b_hg : hg < 90) (s_f1 : B8 3906 f1) (g_f1 : f1 1 = nI (hg / 6) ∧ f1 2 = nI (hg % 6)) (t_y1 : T y1 = some (8, 3906, hg)) (t_y15 : T y15 = some (1, 900, 0)) (hO : okO T (y1 :: a0 :: O) []) : TK l D cs kf yX12_ends cX12_ends 1 (some (.int)) { frames := 0, cells := 0, slots := 0, locals := 0 } [.ref a0] T (y1 :: a0 :: O) ((y1, .inl (cs.2.1, 3906, .inl f1)) :: (a0, .inr (12, o0 :: (.ref y1) :: o2 :: o3 :: o4 :: o5 :: o6 :: o7 :: o8 :: o9 :: o10 :: o11 :: o12 :: o13 :: o14 :: (.ref y15) :: (.int y16) :: tl)) :: X) (Ti D cs (fun r u => u = (T, y1 :: a0 :: O, (y1, .inl (cs.2.1, 3906, .inl f1)) :: (a0, .inr (12, o0 :: (.ref y1) :: o2 :: o3 :: o4 :: o5 :: o6 :: o7 :: o8 :: o9 :: o10 :: o11 :: o12 :: o13 :: o14 :: (.ref y15) :: (.int y16) :: tl)) :: X) ∧ 0 ≤ r.toInt ∧ r.toInt ≤ 16383)) := by
  refine tk_of (by decide) (Nat.le_of_ble_eq_true rfl) (fun p e s m below meth c ls A H locs hx hb hr hml hown hts hlocks hnm hkb hH hS hA hOX hks hE hl => ?_)
  have hown : s.vm.findClass RX12 = some m.cls := hown
  have hl : lv_has ls 1 [(0, .ref a0)] := hl
  have hOXf := hOX
  refine lv_aload_n hx hb dX12_ends_0 rfl (lv_at hl 0 rfl) ?_
  refine x_getk (ci := 12) (C := RX12) (F := TX12) (N := 36) (v := .ref y1) hx hb hts uX12 hown hkb hH 1 rfl rfl 1 (by decide) rfl kw_1224 (fun _ h9 => h9) dX12_ends_1 ?_
  refine lv_iconst (v := 4) hx hb dX12_ends_4 (by decide) ?_
  refine xa_ild hx hb hkb hH 0 rfl (by decide) (by decide) dX12_ends_5 ?_
  refine lv_topi (fun v5 ev5 => ?_)
  have tv5 : v5 = f1 4 := by rw [ev5]; rfl
  have bv5 : 0 ≤ v5.toInt ∧ v5.toInt ≤ 16383 := by rw [ev5]; exact (s_f1.at (by decide) 4).2.2.1 (by decide)
  refine lv_aload_n hx hb dX12_ends_6 rfl (lv_at hl 0 rfl) ?_
  refine x_getk (ci := 12) (C := RX12) (F := TX12) (N := 36) (v := .ref y1) hx hb hts uX12 hown hkb hH 1 rfl rfl 1 (by decide) rfl kw_1224 (fun _ h9 => h9) dX12_ends_7 ?_
  refine lv_iconst (v := 5) hx hb dX12_ends_10 (by decide) ?_
  refine xa_ild hx hb hkb hH 0 rfl (by decide) (by decide) dX12_ends_11 ?_
  refine lv_topi (fun v11 ev11 => ?_)
  have tv11 : v11 = f1 5 := by rw [ev11]; rfl
  have bv11 : 0 ≤ v11.toInt ∧ v11.toInt ≤ 16383 := by rw [ev11]; exact (s_f1.at (by decide) 5).2.2.2.1 (by decide)
  refine lv_ior hx hb dX12_ends_12 ?_
  refine lv_topi (fun v12 ev12 => ?_)
  have tv12 : 0 ≤ v12.toInt ∧ v12.toInt < 16384 := by rw [ev12]; exact or_b 14 (by decide) (by omega) (by omega) (by omega) (by omega)
  exact te_i hx hb hr hlocks hH hS (⟨rfl, by omega, by omega⟩) dX12_ends_13
set_option maxHeartbeats 4000000 in
set_option maxRecDepth 100000 in
theorem s_M_mayStepX (l : Launch) (D : va_G) (cs : CS) (kf : KF) (T : TF) (O : List Nat) (X : va_W) (a0 hg mq : Nat) (x1 : Int32) (x2 : Int32) (x3 : Int32) (f1 : Nat → Int32) (o0 : Value) (y1 : Nat) (o2 : Value) (o3 : Value) (o4 : Value) (o5 : Value) (o6 : Value) (o7 : Value) (o8 : Value) (o9 : Value) (o10 : Value) (o11 : Value) (o12 : Value) (o13 : Value) (o14 : Value) (y15 : Nat) (y16 : Int32) (tl : List Value) (t_a0 : T a0 = some (22, hg, mq)) (b_hg : hg < 90) (l_x1 : 0 ≤ x1.toInt) (u_x1 : x1.toInt ≤ 4) (l_x2 : 0 ≤ x2.toInt) (u_x2 : x2.toInt ≤ 13) (l_x3 : 0 ≤ x3.toInt) (u_x3 : x3.toInt ≤ 13) (s_f1 : B8 3906 f1) (g_f1 : f1 1 = nI (hg / 6) ∧ f1 2 = nI (hg % 6)) (t_y1 : T y1 = some (8, 3906, hg)) (t_y15 : T y15 = some (1, 900, 0)) (hO : okO T (y1 :: a0 :: O) [1]) : TK l D cs kf yX12_mayStep cX12_mayStep 7 (some (.boolean)) { frames := 2, cells := 0, slots := 0, locals := 48 } [.ref a0, .int x1, .int x2, .int x3] T (y1 :: a0 :: O) ((y1, .inl (cs.2.1, 3906, .inl f1)) :: (a0, .inr (12, o0 :: (.ref y1) :: o2 :: o3 :: o4 :: o5 :: o6 :: o7 :: o8 :: o9 :: o10 :: o11 :: o12 :: o13 :: o14 :: (.ref y15) :: (.int y16) :: tl)) :: X) (Ti D cs (fun r u => u = (T, y1 :: a0 :: O, (y1, .inl (cs.2.1, 3906, .inl f1)) :: (a0, .inr (12, o0 :: (.ref y1) :: o2 :: o3 :: o4 :: o5 :: o6 :: o7 :: o8 :: o9 :: o10 :: o11 :: o12 :: o13 :: o14 :: (.ref y15) :: (.int y16) :: tl)) :: X) ∧ 0 ≤ r.toInt ∧ r.toInt ≤ 1)) := by
  refine tk_of (by decide) (Nat.le_of_ble_eq_true rfl) (fun p e s m below meth c ls A H locs hx hb hr hml hown hts hlocks hnm hkb hH hS hA hOX hks hE hl => ?_)
  have hown : s.vm.findClass RX12 = some m.cls := hown
  have hl : lv_has ls 7 [(0, .ref a0), (1, .int x1), (2, .int x2), (3, .int x3)] := hl
  have hOXf := hOX
  refine lv_aload_n hx hb dX12_mayStep_0 rfl (lv_at hl 0 rfl) ?_
  refine x_getk (ci := 12) (C := RX12) (F := TX12) (N := 36) (v := .ref y1) hx hb hts uX12 hown hkb hH 1 rfl rfl 1 (by decide) rfl kw_1224 (fun _ h9 => h9) dX12_mayStep_1 ?_
  refine lv_iconst (v := 3) hx hb dX12_mayStep_4 (by decide) ?_
  refine xa_ild hx hb hkb hH 0 rfl (by decide) (by decide) dX12_mayStep_5 ?_
  refine lv_topi (fun v5 ev5 => ?_)
  have tv5 : v5 = f1 3 := by rw [ev5]; rfl
  refine lv_if_ne (tgt := 30) hx hb dX12_mayStep_6 (by decide) (fun c6 => ?_) (fun c6 => ?_)
  · skip
    have tc6 := f_ne (k := 0) (by decide) c6
    refine lv_iconst (v := 0) hx hb dX12_mayStep_30 (by decide) ?_
    refine lv_istore (lv' := [(4, .int 0), (0, .ref a0), (1, .int x1), (2, .int x2), (3, .int x3)]) hx hb dX12_mayStep_31 hl (by decide) rfl (fun ls hl => ?_)
    refine lv_iconst (v := 0) hx hb dX12_mayStep_33 (by decide) ?_
    have J36 : ∀ (n : Nat) (p36_5 : Int32) (p36_4 : Int32) (H : Heap) (locs : List Loc) (ls : Array Slot), (900 - p36_5.toInt).toNat = n → (0 ≤ p36_5.toInt) → (p36_5.toInt ≤ 900) → (0 ≤ p36_4.toInt) → (p36_4.toInt ≤ 900) → (p36_4.toInt = dpn f1 p36_5.toInt.toNat) → HT D cs A T (y1 :: a0 :: O) ((y1, .inl (cs.2.1, 3906, .inl f1)) :: (a0, .inr (12, o0 :: (.ref y1) :: o2 :: o3 :: o4 :: o5 :: o6 :: o7 :: o8 :: o9 :: o10 :: o11 :: o12 :: o13 :: o14 :: (.ref y15) :: (.int y16) :: tl)) :: X) H → va_S A s.heap H locs → lv_has ls 7 [(5, .int p36_5), (4, .int p36_4), (0, .ref a0), (1, .int x1), (2, .int x2), (3, .int x3)] → W p l e { frames := 2, cells := 0, slots := 0, locals := 48 } s m [.ref a0, .int x1, .int x2, .int x3].toArray below meth c H locs 0 0 (MQ below (Ti D cs (fun r u => u = (T, y1 :: a0 :: O, (y1, .inl (cs.2.1, 3906, .inl f1)) :: (a0, .inr (12, o0 :: (.ref y1) :: o2 :: o3 :: o4 :: o5 :: o6 :: o7 :: o8 :: o9 :: o10 :: o11 :: o12 :: o13 :: o14 :: (.ref y15) :: (.int y16) :: tl)) :: X) ∧ 0 ≤ r.toInt ∧ r.toInt ≤ 1) A) [.ref a0, .int x1, .int x2, .int x3].toArray s 0 0 A) (F0 m 36 ls []) := by
      intro n
      induction n using Nat.strongRecOn with
      | _ n ih36 =>
        intro p36_5 p36_4 H locs ls hm36 l_p36_5 u_p36_5 l_p36_4 u_p36_4 i36 hH hS hl
        refine lv_iload hx hb dX12_mayStep_36 (lv_at hl 0 rfl) ?_
        refine lv_aload_n hx hb dX12_mayStep_38 rfl (lv_at hl 2 rfl) ?_
        refine x_getk (ci := 12) (C := RX12) (F := TX12) (N := 36) (v := .ref y1) hx hb hts uX12 hown hkb hH 1 rfl rfl 1 (by decide) rfl kw_1224 (fun _ h9 => h9) dX12_mayStep_39 ?_
        refine lv_sipush (v := 401) hx hb dX12_mayStep_42 (by decide) ?_
        refine xa_ild hx hb hkb hH 0 rfl (by decide) (by decide) dX12_mayStep_45 ?_
        refine lv_topi (fun v45 ev45 => ?_)
        have tv45 : v45 = f1 401 := by rw [ev45]; rfl
        have bv45 : 0 ≤ v45.toInt ∧ v45.toInt ≤ 900 := by rw [ev45]; exact (s_f1.at (by decide) 401).2.2.2.2.2.2 (by decide)
        refine lv_icmp_ge (tgt := 179) hx hb dX12_mayStep_46 (by decide) (fun c46 => ?_) (fun c46 => ?_)
        · skip
          have fuc46 := full_i p36_5
          have fvc46 := full_i v45
          have tc46 := g_le c46
          refine lv_aload_n hx hb dX12_mayStep_179 rfl (lv_at hl 2 rfl) ?_
          refine x_getk (ci := 12) (C := RX12) (F := TX12) (N := 36) (v := .ref y15) hx hb hts uX12 hown hkb hH 1 rfl rfl 15 (by decide) rfl kw_1238 (fun _ h9 => h9) dX12_mayStep_180 ?_
          refine lv_iconst (v := 0) hx hb dX12_mayStep_183 (by decide) ?_
          refine t_ild hx hb hkb hH t_y15 (hO.no t_y15 (by decide)) (by decide) (by decide) dX12_mayStep_184 (fun v184 h9 => ?_)
          refine lv_iconst (v := 1) hx hb dX12_mayStep_185 (by decide) ?_
          have J194 : ∀ (k194_0 : Int32) (H : Heap) (locs : List Loc) (ls : Array Slot), (0 ≤ k194_0.toInt) → (k194_0.toInt ≤ 1) → HT D cs A T (y1 :: a0 :: O) ((y1, .inl (cs.2.1, 3906, .inl f1)) :: (a0, .inr (12, o0 :: (.ref y1) :: o2 :: o3 :: o4 :: o5 :: o6 :: o7 :: o8 :: o9 :: o10 :: o11 :: o12 :: o13 :: o14 :: (.ref y15) :: (.int y16) :: tl)) :: X) H → va_S A s.heap H locs → lv_has ls 7 [] → W p l e { frames := 2, cells := 0, slots := 0, locals := 48 } s m [.ref a0, .int x1, .int x2, .int x3].toArray below meth c H locs 0 0 (MQ below (Ti D cs (fun r u => u = (T, y1 :: a0 :: O, (y1, .inl (cs.2.1, 3906, .inl f1)) :: (a0, .inr (12, o0 :: (.ref y1) :: o2 :: o3 :: o4 :: o5 :: o6 :: o7 :: o8 :: o9 :: o10 :: o11 :: o12 :: o13 :: o14 :: (.ref y15) :: (.int y16) :: tl)) :: X) ∧ 0 ≤ r.toInt ∧ r.toInt ≤ 1) A) [.ref a0, .int x1, .int x2, .int x3].toArray s 0 0 A) (F0 m 194 ls [.int k194_0]) := by
            intro k194_0 H locs ls l_k194_0 u_k194_0 hH hS hl
            exact te_z hx hb hr hlocks (nar01 (by omega) (by omega)) hH hS (⟨rfl, by omega, by omega⟩) dX12_mayStep_194
          refine lv_icmp_ne (tgt := 193) hx hb dX12_mayStep_186 (by decide) (fun c186 => ?_) (fun c186 => ?_)
          · skip
            have tc186 := f_ne (k := 1) (by decide) c186
            refine lv_iconst (v := 0) hx hb dX12_mayStep_193 (by decide) ?_
            exact J194 0 _ _ _ (by decide) (by decide) hH hS (lv_sub hl [] rfl)
          · skip
            have tc186 := f_eq (k := 1) (by decide) c186
            refine lv_iconst (v := 1) hx hb dX12_mayStep_189 (by decide) ?_
            refine lv_goto (tgt := 194) hx hb dX12_mayStep_190 (by decide) ?_
            exact J194 1 _ _ _ (by decide) (by decide) hH hS (lv_sub hl [] rfl)
        · skip
          have fuc46 := full_i p36_5
          have fvc46 := full_i v45
          have tc46 := g_nle c46
          refine lv_aload_n hx hb dX12_mayStep_49 rfl (lv_at hl 2 rfl) ?_
          refine x_getk (ci := 12) (C := RX12) (F := TX12) (N := 36) (v := .ref y1) hx hb hts uX12 hown hkb hH 1 rfl rfl 1 (by decide) rfl kw_1224 (fun _ h9 => h9) dX12_mayStep_50 ?_
          refine lv_sipush (v := 402) hx hb dX12_mayStep_53 (by decide) ?_
          refine lv_iload hx hb dX12_mayStep_56 (lv_at hl 0 rfl) ?_
          refine lv_iadd hx hb dX12_mayStep_58 ?_
          refine lv_topi (fun v58 ev58 => ?_)
          have tv58 : v58.toInt = (402) + p36_5.toInt := by rw [ev58]; exact add_i (by decide : (402 : Int32).toInt = 402) rfl (by omega) (by omega)
          refine xa_ild hx hb hkb hH 0 rfl (by omega) (by omega) dX12_mayStep_59 ?_
          refine lv_topi (fun v59 ev59 => ?_)
          have tv59 : v59 = f1 v58.toInt.toNat := ev59
          refine lv_istore (lv' := [(6, .int v59), (5, .int p36_5), (4, .int p36_4), (0, .ref a0), (1, .int x1), (2, .int x2), (3, .int x3)]) hx hb dX12_mayStep_60 hl (by decide) rfl (fun ls hl => ?_)
          have hc59 : v59 = f1 (402 + p36_5.toInt.toNat) := by rw [tv59, show v58.toInt.toNat = 402 + p36_5.toInt.toNat by omega]
          have hw9 := dpn_at s_f1.first (by omega) tv45 (by omega) hc59
          refine lv_iload hx hb dX12_mayStep_62 (lv_at hl 0 rfl) ?_
          refine lv_sipush (v := 3000) hx hb dX12_mayStep_64 (by decide) ?_
          refine lv_icmp_ge (tgt := 109) hx hb dX12_mayStep_67 (by decide) (fun c67 => ?_) (fun c67 => ?_)
          · skip
            have tc67 := f_ge (k := 3000) (by decide) c67
            refine lv_iload hx hb dX12_mayStep_109 (lv_at hl 0 rfl) ?_
            refine lv_sipush (v := 3008) hx hb dX12_mayStep_111 (by decide) ?_
            refine lv_icmp_ne (tgt := 140) hx hb dX12_mayStep_114 (by decide) (fun c114 => ?_) (fun c114 => ?_)
            · skip
              have tc114 := f_ne (k := 3008) (by decide) c114
              obtain ⟨v140, ev140⟩ : ∃ y : Int32, y = p36_4 + (-1) := ⟨_, rfl⟩
              have tv140 : v140.toInt = p36_4.toInt + (-1) := by rw [ev140]; exact add_i rfl (by decide) (by omega) (by omega)
              refine lv_iinc (v := v140) (lv' := [(4, .int v140), (6, .int v59), (5, .int p36_5), (0, .ref a0), (1, .int x1), (2, .int x2), (3, .int x3)]) hx hb dX12_mayStep_140 hl (k := 2) rfl (by rw [ev140]; rfl) (by decide) rfl (fun ls hl => ?_)
              refine lv_aload_n hx hb dX12_mayStep_143 rfl (lv_at hl 3 rfl) ?_
              refine x_getk (ci := 12) (C := RX12) (F := TX12) (N := 36) (v := .ref y15) hx hb hts uX12 hown hkb hH 1 rfl rfl 15 (by decide) rfl kw_1238 (fun _ h9 => h9) dX12_mayStep_144 ?_
              refine lv_iload hx hb dX12_mayStep_147 (lv_at hl 0 rfl) ?_
              refine lv_iconst (v := 1) hx hb dX12_mayStep_149 (by decide) ?_
              refine lv_isub hx hb dX12_mayStep_150 ?_
              refine lv_topi (fun v150 ev150 => ?_)
              have tv150 : v150.toInt = v140.toInt - (1) := by rw [ev150]; exact sub_i rfl (by decide : (1 : Int32).toInt = 1) (by omega) (by omega)
              refine lv_iload hx hb dX12_mayStep_151 (lv_at hl 1 rfl) ?_
              refine lv_aload_n hx hb dX12_mayStep_153 rfl (lv_at hl 3 rfl) ?_
              refine x_getk (ci := 12) (C := RX12) (F := TX12) (N := 36) (v := .ref y15) hx hb hts uX12 hown hkb hH 1 rfl rfl 15 (by decide) rfl kw_1238 (fun _ h9 => h9) dX12_mayStep_154 ?_
              refine lv_iload hx hb dX12_mayStep_157 (lv_at hl 0 rfl) ?_
              refine lv_iconst (v := 1) hx hb dX12_mayStep_159 (by decide) ?_
              refine lv_isub hx hb dX12_mayStep_160 ?_
              refine lv_topi (fun v160 ev160 => ?_)
              have tv160 : v160.toInt = v140.toInt - (1) := by rw [ev160]; exact sub_i rfl (by decide : (1 : Int32).toInt = 1) (by omega) (by omega)
              refine t_ild hx hb hkb hH t_y15 (hO.no t_y15 (by decide)) (by omega) (by omega) dX12_mayStep_161 (fun v161 h9 => ?_)
              refine lv_aload_n hx hb dX12_mayStep_162 rfl (lv_at hl 3 rfl) ?_
              refine x_getk (ci := 12) (C := RX12) (F := TX12) (N := 36) (v := .ref y15) hx hb hts uX12 hown hkb hH 1 rfl rfl 15 (by decide) rfl kw_1238 (fun _ h9 => h9) dX12_mayStep_163 ?_
              refine lv_iload hx hb dX12_mayStep_166 (lv_at hl 0 rfl) ?_
              refine t_ild hx hb hkb hH t_y15 (hO.no t_y15 (by decide)) (by omega) (by omega) dX12_mayStep_168 (fun v168 h9 => ?_)
              refine tk_i hH hS hA (tr_S (n := 3) (As := [.int v59, .int v161, .int v168]) hx hb hml hown hts hkb hH (ox_map hOX rfl) hks hE hS hA (s_M_between l D cs kf T (y1 :: a0 :: O) ((y1, .inl (cs.2.1, 3906, .inl f1)) :: (a0, .inr (12, o0 :: (.ref y1) :: o2 :: o3 :: o4 :: o5 :: o6 :: o7 :: o8 :: o9 :: o10 :: o11 :: o12 :: o13 :: o14 :: (.ref y15) :: (.int y16) :: tl)) :: X) v59 v161 v168  (hO.sub (by decide))) kw_1493 kw_1494 kw_13 kw_1495 (by decide +kernel) ⟨Nat.le_of_ble_eq_true rfl, Nat.le_of_ble_eq_true rfl⟩ rfl rfl hl.1 (Nat.le_of_ble_eq_true rfl) dX12_mayStep_169 ⟨Nat.le_of_ble_eq_true rfl, Nat.le_of_ble_eq_true rfl⟩) (fun v169 u H locs hz9 hH hS => ?_)
              have hz9 : u = (T, y1 :: a0 :: O, (y1, .inl (cs.2.1, 3906, .inl f1)) :: (a0, .inr (12, o0 :: (.ref y1) :: o2 :: o3 :: o4 :: o5 :: o6 :: o7 :: o8 :: o9 :: o10 :: o11 :: o12 :: o13 :: o14 :: (.ref y15) :: (.int y16) :: tl)) :: X) := hz9
              subst hz9
              have hH : HT D cs A T (y1 :: a0 :: O) ((y1, .inl (cs.2.1, 3906, .inl f1)) :: (a0, .inr (12, o0 :: (.ref y1) :: o2 :: o3 :: o4 :: o5 :: o6 :: o7 :: o8 :: o9 :: o10 :: o11 :: o12 :: o13 :: o14 :: (.ref y15) :: (.int y16) :: tl)) :: X) H := hH
              refine W.widen (k := 0) (n := 0) (Nat.le_of_ble_eq_true rfl) (Nat.le_of_ble_eq_true rfl) ?_
              refine t_ist hx hb hkb hH hS t_y15 (hO.no t_y15 (by decide)) (by omega) (by omega) (cp_0 _) dX12_mayStep_172 (fun H locs hH hS => ?_)
              obtain ⟨v173, ev173⟩ : ∃ y : Int32, y = p36_5 + 1 := ⟨_, rfl⟩
              have tv173 : v173.toInt = p36_5.toInt + (1) := by rw [ev173]; exact add_i rfl (by decide) (by omega) (by omega)
              refine lv_iinc (v := v173) (lv' := [(5, .int v173), (4, .int v140), (6, .int v59), (0, .ref a0), (1, .int x1), (2, .int x2), (3, .int x3)]) hx hb dX12_mayStep_173 hl (k := 2) rfl (by rw [ev173]; rfl) (by decide) rfl (fun ls hl => ?_)
              have hd9 := dpn_step (by omega) tv173 hc59
              refine lv_goto (tgt := 36) hx hb dX12_mayStep_176 (by decide) ?_
              exact ih36 _ (by omega) v173 v140 _ _ _ rfl (by omega) (by omega) (by omega) (by omega) (by first | omega | rfl) hH hS (lv_sub hl [0, 1, 3, 4, 5, 6] rfl)
            · skip
              have tc114 := f_eq (k := 3008) (by decide) c114
              refine lv_aload_n hx hb dX12_mayStep_117 rfl (lv_at hl 3 rfl) ?_
              refine x_getk (ci := 12) (C := RX12) (F := TX12) (N := 36) (v := .ref y15) hx hb hts uX12 hown hkb hH 1 rfl rfl 15 (by decide) rfl kw_1238 (fun _ h9 => h9) dX12_mayStep_118 ?_
              refine lv_iload hx hb dX12_mayStep_121 (lv_at hl 2 rfl) ?_
              refine lv_iconst (v := 1) hx hb dX12_mayStep_123 (by decide) ?_
              refine lv_isub hx hb dX12_mayStep_124 ?_
              refine lv_topi (fun v124 ev124 => ?_)
              have tv124 : v124.toInt = p36_4.toInt - (1) := by rw [ev124]; exact sub_i rfl (by decide : (1 : Int32).toInt = 1) (by omega) (by omega)
              refine lv_iconst (v := 1) hx hb dX12_mayStep_125 (by decide) ?_
              refine lv_aload_n hx hb dX12_mayStep_126 rfl (lv_at hl 3 rfl) ?_
              refine x_getk (ci := 12) (C := RX12) (F := TX12) (N := 36) (v := .ref y15) hx hb hts uX12 hown hkb hH 1 rfl rfl 15 (by decide) rfl kw_1238 (fun _ h9 => h9) dX12_mayStep_127 ?_
              refine lv_iload hx hb dX12_mayStep_130 (lv_at hl 2 rfl) ?_
              refine lv_iconst (v := 1) hx hb dX12_mayStep_132 (by decide) ?_
              refine lv_isub hx hb dX12_mayStep_133 ?_
              refine lv_topi (fun v133 ev133 => ?_)
              have tv133 : v133.toInt = p36_4.toInt - (1) := by rw [ev133]; exact sub_i rfl (by decide : (1 : Int32).toInt = 1) (by omega) (by omega)
              refine t_ild hx hb hkb hH t_y15 (hO.no t_y15 (by decide)) (by omega) (by omega) dX12_mayStep_134 (fun v134 h9 => ?_)
              refine lv_isub hx hb dX12_mayStep_135 ?_
              refine lv_topi (fun v135 ev135 => ?_)
              refine t_ist hx hb hkb hH hS t_y15 (hO.no t_y15 (by decide)) (by omega) (by omega) (cp_0 _) dX12_mayStep_136 (fun H locs hH hS => ?_)
              refine lv_goto (tgt := 173) hx hb dX12_mayStep_137 (by decide) ?_
              obtain ⟨v173, ev173⟩ : ∃ y : Int32, y = p36_5 + 1 := ⟨_, rfl⟩
              have tv173 : v173.toInt = p36_5.toInt + (1) := by rw [ev173]; exact add_i rfl (by decide) (by omega) (by omega)
              refine lv_iinc (v := v173) (lv' := [(5, .int v173), (6, .int v59), (4, .int p36_4), (0, .ref a0), (1, .int x1), (2, .int x2), (3, .int x3)]) hx hb dX12_mayStep_173 hl (k := 1) rfl (by rw [ev173]; rfl) (by decide) rfl (fun ls hl => ?_)
              have hd9 := dpn_step (by omega) tv173 hc59
              refine lv_goto (tgt := 36) hx hb dX12_mayStep_176 (by decide) ?_
              exact ih36 _ (by omega) v173 p36_4 _ _ _ rfl (by omega) (by omega) (by omega) (by omega) (by first | omega | rfl) hH hS (lv_sub hl [0, 2, 3, 4, 5, 6] rfl)
          · skip
            have tc67 := f_nge (k := 3000) (by decide) c67
            refine lv_aload_n hx hb dX12_mayStep_70 rfl (lv_at hl 3 rfl) ?_
            refine x_getk (ci := 12) (C := RX12) (F := TX12) (N := 36) (v := .ref y15) hx hb hts uX12 hown hkb hH 1 rfl rfl 15 (by decide) rfl kw_1238 (fun _ h9 => h9) dX12_mayStep_71 ?_
            refine lv_iload hx hb dX12_mayStep_74 (lv_at hl 2 rfl) ?_
            refine lv_iload hx hb dX12_mayStep_76 (lv_at hl 0 rfl) ?_
            refine lv_sipush (v := 1000) hx hb dX12_mayStep_78 (by decide) ?_
            have J102 : ∀ (k102_0 : Int32) (H : Heap) (locs : List Loc) (ls : Array Slot), HT D cs A T (y1 :: a0 :: O) ((y1, .inl (cs.2.1, 3906, .inl f1)) :: (a0, .inr (12, o0 :: (.ref y1) :: o2 :: o3 :: o4 :: o5 :: o6 :: o7 :: o8 :: o9 :: o10 :: o11 :: o12 :: o13 :: o14 :: (.ref y15) :: (.int y16) :: tl)) :: X) H → va_S A s.heap H locs → lv_has ls 7 [(5, .int p36_5), (4, .int p36_4), (0, .ref a0), (1, .int x1), (2, .int x2), (3, .int x3)] → W p l e { frames := 2, cells := 0, slots := 0, locals := 48 } s m [.ref a0, .int x1, .int x2, .int x3].toArray below meth c H locs 0 0 (MQ below (Ti D cs (fun r u => u = (T, y1 :: a0 :: O, (y1, .inl (cs.2.1, 3906, .inl f1)) :: (a0, .inr (12, o0 :: (.ref y1) :: o2 :: o3 :: o4 :: o5 :: o6 :: o7 :: o8 :: o9 :: o10 :: o11 :: o12 :: o13 :: o14 :: (.ref y15) :: (.int y16) :: tl)) :: X) ∧ 0 ≤ r.toInt ∧ r.toInt ≤ 1) A) [.ref a0, .int x1, .int x2, .int x3].toArray s 0 0 A) (F0 m 102 ls [.int k102_0, .int p36_4, .ref y15]) := by
              intro k102_0 H locs ls  hH hS hl
              refine t_ist hx hb hkb hH hS t_y15 (hO.no t_y15 (by decide)) (by omega) (by omega) (cp_0 _) dX12_mayStep_102 (fun H locs hH hS => ?_)
              obtain ⟨v103, ev103⟩ : ∃ y : Int32, y = p36_4 + 1 := ⟨_, rfl⟩
              have tv103 : v103.toInt = p36_4.toInt + (1) := by rw [ev103]; exact add_i rfl (by decide) (by omega) (by omega)
              refine lv_iinc (v := v103) (lv' := [(4, .int v103), (5, .int p36_5), (0, .ref a0), (1, .int x1), (2, .int x2), (3, .int x3)]) hx hb dX12_mayStep_103 hl (k := 1) rfl (by rw [ev103]; rfl) (by decide) rfl (fun ls hl => ?_)
              refine lv_goto (tgt := 173) hx hb dX12_mayStep_106 (by decide) ?_
              obtain ⟨v173, ev173⟩ : ∃ y : Int32, y = p36_5 + 1 := ⟨_, rfl⟩
              have tv173 : v173.toInt = p36_5.toInt + (1) := by rw [ev173]; exact add_i rfl (by decide) (by omega) (by omega)
              refine lv_iinc (v := v173) (lv' := [(5, .int v173), (4, .int v103), (0, .ref a0), (1, .int x1), (2, .int x2), (3, .int x3)]) hx hb dX12_mayStep_173 hl (k := 1) rfl (by rw [ev173]; rfl) (by decide) rfl (fun ls hl => ?_)
              have hd9 := dpn_step (by omega) tv173 hc59
              refine lv_goto (tgt := 36) hx hb dX12_mayStep_176 (by decide) ?_
              exact ih36 _ (by omega) v173 v103 _ _ _ rfl (by omega) (by omega) (by omega) (by omega) (by first | omega | rfl) hH hS (lv_sub hl [0, 1, 2, 3, 4, 5] rfl)
            refine lv_icmp_ge (tgt := 89) hx hb dX12_mayStep_81 (by decide) (fun c81 => ?_) (fun c81 => ?_)
            · skip
              have tc81 := f_ge (k := 1000) (by decide) c81
              refine lv_aload_n hx hb dX12_mayStep_89 rfl (lv_at hl 3 rfl) ?_
              refine lv_iload hx hb dX12_mayStep_90 (lv_at hl 0 rfl) ?_
              refine lv_sipush (v := 1000) hx hb dX12_mayStep_92 (by decide) ?_
              refine lv_isub hx hb dX12_mayStep_95 ?_
              refine lv_topi (fun v95 ev95 => ?_)
              have tv95 : v95.toInt = v59.toInt - (1000) := by rw [ev95]; exact sub_i rfl (by decide : (1000 : Int32).toInt = 1000) (by omega) (by omega)
              refine lv_iload_n hx hb dX12_mayStep_96 rfl (lv_at hl 4 rfl) ?_
              refine lv_iload_n hx hb dX12_mayStep_97 rfl (lv_at hl 5 rfl) ?_
              refine lv_iload_n hx hb dX12_mayStep_98 rfl (lv_at hl 6 rfl) ?_
              refine tk_i hH hS hA (tr_V (n := 4) (As := [.int v95, .int x1, .int x2, .int x3]) hx hb hml hown hts hkb hH (ox_map hOX rfl) hks hE hS hA (s_M_wordOf l D cs kf T O X a0 hg mq v95 x1 x2 x3 f1 o0 y1 o2 o3 o4 o5 o6 o7 o8 o9 o10 o11 o12 o13 o14 y15 y16 tl t_a0 b_hg (by omega) (by omega) (by omega) (by omega) (by omega) (by omega) s_f1 g_f1 t_y1 t_y15 (hO.sub (by decide))) kw_1486 kw_1488 ks_70 kw_13 kw_1489 (by decide +kernel) ⟨Nat.le_of_ble_eq_true rfl, Nat.le_of_ble_eq_true rfl⟩ (x_recv (ci := 12) hkb hH 1 rfl rfl) rfl rfl hl.1 (Nat.le_of_ble_eq_true rfl) dX12_mayStep_99 ⟨Nat.le_of_ble_eq_true rfl, Nat.le_of_ble_eq_true rfl⟩) (fun v99 u H locs hz9 hH hS => ?_)
              obtain ⟨rfl⟩ := hz9
              have hH : HT D cs A T (y1 :: a0 :: O) ((y1, .inl (cs.2.1, 3906, .inl f1)) :: (a0, .inr (12, o0 :: (.ref y1) :: o2 :: o3 :: o4 :: o5 :: o6 :: o7 :: o8 :: o9 :: o10 :: o11 :: o12 :: o13 :: o14 :: (.ref y15) :: (.int y16) :: tl)) :: X) H := hH
              refine W.widen (k := 0) (n := 0) (Nat.le_of_ble_eq_true rfl) (Nat.le_of_ble_eq_true rfl) ?_
              exact J102 v99 _ _ _  hH hS (lv_sub hl [1, 2, 3, 4, 5, 6] rfl)
            · skip
              have tc81 := f_nge (k := 1000) (by decide) c81
              refine lv_iload hx hb dX12_mayStep_84 (lv_at hl 0 rfl) ?_
              refine lv_goto (tgt := 102) hx hb dX12_mayStep_86 (by decide) ?_
              exact J102 v59 _ _ _  hH hS (lv_sub hl [1, 2, 3, 4, 5, 6] rfl)
    refine lv_istore (lv' := [(5, .int 0), (4, .int 0), (0, .ref a0), (1, .int x1), (2, .int x2), (3, .int x3)]) hx hb dX12_mayStep_34 hl (by decide) rfl (fun ls hl => ?_)
    have z_0 : (0 : Int32).toInt = 0 := by decide
    exact J36 _ 0 0 _ _ _ rfl (by decide) (by decide) (by decide) (by decide) (by first | omega | rfl) hH hS (lv_sub hl [0, 1, 2, 3, 4, 5] rfl)
  · skip
    have tc6 := f_eq (k := 0) (by decide) c6
    refine lv_aload_n hx hb dX12_mayStep_9 rfl (lv_at hl 0 rfl) ?_
    refine lv_iconst (v := 2) hx hb dX12_mayStep_10 (by decide) ?_
    refine lv_iload_n hx hb dX12_mayStep_11 rfl (lv_at hl 1 rfl) ?_
    refine lv_iload_n hx hb dX12_mayStep_12 rfl (lv_at hl 2 rfl) ?_
    refine lv_iload_n hx hb dX12_mayStep_13 rfl (lv_at hl 3 rfl) ?_
    have z9_2 : (2 : Int32).toInt = 2 := by decide
    refine tk_i hH hS hA (tr_V (n := 4) (As := [.int 2, .int x1, .int x2, .int x3]) hx hb hml hown hts hkb hH (ox_map hOX rfl) hks hE hS hA (s_M_wordOf l D cs kf T O X a0 hg mq (2) x1 x2 x3 f1 o0 y1 o2 o3 o4 o5 o6 o7 o8 o9 o10 o11 o12 o13 o14 y15 y16 tl t_a0 b_hg (by omega) (by omega) (by omega) (by omega) (by omega) (by omega) s_f1 g_f1 t_y1 t_y15 (hO.sub (by decide))) kw_1486 kw_1488 ks_70 kw_13 kw_1489 (by decide +kernel) ⟨Nat.le_of_ble_eq_true rfl, Nat.le_of_ble_eq_true rfl⟩ (x_recv (ci := 12) hkb hH 1 rfl rfl) rfl rfl hl.1 (Nat.le_of_ble_eq_true rfl) dX12_mayStep_14 ⟨Nat.le_of_ble_eq_true rfl, Nat.le_of_ble_eq_true rfl⟩) (fun v14 u H locs hz9 hH hS => ?_)
    obtain ⟨rfl⟩ := hz9
    have hH : HT D cs A T (y1 :: a0 :: O) ((y1, .inl (cs.2.1, 3906, .inl f1)) :: (a0, .inr (12, o0 :: (.ref y1) :: o2 :: o3 :: o4 :: o5 :: o6 :: o7 :: o8 :: o9 :: o10 :: o11 :: o12 :: o13 :: o14 :: (.ref y15) :: (.int y16) :: tl)) :: X) H := hH
    refine W.widen (k := 0) (n := 0) (Nat.le_of_ble_eq_true rfl) (Nat.le_of_ble_eq_true rfl) ?_
    refine lv_aload_n hx hb dX12_mayStep_17 rfl (lv_at hl 0 rfl) ?_
    refine x_getk (ci := 12) (C := RX12) (F := TX12) (N := 36) (v := .int y16) hx hb hts uX12 hown hkb hH 1 rfl rfl 16 (by decide) rfl kw_1239 (fun _ h9 => h9) dX12_mayStep_18 ?_
    have J29 : ∀ (k29_0 : Int32) (H : Heap) (locs : List Loc) (ls : Array Slot), (0 ≤ k29_0.toInt) → (k29_0.toInt ≤ 1) → HT D cs A T (y1 :: a0 :: O) ((y1, .inl (cs.2.1, 3906, .inl f1)) :: (a0, .inr (12, o0 :: (.ref y1) :: o2 :: o3 :: o4 :: o5 :: o6 :: o7 :: o8 :: o9 :: o10 :: o11 :: o12 :: o13 :: o14 :: (.ref y15) :: (.int y16) :: tl)) :: X) H → va_S A s.heap H locs → lv_has ls 7 [] → W p l e { frames := 2, cells := 0, slots := 0, locals := 48 } s m [.ref a0, .int x1, .int x2, .int x3].toArray below meth c H locs 0 0 (MQ below (Ti D cs (fun r u => u = (T, y1 :: a0 :: O, (y1, .inl (cs.2.1, 3906, .inl f1)) :: (a0, .inr (12, o0 :: (.ref y1) :: o2 :: o3 :: o4 :: o5 :: o6 :: o7 :: o8 :: o9 :: o10 :: o11 :: o12 :: o13 :: o14 :: (.ref y15) :: (.int y16) :: tl)) :: X) ∧ 0 ≤ r.toInt ∧ r.toInt ≤ 1) A) [.ref a0, .int x1, .int x2, .int x3].toArray s 0 0 A) (F0 m 29 ls [.int k29_0]) := by
      intro k29_0 H locs ls l_k29_0 u_k29_0 hH hS hl
      exact te_z hx hb hr hlocks (nar01 (by omega) (by omega)) hH hS (⟨rfl, by omega, by omega⟩) dX12_mayStep_29
    refine lv_icmp_gt (tgt := 28) hx hb dX12_mayStep_21 (by decide) (fun c21 => ?_) (fun c21 => ?_)
    · skip
      have fuc21 := full_i v14
      have fvc21 := full_i y16
      have tc21 := g_lt c21
      refine lv_iconst (v := 0) hx hb dX12_mayStep_28 (by decide) ?_
      exact J29 0 _ _ _ (by decide) (by decide) hH hS (lv_sub hl [] rfl)
    · skip
      have fuc21 := full_i v14
      have fvc21 := full_i y16
      have tc21 := g_nlt c21
      refine lv_iconst (v := 1) hx hb dX12_mayStep_24 (by decide) ?_
      refine lv_goto (tgt := 29) hx hb dX12_mayStep_25 (by decide) ?_
      exact J29 1 _ _ _ (by decide) (by decide) hH hS (lv_sub hl [] rfl)
set_option maxHeartbeats 4000000 in
set_option maxRecDepth 100000 in
theorem s_M_whyNotX (l : Launch) (D : va_G) (cs : CS) (kf : KF) (T : TF) (O : List Nat) (X : va_W) (a0 hg mq : Nat) (x1 : Int32) (x2 : Int64) (x4 : Int32) (x5 : Int32) (f1 : Nat → Int32) (o0 : Value) (y1 : Nat) (o2 : Value) (o3 : Value) (o4 : Value) (o5 : Value) (o6 : Value) (o7 : Value) (o8 : Value) (o9 : Value) (o10 : Value) (o11 : Value) (o12 : Value) (o13 : Value) (o14 : Value) (y15 : Nat) (y16 : Int32) (tl : List Value) (t_a0 : T a0 = some (22, hg, mq)) (b_hg : hg < 90) (l_x1 : 0 ≤ x1.toInt) (u_x1 : x1.toInt ≤ 4) (l_x5 : -1 ≤ x5.toInt) (u_x5 : x5.toInt ≤ 13) (s_f1 : B8 3906 f1) (g_f1 : f1 1 = nI (hg / 6) ∧ f1 2 = nI (hg % 6)) (t_y1 : T y1 = some (8, 3906, hg)) (t_y15 : T y15 = some (1, 900, 0)) (hO : okO T (y1 :: a0 :: O) [1]) : TK l D cs kf yX12_whyNot cX12_whyNot 7 (some (.int)) { frames := 3, cells := 0, slots := 0, locals := 74 } [.ref a0, .int x1, .long x2, .int x4, .int x5] T (y1 :: a0 :: O) ((y1, .inl (cs.2.1, 3906, .inl f1)) :: (a0, .inr (12, o0 :: (.ref y1) :: o2 :: o3 :: o4 :: o5 :: o6 :: o7 :: o8 :: o9 :: o10 :: o11 :: o12 :: o13 :: o14 :: (.ref y15) :: (.int y16) :: tl)) :: X) (Ti D cs (fun r u => ∃ (n1_16 : Int32), u = (T, y1 :: a0 :: O, (y1, .inl (cs.2.1, 3906, .inl f1)) :: (a0, .inr (12, o0 :: (.ref y1) :: o2 :: o3 :: o4 :: o5 :: o6 :: o7 :: o8 :: o9 :: o10 :: o11 :: o12 :: o13 :: o14 :: (.ref y15) :: (.int n1_16) :: tl)) :: X) ∧ 0 ≤ r.toInt ∧ r.toInt ≤ 3 ∧ (r.toInt ≠ 0 ∨ (0 ≤ x2.toInt ∧ x2.toInt ≤ 13 ∧ inF x4.toInt64 x2.toInt32 ≠ 1)))) := by
  refine tk_of (by decide) (Nat.le_of_ble_eq_true rfl) (fun p e s m below meth c ls A H locs hx hb hr hml hown hts hlocks hnm hkb hH hS hA hOX hks hE hl => ?_)
  have hown : s.vm.findClass RX12 = some m.cls := hown
  have hl : lv_has ls 7 [(0, .ref a0), (1, .int x1), (2, .long x2), (4, .int x4), (5, .int x5)] := hl
  have hOXf := hOX
  refine lv_aload_n hx hb dX12_whyNot_0 rfl (lv_at hl 0 rfl) ?_
  refine lv_lload_n hx hb dX12_whyNot_1 rfl (lv_at hl 2 rfl) ?_
  refine tk_i hH hS hA (tr_V (n := 1) (As := [.long x2]) hx hb hml hown hts hkb hH (ox_map hOX rfl) hks hE hS hA (s_M_isHoldX l D cs kf T O X a0 hg mq x2 f1 o0 y1 o2 o3 o4 o5 o6 o7 o8 o9 o10 o11 o12 o13 o14 y15 y16 tl t_a0 b_hg s_f1 g_f1 t_y1 t_y15 (hO.sub (by decide))) kw_1454 kw_1456 ks_64 kw_13 kw_1457 (by decide +kernel) ⟨Nat.le_of_ble_eq_true rfl, Nat.le_of_ble_eq_true rfl⟩ (x_recv (ci := 12) hkb hH 1 rfl rfl) rfl rfl hl.1 (Nat.le_of_ble_eq_true rfl) dX12_whyNot_2 ⟨Nat.le_of_ble_eq_true rfl, Nat.le_of_ble_eq_true rfl⟩) (fun v2 u H locs hz9 hH hS => ?_)
  obtain ⟨rfl, l_v2, u_v2, x_v20⟩ := hz9
  have hH : HT D cs A T (y1 :: a0 :: O) ((y1, .inl (cs.2.1, 3906, .inl f1)) :: (a0, .inr (12, o0 :: (.ref y1) :: o2 :: o3 :: o4 :: o5 :: o6 :: o7 :: o8 :: o9 :: o10 :: o11 :: o12 :: o13 :: o14 :: (.ref y15) :: (.int y16) :: tl)) :: X) H := hH
  refine W.widen (k := 0) (n := 0) (Nat.le_of_ble_eq_true rfl) (Nat.le_of_ble_eq_true rfl) ?_
  refine lv_if_ne (tgt := 10) hx hb dX12_whyNot_5 (by decide) (fun c5 => ?_) (fun c5 => ?_)
  · skip
    have tc5 := f_ne (k := 0) (by decide) c5
    replace x_v20 := x_v20.resolve_left tc5
    refine lv_lload_n hx hb dX12_whyNot_10 rfl (lv_at hl 2 rfl) ?_
    refine lv_l2i hx hb dX12_whyNot_11 rfl ?_
    refine lv_topi (fun v11 ev11 => ?_)
    have tv11 : v11.toInt = x2.toInt := by rw [ev11]; exact l2i_b (by omega) (by omega)
    refine lv_istore (lv' := [(6, .int v11), (0, .ref a0), (1, .int x1), (2, .long x2), (4, .int x4), (5, .int x5)]) hx hb dX12_whyNot_12 hl (by decide) rfl (fun ls hl => ?_)
    refine lv_aload_n hx hb dX12_whyNot_14 rfl (lv_at hl 1 rfl) ?_
    refine lv_iload hx hb dX12_whyNot_15 (lv_at hl 0 rfl) ?_
    refine tk_i hH hS hA (tr_V (n := 1) (As := [.int v11]) hx hb hml hown hts hkb hH (ox_map hOX rfl) hks hE hS hA (s_M_isOpenX l D cs kf T O X a0 hg mq v11 f1 o0 y1 o2 o3 o4 o5 o6 o7 o8 o9 o10 o11 o12 o13 o14 y15 y16 tl t_a0 b_hg (by omega) (by omega) s_f1 g_f1 t_y1 t_y15 (hO.sub (by decide))) kw_1462 kw_1464 ks_66 kw_13 kw_1465 (by decide +kernel) ⟨Nat.le_of_ble_eq_true rfl, Nat.le_of_ble_eq_true rfl⟩ (x_recv (ci := 12) hkb hH 1 rfl rfl) rfl rfl hl.1 (Nat.le_of_ble_eq_true rfl) dX12_whyNot_17 ⟨Nat.le_of_ble_eq_true rfl, Nat.le_of_ble_eq_true rfl⟩) (fun v17 u H locs hz9 hH hS => ?_)
    obtain ⟨rfl, l_v17, u_v17⟩ := hz9
    have hH : HT D cs A T (y1 :: a0 :: O) ((y1, .inl (cs.2.1, 3906, .inl f1)) :: (a0, .inr (12, o0 :: (.ref y1) :: o2 :: o3 :: o4 :: o5 :: o6 :: o7 :: o8 :: o9 :: o10 :: o11 :: o12 :: o13 :: o14 :: (.ref y15) :: (.int y16) :: tl)) :: X) H := hH
    refine W.widen (k := 0) (n := 0) (Nat.le_of_ble_eq_true rfl) (Nat.le_of_ble_eq_true rfl) ?_
    refine lv_if_eq (tgt := 34) hx hb dX12_whyNot_20 (by decide) (fun c20 => ?_) (fun c20 => ?_)
    · skip
      have tc20 := f_eq (k := 0) (by decide) c20
      refine lv_iconst (v := 2) hx hb dX12_whyNot_34 (by decide) ?_
      have z9_2 : (2 : Int32).toInt = 2 := by decide
      exact te_i hx hb hr hlocks hH hS (⟨y16, rfl, by decide, by decide, (Or.inl (by decide))⟩) dX12_whyNot_35
    · skip
      have tc20 := f_ne (k := 0) (by decide) c20
      refine lv_iload hx hb dX12_whyNot_23 (lv_at hl 4 rfl) ?_
      refine lv_i2l hx hb dX12_whyNot_25 rfl ?_
      refine lv_iload hx hb dX12_whyNot_26 (lv_at hl 0 rfl) ?_
      refine tk_i hH hS hA (tr_S (n := 2) (As := [.long x4.toInt64, .int v11]) hx hb hml hown hts hkb hH (ox_map hOX rfl) hks hE hS hA (s_M_isIn2 l D cs kf T (y1 :: a0 :: O) ((y1, .inl (cs.2.1, 3906, .inl f1)) :: (a0, .inr (12, o0 :: (.ref y1) :: o2 :: o3 :: o4 :: o5 :: o6 :: o7 :: o8 :: o9 :: o10 :: o11 :: o12 :: o13 :: o14 :: (.ref y15) :: (.int y16) :: tl)) :: X) x4.toInt64 v11  (hO.sub (by decide))) kw_1440 kw_1441 kw_13 kw_1442 (by decide +kernel) ⟨Nat.le_of_ble_eq_true rfl, Nat.le_of_ble_eq_true rfl⟩ rfl rfl hl.1 (Nat.le_of_ble_eq_true rfl) dX12_whyNot_28 ⟨Nat.le_of_ble_eq_true rfl, Nat.le_of_ble_eq_true rfl⟩) (fun v28 u H locs hz9 hH hS => ?_)
      obtain ⟨rfl, l_v28, u_v28, x_v280⟩ := hz9
      have hH : HT D cs A T (y1 :: a0 :: O) ((y1, .inl (cs.2.1, 3906, .inl f1)) :: (a0, .inr (12, o0 :: (.ref y1) :: o2 :: o3 :: o4 :: o5 :: o6 :: o7 :: o8 :: o9 :: o10 :: o11 :: o12 :: o13 :: o14 :: (.ref y15) :: (.int y16) :: tl)) :: X) H := hH
      refine W.widen (k := 0) (n := 0) (Nat.le_of_ble_eq_true rfl) (Nat.le_of_ble_eq_true rfl) ?_
      refine lv_if_eq (tgt := 36) hx hb dX12_whyNot_31 (by decide) (fun c31 => ?_) (fun c31 => ?_)
      · skip
        have tc31 := f_eq (k := 0) (by decide) c31
        refine lv_iload hx hb dX12_whyNot_36 (lv_at hl 5 rfl) ?_
        refine lv_iconst (v := (-1)) hx hb dX12_whyNot_38 (by decide) ?_
        refine lv_icmp_ne (tgt := 63) hx hb dX12_whyNot_39 (by decide) (fun c39 => ?_) (fun c39 => ?_)
        · skip
          have tc39 := f_ne (k := -1) (by decide) c39
          refine lv_aload_n hx hb dX12_whyNot_63 rfl (lv_at hl 1 rfl) ?_
          refine lv_aload_n hx hb dX12_whyNot_64 rfl (lv_at hl 1 rfl) ?_
          refine x_getk (ci := 12) (C := RX12) (F := TX12) (N := 36) (v := .ref y1) hx hb hts uX12 hown hkb hH 1 rfl rfl 1 (by decide) rfl kw_1224 (fun _ h9 => h9) dX12_whyNot_65 ?_
          refine lv_bipush (v := 49) hx hb dX12_whyNot_68 (by decide) ?_
          refine lv_iload_n hx hb dX12_whyNot_70 rfl (lv_at hl 2 rfl) ?_
          refine lv_iadd hx hb dX12_whyNot_71 ?_
          refine lv_topi (fun v71 ev71 => ?_)
          have tv71 : v71.toInt = (49) + x1.toInt := by rw [ev71]; exact add_i (by decide : (49 : Int32).toInt = 49) rfl (by omega) (by omega)
          refine xa_ild hx hb hkb hH 0 rfl (by omega) (by omega) dX12_whyNot_72 ?_
          refine lv_topi (fun v72 ev72 => ?_)
          have tv72 : v72 = f1 v71.toInt.toNat := ev72
          refine x_putk (ci := 12) (v := .int v72) (ty := tyX12 16) (C := RX12) (F := TX12) (N := 36) hx hb hts uX12 tyX12 tyX12_ok nmX12 hown hkb hH hS 1 rfl rfl 16 (by decide) kw_1239 (fun _ h9 => h9) rfl (tyX12_ok 16 (by decide)) rfl rfl (by show 16 < tl.length + 17; omega) dX12_whyNot_73 (fun H locs hH hS => ?_)
          have hH : HT D cs A T (y1 :: a0 :: O) ((y1, .inl (cs.2.1, 3906, .inl f1)) :: (a0, .inr (12, o0 :: (.ref y1) :: o2 :: o3 :: o4 :: o5 :: o6 :: o7 :: o8 :: o9 :: o10 :: o11 :: o12 :: o13 :: o14 :: (.ref y15) :: (.int v72) :: tl)) :: X) H := hH
          refine lv_aload_n hx hb dX12_whyNot_76 rfl (lv_at hl 1 rfl) ?_
          refine x_getk (ci := 12) (C := RX12) (F := TX12) (N := 36) (v := .ref y1) hx hb hts uX12 hown hkb hH 1 rfl rfl 1 (by decide) rfl kw_1224 (fun _ h9 => h9) dX12_whyNot_77 ?_
          refine lv_iconst (v := 5) hx hb dX12_whyNot_80 (by decide) ?_
          refine xa_ild hx hb hkb hH 0 rfl (by decide) (by decide) dX12_whyNot_81 ?_
          refine lv_topi (fun v81 ev81 => ?_)
          have tv81 : v81 = f1 5 := by rw [ev81]; rfl
          have bv81 : 0 ≤ v81.toInt ∧ v81.toInt ≤ 16383 := by rw [ev81]; exact (s_f1.at (by decide) 5).2.2.2.1 (by decide)
          refine lv_i2l hx hb dX12_whyNot_82 rfl ?_
          refine lv_iload hx hb dX12_whyNot_83 (lv_at hl 5 rfl) ?_
          refine tk_i hH hS hA (tr_S (n := 2) (As := [.long v81.toInt64, .int x5]) hx hb hml hown hts hkb hH (ox_map hOX rfl) hks hE hS hA (s_M_isIn2 l D cs kf T (y1 :: a0 :: O) ((y1, .inl (cs.2.1, 3906, .inl f1)) :: (a0, .inr (12, o0 :: (.ref y1) :: o2 :: o3 :: o4 :: o5 :: o6 :: o7 :: o8 :: o9 :: o10 :: o11 :: o12 :: o13 :: o14 :: (.ref y15) :: (.int v72) :: tl)) :: X) v81.toInt64 x5  (hO.sub (by decide))) kw_1440 kw_1441 kw_13 kw_1442 (by decide +kernel) ⟨Nat.le_of_ble_eq_true rfl, Nat.le_of_ble_eq_true rfl⟩ rfl rfl hl.1 (Nat.le_of_ble_eq_true rfl) dX12_whyNot_85 ⟨Nat.le_of_ble_eq_true rfl, Nat.le_of_ble_eq_true rfl⟩) (fun v85 u H locs hz9 hH hS => ?_)
          obtain ⟨rfl, l_v85, u_v85, x_v850⟩ := hz9
          have hH : HT D cs A T (y1 :: a0 :: O) ((y1, .inl (cs.2.1, 3906, .inl f1)) :: (a0, .inr (12, o0 :: (.ref y1) :: o2 :: o3 :: o4 :: o5 :: o6 :: o7 :: o8 :: o9 :: o10 :: o11 :: o12 :: o13 :: o14 :: (.ref y15) :: (.int v72) :: tl)) :: X) H := hH
          refine W.widen (k := 0) (n := 0) (Nat.le_of_ble_eq_true rfl) (Nat.le_of_ble_eq_true rfl) ?_
          refine lv_if_ne (tgt := 107) hx hb dX12_whyNot_88 (by decide) (fun c88 => ?_) (fun c88 => ?_)
          · skip
            have tc88 := f_ne (k := 0) (by decide) c88
            refine lv_iconst (v := 3) hx hb dX12_whyNot_107 (by decide) ?_
            have z9_3 : (3 : Int32).toInt = 3 := by decide
            exact te_i hx hb hr hlocks hH hS (⟨v72, rfl, by decide, by decide, (Or.inl (by decide))⟩) dX12_whyNot_108
          · skip
            have tc88 := f_eq (k := 0) (by decide) c88
            refine lv_aload_n hx hb dX12_whyNot_91 rfl (lv_at hl 1 rfl) ?_
            refine lv_iload_n hx hb dX12_whyNot_92 rfl (lv_at hl 2 rfl) ?_
            refine lv_iload hx hb dX12_whyNot_93 (lv_at hl 5 rfl) ?_
            refine lv_iload hx hb dX12_whyNot_95 (lv_at hl 0 rfl) ?_
            refine tk_i hH hS hA (tr_V (n := 3) (As := [.int x1, .int x5, .int v11]) hx hb hml hown hts hkb hH (ox_map hOX rfl) hks hE hS hA (s_M_mayStepX l D cs kf T O X a0 hg mq x1 x5 v11 f1 o0 y1 o2 o3 o4 o5 o6 o7 o8 o9 o10 o11 o12 o13 o14 y15 v72 tl t_a0 b_hg (by omega) (by omega) (by omega) (by omega) (by omega) (by omega) s_f1 g_f1 t_y1 t_y15 (hO.sub (by decide))) kw_1482 kw_1484 ks_69 kw_13 kw_1485 (by decide +kernel) ⟨Nat.le_of_ble_eq_true rfl, Nat.le_of_ble_eq_true rfl⟩ (x_recv (ci := 12) hkb hH 1 rfl rfl) rfl rfl hl.1 (Nat.le_of_ble_eq_true rfl) dX12_whyNot_97 ⟨Nat.le_of_ble_eq_true rfl, Nat.le_of_ble_eq_true rfl⟩) (fun v97 u H locs hz9 hH hS => ?_)
            obtain ⟨rfl, l_v97, u_v97⟩ := hz9
            have hH : HT D cs A T (y1 :: a0 :: O) ((y1, .inl (cs.2.1, 3906, .inl f1)) :: (a0, .inr (12, o0 :: (.ref y1) :: o2 :: o3 :: o4 :: o5 :: o6 :: o7 :: o8 :: o9 :: o10 :: o11 :: o12 :: o13 :: o14 :: (.ref y15) :: (.int v72) :: tl)) :: X) H := hH
            refine W.widen (k := 0) (n := 0) (Nat.le_of_ble_eq_true rfl) (Nat.le_of_ble_eq_true rfl) ?_
            refine lv_if_eq (tgt := 107) hx hb dX12_whyNot_100 (by decide) (fun c100 => ?_) (fun c100 => ?_)
            · skip
              have tc100 := f_eq (k := 0) (by decide) c100
              refine lv_iconst (v := 3) hx hb dX12_whyNot_107 (by decide) ?_
              have z9_3 : (3 : Int32).toInt = 3 := by decide
              exact te_i hx hb hr hlocks hH hS (⟨v72, rfl, by decide, by decide, (Or.inl (by decide))⟩) dX12_whyNot_108
            · skip
              have tc100 := f_ne (k := 0) (by decide) c100
              refine lv_iconst (v := 0) hx hb dX12_whyNot_103 (by decide) ?_
              refine lv_goto (tgt := 108) hx hb dX12_whyNot_104 (by decide) ?_
              have z9_0 : (0 : Int32).toInt = 0 := by decide
              exact te_i hx hb hr hlocks hH hS (⟨v72, rfl, by decide, by decide, (Or.inr ⟨by omega, by omega, by rw [← ev11]; exact inF_z x_v280 tc31⟩)⟩) dX12_whyNot_108
        · skip
          have tc39 := f_eq (k := -1) (by decide) c39
          refine lv_aload_n hx hb dX12_whyNot_42 rfl (lv_at hl 1 rfl) ?_
          refine x_getk (ci := 12) (C := RX12) (F := TX12) (N := 36) (v := .ref y1) hx hb hts uX12 hown hkb hH 1 rfl rfl 1 (by decide) rfl kw_1224 (fun _ h9 => h9) dX12_whyNot_43 ?_
          refine lv_iconst (v := 4) hx hb dX12_whyNot_46 (by decide) ?_
          refine xa_ild hx hb hkb hH 0 rfl (by decide) (by decide) dX12_whyNot_47 ?_
          refine lv_topi (fun v47 ev47 => ?_)
          have tv47 : v47 = f1 4 := by rw [ev47]; rfl
          have bv47 : 0 ≤ v47.toInt ∧ v47.toInt ≤ 16383 := by rw [ev47]; exact (s_f1.at (by decide) 4).2.2.1 (by decide)
          refine lv_i2l hx hb dX12_whyNot_48 rfl ?_
          refine lv_iload hx hb dX12_whyNot_49 (lv_at hl 0 rfl) ?_
          refine tk_i hH hS hA (tr_S (n := 2) (As := [.long v47.toInt64, .int v11]) hx hb hml hown hts hkb hH (ox_map hOX rfl) hks hE hS hA (s_M_isIn2 l D cs kf T (y1 :: a0 :: O) ((y1, .inl (cs.2.1, 3906, .inl f1)) :: (a0, .inr (12, o0 :: (.ref y1) :: o2 :: o3 :: o4 :: o5 :: o6 :: o7 :: o8 :: o9 :: o10 :: o11 :: o12 :: o13 :: o14 :: (.ref y15) :: (.int y16) :: tl)) :: X) v47.toInt64 v11  (hO.sub (by decide))) kw_1440 kw_1441 kw_13 kw_1442 (by decide +kernel) ⟨Nat.le_of_ble_eq_true rfl, Nat.le_of_ble_eq_true rfl⟩ rfl rfl hl.1 (Nat.le_of_ble_eq_true rfl) dX12_whyNot_51 ⟨Nat.le_of_ble_eq_true rfl, Nat.le_of_ble_eq_true rfl⟩) (fun v51 u H locs hz9 hH hS => ?_)
          obtain ⟨rfl, l_v51, u_v51, x_v510⟩ := hz9
          have hH : HT D cs A T (y1 :: a0 :: O) ((y1, .inl (cs.2.1, 3906, .inl f1)) :: (a0, .inr (12, o0 :: (.ref y1) :: o2 :: o3 :: o4 :: o5 :: o6 :: o7 :: o8 :: o9 :: o10 :: o11 :: o12 :: o13 :: o14 :: (.ref y15) :: (.int y16) :: tl)) :: X) H := hH
          refine W.widen (k := 0) (n := 0) (Nat.le_of_ble_eq_true rfl) (Nat.le_of_ble_eq_true rfl) ?_
          refine lv_if_eq (tgt := 61) hx hb dX12_whyNot_54 (by decide) (fun c54 => ?_) (fun c54 => ?_)
          · skip
            have tc54 := f_eq (k := 0) (by decide) c54
            refine lv_iconst (v := 3) hx hb dX12_whyNot_61 (by decide) ?_
            have z9_3 : (3 : Int32).toInt = 3 := by decide
            exact te_i hx hb hr hlocks hH hS (⟨y16, rfl, by decide, by decide, (Or.inl (by decide))⟩) dX12_whyNot_62
          · skip
            have tc54 := f_ne (k := 0) (by decide) c54
            refine lv_iconst (v := 0) hx hb dX12_whyNot_57 (by decide) ?_
            refine lv_goto (tgt := 62) hx hb dX12_whyNot_58 (by decide) ?_
            have z9_0 : (0 : Int32).toInt = 0 := by decide
            exact te_i hx hb hr hlocks hH hS (⟨y16, rfl, by decide, by decide, (Or.inr ⟨by omega, by omega, by rw [← ev11]; exact inF_z x_v280 tc31⟩)⟩) dX12_whyNot_62
      · skip
        have tc31 := f_ne (k := 0) (by decide) c31
        refine lv_iconst (v := 2) hx hb dX12_whyNot_34 (by decide) ?_
        have z9_2 : (2 : Int32).toInt = 2 := by decide
        exact te_i hx hb hr hlocks hH hS (⟨y16, rfl, by decide, by decide, (Or.inl (by decide))⟩) dX12_whyNot_35
  · skip
    have tc5 := f_eq (k := 0) (by decide) c5
    clear x_v20
    refine lv_iconst (v := 1) hx hb dX12_whyNot_8 (by decide) ?_
    have z9_1 : (1 : Int32).toInt = 1 := by decide
    exact te_i hx hb hr hlocks hH hS (⟨y16, rfl, by decide, by decide, (Or.inl (by decide))⟩) dX12_whyNot_9
