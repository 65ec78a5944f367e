set_option maxHeartbeats 4000000 in
set_option maxRecDepth 100000 in
theorem s_M_isHoldX (l : Launch) (D : va_G) (cs : CS) (kf : KF) (T : TF) (O : List Nat) (X : va_W) (a0 hg mq : Nat) (x1 : Int64) (f1 : Nat → Int32) (o0 : Value) (y1 : Nat) (o2 : Value) (o3 : Value) (o4 : Value) (o5 : Value) (o6 : Value) (o7 : Value) (o8 : Value) (o9 : Value) (o10 : Value) (o11 : Value) (o12 : Value) (o13 : Value) (o14 : Value) (y15 : Nat) (y16 : Int32) (tl : List Value) (t_a0 : T a0 = some (22, hg, mq)) (b_hg : hg < 90) (s_f1 : B8 3906 f1) (g_f1 : f1 1 = nI (hg / 6) ∧ f1 2 = nI (hg % 6)) (t_y1 : T y1 = some (8, 3906, hg)) (t_y15 : T y15 = some (1, 900, 0)) (hO : okO T (y1 :: a0 :: O) []) : TK l D cs kf yX12_isHold cX12_isHold 3 (some (.boolean)) { frames := 1, cells := 0, slots := 0, locals := 25 } [.ref a0, .long x1] T (y1 :: a0 :: O) ((y1, .inl (cs.2.1, 3906, .inl f1)) :: (a0, .inr (12, o0 :: (.ref y1) :: o2 :: o3 :: o4 :: o5 :: o6 :: o7 :: o8 :: o9 :: o10 :: o11 :: o12 :: o13 :: o14 :: (.ref y15) :: (.int y16) :: tl)) :: X) (Ti D cs (fun r u => u = (T, y1 :: a0 :: O, (y1, .inl (cs.2.1, 3906, .inl f1)) :: (a0, .inr (12, o0 :: (.ref y1) :: o2 :: o3 :: o4 :: o5 :: o6 :: o7 :: o8 :: o9 :: o10 :: o11 :: o12 :: o13 :: o14 :: (.ref y15) :: (.int y16) :: tl)) :: X) ∧ 0 ≤ r.toInt ∧ r.toInt ≤ 1 ∧ (r.toInt = 0 ∨ (0 ≤ x1.toInt ∧ x1.toInt ≤ 13)))) := by
  refine tk_of (by decide) (Nat.le_of_ble_eq_true rfl) (fun p e s m below meth c ls A H locs hx hb hr hml hown hts hlocks hnm hkb hH hS hA hOX hks hE hl => ?_)
  have hown : s.vm.findClass RX12 = some m.cls := hown
  have hl : lv_has ls 3 [(0, .ref a0), (1, .long x1)] := hl
  have hOXf := hOX
  refine lv_lload_n hx hb dX12_isHold_0 rfl (lv_at hl 1 rfl) ?_
  refine lv_lconst (v := 0) hx hb dX12_isHold_1 (by decide) ?_
  refine lv_aload_n hx hb dX12_isHold_2 rfl (lv_at hl 0 rfl) ?_
  refine x_getk (ci := 12) (C := RX12) (F := TX12) (N := 36) (v := .ref y1) hx hb hts uX12 hown hkb hH 1 rfl rfl 1 (by decide) rfl kw_1224 (fun _ h9 => h9) dX12_isHold_3 ?_
  refine lv_iconst (v := 1) hx hb dX12_isHold_6 (by decide) ?_
  refine xa_ild hx hb hkb hH 0 rfl (by decide) (by decide) dX12_isHold_7 ?_
  refine lv_topi (fun v7 ev7 => ?_)
  have tv7 : v7 = f1 1 := by rw [ev7]; rfl
  have bv7 : 0 ≤ v7.toInt ∧ v7.toInt ≤ 14 := by rw [ev7]; exact (s_f1.at (by decide) 1).1 (by decide)
  have hv7 : v7.toInt = ((hg / 6 : Nat) : Int) := by rw [tv7, g_f1.1]; exact nI_toInt (by omega)
  refine lv_iconst (v := 1) hx hb dX12_isHold_8 (by decide) ?_
  refine lv_isub hx hb dX12_isHold_9 ?_
  refine lv_topi (fun v9 ev9 => ?_)
  have tv9 : v9.toInt = v7.toInt - (1) := by rw [ev9]; exact sub_i rfl (by decide : (1 : Int32).toInt = 1) (by omega) (by omega)
  refine lv_i2l hx hb dX12_isHold_10 rfl ?_
  refine tk_i hH hS hA (tr_S (n := 3) (As := [.long x1, .long 0, .long v9.toInt64]) hx hb hml hown hts hkb hH (ox_map hOX rfl) hks hE hS hA (s_M_within l D cs kf T (y1 :: a0 :: O) ((y1, .inl (cs.2.1, 3906, .inl f1)) :: (a0, .inr (12, o0 :: (.ref y1) :: o2 :: o3 :: o4 :: o5 :: o6 :: o7 :: o8 :: o9 :: o10 :: o11 :: o12 :: o13 :: o14 :: (.ref y15) :: (.int y16) :: tl)) :: X) x1 0 v9.toInt64  (hO.sub (by decide))) kw_1341 kw_1342 kw_13 kw_1343 (by decide +kernel) ⟨Nat.le_of_ble_eq_true rfl, Nat.le_of_ble_eq_true rfl⟩ rfl rfl hl.1 (Nat.le_of_ble_eq_true rfl) dX12_isHold_11 ⟨Nat.le_of_ble_eq_true rfl, Nat.le_of_ble_eq_true rfl⟩) (fun v11 u H locs hz9 hH hS => ?_)
  obtain ⟨rfl, l_v11, u_v11, x_v110, x_v111⟩ := hz9
  simp only [Int32.toInt_toInt64] at x_v110 x_v111
  have k9_0 : (0 : Int64).toInt = 0 := by decide
  have hH : HT D cs A T (y1 :: a0 :: O) ((y1, .inl (cs.2.1, 3906, .inl f1)) :: (a0, .inr (12, o0 :: (.ref y1) :: o2 :: o3 :: o4 :: o5 :: o6 :: o7 :: o8 :: o9 :: o10 :: o11 :: o12 :: o13 :: o14 :: (.ref y15) :: (.int y16) :: tl)) :: X) H := hH
  refine W.widen (k := 0) (n := 0) (Nat.le_of_ble_eq_true rfl) (Nat.le_of_ble_eq_true rfl) ?_
  exact te_z hx hb hr hlocks (nar01 (by omega) (by omega)) hH hS (⟨rfl, by omega, by omega, by omega⟩) dX12_isHold_14
set_option maxHeartbeats 4000000 in
set_option maxRecDepth 100000 in
theorem s_M_isGuideX (l : Launch) (D : va_G) (cs : CS) (kf : KF) (T : TF) (O : List Nat) (X : va_W) (a0 hg mq : Nat) (x1 : Int64) (f1 : Nat → Int32) (o0 : Value) (y1 : Nat) (o2 : Value) (o3 : Value) (o4 : Value) (o5 : Value) (o6 : Value) (o7 : Value) (o8 : Value) (o9 : Value) (o10 : Value) (o11 : Value) (o12 : Value) (o13 : Value) (o14 : Value) (y15 : Nat) (y16 : Int32) (tl : List Value) (t_a0 : T a0 = some (22, hg, mq)) (b_hg : hg < 90) (s_f1 : B8 3906 f1) (g_f1 : f1 1 = nI (hg / 6) ∧ f1 2 = nI (hg % 6)) (t_y1 : T y1 = some (8, 3906, hg)) (t_y15 : T y15 = some (1, 900, 0)) (hO : okO T (y1 :: a0 :: O) []) : TK l D cs kf yX12_isGuide cX12_isGuide 3 (some (.boolean)) { frames := 1, cells := 0, slots := 0, locals := 25 } [.ref a0, .long x1] T (y1 :: a0 :: O) ((y1, .inl (cs.2.1, 3906, .inl f1)) :: (a0, .inr (12, o0 :: (.ref y1) :: o2 :: o3 :: o4 :: o5 :: o6 :: o7 :: o8 :: o9 :: o10 :: o11 :: o12 :: o13 :: o14 :: (.ref y15) :: (.int y16) :: tl)) :: X) (Ti D cs (fun r u => u = (T, y1 :: a0 :: O, (y1, .inl (cs.2.1, 3906, .inl f1)) :: (a0, .inr (12, o0 :: (.ref y1) :: o2 :: o3 :: o4 :: o5 :: o6 :: o7 :: o8 :: o9 :: o10 :: o11 :: o12 :: o13 :: o14 :: (.ref y15) :: (.int y16) :: tl)) :: X) ∧ 0 ≤ r.toInt ∧ r.toInt ≤ 1 ∧ (r.toInt = 0 ∨ (0 ≤ x1.toInt ∧ x1.toInt ≤ 4)))) := by
  refine tk_of (by decide) (Nat.le_of_ble_eq_true rfl) (fun p e s m below meth c ls A H locs hx hb hr hml hown hts hlocks hnm hkb hH hS hA hOX hks hE hl => ?_)
  have hown : s.vm.findClass RX12 = some m.cls := hown
  have hl : lv_has ls 3 [(0, .ref a0), (1, .long x1)] := hl
  have hOXf := hOX
  refine lv_lload_n hx hb dX12_isGuide_0 rfl (lv_at hl 1 rfl) ?_
  refine lv_lconst (v := 0) hx hb dX12_isGuide_1 (by decide) ?_
  refine lv_aload_n hx hb dX12_isGuide_2 rfl (lv_at hl 0 rfl) ?_
  refine x_getk (ci := 12) (C := RX12) (F := TX12) (N := 36) (v := .ref y1) hx hb hts uX12 hown hkb hH 1 rfl rfl 1 (by decide) rfl kw_1224 (fun _ h9 => h9) dX12_isGuide_3 ?_
  refine lv_iconst (v := 2) hx hb dX12_isGuide_6 (by decide) ?_
  refine xa_ild hx hb hkb hH 0 rfl (by decide) (by decide) dX12_isGuide_7 ?_
  refine lv_topi (fun v7 ev7 => ?_)
  have tv7 : v7 = f1 2 := by rw [ev7]; rfl
  have bv7 : 0 ≤ v7.toInt ∧ v7.toInt ≤ 5 := by rw [ev7]; exact (s_f1.at (by decide) 2).2.1 (by decide)
  have hv7 : v7.toInt = ((hg % 6 : Nat) : Int) := by rw [tv7, g_f1.2]; exact nI_toInt (by omega)
  refine lv_iconst (v := 1) hx hb dX12_isGuide_8 (by decide) ?_
  refine lv_isub hx hb dX12_isGuide_9 ?_
  refine lv_topi (fun v9 ev9 => ?_)
  have tv9 : v9.toInt = v7.toInt - (1) := by rw [ev9]; exact sub_i rfl (by decide : (1 : Int32).toInt = 1) (by omega) (by omega)
  refine lv_i2l hx hb dX12_isGuide_10 rfl ?_
  refine tk_i hH hS hA (tr_S (n := 3) (As := [.long x1, .long 0, .long v9.toInt64]) hx hb hml hown hts hkb hH (ox_map hOX rfl) hks hE hS hA (s_M_within l D cs kf T (y1 :: a0 :: O) ((y1, .inl (cs.2.1, 3906, .inl f1)) :: (a0, .inr (12, o0 :: (.ref y1) :: o2 :: o3 :: o4 :: o5 :: o6 :: o7 :: o8 :: o9 :: o10 :: o11 :: o12 :: o13 :: o14 :: (.ref y15) :: (.int y16) :: tl)) :: X) x1 0 v9.toInt64  (hO.sub (by decide))) kw_1341 kw_1342 kw_13 kw_1343 (by decide +kernel) ⟨Nat.le_of_ble_eq_true rfl, Nat.le_of_ble_eq_true rfl⟩ rfl rfl hl.1 (Nat.le_of_ble_eq_true rfl) dX12_isGuide_11 ⟨Nat.le_of_ble_eq_true rfl, Nat.le_of_ble_eq_true rfl⟩) (fun v11 u H locs hz9 hH hS => ?_)
  obtain ⟨rfl, l_v11, u_v11, x_v110, x_v111⟩ := hz9
  simp only [Int32.toInt_toInt64] at x_v110 x_v111
  have k9_0 : (0 : Int64).toInt = 0 := by decide
  have hH : HT D cs A T (y1 :: a0 :: O) ((y1, .inl (cs.2.1, 3906, .inl f1)) :: (a0, .inr (12, o0 :: (.ref y1) :: o2 :: o3 :: o4 :: o5 :: o6 :: o7 :: o8 :: o9 :: o10 :: o11 :: o12 :: o13 :: o14 :: (.ref y15) :: (.int y16) :: tl)) :: X) H := hH
  refine W.widen (k := 0) (n := 0) (Nat.le_of_ble_eq_true rfl) (Nat.le_of_ble_eq_true rfl) ?_
  exact te_z hx hb hr hlocks (nar01 (by omega) (by omega)) hH hS (⟨rfl, by omega, by omega, by omega⟩) dX12_isGuide_14
set_option maxHeartbeats 4000000 in
set_option maxRecDepth 100000 in
theorem s_M_isThereX (l : Launch) (D : va_G) (cs : CS) (kf : KF) (T : TF) (O : List Nat) (X : va_W) (a0 hg mq : Nat) (x1 : Int32) (f1 : Nat → Int32) (o0 : Value) (y1 : Nat) (o2 : Value) (o3 : Value) (o4 : Value) (o5 : Value) (o6 : Value) (o7 : Value) (o8 : Value) (o9 : Value) (o10 : Value) (o11 : Value) (o12 : Value) (o13 : Value) (o14 : Value) (y15 : Nat) (y16 : Int32) (tl : List Value) (t_a0 : T a0 = some (22, hg, mq)) (b_hg : hg < 90) (l_x1 : 0 ≤ x1.toInt) (u_x1 : x1.toInt ≤ 13) (s_f1 : B8 3906 f1) (g_f1 : f1 1 = nI (hg / 6) ∧ f1 2 = nI (hg % 6)) (t_y1 : T y1 = some (8, 3906, hg)) (t_y15 : T y15 = some (1, 900, 0)) (hO : okO T (y1 :: a0 :: O) []) : TK l D cs kf yX12_isThere cX12_isThere 2 (some (.boolean)) { frames := 1, cells := 0, slots := 0, locals := 22 } [.ref a0, .int x1] T (y1 :: a0 :: O) ((y1, .inl (cs.2.1, 3906, .inl f1)) :: (a0, .inr (12, o0 :: (.ref y1) :: o2 :: o3 :: o4 :: o5 :: o6 :: o7 :: o8 :: o9 :: o10 :: o11 :: o12 :: o13 :: o14 :: (.ref y15) :: (.int y16) :: tl)) :: X) (Ti D cs (fun r u => u = (T, y1 :: a0 :: O, (y1, .inl (cs.2.1, 3906, .inl f1)) :: (a0, .inr (12, o0 :: (.ref y1) :: o2 :: o3 :: o4 :: o5 :: o6 :: o7 :: o8 :: o9 :: o10 :: o11 :: o12 :: o13 :: o14 :: (.ref y15) :: (.int y16) :: tl)) :: X) ∧ 0 ≤ r.toInt ∧ r.toInt ≤ 1)) := by
  refine tk_of (by decide) (Nat.le_of_ble_eq_true rfl) (fun p e s m below meth c ls A H locs hx hb hr hml hown hts hlocks hnm hkb hH hS hA hOX hks hE hl => ?_)
  have hown : s.vm.findClass RX12 = some m.cls := hown
  have hl : lv_has ls 2 [(0, .ref a0), (1, .int x1)] := hl
  have hOXf := hOX
  refine lv_aload_n hx hb dX12_isThere_0 rfl (lv_at hl 0 rfl) ?_
  refine x_getk (ci := 12) (C := RX12) (F := TX12) (N := 36) (v := .ref y1) hx hb hts uX12 hown hkb hH 1 rfl rfl 1 (by decide) rfl kw_1224 (fun _ h9 => h9) dX12_isThere_1 ?_
  refine lv_bipush (v := 87) hx hb dX12_isThere_4 (by decide) ?_
  refine xa_ild hx hb hkb hH 0 rfl (by decide) (by decide) dX12_isThere_6 ?_
  refine lv_topi (fun v6 ev6 => ?_)
  have tv6 : v6 = f1 87 := by rw [ev6]; rfl
  refine lv_i2l hx hb dX12_isThere_7 rfl ?_
  refine lv_iload_n hx hb dX12_isThere_8 rfl (lv_at hl 1 rfl) ?_
  refine tk_i hH hS hA (tr_S (n := 2) (As := [.long v6.toInt64, .int x1]) hx hb hml hown hts hkb hH (ox_map hOX rfl) hks hE hS hA (s_M_isIn2 l D cs kf T (y1 :: a0 :: O) ((y1, .inl (cs.2.1, 3906, .inl f1)) :: (a0, .inr (12, o0 :: (.ref y1) :: o2 :: o3 :: o4 :: o5 :: o6 :: o7 :: o8 :: o9 :: o10 :: o11 :: o12 :: o13 :: o14 :: (.ref y15) :: (.int y16) :: tl)) :: X) v6.toInt64 x1  (hO.sub (by decide))) kw_1440 kw_1441 kw_13 kw_1442 (by decide +kernel) ⟨Nat.le_of_ble_eq_true rfl, Nat.le_of_ble_eq_true rfl⟩ rfl rfl hl.1 (Nat.le_of_ble_eq_true rfl) dX12_isThere_9 ⟨Nat.le_of_ble_eq_true rfl, Nat.le_of_ble_eq_true rfl⟩) (fun v9 u H locs hz9 hH hS => ?_)
  obtain ⟨rfl, l_v9, u_v9, x_v90⟩ := hz9
  have hH : HT D cs A T (y1 :: a0 :: O) ((y1, .inl (cs.2.1, 3906, .inl f1)) :: (a0, .inr (12, o0 :: (.ref y1) :: o2 :: o3 :: o4 :: o5 :: o6 :: o7 :: o8 :: o9 :: o10 :: o11 :: o12 :: o13 :: o14 :: (.ref y15) :: (.int y16) :: tl)) :: X) H := hH
  refine W.widen (k := 0) (n := 0) (Nat.le_of_ble_eq_true rfl) (Nat.le_of_ble_eq_true rfl) ?_
  have J39 : ∀ (k39_0 : Int32) (H : Heap) (locs : List Loc) (ls : Array Slot), (0 ≤ k39_0.toInt) → (k39_0.toInt ≤ 1) → HT D cs A T (y1 :: a0 :: O) ((y1, .inl (cs.2.1, 3906, .inl f1)) :: (a0, .inr (12, o0 :: (.ref y1) :: o2 :: o3 :: o4 :: o5 :: o6 :: o7 :: o8 :: o9 :: o10 :: o11 :: o12 :: o13 :: o14 :: (.ref y15) :: (.int y16) :: tl)) :: X) H → va_S A s.heap H locs → lv_has ls 2 [] → W p l e { frames := 1, cells := 0, slots := 0, locals := 22 } s m [.ref a0, .int x1].toArray below meth c H locs 0 0 (MQ below (Ti D cs (fun r u => u = (T, y1 :: a0 :: O, (y1, .inl (cs.2.1, 3906, .inl f1)) :: (a0, .inr (12, o0 :: (.ref y1) :: o2 :: o3 :: o4 :: o5 :: o6 :: o7 :: o8 :: o9 :: o10 :: o11 :: o12 :: o13 :: o14 :: (.ref y15) :: (.int y16) :: tl)) :: X) ∧ 0 ≤ r.toInt ∧ r.toInt ≤ 1) A) [.ref a0, .int x1].toArray s 0 0 A) (F0 m 39 ls [.int k39_0]) := by
    intro k39_0 H locs ls l_k39_0 u_k39_0 hH hS hl
    exact te_z hx hb hr hlocks (nar01 (by omega) (by omega)) hH hS (⟨rfl, by omega, by omega⟩) dX12_isThere_39
  have J38 : ∀  (H : Heap) (locs : List Loc) (ls : Array Slot), HT D cs A T (y1 :: a0 :: O) ((y1, .inl (cs.2.1, 3906, .inl f1)) :: (a0, .inr (12, o0 :: (.ref y1) :: o2 :: o3 :: o4 :: o5 :: o6 :: o7 :: o8 :: o9 :: o10 :: o11 :: o12 :: o13 :: o14 :: (.ref y15) :: (.int y16) :: tl)) :: X) H → va_S A s.heap H locs → lv_has ls 2 [] → W p l e { frames := 1, cells := 0, slots := 0, locals := 22 } s m [.ref a0, .int x1].toArray below meth c H locs 0 0 (MQ below (Ti D cs (fun r u => u = (T, y1 :: a0 :: O, (y1, .inl (cs.2.1, 3906, .inl f1)) :: (a0, .inr (12, o0 :: (.ref y1) :: o2 :: o3 :: o4 :: o5 :: o6 :: o7 :: o8 :: o9 :: o10 :: o11 :: o12 :: o13 :: o14 :: (.ref y15) :: (.int y16) :: tl)) :: X) ∧ 0 ≤ r.toInt ∧ r.toInt ≤ 1) A) [.ref a0, .int x1].toArray s 0 0 A) (F0 m 38 ls []) := by
    intro  H locs ls  hH hS hl
    refine lv_iconst (v := 0) hx hb dX12_isThere_38 (by decide) ?_
    exact J39 0 _ _ _ (by decide) (by decide) hH hS (lv_sub hl [] rfl)
  refine lv_if_ne (tgt := 38) hx hb dX12_isThere_12 (by decide) (fun c12 => ?_) (fun c12 => ?_)
  · skip
    have tc12 := f_ne (k := 0) (by decide) c12
    exact J38  _ _ _  hH hS (lv_sub hl [] rfl)
  · skip
    have tc12 := f_eq (k := 0) (by decide) c12
    refine lv_aload_n hx hb dX12_isThere_15 rfl (lv_at hl 0 rfl) ?_
    refine x_getk (ci := 12) (C := RX12) (F := TX12) (N := 36) (v := .ref y1) hx hb hts uX12 hown hkb hH 1 rfl rfl 1 (by decide) rfl kw_1224 (fun _ h9 => h9) dX12_isThere_16 ?_
    refine lv_bipush (v := 88) hx hb dX12_isThere_19 (by decide) ?_
    refine xa_ild hx hb hkb hH 0 rfl (by decide) (by decide) dX12_isThere_21 ?_
    refine lv_topi (fun v21 ev21 => ?_)
    have tv21 : v21 = f1 88 := by rw [ev21]; rfl
    refine lv_aload_n hx hb dX12_isThere_22 rfl (lv_at hl 0 rfl) ?_
    refine x_getk (ci := 12) (C := RX12) (F := TX12) (N := 36) (v := .ref y1) hx hb hts uX12 hown hkb hH 1 rfl rfl 1 (by decide) rfl kw_1224 (fun _ h9 => h9) dX12_isThere_23 ?_
    refine lv_bipush (v := 35) hx hb dX12_isThere_26 (by decide) ?_
    refine lv_iload_n hx hb dX12_isThere_28 rfl (lv_at hl 1 rfl) ?_
    refine lv_iadd hx hb dX12_isThere_29 ?_
    refine lv_topi (fun v29 ev29 => ?_)
    have tv29 : v29.toInt = (35) + x1.toInt := by rw [ev29]; exact add_i (by decide : (35 : Int32).toInt = 35) rfl (by omega) (by omega)
    refine xa_ild hx hb hkb hH 0 rfl (by omega) (by omega) dX12_isThere_30 ?_
    refine lv_topi (fun v30 ev30 => ?_)
    have tv30 : v30 = f1 v29.toInt.toNat := ev30
    refine lv_icmp_lt (tgt := 38) hx hb dX12_isThere_31 (by decide) (fun c31 => ?_) (fun c31 => ?_)
    · skip
      have fuc31 := full_i v21
      have fvc31 := full_i v30
      have tc31 := g_lt c31
      exact J38  _ _ _  hH hS (lv_sub hl [] rfl)
    · skip
      have fuc31 := full_i v21
      have fvc31 := full_i v30
      have tc31 := g_nlt c31
      refine lv_iconst (v := 1) hx hb dX12_isThere_34 (by decide) ?_
      refine lv_goto (tgt := 39) hx hb dX12_isThere_35 (by decide) ?_
      exact J39 1 _ _ _ (by decide) (by decide) hH hS (lv_sub hl [] rfl)
set_option maxHeartbeats 4000000 in
set_option maxRecDepth 100000 in
theorem s_M_isOpenX (l : Launch) (D : va_G) (cs : CS) (kf : KF) (T : TF) (O : List Nat) (X : va_W) (a0 hg mq : Nat) (x1 : Int32) (f1 : Nat → Int32) (o0 : Value) (y1 : Nat) (o2 : Value) (o3 : Value) (o4 : Value) (o5 : Value) (o6 : Value) (o7 : Value) (o8 : Value) (o9 : Value) (o10 : Value) (o11 : Value) (o12 : Value) (o13 : Value) (o14 : Value) (y15 : Nat) (y16 : Int32) (tl : List Value) (t_a0 : T a0 = some (22, hg, mq)) (b_hg : hg < 90) (l_x1 : 0 ≤ x1.toInt) (u_x1 : x1.toInt ≤ 13) (s_f1 : B8 3906 f1) (g_f1 : f1 1 = nI (hg / 6) ∧ f1 2 = nI (hg % 6)) (t_y1 : T y1 = some (8, 3906, hg)) (t_y15 : T y15 = some (1, 900, 0)) (hO : okO T (y1 :: a0 :: O) []) : TK l D cs kf yX12_isOpen cX12_isOpen 2 (some (.boolean)) { frames := 2, cells := 0, slots := 0, locals := 43 } [.ref a0, .int x1] T (y1 :: a0 :: O) ((y1, .inl (cs.2.1, 3906, .inl f1)) :: (a0, .inr (12, o0 :: (.ref y1) :: o2 :: o3 :: o4 :: o5 :: o6 :: o7 :: o8 :: o9 :: o10 :: o11 :: o12 :: o13 :: o14 :: (.ref y15) :: (.int y16) :: tl)) :: X) (Ti D cs (fun r u => u = (T, y1 :: a0 :: O, (y1, .inl (cs.2.1, 3906, .inl f1)) :: (a0, .inr (12, o0 :: (.ref y1) :: o2 :: o3 :: o4 :: o5 :: o6 :: o7 :: o8 :: o9 :: o10 :: o11 :: o12 :: o13 :: o14 :: (.ref y15) :: (.int y16) :: tl)) :: X) ∧ 0 ≤ r.toInt ∧ r.toInt ≤ 1)) := by
  refine tk_of (by decide) (Nat.le_of_ble_eq_true rfl) (fun p e s m below meth c ls A H locs hx hb hr hml hown hts hlocks hnm hkb hH hS hA hOX hks hE hl => ?_)
  have hown : s.vm.findClass RX12 = some m.cls := hown
  have hl : lv_has ls 2 [(0, .ref a0), (1, .int x1)] := hl
  have hOXf := hOX
  refine lv_aload_n hx hb dX12_isOpen_0 rfl (lv_at hl 0 rfl) ?_
  refine lv_iload_n hx hb dX12_isOpen_1 rfl (lv_at hl 1 rfl) ?_
  refine tk_i hH hS hA (tr_V (n := 1) (As := [.int x1]) hx hb hml hown hts hkb hH (ox_map hOX rfl) hks hE hS hA (s_M_isThereX l D cs kf T O X a0 hg mq x1 f1 o0 y1 o2 o3 o4 o5 o6 o7 o8 o9 o10 o11 o12 o13 o14 y15 y16 tl t_a0 b_hg (by omega) (by omega) s_f1 g_f1 t_y1 t_y15 (hO.sub (by decide))) kw_1458 kw_1460 ks_65 kw_13 kw_1461 (by decide +kernel) ⟨Nat.le_of_ble_eq_true rfl, Nat.le_of_ble_eq_true rfl⟩ (x_recv (ci := 12) hkb hH 1 rfl rfl) rfl rfl hl.1 (Nat.le_of_ble_eq_true rfl) dX12_isOpen_2 ⟨Nat.le_of_ble_eq_true rfl, Nat.le_of_ble_eq_true rfl⟩) (fun v2 u H locs hz9 hH hS => ?_)
  obtain ⟨rfl, l_v2, u_v2⟩ := hz9
  have hH : HT D cs A T (y1 :: a0 :: O) ((y1, .inl (cs.2.1, 3906, .inl f1)) :: (a0, .inr (12, o0 :: (.ref y1) :: o2 :: o3 :: o4 :: o5 :: o6 :: o7 :: o8 :: o9 :: o10 :: o11 :: o12 :: o13 :: o14 :: (.ref y15) :: (.int y16) :: tl)) :: X) H := hH
  refine W.widen (k := 0) (n := 0) (Nat.le_of_ble_eq_true rfl) (Nat.le_of_ble_eq_true rfl) ?_
  have J26 : ∀ (k26_0 : Int32) (H : Heap) (locs : List Loc) (ls : Array Slot), (0 ≤ k26_0.toInt) → (k26_0.toInt ≤ 1) → HT D cs A T (y1 :: a0 :: O) ((y1, .inl (cs.2.1, 3906, .inl f1)) :: (a0, .inr (12, o0 :: (.ref y1) :: o2 :: o3 :: o4 :: o5 :: o6 :: o7 :: o8 :: o9 :: o10 :: o11 :: o12 :: o13 :: o14 :: (.ref y15) :: (.int y16) :: tl)) :: X) H → va_S A s.heap H locs → lv_has ls 2 [] → W p l e { frames := 2, cells := 0, slots := 0, locals := 43 } s m [.ref a0, .int x1].toArray below meth c H locs 0 0 (MQ below (Ti D cs (fun r u => u = (T, y1 :: a0 :: O, (y1, .inl (cs.2.1, 3906, .inl f1)) :: (a0, .inr (12, o0 :: (.ref y1) :: o2 :: o3 :: o4 :: o5 :: o6 :: o7 :: o8 :: o9 :: o10 :: o11 :: o12 :: o13 :: o14 :: (.ref y15) :: (.int y16) :: tl)) :: X) ∧ 0 ≤ r.toInt ∧ r.toInt ≤ 1) A) [.ref a0, .int x1].toArray s 0 0 A) (F0 m 26 ls [.int k26_0]) := by
    intro k26_0 H locs ls l_k26_0 u_k26_0 hH hS hl
    exact te_z hx hb hr hlocks (nar01 (by omega) (by omega)) hH hS (⟨rfl, by omega, by omega⟩) dX12_isOpen_26
  have J25 : ∀  (H : Heap) (locs : List Loc) (ls : Array Slot), HT D cs A T (y1 :: a0 :: O) ((y1, .inl (cs.2.1, 3906, .inl f1)) :: (a0, .inr (12, o0 :: (.ref y1) :: o2 :: o3 :: o4 :: o5 :: o6 :: o7 :: o8 :: o9 :: o10 :: o11 :: o12 :: o13 :: o14 :: (.ref y15) :: (.int y16) :: tl)) :: X) H → va_S A s.heap H locs → lv_has ls 2 [] → W p l e { frames := 2, cells := 0, slots := 0, locals := 43 } s m [.ref a0, .int x1].toArray below meth c H locs 0 0 (MQ below (Ti D cs (fun r u => u = (T, y1 :: a0 :: O, (y1, .inl (cs.2.1, 3906, .inl f1)) :: (a0, .inr (12, o0 :: (.ref y1) :: o2 :: o3 :: o4 :: o5 :: o6 :: o7 :: o8 :: o9 :: o10 :: o11 :: o12 :: o13 :: o14 :: (.ref y15) :: (.int y16) :: tl)) :: X) ∧ 0 ≤ r.toInt ∧ r.toInt ≤ 1) A) [.ref a0, .int x1].toArray s 0 0 A) (F0 m 25 ls []) := by
    intro  H locs ls  hH hS hl
    refine lv_iconst (v := 0) hx hb dX12_isOpen_25 (by decide) ?_
    exact J26 0 _ _ _ (by decide) (by decide) hH hS (lv_sub hl [] rfl)
  refine lv_if_eq (tgt := 25) hx hb dX12_isOpen_5 (by decide) (fun c5 => ?_) (fun c5 => ?_)
  · skip
    have tc5 := f_eq (k := 0) (by decide) c5
    exact J25  _ _ _  hH hS (lv_sub hl [] rfl)
  · skip
    have tc5 := f_ne (k := 0) (by decide) c5
    refine lv_aload_n hx hb dX12_isOpen_8 rfl (lv_at hl 0 rfl) ?_
    refine x_getk (ci := 12) (C := RX12) (F := TX12) (N := 36) (v := .ref y1) hx hb hts uX12 hown hkb hH 1 rfl rfl 1 (by decide) rfl kw_1224 (fun _ h9 => h9) dX12_isOpen_9 ?_
    refine lv_bipush (v := 59) hx hb dX12_isOpen_12 (by decide) ?_
    refine lv_iload_n hx hb dX12_isOpen_14 rfl (lv_at hl 1 rfl) ?_
    refine lv_iadd hx hb dX12_isOpen_15 ?_
    refine lv_topi (fun v15 ev15 => ?_)
    have tv15 : v15.toInt = (59) + x1.toInt := by rw [ev15]; exact add_i (by decide : (59 : Int32).toInt = 59) rfl (by omega) (by omega)
    refine xa_ild hx hb hkb hH 0 rfl (by omega) (by omega) dX12_isOpen_16 ?_
    refine lv_topi (fun v16 ev16 => ?_)
    have tv16 : v16 = f1 v15.toInt.toNat := ev16
    refine lv_iconst (v := (-1)) hx hb dX12_isOpen_17 (by decide) ?_
    refine lv_icmp_ne (tgt := 25) hx hb dX12_isOpen_18 (by decide) (fun c18 => ?_) (fun c18 => ?_)
    · skip
      have tc18 := f_ne (k := -1) (by decide) c18
      exact J25  _ _ _  hH hS (lv_sub hl [] rfl)
    · skip
      have tc18 := f_eq (k := -1) (by decide) c18
      refine lv_iconst (v := 1) hx hb dX12_isOpen_21 (by decide) ?_
      refine lv_goto (tgt := 26) hx hb dX12_isOpen_22 (by decide) ?_
      exact J26 1 _ _ _ (by decide) (by decide) hH hS (lv_sub hl [] rfl)
set_option maxHeartbeats 4000000 in
set_option maxRecDepth 100000 in
theorem s_M_endsX (l : Launch) (D : va_G) (cs : CS) (kf : KF) (T : TF) (O : List Nat) (X : va_W) (a0 hg mq : Nat) (f1 : Nat → Int32) (o0 : Value) (y1 : Nat) (o2 : Value) (o3 : Value) (o4 : Value) (o5 : Value) (o6 : Value) (o7 : Value) (o8 : Value) (o9 : Value) (o10 : Value) (o11 : Value) (o12 : Value) (o13 : Value) (o14 : Value) (y15 : Nat) (y16 : Int32) (tl : List Value) (t_a0 : T a0 = some (22, hg, mq)) (b_hg : hg < 90) (s_f1 : B8 3906 f1) (g_f1 : f1 1 = nI (hg / 6) ∧ f1 2 = nI (hg % 6)) (t_y1 : T y1 = some (8, 3906, hg)) (t_y15 : T y15 = some (1, 900, 0)) (hO : okO T (y1 :: a0 :: O) []) : TK l D cs kf yX12_ends cX12_ends 1 (some (.int)) { frames := 0, cells := 0, slots := 0, locals := 0 } [.ref a0] T (y1 :: a0 :: O) ((y1, .inl (cs.2.1, 3906, .inl f1)) :: (a0, .inr (12, o0 :: (.ref y1) :: o2 :: o3 :: o4 :: o5 :: o6 :: o7 :: o8 :: o9 :: o10 :: o11 :: o12 :: o13 :: o14 :: (.ref y15) :: (.int y16) :: tl)) :: X) (Ti D cs (fun r u => u = (T, y1 :: a0 :: O, (y1, .inl (cs.2.1, 3906, .inl f1)) :: (a0, .inr (12, o0 :: (.ref y1) :: o2 :: o3 :: o4 :: o5 :: o6 :: o7 :: o8 :: o9 :: o10 :: o11 :: o12 :: o13 :: o14 :: (.ref y15) :: (.int y16) :: tl)) :: X) ∧ 0 ≤ r.toInt ∧ r.toInt ≤ 16383)) := by
  refine tk_of (by decide) (Nat.le_of_ble_eq_true rfl) (fun p e s m below meth c ls A H locs hx hb hr hml hown hts hlocks hnm hkb hH hS hA hOX hks hE hl => ?_)
  have hown : s.vm.findClass RX12 = some m.cls := hown
  have hl : lv_has ls 1 [(0, .ref a0)] := hl
  have hOXf := hOX
  refine lv_aload_n hx hb dX12_ends_0 rfl (lv_at hl 0 rfl) ?_
  refine x_getk (ci := 12) (C := RX12) (F := TX12) (N := 36) (v := .ref y1) hx hb hts uX12 hown hkb hH 1 rfl rfl 1 (by decide) rfl kw_1224 (fun _ h9 => h9) dX12_ends_1 ?_
  refine lv_iconst (v := 4) hx hb dX12_ends_4 (by decide) ?_
  refine xa_ild hx hb hkb hH 0 rfl (by decide) (by decide) dX12_ends_5 ?_
  refine lv_topi (fun v5 ev5 => ?_)
  have tv5 : v5 = f1 4 := by rw [ev5]; rfl
  have bv5 : 0 ≤ v5.toInt ∧ v5.toInt ≤ 16383 := by rw [ev5]; exact (s_f1.at (by decide) 4).2.2.1 (by decide)
  refine lv_aload_n hx hb dX12_ends_6 rfl (lv_at hl 0 rfl) ?_
  refine x_getk (ci := 12) (C := RX12) (F := TX12) (N := 36) (v := .ref y1) hx hb hts uX12 hown hkb hH 1 rfl rfl 1 (by decide) rfl kw_1224 (fun _ h9 => h9) dX12_ends_7 ?_
  refine lv_iconst (v := 5) hx hb dX12_ends_10 (by decide) ?_
  refine xa_ild hx hb hkb hH 0 rfl (by decide) (by decide) dX12_ends_11 ?_
  refine lv_topi (fun v11 ev11 => ?_)
  have tv11 : v11 = f1 5 := by rw [ev11]; rfl
  have bv11 : 0 ≤ v11.toInt ∧ v11.toInt ≤ 16383 := by rw [ev11]; exact (s_f1.at (by decide) 5).2.2.2.1 (by decide)
  refine lv_ior hx hb dX12_ends_12 ?_
  refine lv_topi (fun v12 ev12 => ?_)
  have tv12 : 0 ≤ v12.toInt ∧ v12.toInt < 16384 := by rw [ev12]; exact or_b 14 (by decide) (by omega) (by omega) (by omega) (by omega)
  exact te_i hx hb hr hlocks hH hS (⟨rfl, by omega, by omega⟩) dX12_ends_13
set_option maxHeartbeats 4000000 in
set_option maxRecDepth 100000 in
theorem s_M_mayStepX (l : Launch) (D : va_G) (cs : CS) (kf : KF) (T : TF) (O : List Nat) (X : va_W) (a0 hg mq : Nat) (x1 : Int32) (x2 : Int32) (x3 : Int32) (f1 : Nat → Int32) (o0 : Value) (y1 : Nat) (o2 : Value) (o3 : Value) (o4 : Value) (o5 : Value) (o6 : Value) (o7 : Value) (o8 : Value) (o9 : Value) (o10 : Value) (o11 : Value) (o12 : Value) (o13 : Value) (o14 : Value) (y15 : Nat) (y16 : Int32) (tl : List Value) (t_a0 : T a0 = some (22, hg, mq)) (b_hg : hg < 90) (l_x1 : 0 ≤ x1.toInt) (u_x1 : x1.toInt ≤ 4) (l_x2 : 0 ≤ x2.toInt) (u_x2 : x2.toInt ≤ 13) (l_x3 : 0 ≤ x3.toInt) (u_x3 : x3.toInt ≤ 13) (s_f1 : B8 3906 f1) (g_f1 : f1 1 = nI (hg / 6) ∧ f1 2 = nI (hg % 6)) (t_y1 : T y1 = some (8, 3906, hg)) (t_y15 : T y15 = some (1, 900, 0)) (hO : okO T (y1 :: a0 :: O) [1]) : TK l D cs kf yX12_mayStep cX12_mayStep 7 (some (.boolean)) { frames := 2, cells := 0, slots := 0, locals := 48 } [.ref a0, .int x1, .int x2, .int x3] T (y1 :: a0 :: O) ((y1, .inl (cs.2.1, 3906, .inl f1)) :: (a0, .inr (12, o0 :: (.ref y1) :: o2 :: o3 :: o4 :: o5 :: o6 :: o7 :: o8 :: o9 :: o10 :: o11 :: o12 :: o13 :: o14 :: (.ref y15) :: (.int y16) :: tl)) :: X) (Ti D cs (fun r u => u = (T, y1 :: a0 :: O, (y1, .inl (cs.2.1, 3906, .inl f1)) :: (a0, .inr (12, o0 :: (.ref y1) :: o2 :: o3 :: o4 :: o5 :: o6 :: o7 :: o8 :: o9 :: o10 :: o11 :: o12 :: o13 :: o14 :: (.ref y15) :: (.int y16) :: tl)) :: X) ∧ 0 ≤ r.toInt ∧ r.toInt ≤ 1)) := by
  refine tk_of (by decide) (Nat.le_of_ble_eq_true rfl) (fun p e s m below meth c ls A H locs hx hb hr hml hown hts hlocks hnm hkb hH hS hA hOX hks hE hl => ?_)
  have hown : s.vm.findClass RX12 = some m.cls := hown
  have hl : lv_has ls 7 [(0, .ref a0), (1, .int x1), (2, .int x2), (3, .int x3)] := hl
  have hOXf := hOX
  refine lv_aload_n hx hb dX12_mayStep_0 rfl (lv_at hl 0 rfl) ?_
  refine x_getk (ci := 12) (C := RX12) (F := TX12) (N := 36) (v := .ref y1) hx hb hts uX12 hown hkb hH 1 rfl rfl 1 (by decide) rfl kw_1224 (fun _ h9 => h9) dX12_mayStep_1 ?_
  refine lv_iconst (v := 3) hx hb dX12_mayStep_4 (by decide) ?_
  refine xa_ild hx hb hkb hH 0 rfl (by decide) (by decide) dX12_mayStep_5 ?_
  refine lv_topi (fun v5 ev5 => ?_)
  have tv5 : v5 = f1 3 := by rw [ev5]; rfl
  refine lv_if_ne (tgt := 30) hx hb dX12_mayStep_6 (by decide) (fun c6 => ?_) (fun c6 => ?_)
  · skip
    have tc6 := f_ne (k := 0) (by decide) c6
    refine lv_iconst (v := 0) hx hb dX12_mayStep_30 (by decide) ?_
    refine lv_istore (lv' := [(4, .int 0), (0, .ref a0), (1, .int x1), (2, .int x2), (3, .int x3)]) hx hb dX12_mayStep_31 hl (by decide) rfl (fun ls hl => ?_)
    refine lv_iconst (v := 0) hx hb dX12_mayStep_33 (by decide) ?_
    have J36 : ∀ (n : Nat) (p36_5 : Int32) (p36_4 : Int32) (H : Heap) (locs : List Loc) (ls : Array Slot), (900 - p36_5.toInt).toNat = n → (0 ≤ p36_5.toInt) → (p36_5.toInt ≤ 900) → (0 ≤ p36_4.toInt) → (p36_4.toInt ≤ 900) → (p36_4.toInt = dpn f1 p36_5.toInt.toNat) → HT D cs A T (y1 :: a0 :: O) ((y1, .inl (cs.2.1, 3906, .inl f1)) :: (a0, .inr (12, o0 :: (.ref y1) :: o2 :: o3 :: o4 :: o5 :: o6 :: o7 :: o8 :: o9 :: o10 :: o11 :: o12 :: o13 :: o14 :: (.ref y15) :: (.int y16) :: tl)) :: X) H → va_S A s.heap H locs → lv_has ls 7 [(5, .int p36_5), (4, .int p36_4), (0, .ref a0), (1, .int x1), (2, .int x2), (3, .int x3)] → W p l e { frames := 2, cells := 0, slots := 0, locals := 48 } s m [.ref a0, .int x1, .int x2, .int x3].toArray below meth c H locs 0 0 (MQ below (Ti D cs (fun r u => u = (T, y1 :: a0 :: O, (y1, .inl (cs.2.1, 3906, .inl f1)) :: (a0, .inr (12, o0 :: (.ref y1) :: o2 :: o3 :: o4 :: o5 :: o6 :: o7 :: o8 :: o9 :: o10 :: o11 :: o12 :: o13 :: o14 :: (.ref y15) :: (.int y16) :: tl)) :: X) ∧ 0 ≤ r.toInt ∧ r.toInt ≤ 1) A) [.ref a0, .int x1, .int x2, .int x3].toArray s 0 0 A) (F0 m 36 ls []) := by
      intro n
      induction n using Nat.strongRecOn with
      | _ n ih36 =>
        intro p36_5 p36_4 H locs ls hm36 l_p36_5 u_p36_5 l_p36_4 u_p36_4 i36 hH hS hl
        refine lv_iload hx hb dX12_mayStep_36 (lv_at hl 0 rfl) ?_
        refine lv_aload_n hx hb dX12_mayStep_38 rfl (lv_at hl 2 rfl) ?_
        refine x_getk (ci := 12) (C := RX12) (F := TX12) (N := 36) (v := .ref y1) hx hb hts uX12 hown hkb hH 1 rfl rfl 1 (by decide) rfl kw_1224 (fun _ h9 => h9) dX12_mayStep_39 ?_
        refine lv_sipush (v := 401) hx hb dX12_mayStep_42 (by decide) ?_
        refine xa_ild hx hb hkb hH 0 rfl (by decide) (by decide) dX12_mayStep_45 ?_
        refine lv_topi (fun v45 ev45 => ?_)
        have tv45 : v45 = f1 401 := by rw [ev45]; rfl
        have bv45 : 0 ≤ v45.toInt ∧ v45.toInt ≤ 900 := by rw [ev45]; exact (s_f1.at (by decide) 401).2.2.2.2.2.2 (by decide)
        refine lv_icmp_ge (tgt := 179) hx hb dX12_mayStep_46 (by decide) (fun c46 => ?_) (fun c46 => ?_)
        · skip
          have fuc46 := full_i p36_5
          have fvc46 := full_i v45
          have tc46 := g_le c46
          refine lv_aload_n hx hb dX12_mayStep_179 rfl (lv_at hl 2 rfl) ?_
          refine x_getk (ci := 12) (C := RX12) (F := TX12) (N := 36) (v := .ref y15) hx hb hts uX12 hown hkb hH 1 rfl rfl 15 (by decide) rfl kw_1238 (fun _ h9 => h9) dX12_mayStep_180 ?_
          refine lv_iconst (v := 0) hx hb dX12_mayStep_183 (by decide) ?_
          refine t_ild hx hb hkb hH t_y15 (hO.no t_y15 (by decide)) (by decide) (by decide) dX12_mayStep_184 (fun v184 h9 => ?_)
          refine lv_iconst (v := 1) hx hb dX12_mayStep_185 (by decide) ?_
          have J194 : ∀ (k194_0 : Int32) (H : Heap) (locs : List Loc) (ls : Array Slot), (0 ≤ k194_0.toInt) → (k194_0.toInt ≤ 1) → HT D cs A T (y1 :: a0 :: O) ((y1, .inl (cs.2.1, 3906, .inl f1)) :: (a0, .inr (12, o0 :: (.ref y1) :: o2 :: o3 :: o4 :: o5 :: o6 :: o7 :: o8 :: o9 :: o10 :: o11 :: o12 :: o13 :: o14 :: (.ref y15) :: (.int y16) :: tl)) :: X) H → va_S A s.heap H locs → lv_has ls 7 [] → W p l e { frames := 2, cells := 0, slots := 0, locals := 48 } s m [.ref a0, .int x1, .int x2, .int x3].toArray below meth c H locs 0 0 (MQ below (Ti D cs (fun r u => u = (T, y1 :: a0 :: O, (y1, .inl (cs.2.1, 3906, .inl f1)) :: (a0, .inr (12, o0 :: (.ref y1) :: o2 :: o3 :: o4 :: o5 :: o6 :: o7 :: o8 :: o9 :: o10 :: o11 :: o12 :: o13 :: o14 :: (.ref y15) :: (.int y16) :: tl)) :: X) ∧ 0 ≤ r.toInt ∧ r.toInt ≤ 1) A) [.ref a0, .int x1, .int x2, .int x3].toArray s 0 0 A) (F0 m 194 ls [.int k194_0]) := by
            intro k194_0 H locs ls l_k194_0 u_k194_0 hH hS hl
            exact te_z hx hb hr hlocks (nar01 (by omega) (by omega)) hH hS (⟨rfl, by omega, by omega⟩) dX12_mayStep_194
          refine lv_icmp_ne (tgt := 193) hx hb dX12_mayStep_186 (by decide) (fun c186 => ?_) (fun c186 => ?_)
          · skip
            have tc186 := f_ne (k := 1) (by decide) c186
            refine lv_iconst (v := 0) hx hb dX12_mayStep_193 (by decide) ?_
            exact J194 0 _ _ _ (by decide) (by decide) hH hS (lv_sub hl [] rfl)
          · skip
            have tc186 := f_eq (k := 1) (by decide) c186
            refine lv_iconst (v := 1) hx hb dX12_mayStep_189 (by decide) ?_
            refine lv_goto (tgt := 194) hx hb dX12_mayStep_190 (by decide) ?_
            exact J194 1 _ _ _ (by decide) (by decide) hH hS (lv_sub hl [] rfl)
        · skip
          have fuc46 := full_i p36_5
          have fvc46 := full_i v45
          have tc46 := g_nle c46
          refine lv_aload_n hx hb dX12_mayStep_49 rfl (lv_at hl 2 rfl) ?_
          refine x_getk (ci := 12) (C := RX12) (F := TX12) (N := 36) (v := .ref y1) hx hb hts uX12 hown hkb hH 1 rfl rfl 1 (by decide) rfl kw_1224 (fun _ h9 => h9) dX12_mayStep_50 ?_
          refine lv_sipush (v := 402) hx hb dX12_mayStep_53 (by decide) ?_
          refine lv_iload hx hb dX12_mayStep_56 (lv_at hl 0 rfl) ?_
          refine lv_iadd hx hb dX12_mayStep_58 ?_
          refine lv_topi (fun v58 ev58 => ?_)
          have tv58 : v58.toInt = (402) + p36_5.toInt := by rw [ev58]; exact add_i (by decide : (402 : Int32).toInt = 402) rfl (by omega) (by omega)
          refine xa_ild hx hb hkb hH 0 rfl (by omega) (by omega) dX12_mayStep_59 ?_
          refine lv_topi (fun v59 ev59 => ?_)
          have tv59 : v59 = f1 v58.toInt.toNat := ev59
          refine lv_istore (lv' := [(6, .int v59), (5, .int p36_5), (4, .int p36_4), (0, .ref a0), (1, .int x1), (2, .int x2), (3, .int x3)]) hx hb dX12_mayStep_60 hl (by decide) rfl (fun ls hl => ?_)
          have hc59 : v59 = f1 (402 + p36_5.toInt.toNat) := by rw [tv59, show v58.toInt.toNat = 402 + p36_5.toInt.toNat by omega]
          have hw9 := dpn_at s_f1.first (by omega) tv45 (by omega) hc59
          refine lv_iload hx hb dX12_mayStep_62 (lv_at hl 0 rfl) ?_
          refine lv_sipush (v := 3000) hx hb dX12_mayStep_64 (by decide) ?_
          refine lv_icmp_ge (tgt := 109) hx hb dX12_mayStep_67 (by decide) (fun c67 => ?_) (fun c67 => ?_)
          · skip
            have tc67 := f_ge (k := 3000) (by decide) c67
            refine lv_iload hx hb dX12_mayStep_109 (lv_at hl 0 rfl) ?_
            refine lv_sipush (v := 3008) hx hb dX12_mayStep_111 (by decide) ?_
            refine lv_icmp_ne (tgt := 140) hx hb dX12_mayStep_114 (by decide) (fun c114 => ?_) (fun c114 => ?_)
            · skip
              have tc114 := f_ne (k := 3008) (by decide) c114
              obtain ⟨v140, ev140⟩ : ∃ y : Int32, y = p36_4 + (-1) := ⟨_, rfl⟩
              have tv140 : v140.toInt = p36_4.toInt + (-1) := by rw [ev140]; exact add_i rfl (by decide) (by omega) (by omega)
              refine lv_iinc (v := v140) (lv' := [(4, .int v140), (6, .int v59), (5, .int p36_5), (0, .ref a0), (1, .int x1), (2, .int x2), (3, .int x3)]) hx hb dX12_mayStep_140 hl (k := 2) rfl (by rw [ev140]; rfl) (by decide) rfl (fun ls hl => ?_)
              refine lv_aload_n hx hb dX12_mayStep_143 rfl (lv_at hl 3 rfl) ?_
              refine x_getk (ci := 12) (C := RX12) (F := TX12) (N := 36) (v := .ref y15) hx hb hts uX12 hown hkb hH 1 rfl rfl 15 (by decide) rfl kw_1238 (fun _ h9 => h9) dX12_mayStep_144 ?_
              refine lv_iload hx hb dX12_mayStep_147 (lv_at hl 0 rfl) ?_
              refine lv_iconst (v := 1) hx hb dX12_mayStep_149 (by decide) ?_
              refine lv_isub hx hb dX12_mayStep_150 ?_
              refine lv_topi (fun v150 ev150 => ?_)
              have tv150 : v150.toInt = v140.toInt - (1) := by rw [ev150]; exact sub_i rfl (by decide : (1 : Int32).toInt = 1) (by omega) (by omega)
              refine lv_iload hx hb dX12_mayStep_151 (lv_at hl 1 rfl) ?_
              refine lv_aload_n hx hb dX12_mayStep_153 rfl (lv_at hl 3 rfl) ?_
              refine x_getk (ci := 12) (C := RX12) (F := TX12) (N := 36) (v := .ref y15) hx hb hts uX12 hown hkb hH 1 rfl rfl 15 (by decide) rfl kw_1238 (fun _ h9 => h9) dX12_mayStep_154 ?_
              refine lv_iload hx hb dX12_mayStep_157 (lv_at hl 0 rfl) ?_
              refine lv_iconst (v := 1) hx hb dX12_mayStep_159 (by decide) ?_
              refine lv_isub hx hb dX12_mayStep_160 ?_
              refine lv_topi (fun v160 ev160 => ?_)
              have tv160 : v160.toInt = v140.toInt - (1) := by rw [ev160]; exact sub_i rfl (by decide : (1 : Int32).toInt = 1) (by omega) (by omega)
              refine t_ild hx hb hkb hH t_y15 (hO.no t_y15 (by decide)) (by omega) (by omega) dX12_mayStep_161 (fun v161 h9 => ?_)
              refine lv_aload_n hx hb dX12_mayStep_162 rfl (lv_at hl 3 rfl) ?_
              refine x_getk (ci := 12) (C := RX12) (F := TX12) (N := 36) (v := .ref y15) hx hb hts uX12 hown hkb hH 1 rfl rfl 15 (by decide) rfl kw_1238 (fun _ h9 => h9) dX12_mayStep_163 ?_
              refine lv_iload hx hb dX12_mayStep_166 (lv_at hl 0 rfl) ?_
              refine t_ild hx hb hkb hH t_y15 (hO.no t_y15 (by decide)) (by omega) (by omega) dX12_mayStep_168 (fun v168 h9 => ?_)
              refine tk_i hH hS hA (tr_S (n := 3) (As := [.int v59, .int v161, .int v168]) hx hb hml hown hts hkb hH (ox_map hOX rfl) hks hE hS hA (s_M_between l D cs kf T (y1 :: a0 :: O) ((y1, .inl (cs.2.1, 3906, .inl f1)) :: (a0, .inr (12, o0 :: (.ref y1) :: o2 :: o3 :: o4 :: o5 :: o6 :: o7 :: o8 :: o9 :: o10 :: o11 :: o12 :: o13 :: o14 :: (.ref y15) :: (.int y16) :: tl)) :: X) v59 v161 v168  (hO.sub (by decide))) kw_1493 kw_1494 kw_13 kw_1495 (by decide +kernel) ⟨Nat.le_of_ble_eq_true rfl, Nat.le_of_ble_eq_true rfl⟩ rfl rfl hl.1 (Nat.le_of_ble_eq_true rfl) dX12_mayStep_169 ⟨Nat.le_of_ble_eq_true rfl, Nat.le_of_ble_eq_true rfl⟩) (fun v169 u H locs hz9 hH hS => ?_)
              have hz9 : u = (T, y1 :: a0 :: O, (y1, .inl (cs.2.1, 3906, .inl f1)) :: (a0, .inr (12, o0 :: (.ref y1) :: o2 :: o3 :: o4 :: o5 :: o6 :: o7 :: o8 :: o9 :: o10 :: o11 :: o12 :: o13 :: o14 :: (.ref y15) :: (.int y16) :: tl)) :: X) := hz9
              subst hz9
              have hH : HT D cs A T (y1 :: a0 :: O) ((y1, .inl (cs.2.1, 3906, .inl f1)) :: (a0, .inr (12, o0 :: (.ref y1) :: o2 :: o3 :: o4 :: o5 :: o6 :: o7 :: o8 :: o9 :: o10 :: o11 :: o12 :: o13 :: o14 :: (.ref y15) :: (.int y16) :: tl)) :: X) H := hH
              refine W.widen (k := 0) (n := 0) (Nat.le_of_ble_eq_true rfl) (Nat.le_of_ble_eq_true rfl) ?_
              refine t_ist hx hb hkb hH hS t_y15 (hO.no t_y15 (by decide)) (by omega) (by omega) (cp_0 _) dX12_mayStep_172 (fun H locs hH hS => ?_)
              obtain ⟨v173, ev173⟩ : ∃ y : Int32, y = p36_5 + 1 := ⟨_, rfl⟩
              have tv173 : v173.toInt = p36_5.toInt + (1) := by rw [ev173]; exact add_i rfl (by decide) (by omega) (by omega)
              refine lv_iinc (v := v173) (lv' := [(5, .int v173), (4, .int v140), (6, .int v59), (0, .ref a0), (1, .int x1), (2, .int x2), (3, .int x3)]) hx hb dX12_mayStep_173 hl (k := 2) rfl (by rw [ev173]; rfl) (by decide) rfl (fun ls hl => ?_)
              have hd9 := dpn_step (by omega) tv173 hc59
              refine lv_goto (tgt := 36) hx hb dX12_mayStep_176 (by decide) ?_
              exact ih36 _ (by omega) v173 v140 _ _ _ rfl (by omega) (by omega) (by omega) (by omega) (by first | omega | rfl) hH hS (lv_sub hl [0, 1, 3, 4, 5, 6] rfl)
            · skip
              have tc114 := f_eq (k := 3008) (by decide) c114
              refine lv_aload_n hx hb dX12_mayStep_117 rfl (lv_at hl 3 rfl) ?_
              refine x_getk (ci := 12) (C := RX12) (F := TX12) (N := 36) (v := .ref y15) hx hb hts uX12 hown hkb hH 1 rfl rfl 15 (by decide) rfl kw_1238 (fun _ h9 => h9) dX12_mayStep_118 ?_
              refine lv_iload hx hb dX12_mayStep_121 (lv_at hl 2 rfl) ?_
              refine lv_iconst (v := 1) hx hb dX12_mayStep_123 (by decide) ?_
              refine lv_isub hx hb dX12_mayStep_124 ?_
              refine lv_topi (fun v124 ev124 => ?_)
              have tv124 : v124.toInt = p36_4.toInt - (1) := by rw [ev124]; exact sub_i rfl (by decide : (1 : Int32).toInt = 1) (by omega) (by omega)
              refine lv_iconst (v := 1) hx hb dX12_mayStep_125 (by decide) ?_
              refine lv_aload_n hx hb dX12_mayStep_126 rfl (lv_at hl 3 rfl) ?_
              refine x_getk (ci := 12) (C := RX12) (F := TX12) (N := 36) (v := .ref y15) hx hb hts uX12 hown hkb hH 1 rfl rfl 15 (by decide) rfl kw_1238 (fun _ h9 => h9) dX12_mayStep_127 ?_
              refine lv_iload hx hb dX12_mayStep_130 (lv_at hl 2 rfl) ?_
              refine lv_iconst (v := 1) hx hb dX12_mayStep_132 (by decide) ?_
              refine lv_isub hx hb dX12_mayStep_133 ?_
              refine lv_topi (fun v133 ev133 => ?_)
              have tv133 : v133.toInt = p36_4.toInt - (1) := by rw [ev133]; exact sub_i rfl (by decide : (1 : Int32).toInt = 1) (by omega) (by omega)
              refine t_ild hx hb hkb hH t_y15 (hO.no t_y15 (by decide)) (by omega) (by omega) dX12_mayStep_134 (fun v134 h9 => ?_)
              refine lv_isub hx hb dX12_mayStep_135 ?_
              refine lv_topi (fun v135 ev135 => ?_)
              refine t_ist hx hb hkb hH hS t_y15 (hO.no t_y15 (by decide)) (by omega) (by omega) (cp_0 _) dX12_mayStep_136 (fun H locs hH hS => ?_)
              refine lv_goto (tgt := 173) hx hb dX12_mayStep_137 (by decide) ?_
              obtain ⟨v173, ev173⟩ : ∃ y : Int32, y = p36_5 + 1 := ⟨_, rfl⟩
              have tv173 : v173.toInt = p36_5.toInt + (1) := by rw [ev173]; exact add_i rfl (by decide) (by omega) (by omega)
              refine lv_iinc (v := v173) (lv' := [(5, .int v173), (6, .int v59), (4, .int p36_4), (0, .ref a0), (1, .int x1), (2, .int x2), (3, .int x3)]) hx hb dX12_mayStep_173 hl (k := 1) rfl (by rw [ev173]; rfl) (by decide) rfl (fun ls hl => ?_)
              have hd9 := dpn_step (by omega) tv173 hc59
              refine lv_goto (tgt := 36) hx hb dX12_mayStep_176 (by decide) ?_
              exact ih36 _ (by omega) v173 p36_4 _ _ _ rfl (by omega) (by omega) (by omega) (by omega) (by first | omega | rfl) hH hS (lv_sub hl [0, 2, 3, 4, 5, 6] rfl)
          · skip
            have tc67 := f_nge (k := 3000) (by decide) c67
            refine lv_aload_n hx hb dX12_mayStep_70 rfl (lv_at hl 3 rfl) ?_
            refine x_getk (ci := 12) (C := RX12) (F := TX12) (N := 36) (v := .ref y15) hx hb hts uX12 hown hkb hH 1 rfl rfl 15 (by decide) rfl kw_1238 (fun _ h9 => h9) dX12_mayStep_71 ?_
            refine lv_iload hx hb dX12_mayStep_74 (lv_at hl 2 rfl) ?_
            refine lv_iload hx hb dX12_mayStep_76 (lv_at hl 0 rfl) ?_
            refine lv_sipush (v := 1000) hx hb dX12_mayStep_78 (by decide) ?_
            have J102 : ∀ (k102_0 : Int32) (H : Heap) (locs : List Loc) (ls : Array Slot), HT D cs A T (y1 :: a0 :: O) ((y1, .inl (cs.2.1, 3906, .inl f1)) :: (a0, .inr (12, o0 :: (.ref y1) :: o2 :: o3 :: o4 :: o5 :: o6 :: o7 :: o8 :: o9 :: o10 :: o11 :: o12 :: o13 :: o14 :: (.ref y15) :: (.int y16) :: tl)) :: X) H → va_S A s.heap H locs → lv_has ls 7 [(5, .int p36_5), (4, .int p36_4), (0, .ref a0), (1, .int x1), (2, .int x2), (3, .int x3)] → W p l e { frames := 2, cells := 0, slots := 0, locals := 48 } s m [.ref a0, .int x1, .int x2, .int x3].toArray below meth c H locs 0 0 (MQ below (Ti D cs (fun r u => u = (T, y1 :: a0 :: O, (y1, .inl (cs.2.1, 3906, .inl f1)) :: (a0, .inr (12, o0 :: (.ref y1) :: o2 :: o3 :: o4 :: o5 :: o6 :: o7 :: o8 :: o9 :: o10 :: o11 :: o12 :: o13 :: o14 :: (.ref y15) :: (.int y16) :: tl)) :: X) ∧ 0 ≤ r.toInt ∧ r.toInt ≤ 1) A) [.ref a0, .int x1, .int x2, .int x3].toArray s 0 0 A) (F0 m 102 ls [.int k102_0, .int p36_4, .ref y15]) := by
              intro k102_0 H locs ls  hH hS hl
              refine t_ist hx hb hkb hH hS t_y15 (hO.no t_y15 (by decide)) (by omega) (by omega) (cp_0 _) dX12_mayStep_102 (fun H locs hH hS => ?_)
              obtain ⟨v103, ev103⟩ : ∃ y : Int32, y = p36_4 + 1 := ⟨_, rfl⟩
              have tv103 : v103.toInt = p36_4.toInt + (1) := by rw [ev103]; exact add_i rfl (by decide) (by omega) (by omega)
              refine lv_iinc (v := v103) (lv' := [(4, .int v103), (5, .int p36_5), (0, .ref a0), (1, .int x1), (2, .int x2), (3, .int x3)]) hx hb dX12_mayStep_103 hl (k := 1) rfl (by rw [ev103]; rfl) (by decide) rfl (fun ls hl => ?_)
              refine lv_goto (tgt := 173) hx hb dX12_mayStep_106 (by decide) ?_
              obtain ⟨v173, ev173⟩ : ∃ y : Int32, y = p36_5 + 1 := ⟨_, rfl⟩
              have tv173 : v173.toInt = p36_5.toInt + (1) := by rw [ev173]; exact add_i rfl (by decide) (by omega) (by omega)
              refine lv_iinc (v := v173) (lv' := [(5, .int v173), (4, .int v103), (0, .ref a0), (1, .int x1), (2, .int x2), (3, .int x3)]) hx hb dX12_mayStep_173 hl (k := 1) rfl (by rw [ev173]; rfl) (by decide) rfl (fun ls hl => ?_)
              have hd9 := dpn_step (by omega) tv173 hc59
              refine lv_goto (tgt := 36) hx hb dX12_mayStep_176 (by decide) ?_
              exact ih36 _ (by omega) v173 v103 _ _ _ rfl (by omega) (by omega) (by omega) (by omega) (by first | omega | rfl) hH hS (lv_sub hl [0, 1, 2, 3, 4, 5] rfl)
            refine lv_icmp_ge (tgt := 89) hx hb dX12_mayStep_81 (by decide) (fun c81 => ?_) (fun c81 => ?_)
            · skip
              have tc81 := f_ge (k := 1000) (by decide) c81
              refine lv_aload_n hx hb dX12_mayStep_89 rfl (lv_at hl 3 rfl) ?_
              refine lv_iload hx hb dX12_mayStep_90 (lv_at hl 0 rfl) ?_
              refine lv_sipush (v := 1000) hx hb dX12_mayStep_92 (by decide) ?_
              refine lv_isub hx hb dX12_mayStep_95 ?_
              refine lv_topi (fun v95 ev95 => ?_)
              have tv95 : v95.toInt = v59.toInt - (1000) := by rw [ev95]; exact sub_i rfl (by decide : (1000 : Int32).toInt = 1000) (by omega) (by omega)
              refine lv_iload_n hx hb dX12_mayStep_96 rfl (lv_at hl 4 rfl) ?_
              refine lv_iload_n hx hb dX12_mayStep_97 rfl (lv_at hl 5 rfl) ?_
              refine lv_iload_n hx hb dX12_mayStep_98 rfl (lv_at hl 6 rfl) ?_
              refine tk_i hH hS hA (tr_V (n := 4) (As := [.int v95, .int x1, .int x2, .int x3]) hx hb hml hown hts hkb hH (ox_map hOX rfl) hks hE hS hA (s_M_wordOf l D cs kf T O X a0 hg mq v95 x1 x2 x3 f1 o0 y1 o2 o3 o4 o5 o6 o7 o8 o9 o10 o11 o12 o13 o14 y15 y16 tl t_a0 b_hg (by omega) (by omega) (by omega) (by omega) (by omega) (by omega) s_f1 g_f1 t_y1 t_y15 (hO.sub (by decide))) kw_1486 kw_1488 ks_70 kw_13 kw_1489 (by decide +kernel) ⟨Nat.le_of_ble_eq_true rfl, Nat.le_of_ble_eq_true rfl⟩ (x_recv (ci := 12) hkb hH 1 rfl rfl) rfl rfl hl.1 (Nat.le_of_ble_eq_true rfl) dX12_mayStep_99 ⟨Nat.le_of_ble_eq_true rfl, Nat.le_of_ble_eq_true rfl⟩) (fun v99 u H locs hz9 hH hS => ?_)
              obtain ⟨rfl⟩ := hz9
              have hH : HT D cs A T (y1 :: a0 :: O) ((y1, .inl (cs.2.1, 3906, .inl f1)) :: (a0, .inr (12, o0 :: (.ref y1) :: o2 :: o3 :: o4 :: o5 :: o6 :: o7 :: o8 :: o9 :: o10 :: o11 :: o12 :: o13 :: o14 :: (.ref y15) :: (.int y16) :: tl)) :: X) H := hH
              refine W.widen (k := 0) (n := 0) (Nat.le_of_ble_eq_true rfl) (Nat.le_of_ble_eq_true rfl) ?_
              exact J102 v99 _ _ _  hH hS (lv_sub hl [1, 2, 3, 4, 5, 6] rfl)
            · skip
              have tc81 := f_nge (k := 1000) (by decide) c81
              refine lv_iload hx hb dX12_mayStep_84 (lv_at hl 0 rfl) ?_
              refine lv_goto (tgt := 102) hx hb dX12_mayStep_86 (by decide) ?_
              exact J102 v59 _ _ _  hH hS (lv_sub hl [1, 2, 3, 4, 5, 6] rfl)
    refine lv_istore (lv' := [(5, .int 0), (4, .int 0), (0, .ref a0), (1, .int x1), (2, .int x2), (3, .int x3)]) hx hb dX12_mayStep_34 hl (by decide) rfl (fun ls hl => ?_)
    have z_0 : (0 : Int32).toInt = 0 := by decide
    exact J36 _ 0 0 _ _ _ rfl (by decide) (by decide) (by decide) (by decide) (by first | omega | rfl) hH hS (lv_sub hl [0, 1, 2, 3, 4, 5] rfl)
  · skip
    have tc6 := f_eq (k := 0) (by decide) c6
    refine lv_aload_n hx hb dX12_mayStep_9 rfl (lv_at hl 0 rfl) ?_
    refine lv_iconst (v := 2) hx hb dX12_mayStep_10 (by decide) ?_
    refine lv_iload_n hx hb dX12_mayStep_11 rfl (lv_at hl 1 rfl) ?_
    refine lv_iload_n hx hb dX12_mayStep_12 rfl (lv_at hl 2 rfl) ?_
    refine lv_iload_n hx hb dX12_mayStep_13 rfl (lv_at hl 3 rfl) ?_
    have z9_2 : (2 : Int32).toInt = 2 := by decide
    refine tk_i hH hS hA (tr_V (n := 4) (As := [.int 2, .int x1, .int x2, .int x3]) hx hb hml hown hts hkb hH (ox_map hOX rfl) hks hE hS hA (s_M_wordOf l D cs kf T O X a0 hg mq (2) x1 x2 x3 f1 o0 y1 o2 o3 o4 o5 o6 o7 o8 o9 o10 o11 o12 o13 o14 y15 y16 tl t_a0 b_hg (by omega) (by omega) (by omega) (by omega) (by omega) (by omega) s_f1 g_f1 t_y1 t_y15 (hO.sub (by decide))) kw_1486 kw_1488 ks_70 kw_13 kw_1489 (by decide +kernel) ⟨Nat.le_of_ble_eq_true rfl, Nat.le_of_ble_eq_true rfl⟩ (x_recv (ci := 12) hkb hH 1 rfl rfl) rfl rfl hl.1 (Nat.le_of_ble_eq_true rfl) dX12_mayStep_14 ⟨Nat.le_of_ble_eq_true rfl, Nat.le_of_ble_eq_true rfl⟩) (fun v14 u H locs hz9 hH hS => ?_)
    obtain ⟨rfl⟩ := hz9
    have hH : HT D cs A T (y1 :: a0 :: O) ((y1, .inl (cs.2.1, 3906, .inl f1)) :: (a0, .inr (12, o0 :: (.ref y1) :: o2 :: o3 :: o4 :: o5 :: o6 :: o7 :: o8 :: o9 :: o10 :: o11 :: o12 :: o13 :: o14 :: (.ref y15) :: (.int y16) :: tl)) :: X) H := hH
    refine W.widen (k := 0) (n := 0) (Nat.le_of_ble_eq_true rfl) (Nat.le_of_ble_eq_true rfl) ?_
    refine lv_aload_n hx hb dX12_mayStep_17 rfl (lv_at hl 0 rfl) ?_
    refine x_getk (ci := 12) (C := RX12) (F := TX12) (N := 36) (v := .int y16) hx hb hts uX12 hown hkb hH 1 rfl rfl 16 (by decide) rfl kw_1239 (fun _ h9 => h9) dX12_mayStep_18 ?_
    have J29 : ∀ (k29_0 : Int32) (H : Heap) (locs : List Loc) (ls : Array Slot), (0 ≤ k29_0.toInt) → (k29_0.toInt ≤ 1) → HT D cs A T (y1 :: a0 :: O) ((y1, .inl (cs.2.1, 3906, .inl f1)) :: (a0, .inr (12, o0 :: (.ref y1) :: o2 :: o3 :: o4 :: o5 :: o6 :: o7 :: o8 :: o9 :: o10 :: o11 :: o12 :: o13 :: o14 :: (.ref y15) :: (.int y16) :: tl)) :: X) H → va_S A s.heap H locs → lv_has ls 7 [] → W p l e { frames := 2, cells := 0, slots := 0, locals := 48 } s m [.ref a0, .int x1, .int x2, .int x3].toArray below meth c H locs 0 0 (MQ below (Ti D cs (fun r u => u = (T, y1 :: a0 :: O, (y1, .inl (cs.2.1, 3906, .inl f1)) :: (a0, .inr (12, o0 :: (.ref y1) :: o2 :: o3 :: o4 :: o5 :: o6 :: o7 :: o8 :: o9 :: o10 :: o11 :: o12 :: o13 :: o14 :: (.ref y15) :: (.int y16) :: tl)) :: X) ∧ 0 ≤ r.toInt ∧ r.toInt ≤ 1) A) [.ref a0, .int x1, .int x2, .int x3].toArray s 0 0 A) (F0 m 29 ls [.int k29_0]) := by
      intro k29_0 H locs ls l_k29_0 u_k29_0 hH hS hl
      exact te_z hx hb hr hlocks (nar01 (by omega) (by omega)) hH hS (⟨rfl, by omega, by omega⟩) dX12_mayStep_29
    refine lv_icmp_gt (tgt := 28) hx hb dX12_mayStep_21 (by decide) (fun c21 => ?_) (fun c21 => ?_)
    · skip
      have fuc21 := full_i v14
      have fvc21 := full_i y16
      have tc21 := g_lt c21
      refine lv_iconst (v := 0) hx hb dX12_mayStep_28 (by decide) ?_
      exact J29 0 _ _ _ (by decide) (by decide) hH hS (lv_sub hl [] rfl)
    · skip
      have fuc21 := full_i v14
      have fvc21 := full_i y16
      have tc21 := g_nlt c21
      refine lv_iconst (v := 1) hx hb dX12_mayStep_24 (by decide) ?_
      refine lv_goto (tgt := 29) hx hb dX12_mayStep_25 (by decide) ?_
      exact J29 1 _ _ _ (by decide) (by decide) hH hS (lv_sub hl [] rfl)
set_option maxHeartbeats 4000000 in
set_option maxRecDepth 100000 in
theorem s_M_whyNotX (l : Launch) (D : va_G) (cs : CS) (kf : KF) (T : TF) (O : List Nat) (X : va_W) (a0 hg mq : Nat) (x1 : Int32) (x2 : Int64) (x4 : Int32) (x5 : Int32) (f1 : Nat → Int32) (o0 : Value) (y1 : Nat) (o2 : Value) (o3 : Value) (o4 : Value) (o5 : Value) (o6 : Value) (o7 : Value) (o8 : Value) (o9 : Value) (o10 : Value) (o11 : Value) (o12 : Value) (o13 : Value) (o14 : Value) (y15 : Nat) (y16 : Int32) (tl : List Value) (t_a0 : T a0 = some (22, hg, mq)) (b_hg : hg < 90) (l_x1 : 0 ≤ x1.toInt) (u_x1 : x1.toInt ≤ 4) (l_x5 : -1 ≤ x5.toInt) (u_x5 : x5.toInt ≤ 13) (s_f1 : B8 3906 f1) (g_f1 : f1 1 = nI (hg / 6) ∧ f1 2 = nI (hg % 6)) (t_y1 : T y1 = some (8, 3906, hg)) (t_y15 : T y15 = some (1, 900, 0)) (hO : okO T (y1 :: a0 :: O) [1]) : TK l D cs kf yX12_whyNot cX12_whyNot 7 (some (.int)) { frames := 3, cells := 0, slots := 0, locals := 74 } [.ref a0, .int x1, .long x2, .int x4, .int x5] T (y1 :: a0 :: O) ((y1, .inl (cs.2.1, 3906, .inl f1)) :: (a0, .inr (12, o0 :: (.ref y1) :: o2 :: o3 :: o4 :: o5 :: o6 :: o7 :: o8 :: o9 :: o10 :: o11 :: o12 :: o13 :: o14 :: (.ref y15) :: (.int y16) :: tl)) :: X) (Ti D cs (fun r u => ∃ (n1_16 : Int32), u = (T, y1 :: a0 :: O, (y1, .inl (cs.2.1, 3906, .inl f1)) :: (a0, .inr (12, o0 :: (.ref y1) :: o2 :: o3 :: o4 :: o5 :: o6 :: o7 :: o8 :: o9 :: o10 :: o11 :: o12 :: o13 :: o14 :: (.ref y15) :: (.int n1_16) :: tl)) :: X) ∧ 0 ≤ r.toInt ∧ r.toInt ≤ 3 ∧ (r.toInt ≠ 0 ∨ (0 ≤ x2.toInt ∧ x2.toInt ≤ 13 ∧ inF x4.toInt64 x2.toInt32 ≠ 1)))) := by
  refine tk_of (by decide) (Nat.le_of_ble_eq_true rfl) (fun p e s m below meth c ls A H locs hx hb hr hml hown hts hlocks hnm hkb hH hS hA hOX hks hE hl => ?_)
  have hown : s.vm.findClass RX12 = some m.cls := hown
  have hl : lv_has ls 7 [(0, .ref a0), (1, .int x1), (2, .long x2), (4, .int x4), (5, .int x5)] := hl
  have hOXf := hOX
  refine lv_aload_n hx hb dX12_whyNot_0 rfl (lv_at hl 0 rfl) ?_
  refine lv_lload_n hx hb dX12_whyNot_1 rfl (lv_at hl 2 rfl) ?_
  refine tk_i hH hS hA (tr_V (n := 1) (As := [.long x2]) hx hb hml hown hts hkb hH (ox_map hOX rfl) hks hE hS hA (s_M_isHoldX l D cs kf T O X a0 hg mq x2 f1 o0 y1 o2 o3 o4 o5 o6 o7 o8 o9 o10 o11 o12 o13 o14 y15 y16 tl t_a0 b_hg s_f1 g_f1 t_y1 t_y15 (hO.sub (by decide))) kw_1454 kw_1456 ks_64 kw_13 kw_1457 (by decide +kernel) ⟨Nat.le_of_ble_eq_true rfl, Nat.le_of_ble_eq_true rfl⟩ (x_recv (ci := 12) hkb hH 1 rfl rfl) rfl rfl hl.1 (Nat.le_of_ble_eq_true rfl) dX12_whyNot_2 ⟨Nat.le_of_ble_eq_true rfl, Nat.le_of_ble_eq_true rfl⟩) (fun v2 u H locs hz9 hH hS => ?_)
  obtain ⟨rfl, l_v2, u_v2, x_v20⟩ := hz9
  have hH : HT D cs A T (y1 :: a0 :: O) ((y1, .inl (cs.2.1, 3906, .inl f1)) :: (a0, .inr (12, o0 :: (.ref y1) :: o2 :: o3 :: o4 :: o5 :: o6 :: o7 :: o8 :: o9 :: o10 :: o11 :: o12 :: o13 :: o14 :: (.ref y15) :: (.int y16) :: tl)) :: X) H := hH
  refine W.widen (k := 0) (n := 0) (Nat.le_of_ble_eq_true rfl) (Nat.le_of_ble_eq_true rfl) ?_
  refine lv_if_ne (tgt := 10) hx hb dX12_whyNot_5 (by decide) (fun c5 => ?_) (fun c5 => ?_)
  · skip
    have tc5 := f_ne (k := 0) (by decide) c5
    replace x_v20 := x_v20.resolve_left tc5
    refine lv_lload_n hx hb dX12_whyNot_10 rfl (lv_at hl 2 rfl) ?_
    refine lv_l2i hx hb dX12_whyNot_11 rfl ?_
    refine lv_topi (fun v11 ev11 => ?_)
    have tv11 : v11.toInt = x2.toInt := by rw [ev11]; exact l2i_b (by omega) (by omega)
    refine lv_istore (lv' := [(6, .int v11), (0, .ref a0), (1, .int x1), (2, .long x2), (4, .int x4), (5, .int x5)]) hx hb dX12_whyNot_12 hl (by decide) rfl (fun ls hl => ?_)
    refine lv_aload_n hx hb dX12_whyNot_14 rfl (lv_at hl 1 rfl) ?_
    refine lv_iload hx hb dX12_whyNot_15 (lv_at hl 0 rfl) ?_
    refine tk_i hH hS hA (tr_V (n := 1) (As := [.int v11]) hx hb hml hown hts hkb hH (ox_map hOX rfl) hks hE hS hA (s_M_isOpenX l D cs kf T O X a0 hg mq v11 f1 o0 y1 o2 o3 o4 o5 o6 o7 o8 o9 o10 o11 o12 o13 o14 y15 y16 tl t_a0 b_hg (by omega) (by omega) s_f1 g_f1 t_y1 t_y15 (hO.sub (by decide))) kw_1462 kw_1464 ks_66 kw_13 kw_1465 (by decide +kernel) ⟨Nat.le_of_ble_eq_true rfl, Nat.le_of_ble_eq_true rfl⟩ (x_recv (ci := 12) hkb hH 1 rfl rfl) rfl rfl hl.1 (Nat.le_of_ble_eq_true rfl) dX12_whyNot_17 ⟨Nat.le_of_ble_eq_true rfl, Nat.le_of_ble_eq_true rfl⟩) (fun v17 u H locs hz9 hH hS => ?_)
    obtain ⟨rfl, l_v17, u_v17⟩ := hz9
    have hH : HT D cs A T (y1 :: a0 :: O) ((y1, .inl (cs.2.1, 3906, .inl f1)) :: (a0, .inr (12, o0 :: (.ref y1) :: o2 :: o3 :: o4 :: o5 :: o6 :: o7 :: o8 :: o9 :: o10 :: o11 :: o12 :: o13 :: o14 :: (.ref y15) :: (.int y16) :: tl)) :: X) H := hH
    refine W.widen (k := 0) (n := 0) (Nat.le_of_ble_eq_true rfl) (Nat.le_of_ble_eq_true rfl) ?_
    refine lv_if_eq (tgt := 34) hx hb dX12_whyNot_20 (by decide) (fun c20 => ?_) (fun c20 => ?_)
    · skip
      have tc20 := f_eq (k := 0) (by decide) c20
      refine lv_iconst (v := 2) hx hb dX12_whyNot_34 (by decide) ?_
      have z9_2 : (2 : Int32).toInt = 2 := by decide
      exact te_i hx hb hr hlocks hH hS (⟨y16, rfl, by decide, by decide, (Or.inl (by decide))⟩) dX12_whyNot_35
    · skip
      have tc20 := f_ne (k := 0) (by decide) c20
      refine lv_iload hx hb dX12_whyNot_23 (lv_at hl 4 rfl) ?_
      refine lv_i2l hx hb dX12_whyNot_25 rfl ?_
      refine lv_iload hx hb dX12_whyNot_26 (lv_at hl 0 rfl) ?_
      refine tk_i hH hS hA (tr_S (n := 2) (As := [.long x4.toInt64, .int v11]) hx hb hml hown hts hkb hH (ox_map hOX rfl) hks hE hS hA (s_M_isIn2 l D cs kf T (y1 :: a0 :: O) ((y1, .inl (cs.2.1, 3906, .inl f1)) :: (a0, .inr (12, o0 :: (.ref y1) :: o2 :: o3 :: o4 :: o5 :: o6 :: o7 :: o8 :: o9 :: o10 :: o11 :: o12 :: o13 :: o14 :: (.ref y15) :: (.int y16) :: tl)) :: X) x4.toInt64 v11  (hO.sub (by decide))) kw_1440 kw_1441 kw_13 kw_1442 (by decide +kernel) ⟨Nat.le_of_ble_eq_true rfl, Nat.le_of_ble_eq_true rfl⟩ rfl rfl hl.1 (Nat.le_of_ble_eq_true rfl) dX12_whyNot_28 ⟨Nat.le_of_ble_eq_true rfl, Nat.le_of_ble_eq_true rfl⟩) (fun v28 u H locs hz9 hH hS => ?_)
      obtain ⟨rfl, l_v28, u_v28, x_v280⟩ := hz9
      have hH : HT D cs A T (y1 :: a0 :: O) ((y1, .inl (cs.2.1, 3906, .inl f1)) :: (a0, .inr (12, o0 :: (.ref y1) :: o2 :: o3 :: o4 :: o5 :: o6 :: o7 :: o8 :: o9 :: o10 :: o11 :: o12 :: o13 :: o14 :: (.ref y15) :: (.int y16) :: tl)) :: X) H := hH
      refine W.widen (k := 0) (n := 0) (Nat.le_of_ble_eq_true rfl) (Nat.le_of_ble_eq_true rfl) ?_
      refine lv_if_eq (tgt := 36) hx hb dX12_whyNot_31 (by decide) (fun c31 => ?_) (fun c31 => ?_)
      · skip
        have tc31 := f_eq (k := 0) (by decide) c31
        refine lv_iload hx hb dX12_whyNot_36 (lv_at hl 5 rfl) ?_
        refine lv_iconst (v := (-1)) hx hb dX12_whyNot_38 (by decide) ?_
        refine lv_icmp_ne (tgt := 63) hx hb dX12_whyNot_39 (by decide) (fun c39 => ?_) (fun c39 => ?_)
        · skip
          have tc39 := f_ne (k := -1) (by decide) c39
          refine lv_aload_n hx hb dX12_whyNot_63 rfl (lv_at hl 1 rfl) ?_
          refine lv_aload_n hx hb dX12_whyNot_64 rfl (lv_at hl 1 rfl) ?_
          refine x_getk (ci := 12) (C := RX12) (F := TX12) (N := 36) (v := .ref y1) hx hb hts uX12 hown hkb hH 1 rfl rfl 1 (by decide) rfl kw_1224 (fun _ h9 => h9) dX12_whyNot_65 ?_
          refine lv_bipush (v := 49) hx hb dX12_whyNot_68 (by decide) ?_
          refine lv_iload_n hx hb dX12_whyNot_70 rfl (lv_at hl 2 rfl) ?_
          refine lv_iadd hx hb dX12_whyNot_71 ?_
          refine lv_topi (fun v71 ev71 => ?_)
          have tv71 : v71.toInt = (49) + x1.toInt := by rw [ev71]; exact add_i (by decide : (49 : Int32).toInt = 49) rfl (by omega) (by omega)
          refine xa_ild hx hb hkb hH 0 rfl (by omega) (by omega) dX12_whyNot_72 ?_
          refine lv_topi (fun v72 ev72 => ?_)
          have tv72 : v72 = f1 v71.toInt.toNat := ev72
          refine x_putk (ci := 12) (v := .int v72) (ty := tyX12 16) (C := RX12) (F := TX12) (N := 36) hx hb hts uX12 tyX12 tyX12_ok nmX12 hown hkb hH hS 1 rfl rfl 16 (by decide) kw_1239 (fun _ h9 => h9) rfl (tyX12_ok 16 (by decide)) rfl rfl (by show 16 < tl.length + 17; omega) dX12_whyNot_73 (fun H locs hH hS => ?_)
          have hH : HT D cs A T (y1 :: a0 :: O) ((y1, .inl (cs.2.1, 3906, .inl f1)) :: (a0, .inr (12, o0 :: (.ref y1) :: o2 :: o3 :: o4 :: o5 :: o6 :: o7 :: o8 :: o9 :: o10 :: o11 :: o12 :: o13 :: o14 :: (.ref y15) :: (.int v72) :: tl)) :: X) H := hH
          refine lv_aload_n hx hb dX12_whyNot_76 rfl (lv_at hl 1 rfl) ?_
          refine x_getk (ci := 12) (C := RX12) (F := TX12) (N := 36) (v := .ref y1) hx hb hts uX12 hown hkb hH 1 rfl rfl 1 (by decide) rfl kw_1224 (fun _ h9 => h9) dX12_whyNot_77 ?_
          refine lv_iconst (v := 5) hx hb dX12_whyNot_80 (by decide) ?_
          refine xa_ild hx hb hkb hH 0 rfl (by decide) (by decide) dX12_whyNot_81 ?_
          refine lv_topi (fun v81 ev81 => ?_)
          have tv81 : v81 = f1 5 := by rw [ev81]; rfl
          have bv81 : 0 ≤ v81.toInt ∧ v81.toInt ≤ 16383 := by rw [ev81]; exact (s_f1.at (by decide) 5).2.2.2.1 (by decide)
          refine lv_i2l hx hb dX12_whyNot_82 rfl ?_
          refine lv_iload hx hb dX12_whyNot_83 (lv_at hl 5 rfl) ?_
          refine tk_i hH hS hA (tr_S (n := 2) (As := [.long v81.toInt64, .int x5]) hx hb hml hown hts hkb hH (ox_map hOX rfl) hks hE hS hA (s_M_isIn2 l D cs kf T (y1 :: a0 :: O) ((y1, .inl (cs.2.1, 3906, .inl f1)) :: (a0, .inr (12, o0 :: (.ref y1) :: o2 :: o3 :: o4 :: o5 :: o6 :: o7 :: o8 :: o9 :: o10 :: o11 :: o12 :: o13 :: o14 :: (.ref y15) :: (.int v72) :: tl)) :: X) v81.toInt64 x5  (hO.sub (by decide))) kw_1440 kw_1441 kw_13 kw_1442 (by decide +kernel) ⟨Nat.le_of_ble_eq_true rfl, Nat.le_of_ble_eq_true rfl⟩ rfl rfl hl.1 (Nat.le_of_ble_eq_true rfl) dX12_whyNot_85 ⟨Nat.le_of_ble_eq_true rfl, Nat.le_of_ble_eq_true rfl⟩) (fun v85 u H locs hz9 hH hS => ?_)
          obtain ⟨rfl, l_v85, u_v85, x_v850⟩ := hz9
          have hH : HT D cs A T (y1 :: a0 :: O) ((y1, .inl (cs.2.1, 3906, .inl f1)) :: (a0, .inr (12, o0 :: (.ref y1) :: o2 :: o3 :: o4 :: o5 :: o6 :: o7 :: o8 :: o9 :: o10 :: o11 :: o12 :: o13 :: o14 :: (.ref y15) :: (.int v72) :: tl)) :: X) H := hH
          refine W.widen (k := 0) (n := 0) (Nat.le_of_ble_eq_true rfl) (Nat.le_of_ble_eq_true rfl) ?_
          refine lv_if_ne (tgt := 107) hx hb dX12_whyNot_88 (by decide) (fun c88 => ?_) (fun c88 => ?_)
          · skip
            have tc88 := f_ne (k := 0) (by decide) c88
            refine lv_iconst (v := 3) hx hb dX12_whyNot_107 (by decide) ?_
            have z9_3 : (3 : Int32).toInt = 3 := by decide
            exact te_i hx hb hr hlocks hH hS (⟨v72, rfl, by decide, by decide, (Or.inl (by decide))⟩) dX12_whyNot_108
          · skip
            have tc88 := f_eq (k := 0) (by decide) c88
            refine lv_aload_n hx hb dX12_whyNot_91 rfl (lv_at hl 1 rfl) ?_
            refine lv_iload_n hx hb dX12_whyNot_92 rfl (lv_at hl 2 rfl) ?_
            refine lv_iload hx hb dX12_whyNot_93 (lv_at hl 5 rfl) ?_
            refine lv_iload hx hb dX12_whyNot_95 (lv_at hl 0 rfl) ?_
            refine tk_i hH hS hA (tr_V (n := 3) (As := [.int x1, .int x5, .int v11]) hx hb hml hown hts hkb hH (ox_map hOX rfl) hks hE hS hA (s_M_mayStepX l D cs kf T O X a0 hg mq x1 x5 v11 f1 o0 y1 o2 o3 o4 o5 o6 o7 o8 o9 o10 o11 o12 o13 o14 y15 v72 tl t_a0 b_hg (by omega) (by omega) (by omega) (by omega) (by omega) (by omega) s_f1 g_f1 t_y1 t_y15 (hO.sub (by decide))) kw_1482 kw_1484 ks_69 kw_13 kw_1485 (by decide +kernel) ⟨Nat.le_of_ble_eq_true rfl, Nat.le_of_ble_eq_true rfl⟩ (x_recv (ci := 12) hkb hH 1 rfl rfl) rfl rfl hl.1 (Nat.le_of_ble_eq_true rfl) dX12_whyNot_97 ⟨Nat.le_of_ble_eq_true rfl, Nat.le_of_ble_eq_true rfl⟩) (fun v97 u H locs hz9 hH hS => ?_)
            obtain ⟨rfl, l_v97, u_v97⟩ := hz9
            have hH : HT D cs A T (y1 :: a0 :: O) ((y1, .inl (cs.2.1, 3906, .inl f1)) :: (a0, .inr (12, o0 :: (.ref y1) :: o2 :: o3 :: o4 :: o5 :: o6 :: o7 :: o8 :: o9 :: o10 :: o11 :: o12 :: o13 :: o14 :: (.ref y15) :: (.int v72) :: tl)) :: X) H := hH
            refine W.widen (k := 0) (n := 0) (Nat.le_of_ble_eq_true rfl) (Nat.le_of_ble_eq_true rfl) ?_
            refine lv_if_eq (tgt := 107) hx hb dX12_whyNot_100 (by decide) (fun c100 => ?_) (fun c100 => ?_)
            · skip
              have tc100 := f_eq (k := 0) (by decide) c100
              refine lv_iconst (v := 3) hx hb dX12_whyNot_107 (by decide) ?_
              have z9_3 : (3 : Int32).toInt = 3 := by decide
              exact te_i hx hb hr hlocks hH hS (⟨v72, rfl, by decide, by decide, (Or.inl (by decide))⟩) dX12_whyNot_108
            · skip
              have tc100 := f_ne (k := 0) (by decide) c100
              refine lv_iconst (v := 0) hx hb dX12_whyNot_103 (by decide) ?_
              refine lv_goto (tgt := 108) hx hb dX12_whyNot_104 (by decide) ?_
              have z9_0 : (0 : Int32).toInt = 0 := by decide
              exact te_i hx hb hr hlocks hH hS (⟨v72, rfl, by decide, by decide, (Or.inr ⟨by omega, by omega, by rw [← ev11]; exact inF_z x_v280 tc31⟩)⟩) dX12_whyNot_108
        · skip
          have tc39 := f_eq (k := -1) (by decide) c39
          refine lv_aload_n hx hb dX12_whyNot_42 rfl (lv_at hl 1 rfl) ?_
          refine x_getk (ci := 12) (C := RX12) (F := TX12) (N := 36) (v := .ref y1) hx hb hts uX12 hown hkb hH 1 rfl rfl 1 (by decide) rfl kw_1224 (fun _ h9 => h9) dX12_whyNot_43 ?_
          refine lv_iconst (v := 4) hx hb dX12_whyNot_46 (by decide) ?_
          refine xa_ild hx hb hkb hH 0 rfl (by decide) (by decide) dX12_whyNot_47 ?_
          refine lv_topi (fun v47 ev47 => ?_)
          have tv47 : v47 = f1 4 := by rw [ev47]; rfl
          have bv47 : 0 ≤ v47.toInt ∧ v47.toInt ≤ 16383 := by rw [ev47]; exact (s_f1.at (by decide) 4).2.2.1 (by decide)
          refine lv_i2l hx hb dX12_whyNot_48 rfl ?_
          refine lv_iload hx hb dX12_whyNot_49 (lv_at hl 0 rfl) ?_
          refine tk_i hH hS hA (tr_S (n := 2) (As := [.long v47.toInt64, .int v11]) hx hb hml hown hts hkb hH (ox_map hOX rfl) hks hE hS hA (s_M_isIn2 l D cs kf T (y1 :: a0 :: O) ((y1, .inl (cs.2.1, 3906, .inl f1)) :: (a0, .inr (12, o0 :: (.ref y1) :: o2 :: o3 :: o4 :: o5 :: o6 :: o7 :: o8 :: o9 :: o10 :: o11 :: o12 :: o13 :: o14 :: (.ref y15) :: (.int y16) :: tl)) :: X) v47.toInt64 v11  (hO.sub (by decide))) kw_1440 kw_1441 kw_13 kw_1442 (by decide +kernel) ⟨Nat.le_of_ble_eq_true rfl, Nat.le_of_ble_eq_true rfl⟩ rfl rfl hl.1 (Nat.le_of_ble_eq_true rfl) dX12_whyNot_51 ⟨Nat.le_of_ble_eq_true rfl, Nat.le_of_ble_eq_true rfl⟩) (fun v51 u H locs hz9 hH hS => ?_)
          obtain ⟨rfl, l_v51, u_v51, x_v510⟩ := hz9
          have hH : HT D cs A T (y1 :: a0 :: O) ((y1, .inl (cs.2.1, 3906, .inl f1)) :: (a0, .inr (12, o0 :: (.ref y1) :: o2 :: o3 :: o4 :: o5 :: o6 :: o7 :: o8 :: o9 :: o10 :: o11 :: o12 :: o13 :: o14 :: (.ref y15) :: (.int y16) :: tl)) :: X) H := hH
          refine W.widen (k := 0) (n := 0) (Nat.le_of_ble_eq_true rfl) (Nat.le_of_ble_eq_true rfl) ?_
          refine lv_if_eq (tgt := 61) hx hb dX12_whyNot_54 (by decide) (fun c54 => ?_) (fun c54 => ?_)
          · skip
            have tc54 := f_eq (k := 0) (by decide) c54
            refine lv_iconst (v := 3) hx hb dX12_whyNot_61 (by decide) ?_
            have z9_3 : (3 : Int32).toInt = 3 := by decide
            exact te_i hx hb hr hlocks hH hS (⟨y16, rfl, by decide, by decide, (Or.inl (by decide))⟩) dX12_whyNot_62
          · skip
            have tc54 := f_ne (k := 0) (by decide) c54
            refine lv_iconst (v := 0) hx hb dX12_whyNot_57 (by decide) ?_
            refine lv_goto (tgt := 62) hx hb dX12_whyNot_58 (by decide) ?_
            have z9_0 : (0 : Int32).toInt = 0 := by decide
            exact te_i hx hb hr hlocks hH hS (⟨y16, rfl, by decide, by decide, (Or.inr ⟨by omega, by omega, by rw [← ev11]; exact inF_z x_v280 tc31⟩)⟩) dX12_whyNot_62
      · skip
        have tc31 := f_ne (k := 0) (by decide) c31
        refine lv_iconst (v := 2) hx hb dX12_whyNot_34 (by decide) ?_
        have z9_2 : (2 : Int32).toInt = 2 := by decide
        exact te_i hx hb hr hlocks hH hS (⟨y16, rfl, by decide, by decide, (Or.inl (by decide))⟩) dX12_whyNot_35
  · skip
    have tc5 := f_eq (k := 0) (by decide) c5
    clear x_v20
    refine lv_iconst (v := 1) hx hb dX12_whyNot_8 (by decide) ?_
    have z9_1 : (1 : Int32).toInt = 1 := by decide
    exact te_i hx hb hr hlocks hH hS (⟨y16, rfl, by decide, by decide, (Or.inl (by decide))⟩) dX12_whyNot_9
theorem dX12_climb_0 : decode cX12_climb 0 = .ok (.aload_n 0, 1) := by decide +kernel
theorem dX12_climb_1 : decode cX12_climb 1 = .ok (.iconst 0, 1) := by decide +kernel
theorem dX12_climb_2 : decode cX12_climb 2 = .ok (.putfield 1, 3) := by decide +kernel
theorem dX12_climb_5 : decode cX12_climb 5 = .ok (.aload_n 0, 1) := by decide +kernel
theorem dX12_climb_6 : decode cX12_climb 6 = .ok (.iload_n 1, 1) := by decide +kernel
theorem dX12_climb_7 : decode cX12_climb 7 = .ok (.invokevirtual 289, 3) := by decide +kernel
theorem dX12_climb_10 : decode cX12_climb 10 = .ok (.istore_n 2, 1) := by decide +kernel
theorem dX12_climb_11 : decode cX12_climb 11 = .ok (.iload_n 2, 1) := by decide +kernel
theorem dX12_climb_12 : decode cX12_climb 12 = .ok (.ifCond .eq 5, 3) := by decide +kernel
theorem dX12_climb_15 : decode cX12_climb 15 = .ok (.iload_n 2, 1) := by decide +kernel
theorem dX12_climb_16 : decode cX12_climb 16 = .ok (.ireturn, 1) := by decide +kernel
theorem dX12_climb_17 : decode cX12_climb 17 = .ok (.aload_n 0, 1) := by decide +kernel
theorem dX12_climb_18 : decode cX12_climb 18 = .ok (.iload_n 1, 1) := by decide +kernel
theorem dX12_climb_19 : decode cX12_climb 19 = .ok (.invokevirtual 292, 3) := by decide +kernel
theorem dX12_climb_22 : decode cX12_climb 22 = .ok (.iconst (-1), 1) := by decide +kernel
theorem dX12_climb_23 : decode cX12_climb 23 = .ok (.if_icmp .eq 6, 3) := by decide +kernel
theorem dX12_climb_26 : decode cX12_climb 26 = .ok (.bipush (-5), 2) := by decide +kernel
theorem dX12_climb_28 : decode cX12_climb 28 = .ok (.ireturn, 1) := by decide +kernel
theorem dX12_climb_29 : decode cX12_climb 29 = .ok (.aload_n 0, 1) := by decide +kernel
theorem dX12_climb_30 : decode cX12_climb 30 = .ok (.invokevirtual 295, 3) := by decide +kernel
theorem dX12_climb_33 : decode cX12_climb 33 = .ok (.aload_n 0, 1) := by decide +kernel
theorem dX12_climb_34 : decode cX12_climb 34 = .ok (.aload_n 0, 1) := by decide +kernel
theorem dX12_climb_35 : decode cX12_climb 35 = .ok (.getfield 75, 3) := by decide +kernel
theorem dX12_climb_38 : decode cX12_climb 38 = .ok (.bipush 40, 2) := by decide +kernel
theorem dX12_climb_40 : decode cX12_climb 40 = .ok (.iload_n 1, 1) := by decide +kernel
theorem dX12_climb_41 : decode cX12_climb 41 = .ok (.imul, 1) := by decide +kernel
theorem dX12_climb_42 : decode cX12_climb 42 = .ok (.laload, 1) := by decide +kernel
theorem dX12_climb_43 : decode cX12_climb 43 = .ok (.l2i, 1) := by decide +kernel
theorem dX12_climb_44 : decode cX12_climb 44 = .ok (.invokevirtual 298, 3) := by decide +kernel
theorem dX12_climb_47 : decode cX12_climb 47 = .ok (.istore_n 3, 1) := by decide +kernel
theorem dX12_climb_48 : decode cX12_climb 48 = .ok (.aload_n 0, 1) := by decide +kernel
theorem dX12_climb_49 : decode cX12_climb 49 = .ok (.invokevirtual 301, 3) := by decide +kernel
theorem dX12_climb_52 : decode cX12_climb 52 = .ok (.iload_n 3, 1) := by decide +kernel
theorem dX12_climb_53 : decode cX12_climb 53 = .ok (.ireturn, 1) := by decide +kernel
theorem dX12_judge_0 : decode cX12_judge 0 = .ok (.aload_n 0, 1) := by decide +kernel
theorem dX12_judge_1 : decode cX12_judge 1 = .ok (.iconst 0, 1) := by decide +kernel
theorem dX12_judge_2 : decode cX12_judge 2 = .ok (.putfield 1, 3) := by decide +kernel
theorem dX12_judge_5 : decode cX12_judge 5 = .ok (.iload_n 2, 1) := by decide +kernel
theorem dX12_judge_6 : decode cX12_judge 6 = .ok (.i2l, 1) := by decide +kernel
theorem dX12_judge_7 : decode cX12_judge 7 = .ok (.lconst 0, 1) := by decide +kernel
theorem dX12_judge_8 : decode cX12_judge 8 = .ok (.ldc2_w 287, 3) := by decide +kernel
theorem dX12_judge_11 : decode cX12_judge 11 = .ok (.invokestatic 144, 3) := by decide +kernel
theorem dX12_judge_14 : decode cX12_judge 14 = .ok (.ifCond .ne 6, 3) := by decide +kernel
theorem dX12_judge_17 : decode cX12_judge 17 = .ok (.bipush (-2), 2) := by decide +kernel
theorem dX12_judge_19 : decode cX12_judge 19 = .ok (.ireturn, 1) := by decide +kernel
theorem dX12_judge_20 : decode cX12_judge 20 = .ok (.aload_n 0, 1) := by decide +kernel
theorem dX12_judge_21 : decode cX12_judge 21 = .ok (.iload_n 1, 1) := by decide +kernel
theorem dX12_judge_22 : decode cX12_judge 22 = .ok (.invokevirtual 289, 3) := by decide +kernel
theorem dX12_judge_25 : decode cX12_judge 25 = .ok (.istore_n 3, 1) := by decide +kernel
theorem dX12_judge_26 : decode cX12_judge 26 = .ok (.iload_n 3, 1) := by decide +kernel
theorem dX12_judge_27 : decode cX12_judge 27 = .ok (.ifCond .eq 5, 3) := by decide +kernel
theorem dX12_judge_30 : decode cX12_judge 30 = .ok (.iload_n 3, 1) := by decide +kernel
theorem dX12_judge_31 : decode cX12_judge 31 = .ok (.ireturn, 1) := by decide +kernel
theorem dX12_judge_32 : decode cX12_judge 32 = .ok (.aload_n 0, 1) := by decide +kernel
theorem dX12_judge_33 : decode cX12_judge 33 = .ok (.iload_n 1, 1) := by decide +kernel
theorem dX12_judge_34 : decode cX12_judge 34 = .ok (.invokevirtual 292, 3) := by decide +kernel
theorem dX12_judge_37 : decode cX12_judge 37 = .ok (.istore 4, 2) := by decide +kernel
theorem dX12_judge_39 : decode cX12_judge 39 = .ok (.iload_n 2, 1) := by decide +kernel
theorem dX12_judge_40 : decode cX12_judge 40 = .ok (.ifCond .ne 8, 3) := by decide +kernel
theorem dX12_judge_43 : decode cX12_judge 43 = .ok (.iload 4, 2) := by decide +kernel
theorem dX12_judge_45 : decode cX12_judge 45 = .ok (.goto 30, 3) := by decide +kernel
theorem dX12_judge_48 : decode cX12_judge 48 = .ok (.iload_n 2, 1) := by decide +kernel
theorem dX12_judge_49 : decode cX12_judge 49 = .ok (.iconst 1, 1) := by decide +kernel
theorem dX12_judge_50 : decode cX12_judge 50 = .ok (.if_icmp .ne 10, 3) := by decide +kernel
theorem dX12_judge_53 : decode cX12_judge 53 = .ok (.aload_n 0, 1) := by decide +kernel
theorem dX12_judge_54 : decode cX12_judge 54 = .ok (.getfield 277, 3) := by decide +kernel
theorem dX12_judge_57 : decode cX12_judge 57 = .ok (.goto 18, 3) := by decide +kernel
theorem dX12_judge_60 : decode cX12_judge 60 = .ok (.aload_n 0, 1) := by decide +kernel
theorem dX12_judge_61 : decode cX12_judge 61 = .ok (.getfield 277, 3) := by decide +kernel
theorem dX12_judge_64 : decode cX12_judge 64 = .ok (.ifCond .ne 10, 3) := by decide +kernel
theorem dX12_judge_67 : decode cX12_judge 67 = .ok (.aload_n 0, 1) := by decide +kernel
theorem dX12_judge_68 : decode cX12_judge 68 = .ok (.getfield 280, 3) := by decide +kernel
theorem dX12_judge_71 : decode cX12_judge 71 = .ok (.goto 4, 3) := by decide +kernel
theorem dX12_judge_74 : decode cX12_judge 74 = .ok (.iconst 0, 1) := by decide +kernel
theorem dX12_judge_75 : decode cX12_judge 75 = .ok (.ireturn, 1) := by decide +kernel
theorem dX12_told_0 : decode cX12_told 0 = .ok (.aload_n 0, 1) := by decide +kernel
theorem dX12_told_1 : decode cX12_told 1 = .ok (.iconst 0, 1) := by decide +kernel
theorem dX12_told_2 : decode cX12_told 2 = .ok (.putfield 277, 3) := by decide +kernel
theorem dX12_told_5 : decode cX12_told 5 = .ok (.aload_n 0, 1) := by decide +kernel
theorem dX12_told_6 : decode cX12_told 6 = .ok (.iconst 0, 1) := by decide +kernel
theorem dX12_told_7 : decode cX12_told 7 = .ok (.putfield 280, 3) := by decide +kernel
theorem dX12_told_10 : decode cX12_told 10 = .ok (.aload_n 0, 1) := by decide +kernel
theorem dX12_told_11 : decode cX12_told 11 = .ok (.iconst 0, 1) := by decide +kernel
theorem dX12_told_12 : decode cX12_told 12 = .ok (.putfield 266, 3) := by decide +kernel
theorem dX12_told_15 : decode cX12_told 15 = .ok (.aload_n 0, 1) := by decide +kernel
theorem dX12_told_16 : decode cX12_told 16 = .ok (.getfield 72, 3) := by decide +kernel
theorem dX12_told_19 : decode cX12_told 19 = .ok (.iload_n 1, 1) := by decide +kernel
theorem dX12_told_20 : decode cX12_told 20 = .ok (.iaload, 1) := by decide +kernel
theorem dX12_told_21 : decode cX12_told 21 = .ok (.istore_n 2, 1) := by decide +kernel
theorem dX12_told_22 : decode cX12_told 22 = .ok (.iload_n 2, 1) := by decide +kernel
theorem dX12_told_23 : decode cX12_told 23 = .ok (.ifCond .eq 19, 3) := by decide +kernel
theorem dX12_told_26 : decode cX12_told 26 = .ok (.aload_n 0, 1) := by decide +kernel
theorem dX12_told_27 : decode cX12_told 27 = .ok (.aload_n 0, 1) := by decide +kernel
theorem dX12_told_28 : decode cX12_told 28 = .ok (.getfield 75, 3) := by decide +kernel
theorem dX12_told_31 : decode cX12_told 31 = .ok (.bipush 40, 2) := by decide +kernel
theorem dX12_told_33 : decode cX12_told 33 = .ok (.iload_n 1, 1) := by decide +kernel
theorem dX12_told_34 : decode cX12_told 34 = .ok (.imul, 1) := by decide +kernel
theorem dX12_told_35 : decode cX12_told 35 = .ok (.laload, 1) := by decide +kernel
theorem dX12_told_36 : decode cX12_told 36 = .ok (.invokevirtual 222, 3) := by decide +kernel
theorem dX12_told_39 : decode cX12_told 39 = .ok (.ifCond .ne 10, 3) := by decide +kernel
theorem dX12_told_42 : decode cX12_told 42 = .ok (.aload_n 0, 1) := by decide +kernel
theorem dX12_told_43 : decode cX12_told 43 = .ok (.iconst 1, 1) := by decide +kernel
theorem dX12_told_44 : decode cX12_told 44 = .ok (.putfield 277, 3) := by decide +kernel
theorem dX12_told_47 : decode cX12_told 47 = .ok (.iconst 0, 1) := by decide +kernel
theorem dX12_told_48 : decode cX12_told 48 = .ok (.ireturn, 1) := by decide +kernel
theorem dX12_told_49 : decode cX12_told 49 = .ok (.iconst 0, 1) := by decide +kernel
theorem dX12_told_50 : decode cX12_told 50 = .ok (.istore_n 3, 1) := by decide +kernel
theorem dX12_told_51 : decode cX12_told 51 = .ok (.iconst (-1), 1) := by decide +kernel
theorem dX12_told_52 : decode cX12_told 52 = .ok (.istore 4, 2) := by decide +kernel
theorem dX12_told_54 : decode cX12_told 54 = .ok (.iconst 1, 1) := by decide +kernel
theorem dX12_told_55 : decode cX12_told 55 = .ok (.istore 5, 2) := by decide +kernel
theorem dX12_told_57 : decode cX12_told 57 = .ok (.iload 5, 2) := by decide +kernel
theorem dX12_told_59 : decode cX12_told 59 = .ok (.iload_n 2, 1) := by decide +kernel
theorem dX12_told_60 : decode cX12_told 60 = .ok (.if_icmp .ge 116, 3) := by decide +kernel
theorem dX12_told_63 : decode cX12_told 63 = .ok (.aload_n 0, 1) := by decide +kernel
theorem dX12_told_64 : decode cX12_told 64 = .ok (.getfield 75, 3) := by decide +kernel
theorem dX12_told_67 : decode cX12_told 67 = .ok (.bipush 40, 2) := by decide +kernel
theorem dX12_told_69 : decode cX12_told 69 = .ok (.iload_n 1, 1) := by decide +kernel
theorem dX12_told_70 : decode cX12_told 70 = .ok (.imul, 1) := by decide +kernel
theorem dX12_told_71 : decode cX12_told 71 = .ok (.iload 5, 2) := by decide +kernel
theorem dX12_told_73 : decode cX12_told 73 = .ok (.iadd, 1) := by decide +kernel
theorem dX12_told_74 : decode cX12_told 74 = .ok (.laload, 1) := by decide +kernel
theorem dX12_told_75 : decode cX12_told 75 = .ok (.lstore 6, 2) := by decide +kernel
theorem dX12_told_77 : decode cX12_told 77 = .ok (.aload_n 0, 1) := by decide +kernel
theorem dX12_told_78 : decode cX12_told 78 = .ok (.aload_n 0, 1) := by decide +kernel
theorem dX12_told_79 : decode cX12_told 79 = .ok (.aload_n 0, 1) := by decide +kernel
theorem dX12_told_80 : decode cX12_told 80 = .ok (.getfield 75, 3) := by decide +kernel
theorem dX12_told_83 : decode cX12_told 83 = .ok (.bipush 40, 2) := by decide +kernel
theorem dX12_told_85 : decode cX12_told 85 = .ok (.iload_n 1, 1) := by decide +kernel
theorem dX12_told_86 : decode cX12_told 86 = .ok (.imul, 1) := by decide +kernel
theorem dX12_told_87 : decode cX12_told 87 = .ok (.laload, 1) := by decide +kernel
theorem dX12_told_88 : decode cX12_told 88 = .ok (.l2i, 1) := by decide +kernel
theorem dX12_told_89 : decode cX12_told 89 = .ok (.lload 6, 2) := by decide +kernel
theorem dX12_told_91 : decode cX12_told 91 = .ok (.iload_n 3, 1) := by decide +kernel
theorem dX12_told_92 : decode cX12_told 92 = .ok (.iload 4, 2) := by decide +kernel
theorem dX12_told_94 : decode cX12_told 94 = .ok (.invokevirtual 283, 3) := by decide +kernel
theorem dX12_told_97 : decode cX12_told 97 = .ok (.putfield 277, 3) := by decide +kernel
theorem dX12_told_100 : decode cX12_told 100 = .ok (.aload_n 0, 1) := by decide +kernel
theorem dX12_told_101 : decode cX12_told 101 = .ok (.getfield 277, 3) := by decide +kernel
theorem dX12_told_104 : decode cX12_told 104 = .ok (.ifCond .eq 6, 3) := by decide +kernel
theorem dX12_told_107 : decode cX12_told 107 = .ok (.iload 5, 2) := by decide +kernel
theorem dX12_told_109 : decode cX12_told 109 = .ok (.ireturn, 1) := by decide +kernel
theorem dX12_told_110 : decode cX12_told 110 = .ok (.lload 6, 2) := by decide +kernel
theorem dX12_told_112 : decode cX12_told 112 = .ok (.l2i, 1) := by decide +kernel
theorem dX12_told_113 : decode cX12_told 113 = .ok (.istore 4, 2) := by decide +kernel
theorem dX12_told_115 : decode cX12_told 115 = .ok (.iload_n 3, 1) := by decide +kernel
theorem dX12_told_116 : decode cX12_told 116 = .ok (.iconst 1, 1) := by decide +kernel
theorem dX12_told_117 : decode cX12_told 117 = .ok (.iload 4, 2) := by decide +kernel
theorem dX12_told_119 : decode cX12_told 119 = .ok (.ishl, 1) := by decide +kernel
theorem dX12_told_120 : decode cX12_told 120 = .ok (.ior, 1) := by decide +kernel
theorem dX12_told_121 : decode cX12_told 121 = .ok (.istore_n 3, 1) := by decide +kernel
theorem dX12_told_122 : decode cX12_told 122 = .ok (.aload_n 0, 1) := by decide +kernel
theorem dX12_told_123 : decode cX12_told 123 = .ok (.getfield 39, 3) := by decide +kernel
theorem dX12_told_126 : decode cX12_told 126 = .ok (.aload_n 0, 1) := by decide +kernel
theorem dX12_told_127 : decode cX12_told 127 = .ok (.getfield 266, 3) := by decide +kernel
theorem dX12_told_130 : decode cX12_told 130 = .ok (.iload 4, 2) := by decide +kernel
theorem dX12_told_132 : decode cX12_told 132 = .ok (.iastore, 1) := by decide +kernel
theorem dX12_told_133 : decode cX12_told 133 = .ok (.aload_n 0, 1) := by decide +kernel
theorem dX12_told_134 : decode cX12_told 134 = .ok (.dup, 1) := by decide +kernel
theorem dX12_told_135 : decode cX12_told 135 = .ok (.getfield 266, 3) := by decide +kernel
theorem dX12_told_138 : decode cX12_told 138 = .ok (.iconst 1, 1) := by decide +kernel
theorem dX12_told_139 : decode cX12_told 139 = .ok (.iadd, 1) := by decide +kernel
theorem dX12_told_140 : decode cX12_told 140 = .ok (.putfield 266, 3) := by decide +kernel
theorem dX12_told_143 : decode cX12_told 143 = .ok (.aload_n 0, 1) := by decide +kernel
theorem dX12_told_144 : decode cX12_told 144 = .ok (.dup, 1) := by decide +kernel
theorem dX12_told_145 : decode cX12_told 145 = .ok (.getfield 280, 3) := by decide +kernel
theorem dX12_told_148 : decode cX12_told 148 = .ok (.aload_n 0, 1) := by decide +kernel
theorem dX12_told_149 : decode cX12_told 149 = .ok (.invokevirtual 272, 3) := by decide +kernel
theorem dX12_told_152 : decode cX12_told 152 = .ok (.i2l, 1) := by decide +kernel
theorem dX12_told_153 : decode cX12_told 153 = .ok (.iload 4, 2) := by decide +kernel
theorem dX12_told_155 : decode cX12_told 155 = .ok (.invokestatic 186, 3) := by decide +kernel
theorem dX12_told_158 : decode cX12_told 158 = .ok (.ifCond .eq 7, 3) := by decide +kernel
theorem dX12_told_161 : decode cX12_told 161 = .ok (.iconst 0, 1) := by decide +kernel
theorem dX12_told_162 : decode cX12_told 162 = .ok (.goto 4, 3) := by decide +kernel
theorem dX12_told_165 : decode cX12_told 165 = .ok (.iconst 1, 1) := by decide +kernel
theorem dX12_told_166 : decode cX12_told 166 = .ok (.iadd, 1) := by decide +kernel
theorem dX12_told_167 : decode cX12_told 167 = .ok (.putfield 280, 3) := by decide +kernel
theorem dX12_told_170 : decode cX12_told 170 = .ok (.iinc 5 1, 3) := by decide +kernel
theorem dX12_told_173 : decode cX12_told 173 = .ok (.goto (-116), 3) := by decide +kernel
theorem dX12_told_176 : decode cX12_told 176 = .ok (.iload 4, 2) := by decide +kernel
theorem dX12_told_178 : decode cX12_told 178 = .ok (.iconst (-1), 1) := by decide +kernel
theorem dX12_told_179 : decode cX12_told 179 = .ok (.if_icmp .eq 20, 3) := by decide +kernel
theorem dX12_told_182 : decode cX12_told 182 = .ok (.aload_n 0, 1) := by decide +kernel
theorem dX12_told_183 : decode cX12_told 183 = .ok (.getfield 13, 3) := by decide +kernel
theorem dX12_told_186 : decode cX12_told 186 = .ok (.iconst 5, 1) := by decide +kernel
theorem dX12_told_187 : decode cX12_told 187 = .ok (.iaload, 1) := by decide +kernel
theorem dX12_told_188 : decode cX12_told 188 = .ok (.i2l, 1) := by decide +kernel
theorem dX12_told_189 : decode cX12_told 189 = .ok (.iload 4, 2) := by decide +kernel
theorem dX12_told_191 : decode cX12_told 191 = .ok (.invokestatic 186, 3) := by decide +kernel
theorem dX12_told_194 : decode cX12_told 194 = .ok (.ifCond .eq 5, 3) := by decide +kernel
theorem dX12_told_197 : decode cX12_told 197 = .ok (.iconst (-1), 1) := by decide +kernel
theorem dX12_told_198 : decode cX12_told 198 = .ok (.ireturn, 1) := by decide +kernel
theorem dX12_told_199 : decode cX12_told 199 = .ok (.aload_n 0, 1) := by decide +kernel
theorem dX12_told_200 : decode cX12_told 200 = .ok (.iconst 4, 1) := by decide +kernel
theorem dX12_told_201 : decode cX12_told 201 = .ok (.putfield 277, 3) := by decide +kernel
theorem dX12_told_204 : decode cX12_told 204 = .ok (.iload_n 2, 1) := by decide +kernel
theorem dX12_told_205 : decode cX12_told 205 = .ok (.ireturn, 1) := by decide +kernel
theorem kw_1246 : Cond.fieldLink "FootholdWallModel" 277 "FootholdWallModel" "toldWhy" "I" ∈ gw := gw_of (tb_of 1246 (by decide +kernel)) (by decide +kernel)
theorem kw_1247 : Cond.fieldLink "FootholdWallModel" 280 "FootholdWallModel" "toldUses" "I" ∈ gw := gw_of (tb_of 1247 (by decide +kernel)) (by decide +kernel)
theorem kw_1522 : Cond.constantLong "FootholdWallModel" 287 2 ∈ gw := gw_of (tb_of 1522 (by decide +kernel)) (by decide +kernel)
theorem kw_1528 : Cond.methodLink "FootholdWallModel" 292 yX12_told ∈ gw := gw_of (tb_of 1528 (by decide +kernel)) (by decide +kernel)
theorem kw_1530 : Cond.instanceMethod yX12_told ∈ gw := gw_of (tb_of 1530 (by decide +kernel)) (by decide +kernel)
theorem kw_1531 : Cond.code yX12_told cX12_told 8 (some (.int)) ∈ gw := gw_of (tb_of 1531 (by decide +kernel)) (by decide +kernel)
theorem kw_1532 : Cond.methodLink "FootholdWallModel" 283 yX12_whyNot ∈ gw := gw_of (tb_of 1532 (by decide +kernel)) (by decide +kernel)
theorem kw_1534 : Cond.instanceMethod yX12_whyNot ∈ gw := gw_of (tb_of 1534 (by decide +kernel)) (by decide +kernel)
theorem kw_1535 : Cond.code yX12_whyNot cX12_whyNot 7 (some (.int)) ∈ gw := gw_of (tb_of 1535 (by decide +kernel)) (by decide +kernel)
theorem ks_76 : Cond.selects RX12 yX12_told yX12_told ∈ gw := gw_of (pv_of 76 (by decide +kernel)) (by decide +kernel)
theorem ks_77 : Cond.selects RX12 yX12_whyNot yX12_whyNot ∈ gw := gw_of (pv_of 77 (by decide +kernel)) (by decide +kernel)
section ThRows8
variable {p : Program} {l : Launch} {e : Env} {R : Room} {s : State} {m : MethodId} {args : Array Value} {below : List Frame} {meth : Method} {c : Code} {H : Heap} {locs : List Loc} {cells slots : Nat} {Q : State → Prop}
variable {cc : ByteArray} {pc : Nat} {ls : Array Slot} {rest : List Value} {D : va_G} {A : Nat → Prop} {a : Nat} {cs : CS} {T : TF} {O : List Nat} {X : va_W} {H0 : Heap}
theorem xa_lld {n : Nat} {f : Nat → Int64} {j : Int32} (hx : p.tables.exec = Jvm.exec) (hb : c.code = cc) (hkb : kb D (tyc cs) s) (hH : HT D cs A T O X H) (i : Nat) (hi : X[i]? = some (a, .inl (cs.2.2.1, n, .inr (.inl f)))) (h0 : 0 ≤ j.toInt) (h1 : j.toInt < n) (hdg : decode cc pc = .ok (.laload, 1))
    (kk : W p l e R s m args below meth c H locs cells slots Q (F0 m (pc + 1) ls (.long (f j.toNatClampNeg) :: rest))) : W p l e R s m args below meth c H locs cells slots Q (F0 m pc ls (.int j :: .ref a :: rest)) := by
  obtain ⟨ws, hP, hD, h3, h4⟩ := hH
  exact va_lald hx hb hkb.1 hP i 2 (ap_l hi) rfl (in_t h0 h1) hdg kk
end ThRows8
set_option maxHeartbeats 4000000 in
set_option maxRecDepth 100000 in
theorem s_M_told (l : Launch) (D : va_G) (cs : CS) (kf : KF) (T : TF) (O : List Nat) (X : va_W) (a0 hg mq : Nat) (x1 : Int32) (t_a0 : T a0 = some (22, hg, mq)) (b_hg : hg < 90) (l_x1 : 0 ≤ x1.toInt) (u_x1 : x1.toInt ≤ 3) (hO : okO T O [1, 2, 8, 22]) : TK l D cs kf yX12_told cX12_told 8 (some (.int)) { frames := 4, cells := 0, slots := 0, locals := 100 } [.ref a0, .int x1] T O X (Ti D cs (fun r u => u = (T, O, X) ∧ -1 ≤ r.toInt ∧ r.toInt ≤ 40)) := by
  refine tk_of (by decide) (Nat.le_of_ble_eq_true rfl) (fun p e s m below meth c ls A H locs hx hb hr hml hown hts hlocks hnm hkb hH hS hA hOX hks hE hl => ?_)
  have hown : s.vm.findClass RX12 = some m.cls := hown
  have hl : lv_has ls 8 [(0, .ref a0), (1, .int x1)] := hl
  have hO0 := hO
  obtain ⟨fs9, ho9, hH⟩ := hH.take t_a0 (hO0.no t_a0 (by decide))
  have hp0 : okL T (ft12 hg mq) fs9 := ho9
  clear ho9
  obtain ⟨v9, fs9, rfl, h9, hp1⟩ := okL_i hp0
  obtain ⟨q0_0, rfl⟩ := h9
  obtain ⟨v9, fs9, rfl, h9, hp2⟩ := okL_i hp1
  obtain ⟨q0_1, rfl, t_q0_1⟩ := h9
  obtain ⟨v9, fs9, rfl, h9, hp3⟩ := okL_i hp2
  obtain ⟨q0_2, rfl, t_q0_2⟩ := h9
  obtain ⟨v9, fs9, rfl, h9, hp4⟩ := okL_i hp3
  obtain ⟨q0_3, rfl, t_q0_3⟩ := h9
  obtain ⟨v9, fs9, rfl, h9, hp5⟩ := okL_i hp4
  obtain ⟨q0_4, rfl, t_q0_4⟩ := h9
  obtain ⟨v9, fs9, rfl, h9, hp6⟩ := okL_i hp5
  obtain ⟨q0_5, rfl, l_q0_5, u_q0_5, eg_q0_5⟩ := h9
  obtain ⟨v9, fs9, rfl, h9, hp7⟩ := okL_i hp6
  obtain ⟨q0_6, rfl⟩ := h9
  obtain ⟨v9, fs9, rfl, h9, hp8⟩ := okL_i hp7
  obtain ⟨q0_7, rfl⟩ := h9
  obtain ⟨v9, fs9, rfl, h9, hp9⟩ := okL_i hp8
  obtain ⟨q0_8, rfl⟩ := h9
  obtain ⟨v9, fs9, rfl, h9, hp10⟩ := okL_i hp9
  obtain ⟨q0_9, rfl⟩ := h9
  obtain ⟨v9, fs9, rfl, h9, hp11⟩ := okL_i hp10
  obtain ⟨q0_10, rfl, l_q0_10, u_q0_10⟩ := h9
  obtain ⟨v9, fs9, rfl, h9, hp12⟩ := okL_i hp11
  obtain ⟨q0_11, rfl⟩ := h9
  obtain ⟨v9, fs9, rfl, h9, hp13⟩ := okL_i hp12
  obtain ⟨q0_12, rfl⟩ := h9
  obtain ⟨v9, fs9, rfl, h9, hp14⟩ := okL_i hp13
  obtain ⟨q0_13, rfl, eg_q0_13⟩ := h9
  obtain ⟨v9, fs9, rfl, h9, hp15⟩ := okL_i hp14
  obtain ⟨q0_14, rfl, eg_q0_14⟩ := h9
  obtain ⟨v9, fs9, rfl, h9, hp16⟩ := okL_i hp15
  obtain ⟨q0_15, rfl, t_q0_15⟩ := h9
  obtain ⟨v9, fs9, rfl, h9, hp17⟩ := okL_i hp16
  obtain ⟨q0_16, rfl⟩ := h9
  obtain ⟨v9, fs9, rfl, h9, hp18⟩ := okL_i hp17
  obtain ⟨q0_17, rfl, t_q0_17⟩ := h9
  obtain ⟨v9, fs9, rfl, h9, hp19⟩ := okL_i hp18
  obtain ⟨q0_18, rfl, t_q0_18⟩ := h9
  obtain ⟨v9, fs9, rfl, h9, hp20⟩ := okL_i hp19
  obtain ⟨q0_19, rfl, t_q0_19⟩ := h9
  obtain ⟨v9, fs9, rfl, h9, hp21⟩ := okL_i hp20
  obtain ⟨q0_20, rfl, l_q0_20, u_q0_20⟩ := h9
  obtain ⟨v9, fs9, rfl, h9, hp22⟩ := okL_i hp21
  obtain ⟨q0_21, rfl, t_q0_21⟩ := h9
  obtain ⟨v9, fs9, rfl, h9, hp23⟩ := okL_i hp22
  obtain ⟨q0_22, rfl, t_q0_22⟩ := h9
  obtain ⟨v9, fs9, rfl, h9, hp24⟩ := okL_i hp23
  obtain ⟨q0_23, rfl⟩ := h9
  obtain ⟨v9, fs9, rfl, h9, hp25⟩ := okL_i hp24
  obtain ⟨q0_24, rfl⟩ := h9
  obtain ⟨v9, fs9, rfl, h9, hp26⟩ := okL_i hp25
  obtain ⟨q0_25, rfl⟩ := h9
  obtain ⟨v9, fs9, rfl, h9, hp27⟩ := okL_i hp26
  obtain ⟨q0_26, rfl, t_q0_26⟩ := h9
  obtain ⟨v9, fs9, rfl, h9, hp28⟩ := okL_i hp27
  obtain ⟨q0_27, rfl, t_q0_27⟩ := h9
  obtain ⟨v9, fs9, rfl, h9, hp29⟩ := okL_i hp28
  obtain ⟨q0_28, rfl, t_q0_28⟩ := h9
  obtain ⟨v9, fs9, rfl, h9, hp30⟩ := okL_i hp29
  obtain ⟨q0_29, rfl, t_q0_29⟩ := h9
  obtain ⟨v9, fs9, rfl, h9, hp31⟩ := okL_i hp30
  obtain ⟨q0_30, rfl, t_q0_30⟩ := h9
  obtain ⟨v9, fs9, rfl, h9, hp32⟩ := okL_i hp31
  obtain ⟨q0_31, rfl, t_q0_31⟩ := h9
  obtain ⟨v9, fs9, rfl, h9, hp33⟩ := okL_i hp32
  obtain ⟨q0_32, rfl⟩ := h9
  obtain ⟨v9, fs9, rfl, h9, hp34⟩ := okL_i hp33
  obtain ⟨q0_33, rfl, t_q0_33⟩ := h9
  obtain ⟨v9, fs9, rfl, h9, hp35⟩ := okL_i hp34
  obtain ⟨q0_34, rfl, t_q0_34⟩ := h9
  obtain ⟨v9, fs9, rfl, h9, hp36⟩ := okL_i hp35
  obtain ⟨q0_35, rfl, t_q0_35⟩ := h9
  have hpz := okL_z hp36
  subst hpz
  have hH : HT D cs A T (a0 :: O) ((a0, .inr (12, [.int q0_0, .ref q0_1, .ref q0_2, .ref q0_3, .ref q0_4, .int q0_5, .int q0_6, .int q0_7, .int q0_8, .int q0_9, .int q0_10, .int q0_11, .int q0_12, .int q0_13, .int q0_14, .ref q0_15, .int q0_16, .ref q0_17, .ref q0_18, .ref q0_19, .int q0_20, .ref q0_21, .ref q0_22, .int q0_23, .int q0_24, .int q0_25, .ref q0_26, .ref q0_27, .ref q0_28, .ref q0_29, .ref q0_30, .ref q0_31, .int q0_32, .ref q0_33, .ref q0_34, .ref q0_35])) :: X) H := hH
  have hO : okO T (a0 :: O) [1, 2, 8] := okO.cons (hO0.sub (by decide)) t_a0 (by decide)
  obtain ⟨e9, hs9, hH⟩ := HT.takeA hH t_q0_35 (nm_c (tag_ne t_q0_35 t_a0 (fun q => absurd (show 2 = 22 from congrArg Prod.fst q) (by decide))) (hO0.no t_q0_35 (by decide)))
  obtain ⟨f35, rfl⟩ : ∃ f : Nat → Int64, e9 = .inl (cs.2.2.1, 160, .inr (.inl f)) := hs9
  have hO : okO T (q0_35 :: a0 :: O) [1] := okO.cons (hO.sub (by decide)) t_q0_35 (by decide)
  have hH : HT D cs A T (a0 :: q0_35 :: O) ((a0, .inr (12, [.int q0_0, .ref q0_1, .ref q0_2, .ref q0_3, .ref q0_4, .int q0_5, .int q0_6, .int q0_7, .int q0_8, .int q0_9, .int q0_10, .int q0_11, .int q0_12, .int q0_13, .int q0_14, .ref q0_15, .int q0_16, .ref q0_17, .ref q0_18, .ref q0_19, .int q0_20, .ref q0_21, .ref q0_22, .int q0_23, .int q0_24, .int q0_25, .ref q0_26, .ref q0_27, .ref q0_28, .ref q0_29, .ref q0_30, .ref q0_31, .int q0_32, .ref q0_33, .ref q0_34, .ref q0_35])) :: (q0_35, .inl (cs.2.2.1, 160, .inr (.inl f35))) :: X) H := HT.swap hH
  have hO := okO.swap hO
  obtain ⟨e9, hs9, hH⟩ := HT.takeA hH t_q0_1 (nm_c (tag_ne t_q0_1 t_a0 (by first | decide | exact fun q => absurd (show 8 = 22 from congrArg Prod.fst q) (by decide))) (nm_c (tag_ne t_q0_1 t_q0_35 (fun q => absurd (show 8 = 2 from congrArg Prod.fst q) (by decide))) (hO0.no t_q0_1 (by decide))))
  obtain ⟨f1, rfl, s_f1, g_f1⟩ : ∃ f : Nat → Int32, e9 = .inl (cs.2.1, 3906, .inl f) ∧ B8 3906 f ∧ (3906 = 3906 → f 1 = nI (hg / 6) ∧ f 2 = nI (hg % 6)) := hs9
  have g_f1 := g_f1 rfl
  have hO : okO T (q0_1 :: a0 :: q0_35 :: O) [1] := okO.cons (hO.sub (by decide)) t_q0_1 (by decide)
  refine lv_aload_n hx hb dX12_told_0 rfl (lv_at hl 0 rfl) ?_
  refine lv_iconst (v := 0) hx hb dX12_told_1 (by decide) ?_
  refine x_putk (ci := 12) (v := .int 0) (ty := tyX12 23) (C := RX12) (F := TX12) (N := 36) hx hb hts uX12 tyX12 tyX12_ok nmX12 hown hkb hH hS 1 rfl rfl 23 (by decide) kw_1246 (fun _ h9 => h9) rfl (tyX12_ok 23 (by decide)) rfl rfl (Nat.le_of_ble_eq_true rfl) dX12_told_2 (fun H locs hH hS => ?_)
  have hH : HT D cs A T (q0_1 :: a0 :: q0_35 :: O) ((q0_1, .inl (cs.2.1, 3906, .inl f1)) :: (a0, .inr (12, [.int q0_0, .ref q0_1, .ref q0_2, .ref q0_3, .ref q0_4, .int q0_5, .int q0_6, .int q0_7, .int q0_8, .int q0_9, .int q0_10, .int q0_11, .int q0_12, .int q0_13, .int q0_14, .ref q0_15, .int q0_16, .ref q0_17, .ref q0_18, .ref q0_19, .int q0_20, .ref q0_21, .ref q0_22, .int 0, .int q0_24, .int q0_25, .ref q0_26, .ref q0_27, .ref q0_28, .ref q0_29, .ref q0_30, .ref q0_31, .int q0_32, .ref q0_33, .ref q0_34, .ref q0_35])) :: (q0_35, .inl (cs.2.2.1, 160, .inr (.inl f35))) :: X) H := hH
  refine lv_aload_n hx hb dX12_told_5 rfl (lv_at hl 0 rfl) ?_
  refine lv_iconst (v := 0) hx hb dX12_told_6 (by decide) ?_
  refine x_putk (ci := 12) (v := .int 0) (ty := tyX12 24) (C := RX12) (F := TX12) (N := 36) hx hb hts uX12 tyX12 tyX12_ok nmX12 hown hkb hH hS 1 rfl rfl 24 (by decide) kw_1247 (fun _ h9 => h9) rfl (tyX12_ok 24 (by decide)) rfl rfl (Nat.le_of_ble_eq_true rfl) dX12_told_7 (fun H locs hH hS => ?_)
  have hH : HT D cs A T (q0_1 :: a0 :: q0_35 :: O) ((q0_1, .inl (cs.2.1, 3906, .inl f1)) :: (a0, .inr (12, [.int q0_0, .ref q0_1, .ref q0_2, .ref q0_3, .ref q0_4, .int q0_5, .int q0_6, .int q0_7, .int q0_8, .int q0_9, .int q0_10, .int q0_11, .int q0_12, .int q0_13, .int q0_14, .ref q0_15, .int q0_16, .ref q0_17, .ref q0_18, .ref q0_19, .int q0_20, .ref q0_21, .ref q0_22, .int 0, .int 0, .int q0_25, .ref q0_26, .ref q0_27, .ref q0_28, .ref q0_29, .ref q0_30, .ref q0_31, .int q0_32, .ref q0_33, .ref q0_34, .ref q0_35])) :: (q0_35, .inl (cs.2.2.1, 160, .inr (.inl f35))) :: X) H := hH
  refine lv_aload_n hx hb dX12_told_10 rfl (lv_at hl 0 rfl) ?_
  refine lv_iconst (v := 0) hx hb dX12_told_11 (by decide) ?_
  refine x_putk (ci := 12) (v := .int 0) (ty := tyX12 20) (C := RX12) (F := TX12) (N := 36) hx hb hts uX12 tyX12 tyX12_ok nmX12 hown hkb hH hS 1 rfl rfl 20 (by decide) kw_1243 (fun _ h9 => h9) rfl (tyX12_ok 20 (by decide)) rfl rfl (Nat.le_of_ble_eq_true rfl) dX12_told_12 (fun H locs hH hS => ?_)
  have hH : HT D cs A T (q0_1 :: a0 :: q0_35 :: O) ((q0_1, .inl (cs.2.1, 3906, .inl f1)) :: (a0, .inr (12, [.int q0_0, .ref q0_1, .ref q0_2, .ref q0_3, .ref q0_4, .int q0_5, .int q0_6, .int q0_7, .int q0_8, .int q0_9, .int q0_10, .int q0_11, .int q0_12, .int q0_13, .int q0_14, .ref q0_15, .int q0_16, .ref q0_17, .ref q0_18, .ref q0_19, .int 0, .ref q0_21, .ref q0_22, .int 0, .int 0, .int q0_25, .ref q0_26, .ref q0_27, .ref q0_28, .ref q0_29, .ref q0_30, .ref q0_31, .int q0_32, .ref q0_33, .ref q0_34, .ref q0_35])) :: (q0_35, .inl (cs.2.2.1, 160, .inr (.inl f35))) :: X) H := hH
  refine lv_aload_n hx hb dX12_told_15 rfl (lv_at hl 0 rfl) ?_
  refine x_getk (ci := 12) (C := RX12) (F := TX12) (N := 36) (v := .ref q0_34) hx hb hts uX12 hown hkb hH 1 rfl rfl 34 (by decide) rfl kw_1257 (fun _ h9 => h9) dX12_told_16 ?_
  refine lv_iload_n hx hb dX12_told_19 rfl (lv_at hl 1 rfl) ?_
  refine t_ild hx hb hkb hH t_q0_34 (hO.no t_q0_34 (by decide)) (by omega) (by omega) dX12_told_20 (fun v20 h9 => ?_)
  have tv20 : 0 ≤ v20.toInt ∧ v20.toInt ≤ 40 := h9
  refine lv_istore_n (lv' := [(2, .int v20), (0, .ref a0), (1, .int x1)]) hx hb dX12_told_21 rfl hl (by decide) rfl (fun ls hl => ?_)
  refine lv_iload_n hx hb dX12_told_22 rfl (lv_at hl 0 rfl) ?_
  have J42 : ∀  (H : Heap) (locs : List Loc) (ls : Array Slot), HT D cs A T (q0_1 :: a0 :: q0_35 :: O) ((q0_1, .inl (cs.2.1, 3906, .inl f1)) :: (a0, .inr (12, [.int q0_0, .ref q0_1, .ref q0_2, .ref q0_3, .ref q0_4, .int q0_5, .int q0_6, .int q0_7, .int q0_8, .int q0_9, .int q0_10, .int q0_11, .int q0_12, .int q0_13, .int q0_14, .ref q0_15, .int q0_16, .ref q0_17, .ref q0_18, .ref q0_19, .int 0, .ref q0_21, .ref q0_22, .int 0, .int 0, .int q0_25, .ref q0_26, .ref q0_27, .ref q0_28, .ref q0_29, .ref q0_30, .ref q0_31, .int q0_32, .ref q0_33, .ref q0_34, .ref q0_35])) :: (q0_35, .inl (cs.2.2.1, 160, .inr (.inl f35))) :: X) H → va_S A s.heap H locs → lv_has ls 8 [(0, .ref a0)] → W p l e { frames := 4, cells := 0, slots := 0, locals := 100 } s m [.ref a0, .int x1].toArray below meth c H locs 0 0 (MQ below (Ti D cs (fun r u => u = (T, O, X) ∧ -1 ≤ r.toInt ∧ r.toInt ≤ 40) A) [.ref a0, .int x1].toArray s 0 0 A) (F0 m 42 ls []) := by
    intro  H locs ls  hH hS hl
    refine lv_aload_n hx hb dX12_told_42 rfl (lv_at hl 0 rfl) ?_
    refine lv_iconst (v := 1) hx hb dX12_told_43 (by decide) ?_
    refine x_putk (ci := 12) (v := .int 1) (ty := tyX12 23) (C := RX12) (F := TX12) (N := 36) hx hb hts uX12 tyX12 tyX12_ok nmX12 hown hkb hH hS 1 rfl rfl 23 (by decide) kw_1246 (fun _ h9 => h9) rfl (tyX12_ok 23 (by decide)) rfl rfl (Nat.le_of_ble_eq_true rfl) dX12_told_44 (fun H locs hH hS => ?_)
    have hH : HT D cs A T (q0_1 :: a0 :: q0_35 :: O) ((q0_1, .inl (cs.2.1, 3906, .inl f1)) :: (a0, .inr (12, [.int q0_0, .ref q0_1, .ref q0_2, .ref q0_3, .ref q0_4, .int q0_5, .int q0_6, .int q0_7, .int q0_8, .int q0_9, .int q0_10, .int q0_11, .int q0_12, .int q0_13, .int q0_14, .ref q0_15, .int q0_16, .ref q0_17, .ref q0_18, .ref q0_19, .int 0, .ref q0_21, .ref q0_22, .int 1, .int 0, .int q0_25, .ref q0_26, .ref q0_27, .ref q0_28, .ref q0_29, .ref q0_30, .ref q0_31, .int q0_32, .ref q0_33, .ref q0_34, .ref q0_35])) :: (q0_35, .inl (cs.2.2.1, 160, .inr (.inl f35))) :: X) H := hH
    refine lv_iconst (v := 0) hx hb dX12_told_47 (by decide) ?_
    have hH : HT D cs A T (a0 :: q0_35 :: O) ((a0, .inr (12, [.int q0_0, .ref q0_1, .ref q0_2, .ref q0_3, .ref q0_4, .int q0_5, .int q0_6, .int q0_7, .int q0_8, .int q0_9, .int q0_10, .int q0_11, .int q0_12, .int q0_13, .int q0_14, .ref q0_15, .int q0_16, .ref q0_17, .ref q0_18, .ref q0_19, .int 0, .ref q0_21, .ref q0_22, .int 1, .int 0, .int q0_25, .ref q0_26, .ref q0_27, .ref q0_28, .ref q0_29, .ref q0_30, .ref q0_31, .int q0_32, .ref q0_33, .ref q0_34, .ref q0_35])) :: (q0_35, .inl (cs.2.2.1, 160, .inr (.inl f35))) :: X) H := HT.layA hH t_q0_1 (show sp cs T (8, 3906, hg) _ from ⟨_, rfl, s_f1, fun _ => g_f1⟩)
    have hH : HT D cs A T (q0_35 :: O) ((q0_35, .inl (cs.2.2.1, 160, .inr (.inl f35))) :: X) H := HT.lay (ci := 12) hH t_a0 (okL_c (⟨_, rfl⟩) (okL_c (⟨_, rfl, t_q0_1⟩) (okL_c (⟨_, rfl, t_q0_2⟩) (okL_c (⟨_, rfl, t_q0_3⟩) (okL_c (⟨_, rfl, t_q0_4⟩) (okL_c (⟨_, rfl, by omega, by omega, by omega⟩) (okL_c (⟨_, rfl⟩) (okL_c (⟨_, rfl⟩) (okL_c (⟨_, rfl⟩) (okL_c (⟨_, rfl⟩) (okL_c (⟨_, rfl, by omega, by omega⟩) (okL_c (⟨_, rfl⟩) (okL_c (⟨_, rfl⟩) (okL_c (⟨_, rfl, by omega⟩) (okL_c (⟨_, rfl, by omega⟩) (okL_c (⟨_, rfl, t_q0_15⟩) (okL_c (⟨_, rfl⟩) (okL_c (⟨_, rfl, t_q0_17⟩) (okL_c (⟨_, rfl, t_q0_18⟩) (okL_c (⟨_, rfl, t_q0_19⟩) (okL_c (⟨_, rfl, by decide, by decide⟩) (okL_c (⟨_, rfl, t_q0_21⟩) (okL_c (⟨_, rfl, t_q0_22⟩) (okL_c (⟨_, rfl⟩) (okL_c (⟨_, rfl⟩) (okL_c (⟨_, rfl⟩) (okL_c (⟨_, rfl, t_q0_26⟩) (okL_c (⟨_, rfl, t_q0_27⟩) (okL_c (⟨_, rfl, t_q0_28⟩) (okL_c (⟨_, rfl, t_q0_29⟩) (okL_c (⟨_, rfl, t_q0_30⟩) (okL_c (⟨_, rfl, t_q0_31⟩) (okL_c (⟨_, rfl⟩) (okL_c (⟨_, rfl, t_q0_33⟩) (okL_c (⟨_, rfl, t_q0_34⟩) (okL_c (⟨_, rfl, t_q0_35⟩) (okL_n)))))))))))))))))))))))))))))))))))))
    have hO := hO0
    have hH : HT D cs A T O X H := HT.layA hH t_q0_35 (show sp cs T (2, 160, 0) _ from ⟨_, rfl⟩)
    have z9_0 : (0 : Int32).toInt = 0 := by decide
    exact te_i hx hb hr hlocks hH hS (⟨rfl, by decide, by decide⟩) dX12_told_48
  refine lv_if_eq (tgt := 42) hx hb dX12_told_23 (by decide) (fun c23 => ?_) (fun c23 => ?_)
  · skip
    have tc23 := f_eq (k := 0) (by decide) c23
    exact J42  _ _ _  hH hS (lv_sub hl [1] rfl)
  · skip
    have tc23 := f_ne (k := 0) (by decide) c23
    refine lv_aload_n hx hb dX12_told_26 rfl (lv_at hl 1 rfl) ?_
    refine lv_aload_n hx hb dX12_told_27 rfl (lv_at hl 1 rfl) ?_
    refine x_getk (ci := 12) (C := RX12) (F := TX12) (N := 36) (v := .ref q0_35) hx hb hts uX12 hown hkb hH 1 rfl rfl 35 (by decide) rfl kw_1258 (fun _ h9 => h9) dX12_told_28 ?_
    refine lv_bipush (v := 40) hx hb dX12_told_31 (by decide) ?_
    refine lv_iload_n hx hb dX12_told_33 rfl (lv_at hl 2 rfl) ?_
    refine lv_imul hx hb dX12_told_34 ?_
    refine lv_topi (fun v34 ev34 => ?_)
    have tv34 : v34.toInt = (40) * x1.toInt := by rw [ev34]; exact mul_i (by decide : (40 : Int32).toInt = 40) rfl (by omega) (by omega)
    refine xa_lld hx hb hkb hH 2 rfl (by omega) (by omega) dX12_told_35 ?_
    refine lv_topl (fun v35 ev35 => ?_)
    have z9_0 : (0 : Int32).toInt = 0 := by decide
    have z9_0 : (0 : Int32).toInt = 0 := by decide
    have z9_0 : (0 : Int32).toInt = 0 := by decide
    refine tk_i hH hS hA (tr_V (n := 1) (As := [.long v35]) hx hb hml hown hts hkb hH (ox_c (ox_c (ox_c hOX))) hks hE hS hA (s_M_isGuideX l D cs kf T (q0_35 :: O) ((q0_35, .inl (cs.2.2.1, 160, .inr (.inl f35))) :: X) a0 hg mq v35 f1 (.int q0_0) q0_1 (.ref q0_2) (.ref q0_3) (.ref q0_4) (.int q0_5) (.int q0_6) (.int q0_7) (.int q0_8) (.int q0_9) (.int q0_10) (.int q0_11) (.int q0_12) (.int q0_13) (.int q0_14) q0_15 q0_16 [.ref q0_17, .ref q0_18, .ref q0_19, .int 0, .ref q0_21, .ref q0_22, .int 0, .int 0, .int q0_25, .ref q0_26, .ref q0_27, .ref q0_28, .ref q0_29, .ref q0_30, .ref q0_31, .int q0_32, .ref q0_33, .ref q0_34, .ref q0_35] t_a0 b_hg s_f1 g_f1 t_q0_1 t_q0_15 (hO.sub (by decide))) kw_1470 kw_1472 ks_67 kw_13 kw_1473 (by decide +kernel) ⟨Nat.le_of_ble_eq_true rfl, Nat.le_of_ble_eq_true rfl⟩ (x_recv (ci := 12) hkb hH 1 rfl rfl) rfl rfl hl.1 (Nat.le_of_ble_eq_true rfl) dX12_told_36 ⟨Nat.le_of_ble_eq_true rfl, Nat.le_of_ble_eq_true rfl⟩) (fun v36 u H locs hz9 hH hS => ?_)
    obtain ⟨rfl, l_v36, u_v36, x_v360⟩ := hz9
    have hH : HT D cs A T (q0_1 :: a0 :: q0_35 :: O) ((q0_1, .inl (cs.2.1, 3906, .inl f1)) :: (a0, .inr (12, [.int q0_0, .ref q0_1, .ref q0_2, .ref q0_3, .ref q0_4, .int q0_5, .int q0_6, .int q0_7, .int q0_8, .int q0_9, .int q0_10, .int q0_11, .int q0_12, .int q0_13, .int q0_14, .ref q0_15, .int q0_16, .ref q0_17, .ref q0_18, .ref q0_19, .int 0, .ref q0_21, .ref q0_22, .int 0, .int 0, .int q0_25, .ref q0_26, .ref q0_27, .ref q0_28, .ref q0_29, .ref q0_30, .ref q0_31, .int q0_32, .ref q0_33, .ref q0_34, .ref q0_35])) :: (q0_35, .inl (cs.2.2.1, 160, .inr (.inl f35))) :: X) H := hH
    refine W.widen (k := 0) (n := 0) (Nat.le_of_ble_eq_true rfl) (Nat.le_of_ble_eq_true rfl) ?_
    refine lv_if_ne (tgt := 49) hx hb dX12_told_39 (by decide) (fun c39 => ?_) (fun c39 => ?_)
    · skip
      have tc39 := f_ne (k := 0) (by decide) c39
      replace x_v360 := x_v360.resolve_left tc39
      refine lv_iconst (v := 0) hx hb dX12_told_49 (by decide) ?_
      refine lv_istore_n (lv' := [(3, .int 0), (2, .int v20), (0, .ref a0), (1, .int x1)]) hx hb dX12_told_50 rfl hl (by decide) rfl (fun ls hl => ?_)
      refine lv_iconst (v := (-1)) hx hb dX12_told_51 (by decide) ?_
      refine lv_istore (lv' := [(4, .int (-1)), (3, .int 0), (2, .int v20), (0, .ref a0), (1, .int x1)]) hx hb dX12_told_52 hl (by decide) rfl (fun ls hl => ?_)
      refine lv_iconst (v := 1) hx hb dX12_told_54 (by decide) ?_
      have J57 : ∀ (n : Nat) (p57_5 : Int32) (p57_4 : Int32) (p57_3 : Int32) (f57_216 : Int32) (f57_220 : Int32) (f57_223 : Int32) (f57_224 : Int32) (H : Heap) (locs : List Loc) (ls : Array Slot), (40 - p57_5.toInt).toNat = n → (1 ≤ p57_5.toInt) → (p57_5.toInt ≤ 40) → (-1 ≤ p57_4.toInt) → (p57_4.toInt ≤ 13) → (0 ≤ f57_220.toInt) → (f57_220.toInt ≤ 14) → (0 ≤ f57_223.toInt) → (f57_223.toInt ≤ 0) → (TD p57_3 f57_220) → HT D cs A T (q0_1 :: a0 :: q0_35 :: O) ((q0_1, .inl (cs.2.1, 3906, .inl f1)) :: (a0, .inr (12, [.int q0_0, .ref q0_1, .ref q0_2, .ref q0_3, .ref q0_4, .int q0_5, .int q0_6, .int q0_7, .int q0_8, .int q0_9, .int q0_10, .int q0_11, .int q0_12, .int q0_13, .int q0_14, .ref q0_15, .int f57_216, .ref q0_17, .ref q0_18, .ref q0_19, .int f57_220, .ref q0_21, .ref q0_22, .int f57_223, .int f57_224, .int q0_25, .ref q0_26, .ref q0_27, .ref q0_28, .ref q0_29, .ref q0_30, .ref q0_31, .int q0_32, .ref q0_33, .ref q0_34, .ref q0_35])) :: (q0_35, .inl (cs.2.2.1, 160, .inr (.inl f35))) :: X) H → va_S A s.heap H locs → lv_has ls 8 [(5, .int p57_5), (4, .int p57_4), (3, .int p57_3), (2, .int v20), (0, .ref a0), (1, .int x1)] → W p l e { frames := 4, cells := 0, slots := 0, locals := 100 } s m [.ref a0, .int x1].toArray below meth c H locs 0 0 (MQ below (Ti D cs (fun r u => u = (T, O, X) ∧ -1 ≤ r.toInt ∧ r.toInt ≤ 40) A) [.ref a0, .int x1].toArray s 0 0 A) (F0 m 57 ls []) := by
        intro n
        induction n using Nat.strongRecOn with
        | _ n ih57 =>
          intro p57_5 p57_4 p57_3 f57_216 f57_220 f57_223 f57_224 H locs ls hm57 l_p57_5 u_p57_5 l_p57_4 u_p57_4 l_f57_220 u_f57_220 l_f57_223 u_f57_223 i57 hH hS hl
          refine lv_iload hx hb dX12_told_57 (lv_at hl 0 rfl) ?_
          refine lv_iload_n hx hb dX12_told_59 rfl (lv_at hl 3 rfl) ?_
          refine lv_icmp_ge (tgt := 176) hx hb dX12_told_60 (by decide) (fun c60 => ?_) (fun c60 => ?_)
          · skip
            have fuc60 := full_i p57_5
            have fvc60 := full_i v20
            have tc60 := g_le c60
            refine lv_iload hx hb dX12_told_176 (lv_at hl 1 rfl) ?_
            refine lv_iconst (v := (-1)) hx hb dX12_told_178 (by decide) ?_
            have J199 : ∀  (H : Heap) (locs : List Loc) (ls : Array Slot), HT D cs A T (q0_1 :: a0 :: q0_35 :: O) ((q0_1, .inl (cs.2.1, 3906, .inl f1)) :: (a0, .inr (12, [.int q0_0, .ref q0_1, .ref q0_2, .ref q0_3, .ref q0_4, .int q0_5, .int q0_6, .int q0_7, .int q0_8, .int q0_9, .int q0_10, .int q0_11, .int q0_12, .int q0_13, .int q0_14, .ref q0_15, .int f57_216, .ref q0_17, .ref q0_18, .ref q0_19, .int f57_220, .ref q0_21, .ref q0_22, .int f57_223, .int f57_224, .int q0_25, .ref q0_26, .ref q0_27, .ref q0_28, .ref q0_29, .ref q0_30, .ref q0_31, .int q0_32, .ref q0_33, .ref q0_34, .ref q0_35])) :: (q0_35, .inl (cs.2.2.1, 160, .inr (.inl f35))) :: X) H → va_S A s.heap H locs → lv_has ls 8 [(2, .int v20), (0, .ref a0)] → W p l e { frames := 4, cells := 0, slots := 0, locals := 100 } s m [.ref a0, .int x1].toArray below meth c H locs 0 0 (MQ below (Ti D cs (fun r u => u = (T, O, X) ∧ -1 ≤ r.toInt ∧ r.toInt ≤ 40) A) [.ref a0, .int x1].toArray s 0 0 A) (F0 m 199 ls []) := by
              intro  H locs ls  hH hS hl
              refine lv_aload_n hx hb dX12_told_199 rfl (lv_at hl 1 rfl) ?_
              refine lv_iconst (v := 4) hx hb dX12_told_200 (by decide) ?_
              refine x_putk (ci := 12) (v := .int 4) (ty := tyX12 23) (C := RX12) (F := TX12) (N := 36) hx hb hts uX12 tyX12 tyX12_ok nmX12 hown hkb hH hS 1 rfl rfl 23 (by decide) kw_1246 (fun _ h9 => h9) rfl (tyX12_ok 23 (by decide)) rfl rfl (Nat.le_of_ble_eq_true rfl) dX12_told_201 (fun H locs hH hS => ?_)
              have hH : HT D cs A T (q0_1 :: a0 :: q0_35 :: O) ((q0_1, .inl (cs.2.1, 3906, .inl f1)) :: (a0, .inr (12, [.int q0_0, .ref q0_1, .ref q0_2, .ref q0_3, .ref q0_4, .int q0_5, .int q0_6, .int q0_7, .int q0_8, .int q0_9, .int q0_10, .int q0_11, .int q0_12, .int q0_13, .int q0_14, .ref q0_15, .int f57_216, .ref q0_17, .ref q0_18, .ref q0_19, .int f57_220, .ref q0_21, .ref q0_22, .int 4, .int f57_224, .int q0_25, .ref q0_26, .ref q0_27, .ref q0_28, .ref q0_29, .ref q0_30, .ref q0_31, .int q0_32, .ref q0_33, .ref q0_34, .ref q0_35])) :: (q0_35, .inl (cs.2.2.1, 160, .inr (.inl f35))) :: X) H := hH
              refine lv_iload_n hx hb dX12_told_204 rfl (lv_at hl 0 rfl) ?_
              have hH : HT D cs A T (a0 :: q0_35 :: O) ((a0, .inr (12, [.int q0_0, .ref q0_1, .ref q0_2, .ref q0_3, .ref q0_4, .int q0_5, .int q0_6, .int q0_7, .int q0_8, .int q0_9, .int q0_10, .int q0_11, .int q0_12, .int q0_13, .int q0_14, .ref q0_15, .int f57_216, .ref q0_17, .ref q0_18, .ref q0_19, .int f57_220, .ref q0_21, .ref q0_22, .int 4, .int f57_224, .int q0_25, .ref q0_26, .ref q0_27, .ref q0_28, .ref q0_29, .ref q0_30, .ref q0_31, .int q0_32, .ref q0_33, .ref q0_34, .ref q0_35])) :: (q0_35, .inl (cs.2.2.1, 160, .inr (.inl f35))) :: X) H := HT.layA hH t_q0_1 (show sp cs T (8, 3906, hg) _ from ⟨_, rfl, s_f1, fun _ => g_f1⟩)
              have hH : HT D cs A T (q0_35 :: O) ((q0_35, .inl (cs.2.2.1, 160, .inr (.inl f35))) :: X) H := HT.lay (ci := 12) hH t_a0 (okL_c (⟨_, rfl⟩) (okL_c (⟨_, rfl, t_q0_1⟩) (okL_c (⟨_, rfl, t_q0_2⟩) (okL_c (⟨_, rfl, t_q0_3⟩) (okL_c (⟨_, rfl, t_q0_4⟩) (okL_c (⟨_, rfl, by omega, by omega, by omega⟩) (okL_c (⟨_, rfl⟩) (okL_c (⟨_, rfl⟩) (okL_c (⟨_, rfl⟩) (okL_c (⟨_, rfl⟩) (okL_c (⟨_, rfl, by omega, by omega⟩) (okL_c (⟨_, rfl⟩) (okL_c (⟨_, rfl⟩) (okL_c (⟨_, rfl, by omega⟩) (okL_c (⟨_, rfl, by omega⟩) (okL_c (⟨_, rfl, t_q0_15⟩) (okL_c (⟨_, rfl⟩) (okL_c (⟨_, rfl, t_q0_17⟩) (okL_c (⟨_, rfl, t_q0_18⟩) (okL_c (⟨_, rfl, t_q0_19⟩) (okL_c (⟨_, rfl, by omega, by omega⟩) (okL_c (⟨_, rfl, t_q0_21⟩) (okL_c (⟨_, rfl, t_q0_22⟩) (okL_c (⟨_, rfl⟩) (okL_c (⟨_, rfl⟩) (okL_c (⟨_, rfl⟩) (okL_c (⟨_, rfl, t_q0_26⟩) (okL_c (⟨_, rfl, t_q0_27⟩) (okL_c (⟨_, rfl, t_q0_28⟩) (okL_c (⟨_, rfl, t_q0_29⟩) (okL_c (⟨_, rfl, t_q0_30⟩) (okL_c (⟨_, rfl, t_q0_31⟩) (okL_c (⟨_, rfl⟩) (okL_c (⟨_, rfl, t_q0_33⟩) (okL_c (⟨_, rfl, t_q0_34⟩) (okL_c (⟨_, rfl, t_q0_35⟩) (okL_n)))))))))))))))))))))))))))))))))))))
              have hO := hO0
              have hH : HT D cs A T O X H := HT.layA hH t_q0_35 (show sp cs T (2, 160, 0) _ from ⟨_, rfl⟩)
              exact te_i hx hb hr hlocks hH hS (⟨rfl, by omega, by omega⟩) dX12_told_205
            refine lv_icmp_eq (tgt := 199) hx hb dX12_told_179 (by decide) (fun c179 => ?_) (fun c179 => ?_)
            · skip
              have tc179 := f_eq (k := -1) (by decide) c179
              exact J199  _ _ _  hH hS (lv_sub hl [3, 4] rfl)
            · skip
              have tc179 := f_ne (k := -1) (by decide) c179
              refine lv_aload_n hx hb dX12_told_182 rfl (lv_at hl 4 rfl) ?_
              refine x_getk (ci := 12) (C := RX12) (F := TX12) (N := 36) (v := .ref q0_1) hx hb hts uX12 hown hkb hH 1 rfl rfl 1 (by decide) rfl kw_1224 (fun _ h9 => h9) dX12_told_183 ?_
              refine lv_iconst (v := 5) hx hb dX12_told_186 (by decide) ?_
              refine xa_ild hx hb hkb hH 0 rfl (by decide) (by decide) dX12_told_187 ?_
              refine lv_topi (fun v187 ev187 => ?_)
              have tv187 : v187 = f1 5 := by rw [ev187]; rfl
              have bv187 : 0 ≤ v187.toInt ∧ v187.toInt ≤ 16383 := by rw [ev187]; exact (s_f1.at (by decide) 5).2.2.2.1 (by decide)
              refine lv_i2l hx hb dX12_told_188 rfl ?_
              refine lv_iload hx hb dX12_told_189 (lv_at hl 1 rfl) ?_
              refine tk_i hH hS hA (tr_S (n := 2) (As := [.long v187.toInt64, .int p57_4]) hx hb hml hown hts hkb hH (ox_c (ox_c (ox_c hOX))) hks hE hS hA (s_M_isIn2 l D cs kf T (q0_1 :: a0 :: q0_35 :: O) ((q0_1, .inl (cs.2.1, 3906, .inl f1)) :: (a0, .inr (12, [.int q0_0, .ref q0_1, .ref q0_2, .ref q0_3, .ref q0_4, .int q0_5, .int q0_6, .int q0_7, .int q0_8, .int q0_9, .int q0_10, .int q0_11, .int q0_12, .int q0_13, .int q0_14, .ref q0_15, .int f57_216, .ref q0_17, .ref q0_18, .ref q0_19, .int f57_220, .ref q0_21, .ref q0_22, .int f57_223, .int f57_224, .int q0_25, .ref q0_26, .ref q0_27, .ref q0_28, .ref q0_29, .ref q0_30, .ref q0_31, .int q0_32, .ref q0_33, .ref q0_34, .ref q0_35])) :: (q0_35, .inl (cs.2.2.1, 160, .inr (.inl f35))) :: X) v187.toInt64 p57_4  (hO.sub (by decide))) kw_1440 kw_1441 kw_13 kw_1442 (by decide +kernel) ⟨Nat.le_of_ble_eq_true rfl, Nat.le_of_ble_eq_true rfl⟩ rfl rfl hl.1 (Nat.le_of_ble_eq_true rfl) dX12_told_191 ⟨Nat.le_of_ble_eq_true rfl, Nat.le_of_ble_eq_true rfl⟩) (fun v191 u H locs hz9 hH hS => ?_)
              obtain ⟨rfl, l_v191, u_v191, x_v1910⟩ := hz9
              have hH : HT D cs A T (q0_1 :: a0 :: q0_35 :: O) ((q0_1, .inl (cs.2.1, 3906, .inl f1)) :: (a0, .inr (12, [.int q0_0, .ref q0_1, .ref q0_2, .ref q0_3, .ref q0_4, .int q0_5, .int q0_6, .int q0_7, .int q0_8, .int q0_9, .int q0_10, .int q0_11, .int q0_12, .int q0_13, .int q0_14, .ref q0_15, .int f57_216, .ref q0_17, .ref q0_18, .ref q0_19, .int f57_220, .ref q0_21, .ref q0_22, .int f57_223, .int f57_224, .int q0_25, .ref q0_26, .ref q0_27, .ref q0_28, .ref q0_29, .ref q0_30, .ref q0_31, .int q0_32, .ref q0_33, .ref q0_34, .ref q0_35])) :: (q0_35, .inl (cs.2.2.1, 160, .inr (.inl f35))) :: X) H := hH
              refine W.widen (k := 0) (n := 0) (Nat.le_of_ble_eq_true rfl) (Nat.le_of_ble_eq_true rfl) ?_
              refine lv_if_eq (tgt := 199) hx hb dX12_told_194 (by decide) (fun c194 => ?_) (fun c194 => ?_)
              · skip
                have tc194 := f_eq (k := 0) (by decide) c194
                exact J199  _ _ _  hH hS (lv_sub hl [3, 4] rfl)
              · skip
                have tc194 := f_ne (k := 0) (by decide) c194
                refine lv_iconst (v := (-1)) hx hb dX12_told_197 (by decide) ?_
                have hH : HT D cs A T (a0 :: q0_35 :: O) ((a0, .inr (12, [.int q0_0, .ref q0_1, .ref q0_2, .ref q0_3, .ref q0_4, .int q0_5, .int q0_6, .int q0_7, .int q0_8, .int q0_9, .int q0_10, .int q0_11, .int q0_12, .int q0_13, .int q0_14, .ref q0_15, .int f57_216, .ref q0_17, .ref q0_18, .ref q0_19, .int f57_220, .ref q0_21, .ref q0_22, .int f57_223, .int f57_224, .int q0_25, .ref q0_26, .ref q0_27, .ref q0_28, .ref q0_29, .ref q0_30, .ref q0_31, .int q0_32, .ref q0_33, .ref q0_34, .ref q0_35])) :: (q0_35, .inl (cs.2.2.1, 160, .inr (.inl f35))) :: X) H := HT.layA hH t_q0_1 (show sp cs T (8, 3906, hg) _ from ⟨_, rfl, s_f1, fun _ => g_f1⟩)
                have hH : HT D cs A T (q0_35 :: O) ((q0_35, .inl (cs.2.2.1, 160, .inr (.inl f35))) :: X) H := HT.lay (ci := 12) hH t_a0 (okL_c (⟨_, rfl⟩) (okL_c (⟨_, rfl, t_q0_1⟩) (okL_c (⟨_, rfl, t_q0_2⟩) (okL_c (⟨_, rfl, t_q0_3⟩) (okL_c (⟨_, rfl, t_q0_4⟩) (okL_c (⟨_, rfl, by omega, by omega, by omega⟩) (okL_c (⟨_, rfl⟩) (okL_c (⟨_, rfl⟩) (okL_c (⟨_, rfl⟩) (okL_c (⟨_, rfl⟩) (okL_c (⟨_, rfl, by omega, by omega⟩) (okL_c (⟨_, rfl⟩) (okL_c (⟨_, rfl⟩) (okL_c (⟨_, rfl, by omega⟩) (okL_c (⟨_, rfl, by omega⟩) (okL_c (⟨_, rfl, t_q0_15⟩) (okL_c (⟨_, rfl⟩) (okL_c (⟨_, rfl, t_q0_17⟩) (okL_c (⟨_, rfl, t_q0_18⟩) (okL_c (⟨_, rfl, t_q0_19⟩) (okL_c (⟨_, rfl, by omega, by omega⟩) (okL_c (⟨_, rfl, t_q0_21⟩) (okL_c (⟨_, rfl, t_q0_22⟩) (okL_c (⟨_, rfl⟩) (okL_c (⟨_, rfl⟩) (okL_c (⟨_, rfl⟩) (okL_c (⟨_, rfl, t_q0_26⟩) (okL_c (⟨_, rfl, t_q0_27⟩) (okL_c (⟨_, rfl, t_q0_28⟩) (okL_c (⟨_, rfl, t_q0_29⟩) (okL_c (⟨_, rfl, t_q0_30⟩) (okL_c (⟨_, rfl, t_q0_31⟩) (okL_c (⟨_, rfl⟩) (okL_c (⟨_, rfl, t_q0_33⟩) (okL_c (⟨_, rfl, t_q0_34⟩) (okL_c (⟨_, rfl, t_q0_35⟩) (okL_n)))))))))))))))))))))))))))))))))))))
                have hO := hO0
                have hH : HT D cs A T O X H := HT.layA hH t_q0_35 (show sp cs T (2, 160, 0) _ from ⟨_, rfl⟩)
                have z9_m1 : ((-1) : Int32).toInt = -1 := by decide
                exact te_i hx hb hr hlocks hH hS (⟨rfl, by decide, by decide⟩) dX12_told_198
          · skip
            have fuc60 := full_i p57_5
            have fvc60 := full_i v20
            have tc60 := g_nle c60
            refine lv_aload_n hx hb dX12_told_63 rfl (lv_at hl 4 rfl) ?_
            refine x_getk (ci := 12) (C := RX12) (F := TX12) (N := 36) (v := .ref q0_35) hx hb hts uX12 hown hkb hH 1 rfl rfl 35 (by decide) rfl kw_1258 (fun _ h9 => h9) dX12_told_64 ?_
            refine lv_bipush (v := 40) hx hb dX12_told_67 (by decide) ?_
            refine lv_iload_n hx hb dX12_told_69 rfl (lv_at hl 5 rfl) ?_
            refine lv_imul hx hb dX12_told_70 ?_
            refine lv_topi (fun v70 ev70 => ?_)
            have tv70 : v70.toInt = (40) * x1.toInt := by rw [ev70]; exact mul_i (by decide : (40 : Int32).toInt = 40) rfl (by omega) (by omega)
            refine lv_iload hx hb dX12_told_71 (lv_at hl 0 rfl) ?_
            refine lv_iadd hx hb dX12_told_73 ?_
            refine lv_topi (fun v73 ev73 => ?_)
            have tv73 : v73.toInt = v70.toInt + p57_5.toInt := by rw [ev73]; exact add_i rfl rfl (by omega) (by omega)
            refine xa_lld hx hb hkb hH 2 rfl (by omega) (by omega) dX12_told_74 ?_
            refine lv_topl (fun v74 ev74 => ?_)
            refine lv_lstore (lv' := [(6, .long v74), (5, .int p57_5), (4, .int p57_4), (3, .int p57_3), (2, .int v20), (0, .ref a0), (1, .int x1)]) hx hb dX12_told_75 hl (by decide) rfl (fun ls hl => ?_)
            refine lv_aload_n hx hb dX12_told_77 rfl (lv_at hl 5 rfl) ?_
            refine lv_aload_n hx hb dX12_told_78 rfl (lv_at hl 5 rfl) ?_
            refine lv_aload_n hx hb dX12_told_79 rfl (lv_at hl 5 rfl) ?_
            refine x_getk (ci := 12) (C := RX12) (F := TX12) (N := 36) (v := .ref q0_35) hx hb hts uX12 hown hkb hH 1 rfl rfl 35 (by decide) rfl kw_1258 (fun _ h9 => h9) dX12_told_80 ?_
            refine lv_bipush (v := 40) hx hb dX12_told_83 (by decide) ?_
            refine lv_iload_n hx hb dX12_told_85 rfl (lv_at hl 6 rfl) ?_
            refine lv_imul hx hb dX12_told_86 ?_
            refine lv_topi (fun v86 ev86 => ?_)
            have tv86 : v86.toInt = (40) * x1.toInt := by rw [ev86]; exact mul_i (by decide : (40 : Int32).toInt = 40) rfl (by omega) (by omega)
            refine xa_lld hx hb hkb hH 2 rfl (by omega) (by omega) dX12_told_87 ?_
            refine lv_topl (fun v87 ev87 => ?_)
            have hq9 : v87.toInt = v35.toInt := by rw [ev87, ev35, show v86 = v34 from Int32.toInt_inj.mp (by omega)]
            refine lv_l2i hx hb dX12_told_88 rfl ?_
            refine lv_topi (fun v88 ev88 => ?_)
            have tv88 : v88.toInt = v87.toInt := by rw [ev88]; exact l2i_b (by omega) (by omega)
            refine lv_lload hx hb dX12_told_89 (lv_at hl 0 rfl) ?_
            refine lv_iload_n hx hb dX12_told_91 rfl (lv_at hl 3 rfl) ?_
            refine lv_iload hx hb dX12_told_92 (lv_at hl 2 rfl) ?_
            refine tk_i hH hS hA (tr_V (n := 4) (As := [.int v88, .long v74, .int p57_3, .int p57_4]) hx hb hml hown hts hkb hH (ox_c (ox_c (ox_c hOX))) hks hE hS hA (s_M_whyNotX l D cs kf T (q0_35 :: O) ((q0_35, .inl (cs.2.2.1, 160, .inr (.inl f35))) :: X) a0 hg mq v88 v74 p57_3 p57_4 f1 (.int q0_0) q0_1 (.ref q0_2) (.ref q0_3) (.ref q0_4) (.int q0_5) (.int q0_6) (.int q0_7) (.int q0_8) (.int q0_9) (.int q0_10) (.int q0_11) (.int q0_12) (.int q0_13) (.int q0_14) q0_15 f57_216 [.ref q0_17, .ref q0_18, .ref q0_19, .int f57_220, .ref q0_21, .ref q0_22, .int f57_223, .int f57_224, .int q0_25, .ref q0_26, .ref q0_27, .ref q0_28, .ref q0_29, .ref q0_30, .ref q0_31, .int q0_32, .ref q0_33, .ref q0_34, .ref q0_35] t_a0 b_hg (by omega) (by omega) (by omega) (by omega) s_f1 g_f1 t_q0_1 t_q0_15 (hO.sub (by decide))) kw_1532 kw_1534 ks_77 kw_13 kw_1535 (by decide +kernel) ⟨Nat.le_of_ble_eq_true rfl, Nat.le_of_ble_eq_true rfl⟩ (x_recv (ci := 12) hkb hH 1 rfl rfl) rfl rfl hl.1 (Nat.le_of_ble_eq_true rfl) dX12_told_94 ⟨Nat.le_of_ble_eq_true rfl, Nat.le_of_ble_eq_true rfl⟩) (fun v94 u H locs hz9 hH hS => ?_)
            obtain ⟨n94_1_16, rfl, l_v94, u_v94, x_v940⟩ := hz9
            have hH : HT D cs A T (q0_1 :: a0 :: q0_35 :: O) ((q0_1, .inl (cs.2.1, 3906, .inl f1)) :: (a0, .inr (12, [.int q0_0, .ref q0_1, .ref q0_2, .ref q0_3, .ref q0_4, .int q0_5, .int q0_6, .int q0_7, .int q0_8, .int q0_9, .int q0_10, .int q0_11, .int q0_12, .int q0_13, .int q0_14, .ref q0_15, .int n94_1_16, .ref q0_17, .ref q0_18, .ref q0_19, .int f57_220, .ref q0_21, .ref q0_22, .int f57_223, .int f57_224, .int q0_25, .ref q0_26, .ref q0_27, .ref q0_28, .ref q0_29, .ref q0_30, .ref q0_31, .int q0_32, .ref q0_33, .ref q0_34, .ref q0_35])) :: (q0_35, .inl (cs.2.2.1, 160, .inr (.inl f35))) :: X) H := hH
            refine W.widen (k := 0) (n := 0) (Nat.le_of_ble_eq_true rfl) (Nat.le_of_ble_eq_true rfl) ?_
            refine x_putk (ci := 12) (v := .int v94) (ty := tyX12 23) (C := RX12) (F := TX12) (N := 36) hx hb hts uX12 tyX12 tyX12_ok nmX12 hown hkb hH hS 1 rfl rfl 23 (by decide) kw_1246 (fun _ h9 => h9) rfl (tyX12_ok 23 (by decide)) rfl rfl (Nat.le_of_ble_eq_true rfl) dX12_told_97 (fun H locs hH hS => ?_)
            have hH : HT D cs A T (q0_1 :: a0 :: q0_35 :: O) ((q0_1, .inl (cs.2.1, 3906, .inl f1)) :: (a0, .inr (12, [.int q0_0, .ref q0_1, .ref q0_2, .ref q0_3, .ref q0_4, .int q0_5, .int q0_6, .int q0_7, .int q0_8, .int q0_9, .int q0_10, .int q0_11, .int q0_12, .int q0_13, .int q0_14, .ref q0_15, .int n94_1_16, .ref q0_17, .ref q0_18, .ref q0_19, .int f57_220, .ref q0_21, .ref q0_22, .int v94, .int f57_224, .int q0_25, .ref q0_26, .ref q0_27, .ref q0_28, .ref q0_29, .ref q0_30, .ref q0_31, .int q0_32, .ref q0_33, .ref q0_34, .ref q0_35])) :: (q0_35, .inl (cs.2.2.1, 160, .inr (.inl f35))) :: X) H := hH
            refine lv_aload_n hx hb dX12_told_100 rfl (lv_at hl 5 rfl) ?_
            refine x_getk (ci := 12) (C := RX12) (F := TX12) (N := 36) (v := .int v94) hx hb hts uX12 hown hkb hH 1 rfl rfl 23 (by decide) rfl kw_1246 (fun _ h9 => h9) dX12_told_101 ?_
            refine lv_if_eq (tgt := 110) hx hb dX12_told_104 (by decide) (fun c104 => ?_) (fun c104 => ?_)
            · skip
              have tc104 := f_eq (k := 0) (by decide) c104
              replace x_v940 := x_v940.resolve_left (fun q9 => q9 tc104)
              refine lv_lload hx hb dX12_told_110 (lv_at hl 0 rfl) ?_
              refine lv_l2i hx hb dX12_told_112 rfl ?_
              refine lv_topi (fun v112 ev112 => ?_)
              have tv112 : v112.toInt = v74.toInt := by rw [ev112]; exact l2i_b (by omega) (by omega)
              refine lv_istore (lv' := [(4, .int v112), (6, .long v74), (5, .int p57_5), (3, .int p57_3), (2, .int v20), (0, .ref a0), (1, .int x1)]) hx hb dX12_told_113 hl (by decide) rfl (fun ls hl => ?_)
              refine lv_iload_n hx hb dX12_told_115 rfl (lv_at hl 3 rfl) ?_
              refine lv_iconst (v := 1) hx hb dX12_told_116 (by decide) ?_
              refine lv_iload hx hb dX12_told_117 (lv_at hl 0 rfl) ?_
              refine lv_ishl hx hb dX12_told_119 ?_
              refine lv_topi (fun v119 ev119 => ?_)
              have tv119 : 1 ≤ v119.toInt ∧ v119.toInt ≤ 8192 := by rw [ev119]; exact shl_b 13 (by decide) (by omega) (by omega)
              refine lv_ior hx hb dX12_told_120 ?_
              refine lv_topi (fun v120 ev120 => ?_)
              refine lv_istore_n (lv' := [(3, .int v120), (4, .int v112), (6, .long v74), (5, .int p57_5), (2, .int v20), (0, .ref a0), (1, .int x1)]) hx hb dX12_told_121 rfl hl (by decide) rfl (fun ls hl => ?_)
              have ht9 := TD_s i57 (by omega) (by omega) (by rw [ev112]; exact x_v940.2.2) ev119 ev120
              have ht8 := ht9.1
              refine lv_aload_n hx hb dX12_told_122 rfl (lv_at hl 5 rfl) ?_
              refine x_getk (ci := 12) (C := RX12) (F := TX12) (N := 36) (v := .ref q0_19) hx hb hts uX12 hown hkb hH 1 rfl rfl 19 (by decide) rfl kw_1242 (fun _ h9 => h9) dX12_told_123 ?_
              refine lv_aload_n hx hb dX12_told_126 rfl (lv_at hl 5 rfl) ?_
              refine x_getk (ci := 12) (C := RX12) (F := TX12) (N := 36) (v := .int f57_220) hx hb hts uX12 hown hkb hH 1 rfl rfl 20 (by decide) rfl kw_1243 (fun _ h9 => h9) dX12_told_127 ?_
              refine lv_iload hx hb dX12_told_130 (lv_at hl 1 rfl) ?_
              refine t_ist hx hb hkb hH hS t_q0_19 (hO.no t_q0_19 (by decide)) (by omega) (by omega) (show 0 ≤ v112.toInt ∧ v112.toInt ≤ 13 from by omega) dX12_told_132 (fun H locs hH hS => ?_)
              refine lv_aload_n hx hb dX12_told_133 rfl (lv_at hl 5 rfl) ?_
              refine lv_dup hx hb dX12_told_134 rfl ?_
              refine x_getk (ci := 12) (C := RX12) (F := TX12) (N := 36) (v := .int f57_220) hx hb hts uX12 hown hkb hH 1 rfl rfl 20 (by decide) rfl kw_1243 (fun _ h9 => h9) dX12_told_135 ?_
              refine lv_iconst (v := 1) hx hb dX12_told_138 (by decide) ?_
              refine lv_iadd hx hb dX12_told_139 ?_
              refine lv_topi (fun v139 ev139 => ?_)
              have tv139 : v139.toInt = f57_220.toInt + (1) := by rw [ev139]; exact add_i rfl (by decide : (1 : Int32).toInt = 1) (by omega) (by omega)
              refine x_putk (ci := 12) (v := .int v139) (ty := tyX12 20) (C := RX12) (F := TX12) (N := 36) hx hb hts uX12 tyX12 tyX12_ok nmX12 hown hkb hH hS 1 rfl rfl 20 (by decide) kw_1243 (fun _ h9 => h9) rfl (tyX12_ok 20 (by decide)) rfl rfl (Nat.le_of_ble_eq_true rfl) dX12_told_140 (fun H locs hH hS => ?_)
              have hH : HT D cs A T (q0_1 :: a0 :: q0_35 :: O) ((q0_1, .inl (cs.2.1, 3906, .inl f1)) :: (a0, .inr (12, [.int q0_0, .ref q0_1, .ref q0_2, .ref q0_3, .ref q0_4, .int q0_5, .int q0_6, .int q0_7, .int q0_8, .int q0_9, .int q0_10, .int q0_11, .int q0_12, .int q0_13, .int q0_14, .ref q0_15, .int n94_1_16, .ref q0_17, .ref q0_18, .ref q0_19, .int v139, .ref q0_21, .ref q0_22, .int v94, .int f57_224, .int q0_25, .ref q0_26, .ref q0_27, .ref q0_28, .ref q0_29, .ref q0_30, .ref q0_31, .int q0_32, .ref q0_33, .ref q0_34, .ref q0_35])) :: (q0_35, .inl (cs.2.2.1, 160, .inr (.inl f35))) :: X) H := hH
              refine lv_aload_n hx hb dX12_told_143 rfl (lv_at hl 5 rfl) ?_
              refine lv_dup hx hb dX12_told_144 rfl ?_
              refine x_getk (ci := 12) (C := RX12) (F := TX12) (N := 36) (v := .int f57_224) hx hb hts uX12 hown hkb hH 1 rfl rfl 24 (by decide) rfl kw_1247 (fun _ h9 => h9) dX12_told_145 ?_
              refine lv_aload_n hx hb dX12_told_148 rfl (lv_at hl 5 rfl) ?_
              refine tk_i hH hS hA (tr_V (n := 0) (As := []) hx hb hml hown hts hkb hH (ox_c (ox_c (ox_c hOX))) hks hE hS hA (s_M_endsX l D cs kf T (q0_35 :: O) ((q0_35, .inl (cs.2.2.1, 160, .inr (.inl f35))) :: X) a0 hg mq f1 (.int q0_0) q0_1 (.ref q0_2) (.ref q0_3) (.ref q0_4) (.int q0_5) (.int q0_6) (.int q0_7) (.int q0_8) (.int q0_9) (.int q0_10) (.int q0_11) (.int q0_12) (.int q0_13) (.int q0_14) q0_15 n94_1_16 [.ref q0_17, .ref q0_18, .ref q0_19, .int v139, .ref q0_21, .ref q0_22, .int v94, .int f57_224, .int q0_25, .ref q0_26, .ref q0_27, .ref q0_28, .ref q0_29, .ref q0_30, .ref q0_31, .int q0_32, .ref q0_33, .ref q0_34, .ref q0_35] t_a0 b_hg s_f1 g_f1 t_q0_1 t_q0_15 (hO.sub (by decide))) kw_1536 kw_1538 ks_78 kw_13 kw_1539 (by decide +kernel) ⟨Nat.le_of_ble_eq_true rfl, Nat.le_of_ble_eq_true rfl⟩ (x_recv (ci := 12) hkb hH 1 rfl rfl) rfl rfl hl.1 (Nat.le_of_ble_eq_true rfl) dX12_told_149 ⟨Nat.le_of_ble_eq_true rfl, Nat.le_of_ble_eq_true rfl⟩) (fun v149 u H locs hz9 hH hS => ?_)
              obtain ⟨rfl, l_v149, u_v149⟩ := hz9
              have hH : HT D cs A T (q0_1 :: a0 :: q0_35 :: O) ((q0_1, .inl (cs.2.1, 3906, .inl f1)) :: (a0, .inr (12, [.int q0_0, .ref q0_1, .ref q0_2, .ref q0_3, .ref q0_4, .int q0_5, .int q0_6, .int q0_7, .int q0_8, .int q0_9, .int q0_10, .int q0_11, .int q0_12, .int q0_13, .int q0_14, .ref q0_15, .int n94_1_16, .ref q0_17, .ref q0_18, .ref q0_19, .int v139, .ref q0_21, .ref q0_22, .int v94, .int f57_224, .int q0_25, .ref q0_26, .ref q0_27, .ref q0_28, .ref q0_29, .ref q0_30, .ref q0_31, .int q0_32, .ref q0_33, .ref q0_34, .ref q0_35])) :: (q0_35, .inl (cs.2.2.1, 160, .inr (.inl f35))) :: X) H := hH
              refine W.widen (k := 0) (n := 0) (Nat.le_of_ble_eq_true rfl) (Nat.le_of_ble_eq_true rfl) ?_
              refine lv_i2l hx hb dX12_told_152 rfl ?_
              refine lv_iload hx hb dX12_told_153 (lv_at hl 1 rfl) ?_
              refine tk_i hH hS hA (tr_S (n := 2) (As := [.long v149.toInt64, .int v112]) hx hb hml hown hts hkb hH (ox_c (ox_c (ox_c hOX))) hks hE hS hA (s_M_isIn2 l D cs kf T (q0_1 :: a0 :: q0_35 :: O) ((q0_1, .inl (cs.2.1, 3906, .inl f1)) :: (a0, .inr (12, [.int q0_0, .ref q0_1, .ref q0_2, .ref q0_3, .ref q0_4, .int q0_5, .int q0_6, .int q0_7, .int q0_8, .int q0_9, .int q0_10, .int q0_11, .int q0_12, .int q0_13, .int q0_14, .ref q0_15, .int n94_1_16, .ref q0_17, .ref q0_18, .ref q0_19, .int v139, .ref q0_21, .ref q0_22, .int v94, .int f57_224, .int q0_25, .ref q0_26, .ref q0_27, .ref q0_28, .ref q0_29, .ref q0_30, .ref q0_31, .int q0_32, .ref q0_33, .ref q0_34, .ref q0_35])) :: (q0_35, .inl (cs.2.2.1, 160, .inr (.inl f35))) :: X) v149.toInt64 v112  (hO.sub (by decide))) kw_1440 kw_1441 kw_13 kw_1442 (by decide +kernel) ⟨Nat.le_of_ble_eq_true rfl, Nat.le_of_ble_eq_true rfl⟩ rfl rfl hl.1 (Nat.le_of_ble_eq_true rfl) dX12_told_155 ⟨Nat.le_of_ble_eq_true rfl, Nat.le_of_ble_eq_true rfl⟩) (fun v155 u H locs hz9 hH hS => ?_)
              obtain ⟨rfl, l_v155, u_v155, x_v1550⟩ := hz9
              have hH : HT D cs A T (q0_1 :: a0 :: q0_35 :: O) ((q0_1, .inl (cs.2.1, 3906, .inl f1)) :: (a0, .inr (12, [.int q0_0, .ref q0_1, .ref q0_2, .ref q0_3, .ref q0_4, .int q0_5, .int q0_6, .int q0_7, .int q0_8, .int q0_9, .int q0_10, .int q0_11, .int q0_12, .int q0_13, .int q0_14, .ref q0_15, .int n94_1_16, .ref q0_17, .ref q0_18, .ref q0_19, .int v139, .ref q0_21, .ref q0_22, .int v94, .int f57_224, .int q0_25, .ref q0_26, .ref q0_27, .ref q0_28, .ref q0_29, .ref q0_30, .ref q0_31, .int q0_32, .ref q0_33, .ref q0_34, .ref q0_35])) :: (q0_35, .inl (cs.2.2.1, 160, .inr (.inl f35))) :: X) H := hH
              refine W.widen (k := 0) (n := 0) (Nat.le_of_ble_eq_true rfl) (Nat.le_of_ble_eq_true rfl) ?_
              have J166 : ∀ (k166_0 : Int32) (H : Heap) (locs : List Loc) (ls : Array Slot), (0 ≤ k166_0.toInt) → (k166_0.toInt ≤ 1) → HT D cs A T (q0_1 :: a0 :: q0_35 :: O) ((q0_1, .inl (cs.2.1, 3906, .inl f1)) :: (a0, .inr (12, [.int q0_0, .ref q0_1, .ref q0_2, .ref q0_3, .ref q0_4, .int q0_5, .int q0_6, .int q0_7, .int q0_8, .int q0_9, .int q0_10, .int q0_11, .int q0_12, .int q0_13, .int q0_14, .ref q0_15, .int n94_1_16, .ref q0_17, .ref q0_18, .ref q0_19, .int v139, .ref q0_21, .ref q0_22, .int v94, .int f57_224, .int q0_25, .ref q0_26, .ref q0_27, .ref q0_28, .ref q0_29, .ref q0_30, .ref q0_31, .int q0_32, .ref q0_33, .ref q0_34, .ref q0_35])) :: (q0_35, .inl (cs.2.2.1, 160, .inr (.inl f35))) :: X) H → va_S A s.heap H locs → lv_has ls 8 [(3, .int v120), (4, .int v112), (5, .int p57_5), (2, .int v20), (0, .ref a0), (1, .int x1)] → W p l e { frames := 4, cells := 0, slots := 0, locals := 100 } s m [.ref a0, .int x1].toArray below meth c H locs 0 0 (MQ below (Ti D cs (fun r u => u = (T, O, X) ∧ -1 ≤ r.toInt ∧ r.toInt ≤ 40) A) [.ref a0, .int x1].toArray s 0 0 A) (F0 m 166 ls [.int k166_0, .int f57_224, .ref a0]) := by
                intro k166_0 H locs ls l_k166_0 u_k166_0 hH hS hl
                refine lv_iadd hx hb dX12_told_166 ?_
                refine lv_topi (fun v166 ev166 => ?_)
                refine x_putk (ci := 12) (v := .int v166) (ty := tyX12 24) (C := RX12) (F := TX12) (N := 36) hx hb hts uX12 tyX12 tyX12_ok nmX12 hown hkb hH hS 1 rfl rfl 24 (by decide) kw_1247 (fun _ h9 => h9) rfl (tyX12_ok 24 (by decide)) rfl rfl (Nat.le_of_ble_eq_true rfl) dX12_told_167 (fun H locs hH hS => ?_)
                have hH : HT D cs A T (q0_1 :: a0 :: q0_35 :: O) ((q0_1, .inl (cs.2.1, 3906, .inl f1)) :: (a0, .inr (12, [.int q0_0, .ref q0_1, .ref q0_2, .ref q0_3, .ref q0_4, .int q0_5, .int q0_6, .int q0_7, .int q0_8, .int q0_9, .int q0_10, .int q0_11, .int q0_12, .int q0_13, .int q0_14, .ref q0_15, .int n94_1_16, .ref q0_17, .ref q0_18, .ref q0_19, .int v139, .ref q0_21, .ref q0_22, .int v94, .int v166, .int q0_25, .ref q0_26, .ref q0_27, .ref q0_28, .ref q0_29, .ref q0_30, .ref q0_31, .int q0_32, .ref q0_33, .ref q0_34, .ref q0_35])) :: (q0_35, .inl (cs.2.2.1, 160, .inr (.inl f35))) :: X) H := hH
                obtain ⟨v170, ev170⟩ : ∃ y : Int32, y = p57_5 + 1 := ⟨_, rfl⟩
                have tv170 : v170.toInt = p57_5.toInt + (1) := by rw [ev170]; exact add_i rfl (by decide) (by omega) (by omega)
                refine lv_iinc (v := v170) (lv' := [(5, .int v170), (3, .int v120), (4, .int v112), (2, .int v20), (0, .ref a0), (1, .int x1)]) hx hb dX12_told_170 hl (k := 2) rfl (by rw [ev170]; rfl) (by decide) rfl (fun ls hl => ?_)
                refine lv_goto (tgt := 57) hx hb dX12_told_173 (by decide) ?_
                exact ih57 _ (by omega) v170 v112 v120 n94_1_16 v139 v94 v166 _ _ _ rfl (by omega) (by omega) (by omega) (by omega) (by omega) (by omega) (by omega) (by omega) (by first | (refine TD_0 ?_ ?_ <;> decide) | exact (ht9.2 _ tv139)) hH hS (lv_sub hl [0, 2, 1, 3, 4, 5] rfl)
              refine lv_if_eq (tgt := 165) hx hb dX12_told_158 (by decide) (fun c158 => ?_) (fun c158 => ?_)
              · skip
                have tc158 := f_eq (k := 0) (by decide) c158
                refine lv_iconst (v := 1) hx hb dX12_told_165 (by decide) ?_
                exact J166 1 _ _ _ (by decide) (by decide) hH hS (lv_sub hl [0, 1, 3, 4, 5, 6] rfl)
              · skip
                have tc158 := f_ne (k := 0) (by decide) c158
                refine lv_iconst (v := 0) hx hb dX12_told_161 (by decide) ?_
                refine lv_goto (tgt := 166) hx hb dX12_told_162 (by decide) ?_
                exact J166 0 _ _ _ (by decide) (by decide) hH hS (lv_sub hl [0, 1, 3, 4, 5, 6] rfl)
            · skip
              have tc104 := f_ne (k := 0) (by decide) c104
              clear x_v940
              refine lv_iload hx hb dX12_told_107 (lv_at hl 1 rfl) ?_
              have hH : HT D cs A T (a0 :: q0_35 :: O) ((a0, .inr (12, [.int q0_0, .ref q0_1, .ref q0_2, .ref q0_3, .ref q0_4, .int q0_5, .int q0_6, .int q0_7, .int q0_8, .int q0_9, .int q0_10, .int q0_11, .int q0_12, .int q0_13, .int q0_14, .ref q0_15, .int n94_1_16, .ref q0_17, .ref q0_18, .ref q0_19, .int f57_220, .ref q0_21, .ref q0_22, .int v94, .int f57_224, .int q0_25, .ref q0_26, .ref q0_27, .ref q0_28, .ref q0_29, .ref q0_30, .ref q0_31, .int q0_32, .ref q0_33, .ref q0_34, .ref q0_35])) :: (q0_35, .inl (cs.2.2.1, 160, .inr (.inl f35))) :: X) H := HT.layA hH t_q0_1 (show sp cs T (8, 3906, hg) _ from ⟨_, rfl, s_f1, fun _ => g_f1⟩)
              have hH : HT D cs A T (q0_35 :: O) ((q0_35, .inl (cs.2.2.1, 160, .inr (.inl f35))) :: X) H := HT.lay (ci := 12) hH t_a0 (okL_c (⟨_, rfl⟩) (okL_c (⟨_, rfl, t_q0_1⟩) (okL_c (⟨_, rfl, t_q0_2⟩) (okL_c (⟨_, rfl, t_q0_3⟩) (okL_c (⟨_, rfl, t_q0_4⟩) (okL_c (⟨_, rfl, by omega, by omega, by omega⟩) (okL_c (⟨_, rfl⟩) (okL_c (⟨_, rfl⟩) (okL_c (⟨_, rfl⟩) (okL_c (⟨_, rfl⟩) (okL_c (⟨_, rfl, by omega, by omega⟩) (okL_c (⟨_, rfl⟩) (okL_c (⟨_, rfl⟩) (okL_c (⟨_, rfl, by omega⟩) (okL_c (⟨_, rfl, by omega⟩) (okL_c (⟨_, rfl, t_q0_15⟩) (okL_c (⟨_, rfl⟩) (okL_c (⟨_, rfl, t_q0_17⟩) (okL_c (⟨_, rfl, t_q0_18⟩) (okL_c (⟨_, rfl, t_q0_19⟩) (okL_c (⟨_, rfl, by omega, by omega⟩) (okL_c (⟨_, rfl, t_q0_21⟩) (okL_c (⟨_, rfl, t_q0_22⟩) (okL_c (⟨_, rfl⟩) (okL_c (⟨_, rfl⟩) (okL_c (⟨_, rfl⟩) (okL_c (⟨_, rfl, t_q0_26⟩) (okL_c (⟨_, rfl, t_q0_27⟩) (okL_c (⟨_, rfl, t_q0_28⟩) (okL_c (⟨_, rfl, t_q0_29⟩) (okL_c (⟨_, rfl, t_q0_30⟩) (okL_c (⟨_, rfl, t_q0_31⟩) (okL_c (⟨_, rfl⟩) (okL_c (⟨_, rfl, t_q0_33⟩) (okL_c (⟨_, rfl, t_q0_34⟩) (okL_c (⟨_, rfl, t_q0_35⟩) (okL_n)))))))))))))))))))))))))))))))))))))
              have hO := hO0
              have hH : HT D cs A T O X H := HT.layA hH t_q0_35 (show sp cs T (2, 160, 0) _ from ⟨_, rfl⟩)
              exact te_i hx hb hr hlocks hH hS (⟨rfl, by omega, by omega⟩) dX12_told_109
      refine lv_istore (lv' := [(5, .int 1), (4, .int (-1)), (3, .int 0), (2, .int v20), (0, .ref a0), (1, .int x1)]) hx hb dX12_told_55 hl (by decide) rfl (fun ls hl => ?_)
      have z_m1 : ((-1) : Int32).toInt = -1 := by decide
      have z_0 : (0 : Int32).toInt = 0 := by decide
      have z_1 : (1 : Int32).toInt = 1 := by decide
      exact J57 _ 1 (-1) 0 q0_16 0 0 0 _ _ _ rfl (by decide) (by decide) (by decide) (by decide) (by decide) (by decide) (by decide) (by decide) (by first | (refine TD_0 ?_ ?_ <;> decide) | exact (ht9.2 _ tv139)) hH hS (lv_sub hl [0, 1, 2, 3, 4, 5] rfl)
    · skip
      have tc39 := f_eq (k := 0) (by decide) c39
      clear x_v360
      exact J42  _ _ _  hH hS (lv_sub hl [1] rfl)
set_option maxHeartbeats 4000000 in
set_option maxRecDepth 100000 in
theorem s_M_judge (l : Launch) (D : va_G) (cs : CS) (kf : KF) (T : TF) (O : List Nat) (X : va_W) (a0 hg mq : Nat) (x1 : Int32) (x2 : Int32) (t_a0 : T a0 = some (22, hg, mq)) (b_hg : hg < 90) (hO : okO T O [1, 2, 8, 22]) : TK l D cs kf yX12_judge cX12_judge 5 (some (.int)) { frames := 5, cells := 0, slots := 0, locals := 127 } [.ref a0, .int x1, .int x2] T O X (Ti D cs (fun r u => u = (T, O, X))) := by
  refine tk_of (by decide) (Nat.le_of_ble_eq_true rfl) (fun p e s m below meth c ls A H locs hx hb hr hml hown hts hlocks hnm hkb hH hS hA hOX hks hE hl => ?_)
  have hown : s.vm.findClass RX12 = some m.cls := hown
  have hl : lv_has ls 5 [(0, .ref a0), (1, .int x1), (2, .int x2)] := hl
  refine lv_aload_n hx hb dX12_judge_0 rfl (lv_at hl 0 rfl) ?_
  refine lv_iconst (v := 0) hx hb dX12_judge_1 (by decide) ?_
  refine t_put (ci := 12) (lst := ft12 hg mq) (v := .int 0) (ty := tyX12 0) (C := RX12) (F := TX12) (N := 36) hx hb hts uX12 tyX12 tyX12_ok nmX12 hown hkb hH hS t_a0 (hO.no t_a0 (by decide)) (fun _ => Iff.rfl) rfl rfl 0 (by decide) rfl (⟨_, rfl⟩) kw_1223 (fun _ h9 => h9) rfl (tyX12_ok 0 (by decide)) rfl rfl dX12_judge_2 (fun H locs hH hS => ?_)
  refine lv_iload_n hx hb dX12_judge_5 rfl (lv_at hl 2 rfl) ?_
  refine lv_i2l hx hb dX12_judge_6 rfl ?_
  refine lv_lconst (v := 0) hx hb dX12_judge_7 (by decide) ?_
  refine lv_ldc2 hx hb hown (hts _ kw_1522) dX12_judge_8 ?_
  refine tk_i hH hS hA (tr_S (n := 3) (As := [.long x2.toInt64, .long 0, .long 2]) hx hb hml hown hts hkb hH hOX hks hE hS hA (s_M_within l D cs kf T O X x2.toInt64 0 2  (hO.sub (by decide))) kw_1341 kw_1342 kw_13 kw_1343 (by decide +kernel) ⟨Nat.le_of_ble_eq_true rfl, Nat.le_of_ble_eq_true rfl⟩ rfl rfl hl.1 (Nat.le_of_ble_eq_true rfl) dX12_judge_11 ⟨Nat.le_of_ble_eq_true rfl, Nat.le_of_ble_eq_true rfl⟩) (fun v11 u H locs hz9 hH hS => ?_)
  obtain ⟨rfl, l_v11, u_v11, x_v110, x_v111⟩ := hz9
  simp only [Int32.toInt_toInt64] at x_v110 x_v111
  have k9_0 : (0 : Int64).toInt = 0 := by decide
  have k9_2 : (2 : Int64).toInt = 2 := by decide
  have hH : HT D cs A T O X H := hH
  refine W.widen (k := 0) (n := 0) (Nat.le_of_ble_eq_true rfl) (Nat.le_of_ble_eq_true rfl) ?_
  refine lv_if_ne (tgt := 20) hx hb dX12_judge_14 (by decide) (fun c14 => ?_) (fun c14 => ?_)
  · skip
    have tc14 := f_ne (k := 0) (by decide) c14
    replace x_v110 := x_v110.resolve_left tc14
    clear x_v111
    refine lv_aload_n hx hb dX12_judge_20 rfl (lv_at hl 0 rfl) ?_
    refine lv_iload_n hx hb dX12_judge_21 rfl (lv_at hl 1 rfl) ?_
    refine tk_i hH hS hA (tr_V (n := 1) (As := [.int x1]) hx hb hml hown hts hkb hH hOX hks hE hS hA (s_M_noTray l D cs kf T O X a0 hg mq x1 t_a0 b_hg (hO.sub (by decide))) kw_1523 kw_1525 ks_75 kw_13 kw_1526 (by decide +kernel) ⟨Nat.le_of_ble_eq_true rfl, Nat.le_of_ble_eq_true rfl⟩ (HT.recv (ci := 12) hkb hH t_a0 (hO.no t_a0 (by decide)) rfl) rfl rfl hl.1 (Nat.le_of_ble_eq_true rfl) dX12_judge_22 ⟨Nat.le_of_ble_eq_true rfl, Nat.le_of_ble_eq_true rfl⟩) (fun v22 u H locs hz9 hH hS => ?_)
    obtain ⟨rfl, l_v22, u_v22, x_v220⟩ := hz9
    have hH : HT D cs A T O X H := hH
    refine W.widen (k := 0) (n := 0) (Nat.le_of_ble_eq_true rfl) (Nat.le_of_ble_eq_true rfl) ?_
    refine lv_istore_n (lv' := [(3, .int v22), (0, .ref a0), (1, .int x1), (2, .int x2)]) hx hb dX12_judge_25 rfl hl (by decide) rfl (fun ls hl => ?_)
    refine lv_iload_n hx hb dX12_judge_26 rfl (lv_at hl 0 rfl) ?_
    refine lv_if_eq (tgt := 32) hx hb dX12_judge_27 (by decide) (fun c27 => ?_) (fun c27 => ?_)
    · skip
      have tc27 := f_eq (k := 0) (by decide) c27
      refine lv_aload_n hx hb dX12_judge_32 rfl (lv_at hl 1 rfl) ?_
      refine lv_iload_n hx hb dX12_judge_33 rfl (lv_at hl 2 rfl) ?_
      refine tk_i hH hS hA (tr_V (n := 1) (As := [.int x1]) hx hb hml hown hts hkb hH hOX hks hE hS hA (s_M_told l D cs kf T O X a0 hg mq x1 t_a0 b_hg (by omega) (by omega) (hO.sub (by decide))) kw_1528 kw_1530 ks_76 kw_13 kw_1531 (by decide +kernel) ⟨Nat.le_of_ble_eq_true rfl, Nat.le_of_ble_eq_true rfl⟩ (HT.recv (ci := 12) hkb hH t_a0 (hO.no t_a0 (by decide)) rfl) rfl rfl hl.1 (Nat.le_of_ble_eq_true rfl) dX12_judge_34 ⟨Nat.le_of_ble_eq_true rfl, Nat.le_of_ble_eq_true rfl⟩) (fun v34 u H locs hz9 hH hS => ?_)
      obtain ⟨rfl, l_v34, u_v34⟩ := hz9
      have hH : HT D cs A T O X H := hH
      refine W.widen (k := 0) (n := 0) (Nat.le_of_ble_eq_true rfl) (Nat.le_of_ble_eq_true rfl) ?_
      refine lv_istore (lv' := [(4, .int v34), (3, .int v22), (0, .ref a0), (1, .int x1), (2, .int x2)]) hx hb dX12_judge_37 hl (by decide) rfl (fun ls hl => ?_)
      refine lv_iload_n hx hb dX12_judge_39 rfl (lv_at hl 4 rfl) ?_
      refine lv_if_ne (tgt := 48) hx hb dX12_judge_40 (by decide) (fun c40 => ?_) (fun c40 => ?_)
      · skip
        have tc40 := f_ne (k := 0) (by decide) c40
        refine lv_iload_n hx hb dX12_judge_48 rfl (lv_at hl 4 rfl) ?_
        refine lv_iconst (v := 1) hx hb dX12_judge_49 (by decide) ?_
        refine lv_icmp_ne (tgt := 60) hx hb dX12_judge_50 (by decide) (fun c50 => ?_) (fun c50 => ?_)
        · skip
          have tc50 := f_ne (k := 1) (by decide) c50
          refine lv_aload_n hx hb dX12_judge_60 rfl (lv_at hl 2 rfl) ?_
          refine t_get (ci := 12) (lst := ft12 hg mq) (C := RX12) (F := TX12) (N := 36) hx hb hts uX12 hown hkb hH t_a0 (hO.no t_a0 (by decide)) (fun _ h9 => h9) rfl rfl 23 (by decide) rfl kw_1246 (fun _ h9 => h9) dX12_judge_61 (fun v9 h9 => ?_)
          obtain ⟨v61, rfl⟩ := h9
          refine lv_if_ne (tgt := 74) hx hb dX12_judge_64 (by decide) (fun c64 => ?_) (fun c64 => ?_)
          · skip
            have tc64 := f_ne (k := 0) (by decide) c64
            refine lv_iconst (v := 0) hx hb dX12_judge_74 (by decide) ?_
            exact te_i hx hb hr hlocks hH hS (rfl) dX12_judge_75
          · skip
            have tc64 := f_eq (k := 0) (by decide) c64
            refine lv_aload_n hx hb dX12_judge_67 rfl (lv_at hl 2 rfl) ?_
            refine t_get (ci := 12) (lst := ft12 hg mq) (C := RX12) (F := TX12) (N := 36) hx hb hts uX12 hown hkb hH t_a0 (hO.no t_a0 (by decide)) (fun _ h9 => h9) rfl rfl 24 (by decide) rfl kw_1247 (fun _ h9 => h9) dX12_judge_68 (fun v9 h9 => ?_)
            obtain ⟨v68, rfl⟩ := h9
            refine lv_goto (tgt := 75) hx hb dX12_judge_71 (by decide) ?_
            exact te_i hx hb hr hlocks hH hS (rfl) dX12_judge_75
        · skip
          have tc50 := f_eq (k := 1) (by decide) c50
          refine lv_aload_n hx hb dX12_judge_53 rfl (lv_at hl 2 rfl) ?_
          refine t_get (ci := 12) (lst := ft12 hg mq) (C := RX12) (F := TX12) (N := 36) hx hb hts uX12 hown hkb hH t_a0 (hO.no t_a0 (by decide)) (fun _ h9 => h9) rfl rfl 23 (by decide) rfl kw_1246 (fun _ h9 => h9) dX12_judge_54 (fun v9 h9 => ?_)
          obtain ⟨v54, rfl⟩ := h9
          refine lv_goto (tgt := 75) hx hb dX12_judge_57 (by decide) ?_
          exact te_i hx hb hr hlocks hH hS (rfl) dX12_judge_75
      · skip
        have tc40 := f_eq (k := 0) (by decide) c40
        refine lv_iload hx hb dX12_judge_43 (lv_at hl 0 rfl) ?_
        refine lv_goto (tgt := 75) hx hb dX12_judge_45 (by decide) ?_
        exact te_i hx hb hr hlocks hH hS (rfl) dX12_judge_75
    · skip
      have tc27 := f_ne (k := 0) (by decide) c27
      refine lv_iload_n hx hb dX12_judge_30 rfl (lv_at hl 0 rfl) ?_
      exact te_i hx hb hr hlocks hH hS (rfl) dX12_judge_31
  · skip
    have tc14 := f_eq (k := 0) (by decide) c14
    clear x_v110
    replace x_v111 := x_v111.resolve_left (fun q9 => q9 tc14)
    refine lv_bipush (v := (-2)) hx hb dX12_judge_17 (by decide) ?_
    exact te_i hx hb hr hlocks hH hS (rfl) dX12_judge_19
set_option maxHeartbeats 4000000 in
set_option maxRecDepth 100000 in
theorem s_M_climb (l : Launch) (D : va_G) (cs : CS) (kf : KF) (T : TF) (O : List Nat) (X : va_W) (a0 hg mq : Nat) (x1 : Int32) (t_a0 : T a0 = some (22, hg, mq)) (b_hg : hg < 90) (hO : okO T O [1, 2, 8, 22]) : TK l D cs kf yX12_climb cX12_climb 4 (some (.int)) { frames := 5, cells := 0, slots := 0, locals := 127 } [.ref a0, .int x1] T O X (Ti D cs (fun r u => u = (T, O, X))) := by
  refine tk_of (by decide) (Nat.le_of_ble_eq_true rfl) (fun p e s m below meth c ls A H locs hx hb hr hml hown hts hlocks hnm hkb hH hS hA hOX hks hE hl => ?_)
  have hown : s.vm.findClass RX12 = some m.cls := hown
  have hl : lv_has ls 4 [(0, .ref a0), (1, .int x1)] := hl
  refine lv_aload_n hx hb dX12_climb_0 rfl (lv_at hl 0 rfl) ?_
  refine lv_iconst (v := 0) hx hb dX12_climb_1 (by decide) ?_
  refine t_put (ci := 12) (lst := ft12 hg mq) (v := .int 0) (ty := tyX12 0) (C := RX12) (F := TX12) (N := 36) hx hb hts uX12 tyX12 tyX12_ok nmX12 hown hkb hH hS t_a0 (hO.no t_a0 (by decide)) (fun _ => Iff.rfl) rfl rfl 0 (by decide) rfl (⟨_, rfl⟩) kw_1223 (fun _ h9 => h9) rfl (tyX12_ok 0 (by decide)) rfl rfl dX12_climb_2 (fun H locs hH hS => ?_)
  refine lv_aload_n hx hb dX12_climb_5 rfl (lv_at hl 0 rfl) ?_
  refine lv_iload_n hx hb dX12_climb_6 rfl (lv_at hl 1 rfl) ?_
  refine tk_i hH hS hA (tr_V (n := 1) (As := [.int x1]) hx hb hml hown hts hkb hH hOX hks hE hS hA (s_M_noTray l D cs kf T O X a0 hg mq x1 t_a0 b_hg (hO.sub (by decide))) kw_1523 kw_1525 ks_75 kw_13 kw_1526 (by decide +kernel) ⟨Nat.le_of_ble_eq_true rfl, Nat.le_of_ble_eq_true rfl⟩ (HT.recv (ci := 12) hkb hH t_a0 (hO.no t_a0 (by decide)) rfl) rfl rfl hl.1 (Nat.le_of_ble_eq_true rfl) dX12_climb_7 ⟨Nat.le_of_ble_eq_true rfl, Nat.le_of_ble_eq_true rfl⟩) (fun v7 u H locs hz9 hH hS => ?_)
  obtain ⟨rfl, l_v7, u_v7, x_v70⟩ := hz9
  have hH : HT D cs A T O X H := hH
  refine W.widen (k := 0) (n := 0) (Nat.le_of_ble_eq_true rfl) (Nat.le_of_ble_eq_true rfl) ?_
  refine lv_istore_n (lv' := [(2, .int v7), (0, .ref a0), (1, .int x1)]) hx hb dX12_climb_10 rfl hl (by decide) rfl (fun ls hl => ?_)
  refine lv_iload_n hx hb dX12_climb_11 rfl (lv_at hl 0 rfl) ?_
  refine lv_if_eq (tgt := 17) hx hb dX12_climb_12 (by decide) (fun c12 => ?_) (fun c12 => ?_)
  · skip
    have tc12 := f_eq (k := 0) (by decide) c12
    refine lv_aload_n hx hb dX12_climb_17 rfl (lv_at hl 1 rfl) ?_
    refine lv_iload_n hx hb dX12_climb_18 rfl (lv_at hl 2 rfl) ?_
    refine tk_i hH hS hA (tr_V (n := 1) (As := [.int x1]) hx hb hml hown hts hkb hH hOX hks hE hS hA (s_M_told l D cs kf T O X a0 hg mq x1 t_a0 b_hg (by omega) (by omega) (hO.sub (by decide))) kw_1528 kw_1530 ks_76 kw_13 kw_1531 (by decide +kernel) ⟨Nat.le_of_ble_eq_true rfl, Nat.le_of_ble_eq_true rfl⟩ (HT.recv (ci := 12) hkb hH t_a0 (hO.no t_a0 (by decide)) rfl) rfl rfl hl.1 (Nat.le_of_ble_eq_true rfl) dX12_climb_19 ⟨Nat.le_of_ble_eq_true rfl, Nat.le_of_ble_eq_true rfl⟩) (fun v19 u H locs hz9 hH hS => ?_)
    obtain ⟨rfl, l_v19, u_v19⟩ := hz9
    have hH : HT D cs A T O X H := hH
    refine W.widen (k := 0) (n := 0) (Nat.le_of_ble_eq_true rfl) (Nat.le_of_ble_eq_true rfl) ?_
    refine lv_iconst (v := (-1)) hx hb dX12_climb_22 (by decide) ?_
    refine lv_icmp_eq (tgt := 29) hx hb dX12_climb_23 (by decide) (fun c23 => ?_) (fun c23 => ?_)
    · skip
      have tc23 := f_eq (k := -1) (by decide) c23
      refine lv_aload_n hx hb dX12_climb_29 rfl (lv_at hl 1 rfl) ?_
      refine tk_v hH hS hA (tr_V (n := 0) (As := []) hx hb hml hown hts hkb hH hOX hks hE hS hA (s_M_keeps l D cs kf T O X a0 hg mq t_a0 b_hg (hO.sub (by decide))) kw_1544 kw_1546 ks_79 kw_13 kw_1547 (by decide +kernel) ⟨Nat.le_of_ble_eq_true rfl, Nat.le_of_ble_eq_true rfl⟩ (HT.recv (ci := 12) hkb hH t_a0 (hO.no t_a0 (by decide)) rfl) rfl rfl hl.1 (Nat.le_of_ble_eq_true rfl) dX12_climb_30 ⟨Nat.le_of_ble_eq_true rfl, Nat.le_of_ble_eq_true rfl⟩) (fun u H locs hz9 hH hS => ?_)
      have hz9 : u = (T, O, X) := hz9
      subst hz9
      have hH : HT D cs A T O X H := hH
      refine W.widen (k := 0) (n := 0) (Nat.le_of_ble_eq_true rfl) (Nat.le_of_ble_eq_true rfl) ?_
      refine lv_aload_n hx hb dX12_climb_33 rfl (lv_at hl 1 rfl) ?_
      refine lv_aload_n hx hb dX12_climb_34 rfl (lv_at hl 1 rfl) ?_
      refine t_get (ci := 12) (lst := ft12 hg mq) (C := RX12) (F := TX12) (N := 36) hx hb hts uX12 hown hkb hH t_a0 (hO.no t_a0 (by decide)) (fun _ h9 => h9) rfl rfl 35 (by decide) rfl kw_1258 (fun _ h9 => h9) dX12_climb_35 (fun v9 h9 => ?_)
      obtain ⟨v35, rfl, t_v35⟩ := h9
      refine lv_bipush (v := 40) hx hb dX12_climb_38 (by decide) ?_
      refine lv_iload_n hx hb dX12_climb_40 rfl (lv_at hl 2 rfl) ?_
      refine lv_imul hx hb dX12_climb_41 ?_
      refine lv_topi (fun v41 ev41 => ?_)
      have tv41 : v41.toInt = (40) * x1.toInt := by rw [ev41]; exact mul_i (by decide : (40 : Int32).toInt = 40) rfl (by omega) (by omega)
      refine t_lld hx hb hkb hH t_v35 (hO.no t_v35 (by decide)) (by omega) (by omega) dX12_climb_42 (fun v42 => ?_)
      refine lv_l2i hx hb dX12_climb_43 rfl ?_
      refine lv_topi (fun v43 ev43 => ?_)
      refine tk_i hH hS hA (tr_V (n := 1) (As := [.int v43]) hx hb hml hown hts hkb hH hOX hks hE hS hA (s_M_usesRow l D cs kf T O X a0 hg mq v43 t_a0 b_hg (hO.sub (by decide))) kw_1548 kw_1550 ks_80 kw_13 kw_1551 (by decide +kernel) ⟨Nat.le_of_ble_eq_true rfl, Nat.le_of_ble_eq_true rfl⟩ (HT.recv (ci := 12) hkb hH t_a0 (hO.no t_a0 (by decide)) rfl) rfl rfl hl.1 (Nat.le_of_ble_eq_true rfl) dX12_climb_44 ⟨Nat.le_of_ble_eq_true rfl, Nat.le_of_ble_eq_true rfl⟩) (fun v44 u H locs hz9 hH hS => ?_)
      have hz9 : u = (T, O, X) := hz9
      subst hz9
      have hH : HT D cs A T O X H := hH
      refine W.widen (k := 0) (n := 0) (Nat.le_of_ble_eq_true rfl) (Nat.le_of_ble_eq_true rfl) ?_
      refine lv_istore_n (lv' := [(3, .int v44), (2, .int v7), (0, .ref a0), (1, .int x1)]) hx hb dX12_climb_47 rfl hl (by decide) rfl (fun ls hl => ?_)
      refine lv_aload_n hx hb dX12_climb_48 rfl (lv_at hl 2 rfl) ?_
      refine tk_v hH hS hA (tr_V (n := 0) (As := []) hx hb hml hown hts hkb hH hOX hks hE hS hA (s_M_notes l D cs kf T O X a0 hg mq t_a0 b_hg (hO.sub (by decide))) kw_1552 kw_1554 ks_81 kw_13 kw_1555 (by decide +kernel) ⟨Nat.le_of_ble_eq_true rfl, Nat.le_of_ble_eq_true rfl⟩ (HT.recv (ci := 12) hkb hH t_a0 (hO.no t_a0 (by decide)) rfl) rfl rfl hl.1 (Nat.le_of_ble_eq_true rfl) dX12_climb_49 ⟨Nat.le_of_ble_eq_true rfl, Nat.le_of_ble_eq_true rfl⟩) (fun u H locs hz9 hH hS => ?_)
      obtain ⟨rfl⟩ := hz9
      have hH : HT D cs A T O X H := hH
      refine W.widen (k := 0) (n := 0) (Nat.le_of_ble_eq_true rfl) (Nat.le_of_ble_eq_true rfl) ?_
      refine lv_iload_n hx hb dX12_climb_52 rfl (lv_at hl 0 rfl) ?_
      exact te_i hx hb hr hlocks hH hS (rfl) dX12_climb_53
    · skip
      have tc23 := f_ne (k := -1) (by decide) c23
      refine lv_bipush (v := (-5)) hx hb dX12_climb_26 (by decide) ?_
      exact te_i hx hb hr hlocks hH hS (rfl) dX12_climb_28
  · skip
    have tc12 := f_ne (k := 0) (by decide) c12
    refine lv_iload_n hx hb dX12_climb_15 rfl (lv_at hl 0 rfl) ?_
    exact te_i hx hb hr hlocks hH hS (rfl) dX12_climb_16
/-! walls of the reference that are copied -/
theorem S8_cong {p q : Nat → Int32} (h : ∀ j, j < 1302 → q j = p j) (hS : S8 p) : S8 q := by
  obtain ⟨a1, a2, a3, a4, a5, a6, a7, a8⟩ := hS
  refine ⟨?_, ?_, ?_, ?_, ?_, ?_, ?_, ?_⟩
  · rw [h 1 (by omega)]; exact a1
  · rw [h 2 (by omega)]; exact a2
  · rw [h 4 (by omega)]; exact a3
  · rw [h 5 (by omega)]; exact a4
  · rw [h 6 (by omega)]; exact a5
  · rw [h 90 (by omega)]; exact a6
  · rw [h 401 (by omega)]; exact a7
  · intro k hk h1
    rw [h 401 (by omega)] at hk
    have hk9 : k < 900 := by omega
    rw [h (402 + k) (by omega)] at h1 ⊢
    rw [dpn_same (f := p) (g := q) (N := 900) (fun j hj => h (402 + j) (by omega)) k (by omega)]
    exact a8 k hk h1
/-- so many numbers of the first wall are copied to b on -/
def CI (f g : Nat → Int32) (b k : Nat) : Prop := ∀ j, g j = if b ≤ j ∧ j < b + k then f (j - b) else f j
theorem CI_0 {f : Nat → Int32} {b : Nat} {z : Int32} (hz : z.toInt = 0) : CI f f b z.toInt.toNat := fun j => by rw [if_neg (by omega)]
theorem CI_s {f g F : Nat → Int32} {b : Nat} {p v w x : Int32} (hi : CI f g b p.toInt.toNat) (h0 : 0 ≤ p.toInt) (h1 : p.toInt < 1302) (hb : 1302 ≤ b) (hv : v.toInt = p.toInt + 1) (hx : x = g p.toInt.toNat) (hw : w.toInt = b + p.toInt) (eF : F = upd g w.toInt.toNat x) : CI f F b v.toInt.toNat := fun j => by
  have e : w.toInt.toNat = b + p.toInt.toNat := by omega
  have hk := hi p.toInt.toNat
  rw [if_neg (by omega)] at hk
  rw [eF, e]
  by_cases q : j = b + p.toInt.toNat
  · rw [q, upd_eq, hx, hk, if_pos (by omega), show b + p.toInt.toNat - b = p.toInt.toNat by omega]
  · rw [upd_ne q, hi j]
    by_cases q2 : b ≤ j ∧ j < b + p.toInt.toNat
    · rw [if_pos q2, if_pos (by omega)]
    · rw [if_neg q2, if_neg (by omega)]
theorem CI_B8 {f g : Nat → Int32} {b : Nat} {p : Int32} (hi : CI f g b p.toInt.toNat) (hp : p.toInt = 1302) (hB : B8 3906 f) (hb : b = 1302 ∨ b = 2604) : B8 3906 g ∧ g 1 = f 1 ∧ g 2 = f 2 := by
  have e : p.toInt.toNat = 1302 := by omega
  rw [e] at hi
  refine ⟨fun z hz => ?_, by rw [hi 1, if_neg (by omega)], by rw [hi 2, if_neg (by omega)]⟩
  by_cases q : z * 1302 = b
  · refine S8_cong (p := f) (fun j hj => ?_) hB.first
    show g (z * 1302 + j) = f j
    rw [hi, if_pos (by omega), show z * 1302 + j - b = j by omega]
  · refine S8_cong (p := fun j => f (z * 1302 + j)) (fun j hj => ?_) (hB z hz)
    show g (z * 1302 + j) = f (z * 1302 + j)
    rw [hi, if_neg (by omega)]
theorem dX12_image_0 : decode cX12_image 0 = .ok (.aload_n 0, 1) := by decide +kernel
theorem dX12_image_1 : decode cX12_image 1 = .ok (.iconst 0, 1) := by decide +kernel
theorem dX12_image_2 : decode cX12_image 2 = .ok (.putfield 1, 3) := by decide +kernel
theorem dX12_image_5 : decode cX12_image 5 = .ok (.iload_n 1, 1) := by decide +kernel
theorem dX12_image_6 : decode cX12_image 6 = .ok (.i2l, 1) := by decide +kernel
theorem dX12_image_7 : decode cX12_image 7 = .ok (.lconst 0, 1) := by decide +kernel
theorem dX12_image_8 : decode cX12_image 8 = .ok (.lconst 1, 1) := by decide +kernel
theorem dX12_image_9 : decode cX12_image 9 = .ok (.invokestatic 144, 3) := by decide +kernel
theorem dX12_image_12 : decode cX12_image 12 = .ok (.ifCond .ne 6, 3) := by decide +kernel
theorem dX12_image_15 : decode cX12_image 15 = .ok (.bipush (-2), 2) := by decide +kernel
theorem dX12_image_17 : decode cX12_image 17 = .ok (.ireturn, 1) := by decide +kernel
theorem dX12_image_18 : decode cX12_image 18 = .ok (.iconst 0, 1) := by decide +kernel
theorem dX12_image_19 : decode cX12_image 19 = .ok (.istore_n 2, 1) := by decide +kernel
theorem dX12_image_20 : decode cX12_image 20 = .ok (.iload_n 2, 1) := by decide +kernel
theorem dX12_image_21 : decode cX12_image 21 = .ok (.sipush 1302, 3) := by decide +kernel
theorem dX12_image_24 : decode cX12_image 24 = .ok (.if_icmp .ge 29, 3) := by decide +kernel
theorem dX12_image_27 : decode cX12_image 27 = .ok (.aload_n 0, 1) := by decide +kernel
theorem dX12_image_28 : decode cX12_image 28 = .ok (.getfield 13, 3) := by decide +kernel
theorem dX12_image_31 : decode cX12_image 31 = .ok (.sipush 1302, 3) := by decide +kernel
theorem dX12_image_34 : decode cX12_image 34 = .ok (.iload_n 1, 1) := by decide +kernel
theorem dX12_image_35 : decode cX12_image 35 = .ok (.iconst 1, 1) := by decide +kernel
theorem dX12_image_36 : decode cX12_image 36 = .ok (.iadd, 1) := by decide +kernel
theorem dX12_image_37 : decode cX12_image 37 = .ok (.imul, 1) := by decide +kernel
theorem dX12_image_38 : decode cX12_image 38 = .ok (.iload_n 2, 1) := by decide +kernel
theorem dX12_image_39 : decode cX12_image 39 = .ok (.iadd, 1) := by decide +kernel
theorem dX12_image_40 : decode cX12_image 40 = .ok (.aload_n 0, 1) := by decide +kernel
theorem dX12_image_41 : decode cX12_image 41 = .ok (.getfield 13, 3) := by decide +kernel
theorem dX12_image_44 : decode cX12_image 44 = .ok (.iload_n 2, 1) := by decide +kernel
theorem dX12_image_45 : decode cX12_image 45 = .ok (.iaload, 1) := by decide +kernel
theorem dX12_image_46 : decode cX12_image 46 = .ok (.iastore, 1) := by decide +kernel
theorem dX12_image_47 : decode cX12_image 47 = .ok (.iinc 2 1, 3) := by decide +kernel
theorem dX12_image_50 : decode cX12_image 50 = .ok (.goto (-30), 3) := by decide +kernel
theorem dX12_image_53 : decode cX12_image 53 = .ok (.aload_n 0, 1) := by decide +kernel
theorem dX12_image_54 : decode cX12_image 54 = .ok (.getfield 17, 3) := by decide +kernel
theorem dX12_image_57 : decode cX12_image 57 = .ok (.iload_n 1, 1) := by decide +kernel
theorem dX12_image_58 : decode cX12_image 58 = .ok (.iconst 1, 1) := by decide +kernel
theorem dX12_image_59 : decode cX12_image 59 = .ok (.bastore, 1) := by decide +kernel
theorem dX12_image_60 : decode cX12_image 60 = .ok (.iconst 0, 1) := by decide +kernel
theorem dX12_image_61 : decode cX12_image 61 = .ok (.ireturn, 1) := by decide +kernel
theorem kw_1225 : Cond.fieldLink "FootholdWallModel" 17 "FootholdWallModel" "hasImage" "[Z" ∈ gw := gw_of (tb_of 1225 (by decide +kernel)) (by decide +kernel)
set_option maxHeartbeats 4000000 in
set_option maxRecDepth 100000 in
theorem s_M_image (l : Launch) (D : va_G) (cs : CS) (kf : KF) (T : TF) (O : List Nat) (X : va_W) (a0 hg mq : Nat) (x1 : Int32) (t_a0 : T a0 = some (22, hg, mq)) (b_hg : hg < 90) (hO : okO T O [3, 8, 22]) : TK l D cs kf yX12_image cX12_image 3 (some (.int)) { frames := 1, cells := 0, slots := 0, locals := 25 } [.ref a0, .int x1] T O X (Ti D cs (fun r u => u = (T, O, X) ∧ -2 ≤ r.toInt ∧ r.toInt ≤ 0)) := by
  refine tk_of (by decide) (Nat.le_of_ble_eq_true rfl) (fun p e s m below meth c ls A H locs hx hb hr hml hown hts hlocks hnm hkb hH hS hA hOX hks hE hl => ?_)
  have hown : s.vm.findClass RX12 = some m.cls := hown
  have hl : lv_has ls 3 [(0, .ref a0), (1, .int x1)] := hl
  have hO0 := hO
  obtain ⟨fs9, ho9, hH⟩ := hH.take t_a0 (hO0.no t_a0 (by decide))
  have hp0 : okL T (ft12 hg mq) fs9 := ho9
  clear ho9
  obtain ⟨v9, fs9, rfl, h9, hp1⟩ := okL_i hp0
  obtain ⟨q0_0, rfl⟩ := h9
  obtain ⟨v9, fs9, rfl, h9, hp2⟩ := okL_i hp1
  obtain ⟨q0_1, rfl, t_q0_1⟩ := h9
  obtain ⟨v9, fs9, rfl, h9, hp3⟩ := okL_i hp2
  obtain ⟨q0_2, rfl, t_q0_2⟩ := h9
  obtain ⟨v9, fs9, rfl, h9, hp4⟩ := okL_i hp3
  obtain ⟨q0_3, rfl, t_q0_3⟩ := h9
  obtain ⟨v9, fs9, rfl, h9, hp5⟩ := okL_i hp4
  obtain ⟨q0_4, rfl, t_q0_4⟩ := h9
  obtain ⟨v9, fs9, rfl, h9, hp6⟩ := okL_i hp5
  obtain ⟨q0_5, rfl, l_q0_5, u_q0_5, eg_q0_5⟩ := h9
  obtain ⟨v9, fs9, rfl, h9, hp7⟩ := okL_i hp6
  obtain ⟨q0_6, rfl⟩ := h9
  obtain ⟨v9, fs9, rfl, h9, hp8⟩ := okL_i hp7
  obtain ⟨q0_7, rfl⟩ := h9
  obtain ⟨v9, fs9, rfl, h9, hp9⟩ := okL_i hp8
  obtain ⟨q0_8, rfl⟩ := h9
  obtain ⟨v9, fs9, rfl, h9, hp10⟩ := okL_i hp9
  obtain ⟨q0_9, rfl⟩ := h9
  obtain ⟨v9, fs9, rfl, h9, hp11⟩ := okL_i hp10
  obtain ⟨q0_10, rfl, l_q0_10, u_q0_10⟩ := h9
  obtain ⟨v9, fs9, rfl, h9, hp12⟩ := okL_i hp11
  obtain ⟨q0_11, rfl⟩ := h9
  obtain ⟨v9, fs9, rfl, h9, hp13⟩ := okL_i hp12
  obtain ⟨q0_12, rfl⟩ := h9
  obtain ⟨v9, fs9, rfl, h9, hp14⟩ := okL_i hp13
  obtain ⟨q0_13, rfl, eg_q0_13⟩ := h9
  obtain ⟨v9, fs9, rfl, h9, hp15⟩ := okL_i hp14
  obtain ⟨q0_14, rfl, eg_q0_14⟩ := h9
  obtain ⟨v9, fs9, rfl, h9, hp16⟩ := okL_i hp15
  obtain ⟨q0_15, rfl, t_q0_15⟩ := h9
  obtain ⟨v9, fs9, rfl, h9, hp17⟩ := okL_i hp16
  obtain ⟨q0_16, rfl⟩ := h9
  obtain ⟨v9, fs9, rfl, h9, hp18⟩ := okL_i hp17
  obtain ⟨q0_17, rfl, t_q0_17⟩ := h9
  obtain ⟨v9, fs9, rfl, h9, hp19⟩ := okL_i hp18
  obtain ⟨q0_18, rfl, t_q0_18⟩ := h9
  obtain ⟨v9, fs9, rfl, h9, hp20⟩ := okL_i hp19
  obtain ⟨q0_19, rfl, t_q0_19⟩ := h9
  obtain ⟨v9, fs9, rfl, h9, hp21⟩ := okL_i hp20
  obtain ⟨q0_20, rfl, l_q0_20, u_q0_20⟩ := h9
  obtain ⟨v9, fs9, rfl, h9, hp22⟩ := okL_i hp21
  obtain ⟨q0_21, rfl, t_q0_21⟩ := h9
  obtain ⟨v9, fs9, rfl, h9, hp23⟩ := okL_i hp22
  obtain ⟨q0_22, rfl, t_q0_22⟩ := h9
  obtain ⟨v9, fs9, rfl, h9, hp24⟩ := okL_i hp23
  obtain ⟨q0_23, rfl⟩ := h9
  obtain ⟨v9, fs9, rfl, h9, hp25⟩ := okL_i hp24
  obtain ⟨q0_24, rfl⟩ := h9
  obtain ⟨v9, fs9, rfl, h9, hp26⟩ := okL_i hp25
  obtain ⟨q0_25, rfl⟩ := h9
  obtain ⟨v9, fs9, rfl, h9, hp27⟩ := okL_i hp26
  obtain ⟨q0_26, rfl, t_q0_26⟩ := h9
  obtain ⟨v9, fs9, rfl, h9, hp28⟩ := okL_i hp27
  obtain ⟨q0_27, rfl, t_q0_27⟩ := h9
  obtain ⟨v9, fs9, rfl, h9, hp29⟩ := okL_i hp28
  obtain ⟨q0_28, rfl, t_q0_28⟩ := h9
  obtain ⟨v9, fs9, rfl, h9, hp30⟩ := okL_i hp29
  obtain ⟨q0_29, rfl, t_q0_29⟩ := h9
  obtain ⟨v9, fs9, rfl, h9, hp31⟩ := okL_i hp30
  obtain ⟨q0_30, rfl, t_q0_30⟩ := h9
  obtain ⟨v9, fs9, rfl, h9, hp32⟩ := okL_i hp31
  obtain ⟨q0_31, rfl, t_q0_31⟩ := h9
  obtain ⟨v9, fs9, rfl, h9, hp33⟩ := okL_i hp32
  obtain ⟨q0_32, rfl⟩ := h9
  obtain ⟨v9, fs9, rfl, h9, hp34⟩ := okL_i hp33
  obtain ⟨q0_33, rfl, t_q0_33⟩ := h9
  obtain ⟨v9, fs9, rfl, h9, hp35⟩ := okL_i hp34
  obtain ⟨q0_34, rfl, t_q0_34⟩ := h9
  obtain ⟨v9, fs9, rfl, h9, hp36⟩ := okL_i hp35
  obtain ⟨q0_35, rfl, t_q0_35⟩ := h9
  have hpz := okL_z hp36
  subst hpz
  have hH : HT D cs A T (a0 :: O) ((a0, .inr (12, [.int q0_0, .ref q0_1, .ref q0_2, .ref q0_3, .ref q0_4, .int q0_5, .int q0_6, .int q0_7, .int q0_8, .int q0_9, .int q0_10, .int q0_11, .int q0_12, .int q0_13, .int q0_14, .ref q0_15, .int q0_16, .ref q0_17, .ref q0_18, .ref q0_19, .int q0_20, .ref q0_21, .ref q0_22, .int q0_23, .int q0_24, .int q0_25, .ref q0_26, .ref q0_27, .ref q0_28, .ref q0_29, .ref q0_30, .ref q0_31, .int q0_32, .ref q0_33, .ref q0_34, .ref q0_35])) :: X) H := hH
  have hO : okO T (a0 :: O) [3, 8] := okO.cons (hO0.sub (by decide)) t_a0 (by decide)
  obtain ⟨e9, hs9, hH⟩ := HT.takeA hH t_q0_1 (nm_c (tag_ne t_q0_1 t_a0 (fun q => absurd (show 8 = 22 from congrArg Prod.fst q) (by decide))) (hO0.no t_q0_1 (by decide)))
  obtain ⟨f1, rfl, s_f1, g_f1⟩ : ∃ f : Nat → Int32, e9 = .inl (cs.2.1, 3906, .inl f) ∧ B8 3906 f ∧ (3906 = 3906 → f 1 = nI (hg / 6) ∧ f 2 = nI (hg % 6)) := hs9
  have g_f1 := g_f1 rfl
  have hO : okO T (q0_1 :: a0 :: O) [3] := okO.cons (hO.sub (by decide)) t_q0_1 (by decide)
  refine lv_aload_n hx hb dX12_image_0 rfl (lv_at hl 0 rfl) ?_
  refine lv_iconst (v := 0) hx hb dX12_image_1 (by decide) ?_
  refine x_putk (ci := 12) (v := .int 0) (ty := tyX12 0) (C := RX12) (F := TX12) (N := 36) hx hb hts uX12 tyX12 tyX12_ok nmX12 hown hkb hH hS 1 rfl rfl 0 (by decide) kw_1223 (fun _ h9 => h9) rfl (tyX12_ok 0 (by decide)) rfl rfl (Nat.le_of_ble_eq_true rfl) dX12_image_2 (fun H locs hH hS => ?_)
  have hH : HT D cs A T (q0_1 :: a0 :: O) ((q0_1, .inl (cs.2.1, 3906, .inl f1)) :: (a0, .inr (12, [.int 0, .ref q0_1, .ref q0_2, .ref q0_3, .ref q0_4, .int q0_5, .int q0_6, .int q0_7, .int q0_8, .int q0_9, .int q0_10, .int q0_11, .int q0_12, .int q0_13, .int q0_14, .ref q0_15, .int q0_16, .ref q0_17, .ref q0_18, .ref q0_19, .int q0_20, .ref q0_21, .ref q0_22, .int q0_23, .int q0_24, .int q0_25, .ref q0_26, .ref q0_27, .ref q0_28, .ref q0_29, .ref q0_30, .ref q0_31, .int q0_32, .ref q0_33, .ref q0_34, .ref q0_35])) :: X) H := hH
  refine lv_iload_n hx hb dX12_image_5 rfl (lv_at hl 1 rfl) ?_
  refine lv_i2l hx hb dX12_image_6 rfl ?_
  refine lv_lconst (v := 0) hx hb dX12_image_7 (by decide) ?_
  refine lv_lconst (v := 1) hx hb dX12_image_8 (by decide) ?_
  refine tk_i hH hS hA (tr_S (n := 3) (As := [.long x1.toInt64, .long 0, .long 1]) hx hb hml hown hts hkb hH (ox_c (ox_c hOX)) hks hE hS hA (s_M_within l D cs kf T (q0_1 :: a0 :: O) ((q0_1, .inl (cs.2.1, 3906, .inl f1)) :: (a0, .inr (12, [.int 0, .ref q0_1, .ref q0_2, .ref q0_3, .ref q0_4, .int q0_5, .int q0_6, .int q0_7, .int q0_8, .int q0_9, .int q0_10, .int q0_11, .int q0_12, .int q0_13, .int q0_14, .ref q0_15, .int q0_16, .ref q0_17, .ref q0_18, .ref q0_19, .int q0_20, .ref q0_21, .ref q0_22, .int q0_23, .int q0_24, .int q0_25, .ref q0_26, .ref q0_27, .ref q0_28, .ref q0_29, .ref q0_30, .ref q0_31, .int q0_32, .ref q0_33, .ref q0_34, .ref q0_35])) :: X) x1.toInt64 0 1  (hO.sub (by decide))) kw_1341 kw_1342 kw_13 kw_1343 (by decide +kernel) ⟨Nat.le_of_ble_eq_true rfl, Nat.le_of_ble_eq_true rfl⟩ rfl rfl hl.1 (Nat.le_of_ble_eq_true rfl) dX12_image_9 ⟨Nat.le_of_ble_eq_true rfl, Nat.le_of_ble_eq_true rfl⟩) (fun v9 u H locs hz9 hH hS => ?_)
  obtain ⟨rfl, l_v9, u_v9, x_v90, x_v91⟩ := hz9
  simp only [Int32.toInt_toInt64] at x_v90 x_v91
  have k9_0 : (0 : Int64).toInt = 0 := by decide
  have k9_1 : (1 : Int64).toInt = 1 := by decide
  have hH : HT D cs A T (q0_1 :: a0 :: O) ((q0_1, .inl (cs.2.1, 3906, .inl f1)) :: (a0, .inr (12, [.int 0, .ref q0_1, .ref q0_2, .ref q0_3, .ref q0_4, .int q0_5, .int q0_6, .int q0_7, .int q0_8, .int q0_9, .int q0_10, .int q0_11, .int q0_12, .int q0_13, .int q0_14, .ref q0_15, .int q0_16, .ref q0_17, .ref q0_18, .ref q0_19, .int q0_20, .ref q0_21, .ref q0_22, .int q0_23, .int q0_24, .int q0_25, .ref q0_26, .ref q0_27, .ref q0_28, .ref q0_29, .ref q0_30, .ref q0_31, .int q0_32, .ref q0_33, .ref q0_34, .ref q0_35])) :: X) H := hH
  refine W.widen (k := 0) (n := 0) (Nat.le_of_ble_eq_true rfl) (Nat.le_of_ble_eq_true rfl) ?_
  refine lv_if_ne (tgt := 18) hx hb dX12_image_12 (by decide) (fun c12 => ?_) (fun c12 => ?_)
  · skip
    have tc12 := f_ne (k := 0) (by decide) c12
    replace x_v90 := x_v90.resolve_left tc12
    clear x_v91
    refine lv_iconst (v := 0) hx hb dX12_image_18 (by decide) ?_
    have J20 : ∀ (n : Nat) (p20_2 : Int32) (g20_0 : Nat → Int32) (H : Heap) (locs : List Loc) (ls : Array Slot), (1302 - p20_2.toInt).toNat = n → (0 ≤ p20_2.toInt) → (p20_2.toInt ≤ 1302) → (CI f1 g20_0 (1302 * (x1.toInt.toNat + 1)) p20_2.toInt.toNat) → HT D cs A T (q0_1 :: a0 :: O) ((q0_1, .inl (cs.2.1, 3906, .inl g20_0)) :: (a0, .inr (12, [.int 0, .ref q0_1, .ref q0_2, .ref q0_3, .ref q0_4, .int q0_5, .int q0_6, .int q0_7, .int q0_8, .int q0_9, .int q0_10, .int q0_11, .int q0_12, .int q0_13, .int q0_14, .ref q0_15, .int q0_16, .ref q0_17, .ref q0_18, .ref q0_19, .int q0_20, .ref q0_21, .ref q0_22, .int q0_23, .int q0_24, .int q0_25, .ref q0_26, .ref q0_27, .ref q0_28, .ref q0_29, .ref q0_30, .ref q0_31, .int q0_32, .ref q0_33, .ref q0_34, .ref q0_35])) :: X) H → va_S A s.heap H locs → lv_has ls 3 [(2, .int p20_2), (0, .ref a0), (1, .int x1)] → W p l e { frames := 1, cells := 0, slots := 0, locals := 25 } s m [.ref a0, .int x1].toArray below meth c H locs 0 0 (MQ below (Ti D cs (fun r u => u = (T, O, X) ∧ -2 ≤ r.toInt ∧ r.toInt ≤ 0) A) [.ref a0, .int x1].toArray s 0 0 A) (F0 m 20 ls []) := by
      intro n
      induction n using Nat.strongRecOn with
      | _ n ih20 =>
        intro p20_2 g20_0 H locs ls hm20 l_p20_2 u_p20_2 i20 hH hS hl
        refine lv_iload_n hx hb dX12_image_20 rfl (lv_at hl 0 rfl) ?_
        refine lv_sipush (v := 1302) hx hb dX12_image_21 (by decide) ?_
        refine lv_icmp_ge (tgt := 53) hx hb dX12_image_24 (by decide) (fun c24 => ?_) (fun c24 => ?_)
        · skip
          have tc24 := f_ge (k := 1302) (by decide) c24
          have hB9 := CI_B8 i20 (by omega) s_f1 (by omega)
          refine lv_aload_n hx hb dX12_image_53 rfl (lv_at hl 1 rfl) ?_
          refine x_getk (ci := 12) (C := RX12) (F := TX12) (N := 36) (v := .ref q0_2) hx hb hts uX12 hown hkb hH 1 rfl rfl 2 (by decide) rfl kw_1225 (fun _ h9 => h9) dX12_image_54 ?_
          refine lv_iload_n hx hb dX12_image_57 rfl (lv_at hl 2 rfl) ?_
          refine lv_iconst (v := 1) hx hb dX12_image_58 (by decide) ?_
          refine t_zst hx hb hkb hH hS t_q0_2 (hO.no t_q0_2 (by decide)) (by omega) (by omega) dX12_image_59 (fun H locs hH hS => ?_)
          refine lv_iconst (v := 0) hx hb dX12_image_60 (by decide) ?_
          have hH : HT D cs A T (a0 :: O) ((a0, .inr (12, [.int 0, .ref q0_1, .ref q0_2, .ref q0_3, .ref q0_4, .int q0_5, .int q0_6, .int q0_7, .int q0_8, .int q0_9, .int q0_10, .int q0_11, .int q0_12, .int q0_13, .int q0_14, .ref q0_15, .int q0_16, .ref q0_17, .ref q0_18, .ref q0_19, .int q0_20, .ref q0_21, .ref q0_22, .int q0_23, .int q0_24, .int q0_25, .ref q0_26, .ref q0_27, .ref q0_28, .ref q0_29, .ref q0_30, .ref q0_31, .int q0_32, .ref q0_33, .ref q0_34, .ref q0_35])) :: X) H := HT.layA hH t_q0_1 (show sp cs T (8, 3906, hg) _ from ⟨_, rfl, hB9.1, fun _ => ⟨hB9.2.1.trans g_f1.1, hB9.2.2.trans g_f1.2⟩⟩)
          have hH : HT D cs A T O X H := HT.lay (ci := 12) hH t_a0 (okL_c (⟨_, rfl⟩) (okL_c (⟨_, rfl, t_q0_1⟩) (okL_c (⟨_, rfl, t_q0_2⟩) (okL_c (⟨_, rfl, t_q0_3⟩) (okL_c (⟨_, rfl, t_q0_4⟩) (okL_c (⟨_, rfl, by omega, by omega, by omega⟩) (okL_c (⟨_, rfl⟩) (okL_c (⟨_, rfl⟩) (okL_c (⟨_, rfl⟩) (okL_c (⟨_, rfl⟩) (okL_c (⟨_, rfl, by omega, by omega⟩) (okL_c (⟨_, rfl⟩) (okL_c (⟨_, rfl⟩) (okL_c (⟨_, rfl, by omega⟩) (okL_c (⟨_, rfl, by omega⟩) (okL_c (⟨_, rfl, t_q0_15⟩) (okL_c (⟨_, rfl⟩) (okL_c (⟨_, rfl, t_q0_17⟩) (okL_c (⟨_, rfl, t_q0_18⟩) (okL_c (⟨_, rfl, t_q0_19⟩) (okL_c (⟨_, rfl, by omega, by omega⟩) (okL_c (⟨_, rfl, t_q0_21⟩) (okL_c (⟨_, rfl, t_q0_22⟩) (okL_c (⟨_, rfl⟩) (okL_c (⟨_, rfl⟩) (okL_c (⟨_, rfl⟩) (okL_c (⟨_, rfl, t_q0_26⟩) (okL_c (⟨_, rfl, t_q0_27⟩) (okL_c (⟨_, rfl, t_q0_28⟩) (okL_c (⟨_, rfl, t_q0_29⟩) (okL_c (⟨_, rfl, t_q0_30⟩) (okL_c (⟨_, rfl, t_q0_31⟩) (okL_c (⟨_, rfl⟩) (okL_c (⟨_, rfl, t_q0_33⟩) (okL_c (⟨_, rfl, t_q0_34⟩) (okL_c (⟨_, rfl, t_q0_35⟩) (okL_n)))))))))))))))))))))))))))))))))))))
          have hO := hO0
          have z9_0 : (0 : Int32).toInt = 0 := by decide
          exact te_i hx hb hr hlocks hH hS (⟨rfl, by decide, by decide⟩) dX12_image_61
        · skip
          have tc24 := f_nge (k := 1302) (by decide) c24
          refine lv_aload_n hx hb dX12_image_27 rfl (lv_at hl 1 rfl) ?_
          refine x_getk (ci := 12) (C := RX12) (F := TX12) (N := 36) (v := .ref q0_1) hx hb hts uX12 hown hkb hH 1 rfl rfl 1 (by decide) rfl kw_1224 (fun _ h9 => h9) dX12_image_28 ?_
          refine lv_sipush (v := 1302) hx hb dX12_image_31 (by decide) ?_
          refine lv_iload_n hx hb dX12_image_34 rfl (lv_at hl 2 rfl) ?_
          refine lv_iconst (v := 1) hx hb dX12_image_35 (by decide) ?_
          refine lv_iadd hx hb dX12_image_36 ?_
          refine lv_topi (fun v36 ev36 => ?_)
          have tv36 : v36.toInt = x1.toInt + (1) := by rw [ev36]; exact add_i rfl (by decide : (1 : Int32).toInt = 1) (by omega) (by omega)
          refine lv_imul hx hb dX12_image_37 ?_
          refine lv_topi (fun v37 ev37 => ?_)
          have tv37 : v37.toInt = (1302) * v36.toInt := by rw [ev37]; exact mul_i (by decide : (1302 : Int32).toInt = 1302) rfl (by omega) (by omega)
          refine lv_iload_n hx hb dX12_image_38 rfl (lv_at hl 0 rfl) ?_
          refine lv_iadd hx hb dX12_image_39 ?_
          refine lv_topi (fun v39 ev39 => ?_)
          have tv39 : v39.toInt = v37.toInt + p20_2.toInt := by rw [ev39]; exact add_i rfl rfl (by omega) (by omega)
          refine lv_aload_n hx hb dX12_image_40 rfl (lv_at hl 1 rfl) ?_
          refine x_getk (ci := 12) (C := RX12) (F := TX12) (N := 36) (v := .ref q0_1) hx hb hts uX12 hown hkb hH 1 rfl rfl 1 (by decide) rfl kw_1224 (fun _ h9 => h9) dX12_image_41 ?_
          refine lv_iload_n hx hb dX12_image_44 rfl (lv_at hl 0 rfl) ?_
          refine xa_ild hx hb hkb hH 0 rfl (by omega) (by omega) dX12_image_45 ?_
          refine lv_topi (fun v45 ev45 => ?_)
          have tv45 : v45 = g20_0 p20_2.toInt.toNat := ev45
          refine xa_ist hx hb hkb hH hS 0 rfl (by omega) (by omega) dX12_image_46 (fun H locs hH hS => ?_)
          have hH : HT D cs A T (q0_1 :: a0 :: O) ((q0_1, .inl (cs.2.1, 3906, .inl (upd g20_0 (v39.toInt.toNat) v45))) :: (a0, .inr (12, [.int 0, .ref q0_1, .ref q0_2, .ref q0_3, .ref q0_4, .int q0_5, .int q0_6, .int q0_7, .int q0_8, .int q0_9, .int q0_10, .int q0_11, .int q0_12, .int q0_13, .int q0_14, .ref q0_15, .int q0_16, .ref q0_17, .ref q0_18, .ref q0_19, .int q0_20, .ref q0_21, .ref q0_22, .int q0_23, .int q0_24, .int q0_25, .ref q0_26, .ref q0_27, .ref q0_28, .ref q0_29, .ref q0_30, .ref q0_31, .int q0_32, .ref q0_33, .ref q0_34, .ref q0_35])) :: X) H := hH
          obtain ⟨F46, eF46⟩ : ∃ f9, f9 = upd g20_0 (v39.toInt.toNat) v45 := ⟨_, rfl⟩
          have hH : HT D cs A T (q0_1 :: a0 :: O) ((q0_1, .inl (cs.2.1, 3906, .inl F46)) :: (a0, .inr (12, [.int 0, .ref q0_1, .ref q0_2, .ref q0_3, .ref q0_4, .int q0_5, .int q0_6, .int q0_7, .int q0_8, .int q0_9, .int q0_10, .int q0_11, .int q0_12, .int q0_13, .int q0_14, .ref q0_15, .int q0_16, .ref q0_17, .ref q0_18, .ref q0_19, .int q0_20, .ref q0_21, .ref q0_22, .int q0_23, .int q0_24, .int q0_25, .ref q0_26, .ref q0_27, .ref q0_28, .ref q0_29, .ref q0_30, .ref q0_31, .int q0_32, .ref q0_33, .ref q0_34, .ref q0_35])) :: X) H := eF46 ▸ hH
          obtain ⟨v47, ev47⟩ : ∃ y : Int32, y = p20_2 + 1 := ⟨_, rfl⟩
          have tv47 : v47.toInt = p20_2.toInt + (1) := by rw [ev47]; exact add_i rfl (by decide) (by omega) (by omega)
          refine lv_iinc (v := v47) (lv' := [(2, .int v47), (0, .ref a0), (1, .int x1)]) hx hb dX12_image_47 hl (k := 0) rfl (by rw [ev47]; rfl) (by decide) rfl (fun ls hl => ?_)
          refine lv_goto (tgt := 20) hx hb dX12_image_50 (by decide) ?_
          exact ih20 _ (by omega) v47 F46 _ _ _ rfl (by omega) (by omega) (by first | (refine CI_0 ?_; decide) | (refine CI_s i20 ?_ ?_ ?_ tv47 tv45 ?_ eF46 <;> omega)) hH hS (lv_sub hl [0, 1, 2] rfl)
    refine lv_istore_n (lv' := [(2, .int 0), (0, .ref a0), (1, .int x1)]) hx hb dX12_image_19 rfl hl (by decide) rfl (fun ls hl => ?_)
    have z_0 : (0 : Int32).toInt = 0 := by decide
    exact J20 _ 0 f1 _ _ _ rfl (by decide) (by decide) (by first | (refine CI_0 ?_; decide) | (refine CI_s i20 ?_ ?_ ?_ tv47 tv45 ?_ eF46 <;> omega)) hH hS (lv_sub hl [0, 1, 2] rfl)
  · skip
    have tc12 := f_eq (k := 0) (by decide) c12
    clear x_v90
    replace x_v91 := x_v91.resolve_left (fun q9 => q9 tc12)
    refine lv_bipush (v := (-2)) hx hb dX12_image_15 (by decide) ?_
    have hH : HT D cs A T (a0 :: O) ((a0, .inr (12, [.int 0, .ref q0_1, .ref q0_2, .ref q0_3, .ref q0_4, .int q0_5, .int q0_6, .int q0_7, .int q0_8, .int q0_9, .int q0_10, .int q0_11, .int q0_12, .int q0_13, .int q0_14, .ref q0_15, .int q0_16, .ref q0_17, .ref q0_18, .ref q0_19, .int q0_20, .ref q0_21, .ref q0_22, .int q0_23, .int q0_24, .int q0_25, .ref q0_26, .ref q0_27, .ref q0_28, .ref q0_29, .ref q0_30, .ref q0_31, .int q0_32, .ref q0_33, .ref q0_34, .ref q0_35])) :: X) H := HT.layA hH t_q0_1 (show sp cs T (8, 3906, hg) _ from ⟨_, rfl, s_f1, fun _ => g_f1⟩)
    have hH : HT D cs A T O X H := HT.lay (ci := 12) hH t_a0 (okL_c (⟨_, rfl⟩) (okL_c (⟨_, rfl, t_q0_1⟩) (okL_c (⟨_, rfl, t_q0_2⟩) (okL_c (⟨_, rfl, t_q0_3⟩) (okL_c (⟨_, rfl, t_q0_4⟩) (okL_c (⟨_, rfl, by omega, by omega, by omega⟩) (okL_c (⟨_, rfl⟩) (okL_c (⟨_, rfl⟩) (okL_c (⟨_, rfl⟩) (okL_c (⟨_, rfl⟩) (okL_c (⟨_, rfl, by omega, by omega⟩) (okL_c (⟨_, rfl⟩) (okL_c (⟨_, rfl⟩) (okL_c (⟨_, rfl, by omega⟩) (okL_c (⟨_, rfl, by omega⟩) (okL_c (⟨_, rfl, t_q0_15⟩) (okL_c (⟨_, rfl⟩) (okL_c (⟨_, rfl, t_q0_17⟩) (okL_c (⟨_, rfl, t_q0_18⟩) (okL_c (⟨_, rfl, t_q0_19⟩) (okL_c (⟨_, rfl, by omega, by omega⟩) (okL_c (⟨_, rfl, t_q0_21⟩) (okL_c (⟨_, rfl, t_q0_22⟩) (okL_c (⟨_, rfl⟩) (okL_c (⟨_, rfl⟩) (okL_c (⟨_, rfl⟩) (okL_c (⟨_, rfl, t_q0_26⟩) (okL_c (⟨_, rfl, t_q0_27⟩) (okL_c (⟨_, rfl, t_q0_28⟩) (okL_c (⟨_, rfl, t_q0_29⟩) (okL_c (⟨_, rfl, t_q0_30⟩) (okL_c (⟨_, rfl, t_q0_31⟩) (okL_c (⟨_, rfl⟩) (okL_c (⟨_, rfl, t_q0_33⟩) (okL_c (⟨_, rfl, t_q0_34⟩) (okL_c (⟨_, rfl, t_q0_35⟩) (okL_n)))))))))))))))))))))))))))))))))))))
    have hO := hO0
    have z9_m2 : ((-2) : Int32).toInt = -2 := by decide
    exact te_i hx hb hr hlocks hH hS (⟨rfl, by decide, by decide⟩) dX12_image_17
/-! another wall of the reference -/
def Trk (T T2 : TF) : Prop := ∀ (b : Nat) (tg : Tg), T b = some tg → tg.1 ≠ 22 → tg.1 ≠ 8 → T2 b = some tg
def mon2 (P : FT) : Prop := ∀ (T T2 : TF) (v : Value), Trk T T2 → P T v → P T2 v
theorem wI (lo hi : Int) : mon2 (fI lo hi) := fun _ _ _ _ h => h
theorem wA : mon2 fA := fun _ _ _ _ h => h
theorem wE (n : Nat) : mon2 (fE n) := fun _ _ _ _ h => h
theorem wN : mon2 fN := fun _ _ _ _ h => h
theorem wP (n : Nat) : mon2 (fP n) := fun _ _ _ _ h => h
theorem wR {tg : Tg} (h1 : tg.1 ≠ 22) (h2 : tg.1 ≠ 8) : mon2 (fR tg) := fun _ _ _ h ⟨b, x, t⟩ => ⟨b, x, h _ _ t h1 h2⟩
theorem wRd : mon2 fRd := fun _ _ _ h ⟨b, d, x, t, u⟩ => ⟨b, d, x, h _ _ t (by show 14 ≠ 22; decide) (by show 14 ≠ 8; decide), h _ _ u (by show 19 ≠ 22; decide) (by show 19 ≠ 8; decide)⟩
theorem isW.rk {T T2 : TF} (h : Trk T T2) {b x g : Nat} (hw : isW T b x g) : isW T2 b x g := ⟨h _ _ hw.1 (by show 19 ≠ 22; decide) (by show 19 ≠ 8; decide), hw.2⟩
theorem wW : mon2 fW := fun _ _ _ h ⟨b, x, g, q, t⟩ => ⟨b, x, g, q, isW.rk h t⟩
theorem wL : mon2 fLw := fun _ _ _ h q => q.elim Or.inl (fun ⟨b, n, x, t, u⟩ => Or.inr ⟨b, n, x, h _ _ t (by show 12 ≠ 22; decide) (by show 12 ≠ 8; decide), u⟩)
theorem wTL (n : Nat) : mon2 (fTL n) := fun _ _ _ h ⟨x, e, c, d, t⟩ => ⟨x, e, c, d, h _ _ t (by show 10 ≠ 22; decide) (by show 10 ≠ 8; decide)⟩
theorem wTM (n : Nat) : mon2 (fTM n) := fun _ _ _ _ h => h
theorem wFK (n : Nat) : mon2 (fFK n) := fun _ _ _ _ h => h
theorem wFP (n : Nat) : mon2 (fFP n) := fun _ _ _ _ h => h
def mons2 (l : List FT) : Prop := ∀ P ∈ l, mon2 P
theorem m2_n : mons2 [] := fun _ h => absurd h List.not_mem_nil
theorem m2_c {P : FT} {l : List FT} (h : mon2 P) (hl : mons2 l) : mons2 (P :: l) := fun Q hQ => (List.mem_cons.mp hQ).elim (fun q => q ▸ h) (hl Q)
theorem ft1_2 (p q : Nat) : mons2 (ft1 p q) := m2_c (wR (by show 1 ≠ 22; decide) (by show 1 ≠ 8; decide)) (m2_c (wR (by show 1 ≠ 22; decide) (by show 1 ≠ 8; decide)) (m2_c (wA) (m2_c (wR (by show 1 ≠ 22; decide) (by show 1 ≠ 8; decide)) (m2_c (wI _ _) (m2_c (wA) (m2_c (wR (by show 1 ≠ 22; decide) (by show 1 ≠ 8; decide)) (m2_n)))))))
theorem ft2_2 (p q : Nat) : mons2 (ft2 p q) := m2_c (wR (by show 1 ≠ 22; decide) (by show 1 ≠ 8; decide)) (m2_c (wR (by show 1 ≠ 22; decide) (by show 1 ≠ 8; decide)) (m2_c (wR (by show 1 ≠ 22; decide) (by show 1 ≠ 8; decide)) (m2_n)))
theorem ft3_2 (p q : Nat) : mons2 (ft3 p q) := m2_c (wR (by show 17 ≠ 22; decide) (by show 17 ≠ 8; decide)) (m2_c (wR (by show 1 ≠ 22; decide) (by show 1 ≠ 8; decide)) (m2_c (wI _ _) (m2_n)))
theorem ft4_2 (p q : Nat) : mons2 (ft4 p q) := m2_c (wR (by show 17 ≠ 22; decide) (by show 17 ≠ 8; decide)) (m2_c (wR (by show 13 ≠ 22; decide) (by show 13 ≠ 8; decide)) (m2_c (wP _) (m2_c (wI _ _) (m2_c (wR (by show 16 ≠ 22; decide) (by show 16 ≠ 8; decide)) (m2_n)))))
theorem ft5_2 (p q : Nat) : mons2 (ft5 p q) := m2_c (wW) (m2_c (wA) (m2_c (wA) (m2_c (wA) (m2_c (wR (by show 1 ≠ 22; decide) (by show 1 ≠ 8; decide)) (m2_c (wR (by show 1 ≠ 22; decide) (by show 1 ≠ 8; decide)) (m2_n))))))
theorem ft6_2 (p q : Nat) : mons2 (ft6 p q) := m2_c (wA) (m2_c (wA) (m2_c (wA) (m2_c (wA) (m2_c (wR (by show 1 ≠ 22; decide) (by show 1 ≠ 8; decide)) (m2_c (wR (by show 1 ≠ 22; decide) (by show 1 ≠ 8; decide)) (m2_n))))))
theorem ft8_2 (p q : Nat) : mons2 (ft8 p q) := m2_c (wR (by show 2 ≠ 22; decide) (by show 2 ≠ 8; decide)) (m2_c (wA) (m2_c (wI _ _) (m2_n)))
theorem ft10_2 (p q : Nat) : mons2 (ft10 p q) := m2_c (wR (by show 1 ≠ 22; decide) (by show 1 ≠ 8; decide)) (m2_c (wR (by show 1 ≠ 22; decide) (by show 1 ≠ 8; decide)) (m2_c (wI _ _) (m2_c (wR (by show 2 ≠ 22; decide) (by show 2 ≠ 8; decide)) (m2_c (wR (by show 1 ≠ 22; decide) (by show 1 ≠ 8; decide)) (m2_c (wR (by show 1 ≠ 22; decide) (by show 1 ≠ 8; decide)) (m2_c (wI _ _) (m2_n)))))))
theorem ft11_2 (p q : Nat) : mons2 (ft11 p q) := m2_c (wR (by show 0 ≠ 22; decide) (by show 0 ≠ 8; decide)) (m2_c (wTL _) (m2_c (wRd) (m2_c (wP _) (m2_c (wR (by show 16 ≠ 22; decide) (by show 16 ≠ 8; decide)) (m2_c (wR (by show 16 ≠ 22; decide) (by show 16 ≠ 8; decide)) (m2_c (wR (by show 4 ≠ 22; decide) (by show 4 ≠ 8; decide)) (m2_c (wI _ _) (m2_c (wI _ _) (m2_c (wR (by show 5 ≠ 22; decide) (by show 5 ≠ 8; decide)) (m2_c (wR (by show 4 ≠ 22; decide) (by show 4 ≠ 8; decide)) (m2_c (wR (by show 6 ≠ 22; decide) (by show 6 ≠ 8; decide)) (m2_c (wR (by show 7 ≠ 22; decide) (by show 7 ≠ 8; decide)) (m2_c (wR (by show 15 ≠ 22; decide) (by show 15 ≠ 8; decide)) (m2_c (wR (by show 20 ≠ 22; decide) (by show 20 ≠ 8; decide)) (m2_c (wR (by show 11 ≠ 22; decide) (by show 11 ≠ 8; decide)) (m2_c (wP _) (m2_c (wR (by show 1 ≠ 22; decide) (by show 1 ≠ 8; decide)) (m2_c (wR (by show 1 ≠ 22; decide) (by show 1 ≠ 8; decide)) (m2_c (wA) (m2_n))))))))))))))))))))
theorem ft9w_2 (p q : Nat) : mons2 (ft9w p q) := m2_c (wE _) (m2_c (wE _) (m2_c (wA) (m2_c (wI _ _) (m2_c (wI _ _) (m2_c (wI _ _) (m2_c (wR (by show 1 ≠ 22; decide) (by show 1 ≠ 8; decide)) (m2_c (wR (by show 1 ≠ 22; decide) (by show 1 ≠ 8; decide)) (m2_c (wR (by show 1 ≠ 22; decide) (by show 1 ≠ 8; decide)) (m2_c (wR (by show 1 ≠ 22; decide) (by show 1 ≠ 8; decide)) (m2_c (wR (by show 1 ≠ 22; decide) (by show 1 ≠ 8; decide)) (m2_c (wL) (m2_c (wI _ _) (m2_c (wI _ _) (m2_n))))))))))))))
theorem ft9d_2 (p q : Nat) : mons2 (ft9d p q) := m2_c (wI _ _) (m2_c (wI _ _) (m2_c (wA) (m2_c (wI _ _) (m2_c (wI _ _) (m2_c (wI _ _) (m2_c (wR (by show 1 ≠ 22; decide) (by show 1 ≠ 8; decide)) (m2_c (wR (by show 1 ≠ 22; decide) (by show 1 ≠ 8; decide)) (m2_c (wR (by show 1 ≠ 22; decide) (by show 1 ≠ 8; decide)) (m2_c (wR (by show 1 ≠ 22; decide) (by show 1 ≠ 8; decide)) (m2_c (wR (by show 1 ≠ 22; decide) (by show 1 ≠ 8; decide)) (m2_c (wN) (m2_c (wI _ _) (m2_c (wI _ _) (m2_n))))))))))))))
theorem ft9_2 (p q : Nat) : mons2 (ft9 p q) := by
  unfold ft9
  split
  · exact ft9d_2 p q
  · exact ft9w_2 p q
theorem fts_2 (c p q : Nat) (hc : c ≠ 12) : mons2 (fts c p q) := by
  unfold fts
  split <;> first | exact ft1_2 p q | exact ft2_2 p q | exact ft3_2 p q | exact ft4_2 p q | exact ft5_2 p q | exact ft6_2 p q | exact ft8_2 p q | exact ft9_2 p q | exact ft10_2 p q | exact ft11_2 p q | exact absurd rfl hc | exact m2_n
theorem ob_rk {T T2 : TF} (h : Trk T T2) {c p q : Nat} (hc : c ≠ 12) {fs : List Value} (ho : ob T c p q fs) : ob T2 c p q fs := by
  unfold ob at ho ⊢
  split at ho
  · obtain ⟨b, b2, d, n, x, e1, t1, t2, t3, r⟩ := ho
    exact ⟨b, b2, d, n, x, e1, h _ _ t1 (by show 1 ≠ 22; decide) (by show 1 ≠ 8; decide), h _ _ t2 (by show 1 ≠ 22; decide) (by show 1 ≠ 8; decide), h _ _ t3 (by show 1 ≠ 22; decide) (by show 1 ≠ 8; decide), r⟩
  · obtain ⟨b, n, x1, x2, x3, x4, x5, x6, x7, e1, t, r⟩ := ho
    exact ⟨b, n, x1, x2, x3, x4, x5, x6, x7, e1, h _ _ t (by show 0 ≠ 22; decide) (by show 0 ≠ 8; decide), r⟩
  · exact ⟨ho.1, fun k P v h1 h2 => fts_2 _ _ _ hc P (List.mem_of_getElem? h1) T T2 v h (ho.2 k P v h1 h2)⟩
theorem sp_rk {cs : CS} {T T2 : TF} (h : Trk T T2) {tg : Tg} (h22 : tg.1 ≠ 22) {e : va_E} (hs : sp cs T tg e) : sp cs T2 tg e := by
  unfold sp at hs ⊢
  split at hs
  · exact hs
  · exact hs
  · exact hs
  · exact hs
  · obtain ⟨f, e1, g⟩ := hs
    exact ⟨f, e1, fun j hj => by obtain ⟨b, x, y⟩ := g j hj; exact ⟨b, x, h _ _ y (by show 16 ≠ 22; decide) (by show 16 ≠ 8; decide)⟩⟩
  · obtain ⟨f, e1, g⟩ := hs
    exact ⟨f, e1, fun j b hj => by obtain ⟨x, g2, y⟩ := g j b hj; exact ⟨x, g2, isW.rk h y⟩⟩
  · obtain ⟨f, e1, g⟩ := hs
    exact ⟨f, e1, fun j hj => by obtain ⟨b, x, y⟩ := g j hj; exact ⟨b, x, h _ _ y (by show 18 ≠ 22; decide) (by show 18 ≠ 8; decide)⟩⟩
  · obtain ⟨f, e1, g⟩ := hs
    exact ⟨f, e1, fun j hj => by obtain ⟨b, x, y⟩ := g j hj; exact ⟨b, x, h _ _ y (by show 15 ≠ 22; decide) (by show 15 ≠ 8; decide)⟩⟩
  · exact hs
  · exact hs
  · rename_i c p q
    obtain ⟨fs, e1, g⟩ := hs
    exact ⟨fs, e1, ob_rk h (fun z => h22 (by show c + 10 = 22; omega)) g⟩
/-- what stays when the reference m gets another wall -/
def Trm (T T2 : TF) (m : Nat) : Prop := Trk T T2 ∧ ∀ (b : Nat) (tg : Tg), T2 b = some tg → T b = some tg ∨ tg.1 = 8 ∨ (tg.1 = 22 ∧ b = m)
theorem Trm.rf {T : TF} {m : Nat} : Trm T T m := ⟨fun _ _ h _ _ => h, fun _ _ h => Or.inl h⟩
theorem HT.rk {D : va_G} {cs : CS} {A : Nat → Prop} {T : TF} {O : List Nat} {X : va_W} {H : Heap} {m aa hg hg2 mq mq2 : Nat} (h : HT D cs A T O X H) (hm : T m = some (22, hg, mq)) (ha : T aa = some (8, 3906, hg)) (hU : ∀ (b : Nat) (tg : Tg), T b = some tg → tg.1 = 22 → b = m) (hmO : m ∈ O) (haO : aa ∈ O) :
    ∃ T2 : TF, T2 aa = some (8, 3906, hg2) ∧ T2 m = some (22, hg2, mq2) ∧ (∀ b, b ≠ m → b ≠ aa → T2 b = T b) ∧ Trm T T2 m ∧ HT D cs A T2 O X H := by
  have hne : aa ≠ m := fun z => by rw [z, hm] at ha; cases ha
  have q1 : Tadd (Tadd T aa (8, 3906, hg2)) m (22, hg2, mq2) aa = some (8, 3906, hg2) := by unfold Tadd; rw [if_neg hne, if_pos rfl]
  have q3 : ∀ b, b ≠ m → b ≠ aa → Tadd (Tadd T aa (8, 3906, hg2)) m (22, hg2, mq2) b = T b := fun b h1 h2 => by unfold Tadd; rw [if_neg h1, if_neg h2]
  have hk : Trk T (Tadd (Tadd T aa (8, 3906, hg2)) m (22, hg2, mq2)) := fun b tg hb k1 k2 => by
    rw [q3 b (fun z => by rw [z, hm] at hb; cases hb; exact k1 rfl) (fun z => by rw [z, ha] at hb; cases hb; exact k2 rfl)]
    exact hb
  refine ⟨_, q1, Tadd_r, q3, ⟨hk, fun b tg hb => ?_⟩, ?_⟩
  · by_cases h1 : b = m
    · rw [h1, Tadd_r] at hb
      cases hb
      exact Or.inr (Or.inr ⟨rfl, h1⟩)
    · by_cases h2 : b = aa
      · rw [h2, q1] at hb
        cases hb
        exact Or.inr (Or.inl rfl)
      · rw [q3 b h1 h2] at hb
        exact Or.inl hb
  · obtain ⟨ws, hP, hD, h3, h4⟩ := h
    refine ⟨ws, hP, hD, fun b tg hb hO => ?_, fun k q hq => ?_⟩
    · have h1 : b ≠ m := fun z => hO (z ▸ hmO)
      have h2 : b ≠ aa := fun z => hO (z ▸ haO)
      rw [q3 b h1 h2] at hb
      obtain ⟨k, e1, hk1, hs⟩ := h3 b tg hb hO
      exact ⟨k, e1, hk1, sp_rk hk (fun z => h1 (hU b tg hb z)) hs⟩
    · obtain ⟨tg, ht⟩ := h4 k q hq
      by_cases h1 : q.1 = m
      · exact ⟨_, by rw [h1]; exact Tadd_r⟩
      · by_cases h2 : q.1 = aa
        · exact ⟨_, by rw [h2]; exact q1⟩
        · exact ⟨tg, by rw [q3 _ h1 h2]; exact ht⟩
theorem HT.mg {D : va_G} {cs : CS} {A : Nat → Prop} {T : TF} {O : List Nat} {X : va_W} {H : Heap} {m hg mq mq2 : Nat} (h : HT D cs A T O X H) (hm : T m = some (22, hg, mq)) (hU : ∀ (b : Nat) (tg : Tg), T b = some tg → tg.1 = 22 → b = m) (hmO : m ∈ O) :
    ∃ T2 : TF, T2 m = some (22, hg, mq2) ∧ (∀ b, b ≠ m → T2 b = T b) ∧ Trm T T2 m ∧ HT D cs A T2 O X H := by
  have q3 : ∀ b, b ≠ m → Tadd T m (22, hg, mq2) b = T b := fun b h1 => by unfold Tadd; rw [if_neg h1]
  have hk : Trk T (Tadd T m (22, hg, mq2)) := fun b tg hb k1 k2 => by
    rw [q3 b (fun z => by rw [z, hm] at hb; cases hb; exact k1 rfl)]
    exact hb
  refine ⟨_, Tadd_r, q3, ⟨hk, fun b tg hb => ?_⟩, ?_⟩
  · by_cases h1 : b = m
    · rw [h1, Tadd_r] at hb
      cases hb
      exact Or.inr (Or.inr ⟨rfl, h1⟩)
    · rw [q3 b h1] at hb
      exact Or.inl hb
  · obtain ⟨ws, hP, hD, h3, h4⟩ := h
    refine ⟨ws, hP, hD, fun b tg hb hO => ?_, fun k q hq => ?_⟩
    · have h1 : b ≠ m := fun z => hO (z ▸ hmO)
      rw [q3 b h1] at hb
      obtain ⟨k, e1, hk1, hs⟩ := h3 b tg hb hO
      exact ⟨k, e1, hk1, sp_rk hk (fun z => h1 (hU b tg hb z)) hs⟩
    · obtain ⟨tg, ht⟩ := h4 k q hq
      by_cases h1 : q.1 = m
      · exact ⟨_, by rw [h1]; exact Tadd_r⟩
      · exact ⟨tg, by rw [q3 _ h1]; exact ht⟩
theorem hg_of {F : Nat → Int32} (h : S8 F) : ∃ hg2 : Nat, hg2 < 90 ∧ F 1 = nI (hg2 / 6) ∧ F 2 = nI (hg2 % 6) := by
  obtain ⟨a1, a2, -⟩ := h
  refine ⟨6 * (F 1).toInt.toNat + (F 2).toInt.toNat, by omega, ?_, ?_⟩
  · rw [show (6 * (F 1).toInt.toNat + (F 2).toInt.toNat) / 6 = (F 1).toInt.toNat by omega]
    exact is_nI a1.1
  · rw [show (6 * (F 1).toInt.toNat + (F 2).toInt.toNat) % 6 = (F 2).toInt.toNat by omega]
    exact is_nI a2.1
/-- so many numbers are copied from b on to the first wall -/
def CR (f g : Nat → Int32) (b k : Nat) : Prop := ∀ j, g j = if j < k then f (b + j) else f j
theorem CR_0 {f : Nat → Int32} {b : Nat} {z : Int32} (hz : z.toInt = 0) : CR f f b z.toInt.toNat := fun j => by rw [if_neg (by omega)]
theorem CR_s {f g F : Nat → Int32} {b : Nat} {p v w x : Int32} (hi : CR f g b p.toInt.toNat) (h0 : 0 ≤ p.toInt) (h1 : p.toInt < 1302) (hb : 1302 ≤ b) (hv : v.toInt = p.toInt + 1) (hw : w.toInt = b + p.toInt) (hx : x = g w.toInt.toNat) (eF : F = upd g p.toInt.toNat x) : CR f F b v.toInt.toNat := fun j => by
  have e : w.toInt.toNat = b + p.toInt.toNat := by omega
  have hk := hi (b + p.toInt.toNat)
  rw [if_neg (by omega)] at hk
  rw [eF]
  by_cases q : j = p.toInt.toNat
  · rw [q, upd_eq, hx, e, hk, if_pos (by omega)]
  · rw [upd_ne q, hi j]
    by_cases q2 : j < p.toInt.toNat
    · rw [if_pos q2, if_pos (by omega)]
    · rw [if_neg q2, if_neg (by omega)]
set_option maxRecDepth 20000 in
theorem CR_B8 {f g : Nat → Int32} {b : Nat} {p : Int32} (hi : CR f g b p.toInt.toNat) (hp : p.toInt = 1302) (hB : B8 3906 f) (z : Nat) (hb : b = z * 1302) (hz : z = 1 ∨ z = 2) : B8 3906 g := by
  have e : p.toInt.toNat = 1302 := by omega
  rw [e] at hi
  intro y hy
  by_cases q : y = 0
  · refine S8_cong (p := fun j => f (z * 1302 + j)) (fun j hj => ?_) (hB z (by omega))
    show g (y * 1302 + j) = f (z * 1302 + j)
    rw [hi, if_pos (by omega), hb, show z * 1302 + (y * 1302 + j) = z * 1302 + j by omega]
  · refine S8_cong (p := fun j => f (y * 1302 + j)) (fun j hj => ?_) (hB y hy)
    show g (y * 1302 + j) = f (y * 1302 + j)
    rw [hi, if_neg (by omega)]
theorem dX12_restore_0 : decode cX12_restore 0 = .ok (.aload_n 0, 1) := by decide +kernel
theorem dX12_restore_1 : decode cX12_restore 1 = .ok (.iconst 0, 1) := by decide +kernel
theorem dX12_restore_2 : decode cX12_restore 2 = .ok (.putfield 1, 3) := by decide +kernel
theorem dX12_restore_5 : decode cX12_restore 5 = .ok (.iload_n 1, 1) := by decide +kernel
theorem dX12_restore_6 : decode cX12_restore 6 = .ok (.i2l, 1) := by decide +kernel
theorem dX12_restore_7 : decode cX12_restore 7 = .ok (.lconst 0, 1) := by decide +kernel
theorem dX12_restore_8 : decode cX12_restore 8 = .ok (.lconst 1, 1) := by decide +kernel
theorem dX12_restore_9 : decode cX12_restore 9 = .ok (.invokestatic 144, 3) := by decide +kernel
theorem dX12_restore_12 : decode cX12_restore 12 = .ok (.ifCond .ne 6, 3) := by decide +kernel
theorem dX12_restore_15 : decode cX12_restore 15 = .ok (.bipush (-2), 2) := by decide +kernel
theorem dX12_restore_17 : decode cX12_restore 17 = .ok (.ireturn, 1) := by decide +kernel
theorem dX12_restore_18 : decode cX12_restore 18 = .ok (.aload_n 0, 1) := by decide +kernel
theorem dX12_restore_19 : decode cX12_restore 19 = .ok (.getfield 17, 3) := by decide +kernel
theorem dX12_restore_22 : decode cX12_restore 22 = .ok (.iload_n 1, 1) := by decide +kernel
theorem dX12_restore_23 : decode cX12_restore 23 = .ok (.baload, 1) := by decide +kernel
theorem dX12_restore_24 : decode cX12_restore 24 = .ok (.ifCond .ne 6, 3) := by decide +kernel
theorem dX12_restore_27 : decode cX12_restore 27 = .ok (.bipush (-5), 2) := by decide +kernel
theorem dX12_restore_29 : decode cX12_restore 29 = .ok (.ireturn, 1) := by decide +kernel
theorem dX12_restore_30 : decode cX12_restore 30 = .ok (.iconst 0, 1) := by decide +kernel
theorem dX12_restore_31 : decode cX12_restore 31 = .ok (.istore_n 2, 1) := by decide +kernel
theorem dX12_restore_32 : decode cX12_restore 32 = .ok (.iload_n 2, 1) := by decide +kernel
theorem dX12_restore_33 : decode cX12_restore 33 = .ok (.sipush 1302, 3) := by decide +kernel
theorem dX12_restore_36 : decode cX12_restore 36 = .ok (.if_icmp .ge 29, 3) := by decide +kernel
theorem dX12_restore_39 : decode cX12_restore 39 = .ok (.aload_n 0, 1) := by decide +kernel
theorem dX12_restore_40 : decode cX12_restore 40 = .ok (.getfield 13, 3) := by decide +kernel
theorem dX12_restore_43 : decode cX12_restore 43 = .ok (.iload_n 2, 1) := by decide +kernel
theorem dX12_restore_44 : decode cX12_restore 44 = .ok (.aload_n 0, 1) := by decide +kernel
theorem dX12_restore_45 : decode cX12_restore 45 = .ok (.getfield 13, 3) := by decide +kernel
theorem dX12_restore_48 : decode cX12_restore 48 = .ok (.sipush 1302, 3) := by decide +kernel
theorem dX12_restore_51 : decode cX12_restore 51 = .ok (.iload_n 1, 1) := by decide +kernel
theorem dX12_restore_52 : decode cX12_restore 52 = .ok (.iconst 1, 1) := by decide +kernel
theorem dX12_restore_53 : decode cX12_restore 53 = .ok (.iadd, 1) := by decide +kernel
theorem dX12_restore_54 : decode cX12_restore 54 = .ok (.imul, 1) := by decide +kernel
theorem dX12_restore_55 : decode cX12_restore 55 = .ok (.iload_n 2, 1) := by decide +kernel
theorem dX12_restore_56 : decode cX12_restore 56 = .ok (.iadd, 1) := by decide +kernel
theorem dX12_restore_57 : decode cX12_restore 57 = .ok (.iaload, 1) := by decide +kernel
theorem dX12_restore_58 : decode cX12_restore 58 = .ok (.iastore, 1) := by decide +kernel
theorem dX12_restore_59 : decode cX12_restore 59 = .ok (.iinc 2 1, 3) := by decide +kernel
theorem dX12_restore_62 : decode cX12_restore 62 = .ok (.goto (-30), 3) := by decide +kernel
theorem dX12_restore_65 : decode cX12_restore 65 = .ok (.aload_n 0, 1) := by decide +kernel
theorem dX12_restore_66 : decode cX12_restore 66 = .ok (.getfield 13, 3) := by decide +kernel
theorem dX12_restore_69 : decode cX12_restore 69 = .ok (.bipush 90, 2) := by decide +kernel
theorem dX12_restore_71 : decode cX12_restore 71 = .ok (.iconst 0, 1) := by decide +kernel
theorem dX12_restore_72 : decode cX12_restore 72 = .ok (.iastore, 1) := by decide +kernel
theorem dX12_restore_73 : decode cX12_restore 73 = .ok (.iconst 0, 1) := by decide +kernel
theorem dX12_restore_74 : decode cX12_restore 74 = .ok (.ireturn, 1) := by decide +kernel
set_option maxHeartbeats 4000000 in
set_option maxRecDepth 100000 in
theorem s_M_restore (l : Launch) (D : va_G) (cs : CS) (kf : KF) (T : TF) (O : List Nat) (X : va_W) (a0 hg mq : Nat) (x1 : Int32) (t_a0 : T a0 = some (22, hg, mq)) (b_hg : hg < 90) (hU : ∀ (b : Nat) (tg : Tg), T b = some tg → tg.1 = 22 → b = a0) (hO : okO T O [3, 8, 22]) : TK l D cs kf yX12_restore cX12_restore 3 (some (.int)) { frames := 1, cells := 0, slots := 0, locals := 25 } [.ref a0, .int x1] T O X (Ti D cs (fun r u => ∃ (T2 : TF) (hg2 : Nat), u = (T2, O, X) ∧ -5 ≤ r.toInt ∧ r.toInt ≤ 0 ∧ (Trm T T2 a0) ∧ (T2 a0 = some (22, hg2, mq)) ∧ (hg2 < 90))) := by
  refine tk_of (by decide) (Nat.le_of_ble_eq_true rfl) (fun p e s m below meth c ls A H locs hx hb hr hml hown hts hlocks hnm hkb hH hS hA hOX hks hE hl => ?_)
  have hown : s.vm.findClass RX12 = some m.cls := hown
  have hl : lv_has ls 3 [(0, .ref a0), (1, .int x1)] := hl
  have hO0 := hO
  obtain ⟨fs9, ho9, hH⟩ := hH.take t_a0 (hO0.no t_a0 (by decide))
  have hp0 : okL T (ft12 hg mq) fs9 := ho9
  clear ho9
  obtain ⟨v9, fs9, rfl, h9, hp1⟩ := okL_i hp0
  obtain ⟨q0_0, rfl⟩ := h9
  obtain ⟨v9, fs9, rfl, h9, hp2⟩ := okL_i hp1
  obtain ⟨q0_1, rfl, t_q0_1⟩ := h9
  obtain ⟨v9, fs9, rfl, h9, hp3⟩ := okL_i hp2
  obtain ⟨q0_2, rfl, t_q0_2⟩ := h9
  obtain ⟨v9, fs9, rfl, h9, hp4⟩ := okL_i hp3
  obtain ⟨q0_3, rfl, t_q0_3⟩ := h9
  obtain ⟨v9, fs9, rfl, h9, hp5⟩ := okL_i hp4
  obtain ⟨q0_4, rfl, t_q0_4⟩ := h9
  obtain ⟨v9, fs9, rfl, h9, hp6⟩ := okL_i hp5
  obtain ⟨q0_5, rfl, l_q0_5, u_q0_5, eg_q0_5⟩ := h9
  obtain ⟨v9, fs9, rfl, h9, hp7⟩ := okL_i hp6
  obtain ⟨q0_6, rfl⟩ := h9
  obtain ⟨v9, fs9, rfl, h9, hp8⟩ := okL_i hp7
  obtain ⟨q0_7, rfl⟩ := h9
  obtain ⟨v9, fs9, rfl, h9, hp9⟩ := okL_i hp8
  obtain ⟨q0_8, rfl⟩ := h9
  obtain ⟨v9, fs9, rfl, h9, hp10⟩ := okL_i hp9
  obtain ⟨q0_9, rfl⟩ := h9
  obtain ⟨v9, fs9, rfl, h9, hp11⟩ := okL_i hp10
  obtain ⟨q0_10, rfl, l_q0_10, u_q0_10⟩ := h9
  obtain ⟨v9, fs9, rfl, h9, hp12⟩ := okL_i hp11
  obtain ⟨q0_11, rfl⟩ := h9
  obtain ⟨v9, fs9, rfl, h9, hp13⟩ := okL_i hp12
  obtain ⟨q0_12, rfl⟩ := h9
  obtain ⟨v9, fs9, rfl, h9, hp14⟩ := okL_i hp13
  obtain ⟨q0_13, rfl, eg_q0_13⟩ := h9
  obtain ⟨v9, fs9, rfl, h9, hp15⟩ := okL_i hp14
  obtain ⟨q0_14, rfl, eg_q0_14⟩ := h9
  obtain ⟨v9, fs9, rfl, h9, hp16⟩ := okL_i hp15
  obtain ⟨q0_15, rfl, t_q0_15⟩ := h9
  obtain ⟨v9, fs9, rfl, h9, hp17⟩ := okL_i hp16
  obtain ⟨q0_16, rfl⟩ := h9
  obtain ⟨v9, fs9, rfl, h9, hp18⟩ := okL_i hp17
  obtain ⟨q0_17, rfl, t_q0_17⟩ := h9
  obtain ⟨v9, fs9, rfl, h9, hp19⟩ := okL_i hp18
  obtain ⟨q0_18, rfl, t_q0_18⟩ := h9
  obtain ⟨v9, fs9, rfl, h9, hp20⟩ := okL_i hp19
  obtain ⟨q0_19, rfl, t_q0_19⟩ := h9
  obtain ⟨v9, fs9, rfl, h9, hp21⟩ := okL_i hp20
  obtain ⟨q0_20, rfl, l_q0_20, u_q0_20⟩ := h9
  obtain ⟨v9, fs9, rfl, h9, hp22⟩ := okL_i hp21
  obtain ⟨q0_21, rfl, t_q0_21⟩ := h9
  obtain ⟨v9, fs9, rfl, h9, hp23⟩ := okL_i hp22
  obtain ⟨q0_22, rfl, t_q0_22⟩ := h9
  obtain ⟨v9, fs9, rfl, h9, hp24⟩ := okL_i hp23
  obtain ⟨q0_23, rfl⟩ := h9
  obtain ⟨v9, fs9, rfl, h9, hp25⟩ := okL_i hp24
  obtain ⟨q0_24, rfl⟩ := h9
  obtain ⟨v9, fs9, rfl, h9, hp26⟩ := okL_i hp25
  obtain ⟨q0_25, rfl⟩ := h9
  obtain ⟨v9, fs9, rfl, h9, hp27⟩ := okL_i hp26
  obtain ⟨q0_26, rfl, t_q0_26⟩ := h9
  obtain ⟨v9, fs9, rfl, h9, hp28⟩ := okL_i hp27
  obtain ⟨q0_27, rfl, t_q0_27⟩ := h9
  obtain ⟨v9, fs9, rfl, h9, hp29⟩ := okL_i hp28
  obtain ⟨q0_28, rfl, t_q0_28⟩ := h9
  obtain ⟨v9, fs9, rfl, h9, hp30⟩ := okL_i hp29
  obtain ⟨q0_29, rfl, t_q0_29⟩ := h9
  obtain ⟨v9, fs9, rfl, h9, hp31⟩ := okL_i hp30
  obtain ⟨q0_30, rfl, t_q0_30⟩ := h9
  obtain ⟨v9, fs9, rfl, h9, hp32⟩ := okL_i hp31
  obtain ⟨q0_31, rfl, t_q0_31⟩ := h9
  obtain ⟨v9, fs9, rfl, h9, hp33⟩ := okL_i hp32
  obtain ⟨q0_32, rfl⟩ := h9
  obtain ⟨v9, fs9, rfl, h9, hp34⟩ := okL_i hp33
  obtain ⟨q0_33, rfl, t_q0_33⟩ := h9
  obtain ⟨v9, fs9, rfl, h9, hp35⟩ := okL_i hp34
  obtain ⟨q0_34, rfl, t_q0_34⟩ := h9
  obtain ⟨v9, fs9, rfl, h9, hp36⟩ := okL_i hp35
  obtain ⟨q0_35, rfl, t_q0_35⟩ := h9
  have hpz := okL_z hp36
  subst hpz
  have hH : HT D cs A T (a0 :: O) ((a0, .inr (12, [.int q0_0, .ref q0_1, .ref q0_2, .ref q0_3, .ref q0_4, .int q0_5, .int q0_6, .int q0_7, .int q0_8, .int q0_9, .int q0_10, .int q0_11, .int q0_12, .int q0_13, .int q0_14, .ref q0_15, .int q0_16, .ref q0_17, .ref q0_18, .ref q0_19, .int q0_20, .ref q0_21, .ref q0_22, .int q0_23, .int q0_24, .int q0_25, .ref q0_26, .ref q0_27, .ref q0_28, .ref q0_29, .ref q0_30, .ref q0_31, .int q0_32, .ref q0_33, .ref q0_34, .ref q0_35])) :: X) H := hH
  have hO : okO T (a0 :: O) [3, 8] := okO.cons (hO0.sub (by decide)) t_a0 (by decide)
  obtain ⟨e9, hs9, hH⟩ := HT.takeA hH t_q0_1 (nm_c (tag_ne t_q0_1 t_a0 (fun q => absurd (show 8 = 22 from congrArg Prod.fst q) (by decide))) (hO0.no t_q0_1 (by decide)))
  obtain ⟨f1, rfl, s_f1, g_f1⟩ : ∃ f : Nat → Int32, e9 = .inl (cs.2.1, 3906, .inl f) ∧ B8 3906 f ∧ (3906 = 3906 → f 1 = nI (hg / 6) ∧ f 2 = nI (hg % 6)) := hs9
  have g_f1 := g_f1 rfl
  have hO : okO T (q0_1 :: a0 :: O) [3] := okO.cons (hO.sub (by decide)) t_q0_1 (by decide)
  refine lv_aload_n hx hb dX12_restore_0 rfl (lv_at hl 0 rfl) ?_
  refine lv_iconst (v := 0) hx hb dX12_restore_1 (by decide) ?_
  refine x_putk (ci := 12) (v := .int 0) (ty := tyX12 0) (C := RX12) (F := TX12) (N := 36) hx hb hts uX12 tyX12 tyX12_ok nmX12 hown hkb hH hS 1 rfl rfl 0 (by decide) kw_1223 (fun _ h9 => h9) rfl (tyX12_ok 0 (by decide)) rfl rfl (Nat.le_of_ble_eq_true rfl) dX12_restore_2 (fun H locs hH hS => ?_)
  have hH : HT D cs A T (q0_1 :: a0 :: O) ((q0_1, .inl (cs.2.1, 3906, .inl f1)) :: (a0, .inr (12, [.int 0, .ref q0_1, .ref q0_2, .ref q0_3, .ref q0_4, .int q0_5, .int q0_6, .int q0_7, .int q0_8, .int q0_9, .int q0_10, .int q0_11, .int q0_12, .int q0_13, .int q0_14, .ref q0_15, .int q0_16, .ref q0_17, .ref q0_18, .ref q0_19, .int q0_20, .ref q0_21, .ref q0_22, .int q0_23, .int q0_24, .int q0_25, .ref q0_26, .ref q0_27, .ref q0_28, .ref q0_29, .ref q0_30, .ref q0_31, .int q0_32, .ref q0_33, .ref q0_34, .ref q0_35])) :: X) H := hH
  refine lv_iload_n hx hb dX12_restore_5 rfl (lv_at hl 1 rfl) ?_
  refine lv_i2l hx hb dX12_restore_6 rfl ?_
  refine lv_lconst (v := 0) hx hb dX12_restore_7 (by decide) ?_
  refine lv_lconst (v := 1) hx hb dX12_restore_8 (by decide) ?_
  refine tk_i hH hS hA (tr_S (n := 3) (As := [.long x1.toInt64, .long 0, .long 1]) hx hb hml hown hts hkb hH (ox_c (ox_c hOX)) hks hE hS hA (s_M_within l D cs kf T (q0_1 :: a0 :: O) ((q0_1, .inl (cs.2.1, 3906, .inl f1)) :: (a0, .inr (12, [.int 0, .ref q0_1, .ref q0_2, .ref q0_3, .ref q0_4, .int q0_5, .int q0_6, .int q0_7, .int q0_8, .int q0_9, .int q0_10, .int q0_11, .int q0_12, .int q0_13, .int q0_14, .ref q0_15, .int q0_16, .ref q0_17, .ref q0_18, .ref q0_19, .int q0_20, .ref q0_21, .ref q0_22, .int q0_23, .int q0_24, .int q0_25, .ref q0_26, .ref q0_27, .ref q0_28, .ref q0_29, .ref q0_30, .ref q0_31, .int q0_32, .ref q0_33, .ref q0_34, .ref q0_35])) :: X) x1.toInt64 0 1  (hO.sub (by decide))) kw_1341 kw_1342 kw_13 kw_1343 (by decide +kernel) ⟨Nat.le_of_ble_eq_true rfl, Nat.le_of_ble_eq_true rfl⟩ rfl rfl hl.1 (Nat.le_of_ble_eq_true rfl) dX12_restore_9 ⟨Nat.le_of_ble_eq_true rfl, Nat.le_of_ble_eq_true rfl⟩) (fun v9 u H locs hz9 hH hS => ?_)
  obtain ⟨rfl, l_v9, u_v9, x_v90, x_v91⟩ := hz9
  simp only [Int32.toInt_toInt64] at x_v90 x_v91
  have k9_0 : (0 : Int64).toInt = 0 := by decide
  have k9_1 : (1 : Int64).toInt = 1 := by decide
  have hH : HT D cs A T (q0_1 :: a0 :: O) ((q0_1, .inl (cs.2.1, 3906, .inl f1)) :: (a0, .inr (12, [.int 0, .ref q0_1, .ref q0_2, .ref q0_3, .ref q0_4, .int q0_5, .int q0_6, .int q0_7, .int q0_8, .int q0_9, .int q0_10, .int q0_11, .int q0_12, .int q0_13, .int q0_14, .ref q0_15, .int q0_16, .ref q0_17, .ref q0_18, .ref q0_19, .int q0_20, .ref q0_21, .ref q0_22, .int q0_23, .int q0_24, .int q0_25, .ref q0_26, .ref q0_27, .ref q0_28, .ref q0_29, .ref q0_30, .ref q0_31, .int q0_32, .ref q0_33, .ref q0_34, .ref q0_35])) :: X) H := hH
  refine W.widen (k := 0) (n := 0) (Nat.le_of_ble_eq_true rfl) (Nat.le_of_ble_eq_true rfl) ?_
  refine lv_if_ne (tgt := 18) hx hb dX12_restore_12 (by decide) (fun c12 => ?_) (fun c12 => ?_)
  · skip
    have tc12 := f_ne (k := 0) (by decide) c12
    replace x_v90 := x_v90.resolve_left tc12
    clear x_v91
    refine lv_aload_n hx hb dX12_restore_18 rfl (lv_at hl 0 rfl) ?_
    refine x_getk (ci := 12) (C := RX12) (F := TX12) (N := 36) (v := .ref q0_2) hx hb hts uX12 hown hkb hH 1 rfl rfl 2 (by decide) rfl kw_1225 (fun _ h9 => h9) dX12_restore_19 ?_
    refine lv_iload_n hx hb dX12_restore_22 rfl (lv_at hl 1 rfl) ?_
    refine t_zld hx hb hkb hH t_q0_2 (hO.no t_q0_2 (by decide)) (by omega) (by omega) dX12_restore_23 (fun v23 => ?_)
    refine lv_if_ne (tgt := 30) hx hb dX12_restore_24 (by decide) (fun c24 => ?_) (fun c24 => ?_)
    · skip
      have tc24 := f_ne (k := 0) (by decide) c24
      refine lv_iconst (v := 0) hx hb dX12_restore_30 (by decide) ?_
      have J32 : ∀ (n : Nat) (p32_2 : Int32) (g32_0 : Nat → Int32) (H : Heap) (locs : List Loc) (ls : Array Slot), (1302 - p32_2.toInt).toNat = n → (0 ≤ p32_2.toInt) → (p32_2.toInt ≤ 1302) → (CR f1 g32_0 (1302 * (x1.toInt.toNat + 1)) p32_2.toInt.toNat) → HT D cs A T (q0_1 :: a0 :: O) ((q0_1, .inl (cs.2.1, 3906, .inl g32_0)) :: (a0, .inr (12, [.int 0, .ref q0_1, .ref q0_2, .ref q0_3, .ref q0_4, .int q0_5, .int q0_6, .int q0_7, .int q0_8, .int q0_9, .int q0_10, .int q0_11, .int q0_12, .int q0_13, .int q0_14, .ref q0_15, .int q0_16, .ref q0_17, .ref q0_18, .ref q0_19, .int q0_20, .ref q0_21, .ref q0_22, .int q0_23, .int q0_24, .int q0_25, .ref q0_26, .ref q0_27, .ref q0_28, .ref q0_29, .ref q0_30, .ref q0_31, .int q0_32, .ref q0_33, .ref q0_34, .ref q0_35])) :: X) H → va_S A s.heap H locs → lv_has ls 3 [(2, .int p32_2), (0, .ref a0), (1, .int x1)] → W p l e { frames := 1, cells := 0, slots := 0, locals := 25 } s m [.ref a0, .int x1].toArray below meth c H locs 0 0 (MQ below (Ti D cs (fun r u => ∃ (T2 : TF) (hg2 : Nat), u = (T2, O, X) ∧ -5 ≤ r.toInt ∧ r.toInt ≤ 0 ∧ (Trm T T2 a0) ∧ (T2 a0 = some (22, hg2, mq)) ∧ (hg2 < 90)) A) [.ref a0, .int x1].toArray s 0 0 A) (F0 m 32 ls []) := by
        intro n
        induction n using Nat.strongRecOn with
        | _ n ih32 =>
          intro p32_2 g32_0 H locs ls hm32 l_p32_2 u_p32_2 i32 hH hS hl
          refine lv_iload_n hx hb dX12_restore_32 rfl (lv_at hl 0 rfl) ?_
          refine lv_sipush (v := 1302) hx hb dX12_restore_33 (by decide) ?_
          refine lv_icmp_ge (tgt := 65) hx hb dX12_restore_36 (by decide) (fun c36 => ?_) (fun c36 => ?_)
          · skip
            have tc36 := f_ge (k := 1302) (by decide) c36
            have hB9 := CR_B8 i32 (by omega) s_f1 (x1.toInt.toNat + 1) (by omega) (by omega)
            refine lv_aload_n hx hb dX12_restore_65 rfl (lv_at hl 1 rfl) ?_
            refine x_getk (ci := 12) (C := RX12) (F := TX12) (N := 36) (v := .ref q0_1) hx hb hts uX12 hown hkb hH 1 rfl rfl 1 (by decide) rfl kw_1224 (fun _ h9 => h9) dX12_restore_66 ?_
            refine lv_bipush (v := 90) hx hb dX12_restore_69 (by decide) ?_
            refine lv_iconst (v := 0) hx hb dX12_restore_71 (by decide) ?_
            refine xa_ist hx hb hkb hH hS 0 rfl (by decide) (by decide) dX12_restore_72 (fun H locs hH hS => ?_)
            have hH : HT D cs A T (q0_1 :: a0 :: O) ((q0_1, .inl (cs.2.1, 3906, .inl (upd g32_0 (90) (0 : Int32)))) :: (a0, .inr (12, [.int 0, .ref q0_1, .ref q0_2, .ref q0_3, .ref q0_4, .int q0_5, .int q0_6, .int q0_7, .int q0_8, .int q0_9, .int q0_10, .int q0_11, .int q0_12, .int q0_13, .int q0_14, .ref q0_15, .int q0_16, .ref q0_17, .ref q0_18, .ref q0_19, .int q0_20, .ref q0_21, .ref q0_22, .int q0_23, .int q0_24, .int q0_25, .ref q0_26, .ref q0_27, .ref q0_28, .ref q0_29, .ref q0_30, .ref q0_31, .int q0_32, .ref q0_33, .ref q0_34, .ref q0_35])) :: X) H := hH
            obtain ⟨F72, eF72⟩ : ∃ f9, f9 = upd g32_0 (90) (0 : Int32) := ⟨_, rfl⟩
            have hH : HT D cs A T (q0_1 :: a0 :: O) ((q0_1, .inl (cs.2.1, 3906, .inl F72)) :: (a0, .inr (12, [.int 0, .ref q0_1, .ref q0_2, .ref q0_3, .ref q0_4, .int q0_5, .int q0_6, .int q0_7, .int q0_8, .int q0_9, .int q0_10, .int q0_11, .int q0_12, .int q0_13, .int q0_14, .ref q0_15, .int q0_16, .ref q0_17, .ref q0_18, .ref q0_19, .int q0_20, .ref q0_21, .ref q0_22, .int q0_23, .int q0_24, .int q0_25, .ref q0_26, .ref q0_27, .ref q0_28, .ref q0_29, .ref q0_30, .ref q0_31, .int q0_32, .ref q0_33, .ref q0_34, .ref q0_35])) :: X) H := eF72 ▸ hH
            have hB8 : B8 3906 F72 := by rw [eF72]; exact hB9.put (i := 90) (x := 0) (by decide) (by decide) (p8_90 (by decide) (by decide) (by decide))
            obtain ⟨hg2, hgb, hgq⟩ := hg_of hB8.first
            refine lv_iconst (v := 0) hx hb dX12_restore_73 (by decide) ?_
            obtain ⟨T2, ta2, tm2, hs2, rk2, hH⟩ := HT.rk (hg2 := hg2) (mq2 := mq) hH t_a0 t_q0_1 hU (by simp) (by simp)
            have t_q0_2 := (hs2 _ (tag_ne t_q0_2 t_a0 (fun q => absurd (show 3 = 22 from congrArg Prod.fst q) (by decide))) (tag_ne t_q0_2 t_q0_1 (fun q => absurd (show 3 = 8 from congrArg Prod.fst q) (by decide)))).trans t_q0_2
            have t_q0_3 := (hs2 _ (tag_ne t_q0_3 t_a0 (fun q => absurd (show 9 = 22 from congrArg Prod.fst q) (by decide))) (tag_ne t_q0_3 t_q0_1 (fun q => absurd (show 9 = 8 from congrArg Prod.fst q) (by decide)))).trans t_q0_3
            have t_q0_4 := (hs2 _ (tag_ne t_q0_4 t_a0 (fun q => absurd (show 8 = 22 from congrArg Prod.fst q) (by decide))) (tag_ne t_q0_4 t_q0_1 (fun q => absurd (show 1302 = 3906 from congrArg (fun z => z.2.1) q) (by decide)))).trans t_q0_4
            have t_q0_15 := (hs2 _ (tag_ne t_q0_15 t_a0 (fun q => absurd (show 1 = 22 from congrArg Prod.fst q) (by decide))) (tag_ne t_q0_15 t_q0_1 (fun q => absurd (show 1 = 8 from congrArg Prod.fst q) (by decide)))).trans t_q0_15
            have t_q0_17 := (hs2 _ (tag_ne t_q0_17 t_a0 (fun q => absurd (show 9 = 22 from congrArg Prod.fst q) (by decide))) (tag_ne t_q0_17 t_q0_1 (fun q => absurd (show 9 = 8 from congrArg Prod.fst q) (by decide)))).trans t_q0_17
            have t_q0_18 := (hs2 _ (tag_ne t_q0_18 t_a0 (fun q => absurd (show 9 = 22 from congrArg Prod.fst q) (by decide))) (tag_ne t_q0_18 t_q0_1 (fun q => absurd (show 9 = 8 from congrArg Prod.fst q) (by decide)))).trans t_q0_18
            have t_q0_19 := (hs2 _ (tag_ne t_q0_19 t_a0 (fun q => absurd (show 1 = 22 from congrArg Prod.fst q) (by decide))) (tag_ne t_q0_19 t_q0_1 (fun q => absurd (show 1 = 8 from congrArg Prod.fst q) (by decide)))).trans t_q0_19
            have t_q0_21 := (hs2 _ (tag_ne t_q0_21 t_a0 (fun q => absurd (show 1 = 22 from congrArg Prod.fst q) (by decide))) (tag_ne t_q0_21 t_q0_1 (fun q => absurd (show 1 = 8 from congrArg Prod.fst q) (by decide)))).trans t_q0_21
            have t_q0_22 := (hs2 _ (tag_ne t_q0_22 t_a0 (fun q => absurd (show 1 = 22 from congrArg Prod.fst q) (by decide))) (tag_ne t_q0_22 t_q0_1 (fun q => absurd (show 1 = 8 from congrArg Prod.fst q) (by decide)))).trans t_q0_22
            have t_q0_26 := (hs2 _ (tag_ne t_q0_26 t_a0 (fun q => absurd (show 2 = 22 from congrArg Prod.fst q) (by decide))) (tag_ne t_q0_26 t_q0_1 (fun q => absurd (show 2 = 8 from congrArg Prod.fst q) (by decide)))).trans t_q0_26
            have t_q0_27 := (hs2 _ (tag_ne t_q0_27 t_a0 (fun q => absurd (show 3 = 22 from congrArg Prod.fst q) (by decide))) (tag_ne t_q0_27 t_q0_1 (fun q => absurd (show 3 = 8 from congrArg Prod.fst q) (by decide)))).trans t_q0_27
            have t_q0_28 := (hs2 _ (tag_ne t_q0_28 t_a0 (fun q => absurd (show 0 = 22 from congrArg Prod.fst q) (by decide))) (tag_ne t_q0_28 t_q0_1 (fun q => absurd (show 0 = 8 from congrArg Prod.fst q) (by decide)))).trans t_q0_28
            have t_q0_29 := (hs2 _ (tag_ne t_q0_29 t_a0 (fun q => absurd (show 1 = 22 from congrArg Prod.fst q) (by decide))) (tag_ne t_q0_29 t_q0_1 (fun q => absurd (show 1 = 8 from congrArg Prod.fst q) (by decide)))).trans t_q0_29
            have t_q0_30 := (hs2 _ (tag_ne t_q0_30 t_a0 (fun q => absurd (show 1 = 22 from congrArg Prod.fst q) (by decide))) (tag_ne t_q0_30 t_q0_1 (fun q => absurd (show 1 = 8 from congrArg Prod.fst q) (by decide)))).trans t_q0_30
            have t_q0_31 := (hs2 _ (tag_ne t_q0_31 t_a0 (fun q => absurd (show 1 = 22 from congrArg Prod.fst q) (by decide))) (tag_ne t_q0_31 t_q0_1 (fun q => absurd (show 1 = 8 from congrArg Prod.fst q) (by decide)))).trans t_q0_31
            have t_q0_33 := (hs2 _ (tag_ne t_q0_33 t_a0 (fun q => absurd (show 1 = 22 from congrArg Prod.fst q) (by decide))) (tag_ne t_q0_33 t_q0_1 (fun q => absurd (show 1 = 8 from congrArg Prod.fst q) (by decide)))).trans t_q0_33
            have t_q0_34 := (hs2 _ (tag_ne t_q0_34 t_a0 (fun q => absurd (show 1 = 22 from congrArg Prod.fst q) (by decide))) (tag_ne t_q0_34 t_q0_1 (fun q => absurd (show 1 = 8 from congrArg Prod.fst q) (by decide)))).trans t_q0_34
            have t_q0_35 := (hs2 _ (tag_ne t_q0_35 t_a0 (fun q => absurd (show 2 = 22 from congrArg Prod.fst q) (by decide))) (tag_ne t_q0_35 t_q0_1 (fun q => absurd (show 2 = 8 from congrArg Prod.fst q) (by decide)))).trans t_q0_35
            have hH : HT D cs A T2 (a0 :: O) ((a0, .inr (12, [.int 0, .ref q0_1, .ref q0_2, .ref q0_3, .ref q0_4, .int q0_5, .int q0_6, .int q0_7, .int q0_8, .int q0_9, .int q0_10, .int q0_11, .int q0_12, .int q0_13, .int q0_14, .ref q0_15, .int q0_16, .ref q0_17, .ref q0_18, .ref q0_19, .int q0_20, .ref q0_21, .ref q0_22, .int q0_23, .int q0_24, .int q0_25, .ref q0_26, .ref q0_27, .ref q0_28, .ref q0_29, .ref q0_30, .ref q0_31, .int q0_32, .ref q0_33, .ref q0_34, .ref q0_35])) :: X) H := HT.layA hH ta2 (show sp cs T2 (8, 3906, hg2) _ from ⟨_, rfl, hB8, fun _ => hgq⟩)
            have t_q0_1 := ta2
            have t_a0 := tm2
            have hH : HT D cs A T2 O X H := HT.lay (ci := 12) hH t_a0 (okL_c (⟨_, rfl⟩) (okL_c (⟨_, rfl, t_q0_1⟩) (okL_c (⟨_, rfl, t_q0_2⟩) (okL_c (⟨_, rfl, t_q0_3⟩) (okL_c (⟨_, rfl, t_q0_4⟩) (okL_c (⟨_, rfl, by omega, by omega, by omega⟩) (okL_c (⟨_, rfl⟩) (okL_c (⟨_, rfl⟩) (okL_c (⟨_, rfl⟩) (okL_c (⟨_, rfl⟩) (okL_c (⟨_, rfl, by omega, by omega⟩) (okL_c (⟨_, rfl⟩) (okL_c (⟨_, rfl⟩) (okL_c (⟨_, rfl, by omega⟩) (okL_c (⟨_, rfl, by omega⟩) (okL_c (⟨_, rfl, t_q0_15⟩) (okL_c (⟨_, rfl⟩) (okL_c (⟨_, rfl, t_q0_17⟩) (okL_c (⟨_, rfl, t_q0_18⟩) (okL_c (⟨_, rfl, t_q0_19⟩) (okL_c (⟨_, rfl, by omega, by omega⟩) (okL_c (⟨_, rfl, t_q0_21⟩) (okL_c (⟨_, rfl, t_q0_22⟩) (okL_c (⟨_, rfl⟩) (okL_c (⟨_, rfl⟩) (okL_c (⟨_, rfl⟩) (okL_c (⟨_, rfl, t_q0_26⟩) (okL_c (⟨_, rfl, t_q0_27⟩) (okL_c (⟨_, rfl, t_q0_28⟩) (okL_c (⟨_, rfl, t_q0_29⟩) (okL_c (⟨_, rfl, t_q0_30⟩) (okL_c (⟨_, rfl, t_q0_31⟩) (okL_c (⟨_, rfl⟩) (okL_c (⟨_, rfl, t_q0_33⟩) (okL_c (⟨_, rfl, t_q0_34⟩) (okL_c (⟨_, rfl, t_q0_35⟩) (okL_n)))))))))))))))))))))))))))))))))))))
            have hO := hO0
            have z9_0 : (0 : Int32).toInt = 0 := by decide
            exact te_i hx hb hr hlocks hH hS (⟨T2, hg2, rfl, by decide, by decide, rk2, tm2, hgb⟩) dX12_restore_74
          · skip
            have tc36 := f_nge (k := 1302) (by decide) c36
            refine lv_aload_n hx hb dX12_restore_39 rfl (lv_at hl 1 rfl) ?_
            refine x_getk (ci := 12) (C := RX12) (F := TX12) (N := 36) (v := .ref q0_1) hx hb hts uX12 hown hkb hH 1 rfl rfl 1 (by decide) rfl kw_1224 (fun _ h9 => h9) dX12_restore_40 ?_
            refine lv_iload_n hx hb dX12_restore_43 rfl (lv_at hl 0 rfl) ?_
            refine lv_aload_n hx hb dX12_restore_44 rfl (lv_at hl 1 rfl) ?_
            refine x_getk (ci := 12) (C := RX12) (F := TX12) (N := 36) (v := .ref q0_1) hx hb hts uX12 hown hkb hH 1 rfl rfl 1 (by decide) rfl kw_1224 (fun _ h9 => h9) dX12_restore_45 ?_
            refine lv_sipush (v := 1302) hx hb dX12_restore_48 (by decide) ?_
            refine lv_iload_n hx hb dX12_restore_51 rfl (lv_at hl 2 rfl) ?_
            refine lv_iconst (v := 1) hx hb dX12_restore_52 (by decide) ?_
            refine lv_iadd hx hb dX12_restore_53 ?_
            refine lv_topi (fun v53 ev53 => ?_)
            have tv53 : v53.toInt = x1.toInt + (1) := by rw [ev53]; exact add_i rfl (by decide : (1 : Int32).toInt = 1) (by omega) (by omega)
            refine lv_imul hx hb dX12_restore_54 ?_
            refine lv_topi (fun v54 ev54 => ?_)
            have tv54 : v54.toInt = (1302) * v53.toInt := by rw [ev54]; exact mul_i (by decide : (1302 : Int32).toInt = 1302) rfl (by omega) (by omega)
            refine lv_iload_n hx hb dX12_restore_55 rfl (lv_at hl 0 rfl) ?_
            refine lv_iadd hx hb dX12_restore_56 ?_
            refine lv_topi (fun v56 ev56 => ?_)
            have tv56 : v56.toInt = v54.toInt + p32_2.toInt := by rw [ev56]; exact add_i rfl rfl (by omega) (by omega)
            refine xa_ild hx hb hkb hH 0 rfl (by omega) (by omega) dX12_restore_57 ?_
            refine lv_topi (fun v57 ev57 => ?_)
            have tv57 : v57 = g32_0 v56.toInt.toNat := ev57
            refine xa_ist hx hb hkb hH hS 0 rfl (by omega) (by omega) dX12_restore_58 (fun H locs hH hS => ?_)
            have hH : HT D cs A T (q0_1 :: a0 :: O) ((q0_1, .inl (cs.2.1, 3906, .inl (upd g32_0 (p32_2.toInt.toNat) v57))) :: (a0, .inr (12, [.int 0, .ref q0_1, .ref q0_2, .ref q0_3, .ref q0_4, .int q0_5, .int q0_6, .int q0_7, .int q0_8, .int q0_9, .int q0_10, .int q0_11, .int q0_12, .int q0_13, .int q0_14, .ref q0_15, .int q0_16, .ref q0_17, .ref q0_18, .ref q0_19, .int q0_20, .ref q0_21, .ref q0_22, .int q0_23, .int q0_24, .int q0_25, .ref q0_26, .ref q0_27, .ref q0_28, .ref q0_29, .ref q0_30, .ref q0_31, .int q0_32, .ref q0_33, .ref q0_34, .ref q0_35])) :: X) H := hH
            obtain ⟨F58, eF58⟩ : ∃ f9, f9 = upd g32_0 (p32_2.toInt.toNat) v57 := ⟨_, rfl⟩
            have hH : HT D cs A T (q0_1 :: a0 :: O) ((q0_1, .inl (cs.2.1, 3906, .inl F58)) :: (a0, .inr (12, [.int 0, .ref q0_1, .ref q0_2, .ref q0_3, .ref q0_4, .int q0_5, .int q0_6, .int q0_7, .int q0_8, .int q0_9, .int q0_10, .int q0_11, .int q0_12, .int q0_13, .int q0_14, .ref q0_15, .int q0_16, .ref q0_17, .ref q0_18, .ref q0_19, .int q0_20, .ref q0_21, .ref q0_22, .int q0_23, .int q0_24, .int q0_25, .ref q0_26, .ref q0_27, .ref q0_28, .ref q0_29, .ref q0_30, .ref q0_31, .int q0_32, .ref q0_33, .ref q0_34, .ref q0_35])) :: X) H := eF58 ▸ hH
            obtain ⟨v59, ev59⟩ : ∃ y : Int32, y = p32_2 + 1 := ⟨_, rfl⟩
            have tv59 : v59.toInt = p32_2.toInt + (1) := by rw [ev59]; exact add_i rfl (by decide) (by omega) (by omega)
            refine lv_iinc (v := v59) (lv' := [(2, .int v59), (0, .ref a0), (1, .int x1)]) hx hb dX12_restore_59 hl (k := 0) rfl (by rw [ev59]; rfl) (by decide) rfl (fun ls hl => ?_)
            refine lv_goto (tgt := 32) hx hb dX12_restore_62 (by decide) ?_
            exact ih32 _ (by omega) v59 F58 _ _ _ rfl (by omega) (by omega) (by first | (refine CR_0 ?_; decide) | (refine CR_s i32 ?_ ?_ ?_ tv59 ?_ tv57 eF58 <;> omega)) hH hS (lv_sub hl [0, 1, 2] rfl)
      refine lv_istore_n (lv' := [(2, .int 0), (0, .ref a0), (1, .int x1)]) hx hb dX12_restore_31 rfl hl (by decide) rfl (fun ls hl => ?_)
      have z_0 : (0 : Int32).toInt = 0 := by decide
      exact J32 _ 0 f1 _ _ _ rfl (by decide) (by decide) (by first | (refine CR_0 ?_; decide) | (refine CR_s i32 ?_ ?_ ?_ tv59 ?_ tv57 eF58 <;> omega)) hH hS (lv_sub hl [0, 1, 2] rfl)
    · skip
      have tc24 := f_eq (k := 0) (by decide) c24
      refine lv_bipush (v := (-5)) hx hb dX12_restore_27 (by decide) ?_
      have hH : HT D cs A T (a0 :: O) ((a0, .inr (12, [.int 0, .ref q0_1, .ref q0_2, .ref q0_3, .ref q0_4, .int q0_5, .int q0_6, .int q0_7, .int q0_8, .int q0_9, .int q0_10, .int q0_11, .int q0_12, .int q0_13, .int q0_14, .ref q0_15, .int q0_16, .ref q0_17, .ref q0_18, .ref q0_19, .int q0_20, .ref q0_21, .ref q0_22, .int q0_23, .int q0_24, .int q0_25, .ref q0_26, .ref q0_27, .ref q0_28, .ref q0_29, .ref q0_30, .ref q0_31, .int q0_32, .ref q0_33, .ref q0_34, .ref q0_35])) :: X) H := HT.layA hH t_q0_1 (show sp cs T (8, 3906, hg) _ from ⟨_, rfl, s_f1, fun _ => g_f1⟩)
      have hH : HT D cs A T O X H := HT.lay (ci := 12) hH t_a0 (okL_c (⟨_, rfl⟩) (okL_c (⟨_, rfl, t_q0_1⟩) (okL_c (⟨_, rfl, t_q0_2⟩) (okL_c (⟨_, rfl, t_q0_3⟩) (okL_c (⟨_, rfl, t_q0_4⟩) (okL_c (⟨_, rfl, by omega, by omega, by omega⟩) (okL_c (⟨_, rfl⟩) (okL_c (⟨_, rfl⟩) (okL_c (⟨_, rfl⟩) (okL_c (⟨_, rfl⟩) (okL_c (⟨_, rfl, by omega, by omega⟩) (okL_c (⟨_, rfl⟩) (okL_c (⟨_, rfl⟩) (okL_c (⟨_, rfl, by omega⟩) (okL_c (⟨_, rfl, by omega⟩) (okL_c (⟨_, rfl, t_q0_15⟩) (okL_c (⟨_, rfl⟩) (okL_c (⟨_, rfl, t_q0_17⟩) (okL_c (⟨_, rfl, t_q0_18⟩) (okL_c (⟨_, rfl, t_q0_19⟩) (okL_c (⟨_, rfl, by omega, by omega⟩) (okL_c (⟨_, rfl, t_q0_21⟩) (okL_c (⟨_, rfl, t_q0_22⟩) (okL_c (⟨_, rfl⟩) (okL_c (⟨_, rfl⟩) (okL_c (⟨_, rfl⟩) (okL_c (⟨_, rfl, t_q0_26⟩) (okL_c (⟨_, rfl, t_q0_27⟩) (okL_c (⟨_, rfl, t_q0_28⟩) (okL_c (⟨_, rfl, t_q0_29⟩) (okL_c (⟨_, rfl, t_q0_30⟩) (okL_c (⟨_, rfl, t_q0_31⟩) (okL_c (⟨_, rfl⟩) (okL_c (⟨_, rfl, t_q0_33⟩) (okL_c (⟨_, rfl, t_q0_34⟩) (okL_c (⟨_, rfl, t_q0_35⟩) (okL_n)))))))))))))))))))))))))))))))))))))
      have hO := hO0
      have z9_m5 : ((-5) : Int32).toInt = -5 := by decide
      exact te_i hx hb hr hlocks hH hS (⟨T, hg, rfl, by decide, by decide, Trm.rf, t_a0, b_hg⟩) dX12_restore_29
  · skip
    have tc12 := f_eq (k := 0) (by decide) c12
    clear x_v90
    replace x_v91 := x_v91.resolve_left (fun q9 => q9 tc12)
    refine lv_bipush (v := (-2)) hx hb dX12_restore_15 (by decide) ?_
    have hH : HT D cs A T (a0 :: O) ((a0, .inr (12, [.int 0, .ref q0_1, .ref q0_2, .ref q0_3, .ref q0_4, .int q0_5, .int q0_6, .int q0_7, .int q0_8, .int q0_9, .int q0_10, .int q0_11, .int q0_12, .int q0_13, .int q0_14, .ref q0_15, .int q0_16, .ref q0_17, .ref q0_18, .ref q0_19, .int q0_20, .ref q0_21, .ref q0_22, .int q0_23, .int q0_24, .int q0_25, .ref q0_26, .ref q0_27, .ref q0_28, .ref q0_29, .ref q0_30, .ref q0_31, .int q0_32, .ref q0_33, .ref q0_34, .ref q0_35])) :: X) H := HT.layA hH t_q0_1 (show sp cs T (8, 3906, hg) _ from ⟨_, rfl, s_f1, fun _ => g_f1⟩)
    have hH : HT D cs A T O X H := HT.lay (ci := 12) hH t_a0 (okL_c (⟨_, rfl⟩) (okL_c (⟨_, rfl, t_q0_1⟩) (okL_c (⟨_, rfl, t_q0_2⟩) (okL_c (⟨_, rfl, t_q0_3⟩) (okL_c (⟨_, rfl, t_q0_4⟩) (okL_c (⟨_, rfl, by omega, by omega, by omega⟩) (okL_c (⟨_, rfl⟩) (okL_c (⟨_, rfl⟩) (okL_c (⟨_, rfl⟩) (okL_c (⟨_, rfl⟩) (okL_c (⟨_, rfl, by omega, by omega⟩) (okL_c (⟨_, rfl⟩) (okL_c (⟨_, rfl⟩) (okL_c (⟨_, rfl, by omega⟩) (okL_c (⟨_, rfl, by omega⟩) (okL_c (⟨_, rfl, t_q0_15⟩) (okL_c (⟨_, rfl⟩) (okL_c (⟨_, rfl, t_q0_17⟩) (okL_c (⟨_, rfl, t_q0_18⟩) (okL_c (⟨_, rfl, t_q0_19⟩) (okL_c (⟨_, rfl, by omega, by omega⟩) (okL_c (⟨_, rfl, t_q0_21⟩) (okL_c (⟨_, rfl, t_q0_22⟩) (okL_c (⟨_, rfl⟩) (okL_c (⟨_, rfl⟩) (okL_c (⟨_, rfl⟩) (okL_c (⟨_, rfl, t_q0_26⟩) (okL_c (⟨_, rfl, t_q0_27⟩) (okL_c (⟨_, rfl, t_q0_28⟩) (okL_c (⟨_, rfl, t_q0_29⟩) (okL_c (⟨_, rfl, t_q0_30⟩) (okL_c (⟨_, rfl, t_q0_31⟩) (okL_c (⟨_, rfl⟩) (okL_c (⟨_, rfl, t_q0_33⟩) (okL_c (⟨_, rfl, t_q0_34⟩) (okL_c (⟨_, rfl, t_q0_35⟩) (okL_n)))))))))))))))))))))))))))))))))))))
    have hO := hO0
    have z9_m2 : ((-2) : Int32).toInt = -2 := by decide
    exact te_i hx hb hr hlocks hH hS (⟨T, hg, rfl, by decide, by decide, Trm.rf, t_a0, b_hg⟩) dX12_restore_17
theorem dX12_plain_0 : decode cX12_plain 0 = .ok (.iconst 0, 1) := by decide +kernel
theorem dX12_plain_1 : decode cX12_plain 1 = .ok (.istore_n 1, 1) := by decide +kernel
theorem dX12_plain_2 : decode cX12_plain 2 = .ok (.iload_n 1, 1) := by decide +kernel
theorem dX12_plain_3 : decode cX12_plain 3 = .ok (.sipush 1302, 3) := by decide +kernel
theorem dX12_plain_6 : decode cX12_plain 6 = .ok (.if_icmp .ge 13, 3) := by decide +kernel
theorem dX12_plain_9 : decode cX12_plain 9 = .ok (.aload_n 0, 1) := by decide +kernel
theorem dX12_plain_10 : decode cX12_plain 10 = .ok (.iload_n 1, 1) := by decide +kernel
theorem dX12_plain_11 : decode cX12_plain 11 = .ok (.iconst 0, 1) := by decide +kernel
theorem dX12_plain_12 : decode cX12_plain 12 = .ok (.iastore, 1) := by decide +kernel
theorem dX12_plain_13 : decode cX12_plain 13 = .ok (.iinc 1 1, 3) := by decide +kernel
theorem dX12_plain_16 : decode cX12_plain 16 = .ok (.goto (-14), 3) := by decide +kernel
theorem dX12_plain_19 : decode cX12_plain 19 = .ok (.iconst 0, 1) := by decide +kernel
theorem dX12_plain_20 : decode cX12_plain 20 = .ok (.istore_n 1, 1) := by decide +kernel
theorem dX12_plain_21 : decode cX12_plain 21 = .ok (.iload_n 1, 1) := by decide +kernel
theorem dX12_plain_22 : decode cX12_plain 22 = .ok (.bipush 14, 2) := by decide +kernel
theorem dX12_plain_24 : decode cX12_plain 24 = .ok (.if_icmp .ge 23, 3) := by decide +kernel
theorem dX12_plain_27 : decode cX12_plain 27 = .ok (.aload_n 0, 1) := by decide +kernel
theorem dX12_plain_28 : decode cX12_plain 28 = .ok (.bipush 59, 2) := by decide +kernel
theorem dX12_plain_30 : decode cX12_plain 30 = .ok (.iload_n 1, 1) := by decide +kernel
theorem dX12_plain_31 : decode cX12_plain 31 = .ok (.iadd, 1) := by decide +kernel
theorem dX12_plain_32 : decode cX12_plain 32 = .ok (.iconst (-1), 1) := by decide +kernel
theorem dX12_plain_33 : decode cX12_plain 33 = .ok (.iastore, 1) := by decide +kernel
theorem dX12_plain_34 : decode cX12_plain 34 = .ok (.aload_n 0, 1) := by decide +kernel
theorem dX12_plain_35 : decode cX12_plain 35 = .ok (.bipush 73, 2) := by decide +kernel
theorem dX12_plain_37 : decode cX12_plain 37 = .ok (.iload_n 1, 1) := by decide +kernel
theorem dX12_plain_38 : decode cX12_plain 38 = .ok (.iadd, 1) := by decide +kernel
theorem dX12_plain_39 : decode cX12_plain 39 = .ok (.iconst (-1), 1) := by decide +kernel
theorem dX12_plain_40 : decode cX12_plain 40 = .ok (.iastore, 1) := by decide +kernel
theorem dX12_plain_41 : decode cX12_plain 41 = .ok (.iinc 1 1, 3) := by decide +kernel
theorem dX12_plain_44 : decode cX12_plain 44 = .ok (.goto (-23), 3) := by decide +kernel
theorem dX12_plain_47 : decode cX12_plain 47 = .ok (.return_, 1) := by decide +kernel
def wz (x : Int32) : Int := if x.toInt = 0 then 1 else 0
theorem wz_1 {x : Int32} (h : x.toInt = 0) : wz x = 1 := if_pos h
theorem wz_0 {x : Int32} (h : NZ x) : wz x = 0 := if_neg h
theorem wz_b (x : Int32) : 0 ≤ wz x ∧ wz x ≤ 1 := by
  unfold wz
  split <;> omega
/-- so many numbers of a wall that is read are copied -/
def CW (f r g : Nat → Int32) (k : Nat) : Prop := ∀ j, g j = if j < k then r j else f j
theorem CW_0 {f r : Nat → Int32} {z : Int32} (hz : z.toInt = 0) : CW f r f z.toInt.toNat := fun j => by rw [if_neg (by omega)]
theorem CW_s {f r g F : Nat → Int32} {p v x : Int32} (hi : CW f r g p.toInt.toNat) (h0 : 0 ≤ p.toInt) (hv : v.toInt = p.toInt + 1) (hx : x = r p.toInt.toNat) (eF : F = upd g p.toInt.toNat x) : CW f r F v.toInt.toNat := fun j => by
  rw [eF]
  by_cases q : j = p.toInt.toNat
  · rw [q, upd_eq, hx, if_pos (by omega)]
  · rw [upd_ne q, hi j]
    by_cases q2 : j < p.toInt.toNat
    · rw [if_pos q2, if_pos (by omega)]
    · rw [if_neg q2, if_neg (by omega)]
set_option maxRecDepth 20000 in
theorem CW_B8 {f r g : Nat → Int32} {p : Int32} (hi : CW f r g p.toInt.toNat) (hp : p.toInt = 1302) (hB : B8 3906 f) (hr : S8 r) : B8 3906 g := by
  have e : p.toInt.toNat = 1302 := by omega
  rw [e] at hi
  intro y hy
  by_cases q : y = 0
  · refine S8_cong (p := r) (fun j hj => ?_) hr
    show g (y * 1302 + j) = r j
    rw [hi, if_pos (by omega), show y * 1302 + j = j by omega]
  · refine S8_cong (p := fun j => f (y * 1302 + j)) (fun j hj => ?_) (hB y hy)
    show g (y * 1302 + j) = f (y * 1302 + j)
    rw [hi, if_neg (by omega)]
set_option maxHeartbeats 4000000 in
set_option maxRecDepth 100000 in
theorem s_M_plain0 (l : Launch) (D : va_G) (cs : CS) (kf : KF) (T : TF) (O : List Nat) (X : va_W) (o0 : Value) (o1 : Value) (o2 : Value) (y3 : Nat) (y4 : Nat) (tl : List Value) (f3 : Nat → Int32) (f4 : Nat → Int32) (mm hg mq : Nat) (t_y3 : T y3 = some (9, 900, 0)) (t_y4 : T y4 = some (8, 1302, 0)) (t_mm : T mm = some (22, hg, mq)) (hO : okO T (mm :: y3 :: y4 :: O) []) : TK l D cs kf yX12_plain cX12_plain 2 none { frames := 0, cells := 0, slots := 0, locals := 0 } [.ref y4] T (mm :: y3 :: y4 :: O) ((mm, .inr (12, o0 :: o1 :: o2 :: (.ref y3) :: (.ref y4) :: tl)) :: (y3, .inl (cs.2.1, 900, .inl f3)) :: (y4, .inl (cs.2.1, 1302, .inl f4)) :: X) (Tv D cs (fun u => ∃ (G2 : Nat → Int32), u = (T, mm :: y3 :: y4 :: O, (mm, .inr (12, o0 :: o1 :: o2 :: (.ref y3) :: (.ref y4) :: tl)) :: (y3, .inl (cs.2.1, 900, .inl f3)) :: (y4, .inl (cs.2.1, 1302, .inl G2)) :: X) ∧ (S8 G2) ∧ (FR5 G2 = RZ 0 0 0 0 0) ∧ (G2 0 = 0))) := by
  refine tk_of (by decide) (Nat.le_of_ble_eq_true rfl) (fun p e s m below meth c ls A H locs hx hb hr hml hown hts hlocks hnm hkb hH hS hA hOX hks hE hl => ?_)
  have hown : s.vm.findClass RX12 = some m.cls := hown
  have hl : lv_has ls 2 [(0, .ref y4)] := hl
  have hOXf := hOX
  refine lv_iconst (v := 0) hx hb dX12_plain_0 (by decide) ?_
  have J2 : ∀ (n : Nat) (p2_1 : Int32) (g2_2 : Nat → Int32) (H : Heap) (locs : List Loc) (ls : Array Slot), (1302 - p2_1.toInt).toNat = n → (0 ≤ p2_1.toInt) → (p2_1.toInt ≤ 1302) → (∀ j : Nat, j < p2_1.toInt.toNat → g2_2 j = 0) → HT D cs A T (mm :: y3 :: y4 :: O) ((mm, .inr (12, o0 :: o1 :: o2 :: (.ref y3) :: (.ref y4) :: tl)) :: (y3, .inl (cs.2.1, 900, .inl f3)) :: (y4, .inl (cs.2.1, 1302, .inl g2_2)) :: X) H → va_S A s.heap H locs → lv_has ls 2 [(1, .int p2_1), (0, .ref y4)] → W p l e { frames := 0, cells := 0, slots := 0, locals := 0 } s m [.ref y4].toArray below meth c H locs 0 0 (MQ below (Tv D cs (fun u => ∃ (G2 : Nat → Int32), u = (T, mm :: y3 :: y4 :: O, (mm, .inr (12, o0 :: o1 :: o2 :: (.ref y3) :: (.ref y4) :: tl)) :: (y3, .inl (cs.2.1, 900, .inl f3)) :: (y4, .inl (cs.2.1, 1302, .inl G2)) :: X) ∧ (S8 G2) ∧ (FR5 G2 = RZ 0 0 0 0 0) ∧ (G2 0 = 0)) A) [.ref y4].toArray s 0 0 A) (F0 m 2 ls []) := by
    intro n
    induction n using Nat.strongRecOn with
    | _ n ih2 =>
      intro p2_1 g2_2 H locs ls hm2 l_p2_1 u_p2_1 i2p hH hS hl
      refine lv_iload_n hx hb dX12_plain_2 rfl (lv_at hl 0 rfl) ?_
      refine lv_sipush (v := 1302) hx hb dX12_plain_3 (by decide) ?_
      refine lv_icmp_ge (tgt := 19) hx hb dX12_plain_6 (by decide) (fun c6 => ?_) (fun c6 => ?_)
      · skip
        have tc6 := f_ge (k := 1302) (by decide) c6
        refine lv_iconst (v := 0) hx hb dX12_plain_19 (by decide) ?_
        have J21 : ∀ (n : Nat) (p21_1 : Int32) (g21_2 : Nat → Int32) (H : Heap) (locs : List Loc) (ls : Array Slot), (14 - p21_1.toInt).toNat = n → (0 ≤ p21_1.toInt) → (p21_1.toInt ≤ 14) → (∀ j : Nat, j < 1302 → (j < 59 ∨ 87 ≤ j) → g21_2 j = 0) → HT D cs A T (mm :: y3 :: y4 :: O) ((mm, .inr (12, o0 :: o1 :: o2 :: (.ref y3) :: (.ref y4) :: tl)) :: (y3, .inl (cs.2.1, 900, .inl f3)) :: (y4, .inl (cs.2.1, 1302, .inl g21_2)) :: X) H → va_S A s.heap H locs → lv_has ls 2 [(1, .int p21_1), (0, .ref y4)] → W p l e { frames := 0, cells := 0, slots := 0, locals := 0 } s m [.ref y4].toArray below meth c H locs 0 0 (MQ below (Tv D cs (fun u => ∃ (G2 : Nat → Int32), u = (T, mm :: y3 :: y4 :: O, (mm, .inr (12, o0 :: o1 :: o2 :: (.ref y3) :: (.ref y4) :: tl)) :: (y3, .inl (cs.2.1, 900, .inl f3)) :: (y4, .inl (cs.2.1, 1302, .inl G2)) :: X) ∧ (S8 G2) ∧ (FR5 G2 = RZ 0 0 0 0 0) ∧ (G2 0 = 0)) A) [.ref y4].toArray s 0 0 A) (F0 m 21 ls []) := by
          intro n
          induction n using Nat.strongRecOn with
          | _ n ih21 =>
            intro p21_1 g21_2 H locs ls hm21 l_p21_1 u_p21_1 i21p hH hS hl
            refine lv_iload_n hx hb dX12_plain_21 rfl (lv_at hl 0 rfl) ?_
            refine lv_bipush (v := 14) hx hb dX12_plain_22 (by decide) ?_
            refine lv_icmp_ge (tgt := 47) hx hb dX12_plain_24 (by decide) (fun c24 => ?_) (fun c24 => ?_)
            · skip
              have tc24 := f_ge (k := 14) (by decide) c24
              exact te_v hx hb hr hlocks hH hS (⟨g21_2, rfl, S8_plain i21p, (by unfold FR5; rw [i21p 1 (by decide) (by decide), i21p 2 (by decide) (by decide), i21p 4 (by decide) (by decide), i21p 5 (by decide) (by decide), i21p 0 (by decide) (by decide)]), i21p 0 (by decide) (by decide)⟩) dX12_plain_47
            · skip
              have tc24 := f_nge (k := 14) (by decide) c24
              refine lv_aload_n hx hb dX12_plain_27 rfl (lv_at hl 1 rfl) ?_
              refine lv_bipush (v := 59) hx hb dX12_plain_28 (by decide) ?_
              refine lv_iload_n hx hb dX12_plain_30 rfl (lv_at hl 0 rfl) ?_
              refine lv_iadd hx hb dX12_plain_31 ?_
              refine lv_topi (fun v31 ev31 => ?_)
              have tv31 : v31.toInt = (59) + p21_1.toInt := by rw [ev31]; exact add_i (by decide : (59 : Int32).toInt = 59) rfl (by omega) (by omega)
              refine lv_iconst (v := (-1)) hx hb dX12_plain_32 (by decide) ?_
              refine xa_ist hx hb hkb hH hS 2 rfl (by omega) (by omega) dX12_plain_33 (fun H locs hH hS => ?_)
              have hH : HT D cs A T (mm :: y3 :: y4 :: O) ((mm, .inr (12, o0 :: o1 :: o2 :: (.ref y3) :: (.ref y4) :: tl)) :: (y3, .inl (cs.2.1, 900, .inl f3)) :: (y4, .inl (cs.2.1, 1302, .inl (upd g21_2 (v31.toInt.toNat) ((-1) : Int32)))) :: X) H := hH
              obtain ⟨F33, eF33⟩ : ∃ f9, f9 = upd g21_2 (v31.toInt.toNat) ((-1) : Int32) := ⟨_, rfl⟩
              have hH : HT D cs A T (mm :: y3 :: y4 :: O) ((mm, .inr (12, o0 :: o1 :: o2 :: (.ref y3) :: (.ref y4) :: tl)) :: (y3, .inl (cs.2.1, 900, .inl f3)) :: (y4, .inl (cs.2.1, 1302, .inl F33)) :: X) H := eF33 ▸ hH
              refine lv_aload_n hx hb dX12_plain_34 rfl (lv_at hl 1 rfl) ?_
              refine lv_bipush (v := 73) hx hb dX12_plain_35 (by decide) ?_
              refine lv_iload_n hx hb dX12_plain_37 rfl (lv_at hl 0 rfl) ?_
              refine lv_iadd hx hb dX12_plain_38 ?_
              refine lv_topi (fun v38 ev38 => ?_)
              have tv38 : v38.toInt = (73) + p21_1.toInt := by rw [ev38]; exact add_i (by decide : (73 : Int32).toInt = 73) rfl (by omega) (by omega)
              refine lv_iconst (v := (-1)) hx hb dX12_plain_39 (by decide) ?_
              refine xa_ist hx hb hkb hH hS 2 rfl (by omega) (by omega) dX12_plain_40 (fun H locs hH hS => ?_)
              have hH : HT D cs A T (mm :: y3 :: y4 :: O) ((mm, .inr (12, o0 :: o1 :: o2 :: (.ref y3) :: (.ref y4) :: tl)) :: (y3, .inl (cs.2.1, 900, .inl f3)) :: (y4, .inl (cs.2.1, 1302, .inl (upd F33 (v38.toInt.toNat) ((-1) : Int32)))) :: X) H := hH
              obtain ⟨F40, eF40⟩ : ∃ f9, f9 = upd F33 (v38.toInt.toNat) ((-1) : Int32) := ⟨_, rfl⟩
              have hH : HT D cs A T (mm :: y3 :: y4 :: O) ((mm, .inr (12, o0 :: o1 :: o2 :: (.ref y3) :: (.ref y4) :: tl)) :: (y3, .inl (cs.2.1, 900, .inl f3)) :: (y4, .inl (cs.2.1, 1302, .inl F40)) :: X) H := eF40 ▸ hH
              obtain ⟨v41, ev41⟩ : ∃ y : Int32, y = p21_1 + 1 := ⟨_, rfl⟩
              have tv41 : v41.toInt = p21_1.toInt + (1) := by rw [ev41]; exact add_i rfl (by decide) (by omega) (by omega)
              refine lv_iinc (v := v41) (lv' := [(1, .int v41), (0, .ref y4)]) hx hb dX12_plain_41 hl (k := 0) rfl (by rw [ev41]; rfl) (by decide) rfl (fun ls hl => ?_)
              refine lv_goto (tgt := 21) hx hb dX12_plain_44 (by decide) ?_
              exact ih21 _ (by omega) v41 F40 _ _ _ rfl (by omega) (by omega) (by intro j hj h2; first | exact i2p j (by omega) | (rw [eF40, upd_ne (by omega), eF33, upd_ne (by omega)]; exact i21p j hj h2)) hH hS (lv_sub hl [0, 1] rfl)
        refine lv_istore_n (lv' := [(1, .int 0), (0, .ref y4)]) hx hb dX12_plain_20 rfl hl (by decide) rfl (fun ls hl => ?_)
        have z_0 : (0 : Int32).toInt = 0 := by decide
        exact J21 _ 0 g2_2 _ _ _ rfl (by decide) (by decide) (by intro j hj h2; first | exact i2p j (by omega) | (rw [eF40, upd_ne (by omega), eF33, upd_ne (by omega)]; exact i21p j hj h2)) hH hS (lv_sub hl [0, 1] rfl)
      · skip
        have tc6 := f_nge (k := 1302) (by decide) c6
        refine lv_aload_n hx hb dX12_plain_9 rfl (lv_at hl 1 rfl) ?_
        refine lv_iload_n hx hb dX12_plain_10 rfl (lv_at hl 0 rfl) ?_
        refine lv_iconst (v := 0) hx hb dX12_plain_11 (by decide) ?_
        refine xa_ist hx hb hkb hH hS 2 rfl (by omega) (by omega) dX12_plain_12 (fun H locs hH hS => ?_)
        have hH : HT D cs A T (mm :: y3 :: y4 :: O) ((mm, .inr (12, o0 :: o1 :: o2 :: (.ref y3) :: (.ref y4) :: tl)) :: (y3, .inl (cs.2.1, 900, .inl f3)) :: (y4, .inl (cs.2.1, 1302, .inl (upd g2_2 (p2_1.toInt.toNat) (0 : Int32)))) :: X) H := hH
        obtain ⟨F12, eF12⟩ : ∃ f9, f9 = upd g2_2 (p2_1.toInt.toNat) (0 : Int32) := ⟨_, rfl⟩
        have hH : HT D cs A T (mm :: y3 :: y4 :: O) ((mm, .inr (12, o0 :: o1 :: o2 :: (.ref y3) :: (.ref y4) :: tl)) :: (y3, .inl (cs.2.1, 900, .inl f3)) :: (y4, .inl (cs.2.1, 1302, .inl F12)) :: X) H := eF12 ▸ hH
        obtain ⟨v13, ev13⟩ : ∃ y : Int32, y = p2_1 + 1 := ⟨_, rfl⟩
        have tv13 : v13.toInt = p2_1.toInt + (1) := by rw [ev13]; exact add_i rfl (by decide) (by omega) (by omega)
        refine lv_iinc (v := v13) (lv' := [(1, .int v13), (0, .ref y4)]) hx hb dX12_plain_13 hl (k := 0) rfl (by rw [ev13]; rfl) (by decide) rfl (fun ls hl => ?_)
        refine lv_goto (tgt := 2) hx hb dX12_plain_16 (by decide) ?_
        exact ih2 _ (by omega) v13 F12 _ _ _ rfl (by omega) (by omega) (by intro j hj; first | (exfalso; have z0 : (0 : Int32).toInt = 0 := (by decide); omega) | (rw [eF12]; unfold upd; split; rfl; exact i2p j (by omega))) hH hS (lv_sub hl [0, 1] rfl)
  refine lv_istore_n (lv' := [(1, .int 0), (0, .ref y4)]) hx hb dX12_plain_1 rfl hl (by decide) rfl (fun ls hl => ?_)
  have z_0 : (0 : Int32).toInt = 0 := by decide
  exact J2 _ 0 f4 _ _ _ rfl (by decide) (by decide) (by intro j hj; first | (exfalso; have z0 : (0 : Int32).toInt = 0 := (by decide); omega) | (rw [eF12]; unfold upd; split; rfl; exact i2p j (by omega))) hH hS (lv_sub hl [0, 1] rfl)
set_option maxHeartbeats 4000000 in
set_option maxRecDepth 100000 in
theorem s_M_next0 (l : Launch) (D : va_G) (cs : CS) (kf : KF) (T : TF) (O : List Nat) (X : va_W) (a0 hg mq : Nat) (o0 : Value) (o1 : Value) (o2 : Value) (y3 : Nat) (y4 : Nat) (o5 : Value) (y6 : Int32) (y7 : Int32) (y8 : Int32) (y9 : Int32) (y10 : Int32) (y11 : Int32) (y12 : Int32) (tl : List Value) (f3 : Nat → Int32) (t : Tp) (tn : Nat) (t_a0 : T a0 = some (22, hg, mq)) (b_hg : hg < 90) (t_y3 : T y3 = some (9, 900, 0)) (t_y4 : T y4 = some (8, 1302, 0)) (l_y7 : 0 ≤ y7.toInt) (u_y7 : y7.toInt ≤ 900) (l_y8 : 0 ≤ y8.toInt) (u_y8 : y8.toInt ≤ 900) (l_y10 : 0 ≤ y10.toInt) (u_y10 : y10.toInt ≤ 999) (hn : y8.toInt = (tn : Int)) (htm : TM f3 t) (k2 : y7.toInt ≤ y8.toInt) (hO : okO T (a0 :: y3 :: O) []) : TK l D cs kf yX12_next cX12_next 2 none { frames := 5, cells := 0, slots := 0, locals := 108 } [.ref a0] T (a0 :: y3 :: O) ((a0, .inr (12, o0 :: o1 :: o2 :: (.ref y3) :: (.ref y4) :: o5 :: (.int y6) :: (.int y7) :: (.int y8) :: (.int y9) :: (.int y10) :: (.int y11) :: (.int y12) :: tl)) :: (y3, .inl (cs.2.1, 900, .inl f3)) :: X) (Tv D cs (fun u => ∃ (n0_6 : Int32) (n0_7 : Int32) (n0_9 : Int32) (n0_10 : Int32), u = (T, a0 :: y3 :: O, (a0, .inr (12, o0 :: o1 :: o2 :: (.ref y3) :: (.ref y4) :: o5 :: (.int n0_6) :: (.int n0_7) :: (.int y8) :: (.int n0_9) :: (.int n0_10) :: (.int y11) :: (.int y12) :: tl)) :: (y3, .inl (cs.2.1, 900, .inl f3)) :: X) ∧ (y7.toInt ≤ n0_6.toInt) ∧ (n0_6.toInt ≤ n0_7.toInt) ∧ (n0_7.toInt ≤ y8.toInt) ∧ (TK3 n0_9 n0_6 n0_7) ∧ (0 ≤ n0_10.toInt) ∧ (n0_10.toInt ≤ 999) ∧ (MSS t tn n0_6 n0_7 n0_9 n0_10) ∧ (n0_6.toInt.toNat = nxs t tn y7.toInt.toNat))) := by
  refine tk_of (by decide) (Nat.le_of_ble_eq_true rfl) (fun p e s m below meth c ls A H locs hx hb hr hml hown hts hlocks hnm hkb hH hS hA hOX hks hE hl => ?_)
  have hown : s.vm.findClass RX12 = some m.cls := hown
  have hl : lv_has ls 2 [(0, .ref a0)] := hl
  have hOXf := hOX
  refine lv_aload_n hx hb dX12_next_0 rfl (lv_at hl 0 rfl) ?_
  refine lv_aload_n hx hb dX12_next_1 rfl (lv_at hl 0 rfl) ?_
  refine x_getk (ci := 12) (C := RX12) (F := TX12) (N := 36) (v := .int y7) hx hb hts uX12 hown hkb hH 0 rfl rfl 7 (by decide) rfl kw_1230 (fun _ h9 => h9) dX12_next_2 ?_
  have J8 : ∀ (n : Nat) (f8_106 : Int32) (H : Heap) (locs : List Loc) (ls : Array Slot), (900 - f8_106.toInt).toNat = n → (0 ≤ f8_106.toInt) → (f8_106.toInt ≤ 900) → (y7.toInt ≤ f8_106.toInt ∧ f8_106.toInt ≤ y8.toInt) → (nxs t tn f8_106.toInt.toNat = nxs t tn y7.toInt.toNat) → HT D cs A T (a0 :: y3 :: O) ((a0, .inr (12, o0 :: o1 :: o2 :: (.ref y3) :: (.ref y4) :: o5 :: (.int f8_106) :: (.int y7) :: (.int y8) :: (.int y9) :: (.int y10) :: (.int y11) :: (.int y12) :: tl)) :: (y3, .inl (cs.2.1, 900, .inl f3)) :: X) H → va_S A s.heap H locs → lv_has ls 2 [(0, .ref a0)] → W p l e { frames := 5, cells := 0, slots := 0, locals := 108 } s m [.ref a0].toArray below meth c H locs 0 0 (MQ below (Tv D cs (fun u => ∃ (n0_6 : Int32) (n0_7 : Int32) (n0_9 : Int32) (n0_10 : Int32), u = (T, a0 :: y3 :: O, (a0, .inr (12, o0 :: o1 :: o2 :: (.ref y3) :: (.ref y4) :: o5 :: (.int n0_6) :: (.int n0_7) :: (.int y8) :: (.int n0_9) :: (.int n0_10) :: (.int y11) :: (.int y12) :: tl)) :: (y3, .inl (cs.2.1, 900, .inl f3)) :: X) ∧ (y7.toInt ≤ n0_6.toInt) ∧ (n0_6.toInt ≤ n0_7.toInt) ∧ (n0_7.toInt ≤ y8.toInt) ∧ (TK3 n0_9 n0_6 n0_7) ∧ (0 ≤ n0_10.toInt) ∧ (n0_10.toInt ≤ 999) ∧ (MSS t tn n0_6 n0_7 n0_9 n0_10) ∧ (n0_6.toInt.toNat = nxs t tn y7.toInt.toNat)) A) [.ref a0].toArray s 0 0 A) (F0 m 8 ls []) := by
    intro n
    induction n using Nat.strongRecOn with
    | _ n ih8 =>
      intro f8_106 H locs ls hm8 l_f8_106 u_f8_106 i8 i8s hH hS hl
      refine lv_aload_n hx hb dX12_next_8 rfl (lv_at hl 0 rfl) ?_
      refine lv_aload_n hx hb dX12_next_9 rfl (lv_at hl 0 rfl) ?_
      refine x_getk (ci := 12) (C := RX12) (F := TX12) (N := 36) (v := .int f8_106) hx hb hts uX12 hown hkb hH 0 rfl rfl 6 (by decide) rfl kw_1229 (fun _ h9 => h9) dX12_next_10 ?_
      refine tk_i hH hS hA (tr_V (n := 1) (As := [.int f8_106]) hx hb hml hown hts hkb hH (ox_map hOX rfl) hks hE hS hA (s_M_see l D cs kf T O X a0 hg mq f8_106 o0 o1 o2 y3 y4 o5 f8_106 y7 y8 y9 y10 y11 y12 tl f3 t_a0 b_hg (by omega) t_y3 t_y4 (by omega) (by omega) (by omega) (by omega) (by omega) (by omega) (by omega) (by omega) (hO.sub (by decide))) kw_1348 kw_1350 ks_44 kw_13 kw_1351 (by decide +kernel) ⟨Nat.le_of_ble_eq_true rfl, Nat.le_of_ble_eq_true rfl⟩ (x_recv (ci := 12) hkb hH 0 rfl rfl) rfl rfl hl.1 (Nat.le_of_ble_eq_true rfl) dX12_next_13 ⟨Nat.le_of_ble_eq_true rfl, Nat.le_of_ble_eq_true rfl⟩) (fun v13 u H locs hz9 hH hS => ?_)
      obtain ⟨rfl, x_v130, x_v131⟩ := hz9
      have hH : HT D cs A T (a0 :: y3 :: O) ((a0, .inr (12, o0 :: o1 :: o2 :: (.ref y3) :: (.ref y4) :: o5 :: (.int f8_106) :: (.int y7) :: (.int y8) :: (.int y9) :: (.int y10) :: (.int y11) :: (.int y12) :: tl)) :: (y3, .inl (cs.2.1, 900, .inl f3)) :: X) H := hH
      refine W.widen (k := 0) (n := 0) (Nat.le_of_ble_eq_true rfl) (Nat.le_of_ble_eq_true rfl) ?_
      refine lv_bipush (v := 10) hx hb dX12_next_16 (by decide) ?_
      refine lv_icmp_eq (tgt := 34) hx hb dX12_next_18 (by decide) (fun c18 => ?_) (fun c18 => ?_)
      · skip
        have tc18 := f_eq (k := 10) (by decide) c18
        refine lv_aload_n hx hb dX12_next_34 rfl (lv_at hl 0 rfl) ?_
        refine lv_dup hx hb dX12_next_35 rfl ?_
        refine x_getk (ci := 12) (C := RX12) (F := TX12) (N := 36) (v := .int f8_106) hx hb hts uX12 hown hkb hH 0 rfl rfl 6 (by decide) rfl kw_1229 (fun _ h9 => h9) dX12_next_36 ?_
        refine lv_iconst (v := 1) hx hb dX12_next_39 (by decide) ?_
        refine lv_iadd hx hb dX12_next_40 ?_
        refine lv_topi (fun v40 ev40 => ?_)
        have tv40 : v40.toInt = f8_106.toInt + (1) := by rw [ev40]; exact add_i rfl (by decide : (1 : Int32).toInt = 1) (by omega) (by omega)
        refine x_putk (ci := 12) (v := .int v40) (ty := tyX12 6) (C := RX12) (F := TX12) (N := 36) hx hb hts uX12 tyX12 tyX12_ok nmX12 hown hkb hH hS 0 rfl rfl 6 (by decide) kw_1229 (fun _ h9 => h9) rfl (tyX12_ok 6 (by decide)) rfl rfl (by show 6 < tl.length + 13; omega) dX12_next_41 (fun H locs hH hS => ?_)
        have hH : HT D cs A T (a0 :: y3 :: O) ((a0, .inr (12, o0 :: o1 :: o2 :: (.ref y3) :: (.ref y4) :: o5 :: (.int v40) :: (.int y7) :: (.int y8) :: (.int y9) :: (.int y10) :: (.int y11) :: (.int y12) :: tl)) :: (y3, .inl (cs.2.1, 900, .inl f3)) :: X) H := hH
        refine lv_goto (tgt := 8) hx hb dX12_next_44 (by decide) ?_
        exact ih8 _ (by omega) v40 _ _ _ rfl (by omega) (by omega) (by omega) (by first | rfl | (refine (rbl_s htm hn x_v130 ?_ ?_ tv40).trans i8s <;> omega) | (refine (rbl_s htm hn x_v260 ?_ ?_ tv40).trans i8s <;> omega)) hH hS (lv_sub hl [0] rfl)
      · skip
        have tc18 := f_ne (k := 10) (by decide) c18
        refine lv_aload_n hx hb dX12_next_21 rfl (lv_at hl 0 rfl) ?_
        refine lv_aload_n hx hb dX12_next_22 rfl (lv_at hl 0 rfl) ?_
        refine x_getk (ci := 12) (C := RX12) (F := TX12) (N := 36) (v := .int f8_106) hx hb hts uX12 hown hkb hH 0 rfl rfl 6 (by decide) rfl kw_1229 (fun _ h9 => h9) dX12_next_23 ?_
        refine tk_i hH hS hA (tr_V (n := 1) (As := [.int f8_106]) hx hb hml hown hts hkb hH (ox_map hOX rfl) hks hE hS hA (s_M_see l D cs kf T O X a0 hg mq f8_106 o0 o1 o2 y3 y4 o5 f8_106 y7 y8 y9 y10 y11 y12 tl f3 t_a0 b_hg (by omega) t_y3 t_y4 (by omega) (by omega) (by omega) (by omega) (by omega) (by omega) (by omega) (by omega) (hO.sub (by decide))) kw_1348 kw_1350 ks_44 kw_13 kw_1351 (by decide +kernel) ⟨Nat.le_of_ble_eq_true rfl, Nat.le_of_ble_eq_true rfl⟩ (x_recv (ci := 12) hkb hH 0 rfl rfl) rfl rfl hl.1 (Nat.le_of_ble_eq_true rfl) dX12_next_26 ⟨Nat.le_of_ble_eq_true rfl, Nat.le_of_ble_eq_true rfl⟩) (fun v26 u H locs hz9 hH hS => ?_)
        obtain ⟨rfl, x_v260, x_v261⟩ := hz9
        have hH : HT D cs A T (a0 :: y3 :: O) ((a0, .inr (12, o0 :: o1 :: o2 :: (.ref y3) :: (.ref y4) :: o5 :: (.int f8_106) :: (.int y7) :: (.int y8) :: (.int y9) :: (.int y10) :: (.int y11) :: (.int y12) :: tl)) :: (y3, .inl (cs.2.1, 900, .inl f3)) :: X) H := hH
        refine W.widen (k := 0) (n := 0) (Nat.le_of_ble_eq_true rfl) (Nat.le_of_ble_eq_true rfl) ?_
        refine lv_bipush (v := 32) hx hb dX12_next_29 (by decide) ?_
        refine lv_icmp_ne (tgt := 47) hx hb dX12_next_31 (by decide) (fun c31 => ?_) (fun c31 => ?_)
        · skip
          have tc31 := f_ne (k := 32) (by decide) c31
          have i47 := rbl_e htm hn i8s x_v130 tc18 x_v260 tc31
          refine lv_aload_n hx hb dX12_next_47 rfl (lv_at hl 0 rfl) ?_
          refine lv_aload_n hx hb dX12_next_48 rfl (lv_at hl 0 rfl) ?_
          refine x_getk (ci := 12) (C := RX12) (F := TX12) (N := 36) (v := .int f8_106) hx hb hts uX12 hown hkb hH 0 rfl rfl 6 (by decide) rfl kw_1229 (fun _ h9 => h9) dX12_next_49 ?_
          refine x_putk (ci := 12) (v := .int f8_106) (ty := tyX12 7) (C := RX12) (F := TX12) (N := 36) hx hb hts uX12 tyX12 tyX12_ok nmX12 hown hkb hH hS 0 rfl rfl 7 (by decide) kw_1230 (fun _ h9 => h9) rfl (tyX12_ok 7 (by decide)) rfl rfl (by show 7 < tl.length + 13; omega) dX12_next_52 (fun H locs hH hS => ?_)
          have hH : HT D cs A T (a0 :: y3 :: O) ((a0, .inr (12, o0 :: o1 :: o2 :: (.ref y3) :: (.ref y4) :: o5 :: (.int f8_106) :: (.int f8_106) :: (.int y8) :: (.int y9) :: (.int y10) :: (.int y11) :: (.int y12) :: tl)) :: (y3, .inl (cs.2.1, 900, .inl f3)) :: X) H := hH
          refine lv_aload_n hx hb dX12_next_55 rfl (lv_at hl 0 rfl) ?_
          refine x_getk (ci := 12) (C := RX12) (F := TX12) (N := 36) (v := .int f8_106) hx hb hts uX12 hown hkb hH 0 rfl rfl 6 (by decide) rfl kw_1229 (fun _ h9 => h9) dX12_next_56 ?_
          refine lv_aload_n hx hb dX12_next_59 rfl (lv_at hl 0 rfl) ?_
          refine x_getk (ci := 12) (C := RX12) (F := TX12) (N := 36) (v := .int y8) hx hb hts uX12 hown hkb hH 0 rfl rfl 8 (by decide) rfl kw_1231 (fun _ h9 => h9) dX12_next_60 ?_
          refine lv_icmp_lt (tgt := 75) hx hb dX12_next_63 (by decide) (fun c63 => ?_) (fun c63 => ?_)
          · skip
            have fuc63 := full_i f8_106
            have fvc63 := full_i y8
            have tc63 := g_lt c63
            refine lv_aload_n hx hb dX12_next_75 rfl (lv_at hl 0 rfl) ?_
            refine lv_aload_n hx hb dX12_next_76 rfl (lv_at hl 0 rfl) ?_
            refine x_getk (ci := 12) (C := RX12) (F := TX12) (N := 36) (v := .int f8_106) hx hb hts uX12 hown hkb hH 0 rfl rfl 6 (by decide) rfl kw_1229 (fun _ h9 => h9) dX12_next_77 ?_
            refine tk_i hH hS hA (tr_V (n := 1) (As := [.int f8_106]) hx hb hml hown hts hkb hH (ox_map hOX rfl) hks hE hS hA (s_M_see l D cs kf T O X a0 hg mq f8_106 o0 o1 o2 y3 y4 o5 f8_106 f8_106 y8 y9 y10 y11 y12 tl f3 t_a0 b_hg (by omega) t_y3 t_y4 (by omega) (by omega) (by omega) (by omega) (by omega) (by omega) (by omega) (by omega) (hO.sub (by decide))) kw_1348 kw_1350 ks_44 kw_13 kw_1351 (by decide +kernel) ⟨Nat.le_of_ble_eq_true rfl, Nat.le_of_ble_eq_true rfl⟩ (x_recv (ci := 12) hkb hH 0 rfl rfl) rfl rfl hl.1 (Nat.le_of_ble_eq_true rfl) dX12_next_80 ⟨Nat.le_of_ble_eq_true rfl, Nat.le_of_ble_eq_true rfl⟩) (fun v80 u H locs hz9 hH hS => ?_)
            obtain ⟨rfl, x_v800, x_v801⟩ := hz9
            have hH : HT D cs A T (a0 :: y3 :: O) ((a0, .inr (12, o0 :: o1 :: o2 :: (.ref y3) :: (.ref y4) :: o5 :: (.int f8_106) :: (.int f8_106) :: (.int y8) :: (.int y9) :: (.int y10) :: (.int y11) :: (.int y12) :: tl)) :: (y3, .inl (cs.2.1, 900, .inl f3)) :: X) H := hH
            refine W.widen (k := 0) (n := 0) (Nat.le_of_ble_eq_true rfl) (Nat.le_of_ble_eq_true rfl) ?_
            refine tk_i hH hS hA (tr_S (n := 1) (As := [.int v80]) hx hb hml hown hts hkb hH (ox_map hOX rfl) hks hE hS hA (s_M_isSmall2 l D cs kf T (a0 :: y3 :: O) ((a0, .inr (12, o0 :: o1 :: o2 :: (.ref y3) :: (.ref y4) :: o5 :: (.int f8_106) :: (.int f8_106) :: (.int y8) :: (.int y9) :: (.int y10) :: (.int y11) :: (.int y12) :: tl)) :: (y3, .inl (cs.2.1, 900, .inl f3)) :: X) v80  (hO.sub (by decide))) kw_1352 kw_1353 kw_13 kw_1354 (by decide +kernel) ⟨Nat.le_of_ble_eq_true rfl, Nat.le_of_ble_eq_true rfl⟩ rfl rfl hl.1 (Nat.le_of_ble_eq_true rfl) dX12_next_83 ⟨Nat.le_of_ble_eq_true rfl, Nat.le_of_ble_eq_true rfl⟩) (fun v83 u H locs hz9 hH hS => ?_)
            obtain ⟨rfl, l_v83, u_v83, x_v830, x_v831⟩ := hz9
            have hH : HT D cs A T (a0 :: y3 :: O) ((a0, .inr (12, o0 :: o1 :: o2 :: (.ref y3) :: (.ref y4) :: o5 :: (.int f8_106) :: (.int f8_106) :: (.int y8) :: (.int y9) :: (.int y10) :: (.int y11) :: (.int y12) :: tl)) :: (y3, .inl (cs.2.1, 900, .inl f3)) :: X) H := hH
            refine W.widen (k := 0) (n := 0) (Nat.le_of_ble_eq_true rfl) (Nat.le_of_ble_eq_true rfl) ?_
            have J89 : ∀ (n : Nat) (f89_107 : Int32) (H : Heap) (locs : List Loc) (ls : Array Slot), (900 - f89_107.toInt).toNat = n → (0 ≤ f89_107.toInt) → (f89_107.toInt ≤ 900) → (f8_106.toInt ≤ f89_107.toInt ∧ f89_107.toInt ≤ y8.toInt) → (v83.toInt ≠ 0) → (run (sm t) tn f89_107.toInt.toNat = run (sm t) tn f8_106.toInt.toNat) → HT D cs A T (a0 :: y3 :: O) ((a0, .inr (12, o0 :: o1 :: o2 :: (.ref y3) :: (.ref y4) :: o5 :: (.int f8_106) :: (.int f89_107) :: (.int y8) :: (.int y9) :: (.int y10) :: (.int y11) :: (.int y12) :: tl)) :: (y3, .inl (cs.2.1, 900, .inl f3)) :: X) H → va_S A s.heap H locs → lv_has ls 2 [(0, .ref a0)] → W p l e { frames := 5, cells := 0, slots := 0, locals := 108 } s m [.ref a0].toArray below meth c H locs 0 0 (MQ below (Tv D cs (fun u => ∃ (n0_6 : Int32) (n0_7 : Int32) (n0_9 : Int32) (n0_10 : Int32), u = (T, a0 :: y3 :: O, (a0, .inr (12, o0 :: o1 :: o2 :: (.ref y3) :: (.ref y4) :: o5 :: (.int n0_6) :: (.int n0_7) :: (.int y8) :: (.int n0_9) :: (.int n0_10) :: (.int y11) :: (.int y12) :: tl)) :: (y3, .inl (cs.2.1, 900, .inl f3)) :: X) ∧ (y7.toInt ≤ n0_6.toInt) ∧ (n0_6.toInt ≤ n0_7.toInt) ∧ (n0_7.toInt ≤ y8.toInt) ∧ (TK3 n0_9 n0_6 n0_7) ∧ (0 ≤ n0_10.toInt) ∧ (n0_10.toInt ≤ 999) ∧ (MSS t tn n0_6 n0_7 n0_9 n0_10) ∧ (n0_6.toInt.toNat = nxs t tn y7.toInt.toNat)) A) [.ref a0].toArray s 0 0 A) (F0 m 89 ls []) := by
              intro n
              induction n using Nat.strongRecOn with
              | _ n ih89 =>
                intro f89_107 H locs ls hm89 l_f89_107 u_f89_107 i89 j89 i89s hH hS hl
                refine lv_aload_n hx hb dX12_next_89 rfl (lv_at hl 0 rfl) ?_
                refine lv_aload_n hx hb dX12_next_90 rfl (lv_at hl 0 rfl) ?_
                refine x_getk (ci := 12) (C := RX12) (F := TX12) (N := 36) (v := .int f89_107) hx hb hts uX12 hown hkb hH 0 rfl rfl 7 (by decide) rfl kw_1230 (fun _ h9 => h9) dX12_next_91 ?_
                refine tk_i hH hS hA (tr_V (n := 1) (As := [.int f89_107]) hx hb hml hown hts hkb hH (ox_map hOX rfl) hks hE hS hA (s_M_see l D cs kf T O X a0 hg mq f89_107 o0 o1 o2 y3 y4 o5 f8_106 f89_107 y8 y9 y10 y11 y12 tl f3 t_a0 b_hg (by omega) t_y3 t_y4 (by omega) (by omega) (by omega) (by omega) (by omega) (by omega) (by omega) (by omega) (hO.sub (by decide))) kw_1348 kw_1350 ks_44 kw_13 kw_1351 (by decide +kernel) ⟨Nat.le_of_ble_eq_true rfl, Nat.le_of_ble_eq_true rfl⟩ (x_recv (ci := 12) hkb hH 0 rfl rfl) rfl rfl hl.1 (Nat.le_of_ble_eq_true rfl) dX12_next_94 ⟨Nat.le_of_ble_eq_true rfl, Nat.le_of_ble_eq_true rfl⟩) (fun v94 u H locs hz9 hH hS => ?_)
                obtain ⟨rfl, x_v940, x_v941⟩ := hz9
                have hH : HT D cs A T (a0 :: y3 :: O) ((a0, .inr (12, o0 :: o1 :: o2 :: (.ref y3) :: (.ref y4) :: o5 :: (.int f8_106) :: (.int f89_107) :: (.int y8) :: (.int y9) :: (.int y10) :: (.int y11) :: (.int y12) :: tl)) :: (y3, .inl (cs.2.1, 900, .inl f3)) :: X) H := hH
                refine W.widen (k := 0) (n := 0) (Nat.le_of_ble_eq_true rfl) (Nat.le_of_ble_eq_true rfl) ?_
                refine tk_i hH hS hA (tr_S (n := 1) (As := [.int v94]) hx hb hml hown hts hkb hH (ox_map hOX rfl) hks hE hS hA (s_M_isSmall2 l D cs kf T (a0 :: y3 :: O) ((a0, .inr (12, o0 :: o1 :: o2 :: (.ref y3) :: (.ref y4) :: o5 :: (.int f8_106) :: (.int f89_107) :: (.int y8) :: (.int y9) :: (.int y10) :: (.int y11) :: (.int y12) :: tl)) :: (y3, .inl (cs.2.1, 900, .inl f3)) :: X) v94  (hO.sub (by decide))) kw_1352 kw_1353 kw_13 kw_1354 (by decide +kernel) ⟨Nat.le_of_ble_eq_true rfl, Nat.le_of_ble_eq_true rfl⟩ rfl rfl hl.1 (Nat.le_of_ble_eq_true rfl) dX12_next_97 ⟨Nat.le_of_ble_eq_true rfl, Nat.le_of_ble_eq_true rfl⟩) (fun v97 u H locs hz9 hH hS => ?_)
                obtain ⟨rfl, l_v97, u_v97, x_v970, x_v971⟩ := hz9
                have hH : HT D cs A T (a0 :: y3 :: O) ((a0, .inr (12, o0 :: o1 :: o2 :: (.ref y3) :: (.ref y4) :: o5 :: (.int f8_106) :: (.int f89_107) :: (.int y8) :: (.int y9) :: (.int y10) :: (.int y11) :: (.int y12) :: tl)) :: (y3, .inl (cs.2.1, 900, .inl f3)) :: X) H := hH
                refine W.widen (k := 0) (n := 0) (Nat.le_of_ble_eq_true rfl) (Nat.le_of_ble_eq_true rfl) ?_
                refine lv_if_eq (tgt := 116) hx hb dX12_next_100 (by decide) (fun c100 => ?_) (fun c100 => ?_)
                · skip
                  have tc100 := f_eq (k := 0) (by decide) c100
                  have hq : f8_106.toInt ≠ f89_107.toInt := fun q => by have := see_same x_v800 x_v940 q; omega
                  refine lv_aload_n hx hb dX12_next_116 rfl (lv_at hl 0 rfl) ?_
                  refine lv_aload_n hx hb dX12_next_117 rfl (lv_at hl 0 rfl) ?_
                  refine tk_i hH hS hA (tr_V (n := 0) (As := []) hx hb hml hown hts hkb hH (ox_map hOX rfl) hks hE hS hA (s_M_keyAt l D cs kf T O X a0 hg mq o0 o1 o2 y3 y4 o5 f8_106 f89_107 y8 y9 y10 y11 y12 tl f3 t tn t_a0 b_hg t_y3 t_y4 (by omega) (by omega) (by omega) (by omega) (by omega) (by omega) (by omega) (by omega) (by omega) htm (by omega) (hO.sub (by decide))) kw_1355 kw_1357 ks_45 kw_13 kw_1358 (by decide +kernel) ⟨Nat.le_of_ble_eq_true rfl, Nat.le_of_ble_eq_true rfl⟩ (x_recv (ci := 12) hkb hH 0 rfl rfl) rfl rfl hl.1 (Nat.le_of_ble_eq_true rfl) dX12_next_118 ⟨Nat.le_of_ble_eq_true rfl, Nat.le_of_ble_eq_true rfl⟩) (fun v118 u H locs hz9 hH hS => ?_)
                  obtain ⟨rfl, l_v118, u_v118, x_v1180⟩ := hz9
                  have hH : HT D cs A T (a0 :: y3 :: O) ((a0, .inr (12, o0 :: o1 :: o2 :: (.ref y3) :: (.ref y4) :: o5 :: (.int f8_106) :: (.int f89_107) :: (.int y8) :: (.int y9) :: (.int y10) :: (.int y11) :: (.int y12) :: tl)) :: (y3, .inl (cs.2.1, 900, .inl f3)) :: X) H := hH
                  refine W.widen (k := 0) (n := 0) (Nat.le_of_ble_eq_true rfl) (Nat.le_of_ble_eq_true rfl) ?_
                  refine x_putk (ci := 12) (v := .int v118) (ty := tyX12 9) (C := RX12) (F := TX12) (N := 36) hx hb hts uX12 tyX12 tyX12_ok nmX12 hown hkb hH hS 0 rfl rfl 9 (by decide) kw_1232 (fun _ h9 => h9) rfl (tyX12_ok 9 (by decide)) rfl rfl (by show 9 < tl.length + 13; omega) dX12_next_121 (fun H locs hH hS => ?_)
                  have hH : HT D cs A T (a0 :: y3 :: O) ((a0, .inr (12, o0 :: o1 :: o2 :: (.ref y3) :: (.ref y4) :: o5 :: (.int f8_106) :: (.int f89_107) :: (.int y8) :: (.int v118) :: (.int y10) :: (.int y11) :: (.int y12) :: tl)) :: (y3, .inl (cs.2.1, 900, .inl f3)) :: X) H := hH
                  refine lv_goto (tgt := 294) hx hb dX12_next_124 (by decide) ?_
                  have ms9 : MSS t tn f8_106 f89_107 v118 y10 ∧ f8_106.toInt.toNat = nxs t tn y7.toInt.toNat := by
                    first | (refine MS_E i47 ?_ ?_ ?_ (by decide) <;> omega) | (refine MS_W htm hn i47 ?_ ?_ x_v800 ?_ ?_ i89s ?_ (rsm_e htm hn x_v940 (by omega)) x_v1180 <;> omega) | (refine MS_D htm hn i47 ?_ ?_ x_v1320 ?_ ?_ i146s (rdg_e htm hn x_v1510 (by omega)) i146v (Or.inl ⟨by decide, by omega⟩) <;> omega) | (refine MS_D htm hn i47 ?_ ?_ x_v1320 ?_ ?_ i146s (rdg_e htm hn x_v1510 (by omega)) i146v (Or.inr ⟨by decide, by omega⟩) <;> omega) | (refine MS_G (z := p254_1) htm hn i47 ?_ ?_ x_v800 ?_ x_v1320 ?_ tv242 i254s ?_ <;> omega)
                  exact te_v hx hb hr hlocks hH hS (⟨f8_106, f89_107, v118, y10, rfl, by omega, by omega, by omega, (fun q => by omega), by omega, by omega, ms9.1, ms9.2⟩) dX12_next_294
                · skip
                  have tc100 := f_ne (k := 0) (by decide) c100
                  refine lv_aload_n hx hb dX12_next_103 rfl (lv_at hl 0 rfl) ?_
                  refine lv_dup hx hb dX12_next_104 rfl ?_
                  refine x_getk (ci := 12) (C := RX12) (F := TX12) (N := 36) (v := .int f89_107) hx hb hts uX12 hown hkb hH 0 rfl rfl 7 (by decide) rfl kw_1230 (fun _ h9 => h9) dX12_next_105 ?_
                  refine lv_iconst (v := 1) hx hb dX12_next_108 (by decide) ?_
                  refine lv_iadd hx hb dX12_next_109 ?_
                  refine lv_topi (fun v109 ev109 => ?_)
                  have tv109 : v109.toInt = f89_107.toInt + (1) := by rw [ev109]; exact add_i rfl (by decide : (1 : Int32).toInt = 1) (by omega) (by omega)
                  refine x_putk (ci := 12) (v := .int v109) (ty := tyX12 7) (C := RX12) (F := TX12) (N := 36) hx hb hts uX12 tyX12 tyX12_ok nmX12 hown hkb hH hS 0 rfl rfl 7 (by decide) kw_1230 (fun _ h9 => h9) rfl (tyX12_ok 7 (by decide)) rfl rfl (by show 7 < tl.length + 13; omega) dX12_next_110 (fun H locs hH hS => ?_)
                  have hH : HT D cs A T (a0 :: y3 :: O) ((a0, .inr (12, o0 :: o1 :: o2 :: (.ref y3) :: (.ref y4) :: o5 :: (.int f8_106) :: (.int v109) :: (.int y8) :: (.int y9) :: (.int y10) :: (.int y11) :: (.int y12) :: tl)) :: (y3, .inl (cs.2.1, 900, .inl f3)) :: X) H := hH
                  refine lv_goto (tgt := 89) hx hb dX12_next_113 (by decide) ?_
                  exact ih89 _ (by omega) v109 _ _ _ rfl (by omega) (by omega) (by omega) (by omega) (by first | rfl | (refine rsm_s htm hn i89s x_v940 ?_ ?_ ?_ tv109 <;> omega)) hH hS (lv_sub hl [0] rfl)
            refine lv_if_eq (tgt := 127) hx hb dX12_next_86 (by decide) (fun c86 => ?_) (fun c86 => ?_)
            · skip
              have tc86 := f_eq (k := 0) (by decide) c86
              refine lv_aload_n hx hb dX12_next_127 rfl (lv_at hl 0 rfl) ?_
              refine lv_aload_n hx hb dX12_next_128 rfl (lv_at hl 0 rfl) ?_
              refine x_getk (ci := 12) (C := RX12) (F := TX12) (N := 36) (v := .int f8_106) hx hb hts uX12 hown hkb hH 0 rfl rfl 6 (by decide) rfl kw_1229 (fun _ h9 => h9) dX12_next_129 ?_
              refine tk_i hH hS hA (tr_V (n := 1) (As := [.int f8_106]) hx hb hml hown hts hkb hH (ox_map hOX rfl) hks hE hS hA (s_M_see l D cs kf T O X a0 hg mq f8_106 o0 o1 o2 y3 y4 o5 f8_106 f8_106 y8 y9 y10 y11 y12 tl f3 t_a0 b_hg (by omega) t_y3 t_y4 (by omega) (by omega) (by omega) (by omega) (by omega) (by omega) (by omega) (by omega) (hO.sub (by decide))) kw_1348 kw_1350 ks_44 kw_13 kw_1351 (by decide +kernel) ⟨Nat.le_of_ble_eq_true rfl, Nat.le_of_ble_eq_true rfl⟩ (x_recv (ci := 12) hkb hH 0 rfl rfl) rfl rfl hl.1 (Nat.le_of_ble_eq_true rfl) dX12_next_132 ⟨Nat.le_of_ble_eq_true rfl, Nat.le_of_ble_eq_true rfl⟩) (fun v132 u H locs hz9 hH hS => ?_)
              obtain ⟨rfl, x_v1320, x_v1321⟩ := hz9
              have hH : HT D cs A T (a0 :: y3 :: O) ((a0, .inr (12, o0 :: o1 :: o2 :: (.ref y3) :: (.ref y4) :: o5 :: (.int f8_106) :: (.int f8_106) :: (.int y8) :: (.int y9) :: (.int y10) :: (.int y11) :: (.int y12) :: tl)) :: (y3, .inl (cs.2.1, 900, .inl f3)) :: X) H := hH
              refine W.widen (k := 0) (n := 0) (Nat.le_of_ble_eq_true rfl) (Nat.le_of_ble_eq_true rfl) ?_
              refine tk_i hH hS hA (tr_S (n := 1) (As := [.int v132]) hx hb hml hown hts hkb hH (ox_map hOX rfl) hks hE hS hA (s_M_isDigit2 l D cs kf T (a0 :: y3 :: O) ((a0, .inr (12, o0 :: o1 :: o2 :: (.ref y3) :: (.ref y4) :: o5 :: (.int f8_106) :: (.int f8_106) :: (.int y8) :: (.int y9) :: (.int y10) :: (.int y11) :: (.int y12) :: tl)) :: (y3, .inl (cs.2.1, 900, .inl f3)) :: X) v132  (hO.sub (by decide))) kw_1362 kw_1363 kw_13 kw_1364 (by decide +kernel) ⟨Nat.le_of_ble_eq_true rfl, Nat.le_of_ble_eq_true rfl⟩ rfl rfl hl.1 (Nat.le_of_ble_eq_true rfl) dX12_next_135 ⟨Nat.le_of_ble_eq_true rfl, Nat.le_of_ble_eq_true rfl⟩) (fun v135 u H locs hz9 hH hS => ?_)
              obtain ⟨rfl, l_v135, u_v135, x_v1350, x_v1351⟩ := hz9
              have hH : HT D cs A T (a0 :: y3 :: O) ((a0, .inr (12, o0 :: o1 :: o2 :: (.ref y3) :: (.ref y4) :: o5 :: (.int f8_106) :: (.int f8_106) :: (.int y8) :: (.int y9) :: (.int y10) :: (.int y11) :: (.int y12) :: tl)) :: (y3, .inl (cs.2.1, 900, .inl f3)) :: X) H := hH
              refine W.widen (k := 0) (n := 0) (Nat.le_of_ble_eq_true rfl) (Nat.le_of_ble_eq_true rfl) ?_
              refine lv_if_eq (tgt := 236) hx hb dX12_next_138 (by decide) (fun c138 => ?_) (fun c138 => ?_)
              · skip
                have tc138 := f_eq (k := 0) (by decide) c138
                refine lv_aload_n hx hb dX12_next_236 rfl (lv_at hl 0 rfl) ?_
                refine lv_dup hx hb dX12_next_237 rfl ?_
                refine x_getk (ci := 12) (C := RX12) (F := TX12) (N := 36) (v := .int f8_106) hx hb hts uX12 hown hkb hH 0 rfl rfl 7 (by decide) rfl kw_1230 (fun _ h9 => h9) dX12_next_238 ?_
                refine lv_iconst (v := 1) hx hb dX12_next_241 (by decide) ?_
                refine lv_iadd hx hb dX12_next_242 ?_
                refine lv_topi (fun v242 ev242 => ?_)
                have tv242 : v242.toInt = f8_106.toInt + (1) := by rw [ev242]; exact add_i rfl (by decide : (1 : Int32).toInt = 1) (by omega) (by omega)
                refine x_putk (ci := 12) (v := .int v242) (ty := tyX12 7) (C := RX12) (F := TX12) (N := 36) hx hb hts uX12 tyX12 tyX12_ok nmX12 hown hkb hH hS 0 rfl rfl 7 (by decide) kw_1230 (fun _ h9 => h9) rfl (tyX12_ok 7 (by decide)) rfl rfl (by show 7 < tl.length + 13; omega) dX12_next_243 (fun H locs hH hS => ?_)
                have hH : HT D cs A T (a0 :: y3 :: O) ((a0, .inr (12, o0 :: o1 :: o2 :: (.ref y3) :: (.ref y4) :: o5 :: (.int f8_106) :: (.int v242) :: (.int y8) :: (.int y9) :: (.int y10) :: (.int y11) :: (.int y12) :: tl)) :: (y3, .inl (cs.2.1, 900, .inl f3)) :: X) H := hH
                refine lv_aload_n hx hb dX12_next_246 rfl (lv_at hl 0 rfl) ?_
                refine lv_bipush (v := 23) hx hb dX12_next_247 (by decide) ?_
                refine x_putk (ci := 12) (v := .int 23) (ty := tyX12 9) (C := RX12) (F := TX12) (N := 36) hx hb hts uX12 tyX12 tyX12_ok nmX12 hown hkb hH hS 0 rfl rfl 9 (by decide) kw_1232 (fun _ h9 => h9) rfl (tyX12_ok 9 (by decide)) rfl rfl (by show 9 < tl.length + 13; omega) dX12_next_249 (fun H locs hH hS => ?_)
                have hH : HT D cs A T (a0 :: y3 :: O) ((a0, .inr (12, o0 :: o1 :: o2 :: (.ref y3) :: (.ref y4) :: o5 :: (.int f8_106) :: (.int v242) :: (.int y8) :: (.int 23) :: (.int y10) :: (.int y11) :: (.int y12) :: tl)) :: (y3, .inl (cs.2.1, 900, .inl f3)) :: X) H := hH
                refine lv_iconst (v := 0) hx hb dX12_next_252 (by decide) ?_
                have J254 : ∀ (n : Nat) (p254_1 : Int32) (f254_109 : Int32) (H : Heap) (locs : List Loc) (ls : Array Slot), (12 - p254_1.toInt).toNat = n → (0 ≤ p254_1.toInt) → (p254_1.toInt ≤ 12) → (23 ≤ f254_109.toInt) → (f254_109.toInt ≤ 42) → (f254_109.toInt = (sgl v132.toInt p254_1.toInt.toNat : Nat)) → HT D cs A T (a0 :: y3 :: O) ((a0, .inr (12, o0 :: o1 :: o2 :: (.ref y3) :: (.ref y4) :: o5 :: (.int f8_106) :: (.int v242) :: (.int y8) :: (.int f254_109) :: (.int y10) :: (.int y11) :: (.int y12) :: tl)) :: (y3, .inl (cs.2.1, 900, .inl f3)) :: X) H → va_S A s.heap H locs → lv_has ls 2 [(1, .int p254_1), (0, .ref a0)] → W p l e { frames := 5, cells := 0, slots := 0, locals := 108 } s m [.ref a0].toArray below meth c H locs 0 0 (MQ below (Tv D cs (fun u => ∃ (n0_6 : Int32) (n0_7 : Int32) (n0_9 : Int32) (n0_10 : Int32), u = (T, a0 :: y3 :: O, (a0, .inr (12, o0 :: o1 :: o2 :: (.ref y3) :: (.ref y4) :: o5 :: (.int n0_6) :: (.int n0_7) :: (.int y8) :: (.int n0_9) :: (.int n0_10) :: (.int y11) :: (.int y12) :: tl)) :: (y3, .inl (cs.2.1, 900, .inl f3)) :: X) ∧ (y7.toInt ≤ n0_6.toInt) ∧ (n0_6.toInt ≤ n0_7.toInt) ∧ (n0_7.toInt ≤ y8.toInt) ∧ (TK3 n0_9 n0_6 n0_7) ∧ (0 ≤ n0_10.toInt) ∧ (n0_10.toInt ≤ 999) ∧ (MSS t tn n0_6 n0_7 n0_9 n0_10) ∧ (n0_6.toInt.toNat = nxs t tn y7.toInt.toNat)) A) [.ref a0].toArray s 0 0 A) (F0 m 254 ls []) := by
                  intro n
                  induction n using Nat.strongRecOn with
                  | _ n ih254 =>
                    intro p254_1 f254_109 H locs ls hm254 l_p254_1 u_p254_1 l_f254_109 u_f254_109 i254s hH hS hl
                    have hs0 : slen.getD 0 0 = 12 := by decide
                    refine lv_iload_n hx hb dX12_next_254 rfl (lv_at hl 0 rfl) ?_
                    refine va_ldcS (q := kf.1 0) hx hb hown (hks ("FootholdWallModel", 126, ";:+-*()[]=<>", 0) (by decide +kernel)) dX12_next_255 ?_
                    refine tk_i hH hS hA (tr_V (n := 0) (As := []) hx hb hml hown hts hkb hH (ox_map hOX rfl) hks hE hS hA (s_length l D cs kf T (a0 :: y3 :: O) ((a0, .inr (12, o0 :: o1 :: o2 :: (.ref y3) :: (.ref y4) :: o5 :: (.int f8_106) :: (.int v242) :: (.int y8) :: (.int f254_109) :: (.int y10) :: (.int y11) :: (.int y12) :: tl)) :: (y3, .inl (cs.2.1, 900, .inl f3)) :: X) 0 (by decide) (hO.sub (by decide))) kw_1360 kw_478 kw_479 kw_14 kw_480 (by decide +kernel) ⟨Nat.le_of_ble_eq_true rfl, Nat.le_of_ble_eq_true rfl⟩ (vk_recv hE.1 (by decide) hS) rfl rfl hl.1 (Nat.le_of_ble_eq_true rfl) dX12_next_257 ⟨Nat.le_of_ble_eq_true rfl, Nat.le_of_ble_eq_true rfl⟩) (fun v257 u H locs hz9 hH hS => ?_)
                    obtain ⟨rfl, l_v257, u_v257, x_v2570⟩ := hz9
                    have hH : HT D cs A T (a0 :: y3 :: O) ((a0, .inr (12, o0 :: o1 :: o2 :: (.ref y3) :: (.ref y4) :: o5 :: (.int f8_106) :: (.int v242) :: (.int y8) :: (.int f254_109) :: (.int y10) :: (.int y11) :: (.int y12) :: tl)) :: (y3, .inl (cs.2.1, 900, .inl f3)) :: X) H := hH
                    refine W.widen (k := 0) (n := 0) (Nat.le_of_ble_eq_true rfl) (Nat.le_of_ble_eq_true rfl) ?_
                    refine lv_icmp_ge (tgt := 294) hx hb dX12_next_260 (by decide) (fun c260 => ?_) (fun c260 => ?_)
                    · skip
                      have fuc260 := full_i p254_1
                      have fvc260 := full_i v257
                      have tc260 := g_le c260
                      have ms9 : MSS t tn f8_106 v242 f254_109 y10 ∧ f8_106.toInt.toNat = nxs t tn y7.toInt.toNat := by
                        first | (refine MS_E i47 ?_ ?_ ?_ (by decide) <;> omega) | (refine MS_W htm hn i47 ?_ ?_ x_v800 ?_ ?_ i89s ?_ (rsm_e htm hn x_v940 (by omega)) x_v1180 <;> omega) | (refine MS_D htm hn i47 ?_ ?_ x_v1320 ?_ ?_ i146s (rdg_e htm hn x_v1510 (by omega)) i146v (Or.inl ⟨by decide, by omega⟩) <;> omega) | (refine MS_D htm hn i47 ?_ ?_ x_v1320 ?_ ?_ i146s (rdg_e htm hn x_v1510 (by omega)) i146v (Or.inr ⟨by decide, by omega⟩) <;> omega) | (refine MS_G (z := p254_1) htm hn i47 ?_ ?_ x_v800 ?_ x_v1320 ?_ tv242 i254s ?_ <;> omega)
                      exact te_v hx hb hr hlocks hH hS (⟨f8_106, v242, f254_109, y10, rfl, by omega, by omega, by omega, (fun q => by omega), by omega, by omega, ms9.1, ms9.2⟩) dX12_next_294
                    · skip
                      have fuc260 := full_i p254_1
                      have fvc260 := full_i v257
                      have tc260 := g_nle c260
                      refine lv_aload_n hx hb dX12_next_263 rfl (lv_at hl 1 rfl) ?_
                      refine lv_aload_n hx hb dX12_next_264 rfl (lv_at hl 1 rfl) ?_
                      refine x_getk (ci := 12) (C := RX12) (F := TX12) (N := 36) (v := .int f8_106) hx hb hts uX12 hown hkb hH 0 rfl rfl 6 (by decide) rfl kw_1229 (fun _ h9 => h9) dX12_next_265 ?_
                      refine tk_i hH hS hA (tr_V (n := 1) (As := [.int f8_106]) hx hb hml hown hts hkb hH (ox_map hOX rfl) hks hE hS hA (s_M_see l D cs kf T O X a0 hg mq f8_106 o0 o1 o2 y3 y4 o5 f8_106 v242 y8 f254_109 y10 y11 y12 tl f3 t_a0 b_hg (by omega) t_y3 t_y4 (by omega) (by omega) (by omega) (by omega) (by omega) (by omega) (by omega) (by omega) (hO.sub (by decide))) kw_1348 kw_1350 ks_44 kw_13 kw_1351 (by decide +kernel) ⟨Nat.le_of_ble_eq_true rfl, Nat.le_of_ble_eq_true rfl⟩ (x_recv (ci := 12) hkb hH 0 rfl rfl) rfl rfl hl.1 (Nat.le_of_ble_eq_true rfl) dX12_next_268 ⟨Nat.le_of_ble_eq_true rfl, Nat.le_of_ble_eq_true rfl⟩) (fun v268 u H locs hz9 hH hS => ?_)
                      obtain ⟨rfl, x_v2680, x_v2681⟩ := hz9
                      have hH : HT D cs A T (a0 :: y3 :: O) ((a0, .inr (12, o0 :: o1 :: o2 :: (.ref y3) :: (.ref y4) :: o5 :: (.int f8_106) :: (.int v242) :: (.int y8) :: (.int f254_109) :: (.int y10) :: (.int y11) :: (.int y12) :: tl)) :: (y3, .inl (cs.2.1, 900, .inl f3)) :: X) H := hH
                      refine W.widen (k := 0) (n := 0) (Nat.le_of_ble_eq_true rfl) (Nat.le_of_ble_eq_true rfl) ?_
                      refine va_ldcS (q := kf.1 0) hx hb hown (hks ("FootholdWallModel", 126, ";:+-*()[]=<>", 0) (by decide +kernel)) dX12_next_271 ?_
                      refine lv_iload_n hx hb dX12_next_273 rfl (lv_at hl 0 rfl) ?_
                      refine tk_i hH hS hA (tr_V (n := 1) (As := [.int p254_1]) hx hb hml hown hts hkb hH (ox_map hOX rfl) hks hE hS hA (s_charAt2 l D cs kf T (a0 :: y3 :: O) ((a0, .inr (12, o0 :: o1 :: o2 :: (.ref y3) :: (.ref y4) :: o5 :: (.int f8_106) :: (.int v242) :: (.int y8) :: (.int f254_109) :: (.int y10) :: (.int y11) :: (.int y12) :: tl)) :: (y3, .inl (cs.2.1, 900, .inl f3)) :: X) 0 p254_1 (by decide) (by omega) (by omega) (hO.sub (by decide))) kw_1361 kw_556 kw_557 kw_14 kw_558 (by decide +kernel) ⟨Nat.le_of_ble_eq_true rfl, Nat.le_of_ble_eq_true rfl⟩ (vk_recv hE.1 (by decide) hS) rfl rfl hl.1 (Nat.le_of_ble_eq_true rfl) dX12_next_274 ⟨Nat.le_of_ble_eq_true rfl, Nat.le_of_ble_eq_true rfl⟩) (fun v274 u H locs hz9 hH hS => ?_)
                      obtain ⟨rfl, l_v274, u_v274, x_v2740⟩ := hz9
                      have hH : HT D cs A T (a0 :: y3 :: O) ((a0, .inr (12, o0 :: o1 :: o2 :: (.ref y3) :: (.ref y4) :: o5 :: (.int f8_106) :: (.int v242) :: (.int y8) :: (.int f254_109) :: (.int y10) :: (.int y11) :: (.int y12) :: tl)) :: (y3, .inl (cs.2.1, 900, .inl f3)) :: X) H := hH
                      refine W.widen (k := 0) (n := 0) (Nat.le_of_ble_eq_true rfl) (Nat.le_of_ble_eq_true rfl) ?_
                      refine lv_icmp_ne (tgt := 288) hx hb dX12_next_277 (by decide) (fun c277 => ?_) (fun c277 => ?_)
                      · skip
                        have fuc277 := full_i v268
                        have fvc277 := full_i v274
                        have tc277 := g_ne c277
                        obtain ⟨v288, ev288⟩ : ∃ y : Int32, y = p254_1 + 1 := ⟨_, rfl⟩
                        have tv288 : v288.toInt = p254_1.toInt + (1) := by rw [ev288]; exact add_i rfl (by decide) (by omega) (by omega)
                        refine lv_iinc (v := v288) (lv' := [(1, .int v288), (0, .ref a0)]) hx hb dX12_next_288 hl (k := 0) rfl (by rw [ev288]; rfl) (by decide) rfl (fun ls hl => ?_)
                        refine lv_goto (tgt := 254) hx hb dX12_next_291 (by decide) ?_
                        exact ih254 _ (by omega) v288 f254_109 _ _ _ rfl (by omega) (by omega) (by omega) (by omega) (by first | (refine SGL_0 ?_ ?_ <;> decide) | (refine SGL_s i254s ?_ tv288 ?_ x_v2740 (Or.inl ⟨tc277, ?_⟩); omega; exact see_same x_v2680 x_v1320 rfl; omega) | (refine SGL_s i254s ?_ tv288 ?_ x_v2740 (Or.inr ⟨tc277, rfl⟩); omega; exact see_same x_v2680 x_v1320 rfl)) hH hS (lv_sub hl [0, 1] rfl)
                      · skip
                        have fuc277 := full_i v268
                        have fvc277 := full_i v274
                        have tc277 := g_eq c277
                        refine lv_aload_n hx hb dX12_next_280 rfl (lv_at hl 1 rfl) ?_
                        refine lv_bipush (v := 30) hx hb dX12_next_281 (by decide) ?_
                        refine lv_iload_n hx hb dX12_next_283 rfl (lv_at hl 0 rfl) ?_
                        refine lv_iadd hx hb dX12_next_284 ?_
                        refine lv_topi (fun v284 ev284 => ?_)
                        have tv284 : v284.toInt = (30) + p254_1.toInt := by rw [ev284]; exact add_i (by decide : (30 : Int32).toInt = 30) rfl (by omega) (by omega)
                        refine x_putk (ci := 12) (v := .int v284) (ty := tyX12 9) (C := RX12) (F := TX12) (N := 36) hx hb hts uX12 tyX12 tyX12_ok nmX12 hown hkb hH hS 0 rfl rfl 9 (by decide) kw_1232 (fun _ h9 => h9) rfl (tyX12_ok 9 (by decide)) rfl rfl (by show 9 < tl.length + 13; omega) dX12_next_285 (fun H locs hH hS => ?_)
                        have hH : HT D cs A T (a0 :: y3 :: O) ((a0, .inr (12, o0 :: o1 :: o2 :: (.ref y3) :: (.ref y4) :: o5 :: (.int f8_106) :: (.int v242) :: (.int y8) :: (.int v284) :: (.int y10) :: (.int y11) :: (.int y12) :: tl)) :: (y3, .inl (cs.2.1, 900, .inl f3)) :: X) H := hH
                        obtain ⟨v288, ev288⟩ : ∃ y : Int32, y = p254_1 + 1 := ⟨_, rfl⟩
                        have tv288 : v288.toInt = p254_1.toInt + (1) := by rw [ev288]; exact add_i rfl (by decide) (by omega) (by omega)
                        refine lv_iinc (v := v288) (lv' := [(1, .int v288), (0, .ref a0)]) hx hb dX12_next_288 hl (k := 0) rfl (by rw [ev288]; rfl) (by decide) rfl (fun ls hl => ?_)
                        refine lv_goto (tgt := 254) hx hb dX12_next_291 (by decide) ?_
                        exact ih254 _ (by omega) v288 v284 _ _ _ rfl (by omega) (by omega) (by omega) (by omega) (by first | (refine SGL_0 ?_ ?_ <;> decide) | (refine SGL_s i254s ?_ tv288 ?_ x_v2740 (Or.inl ⟨tc277, ?_⟩); omega; exact see_same x_v2680 x_v1320 rfl; omega) | (refine SGL_s i254s ?_ tv288 ?_ x_v2740 (Or.inr ⟨tc277, rfl⟩); omega; exact see_same x_v2680 x_v1320 rfl)) hH hS (lv_sub hl [0, 1] rfl)
                refine lv_istore_n (lv' := [(1, .int 0), (0, .ref a0)]) hx hb dX12_next_253 rfl hl (by decide) rfl (fun ls hl => ?_)
                have z_0 : (0 : Int32).toInt = 0 := by decide
                have z_23 : (23 : Int32).toInt = 23 := by decide
                exact J254 _ 0 23 _ _ _ rfl (by decide) (by decide) (by decide) (by decide) (by first | (refine SGL_0 ?_ ?_ <;> decide) | (refine SGL_s i254s ?_ tv288 ?_ x_v2740 (Or.inl ⟨tc277, ?_⟩); omega; exact see_same x_v2680 x_v1320 rfl; omega) | (refine SGL_s i254s ?_ tv288 ?_ x_v2740 (Or.inr ⟨tc277, rfl⟩); omega; exact see_same x_v2680 x_v1320 rfl)) hH hS (lv_sub hl [0, 1] rfl)
              · skip
                have tc138 := f_ne (k := 0) (by decide) c138
                refine lv_aload_n hx hb dX12_next_141 rfl (lv_at hl 0 rfl) ?_
                refine lv_iconst (v := 0) hx hb dX12_next_142 (by decide) ?_
                have J146 : ∀ (n : Nat) (f146_107 : Int32) (f146_110 : Int32) (H : Heap) (locs : List Loc) (ls : Array Slot), (900 - f146_107.toInt).toNat = n → (0 ≤ f146_107.toInt) → (f146_107.toInt ≤ 900) → (0 ≤ f146_110.toInt) → (f146_110.toInt ≤ 999) → (v135.toInt ≠ 0) → (f8_106.toInt ≤ f146_107.toInt ∧ f146_107.toInt ≤ y8.toInt) → (((f146_107.toInt - f8_106.toInt) = 0 ∧ f146_110.toInt = 0) ∨ ((f146_107.toInt - f8_106.toInt) = 1 ∧ 0 ≤ f146_110.toInt ∧ f146_110.toInt ≤ 9) ∨ ((f146_107.toInt - f8_106.toInt) = 2 ∧ 0 ≤ f146_110.toInt ∧ f146_110.toInt ≤ 99) ∨ (3 ≤ (f146_107.toInt - f8_106.toInt) ∧ 0 ≤ f146_110.toInt ∧ f146_110.toInt ≤ 999)) → (run (dgt t) tn f146_107.toInt.toNat = run (dgt t) tn f8_106.toInt.toNat) → (NVI t f8_106 f146_107.toInt f146_110) → HT D cs A T (a0 :: y3 :: O) ((a0, .inr (12, o0 :: o1 :: o2 :: (.ref y3) :: (.ref y4) :: o5 :: (.int f8_106) :: (.int f146_107) :: (.int y8) :: (.int y9) :: (.int f146_110) :: (.int y11) :: (.int y12) :: tl)) :: (y3, .inl (cs.2.1, 900, .inl f3)) :: X) H → va_S A s.heap H locs → lv_has ls 2 [(0, .ref a0)] → W p l e { frames := 5, cells := 0, slots := 0, locals := 108 } s m [.ref a0].toArray below meth c H locs 0 0 (MQ below (Tv D cs (fun u => ∃ (n0_6 : Int32) (n0_7 : Int32) (n0_9 : Int32) (n0_10 : Int32), u = (T, a0 :: y3 :: O, (a0, .inr (12, o0 :: o1 :: o2 :: (.ref y3) :: (.ref y4) :: o5 :: (.int n0_6) :: (.int n0_7) :: (.int y8) :: (.int n0_9) :: (.int n0_10) :: (.int y11) :: (.int y12) :: tl)) :: (y3, .inl (cs.2.1, 900, .inl f3)) :: X) ∧ (y7.toInt ≤ n0_6.toInt) ∧ (n0_6.toInt ≤ n0_7.toInt) ∧ (n0_7.toInt ≤ y8.toInt) ∧ (TK3 n0_9 n0_6 n0_7) ∧ (0 ≤ n0_10.toInt) ∧ (n0_10.toInt ≤ 999) ∧ (MSS t tn n0_6 n0_7 n0_9 n0_10) ∧ (n0_6.toInt.toNat = nxs t tn y7.toInt.toNat)) A) [.ref a0].toArray s 0 0 A) (F0 m 146 ls []) := by
                  intro n
                  induction n using Nat.strongRecOn with
                  | _ n ih146 =>
                    intro f146_107 f146_110 H locs ls hm146 l_f146_107 u_f146_107 l_f146_110 u_f146_110 j146 i146 d146 i146s i146v hH hS hl
                    refine lv_aload_n hx hb dX12_next_146 rfl (lv_at hl 0 rfl) ?_
                    refine lv_aload_n hx hb dX12_next_147 rfl (lv_at hl 0 rfl) ?_
                    refine x_getk (ci := 12) (C := RX12) (F := TX12) (N := 36) (v := .int f146_107) hx hb hts uX12 hown hkb hH 0 rfl rfl 7 (by decide) rfl kw_1230 (fun _ h9 => h9) dX12_next_148 ?_
                    refine tk_i hH hS hA (tr_V (n := 1) (As := [.int f146_107]) hx hb hml hown hts hkb hH (ox_map hOX rfl) hks hE hS hA (s_M_see l D cs kf T O X a0 hg mq f146_107 o0 o1 o2 y3 y4 o5 f8_106 f146_107 y8 y9 f146_110 y11 y12 tl f3 t_a0 b_hg (by omega) t_y3 t_y4 (by omega) (by omega) (by omega) (by omega) (by omega) (by omega) (by omega) (by omega) (hO.sub (by decide))) kw_1348 kw_1350 ks_44 kw_13 kw_1351 (by decide +kernel) ⟨Nat.le_of_ble_eq_true rfl, Nat.le_of_ble_eq_true rfl⟩ (x_recv (ci := 12) hkb hH 0 rfl rfl) rfl rfl hl.1 (Nat.le_of_ble_eq_true rfl) dX12_next_151 ⟨Nat.le_of_ble_eq_true rfl, Nat.le_of_ble_eq_true rfl⟩) (fun v151 u H locs hz9 hH hS => ?_)
                    obtain ⟨rfl, x_v1510, x_v1511⟩ := hz9
                    have hH : HT D cs A T (a0 :: y3 :: O) ((a0, .inr (12, o0 :: o1 :: o2 :: (.ref y3) :: (.ref y4) :: o5 :: (.int f8_106) :: (.int f146_107) :: (.int y8) :: (.int y9) :: (.int f146_110) :: (.int y11) :: (.int y12) :: tl)) :: (y3, .inl (cs.2.1, 900, .inl f3)) :: X) H := hH
                    refine W.widen (k := 0) (n := 0) (Nat.le_of_ble_eq_true rfl) (Nat.le_of_ble_eq_true rfl) ?_
                    refine tk_i hH hS hA (tr_S (n := 1) (As := [.int v151]) hx hb hml hown hts hkb hH (ox_map hOX rfl) hks hE hS hA (s_M_isDigit2 l D cs kf T (a0 :: y3 :: O) ((a0, .inr (12, o0 :: o1 :: o2 :: (.ref y3) :: (.ref y4) :: o5 :: (.int f8_106) :: (.int f146_107) :: (.int y8) :: (.int y9) :: (.int f146_110) :: (.int y11) :: (.int y12) :: tl)) :: (y3, .inl (cs.2.1, 900, .inl f3)) :: X) v151  (hO.sub (by decide))) kw_1362 kw_1363 kw_13 kw_1364 (by decide +kernel) ⟨Nat.le_of_ble_eq_true rfl, Nat.le_of_ble_eq_true rfl⟩ rfl rfl hl.1 (Nat.le_of_ble_eq_true rfl) dX12_next_154 ⟨Nat.le_of_ble_eq_true rfl, Nat.le_of_ble_eq_true rfl⟩) (fun v154 u H locs hz9 hH hS => ?_)
                    obtain ⟨rfl, l_v154, u_v154, x_v1540, x_v1541⟩ := hz9
                    have hH : HT D cs A T (a0 :: y3 :: O) ((a0, .inr (12, o0 :: o1 :: o2 :: (.ref y3) :: (.ref y4) :: o5 :: (.int f8_106) :: (.int f146_107) :: (.int y8) :: (.int y9) :: (.int f146_110) :: (.int y11) :: (.int y12) :: tl)) :: (y3, .inl (cs.2.1, 900, .inl f3)) :: X) H := hH
                    refine W.widen (k := 0) (n := 0) (Nat.le_of_ble_eq_true rfl) (Nat.le_of_ble_eq_true rfl) ?_
                    refine lv_if_eq (tgt := 209) hx hb dX12_next_157 (by decide) (fun c157 => ?_) (fun c157 => ?_)
                    · skip
                      have tc157 := f_eq (k := 0) (by decide) c157
                      have hq : f8_106.toInt ≠ f146_107.toInt := fun q => by have := see_same x_v1320 x_v1510 q; omega
                      refine lv_aload_n hx hb dX12_next_209 rfl (lv_at hl 0 rfl) ?_
                      refine lv_aload_n hx hb dX12_next_210 rfl (lv_at hl 0 rfl) ?_
                      refine x_getk (ci := 12) (C := RX12) (F := TX12) (N := 36) (v := .int f146_107) hx hb hts uX12 hown hkb hH 0 rfl rfl 7 (by decide) rfl kw_1230 (fun _ h9 => h9) dX12_next_211 ?_
                      refine lv_aload_n hx hb dX12_next_214 rfl (lv_at hl 0 rfl) ?_
                      refine x_getk (ci := 12) (C := RX12) (F := TX12) (N := 36) (v := .int f8_106) hx hb hts uX12 hown hkb hH 0 rfl rfl 6 (by decide) rfl kw_1229 (fun _ h9 => h9) dX12_next_215 ?_
                      refine lv_isub hx hb dX12_next_218 ?_
                      refine lv_topi (fun v218 ev218 => ?_)
                      have tv218 : v218.toInt = f146_107.toInt - f8_106.toInt := by rw [ev218]; exact sub_i rfl rfl (by omega) (by omega)
                      refine lv_iconst (v := 3) hx hb dX12_next_219 (by decide) ?_
                      refine lv_icmp_le (tgt := 228) hx hb dX12_next_220 (by decide) (fun c220 => ?_) (fun c220 => ?_)
                      · skip
                        have tc220 := f_le (k := 3) (by decide) c220
                        refine lv_bipush (v := 21) hx hb dX12_next_228 (by decide) ?_
                        refine x_putk (ci := 12) (v := .int 21) (ty := tyX12 9) (C := RX12) (F := TX12) (N := 36) hx hb hts uX12 tyX12 tyX12_ok nmX12 hown hkb hH hS 0 rfl rfl 9 (by decide) kw_1232 (fun _ h9 => h9) rfl (tyX12_ok 9 (by decide)) rfl rfl (by show 9 < tl.length + 13; omega) dX12_next_230 (fun H locs hH hS => ?_)
                        have hH : HT D cs A T (a0 :: y3 :: O) ((a0, .inr (12, o0 :: o1 :: o2 :: (.ref y3) :: (.ref y4) :: o5 :: (.int f8_106) :: (.int f146_107) :: (.int y8) :: (.int 21) :: (.int f146_110) :: (.int y11) :: (.int y12) :: tl)) :: (y3, .inl (cs.2.1, 900, .inl f3)) :: X) H := hH
                        refine lv_goto (tgt := 294) hx hb dX12_next_233 (by decide) ?_
                        have ms9 : MSS t tn f8_106 f146_107 (21 : Int32) f146_110 ∧ f8_106.toInt.toNat = nxs t tn y7.toInt.toNat := by
                          first | (refine MS_E i47 ?_ ?_ ?_ (by decide) <;> omega) | (refine MS_W htm hn i47 ?_ ?_ x_v800 ?_ ?_ i89s ?_ (rsm_e htm hn x_v940 (by omega)) x_v1180 <;> omega) | (refine MS_D htm hn i47 ?_ ?_ x_v1320 ?_ ?_ i146s (rdg_e htm hn x_v1510 (by omega)) i146v (Or.inl ⟨by decide, by omega⟩) <;> omega) | (refine MS_D htm hn i47 ?_ ?_ x_v1320 ?_ ?_ i146s (rdg_e htm hn x_v1510 (by omega)) i146v (Or.inr ⟨by decide, by omega⟩) <;> omega) | (refine MS_G (z := p254_1) htm hn i47 ?_ ?_ x_v800 ?_ x_v1320 ?_ tv242 i254s ?_ <;> omega)
                        have z9_21 : (21 : Int32).toInt = 21 := by decide
                        have z9_21 : (21 : Int32).toInt = 21 := by decide
                        exact te_v hx hb hr hlocks hH hS (⟨f8_106, f146_107, (21 : Int32), f146_110, rfl, by omega, by omega, by omega, (fun q => by omega), by omega, by omega, ms9.1, ms9.2⟩) dX12_next_294
                      · skip
                        have tc220 := f_nle (k := 3) (by decide) c220
                        refine lv_bipush (v := 23) hx hb dX12_next_223 (by decide) ?_
                        refine lv_goto (tgt := 230) hx hb dX12_next_225 (by decide) ?_
                        refine x_putk (ci := 12) (v := .int 23) (ty := tyX12 9) (C := RX12) (F := TX12) (N := 36) hx hb hts uX12 tyX12 tyX12_ok nmX12 hown hkb hH hS 0 rfl rfl 9 (by decide) kw_1232 (fun _ h9 => h9) rfl (tyX12_ok 9 (by decide)) rfl rfl (by show 9 < tl.length + 13; omega) dX12_next_230 (fun H locs hH hS => ?_)
                        have hH : HT D cs A T (a0 :: y3 :: O) ((a0, .inr (12, o0 :: o1 :: o2 :: (.ref y3) :: (.ref y4) :: o5 :: (.int f8_106) :: (.int f146_107) :: (.int y8) :: (.int 23) :: (.int f146_110) :: (.int y11) :: (.int y12) :: tl)) :: (y3, .inl (cs.2.1, 900, .inl f3)) :: X) H := hH
                        refine lv_goto (tgt := 294) hx hb dX12_next_233 (by decide) ?_
                        have ms9 : MSS t tn f8_106 f146_107 (23 : Int32) f146_110 ∧ f8_106.toInt.toNat = nxs t tn y7.toInt.toNat := by
                          first | (refine MS_E i47 ?_ ?_ ?_ (by decide) <;> omega) | (refine MS_W htm hn i47 ?_ ?_ x_v800 ?_ ?_ i89s ?_ (rsm_e htm hn x_v940 (by omega)) x_v1180 <;> omega) | (refine MS_D htm hn i47 ?_ ?_ x_v1320 ?_ ?_ i146s (rdg_e htm hn x_v1510 (by omega)) i146v (Or.inl ⟨by decide, by omega⟩) <;> omega) | (refine MS_D htm hn i47 ?_ ?_ x_v1320 ?_ ?_ i146s (rdg_e htm hn x_v1510 (by omega)) i146v (Or.inr ⟨by decide, by omega⟩) <;> omega) | (refine MS_G (z := p254_1) htm hn i47 ?_ ?_ x_v800 ?_ x_v1320 ?_ tv242 i254s ?_ <;> omega)
                        have z9_23 : (23 : Int32).toInt = 23 := by decide
                        have z9_23 : (23 : Int32).toInt = 23 := by decide
                        exact te_v hx hb hr hlocks hH hS (⟨f8_106, f146_107, (23 : Int32), f146_110, rfl, by omega, by omega, by omega, (fun q => by omega), by omega, by omega, ms9.1, ms9.2⟩) dX12_next_294
                    · skip
                      have tc157 := f_ne (k := 0) (by decide) c157
                      refine lv_aload_n hx hb dX12_next_160 rfl (lv_at hl 0 rfl) ?_
                      refine x_getk (ci := 12) (C := RX12) (F := TX12) (N := 36) (v := .int f146_107) hx hb hts uX12 hown hkb hH 0 rfl rfl 7 (by decide) rfl kw_1230 (fun _ h9 => h9) dX12_next_161 ?_
                      refine lv_aload_n hx hb dX12_next_164 rfl (lv_at hl 0 rfl) ?_
                      refine x_getk (ci := 12) (C := RX12) (F := TX12) (N := 36) (v := .int f8_106) hx hb hts uX12 hown hkb hH 0 rfl rfl 6 (by decide) rfl kw_1229 (fun _ h9 => h9) dX12_next_165 ?_
                      refine lv_isub hx hb dX12_next_168 ?_
                      refine lv_topi (fun v168 ev168 => ?_)
                      have tv168 : v168.toInt = f146_107.toInt - f8_106.toInt := by rw [ev168]; exact sub_i rfl rfl (by omega) (by omega)
                      refine lv_iconst (v := 3) hx hb dX12_next_169 (by decide) ?_
                      have J196 : ∀ (f196_110 : Int32) (H : Heap) (locs : List Loc) (ls : Array Slot), (0 ≤ f196_110.toInt) → (f196_110.toInt ≤ 9999) → (((f146_107.toInt + 1 - f8_106.toInt) = 0 ∧ f196_110.toInt = 0) ∨ ((f146_107.toInt + 1 - f8_106.toInt) = 1 ∧ 0 ≤ f196_110.toInt ∧ f196_110.toInt ≤ 9) ∨ ((f146_107.toInt + 1 - f8_106.toInt) = 2 ∧ 0 ≤ f196_110.toInt ∧ f196_110.toInt ≤ 99) ∨ (3 ≤ (f146_107.toInt + 1 - f8_106.toInt) ∧ 0 ≤ f196_110.toInt ∧ f196_110.toInt ≤ 999)) → (NVI t f8_106 (f146_107.toInt + 1) f196_110) → HT D cs A T (a0 :: y3 :: O) ((a0, .inr (12, o0 :: o1 :: o2 :: (.ref y3) :: (.ref y4) :: o5 :: (.int f8_106) :: (.int f146_107) :: (.int y8) :: (.int y9) :: (.int f196_110) :: (.int y11) :: (.int y12) :: tl)) :: (y3, .inl (cs.2.1, 900, .inl f3)) :: X) H → va_S A s.heap H locs → lv_has ls 2 [(0, .ref a0)] → W p l e { frames := 5, cells := 0, slots := 0, locals := 108 } s m [.ref a0].toArray below meth c H locs 0 0 (MQ below (Tv D cs (fun u => ∃ (n0_6 : Int32) (n0_7 : Int32) (n0_9 : Int32) (n0_10 : Int32), u = (T, a0 :: y3 :: O, (a0, .inr (12, o0 :: o1 :: o2 :: (.ref y3) :: (.ref y4) :: o5 :: (.int n0_6) :: (.int n0_7) :: (.int y8) :: (.int n0_9) :: (.int n0_10) :: (.int y11) :: (.int y12) :: tl)) :: (y3, .inl (cs.2.1, 900, .inl f3)) :: X) ∧ (y7.toInt ≤ n0_6.toInt) ∧ (n0_6.toInt ≤ n0_7.toInt) ∧ (n0_7.toInt ≤ y8.toInt) ∧ (TK3 n0_9 n0_6 n0_7) ∧ (0 ≤ n0_10.toInt) ∧ (n0_10.toInt ≤ 999) ∧ (MSS t tn n0_6 n0_7 n0_9 n0_10) ∧ (n0_6.toInt.toNat = nxs t tn y7.toInt.toNat)) A) [.ref a0].toArray s 0 0 A) (F0 m 196 ls []) := by
                        intro f196_110 H locs ls l_f196_110 u_f196_110 d196 i196v hH hS hl
                        refine lv_aload_n hx hb dX12_next_196 rfl (lv_at hl 0 rfl) ?_
                        refine lv_dup hx hb dX12_next_197 rfl ?_
                        refine x_getk (ci := 12) (C := RX12) (F := TX12) (N := 36) (v := .int f146_107) hx hb hts uX12 hown hkb hH 0 rfl rfl 7 (by decide) rfl kw_1230 (fun _ h9 => h9) dX12_next_198 ?_
                        refine lv_iconst (v := 1) hx hb dX12_next_201 (by decide) ?_
                        refine lv_iadd hx hb dX12_next_202 ?_
                        refine lv_topi (fun v202 ev202 => ?_)
                        have tv202 : v202.toInt = f146_107.toInt + (1) := by rw [ev202]; exact add_i rfl (by decide : (1 : Int32).toInt = 1) (by omega) (by omega)
                        refine x_putk (ci := 12) (v := .int v202) (ty := tyX12 7) (C := RX12) (F := TX12) (N := 36) hx hb hts uX12 tyX12 tyX12_ok nmX12 hown hkb hH hS 0 rfl rfl 7 (by decide) kw_1230 (fun _ h9 => h9) rfl (tyX12_ok 7 (by decide)) rfl rfl (by show 7 < tl.length + 13; omega) dX12_next_203 (fun H locs hH hS => ?_)
                        have hH : HT D cs A T (a0 :: y3 :: O) ((a0, .inr (12, o0 :: o1 :: o2 :: (.ref y3) :: (.ref y4) :: o5 :: (.int f8_106) :: (.int v202) :: (.int y8) :: (.int y9) :: (.int f196_110) :: (.int y11) :: (.int y12) :: tl)) :: (y3, .inl (cs.2.1, 900, .inl f3)) :: X) H := hH
                        refine lv_goto (tgt := 146) hx hb dX12_next_206 (by decide) ?_
                        exact ih146 _ (by omega) v202 f196_110 _ _ _ rfl (by omega) (by omega) (by omega) (by omega) (by omega) (by omega) (by omega) (by first | rfl | (refine rdg_s htm hn i146s x_v1510 ?_ ?_ ?_ tv202 <;> omega)) (by first | (refine NVI_0 ?_; decide) | (rw [tv202]; exact i196v)) hH hS (lv_sub hl [0] rfl)
                      refine lv_icmp_ge (tgt := 196) hx hb dX12_next_170 (by decide) (fun c170 => ?_) (fun c170 => ?_)
                      · skip
                        have tc170 := f_ge (k := 3) (by decide) c170
                        exact J196 f146_110 _ _ _ (by omega) (by omega) (by omega) (by first | (refine NVI_s htm hn i146v ?_ x_v1860 ?_ ?_ ?_ ?_ <;> omega) | (refine NVI_b i146v ?_; omega)) hH hS (lv_sub hl [0] rfl)
                      · skip
                        have tc170 := f_nge (k := 3) (by decide) c170
                        refine lv_aload_n hx hb dX12_next_173 rfl (lv_at hl 0 rfl) ?_
                        refine lv_bipush (v := 10) hx hb dX12_next_174 (by decide) ?_
                        refine lv_aload_n hx hb dX12_next_176 rfl (lv_at hl 0 rfl) ?_
                        refine x_getk (ci := 12) (C := RX12) (F := TX12) (N := 36) (v := .int f146_110) hx hb hts uX12 hown hkb hH 0 rfl rfl 10 (by decide) rfl kw_1233 (fun _ h9 => h9) dX12_next_177 ?_
                        refine lv_imul hx hb dX12_next_180 ?_
                        refine lv_topi (fun v180 ev180 => ?_)
                        have tv180 : v180.toInt = (10) * f146_110.toInt := by rw [ev180]; exact mul_i (by decide : (10 : Int32).toInt = 10) rfl (by omega) (by omega)
                        refine lv_aload_n hx hb dX12_next_181 rfl (lv_at hl 0 rfl) ?_
                        refine lv_aload_n hx hb dX12_next_182 rfl (lv_at hl 0 rfl) ?_
                        refine x_getk (ci := 12) (C := RX12) (F := TX12) (N := 36) (v := .int f146_107) hx hb hts uX12 hown hkb hH 0 rfl rfl 7 (by decide) rfl kw_1230 (fun _ h9 => h9) dX12_next_183 ?_
                        refine tk_i hH hS hA (tr_V (n := 1) (As := [.int f146_107]) hx hb hml hown hts hkb hH (ox_map hOX rfl) hks hE hS hA (s_M_see l D cs kf T O X a0 hg mq f146_107 o0 o1 o2 y3 y4 o5 f8_106 f146_107 y8 y9 f146_110 y11 y12 tl f3 t_a0 b_hg (by omega) t_y3 t_y4 (by omega) (by omega) (by omega) (by omega) (by omega) (by omega) (by omega) (by omega) (hO.sub (by decide))) kw_1348 kw_1350 ks_44 kw_13 kw_1351 (by decide +kernel) ⟨Nat.le_of_ble_eq_true rfl, Nat.le_of_ble_eq_true rfl⟩ (x_recv (ci := 12) hkb hH 0 rfl rfl) rfl rfl hl.1 (Nat.le_of_ble_eq_true rfl) dX12_next_186 ⟨Nat.le_of_ble_eq_true rfl, Nat.le_of_ble_eq_true rfl⟩) (fun v186 u H locs hz9 hH hS => ?_)
                        obtain ⟨rfl, x_v1860, x_v1861⟩ := hz9
                        have hH : HT D cs A T (a0 :: y3 :: O) ((a0, .inr (12, o0 :: o1 :: o2 :: (.ref y3) :: (.ref y4) :: o5 :: (.int f8_106) :: (.int f146_107) :: (.int y8) :: (.int y9) :: (.int f146_110) :: (.int y11) :: (.int y12) :: tl)) :: (y3, .inl (cs.2.1, 900, .inl f3)) :: X) H := hH
                        refine W.widen (k := 0) (n := 0) (Nat.le_of_ble_eq_true rfl) (Nat.le_of_ble_eq_true rfl) ?_
                        have hs9 := see_same x_v1860 x_v1510 rfl
                        have bs9 : 48 ≤ v186.toInt ∧ v186.toInt ≤ 57 := by omega
                        refine lv_iadd hx hb dX12_next_189 ?_
                        refine lv_topi (fun v189 ev189 => ?_)
                        have tv189 : v189.toInt = v180.toInt + v186.toInt := by rw [ev189]; exact add_i rfl rfl (by omega) (by omega)
                        refine lv_bipush (v := 48) hx hb dX12_next_190 (by decide) ?_
                        refine lv_isub hx hb dX12_next_192 ?_
                        refine lv_topi (fun v192 ev192 => ?_)
                        have tv192 : v192.toInt = v189.toInt - (48) := by rw [ev192]; exact sub_i rfl (by decide : (48 : Int32).toInt = 48) (by omega) (by omega)
                        refine x_putk (ci := 12) (v := .int v192) (ty := tyX12 10) (C := RX12) (F := TX12) (N := 36) hx hb hts uX12 tyX12 tyX12_ok nmX12 hown hkb hH hS 0 rfl rfl 10 (by decide) kw_1233 (fun _ h9 => h9) rfl (tyX12_ok 10 (by decide)) rfl rfl (by show 10 < tl.length + 13; omega) dX12_next_193 (fun H locs hH hS => ?_)
                        have hH : HT D cs A T (a0 :: y3 :: O) ((a0, .inr (12, o0 :: o1 :: o2 :: (.ref y3) :: (.ref y4) :: o5 :: (.int f8_106) :: (.int f146_107) :: (.int y8) :: (.int y9) :: (.int v192) :: (.int y11) :: (.int y12) :: tl)) :: (y3, .inl (cs.2.1, 900, .inl f3)) :: X) H := hH
                        exact J196 v192 _ _ _ (by omega) (by omega) (by omega) (by first | (refine NVI_s htm hn i146v ?_ x_v1860 ?_ ?_ ?_ ?_ <;> omega) | (refine NVI_b i146v ?_; omega)) hH hS (lv_sub hl [0] rfl)
                refine x_putk (ci := 12) (v := .int 0) (ty := tyX12 10) (C := RX12) (F := TX12) (N := 36) hx hb hts uX12 tyX12 tyX12_ok nmX12 hown hkb hH hS 0 rfl rfl 10 (by decide) kw_1233 (fun _ h9 => h9) rfl (tyX12_ok 10 (by decide)) rfl rfl (by show 10 < tl.length + 13; omega) dX12_next_143 (fun H locs hH hS => ?_)
                have hH : HT D cs A T (a0 :: y3 :: O) ((a0, .inr (12, o0 :: o1 :: o2 :: (.ref y3) :: (.ref y4) :: o5 :: (.int f8_106) :: (.int f8_106) :: (.int y8) :: (.int y9) :: (.int 0) :: (.int y11) :: (.int y12) :: tl)) :: (y3, .inl (cs.2.1, 900, .inl f3)) :: X) H := hH
                have z_0 : (0 : Int32).toInt = 0 := by decide
                exact J146 _ f8_106 0 _ _ _ rfl (by omega) (by omega) (by decide) (by decide) (by omega) (by omega) (by omega) (by first | rfl | (refine rdg_s htm hn i146s x_v1510 ?_ ?_ ?_ tv202 <;> omega)) (by first | (refine NVI_0 ?_; decide) | (rw [tv202]; exact i196v)) hH hS (lv_sub hl [0] rfl)
            · skip
              have tc86 := f_ne (k := 0) (by decide) c86
              exact J89 _ f8_106 _ _ _ rfl (by omega) (by omega) (by omega) (by omega) (by first | rfl | (refine rsm_s htm hn i89s x_v940 ?_ ?_ ?_ tv109 <;> omega)) hH hS (lv_sub hl [0] rfl)
          · skip
            have fuc63 := full_i f8_106
            have fvc63 := full_i y8
            have tc63 := g_nlt c63
            refine lv_aload_n hx hb dX12_next_66 rfl (lv_at hl 0 rfl) ?_
            refine lv_bipush (v := 22) hx hb dX12_next_67 (by decide) ?_
            refine x_putk (ci := 12) (v := .int 22) (ty := tyX12 9) (C := RX12) (F := TX12) (N := 36) hx hb hts uX12 tyX12 tyX12_ok nmX12 hown hkb hH hS 0 rfl rfl 9 (by decide) kw_1232 (fun _ h9 => h9) rfl (tyX12_ok 9 (by decide)) rfl rfl (by show 9 < tl.length + 13; omega) dX12_next_69 (fun H locs hH hS => ?_)
            have hH : HT D cs A T (a0 :: y3 :: O) ((a0, .inr (12, o0 :: o1 :: o2 :: (.ref y3) :: (.ref y4) :: o5 :: (.int f8_106) :: (.int f8_106) :: (.int y8) :: (.int 22) :: (.int y10) :: (.int y11) :: (.int y12) :: tl)) :: (y3, .inl (cs.2.1, 900, .inl f3)) :: X) H := hH
            refine lv_goto (tgt := 294) hx hb dX12_next_72 (by decide) ?_
            have ms9 : MSS t tn f8_106 f8_106 (22 : Int32) y10 ∧ f8_106.toInt.toNat = nxs t tn y7.toInt.toNat := by
              first | (refine MS_E i47 ?_ ?_ ?_ (by decide) <;> omega) | (refine MS_W htm hn i47 ?_ ?_ x_v800 ?_ ?_ i89s ?_ (rsm_e htm hn x_v940 (by omega)) x_v1180 <;> omega) | (refine MS_D htm hn i47 ?_ ?_ x_v1320 ?_ ?_ i146s (rdg_e htm hn x_v1510 (by omega)) i146v (Or.inl ⟨by decide, by omega⟩) <;> omega) | (refine MS_D htm hn i47 ?_ ?_ x_v1320 ?_ ?_ i146s (rdg_e htm hn x_v1510 (by omega)) i146v (Or.inr ⟨by decide, by omega⟩) <;> omega) | (refine MS_G (z := p254_1) htm hn i47 ?_ ?_ x_v800 ?_ x_v1320 ?_ tv242 i254s ?_ <;> omega)
            have z9_22 : (22 : Int32).toInt = 22 := by decide
            have z9_22 : (22 : Int32).toInt = 22 := by decide
            exact te_v hx hb hr hlocks hH hS (⟨f8_106, f8_106, (22 : Int32), y10, rfl, by omega, by omega, by omega, (fun q => by omega), by omega, by omega, ms9.1, ms9.2⟩) dX12_next_294
        · skip
          have tc31 := f_eq (k := 32) (by decide) c31
          refine lv_aload_n hx hb dX12_next_34 rfl (lv_at hl 0 rfl) ?_
          refine lv_dup hx hb dX12_next_35 rfl ?_
          refine x_getk (ci := 12) (C := RX12) (F := TX12) (N := 36) (v := .int f8_106) hx hb hts uX12 hown hkb hH 0 rfl rfl 6 (by decide) rfl kw_1229 (fun _ h9 => h9) dX12_next_36 ?_
          refine lv_iconst (v := 1) hx hb dX12_next_39 (by decide) ?_
          refine lv_iadd hx hb dX12_next_40 ?_
          refine lv_topi (fun v40 ev40 => ?_)
          have tv40 : v40.toInt = f8_106.toInt + (1) := by rw [ev40]; exact add_i rfl (by decide : (1 : Int32).toInt = 1) (by omega) (by omega)
          refine x_putk (ci := 12) (v := .int v40) (ty := tyX12 6) (C := RX12) (F := TX12) (N := 36) hx hb hts uX12 tyX12 tyX12_ok nmX12 hown hkb hH hS 0 rfl rfl 6 (by decide) kw_1229 (fun _ h9 => h9) rfl (tyX12_ok 6 (by decide)) rfl rfl (by show 6 < tl.length + 13; omega) dX12_next_41 (fun H locs hH hS => ?_)
          have hH : HT D cs A T (a0 :: y3 :: O) ((a0, .inr (12, o0 :: o1 :: o2 :: (.ref y3) :: (.ref y4) :: o5 :: (.int v40) :: (.int y7) :: (.int y8) :: (.int y9) :: (.int y10) :: (.int y11) :: (.int y12) :: tl)) :: (y3, .inl (cs.2.1, 900, .inl f3)) :: X) H := hH
          refine lv_goto (tgt := 8) hx hb dX12_next_44 (by decide) ?_
          exact ih8 _ (by omega) v40 _ _ _ rfl (by omega) (by omega) (by omega) (by first | rfl | (refine (rbl_s htm hn x_v130 ?_ ?_ tv40).trans i8s <;> omega) | (refine (rbl_s htm hn x_v260 ?_ ?_ tv40).trans i8s <;> omega)) hH hS (lv_sub hl [0] rfl)
  refine x_putk (ci := 12) (v := .int y7) (ty := tyX12 6) (C := RX12) (F := TX12) (N := 36) hx hb hts uX12 tyX12 tyX12_ok nmX12 hown hkb hH hS 0 rfl rfl 6 (by decide) kw_1229 (fun _ h9 => h9) rfl (tyX12_ok 6 (by decide)) rfl rfl (by show 6 < tl.length + 13; omega) dX12_next_5 (fun H locs hH hS => ?_)
  have hH : HT D cs A T (a0 :: y3 :: O) ((a0, .inr (12, o0 :: o1 :: o2 :: (.ref y3) :: (.ref y4) :: o5 :: (.int y7) :: (.int y7) :: (.int y8) :: (.int y9) :: (.int y10) :: (.int y11) :: (.int y12) :: tl)) :: (y3, .inl (cs.2.1, 900, .inl f3)) :: X) H := hH
  exact J8 _ y7 _ _ _ rfl (by omega) (by omega) (by omega) (by first | rfl | (refine (rbl_s htm hn x_v130 ?_ ?_ tv40).trans i8s <;> omega) | (refine (rbl_s htm hn x_v260 ?_ ?_ tv40).trans i8s <;> omega)) hH hS (lv_sub hl [0] rfl)
/-! what the reference's wall and feed leave -/
theorem nm_t {a b : Nat} {O : List Nat} (h : a ∉ b :: O) : a ∉ O := fun z => h (List.mem_cons_of_mem _ z)
section RWall
variable {t : Tp} {n : Nat} {F' : List (Nat × Nat)} {R' : Rg} {g : Nat → Int32} {w0 p0 a0 w p a b k v : Int32}
theorem RGR_WB (h : RGR t n [(30, 0)] F' (RZ 0 0 0 0 0) R' w0 p0 a0 w p a b k v) (hw0 : w0.toInt = 0) (hw : w.toInt ≠ 0) (ha : a0.toInt.toNat = nxs t n 0) : WB t n w p := by
  rcases h with h | h | h
  · exact absurd hw0 h.1
  · exact absurd h.2.1 hw
  · exact WB_of h.2 ha
theorem RGR_WO (h : RGR t n [(30, 0)] [(30, 0)] (RZ 0 0 0 0 0) (FR5 g) w0 p0 a0 w p a b k v) (hw0 : w0.toInt = 0) (hw : w.toInt = 0) (hk : k.toInt = 22) (ha : a0.toInt.toNat = nxs t n 0) : WO t n (g 0) := by
  rcases h with h | h | h
  · exact absurd hw0 h.1
  · have q := h.2.2.1.2.2.2.1
    exact WO_of (h.2.2.2.tr (show GR t n [(30, 0)] [] (FR5 g) (FR5 g) a a from fun _ => st_lE (by omega))) ha
  · exact absurd hw h.2.1
theorem RGR.lL (h : RGR t n [(30, 0)] [(30, 0)] (RZ 0 0 0 0 0) R' w0 p0 a0 w p a b k v) (hk : k.toInt ≠ 22) : RGR t n [(30, 0)] [(31, 0), (20, 30), (32, 0)] (RZ 0 0 0 0 0) R' w0 p0 a0 w p a b k v := by
  refine h.seq (RGR_id (fun q9 => ⟨h.msw q9, ?_⟩))
  have q := (h.msw q9).2.2.2.1
  exact (show GR t n [(30, 0)] [(31, 0), (20, 30), (32, 0)] R' R' a a from fun _ => st_lL (by omega))
theorem RF_L {f g : Nat → Int32} {y z : Int32} (e : g = upd f 0 z) (ey : y = f 0) (hz : z.toInt = y.toInt + 1) (h0 : 0 ≤ y.toInt) : GR t n [(32, 0)] [(30, 0)] (FR5 f) (FR5 g) a a := by
  rw [FR5_0 e]
  exact GR_lC (by rw [← ey]; exact h0) (by rw [← ey]; exact hz)
end RWall
/-- what wall() leaves of the reference's number and what it answers -/
def WFM (t : Tp) (q q2 : Nat) (x r : Int) : Prop := (¬ (0 ≤ x ∧ x ≤ ((q % 1024 : Nat) : Int)) ∧ q2 = q ∧ r = -3) ∨ (0 ≤ x ∧ x ≤ ((q % 1024 : Nat) : Int) ∧ q2 % 1024 = 0 ∧ ∃ fa pl : Int32, fa.toInt = ((q2 / 1024 % 8 : Nat) : Int) ∧ pl.toInt = ((q2 / 8192 : Nat) : Int) - 1 ∧ ((fa.toInt = 0 ∧ pl.toInt = -1 ∧ ∃ l : Int32, WO t x.toNat l ∧ r = l.toInt ∧ 0 ≤ l.toInt) ∨ (WB t x.toNat fa pl ∧ r = -30 - fa.toInt)))
def qZ (fa pl : Int32) : Nat := 1024 * (fa.toInt.toNat + 8 * (pl.toInt + 1).toNat)
theorem qZ_m (fa pl : Int32) : qZ fa pl % 1024 = 0 := by unfold qZ; omega
theorem qZ_f {fa pl : Int32} (h : 0 ≤ fa.toInt ∧ fa.toInt ≤ 4) : fa.toInt = ((qZ fa pl / 1024 % 8 : Nat) : Int) := by unfold qZ; omega
theorem qZ_p {fa pl : Int32} (h : 0 ≤ fa.toInt ∧ fa.toInt ≤ 4) (hp : -1 ≤ pl.toInt) : pl.toInt = ((qZ fa pl / 8192 : Nat) : Int) - 1 := by unfold qZ; omega
theorem WFM_o {t : Tp} {q : Nat} {x r : Int} (h : ¬ (0 ≤ x ∧ x ≤ ((q % 1024 : Nat) : Int))) (hr : r = -3) : WFM t q q x r := Or.inl ⟨h, rfl, hr⟩
theorem WFM_b {t : Tp} {q n : Nat} {x r : Int} {fa pl : Int32} (h : 0 ≤ x ∧ x ≤ ((q % 1024 : Nat) : Int)) (hn : x = (n : Int)) (hw : WB t n fa pl) (hr : r = -30 - fa.toInt) : WFM t q (qZ fa pl) x r := by
  have hb := hw.b
  have hp := hw.2.1
  refine Or.inr ⟨h.1, h.2, qZ_m fa pl, fa, pl, qZ_f hb, qZ_p hb (by omega), Or.inr ⟨?_, hr⟩⟩
  rw [show x.toNat = n by omega]
  exact hw
theorem WFM_g {t : Tp} {q n : Nat} {x r : Int} {l : Int32} (h : 0 ≤ x ∧ x ≤ ((q % 1024 : Nat) : Int)) (hn : x = (n : Int)) (hw : WO t n l) (hr : r = l.toInt) (hl : 0 ≤ l.toInt) : WFM t q 0 x r := by
  refine Or.inr ⟨h.1, h.2, by decide, 0, -1, by decide, by decide, Or.inl ⟨by decide, by decide, l, ?_, hr, hl⟩⟩
  rw [show x.toNat = n by omega]
  exact hw
/-! feed -/
def XS (a b c d e : Int32) (m : Nat) : Int32 := if m = 0 then a else if m = 1 then b else if m = 2 then c else if m = 3 then d else e
def RFI (f g : Nat → Int32) (L : Nat) (a b c d e : Int32) (k : Nat) : Prop := ∀ j, g j = if L ≤ j ∧ j < L + k then (XS a b c d e ((j - L) / 4) >>> (nI (24 - 8 * ((j - L) % 4)) &&& 31)) &&& 255 else f j
theorem RFI_0 {f : Nat → Int32} {L k : Nat} {a b c d e : Int32} (h : k = 0) : RFI f f L a b c d e k := fun j => by rw [if_neg (by omega)]
theorem RFI_s {f g F : Nat → Int32} {L k k2 i : Nat} {a b c d e x s u v : Int32} (h : RFI f g L a b c d e k) (hi : i = L + k) (hk2 : k2 = k + 1) (hs : s.toInt = 24 - 8 * ((k % 4 : Nat) : Int)) (hx : x = XS a b c d e (k / 4)) (eu : u = x >>> (s &&& 31)) (ev : v = u &&& 255) (e9 : F = upd g i v) : RFI f F L a b c d e k2 := fun j => by
  have es : s = nI (24 - 8 * (k % 4)) := by
    have := is_nI (x := s) (by omega)
    rw [this, show s.toInt.toNat = 24 - 8 * (k % 4) by omega]
  rw [e9]
  by_cases q : j = i
  · rw [q, upd_eq, if_pos (by omega), ev, eu, es, hx, show i - L = k by omega]
  · rw [upd_ne q, h j]
    by_cases q2 : L ≤ j ∧ j < L + k
    · rw [if_pos q2, if_pos (by omega)]
    · rw [if_neg q2, if_neg (by omega)]
theorem and255 (y : Int32) : (y &&& 255).toInt = y.toInt % 256 := by
  have e1 : (y &&& 255).toBitVec.toNat = y.toBitVec.toNat % 256 := by
    show (y.toBitVec &&& (255 : Int32).toBitVec).toNat = _
    rw [BitVec.toNat_and]
    exact Nat.and_two_pow_sub_one_eq_mod y.toBitVec.toNat 8
  have h1 : (y &&& 255).toInt = (y &&& 255).toBitVec.toInt := rfl
  have h2 : y.toInt = y.toBitVec.toInt := rfl
  rw [h1, h2, BitVec.toInt_eq_toNat_cond, BitVec.toInt_eq_toNat_cond, e1]
  have := y.toBitVec.isLt
  rw [if_pos (by omega)]
  split <;> omega
theorem bmod_u (y : Int) : (if y.bmod 256 < 0 then y.bmod 256 + 256 else y.bmod 256) = y % 256 := by
  unfold Int.bmod
  dsimp only
  split <;> split <;> omega
theorem bmod_r (y : Int) : -128 ≤ y.bmod 256 ∧ y.bmod 256 ≤ 127 := by
  unfold Int.bmod
  dsimp only
  split <;> omega
theorem fd5_i {t : Tp} {L j : Nat} {a b c d e : Int32} (h1 : L ≤ j) (h2 : j < L + 20) : fd5 t L a b c d e j = bv (XS a b c d e ((j - L) / 4)) ((j - L) % 4) := by
  unfold fd5 fd4 XS
  by_cases q4 : L + 16 ≤ j
  · rw [if_pos ⟨q4, by omega⟩, show (j - L) / 4 = 4 by omega, if_neg (by decide), if_neg (by decide), if_neg (by decide), if_neg (by decide), show j - (L + 16) = (j - L) % 4 by omega]
  · rw [if_neg (fun q => q4 q.1)]
    by_cases q3 : L + 12 ≤ j
    · rw [if_pos ⟨q3, by omega⟩, show (j - L) / 4 = 3 by omega, if_neg (by decide), if_neg (by decide), if_neg (by decide), if_pos rfl, show j - (L + 12) = (j - L) % 4 by omega]
    · rw [if_neg (fun q => q3 q.1)]
      by_cases q2 : L + 8 ≤ j
      · rw [if_pos ⟨q2, by omega⟩, show (j - L) / 4 = 2 by omega, if_neg (by decide), if_neg (by decide), if_pos rfl, show j - (L + 8) = (j - L) % 4 by omega]
      · rw [if_neg (fun q => q2 q.1)]
        by_cases q1 : L + 4 ≤ j
        · rw [if_pos ⟨q1, by omega⟩, show (j - L) / 4 = 1 by omega, if_neg (by decide), if_pos rfl, show j - (L + 4) = (j - L) % 4 by omega]
        · rw [if_neg (fun q => q1 q.1), if_pos ⟨h1, by omega⟩, show (j - L) / 4 = 0 by omega, if_pos rfl, show j - L = (j - L) % 4 by omega]
          rw [show (j - L) % 4 % 4 = (j - L) % 4 by omega]
theorem fd5_o {t : Tp} {L j : Nat} {a b c d e : Int32} (h : ¬ (L ≤ j ∧ j < L + 20)) : fd5 t L a b c d e j = t j := by
  unfold fd5 fd4
  rw [if_neg (by omega), if_neg (by omega), if_neg (by omega), if_neg (by omega), if_neg (by omega)]
theorem RFI_e {f g : Nat → Int32} {t : Tp} {L k : Nat} {a b c d e : Int32} (h : RFI f g L a b c d e k) (hk : k = 20) (ht : TM f t) : TM g (fd5 t L a b c d e) := fun j => by
  subst hk
  rw [h j]
  by_cases q : L ≤ j ∧ j < L + 20
  · rw [if_pos q, fd5_i q.1 q.2]
    have e9 : (XS a b c d e ((j - L) / 4) >>> (nI (24 - 8 * ((j - L) % 4)) &&& 31)).toInt = (XS a b c d e ((j - L) / 4)).toInt / 2 ^ (24 - 8 * ((j - L) % 4)) := shr_c (24 - 8 * ((j - L) % 4)) (n31_tab _ (by omega)) (by omega)
    have hr := bmod_r ((XS a b c d e ((j - L) / 4)).toInt / 2 ^ (24 - 8 * ((j - L) % 4)))
    refine ⟨hr.1, hr.2, ?_⟩
    rw [and255, e9]
    exact (bmod_u _).symm
  · rw [if_neg q, fd5_o q]
    exact ht j
theorem dX12_wall_0 : decode cX12_wall 0 = .ok (.aload_n 0, 1) := by decide +kernel
theorem dX12_wall_1 : decode cX12_wall 1 = .ok (.iconst 0, 1) := by decide +kernel
theorem dX12_wall_2 : decode cX12_wall 2 = .ok (.putfield 1, 3) := by decide +kernel
theorem dX12_wall_5 : decode cX12_wall 5 = .ok (.iload_n 1, 1) := by decide +kernel
theorem dX12_wall_6 : decode cX12_wall 6 = .ok (.i2l, 1) := by decide +kernel
theorem dX12_wall_7 : decode cX12_wall 7 = .ok (.lconst 0, 1) := by decide +kernel
theorem dX12_wall_8 : decode cX12_wall 8 = .ok (.aload_n 0, 1) := by decide +kernel
theorem dX12_wall_9 : decode cX12_wall 9 = .ok (.getfield 82, 3) := by decide +kernel
theorem dX12_wall_12 : decode cX12_wall 12 = .ok (.i2l, 1) := by decide +kernel
theorem dX12_wall_13 : decode cX12_wall 13 = .ok (.invokestatic 144, 3) := by decide +kernel
theorem dX12_wall_16 : decode cX12_wall 16 = .ok (.ifCond .ne 6, 3) := by decide +kernel
theorem dX12_wall_19 : decode cX12_wall 19 = .ok (.bipush (-3), 2) := by decide +kernel
theorem dX12_wall_21 : decode cX12_wall 21 = .ok (.ireturn, 1) := by decide +kernel
theorem dX12_wall_22 : decode cX12_wall 22 = .ok (.aload_n 0, 1) := by decide +kernel
theorem dX12_wall_23 : decode cX12_wall 23 = .ok (.iload_n 1, 1) := by decide +kernel
theorem dX12_wall_24 : decode cX12_wall 24 = .ok (.putfield 85, 3) := by decide +kernel
theorem dX12_wall_27 : decode cX12_wall 27 = .ok (.aload_n 0, 1) := by decide +kernel
theorem dX12_wall_28 : decode cX12_wall 28 = .ok (.iconst 0, 1) := by decide +kernel
theorem dX12_wall_29 : decode cX12_wall 29 = .ok (.putfield 82, 3) := by decide +kernel
theorem dX12_wall_32 : decode cX12_wall 32 = .ok (.aload_n 0, 1) := by decide +kernel
theorem dX12_wall_33 : decode cX12_wall 33 = .ok (.iconst 0, 1) := by decide +kernel
theorem dX12_wall_34 : decode cX12_wall 34 = .ok (.putfield 103, 3) := by decide +kernel
theorem dX12_wall_37 : decode cX12_wall 37 = .ok (.aload_n 0, 1) := by decide +kernel
theorem dX12_wall_38 : decode cX12_wall 38 = .ok (.iconst 0, 1) := by decide +kernel
theorem dX12_wall_39 : decode cX12_wall 39 = .ok (.putfield 128, 3) := by decide +kernel
theorem dX12_wall_42 : decode cX12_wall 42 = .ok (.aload_n 0, 1) := by decide +kernel
theorem dX12_wall_43 : decode cX12_wall 43 = .ok (.getfield 24, 3) := by decide +kernel
theorem dX12_wall_46 : decode cX12_wall 46 = .ok (.invokestatic 78, 3) := by decide +kernel
theorem dX12_wall_49 : decode cX12_wall 49 = .ok (.aload_n 0, 1) := by decide +kernel
theorem dX12_wall_50 : decode cX12_wall 50 = .ok (.invokevirtual 137, 3) := by decide +kernel
theorem dX12_wall_53 : decode cX12_wall 53 = .ok (.aload_n 0, 1) := by decide +kernel
theorem dX12_wall_54 : decode cX12_wall 54 = .ok (.getfield 128, 3) := by decide +kernel
theorem dX12_wall_57 : decode cX12_wall 57 = .ok (.ifCond .ne 43, 3) := by decide +kernel
theorem dX12_wall_60 : decode cX12_wall 60 = .ok (.aload_n 0, 1) := by decide +kernel
theorem dX12_wall_61 : decode cX12_wall 61 = .ok (.getfield 110, 3) := by decide +kernel
theorem dX12_wall_64 : decode cX12_wall 64 = .ok (.bipush 22, 2) := by decide +kernel
theorem dX12_wall_66 : decode cX12_wall 66 = .ok (.if_icmp .eq 34, 3) := by decide +kernel
theorem dX12_wall_69 : decode cX12_wall 69 = .ok (.aload_n 0, 1) := by decide +kernel
theorem dX12_wall_70 : decode cX12_wall 70 = .ok (.invokevirtual 206, 3) := by decide +kernel
theorem dX12_wall_73 : decode cX12_wall 73 = .ok (.aload_n 0, 1) := by decide +kernel
theorem dX12_wall_74 : decode cX12_wall 74 = .ok (.bipush 30, 2) := by decide +kernel
theorem dX12_wall_76 : decode cX12_wall 76 = .ok (.invokevirtual 155, 3) := by decide +kernel
theorem dX12_wall_79 : decode cX12_wall 79 = .ok (.ifCond .ne 8, 3) := by decide +kernel
theorem dX12_wall_82 : decode cX12_wall 82 = .ok (.aload_n 0, 1) := by decide +kernel
theorem dX12_wall_83 : decode cX12_wall 83 = .ok (.iconst 2, 1) := by decide +kernel
theorem dX12_wall_84 : decode cX12_wall 84 = .ok (.invokevirtual 140, 3) := by decide +kernel
theorem dX12_wall_87 : decode cX12_wall 87 = .ok (.aload_n 0, 1) := by decide +kernel
theorem dX12_wall_88 : decode cX12_wall 88 = .ok (.getfield 24, 3) := by decide +kernel
theorem dX12_wall_91 : decode cX12_wall 91 = .ok (.iconst 0, 1) := by decide +kernel
theorem dX12_wall_92 : decode cX12_wall 92 = .ok (.dup2, 1) := by decide +kernel
theorem dX12_wall_93 : decode cX12_wall 93 = .ok (.iaload, 1) := by decide +kernel
theorem dX12_wall_94 : decode cX12_wall 94 = .ok (.iconst 1, 1) := by decide +kernel
theorem dX12_wall_95 : decode cX12_wall 95 = .ok (.iadd, 1) := by decide +kernel
theorem dX12_wall_96 : decode cX12_wall 96 = .ok (.iastore, 1) := by decide +kernel
theorem dX12_wall_97 : decode cX12_wall 97 = .ok (.goto (-44), 3) := by decide +kernel
theorem dX12_wall_100 : decode cX12_wall 100 = .ok (.aload_n 0, 1) := by decide +kernel
theorem dX12_wall_101 : decode cX12_wall 101 = .ok (.aload_n 0, 1) := by decide +kernel
theorem dX12_wall_102 : decode cX12_wall 102 = .ok (.getfield 128, 3) := by decide +kernel
theorem dX12_wall_105 : decode cX12_wall 105 = .ok (.putfield 209, 3) := by decide +kernel
theorem dX12_wall_108 : decode cX12_wall 108 = .ok (.aload_n 0, 1) := by decide +kernel
theorem dX12_wall_109 : decode cX12_wall 109 = .ok (.aload_n 0, 1) := by decide +kernel
theorem dX12_wall_110 : decode cX12_wall 110 = .ok (.getfield 128, 3) := by decide +kernel
theorem dX12_wall_113 : decode cX12_wall 113 = .ok (.ifCond .ne 7, 3) := by decide +kernel
theorem dX12_wall_116 : decode cX12_wall 116 = .ok (.iconst (-1), 1) := by decide +kernel
theorem dX12_wall_117 : decode cX12_wall 117 = .ok (.goto 7, 3) := by decide +kernel
theorem dX12_wall_120 : decode cX12_wall 120 = .ok (.aload_n 0, 1) := by decide +kernel
theorem dX12_wall_121 : decode cX12_wall 121 = .ok (.getfield 131, 3) := by decide +kernel
theorem dX12_wall_124 : decode cX12_wall 124 = .ok (.putfield 27, 3) := by decide +kernel
theorem dX12_wall_127 : decode cX12_wall 127 = .ok (.aload_n 0, 1) := by decide +kernel
theorem dX12_wall_128 : decode cX12_wall 128 = .ok (.getfield 128, 3) := by decide +kernel
theorem dX12_wall_131 : decode cX12_wall 131 = .ok (.ifCond .eq 11, 3) := by decide +kernel
theorem dX12_wall_134 : decode cX12_wall 134 = .ok (.bipush (-30), 2) := by decide +kernel
theorem dX12_wall_136 : decode cX12_wall 136 = .ok (.aload_n 0, 1) := by decide +kernel
theorem dX12_wall_137 : decode cX12_wall 137 = .ok (.getfield 128, 3) := by decide +kernel
theorem dX12_wall_140 : decode cX12_wall 140 = .ok (.isub, 1) := by decide +kernel
theorem dX12_wall_141 : decode cX12_wall 141 = .ok (.ireturn, 1) := by decide +kernel
theorem dX12_wall_142 : decode cX12_wall 142 = .ok (.iconst 0, 1) := by decide +kernel
theorem dX12_wall_143 : decode cX12_wall 143 = .ok (.istore_n 2, 1) := by decide +kernel
theorem dX12_wall_144 : decode cX12_wall 144 = .ok (.iload_n 2, 1) := by decide +kernel
theorem dX12_wall_145 : decode cX12_wall 145 = .ok (.sipush 1302, 3) := by decide +kernel
theorem dX12_wall_148 : decode cX12_wall 148 = .ok (.if_icmp .ge 21, 3) := by decide +kernel
theorem dX12_wall_151 : decode cX12_wall 151 = .ok (.aload_n 0, 1) := by decide +kernel
theorem dX12_wall_152 : decode cX12_wall 152 = .ok (.getfield 13, 3) := by decide +kernel
theorem dX12_wall_155 : decode cX12_wall 155 = .ok (.iload_n 2, 1) := by decide +kernel
theorem dX12_wall_156 : decode cX12_wall 156 = .ok (.aload_n 0, 1) := by decide +kernel
theorem dX12_wall_157 : decode cX12_wall 157 = .ok (.getfield 24, 3) := by decide +kernel
theorem dX12_wall_160 : decode cX12_wall 160 = .ok (.iload_n 2, 1) := by decide +kernel
theorem dX12_wall_161 : decode cX12_wall 161 = .ok (.iaload, 1) := by decide +kernel
theorem dX12_wall_162 : decode cX12_wall 162 = .ok (.iastore, 1) := by decide +kernel
theorem dX12_wall_163 : decode cX12_wall 163 = .ok (.iinc 2 1, 3) := by decide +kernel
theorem dX12_wall_166 : decode cX12_wall 166 = .ok (.goto (-22), 3) := by decide +kernel
theorem dX12_wall_169 : decode cX12_wall 169 = .ok (.iconst 0, 1) := by decide +kernel
theorem dX12_wall_170 : decode cX12_wall 170 = .ok (.istore_n 2, 1) := by decide +kernel
theorem dX12_wall_171 : decode cX12_wall 171 = .ok (.iload_n 2, 1) := by decide +kernel
theorem dX12_wall_172 : decode cX12_wall 172 = .ok (.aload_n 0, 1) := by decide +kernel
theorem dX12_wall_173 : decode cX12_wall 173 = .ok (.getfield 13, 3) := by decide +kernel
theorem dX12_wall_176 : decode cX12_wall 176 = .ok (.iconst 1, 1) := by decide +kernel
theorem dX12_wall_177 : decode cX12_wall 177 = .ok (.iaload, 1) := by decide +kernel
theorem dX12_wall_178 : decode cX12_wall 178 = .ok (.if_icmp .ge 38, 3) := by decide +kernel
theorem dX12_wall_181 : decode cX12_wall 181 = .ok (.aload_n 0, 1) := by decide +kernel
theorem dX12_wall_182 : decode cX12_wall 182 = .ok (.getfield 13, 3) := by decide +kernel
theorem dX12_wall_185 : decode cX12_wall 185 = .ok (.bipush 59, 2) := by decide +kernel
theorem dX12_wall_187 : decode cX12_wall 187 = .ok (.iload_n 2, 1) := by decide +kernel
theorem dX12_wall_188 : decode cX12_wall 188 = .ok (.iadd, 1) := by decide +kernel
theorem dX12_wall_189 : decode cX12_wall 189 = .ok (.iaload, 1) := by decide +kernel
theorem dX12_wall_190 : decode cX12_wall 190 = .ok (.iconst (-1), 1) := by decide +kernel
theorem dX12_wall_191 : decode cX12_wall 191 = .ok (.if_icmp .eq 19, 3) := by decide +kernel
theorem dX12_wall_194 : decode cX12_wall 194 = .ok (.aload_n 0, 1) := by decide +kernel
theorem dX12_wall_195 : decode cX12_wall 195 = .ok (.getfield 13, 3) := by decide +kernel
theorem dX12_wall_198 : decode cX12_wall 198 = .ok (.bipush 73, 2) := by decide +kernel
theorem dX12_wall_200 : decode cX12_wall 200 = .ok (.iload_n 2, 1) := by decide +kernel
theorem dX12_wall_201 : decode cX12_wall 201 = .ok (.iadd, 1) := by decide +kernel
theorem dX12_wall_202 : decode cX12_wall 202 = .ok (.aload_n 0, 1) := by decide +kernel
theorem dX12_wall_203 : decode cX12_wall 203 = .ok (.getfield 13, 3) := by decide +kernel
theorem dX12_wall_206 : decode cX12_wall 206 = .ok (.bipush 88, 2) := by decide +kernel
theorem dX12_wall_208 : decode cX12_wall 208 = .ok (.iaload, 1) := by decide +kernel
theorem dX12_wall_209 : decode cX12_wall 209 = .ok (.iastore, 1) := by decide +kernel
theorem dX12_wall_210 : decode cX12_wall 210 = .ok (.iinc 2 1, 3) := by decide +kernel
theorem dX12_wall_213 : decode cX12_wall 213 = .ok (.goto (-42), 3) := by decide +kernel
theorem dX12_wall_216 : decode cX12_wall 216 = .ok (.aload_n 0, 1) := by decide +kernel
theorem dX12_wall_217 : decode cX12_wall 217 = .ok (.getfield 13, 3) := by decide +kernel
theorem dX12_wall_220 : decode cX12_wall 220 = .ok (.iconst 0, 1) := by decide +kernel
theorem dX12_wall_221 : decode cX12_wall 221 = .ok (.iaload, 1) := by decide +kernel
theorem dX12_wall_222 : decode cX12_wall 222 = .ok (.ireturn, 1) := by decide +kernel
theorem kw_1220 : Cond.methodLink "FootholdWallModel" 78 yX12_plain ∈ gw := gw_of (tb_of 1220 (by decide +kernel)) (by decide +kernel)
theorem kw_1221 : Cond.static yX12_plain ∈ gw := gw_of (tb_of 1221 (by decide +kernel)) (by decide +kernel)
theorem kw_1222 : Cond.code yX12_plain cX12_plain 2 none ∈ gw := gw_of (tb_of 1222 (by decide +kernel)) (by decide +kernel)
theorem kw_1366 : Cond.methodLink "FootholdWallModel" 206 yX12_readLine ∈ gw := gw_of (tb_of 1366 (by decide +kernel)) (by decide +kernel)
theorem kw_1368 : Cond.instanceMethod yX12_readLine ∈ gw := gw_of (tb_of 1368 (by decide +kernel)) (by decide +kernel)
theorem kw_1369 : Cond.code yX12_readLine cX12_readLine 2 none ∈ gw := gw_of (tb_of 1369 (by decide +kernel)) (by decide +kernel)
theorem ks_46 : Cond.selects RX12 yX12_readLine yX12_readLine ∈ gw := gw_of (pv_of 46 (by decide +kernel)) (by decide +kernel)
set_option maxHeartbeats 4000000 in
set_option maxRecDepth 100000 in
theorem s_M_wall (l : Launch) (D : va_G) (cs : CS) (kf : KF) (T : TF) (O : List Nat) (X : va_W) (a0 hg mq : Nat) (x1 : Int32) (f3 : Nat → Int32) (tm : Nat) (t : Tp) (t_a0 : T a0 = some (22, hg, mq)) (b_hg : hg < 90) (hU : ∀ (b : Nat) (tg : Tg), T b = some tg → tg.1 = 22 → b = a0) (t_tm : T tm = some (9, 900, 0)) (hU9 : ∀ (b : Nat) (q : Nat), T b = some (9, 900, q) → b = tm) (htm : TM f3 t) (hO : okO T (tm :: O) [8, 22]) : TK l D cs kf yX12_wall cX12_wall 3 (some (.int)) { frames := 33, cells := 0, slots := 0, locals := 703 } [.ref a0, .int x1] T (tm :: O) ((tm, .inl (cs.2.1, 900, .inl f3)) :: X) (Ti D cs (fun r u => ∃ (T2 : TF) (hg2 : Nat) (mq2 : Nat), u = (T2, tm :: O, (tm, .inl (cs.2.1, 900, .inl f3)) :: X) ∧ (Trm T T2 a0) ∧ (T2 a0 = some (22, hg2, mq2)) ∧ (hg2 < 90) ∧ (WFM t mq mq2 x1.toInt r.toInt))) := by
  refine tk_of (by decide) (Nat.le_of_ble_eq_true rfl) (fun p e s m below meth c ls A H locs hx hb hr hml hown hts hlocks hnm hkb hH hS hA hOX hks hE hl => ?_)
  have hown : s.vm.findClass RX12 = some m.cls := hown
  have hl : lv_has ls 3 [(0, .ref a0), (1, .int x1)] := hl
  have hOXf := hOX
  have hO0 := hO
  obtain ⟨fs9, ho9, hH⟩ := hH.take t_a0 (hO0.no t_a0 (by decide))
  have hp0 : okL T (ft12 hg mq) fs9 := ho9
  clear ho9
  obtain ⟨v9, fs9, rfl, h9, hp1⟩ := okL_i hp0
  obtain ⟨q0_0, rfl⟩ := h9
  obtain ⟨v9, fs9, rfl, h9, hp2⟩ := okL_i hp1
  obtain ⟨q0_1, rfl, t_q0_1⟩ := h9
  obtain ⟨v9, fs9, rfl, h9, hp3⟩ := okL_i hp2
  obtain ⟨q0_2, rfl, t_q0_2⟩ := h9
  obtain ⟨v9, fs9, rfl, h9, hp4⟩ := okL_i hp3
  obtain ⟨q0_3, rfl, t_q0_3⟩ := h9
  have e9 := (hU9 _ _ t_q0_3).symm
  subst e9
  obtain ⟨v9, fs9, rfl, h9, hp5⟩ := okL_i hp4
  obtain ⟨q0_4, rfl, t_q0_4⟩ := h9
  obtain ⟨v9, fs9, rfl, h9, hp6⟩ := okL_i hp5
  obtain ⟨q0_5, rfl, l_q0_5, u_q0_5, eg_q0_5⟩ := h9
  obtain ⟨v9, fs9, rfl, h9, hp7⟩ := okL_i hp6
  obtain ⟨q0_6, rfl⟩ := h9
  obtain ⟨v9, fs9, rfl, h9, hp8⟩ := okL_i hp7
  obtain ⟨q0_7, rfl⟩ := h9
  obtain ⟨v9, fs9, rfl, h9, hp9⟩ := okL_i hp8
  obtain ⟨q0_8, rfl⟩ := h9
  obtain ⟨v9, fs9, rfl, h9, hp10⟩ := okL_i hp9
  obtain ⟨q0_9, rfl⟩ := h9
  obtain ⟨v9, fs9, rfl, h9, hp11⟩ := okL_i hp10
  obtain ⟨q0_10, rfl, l_q0_10, u_q0_10⟩ := h9
  obtain ⟨v9, fs9, rfl, h9, hp12⟩ := okL_i hp11
  obtain ⟨q0_11, rfl⟩ := h9
  obtain ⟨v9, fs9, rfl, h9, hp13⟩ := okL_i hp12
  obtain ⟨q0_12, rfl⟩ := h9
  obtain ⟨v9, fs9, rfl, h9, hp14⟩ := okL_i hp13
  obtain ⟨q0_13, rfl, eg_q0_13⟩ := h9
  obtain ⟨v9, fs9, rfl, h9, hp15⟩ := okL_i hp14
  obtain ⟨q0_14, rfl, eg_q0_14⟩ := h9
  obtain ⟨v9, fs9, rfl, h9, hp16⟩ := okL_i hp15
  obtain ⟨q0_15, rfl, t_q0_15⟩ := h9
  obtain ⟨v9, fs9, rfl, h9, hp17⟩ := okL_i hp16
  obtain ⟨q0_16, rfl⟩ := h9
  obtain ⟨v9, fs9, rfl, h9, hp18⟩ := okL_i hp17
  obtain ⟨q0_17, rfl, t_q0_17⟩ := h9
  obtain ⟨v9, fs9, rfl, h9, hp19⟩ := okL_i hp18
  obtain ⟨q0_18, rfl, t_q0_18⟩ := h9
  obtain ⟨v9, fs9, rfl, h9, hp20⟩ := okL_i hp19
  obtain ⟨q0_19, rfl, t_q0_19⟩ := h9
  obtain ⟨v9, fs9, rfl, h9, hp21⟩ := okL_i hp20
  obtain ⟨q0_20, rfl, l_q0_20, u_q0_20⟩ := h9
  obtain ⟨v9, fs9, rfl, h9, hp22⟩ := okL_i hp21
  obtain ⟨q0_21, rfl, t_q0_21⟩ := h9
  obtain ⟨v9, fs9, rfl, h9, hp23⟩ := okL_i hp22
  obtain ⟨q0_22, rfl, t_q0_22⟩ := h9
  obtain ⟨v9, fs9, rfl, h9, hp24⟩ := okL_i hp23
  obtain ⟨q0_23, rfl⟩ := h9
  obtain ⟨v9, fs9, rfl, h9, hp25⟩ := okL_i hp24
  obtain ⟨q0_24, rfl⟩ := h9
  obtain ⟨v9, fs9, rfl, h9, hp26⟩ := okL_i hp25
  obtain ⟨q0_25, rfl⟩ := h9
  obtain ⟨v9, fs9, rfl, h9, hp27⟩ := okL_i hp26
  obtain ⟨q0_26, rfl, t_q0_26⟩ := h9
  obtain ⟨v9, fs9, rfl, h9, hp28⟩ := okL_i hp27
  obtain ⟨q0_27, rfl, t_q0_27⟩ := h9
  obtain ⟨v9, fs9, rfl, h9, hp29⟩ := okL_i hp28
  obtain ⟨q0_28, rfl, t_q0_28⟩ := h9
  obtain ⟨v9, fs9, rfl, h9, hp30⟩ := okL_i hp29
  obtain ⟨q0_29, rfl, t_q0_29⟩ := h9
  obtain ⟨v9, fs9, rfl, h9, hp31⟩ := okL_i hp30
  obtain ⟨q0_30, rfl, t_q0_30⟩ := h9
  obtain ⟨v9, fs9, rfl, h9, hp32⟩ := okL_i hp31
  obtain ⟨q0_31, rfl, t_q0_31⟩ := h9
  obtain ⟨v9, fs9, rfl, h9, hp33⟩ := okL_i hp32
  obtain ⟨q0_32, rfl⟩ := h9
  obtain ⟨v9, fs9, rfl, h9, hp34⟩ := okL_i hp33
  obtain ⟨q0_33, rfl, t_q0_33⟩ := h9
  obtain ⟨v9, fs9, rfl, h9, hp35⟩ := okL_i hp34
  obtain ⟨q0_34, rfl, t_q0_34⟩ := h9
  obtain ⟨v9, fs9, rfl, h9, hp36⟩ := okL_i hp35
  obtain ⟨q0_35, rfl, t_q0_35⟩ := h9
  have hpz := okL_z hp36
  subst hpz
  have hH : HT D cs A T (a0 :: tm :: O) ((a0, .inr (12, [.int q0_0, .ref q0_1, .ref q0_2, .ref tm, .ref q0_4, .int q0_5, .int q0_6, .int q0_7, .int q0_8, .int q0_9, .int q0_10, .int q0_11, .int q0_12, .int q0_13, .int q0_14, .ref q0_15, .int q0_16, .ref q0_17, .ref q0_18, .ref q0_19, .int q0_20, .ref q0_21, .ref q0_22, .int q0_23, .int q0_24, .int q0_25, .ref q0_26, .ref q0_27, .ref q0_28, .ref q0_29, .ref q0_30, .ref q0_31, .int q0_32, .ref q0_33, .ref q0_34, .ref q0_35])) :: (tm, .inl (cs.2.1, 900, .inl f3)) :: X) H := hH
  have hO : okO T (a0 :: tm :: O) [8] := okO.cons (hO0.sub (by decide)) t_a0 (by decide)
  refine lv_aload_n hx hb dX12_wall_0 rfl (lv_at hl 0 rfl) ?_
  refine lv_iconst (v := 0) hx hb dX12_wall_1 (by decide) ?_
  refine x_putk (ci := 12) (v := .int 0) (ty := tyX12 0) (C := RX12) (F := TX12) (N := 36) hx hb hts uX12 tyX12 tyX12_ok nmX12 hown hkb hH hS 0 rfl rfl 0 (by decide) kw_1223 (fun _ h9 => h9) rfl (tyX12_ok 0 (by decide)) rfl rfl (Nat.le_of_ble_eq_true rfl) dX12_wall_2 (fun H locs hH hS => ?_)
  have hH : HT D cs A T (a0 :: tm :: O) ((a0, .inr (12, [.int 0, .ref q0_1, .ref q0_2, .ref tm, .ref q0_4, .int q0_5, .int q0_6, .int q0_7, .int q0_8, .int q0_9, .int q0_10, .int q0_11, .int q0_12, .int q0_13, .int q0_14, .ref q0_15, .int q0_16, .ref q0_17, .ref q0_18, .ref q0_19, .int q0_20, .ref q0_21, .ref q0_22, .int q0_23, .int q0_24, .int q0_25, .ref q0_26, .ref q0_27, .ref q0_28, .ref q0_29, .ref q0_30, .ref q0_31, .int q0_32, .ref q0_33, .ref q0_34, .ref q0_35])) :: (tm, .inl (cs.2.1, 900, .inl f3)) :: X) H := hH
  refine lv_iload_n hx hb dX12_wall_5 rfl (lv_at hl 1 rfl) ?_
  refine lv_i2l hx hb dX12_wall_6 rfl ?_
  refine lv_lconst (v := 0) hx hb dX12_wall_7 (by decide) ?_
  refine lv_aload_n hx hb dX12_wall_8 rfl (lv_at hl 0 rfl) ?_
  refine x_getk (ci := 12) (C := RX12) (F := TX12) (N := 36) (v := .int q0_5) hx hb hts uX12 hown hkb hH 0 rfl rfl 5 (by decide) rfl kw_1228 (fun _ h9 => h9) dX12_wall_9 ?_
  refine lv_i2l hx hb dX12_wall_12 rfl ?_
  refine tk_i hH hS hA (tr_S (n := 3) (As := [.long x1.toInt64, .long 0, .long q0_5.toInt64]) hx hb hml hown hts hkb hH (ox_c (ox_map hOX rfl)) hks hE hS hA (s_M_within l D cs kf T (a0 :: tm :: O) ((a0, .inr (12, [.int 0, .ref q0_1, .ref q0_2, .ref tm, .ref q0_4, .int q0_5, .int q0_6, .int q0_7, .int q0_8, .int q0_9, .int q0_10, .int q0_11, .int q0_12, .int q0_13, .int q0_14, .ref q0_15, .int q0_16, .ref q0_17, .ref q0_18, .ref q0_19, .int q0_20, .ref q0_21, .ref q0_22, .int q0_23, .int q0_24, .int q0_25, .ref q0_26, .ref q0_27, .ref q0_28, .ref q0_29, .ref q0_30, .ref q0_31, .int q0_32, .ref q0_33, .ref q0_34, .ref q0_35])) :: (tm, .inl (cs.2.1, 900, .inl f3)) :: X) x1.toInt64 0 q0_5.toInt64  (hO.sub (by decide))) kw_1341 kw_1342 kw_13 kw_1343 (by decide +kernel) ⟨Nat.le_of_ble_eq_true rfl, Nat.le_of_ble_eq_true rfl⟩ rfl rfl hl.1 (Nat.le_of_ble_eq_true rfl) dX12_wall_13 ⟨Nat.le_of_ble_eq_true rfl, Nat.le_of_ble_eq_true rfl⟩) (fun v13 u H locs hz9 hH hS => ?_)
  obtain ⟨rfl, l_v13, u_v13, x_v130, x_v131⟩ := hz9
  simp only [Int32.toInt_toInt64] at x_v130 x_v131
  have k9_0 : (0 : Int64).toInt = 0 := by decide
  have hH : HT D cs A T (a0 :: tm :: O) ((a0, .inr (12, [.int 0, .ref q0_1, .ref q0_2, .ref tm, .ref q0_4, .int q0_5, .int q0_6, .int q0_7, .int q0_8, .int q0_9, .int q0_10, .int q0_11, .int q0_12, .int q0_13, .int q0_14, .ref q0_15, .int q0_16, .ref q0_17, .ref q0_18, .ref q0_19, .int q0_20, .ref q0_21, .ref q0_22, .int q0_23, .int q0_24, .int q0_25, .ref q0_26, .ref q0_27, .ref q0_28, .ref q0_29, .ref q0_30, .ref q0_31, .int q0_32, .ref q0_33, .ref q0_34, .ref q0_35])) :: (tm, .inl (cs.2.1, 900, .inl f3)) :: X) H := hH
  refine W.widen (k := 0) (n := 0) (Nat.le_of_ble_eq_true rfl) (Nat.le_of_ble_eq_true rfl) ?_
  refine lv_if_ne (tgt := 22) hx hb dX12_wall_16 (by decide) (fun c16 => ?_) (fun c16 => ?_)
  · skip
    have tc16 := f_ne (k := 0) (by decide) c16
    replace x_v130 := x_v130.resolve_left tc16
    clear x_v131
    obtain ⟨tn, hn⟩ : ∃ z9 : Nat, x1.toInt = (z9 : Int) := ⟨x1.toInt.toNat, by omega⟩
    obtain ⟨e9, hs9, hH⟩ := HT.takeA hH t_q0_4 (nm_c (tag_ne t_q0_4 t_a0 (fun q => absurd (show 8 = 22 from congrArg Prod.fst q) (by decide))) (hO0.no t_q0_4 (by decide)))
    obtain ⟨f4, rfl, s_f4, -⟩ : ∃ f : Nat → Int32, e9 = .inl (cs.2.1, 1302, .inl f) ∧ B8 1302 f ∧ (1302 = 3906 → f 1 = nI (0 / 6) ∧ f 2 = nI (0 % 6)) := hs9
    have s_f4 := S8_of s_f4
    have hO : okO T (q0_4 :: a0 :: tm :: O) [] := okO.cons (hO.sub (by decide)) t_q0_4 (by decide)
    have hH : HT D cs A T (a0 :: tm :: q0_4 :: O) ((a0, .inr (12, [.int 0, .ref q0_1, .ref q0_2, .ref tm, .ref q0_4, .int q0_5, .int q0_6, .int q0_7, .int q0_8, .int q0_9, .int q0_10, .int q0_11, .int q0_12, .int q0_13, .int q0_14, .ref q0_15, .int q0_16, .ref q0_17, .ref q0_18, .ref q0_19, .int q0_20, .ref q0_21, .ref q0_22, .int q0_23, .int q0_24, .int q0_25, .ref q0_26, .ref q0_27, .ref q0_28, .ref q0_29, .ref q0_30, .ref q0_31, .int q0_32, .ref q0_33, .ref q0_34, .ref q0_35])) :: (tm, .inl (cs.2.1, 900, .inl f3)) :: (q0_4, .inl (cs.2.1, 1302, .inl f4)) :: X) H := HT.pm (Y := [(q0_4, .inl (cs.2.1, 1302, .inl f4)), (a0, .inr (12, [.int 0, .ref q0_1, .ref q0_2, .ref tm, .ref q0_4, .int q0_5, .int q0_6, .int q0_7, .int q0_8, .int q0_9, .int q0_10, .int q0_11, .int q0_12, .int q0_13, .int q0_14, .ref q0_15, .int q0_16, .ref q0_17, .ref q0_18, .ref q0_19, .int q0_20, .ref q0_21, .ref q0_22, .int q0_23, .int q0_24, .int q0_25, .ref q0_26, .ref q0_27, .ref q0_28, .ref q0_29, .ref q0_30, .ref q0_31, .int q0_32, .ref q0_33, .ref q0_34, .ref q0_35])), (tm, .inl (cs.2.1, 900, .inl f3))]) (Y2 := [(a0, .inr (12, [.int 0, .ref q0_1, .ref q0_2, .ref tm, .ref q0_4, .int q0_5, .int q0_6, .int q0_7, .int q0_8, .int q0_9, .int q0_10, .int q0_11, .int q0_12, .int q0_13, .int q0_14, .ref q0_15, .int q0_16, .ref q0_17, .ref q0_18, .ref q0_19, .int q0_20, .ref q0_21, .ref q0_22, .int q0_23, .int q0_24, .int q0_25, .ref q0_26, .ref q0_27, .ref q0_28, .ref q0_29, .ref q0_30, .ref q0_31, .int q0_32, .ref q0_33, .ref q0_34, .ref q0_35])), (tm, .inl (cs.2.1, 900, .inl f3)), (q0_4, .inl (cs.2.1, 1302, .inl f4))]) (X := X) (ym := 3) [1, 2, 0] hH rfl rfl (fun k hk => match k, hk with | 0, _ => rfl | 1, _ => rfl | 2, _ => rfl | k + 3, h => absurd h (by show ¬ k + 3 < 3; omega)) (by decide) (by intro a ha; simp only [List.mem_cons] at ha ⊢; rcases ha with h | h | h | h; exact Or.inr (Or.inr (Or.inl h)); exact Or.inl h; exact Or.inr (Or.inl h); exact Or.inr (Or.inr (Or.inr (h))))
    have hO := hO.pm (O' := a0 :: tm :: q0_4 :: O) (by intro a ha; simp only [List.mem_cons] at ha ⊢; rcases ha with h | h | h | h; exact Or.inr (Or.inl h); exact Or.inr (Or.inr (Or.inl h)); exact Or.inl h; exact Or.inr (Or.inr (Or.inr (h))))
    refine lv_aload_n hx hb dX12_wall_22 rfl (lv_at hl 0 rfl) ?_
    refine lv_iload_n hx hb dX12_wall_23 rfl (lv_at hl 1 rfl) ?_
    refine x_putk (ci := 12) (v := .int x1) (ty := tyX12 8) (C := RX12) (F := TX12) (N := 36) hx hb hts uX12 tyX12 tyX12_ok nmX12 hown hkb hH hS 0 rfl rfl 8 (by decide) kw_1231 (fun _ h9 => h9) rfl (tyX12_ok 8 (by decide)) rfl rfl (Nat.le_of_ble_eq_true rfl) dX12_wall_24 (fun H locs hH hS => ?_)
    have hH : HT D cs A T (a0 :: tm :: q0_4 :: O) ((a0, .inr (12, [.int 0, .ref q0_1, .ref q0_2, .ref tm, .ref q0_4, .int q0_5, .int q0_6, .int q0_7, .int x1, .int q0_9, .int q0_10, .int q0_11, .int q0_12, .int q0_13, .int q0_14, .ref q0_15, .int q0_16, .ref q0_17, .ref q0_18, .ref q0_19, .int q0_20, .ref q0_21, .ref q0_22, .int q0_23, .int q0_24, .int q0_25, .ref q0_26, .ref q0_27, .ref q0_28, .ref q0_29, .ref q0_30, .ref q0_31, .int q0_32, .ref q0_33, .ref q0_34, .ref q0_35])) :: (tm, .inl (cs.2.1, 900, .inl f3)) :: (q0_4, .inl (cs.2.1, 1302, .inl f4)) :: X) H := hH
    refine lv_aload_n hx hb dX12_wall_27 rfl (lv_at hl 0 rfl) ?_
    refine lv_iconst (v := 0) hx hb dX12_wall_28 (by decide) ?_
    refine x_putk (ci := 12) (v := .int 0) (ty := tyX12 5) (C := RX12) (F := TX12) (N := 36) hx hb hts uX12 tyX12 tyX12_ok nmX12 hown hkb hH hS 0 rfl rfl 5 (by decide) kw_1228 (fun _ h9 => h9) rfl (tyX12_ok 5 (by decide)) rfl rfl (Nat.le_of_ble_eq_true rfl) dX12_wall_29 (fun H locs hH hS => ?_)
    have hH : HT D cs A T (a0 :: tm :: q0_4 :: O) ((a0, .inr (12, [.int 0, .ref q0_1, .ref q0_2, .ref tm, .ref q0_4, .int 0, .int q0_6, .int q0_7, .int x1, .int q0_9, .int q0_10, .int q0_11, .int q0_12, .int q0_13, .int q0_14, .ref q0_15, .int q0_16, .ref q0_17, .ref q0_18, .ref q0_19, .int q0_20, .ref q0_21, .ref q0_22, .int q0_23, .int q0_24, .int q0_25, .ref q0_26, .ref q0_27, .ref q0_28, .ref q0_29, .ref q0_30, .ref q0_31, .int q0_32, .ref q0_33, .ref q0_34, .ref q0_35])) :: (tm, .inl (cs.2.1, 900, .inl f3)) :: (q0_4, .inl (cs.2.1, 1302, .inl f4)) :: X) H := hH
    refine lv_aload_n hx hb dX12_wall_32 rfl (lv_at hl 0 rfl) ?_
    refine lv_iconst (v := 0) hx hb dX12_wall_33 (by decide) ?_
    refine x_putk (ci := 12) (v := .int 0) (ty := tyX12 7) (C := RX12) (F := TX12) (N := 36) hx hb hts uX12 tyX12 tyX12_ok nmX12 hown hkb hH hS 0 rfl rfl 7 (by decide) kw_1230 (fun _ h9 => h9) rfl (tyX12_ok 7 (by decide)) rfl rfl (Nat.le_of_ble_eq_true rfl) dX12_wall_34 (fun H locs hH hS => ?_)
    have hH : HT D cs A T (a0 :: tm :: q0_4 :: O) ((a0, .inr (12, [.int 0, .ref q0_1, .ref q0_2, .ref tm, .ref q0_4, .int 0, .int q0_6, .int 0, .int x1, .int q0_9, .int q0_10, .int q0_11, .int q0_12, .int q0_13, .int q0_14, .ref q0_15, .int q0_16, .ref q0_17, .ref q0_18, .ref q0_19, .int q0_20, .ref q0_21, .ref q0_22, .int q0_23, .int q0_24, .int q0_25, .ref q0_26, .ref q0_27, .ref q0_28, .ref q0_29, .ref q0_30, .ref q0_31, .int q0_32, .ref q0_33, .ref q0_34, .ref q0_35])) :: (tm, .inl (cs.2.1, 900, .inl f3)) :: (q0_4, .inl (cs.2.1, 1302, .inl f4)) :: X) H := hH
    refine lv_aload_n hx hb dX12_wall_37 rfl (lv_at hl 0 rfl) ?_
    refine lv_iconst (v := 0) hx hb dX12_wall_38 (by decide) ?_
    refine x_putk (ci := 12) (v := .int 0) (ty := tyX12 11) (C := RX12) (F := TX12) (N := 36) hx hb hts uX12 tyX12 tyX12_ok nmX12 hown hkb hH hS 0 rfl rfl 11 (by decide) kw_1234 (fun _ h9 => h9) rfl (tyX12_ok 11 (by decide)) rfl rfl (Nat.le_of_ble_eq_true rfl) dX12_wall_39 (fun H locs hH hS => ?_)
    have hH : HT D cs A T (a0 :: tm :: q0_4 :: O) ((a0, .inr (12, [.int 0, .ref q0_1, .ref q0_2, .ref tm, .ref q0_4, .int 0, .int q0_6, .int 0, .int x1, .int q0_9, .int q0_10, .int 0, .int q0_12, .int q0_13, .int q0_14, .ref q0_15, .int q0_16, .ref q0_17, .ref q0_18, .ref q0_19, .int q0_20, .ref q0_21, .ref q0_22, .int q0_23, .int q0_24, .int q0_25, .ref q0_26, .ref q0_27, .ref q0_28, .ref q0_29, .ref q0_30, .ref q0_31, .int q0_32, .ref q0_33, .ref q0_34, .ref q0_35])) :: (tm, .inl (cs.2.1, 900, .inl f3)) :: (q0_4, .inl (cs.2.1, 1302, .inl f4)) :: X) H := hH
    refine lv_aload_n hx hb dX12_wall_42 rfl (lv_at hl 0 rfl) ?_
    refine x_getk (ci := 12) (C := RX12) (F := TX12) (N := 36) (v := .ref q0_4) hx hb hts uX12 hown hkb hH 0 rfl rfl 4 (by decide) rfl kw_1227 (fun _ h9 => h9) dX12_wall_43 ?_
    have z9_0 : (0 : Int32).toInt = 0 := by decide
    have z9_0 : (0 : Int32).toInt = 0 := by decide
    have z9_0 : (0 : Int32).toInt = 0 := by decide
    have z9_0 : (0 : Int32).toInt = 0 := by decide
    refine tk_v hH hS hA (tr_S (n := 1) (As := [.ref q0_4]) hx hb hml hown hts hkb hH (ox_mem hOXf (by intro a ha; simp only [List.map_cons, List.mem_cons] at ha ⊢; rcases ha with h | h <;> simp [h]) (by intro a ha; simp only [List.map_cons, List.mem_cons] at ha ⊢; rcases ha with h | h | h | h <;> simp [h])) hks hE hS hA (s_M_plain0 l D cs kf T O X (.int 0) (.ref q0_1) (.ref q0_2) tm q0_4 [.int 0, .int q0_6, .int 0, .int x1, .int q0_9, .int q0_10, .int 0, .int q0_12, .int q0_13, .int q0_14, .ref q0_15, .int q0_16, .ref q0_17, .ref q0_18, .ref q0_19, .int q0_20, .ref q0_21, .ref q0_22, .int q0_23, .int q0_24, .int q0_25, .ref q0_26, .ref q0_27, .ref q0_28, .ref q0_29, .ref q0_30, .ref q0_31, .int q0_32, .ref q0_33, .ref q0_34, .ref q0_35] f3 f4 a0 hg mq t_tm t_q0_4 t_a0 (hO.sub (by decide))) kw_1220 kw_1221 kw_13 kw_1222 (by decide +kernel) ⟨Nat.le_of_ble_eq_true rfl, Nat.le_of_ble_eq_true rfl⟩ rfl rfl hl.1 (Nat.le_of_ble_eq_true rfl) dX12_wall_46 ⟨Nat.le_of_ble_eq_true rfl, Nat.le_of_ble_eq_true rfl⟩) (fun u H locs hz9 hH hS => ?_)
    obtain ⟨F46_2, rfl, x_v460, x_v461, x_v462⟩ := hz9
    have s_F46_2 := x_v460
    have hH : HT D cs A T (a0 :: tm :: q0_4 :: O) ((a0, .inr (12, [.int 0, .ref q0_1, .ref q0_2, .ref tm, .ref q0_4, .int 0, .int q0_6, .int 0, .int x1, .int q0_9, .int q0_10, .int 0, .int q0_12, .int q0_13, .int q0_14, .ref q0_15, .int q0_16, .ref q0_17, .ref q0_18, .ref q0_19, .int q0_20, .ref q0_21, .ref q0_22, .int q0_23, .int q0_24, .int q0_25, .ref q0_26, .ref q0_27, .ref q0_28, .ref q0_29, .ref q0_30, .ref q0_31, .int q0_32, .ref q0_33, .ref q0_34, .ref q0_35])) :: (tm, .inl (cs.2.1, 900, .inl f3)) :: (q0_4, .inl (cs.2.1, 1302, .inl F46_2)) :: X) H := hH
    refine W.widen (k := 0) (n := 0) (Nat.le_of_ble_eq_true rfl) (Nat.le_of_ble_eq_true rfl) ?_
    refine lv_aload_n hx hb dX12_wall_49 rfl (lv_at hl 0 rfl) ?_
    have z9_0 : (0 : Int32).toInt = 0 := by decide
    have z9_0 : (0 : Int32).toInt = 0 := by decide
    have z9_0 : (0 : Int32).toInt = 0 := by decide
    have z9_0 : (0 : Int32).toInt = 0 := by decide
    refine tk_v hH hS hA (tr_V (n := 0) (As := []) hx hb hml hown hts hkb hH (ox_mem hOXf (by intro a ha; simp only [List.map_cons, List.mem_cons] at ha ⊢; rcases ha with h | h <;> simp [h]) (by intro a ha; simp only [List.map_cons, List.mem_cons] at ha ⊢; rcases ha with h | h | h | h <;> simp [h])) hks hE hS hA (s_M_next0 l D cs kf T (q0_4 :: O) ((q0_4, .inl (cs.2.1, 1302, .inl F46_2)) :: X) a0 hg mq (.int 0) (.ref q0_1) (.ref q0_2) tm q0_4 (.int 0) q0_6 (0) x1 q0_9 q0_10 (0) q0_12 [.int q0_13, .int q0_14, .ref q0_15, .int q0_16, .ref q0_17, .ref q0_18, .ref q0_19, .int q0_20, .ref q0_21, .ref q0_22, .int q0_23, .int q0_24, .int q0_25, .ref q0_26, .ref q0_27, .ref q0_28, .ref q0_29, .ref q0_30, .ref q0_31, .int q0_32, .ref q0_33, .ref q0_34, .ref q0_35] f3 t tn t_a0 b_hg t_tm t_q0_4 (by decide) (by decide) (by omega) (by omega) (by omega) (by omega) (by omega) htm (by omega) (hO.sub (by decide))) kw_1344 kw_1346 ks_43 kw_13 kw_1347 (by decide +kernel) ⟨Nat.le_of_ble_eq_true rfl, Nat.le_of_ble_eq_true rfl⟩ (x_recv (ci := 12) hkb hH 0 rfl rfl) rfl rfl hl.1 (Nat.le_of_ble_eq_true rfl) dX12_wall_50 ⟨Nat.le_of_ble_eq_true rfl, Nat.le_of_ble_eq_true rfl⟩) (fun u H locs hz9 hH hS => ?_)
    obtain ⟨n50_0_6, n50_0_7, n50_0_9, n50_0_10, rfl, x_v500, x_v501, x_v502, x_v503, x_v504, x_v505, x_v506, x_v507⟩ := hz9
    have hH : HT D cs A T (a0 :: tm :: q0_4 :: O) ((a0, .inr (12, [.int 0, .ref q0_1, .ref q0_2, .ref tm, .ref q0_4, .int 0, .int n50_0_6, .int n50_0_7, .int x1, .int n50_0_9, .int n50_0_10, .int 0, .int q0_12, .int q0_13, .int q0_14, .ref q0_15, .int q0_16, .ref q0_17, .ref q0_18, .ref q0_19, .int q0_20, .ref q0_21, .ref q0_22, .int q0_23, .int q0_24, .int q0_25, .ref q0_26, .ref q0_27, .ref q0_28, .ref q0_29, .ref q0_30, .ref q0_31, .int q0_32, .ref q0_33, .ref q0_34, .ref q0_35])) :: (tm, .inl (cs.2.1, 900, .inl f3)) :: (q0_4, .inl (cs.2.1, 1302, .inl F46_2)) :: X) H := hH
    refine W.widen (k := 0) (n := 0) (Nat.le_of_ble_eq_true rfl) (Nat.le_of_ble_eq_true rfl) ?_
    have J53 : ∀ (n : Nat) (f53_106 : Int32) (f53_107 : Int32) (f53_109 : Int32) (f53_110 : Int32) (f53_111 : Int32) (f53_112 : Int32) (g53_2 : Nat → Int32) (H : Heap) (locs : List Loc) (ls : Array Slot), ((900 - f53_106.toInt) * 2 + wz f53_111).toNat = n → (S8 g53_2) → (0 ≤ f53_106.toInt) → (f53_106.toInt ≤ 900) → (0 ≤ f53_107.toInt) → (f53_107.toInt ≤ 900) → (0 ≤ f53_110.toInt) → (f53_110.toInt ≤ 999) → (f53_106.toInt ≤ f53_107.toInt) → (f53_107.toInt ≤ x1.toInt) → (TK3 f53_109 f53_106 f53_107) → (0 ≤ (g53_2 0).toInt ∧ (g53_2 0).toInt + wz f53_111 ≤ f53_106.toInt + 1) → (RGR t tn [(30, 0)] [(30, 0)] (RZ 0 0 0 0 0) (FR5 g53_2) 0 q0_12 n50_0_6 f53_111 f53_112 f53_106 f53_107 f53_109 f53_110) → HT D cs A T (a0 :: tm :: q0_4 :: O) ((a0, .inr (12, [.int 0, .ref q0_1, .ref q0_2, .ref tm, .ref q0_4, .int 0, .int f53_106, .int f53_107, .int x1, .int f53_109, .int f53_110, .int f53_111, .int f53_112, .int q0_13, .int q0_14, .ref q0_15, .int q0_16, .ref q0_17, .ref q0_18, .ref q0_19, .int q0_20, .ref q0_21, .ref q0_22, .int q0_23, .int q0_24, .int q0_25, .ref q0_26, .ref q0_27, .ref q0_28, .ref q0_29, .ref q0_30, .ref q0_31, .int q0_32, .ref q0_33, .ref q0_34, .ref q0_35])) :: (tm, .inl (cs.2.1, 900, .inl f3)) :: (q0_4, .inl (cs.2.1, 1302, .inl g53_2)) :: X) H → va_S A s.heap H locs → lv_has ls 3 [(0, .ref a0)] → W p l e { frames := 33, cells := 0, slots := 0, locals := 703 } s m [.ref a0, .int x1].toArray below meth c H locs 0 0 (MQ below (Ti D cs (fun r u => ∃ (T2 : TF) (hg2 : Nat) (mq2 : Nat), u = (T2, tm :: O, (tm, .inl (cs.2.1, 900, .inl f3)) :: X) ∧ (Trm T T2 a0) ∧ (T2 a0 = some (22, hg2, mq2)) ∧ (hg2 < 90) ∧ (WFM t mq mq2 x1.toInt r.toInt)) A) [.ref a0, .int x1].toArray s 0 0 A) (F0 m 53 ls []) := by
      intro n
      induction n using Nat.strongRecOn with
      | _ n ih53 =>
        intro f53_106 f53_107 f53_109 f53_110 f53_111 f53_112 g53_2 H locs ls hm53 s_g53_2 l_f53_106 u_f53_106 l_f53_107 u_f53_107 l_f53_110 u_f53_110 ia53 ib53 ic53 il53 ig53 hH hS hl
        refine lv_aload_n hx hb dX12_wall_53 rfl (lv_at hl 0 rfl) ?_
        refine x_getk (ci := 12) (C := RX12) (F := TX12) (N := 36) (v := .int f53_111) hx hb hts uX12 hown hkb hH 0 rfl rfl 11 (by decide) rfl kw_1234 (fun _ h9 => h9) dX12_wall_54 ?_
        have J142 : ∀ (f142_114 : Int32) (H : Heap) (locs : List Loc) (ls : Array Slot), (0 ≤ f53_111.toInt) → (f53_111.toInt ≤ 0) → (f53_111.toInt = 0) → (f53_109.toInt = 22) → (f142_114.toInt = -1) → HT D cs A T (a0 :: tm :: q0_4 :: O) ((a0, .inr (12, [.int 0, .ref q0_1, .ref q0_2, .ref tm, .ref q0_4, .int 0, .int f53_106, .int f53_107, .int x1, .int f53_109, .int f53_110, .int f53_111, .int f53_112, .int f53_111, .int f142_114, .ref q0_15, .int q0_16, .ref q0_17, .ref q0_18, .ref q0_19, .int q0_20, .ref q0_21, .ref q0_22, .int q0_23, .int q0_24, .int q0_25, .ref q0_26, .ref q0_27, .ref q0_28, .ref q0_29, .ref q0_30, .ref q0_31, .int q0_32, .ref q0_33, .ref q0_34, .ref q0_35])) :: (tm, .inl (cs.2.1, 900, .inl f3)) :: (q0_4, .inl (cs.2.1, 1302, .inl g53_2)) :: X) H → va_S A s.heap H locs → lv_has ls 3 [(0, .ref a0)] → W p l e { frames := 33, cells := 0, slots := 0, locals := 703 } s m [.ref a0, .int x1].toArray below meth c H locs 0 0 (MQ below (Ti D cs (fun r u => ∃ (T2 : TF) (hg2 : Nat) (mq2 : Nat), u = (T2, tm :: O, (tm, .inl (cs.2.1, 900, .inl f3)) :: X) ∧ (Trm T T2 a0) ∧ (T2 a0 = some (22, hg2, mq2)) ∧ (hg2 < 90) ∧ (WFM t mq mq2 x1.toInt r.toInt)) A) [.ref a0, .int x1].toArray s 0 0 A) (F0 m 142 ls []) := by
          intro f142_114 H locs ls l_f53_111 u_f53_111 iz142 ik142 ip142 hH hS hl
          have hwo : WO t tn (g53_2 0) := RGR_WO ig53 (by decide) (by omega) (by omega) x_v507
          have hl9 : 0 ≤ (g53_2 0).toInt := by omega
          obtain ⟨e9, hs9, hH⟩ := HT.takeA hH t_q0_1 (nm_c (tag_ne t_q0_1 t_a0 (fun q => absurd (show 8 = 22 from congrArg Prod.fst q) (by decide))) (nm_c (tag_ne t_q0_1 t_tm (fun q => absurd (show 8 = 9 from congrArg Prod.fst q) (by decide))) (nm_c (tag_ne t_q0_1 t_q0_4 (fun q => absurd (show 3906 = 1302 from congrArg (fun z => z.2.1) q) (by decide))) (nm_t (hO0.no t_q0_1 (by decide))))))
          obtain ⟨f1, rfl, s_f1, g_f1⟩ : ∃ f : Nat → Int32, e9 = .inl (cs.2.1, 3906, .inl f) ∧ B8 3906 f ∧ (3906 = 3906 → f 1 = nI (hg / 6) ∧ f 2 = nI (hg % 6)) := hs9
          have hO : okO T (q0_1 :: a0 :: tm :: q0_4 :: O) [] := okO.cons (hO.sub (by decide)) t_q0_1 (by decide)
          refine lv_iconst (v := 0) hx hb dX12_wall_142 (by decide) ?_
          have J144 : ∀ (n : Nat) (p144_2 : Int32) (g144_0 : Nat → Int32) (H : Heap) (locs : List Loc) (ls : Array Slot), (1302 - p144_2.toInt).toNat = n → (0 ≤ p144_2.toInt) → (p144_2.toInt ≤ 1302) → (CW f1 g53_2 g144_0 p144_2.toInt.toNat) → HT D cs A T (q0_1 :: a0 :: tm :: q0_4 :: O) ((q0_1, .inl (cs.2.1, 3906, .inl g144_0)) :: (a0, .inr (12, [.int 0, .ref q0_1, .ref q0_2, .ref tm, .ref q0_4, .int 0, .int f53_106, .int f53_107, .int x1, .int f53_109, .int f53_110, .int f53_111, .int f53_112, .int f53_111, .int f142_114, .ref q0_15, .int q0_16, .ref q0_17, .ref q0_18, .ref q0_19, .int q0_20, .ref q0_21, .ref q0_22, .int q0_23, .int q0_24, .int q0_25, .ref q0_26, .ref q0_27, .ref q0_28, .ref q0_29, .ref q0_30, .ref q0_31, .int q0_32, .ref q0_33, .ref q0_34, .ref q0_35])) :: (tm, .inl (cs.2.1, 900, .inl f3)) :: (q0_4, .inl (cs.2.1, 1302, .inl g53_2)) :: X) H → va_S A s.heap H locs → lv_has ls 3 [(2, .int p144_2), (0, .ref a0)] → W p l e { frames := 33, cells := 0, slots := 0, locals := 703 } s m [.ref a0, .int x1].toArray below meth c H locs 0 0 (MQ below (Ti D cs (fun r u => ∃ (T2 : TF) (hg2 : Nat) (mq2 : Nat), u = (T2, tm :: O, (tm, .inl (cs.2.1, 900, .inl f3)) :: X) ∧ (Trm T T2 a0) ∧ (T2 a0 = some (22, hg2, mq2)) ∧ (hg2 < 90) ∧ (WFM t mq mq2 x1.toInt r.toInt)) A) [.ref a0, .int x1].toArray s 0 0 A) (F0 m 144 ls []) := by
            intro n
            induction n using Nat.strongRecOn with
            | _ n ih144 =>
              intro p144_2 g144_0 H locs ls hm144 l_p144_2 u_p144_2 i144 hH hS hl
              refine lv_iload_n hx hb dX12_wall_144 rfl (lv_at hl 0 rfl) ?_
              refine lv_sipush (v := 1302) hx hb dX12_wall_145 (by decide) ?_
              refine lv_icmp_ge (tgt := 169) hx hb dX12_wall_148 (by decide) (fun c148 => ?_) (fun c148 => ?_)
              · skip
                have tc148 := f_ge (k := 1302) (by decide) c148
                have s_g144_0 := CW_B8 i144 (by omega) s_f1 s_g53_2
                obtain ⟨hg, b_hg, g_g144_0⟩ := hg_of s_g144_0.first
                have ha0 : g144_0 0 = g53_2 0 := (i144 0).trans (if_pos (by omega))
                refine lv_iconst (v := 0) hx hb dX12_wall_169 (by decide) ?_
                have J171 : ∀ (n : Nat) (p171_2 : Int32) (g171_0 : Nat → Int32) (H : Heap) (locs : List Loc) (ls : Array Slot), (14 - p171_2.toInt).toNat = n → (B8 3906 g171_0) → (g171_0 1 = nI (hg / 6) ∧ g171_0 2 = nI (hg % 6)) → (0 ≤ p171_2.toInt) → (p171_2.toInt ≤ 14) → (g171_0 0 = g53_2 0) → HT D cs A T (q0_1 :: a0 :: tm :: q0_4 :: O) ((q0_1, .inl (cs.2.1, 3906, .inl g171_0)) :: (a0, .inr (12, [.int 0, .ref q0_1, .ref q0_2, .ref tm, .ref q0_4, .int 0, .int f53_106, .int f53_107, .int x1, .int f53_109, .int f53_110, .int f53_111, .int f53_112, .int f53_111, .int f142_114, .ref q0_15, .int q0_16, .ref q0_17, .ref q0_18, .ref q0_19, .int q0_20, .ref q0_21, .ref q0_22, .int q0_23, .int q0_24, .int q0_25, .ref q0_26, .ref q0_27, .ref q0_28, .ref q0_29, .ref q0_30, .ref q0_31, .int q0_32, .ref q0_33, .ref q0_34, .ref q0_35])) :: (tm, .inl (cs.2.1, 900, .inl f3)) :: (q0_4, .inl (cs.2.1, 1302, .inl g53_2)) :: X) H → va_S A s.heap H locs → lv_has ls 3 [(2, .int p171_2), (0, .ref a0)] → W p l e { frames := 33, cells := 0, slots := 0, locals := 703 } s m [.ref a0, .int x1].toArray below meth c H locs 0 0 (MQ below (Ti D cs (fun r u => ∃ (T2 : TF) (hg2 : Nat) (mq2 : Nat), u = (T2, tm :: O, (tm, .inl (cs.2.1, 900, .inl f3)) :: X) ∧ (Trm T T2 a0) ∧ (T2 a0 = some (22, hg2, mq2)) ∧ (hg2 < 90) ∧ (WFM t mq mq2 x1.toInt r.toInt)) A) [.ref a0, .int x1].toArray s 0 0 A) (F0 m 171 ls []) := by
                  intro n
                  induction n using Nat.strongRecOn with
                  | _ n ih171 =>
                    intro p171_2 g171_0 H locs ls hm171 s_g171_0 g_g171_0 l_p171_2 u_p171_2 i171z hH hS hl
                    refine lv_iload_n hx hb dX12_wall_171 rfl (lv_at hl 0 rfl) ?_
                    refine lv_aload_n hx hb dX12_wall_172 rfl (lv_at hl 1 rfl) ?_
                    refine x_getk (ci := 12) (C := RX12) (F := TX12) (N := 36) (v := .ref q0_1) hx hb hts uX12 hown hkb hH 1 rfl rfl 1 (by decide) rfl kw_1224 (fun _ h9 => h9) dX12_wall_173 ?_
                    refine lv_iconst (v := 1) hx hb dX12_wall_176 (by decide) ?_
                    refine xa_ild hx hb hkb hH 0 rfl (by decide) (by decide) dX12_wall_177 ?_
                    refine lv_topi (fun v177 ev177 => ?_)
                    have tv177 : v177 = g171_0 1 := by rw [ev177]; rfl
                    have bv177 : 0 ≤ v177.toInt ∧ v177.toInt ≤ 14 := by rw [ev177]; exact (s_g171_0.at (by decide) 1).1 (by decide)
                    have hv177 : v177.toInt = ((hg / 6 : Nat) : Int) := by rw [tv177, g_g171_0.1]; exact nI_toInt (by omega)
                    refine lv_icmp_ge (tgt := 216) hx hb dX12_wall_178 (by decide) (fun c178 => ?_) (fun c178 => ?_)
                    · skip
                      have fuc178 := full_i p171_2
                      have fvc178 := full_i v177
                      have tc178 := g_le c178
                      refine lv_aload_n hx hb dX12_wall_216 rfl (lv_at hl 1 rfl) ?_
                      refine x_getk (ci := 12) (C := RX12) (F := TX12) (N := 36) (v := .ref q0_1) hx hb hts uX12 hown hkb hH 1 rfl rfl 1 (by decide) rfl kw_1224 (fun _ h9 => h9) dX12_wall_217 ?_
                      refine lv_iconst (v := 0) hx hb dX12_wall_220 (by decide) ?_
                      refine xa_ild hx hb hkb hH 0 rfl (by decide) (by decide) dX12_wall_221 ?_
                      refine lv_topi (fun v221 ev221 => ?_)
                      have tv221 : v221 = g171_0 0 := by rw [ev221]; rfl
                      obtain ⟨T2, ta2, tm2, hs2, rk2, hH⟩ := HT.rk (hg2 := hg) (mq2 := 0) hH t_a0 t_q0_1 hU (by simp) (by simp)
                      have t_q0_2 := (hs2 _ (tag_ne t_q0_2 t_a0 (fun q => absurd (show 3 = 22 from congrArg Prod.fst q) (by decide))) (tag_ne t_q0_2 t_q0_1 (fun q => absurd (show 3 = 8 from congrArg Prod.fst q) (by decide)))).trans t_q0_2
                      have t_tm := (hs2 _ (tag_ne t_tm t_a0 (fun q => absurd (show 9 = 22 from congrArg Prod.fst q) (by decide))) (tag_ne t_tm t_q0_1 (fun q => absurd (show 9 = 8 from congrArg Prod.fst q) (by decide)))).trans t_tm
                      have t_q0_4 := (hs2 _ (tag_ne t_q0_4 t_a0 (fun q => absurd (show 8 = 22 from congrArg Prod.fst q) (by decide))) (tag_ne t_q0_4 t_q0_1 (fun q => absurd (show 1302 = 3906 from congrArg (fun z => z.2.1) q) (by decide)))).trans t_q0_4
                      have t_q0_15 := (hs2 _ (tag_ne t_q0_15 t_a0 (fun q => absurd (show 1 = 22 from congrArg Prod.fst q) (by decide))) (tag_ne t_q0_15 t_q0_1 (fun q => absurd (show 1 = 8 from congrArg Prod.fst q) (by decide)))).trans t_q0_15
                      have t_q0_17 := (hs2 _ (tag_ne t_q0_17 t_a0 (fun q => absurd (show 9 = 22 from congrArg Prod.fst q) (by decide))) (tag_ne t_q0_17 t_q0_1 (fun q => absurd (show 9 = 8 from congrArg Prod.fst q) (by decide)))).trans t_q0_17
                      have t_q0_18 := (hs2 _ (tag_ne t_q0_18 t_a0 (fun q => absurd (show 9 = 22 from congrArg Prod.fst q) (by decide))) (tag_ne t_q0_18 t_q0_1 (fun q => absurd (show 9 = 8 from congrArg Prod.fst q) (by decide)))).trans t_q0_18
                      have t_q0_19 := (hs2 _ (tag_ne t_q0_19 t_a0 (fun q => absurd (show 1 = 22 from congrArg Prod.fst q) (by decide))) (tag_ne t_q0_19 t_q0_1 (fun q => absurd (show 1 = 8 from congrArg Prod.fst q) (by decide)))).trans t_q0_19
                      have t_q0_21 := (hs2 _ (tag_ne t_q0_21 t_a0 (fun q => absurd (show 1 = 22 from congrArg Prod.fst q) (by decide))) (tag_ne t_q0_21 t_q0_1 (fun q => absurd (show 1 = 8 from congrArg Prod.fst q) (by decide)))).trans t_q0_21
                      have t_q0_22 := (hs2 _ (tag_ne t_q0_22 t_a0 (fun q => absurd (show 1 = 22 from congrArg Prod.fst q) (by decide))) (tag_ne t_q0_22 t_q0_1 (fun q => absurd (show 1 = 8 from congrArg Prod.fst q) (by decide)))).trans t_q0_22
                      have t_q0_26 := (hs2 _ (tag_ne t_q0_26 t_a0 (fun q => absurd (show 2 = 22 from congrArg Prod.fst q) (by decide))) (tag_ne t_q0_26 t_q0_1 (fun q => absurd (show 2 = 8 from congrArg Prod.fst q) (by decide)))).trans t_q0_26
                      have t_q0_27 := (hs2 _ (tag_ne t_q0_27 t_a0 (fun q => absurd (show 3 = 22 from congrArg Prod.fst q) (by decide))) (tag_ne t_q0_27 t_q0_1 (fun q => absurd (show 3 = 8 from congrArg Prod.fst q) (by decide)))).trans t_q0_27
                      have t_q0_28 := (hs2 _ (tag_ne t_q0_28 t_a0 (fun q => absurd (show 0 = 22 from congrArg Prod.fst q) (by decide))) (tag_ne t_q0_28 t_q0_1 (fun q => absurd (show 0 = 8 from congrArg Prod.fst q) (by decide)))).trans t_q0_28
                      have t_q0_29 := (hs2 _ (tag_ne t_q0_29 t_a0 (fun q => absurd (show 1 = 22 from congrArg Prod.fst q) (by decide))) (tag_ne t_q0_29 t_q0_1 (fun q => absurd (show 1 = 8 from congrArg Prod.fst q) (by decide)))).trans t_q0_29
                      have t_q0_30 := (hs2 _ (tag_ne t_q0_30 t_a0 (fun q => absurd (show 1 = 22 from congrArg Prod.fst q) (by decide))) (tag_ne t_q0_30 t_q0_1 (fun q => absurd (show 1 = 8 from congrArg Prod.fst q) (by decide)))).trans t_q0_30
                      have t_q0_31 := (hs2 _ (tag_ne t_q0_31 t_a0 (fun q => absurd (show 1 = 22 from congrArg Prod.fst q) (by decide))) (tag_ne t_q0_31 t_q0_1 (fun q => absurd (show 1 = 8 from congrArg Prod.fst q) (by decide)))).trans t_q0_31
                      have t_q0_33 := (hs2 _ (tag_ne t_q0_33 t_a0 (fun q => absurd (show 1 = 22 from congrArg Prod.fst q) (by decide))) (tag_ne t_q0_33 t_q0_1 (fun q => absurd (show 1 = 8 from congrArg Prod.fst q) (by decide)))).trans t_q0_33
                      have t_q0_34 := (hs2 _ (tag_ne t_q0_34 t_a0 (fun q => absurd (show 1 = 22 from congrArg Prod.fst q) (by decide))) (tag_ne t_q0_34 t_q0_1 (fun q => absurd (show 1 = 8 from congrArg Prod.fst q) (by decide)))).trans t_q0_34
                      have t_q0_35 := (hs2 _ (tag_ne t_q0_35 t_a0 (fun q => absurd (show 2 = 22 from congrArg Prod.fst q) (by decide))) (tag_ne t_q0_35 t_q0_1 (fun q => absurd (show 2 = 8 from congrArg Prod.fst q) (by decide)))).trans t_q0_35
                      have hH : HT D cs A T2 (a0 :: tm :: q0_4 :: O) ((a0, .inr (12, [.int 0, .ref q0_1, .ref q0_2, .ref tm, .ref q0_4, .int 0, .int f53_106, .int f53_107, .int x1, .int f53_109, .int f53_110, .int f53_111, .int f53_112, .int f53_111, .int f142_114, .ref q0_15, .int q0_16, .ref q0_17, .ref q0_18, .ref q0_19, .int q0_20, .ref q0_21, .ref q0_22, .int q0_23, .int q0_24, .int q0_25, .ref q0_26, .ref q0_27, .ref q0_28, .ref q0_29, .ref q0_30, .ref q0_31, .int q0_32, .ref q0_33, .ref q0_34, .ref q0_35])) :: (tm, .inl (cs.2.1, 900, .inl f3)) :: (q0_4, .inl (cs.2.1, 1302, .inl g53_2)) :: X) H := HT.layA hH ta2 (show sp cs T2 (8, 3906, hg) _ from ⟨_, rfl, s_g171_0, fun _ => g_g171_0⟩)
                      have t_q0_1 := ta2
                      have t_a0 := tm2
                      have hH : HT D cs A T2 (tm :: q0_4 :: O) ((tm, .inl (cs.2.1, 900, .inl f3)) :: (q0_4, .inl (cs.2.1, 1302, .inl g53_2)) :: X) H := HT.lay (ci := 12) hH t_a0 (okL_c (⟨_, rfl⟩) (okL_c (⟨_, rfl, t_q0_1⟩) (okL_c (⟨_, rfl, t_q0_2⟩) (okL_c (⟨_, rfl, t_tm⟩) (okL_c (⟨_, rfl, t_q0_4⟩) (okL_c (⟨_, rfl, by decide, by decide, by have k9 : (0 : Int32).toInt = 0 := (by decide); omega⟩) (okL_c (⟨_, rfl⟩) (okL_c (⟨_, rfl⟩) (okL_c (⟨_, rfl⟩) (okL_c (⟨_, rfl⟩) (okL_c (⟨_, rfl, by omega, by omega⟩) (okL_c (⟨_, rfl⟩) (okL_c (⟨_, rfl⟩) (okL_c (⟨_, rfl, by omega⟩) (okL_c (⟨_, rfl, by omega⟩) (okL_c (⟨_, rfl, t_q0_15⟩) (okL_c (⟨_, rfl⟩) (okL_c (⟨_, rfl, t_q0_17⟩) (okL_c (⟨_, rfl, t_q0_18⟩) (okL_c (⟨_, rfl, t_q0_19⟩) (okL_c (⟨_, rfl, by omega, by omega⟩) (okL_c (⟨_, rfl, t_q0_21⟩) (okL_c (⟨_, rfl, t_q0_22⟩) (okL_c (⟨_, rfl⟩) (okL_c (⟨_, rfl⟩) (okL_c (⟨_, rfl⟩) (okL_c (⟨_, rfl, t_q0_26⟩) (okL_c (⟨_, rfl, t_q0_27⟩) (okL_c (⟨_, rfl, t_q0_28⟩) (okL_c (⟨_, rfl, t_q0_29⟩) (okL_c (⟨_, rfl, t_q0_30⟩) (okL_c (⟨_, rfl, t_q0_31⟩) (okL_c (⟨_, rfl⟩) (okL_c (⟨_, rfl, t_q0_33⟩) (okL_c (⟨_, rfl, t_q0_34⟩) (okL_c (⟨_, rfl, t_q0_35⟩) (okL_n)))))))))))))))))))))))))))))))))))))
                      have hO := hO0
                      have hH : HT D cs A T2 (q0_4 :: tm :: O) ((q0_4, .inl (cs.2.1, 1302, .inl g53_2)) :: (tm, .inl (cs.2.1, 900, .inl f3)) :: X) H := HT.pm (Y := [(tm, .inl (cs.2.1, 900, .inl f3)), (q0_4, .inl (cs.2.1, 1302, .inl g53_2))]) (Y2 := [(q0_4, .inl (cs.2.1, 1302, .inl g53_2)), (tm, .inl (cs.2.1, 900, .inl f3))]) (X := X) (ym := 2) [1, 0] hH rfl rfl (fun k hk => match k, hk with | 0, _ => rfl | 1, _ => rfl | k + 2, h => absurd h (by show ¬ k + 2 < 2; omega)) (by decide) (by intro a ha; simp only [List.mem_cons] at ha ⊢; rcases ha with h | h | h; exact Or.inr (Or.inl h); exact Or.inl h; exact Or.inr (Or.inr (h)))
                      have hH : HT D cs A T2 (tm :: O) ((tm, .inl (cs.2.1, 900, .inl f3)) :: X) H := HT.layA hH t_q0_4 (show sp cs T2 (8, 1302, 0) _ from ⟨_, rfl, B8_of s_g53_2, fun q => absurd q (by decide)⟩)
                      exact te_i hx hb hr hlocks hH hS (⟨T2, hg, 0, rfl, rk2, tm2, b_hg, (WFM_g ⟨by omega, by omega⟩ hn hwo (by rw [tv221, i171z]) hl9)⟩) dX12_wall_222
                    · skip
                      have fuc178 := full_i p171_2
                      have fvc178 := full_i v177
                      have tc178 := g_nle c178
                      refine lv_aload_n hx hb dX12_wall_181 rfl (lv_at hl 1 rfl) ?_
                      refine x_getk (ci := 12) (C := RX12) (F := TX12) (N := 36) (v := .ref q0_1) hx hb hts uX12 hown hkb hH 1 rfl rfl 1 (by decide) rfl kw_1224 (fun _ h9 => h9) dX12_wall_182 ?_
                      refine lv_bipush (v := 59) hx hb dX12_wall_185 (by decide) ?_
                      refine lv_iload_n hx hb dX12_wall_187 rfl (lv_at hl 0 rfl) ?_
                      refine lv_iadd hx hb dX12_wall_188 ?_
                      refine lv_topi (fun v188 ev188 => ?_)
                      have tv188 : v188.toInt = (59) + p171_2.toInt := by rw [ev188]; exact add_i (by decide : (59 : Int32).toInt = 59) rfl (by omega) (by omega)
                      refine xa_ild hx hb hkb hH 0 rfl (by omega) (by omega) dX12_wall_189 ?_
                      refine lv_topi (fun v189 ev189 => ?_)
                      have tv189 : v189 = g171_0 v188.toInt.toNat := ev189
                      refine lv_iconst (v := (-1)) hx hb dX12_wall_190 (by decide) ?_
                      have J210 : ∀ (g210_0 : Nat → Int32) (H : Heap) (locs : List Loc) (ls : Array Slot), (B8 3906 g210_0) → (g210_0 1 = nI (hg / 6) ∧ g210_0 2 = nI (hg % 6)) → (g210_0 0 = g53_2 0) → HT D cs A T (q0_1 :: a0 :: tm :: q0_4 :: O) ((q0_1, .inl (cs.2.1, 3906, .inl g210_0)) :: (a0, .inr (12, [.int 0, .ref q0_1, .ref q0_2, .ref tm, .ref q0_4, .int 0, .int f53_106, .int f53_107, .int x1, .int f53_109, .int f53_110, .int f53_111, .int f53_112, .int f53_111, .int f142_114, .ref q0_15, .int q0_16, .ref q0_17, .ref q0_18, .ref q0_19, .int q0_20, .ref q0_21, .ref q0_22, .int q0_23, .int q0_24, .int q0_25, .ref q0_26, .ref q0_27, .ref q0_28, .ref q0_29, .ref q0_30, .ref q0_31, .int q0_32, .ref q0_33, .ref q0_34, .ref q0_35])) :: (tm, .inl (cs.2.1, 900, .inl f3)) :: (q0_4, .inl (cs.2.1, 1302, .inl g53_2)) :: X) H → va_S A s.heap H locs → lv_has ls 3 [(2, .int p171_2), (0, .ref a0)] → W p l e { frames := 33, cells := 0, slots := 0, locals := 703 } s m [.ref a0, .int x1].toArray below meth c H locs 0 0 (MQ below (Ti D cs (fun r u => ∃ (T2 : TF) (hg2 : Nat) (mq2 : Nat), u = (T2, tm :: O, (tm, .inl (cs.2.1, 900, .inl f3)) :: X) ∧ (Trm T T2 a0) ∧ (T2 a0 = some (22, hg2, mq2)) ∧ (hg2 < 90) ∧ (WFM t mq mq2 x1.toInt r.toInt)) A) [.ref a0, .int x1].toArray s 0 0 A) (F0 m 210 ls []) := by
                        intro g210_0 H locs ls s_g210_0 g_g210_0 i210z hH hS hl
                        obtain ⟨v210, ev210⟩ : ∃ y : Int32, y = p171_2 + 1 := ⟨_, rfl⟩
                        have tv210 : v210.toInt = p171_2.toInt + (1) := by rw [ev210]; exact add_i rfl (by decide) (by omega) (by omega)
                        refine lv_iinc (v := v210) (lv' := [(2, .int v210), (0, .ref a0)]) hx hb dX12_wall_210 hl (k := 0) rfl (by rw [ev210]; rfl) (by decide) rfl (fun ls hl => ?_)
                        refine lv_goto (tgt := 171) hx hb dX12_wall_213 (by decide) ?_
                        exact ih171 _ (by omega) v210 g210_0 _ _ _ rfl s_g210_0 g_g210_0 (by omega) (by omega) (by first | exact ha0 | exact i210z) hH hS (lv_sub hl [0, 1] rfl)
                      refine lv_icmp_eq (tgt := 210) hx hb dX12_wall_191 (by decide) (fun c191 => ?_) (fun c191 => ?_)
                      · skip
                        have tc191 := f_eq (k := -1) (by decide) c191
                        exact J210 g171_0 _ _ _ s_g171_0 g_g171_0 (by first | exact i171z | (rw [eF209, upd_ne (by omega)]; exact i171z)) hH hS (lv_sub hl [0, 1] rfl)
                      · skip
                        have tc191 := f_ne (k := -1) (by decide) c191
                        refine lv_aload_n hx hb dX12_wall_194 rfl (lv_at hl 1 rfl) ?_
                        refine x_getk (ci := 12) (C := RX12) (F := TX12) (N := 36) (v := .ref q0_1) hx hb hts uX12 hown hkb hH 1 rfl rfl 1 (by decide) rfl kw_1224 (fun _ h9 => h9) dX12_wall_195 ?_
                        refine lv_bipush (v := 73) hx hb dX12_wall_198 (by decide) ?_
                        refine lv_iload_n hx hb dX12_wall_200 rfl (lv_at hl 0 rfl) ?_
                        refine lv_iadd hx hb dX12_wall_201 ?_
                        refine lv_topi (fun v201 ev201 => ?_)
                        have tv201 : v201.toInt = (73) + p171_2.toInt := by rw [ev201]; exact add_i (by decide : (73 : Int32).toInt = 73) rfl (by omega) (by omega)
                        refine lv_aload_n hx hb dX12_wall_202 rfl (lv_at hl 1 rfl) ?_
                        refine x_getk (ci := 12) (C := RX12) (F := TX12) (N := 36) (v := .ref q0_1) hx hb hts uX12 hown hkb hH 1 rfl rfl 1 (by decide) rfl kw_1224 (fun _ h9 => h9) dX12_wall_203 ?_
                        refine lv_bipush (v := 88) hx hb dX12_wall_206 (by decide) ?_
                        refine xa_ild hx hb hkb hH 0 rfl (by decide) (by decide) dX12_wall_208 ?_
                        refine lv_topi (fun v208 ev208 => ?_)
                        have tv208 : v208 = g171_0 88 := by rw [ev208]; rfl
                        refine xa_ist hx hb hkb hH hS 0 rfl (by omega) (by omega) dX12_wall_209 (fun H locs hH hS => ?_)
                        have hH : HT D cs A T (q0_1 :: a0 :: tm :: q0_4 :: O) ((q0_1, .inl (cs.2.1, 3906, .inl (upd g171_0 (v201.toInt.toNat) v208))) :: (a0, .inr (12, [.int 0, .ref q0_1, .ref q0_2, .ref tm, .ref q0_4, .int 0, .int f53_106, .int f53_107, .int x1, .int f53_109, .int f53_110, .int f53_111, .int f53_112, .int f53_111, .int f142_114, .ref q0_15, .int q0_16, .ref q0_17, .ref q0_18, .ref q0_19, .int q0_20, .ref q0_21, .ref q0_22, .int q0_23, .int q0_24, .int q0_25, .ref q0_26, .ref q0_27, .ref q0_28, .ref q0_29, .ref q0_30, .ref q0_31, .int q0_32, .ref q0_33, .ref q0_34, .ref q0_35])) :: (tm, .inl (cs.2.1, 900, .inl f3)) :: (q0_4, .inl (cs.2.1, 1302, .inl g53_2)) :: X) H := hH
                        obtain ⟨F209, eF209⟩ : ∃ f9, f9 = upd g171_0 (v201.toInt.toNat) v208 := ⟨_, rfl⟩
                        have hH : HT D cs A T (q0_1 :: a0 :: tm :: q0_4 :: O) ((q0_1, .inl (cs.2.1, 3906, .inl F209)) :: (a0, .inr (12, [.int 0, .ref q0_1, .ref q0_2, .ref tm, .ref q0_4, .int 0, .int f53_106, .int f53_107, .int x1, .int f53_109, .int f53_110, .int f53_111, .int f53_112, .int f53_111, .int f142_114, .ref q0_15, .int q0_16, .ref q0_17, .ref q0_18, .ref q0_19, .int q0_20, .ref q0_21, .ref q0_22, .int q0_23, .int q0_24, .int q0_25, .ref q0_26, .ref q0_27, .ref q0_28, .ref q0_29, .ref q0_30, .ref q0_31, .int q0_32, .ref q0_33, .ref q0_34, .ref q0_35])) :: (tm, .inl (cs.2.1, 900, .inl f3)) :: (q0_4, .inl (cs.2.1, 1302, .inl g53_2)) :: X) H := eF209 ▸ hH
                        have g_F209 : F209 1 = nI (hg / 6) ∧ F209 2 = nI (hg % 6) := by rw [eF209]; exact ⟨(upd_ne (by omega)).trans g_g171_0.1, (upd_ne (by omega)).trans g_g171_0.2⟩
                        have s_F209 : B8 3906 F209 := by rw [eF209]; exact s_g171_0.put (i := v201) (x := v208) (by omega) (by omega) (p8_far (by omega) (⟨by omega, by omega⟩))
                        exact J210 F209 _ _ _ s_F209 g_F209 (by first | exact i171z | (rw [eF209, upd_ne (by omega)]; exact i171z)) hH hS (lv_sub hl [0, 1] rfl)
                refine lv_istore_n (lv' := [(2, .int 0), (0, .ref a0)]) hx hb dX12_wall_170 rfl hl (by decide) rfl (fun ls hl => ?_)
                have z_0 : (0 : Int32).toInt = 0 := by decide
                exact J171 _ 0 g144_0 _ _ _ rfl s_g144_0 g_g144_0 (by decide) (by decide) (by first | exact ha0 | exact i210z) hH hS (lv_sub hl [0, 1] rfl)
              · skip
                have tc148 := f_nge (k := 1302) (by decide) c148
                refine lv_aload_n hx hb dX12_wall_151 rfl (lv_at hl 1 rfl) ?_
                refine x_getk (ci := 12) (C := RX12) (F := TX12) (N := 36) (v := .ref q0_1) hx hb hts uX12 hown hkb hH 1 rfl rfl 1 (by decide) rfl kw_1224 (fun _ h9 => h9) dX12_wall_152 ?_
                refine lv_iload_n hx hb dX12_wall_155 rfl (lv_at hl 0 rfl) ?_
                refine lv_aload_n hx hb dX12_wall_156 rfl (lv_at hl 1 rfl) ?_
                refine x_getk (ci := 12) (C := RX12) (F := TX12) (N := 36) (v := .ref q0_4) hx hb hts uX12 hown hkb hH 1 rfl rfl 4 (by decide) rfl kw_1227 (fun _ h9 => h9) dX12_wall_157 ?_
                refine lv_iload_n hx hb dX12_wall_160 rfl (lv_at hl 0 rfl) ?_
                refine xa_ild hx hb hkb hH 3 rfl (by omega) (by omega) dX12_wall_161 ?_
                refine lv_topi (fun v161 ev161 => ?_)
                have tv161 : v161 = g53_2 p144_2.toInt.toNat := ev161
                refine xa_ist hx hb hkb hH hS 0 rfl (by omega) (by omega) dX12_wall_162 (fun H locs hH hS => ?_)
                have hH : HT D cs A T (q0_1 :: a0 :: tm :: q0_4 :: O) ((q0_1, .inl (cs.2.1, 3906, .inl (upd g144_0 (p144_2.toInt.toNat) v161))) :: (a0, .inr (12, [.int 0, .ref q0_1, .ref q0_2, .ref tm, .ref q0_4, .int 0, .int f53_106, .int f53_107, .int x1, .int f53_109, .int f53_110, .int f53_111, .int f53_112, .int f53_111, .int f142_114, .ref q0_15, .int q0_16, .ref q0_17, .ref q0_18, .ref q0_19, .int q0_20, .ref q0_21, .ref q0_22, .int q0_23, .int q0_24, .int q0_25, .ref q0_26, .ref q0_27, .ref q0_28, .ref q0_29, .ref q0_30, .ref q0_31, .int q0_32, .ref q0_33, .ref q0_34, .ref q0_35])) :: (tm, .inl (cs.2.1, 900, .inl f3)) :: (q0_4, .inl (cs.2.1, 1302, .inl g53_2)) :: X) H := hH
                obtain ⟨F162, eF162⟩ : ∃ f9, f9 = upd g144_0 (p144_2.toInt.toNat) v161 := ⟨_, rfl⟩
                have hH : HT D cs A T (q0_1 :: a0 :: tm :: q0_4 :: O) ((q0_1, .inl (cs.2.1, 3906, .inl F162)) :: (a0, .inr (12, [.int 0, .ref q0_1, .ref q0_2, .ref tm, .ref q0_4, .int 0, .int f53_106, .int f53_107, .int x1, .int f53_109, .int f53_110, .int f53_111, .int f53_112, .int f53_111, .int f142_114, .ref q0_15, .int q0_16, .ref q0_17, .ref q0_18, .ref q0_19, .int q0_20, .ref q0_21, .ref q0_22, .int q0_23, .int q0_24, .int q0_25, .ref q0_26, .ref q0_27, .ref q0_28, .ref q0_29, .ref q0_30, .ref q0_31, .int q0_32, .ref q0_33, .ref q0_34, .ref q0_35])) :: (tm, .inl (cs.2.1, 900, .inl f3)) :: (q0_4, .inl (cs.2.1, 1302, .inl g53_2)) :: X) H := eF162 ▸ hH
                obtain ⟨v163, ev163⟩ : ∃ y : Int32, y = p144_2 + 1 := ⟨_, rfl⟩
                have tv163 : v163.toInt = p144_2.toInt + (1) := by rw [ev163]; exact add_i rfl (by decide) (by omega) (by omega)
                refine lv_iinc (v := v163) (lv' := [(2, .int v163), (0, .ref a0)]) hx hb dX12_wall_163 hl (k := 0) rfl (by rw [ev163]; rfl) (by decide) rfl (fun ls hl => ?_)
                refine lv_goto (tgt := 144) hx hb dX12_wall_166 (by decide) ?_
                exact ih144 _ (by omega) v163 F162 _ _ _ rfl (by omega) (by omega) (by first | (refine CW_0 ?_; decide) | (refine CW_s i144 ?_ tv163 tv161 eF162; omega)) hH hS (lv_sub hl [0, 1] rfl)
          refine lv_istore_n (lv' := [(2, .int 0), (0, .ref a0)]) hx hb dX12_wall_143 rfl hl (by decide) rfl (fun ls hl => ?_)
          have z_0 : (0 : Int32).toInt = 0 := by decide
          exact J144 _ 0 f1 _ _ _ rfl (by decide) (by decide) (by first | (refine CW_0 ?_; decide) | (refine CW_s i144 ?_ tv163 tv161 eF162; omega)) hH hS (lv_sub hl [0, 1] rfl)
        refine lv_if_ne (tgt := 100) hx hb dX12_wall_57 (by decide) (fun c57 => ?_) (fun c57 => ?_)
        · skip
          have tc57 := f_ne (k := 0) (by decide) c57
          refine lv_aload_n hx hb dX12_wall_100 rfl (lv_at hl 0 rfl) ?_
          refine lv_aload_n hx hb dX12_wall_101 rfl (lv_at hl 0 rfl) ?_
          refine x_getk (ci := 12) (C := RX12) (F := TX12) (N := 36) (v := .int f53_111) hx hb hts uX12 hown hkb hH 0 rfl rfl 11 (by decide) rfl kw_1234 (fun _ h9 => h9) dX12_wall_102 ?_
          refine x_putk (ci := 12) (v := .int f53_111) (ty := tyX12 13) (C := RX12) (F := TX12) (N := 36) hx hb hts uX12 tyX12 tyX12_ok nmX12 hown hkb hH hS 0 rfl rfl 13 (by decide) kw_1236 (fun _ h9 => h9) rfl (tyX12_ok 13 (by decide)) rfl rfl (Nat.le_of_ble_eq_true rfl) dX12_wall_105 (fun H locs hH hS => ?_)
          have hH : HT D cs A T (a0 :: tm :: q0_4 :: O) ((a0, .inr (12, [.int 0, .ref q0_1, .ref q0_2, .ref tm, .ref q0_4, .int 0, .int f53_106, .int f53_107, .int x1, .int f53_109, .int f53_110, .int f53_111, .int f53_112, .int f53_111, .int q0_14, .ref q0_15, .int q0_16, .ref q0_17, .ref q0_18, .ref q0_19, .int q0_20, .ref q0_21, .ref q0_22, .int q0_23, .int q0_24, .int q0_25, .ref q0_26, .ref q0_27, .ref q0_28, .ref q0_29, .ref q0_30, .ref q0_31, .int q0_32, .ref q0_33, .ref q0_34, .ref q0_35])) :: (tm, .inl (cs.2.1, 900, .inl f3)) :: (q0_4, .inl (cs.2.1, 1302, .inl g53_2)) :: X) H := hH
          refine lv_aload_n hx hb dX12_wall_108 rfl (lv_at hl 0 rfl) ?_
          refine lv_aload_n hx hb dX12_wall_109 rfl (lv_at hl 0 rfl) ?_
          refine x_getk (ci := 12) (C := RX12) (F := TX12) (N := 36) (v := .int f53_111) hx hb hts uX12 hown hkb hH 0 rfl rfl 11 (by decide) rfl kw_1234 (fun _ h9 => h9) dX12_wall_110 ?_
          refine lv_if_ne (tgt := 120) hx hb dX12_wall_113 (by decide) (fun c113 => ?_) (fun c113 => ?_)
          · skip
            have tc113 := f_ne (k := 0) (by decide) c113
            refine lv_aload_n hx hb dX12_wall_120 rfl (lv_at hl 0 rfl) ?_
            refine x_getk (ci := 12) (C := RX12) (F := TX12) (N := 36) (v := .int f53_112) hx hb hts uX12 hown hkb hH 0 rfl rfl 12 (by decide) rfl kw_1235 (fun _ h9 => h9) dX12_wall_121 ?_
            refine x_putk (ci := 12) (v := .int f53_112) (ty := tyX12 14) (C := RX12) (F := TX12) (N := 36) hx hb hts uX12 tyX12 tyX12_ok nmX12 hown hkb hH hS 0 rfl rfl 14 (by decide) kw_1237 (fun _ h9 => h9) rfl (tyX12_ok 14 (by decide)) rfl rfl (Nat.le_of_ble_eq_true rfl) dX12_wall_124 (fun H locs hH hS => ?_)
            have hH : HT D cs A T (a0 :: tm :: q0_4 :: O) ((a0, .inr (12, [.int 0, .ref q0_1, .ref q0_2, .ref tm, .ref q0_4, .int 0, .int f53_106, .int f53_107, .int x1, .int f53_109, .int f53_110, .int f53_111, .int f53_112, .int f53_111, .int f53_112, .ref q0_15, .int q0_16, .ref q0_17, .ref q0_18, .ref q0_19, .int q0_20, .ref q0_21, .ref q0_22, .int q0_23, .int q0_24, .int q0_25, .ref q0_26, .ref q0_27, .ref q0_28, .ref q0_29, .ref q0_30, .ref q0_31, .int q0_32, .ref q0_33, .ref q0_34, .ref q0_35])) :: (tm, .inl (cs.2.1, 900, .inl f3)) :: (q0_4, .inl (cs.2.1, 1302, .inl g53_2)) :: X) H := hH
            refine lv_aload_n hx hb dX12_wall_127 rfl (lv_at hl 0 rfl) ?_
            refine x_getk (ci := 12) (C := RX12) (F := TX12) (N := 36) (v := .int f53_111) hx hb hts uX12 hown hkb hH 0 rfl rfl 11 (by decide) rfl kw_1234 (fun _ h9 => h9) dX12_wall_128 ?_
            refine lv_if_eq (tgt := 142) hx hb dX12_wall_131 (by decide) (fun c131 => ?_) (fun c131 => ?_)
            · skip
              have tc131 := f_eq (k := 0) (by decide) c131
              exact J142 f53_112 _ _ _ (by omega) (by omega) (by omega) (by omega) (by first | decide | (exfalso; omega)) hH hS (lv_sub hl [0] rfl)
            · skip
              have tc131 := f_ne (k := 0) (by decide) c131
              have ha9 : n50_0_6.toInt.toNat = nxs t tn 0 := x_v507
              have hwb := RGR_WB ig53 (by decide) (by omega) ha9
              have hb9 := hwb.b
              refine lv_bipush (v := (-30)) hx hb dX12_wall_134 (by decide) ?_
              refine lv_aload_n hx hb dX12_wall_136 rfl (lv_at hl 0 rfl) ?_
              refine x_getk (ci := 12) (C := RX12) (F := TX12) (N := 36) (v := .int f53_111) hx hb hts uX12 hown hkb hH 0 rfl rfl 11 (by decide) rfl kw_1234 (fun _ h9 => h9) dX12_wall_137 ?_
              refine lv_isub hx hb dX12_wall_140 ?_
              refine lv_topi (fun v140 ev140 => ?_)
              have tv140 : v140.toInt = (-30) - f53_111.toInt := by rw [ev140]; exact sub_i (by decide : ((-30) : Int32).toInt = -30) rfl (by omega) (by omega)
              have hH : HT D cs A T (q0_4 :: a0 :: tm :: O) ((q0_4, .inl (cs.2.1, 1302, .inl g53_2)) :: (a0, .inr (12, [.int 0, .ref q0_1, .ref q0_2, .ref tm, .ref q0_4, .int 0, .int f53_106, .int f53_107, .int x1, .int f53_109, .int f53_110, .int f53_111, .int f53_112, .int f53_111, .int f53_112, .ref q0_15, .int q0_16, .ref q0_17, .ref q0_18, .ref q0_19, .int q0_20, .ref q0_21, .ref q0_22, .int q0_23, .int q0_24, .int q0_25, .ref q0_26, .ref q0_27, .ref q0_28, .ref q0_29, .ref q0_30, .ref q0_31, .int q0_32, .ref q0_33, .ref q0_34, .ref q0_35])) :: (tm, .inl (cs.2.1, 900, .inl f3)) :: X) H := HT.pm (Y := [(a0, .inr (12, [.int 0, .ref q0_1, .ref q0_2, .ref tm, .ref q0_4, .int 0, .int f53_106, .int f53_107, .int x1, .int f53_109, .int f53_110, .int f53_111, .int f53_112, .int f53_111, .int f53_112, .ref q0_15, .int q0_16, .ref q0_17, .ref q0_18, .ref q0_19, .int q0_20, .ref q0_21, .ref q0_22, .int q0_23, .int q0_24, .int q0_25, .ref q0_26, .ref q0_27, .ref q0_28, .ref q0_29, .ref q0_30, .ref q0_31, .int q0_32, .ref q0_33, .ref q0_34, .ref q0_35])), (tm, .inl (cs.2.1, 900, .inl f3)), (q0_4, .inl (cs.2.1, 1302, .inl g53_2))]) (Y2 := [(q0_4, .inl (cs.2.1, 1302, .inl g53_2)), (a0, .inr (12, [.int 0, .ref q0_1, .ref q0_2, .ref tm, .ref q0_4, .int 0, .int f53_106, .int f53_107, .int x1, .int f53_109, .int f53_110, .int f53_111, .int f53_112, .int f53_111, .int f53_112, .ref q0_15, .int q0_16, .ref q0_17, .ref q0_18, .ref q0_19, .int q0_20, .ref q0_21, .ref q0_22, .int q0_23, .int q0_24, .int q0_25, .ref q0_26, .ref q0_27, .ref q0_28, .ref q0_29, .ref q0_30, .ref q0_31, .int q0_32, .ref q0_33, .ref q0_34, .ref q0_35])), (tm, .inl (cs.2.1, 900, .inl f3))]) (X := X) (ym := 3) [2, 0, 1] hH rfl rfl (fun k hk => match k, hk with | 0, _ => rfl | 1, _ => rfl | 2, _ => rfl | k + 3, h => absurd h (by show ¬ k + 3 < 3; omega)) (by decide) (by intro a ha; simp only [List.mem_cons] at ha ⊢; rcases ha with h | h | h | h; exact Or.inr (Or.inl h); exact Or.inr (Or.inr (Or.inl h)); exact Or.inl h; exact Or.inr (Or.inr (Or.inr (h))))
              have hH : HT D cs A T (a0 :: tm :: O) ((a0, .inr (12, [.int 0, .ref q0_1, .ref q0_2, .ref tm, .ref q0_4, .int 0, .int f53_106, .int f53_107, .int x1, .int f53_109, .int f53_110, .int f53_111, .int f53_112, .int f53_111, .int f53_112, .ref q0_15, .int q0_16, .ref q0_17, .ref q0_18, .ref q0_19, .int q0_20, .ref q0_21, .ref q0_22, .int q0_23, .int q0_24, .int q0_25, .ref q0_26, .ref q0_27, .ref q0_28, .ref q0_29, .ref q0_30, .ref q0_31, .int q0_32, .ref q0_33, .ref q0_34, .ref q0_35])) :: (tm, .inl (cs.2.1, 900, .inl f3)) :: X) H := HT.layA hH t_q0_4 (show sp cs T (8, 1302, 0) _ from ⟨_, rfl, B8_of s_g53_2, fun q => absurd q (by decide)⟩)
              obtain ⟨T2, tm2, hs2, rk2, hH⟩ := HT.mg (mq2 := (qZ f53_111 f53_112)) hH t_a0 hU (by simp)
              have t_q0_1 := (hs2 _ (tag_ne t_q0_1 t_a0 (fun q => absurd (show 8 = 22 from congrArg Prod.fst q) (by decide)))).trans t_q0_1
              have t_q0_2 := (hs2 _ (tag_ne t_q0_2 t_a0 (fun q => absurd (show 3 = 22 from congrArg Prod.fst q) (by decide)))).trans t_q0_2
              have t_tm := (hs2 _ (tag_ne t_tm t_a0 (fun q => absurd (show 9 = 22 from congrArg Prod.fst q) (by decide)))).trans t_tm
              have t_q0_4 := (hs2 _ (tag_ne t_q0_4 t_a0 (fun q => absurd (show 8 = 22 from congrArg Prod.fst q) (by decide)))).trans t_q0_4
              have t_q0_15 := (hs2 _ (tag_ne t_q0_15 t_a0 (fun q => absurd (show 1 = 22 from congrArg Prod.fst q) (by decide)))).trans t_q0_15
              have t_q0_17 := (hs2 _ (tag_ne t_q0_17 t_a0 (fun q => absurd (show 9 = 22 from congrArg Prod.fst q) (by decide)))).trans t_q0_17
              have t_q0_18 := (hs2 _ (tag_ne t_q0_18 t_a0 (fun q => absurd (show 9 = 22 from congrArg Prod.fst q) (by decide)))).trans t_q0_18
              have t_q0_19 := (hs2 _ (tag_ne t_q0_19 t_a0 (fun q => absurd (show 1 = 22 from congrArg Prod.fst q) (by decide)))).trans t_q0_19
              have t_q0_21 := (hs2 _ (tag_ne t_q0_21 t_a0 (fun q => absurd (show 1 = 22 from congrArg Prod.fst q) (by decide)))).trans t_q0_21
              have t_q0_22 := (hs2 _ (tag_ne t_q0_22 t_a0 (fun q => absurd (show 1 = 22 from congrArg Prod.fst q) (by decide)))).trans t_q0_22
              have t_q0_26 := (hs2 _ (tag_ne t_q0_26 t_a0 (fun q => absurd (show 2 = 22 from congrArg Prod.fst q) (by decide)))).trans t_q0_26
              have t_q0_27 := (hs2 _ (tag_ne t_q0_27 t_a0 (fun q => absurd (show 3 = 22 from congrArg Prod.fst q) (by decide)))).trans t_q0_27
              have t_q0_28 := (hs2 _ (tag_ne t_q0_28 t_a0 (fun q => absurd (show 0 = 22 from congrArg Prod.fst q) (by decide)))).trans t_q0_28
              have t_q0_29 := (hs2 _ (tag_ne t_q0_29 t_a0 (fun q => absurd (show 1 = 22 from congrArg Prod.fst q) (by decide)))).trans t_q0_29
              have t_q0_30 := (hs2 _ (tag_ne t_q0_30 t_a0 (fun q => absurd (show 1 = 22 from congrArg Prod.fst q) (by decide)))).trans t_q0_30
              have t_q0_31 := (hs2 _ (tag_ne t_q0_31 t_a0 (fun q => absurd (show 1 = 22 from congrArg Prod.fst q) (by decide)))).trans t_q0_31
              have t_q0_33 := (hs2 _ (tag_ne t_q0_33 t_a0 (fun q => absurd (show 1 = 22 from congrArg Prod.fst q) (by decide)))).trans t_q0_33
              have t_q0_34 := (hs2 _ (tag_ne t_q0_34 t_a0 (fun q => absurd (show 1 = 22 from congrArg Prod.fst q) (by decide)))).trans t_q0_34
              have t_q0_35 := (hs2 _ (tag_ne t_q0_35 t_a0 (fun q => absurd (show 2 = 22 from congrArg Prod.fst q) (by decide)))).trans t_q0_35
              have t_a0 := tm2
              have hz1 := qZ_m f53_111 f53_112
              have hz2 := qZ_f (pl := f53_112) hwb.b
              have hz3 := qZ_p (pl := f53_112) hwb.b (by have := hwb.2.1; omega)
              have hH : HT D cs A T2 (tm :: O) ((tm, .inl (cs.2.1, 900, .inl f3)) :: X) H := HT.lay (ci := 12) hH t_a0 (okL_c (⟨_, rfl⟩) (okL_c (⟨_, rfl, t_q0_1⟩) (okL_c (⟨_, rfl, t_q0_2⟩) (okL_c (⟨_, rfl, t_tm⟩) (okL_c (⟨_, rfl, t_q0_4⟩) (okL_c (⟨_, rfl, by decide, by decide, by have k9 : (0 : Int32).toInt = 0 := (by decide); omega⟩) (okL_c (⟨_, rfl⟩) (okL_c (⟨_, rfl⟩) (okL_c (⟨_, rfl⟩) (okL_c (⟨_, rfl⟩) (okL_c (⟨_, rfl, by omega, by omega⟩) (okL_c (⟨_, rfl⟩) (okL_c (⟨_, rfl⟩) (okL_c (⟨_, rfl, by omega⟩) (okL_c (⟨_, rfl, by omega⟩) (okL_c (⟨_, rfl, t_q0_15⟩) (okL_c (⟨_, rfl⟩) (okL_c (⟨_, rfl, t_q0_17⟩) (okL_c (⟨_, rfl, t_q0_18⟩) (okL_c (⟨_, rfl, t_q0_19⟩) (okL_c (⟨_, rfl, by omega, by omega⟩) (okL_c (⟨_, rfl, t_q0_21⟩) (okL_c (⟨_, rfl, t_q0_22⟩) (okL_c (⟨_, rfl⟩) (okL_c (⟨_, rfl⟩) (okL_c (⟨_, rfl⟩) (okL_c (⟨_, rfl, t_q0_26⟩) (okL_c (⟨_, rfl, t_q0_27⟩) (okL_c (⟨_, rfl, t_q0_28⟩) (okL_c (⟨_, rfl, t_q0_29⟩) (okL_c (⟨_, rfl, t_q0_30⟩) (okL_c (⟨_, rfl, t_q0_31⟩) (okL_c (⟨_, rfl⟩) (okL_c (⟨_, rfl, t_q0_33⟩) (okL_c (⟨_, rfl, t_q0_34⟩) (okL_c (⟨_, rfl, t_q0_35⟩) (okL_n)))))))))))))))))))))))))))))))))))))
              have hO := hO0
              exact te_i hx hb hr hlocks hH hS (⟨T2, hg, (qZ f53_111 f53_112), rfl, rk2, tm2, b_hg, (WFM_b ⟨by omega, by omega⟩ hn hwb (by omega))⟩) dX12_wall_141
          · skip
            have tc113 := f_eq (k := 0) (by decide) c113
            refine lv_iconst (v := (-1)) hx hb dX12_wall_116 (by decide) ?_
            refine lv_goto (tgt := 124) hx hb dX12_wall_117 (by decide) ?_
            refine x_putk (ci := 12) (v := .int (-1)) (ty := tyX12 14) (C := RX12) (F := TX12) (N := 36) hx hb hts uX12 tyX12 tyX12_ok nmX12 hown hkb hH hS 0 rfl rfl 14 (by decide) kw_1237 (fun _ h9 => h9) rfl (tyX12_ok 14 (by decide)) rfl rfl (Nat.le_of_ble_eq_true rfl) dX12_wall_124 (fun H locs hH hS => ?_)
            have hH : HT D cs A T (a0 :: tm :: q0_4 :: O) ((a0, .inr (12, [.int 0, .ref q0_1, .ref q0_2, .ref tm, .ref q0_4, .int 0, .int f53_106, .int f53_107, .int x1, .int f53_109, .int f53_110, .int f53_111, .int f53_112, .int f53_111, .int (-1), .ref q0_15, .int q0_16, .ref q0_17, .ref q0_18, .ref q0_19, .int q0_20, .ref q0_21, .ref q0_22, .int q0_23, .int q0_24, .int q0_25, .ref q0_26, .ref q0_27, .ref q0_28, .ref q0_29, .ref q0_30, .ref q0_31, .int q0_32, .ref q0_33, .ref q0_34, .ref q0_35])) :: (tm, .inl (cs.2.1, 900, .inl f3)) :: (q0_4, .inl (cs.2.1, 1302, .inl g53_2)) :: X) H := hH
            refine lv_aload_n hx hb dX12_wall_127 rfl (lv_at hl 0 rfl) ?_
            refine x_getk (ci := 12) (C := RX12) (F := TX12) (N := 36) (v := .int f53_111) hx hb hts uX12 hown hkb hH 0 rfl rfl 11 (by decide) rfl kw_1234 (fun _ h9 => h9) dX12_wall_128 ?_
            refine lv_if_eq (tgt := 142) hx hb dX12_wall_131 (by decide) (fun c131 => ?_) (fun c131 => ?_)
            · skip
              have tc131 := f_eq (k := 0) (by decide) c131
              have z_m1 : ((-1) : Int32).toInt = -1 := by decide
              exact J142 (-1) _ _ _ (by omega) (by omega) (by omega) (by omega) (by first | decide | (exfalso; omega)) hH hS (lv_sub hl [0] rfl)
            · skip
              have tc131 := f_ne (k := 0) (by decide) c131
              exfalso; omega
        · skip
          have tc57 := f_eq (k := 0) (by decide) c57
          refine lv_aload_n hx hb dX12_wall_60 rfl (lv_at hl 0 rfl) ?_
          refine x_getk (ci := 12) (C := RX12) (F := TX12) (N := 36) (v := .int f53_109) hx hb hts uX12 hown hkb hH 0 rfl rfl 9 (by decide) rfl kw_1232 (fun _ h9 => h9) dX12_wall_61 ?_
          refine lv_bipush (v := 22) hx hb dX12_wall_64 (by decide) ?_
          refine lv_icmp_eq (tgt := 100) hx hb dX12_wall_66 (by decide) (fun c66 => ?_) (fun c66 => ?_)
          · skip
            have tc66 := f_eq (k := 22) (by decide) c66
            refine lv_aload_n hx hb dX12_wall_100 rfl (lv_at hl 0 rfl) ?_
            refine lv_aload_n hx hb dX12_wall_101 rfl (lv_at hl 0 rfl) ?_
            refine x_getk (ci := 12) (C := RX12) (F := TX12) (N := 36) (v := .int f53_111) hx hb hts uX12 hown hkb hH 0 rfl rfl 11 (by decide) rfl kw_1234 (fun _ h9 => h9) dX12_wall_102 ?_
            refine x_putk (ci := 12) (v := .int f53_111) (ty := tyX12 13) (C := RX12) (F := TX12) (N := 36) hx hb hts uX12 tyX12 tyX12_ok nmX12 hown hkb hH hS 0 rfl rfl 13 (by decide) kw_1236 (fun _ h9 => h9) rfl (tyX12_ok 13 (by decide)) rfl rfl (Nat.le_of_ble_eq_true rfl) dX12_wall_105 (fun H locs hH hS => ?_)
            have hH : HT D cs A T (a0 :: tm :: q0_4 :: O) ((a0, .inr (12, [.int 0, .ref q0_1, .ref q0_2, .ref tm, .ref q0_4, .int 0, .int f53_106, .int f53_107, .int x1, .int f53_109, .int f53_110, .int f53_111, .int f53_112, .int f53_111, .int q0_14, .ref q0_15, .int q0_16, .ref q0_17, .ref q0_18, .ref q0_19, .int q0_20, .ref q0_21, .ref q0_22, .int q0_23, .int q0_24, .int q0_25, .ref q0_26, .ref q0_27, .ref q0_28, .ref q0_29, .ref q0_30, .ref q0_31, .int q0_32, .ref q0_33, .ref q0_34, .ref q0_35])) :: (tm, .inl (cs.2.1, 900, .inl f3)) :: (q0_4, .inl (cs.2.1, 1302, .inl g53_2)) :: X) H := hH
            refine lv_aload_n hx hb dX12_wall_108 rfl (lv_at hl 0 rfl) ?_
            refine lv_aload_n hx hb dX12_wall_109 rfl (lv_at hl 0 rfl) ?_
            refine x_getk (ci := 12) (C := RX12) (F := TX12) (N := 36) (v := .int f53_111) hx hb hts uX12 hown hkb hH 0 rfl rfl 11 (by decide) rfl kw_1234 (fun _ h9 => h9) dX12_wall_110 ?_
            refine lv_if_ne (tgt := 120) hx hb dX12_wall_113 (by decide) (fun c113 => ?_) (fun c113 => ?_)
            · skip
              have tc113 := f_ne (k := 0) (by decide) c113
              exfalso; omega
            · skip
              have tc113 := f_eq (k := 0) (by decide) c113
              refine lv_iconst (v := (-1)) hx hb dX12_wall_116 (by decide) ?_
              refine lv_goto (tgt := 124) hx hb dX12_wall_117 (by decide) ?_
              refine x_putk (ci := 12) (v := .int (-1)) (ty := tyX12 14) (C := RX12) (F := TX12) (N := 36) hx hb hts uX12 tyX12 tyX12_ok nmX12 hown hkb hH hS 0 rfl rfl 14 (by decide) kw_1237 (fun _ h9 => h9) rfl (tyX12_ok 14 (by decide)) rfl rfl (Nat.le_of_ble_eq_true rfl) dX12_wall_124 (fun H locs hH hS => ?_)
              have hH : HT D cs A T (a0 :: tm :: q0_4 :: O) ((a0, .inr (12, [.int 0, .ref q0_1, .ref q0_2, .ref tm, .ref q0_4, .int 0, .int f53_106, .int f53_107, .int x1, .int f53_109, .int f53_110, .int f53_111, .int f53_112, .int f53_111, .int (-1), .ref q0_15, .int q0_16, .ref q0_17, .ref q0_18, .ref q0_19, .int q0_20, .ref q0_21, .ref q0_22, .int q0_23, .int q0_24, .int q0_25, .ref q0_26, .ref q0_27, .ref q0_28, .ref q0_29, .ref q0_30, .ref q0_31, .int q0_32, .ref q0_33, .ref q0_34, .ref q0_35])) :: (tm, .inl (cs.2.1, 900, .inl f3)) :: (q0_4, .inl (cs.2.1, 1302, .inl g53_2)) :: X) H := hH
              refine lv_aload_n hx hb dX12_wall_127 rfl (lv_at hl 0 rfl) ?_
              refine x_getk (ci := 12) (C := RX12) (F := TX12) (N := 36) (v := .int f53_111) hx hb hts uX12 hown hkb hH 0 rfl rfl 11 (by decide) rfl kw_1234 (fun _ h9 => h9) dX12_wall_128 ?_
              refine lv_if_eq (tgt := 142) hx hb dX12_wall_131 (by decide) (fun c131 => ?_) (fun c131 => ?_)
              · skip
                have tc131 := f_eq (k := 0) (by decide) c131
                have z_m1 : ((-1) : Int32).toInt = -1 := by decide
                exact J142 (-1) _ _ _ (by omega) (by omega) (by omega) (by omega) (by first | decide | (exfalso; omega)) hH hS (lv_sub hl [0] rfl)
              · skip
                have tc131 := f_ne (k := 0) (by decide) c131
                exfalso; omega
          · skip
            have tc66 := f_ne (k := 22) (by decide) c66
            have hw1 := wz_1 tc57
            refine lv_aload_n hx hb dX12_wall_69 rfl (lv_at hl 0 rfl) ?_
            have z9_0 : (0 : Int32).toInt = 0 := by decide
            have z9_0 : (0 : Int32).toInt = 0 := by decide
            refine tk_v hH hS hA (tr_V (n := 0) (As := []) hx hb hml hown hts hkb hH (ox_mem hOXf (by intro a ha; simp only [List.map_cons, List.mem_cons] at ha ⊢; rcases ha with h | h <;> simp [h]) (by intro a ha; simp only [List.map_cons, List.mem_cons] at ha ⊢; rcases ha with h | h | h | h <;> simp [h])) hks hE hS hA (s_M_readLine l D cs kf T O X a0 hg mq (.int 0) (.ref q0_1) (.ref q0_2) tm q0_4 (.int 0) f53_106 f53_107 x1 f53_109 f53_110 f53_111 f53_112 [.int q0_13, .int q0_14, .ref q0_15, .int q0_16, .ref q0_17, .ref q0_18, .ref q0_19, .int q0_20, .ref q0_21, .ref q0_22, .int q0_23, .int q0_24, .int q0_25, .ref q0_26, .ref q0_27, .ref q0_28, .ref q0_29, .ref q0_30, .ref q0_31, .int q0_32, .ref q0_33, .ref q0_34, .ref q0_35] f3 g53_2 t tn t_a0 b_hg t_tm t_q0_4 (by omega) (by omega) (by omega) (by omega) (by omega) (by omega) (by omega) (by omega) s_g53_2 (by omega) htm (by omega) (by omega) ic53 (by omega) (by omega) (RGR.msw ig53) (hO.sub (by decide))) kw_1366 kw_1368 ks_46 kw_13 kw_1369 (by decide +kernel) ⟨Nat.le_of_ble_eq_true rfl, Nat.le_of_ble_eq_true rfl⟩ (x_recv (ci := 12) hkb hH 0 rfl rfl) rfl rfl hl.1 (Nat.le_of_ble_eq_true rfl) dX12_wall_70 ⟨Nat.le_of_ble_eq_true rfl, Nat.le_of_ble_eq_true rfl⟩) (fun u H locs hz9 hH hS => ?_)
            obtain ⟨n70_0_6, n70_0_7, n70_0_9, n70_0_10, n70_0_11, n70_0_12, F70_2, rfl, x_v700, x_v701, x_v702, x_v703, x_v704, x_v705, x_v706, x_v707, x_v708⟩ := hz9
            have s_F70_2 := x_v700
            have hH : HT D cs A T (a0 :: tm :: q0_4 :: O) ((a0, .inr (12, [.int 0, .ref q0_1, .ref q0_2, .ref tm, .ref q0_4, .int 0, .int n70_0_6, .int n70_0_7, .int x1, .int n70_0_9, .int n70_0_10, .int n70_0_11, .int n70_0_12, .int q0_13, .int q0_14, .ref q0_15, .int q0_16, .ref q0_17, .ref q0_18, .ref q0_19, .int q0_20, .ref q0_21, .ref q0_22, .int q0_23, .int q0_24, .int q0_25, .ref q0_26, .ref q0_27, .ref q0_28, .ref q0_29, .ref q0_30, .ref q0_31, .int q0_32, .ref q0_33, .ref q0_34, .ref q0_35])) :: (tm, .inl (cs.2.1, 900, .inl f3)) :: (q0_4, .inl (cs.2.1, 1302, .inl F70_2)) :: X) H := hH
            refine W.widen (k := 0) (n := 0) (Nat.le_of_ble_eq_true rfl) (Nat.le_of_ble_eq_true rfl) ?_
            have g73 : RGR t tn [(30, 0)] [(20, 30), (32, 0)] (RZ 0 0 0 0 0) (FR5 F70_2) 0 q0_12 n50_0_6 n70_0_11 n70_0_12 n70_0_6 n70_0_7 n70_0_9 n70_0_10 := (RGR.lL ig53 (by omega)).seq (RGR.cons x_v707)
            refine lv_aload_n hx hb dX12_wall_73 rfl (lv_at hl 0 rfl) ?_
            refine lv_bipush (v := 30) hx hb dX12_wall_74 (by decide) ?_
            have z9_0 : (0 : Int32).toInt = 0 := by decide
            have z9_0 : (0 : Int32).toInt = 0 := by decide
            have z9_30 : (30 : Int32).toInt = 30 := by decide
            refine tk_i hH hS hA (tr_V (n := 1) (As := [.int 30]) hx hb hml hown hts hkb hH (ox_mem hOXf (by intro a ha; simp only [List.map_cons, List.mem_cons] at ha ⊢; rcases ha with h | h <;> simp [h]) (by intro a ha; simp only [List.map_cons, List.mem_cons] at ha ⊢; rcases ha with h | h | h | h <;> simp [h])) hks hE hS hA (s_M_eats l D cs kf T (q0_4 :: O) ((q0_4, .inl (cs.2.1, 1302, .inl F70_2)) :: X) a0 hg mq (30) (.int 0) (.ref q0_1) (.ref q0_2) tm q0_4 (.int 0) n70_0_6 n70_0_7 x1 n70_0_9 n70_0_10 n70_0_11 n70_0_12 [.int q0_13, .int q0_14, .ref q0_15, .int q0_16, .ref q0_17, .ref q0_18, .ref q0_19, .int q0_20, .ref q0_21, .ref q0_22, .int q0_23, .int q0_24, .int q0_25, .ref q0_26, .ref q0_27, .ref q0_28, .ref q0_29, .ref q0_30, .ref q0_31, .int q0_32, .ref q0_33, .ref q0_34, .ref q0_35] f3 t tn t_a0 b_hg t_tm t_q0_4 (by omega) (by omega) (by omega) (by omega) (by omega) (by omega) (by omega) (by omega) (by omega) htm (by omega) (by omega) x_v704 (by omega) (RGR.msw x_v707) (hO.sub (by decide))) kw_1390 kw_1392 ks_52 kw_13 kw_1393 (by decide +kernel) ⟨Nat.le_of_ble_eq_true rfl, Nat.le_of_ble_eq_true rfl⟩ (x_recv (ci := 12) hkb hH 0 rfl rfl) rfl rfl hl.1 (Nat.le_of_ble_eq_true rfl) dX12_wall_76 ⟨Nat.le_of_ble_eq_true rfl, Nat.le_of_ble_eq_true rfl⟩) (fun v76 u H locs hz9 hH hS => ?_)
            obtain ⟨n76_0_6, n76_0_7, n76_0_9, n76_0_10, rfl, l_v76, u_v76, x_v760, x_v761, x_v762, x_v763, x_v764, x_v765, x_v766, x_v767, x_v768⟩ := hz9
            have hH : HT D cs A T (a0 :: tm :: q0_4 :: O) ((a0, .inr (12, [.int 0, .ref q0_1, .ref q0_2, .ref tm, .ref q0_4, .int 0, .int n76_0_6, .int n76_0_7, .int x1, .int n76_0_9, .int n76_0_10, .int n70_0_11, .int n70_0_12, .int q0_13, .int q0_14, .ref q0_15, .int q0_16, .ref q0_17, .ref q0_18, .ref q0_19, .int q0_20, .ref q0_21, .ref q0_22, .int q0_23, .int q0_24, .int q0_25, .ref q0_26, .ref q0_27, .ref q0_28, .ref q0_29, .ref q0_30, .ref q0_31, .int q0_32, .ref q0_33, .ref q0_34, .ref q0_35])) :: (tm, .inl (cs.2.1, 900, .inl f3)) :: (q0_4, .inl (cs.2.1, 1302, .inl F70_2)) :: X) H := hH
            refine W.widen (k := 0) (n := 0) (Nat.le_of_ble_eq_true rfl) (Nat.le_of_ble_eq_true rfl) ?_
            refine lv_if_ne (tgt := 87) hx hb dX12_wall_79 (by decide) (fun c79 => ?_) (fun c79 => ?_)
            · skip
              have tc79 := f_ne (k := 0) (by decide) c79
              replace x_v766 := x_v766.resolve_left tc79
              replace x_v767 := x_v767.resolve_left tc79
              clear x_v768
              refine lv_aload_n hx hb dX12_wall_87 rfl (lv_at hl 0 rfl) ?_
              refine x_getk (ci := 12) (C := RX12) (F := TX12) (N := 36) (v := .ref q0_4) hx hb hts uX12 hown hkb hH 0 rfl rfl 4 (by decide) rfl kw_1227 (fun _ h9 => h9) dX12_wall_88 ?_
              refine lv_iconst (v := 0) hx hb dX12_wall_91 (by decide) ?_
              refine lv_dup2_11 hx hb dX12_wall_92 rfl rfl ?_
              refine xa_ild hx hb hkb hH 2 rfl (by decide) (by decide) dX12_wall_93 ?_
              refine lv_topi (fun v93 ev93 => ?_)
              have tv93 : v93 = F70_2 0 := by rw [ev93]; rfl
              have hl94 : 0 ≤ v93.toInt ∧ v93.toInt ≤ 900 := by rw [tv93, x_v708]; omega
              have hl93 : v93.toInt = (g53_2 0).toInt := by rw [tv93, x_v708]
              refine lv_iconst (v := 1) hx hb dX12_wall_94 (by decide) ?_
              refine lv_iadd hx hb dX12_wall_95 ?_
              refine lv_topi (fun v95 ev95 => ?_)
              have tv95 : v95.toInt = v93.toInt + (1) := by rw [ev95]; exact add_i rfl (by decide : (1 : Int32).toInt = 1) (by omega) (by omega)
              refine xa_ist hx hb hkb hH hS 2 rfl (by decide) (by decide) dX12_wall_96 (fun H locs hH hS => ?_)
              have hH : HT D cs A T (a0 :: tm :: q0_4 :: O) ((a0, .inr (12, [.int 0, .ref q0_1, .ref q0_2, .ref tm, .ref q0_4, .int 0, .int n76_0_6, .int n76_0_7, .int x1, .int n76_0_9, .int n76_0_10, .int n70_0_11, .int n70_0_12, .int q0_13, .int q0_14, .ref q0_15, .int q0_16, .ref q0_17, .ref q0_18, .ref q0_19, .int q0_20, .ref q0_21, .ref q0_22, .int q0_23, .int q0_24, .int q0_25, .ref q0_26, .ref q0_27, .ref q0_28, .ref q0_29, .ref q0_30, .ref q0_31, .int q0_32, .ref q0_33, .ref q0_34, .ref q0_35])) :: (tm, .inl (cs.2.1, 900, .inl f3)) :: (q0_4, .inl (cs.2.1, 1302, .inl (upd F70_2 (0) v95))) :: X) H := hH
              obtain ⟨F96, eF96⟩ : ∃ f9, f9 = upd F70_2 (0) v95 := ⟨_, rfl⟩
              have hH : HT D cs A T (a0 :: tm :: q0_4 :: O) ((a0, .inr (12, [.int 0, .ref q0_1, .ref q0_2, .ref tm, .ref q0_4, .int 0, .int n76_0_6, .int n76_0_7, .int x1, .int n76_0_9, .int n76_0_10, .int n70_0_11, .int n70_0_12, .int q0_13, .int q0_14, .ref q0_15, .int q0_16, .ref q0_17, .ref q0_18, .ref q0_19, .int q0_20, .ref q0_21, .ref q0_22, .int q0_23, .int q0_24, .int q0_25, .ref q0_26, .ref q0_27, .ref q0_28, .ref q0_29, .ref q0_30, .ref q0_31, .int q0_32, .ref q0_33, .ref q0_34, .ref q0_35])) :: (tm, .inl (cs.2.1, 900, .inl f3)) :: (q0_4, .inl (cs.2.1, 1302, .inl F96)) :: X) H := eF96 ▸ hH
              have s_F96 : S8 F96 := eF96 ▸ S8_put (i := 0) (x := v95) s_F70_2 (by decide) (by decide) (⟨fun q9 => absurd q9 (by decide), fun q9 => absurd q9 (by decide), fun q9 => absurd q9 (by decide), fun q9 => absurd q9 (by decide), fun q9 => absurd q9 (by decide), fun q9 => absurd q9 (by decide), fun q9 => absurd q9 (by decide)⟩)
              have hw2 := wz_b n70_0_11
              have g97 : RGR t tn [(30, 0)] [(30, 0)] (RZ 0 0 0 0 0) (FR5 F96) 0 q0_12 n50_0_6 n70_0_11 n70_0_12 n76_0_6 n76_0_7 n76_0_9 n76_0_10 := by first | (refine RGR.seq (RGR.seq g73 (RGR.cons (RGR_g ?_ x_v767.1 (GR_nx (fun _ => st_xY ?_) x_v767.2.1)))) (RGR_id (fun q9 => ⟨x_v767.1, RF_L eF96 tv93 tv95 ?_⟩)) <;> omega) | (exact RGR.any (RGR.seq g73 (RGR.cons (RGR_f (R' := (RZ 0 0 0 0 0)) (F' := []) (a2 := n70_0_6) (b := n70_0_7) (k := n70_0_9) (v := n70_0_10) (m := 2) (G := []) x_v841 (RGR.msw x_v707) (by decide) (by decide) (fun q9 _ => st_xN (by have q8 := (RGR.msw x_v707 q9).2.2.2.1; omega))))) x_v840)
              have hl97 : (F96 0).toInt = v93.toInt + 1 := by rw [eF96, upd_eq]; exact tv95
              refine lv_goto (tgt := 53) hx hb dX12_wall_97 (by decide) ?_
              exact ih53 _ (by omega) n76_0_6 n76_0_7 n76_0_9 n76_0_10 n70_0_11 n70_0_12 F96 _ _ _ rfl s_F96 (by omega) (by omega) (by omega) (by omega) (by omega) (by omega) (by omega) (by omega) x_v763 (by first | (rw [x_v462, wz_1 (by decide)]; have z8 : (0 : Int32).toInt = 0 := (by decide); omega) | (have q8 := wz_b f53_111; rw [hl97]; omega)) (by first | (exact RGR.to (RGR_id (fun q9 => ⟨x_v506, GR.rf⟩)) x_v461) | exact g97) hH hS (lv_sub hl [0] rfl)
            · skip
              have tc79 := f_eq (k := 0) (by decide) c79
              clear x_v766
              clear x_v767
              replace x_v768 := x_v768.resolve_left (fun q9 => q9 tc79)
              obtain ⟨e6, e7, e9, e10, x_v768⟩ := x_v768
              subst e6 e7 e9 e10
              refine lv_aload_n hx hb dX12_wall_82 rfl (lv_at hl 0 rfl) ?_
              refine lv_iconst (v := 2) hx hb dX12_wall_83 (by decide) ?_
              have z9_0 : (0 : Int32).toInt = 0 := by decide
              have z9_0 : (0 : Int32).toInt = 0 := by decide
              have z9_2 : (2 : Int32).toInt = 2 := by decide
              refine tk_v hH hS hA (tr_V (n := 1) (As := [.int 2]) hx hb hml hown hts hkb hH (ox_mem hOXf (by intro a ha; simp only [List.map_cons, List.mem_cons] at ha ⊢; rcases ha with h | h <;> simp [h]) (by intro a ha; simp only [List.map_cons, List.mem_cons] at ha ⊢; rcases ha with h | h | h | h <;> simp [h])) hks hE hS hA (s_M_fails l D cs kf T (q0_4 :: O) ((q0_4, .inl (cs.2.1, 1302, .inl F70_2)) :: X) a0 hg mq (2) (.int 0) (.ref q0_1) (.ref q0_2) tm q0_4 (.int 0) n70_0_6 n70_0_7 x1 n70_0_9 n70_0_10 n70_0_11 n70_0_12 [.int q0_13, .int q0_14, .ref q0_15, .int q0_16, .ref q0_17, .ref q0_18, .ref q0_19, .int q0_20, .ref q0_21, .ref q0_22, .int q0_23, .int q0_24, .int q0_25, .ref q0_26, .ref q0_27, .ref q0_28, .ref q0_29, .ref q0_30, .ref q0_31, .int q0_32, .ref q0_33, .ref q0_34, .ref q0_35] f3 t tn t_a0 b_hg (by decide) (by decide) t_tm t_q0_4 (by omega) (by omega) (by omega) (by omega) (by omega) (by omega) (by omega) (by omega) (by omega) htm (hO.sub (by decide))) kw_1378 kw_1380 ks_49 kw_13 kw_1381 (by decide +kernel) ⟨Nat.le_of_ble_eq_true rfl, Nat.le_of_ble_eq_true rfl⟩ (x_recv (ci := 12) hkb hH 0 rfl rfl) rfl rfl hl.1 (Nat.le_of_ble_eq_true rfl) dX12_wall_84 ⟨Nat.le_of_ble_eq_true rfl, Nat.le_of_ble_eq_true rfl⟩) (fun u H locs hz9 hH hS => ?_)
              obtain ⟨n84_0_11, n84_0_12, rfl, x_v840, x_v841⟩ := hz9
              have hH : HT D cs A T (a0 :: tm :: q0_4 :: O) ((a0, .inr (12, [.int 0, .ref q0_1, .ref q0_2, .ref tm, .ref q0_4, .int 0, .int n70_0_6, .int n70_0_7, .int x1, .int n70_0_9, .int n70_0_10, .int n84_0_11, .int n84_0_12, .int q0_13, .int q0_14, .ref q0_15, .int q0_16, .ref q0_17, .ref q0_18, .ref q0_19, .int q0_20, .ref q0_21, .ref q0_22, .int q0_23, .int q0_24, .int q0_25, .ref q0_26, .ref q0_27, .ref q0_28, .ref q0_29, .ref q0_30, .ref q0_31, .int q0_32, .ref q0_33, .ref q0_34, .ref q0_35])) :: (tm, .inl (cs.2.1, 900, .inl f3)) :: (q0_4, .inl (cs.2.1, 1302, .inl F70_2)) :: X) H := hH
              refine W.widen (k := 0) (n := 0) (Nat.le_of_ble_eq_true rfl) (Nat.le_of_ble_eq_true rfl) ?_
              refine lv_aload_n hx hb dX12_wall_87 rfl (lv_at hl 0 rfl) ?_
              refine x_getk (ci := 12) (C := RX12) (F := TX12) (N := 36) (v := .ref q0_4) hx hb hts uX12 hown hkb hH 0 rfl rfl 4 (by decide) rfl kw_1227 (fun _ h9 => h9) dX12_wall_88 ?_
              refine lv_iconst (v := 0) hx hb dX12_wall_91 (by decide) ?_
              refine lv_dup2_11 hx hb dX12_wall_92 rfl rfl ?_
              refine xa_ild hx hb hkb hH 2 rfl (by decide) (by decide) dX12_wall_93 ?_
              refine lv_topi (fun v93 ev93 => ?_)
              have tv93 : v93 = F70_2 0 := by rw [ev93]; rfl
              have hl94 : 0 ≤ v93.toInt ∧ v93.toInt ≤ 900 := by rw [tv93, x_v708]; omega
              have hl93 : v93.toInt = (g53_2 0).toInt := by rw [tv93, x_v708]
              refine lv_iconst (v := 1) hx hb dX12_wall_94 (by decide) ?_
              refine lv_iadd hx hb dX12_wall_95 ?_
              refine lv_topi (fun v95 ev95 => ?_)
              have tv95 : v95.toInt = v93.toInt + (1) := by rw [ev95]; exact add_i rfl (by decide : (1 : Int32).toInt = 1) (by omega) (by omega)
              refine xa_ist hx hb hkb hH hS 2 rfl (by decide) (by decide) dX12_wall_96 (fun H locs hH hS => ?_)
              have hH : HT D cs A T (a0 :: tm :: q0_4 :: O) ((a0, .inr (12, [.int 0, .ref q0_1, .ref q0_2, .ref tm, .ref q0_4, .int 0, .int n70_0_6, .int n70_0_7, .int x1, .int n70_0_9, .int n70_0_10, .int n84_0_11, .int n84_0_12, .int q0_13, .int q0_14, .ref q0_15, .int q0_16, .ref q0_17, .ref q0_18, .ref q0_19, .int q0_20, .ref q0_21, .ref q0_22, .int q0_23, .int q0_24, .int q0_25, .ref q0_26, .ref q0_27, .ref q0_28, .ref q0_29, .ref q0_30, .ref q0_31, .int q0_32, .ref q0_33, .ref q0_34, .ref q0_35])) :: (tm, .inl (cs.2.1, 900, .inl f3)) :: (q0_4, .inl (cs.2.1, 1302, .inl (upd F70_2 (0) v95))) :: X) H := hH
              obtain ⟨F96, eF96⟩ : ∃ f9, f9 = upd F70_2 (0) v95 := ⟨_, rfl⟩
              have hH : HT D cs A T (a0 :: tm :: q0_4 :: O) ((a0, .inr (12, [.int 0, .ref q0_1, .ref q0_2, .ref tm, .ref q0_4, .int 0, .int n70_0_6, .int n70_0_7, .int x1, .int n70_0_9, .int n70_0_10, .int n84_0_11, .int n84_0_12, .int q0_13, .int q0_14, .ref q0_15, .int q0_16, .ref q0_17, .ref q0_18, .ref q0_19, .int q0_20, .ref q0_21, .ref q0_22, .int q0_23, .int q0_24, .int q0_25, .ref q0_26, .ref q0_27, .ref q0_28, .ref q0_29, .ref q0_30, .ref q0_31, .int q0_32, .ref q0_33, .ref q0_34, .ref q0_35])) :: (tm, .inl (cs.2.1, 900, .inl f3)) :: (q0_4, .inl (cs.2.1, 1302, .inl F96)) :: X) H := eF96 ▸ hH
              have s_F96 : S8 F96 := eF96 ▸ S8_put (i := 0) (x := v95) s_F70_2 (by decide) (by decide) (⟨fun q9 => absurd q9 (by decide), fun q9 => absurd q9 (by decide), fun q9 => absurd q9 (by decide), fun q9 => absurd q9 (by decide), fun q9 => absurd q9 (by decide), fun q9 => absurd q9 (by decide), fun q9 => absurd q9 (by decide)⟩)
              have hw2 := wz_b n84_0_11
              try have hw3 := wz_0 x_v840
              have g97 : RGR t tn [(30, 0)] [(30, 0)] (RZ 0 0 0 0 0) (FR5 F96) 0 q0_12 n50_0_6 n84_0_11 n84_0_12 n70_0_6 n70_0_7 n70_0_9 n70_0_10 := by first | (refine RGR.seq (RGR.seq g73 (RGR.cons (RGR_g ?_ x_v767.1 (GR_nx (fun _ => st_xY ?_) x_v767.2.1)))) (RGR_id (fun q9 => ⟨x_v767.1, RF_L eF96 tv93 tv95 ?_⟩)) <;> omega) | (exact RGR.any (RGR.seq g73 (RGR.cons (RGR_f (R' := (RZ 0 0 0 0 0)) (F' := []) (a2 := n70_0_6) (b := n70_0_7) (k := n70_0_9) (v := n70_0_10) (m := 2) (G := []) x_v841 (RGR.msw x_v707) (by decide) (by decide) (fun q9 _ => st_xN (by have q8 := (RGR.msw x_v707 q9).2.2.2.1; omega))))) x_v840)
              have hl97 : (F96 0).toInt = v93.toInt + 1 := by rw [eF96, upd_eq]; exact tv95
              refine lv_goto (tgt := 53) hx hb dX12_wall_97 (by decide) ?_
              exact ih53 _ (by omega) n70_0_6 n70_0_7 n70_0_9 n70_0_10 n84_0_11 n84_0_12 F96 _ _ _ rfl s_F96 (by omega) (by omega) (by omega) (by omega) (by omega) (by omega) (by omega) (by omega) x_v763 (by first | (rw [x_v462, wz_1 (by decide)]; have z8 : (0 : Int32).toInt = 0 := (by decide); omega) | (have q8 := wz_b f53_111; rw [hl97]; omega)) (by first | (exact RGR.to (RGR_id (fun q9 => ⟨x_v506, GR.rf⟩)) x_v461) | exact g97) hH hS (lv_sub hl [0] rfl)
    have z_0 : (0 : Int32).toInt = 0 := by decide
    exact J53 _ n50_0_6 n50_0_7 n50_0_9 n50_0_10 0 q0_12 F46_2 _ _ _ rfl s_F46_2 (by omega) (by omega) (by omega) (by omega) (by omega) (by omega) (by omega) (by omega) x_v503 (by first | (rw [x_v462, wz_1 (by decide)]; have z8 : (0 : Int32).toInt = 0 := (by decide); omega) | (have q8 := wz_b f53_111; rw [hl97]; omega)) (by first | (exact RGR.to (RGR_id (fun q9 => ⟨x_v506, GR.rf⟩)) x_v461) | exact g97) hH hS (lv_sub hl [0] rfl)
  · skip
    have tc16 := f_eq (k := 0) (by decide) c16
    clear x_v130
    replace x_v131 := x_v131.resolve_left (fun q9 => q9 tc16)
    refine lv_bipush (v := (-3)) hx hb dX12_wall_19 (by decide) ?_
    have hH : HT D cs A T (tm :: O) ((tm, .inl (cs.2.1, 900, .inl f3)) :: X) H := HT.lay (ci := 12) hH t_a0 (okL_c (⟨_, rfl⟩) (okL_c (⟨_, rfl, t_q0_1⟩) (okL_c (⟨_, rfl, t_q0_2⟩) (okL_c (⟨_, rfl, t_tm⟩) (okL_c (⟨_, rfl, t_q0_4⟩) (okL_c (⟨_, rfl, by omega, by omega, by omega⟩) (okL_c (⟨_, rfl⟩) (okL_c (⟨_, rfl⟩) (okL_c (⟨_, rfl⟩) (okL_c (⟨_, rfl⟩) (okL_c (⟨_, rfl, by omega, by omega⟩) (okL_c (⟨_, rfl⟩) (okL_c (⟨_, rfl⟩) (okL_c (⟨_, rfl, by omega⟩) (okL_c (⟨_, rfl, by omega⟩) (okL_c (⟨_, rfl, t_q0_15⟩) (okL_c (⟨_, rfl⟩) (okL_c (⟨_, rfl, t_q0_17⟩) (okL_c (⟨_, rfl, t_q0_18⟩) (okL_c (⟨_, rfl, t_q0_19⟩) (okL_c (⟨_, rfl, by omega, by omega⟩) (okL_c (⟨_, rfl, t_q0_21⟩) (okL_c (⟨_, rfl, t_q0_22⟩) (okL_c (⟨_, rfl⟩) (okL_c (⟨_, rfl⟩) (okL_c (⟨_, rfl⟩) (okL_c (⟨_, rfl, t_q0_26⟩) (okL_c (⟨_, rfl, t_q0_27⟩) (okL_c (⟨_, rfl, t_q0_28⟩) (okL_c (⟨_, rfl, t_q0_29⟩) (okL_c (⟨_, rfl, t_q0_30⟩) (okL_c (⟨_, rfl, t_q0_31⟩) (okL_c (⟨_, rfl⟩) (okL_c (⟨_, rfl, t_q0_33⟩) (okL_c (⟨_, rfl, t_q0_34⟩) (okL_c (⟨_, rfl, t_q0_35⟩) (okL_n)))))))))))))))))))))))))))))))))))))
    have hO := hO0
    have z9_m3 : ((-3) : Int32).toInt = -3 := by decide
    exact te_i hx hb hr hlocks hH hS (⟨T, hg, mq, rfl, Trm.rf, t_a0, b_hg, (WFM_o (by omega) (by decide))⟩) dX12_wall_21
theorem dX12_feed_0 : decode cX12_feed 0 = .ok (.aload_n 0, 1) := by decide +kernel
theorem dX12_feed_1 : decode cX12_feed 1 = .ok (.iconst 0, 1) := by decide +kernel
theorem dX12_feed_2 : decode cX12_feed 2 = .ok (.putfield 1, 3) := by decide +kernel
theorem dX12_feed_5 : decode cX12_feed 5 = .ok (.aload_n 0, 1) := by decide +kernel
theorem dX12_feed_6 : decode cX12_feed 6 = .ok (.getfield 82, 3) := by decide +kernel
theorem dX12_feed_9 : decode cX12_feed 9 = .ok (.bipush 20, 2) := by decide +kernel
theorem dX12_feed_11 : decode cX12_feed 11 = .ok (.iadd, 1) := by decide +kernel
theorem dX12_feed_12 : decode cX12_feed 12 = .ok (.sipush 900, 3) := by decide +kernel
theorem dX12_feed_15 : decode cX12_feed 15 = .ok (.if_icmp .le 6, 3) := by decide +kernel
theorem dX12_feed_18 : decode cX12_feed 18 = .ok (.bipush (-5), 2) := by decide +kernel
theorem dX12_feed_20 : decode cX12_feed 20 = .ok (.ireturn, 1) := by decide +kernel
theorem dX12_feed_21 : decode cX12_feed 21 = .ok (.iconst 0, 1) := by decide +kernel
theorem dX12_feed_22 : decode cX12_feed 22 = .ok (.istore 6, 2) := by decide +kernel
theorem dX12_feed_24 : decode cX12_feed 24 = .ok (.iload 6, 2) := by decide +kernel
theorem dX12_feed_26 : decode cX12_feed 26 = .ok (.bipush 20, 2) := by decide +kernel
theorem dX12_feed_28 : decode cX12_feed 28 = .ok (.if_icmp .ge 93, 3) := by decide +kernel
theorem dX12_feed_31 : decode cX12_feed 31 = .ok (.iload 6, 2) := by decide +kernel
theorem dX12_feed_33 : decode cX12_feed 33 = .ok (.iconst 4, 1) := by decide +kernel
theorem dX12_feed_34 : decode cX12_feed 34 = .ok (.if_icmp .ge 7, 3) := by decide +kernel
theorem dX12_feed_37 : decode cX12_feed 37 = .ok (.iload_n 1, 1) := by decide +kernel
theorem dX12_feed_38 : decode cX12_feed 38 = .ok (.goto 39, 3) := by decide +kernel
theorem dX12_feed_41 : decode cX12_feed 41 = .ok (.iload 6, 2) := by decide +kernel
theorem dX12_feed_43 : decode cX12_feed 43 = .ok (.bipush 8, 2) := by decide +kernel
theorem dX12_feed_45 : decode cX12_feed 45 = .ok (.if_icmp .ge 7, 3) := by decide +kernel
theorem dX12_feed_48 : decode cX12_feed 48 = .ok (.iload_n 2, 1) := by decide +kernel
theorem dX12_feed_49 : decode cX12_feed 49 = .ok (.goto 28, 3) := by decide +kernel
theorem dX12_feed_52 : decode cX12_feed 52 = .ok (.iload 6, 2) := by decide +kernel
theorem dX12_feed_54 : decode cX12_feed 54 = .ok (.bipush 12, 2) := by decide +kernel
theorem dX12_feed_56 : decode cX12_feed 56 = .ok (.if_icmp .ge 7, 3) := by decide +kernel
theorem dX12_feed_59 : decode cX12_feed 59 = .ok (.iload_n 3, 1) := by decide +kernel
theorem dX12_feed_60 : decode cX12_feed 60 = .ok (.goto 17, 3) := by decide +kernel
theorem dX12_feed_63 : decode cX12_feed 63 = .ok (.iload 6, 2) := by decide +kernel
theorem dX12_feed_65 : decode cX12_feed 65 = .ok (.bipush 16, 2) := by decide +kernel
theorem dX12_feed_67 : decode cX12_feed 67 = .ok (.if_icmp .ge 8, 3) := by decide +kernel
theorem dX12_feed_70 : decode cX12_feed 70 = .ok (.iload 4, 2) := by decide +kernel
theorem dX12_feed_72 : decode cX12_feed 72 = .ok (.goto 5, 3) := by decide +kernel
theorem dX12_feed_75 : decode cX12_feed 75 = .ok (.iload 5, 2) := by decide +kernel
theorem dX12_feed_77 : decode cX12_feed 77 = .ok (.istore 7, 2) := by decide +kernel
theorem dX12_feed_79 : decode cX12_feed 79 = .ok (.aload_n 0, 1) := by decide +kernel
theorem dX12_feed_80 : decode cX12_feed 80 = .ok (.getfield 21, 3) := by decide +kernel
theorem dX12_feed_83 : decode cX12_feed 83 = .ok (.aload_n 0, 1) := by decide +kernel
theorem dX12_feed_84 : decode cX12_feed 84 = .ok (.getfield 82, 3) := by decide +kernel
theorem dX12_feed_87 : decode cX12_feed 87 = .ok (.iload 7, 2) := by decide +kernel
theorem dX12_feed_89 : decode cX12_feed 89 = .ok (.bipush 24, 2) := by decide +kernel
theorem dX12_feed_91 : decode cX12_feed 91 = .ok (.bipush 8, 2) := by decide +kernel
theorem dX12_feed_93 : decode cX12_feed 93 = .ok (.iload 6, 2) := by decide +kernel
theorem dX12_feed_95 : decode cX12_feed 95 = .ok (.iconst 4, 1) := by decide +kernel
theorem dX12_feed_96 : decode cX12_feed 96 = .ok (.irem, 1) := by decide +kernel
theorem dX12_feed_97 : decode cX12_feed 97 = .ok (.imul, 1) := by decide +kernel
theorem dX12_feed_98 : decode cX12_feed 98 = .ok (.isub, 1) := by decide +kernel
theorem dX12_feed_99 : decode cX12_feed 99 = .ok (.ishr, 1) := by decide +kernel
theorem dX12_feed_100 : decode cX12_feed 100 = .ok (.sipush 255, 3) := by decide +kernel
theorem dX12_feed_103 : decode cX12_feed 103 = .ok (.iand, 1) := by decide +kernel
theorem dX12_feed_104 : decode cX12_feed 104 = .ok (.iastore, 1) := by decide +kernel
theorem dX12_feed_105 : decode cX12_feed 105 = .ok (.aload_n 0, 1) := by decide +kernel
theorem dX12_feed_106 : decode cX12_feed 106 = .ok (.dup, 1) := by decide +kernel
theorem dX12_feed_107 : decode cX12_feed 107 = .ok (.getfield 82, 3) := by decide +kernel
theorem dX12_feed_110 : decode cX12_feed 110 = .ok (.iconst 1, 1) := by decide +kernel
theorem dX12_feed_111 : decode cX12_feed 111 = .ok (.iadd, 1) := by decide +kernel
theorem dX12_feed_112 : decode cX12_feed 112 = .ok (.putfield 82, 3) := by decide +kernel
theorem dX12_feed_115 : decode cX12_feed 115 = .ok (.iinc 6 1, 3) := by decide +kernel
theorem dX12_feed_118 : decode cX12_feed 118 = .ok (.goto (-94), 3) := by decide +kernel
theorem dX12_feed_121 : decode cX12_feed 121 = .ok (.aload_n 0, 1) := by decide +kernel
theorem dX12_feed_122 : decode cX12_feed 122 = .ok (.getfield 82, 3) := by decide +kernel
theorem dX12_feed_125 : decode cX12_feed 125 = .ok (.ireturn, 1) := by decide +kernel
set_option maxHeartbeats 4000000 in
set_option maxRecDepth 100000 in
theorem s_M_feed (l : Launch) (D : va_G) (cs : CS) (kf : KF) (T : TF) (O : List Nat) (X : va_W) (a0 hg mq : Nat) (x1 : Int32) (x2 : Int32) (x3 : Int32) (x4 : Int32) (x5 : Int32) (f3 : Nat → Int32) (tm : Nat) (t : Tp) (t_a0 : T a0 = some (22, hg, mq)) (b_hg : hg < 90) (hU : ∀ (b : Nat) (tg : Tg), T b = some tg → tg.1 = 22 → b = a0) (t_tm : T tm = some (9, 900, 0)) (hU9 : ∀ (b : Nat) (q : Nat), T b = some (9, 900, q) → b = tm) (htm : TM f3 t) (hO : okO T (tm :: O) [22]) : TK l D cs kf yX12_feed cX12_feed 8 (some (.int)) { frames := 0, cells := 0, slots := 0, locals := 0 } [.ref a0, .int x1, .int x2, .int x3, .int x4, .int x5] T (tm :: O) ((tm, .inl (cs.2.1, 900, .inl f3)) :: X) (Ti D cs (fun r u => ∃ (T2 : TF) (mq2 : Nat) (G0 : Nat → Int32), u = (T2, tm :: O, (tm, .inl (cs.2.1, 900, .inl G0)) :: X) ∧ -5 ≤ r.toInt ∧ r.toInt ≤ 900 ∧ (Trm T T2 a0) ∧ (T2 a0 = some (22, hg, mq2)) ∧ (FDF (mq % 1024) (mq2 % 1024) r.toInt ∧ mq2 / 1024 = mq / 1024) ∧ ((r.toInt = -5 → G0 = f3) ∧ (r.toInt ≠ -5 → TM G0 (fd5 t (mq % 1024) x1 x2 x3 x4 x5))))) := by
  refine tk_of (by decide) (Nat.le_of_ble_eq_true rfl) (fun p e s m below meth c ls A H locs hx hb hr hml hown hts hlocks hnm hkb hH hS hA hOX hks hE hl => ?_)
  have hown : s.vm.findClass RX12 = some m.cls := hown
  have hl : lv_has ls 8 [(0, .ref a0), (1, .int x1), (2, .int x2), (3, .int x3), (4, .int x4), (5, .int x5)] := hl
  have hOXf := hOX
  have hO0 := hO
  obtain ⟨fs9, ho9, hH⟩ := hH.take t_a0 (hO0.no t_a0 (by decide))
  have hp0 : okL T (ft12 hg mq) fs9 := ho9
  clear ho9
  obtain ⟨v9, fs9, rfl, h9, hp1⟩ := okL_i hp0
  obtain ⟨q0_0, rfl⟩ := h9
  obtain ⟨v9, fs9, rfl, h9, hp2⟩ := okL_i hp1
  obtain ⟨q0_1, rfl, t_q0_1⟩ := h9
  obtain ⟨v9, fs9, rfl, h9, hp3⟩ := okL_i hp2
  obtain ⟨q0_2, rfl, t_q0_2⟩ := h9
  obtain ⟨v9, fs9, rfl, h9, hp4⟩ := okL_i hp3
  obtain ⟨q0_3, rfl, t_q0_3⟩ := h9
  have e9 := (hU9 _ _ t_q0_3).symm
  subst e9
  obtain ⟨v9, fs9, rfl, h9, hp5⟩ := okL_i hp4
  obtain ⟨q0_4, rfl, t_q0_4⟩ := h9
  obtain ⟨v9, fs9, rfl, h9, hp6⟩ := okL_i hp5
  obtain ⟨q0_5, rfl, l_q0_5, u_q0_5, eg_q0_5⟩ := h9
  obtain ⟨v9, fs9, rfl, h9, hp7⟩ := okL_i hp6
  obtain ⟨q0_6, rfl⟩ := h9
  obtain ⟨v9, fs9, rfl, h9, hp8⟩ := okL_i hp7
  obtain ⟨q0_7, rfl⟩ := h9
  obtain ⟨v9, fs9, rfl, h9, hp9⟩ := okL_i hp8
  obtain ⟨q0_8, rfl⟩ := h9
  obtain ⟨v9, fs9, rfl, h9, hp10⟩ := okL_i hp9
  obtain ⟨q0_9, rfl⟩ := h9
  obtain ⟨v9, fs9, rfl, h9, hp11⟩ := okL_i hp10
  obtain ⟨q0_10, rfl, l_q0_10, u_q0_10⟩ := h9
  obtain ⟨v9, fs9, rfl, h9, hp12⟩ := okL_i hp11
  obtain ⟨q0_11, rfl⟩ := h9
  obtain ⟨v9, fs9, rfl, h9, hp13⟩ := okL_i hp12
  obtain ⟨q0_12, rfl⟩ := h9
  obtain ⟨v9, fs9, rfl, h9, hp14⟩ := okL_i hp13
  obtain ⟨q0_13, rfl, eg_q0_13⟩ := h9
  obtain ⟨v9, fs9, rfl, h9, hp15⟩ := okL_i hp14
  obtain ⟨q0_14, rfl, eg_q0_14⟩ := h9
  obtain ⟨v9, fs9, rfl, h9, hp16⟩ := okL_i hp15
  obtain ⟨q0_15, rfl, t_q0_15⟩ := h9
  obtain ⟨v9, fs9, rfl, h9, hp17⟩ := okL_i hp16
  obtain ⟨q0_16, rfl⟩ := h9
  obtain ⟨v9, fs9, rfl, h9, hp18⟩ := okL_i hp17
  obtain ⟨q0_17, rfl, t_q0_17⟩ := h9
  obtain ⟨v9, fs9, rfl, h9, hp19⟩ := okL_i hp18
  obtain ⟨q0_18, rfl, t_q0_18⟩ := h9
  obtain ⟨v9, fs9, rfl, h9, hp20⟩ := okL_i hp19
  obtain ⟨q0_19, rfl, t_q0_19⟩ := h9
  obtain ⟨v9, fs9, rfl, h9, hp21⟩ := okL_i hp20
  obtain ⟨q0_20, rfl, l_q0_20, u_q0_20⟩ := h9
  obtain ⟨v9, fs9, rfl, h9, hp22⟩ := okL_i hp21
  obtain ⟨q0_21, rfl, t_q0_21⟩ := h9
  obtain ⟨v9, fs9, rfl, h9, hp23⟩ := okL_i hp22
  obtain ⟨q0_22, rfl, t_q0_22⟩ := h9
  obtain ⟨v9, fs9, rfl, h9, hp24⟩ := okL_i hp23
  obtain ⟨q0_23, rfl⟩ := h9
  obtain ⟨v9, fs9, rfl, h9, hp25⟩ := okL_i hp24
  obtain ⟨q0_24, rfl⟩ := h9
  obtain ⟨v9, fs9, rfl, h9, hp26⟩ := okL_i hp25
  obtain ⟨q0_25, rfl⟩ := h9
  obtain ⟨v9, fs9, rfl, h9, hp27⟩ := okL_i hp26
  obtain ⟨q0_26, rfl, t_q0_26⟩ := h9
  obtain ⟨v9, fs9, rfl, h9, hp28⟩ := okL_i hp27
  obtain ⟨q0_27, rfl, t_q0_27⟩ := h9
  obtain ⟨v9, fs9, rfl, h9, hp29⟩ := okL_i hp28
  obtain ⟨q0_28, rfl, t_q0_28⟩ := h9
  obtain ⟨v9, fs9, rfl, h9, hp30⟩ := okL_i hp29
  obtain ⟨q0_29, rfl, t_q0_29⟩ := h9
  obtain ⟨v9, fs9, rfl, h9, hp31⟩ := okL_i hp30
  obtain ⟨q0_30, rfl, t_q0_30⟩ := h9
  obtain ⟨v9, fs9, rfl, h9, hp32⟩ := okL_i hp31
  obtain ⟨q0_31, rfl, t_q0_31⟩ := h9
  obtain ⟨v9, fs9, rfl, h9, hp33⟩ := okL_i hp32
  obtain ⟨q0_32, rfl⟩ := h9
  obtain ⟨v9, fs9, rfl, h9, hp34⟩ := okL_i hp33
  obtain ⟨q0_33, rfl, t_q0_33⟩ := h9
  obtain ⟨v9, fs9, rfl, h9, hp35⟩ := okL_i hp34
  obtain ⟨q0_34, rfl, t_q0_34⟩ := h9
  obtain ⟨v9, fs9, rfl, h9, hp36⟩ := okL_i hp35
  obtain ⟨q0_35, rfl, t_q0_35⟩ := h9
  have hpz := okL_z hp36
  subst hpz
  have hH : HT D cs A T (a0 :: tm :: O) ((a0, .inr (12, [.int q0_0, .ref q0_1, .ref q0_2, .ref tm, .ref q0_4, .int q0_5, .int q0_6, .int q0_7, .int q0_8, .int q0_9, .int q0_10, .int q0_11, .int q0_12, .int q0_13, .int q0_14, .ref q0_15, .int q0_16, .ref q0_17, .ref q0_18, .ref q0_19, .int q0_20, .ref q0_21, .ref q0_22, .int q0_23, .int q0_24, .int q0_25, .ref q0_26, .ref q0_27, .ref q0_28, .ref q0_29, .ref q0_30, .ref q0_31, .int q0_32, .ref q0_33, .ref q0_34, .ref q0_35])) :: (tm, .inl (cs.2.1, 900, .inl f3)) :: X) H := hH
  have hO : okO T (a0 :: tm :: O) [] := okO.cons (hO0.sub (by decide)) t_a0 (by decide)
  refine lv_aload_n hx hb dX12_feed_0 rfl (lv_at hl 0 rfl) ?_
  refine lv_iconst (v := 0) hx hb dX12_feed_1 (by decide) ?_
  refine x_putk (ci := 12) (v := .int 0) (ty := tyX12 0) (C := RX12) (F := TX12) (N := 36) hx hb hts uX12 tyX12 tyX12_ok nmX12 hown hkb hH hS 0 rfl rfl 0 (by decide) kw_1223 (fun _ h9 => h9) rfl (tyX12_ok 0 (by decide)) rfl rfl (Nat.le_of_ble_eq_true rfl) dX12_feed_2 (fun H locs hH hS => ?_)
  have hH : HT D cs A T (a0 :: tm :: O) ((a0, .inr (12, [.int 0, .ref q0_1, .ref q0_2, .ref tm, .ref q0_4, .int q0_5, .int q0_6, .int q0_7, .int q0_8, .int q0_9, .int q0_10, .int q0_11, .int q0_12, .int q0_13, .int q0_14, .ref q0_15, .int q0_16, .ref q0_17, .ref q0_18, .ref q0_19, .int q0_20, .ref q0_21, .ref q0_22, .int q0_23, .int q0_24, .int q0_25, .ref q0_26, .ref q0_27, .ref q0_28, .ref q0_29, .ref q0_30, .ref q0_31, .int q0_32, .ref q0_33, .ref q0_34, .ref q0_35])) :: (tm, .inl (cs.2.1, 900, .inl f3)) :: X) H := hH
  refine lv_aload_n hx hb dX12_feed_5 rfl (lv_at hl 0 rfl) ?_
  refine x_getk (ci := 12) (C := RX12) (F := TX12) (N := 36) (v := .int q0_5) hx hb hts uX12 hown hkb hH 0 rfl rfl 5 (by decide) rfl kw_1228 (fun _ h9 => h9) dX12_feed_6 ?_
  refine lv_bipush (v := 20) hx hb dX12_feed_9 (by decide) ?_
  refine lv_iadd hx hb dX12_feed_11 ?_
  refine lv_topi (fun v11 ev11 => ?_)
  have tv11 : v11.toInt = q0_5.toInt + (20) := by rw [ev11]; exact add_i rfl (by decide : (20 : Int32).toInt = 20) (by omega) (by omega)
  refine lv_sipush (v := 900) hx hb dX12_feed_12 (by decide) ?_
  have J24 : ∀ (n : Nat) (p24_6 : Int32) (f24_105 : Int32) (g24_1 : Nat → Int32) (H : Heap) (locs : List Loc) (ls : Array Slot), (20 - p24_6.toInt).toNat = n → (0 ≤ p24_6.toInt) → (p24_6.toInt ≤ 20) → (0 ≤ f24_105.toInt) → (f24_105.toInt ≤ 900) → (f24_105.toInt = ((mq % 1024 : Nat) : Int) + p24_6.toInt) → (mq % 1024 ≤ 880) → (RFI f3 g24_1 (mq % 1024) x1 x2 x3 x4 x5 p24_6.toInt.toNat) → HT D cs A T (a0 :: tm :: O) ((a0, .inr (12, [.int 0, .ref q0_1, .ref q0_2, .ref tm, .ref q0_4, .int f24_105, .int q0_6, .int q0_7, .int q0_8, .int q0_9, .int q0_10, .int q0_11, .int q0_12, .int q0_13, .int q0_14, .ref q0_15, .int q0_16, .ref q0_17, .ref q0_18, .ref q0_19, .int q0_20, .ref q0_21, .ref q0_22, .int q0_23, .int q0_24, .int q0_25, .ref q0_26, .ref q0_27, .ref q0_28, .ref q0_29, .ref q0_30, .ref q0_31, .int q0_32, .ref q0_33, .ref q0_34, .ref q0_35])) :: (tm, .inl (cs.2.1, 900, .inl g24_1)) :: X) H → va_S A s.heap H locs → lv_has ls 8 [(6, .int p24_6), (0, .ref a0), (1, .int x1), (2, .int x2), (3, .int x3), (4, .int x4), (5, .int x5)] → W p l e { frames := 0, cells := 0, slots := 0, locals := 0 } s m [.ref a0, .int x1, .int x2, .int x3, .int x4, .int x5].toArray below meth c H locs 0 0 (MQ below (Ti D cs (fun r u => ∃ (T2 : TF) (mq2 : Nat) (G0 : Nat → Int32), u = (T2, tm :: O, (tm, .inl (cs.2.1, 900, .inl G0)) :: X) ∧ -5 ≤ r.toInt ∧ r.toInt ≤ 900 ∧ (Trm T T2 a0) ∧ (T2 a0 = some (22, hg, mq2)) ∧ (FDF (mq % 1024) (mq2 % 1024) r.toInt ∧ mq2 / 1024 = mq / 1024) ∧ ((r.toInt = -5 → G0 = f3) ∧ (r.toInt ≠ -5 → TM G0 (fd5 t (mq % 1024) x1 x2 x3 x4 x5)))) A) [.ref a0, .int x1, .int x2, .int x3, .int x4, .int x5].toArray s 0 0 A) (F0 m 24 ls []) := by
    intro n
    induction n using Nat.strongRecOn with
    | _ n ih24 =>
      intro p24_6 f24_105 g24_1 H locs ls hm24 l_p24_6 u_p24_6 l_f24_105 u_f24_105 i24 j24 ir24 hH hS hl
      refine lv_iload hx hb dX12_feed_24 (lv_at hl 0 rfl) ?_
      refine lv_bipush (v := 20) hx hb dX12_feed_26 (by decide) ?_
      refine lv_icmp_ge (tgt := 121) hx hb dX12_feed_28 (by decide) (fun c28 => ?_) (fun c28 => ?_)
      · skip
        have tc28 := f_ge (k := 20) (by decide) c28
        refine lv_aload_n hx hb dX12_feed_121 rfl (lv_at hl 1 rfl) ?_
        refine x_getk (ci := 12) (C := RX12) (F := TX12) (N := 36) (v := .int f24_105) hx hb hts uX12 hown hkb hH 0 rfl rfl 5 (by decide) rfl kw_1228 (fun _ h9 => h9) dX12_feed_122 ?_
        obtain ⟨T2, tm2, hs2, rk2, hH⟩ := HT.mg (mq2 := (mq + 20)) hH t_a0 hU (by simp)
        have t_q0_1 := (hs2 _ (tag_ne t_q0_1 t_a0 (fun q => absurd (show 8 = 22 from congrArg Prod.fst q) (by decide)))).trans t_q0_1
        have t_q0_2 := (hs2 _ (tag_ne t_q0_2 t_a0 (fun q => absurd (show 3 = 22 from congrArg Prod.fst q) (by decide)))).trans t_q0_2
        have t_tm := (hs2 _ (tag_ne t_tm t_a0 (fun q => absurd (show 9 = 22 from congrArg Prod.fst q) (by decide)))).trans t_tm
        have t_q0_4 := (hs2 _ (tag_ne t_q0_4 t_a0 (fun q => absurd (show 8 = 22 from congrArg Prod.fst q) (by decide)))).trans t_q0_4
        have t_q0_15 := (hs2 _ (tag_ne t_q0_15 t_a0 (fun q => absurd (show 1 = 22 from congrArg Prod.fst q) (by decide)))).trans t_q0_15
        have t_q0_17 := (hs2 _ (tag_ne t_q0_17 t_a0 (fun q => absurd (show 9 = 22 from congrArg Prod.fst q) (by decide)))).trans t_q0_17
        have t_q0_18 := (hs2 _ (tag_ne t_q0_18 t_a0 (fun q => absurd (show 9 = 22 from congrArg Prod.fst q) (by decide)))).trans t_q0_18
        have t_q0_19 := (hs2 _ (tag_ne t_q0_19 t_a0 (fun q => absurd (show 1 = 22 from congrArg Prod.fst q) (by decide)))).trans t_q0_19
        have t_q0_21 := (hs2 _ (tag_ne t_q0_21 t_a0 (fun q => absurd (show 1 = 22 from congrArg Prod.fst q) (by decide)))).trans t_q0_21
        have t_q0_22 := (hs2 _ (tag_ne t_q0_22 t_a0 (fun q => absurd (show 1 = 22 from congrArg Prod.fst q) (by decide)))).trans t_q0_22
        have t_q0_26 := (hs2 _ (tag_ne t_q0_26 t_a0 (fun q => absurd (show 2 = 22 from congrArg Prod.fst q) (by decide)))).trans t_q0_26
        have t_q0_27 := (hs2 _ (tag_ne t_q0_27 t_a0 (fun q => absurd (show 3 = 22 from congrArg Prod.fst q) (by decide)))).trans t_q0_27
        have t_q0_28 := (hs2 _ (tag_ne t_q0_28 t_a0 (fun q => absurd (show 0 = 22 from congrArg Prod.fst q) (by decide)))).trans t_q0_28
        have t_q0_29 := (hs2 _ (tag_ne t_q0_29 t_a0 (fun q => absurd (show 1 = 22 from congrArg Prod.fst q) (by decide)))).trans t_q0_29
        have t_q0_30 := (hs2 _ (tag_ne t_q0_30 t_a0 (fun q => absurd (show 1 = 22 from congrArg Prod.fst q) (by decide)))).trans t_q0_30
        have t_q0_31 := (hs2 _ (tag_ne t_q0_31 t_a0 (fun q => absurd (show 1 = 22 from congrArg Prod.fst q) (by decide)))).trans t_q0_31
        have t_q0_33 := (hs2 _ (tag_ne t_q0_33 t_a0 (fun q => absurd (show 1 = 22 from congrArg Prod.fst q) (by decide)))).trans t_q0_33
        have t_q0_34 := (hs2 _ (tag_ne t_q0_34 t_a0 (fun q => absurd (show 1 = 22 from congrArg Prod.fst q) (by decide)))).trans t_q0_34
        have t_q0_35 := (hs2 _ (tag_ne t_q0_35 t_a0 (fun q => absurd (show 2 = 22 from congrArg Prod.fst q) (by decide)))).trans t_q0_35
        have t_a0 := tm2
        have hH : HT D cs A T2 (tm :: O) ((tm, .inl (cs.2.1, 900, .inl g24_1)) :: X) H := HT.lay (ci := 12) hH t_a0 (okL_c (⟨_, rfl⟩) (okL_c (⟨_, rfl, t_q0_1⟩) (okL_c (⟨_, rfl, t_q0_2⟩) (okL_c (⟨_, rfl, t_tm⟩) (okL_c (⟨_, rfl, t_q0_4⟩) (okL_c (⟨_, rfl, by omega, by omega, by omega⟩) (okL_c (⟨_, rfl⟩) (okL_c (⟨_, rfl⟩) (okL_c (⟨_, rfl⟩) (okL_c (⟨_, rfl⟩) (okL_c (⟨_, rfl, by omega, by omega⟩) (okL_c (⟨_, rfl⟩) (okL_c (⟨_, rfl⟩) (okL_c (⟨_, rfl, by omega⟩) (okL_c (⟨_, rfl, by omega⟩) (okL_c (⟨_, rfl, t_q0_15⟩) (okL_c (⟨_, rfl⟩) (okL_c (⟨_, rfl, t_q0_17⟩) (okL_c (⟨_, rfl, t_q0_18⟩) (okL_c (⟨_, rfl, t_q0_19⟩) (okL_c (⟨_, rfl, by omega, by omega⟩) (okL_c (⟨_, rfl, t_q0_21⟩) (okL_c (⟨_, rfl, t_q0_22⟩) (okL_c (⟨_, rfl⟩) (okL_c (⟨_, rfl⟩) (okL_c (⟨_, rfl⟩) (okL_c (⟨_, rfl, t_q0_26⟩) (okL_c (⟨_, rfl, t_q0_27⟩) (okL_c (⟨_, rfl, t_q0_28⟩) (okL_c (⟨_, rfl, t_q0_29⟩) (okL_c (⟨_, rfl, t_q0_30⟩) (okL_c (⟨_, rfl, t_q0_31⟩) (okL_c (⟨_, rfl⟩) (okL_c (⟨_, rfl, t_q0_33⟩) (okL_c (⟨_, rfl, t_q0_34⟩) (okL_c (⟨_, rfl, t_q0_35⟩) (okL_n)))))))))))))))))))))))))))))))))))))
        have hO := hO0
        exact te_i hx hb hr hlocks hH hS (⟨T2, (mq + 20), g24_1, rfl, by omega, by omega, rk2, tm2, ⟨(by have k9 : (-5 : Int32).toInt = -5 := (by decide); unfold FDF; omega), by omega⟩, ⟨fun q9 => absurd q9 (by omega), fun _ => RFI_e ir24 (by omega) htm⟩⟩) dX12_feed_125
      · skip
        have tc28 := f_nge (k := 20) (by decide) c28
        refine lv_iload hx hb dX12_feed_31 (lv_at hl 0 rfl) ?_
        refine lv_iconst (v := 4) hx hb dX12_feed_33 (by decide) ?_
        refine lv_icmp_ge (tgt := 41) hx hb dX12_feed_34 (by decide) (fun c34 => ?_) (fun c34 => ?_)
        · skip
          have tc34 := f_ge (k := 4) (by decide) c34
          refine lv_iload hx hb dX12_feed_41 (lv_at hl 0 rfl) ?_
          refine lv_bipush (v := 8) hx hb dX12_feed_43 (by decide) ?_
          refine lv_icmp_ge (tgt := 52) hx hb dX12_feed_45 (by decide) (fun c45 => ?_) (fun c45 => ?_)
          · skip
            have tc45 := f_ge (k := 8) (by decide) c45
            refine lv_iload hx hb dX12_feed_52 (lv_at hl 0 rfl) ?_
            refine lv_bipush (v := 12) hx hb dX12_feed_54 (by decide) ?_
            refine lv_icmp_ge (tgt := 63) hx hb dX12_feed_56 (by decide) (fun c56 => ?_) (fun c56 => ?_)
            · skip
              have tc56 := f_ge (k := 12) (by decide) c56
              refine lv_iload hx hb dX12_feed_63 (lv_at hl 0 rfl) ?_
              refine lv_bipush (v := 16) hx hb dX12_feed_65 (by decide) ?_
              refine lv_icmp_ge (tgt := 75) hx hb dX12_feed_67 (by decide) (fun c67 => ?_) (fun c67 => ?_)
              · skip
                have tc67 := f_ge (k := 16) (by decide) c67
                refine lv_iload hx hb dX12_feed_75 (lv_at hl 6 rfl) ?_
                refine lv_istore (lv' := [(7, .int x5), (6, .int p24_6), (0, .ref a0), (1, .int x1), (2, .int x2), (3, .int x3), (4, .int x4), (5, .int x5)]) hx hb dX12_feed_77 hl (by decide) rfl (fun ls hl => ?_)
                refine lv_aload_n hx hb dX12_feed_79 rfl (lv_at hl 2 rfl) ?_
                refine x_getk (ci := 12) (C := RX12) (F := TX12) (N := 36) (v := .ref tm) hx hb hts uX12 hown hkb hH 0 rfl rfl 3 (by decide) rfl kw_1226 (fun _ h9 => h9) dX12_feed_80 ?_
                refine lv_aload_n hx hb dX12_feed_83 rfl (lv_at hl 2 rfl) ?_
                refine x_getk (ci := 12) (C := RX12) (F := TX12) (N := 36) (v := .int f24_105) hx hb hts uX12 hown hkb hH 0 rfl rfl 5 (by decide) rfl kw_1228 (fun _ h9 => h9) dX12_feed_84 ?_
                refine lv_iload hx hb dX12_feed_87 (lv_at hl 0 rfl) ?_
                refine lv_bipush (v := 24) hx hb dX12_feed_89 (by decide) ?_
                refine lv_bipush (v := 8) hx hb dX12_feed_91 (by decide) ?_
                refine lv_iload hx hb dX12_feed_93 (lv_at hl 1 rfl) ?_
                refine lv_iconst (v := 4) hx hb dX12_feed_95 (by decide) ?_
                refine lv_irem hx hb dX12_feed_96 (by decide) ?_
                refine lv_topi (fun v96 ev96 => ?_)
                have tv96 : (0 ≤ p24_6.toInt → 0 ≤ v96.toInt) ∧ v96.toInt < 4 ∧ -4 < v96.toInt ∧ (p24_6.toInt ≤ 0 → v96.toInt ≤ 0) := by rw [ev96]; exact irem_b (by decide) (by decide)
                refine lv_imul hx hb dX12_feed_97 ?_
                refine lv_topi (fun v97 ev97 => ?_)
                have tv97 : v97.toInt = (8) * v96.toInt := by rw [ev97]; exact mul_i (by decide : (8 : Int32).toInt = 8) rfl (by omega) (by omega)
                refine lv_isub hx hb dX12_feed_98 ?_
                refine lv_topi (fun v98 ev98 => ?_)
                have tv98 : v98.toInt = (24) - v97.toInt := by rw [ev98]; exact sub_i (by decide : (24 : Int32).toInt = 24) rfl (by omega) (by omega)
                have hr99 : v96.toInt = Int.tmod p24_6.toInt 4 := by rw [ev96]; exact irem_e (by decide) (by decide)
                have hr98 : v96.toInt = ((p24_6.toInt.toNat % 4 : Nat) : Int) := by rw [hr99, Int.tmod_eq_emod_of_nonneg (by omega)]; omega
                refine lv_ishr hx hb dX12_feed_99 ?_
                refine lv_topi (fun v99 ev99 => ?_)
                refine lv_sipush (v := 255) hx hb dX12_feed_100 (by decide) ?_
                refine lv_iand hx hb dX12_feed_103 ?_
                refine lv_topi (fun v103 ev103 => ?_)
                have tv103 : 0 ≤ v103.toInt ∧ v103.toInt ≤ 255 := by rw [ev103]; exact and_r (by decide)
                refine xa_ist hx hb hkb hH hS 1 rfl (by omega) (by omega) dX12_feed_104 (fun H locs hH hS => ?_)
                have hH : HT D cs A T (a0 :: tm :: O) ((a0, .inr (12, [.int 0, .ref q0_1, .ref q0_2, .ref tm, .ref q0_4, .int f24_105, .int q0_6, .int q0_7, .int q0_8, .int q0_9, .int q0_10, .int q0_11, .int q0_12, .int q0_13, .int q0_14, .ref q0_15, .int q0_16, .ref q0_17, .ref q0_18, .ref q0_19, .int q0_20, .ref q0_21, .ref q0_22, .int q0_23, .int q0_24, .int q0_25, .ref q0_26, .ref q0_27, .ref q0_28, .ref q0_29, .ref q0_30, .ref q0_31, .int q0_32, .ref q0_33, .ref q0_34, .ref q0_35])) :: (tm, .inl (cs.2.1, 900, .inl (upd g24_1 (f24_105.toInt.toNat) v103))) :: X) H := hH
                obtain ⟨F104, eF104⟩ : ∃ f9, f9 = upd g24_1 (f24_105.toInt.toNat) v103 := ⟨_, rfl⟩
                have hH : HT D cs A T (a0 :: tm :: O) ((a0, .inr (12, [.int 0, .ref q0_1, .ref q0_2, .ref tm, .ref q0_4, .int f24_105, .int q0_6, .int q0_7, .int q0_8, .int q0_9, .int q0_10, .int q0_11, .int q0_12, .int q0_13, .int q0_14, .ref q0_15, .int q0_16, .ref q0_17, .ref q0_18, .ref q0_19, .int q0_20, .ref q0_21, .ref q0_22, .int q0_23, .int q0_24, .int q0_25, .ref q0_26, .ref q0_27, .ref q0_28, .ref q0_29, .ref q0_30, .ref q0_31, .int q0_32, .ref q0_33, .ref q0_34, .ref q0_35])) :: (tm, .inl (cs.2.1, 900, .inl F104)) :: X) H := eF104 ▸ hH
                refine lv_aload_n hx hb dX12_feed_105 rfl (lv_at hl 2 rfl) ?_
                refine lv_dup hx hb dX12_feed_106 rfl ?_
                refine x_getk (ci := 12) (C := RX12) (F := TX12) (N := 36) (v := .int f24_105) hx hb hts uX12 hown hkb hH 0 rfl rfl 5 (by decide) rfl kw_1228 (fun _ h9 => h9) dX12_feed_107 ?_
                refine lv_iconst (v := 1) hx hb dX12_feed_110 (by decide) ?_
                refine lv_iadd hx hb dX12_feed_111 ?_
                refine lv_topi (fun v111 ev111 => ?_)
                have tv111 : v111.toInt = f24_105.toInt + (1) := by rw [ev111]; exact add_i rfl (by decide : (1 : Int32).toInt = 1) (by omega) (by omega)
                refine x_putk (ci := 12) (v := .int v111) (ty := tyX12 5) (C := RX12) (F := TX12) (N := 36) hx hb hts uX12 tyX12 tyX12_ok nmX12 hown hkb hH hS 0 rfl rfl 5 (by decide) kw_1228 (fun _ h9 => h9) rfl (tyX12_ok 5 (by decide)) rfl rfl (Nat.le_of_ble_eq_true rfl) dX12_feed_112 (fun H locs hH hS => ?_)
                have hH : HT D cs A T (a0 :: tm :: O) ((a0, .inr (12, [.int 0, .ref q0_1, .ref q0_2, .ref tm, .ref q0_4, .int v111, .int q0_6, .int q0_7, .int q0_8, .int q0_9, .int q0_10, .int q0_11, .int q0_12, .int q0_13, .int q0_14, .ref q0_15, .int q0_16, .ref q0_17, .ref q0_18, .ref q0_19, .int q0_20, .ref q0_21, .ref q0_22, .int q0_23, .int q0_24, .int q0_25, .ref q0_26, .ref q0_27, .ref q0_28, .ref q0_29, .ref q0_30, .ref q0_31, .int q0_32, .ref q0_33, .ref q0_34, .ref q0_35])) :: (tm, .inl (cs.2.1, 900, .inl F104)) :: X) H := hH
                obtain ⟨v115, ev115⟩ : ∃ y : Int32, y = p24_6 + 1 := ⟨_, rfl⟩
                have tv115 : v115.toInt = p24_6.toInt + (1) := by rw [ev115]; exact add_i rfl (by decide) (by omega) (by omega)
                refine lv_iinc (v := v115) (lv' := [(6, .int v115), (7, .int x5), (0, .ref a0), (1, .int x1), (2, .int x2), (3, .int x3), (4, .int x4), (5, .int x5)]) hx hb dX12_feed_115 hl (k := 1) rfl (by rw [ev115]; rfl) (by decide) rfl (fun ls hl => ?_)
                refine lv_goto (tgt := 24) hx hb dX12_feed_118 (by decide) ?_
                exact ih24 _ (by omega) v115 v111 F104 _ _ _ rfl (by omega) (by omega) (by omega) (by omega) (by omega) (by omega) (by first | (refine RFI_0 ?_; decide) | (refine RFI_s ir24 ?_ ?_ ?_ (show x1 = XS x1 x2 x3 x4 x5 (p24_6.toInt.toNat / 4) by rw [show p24_6.toInt.toNat / 4 = 0 by omega]; rfl) ev99 ev103 eF104 <;> omega) | (refine RFI_s ir24 ?_ ?_ ?_ (show x2 = XS x1 x2 x3 x4 x5 (p24_6.toInt.toNat / 4) by rw [show p24_6.toInt.toNat / 4 = 1 by omega]; rfl) ev99 ev103 eF104 <;> omega) | (refine RFI_s ir24 ?_ ?_ ?_ (show x3 = XS x1 x2 x3 x4 x5 (p24_6.toInt.toNat / 4) by rw [show p24_6.toInt.toNat / 4 = 2 by omega]; rfl) ev99 ev103 eF104 <;> omega) | (refine RFI_s ir24 ?_ ?_ ?_ (show x4 = XS x1 x2 x3 x4 x5 (p24_6.toInt.toNat / 4) by rw [show p24_6.toInt.toNat / 4 = 3 by omega]; rfl) ev99 ev103 eF104 <;> omega) | (refine RFI_s ir24 ?_ ?_ ?_ (show x5 = XS x1 x2 x3 x4 x5 (p24_6.toInt.toNat / 4) by rw [show p24_6.toInt.toNat / 4 = 4 by omega]; rfl) ev99 ev103 eF104 <;> omega)) hH hS (lv_sub hl [0, 2, 3, 4, 5, 6, 7] rfl)
              · skip
                have tc67 := f_nge (k := 16) (by decide) c67
                refine lv_iload hx hb dX12_feed_70 (lv_at hl 5 rfl) ?_
                refine lv_goto (tgt := 77) hx hb dX12_feed_72 (by decide) ?_
                refine lv_istore (lv' := [(7, .int x4), (6, .int p24_6), (0, .ref a0), (1, .int x1), (2, .int x2), (3, .int x3), (4, .int x4), (5, .int x5)]) hx hb dX12_feed_77 hl (by decide) rfl (fun ls hl => ?_)
                refine lv_aload_n hx hb dX12_feed_79 rfl (lv_at hl 2 rfl) ?_
                refine x_getk (ci := 12) (C := RX12) (F := TX12) (N := 36) (v := .ref tm) hx hb hts uX12 hown hkb hH 0 rfl rfl 3 (by decide) rfl kw_1226 (fun _ h9 => h9) dX12_feed_80 ?_
                refine lv_aload_n hx hb dX12_feed_83 rfl (lv_at hl 2 rfl) ?_
                refine x_getk (ci := 12) (C := RX12) (F := TX12) (N := 36) (v := .int f24_105) hx hb hts uX12 hown hkb hH 0 rfl rfl 5 (by decide) rfl kw_1228 (fun _ h9 => h9) dX12_feed_84 ?_
                refine lv_iload hx hb dX12_feed_87 (lv_at hl 0 rfl) ?_
                refine lv_bipush (v := 24) hx hb dX12_feed_89 (by decide) ?_
                refine lv_bipush (v := 8) hx hb dX12_feed_91 (by decide) ?_
                refine lv_iload hx hb dX12_feed_93 (lv_at hl 1 rfl) ?_
                refine lv_iconst (v := 4) hx hb dX12_feed_95 (by decide) ?_
                refine lv_irem hx hb dX12_feed_96 (by decide) ?_
                refine lv_topi (fun v96 ev96 => ?_)
                have tv96 : (0 ≤ p24_6.toInt → 0 ≤ v96.toInt) ∧ v96.toInt < 4 ∧ -4 < v96.toInt ∧ (p24_6.toInt ≤ 0 → v96.toInt ≤ 0) := by rw [ev96]; exact irem_b (by decide) (by decide)
                refine lv_imul hx hb dX12_feed_97 ?_
                refine lv_topi (fun v97 ev97 => ?_)
                have tv97 : v97.toInt = (8) * v96.toInt := by rw [ev97]; exact mul_i (by decide : (8 : Int32).toInt = 8) rfl (by omega) (by omega)
                refine lv_isub hx hb dX12_feed_98 ?_
                refine lv_topi (fun v98 ev98 => ?_)
                have tv98 : v98.toInt = (24) - v97.toInt := by rw [ev98]; exact sub_i (by decide : (24 : Int32).toInt = 24) rfl (by omega) (by omega)
                have hr99 : v96.toInt = Int.tmod p24_6.toInt 4 := by rw [ev96]; exact irem_e (by decide) (by decide)
                have hr98 : v96.toInt = ((p24_6.toInt.toNat % 4 : Nat) : Int) := by rw [hr99, Int.tmod_eq_emod_of_nonneg (by omega)]; omega
                refine lv_ishr hx hb dX12_feed_99 ?_
                refine lv_topi (fun v99 ev99 => ?_)
                refine lv_sipush (v := 255) hx hb dX12_feed_100 (by decide) ?_
                refine lv_iand hx hb dX12_feed_103 ?_
                refine lv_topi (fun v103 ev103 => ?_)
                have tv103 : 0 ≤ v103.toInt ∧ v103.toInt ≤ 255 := by rw [ev103]; exact and_r (by decide)
                refine xa_ist hx hb hkb hH hS 1 rfl (by omega) (by omega) dX12_feed_104 (fun H locs hH hS => ?_)
                have hH : HT D cs A T (a0 :: tm :: O) ((a0, .inr (12, [.int 0, .ref q0_1, .ref q0_2, .ref tm, .ref q0_4, .int f24_105, .int q0_6, .int q0_7, .int q0_8, .int q0_9, .int q0_10, .int q0_11, .int q0_12, .int q0_13, .int q0_14, .ref q0_15, .int q0_16, .ref q0_17, .ref q0_18, .ref q0_19, .int q0_20, .ref q0_21, .ref q0_22, .int q0_23, .int q0_24, .int q0_25, .ref q0_26, .ref q0_27, .ref q0_28, .ref q0_29, .ref q0_30, .ref q0_31, .int q0_32, .ref q0_33, .ref q0_34, .ref q0_35])) :: (tm, .inl (cs.2.1, 900, .inl (upd g24_1 (f24_105.toInt.toNat) v103))) :: X) H := hH
                obtain ⟨F104, eF104⟩ : ∃ f9, f9 = upd g24_1 (f24_105.toInt.toNat) v103 := ⟨_, rfl⟩
                have hH : HT D cs A T (a0 :: tm :: O) ((a0, .inr (12, [.int 0, .ref q0_1, .ref q0_2, .ref tm, .ref q0_4, .int f24_105, .int q0_6, .int q0_7, .int q0_8, .int q0_9, .int q0_10, .int q0_11, .int q0_12, .int q0_13, .int q0_14, .ref q0_15, .int q0_16, .ref q0_17, .ref q0_18, .ref q0_19, .int q0_20, .ref q0_21, .ref q0_22, .int q0_23, .int q0_24, .int q0_25, .ref q0_26, .ref q0_27, .ref q0_28, .ref q0_29, .ref q0_30, .ref q0_31, .int q0_32, .ref q0_33, .ref q0_34, .ref q0_35])) :: (tm, .inl (cs.2.1, 900, .inl F104)) :: X) H := eF104 ▸ hH
                refine lv_aload_n hx hb dX12_feed_105 rfl (lv_at hl 2 rfl) ?_
                refine lv_dup hx hb dX12_feed_106 rfl ?_
                refine x_getk (ci := 12) (C := RX12) (F := TX12) (N := 36) (v := .int f24_105) hx hb hts uX12 hown hkb hH 0 rfl rfl 5 (by decide) rfl kw_1228 (fun _ h9 => h9) dX12_feed_107 ?_
                refine lv_iconst (v := 1) hx hb dX12_feed_110 (by decide) ?_
                refine lv_iadd hx hb dX12_feed_111 ?_
                refine lv_topi (fun v111 ev111 => ?_)
                have tv111 : v111.toInt = f24_105.toInt + (1) := by rw [ev111]; exact add_i rfl (by decide : (1 : Int32).toInt = 1) (by omega) (by omega)
                refine x_putk (ci := 12) (v := .int v111) (ty := tyX12 5) (C := RX12) (F := TX12) (N := 36) hx hb hts uX12 tyX12 tyX12_ok nmX12 hown hkb hH hS 0 rfl rfl 5 (by decide) kw_1228 (fun _ h9 => h9) rfl (tyX12_ok 5 (by decide)) rfl rfl (Nat.le_of_ble_eq_true rfl) dX12_feed_112 (fun H locs hH hS => ?_)
                have hH : HT D cs A T (a0 :: tm :: O) ((a0, .inr (12, [.int 0, .ref q0_1, .ref q0_2, .ref tm, .ref q0_4, .int v111, .int q0_6, .int q0_7, .int q0_8, .int q0_9, .int q0_10, .int q0_11, .int q0_12, .int q0_13, .int q0_14, .ref q0_15, .int q0_16, .ref q0_17, .ref q0_18, .ref q0_19, .int q0_20, .ref q0_21, .ref q0_22, .int q0_23, .int q0_24, .int q0_25, .ref q0_26, .ref q0_27, .ref q0_28, .ref q0_29, .ref q0_30, .ref q0_31, .int q0_32, .ref q0_33, .ref q0_34, .ref q0_35])) :: (tm, .inl (cs.2.1, 900, .inl F104)) :: X) H := hH
                obtain ⟨v115, ev115⟩ : ∃ y : Int32, y = p24_6 + 1 := ⟨_, rfl⟩
                have tv115 : v115.toInt = p24_6.toInt + (1) := by rw [ev115]; exact add_i rfl (by decide) (by omega) (by omega)
                refine lv_iinc (v := v115) (lv' := [(6, .int v115), (7, .int x4), (0, .ref a0), (1, .int x1), (2, .int x2), (3, .int x3), (4, .int x4), (5, .int x5)]) hx hb dX12_feed_115 hl (k := 1) rfl (by rw [ev115]; rfl) (by decide) rfl (fun ls hl => ?_)
                refine lv_goto (tgt := 24) hx hb dX12_feed_118 (by decide) ?_
                exact ih24 _ (by omega) v115 v111 F104 _ _ _ rfl (by omega) (by omega) (by omega) (by omega) (by omega) (by omega) (by first | (refine RFI_0 ?_; decide) | (refine RFI_s ir24 ?_ ?_ ?_ (show x1 = XS x1 x2 x3 x4 x5 (p24_6.toInt.toNat / 4) by rw [show p24_6.toInt.toNat / 4 = 0 by omega]; rfl) ev99 ev103 eF104 <;> omega) | (refine RFI_s ir24 ?_ ?_ ?_ (show x2 = XS x1 x2 x3 x4 x5 (p24_6.toInt.toNat / 4) by rw [show p24_6.toInt.toNat / 4 = 1 by omega]; rfl) ev99 ev103 eF104 <;> omega) | (refine RFI_s ir24 ?_ ?_ ?_ (show x3 = XS x1 x2 x3 x4 x5 (p24_6.toInt.toNat / 4) by rw [show p24_6.toInt.toNat / 4 = 2 by omega]; rfl) ev99 ev103 eF104 <;> omega) | (refine RFI_s ir24 ?_ ?_ ?_ (show x4 = XS x1 x2 x3 x4 x5 (p24_6.toInt.toNat / 4) by rw [show p24_6.toInt.toNat / 4 = 3 by omega]; rfl) ev99 ev103 eF104 <;> omega) | (refine RFI_s ir24 ?_ ?_ ?_ (show x5 = XS x1 x2 x3 x4 x5 (p24_6.toInt.toNat / 4) by rw [show p24_6.toInt.toNat / 4 = 4 by omega]; rfl) ev99 ev103 eF104 <;> omega)) hH hS (lv_sub hl [0, 2, 3, 4, 5, 6, 7] rfl)
            · skip
              have tc56 := f_nge (k := 12) (by decide) c56
              refine lv_iload_n hx hb dX12_feed_59 rfl (lv_at hl 4 rfl) ?_
              refine lv_goto (tgt := 77) hx hb dX12_feed_60 (by decide) ?_
              refine lv_istore (lv' := [(7, .int x3), (6, .int p24_6), (0, .ref a0), (1, .int x1), (2, .int x2), (3, .int x3), (4, .int x4), (5, .int x5)]) hx hb dX12_feed_77 hl (by decide) rfl (fun ls hl => ?_)
              refine lv_aload_n hx hb dX12_feed_79 rfl (lv_at hl 2 rfl) ?_
              refine x_getk (ci := 12) (C := RX12) (F := TX12) (N := 36) (v := .ref tm) hx hb hts uX12 hown hkb hH 0 rfl rfl 3 (by decide) rfl kw_1226 (fun _ h9 => h9) dX12_feed_80 ?_
              refine lv_aload_n hx hb dX12_feed_83 rfl (lv_at hl 2 rfl) ?_
              refine x_getk (ci := 12) (C := RX12) (F := TX12) (N := 36) (v := .int f24_105) hx hb hts uX12 hown hkb hH 0 rfl rfl 5 (by decide) rfl kw_1228 (fun _ h9 => h9) dX12_feed_84 ?_
              refine lv_iload hx hb dX12_feed_87 (lv_at hl 0 rfl) ?_
              refine lv_bipush (v := 24) hx hb dX12_feed_89 (by decide) ?_
              refine lv_bipush (v := 8) hx hb dX12_feed_91 (by decide) ?_
              refine lv_iload hx hb dX12_feed_93 (lv_at hl 1 rfl) ?_
              refine lv_iconst (v := 4) hx hb dX12_feed_95 (by decide) ?_
              refine lv_irem hx hb dX12_feed_96 (by decide) ?_
              refine lv_topi (fun v96 ev96 => ?_)
              have tv96 : (0 ≤ p24_6.toInt → 0 ≤ v96.toInt) ∧ v96.toInt < 4 ∧ -4 < v96.toInt ∧ (p24_6.toInt ≤ 0 → v96.toInt ≤ 0) := by rw [ev96]; exact irem_b (by decide) (by decide)
              refine lv_imul hx hb dX12_feed_97 ?_
              refine lv_topi (fun v97 ev97 => ?_)
              have tv97 : v97.toInt = (8) * v96.toInt := by rw [ev97]; exact mul_i (by decide : (8 : Int32).toInt = 8) rfl (by omega) (by omega)
              refine lv_isub hx hb dX12_feed_98 ?_
              refine lv_topi (fun v98 ev98 => ?_)
              have tv98 : v98.toInt = (24) - v97.toInt := by rw [ev98]; exact sub_i (by decide : (24 : Int32).toInt = 24) rfl (by omega) (by omega)
              have hr99 : v96.toInt = Int.tmod p24_6.toInt 4 := by rw [ev96]; exact irem_e (by decide) (by decide)
              have hr98 : v96.toInt = ((p24_6.toInt.toNat % 4 : Nat) : Int) := by rw [hr99, Int.tmod_eq_emod_of_nonneg (by omega)]; omega
              refine lv_ishr hx hb dX12_feed_99 ?_
              refine lv_topi (fun v99 ev99 => ?_)
              refine lv_sipush (v := 255) hx hb dX12_feed_100 (by decide) ?_
              refine lv_iand hx hb dX12_feed_103 ?_
              refine lv_topi (fun v103 ev103 => ?_)
              have tv103 : 0 ≤ v103.toInt ∧ v103.toInt ≤ 255 := by rw [ev103]; exact and_r (by decide)
              refine xa_ist hx hb hkb hH hS 1 rfl (by omega) (by omega) dX12_feed_104 (fun H locs hH hS => ?_)
              have hH : HT D cs A T (a0 :: tm :: O) ((a0, .inr (12, [.int 0, .ref q0_1, .ref q0_2, .ref tm, .ref q0_4, .int f24_105, .int q0_6, .int q0_7, .int q0_8, .int q0_9, .int q0_10, .int q0_11, .int q0_12, .int q0_13, .int q0_14, .ref q0_15, .int q0_16, .ref q0_17, .ref q0_18, .ref q0_19, .int q0_20, .ref q0_21, .ref q0_22, .int q0_23, .int q0_24, .int q0_25, .ref q0_26, .ref q0_27, .ref q0_28, .ref q0_29, .ref q0_30, .ref q0_31, .int q0_32, .ref q0_33, .ref q0_34, .ref q0_35])) :: (tm, .inl (cs.2.1, 900, .inl (upd g24_1 (f24_105.toInt.toNat) v103))) :: X) H := hH
              obtain ⟨F104, eF104⟩ : ∃ f9, f9 = upd g24_1 (f24_105.toInt.toNat) v103 := ⟨_, rfl⟩
              have hH : HT D cs A T (a0 :: tm :: O) ((a0, .inr (12, [.int 0, .ref q0_1, .ref q0_2, .ref tm, .ref q0_4, .int f24_105, .int q0_6, .int q0_7, .int q0_8, .int q0_9, .int q0_10, .int q0_11, .int q0_12, .int q0_13, .int q0_14, .ref q0_15, .int q0_16, .ref q0_17, .ref q0_18, .ref q0_19, .int q0_20, .ref q0_21, .ref q0_22, .int q0_23, .int q0_24, .int q0_25, .ref q0_26, .ref q0_27, .ref q0_28, .ref q0_29, .ref q0_30, .ref q0_31, .int q0_32, .ref q0_33, .ref q0_34, .ref q0_35])) :: (tm, .inl (cs.2.1, 900, .inl F104)) :: X) H := eF104 ▸ hH
              refine lv_aload_n hx hb dX12_feed_105 rfl (lv_at hl 2 rfl) ?_
              refine lv_dup hx hb dX12_feed_106 rfl ?_
              refine x_getk (ci := 12) (C := RX12) (F := TX12) (N := 36) (v := .int f24_105) hx hb hts uX12 hown hkb hH 0 rfl rfl 5 (by decide) rfl kw_1228 (fun _ h9 => h9) dX12_feed_107 ?_
              refine lv_iconst (v := 1) hx hb dX12_feed_110 (by decide) ?_
              refine lv_iadd hx hb dX12_feed_111 ?_
              refine lv_topi (fun v111 ev111 => ?_)
              have tv111 : v111.toInt = f24_105.toInt + (1) := by rw [ev111]; exact add_i rfl (by decide : (1 : Int32).toInt = 1) (by omega) (by omega)
              refine x_putk (ci := 12) (v := .int v111) (ty := tyX12 5) (C := RX12) (F := TX12) (N := 36) hx hb hts uX12 tyX12 tyX12_ok nmX12 hown hkb hH hS 0 rfl rfl 5 (by decide) kw_1228 (fun _ h9 => h9) rfl (tyX12_ok 5 (by decide)) rfl rfl (Nat.le_of_ble_eq_true rfl) dX12_feed_112 (fun H locs hH hS => ?_)
              have hH : HT D cs A T (a0 :: tm :: O) ((a0, .inr (12, [.int 0, .ref q0_1, .ref q0_2, .ref tm, .ref q0_4, .int v111, .int q0_6, .int q0_7, .int q0_8, .int q0_9, .int q0_10, .int q0_11, .int q0_12, .int q0_13, .int q0_14, .ref q0_15, .int q0_16, .ref q0_17, .ref q0_18, .ref q0_19, .int q0_20, .ref q0_21, .ref q0_22, .int q0_23, .int q0_24, .int q0_25, .ref q0_26, .ref q0_27, .ref q0_28, .ref q0_29, .ref q0_30, .ref q0_31, .int q0_32, .ref q0_33, .ref q0_34, .ref q0_35])) :: (tm, .inl (cs.2.1, 900, .inl F104)) :: X) H := hH
              obtain ⟨v115, ev115⟩ : ∃ y : Int32, y = p24_6 + 1 := ⟨_, rfl⟩
              have tv115 : v115.toInt = p24_6.toInt + (1) := by rw [ev115]; exact add_i rfl (by decide) (by omega) (by omega)
              refine lv_iinc (v := v115) (lv' := [(6, .int v115), (7, .int x3), (0, .ref a0), (1, .int x1), (2, .int x2), (3, .int x3), (4, .int x4), (5, .int x5)]) hx hb dX12_feed_115 hl (k := 1) rfl (by rw [ev115]; rfl) (by decide) rfl (fun ls hl => ?_)
              refine lv_goto (tgt := 24) hx hb dX12_feed_118 (by decide) ?_
              exact ih24 _ (by omega) v115 v111 F104 _ _ _ rfl (by omega) (by omega) (by omega) (by omega) (by omega) (by omega) (by first | (refine RFI_0 ?_; decide) | (refine RFI_s ir24 ?_ ?_ ?_ (show x1 = XS x1 x2 x3 x4 x5 (p24_6.toInt.toNat / 4) by rw [show p24_6.toInt.toNat / 4 = 0 by omega]; rfl) ev99 ev103 eF104 <;> omega) | (refine RFI_s ir24 ?_ ?_ ?_ (show x2 = XS x1 x2 x3 x4 x5 (p24_6.toInt.toNat / 4) by rw [show p24_6.toInt.toNat / 4 = 1 by omega]; rfl) ev99 ev103 eF104 <;> omega) | (refine RFI_s ir24 ?_ ?_ ?_ (show x3 = XS x1 x2 x3 x4 x5 (p24_6.toInt.toNat / 4) by rw [show p24_6.toInt.toNat / 4 = 2 by omega]; rfl) ev99 ev103 eF104 <;> omega) | (refine RFI_s ir24 ?_ ?_ ?_ (show x4 = XS x1 x2 x3 x4 x5 (p24_6.toInt.toNat / 4) by rw [show p24_6.toInt.toNat / 4 = 3 by omega]; rfl) ev99 ev103 eF104 <;> omega) | (refine RFI_s ir24 ?_ ?_ ?_ (show x5 = XS x1 x2 x3 x4 x5 (p24_6.toInt.toNat / 4) by rw [show p24_6.toInt.toNat / 4 = 4 by omega]; rfl) ev99 ev103 eF104 <;> omega)) hH hS (lv_sub hl [0, 2, 3, 4, 5, 6, 7] rfl)
          · skip
            have tc45 := f_nge (k := 8) (by decide) c45
            refine lv_iload_n hx hb dX12_feed_48 rfl (lv_at hl 3 rfl) ?_
            refine lv_goto (tgt := 77) hx hb dX12_feed_49 (by decide) ?_
            refine lv_istore (lv' := [(7, .int x2), (6, .int p24_6), (0, .ref a0), (1, .int x1), (2, .int x2), (3, .int x3), (4, .int x4), (5, .int x5)]) hx hb dX12_feed_77 hl (by decide) rfl (fun ls hl => ?_)
            refine lv_aload_n hx hb dX12_feed_79 rfl (lv_at hl 2 rfl) ?_
            refine x_getk (ci := 12) (C := RX12) (F := TX12) (N := 36) (v := .ref tm) hx hb hts uX12 hown hkb hH 0 rfl rfl 3 (by decide) rfl kw_1226 (fun _ h9 => h9) dX12_feed_80 ?_
            refine lv_aload_n hx hb dX12_feed_83 rfl (lv_at hl 2 rfl) ?_
            refine x_getk (ci := 12) (C := RX12) (F := TX12) (N := 36) (v := .int f24_105) hx hb hts uX12 hown hkb hH 0 rfl rfl 5 (by decide) rfl kw_1228 (fun _ h9 => h9) dX12_feed_84 ?_
            refine lv_iload hx hb dX12_feed_87 (lv_at hl 0 rfl) ?_
            refine lv_bipush (v := 24) hx hb dX12_feed_89 (by decide) ?_
            refine lv_bipush (v := 8) hx hb dX12_feed_91 (by decide) ?_
            refine lv_iload hx hb dX12_feed_93 (lv_at hl 1 rfl) ?_
            refine lv_iconst (v := 4) hx hb dX12_feed_95 (by decide) ?_
            refine lv_irem hx hb dX12_feed_96 (by decide) ?_
            refine lv_topi (fun v96 ev96 => ?_)
            have tv96 : (0 ≤ p24_6.toInt → 0 ≤ v96.toInt) ∧ v96.toInt < 4 ∧ -4 < v96.toInt ∧ (p24_6.toInt ≤ 0 → v96.toInt ≤ 0) := by rw [ev96]; exact irem_b (by decide) (by decide)
            refine lv_imul hx hb dX12_feed_97 ?_
            refine lv_topi (fun v97 ev97 => ?_)
            have tv97 : v97.toInt = (8) * v96.toInt := by rw [ev97]; exact mul_i (by decide : (8 : Int32).toInt = 8) rfl (by omega) (by omega)
            refine lv_isub hx hb dX12_feed_98 ?_
            refine lv_topi (fun v98 ev98 => ?_)
            have tv98 : v98.toInt = (24) - v97.toInt := by rw [ev98]; exact sub_i (by decide : (24 : Int32).toInt = 24) rfl (by omega) (by omega)
            have hr99 : v96.toInt = Int.tmod p24_6.toInt 4 := by rw [ev96]; exact irem_e (by decide) (by decide)
            have hr98 : v96.toInt = ((p24_6.toInt.toNat % 4 : Nat) : Int) := by rw [hr99, Int.tmod_eq_emod_of_nonneg (by omega)]; omega
            refine lv_ishr hx hb dX12_feed_99 ?_
            refine lv_topi (fun v99 ev99 => ?_)
            refine lv_sipush (v := 255) hx hb dX12_feed_100 (by decide) ?_
            refine lv_iand hx hb dX12_feed_103 ?_
            refine lv_topi (fun v103 ev103 => ?_)
            have tv103 : 0 ≤ v103.toInt ∧ v103.toInt ≤ 255 := by rw [ev103]; exact and_r (by decide)
            refine xa_ist hx hb hkb hH hS 1 rfl (by omega) (by omega) dX12_feed_104 (fun H locs hH hS => ?_)
            have hH : HT D cs A T (a0 :: tm :: O) ((a0, .inr (12, [.int 0, .ref q0_1, .ref q0_2, .ref tm, .ref q0_4, .int f24_105, .int q0_6, .int q0_7, .int q0_8, .int q0_9, .int q0_10, .int q0_11, .int q0_12, .int q0_13, .int q0_14, .ref q0_15, .int q0_16, .ref q0_17, .ref q0_18, .ref q0_19, .int q0_20, .ref q0_21, .ref q0_22, .int q0_23, .int q0_24, .int q0_25, .ref q0_26, .ref q0_27, .ref q0_28, .ref q0_29, .ref q0_30, .ref q0_31, .int q0_32, .ref q0_33, .ref q0_34, .ref q0_35])) :: (tm, .inl (cs.2.1, 900, .inl (upd g24_1 (f24_105.toInt.toNat) v103))) :: X) H := hH
            obtain ⟨F104, eF104⟩ : ∃ f9, f9 = upd g24_1 (f24_105.toInt.toNat) v103 := ⟨_, rfl⟩
            have hH : HT D cs A T (a0 :: tm :: O) ((a0, .inr (12, [.int 0, .ref q0_1, .ref q0_2, .ref tm, .ref q0_4, .int f24_105, .int q0_6, .int q0_7, .int q0_8, .int q0_9, .int q0_10, .int q0_11, .int q0_12, .int q0_13, .int q0_14, .ref q0_15, .int q0_16, .ref q0_17, .ref q0_18, .ref q0_19, .int q0_20, .ref q0_21, .ref q0_22, .int q0_23, .int q0_24, .int q0_25, .ref q0_26, .ref q0_27, .ref q0_28, .ref q0_29, .ref q0_30, .ref q0_31, .int q0_32, .ref q0_33, .ref q0_34, .ref q0_35])) :: (tm, .inl (cs.2.1, 900, .inl F104)) :: X) H := eF104 ▸ hH
            refine lv_aload_n hx hb dX12_feed_105 rfl (lv_at hl 2 rfl) ?_
            refine lv_dup hx hb dX12_feed_106 rfl ?_
            refine x_getk (ci := 12) (C := RX12) (F := TX12) (N := 36) (v := .int f24_105) hx hb hts uX12 hown hkb hH 0 rfl rfl 5 (by decide) rfl kw_1228 (fun _ h9 => h9) dX12_feed_107 ?_
            refine lv_iconst (v := 1) hx hb dX12_feed_110 (by decide) ?_
            refine lv_iadd hx hb dX12_feed_111 ?_
            refine lv_topi (fun v111 ev111 => ?_)
            have tv111 : v111.toInt = f24_105.toInt + (1) := by rw [ev111]; exact add_i rfl (by decide : (1 : Int32).toInt = 1) (by omega) (by omega)
            refine x_putk (ci := 12) (v := .int v111) (ty := tyX12 5) (C := RX12) (F := TX12) (N := 36) hx hb hts uX12 tyX12 tyX12_ok nmX12 hown hkb hH hS 0 rfl rfl 5 (by decide) kw_1228 (fun _ h9 => h9) rfl (tyX12_ok 5 (by decide)) rfl rfl (Nat.le_of_ble_eq_true rfl) dX12_feed_112 (fun H locs hH hS => ?_)
            have hH : HT D cs A T (a0 :: tm :: O) ((a0, .inr (12, [.int 0, .ref q0_1, .ref q0_2, .ref tm, .ref q0_4, .int v111, .int q0_6, .int q0_7, .int q0_8, .int q0_9, .int q0_10, .int q0_11, .int q0_12, .int q0_13, .int q0_14, .ref q0_15, .int q0_16, .ref q0_17, .ref q0_18, .ref q0_19, .int q0_20, .ref q0_21, .ref q0_22, .int q0_23, .int q0_24, .int q0_25, .ref q0_26, .ref q0_27, .ref q0_28, .ref q0_29, .ref q0_30, .ref q0_31, .int q0_32, .ref q0_33, .ref q0_34, .ref q0_35])) :: (tm, .inl (cs.2.1, 900, .inl F104)) :: X) H := hH
            obtain ⟨v115, ev115⟩ : ∃ y : Int32, y = p24_6 + 1 := ⟨_, rfl⟩
            have tv115 : v115.toInt = p24_6.toInt + (1) := by rw [ev115]; exact add_i rfl (by decide) (by omega) (by omega)
            refine lv_iinc (v := v115) (lv' := [(6, .int v115), (7, .int x2), (0, .ref a0), (1, .int x1), (2, .int x2), (3, .int x3), (4, .int x4), (5, .int x5)]) hx hb dX12_feed_115 hl (k := 1) rfl (by rw [ev115]; rfl) (by decide) rfl (fun ls hl => ?_)
            refine lv_goto (tgt := 24) hx hb dX12_feed_118 (by decide) ?_
            exact ih24 _ (by omega) v115 v111 F104 _ _ _ rfl (by omega) (by omega) (by omega) (by omega) (by omega) (by omega) (by first | (refine RFI_0 ?_; decide) | (refine RFI_s ir24 ?_ ?_ ?_ (show x1 = XS x1 x2 x3 x4 x5 (p24_6.toInt.toNat / 4) by rw [show p24_6.toInt.toNat / 4 = 0 by omega]; rfl) ev99 ev103 eF104 <;> omega) | (refine RFI_s ir24 ?_ ?_ ?_ (show x2 = XS x1 x2 x3 x4 x5 (p24_6.toInt.toNat / 4) by rw [show p24_6.toInt.toNat / 4 = 1 by omega]; rfl) ev99 ev103 eF104 <;> omega) | (refine RFI_s ir24 ?_ ?_ ?_ (show x3 = XS x1 x2 x3 x4 x5 (p24_6.toInt.toNat / 4) by rw [show p24_6.toInt.toNat / 4 = 2 by omega]; rfl) ev99 ev103 eF104 <;> omega) | (refine RFI_s ir24 ?_ ?_ ?_ (show x4 = XS x1 x2 x3 x4 x5 (p24_6.toInt.toNat / 4) by rw [show p24_6.toInt.toNat / 4 = 3 by omega]; rfl) ev99 ev103 eF104 <;> omega) | (refine RFI_s ir24 ?_ ?_ ?_ (show x5 = XS x1 x2 x3 x4 x5 (p24_6.toInt.toNat / 4) by rw [show p24_6.toInt.toNat / 4 = 4 by omega]; rfl) ev99 ev103 eF104 <;> omega)) hH hS (lv_sub hl [0, 2, 3, 4, 5, 6, 7] rfl)
        · skip
          have tc34 := f_nge (k := 4) (by decide) c34
          refine lv_iload_n hx hb dX12_feed_37 rfl (lv_at hl 2 rfl) ?_
          refine lv_goto (tgt := 77) hx hb dX12_feed_38 (by decide) ?_
          refine lv_istore (lv' := [(7, .int x1), (6, .int p24_6), (0, .ref a0), (1, .int x1), (2, .int x2), (3, .int x3), (4, .int x4), (5, .int x5)]) hx hb dX12_feed_77 hl (by decide) rfl (fun ls hl => ?_)
          refine lv_aload_n hx hb dX12_feed_79 rfl (lv_at hl 2 rfl) ?_
          refine x_getk (ci := 12) (C := RX12) (F := TX12) (N := 36) (v := .ref tm) hx hb hts uX12 hown hkb hH 0 rfl rfl 3 (by decide) rfl kw_1226 (fun _ h9 => h9) dX12_feed_80 ?_
          refine lv_aload_n hx hb dX12_feed_83 rfl (lv_at hl 2 rfl) ?_
          refine x_getk (ci := 12) (C := RX12) (F := TX12) (N := 36) (v := .int f24_105) hx hb hts uX12 hown hkb hH 0 rfl rfl 5 (by decide) rfl kw_1228 (fun _ h9 => h9) dX12_feed_84 ?_
          refine lv_iload hx hb dX12_feed_87 (lv_at hl 0 rfl) ?_
          refine lv_bipush (v := 24) hx hb dX12_feed_89 (by decide) ?_
          refine lv_bipush (v := 8) hx hb dX12_feed_91 (by decide) ?_
          refine lv_iload hx hb dX12_feed_93 (lv_at hl 1 rfl) ?_
          refine lv_iconst (v := 4) hx hb dX12_feed_95 (by decide) ?_
          refine lv_irem hx hb dX12_feed_96 (by decide) ?_
          refine lv_topi (fun v96 ev96 => ?_)
          have tv96 : (0 ≤ p24_6.toInt → 0 ≤ v96.toInt) ∧ v96.toInt < 4 ∧ -4 < v96.toInt ∧ (p24_6.toInt ≤ 0 → v96.toInt ≤ 0) := by rw [ev96]; exact irem_b (by decide) (by decide)
          refine lv_imul hx hb dX12_feed_97 ?_
          refine lv_topi (fun v97 ev97 => ?_)
          have tv97 : v97.toInt = (8) * v96.toInt := by rw [ev97]; exact mul_i (by decide : (8 : Int32).toInt = 8) rfl (by omega) (by omega)
          refine lv_isub hx hb dX12_feed_98 ?_
          refine lv_topi (fun v98 ev98 => ?_)
          have tv98 : v98.toInt = (24) - v97.toInt := by rw [ev98]; exact sub_i (by decide : (24 : Int32).toInt = 24) rfl (by omega) (by omega)
          have hr99 : v96.toInt = Int.tmod p24_6.toInt 4 := by rw [ev96]; exact irem_e (by decide) (by decide)
          have hr98 : v96.toInt = ((p24_6.toInt.toNat % 4 : Nat) : Int) := by rw [hr99, Int.tmod_eq_emod_of_nonneg (by omega)]; omega
          refine lv_ishr hx hb dX12_feed_99 ?_
          refine lv_topi (fun v99 ev99 => ?_)
          refine lv_sipush (v := 255) hx hb dX12_feed_100 (by decide) ?_
          refine lv_iand hx hb dX12_feed_103 ?_
          refine lv_topi (fun v103 ev103 => ?_)
          have tv103 : 0 ≤ v103.toInt ∧ v103.toInt ≤ 255 := by rw [ev103]; exact and_r (by decide)
          refine xa_ist hx hb hkb hH hS 1 rfl (by omega) (by omega) dX12_feed_104 (fun H locs hH hS => ?_)
          have hH : HT D cs A T (a0 :: tm :: O) ((a0, .inr (12, [.int 0, .ref q0_1, .ref q0_2, .ref tm, .ref q0_4, .int f24_105, .int q0_6, .int q0_7, .int q0_8, .int q0_9, .int q0_10, .int q0_11, .int q0_12, .int q0_13, .int q0_14, .ref q0_15, .int q0_16, .ref q0_17, .ref q0_18, .ref q0_19, .int q0_20, .ref q0_21, .ref q0_22, .int q0_23, .int q0_24, .int q0_25, .ref q0_26, .ref q0_27, .ref q0_28, .ref q0_29, .ref q0_30, .ref q0_31, .int q0_32, .ref q0_33, .ref q0_34, .ref q0_35])) :: (tm, .inl (cs.2.1, 900, .inl (upd g24_1 (f24_105.toInt.toNat) v103))) :: X) H := hH
          obtain ⟨F104, eF104⟩ : ∃ f9, f9 = upd g24_1 (f24_105.toInt.toNat) v103 := ⟨_, rfl⟩
          have hH : HT D cs A T (a0 :: tm :: O) ((a0, .inr (12, [.int 0, .ref q0_1, .ref q0_2, .ref tm, .ref q0_4, .int f24_105, .int q0_6, .int q0_7, .int q0_8, .int q0_9, .int q0_10, .int q0_11, .int q0_12, .int q0_13, .int q0_14, .ref q0_15, .int q0_16, .ref q0_17, .ref q0_18, .ref q0_19, .int q0_20, .ref q0_21, .ref q0_22, .int q0_23, .int q0_24, .int q0_25, .ref q0_26, .ref q0_27, .ref q0_28, .ref q0_29, .ref q0_30, .ref q0_31, .int q0_32, .ref q0_33, .ref q0_34, .ref q0_35])) :: (tm, .inl (cs.2.1, 900, .inl F104)) :: X) H := eF104 ▸ hH
          refine lv_aload_n hx hb dX12_feed_105 rfl (lv_at hl 2 rfl) ?_
          refine lv_dup hx hb dX12_feed_106 rfl ?_
          refine x_getk (ci := 12) (C := RX12) (F := TX12) (N := 36) (v := .int f24_105) hx hb hts uX12 hown hkb hH 0 rfl rfl 5 (by decide) rfl kw_1228 (fun _ h9 => h9) dX12_feed_107 ?_
          refine lv_iconst (v := 1) hx hb dX12_feed_110 (by decide) ?_
          refine lv_iadd hx hb dX12_feed_111 ?_
          refine lv_topi (fun v111 ev111 => ?_)
          have tv111 : v111.toInt = f24_105.toInt + (1) := by rw [ev111]; exact add_i rfl (by decide : (1 : Int32).toInt = 1) (by omega) (by omega)
          refine x_putk (ci := 12) (v := .int v111) (ty := tyX12 5) (C := RX12) (F := TX12) (N := 36) hx hb hts uX12 tyX12 tyX12_ok nmX12 hown hkb hH hS 0 rfl rfl 5 (by decide) kw_1228 (fun _ h9 => h9) rfl (tyX12_ok 5 (by decide)) rfl rfl (Nat.le_of_ble_eq_true rfl) dX12_feed_112 (fun H locs hH hS => ?_)
          have hH : HT D cs A T (a0 :: tm :: O) ((a0, .inr (12, [.int 0, .ref q0_1, .ref q0_2, .ref tm, .ref q0_4, .int v111, .int q0_6, .int q0_7, .int q0_8, .int q0_9, .int q0_10, .int q0_11, .int q0_12, .int q0_13, .int q0_14, .ref q0_15, .int q0_16, .ref q0_17, .ref q0_18, .ref q0_19, .int q0_20, .ref q0_21, .ref q0_22, .int q0_23, .int q0_24, .int q0_25, .ref q0_26, .ref q0_27, .ref q0_28, .ref q0_29, .ref q0_30, .ref q0_31, .int q0_32, .ref q0_33, .ref q0_34, .ref q0_35])) :: (tm, .inl (cs.2.1, 900, .inl F104)) :: X) H := hH
          obtain ⟨v115, ev115⟩ : ∃ y : Int32, y = p24_6 + 1 := ⟨_, rfl⟩
          have tv115 : v115.toInt = p24_6.toInt + (1) := by rw [ev115]; exact add_i rfl (by decide) (by omega) (by omega)
          refine lv_iinc (v := v115) (lv' := [(6, .int v115), (7, .int x1), (0, .ref a0), (1, .int x1), (2, .int x2), (3, .int x3), (4, .int x4), (5, .int x5)]) hx hb dX12_feed_115 hl (k := 1) rfl (by rw [ev115]; rfl) (by decide) rfl (fun ls hl => ?_)
          refine lv_goto (tgt := 24) hx hb dX12_feed_118 (by decide) ?_
          exact ih24 _ (by omega) v115 v111 F104 _ _ _ rfl (by omega) (by omega) (by omega) (by omega) (by omega) (by omega) (by first | (refine RFI_0 ?_; decide) | (refine RFI_s ir24 ?_ ?_ ?_ (show x1 = XS x1 x2 x3 x4 x5 (p24_6.toInt.toNat / 4) by rw [show p24_6.toInt.toNat / 4 = 0 by omega]; rfl) ev99 ev103 eF104 <;> omega) | (refine RFI_s ir24 ?_ ?_ ?_ (show x2 = XS x1 x2 x3 x4 x5 (p24_6.toInt.toNat / 4) by rw [show p24_6.toInt.toNat / 4 = 1 by omega]; rfl) ev99 ev103 eF104 <;> omega) | (refine RFI_s ir24 ?_ ?_ ?_ (show x3 = XS x1 x2 x3 x4 x5 (p24_6.toInt.toNat / 4) by rw [show p24_6.toInt.toNat / 4 = 2 by omega]; rfl) ev99 ev103 eF104 <;> omega) | (refine RFI_s ir24 ?_ ?_ ?_ (show x4 = XS x1 x2 x3 x4 x5 (p24_6.toInt.toNat / 4) by rw [show p24_6.toInt.toNat / 4 = 3 by omega]; rfl) ev99 ev103 eF104 <;> omega) | (refine RFI_s ir24 ?_ ?_ ?_ (show x5 = XS x1 x2 x3 x4 x5 (p24_6.toInt.toNat / 4) by rw [show p24_6.toInt.toNat / 4 = 4 by omega]; rfl) ev99 ev103 eF104 <;> omega)) hH hS (lv_sub hl [0, 2, 3, 4, 5, 6, 7] rfl)
  refine lv_icmp_le (tgt := 21) hx hb dX12_feed_15 (by decide) (fun c15 => ?_) (fun c15 => ?_)
  · skip
    have tc15 := f_le (k := 900) (by decide) c15
    refine lv_iconst (v := 0) hx hb dX12_feed_21 (by decide) ?_
    refine lv_istore (lv' := [(6, .int 0), (0, .ref a0), (1, .int x1), (2, .int x2), (3, .int x3), (4, .int x4), (5, .int x5)]) hx hb dX12_feed_22 hl (by decide) rfl (fun ls hl => ?_)
    have z_0 : (0 : Int32).toInt = 0 := by decide
    exact J24 _ 0 q0_5 f3 _ _ _ rfl (by decide) (by decide) (by omega) (by omega) (by omega) (by omega) (by first | (refine RFI_0 ?_; decide) | (refine RFI_s ir24 ?_ ?_ ?_ (show x1 = XS x1 x2 x3 x4 x5 (p24_6.toInt.toNat / 4) by rw [show p24_6.toInt.toNat / 4 = 0 by omega]; rfl) ev99 ev103 eF104 <;> omega) | (refine RFI_s ir24 ?_ ?_ ?_ (show x2 = XS x1 x2 x3 x4 x5 (p24_6.toInt.toNat / 4) by rw [show p24_6.toInt.toNat / 4 = 1 by omega]; rfl) ev99 ev103 eF104 <;> omega) | (refine RFI_s ir24 ?_ ?_ ?_ (show x3 = XS x1 x2 x3 x4 x5 (p24_6.toInt.toNat / 4) by rw [show p24_6.toInt.toNat / 4 = 2 by omega]; rfl) ev99 ev103 eF104 <;> omega) | (refine RFI_s ir24 ?_ ?_ ?_ (show x4 = XS x1 x2 x3 x4 x5 (p24_6.toInt.toNat / 4) by rw [show p24_6.toInt.toNat / 4 = 3 by omega]; rfl) ev99 ev103 eF104 <;> omega) | (refine RFI_s ir24 ?_ ?_ ?_ (show x5 = XS x1 x2 x3 x4 x5 (p24_6.toInt.toNat / 4) by rw [show p24_6.toInt.toNat / 4 = 4 by omega]; rfl) ev99 ev103 eF104 <;> omega)) hH hS (lv_sub hl [0, 1, 2, 3, 4, 5, 6] rfl)
  · skip
    have tc15 := f_nle (k := 900) (by decide) c15
    refine lv_bipush (v := (-5)) hx hb dX12_feed_18 (by decide) ?_
    have hH : HT D cs A T (tm :: O) ((tm, .inl (cs.2.1, 900, .inl f3)) :: X) H := HT.lay (ci := 12) hH t_a0 (okL_c (⟨_, rfl⟩) (okL_c (⟨_, rfl, t_q0_1⟩) (okL_c (⟨_, rfl, t_q0_2⟩) (okL_c (⟨_, rfl, t_tm⟩) (okL_c (⟨_, rfl, t_q0_4⟩) (okL_c (⟨_, rfl, by omega, by omega, by omega⟩) (okL_c (⟨_, rfl⟩) (okL_c (⟨_, rfl⟩) (okL_c (⟨_, rfl⟩) (okL_c (⟨_, rfl⟩) (okL_c (⟨_, rfl, by omega, by omega⟩) (okL_c (⟨_, rfl⟩) (okL_c (⟨_, rfl⟩) (okL_c (⟨_, rfl, by omega⟩) (okL_c (⟨_, rfl, by omega⟩) (okL_c (⟨_, rfl, t_q0_15⟩) (okL_c (⟨_, rfl⟩) (okL_c (⟨_, rfl, t_q0_17⟩) (okL_c (⟨_, rfl, t_q0_18⟩) (okL_c (⟨_, rfl, t_q0_19⟩) (okL_c (⟨_, rfl, by omega, by omega⟩) (okL_c (⟨_, rfl, t_q0_21⟩) (okL_c (⟨_, rfl, t_q0_22⟩) (okL_c (⟨_, rfl⟩) (okL_c (⟨_, rfl⟩) (okL_c (⟨_, rfl⟩) (okL_c (⟨_, rfl, t_q0_26⟩) (okL_c (⟨_, rfl, t_q0_27⟩) (okL_c (⟨_, rfl, t_q0_28⟩) (okL_c (⟨_, rfl, t_q0_29⟩) (okL_c (⟨_, rfl, t_q0_30⟩) (okL_c (⟨_, rfl, t_q0_31⟩) (okL_c (⟨_, rfl⟩) (okL_c (⟨_, rfl, t_q0_33⟩) (okL_c (⟨_, rfl, t_q0_34⟩) (okL_c (⟨_, rfl, t_q0_35⟩) (okL_n)))))))))))))))))))))))))))))))))))))
    have hO := hO0
    have z9_m5 : ((-5) : Int32).toInt = -5 := by decide
    exact te_i hx hb hr hlocks hH hS (⟨T, mq, f3, rfl, by decide, by decide, Trm.rf, t_a0, ⟨(by have k9 : (-5 : Int32).toInt = -5 := (by decide); unfold FDF; omega), by omega⟩, ⟨fun _ => rfl, fun q9 => absurd (by decide) q9⟩⟩) dX12_feed_20
theorem dX12_lists_0 : decode cX12_lists 0 = .ok (.aload_n 0, 1) := by decide +kernel
theorem dX12_lists_1 : decode cX12_lists 1 = .ok (.iconst 0, 1) := by decide +kernel
theorem dX12_lists_2 : decode cX12_lists 2 = .ok (.putfield 1, 3) := by decide +kernel
theorem dX12_lists_5 : decode cX12_lists 5 = .ok (.iload_n 1, 1) := by decide +kernel
theorem dX12_lists_6 : decode cX12_lists 6 = .ok (.i2l, 1) := by decide +kernel
theorem dX12_lists_7 : decode cX12_lists 7 = .ok (.lconst 0, 1) := by decide +kernel
theorem dX12_lists_8 : decode cX12_lists 8 = .ok (.ldc2_w 275, 3) := by decide +kernel
theorem dX12_lists_11 : decode cX12_lists 11 = .ok (.invokestatic 144, 3) := by decide +kernel
theorem dX12_lists_14 : decode cX12_lists 14 = .ok (.ifCond .eq 12, 3) := by decide +kernel
theorem dX12_lists_17 : decode cX12_lists 17 = .ok (.aload_n 0, 1) := by decide +kernel
theorem dX12_lists_18 : decode cX12_lists 18 = .ok (.iload_n 2, 1) := by decide +kernel
theorem dX12_lists_19 : decode cX12_lists 19 = .ok (.i2l, 1) := by decide +kernel
theorem dX12_lists_20 : decode cX12_lists 20 = .ok (.invokevirtual 222, 3) := by decide +kernel
theorem dX12_lists_23 : decode cX12_lists 23 = .ok (.ifCond .ne 6, 3) := by decide +kernel
theorem dX12_lists_26 : decode cX12_lists 26 = .ok (.bipush (-2), 2) := by decide +kernel
theorem dX12_lists_28 : decode cX12_lists 28 = .ok (.ireturn, 1) := by decide +kernel
theorem dX12_lists_29 : decode cX12_lists 29 = .ok (.aload_n 0, 1) := by decide +kernel
theorem dX12_lists_30 : decode cX12_lists 30 = .ok (.iload_n 1, 1) := by decide +kernel
theorem dX12_lists_31 : decode cX12_lists 31 = .ok (.invokevirtual 289, 3) := by decide +kernel
theorem dX12_lists_34 : decode cX12_lists 34 = .ok (.istore_n 3, 1) := by decide +kernel
theorem dX12_lists_35 : decode cX12_lists 35 = .ok (.iload_n 3, 1) := by decide +kernel
theorem dX12_lists_36 : decode cX12_lists 36 = .ok (.ifCond .eq 5, 3) := by decide +kernel
theorem dX12_lists_39 : decode cX12_lists 39 = .ok (.iload_n 3, 1) := by decide +kernel
theorem dX12_lists_40 : decode cX12_lists 40 = .ok (.ireturn, 1) := by decide +kernel
theorem dX12_lists_41 : decode cX12_lists 41 = .ok (.aload_n 0, 1) := by decide +kernel
theorem dX12_lists_42 : decode cX12_lists 42 = .ok (.iload_n 2, 1) := by decide +kernel
theorem dX12_lists_43 : decode cX12_lists 43 = .ok (.invokevirtual 304, 3) := by decide +kernel
theorem dX12_lists_46 : decode cX12_lists 46 = .ok (.ifCond .ne 6, 3) := by decide +kernel
theorem dX12_lists_49 : decode cX12_lists 49 = .ok (.bipush (-5), 2) := by decide +kernel
theorem dX12_lists_51 : decode cX12_lists 51 = .ok (.ireturn, 1) := by decide +kernel
theorem dX12_lists_52 : decode cX12_lists 52 = .ok (.aload_n 0, 1) := by decide +kernel
theorem dX12_lists_53 : decode cX12_lists 53 = .ok (.getfield 266, 3) := by decide +kernel
theorem dX12_lists_56 : decode cX12_lists 56 = .ok (.iconst 1, 1) := by decide +kernel
theorem dX12_lists_57 : decode cX12_lists 57 = .ok (.iadd, 1) := by decide +kernel
theorem dX12_lists_58 : decode cX12_lists 58 = .ok (.aload_n 0, 1) := by decide +kernel
theorem dX12_lists_59 : decode cX12_lists 59 = .ok (.getfield 72, 3) := by decide +kernel
theorem dX12_lists_62 : decode cX12_lists 62 = .ok (.iload_n 1, 1) := by decide +kernel
theorem dX12_lists_63 : decode cX12_lists 63 = .ok (.iaload, 1) := by decide +kernel
theorem dX12_lists_64 : decode cX12_lists 64 = .ok (.if_icmp .ge 12, 3) := by decide +kernel
theorem dX12_lists_67 : decode cX12_lists 67 = .ok (.aload_n 0, 1) := by decide +kernel
theorem dX12_lists_68 : decode cX12_lists 68 = .ok (.getfield 266, 3) := by decide +kernel
theorem dX12_lists_71 : decode cX12_lists 71 = .ok (.iconst 1, 1) := by decide +kernel
theorem dX12_lists_72 : decode cX12_lists 72 = .ok (.iadd, 1) := by decide +kernel
theorem dX12_lists_73 : decode cX12_lists 73 = .ok (.goto 9, 3) := by decide +kernel
theorem dX12_lists_76 : decode cX12_lists 76 = .ok (.aload_n 0, 1) := by decide +kernel
theorem dX12_lists_77 : decode cX12_lists 77 = .ok (.getfield 72, 3) := by decide +kernel
theorem dX12_lists_80 : decode cX12_lists 80 = .ok (.iload_n 1, 1) := by decide +kernel
theorem dX12_lists_81 : decode cX12_lists 81 = .ok (.iaload, 1) := by decide +kernel
theorem dX12_lists_82 : decode cX12_lists 82 = .ok (.istore 4, 2) := by decide +kernel
theorem dX12_lists_84 : decode cX12_lists 84 = .ok (.iconst 0, 1) := by decide +kernel
theorem dX12_lists_85 : decode cX12_lists 85 = .ok (.istore 5, 2) := by decide +kernel
theorem dX12_lists_87 : decode cX12_lists 87 = .ok (.iload 5, 2) := by decide +kernel
theorem dX12_lists_89 : decode cX12_lists 89 = .ok (.iload 4, 2) := by decide +kernel
theorem dX12_lists_91 : decode cX12_lists 91 = .ok (.if_icmp .ge 41, 3) := by decide +kernel
theorem dX12_lists_94 : decode cX12_lists 94 = .ok (.aload_n 0, 1) := by decide +kernel
theorem dX12_lists_95 : decode cX12_lists 95 = .ok (.getfield 75, 3) := by decide +kernel
theorem dX12_lists_98 : decode cX12_lists 98 = .ok (.bipush 40, 2) := by decide +kernel
theorem dX12_lists_100 : decode cX12_lists 100 = .ok (.iload_n 1, 1) := by decide +kernel
theorem dX12_lists_101 : decode cX12_lists 101 = .ok (.imul, 1) := by decide +kernel
theorem dX12_lists_102 : decode cX12_lists 102 = .ok (.iload 5, 2) := by decide +kernel
theorem dX12_lists_104 : decode cX12_lists 104 = .ok (.iadd, 1) := by decide +kernel
theorem dX12_lists_105 : decode cX12_lists 105 = .ok (.iload 5, 2) := by decide +kernel
theorem dX12_lists_107 : decode cX12_lists 107 = .ok (.ifCond .ne 8, 3) := by decide +kernel
theorem dX12_lists_110 : decode cX12_lists 110 = .ok (.iload_n 2, 1) := by decide +kernel
theorem dX12_lists_111 : decode cX12_lists 111 = .ok (.i2l, 1) := by decide +kernel
theorem dX12_lists_112 : decode cX12_lists 112 = .ok (.goto 13, 3) := by decide +kernel
theorem dX12_lists_115 : decode cX12_lists 115 = .ok (.aload_n 0, 1) := by decide +kernel
theorem dX12_lists_116 : decode cX12_lists 116 = .ok (.getfield 39, 3) := by decide +kernel
theorem dX12_lists_119 : decode cX12_lists 119 = .ok (.iload 5, 2) := by decide +kernel
theorem dX12_lists_121 : decode cX12_lists 121 = .ok (.iconst 1, 1) := by decide +kernel
theorem dX12_lists_122 : decode cX12_lists 122 = .ok (.isub, 1) := by decide +kernel
theorem dX12_lists_123 : decode cX12_lists 123 = .ok (.iaload, 1) := by decide +kernel
theorem dX12_lists_124 : decode cX12_lists 124 = .ok (.i2l, 1) := by decide +kernel
theorem dX12_lists_125 : decode cX12_lists 125 = .ok (.lastore, 1) := by decide +kernel
theorem dX12_lists_126 : decode cX12_lists 126 = .ok (.iinc 5 1, 3) := by decide +kernel
theorem dX12_lists_129 : decode cX12_lists 129 = .ok (.goto (-42), 3) := by decide +kernel
theorem dX12_lists_132 : decode cX12_lists 132 = .ok (.iload 4, 2) := by decide +kernel
theorem dX12_lists_134 : decode cX12_lists 134 = .ok (.ireturn, 1) := by decide +kernel
set_option maxHeartbeats 4000000 in
set_option maxRecDepth 100000 in
theorem s_M_lists (l : Launch) (D : va_G) (cs : CS) (kf : KF) (T : TF) (O : List Nat) (X : va_W) (a0 hg mq : Nat) (x1 : Int32) (x2 : Int32) (t_a0 : T a0 = some (22, hg, mq)) (b_hg : hg < 90) (hO : okO T O [1, 2, 8, 9, 22]) : TK l D cs kf yX12_lists cX12_lists 6 (some (.int)) { frames := 6, cells := 0, slots := 0, locals := 140 } [.ref a0, .int x1, .int x2] T O X (Ti D cs (fun r u => u = (T, O, X) ∧ -6 ≤ r.toInt ∧ r.toInt ≤ 15)) := by
  refine tk_of (by decide) (Nat.le_of_ble_eq_true rfl) (fun p e s m below meth c ls A H locs hx hb hr hml hown hts hlocks hnm hkb hH hS hA hOX hks hE hl => ?_)
  have hown : s.vm.findClass RX12 = some m.cls := hown
  have hl : lv_has ls 6 [(0, .ref a0), (1, .int x1), (2, .int x2)] := hl
  refine lv_aload_n hx hb dX12_lists_0 rfl (lv_at hl 0 rfl) ?_
  refine lv_iconst (v := 0) hx hb dX12_lists_1 (by decide) ?_
  refine t_put (ci := 12) (lst := ft12 hg mq) (v := .int 0) (ty := tyX12 0) (C := RX12) (F := TX12) (N := 36) hx hb hts uX12 tyX12 tyX12_ok nmX12 hown hkb hH hS t_a0 (hO.no t_a0 (by decide)) (fun _ => Iff.rfl) rfl rfl 0 (by decide) rfl (⟨_, rfl⟩) kw_1223 (fun _ h9 => h9) rfl (tyX12_ok 0 (by decide)) rfl rfl dX12_lists_2 (fun H locs hH hS => ?_)
  refine lv_iload_n hx hb dX12_lists_5 rfl (lv_at hl 1 rfl) ?_
  refine lv_i2l hx hb dX12_lists_6 rfl ?_
  refine lv_lconst (v := 0) hx hb dX12_lists_7 (by decide) ?_
  refine lv_ldc2 hx hb hown (hts _ kw_1527) dX12_lists_8 ?_
  refine tk_i hH hS hA (tr_S (n := 3) (As := [.long x1.toInt64, .long 0, .long 3]) hx hb hml hown hts hkb hH hOX hks hE hS hA (s_M_within l D cs kf T O X x1.toInt64 0 3  (hO.sub (by decide))) kw_1341 kw_1342 kw_13 kw_1343 (by decide +kernel) ⟨Nat.le_of_ble_eq_true rfl, Nat.le_of_ble_eq_true rfl⟩ rfl rfl hl.1 (Nat.le_of_ble_eq_true rfl) dX12_lists_11 ⟨Nat.le_of_ble_eq_true rfl, Nat.le_of_ble_eq_true rfl⟩) (fun v11 u H locs hz9 hH hS => ?_)
  obtain ⟨rfl, l_v11, u_v11, x_v110, x_v111⟩ := hz9
  simp only [Int32.toInt_toInt64] at x_v110 x_v111
  have k9_0 : (0 : Int64).toInt = 0 := by decide
  have k9_3 : (3 : Int64).toInt = 3 := by decide
  have hH : HT D cs A T O X H := hH
  refine W.widen (k := 0) (n := 0) (Nat.le_of_ble_eq_true rfl) (Nat.le_of_ble_eq_true rfl) ?_
  have J26 : ∀  (H : Heap) (locs : List Loc) (ls : Array Slot), HT D cs A T O X H → va_S A s.heap H locs → lv_has ls 6 [] → W p l e { frames := 6, cells := 0, slots := 0, locals := 140 } s m [.ref a0, .int x1, .int x2].toArray below meth c H locs 0 0 (MQ below (Ti D cs (fun r u => u = (T, O, X) ∧ -6 ≤ r.toInt ∧ r.toInt ≤ 15) A) [.ref a0, .int x1, .int x2].toArray s 0 0 A) (F0 m 26 ls []) := by
    intro  H locs ls  hH hS hl
    refine lv_bipush (v := (-2)) hx hb dX12_lists_26 (by decide) ?_
    have z9_m2 : ((-2) : Int32).toInt = -2 := by decide
    exact te_i hx hb hr hlocks hH hS (⟨rfl, by decide, by decide⟩) dX12_lists_28
  refine lv_if_eq (tgt := 26) hx hb dX12_lists_14 (by decide) (fun c14 => ?_) (fun c14 => ?_)
  · skip
    have tc14 := f_eq (k := 0) (by decide) c14
    clear x_v110
    replace x_v111 := x_v111.resolve_left (fun q9 => q9 tc14)
    exact J26  _ _ _  hH hS (lv_sub hl [] rfl)
  · skip
    have tc14 := f_ne (k := 0) (by decide) c14
    replace x_v110 := x_v110.resolve_left tc14
    clear x_v111
    refine lv_aload_n hx hb dX12_lists_17 rfl (lv_at hl 0 rfl) ?_
    refine lv_iload_n hx hb dX12_lists_18 rfl (lv_at hl 2 rfl) ?_
    refine lv_i2l hx hb dX12_lists_19 rfl ?_
    refine tk_i hH hS hA (tr_V (n := 1) (As := [.long x2.toInt64]) hx hb hml hown hts hkb hH hOX hks hE hS hA (s_M_isGuide l D cs kf T O X a0 hg mq x2.toInt64 t_a0 b_hg (hO.sub (by decide))) kw_1470 kw_1472 ks_67 kw_13 kw_1473 (by decide +kernel) ⟨Nat.le_of_ble_eq_true rfl, Nat.le_of_ble_eq_true rfl⟩ (HT.recv (ci := 12) hkb hH t_a0 (hO.no t_a0 (by decide)) rfl) rfl rfl hl.1 (Nat.le_of_ble_eq_true rfl) dX12_lists_20 ⟨Nat.le_of_ble_eq_true rfl, Nat.le_of_ble_eq_true rfl⟩) (fun v20 u H locs hz9 hH hS => ?_)
    obtain ⟨rfl, l_v20, u_v20, x_v200⟩ := hz9
    simp only [Int32.toInt_toInt64] at x_v200
    have hH : HT D cs A T O X H := hH
    refine W.widen (k := 0) (n := 0) (Nat.le_of_ble_eq_true rfl) (Nat.le_of_ble_eq_true rfl) ?_
    refine lv_if_ne (tgt := 29) hx hb dX12_lists_23 (by decide) (fun c23 => ?_) (fun c23 => ?_)
    · skip
      have tc23 := f_ne (k := 0) (by decide) c23
      replace x_v200 := x_v200.resolve_left tc23
      refine lv_aload_n hx hb dX12_lists_29 rfl (lv_at hl 0 rfl) ?_
      refine lv_iload_n hx hb dX12_lists_30 rfl (lv_at hl 1 rfl) ?_
      refine tk_i hH hS hA (tr_V (n := 1) (As := [.int x1]) hx hb hml hown hts hkb hH hOX hks hE hS hA (s_M_noTray l D cs kf T O X a0 hg mq x1 t_a0 b_hg (hO.sub (by decide))) kw_1523 kw_1525 ks_75 kw_13 kw_1526 (by decide +kernel) ⟨Nat.le_of_ble_eq_true rfl, Nat.le_of_ble_eq_true rfl⟩ (HT.recv (ci := 12) hkb hH t_a0 (hO.no t_a0 (by decide)) rfl) rfl rfl hl.1 (Nat.le_of_ble_eq_true rfl) dX12_lists_31 ⟨Nat.le_of_ble_eq_true rfl, Nat.le_of_ble_eq_true rfl⟩) (fun v31 u H locs hz9 hH hS => ?_)
      obtain ⟨rfl, l_v31, u_v31, x_v310⟩ := hz9
      have hH : HT D cs A T O X H := hH
      refine W.widen (k := 0) (n := 0) (Nat.le_of_ble_eq_true rfl) (Nat.le_of_ble_eq_true rfl) ?_
      refine lv_istore_n (lv' := [(3, .int v31), (0, .ref a0), (1, .int x1), (2, .int x2)]) hx hb dX12_lists_34 rfl hl (by decide) rfl (fun ls hl => ?_)
      refine lv_iload_n hx hb dX12_lists_35 rfl (lv_at hl 0 rfl) ?_
      refine lv_if_eq (tgt := 41) hx hb dX12_lists_36 (by decide) (fun c36 => ?_) (fun c36 => ?_)
      · skip
        have tc36 := f_eq (k := 0) (by decide) c36
        refine lv_aload_n hx hb dX12_lists_41 rfl (lv_at hl 1 rfl) ?_
        refine lv_iload_n hx hb dX12_lists_42 rfl (lv_at hl 3 rfl) ?_
        refine tk_i hH hS hA (tr_V (n := 1) (As := [.int x2]) hx hb hml hown hts hkb hH hOX hks hE hS hA (s_M_laysWayOf l D cs kf T O X a0 hg mq x2 t_a0 b_hg (by omega) (by omega) (hO.sub (by decide))) kw_1560 kw_1562 ks_82 kw_13 kw_1563 (by decide +kernel) ⟨Nat.le_of_ble_eq_true rfl, Nat.le_of_ble_eq_true rfl⟩ (HT.recv (ci := 12) hkb hH t_a0 (hO.no t_a0 (by decide)) rfl) rfl rfl hl.1 (Nat.le_of_ble_eq_true rfl) dX12_lists_43 ⟨Nat.le_of_ble_eq_true rfl, Nat.le_of_ble_eq_true rfl⟩) (fun v43 u H locs hz9 hH hS => ?_)
        obtain ⟨rfl, l_v43, u_v43⟩ := hz9
        have hH : HT D cs A T O X H := hH
        refine W.widen (k := 0) (n := 0) (Nat.le_of_ble_eq_true rfl) (Nat.le_of_ble_eq_true rfl) ?_
        refine lv_if_ne (tgt := 52) hx hb dX12_lists_46 (by decide) (fun c46 => ?_) (fun c46 => ?_)
        · skip
          have tc46 := f_ne (k := 0) (by decide) c46
          have hO0 := hO
          obtain ⟨fs9, ho9, hH⟩ := hH.take t_a0 (hO0.no t_a0 (by decide))
          have hp0 : okL T (ft12 hg mq) fs9 := ho9
          clear ho9
          obtain ⟨v9, fs9, rfl, h9, hp1⟩ := okL_i hp0
          obtain ⟨q52_0, rfl⟩ := h9
          obtain ⟨v9, fs9, rfl, h9, hp2⟩ := okL_i hp1
          obtain ⟨q52_1, rfl, t_q52_1⟩ := h9
          obtain ⟨v9, fs9, rfl, h9, hp3⟩ := okL_i hp2
          obtain ⟨q52_2, rfl, t_q52_2⟩ := h9
          obtain ⟨v9, fs9, rfl, h9, hp4⟩ := okL_i hp3
          obtain ⟨q52_3, rfl, t_q52_3⟩ := h9
          obtain ⟨v9, fs9, rfl, h9, hp5⟩ := okL_i hp4
          obtain ⟨q52_4, rfl, t_q52_4⟩ := h9
          obtain ⟨v9, fs9, rfl, h9, hp6⟩ := okL_i hp5
          obtain ⟨q52_5, rfl, l_q52_5, u_q52_5, eg_q52_5⟩ := h9
          obtain ⟨v9, fs9, rfl, h9, hp7⟩ := okL_i hp6
          obtain ⟨q52_6, rfl⟩ := h9
          obtain ⟨v9, fs9, rfl, h9, hp8⟩ := okL_i hp7
          obtain ⟨q52_7, rfl⟩ := h9
          obtain ⟨v9, fs9, rfl, h9, hp9⟩ := okL_i hp8
          obtain ⟨q52_8, rfl⟩ := h9
          obtain ⟨v9, fs9, rfl, h9, hp10⟩ := okL_i hp9
          obtain ⟨q52_9, rfl⟩ := h9
          obtain ⟨v9, fs9, rfl, h9, hp11⟩ := okL_i hp10
          obtain ⟨q52_10, rfl, l_q52_10, u_q52_10⟩ := h9
          obtain ⟨v9, fs9, rfl, h9, hp12⟩ := okL_i hp11
          obtain ⟨q52_11, rfl⟩ := h9
          obtain ⟨v9, fs9, rfl, h9, hp13⟩ := okL_i hp12
          obtain ⟨q52_12, rfl⟩ := h9
          obtain ⟨v9, fs9, rfl, h9, hp14⟩ := okL_i hp13
          obtain ⟨q52_13, rfl, eg_q52_13⟩ := h9
          obtain ⟨v9, fs9, rfl, h9, hp15⟩ := okL_i hp14
          obtain ⟨q52_14, rfl, eg_q52_14⟩ := h9
          obtain ⟨v9, fs9, rfl, h9, hp16⟩ := okL_i hp15
          obtain ⟨q52_15, rfl, t_q52_15⟩ := h9
          obtain ⟨v9, fs9, rfl, h9, hp17⟩ := okL_i hp16
          obtain ⟨q52_16, rfl⟩ := h9
          obtain ⟨v9, fs9, rfl, h9, hp18⟩ := okL_i hp17
          obtain ⟨q52_17, rfl, t_q52_17⟩ := h9
          obtain ⟨v9, fs9, rfl, h9, hp19⟩ := okL_i hp18
          obtain ⟨q52_18, rfl, t_q52_18⟩ := h9
          obtain ⟨v9, fs9, rfl, h9, hp20⟩ := okL_i hp19
          obtain ⟨q52_19, rfl, t_q52_19⟩ := h9
          obtain ⟨v9, fs9, rfl, h9, hp21⟩ := okL_i hp20
          obtain ⟨q52_20, rfl, l_q52_20, u_q52_20⟩ := h9
          obtain ⟨v9, fs9, rfl, h9, hp22⟩ := okL_i hp21
          obtain ⟨q52_21, rfl, t_q52_21⟩ := h9
          obtain ⟨v9, fs9, rfl, h9, hp23⟩ := okL_i hp22
          obtain ⟨q52_22, rfl, t_q52_22⟩ := h9
          obtain ⟨v9, fs9, rfl, h9, hp24⟩ := okL_i hp23
          obtain ⟨q52_23, rfl⟩ := h9
          obtain ⟨v9, fs9, rfl, h9, hp25⟩ := okL_i hp24
          obtain ⟨q52_24, rfl⟩ := h9
          obtain ⟨v9, fs9, rfl, h9, hp26⟩ := okL_i hp25
          obtain ⟨q52_25, rfl⟩ := h9
          obtain ⟨v9, fs9, rfl, h9, hp27⟩ := okL_i hp26
          obtain ⟨q52_26, rfl, t_q52_26⟩ := h9
          obtain ⟨v9, fs9, rfl, h9, hp28⟩ := okL_i hp27
          obtain ⟨q52_27, rfl, t_q52_27⟩ := h9
          obtain ⟨v9, fs9, rfl, h9, hp29⟩ := okL_i hp28
          obtain ⟨q52_28, rfl, t_q52_28⟩ := h9
          obtain ⟨v9, fs9, rfl, h9, hp30⟩ := okL_i hp29
          obtain ⟨q52_29, rfl, t_q52_29⟩ := h9
          obtain ⟨v9, fs9, rfl, h9, hp31⟩ := okL_i hp30
          obtain ⟨q52_30, rfl, t_q52_30⟩ := h9
          obtain ⟨v9, fs9, rfl, h9, hp32⟩ := okL_i hp31
          obtain ⟨q52_31, rfl, t_q52_31⟩ := h9
          obtain ⟨v9, fs9, rfl, h9, hp33⟩ := okL_i hp32
          obtain ⟨q52_32, rfl⟩ := h9
          obtain ⟨v9, fs9, rfl, h9, hp34⟩ := okL_i hp33
          obtain ⟨q52_33, rfl, t_q52_33⟩ := h9
          obtain ⟨v9, fs9, rfl, h9, hp35⟩ := okL_i hp34
          obtain ⟨q52_34, rfl, t_q52_34⟩ := h9
          obtain ⟨v9, fs9, rfl, h9, hp36⟩ := okL_i hp35
          obtain ⟨q52_35, rfl, t_q52_35⟩ := h9
          have hpz := okL_z hp36
          subst hpz
          have hH : HT D cs A T (a0 :: O) ((a0, .inr (12, [.int q52_0, .ref q52_1, .ref q52_2, .ref q52_3, .ref q52_4, .int q52_5, .int q52_6, .int q52_7, .int q52_8, .int q52_9, .int q52_10, .int q52_11, .int q52_12, .int q52_13, .int q52_14, .ref q52_15, .int q52_16, .ref q52_17, .ref q52_18, .ref q52_19, .int q52_20, .ref q52_21, .ref q52_22, .int q52_23, .int q52_24, .int q52_25, .ref q52_26, .ref q52_27, .ref q52_28, .ref q52_29, .ref q52_30, .ref q52_31, .int q52_32, .ref q52_33, .ref q52_34, .ref q52_35])) :: X) H := hH
          have hO : okO T (a0 :: O) [1, 2, 8, 9] := okO.cons (hO0.sub (by decide)) t_a0 (by decide)
          obtain ⟨e9, hs9, hH⟩ := HT.takeA hH t_q52_34 (nm_c (tag_ne t_q52_34 t_a0 (fun q => absurd (show 1 = 22 from congrArg Prod.fst q) (by decide))) (hO0.no t_q52_34 (by decide)))
          obtain ⟨f34, rfl, c_f34⟩ : ∃ f : Nat → Int32, e9 = .inl (cs.2.1, 4, .inl f) ∧ ∀ j, cp 6 (f j) := hs9
          have hO : okO T (q52_34 :: a0 :: O) [2, 8, 9] := okO.cons (hO.sub (by decide)) t_q52_34 (by decide)
          refine lv_aload_n hx hb dX12_lists_52 rfl (lv_at hl 1 rfl) ?_
          refine x_getk (ci := 12) (C := RX12) (F := TX12) (N := 36) (v := .int q52_20) hx hb hts uX12 hown hkb hH 1 rfl rfl 20 (by decide) rfl kw_1243 (fun _ h9 => h9) dX12_lists_53 ?_
          refine lv_iconst (v := 1) hx hb dX12_lists_56 (by decide) ?_
          refine lv_iadd hx hb dX12_lists_57 ?_
          refine lv_topi (fun v57 ev57 => ?_)
          have tv57 : v57.toInt = q52_20.toInt + (1) := by rw [ev57]; exact add_i rfl (by decide : (1 : Int32).toInt = 1) (by omega) (by omega)
          refine lv_aload_n hx hb dX12_lists_58 rfl (lv_at hl 1 rfl) ?_
          refine x_getk (ci := 12) (C := RX12) (F := TX12) (N := 36) (v := .ref q52_34) hx hb hts uX12 hown hkb hH 1 rfl rfl 34 (by decide) rfl kw_1257 (fun _ h9 => h9) dX12_lists_59 ?_
          refine lv_iload_n hx hb dX12_lists_62 rfl (lv_at hl 2 rfl) ?_
          refine xa_ild hx hb hkb hH 0 rfl (by omega) (by omega) dX12_lists_63 ?_
          refine lv_topi (fun v63 ev63 => ?_)
          have tv63 : v63 = f34 x1.toInt.toNat := ev63
          have J87 : ∀ (n : Nat) (p87_5 : Int32) (p87_4 : Int32) (H : Heap) (locs : List Loc) (ls : Array Slot), (15 - p87_5.toInt).toNat = n → (0 ≤ p87_5.toInt) → (p87_5.toInt ≤ 15) → (0 ≤ p87_4.toInt) → (p87_4.toInt ≤ 15) → HT D cs A T (q52_34 :: a0 :: O) ((q52_34, .inl (cs.2.1, 4, .inl f34)) :: (a0, .inr (12, [.int q52_0, .ref q52_1, .ref q52_2, .ref q52_3, .ref q52_4, .int q52_5, .int q52_6, .int q52_7, .int q52_8, .int q52_9, .int q52_10, .int q52_11, .int q52_12, .int q52_13, .int q52_14, .ref q52_15, .int q52_16, .ref q52_17, .ref q52_18, .ref q52_19, .int q52_20, .ref q52_21, .ref q52_22, .int q52_23, .int q52_24, .int q52_25, .ref q52_26, .ref q52_27, .ref q52_28, .ref q52_29, .ref q52_30, .ref q52_31, .int q52_32, .ref q52_33, .ref q52_34, .ref q52_35])) :: X) H → va_S A s.heap H locs → lv_has ls 6 [(5, .int p87_5), (4, .int p87_4), (0, .ref a0), (1, .int x1), (2, .int x2)] → W p l e { frames := 6, cells := 0, slots := 0, locals := 140 } s m [.ref a0, .int x1, .int x2].toArray below meth c H locs 0 0 (MQ below (Ti D cs (fun r u => u = (T, O, X) ∧ -6 ≤ r.toInt ∧ r.toInt ≤ 15) A) [.ref a0, .int x1, .int x2].toArray s 0 0 A) (F0 m 87 ls []) := by
            intro n
            induction n using Nat.strongRecOn with
            | _ n ih87 =>
              intro p87_5 p87_4 H locs ls hm87 l_p87_5 u_p87_5 l_p87_4 u_p87_4 hH hS hl
              refine lv_iload hx hb dX12_lists_87 (lv_at hl 0 rfl) ?_
              refine lv_iload hx hb dX12_lists_89 (lv_at hl 1 rfl) ?_
              refine lv_icmp_ge (tgt := 132) hx hb dX12_lists_91 (by decide) (fun c91 => ?_) (fun c91 => ?_)
              · skip
                have fuc91 := full_i p87_5
                have fvc91 := full_i p87_4
                have tc91 := g_le c91
                refine lv_iload hx hb dX12_lists_132 (lv_at hl 1 rfl) ?_
                have hH : HT D cs A T (a0 :: O) ((a0, .inr (12, [.int q52_0, .ref q52_1, .ref q52_2, .ref q52_3, .ref q52_4, .int q52_5, .int q52_6, .int q52_7, .int q52_8, .int q52_9, .int q52_10, .int q52_11, .int q52_12, .int q52_13, .int q52_14, .ref q52_15, .int q52_16, .ref q52_17, .ref q52_18, .ref q52_19, .int q52_20, .ref q52_21, .ref q52_22, .int q52_23, .int q52_24, .int q52_25, .ref q52_26, .ref q52_27, .ref q52_28, .ref q52_29, .ref q52_30, .ref q52_31, .int q52_32, .ref q52_33, .ref q52_34, .ref q52_35])) :: X) H := HT.layA hH t_q52_34 (show sp cs T (1, 4, 6) _ from ⟨_, rfl, c_f34⟩)
                have hH : HT D cs A T O X H := HT.lay (ci := 12) hH t_a0 (okL_c (⟨_, rfl⟩) (okL_c (⟨_, rfl, t_q52_1⟩) (okL_c (⟨_, rfl, t_q52_2⟩) (okL_c (⟨_, rfl, t_q52_3⟩) (okL_c (⟨_, rfl, t_q52_4⟩) (okL_c (⟨_, rfl, by omega, by omega, by omega⟩) (okL_c (⟨_, rfl⟩) (okL_c (⟨_, rfl⟩) (okL_c (⟨_, rfl⟩) (okL_c (⟨_, rfl⟩) (okL_c (⟨_, rfl, by omega, by omega⟩) (okL_c (⟨_, rfl⟩) (okL_c (⟨_, rfl⟩) (okL_c (⟨_, rfl, by omega⟩) (okL_c (⟨_, rfl, by omega⟩) (okL_c (⟨_, rfl, t_q52_15⟩) (okL_c (⟨_, rfl⟩) (okL_c (⟨_, rfl, t_q52_17⟩) (okL_c (⟨_, rfl, t_q52_18⟩) (okL_c (⟨_, rfl, t_q52_19⟩) (okL_c (⟨_, rfl, by omega, by omega⟩) (okL_c (⟨_, rfl, t_q52_21⟩) (okL_c (⟨_, rfl, t_q52_22⟩) (okL_c (⟨_, rfl⟩) (okL_c (⟨_, rfl⟩) (okL_c (⟨_, rfl⟩) (okL_c (⟨_, rfl, t_q52_26⟩) (okL_c (⟨_, rfl, t_q52_27⟩) (okL_c (⟨_, rfl, t_q52_28⟩) (okL_c (⟨_, rfl, t_q52_29⟩) (okL_c (⟨_, rfl, t_q52_30⟩) (okL_c (⟨_, rfl, t_q52_31⟩) (okL_c (⟨_, rfl⟩) (okL_c (⟨_, rfl, t_q52_33⟩) (okL_c (⟨_, rfl, t_q52_34⟩) (okL_c (⟨_, rfl, t_q52_35⟩) (okL_n)))))))))))))))))))))))))))))))))))))
                have hO := hO0
                exact te_i hx hb hr hlocks hH hS (⟨rfl, by omega, by omega⟩) dX12_lists_134
              · skip
                have fuc91 := full_i p87_5
                have fvc91 := full_i p87_4
                have tc91 := g_nle c91
                refine lv_aload_n hx hb dX12_lists_94 rfl (lv_at hl 2 rfl) ?_
                refine x_getk (ci := 12) (C := RX12) (F := TX12) (N := 36) (v := .ref q52_35) hx hb hts uX12 hown hkb hH 1 rfl rfl 35 (by decide) rfl kw_1258 (fun _ h9 => h9) dX12_lists_95 ?_
                refine lv_bipush (v := 40) hx hb dX12_lists_98 (by decide) ?_
                refine lv_iload_n hx hb dX12_lists_100 rfl (lv_at hl 3 rfl) ?_
                refine lv_imul hx hb dX12_lists_101 ?_
                refine lv_topi (fun v101 ev101 => ?_)
                have tv101 : v101.toInt = (40) * x1.toInt := by rw [ev101]; exact mul_i (by decide : (40 : Int32).toInt = 40) rfl (by omega) (by omega)
                refine lv_iload hx hb dX12_lists_102 (lv_at hl 0 rfl) ?_
                refine lv_iadd hx hb dX12_lists_104 ?_
                refine lv_topi (fun v104 ev104 => ?_)
                have tv104 : v104.toInt = v101.toInt + p87_5.toInt := by rw [ev104]; exact add_i rfl rfl (by omega) (by omega)
                refine lv_iload hx hb dX12_lists_105 (lv_at hl 0 rfl) ?_
                have J125 : ∀ (k125_0 : Int64) (H : Heap) (locs : List Loc) (ls : Array Slot), HT D cs A T (q52_34 :: a0 :: O) ((q52_34, .inl (cs.2.1, 4, .inl f34)) :: (a0, .inr (12, [.int q52_0, .ref q52_1, .ref q52_2, .ref q52_3, .ref q52_4, .int q52_5, .int q52_6, .int q52_7, .int q52_8, .int q52_9, .int q52_10, .int q52_11, .int q52_12, .int q52_13, .int q52_14, .ref q52_15, .int q52_16, .ref q52_17, .ref q52_18, .ref q52_19, .int q52_20, .ref q52_21, .ref q52_22, .int q52_23, .int q52_24, .int q52_25, .ref q52_26, .ref q52_27, .ref q52_28, .ref q52_29, .ref q52_30, .ref q52_31, .int q52_32, .ref q52_33, .ref q52_34, .ref q52_35])) :: X) H → va_S A s.heap H locs → lv_has ls 6 [(5, .int p87_5), (4, .int p87_4), (0, .ref a0), (1, .int x1), (2, .int x2)] → W p l e { frames := 6, cells := 0, slots := 0, locals := 140 } s m [.ref a0, .int x1, .int x2].toArray below meth c H locs 0 0 (MQ below (Ti D cs (fun r u => u = (T, O, X) ∧ -6 ≤ r.toInt ∧ r.toInt ≤ 15) A) [.ref a0, .int x1, .int x2].toArray s 0 0 A) (F0 m 125 ls [.long k125_0, .int v104, .ref q52_35]) := by
                  intro k125_0 H locs ls  hH hS hl
                  refine t_lst hx hb hkb hH hS t_q52_35 (hO.no t_q52_35 (by decide)) (by omega) (by omega) dX12_lists_125 (fun H locs hH hS => ?_)
                  obtain ⟨v126, ev126⟩ : ∃ y : Int32, y = p87_5 + 1 := ⟨_, rfl⟩
                  have tv126 : v126.toInt = p87_5.toInt + (1) := by rw [ev126]; exact add_i rfl (by decide) (by omega) (by omega)
                  refine lv_iinc (v := v126) (lv' := [(5, .int v126), (4, .int p87_4), (0, .ref a0), (1, .int x1), (2, .int x2)]) hx hb dX12_lists_126 hl (k := 0) rfl (by rw [ev126]; rfl) (by decide) rfl (fun ls hl => ?_)
                  refine lv_goto (tgt := 87) hx hb dX12_lists_129 (by decide) ?_
                  exact ih87 _ (by omega) v126 p87_4 _ _ _ rfl (by omega) (by omega) (by omega) (by omega) hH hS (lv_sub hl [0, 1, 2, 3, 4] rfl)
                refine lv_if_ne (tgt := 115) hx hb dX12_lists_107 (by decide) (fun c107 => ?_) (fun c107 => ?_)
                · skip
                  have tc107 := f_ne (k := 0) (by decide) c107
                  refine lv_aload_n hx hb dX12_lists_115 rfl (lv_at hl 2 rfl) ?_
                  refine x_getk (ci := 12) (C := RX12) (F := TX12) (N := 36) (v := .ref q52_19) hx hb hts uX12 hown hkb hH 1 rfl rfl 19 (by decide) rfl kw_1242 (fun _ h9 => h9) dX12_lists_116 ?_
                  refine lv_iload hx hb dX12_lists_119 (lv_at hl 0 rfl) ?_
                  refine lv_iconst (v := 1) hx hb dX12_lists_121 (by decide) ?_
                  refine lv_isub hx hb dX12_lists_122 ?_
                  refine lv_topi (fun v122 ev122 => ?_)
                  have tv122 : v122.toInt = p87_5.toInt - (1) := by rw [ev122]; exact sub_i rfl (by decide : (1 : Int32).toInt = 1) (by omega) (by omega)
                  refine t_ild hx hb hkb hH t_q52_19 (nm_c (tag_ne t_q52_19 t_q52_34 (by decide)) (nm_c (tag_ne t_q52_19 t_a0 (fun q => absurd (show 1 = 22 from congrArg Prod.fst q) (by decide))) (hO0.no t_q52_19 (by decide)))) (by omega) (by omega) dX12_lists_123 (fun v123 h9 => ?_)
                  have tv123 : 0 ≤ v123.toInt ∧ v123.toInt ≤ 13 := h9
                  refine lv_i2l hx hb dX12_lists_124 rfl ?_
                  exact J125 v123.toInt64 _ _ _  hH hS (lv_sub hl [0, 1, 2, 3, 4] rfl)
                · skip
                  have tc107 := f_eq (k := 0) (by decide) c107
                  refine lv_iload_n hx hb dX12_lists_110 rfl (lv_at hl 4 rfl) ?_
                  refine lv_i2l hx hb dX12_lists_111 rfl ?_
                  refine lv_goto (tgt := 125) hx hb dX12_lists_112 (by decide) ?_
                  exact J125 x2.toInt64 _ _ _  hH hS (lv_sub hl [0, 1, 2, 3, 4] rfl)
          have hb63 : 0 ≤ v63.toInt ∧ v63.toInt ≤ 40 := by rw [tv63]; exact c_f34 _
          refine lv_icmp_ge (tgt := 76) hx hb dX12_lists_64 (by decide) (fun c64 => ?_) (fun c64 => ?_)
          · skip
            have fuc64 := full_i v57
            have fvc64 := full_i v63
            have tc64 := g_le c64
            refine lv_aload_n hx hb dX12_lists_76 rfl (lv_at hl 1 rfl) ?_
            refine x_getk (ci := 12) (C := RX12) (F := TX12) (N := 36) (v := .ref q52_34) hx hb hts uX12 hown hkb hH 1 rfl rfl 34 (by decide) rfl kw_1257 (fun _ h9 => h9) dX12_lists_77 ?_
            refine lv_iload_n hx hb dX12_lists_80 rfl (lv_at hl 2 rfl) ?_
            refine xa_ild hx hb hkb hH 0 rfl (by omega) (by omega) dX12_lists_81 ?_
            refine lv_topi (fun v81 ev81 => ?_)
            have tv81 : v81 = f34 x1.toInt.toNat := ev81
            have hq9 : v81.toInt = v63.toInt := by rw [tv81, tv63]
            refine lv_istore (lv' := [(4, .int v81), (3, .int v31), (0, .ref a0), (1, .int x1), (2, .int x2)]) hx hb dX12_lists_82 hl (by decide) rfl (fun ls hl => ?_)
            refine lv_iconst (v := 0) hx hb dX12_lists_84 (by decide) ?_
            refine lv_istore (lv' := [(5, .int 0), (4, .int v81), (3, .int v31), (0, .ref a0), (1, .int x1), (2, .int x2)]) hx hb dX12_lists_85 hl (by decide) rfl (fun ls hl => ?_)
            exact J87 _ 0 v81 _ _ _ rfl (by decide) (by decide) (by omega) (by omega) hH hS (lv_sub hl [0, 1, 3, 4, 5] rfl)
          · skip
            have fuc64 := full_i v57
            have fvc64 := full_i v63
            have tc64 := g_nle c64
            refine lv_aload_n hx hb dX12_lists_67 rfl (lv_at hl 1 rfl) ?_
            refine x_getk (ci := 12) (C := RX12) (F := TX12) (N := 36) (v := .int q52_20) hx hb hts uX12 hown hkb hH 1 rfl rfl 20 (by decide) rfl kw_1243 (fun _ h9 => h9) dX12_lists_68 ?_
            refine lv_iconst (v := 1) hx hb dX12_lists_71 (by decide) ?_
            refine lv_iadd hx hb dX12_lists_72 ?_
            refine lv_topi (fun v72 ev72 => ?_)
            have tv72 : v72.toInt = q52_20.toInt + (1) := by rw [ev72]; exact add_i rfl (by decide : (1 : Int32).toInt = 1) (by omega) (by omega)
            refine lv_goto (tgt := 82) hx hb dX12_lists_73 (by decide) ?_
            refine lv_istore (lv' := [(4, .int v72), (3, .int v31), (0, .ref a0), (1, .int x1), (2, .int x2)]) hx hb dX12_lists_82 hl (by decide) rfl (fun ls hl => ?_)
            refine lv_iconst (v := 0) hx hb dX12_lists_84 (by decide) ?_
            refine lv_istore (lv' := [(5, .int 0), (4, .int v72), (3, .int v31), (0, .ref a0), (1, .int x1), (2, .int x2)]) hx hb dX12_lists_85 hl (by decide) rfl (fun ls hl => ?_)
            exact J87 _ 0 v72 _ _ _ rfl (by decide) (by decide) (by omega) (by omega) hH hS (lv_sub hl [0, 1, 3, 4, 5] rfl)
        · skip
          have tc46 := f_eq (k := 0) (by decide) c46
          refine lv_bipush (v := (-5)) hx hb dX12_lists_49 (by decide) ?_
          have z9_m5 : ((-5) : Int32).toInt = -5 := by decide
          exact te_i hx hb hr hlocks hH hS (⟨rfl, by decide, by decide⟩) dX12_lists_51
      · skip
        have tc36 := f_ne (k := 0) (by decide) c36
        refine lv_iload_n hx hb dX12_lists_39 rfl (lv_at hl 0 rfl) ?_
        exact te_i hx hb hr hlocks hH hS (⟨rfl, by omega, by omega⟩) dX12_lists_40
    · skip
      have tc23 := f_eq (k := 0) (by decide) c23
      clear x_v200
      exact J26  _ _ _  hH hS (lv_sub hl [] rfl)
