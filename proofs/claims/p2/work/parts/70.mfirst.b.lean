set_option maxHeartbeats 4000000 in
set_option maxRecDepth 100000 in
theorem s_M_isHold (l : Launch) (D : va_G) (cs : CS) (kf : KF) (T : TF) (O : List Nat) (X : va_W) (a0 hg mq : Nat) (x1 : Int64) (t_a0 : T a0 = some (22, hg, mq)) (b_hg : hg < 90) (hO : okO T O [8, 22]) : TK l D cs kf yX12_isHold cX12_isHold 3 (some (.boolean)) { frames := 1, cells := 0, slots := 0, locals := 25 } [.ref a0, .long x1] T O X (Ti D cs (fun r u => u = (T, O, X) ∧ 0 ≤ r.toInt ∧ r.toInt ≤ 1 ∧ (r.toInt = 0 ∨ (0 ≤ x1.toInt ∧ x1.toInt ≤ 13)))) := by
  refine tk_of (by decide) (Nat.le_of_ble_eq_true rfl) (fun p e s m below meth c ls A H locs hx hb hr hml hown hts hlocks hnm hkb hH hS hA hOX hks hE hl => ?_)
  have hown : s.vm.findClass RX12 = some m.cls := hown
  have hl : lv_has ls 3 [(0, .ref a0), (1, .long x1)] := hl
  refine lv_lload_n hx hb dX12_isHold_0 rfl (lv_at hl 1 rfl) ?_
  refine lv_lconst (v := 0) hx hb dX12_isHold_1 (by decide) ?_
  refine lv_aload_n hx hb dX12_isHold_2 rfl (lv_at hl 0 rfl) ?_
  refine t_get (ci := 12) (lst := ft12 hg mq) (C := RX12) (F := TX12) (N := 36) hx hb hts uX12 hown hkb hH t_a0 (hO.no t_a0 (by decide)) (fun _ h9 => h9) rfl rfl 1 (by decide) rfl kw_1224 (fun _ h9 => h9) dX12_isHold_3 (fun v9 h9 => ?_)
  obtain ⟨v3, rfl, t_v3⟩ := h9
  refine lv_iconst (v := 1) hx hb dX12_isHold_6 (by decide) ?_
  refine t_ild8 hx hb hkb hH t_v3 (hO.no t_v3 (by decide)) (by decide) (by decide) (by decide) dX12_isHold_7 (fun v7 h9 h8 => ?_)
  have q9 := (h8 rfl).1 rfl
  subst q9
  have eH9 : (nI (hg / 6)).toInt = (((hg / 6) : Nat) : Int) := nI_toInt (by omega)
  refine lv_iconst (v := 1) hx hb dX12_isHold_8 (by decide) ?_
  refine lv_isub hx hb dX12_isHold_9 ?_
  refine lv_topi (fun v9 ev9 => ?_)
  have tv9 : v9.toInt = (nI (hg / 6)).toInt - (1) := by rw [ev9]; exact sub_i rfl (by decide : (1 : Int32).toInt = 1) (by omega) (by omega)
  refine lv_i2l hx hb dX12_isHold_10 rfl ?_
  refine tk_i hH hS hA (tr_S (n := 3) (As := [.long x1, .long 0, .long v9.toInt64]) hx hb hml hown hts hkb hH hOX hks hE hS hA (s_M_within l D cs kf T O X x1 0 v9.toInt64  (hO.sub (by decide))) kw_1341 kw_1342 kw_13 kw_1343 (by decide +kernel) ⟨Nat.le_of_ble_eq_true rfl, Nat.le_of_ble_eq_true rfl⟩ rfl rfl hl.1 (Nat.le_of_ble_eq_true rfl) dX12_isHold_11 ⟨Nat.le_of_ble_eq_true rfl, Nat.le_of_ble_eq_true rfl⟩) (fun v11 u H locs hz9 hH hS => ?_)
  obtain ⟨rfl, l_v11, u_v11, x_v110, x_v111⟩ := hz9
  simp only [Int32.toInt_toInt64] at x_v110 x_v111
  have k9_0 : (0 : Int64).toInt = 0 := by decide
  have hH : HT D cs A T O X H := hH
  refine W.widen (k := 0) (n := 0) (Nat.le_of_ble_eq_true rfl) (Nat.le_of_ble_eq_true rfl) ?_
  exact te_z hx hb hr hlocks (nar01 (by omega) (by omega)) hH hS (⟨rfl, by omega, by omega, by omega⟩) dX12_isHold_14
set_option maxHeartbeats 4000000 in
set_option maxRecDepth 100000 in
theorem s_M_isGuide (l : Launch) (D : va_G) (cs : CS) (kf : KF) (T : TF) (O : List Nat) (X : va_W) (a0 hg mq : Nat) (x1 : Int64) (t_a0 : T a0 = some (22, hg, mq)) (b_hg : hg < 90) (hO : okO T O [8, 22]) : TK l D cs kf yX12_isGuide cX12_isGuide 3 (some (.boolean)) { frames := 1, cells := 0, slots := 0, locals := 25 } [.ref a0, .long x1] T O X (Ti D cs (fun r u => u = (T, O, X) ∧ 0 ≤ r.toInt ∧ r.toInt ≤ 1 ∧ (r.toInt = 0 ∨ (0 ≤ x1.toInt ∧ x1.toInt ≤ 4)))) := by
  refine tk_of (by decide) (Nat.le_of_ble_eq_true rfl) (fun p e s m below meth c ls A H locs hx hb hr hml hown hts hlocks hnm hkb hH hS hA hOX hks hE hl => ?_)
  have hown : s.vm.findClass RX12 = some m.cls := hown
  have hl : lv_has ls 3 [(0, .ref a0), (1, .long x1)] := hl
  refine lv_lload_n hx hb dX12_isGuide_0 rfl (lv_at hl 1 rfl) ?_
  refine lv_lconst (v := 0) hx hb dX12_isGuide_1 (by decide) ?_
  refine lv_aload_n hx hb dX12_isGuide_2 rfl (lv_at hl 0 rfl) ?_
  refine t_get (ci := 12) (lst := ft12 hg mq) (C := RX12) (F := TX12) (N := 36) hx hb hts uX12 hown hkb hH t_a0 (hO.no t_a0 (by decide)) (fun _ h9 => h9) rfl rfl 1 (by decide) rfl kw_1224 (fun _ h9 => h9) dX12_isGuide_3 (fun v9 h9 => ?_)
  obtain ⟨v3, rfl, t_v3⟩ := h9
  refine lv_iconst (v := 2) hx hb dX12_isGuide_6 (by decide) ?_
  refine t_ild8 hx hb hkb hH t_v3 (hO.no t_v3 (by decide)) (by decide) (by decide) (by decide) dX12_isGuide_7 (fun v7 h9 h8 => ?_)
  have q9 := (h8 rfl).2 rfl
  subst q9
  have eG9 : (nI (hg % 6)).toInt = (((hg % 6) : Nat) : Int) := nI_toInt (by omega)
  refine lv_iconst (v := 1) hx hb dX12_isGuide_8 (by decide) ?_
  refine lv_isub hx hb dX12_isGuide_9 ?_
  refine lv_topi (fun v9 ev9 => ?_)
  have tv9 : v9.toInt = (nI (hg % 6)).toInt - (1) := by rw [ev9]; exact sub_i rfl (by decide : (1 : Int32).toInt = 1) (by omega) (by omega)
  refine lv_i2l hx hb dX12_isGuide_10 rfl ?_
  refine tk_i hH hS hA (tr_S (n := 3) (As := [.long x1, .long 0, .long v9.toInt64]) hx hb hml hown hts hkb hH hOX hks hE hS hA (s_M_within l D cs kf T O X x1 0 v9.toInt64  (hO.sub (by decide))) kw_1341 kw_1342 kw_13 kw_1343 (by decide +kernel) ⟨Nat.le_of_ble_eq_true rfl, Nat.le_of_ble_eq_true rfl⟩ rfl rfl hl.1 (Nat.le_of_ble_eq_true rfl) dX12_isGuide_11 ⟨Nat.le_of_ble_eq_true rfl, Nat.le_of_ble_eq_true rfl⟩) (fun v11 u H locs hz9 hH hS => ?_)
  obtain ⟨rfl, l_v11, u_v11, x_v110, x_v111⟩ := hz9
  simp only [Int32.toInt_toInt64] at x_v110 x_v111
  have k9_0 : (0 : Int64).toInt = 0 := by decide
  have hH : HT D cs A T O X H := hH
  refine W.widen (k := 0) (n := 0) (Nat.le_of_ble_eq_true rfl) (Nat.le_of_ble_eq_true rfl) ?_
  exact te_z hx hb hr hlocks (nar01 (by omega) (by omega)) hH hS (⟨rfl, by omega, by omega, by omega⟩) dX12_isGuide_14
set_option maxHeartbeats 4000000 in
set_option maxRecDepth 100000 in
theorem s_M_isThere (l : Launch) (D : va_G) (cs : CS) (kf : KF) (T : TF) (O : List Nat) (X : va_W) (a0 hg mq : Nat) (x1 : Int32) (t_a0 : T a0 = some (22, hg, mq)) (b_hg : hg < 90) (l_x1 : 0 ≤ x1.toInt) (u_x1 : x1.toInt ≤ 13) (hO : okO T O [8, 22]) : TK l D cs kf yX12_isThere cX12_isThere 2 (some (.boolean)) { frames := 1, cells := 0, slots := 0, locals := 22 } [.ref a0, .int x1] T O X (Ti D cs (fun r u => u = (T, O, X) ∧ 0 ≤ r.toInt ∧ r.toInt ≤ 1)) := by
  refine tk_of (by decide) (Nat.le_of_ble_eq_true rfl) (fun p e s m below meth c ls A H locs hx hb hr hml hown hts hlocks hnm hkb hH hS hA hOX hks hE hl => ?_)
  have hown : s.vm.findClass RX12 = some m.cls := hown
  have hl : lv_has ls 2 [(0, .ref a0), (1, .int x1)] := hl
  refine lv_aload_n hx hb dX12_isThere_0 rfl (lv_at hl 0 rfl) ?_
  refine t_get (ci := 12) (lst := ft12 hg mq) (C := RX12) (F := TX12) (N := 36) hx hb hts uX12 hown hkb hH t_a0 (hO.no t_a0 (by decide)) (fun _ h9 => h9) rfl rfl 1 (by decide) rfl kw_1224 (fun _ h9 => h9) dX12_isThere_1 (fun v9 h9 => ?_)
  obtain ⟨v1, rfl, t_v1⟩ := h9
  refine lv_bipush (v := 87) hx hb dX12_isThere_4 (by decide) ?_
  refine t_ild8 hx hb hkb hH t_v1 (hO.no t_v1 (by decide)) (by decide) (by decide) (by decide) dX12_isThere_6 (fun v6 h9 h8 => ?_)
  refine lv_i2l hx hb dX12_isThere_7 rfl ?_
  refine lv_iload_n hx hb dX12_isThere_8 rfl (lv_at hl 1 rfl) ?_
  refine tk_i hH hS hA (tr_S (n := 2) (As := [.long v6.toInt64, .int x1]) hx hb hml hown hts hkb hH hOX hks hE hS hA (s_M_isIn l D cs kf T O X v6.toInt64 x1  (hO.sub (by decide))) kw_1440 kw_1441 kw_13 kw_1442 (by decide +kernel) ⟨Nat.le_of_ble_eq_true rfl, Nat.le_of_ble_eq_true rfl⟩ rfl rfl hl.1 (Nat.le_of_ble_eq_true rfl) dX12_isThere_9 ⟨Nat.le_of_ble_eq_true rfl, Nat.le_of_ble_eq_true rfl⟩) (fun v9 u H locs hz9 hH hS => ?_)
  obtain ⟨rfl, l_v9, u_v9⟩ := hz9
  have hH : HT D cs A T O X H := hH
  refine W.widen (k := 0) (n := 0) (Nat.le_of_ble_eq_true rfl) (Nat.le_of_ble_eq_true rfl) ?_
  have J39 : ∀ (k39_0 : Int32) (H : Heap) (locs : List Loc) (ls : Array Slot), (0 ≤ k39_0.toInt) → (k39_0.toInt ≤ 1) → HT D cs A T O X H → va_S A s.heap H locs → lv_has ls 2 [] → W p l e { frames := 1, cells := 0, slots := 0, locals := 22 } s m [.ref a0, .int x1].toArray below meth c H locs 0 0 (MQ below (Ti D cs (fun r u => u = (T, O, X) ∧ 0 ≤ r.toInt ∧ r.toInt ≤ 1) A) [.ref a0, .int x1].toArray s 0 0 A) (F0 m 39 ls [.int k39_0]) := by
    intro k39_0 H locs ls l_k39_0 u_k39_0 hH hS hl
    exact te_z hx hb hr hlocks (nar01 (by omega) (by omega)) hH hS (⟨rfl, by omega, by omega⟩) dX12_isThere_39
  have J38 : ∀  (H : Heap) (locs : List Loc) (ls : Array Slot), HT D cs A T O X H → va_S A s.heap H locs → lv_has ls 2 [] → W p l e { frames := 1, cells := 0, slots := 0, locals := 22 } s m [.ref a0, .int x1].toArray below meth c H locs 0 0 (MQ below (Ti D cs (fun r u => u = (T, O, X) ∧ 0 ≤ r.toInt ∧ r.toInt ≤ 1) A) [.ref a0, .int x1].toArray s 0 0 A) (F0 m 38 ls []) := by
    intro  H locs ls  hH hS hl
    refine lv_iconst (v := 0) hx hb dX12_isThere_38 (by decide) ?_
    exact J39 0 _ _ _ (by decide) (by decide) hH hS (lv_sub hl [] rfl)
  refine lv_if_ne (tgt := 38) hx hb dX12_isThere_12 (by decide) (fun c12 => ?_) (fun c12 => ?_)
  · skip
    have tc12 := f_ne (k := 0) (by decide) c12
    exact J38  _ _ _  hH hS (lv_sub hl [] rfl)
  · skip
    have tc12 := f_eq (k := 0) (by decide) c12
    refine lv_aload_n hx hb dX12_isThere_15 rfl (lv_at hl 0 rfl) ?_
    refine t_get (ci := 12) (lst := ft12 hg mq) (C := RX12) (F := TX12) (N := 36) hx hb hts uX12 hown hkb hH t_a0 (hO.no t_a0 (by decide)) (fun _ h9 => h9) rfl rfl 1 (by decide) rfl kw_1224 (fun _ h9 => h9) dX12_isThere_16 (fun v9 h9 => ?_)
    obtain ⟨v16, rfl, t_v16⟩ := h9
    refine lv_bipush (v := 88) hx hb dX12_isThere_19 (by decide) ?_
    refine t_ild8 hx hb hkb hH t_v16 (hO.no t_v16 (by decide)) (by decide) (by decide) (by decide) dX12_isThere_21 (fun v21 h9 h8 => ?_)
    refine lv_aload_n hx hb dX12_isThere_22 rfl (lv_at hl 0 rfl) ?_
    refine t_get (ci := 12) (lst := ft12 hg mq) (C := RX12) (F := TX12) (N := 36) hx hb hts uX12 hown hkb hH t_a0 (hO.no t_a0 (by decide)) (fun _ h9 => h9) rfl rfl 1 (by decide) rfl kw_1224 (fun _ h9 => h9) dX12_isThere_23 (fun v9 h9 => ?_)
    obtain ⟨v23, rfl, t_v23⟩ := h9
    refine lv_bipush (v := 35) hx hb dX12_isThere_26 (by decide) ?_
    refine lv_iload_n hx hb dX12_isThere_28 rfl (lv_at hl 1 rfl) ?_
    refine lv_iadd hx hb dX12_isThere_29 ?_
    refine lv_topi (fun v29 ev29 => ?_)
    have tv29 : v29.toInt = (35) + x1.toInt := by rw [ev29]; exact add_i (by decide : (35 : Int32).toInt = 35) rfl (by omega) (by omega)
    refine t_ild8 hx hb hkb hH t_v23 (hO.no t_v23 (by decide)) (by decide) (by omega) (by omega) dX12_isThere_30 (fun v30 h9 h8 => ?_)
    refine lv_icmp_lt (tgt := 38) hx hb dX12_isThere_31 (by decide) (fun c31 => ?_) (fun c31 => ?_)
    · skip
      have fuc31 := full_i v21
      have fvc31 := full_i v30
      have tc31 := g_lt c31
      exact J38  _ _ _  hH hS (lv_sub hl [] rfl)
    · skip
      have fuc31 := full_i v21
      have fvc31 := full_i v30
      have tc31 := g_nlt c31
      refine lv_iconst (v := 1) hx hb dX12_isThere_34 (by decide) ?_
      refine lv_goto (tgt := 39) hx hb dX12_isThere_35 (by decide) ?_
      exact J39 1 _ _ _ (by decide) (by decide) hH hS (lv_sub hl [] rfl)
set_option maxHeartbeats 4000000 in
set_option maxRecDepth 100000 in
theorem s_M_isOpen (l : Launch) (D : va_G) (cs : CS) (kf : KF) (T : TF) (O : List Nat) (X : va_W) (a0 hg mq : Nat) (x1 : Int32) (t_a0 : T a0 = some (22, hg, mq)) (b_hg : hg < 90) (l_x1 : 0 ≤ x1.toInt) (u_x1 : x1.toInt ≤ 13) (hO : okO T O [8, 22]) : TK l D cs kf yX12_isOpen cX12_isOpen 2 (some (.boolean)) { frames := 2, cells := 0, slots := 0, locals := 43 } [.ref a0, .int x1] T O X (Ti D cs (fun r u => u = (T, O, X) ∧ 0 ≤ r.toInt ∧ r.toInt ≤ 1)) := by
  refine tk_of (by decide) (Nat.le_of_ble_eq_true rfl) (fun p e s m below meth c ls A H locs hx hb hr hml hown hts hlocks hnm hkb hH hS hA hOX hks hE hl => ?_)
  have hown : s.vm.findClass RX12 = some m.cls := hown
  have hl : lv_has ls 2 [(0, .ref a0), (1, .int x1)] := hl
  refine lv_aload_n hx hb dX12_isOpen_0 rfl (lv_at hl 0 rfl) ?_
  refine lv_iload_n hx hb dX12_isOpen_1 rfl (lv_at hl 1 rfl) ?_
  refine tk_i hH hS hA (tr_V (n := 1) (As := [.int x1]) hx hb hml hown hts hkb hH hOX hks hE hS hA (s_M_isThere l D cs kf T O X a0 hg mq x1 t_a0 b_hg (by omega) (by omega) (hO.sub (by decide))) kw_1458 kw_1460 ks_65 kw_13 kw_1461 (by decide +kernel) ⟨Nat.le_of_ble_eq_true rfl, Nat.le_of_ble_eq_true rfl⟩ (HT.recv (ci := 12) hkb hH t_a0 (hO.no t_a0 (by decide)) rfl) rfl rfl hl.1 (Nat.le_of_ble_eq_true rfl) dX12_isOpen_2 ⟨Nat.le_of_ble_eq_true rfl, Nat.le_of_ble_eq_true rfl⟩) (fun v2 u H locs hz9 hH hS => ?_)
  obtain ⟨rfl, l_v2, u_v2⟩ := hz9
  have hH : HT D cs A T O X H := hH
  refine W.widen (k := 0) (n := 0) (Nat.le_of_ble_eq_true rfl) (Nat.le_of_ble_eq_true rfl) ?_
  have J26 : ∀ (k26_0 : Int32) (H : Heap) (locs : List Loc) (ls : Array Slot), (0 ≤ k26_0.toInt) → (k26_0.toInt ≤ 1) → HT D cs A T O X H → va_S A s.heap H locs → lv_has ls 2 [] → W p l e { frames := 2, cells := 0, slots := 0, locals := 43 } s m [.ref a0, .int x1].toArray below meth c H locs 0 0 (MQ below (Ti D cs (fun r u => u = (T, O, X) ∧ 0 ≤ r.toInt ∧ r.toInt ≤ 1) A) [.ref a0, .int x1].toArray s 0 0 A) (F0 m 26 ls [.int k26_0]) := by
    intro k26_0 H locs ls l_k26_0 u_k26_0 hH hS hl
    exact te_z hx hb hr hlocks (nar01 (by omega) (by omega)) hH hS (⟨rfl, by omega, by omega⟩) dX12_isOpen_26
  have J25 : ∀  (H : Heap) (locs : List Loc) (ls : Array Slot), HT D cs A T O X H → va_S A s.heap H locs → lv_has ls 2 [] → W p l e { frames := 2, cells := 0, slots := 0, locals := 43 } s m [.ref a0, .int x1].toArray below meth c H locs 0 0 (MQ below (Ti D cs (fun r u => u = (T, O, X) ∧ 0 ≤ r.toInt ∧ r.toInt ≤ 1) A) [.ref a0, .int x1].toArray s 0 0 A) (F0 m 25 ls []) := by
    intro  H locs ls  hH hS hl
    refine lv_iconst (v := 0) hx hb dX12_isOpen_25 (by decide) ?_
    exact J26 0 _ _ _ (by decide) (by decide) hH hS (lv_sub hl [] rfl)
  refine lv_if_eq (tgt := 25) hx hb dX12_isOpen_5 (by decide) (fun c5 => ?_) (fun c5 => ?_)
  · skip
    have tc5 := f_eq (k := 0) (by decide) c5
    exact J25  _ _ _  hH hS (lv_sub hl [] rfl)
  · skip
    have tc5 := f_ne (k := 0) (by decide) c5
    refine lv_aload_n hx hb dX12_isOpen_8 rfl (lv_at hl 0 rfl) ?_
    refine t_get (ci := 12) (lst := ft12 hg mq) (C := RX12) (F := TX12) (N := 36) hx hb hts uX12 hown hkb hH t_a0 (hO.no t_a0 (by decide)) (fun _ h9 => h9) rfl rfl 1 (by decide) rfl kw_1224 (fun _ h9 => h9) dX12_isOpen_9 (fun v9 h9 => ?_)
    obtain ⟨v9, rfl, t_v9⟩ := h9
    refine lv_bipush (v := 59) hx hb dX12_isOpen_12 (by decide) ?_
    refine lv_iload_n hx hb dX12_isOpen_14 rfl (lv_at hl 1 rfl) ?_
    refine lv_iadd hx hb dX12_isOpen_15 ?_
    refine lv_topi (fun v15 ev15 => ?_)
    have tv15 : v15.toInt = (59) + x1.toInt := by rw [ev15]; exact add_i (by decide : (59 : Int32).toInt = 59) rfl (by omega) (by omega)
    refine t_ild8 hx hb hkb hH t_v9 (hO.no t_v9 (by decide)) (by decide) (by omega) (by omega) dX12_isOpen_16 (fun v16 h9 h8 => ?_)
    refine lv_iconst (v := (-1)) hx hb dX12_isOpen_17 (by decide) ?_
    refine lv_icmp_ne (tgt := 25) hx hb dX12_isOpen_18 (by decide) (fun c18 => ?_) (fun c18 => ?_)
    · skip
      have tc18 := f_ne (k := -1) (by decide) c18
      exact J25  _ _ _  hH hS (lv_sub hl [] rfl)
    · skip
      have tc18 := f_eq (k := -1) (by decide) c18
      refine lv_iconst (v := 1) hx hb dX12_isOpen_21 (by decide) ?_
      refine lv_goto (tgt := 26) hx hb dX12_isOpen_22 (by decide) ?_
      exact J26 1 _ _ _ (by decide) (by decide) hH hS (lv_sub hl [] rfl)
set_option maxHeartbeats 4000000 in
set_option maxRecDepth 100000 in
theorem s_M_openSet (l : Launch) (D : va_G) (cs : CS) (kf : KF) (T : TF) (O : List Nat) (X : va_W) (a0 hg mq : Nat) (t_a0 : T a0 = some (22, hg, mq)) (b_hg : hg < 90) (hO : okO T O [8, 22]) : TK l D cs kf yX12_openSet cX12_openSet 3 (some (.int)) { frames := 3, cells := 0, slots := 0, locals := 64 } [.ref a0] T O X (Ti D cs (fun r u => u = (T, O, X) ∧ 0 ≤ r.toInt ∧ r.toInt ≤ 16383)) := by
  refine tk_of (by decide) (Nat.le_of_ble_eq_true rfl) (fun p e s m below meth c ls A H locs hx hb hr hml hown hts hlocks hnm hkb hH hS hA hOX hks hE hl => ?_)
  have hown : s.vm.findClass RX12 = some m.cls := hown
  have hl : lv_has ls 3 [(0, .ref a0)] := hl
  refine lv_iconst (v := 0) hx hb dX12_openSet_0 (by decide) ?_
  refine lv_istore_n (lv' := [(1, .int 0), (0, .ref a0)]) hx hb dX12_openSet_1 rfl hl (by decide) rfl (fun ls hl => ?_)
  refine lv_iconst (v := 0) hx hb dX12_openSet_2 (by decide) ?_
  have J4 : ∀ (n : Nat) (p4_2 : Int32) (p4_1 : Int32) (H : Heap) (locs : List Loc) (ls : Array Slot), (14 - p4_2.toInt).toNat = n → (0 ≤ p4_2.toInt) → (p4_2.toInt ≤ 14) → (0 ≤ p4_1.toInt) → (p4_1.toInt ≤ 16383) → HT D cs A T O X H → va_S A s.heap H locs → lv_has ls 3 [(2, .int p4_2), (1, .int p4_1), (0, .ref a0)] → W p l e { frames := 3, cells := 0, slots := 0, locals := 64 } s m [.ref a0].toArray below meth c H locs 0 0 (MQ below (Ti D cs (fun r u => u = (T, O, X) ∧ 0 ≤ r.toInt ∧ r.toInt ≤ 16383) A) [.ref a0].toArray s 0 0 A) (F0 m 4 ls []) := by
    intro n
    induction n using Nat.strongRecOn with
    | _ n ih4 =>
      intro p4_2 p4_1 H locs ls hm4 l_p4_2 u_p4_2 l_p4_1 u_p4_1 hH hS hl
      refine lv_iload_n hx hb dX12_openSet_4 rfl (lv_at hl 0 rfl) ?_
      refine lv_aload_n hx hb dX12_openSet_5 rfl (lv_at hl 2 rfl) ?_
      refine t_get (ci := 12) (lst := ft12 hg mq) (C := RX12) (F := TX12) (N := 36) hx hb hts uX12 hown hkb hH t_a0 (hO.no t_a0 (by decide)) (fun _ h9 => h9) rfl rfl 1 (by decide) rfl kw_1224 (fun _ h9 => h9) dX12_openSet_6 (fun v9 h9 => ?_)
      obtain ⟨v6, rfl, t_v6⟩ := h9
      refine lv_iconst (v := 1) hx hb dX12_openSet_9 (by decide) ?_
      refine t_ild8 hx hb hkb hH t_v6 (hO.no t_v6 (by decide)) (by decide) (by decide) (by decide) dX12_openSet_10 (fun v10 h9 h8 => ?_)
      have q9 := (h8 rfl).1 rfl
      subst q9
      have eH9 : (nI (hg / 6)).toInt = (((hg / 6) : Nat) : Int) := nI_toInt (by omega)
      refine lv_icmp_ge (tgt := 38) hx hb dX12_openSet_11 (by decide) (fun c11 => ?_) (fun c11 => ?_)
      · skip
        have fuc11 := full_i p4_2
        have fvc11 := full_i (nI (hg / 6))
        have tc11 := g_le c11
        refine lv_iload_n hx hb dX12_openSet_38 rfl (lv_at hl 1 rfl) ?_
        exact te_i hx hb hr hlocks hH hS (⟨rfl, by omega, by omega⟩) dX12_openSet_39
      · skip
        have fuc11 := full_i p4_2
        have fvc11 := full_i (nI (hg / 6))
        have tc11 := g_nle c11
        refine lv_iload_n hx hb dX12_openSet_14 rfl (lv_at hl 1 rfl) ?_
        refine lv_aload_n hx hb dX12_openSet_15 rfl (lv_at hl 2 rfl) ?_
        refine lv_iload_n hx hb dX12_openSet_16 rfl (lv_at hl 0 rfl) ?_
        refine tk_i hH hS hA (tr_V (n := 1) (As := [.int p4_2]) hx hb hml hown hts hkb hH hOX hks hE hS hA (s_M_isOpen l D cs kf T O X a0 hg mq p4_2 t_a0 b_hg (by omega) (by omega) (hO.sub (by decide))) kw_1462 kw_1464 ks_66 kw_13 kw_1465 (by decide +kernel) ⟨Nat.le_of_ble_eq_true rfl, Nat.le_of_ble_eq_true rfl⟩ (HT.recv (ci := 12) hkb hH t_a0 (hO.no t_a0 (by decide)) rfl) rfl rfl hl.1 (Nat.le_of_ble_eq_true rfl) dX12_openSet_17 ⟨Nat.le_of_ble_eq_true rfl, Nat.le_of_ble_eq_true rfl⟩) (fun v17 u H locs hz9 hH hS => ?_)
        obtain ⟨rfl, l_v17, u_v17⟩ := hz9
        have hH : HT D cs A T O X H := hH
        refine W.widen (k := 0) (n := 0) (Nat.le_of_ble_eq_true rfl) (Nat.le_of_ble_eq_true rfl) ?_
        have J30 : ∀ (k30_0 : Int32) (H : Heap) (locs : List Loc) (ls : Array Slot), (0 ≤ k30_0.toInt) → (k30_0.toInt ≤ 8192) → HT D cs A T O X H → va_S A s.heap H locs → lv_has ls 3 [(2, .int p4_2), (0, .ref a0)] → W p l e { frames := 3, cells := 0, slots := 0, locals := 64 } s m [.ref a0].toArray below meth c H locs 0 0 (MQ below (Ti D cs (fun r u => u = (T, O, X) ∧ 0 ≤ r.toInt ∧ r.toInt ≤ 16383) A) [.ref a0].toArray s 0 0 A) (F0 m 30 ls [.int k30_0, .int p4_1]) := by
          intro k30_0 H locs ls l_k30_0 u_k30_0 hH hS hl
          refine lv_ior hx hb dX12_openSet_30 ?_
          refine lv_topi (fun v30 ev30 => ?_)
          have tv30 : 0 ≤ v30.toInt ∧ v30.toInt < 16384 := by rw [ev30]; exact or_b 14 (by decide) (by omega) (by omega) (by omega) (by omega)
          refine lv_istore_n (lv' := [(1, .int v30), (2, .int p4_2), (0, .ref a0)]) hx hb dX12_openSet_31 rfl hl (by decide) rfl (fun ls hl => ?_)
          obtain ⟨v32, ev32⟩ : ∃ y : Int32, y = p4_2 + 1 := ⟨_, rfl⟩
          have tv32 : v32.toInt = p4_2.toInt + (1) := by rw [ev32]; exact add_i rfl (by decide) (by omega) (by omega)
          refine lv_iinc (v := v32) (lv' := [(2, .int v32), (1, .int v30), (0, .ref a0)]) hx hb dX12_openSet_32 hl (k := 1) rfl (by rw [ev32]; rfl) (by decide) rfl (fun ls hl => ?_)
          refine lv_goto (tgt := 4) hx hb dX12_openSet_35 (by decide) ?_
          exact ih4 _ (by omega) v32 v30 _ _ _ rfl (by omega) (by omega) (by omega) (by omega) hH hS (lv_sub hl [0, 1, 2] rfl)
        refine lv_if_eq (tgt := 29) hx hb dX12_openSet_20 (by decide) (fun c20 => ?_) (fun c20 => ?_)
        · skip
          have tc20 := f_eq (k := 0) (by decide) c20
          refine lv_iconst (v := 0) hx hb dX12_openSet_29 (by decide) ?_
          exact J30 0 _ _ _ (by decide) (by decide) hH hS (lv_sub hl [0, 2] rfl)
        · skip
          have tc20 := f_ne (k := 0) (by decide) c20
          refine lv_iconst (v := 1) hx hb dX12_openSet_23 (by decide) ?_
          refine lv_iload_n hx hb dX12_openSet_24 rfl (lv_at hl 0 rfl) ?_
          refine lv_ishl hx hb dX12_openSet_25 ?_
          refine lv_topi (fun v25 ev25 => ?_)
          have tv25 : 1 ≤ v25.toInt ∧ v25.toInt ≤ 8192 := by rw [ev25]; exact shl_b 13 (by decide) (by omega) (by omega)
          refine lv_goto (tgt := 30) hx hb dX12_openSet_26 (by decide) ?_
          exact J30 v25 _ _ _ (by omega) (by omega) hH hS (lv_sub hl [0, 2] rfl)
  refine lv_istore_n (lv' := [(2, .int 0), (1, .int 0), (0, .ref a0)]) hx hb dX12_openSet_3 rfl hl (by decide) rfl (fun ls hl => ?_)
  exact J4 _ 0 0 _ _ _ rfl (by decide) (by decide) (by decide) (by decide) hH hS (lv_sub hl [0, 1, 2] rfl)
set_option maxHeartbeats 4000000 in
set_option maxRecDepth 100000 in
theorem s_M_thereSet (l : Launch) (D : va_G) (cs : CS) (kf : KF) (T : TF) (O : List Nat) (X : va_W) (a0 hg mq : Nat) (t_a0 : T a0 = some (22, hg, mq)) (b_hg : hg < 90) (hO : okO T O [8, 22]) : TK l D cs kf yX12_thereSet cX12_thereSet 3 (some (.int)) { frames := 2, cells := 0, slots := 0, locals := 43 } [.ref a0] T O X (Ti D cs (fun r u => u = (T, O, X) ∧ 0 ≤ r.toInt ∧ r.toInt ≤ 16383)) := by
  refine tk_of (by decide) (Nat.le_of_ble_eq_true rfl) (fun p e s m below meth c ls A H locs hx hb hr hml hown hts hlocks hnm hkb hH hS hA hOX hks hE hl => ?_)
  have hown : s.vm.findClass RX12 = some m.cls := hown
  have hl : lv_has ls 3 [(0, .ref a0)] := hl
  refine lv_iconst (v := 0) hx hb dX12_thereSet_0 (by decide) ?_
  refine lv_istore_n (lv' := [(1, .int 0), (0, .ref a0)]) hx hb dX12_thereSet_1 rfl hl (by decide) rfl (fun ls hl => ?_)
  refine lv_iconst (v := 0) hx hb dX12_thereSet_2 (by decide) ?_
  have J4 : ∀ (n : Nat) (p4_2 : Int32) (p4_1 : Int32) (H : Heap) (locs : List Loc) (ls : Array Slot), (14 - p4_2.toInt).toNat = n → (0 ≤ p4_2.toInt) → (p4_2.toInt ≤ 14) → (0 ≤ p4_1.toInt) → (p4_1.toInt ≤ 16383) → HT D cs A T O X H → va_S A s.heap H locs → lv_has ls 3 [(2, .int p4_2), (1, .int p4_1), (0, .ref a0)] → W p l e { frames := 2, cells := 0, slots := 0, locals := 43 } s m [.ref a0].toArray below meth c H locs 0 0 (MQ below (Ti D cs (fun r u => u = (T, O, X) ∧ 0 ≤ r.toInt ∧ r.toInt ≤ 16383) A) [.ref a0].toArray s 0 0 A) (F0 m 4 ls []) := by
    intro n
    induction n using Nat.strongRecOn with
    | _ n ih4 =>
      intro p4_2 p4_1 H locs ls hm4 l_p4_2 u_p4_2 l_p4_1 u_p4_1 hH hS hl
      refine lv_iload_n hx hb dX12_thereSet_4 rfl (lv_at hl 0 rfl) ?_
      refine lv_aload_n hx hb dX12_thereSet_5 rfl (lv_at hl 2 rfl) ?_
      refine t_get (ci := 12) (lst := ft12 hg mq) (C := RX12) (F := TX12) (N := 36) hx hb hts uX12 hown hkb hH t_a0 (hO.no t_a0 (by decide)) (fun _ h9 => h9) rfl rfl 1 (by decide) rfl kw_1224 (fun _ h9 => h9) dX12_thereSet_6 (fun v9 h9 => ?_)
      obtain ⟨v6, rfl, t_v6⟩ := h9
      refine lv_iconst (v := 1) hx hb dX12_thereSet_9 (by decide) ?_
      refine t_ild8 hx hb hkb hH t_v6 (hO.no t_v6 (by decide)) (by decide) (by decide) (by decide) dX12_thereSet_10 (fun v10 h9 h8 => ?_)
      have q9 := (h8 rfl).1 rfl
      subst q9
      have eH9 : (nI (hg / 6)).toInt = (((hg / 6) : Nat) : Int) := nI_toInt (by omega)
      refine lv_icmp_ge (tgt := 38) hx hb dX12_thereSet_11 (by decide) (fun c11 => ?_) (fun c11 => ?_)
      · skip
        have fuc11 := full_i p4_2
        have fvc11 := full_i (nI (hg / 6))
        have tc11 := g_le c11
        refine lv_iload_n hx hb dX12_thereSet_38 rfl (lv_at hl 1 rfl) ?_
        exact te_i hx hb hr hlocks hH hS (⟨rfl, by omega, by omega⟩) dX12_thereSet_39
      · skip
        have fuc11 := full_i p4_2
        have fvc11 := full_i (nI (hg / 6))
        have tc11 := g_nle c11
        refine lv_iload_n hx hb dX12_thereSet_14 rfl (lv_at hl 1 rfl) ?_
        refine lv_aload_n hx hb dX12_thereSet_15 rfl (lv_at hl 2 rfl) ?_
        refine lv_iload_n hx hb dX12_thereSet_16 rfl (lv_at hl 0 rfl) ?_
        refine tk_i hH hS hA (tr_V (n := 1) (As := [.int p4_2]) hx hb hml hown hts hkb hH hOX hks hE hS hA (s_M_isThere l D cs kf T O X a0 hg mq p4_2 t_a0 b_hg (by omega) (by omega) (hO.sub (by decide))) kw_1458 kw_1460 ks_65 kw_13 kw_1461 (by decide +kernel) ⟨Nat.le_of_ble_eq_true rfl, Nat.le_of_ble_eq_true rfl⟩ (HT.recv (ci := 12) hkb hH t_a0 (hO.no t_a0 (by decide)) rfl) rfl rfl hl.1 (Nat.le_of_ble_eq_true rfl) dX12_thereSet_17 ⟨Nat.le_of_ble_eq_true rfl, Nat.le_of_ble_eq_true rfl⟩) (fun v17 u H locs hz9 hH hS => ?_)
        obtain ⟨rfl, l_v17, u_v17⟩ := hz9
        have hH : HT D cs A T O X H := hH
        refine W.widen (k := 0) (n := 0) (Nat.le_of_ble_eq_true rfl) (Nat.le_of_ble_eq_true rfl) ?_
        have J30 : ∀ (k30_0 : Int32) (H : Heap) (locs : List Loc) (ls : Array Slot), (0 ≤ k30_0.toInt) → (k30_0.toInt ≤ 8192) → HT D cs A T O X H → va_S A s.heap H locs → lv_has ls 3 [(2, .int p4_2), (0, .ref a0)] → W p l e { frames := 2, cells := 0, slots := 0, locals := 43 } s m [.ref a0].toArray below meth c H locs 0 0 (MQ below (Ti D cs (fun r u => u = (T, O, X) ∧ 0 ≤ r.toInt ∧ r.toInt ≤ 16383) A) [.ref a0].toArray s 0 0 A) (F0 m 30 ls [.int k30_0, .int p4_1]) := by
          intro k30_0 H locs ls l_k30_0 u_k30_0 hH hS hl
          refine lv_ior hx hb dX12_thereSet_30 ?_
          refine lv_topi (fun v30 ev30 => ?_)
          have tv30 : 0 ≤ v30.toInt ∧ v30.toInt < 16384 := by rw [ev30]; exact or_b 14 (by decide) (by omega) (by omega) (by omega) (by omega)
          refine lv_istore_n (lv' := [(1, .int v30), (2, .int p4_2), (0, .ref a0)]) hx hb dX12_thereSet_31 rfl hl (by decide) rfl (fun ls hl => ?_)
          obtain ⟨v32, ev32⟩ : ∃ y : Int32, y = p4_2 + 1 := ⟨_, rfl⟩
          have tv32 : v32.toInt = p4_2.toInt + (1) := by rw [ev32]; exact add_i rfl (by decide) (by omega) (by omega)
          refine lv_iinc (v := v32) (lv' := [(2, .int v32), (1, .int v30), (0, .ref a0)]) hx hb dX12_thereSet_32 hl (k := 1) rfl (by rw [ev32]; rfl) (by decide) rfl (fun ls hl => ?_)
          refine lv_goto (tgt := 4) hx hb dX12_thereSet_35 (by decide) ?_
          exact ih4 _ (by omega) v32 v30 _ _ _ rfl (by omega) (by omega) (by omega) (by omega) hH hS (lv_sub hl [0, 1, 2] rfl)
        refine lv_if_eq (tgt := 29) hx hb dX12_thereSet_20 (by decide) (fun c20 => ?_) (fun c20 => ?_)
        · skip
          have tc20 := f_eq (k := 0) (by decide) c20
          refine lv_iconst (v := 0) hx hb dX12_thereSet_29 (by decide) ?_
          exact J30 0 _ _ _ (by decide) (by decide) hH hS (lv_sub hl [0, 2] rfl)
        · skip
          have tc20 := f_ne (k := 0) (by decide) c20
          refine lv_iconst (v := 1) hx hb dX12_thereSet_23 (by decide) ?_
          refine lv_iload_n hx hb dX12_thereSet_24 rfl (lv_at hl 0 rfl) ?_
          refine lv_ishl hx hb dX12_thereSet_25 ?_
          refine lv_topi (fun v25 ev25 => ?_)
          have tv25 : 1 ≤ v25.toInt ∧ v25.toInt ≤ 8192 := by rw [ev25]; exact shl_b 13 (by decide) (by omega) (by omega)
          refine lv_goto (tgt := 30) hx hb dX12_thereSet_26 (by decide) ?_
          exact J30 v25 _ _ _ (by omega) (by omega) hH hS (lv_sub hl [0, 2] rfl)
  refine lv_istore_n (lv' := [(2, .int 0), (1, .int 0), (0, .ref a0)]) hx hb dX12_thereSet_3 rfl hl (by decide) rfl (fun ls hl => ?_)
  exact J4 _ 0 0 _ _ _ rfl (by decide) (by decide) (by decide) (by decide) hH hS (lv_sub hl [0, 1, 2] rfl)
set_option maxHeartbeats 4000000 in
set_option maxRecDepth 100000 in
theorem s_M_ends (l : Launch) (D : va_G) (cs : CS) (kf : KF) (T : TF) (O : List Nat) (X : va_W) (a0 hg mq : Nat) (t_a0 : T a0 = some (22, hg, mq)) (b_hg : hg < 90) (hO : okO T O [8, 22]) : TK l D cs kf yX12_ends cX12_ends 1 (some (.int)) { frames := 0, cells := 0, slots := 0, locals := 0 } [.ref a0] T O X (Ti D cs (fun r u => u = (T, O, X) ∧ 0 ≤ r.toInt ∧ r.toInt ≤ 16383)) := by
  refine tk_of (by decide) (Nat.le_of_ble_eq_true rfl) (fun p e s m below meth c ls A H locs hx hb hr hml hown hts hlocks hnm hkb hH hS hA hOX hks hE hl => ?_)
  have hown : s.vm.findClass RX12 = some m.cls := hown
  have hl : lv_has ls 1 [(0, .ref a0)] := hl
  refine lv_aload_n hx hb dX12_ends_0 rfl (lv_at hl 0 rfl) ?_
  refine t_get (ci := 12) (lst := ft12 hg mq) (C := RX12) (F := TX12) (N := 36) hx hb hts uX12 hown hkb hH t_a0 (hO.no t_a0 (by decide)) (fun _ h9 => h9) rfl rfl 1 (by decide) rfl kw_1224 (fun _ h9 => h9) dX12_ends_1 (fun v9 h9 => ?_)
  obtain ⟨v1, rfl, t_v1⟩ := h9
  refine lv_iconst (v := 4) hx hb dX12_ends_4 (by decide) ?_
  refine t_ild8 hx hb hkb hH t_v1 (hO.no t_v1 (by decide)) (by decide) (by decide) (by decide) dX12_ends_5 (fun v5 h9 h8 => ?_)
  have tv5 : 0 ≤ v5.toInt ∧ v5.toInt ≤ 16383 := h9.2.2.1 (by decide)
  refine lv_aload_n hx hb dX12_ends_6 rfl (lv_at hl 0 rfl) ?_
  refine t_get (ci := 12) (lst := ft12 hg mq) (C := RX12) (F := TX12) (N := 36) hx hb hts uX12 hown hkb hH t_a0 (hO.no t_a0 (by decide)) (fun _ h9 => h9) rfl rfl 1 (by decide) rfl kw_1224 (fun _ h9 => h9) dX12_ends_7 (fun v9 h9 => ?_)
  obtain ⟨v7, rfl, t_v7⟩ := h9
  refine lv_iconst (v := 5) hx hb dX12_ends_10 (by decide) ?_
  refine t_ild8 hx hb hkb hH t_v7 (hO.no t_v7 (by decide)) (by decide) (by decide) (by decide) dX12_ends_11 (fun v11 h9 h8 => ?_)
  have tv11 : 0 ≤ v11.toInt ∧ v11.toInt ≤ 16383 := h9.2.2.2.1 (by decide)
  refine lv_ior hx hb dX12_ends_12 ?_
  refine lv_topi (fun v12 ev12 => ?_)
  have tv12 : 0 ≤ v12.toInt ∧ v12.toInt < 16384 := by rw [ev12]; exact or_b 14 (by decide) (by omega) (by omega) (by omega) (by omega)
  exact te_i hx hb hr hlocks hH hS (⟨rfl, by omega, by omega⟩) dX12_ends_13
set_option maxHeartbeats 4000000 in
set_option maxRecDepth 100000 in
theorem s_M_usedMany (l : Launch) (D : va_G) (cs : CS) (kf : KF) (T : TF) (O : List Nat) (X : va_W) (a0 hg mq : Nat) (t_a0 : T a0 = some (22, hg, mq)) (b_hg : hg < 90) (hO : okO T O [8, 22]) : TK l D cs kf yX12_usedMany cX12_usedMany 3 (some (.int)) { frames := 0, cells := 0, slots := 0, locals := 0 } [.ref a0] T O X (Ti D cs (fun r u => u = (T, O, X))) := by
  refine tk_of (by decide) (Nat.le_of_ble_eq_true rfl) (fun p e s m below meth c ls A H locs hx hb hr hml hown hts hlocks hnm hkb hH hS hA hOX hks hE hl => ?_)
  have hown : s.vm.findClass RX12 = some m.cls := hown
  have hl : lv_has ls 3 [(0, .ref a0)] := hl
  refine lv_iconst (v := 0) hx hb dX12_usedMany_0 (by decide) ?_
  refine lv_istore_n (lv' := [(1, .int 0), (0, .ref a0)]) hx hb dX12_usedMany_1 rfl hl (by decide) rfl (fun ls hl => ?_)
  refine lv_iconst (v := 0) hx hb dX12_usedMany_2 (by decide) ?_
  have J4 : ∀ (n : Nat) (p4_2 : Int32) (p4_1 : Int32) (H : Heap) (locs : List Loc) (ls : Array Slot), (14 - p4_2.toInt).toNat = n → (0 ≤ p4_2.toInt) → (p4_2.toInt ≤ 14) → HT D cs A T O X H → va_S A s.heap H locs → lv_has ls 3 [(2, .int p4_2), (1, .int p4_1), (0, .ref a0)] → W p l e { frames := 0, cells := 0, slots := 0, locals := 0 } s m [.ref a0].toArray below meth c H locs 0 0 (MQ below (Ti D cs (fun r u => u = (T, O, X)) A) [.ref a0].toArray s 0 0 A) (F0 m 4 ls []) := by
    intro n
    induction n using Nat.strongRecOn with
    | _ n ih4 =>
      intro p4_2 p4_1 H locs ls hm4 l_p4_2 u_p4_2 hH hS hl
      refine lv_iload_n hx hb dX12_usedMany_4 rfl (lv_at hl 0 rfl) ?_
      refine lv_aload_n hx hb dX12_usedMany_5 rfl (lv_at hl 2 rfl) ?_
      refine t_get (ci := 12) (lst := ft12 hg mq) (C := RX12) (F := TX12) (N := 36) hx hb hts uX12 hown hkb hH t_a0 (hO.no t_a0 (by decide)) (fun _ h9 => h9) rfl rfl 1 (by decide) rfl kw_1224 (fun _ h9 => h9) dX12_usedMany_6 (fun v9 h9 => ?_)
      obtain ⟨v6, rfl, t_v6⟩ := h9
      refine lv_iconst (v := 1) hx hb dX12_usedMany_9 (by decide) ?_
      refine t_ild8 hx hb hkb hH t_v6 (hO.no t_v6 (by decide)) (by decide) (by decide) (by decide) dX12_usedMany_10 (fun v10 h9 h8 => ?_)
      have q9 := (h8 rfl).1 rfl
      subst q9
      have eH9 : (nI (hg / 6)).toInt = (((hg / 6) : Nat) : Int) := nI_toInt (by omega)
      refine lv_icmp_ge (tgt := 41) hx hb dX12_usedMany_11 (by decide) (fun c11 => ?_) (fun c11 => ?_)
      · skip
        have fuc11 := full_i p4_2
        have fvc11 := full_i (nI (hg / 6))
        have tc11 := g_le c11
        refine lv_iload_n hx hb dX12_usedMany_41 rfl (lv_at hl 1 rfl) ?_
        exact te_i hx hb hr hlocks hH hS (rfl) dX12_usedMany_42
      · skip
        have fuc11 := full_i p4_2
        have fvc11 := full_i (nI (hg / 6))
        have tc11 := g_nle c11
        refine lv_iload_n hx hb dX12_usedMany_14 rfl (lv_at hl 1 rfl) ?_
        refine lv_aload_n hx hb dX12_usedMany_15 rfl (lv_at hl 2 rfl) ?_
        refine t_get (ci := 12) (lst := ft12 hg mq) (C := RX12) (F := TX12) (N := 36) hx hb hts uX12 hown hkb hH t_a0 (hO.no t_a0 (by decide)) (fun _ h9 => h9) rfl rfl 1 (by decide) rfl kw_1224 (fun _ h9 => h9) dX12_usedMany_16 (fun v9 h9 => ?_)
        obtain ⟨v16, rfl, t_v16⟩ := h9
        refine lv_bipush (v := 59) hx hb dX12_usedMany_19 (by decide) ?_
        refine lv_iload_n hx hb dX12_usedMany_21 rfl (lv_at hl 0 rfl) ?_
        refine lv_iadd hx hb dX12_usedMany_22 ?_
        refine lv_topi (fun v22 ev22 => ?_)
        have tv22 : v22.toInt = (59) + p4_2.toInt := by rw [ev22]; exact add_i (by decide : (59 : Int32).toInt = 59) rfl (by omega) (by omega)
        refine t_ild8 hx hb hkb hH t_v16 (hO.no t_v16 (by decide)) (by decide) (by omega) (by omega) dX12_usedMany_23 (fun v23 h9 h8 => ?_)
        refine lv_iconst (v := (-1)) hx hb dX12_usedMany_24 (by decide) ?_
        have J33 : ∀ (k33_0 : Int32) (H : Heap) (locs : List Loc) (ls : Array Slot), (0 ≤ k33_0.toInt) → (k33_0.toInt ≤ 1) → HT D cs A T O X H → va_S A s.heap H locs → lv_has ls 3 [(2, .int p4_2), (0, .ref a0)] → W p l e { frames := 0, cells := 0, slots := 0, locals := 0 } s m [.ref a0].toArray below meth c H locs 0 0 (MQ below (Ti D cs (fun r u => u = (T, O, X)) A) [.ref a0].toArray s 0 0 A) (F0 m 33 ls [.int k33_0, .int p4_1]) := by
          intro k33_0 H locs ls l_k33_0 u_k33_0 hH hS hl
          refine lv_iadd hx hb dX12_usedMany_33 ?_
          refine lv_topi (fun v33 ev33 => ?_)
          refine lv_istore_n (lv' := [(1, .int v33), (2, .int p4_2), (0, .ref a0)]) hx hb dX12_usedMany_34 rfl hl (by decide) rfl (fun ls hl => ?_)
          obtain ⟨v35, ev35⟩ : ∃ y : Int32, y = p4_2 + 1 := ⟨_, rfl⟩
          have tv35 : v35.toInt = p4_2.toInt + (1) := by rw [ev35]; exact add_i rfl (by decide) (by omega) (by omega)
          refine lv_iinc (v := v35) (lv' := [(2, .int v35), (1, .int v33), (0, .ref a0)]) hx hb dX12_usedMany_35 hl (k := 1) rfl (by rw [ev35]; rfl) (by decide) rfl (fun ls hl => ?_)
          refine lv_goto (tgt := 4) hx hb dX12_usedMany_38 (by decide) ?_
          exact ih4 _ (by omega) v35 v33 _ _ _ rfl (by omega) (by omega) hH hS (lv_sub hl [0, 1, 2] rfl)
        refine lv_icmp_ne (tgt := 32) hx hb dX12_usedMany_25 (by decide) (fun c25 => ?_) (fun c25 => ?_)
        · skip
          have tc25 := f_ne (k := -1) (by decide) c25
          refine lv_iconst (v := 1) hx hb dX12_usedMany_32 (by decide) ?_
          exact J33 1 _ _ _ (by decide) (by decide) hH hS (lv_sub hl [0, 2] rfl)
        · skip
          have tc25 := f_eq (k := -1) (by decide) c25
          refine lv_iconst (v := 0) hx hb dX12_usedMany_28 (by decide) ?_
          refine lv_goto (tgt := 33) hx hb dX12_usedMany_29 (by decide) ?_
          exact J33 0 _ _ _ (by decide) (by decide) hH hS (lv_sub hl [0, 2] rfl)
  refine lv_istore_n (lv' := [(2, .int 0), (1, .int 0), (0, .ref a0)]) hx hb dX12_usedMany_3 rfl hl (by decide) rfl (fun ls hl => ?_)
  exact J4 _ 0 0 _ _ _ rfl (by decide) (by decide) hH hS (lv_sub hl [0, 1, 2] rfl)
set_option maxHeartbeats 4000000 in
set_option maxRecDepth 100000 in
theorem s_M_usedBy (l : Launch) (D : va_G) (cs : CS) (kf : KF) (T : TF) (O : List Nat) (X : va_W) (a0 hg mq : Nat) (x1 : Int32) (t_a0 : T a0 = some (22, hg, mq)) (b_hg : hg < 90) (hO : okO T O [8, 22]) : TK l D cs kf yX12_usedBy cX12_usedBy 4 (some (.int)) { frames := 0, cells := 0, slots := 0, locals := 0 } [.ref a0, .int x1] T O X (Ti D cs (fun r u => u = (T, O, X) ∧ 0 ≤ r.toInt ∧ r.toInt ≤ 16383)) := by
  refine tk_of (by decide) (Nat.le_of_ble_eq_true rfl) (fun p e s m below meth c ls A H locs hx hb hr hml hown hts hlocks hnm hkb hH hS hA hOX hks hE hl => ?_)
  have hown : s.vm.findClass RX12 = some m.cls := hown
  have hl : lv_has ls 4 [(0, .ref a0), (1, .int x1)] := hl
  refine lv_iconst (v := 0) hx hb dX12_usedBy_0 (by decide) ?_
  refine lv_istore_n (lv' := [(2, .int 0), (0, .ref a0), (1, .int x1)]) hx hb dX12_usedBy_1 rfl hl (by decide) rfl (fun ls hl => ?_)
  refine lv_iconst (v := 0) hx hb dX12_usedBy_2 (by decide) ?_
  have J4 : ∀ (n : Nat) (p4_3 : Int32) (p4_2 : Int32) (H : Heap) (locs : List Loc) (ls : Array Slot), (14 - p4_3.toInt).toNat = n → (0 ≤ p4_3.toInt) → (p4_3.toInt ≤ 14) → (0 ≤ p4_2.toInt) → (p4_2.toInt ≤ 16383) → HT D cs A T O X H → va_S A s.heap H locs → lv_has ls 4 [(3, .int p4_3), (2, .int p4_2), (0, .ref a0), (1, .int x1)] → W p l e { frames := 0, cells := 0, slots := 0, locals := 0 } s m [.ref a0, .int x1].toArray below meth c H locs 0 0 (MQ below (Ti D cs (fun r u => u = (T, O, X) ∧ 0 ≤ r.toInt ∧ r.toInt ≤ 16383) A) [.ref a0, .int x1].toArray s 0 0 A) (F0 m 4 ls []) := by
    intro n
    induction n using Nat.strongRecOn with
    | _ n ih4 =>
      intro p4_3 p4_2 H locs ls hm4 l_p4_3 u_p4_3 l_p4_2 u_p4_2 hH hS hl
      refine lv_iload_n hx hb dX12_usedBy_4 rfl (lv_at hl 0 rfl) ?_
      refine lv_aload_n hx hb dX12_usedBy_5 rfl (lv_at hl 2 rfl) ?_
      refine t_get (ci := 12) (lst := ft12 hg mq) (C := RX12) (F := TX12) (N := 36) hx hb hts uX12 hown hkb hH t_a0 (hO.no t_a0 (by decide)) (fun _ h9 => h9) rfl rfl 1 (by decide) rfl kw_1224 (fun _ h9 => h9) dX12_usedBy_6 (fun v9 h9 => ?_)
      obtain ⟨v6, rfl, t_v6⟩ := h9
      refine lv_iconst (v := 1) hx hb dX12_usedBy_9 (by decide) ?_
      refine t_ild8 hx hb hkb hH t_v6 (hO.no t_v6 (by decide)) (by decide) (by decide) (by decide) dX12_usedBy_10 (fun v10 h9 h8 => ?_)
      have q9 := (h8 rfl).1 rfl
      subst q9
      have eH9 : (nI (hg / 6)).toInt = (((hg / 6) : Nat) : Int) := nI_toInt (by omega)
      refine lv_icmp_ge (tgt := 43) hx hb dX12_usedBy_11 (by decide) (fun c11 => ?_) (fun c11 => ?_)
      · skip
        have fuc11 := full_i p4_3
        have fvc11 := full_i (nI (hg / 6))
        have tc11 := g_le c11
        refine lv_iload_n hx hb dX12_usedBy_43 rfl (lv_at hl 1 rfl) ?_
        exact te_i hx hb hr hlocks hH hS (⟨rfl, by omega, by omega⟩) dX12_usedBy_44
      · skip
        have fuc11 := full_i p4_3
        have fvc11 := full_i (nI (hg / 6))
        have tc11 := g_nle c11
        refine lv_iload_n hx hb dX12_usedBy_14 rfl (lv_at hl 1 rfl) ?_
        refine lv_aload_n hx hb dX12_usedBy_15 rfl (lv_at hl 2 rfl) ?_
        refine t_get (ci := 12) (lst := ft12 hg mq) (C := RX12) (F := TX12) (N := 36) hx hb hts uX12 hown hkb hH t_a0 (hO.no t_a0 (by decide)) (fun _ h9 => h9) rfl rfl 1 (by decide) rfl kw_1224 (fun _ h9 => h9) dX12_usedBy_16 (fun v9 h9 => ?_)
        obtain ⟨v16, rfl, t_v16⟩ := h9
        refine lv_bipush (v := 59) hx hb dX12_usedBy_19 (by decide) ?_
        refine lv_iload_n hx hb dX12_usedBy_21 rfl (lv_at hl 0 rfl) ?_
        refine lv_iadd hx hb dX12_usedBy_22 ?_
        refine lv_topi (fun v22 ev22 => ?_)
        have tv22 : v22.toInt = (59) + p4_3.toInt := by rw [ev22]; exact add_i (by decide : (59 : Int32).toInt = 59) rfl (by omega) (by omega)
        refine t_ild8 hx hb hkb hH t_v16 (hO.no t_v16 (by decide)) (by decide) (by omega) (by omega) dX12_usedBy_23 (fun v23 h9 h8 => ?_)
        refine lv_iload_n hx hb dX12_usedBy_24 rfl (lv_at hl 3 rfl) ?_
        have J35 : ∀ (k35_0 : Int32) (H : Heap) (locs : List Loc) (ls : Array Slot), (0 ≤ k35_0.toInt) → (k35_0.toInt ≤ 8192) → HT D cs A T O X H → va_S A s.heap H locs → lv_has ls 4 [(3, .int p4_3), (0, .ref a0), (1, .int x1)] → W p l e { frames := 0, cells := 0, slots := 0, locals := 0 } s m [.ref a0, .int x1].toArray below meth c H locs 0 0 (MQ below (Ti D cs (fun r u => u = (T, O, X) ∧ 0 ≤ r.toInt ∧ r.toInt ≤ 16383) A) [.ref a0, .int x1].toArray s 0 0 A) (F0 m 35 ls [.int k35_0, .int p4_2]) := by
          intro k35_0 H locs ls l_k35_0 u_k35_0 hH hS hl
          refine lv_ior hx hb dX12_usedBy_35 ?_
          refine lv_topi (fun v35 ev35 => ?_)
          have tv35 : 0 ≤ v35.toInt ∧ v35.toInt < 16384 := by rw [ev35]; exact or_b 14 (by decide) (by omega) (by omega) (by omega) (by omega)
          refine lv_istore_n (lv' := [(2, .int v35), (3, .int p4_3), (0, .ref a0), (1, .int x1)]) hx hb dX12_usedBy_36 rfl hl (by decide) rfl (fun ls hl => ?_)
          obtain ⟨v37, ev37⟩ : ∃ y : Int32, y = p4_3 + 1 := ⟨_, rfl⟩
          have tv37 : v37.toInt = p4_3.toInt + (1) := by rw [ev37]; exact add_i rfl (by decide) (by omega) (by omega)
          refine lv_iinc (v := v37) (lv' := [(3, .int v37), (2, .int v35), (0, .ref a0), (1, .int x1)]) hx hb dX12_usedBy_37 hl (k := 1) rfl (by rw [ev37]; rfl) (by decide) rfl (fun ls hl => ?_)
          refine lv_goto (tgt := 4) hx hb dX12_usedBy_40 (by decide) ?_
          exact ih4 _ (by omega) v37 v35 _ _ _ rfl (by omega) (by omega) (by omega) (by omega) hH hS (lv_sub hl [0, 1, 2, 3] rfl)
        refine lv_icmp_ne (tgt := 34) hx hb dX12_usedBy_25 (by decide) (fun c25 => ?_) (fun c25 => ?_)
        · skip
          have fuc25 := full_i v23
          have fvc25 := full_i x1
          have tc25 := g_ne c25
          refine lv_iconst (v := 0) hx hb dX12_usedBy_34 (by decide) ?_
          exact J35 0 _ _ _ (by decide) (by decide) hH hS (lv_sub hl [0, 2, 3] rfl)
        · skip
          have fuc25 := full_i v23
          have fvc25 := full_i x1
          have tc25 := g_eq c25
          refine lv_iconst (v := 1) hx hb dX12_usedBy_28 (by decide) ?_
          refine lv_iload_n hx hb dX12_usedBy_29 rfl (lv_at hl 0 rfl) ?_
          refine lv_ishl hx hb dX12_usedBy_30 ?_
          refine lv_topi (fun v30 ev30 => ?_)
          have tv30 : 1 ≤ v30.toInt ∧ v30.toInt ≤ 8192 := by rw [ev30]; exact shl_b 13 (by decide) (by omega) (by omega)
          refine lv_goto (tgt := 35) hx hb dX12_usedBy_31 (by decide) ?_
          exact J35 v30 _ _ _ (by omega) (by omega) hH hS (lv_sub hl [0, 2, 3] rfl)
  refine lv_istore_n (lv' := [(3, .int 0), (2, .int 0), (0, .ref a0), (1, .int x1)]) hx hb dX12_usedBy_3 rfl hl (by decide) rfl (fun ls hl => ?_)
  exact J4 _ 0 0 _ _ _ rfl (by decide) (by decide) (by decide) (by decide) hH hS (lv_sub hl [0, 1, 2, 3] rfl)
set_option maxHeartbeats 4000000 in
set_option maxRecDepth 100000 in
theorem s_M_fault (l : Launch) (D : va_G) (cs : CS) (kf : KF) (T : TF) (O : List Nat) (X : va_W) (a0 hg mq : Nat) (x1 : Int32) (t_a0 : T a0 = some (22, hg, mq)) (b_hg : hg < 90) (hO : okO T O [22]) : TK l D cs kf yX12_fault cX12_fault 2 (some (.int)) { frames := 0, cells := 0, slots := 0, locals := 0 } [.ref a0, .int x1] T O X (Ti D cs (fun r u => u = (T, O, X))) := by
  refine tk_of (by decide) (Nat.le_of_ble_eq_true rfl) (fun p e s m below meth c ls A H locs hx hb hr hml hown hts hlocks hnm hkb hH hS hA hOX hks hE hl => ?_)
  have hown : s.vm.findClass RX12 = some m.cls := hown
  have hl : lv_has ls 2 [(0, .ref a0), (1, .int x1)] := hl
  refine lv_aload_n hx hb dX12_fault_0 rfl (lv_at hl 0 rfl) ?_
  refine lv_iconst (v := 0) hx hb dX12_fault_1 (by decide) ?_
  refine t_put (ci := 12) (lst := ft12 hg mq) (v := .int 0) (ty := tyX12 0) (C := RX12) (F := TX12) (N := 36) hx hb hts uX12 tyX12 tyX12_ok nmX12 hown hkb hH hS t_a0 (hO.no t_a0 (by decide)) (fun _ => Iff.rfl) rfl rfl 0 (by decide) rfl (⟨_, rfl⟩) kw_1223 (fun _ h9 => h9) rfl (tyX12_ok 0 (by decide)) rfl rfl dX12_fault_2 (fun H locs hH hS => ?_)
  refine lv_iload_n hx hb dX12_fault_5 rfl (lv_at hl 1 rfl) ?_
  have J29 : ∀ (k29_0 : Int32) (H : Heap) (locs : List Loc) (ls : Array Slot), HT D cs A T O X H → va_S A s.heap H locs → lv_has ls 2 [] → W p l e { frames := 0, cells := 0, slots := 0, locals := 0 } s m [.ref a0, .int x1].toArray below meth c H locs 0 0 (MQ below (Ti D cs (fun r u => u = (T, O, X)) A) [.ref a0, .int x1].toArray s 0 0 A) (F0 m 29 ls [.int k29_0]) := by
    intro k29_0 H locs ls  hH hS hl
    exact te_i hx hb hr hlocks hH hS (rfl) dX12_fault_29
  refine lv_if_ne (tgt := 16) hx hb dX12_fault_6 (by decide) (fun c6 => ?_) (fun c6 => ?_)
  · skip
    have tc6 := f_ne (k := 0) (by decide) c6
    refine lv_iload_n hx hb dX12_fault_16 rfl (lv_at hl 1 rfl) ?_
    refine lv_iconst (v := 1) hx hb dX12_fault_17 (by decide) ?_
    refine lv_icmp_ne (tgt := 28) hx hb dX12_fault_18 (by decide) (fun c18 => ?_) (fun c18 => ?_)
    · skip
      have tc18 := f_ne (k := 1) (by decide) c18
      refine lv_iconst (v := (-1)) hx hb dX12_fault_28 (by decide) ?_
      exact J29 (-1) _ _ _  hH hS (lv_sub hl [] rfl)
    · skip
      have tc18 := f_eq (k := 1) (by decide) c18
      refine lv_aload_n hx hb dX12_fault_21 rfl (lv_at hl 0 rfl) ?_
      refine t_get (ci := 12) (lst := ft12 hg mq) (C := RX12) (F := TX12) (N := 36) hx hb hts uX12 hown hkb hH t_a0 (hO.no t_a0 (by decide)) (fun _ h9 => h9) rfl rfl 14 (by decide) rfl kw_1237 (fun _ h9 => h9) dX12_fault_22 (fun v9 h9 => ?_)
      obtain ⟨v22, rfl⟩ := h9
      refine lv_goto (tgt := 29) hx hb dX12_fault_25 (by decide) ?_
      exact J29 v22 _ _ _  hH hS (lv_sub hl [] rfl)
  · skip
    have tc6 := f_eq (k := 0) (by decide) c6
    refine lv_aload_n hx hb dX12_fault_9 rfl (lv_at hl 0 rfl) ?_
    refine t_get (ci := 12) (lst := ft12 hg mq) (C := RX12) (F := TX12) (N := 36) hx hb hts uX12 hown hkb hH t_a0 (hO.no t_a0 (by decide)) (fun _ h9 => h9) rfl rfl 13 (by decide) rfl kw_1236 (fun _ h9 => h9) dX12_fault_10 (fun v9 h9 => ?_)
    obtain ⟨v10, rfl⟩ := h9
    refine lv_goto (tgt := 29) hx hb dX12_fault_13 (by decide) ?_
    exact J29 v10 _ _ _  hH hS (lv_sub hl [] rfl)
set_option maxHeartbeats 4000000 in
set_option maxRecDepth 100000 in
theorem s_M_hold (l : Launch) (D : va_G) (cs : CS) (kf : KF) (T : TF) (O : List Nat) (X : va_W) (a0 hg mq : Nat) (x1 : Int32) (x2 : Int32) (t_a0 : T a0 = some (22, hg, mq)) (b_hg : hg < 90) (hO : okO T O [8, 22]) : TK l D cs kf yX12_hold cX12_hold 3 (some (.int)) { frames := 3, cells := 0, slots := 0, locals := 64 } [.ref a0, .int x1, .int x2] T O X (Ti D cs (fun r u => u = (T, O, X))) := by
  refine tk_of (by decide) (Nat.le_of_ble_eq_true rfl) (fun p e s m below meth c ls A H locs hx hb hr hml hown hts hlocks hnm hkb hH hS hA hOX hks hE hl => ?_)
  have hown : s.vm.findClass RX12 = some m.cls := hown
  have hl : lv_has ls 3 [(0, .ref a0), (1, .int x1), (2, .int x2)] := hl
  refine lv_aload_n hx hb dX12_hold_0 rfl (lv_at hl 0 rfl) ?_
  refine lv_iconst (v := 0) hx hb dX12_hold_1 (by decide) ?_
  refine t_put (ci := 12) (lst := ft12 hg mq) (v := .int 0) (ty := tyX12 0) (C := RX12) (F := TX12) (N := 36) hx hb hts uX12 tyX12 tyX12_ok nmX12 hown hkb hH hS t_a0 (hO.no t_a0 (by decide)) (fun _ => Iff.rfl) rfl rfl 0 (by decide) rfl (⟨_, rfl⟩) kw_1223 (fun _ h9 => h9) rfl (tyX12_ok 0 (by decide)) rfl rfl dX12_hold_2 (fun H locs hH hS => ?_)
  refine lv_aload_n hx hb dX12_hold_5 rfl (lv_at hl 0 rfl) ?_
  refine lv_iload_n hx hb dX12_hold_6 rfl (lv_at hl 1 rfl) ?_
  refine lv_i2l hx hb dX12_hold_7 rfl ?_
  refine tk_i hH hS hA (tr_V (n := 1) (As := [.long x1.toInt64]) hx hb hml hown hts hkb hH hOX hks hE hS hA (s_M_isHold l D cs kf T O X a0 hg mq x1.toInt64 t_a0 b_hg (hO.sub (by decide))) kw_1454 kw_1456 ks_64 kw_13 kw_1457 (by decide +kernel) ⟨Nat.le_of_ble_eq_true rfl, Nat.le_of_ble_eq_true rfl⟩ (HT.recv (ci := 12) hkb hH t_a0 (hO.no t_a0 (by decide)) rfl) rfl rfl hl.1 (Nat.le_of_ble_eq_true rfl) dX12_hold_8 ⟨Nat.le_of_ble_eq_true rfl, Nat.le_of_ble_eq_true rfl⟩) (fun v8 u H locs hz9 hH hS => ?_)
  obtain ⟨rfl, l_v8, u_v8, x_v80⟩ := hz9
  simp only [Int32.toInt_toInt64] at x_v80
  have hH : HT D cs A T O X H := hH
  refine W.widen (k := 0) (n := 0) (Nat.le_of_ble_eq_true rfl) (Nat.le_of_ble_eq_true rfl) ?_
  refine lv_if_ne (tgt := 17) hx hb dX12_hold_11 (by decide) (fun c11 => ?_) (fun c11 => ?_)
  · skip
    have tc11 := f_ne (k := 0) (by decide) c11
    replace x_v80 := x_v80.resolve_left tc11
    refine lv_iload_n hx hb dX12_hold_17 rfl (lv_at hl 2 rfl) ?_
    by_cases c18_0 : x2 = 0
    · skip
      refine lv_topc c18_0 ?_
      have tc18_0 := f_eq (k := 0) (by decide) c18_0
      refine lv_tableIn (off := 54) (tgt := 72) hx hb dX12_hold_18 (by decide) (by decide) (by decide) (by decide) ?_
      refine lv_aload_n hx hb dX12_hold_72 rfl (lv_at hl 0 rfl) ?_
      refine t_get (ci := 12) (lst := ft12 hg mq) (C := RX12) (F := TX12) (N := 36) hx hb hts uX12 hown hkb hH t_a0 (hO.no t_a0 (by decide)) (fun _ h9 => h9) rfl rfl 1 (by decide) rfl kw_1224 (fun _ h9 => h9) dX12_hold_73 (fun v9 h9 => ?_)
      obtain ⟨v73, rfl, t_v73⟩ := h9
      refine lv_bipush (v := 7) hx hb dX12_hold_76 (by decide) ?_
      refine lv_iload_n hx hb dX12_hold_78 rfl (lv_at hl 1 rfl) ?_
      refine lv_iadd hx hb dX12_hold_79 ?_
      refine lv_topi (fun v79 ev79 => ?_)
      have tv79 : v79.toInt = (7) + x1.toInt := by rw [ev79]; exact add_i (by decide : (7 : Int32).toInt = 7) rfl (by omega) (by omega)
      refine t_ild8 hx hb hkb hH t_v73 (hO.no t_v73 (by decide)) (by decide) (by omega) (by omega) dX12_hold_80 (fun v80 h9 h8 => ?_)
      exact te_i hx hb hr hlocks hH hS (rfl) dX12_hold_81
    have tc18_0 := f_ne (k := 0) (by decide) c18_0
    by_cases c18_1 : x2 = 1
    · skip
      refine lv_topc c18_1 ?_
      have tc18_1 := f_eq (k := 1) (by decide) c18_1
      refine lv_tableIn (off := 64) (tgt := 82) hx hb dX12_hold_18 (by decide) (by decide) (by decide) (by decide) ?_
      refine lv_aload_n hx hb dX12_hold_82 rfl (lv_at hl 0 rfl) ?_
      refine t_get (ci := 12) (lst := ft12 hg mq) (C := RX12) (F := TX12) (N := 36) hx hb hts uX12 hown hkb hH t_a0 (hO.no t_a0 (by decide)) (fun _ h9 => h9) rfl rfl 1 (by decide) rfl kw_1224 (fun _ h9 => h9) dX12_hold_83 (fun v9 h9 => ?_)
      obtain ⟨v83, rfl, t_v83⟩ := h9
      refine lv_bipush (v := 21) hx hb dX12_hold_86 (by decide) ?_
      refine lv_iload_n hx hb dX12_hold_88 rfl (lv_at hl 1 rfl) ?_
      refine lv_iadd hx hb dX12_hold_89 ?_
      refine lv_topi (fun v89 ev89 => ?_)
      have tv89 : v89.toInt = (21) + x1.toInt := by rw [ev89]; exact add_i (by decide : (21 : Int32).toInt = 21) rfl (by omega) (by omega)
      refine t_ild8 hx hb hkb hH t_v83 (hO.no t_v83 (by decide)) (by decide) (by omega) (by omega) dX12_hold_90 (fun v90 h9 h8 => ?_)
      exact te_i hx hb hr hlocks hH hS (rfl) dX12_hold_91
    have tc18_1 := f_ne (k := 1) (by decide) c18_1
    by_cases c18_2 : x2 = 2
    · skip
      refine lv_topc c18_2 ?_
      have tc18_2 := f_eq (k := 2) (by decide) c18_2
      refine lv_tableIn (off := 74) (tgt := 92) hx hb dX12_hold_18 (by decide) (by decide) (by decide) (by decide) ?_
      refine lv_aload_n hx hb dX12_hold_92 rfl (lv_at hl 0 rfl) ?_
      refine t_get (ci := 12) (lst := ft12 hg mq) (C := RX12) (F := TX12) (N := 36) hx hb hts uX12 hown hkb hH t_a0 (hO.no t_a0 (by decide)) (fun _ h9 => h9) rfl rfl 1 (by decide) rfl kw_1224 (fun _ h9 => h9) dX12_hold_93 (fun v9 h9 => ?_)
      obtain ⟨v93, rfl, t_v93⟩ := h9
      refine lv_iconst (v := 4) hx hb dX12_hold_96 (by decide) ?_
      refine t_ild8 hx hb hkb hH t_v93 (hO.no t_v93 (by decide)) (by decide) (by decide) (by decide) dX12_hold_97 (fun v97 h9 h8 => ?_)
      have tv97 : 0 ≤ v97.toInt ∧ v97.toInt ≤ 16383 := h9.2.2.1 (by decide)
      refine lv_i2l hx hb dX12_hold_98 rfl ?_
      refine lv_iload_n hx hb dX12_hold_99 rfl (lv_at hl 1 rfl) ?_
      refine tk_i hH hS hA (tr_S (n := 2) (As := [.long v97.toInt64, .int x1]) hx hb hml hown hts hkb hH hOX hks hE hS hA (s_M_isIn l D cs kf T O X v97.toInt64 x1  (hO.sub (by decide))) kw_1440 kw_1441 kw_13 kw_1442 (by decide +kernel) ⟨Nat.le_of_ble_eq_true rfl, Nat.le_of_ble_eq_true rfl⟩ rfl rfl hl.1 (Nat.le_of_ble_eq_true rfl) dX12_hold_100 ⟨Nat.le_of_ble_eq_true rfl, Nat.le_of_ble_eq_true rfl⟩) (fun v100 u H locs hz9 hH hS => ?_)
      obtain ⟨rfl, l_v100, u_v100⟩ := hz9
      have hH : HT D cs A T O X H := hH
      refine W.widen (k := 0) (n := 0) (Nat.le_of_ble_eq_true rfl) (Nat.le_of_ble_eq_true rfl) ?_
      have J111 : ∀ (k111_0 : Int32) (H : Heap) (locs : List Loc) (ls : Array Slot), (0 ≤ k111_0.toInt) → (k111_0.toInt ≤ 1) → HT D cs A T O X H → va_S A s.heap H locs → lv_has ls 3 [] → W p l e { frames := 3, cells := 0, slots := 0, locals := 64 } s m [.ref a0, .int x1, .int x2].toArray below meth c H locs 0 0 (MQ below (Ti D cs (fun r u => u = (T, O, X)) A) [.ref a0, .int x1, .int x2].toArray s 0 0 A) (F0 m 111 ls [.int k111_0]) := by
        intro k111_0 H locs ls l_k111_0 u_k111_0 hH hS hl
        exact te_i hx hb hr hlocks hH hS (rfl) dX12_hold_111
      refine lv_if_eq (tgt := 110) hx hb dX12_hold_103 (by decide) (fun c103 => ?_) (fun c103 => ?_)
      · skip
        have tc103 := f_eq (k := 0) (by decide) c103
        refine lv_iconst (v := 0) hx hb dX12_hold_110 (by decide) ?_
        exact J111 0 _ _ _ (by decide) (by decide) hH hS (lv_sub hl [] rfl)
      · skip
        have tc103 := f_ne (k := 0) (by decide) c103
        refine lv_iconst (v := 1) hx hb dX12_hold_106 (by decide) ?_
        refine lv_goto (tgt := 111) hx hb dX12_hold_107 (by decide) ?_
        exact J111 1 _ _ _ (by decide) (by decide) hH hS (lv_sub hl [] rfl)
    have tc18_2 := f_ne (k := 2) (by decide) c18_2
    by_cases c18_3 : x2 = 3
    · skip
      refine lv_topc c18_3 ?_
      have tc18_3 := f_eq (k := 3) (by decide) c18_3
      refine lv_tableIn (off := 94) (tgt := 112) hx hb dX12_hold_18 (by decide) (by decide) (by decide) (by decide) ?_
      refine lv_aload_n hx hb dX12_hold_112 rfl (lv_at hl 0 rfl) ?_
      refine t_get (ci := 12) (lst := ft12 hg mq) (C := RX12) (F := TX12) (N := 36) hx hb hts uX12 hown hkb hH t_a0 (hO.no t_a0 (by decide)) (fun _ h9 => h9) rfl rfl 1 (by decide) rfl kw_1224 (fun _ h9 => h9) dX12_hold_113 (fun v9 h9 => ?_)
      obtain ⟨v113, rfl, t_v113⟩ := h9
      refine lv_iconst (v := 5) hx hb dX12_hold_116 (by decide) ?_
      refine t_ild8 hx hb hkb hH t_v113 (hO.no t_v113 (by decide)) (by decide) (by decide) (by decide) dX12_hold_117 (fun v117 h9 h8 => ?_)
      have tv117 : 0 ≤ v117.toInt ∧ v117.toInt ≤ 16383 := h9.2.2.2.1 (by decide)
      refine lv_i2l hx hb dX12_hold_118 rfl ?_
      refine lv_iload_n hx hb dX12_hold_119 rfl (lv_at hl 1 rfl) ?_
      refine tk_i hH hS hA (tr_S (n := 2) (As := [.long v117.toInt64, .int x1]) hx hb hml hown hts hkb hH hOX hks hE hS hA (s_M_isIn l D cs kf T O X v117.toInt64 x1  (hO.sub (by decide))) kw_1440 kw_1441 kw_13 kw_1442 (by decide +kernel) ⟨Nat.le_of_ble_eq_true rfl, Nat.le_of_ble_eq_true rfl⟩ rfl rfl hl.1 (Nat.le_of_ble_eq_true rfl) dX12_hold_120 ⟨Nat.le_of_ble_eq_true rfl, Nat.le_of_ble_eq_true rfl⟩) (fun v120 u H locs hz9 hH hS => ?_)
      obtain ⟨rfl, l_v120, u_v120⟩ := hz9
      have hH : HT D cs A T O X H := hH
      refine W.widen (k := 0) (n := 0) (Nat.le_of_ble_eq_true rfl) (Nat.le_of_ble_eq_true rfl) ?_
      have J131 : ∀ (k131_0 : Int32) (H : Heap) (locs : List Loc) (ls : Array Slot), (0 ≤ k131_0.toInt) → (k131_0.toInt ≤ 1) → HT D cs A T O X H → va_S A s.heap H locs → lv_has ls 3 [] → W p l e { frames := 3, cells := 0, slots := 0, locals := 64 } s m [.ref a0, .int x1, .int x2].toArray below meth c H locs 0 0 (MQ below (Ti D cs (fun r u => u = (T, O, X)) A) [.ref a0, .int x1, .int x2].toArray s 0 0 A) (F0 m 131 ls [.int k131_0]) := by
        intro k131_0 H locs ls l_k131_0 u_k131_0 hH hS hl
        exact te_i hx hb hr hlocks hH hS (rfl) dX12_hold_131
      refine lv_if_eq (tgt := 130) hx hb dX12_hold_123 (by decide) (fun c123 => ?_) (fun c123 => ?_)
      · skip
        have tc123 := f_eq (k := 0) (by decide) c123
        refine lv_iconst (v := 0) hx hb dX12_hold_130 (by decide) ?_
        exact J131 0 _ _ _ (by decide) (by decide) hH hS (lv_sub hl [] rfl)
      · skip
        have tc123 := f_ne (k := 0) (by decide) c123
        refine lv_iconst (v := 1) hx hb dX12_hold_126 (by decide) ?_
        refine lv_goto (tgt := 131) hx hb dX12_hold_127 (by decide) ?_
        exact J131 1 _ _ _ (by decide) (by decide) hH hS (lv_sub hl [] rfl)
    have tc18_3 := f_ne (k := 3) (by decide) c18_3
    by_cases c18_4 : x2 = 4
    · skip
      refine lv_topc c18_4 ?_
      have tc18_4 := f_eq (k := 4) (by decide) c18_4
      refine lv_tableIn (off := 114) (tgt := 132) hx hb dX12_hold_18 (by decide) (by decide) (by decide) (by decide) ?_
      refine lv_aload_n hx hb dX12_hold_132 rfl (lv_at hl 0 rfl) ?_
      refine lv_iload_n hx hb dX12_hold_133 rfl (lv_at hl 1 rfl) ?_
      refine tk_i hH hS hA (tr_V (n := 1) (As := [.int x1]) hx hb hml hown hts hkb hH hOX hks hE hS hA (s_M_isThere l D cs kf T O X a0 hg mq x1 t_a0 b_hg (by omega) (by omega) (hO.sub (by decide))) kw_1458 kw_1460 ks_65 kw_13 kw_1461 (by decide +kernel) ⟨Nat.le_of_ble_eq_true rfl, Nat.le_of_ble_eq_true rfl⟩ (HT.recv (ci := 12) hkb hH t_a0 (hO.no t_a0 (by decide)) rfl) rfl rfl hl.1 (Nat.le_of_ble_eq_true rfl) dX12_hold_134 ⟨Nat.le_of_ble_eq_true rfl, Nat.le_of_ble_eq_true rfl⟩) (fun v134 u H locs hz9 hH hS => ?_)
      obtain ⟨rfl, l_v134, u_v134⟩ := hz9
      have hH : HT D cs A T O X H := hH
      refine W.widen (k := 0) (n := 0) (Nat.le_of_ble_eq_true rfl) (Nat.le_of_ble_eq_true rfl) ?_
      have J145 : ∀ (k145_0 : Int32) (H : Heap) (locs : List Loc) (ls : Array Slot), (0 ≤ k145_0.toInt) → (k145_0.toInt ≤ 1) → HT D cs A T O X H → va_S A s.heap H locs → lv_has ls 3 [] → W p l e { frames := 3, cells := 0, slots := 0, locals := 64 } s m [.ref a0, .int x1, .int x2].toArray below meth c H locs 0 0 (MQ below (Ti D cs (fun r u => u = (T, O, X)) A) [.ref a0, .int x1, .int x2].toArray s 0 0 A) (F0 m 145 ls [.int k145_0]) := by
        intro k145_0 H locs ls l_k145_0 u_k145_0 hH hS hl
        exact te_i hx hb hr hlocks hH hS (rfl) dX12_hold_145
      refine lv_if_eq (tgt := 144) hx hb dX12_hold_137 (by decide) (fun c137 => ?_) (fun c137 => ?_)
      · skip
        have tc137 := f_eq (k := 0) (by decide) c137
        refine lv_iconst (v := 0) hx hb dX12_hold_144 (by decide) ?_
        exact J145 0 _ _ _ (by decide) (by decide) hH hS (lv_sub hl [] rfl)
      · skip
        have tc137 := f_ne (k := 0) (by decide) c137
        refine lv_iconst (v := 1) hx hb dX12_hold_140 (by decide) ?_
        refine lv_goto (tgt := 145) hx hb dX12_hold_141 (by decide) ?_
        exact J145 1 _ _ _ (by decide) (by decide) hH hS (lv_sub hl [] rfl)
    have tc18_4 := f_ne (k := 4) (by decide) c18_4
    by_cases c18_5 : x2 = 5
    · skip
      refine lv_topc c18_5 ?_
      have tc18_5 := f_eq (k := 5) (by decide) c18_5
      refine lv_tableIn (off := 128) (tgt := 146) hx hb dX12_hold_18 (by decide) (by decide) (by decide) (by decide) ?_
      refine lv_aload_n hx hb dX12_hold_146 rfl (lv_at hl 0 rfl) ?_
      refine lv_iload_n hx hb dX12_hold_147 rfl (lv_at hl 1 rfl) ?_
      refine tk_i hH hS hA (tr_V (n := 1) (As := [.int x1]) hx hb hml hown hts hkb hH hOX hks hE hS hA (s_M_isOpen l D cs kf T O X a0 hg mq x1 t_a0 b_hg (by omega) (by omega) (hO.sub (by decide))) kw_1462 kw_1464 ks_66 kw_13 kw_1465 (by decide +kernel) ⟨Nat.le_of_ble_eq_true rfl, Nat.le_of_ble_eq_true rfl⟩ (HT.recv (ci := 12) hkb hH t_a0 (hO.no t_a0 (by decide)) rfl) rfl rfl hl.1 (Nat.le_of_ble_eq_true rfl) dX12_hold_148 ⟨Nat.le_of_ble_eq_true rfl, Nat.le_of_ble_eq_true rfl⟩) (fun v148 u H locs hz9 hH hS => ?_)
      obtain ⟨rfl, l_v148, u_v148⟩ := hz9
      have hH : HT D cs A T O X H := hH
      refine W.widen (k := 0) (n := 0) (Nat.le_of_ble_eq_true rfl) (Nat.le_of_ble_eq_true rfl) ?_
      have J159 : ∀ (k159_0 : Int32) (H : Heap) (locs : List Loc) (ls : Array Slot), (0 ≤ k159_0.toInt) → (k159_0.toInt ≤ 1) → HT D cs A T O X H → va_S A s.heap H locs → lv_has ls 3 [] → W p l e { frames := 3, cells := 0, slots := 0, locals := 64 } s m [.ref a0, .int x1, .int x2].toArray below meth c H locs 0 0 (MQ below (Ti D cs (fun r u => u = (T, O, X)) A) [.ref a0, .int x1, .int x2].toArray s 0 0 A) (F0 m 159 ls [.int k159_0]) := by
        intro k159_0 H locs ls l_k159_0 u_k159_0 hH hS hl
        exact te_i hx hb hr hlocks hH hS (rfl) dX12_hold_159
      refine lv_if_eq (tgt := 158) hx hb dX12_hold_151 (by decide) (fun c151 => ?_) (fun c151 => ?_)
      · skip
        have tc151 := f_eq (k := 0) (by decide) c151
        refine lv_iconst (v := 0) hx hb dX12_hold_158 (by decide) ?_
        exact J159 0 _ _ _ (by decide) (by decide) hH hS (lv_sub hl [] rfl)
      · skip
        have tc151 := f_ne (k := 0) (by decide) c151
        refine lv_iconst (v := 1) hx hb dX12_hold_154 (by decide) ?_
        refine lv_goto (tgt := 159) hx hb dX12_hold_155 (by decide) ?_
        exact J159 1 _ _ _ (by decide) (by decide) hH hS (lv_sub hl [] rfl)
    have tc18_5 := f_ne (k := 5) (by decide) c18_5
    by_cases c18_6 : x2 = 6
    · skip
      refine lv_topc c18_6 ?_
      have tc18_6 := f_eq (k := 6) (by decide) c18_6
      refine lv_tableIn (off := 142) (tgt := 160) hx hb dX12_hold_18 (by decide) (by decide) (by decide) (by decide) ?_
      refine lv_aload_n hx hb dX12_hold_160 rfl (lv_at hl 0 rfl) ?_
      refine t_get (ci := 12) (lst := ft12 hg mq) (C := RX12) (F := TX12) (N := 36) hx hb hts uX12 hown hkb hH t_a0 (hO.no t_a0 (by decide)) (fun _ h9 => h9) rfl rfl 1 (by decide) rfl kw_1224 (fun _ h9 => h9) dX12_hold_161 (fun v9 h9 => ?_)
      obtain ⟨v161, rfl, t_v161⟩ := h9
      refine lv_bipush (v := 59) hx hb dX12_hold_164 (by decide) ?_
      refine lv_iload_n hx hb dX12_hold_166 rfl (lv_at hl 1 rfl) ?_
      refine lv_iadd hx hb dX12_hold_167 ?_
      refine lv_topi (fun v167 ev167 => ?_)
      have tv167 : v167.toInt = (59) + x1.toInt := by rw [ev167]; exact add_i (by decide : (59 : Int32).toInt = 59) rfl (by omega) (by omega)
      refine t_ild8 hx hb hkb hH t_v161 (hO.no t_v161 (by decide)) (by decide) (by omega) (by omega) dX12_hold_168 (fun v168 h9 h8 => ?_)
      exact te_i hx hb hr hlocks hH hS (rfl) dX12_hold_169
    have tc18_6 := f_ne (k := 6) (by decide) c18_6
    by_cases c18_7 : x2 = 7
    · skip
      refine lv_topc c18_7 ?_
      have tc18_7 := f_eq (k := 7) (by decide) c18_7
      refine lv_tableIn (off := 152) (tgt := 170) hx hb dX12_hold_18 (by decide) (by decide) (by decide) (by decide) ?_
      refine lv_aload_n hx hb dX12_hold_170 rfl (lv_at hl 0 rfl) ?_
      refine t_get (ci := 12) (lst := ft12 hg mq) (C := RX12) (F := TX12) (N := 36) hx hb hts uX12 hown hkb hH t_a0 (hO.no t_a0 (by decide)) (fun _ h9 => h9) rfl rfl 1 (by decide) rfl kw_1224 (fun _ h9 => h9) dX12_hold_171 (fun v9 h9 => ?_)
      obtain ⟨v171, rfl, t_v171⟩ := h9
      refine lv_bipush (v := 73) hx hb dX12_hold_174 (by decide) ?_
      refine lv_iload_n hx hb dX12_hold_176 rfl (lv_at hl 1 rfl) ?_
      refine lv_iadd hx hb dX12_hold_177 ?_
      refine lv_topi (fun v177 ev177 => ?_)
      have tv177 : v177.toInt = (73) + x1.toInt := by rw [ev177]; exact add_i (by decide : (73 : Int32).toInt = 73) rfl (by omega) (by omega)
      refine t_ild8 hx hb hkb hH t_v171 (hO.no t_v171 (by decide)) (by decide) (by omega) (by omega) dX12_hold_178 (fun v178 h9 h8 => ?_)
      exact te_i hx hb hr hlocks hH hS (rfl) dX12_hold_179
    have tc18_7 := f_ne (k := 7) (by decide) c18_7
    by_cases c18_8 : x2 = 8
    · skip
      refine lv_topc c18_8 ?_
      have tc18_8 := f_eq (k := 8) (by decide) c18_8
      refine lv_tableIn (off := 162) (tgt := 180) hx hb dX12_hold_18 (by decide) (by decide) (by decide) (by decide) ?_
      refine lv_aload_n hx hb dX12_hold_180 rfl (lv_at hl 0 rfl) ?_
      refine t_get (ci := 12) (lst := ft12 hg mq) (C := RX12) (F := TX12) (N := 36) hx hb hts uX12 hown hkb hH t_a0 (hO.no t_a0 (by decide)) (fun _ h9 => h9) rfl rfl 1 (by decide) rfl kw_1224 (fun _ h9 => h9) dX12_hold_181 (fun v9 h9 => ?_)
      obtain ⟨v181, rfl, t_v181⟩ := h9
      refine lv_bipush (v := 87) hx hb dX12_hold_184 (by decide) ?_
      refine t_ild8 hx hb hkb hH t_v181 (hO.no t_v181 (by decide)) (by decide) (by decide) (by decide) dX12_hold_186 (fun v186 h9 h8 => ?_)
      refine lv_i2l hx hb dX12_hold_187 rfl ?_
      refine lv_iload_n hx hb dX12_hold_188 rfl (lv_at hl 1 rfl) ?_
      refine tk_i hH hS hA (tr_S (n := 2) (As := [.long v186.toInt64, .int x1]) hx hb hml hown hts hkb hH hOX hks hE hS hA (s_M_isIn l D cs kf T O X v186.toInt64 x1  (hO.sub (by decide))) kw_1440 kw_1441 kw_13 kw_1442 (by decide +kernel) ⟨Nat.le_of_ble_eq_true rfl, Nat.le_of_ble_eq_true rfl⟩ rfl rfl hl.1 (Nat.le_of_ble_eq_true rfl) dX12_hold_189 ⟨Nat.le_of_ble_eq_true rfl, Nat.le_of_ble_eq_true rfl⟩) (fun v189 u H locs hz9 hH hS => ?_)
      obtain ⟨rfl, l_v189, u_v189⟩ := hz9
      have hH : HT D cs A T O X H := hH
      refine W.widen (k := 0) (n := 0) (Nat.le_of_ble_eq_true rfl) (Nat.le_of_ble_eq_true rfl) ?_
      have J200 : ∀ (k200_0 : Int32) (H : Heap) (locs : List Loc) (ls : Array Slot), (0 ≤ k200_0.toInt) → (k200_0.toInt ≤ 1) → HT D cs A T O X H → va_S A s.heap H locs → lv_has ls 3 [] → W p l e { frames := 3, cells := 0, slots := 0, locals := 64 } s m [.ref a0, .int x1, .int x2].toArray below meth c H locs 0 0 (MQ below (Ti D cs (fun r u => u = (T, O, X)) A) [.ref a0, .int x1, .int x2].toArray s 0 0 A) (F0 m 200 ls [.int k200_0]) := by
        intro k200_0 H locs ls l_k200_0 u_k200_0 hH hS hl
        exact te_i hx hb hr hlocks hH hS (rfl) dX12_hold_200
      refine lv_if_eq (tgt := 199) hx hb dX12_hold_192 (by decide) (fun c192 => ?_) (fun c192 => ?_)
      · skip
        have tc192 := f_eq (k := 0) (by decide) c192
        refine lv_iconst (v := 0) hx hb dX12_hold_199 (by decide) ?_
        exact J200 0 _ _ _ (by decide) (by decide) hH hS (lv_sub hl [] rfl)
      · skip
        have tc192 := f_ne (k := 0) (by decide) c192
        refine lv_iconst (v := 1) hx hb dX12_hold_195 (by decide) ?_
        refine lv_goto (tgt := 200) hx hb dX12_hold_196 (by decide) ?_
        exact J200 1 _ _ _ (by decide) (by decide) hH hS (lv_sub hl [] rfl)
    have tc18_8 := f_ne (k := 8) (by decide) c18_8
    by_cases c18_9 : x2 = 9
    · skip
      refine lv_topc c18_9 ?_
      have tc18_9 := f_eq (k := 9) (by decide) c18_9
      refine lv_tableIn (off := 183) (tgt := 201) hx hb dX12_hold_18 (by decide) (by decide) (by decide) (by decide) ?_
      refine lv_aload_n hx hb dX12_hold_201 rfl (lv_at hl 0 rfl) ?_
      refine t_get (ci := 12) (lst := ft12 hg mq) (C := RX12) (F := TX12) (N := 36) hx hb hts uX12 hown hkb hH t_a0 (hO.no t_a0 (by decide)) (fun _ h9 => h9) rfl rfl 1 (by decide) rfl kw_1224 (fun _ h9 => h9) dX12_hold_202 (fun v9 h9 => ?_)
      obtain ⟨v202, rfl, t_v202⟩ := h9
      refine lv_bipush (v := 35) hx hb dX12_hold_205 (by decide) ?_
      refine lv_iload_n hx hb dX12_hold_207 rfl (lv_at hl 1 rfl) ?_
      refine lv_iadd hx hb dX12_hold_208 ?_
      refine lv_topi (fun v208 ev208 => ?_)
      have tv208 : v208.toInt = (35) + x1.toInt := by rw [ev208]; exact add_i (by decide : (35 : Int32).toInt = 35) rfl (by omega) (by omega)
      refine t_ild8 hx hb hkb hH t_v202 (hO.no t_v202 (by decide)) (by decide) (by omega) (by omega) dX12_hold_209 (fun v209 h9 h8 => ?_)
      exact te_i hx hb hr hlocks hH hS (rfl) dX12_hold_210
    have tc18_9 := f_ne (k := 9) (by decide) c18_9
    refine lv_tableOut (tgt := 211) hx hb dX12_hold_18 (by omega) (by decide) ?_
    refine lv_bipush (v := (-8)) hx hb dX12_hold_211 (by decide) ?_
    exact te_i hx hb hr hlocks hH hS (rfl) dX12_hold_213
  · skip
    have tc11 := f_eq (k := 0) (by decide) c11
    clear x_v80
    refine lv_bipush (v := (-8)) hx hb dX12_hold_14 (by decide) ?_
    exact te_i hx hb hr hlocks hH hS (rfl) dX12_hold_16
set_option maxHeartbeats 4000000 in
set_option maxRecDepth 100000 in
theorem s_M_guide (l : Launch) (D : va_G) (cs : CS) (kf : KF) (T : TF) (O : List Nat) (X : va_W) (a0 hg mq : Nat) (x1 : Int32) (x2 : Int32) (t_a0 : T a0 = some (22, hg, mq)) (b_hg : hg < 90) (hO : okO T O [8, 22]) : TK l D cs kf yX12_guide cX12_guide 3 (some (.int)) { frames := 2, cells := 0, slots := 0, locals := 47 } [.ref a0, .int x1, .int x2] T O X (Ti D cs (fun r u => u = (T, O, X))) := by
  refine tk_of (by decide) (Nat.le_of_ble_eq_true rfl) (fun p e s m below meth c ls A H locs hx hb hr hml hown hts hlocks hnm hkb hH hS hA hOX hks hE hl => ?_)
  have hown : s.vm.findClass RX12 = some m.cls := hown
  have hl : lv_has ls 3 [(0, .ref a0), (1, .int x1), (2, .int x2)] := hl
  refine lv_aload_n hx hb dX12_guide_0 rfl (lv_at hl 0 rfl) ?_
  refine lv_iconst (v := 0) hx hb dX12_guide_1 (by decide) ?_
  refine t_put (ci := 12) (lst := ft12 hg mq) (v := .int 0) (ty := tyX12 0) (C := RX12) (F := TX12) (N := 36) hx hb hts uX12 tyX12 tyX12_ok nmX12 hown hkb hH hS t_a0 (hO.no t_a0 (by decide)) (fun _ => Iff.rfl) rfl rfl 0 (by decide) rfl (⟨_, rfl⟩) kw_1223 (fun _ h9 => h9) rfl (tyX12_ok 0 (by decide)) rfl rfl dX12_guide_2 (fun H locs hH hS => ?_)
  refine lv_aload_n hx hb dX12_guide_5 rfl (lv_at hl 0 rfl) ?_
  refine lv_iload_n hx hb dX12_guide_6 rfl (lv_at hl 1 rfl) ?_
  refine lv_i2l hx hb dX12_guide_7 rfl ?_
  refine tk_i hH hS hA (tr_V (n := 1) (As := [.long x1.toInt64]) hx hb hml hown hts hkb hH hOX hks hE hS hA (s_M_isGuide l D cs kf T O X a0 hg mq x1.toInt64 t_a0 b_hg (hO.sub (by decide))) kw_1470 kw_1472 ks_67 kw_13 kw_1473 (by decide +kernel) ⟨Nat.le_of_ble_eq_true rfl, Nat.le_of_ble_eq_true rfl⟩ (HT.recv (ci := 12) hkb hH t_a0 (hO.no t_a0 (by decide)) rfl) rfl rfl hl.1 (Nat.le_of_ble_eq_true rfl) dX12_guide_8 ⟨Nat.le_of_ble_eq_true rfl, Nat.le_of_ble_eq_true rfl⟩) (fun v8 u H locs hz9 hH hS => ?_)
  obtain ⟨rfl, l_v8, u_v8, x_v80⟩ := hz9
  simp only [Int32.toInt_toInt64] at x_v80
  have hH : HT D cs A T O X H := hH
  refine W.widen (k := 0) (n := 0) (Nat.le_of_ble_eq_true rfl) (Nat.le_of_ble_eq_true rfl) ?_
  refine lv_if_ne (tgt := 17) hx hb dX12_guide_11 (by decide) (fun c11 => ?_) (fun c11 => ?_)
  · skip
    have tc11 := f_ne (k := 0) (by decide) c11
    replace x_v80 := x_v80.resolve_left tc11
    refine lv_iload_n hx hb dX12_guide_17 rfl (lv_at hl 2 rfl) ?_
    have J65 : ∀ (k65_0 : Int32) (H : Heap) (locs : List Loc) (ls : Array Slot), HT D cs A T O X H → va_S A s.heap H locs → lv_has ls 3 [] → W p l e { frames := 2, cells := 0, slots := 0, locals := 47 } s m [.ref a0, .int x1, .int x2].toArray below meth c H locs 0 0 (MQ below (Ti D cs (fun r u => u = (T, O, X)) A) [.ref a0, .int x1, .int x2].toArray s 0 0 A) (F0 m 65 ls [.int k65_0]) := by
      intro k65_0 H locs ls  hH hS hl
      exact te_i hx hb hr hlocks hH hS (rfl) dX12_guide_65
    refine lv_if_ne (tgt := 33) hx hb dX12_guide_18 (by decide) (fun c18 => ?_) (fun c18 => ?_)
    · skip
      have tc18 := f_ne (k := 0) (by decide) c18
      refine lv_iload_n hx hb dX12_guide_33 rfl (lv_at hl 2 rfl) ?_
      refine lv_iconst (v := 1) hx hb dX12_guide_34 (by decide) ?_
      refine lv_icmp_ne (tgt := 50) hx hb dX12_guide_35 (by decide) (fun c35 => ?_) (fun c35 => ?_)
      · skip
        have tc35 := f_ne (k := 1) (by decide) c35
        refine lv_iload_n hx hb dX12_guide_50 rfl (lv_at hl 2 rfl) ?_
        refine lv_iconst (v := 2) hx hb dX12_guide_51 (by decide) ?_
        refine lv_icmp_ne (tgt := 63) hx hb dX12_guide_52 (by decide) (fun c52 => ?_) (fun c52 => ?_)
        · skip
          have tc52 := f_ne (k := 2) (by decide) c52
          refine lv_bipush (v := (-2)) hx hb dX12_guide_63 (by decide) ?_
          exact J65 (-2) _ _ _  hH hS (lv_sub hl [] rfl)
        · skip
          have tc52 := f_eq (k := 2) (by decide) c52
          refine lv_aload_n hx hb dX12_guide_55 rfl (lv_at hl 0 rfl) ?_
          refine lv_iload_n hx hb dX12_guide_56 rfl (lv_at hl 1 rfl) ?_
          refine tk_i hH hS hA (tr_V (n := 1) (As := [.int x1]) hx hb hml hown hts hkb hH hOX hks hE hS hA (s_M_usedBy l D cs kf T O X a0 hg mq x1 t_a0 b_hg (hO.sub (by decide))) kw_1474 kw_1476 ks_68 kw_13 kw_1477 (by decide +kernel) ⟨Nat.le_of_ble_eq_true rfl, Nat.le_of_ble_eq_true rfl⟩ (HT.recv (ci := 12) hkb hH t_a0 (hO.no t_a0 (by decide)) rfl) rfl rfl hl.1 (Nat.le_of_ble_eq_true rfl) dX12_guide_57 ⟨Nat.le_of_ble_eq_true rfl, Nat.le_of_ble_eq_true rfl⟩) (fun v57 u H locs hz9 hH hS => ?_)
          obtain ⟨rfl, l_v57, u_v57⟩ := hz9
          have hH : HT D cs A T O X H := hH
          refine W.widen (k := 0) (n := 0) (Nat.le_of_ble_eq_true rfl) (Nat.le_of_ble_eq_true rfl) ?_
          refine lv_goto (tgt := 65) hx hb dX12_guide_60 (by decide) ?_
          exact J65 v57 _ _ _  hH hS (lv_sub hl [] rfl)
      · skip
        have tc35 := f_eq (k := 1) (by decide) c35
        refine lv_aload_n hx hb dX12_guide_38 rfl (lv_at hl 0 rfl) ?_
        refine t_get (ci := 12) (lst := ft12 hg mq) (C := RX12) (F := TX12) (N := 36) hx hb hts uX12 hown hkb hH t_a0 (hO.no t_a0 (by decide)) (fun _ h9 => h9) rfl rfl 1 (by decide) rfl kw_1224 (fun _ h9 => h9) dX12_guide_39 (fun v9 h9 => ?_)
        obtain ⟨v39, rfl, t_v39⟩ := h9
        refine lv_bipush (v := 54) hx hb dX12_guide_42 (by decide) ?_
        refine lv_iload_n hx hb dX12_guide_44 rfl (lv_at hl 1 rfl) ?_
        refine lv_iadd hx hb dX12_guide_45 ?_
        refine lv_topi (fun v45 ev45 => ?_)
        have tv45 : v45.toInt = (54) + x1.toInt := by rw [ev45]; exact add_i (by decide : (54 : Int32).toInt = 54) rfl (by omega) (by omega)
        refine t_ild8 hx hb hkb hH t_v39 (hO.no t_v39 (by decide)) (by decide) (by omega) (by omega) dX12_guide_46 (fun v46 h9 h8 => ?_)
        refine lv_goto (tgt := 65) hx hb dX12_guide_47 (by decide) ?_
        exact J65 v46 _ _ _  hH hS (lv_sub hl [] rfl)
    · skip
      have tc18 := f_eq (k := 0) (by decide) c18
      refine lv_aload_n hx hb dX12_guide_21 rfl (lv_at hl 0 rfl) ?_
      refine t_get (ci := 12) (lst := ft12 hg mq) (C := RX12) (F := TX12) (N := 36) hx hb hts uX12 hown hkb hH t_a0 (hO.no t_a0 (by decide)) (fun _ h9 => h9) rfl rfl 1 (by decide) rfl kw_1224 (fun _ h9 => h9) dX12_guide_22 (fun v9 h9 => ?_)
      obtain ⟨v22, rfl, t_v22⟩ := h9
      refine lv_bipush (v := 49) hx hb dX12_guide_25 (by decide) ?_
      refine lv_iload_n hx hb dX12_guide_27 rfl (lv_at hl 1 rfl) ?_
      refine lv_iadd hx hb dX12_guide_28 ?_
      refine lv_topi (fun v28 ev28 => ?_)
      have tv28 : v28.toInt = (49) + x1.toInt := by rw [ev28]; exact add_i (by decide : (49 : Int32).toInt = 49) rfl (by omega) (by omega)
      refine t_ild8 hx hb hkb hH t_v22 (hO.no t_v22 (by decide)) (by decide) (by omega) (by omega) dX12_guide_29 (fun v29 h9 h8 => ?_)
      refine lv_goto (tgt := 65) hx hb dX12_guide_30 (by decide) ?_
      exact J65 v29 _ _ _  hH hS (lv_sub hl [] rfl)
  · skip
    have tc11 := f_eq (k := 0) (by decide) c11
    clear x_v80
    refine lv_bipush (v := (-2)) hx hb dX12_guide_14 (by decide) ?_
    exact te_i hx hb hr hlocks hH hS (rfl) dX12_guide_16
set_option maxHeartbeats 4000000 in
set_option maxRecDepth 100000 in
theorem s_M_count (l : Launch) (D : va_G) (cs : CS) (kf : KF) (T : TF) (O : List Nat) (X : va_W) (a0 hg mq : Nat) (x1 : Int32) (t_a0 : T a0 = some (22, hg, mq)) (b_hg : hg < 90) (hO : okO T O [8, 22]) : TK l D cs kf yX12_count cX12_count 2 (some (.int)) { frames := 4, cells := 0, slots := 0, locals := 86 } [.ref a0, .int x1] T O X (Ti D cs (fun r u => u = (T, O, X))) := by
  refine tk_of (by decide) (Nat.le_of_ble_eq_true rfl) (fun p e s m below meth c ls A H locs hx hb hr hml hown hts hlocks hnm hkb hH hS hA hOX hks hE hl => ?_)
  have hown : s.vm.findClass RX12 = some m.cls := hown
  have hl : lv_has ls 2 [(0, .ref a0), (1, .int x1)] := hl
  refine lv_aload_n hx hb dX12_count_0 rfl (lv_at hl 0 rfl) ?_
  refine lv_iconst (v := 0) hx hb dX12_count_1 (by decide) ?_
  refine t_put (ci := 12) (lst := ft12 hg mq) (v := .int 0) (ty := tyX12 0) (C := RX12) (F := TX12) (N := 36) hx hb hts uX12 tyX12 tyX12_ok nmX12 hown hkb hH hS t_a0 (hO.no t_a0 (by decide)) (fun _ => Iff.rfl) rfl rfl 0 (by decide) rfl (⟨_, rfl⟩) kw_1223 (fun _ h9 => h9) rfl (tyX12_ok 0 (by decide)) rfl rfl dX12_count_2 (fun H locs hH hS => ?_)
  refine lv_iload_n hx hb dX12_count_5 rfl (lv_at hl 1 rfl) ?_
  by_cases c6_0 : x1 = 0
  · skip
    refine lv_topc c6_0 ?_
    have tc6_0 := f_eq (k := 0) (by decide) c6_0
    refine lv_tableIn (off := 54) (tgt := 60) hx hb dX12_count_6 (by decide) (by decide) (by decide) (by decide) ?_
    refine lv_aload_n hx hb dX12_count_60 rfl (lv_at hl 0 rfl) ?_
    refine t_get (ci := 12) (lst := ft12 hg mq) (C := RX12) (F := TX12) (N := 36) hx hb hts uX12 hown hkb hH t_a0 (hO.no t_a0 (by decide)) (fun _ h9 => h9) rfl rfl 1 (by decide) rfl kw_1224 (fun _ h9 => h9) dX12_count_61 (fun v9 h9 => ?_)
    obtain ⟨v61, rfl, t_v61⟩ := h9
    refine lv_iconst (v := 1) hx hb dX12_count_64 (by decide) ?_
    refine t_ild8 hx hb hkb hH t_v61 (hO.no t_v61 (by decide)) (by decide) (by decide) (by decide) dX12_count_65 (fun v65 h9 h8 => ?_)
    have q9 := (h8 rfl).1 rfl
    subst q9
    have eH9 : (nI (hg / 6)).toInt = (((hg / 6) : Nat) : Int) := nI_toInt (by omega)
    exact te_i hx hb hr hlocks hH hS (rfl) dX12_count_66
  have tc6_0 := f_ne (k := 0) (by decide) c6_0
  by_cases c6_1 : x1 = 1
  · skip
    refine lv_topc c6_1 ?_
    have tc6_1 := f_eq (k := 1) (by decide) c6_1
    refine lv_tableIn (off := 61) (tgt := 67) hx hb dX12_count_6 (by decide) (by decide) (by decide) (by decide) ?_
    refine lv_aload_n hx hb dX12_count_67 rfl (lv_at hl 0 rfl) ?_
    refine t_get (ci := 12) (lst := ft12 hg mq) (C := RX12) (F := TX12) (N := 36) hx hb hts uX12 hown hkb hH t_a0 (hO.no t_a0 (by decide)) (fun _ h9 => h9) rfl rfl 1 (by decide) rfl kw_1224 (fun _ h9 => h9) dX12_count_68 (fun v9 h9 => ?_)
    obtain ⟨v68, rfl, t_v68⟩ := h9
    refine lv_iconst (v := 2) hx hb dX12_count_71 (by decide) ?_
    refine t_ild8 hx hb hkb hH t_v68 (hO.no t_v68 (by decide)) (by decide) (by decide) (by decide) dX12_count_72 (fun v72 h9 h8 => ?_)
    have q9 := (h8 rfl).2 rfl
    subst q9
    have eG9 : (nI (hg % 6)).toInt = (((hg % 6) : Nat) : Int) := nI_toInt (by omega)
    exact te_i hx hb hr hlocks hH hS (rfl) dX12_count_73
  have tc6_1 := f_ne (k := 1) (by decide) c6_1
  by_cases c6_2 : x1 = 2
  · skip
    refine lv_topc c6_2 ?_
    have tc6_2 := f_eq (k := 2) (by decide) c6_2
    refine lv_tableIn (off := 68) (tgt := 74) hx hb dX12_count_6 (by decide) (by decide) (by decide) (by decide) ?_
    refine lv_aload_n hx hb dX12_count_74 rfl (lv_at hl 0 rfl) ?_
    refine t_get (ci := 12) (lst := ft12 hg mq) (C := RX12) (F := TX12) (N := 36) hx hb hts uX12 hown hkb hH t_a0 (hO.no t_a0 (by decide)) (fun _ h9 => h9) rfl rfl 1 (by decide) rfl kw_1224 (fun _ h9 => h9) dX12_count_75 (fun v9 h9 => ?_)
    obtain ⟨v75, rfl, t_v75⟩ := h9
    refine lv_bipush (v := 88) hx hb dX12_count_78 (by decide) ?_
    refine t_ild8 hx hb hkb hH t_v75 (hO.no t_v75 (by decide)) (by decide) (by decide) (by decide) dX12_count_80 (fun v80 h9 h8 => ?_)
    exact te_i hx hb hr hlocks hH hS (rfl) dX12_count_81
  have tc6_2 := f_ne (k := 2) (by decide) c6_2
  by_cases c6_3 : x1 = 3
  · skip
    refine lv_topc c6_3 ?_
    have tc6_3 := f_eq (k := 3) (by decide) c6_3
    refine lv_tableIn (off := 76) (tgt := 82) hx hb dX12_count_6 (by decide) (by decide) (by decide) (by decide) ?_
    refine lv_aload_n hx hb dX12_count_82 rfl (lv_at hl 0 rfl) ?_
    refine t_get (ci := 12) (lst := ft12 hg mq) (C := RX12) (F := TX12) (N := 36) hx hb hts uX12 hown hkb hH t_a0 (hO.no t_a0 (by decide)) (fun _ h9 => h9) rfl rfl 1 (by decide) rfl kw_1224 (fun _ h9 => h9) dX12_count_83 (fun v9 h9 => ?_)
    obtain ⟨v83, rfl, t_v83⟩ := h9
    refine lv_bipush (v := 89) hx hb dX12_count_86 (by decide) ?_
    refine t_ild8 hx hb hkb hH t_v83 (hO.no t_v83 (by decide)) (by decide) (by decide) (by decide) dX12_count_88 (fun v88 h9 h8 => ?_)
    exact te_i hx hb hr hlocks hH hS (rfl) dX12_count_89
  have tc6_3 := f_ne (k := 3) (by decide) c6_3
  by_cases c6_4 : x1 = 4
  · skip
    refine lv_topc c6_4 ?_
    have tc6_4 := f_eq (k := 4) (by decide) c6_4
    refine lv_tableIn (off := 84) (tgt := 90) hx hb dX12_count_6 (by decide) (by decide) (by decide) (by decide) ?_
    refine lv_aload_n hx hb dX12_count_90 rfl (lv_at hl 0 rfl) ?_
    refine tk_i hH hS hA (tr_V (n := 0) (As := []) hx hb hml hown hts hkb hH hOX hks hE hS hA (s_M_usedMany l D cs kf T O X a0 hg mq t_a0 b_hg (hO.sub (by decide))) kw_1594 kw_1596 ks_86 kw_13 kw_1597 (by decide +kernel) ⟨Nat.le_of_ble_eq_true rfl, Nat.le_of_ble_eq_true rfl⟩ (HT.recv (ci := 12) hkb hH t_a0 (hO.no t_a0 (by decide)) rfl) rfl rfl hl.1 (Nat.le_of_ble_eq_true rfl) dX12_count_91 ⟨Nat.le_of_ble_eq_true rfl, Nat.le_of_ble_eq_true rfl⟩) (fun v91 u H locs hz9 hH hS => ?_)
    have hz9 : u = (T, O, X) := hz9
    subst hz9
    have hH : HT D cs A T O X H := hH
    refine W.widen (k := 0) (n := 0) (Nat.le_of_ble_eq_true rfl) (Nat.le_of_ble_eq_true rfl) ?_
    exact te_i hx hb hr hlocks hH hS (rfl) dX12_count_94
  have tc6_4 := f_ne (k := 4) (by decide) c6_4
  by_cases c6_5 : x1 = 5
  · skip
    refine lv_topc c6_5 ?_
    have tc6_5 := f_eq (k := 5) (by decide) c6_5
    refine lv_tableIn (off := 89) (tgt := 95) hx hb dX12_count_6 (by decide) (by decide) (by decide) (by decide) ?_
    refine lv_aload_n hx hb dX12_count_95 rfl (lv_at hl 0 rfl) ?_
    refine tk_i hH hS hA (tr_V (n := 0) (As := []) hx hb hml hown hts hkb hH hOX hks hE hS hA (s_M_openSet l D cs kf T O X a0 hg mq t_a0 b_hg (hO.sub (by decide))) kw_1510 kw_1512 ks_73 kw_13 kw_1513 (by decide +kernel) ⟨Nat.le_of_ble_eq_true rfl, Nat.le_of_ble_eq_true rfl⟩ (HT.recv (ci := 12) hkb hH t_a0 (hO.no t_a0 (by decide)) rfl) rfl rfl hl.1 (Nat.le_of_ble_eq_true rfl) dX12_count_96 ⟨Nat.le_of_ble_eq_true rfl, Nat.le_of_ble_eq_true rfl⟩) (fun v96 u H locs hz9 hH hS => ?_)
    obtain ⟨rfl, l_v96, u_v96⟩ := hz9
    have hH : HT D cs A T O X H := hH
    refine W.widen (k := 0) (n := 0) (Nat.le_of_ble_eq_true rfl) (Nat.le_of_ble_eq_true rfl) ?_
    refine tk_i hH hS hA (tr_S (n := 1) (As := [.int v96]) hx hb hml hown hts hkb hH hOX hks hE hS hA (s_M_bitsOf l D cs kf T O X v96  (hO.sub (by decide))) kw_1631 kw_1632 kw_13 kw_1633 (by decide +kernel) ⟨Nat.le_of_ble_eq_true rfl, Nat.le_of_ble_eq_true rfl⟩ rfl rfl hl.1 (Nat.le_of_ble_eq_true rfl) dX12_count_99 ⟨Nat.le_of_ble_eq_true rfl, Nat.le_of_ble_eq_true rfl⟩) (fun v99 u H locs hz9 hH hS => ?_)
    have hz9 : u = (T, O, X) := hz9
    subst hz9
    have hH : HT D cs A T O X H := hH
    refine W.widen (k := 0) (n := 0) (Nat.le_of_ble_eq_true rfl) (Nat.le_of_ble_eq_true rfl) ?_
    exact te_i hx hb hr hlocks hH hS (rfl) dX12_count_102
  have tc6_5 := f_ne (k := 5) (by decide) c6_5
  by_cases c6_6 : x1 = 6
  · skip
    refine lv_topc c6_6 ?_
    have tc6_6 := f_eq (k := 6) (by decide) c6_6
    refine lv_tableIn (off := 97) (tgt := 103) hx hb dX12_count_6 (by decide) (by decide) (by decide) (by decide) ?_
    refine lv_aload_n hx hb dX12_count_103 rfl (lv_at hl 0 rfl) ?_
    refine t_get (ci := 12) (lst := ft12 hg mq) (C := RX12) (F := TX12) (N := 36) hx hb hts uX12 hown hkb hH t_a0 (hO.no t_a0 (by decide)) (fun _ h9 => h9) rfl rfl 1 (by decide) rfl kw_1224 (fun _ h9 => h9) dX12_count_104 (fun v9 h9 => ?_)
    obtain ⟨v104, rfl, t_v104⟩ := h9
    refine lv_bipush (v := 90) hx hb dX12_count_107 (by decide) ?_
    refine t_ild8 hx hb hkb hH t_v104 (hO.no t_v104 (by decide)) (by decide) (by decide) (by decide) dX12_count_109 (fun v109 h9 h8 => ?_)
    have tv109 : 0 ≤ v109.toInt ∧ v109.toInt ≤ 10 := h9.2.2.2.2.2.1 (by decide)
    exact te_i hx hb hr hlocks hH hS (rfl) dX12_count_110
  have tc6_6 := f_ne (k := 6) (by decide) c6_6
  by_cases c6_7 : x1 = 7
  · skip
    refine lv_topc c6_7 ?_
    have tc6_7 := f_eq (k := 7) (by decide) c6_7
    refine lv_tableIn (off := 105) (tgt := 111) hx hb dX12_count_6 (by decide) (by decide) (by decide) (by decide) ?_
    refine lv_aload_n hx hb dX12_count_111 rfl (lv_at hl 0 rfl) ?_
    refine t_get (ci := 12) (lst := ft12 hg mq) (C := RX12) (F := TX12) (N := 36) hx hb hts uX12 hown hkb hH t_a0 (hO.no t_a0 (by decide)) (fun _ h9 => h9) rfl rfl 5 (by decide) rfl kw_1228 (fun _ h9 => h9) dX12_count_112 (fun v9 h9 => ?_)
    obtain ⟨v112, rfl, l_v112, u_v112, eg_v112⟩ := h9
    exact te_i hx hb hr hlocks hH hS (rfl) dX12_count_115
  have tc6_7 := f_ne (k := 7) (by decide) c6_7
  by_cases c6_8 : x1 = 8
  · skip
    refine lv_topc c6_8 ?_
    have tc6_8 := f_eq (k := 8) (by decide) c6_8
    refine lv_tableIn (off := 110) (tgt := 116) hx hb dX12_count_6 (by decide) (by decide) (by decide) (by decide) ?_
    refine lv_aload_n hx hb dX12_count_116 rfl (lv_at hl 0 rfl) ?_
    refine t_get (ci := 12) (lst := ft12 hg mq) (C := RX12) (F := TX12) (N := 36) hx hb hts uX12 hown hkb hH t_a0 (hO.no t_a0 (by decide)) (fun _ h9 => h9) rfl rfl 1 (by decide) rfl kw_1224 (fun _ h9 => h9) dX12_count_117 (fun v9 h9 => ?_)
    obtain ⟨v117, rfl, t_v117⟩ := h9
    refine lv_iconst (v := 0) hx hb dX12_count_120 (by decide) ?_
    refine t_ild8 hx hb hkb hH t_v117 (hO.no t_v117 (by decide)) (by decide) (by decide) (by decide) dX12_count_121 (fun v121 h9 h8 => ?_)
    exact te_i hx hb hr hlocks hH hS (rfl) dX12_count_122
  have tc6_8 := f_ne (k := 8) (by decide) c6_8
  by_cases c6_9 : x1 = 9
  · skip
    refine lv_topc c6_9 ?_
    have tc6_9 := f_eq (k := 9) (by decide) c6_9
    refine lv_tableIn (off := 117) (tgt := 123) hx hb dX12_count_6 (by decide) (by decide) (by decide) (by decide) ?_
    refine lv_aload_n hx hb dX12_count_123 rfl (lv_at hl 0 rfl) ?_
    refine t_get (ci := 12) (lst := ft12 hg mq) (C := RX12) (F := TX12) (N := 36) hx hb hts uX12 hown hkb hH t_a0 (hO.no t_a0 (by decide)) (fun _ h9 => h9) rfl rfl 1 (by decide) rfl kw_1224 (fun _ h9 => h9) dX12_count_124 (fun v9 h9 => ?_)
    obtain ⟨v124, rfl, t_v124⟩ := h9
    refine lv_bipush (v := 87) hx hb dX12_count_127 (by decide) ?_
    refine t_ild8 hx hb hkb hH t_v124 (hO.no t_v124 (by decide)) (by decide) (by decide) (by decide) dX12_count_129 (fun v129 h9 h8 => ?_)
    refine tk_i hH hS hA (tr_S (n := 1) (As := [.int v129]) hx hb hml hown hts hkb hH hOX hks hE hS hA (s_M_bitsOf l D cs kf T O X v129  (hO.sub (by decide))) kw_1631 kw_1632 kw_13 kw_1633 (by decide +kernel) ⟨Nat.le_of_ble_eq_true rfl, Nat.le_of_ble_eq_true rfl⟩ rfl rfl hl.1 (Nat.le_of_ble_eq_true rfl) dX12_count_130 ⟨Nat.le_of_ble_eq_true rfl, Nat.le_of_ble_eq_true rfl⟩) (fun v130 u H locs hz9 hH hS => ?_)
    have hz9 : u = (T, O, X) := hz9
    subst hz9
    have hH : HT D cs A T O X H := hH
    refine W.widen (k := 0) (n := 0) (Nat.le_of_ble_eq_true rfl) (Nat.le_of_ble_eq_true rfl) ?_
    exact te_i hx hb hr hlocks hH hS (rfl) dX12_count_133
  have tc6_9 := f_ne (k := 9) (by decide) c6_9
  refine lv_tableOut (tgt := 134) hx hb dX12_count_6 (by omega) (by decide) ?_
  refine lv_iconst (v := (-1)) hx hb dX12_count_134 (by decide) ?_
  exact te_i hx hb hr hlocks hH hS (rfl) dX12_count_135
