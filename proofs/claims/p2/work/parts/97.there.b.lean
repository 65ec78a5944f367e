set_option maxHeartbeats 4000000 in
set_option maxRecDepth 100000 in
theorem s_M_isThereF (l : Launch) (D : va_G) (cs : CS) (kf : KF) (T : TF) (O : List Nat) (X : va_W) (a0 hg mq : Nat) (x1 : Int32) (f1 : Nat → Int32) (o0 : Value) (y1 : Nat) (o2 : Value) (o3 : Value) (o4 : Value) (o5 : Value) (o6 : Value) (o7 : Value) (o8 : Value) (o9 : Value) (o10 : Value) (o11 : Value) (o12 : Value) (o13 : Value) (o14 : Value) (y15 : Nat) (y16 : Int32) (tl : List Value) (t_a0 : T a0 = some (22, hg, mq)) (b_hg : hg < 90) (l_x1 : 0 ≤ x1.toInt) (u_x1 : x1.toInt ≤ 13) (s_f1 : B8 3906 f1) (g_f1 : f1 1 = nI (hg / 6) ∧ f1 2 = nI (hg % 6)) (t_y1 : T y1 = some (8, 3906, hg)) (t_y15 : T y15 = some (1, 900, 0)) (hO : okO T (y1 :: a0 :: O) []) : TK l D cs kf yX12_isThere cX12_isThere 2 (some (.boolean)) { frames := 1, cells := 0, slots := 0, locals := 22 } [.ref a0, .int x1] T (y1 :: a0 :: O) ((y1, .inl (cs.2.1, 3906, .inl f1)) :: (a0, .inr (12, o0 :: (.ref y1) :: o2 :: o3 :: o4 :: o5 :: o6 :: o7 :: o8 :: o9 :: o10 :: o11 :: o12 :: o13 :: o14 :: (.ref y15) :: (.int y16) :: tl)) :: X) (Ti D cs (fun r u => u = (T, y1 :: a0 :: O, (y1, .inl (cs.2.1, 3906, .inl f1)) :: (a0, .inr (12, o0 :: (.ref y1) :: o2 :: o3 :: o4 :: o5 :: o6 :: o7 :: o8 :: o9 :: o10 :: o11 :: o12 :: o13 :: o14 :: (.ref y15) :: (.int y16) :: tl)) :: X) ∧ 0 ≤ r.toInt ∧ r.toInt ≤ 1 ∧ (r = thF f1 x1))) := by
  refine tk_of (by decide) (Nat.le_of_ble_eq_true rfl) (fun p e s m below meth c ls A H locs hx hb hr hml hown hts hlocks hnm hkb hH hS hA hOX hks hE hl => ?_)
  have hown : s.vm.findClass RX12 = some m.cls := hown
  have hl : lv_has ls 2 [(0, .ref a0), (1, .int x1)] := hl
  have hOXf := hOX
  refine lv_aload_n hx hb dX12_isThere_0 rfl (lv_at hl 0 rfl) ?_
  refine x_getk (ci := 12) (C := RX12) (F := TX12) (N := 36) (v := .ref y1) hx hb hts uX12 hown hkb hH 1 rfl rfl 1 (by decide) rfl kw_1224 (fun _ h9 => h9) dX12_isThere_1 ?_
  refine lv_bipush (v := 87) hx hb dX12_isThere_4 (by decide) ?_
  refine xa_ild hx hb hkb hH 0 rfl (by decide) (by decide) dX12_isThere_6 ?_
  refine lv_topi (fun v6 ev6 => ?_)
  have tv6 : v6 = f1 87 := by rw [ev6]; rfl
  refine lv_i2l hx hb dX12_isThere_7 rfl ?_
  refine lv_iload_n hx hb dX12_isThere_8 rfl (lv_at hl 1 rfl) ?_
  refine tk_i hH hS hA (tr_S (n := 2) (As := [.long v6.toInt64, .int x1]) hx hb hml hown hts hkb hH (ox_map hOX rfl) hks hE hS hA (s_M_isIn2 l D cs kf T (y1 :: a0 :: O) ((y1, .inl (cs.2.1, 3906, .inl f1)) :: (a0, .inr (12, o0 :: (.ref y1) :: o2 :: o3 :: o4 :: o5 :: o6 :: o7 :: o8 :: o9 :: o10 :: o11 :: o12 :: o13 :: o14 :: (.ref y15) :: (.int y16) :: tl)) :: X) v6.toInt64 x1  (hO.sub (by decide))) kw_1440 kw_1441 kw_13 kw_1442 (by decide +kernel) ⟨Nat.le_of_ble_eq_true rfl, Nat.le_of_ble_eq_true rfl⟩ rfl rfl hl.1 (Nat.le_of_ble_eq_true rfl) dX12_isThere_9 ⟨Nat.le_of_ble_eq_true rfl, Nat.le_of_ble_eq_true rfl⟩) (fun v9 u H locs hz9 hH hS => ?_)
  obtain ⟨rfl, l_v9, u_v9, x_v90⟩ := hz9
  have hH : HT D cs A T (y1 :: a0 :: O) ((y1, .inl (cs.2.1, 3906, .inl f1)) :: (a0, .inr (12, o0 :: (.ref y1) :: o2 :: o3 :: o4 :: o5 :: o6 :: o7 :: o8 :: o9 :: o10 :: o11 :: o12 :: o13 :: o14 :: (.ref y15) :: (.int y16) :: tl)) :: X) H := hH
  refine W.widen (k := 0) (n := 0) (Nat.le_of_ble_eq_true rfl) (Nat.le_of_ble_eq_true rfl) ?_
  refine lv_if_ne (tgt := 38) hx hb dX12_isThere_12 (by decide) (fun c12 => ?_) (fun c12 => ?_)
  · skip
    have tc12 := f_ne (k := 0) (by decide) c12
    refine lv_iconst (v := 0) hx hb dX12_isThere_38 (by decide) ?_
    have z9_0 : (0 : Int32).toInt = 0 := by decide
    exact te_z hx hb hr hlocks (by rfl) hH hS (⟨rfl, by decide, by decide, (by first | (refine thF_0 tv6 x_v90 ?_; omega) | (refine thF_0c tv21 tv29 ?_ tv30 ?_ <;> omega))⟩) dX12_isThere_39
  · skip
    have tc12 := f_eq (k := 0) (by decide) c12
    refine lv_aload_n hx hb dX12_isThere_15 rfl (lv_at hl 0 rfl) ?_
    refine x_getk (ci := 12) (C := RX12) (F := TX12) (N := 36) (v := .ref y1) hx hb hts uX12 hown hkb hH 1 rfl rfl 1 (by decide) rfl kw_1224 (fun _ h9 => h9) dX12_isThere_16 ?_
    refine lv_bipush (v := 88) hx hb dX12_isThere_19 (by decide) ?_
    refine xa_ild hx hb hkb hH 0 rfl (by decide) (by decide) dX12_isThere_21 ?_
    refine lv_topi (fun v21 ev21 => ?_)
    have tv21 : v21 = f1 88 := by rw [ev21]; rfl
    refine lv_aload_n hx hb dX12_isThere_22 rfl (lv_at hl 0 rfl) ?_
    refine x_getk (ci := 12) (C := RX12) (F := TX12) (N := 36) (v := .ref y1) hx hb hts uX12 hown hkb hH 1 rfl rfl 1 (by decide) rfl kw_1224 (fun _ h9 => h9) dX12_isThere_23 ?_
    refine lv_bipush (v := 35) hx hb dX12_isThere_26 (by decide) ?_
    refine lv_iload_n hx hb dX12_isThere_28 rfl (lv_at hl 1 rfl) ?_
    refine lv_iadd hx hb dX12_isThere_29 ?_
    refine lv_topi (fun v29 ev29 => ?_)
    have tv29 : v29.toInt = (35) + x1.toInt := by rw [ev29]; exact add_i (by decide : (35 : Int32).toInt = 35) rfl (by omega) (by omega)
    refine xa_ild hx hb hkb hH 0 rfl (by omega) (by omega) dX12_isThere_30 ?_
    refine lv_topi (fun v30 ev30 => ?_)
    have tv30 : v30 = f1 v29.toInt.toNat := ev30
    refine lv_icmp_lt (tgt := 38) hx hb dX12_isThere_31 (by decide) (fun c31 => ?_) (fun c31 => ?_)
    · skip
      have fuc31 := full_i v21
      have fvc31 := full_i v30
      have tc31 := g_lt c31
      refine lv_iconst (v := 0) hx hb dX12_isThere_38 (by decide) ?_
      have z9_0 : (0 : Int32).toInt = 0 := by decide
      exact te_z hx hb hr hlocks (by rfl) hH hS (⟨rfl, by decide, by decide, (by first | (refine thF_0 tv6 x_v90 ?_; omega) | (refine thF_0c tv21 tv29 ?_ tv30 ?_ <;> omega))⟩) dX12_isThere_39
    · skip
      have fuc31 := full_i v21
      have fvc31 := full_i v30
      have tc31 := g_nlt c31
      refine lv_iconst (v := 1) hx hb dX12_isThere_34 (by decide) ?_
      refine lv_goto (tgt := 39) hx hb dX12_isThere_35 (by decide) ?_
      have z9_1 : (1 : Int32).toInt = 1 := by decide
      exact te_z hx hb hr hlocks (by rfl) hH hS (⟨rfl, by decide, by decide, (by first | (refine thF_1 tv6 x_v90 ?_ tv21 tv29 ?_ tv30 ?_ <;> omega))⟩) dX12_isThere_39
set_option maxHeartbeats 4000000 in
set_option maxRecDepth 100000 in
theorem s_M_endsF (l : Launch) (D : va_G) (cs : CS) (kf : KF) (T : TF) (O : List Nat) (X : va_W) (a0 hg mq : Nat) (f1 : Nat → Int32) (o0 : Value) (y1 : Nat) (o2 : Value) (o3 : Value) (o4 : Value) (o5 : Value) (o6 : Value) (o7 : Value) (o8 : Value) (o9 : Value) (o10 : Value) (o11 : Value) (o12 : Value) (o13 : Value) (o14 : Value) (y15 : Nat) (y16 : Int32) (tl : List Value) (t_a0 : T a0 = some (22, hg, mq)) (b_hg : hg < 90) (s_f1 : B8 3906 f1) (g_f1 : f1 1 = nI (hg / 6) ∧ f1 2 = nI (hg % 6)) (t_y1 : T y1 = some (8, 3906, hg)) (t_y15 : T y15 = some (1, 900, 0)) (hO : okO T (y1 :: a0 :: O) []) : TK l D cs kf yX12_ends cX12_ends 1 (some (.int)) { frames := 0, cells := 0, slots := 0, locals := 0 } [.ref a0] T (y1 :: a0 :: O) ((y1, .inl (cs.2.1, 3906, .inl f1)) :: (a0, .inr (12, o0 :: (.ref y1) :: o2 :: o3 :: o4 :: o5 :: o6 :: o7 :: o8 :: o9 :: o10 :: o11 :: o12 :: o13 :: o14 :: (.ref y15) :: (.int y16) :: tl)) :: X) (Ti D cs (fun r u => u = (T, y1 :: a0 :: O, (y1, .inl (cs.2.1, 3906, .inl f1)) :: (a0, .inr (12, o0 :: (.ref y1) :: o2 :: o3 :: o4 :: o5 :: o6 :: o7 :: o8 :: o9 :: o10 :: o11 :: o12 :: o13 :: o14 :: (.ref y15) :: (.int y16) :: tl)) :: X) ∧ 0 ≤ r.toInt ∧ r.toInt ≤ 16383 ∧ (r = f1 4 ||| f1 5))) := by
  refine tk_of (by decide) (Nat.le_of_ble_eq_true rfl) (fun p e s m below meth c ls A H locs hx hb hr hml hown hts hlocks hnm hkb hH hS hA hOX hks hE hl => ?_)
  have hown : s.vm.findClass RX12 = some m.cls := hown
  have hl : lv_has ls 1 [(0, .ref a0)] := hl
  have hOXf := hOX
  refine lv_aload_n hx hb dX12_ends_0 rfl (lv_at hl 0 rfl) ?_
  refine x_getk (ci := 12) (C := RX12) (F := TX12) (N := 36) (v := .ref y1) hx hb hts uX12 hown hkb hH 1 rfl rfl 1 (by decide) rfl kw_1224 (fun _ h9 => h9) dX12_ends_1 ?_
  refine lv_iconst (v := 4) hx hb dX12_ends_4 (by decide) ?_
  refine xa_ild hx hb hkb hH 0 rfl (by decide) (by decide) dX12_ends_5 ?_
  refine lv_topi (fun v5 ev5 => ?_)
  have tv5 : v5 = f1 4 := by rw [ev5]; rfl
  have bv5 : 0 ≤ v5.toInt ∧ v5.toInt ≤ 16383 := by rw [ev5]; exact (s_f1.at (by decide) 4).2.2.1 (by decide)
  refine lv_aload_n hx hb dX12_ends_6 rfl (lv_at hl 0 rfl) ?_
  refine x_getk (ci := 12) (C := RX12) (F := TX12) (N := 36) (v := .ref y1) hx hb hts uX12 hown hkb hH 1 rfl rfl 1 (by decide) rfl kw_1224 (fun _ h9 => h9) dX12_ends_7 ?_
  refine lv_iconst (v := 5) hx hb dX12_ends_10 (by decide) ?_
  refine xa_ild hx hb hkb hH 0 rfl (by decide) (by decide) dX12_ends_11 ?_
  refine lv_topi (fun v11 ev11 => ?_)
  have tv11 : v11 = f1 5 := by rw [ev11]; rfl
  have bv11 : 0 ≤ v11.toInt ∧ v11.toInt ≤ 16383 := by rw [ev11]; exact (s_f1.at (by decide) 5).2.2.2.1 (by decide)
  refine lv_ior hx hb dX12_ends_12 ?_
  refine lv_topi (fun v12 ev12 => ?_)
  have tv12 : 0 ≤ v12.toInt ∧ v12.toInt < 16384 := by rw [ev12]; exact or_b 14 (by decide) (by omega) (by omega) (by omega) (by omega)
  exact te_i hx hb hr hlocks hH hS (⟨rfl, by omega, by omega, (by rw [ev12, tv5, tv11])⟩) dX12_ends_13
set_option maxHeartbeats 4000000 in
set_option maxRecDepth 100000 in
theorem s_M_thereSetF (l : Launch) (D : va_G) (cs : CS) (kf : KF) (T : TF) (O : List Nat) (X : va_W) (a0 hg mq : Nat) (f1 : Nat → Int32) (o0 : Value) (y1 : Nat) (o2 : Value) (o3 : Value) (o4 : Value) (o5 : Value) (o6 : Value) (o7 : Value) (o8 : Value) (o9 : Value) (o10 : Value) (o11 : Value) (o12 : Value) (o13 : Value) (o14 : Value) (y15 : Nat) (y16 : Int32) (tl : List Value) (t_a0 : T a0 = some (22, hg, mq)) (b_hg : hg < 90) (s_f1 : B8 3906 f1) (g_f1 : f1 1 = nI (hg / 6) ∧ f1 2 = nI (hg % 6)) (t_y1 : T y1 = some (8, 3906, hg)) (t_y15 : T y15 = some (1, 900, 0)) (hO : okO T (y1 :: a0 :: O) []) : TK l D cs kf yX12_thereSet cX12_thereSet 3 (some (.int)) { frames := 2, cells := 0, slots := 0, locals := 43 } [.ref a0] T (y1 :: a0 :: O) ((y1, .inl (cs.2.1, 3906, .inl f1)) :: (a0, .inr (12, o0 :: (.ref y1) :: o2 :: o3 :: o4 :: o5 :: o6 :: o7 :: o8 :: o9 :: o10 :: o11 :: o12 :: o13 :: o14 :: (.ref y15) :: (.int y16) :: tl)) :: X) (Ti D cs (fun r u => u = (T, y1 :: a0 :: O, (y1, .inl (cs.2.1, 3906, .inl f1)) :: (a0, .inr (12, o0 :: (.ref y1) :: o2 :: o3 :: o4 :: o5 :: o6 :: o7 :: o8 :: o9 :: o10 :: o11 :: o12 :: o13 :: o14 :: (.ref y15) :: (.int y16) :: tl)) :: X) ∧ 0 ≤ r.toInt ∧ r.toInt ≤ 16383 ∧ (r = thS f1 (hg / 6)))) := by
  refine tk_of (by decide) (Nat.le_of_ble_eq_true rfl) (fun p e s m below meth c ls A H locs hx hb hr hml hown hts hlocks hnm hkb hH hS hA hOX hks hE hl => ?_)
  have hown : s.vm.findClass RX12 = some m.cls := hown
  have hl : lv_has ls 3 [(0, .ref a0)] := hl
  have hOXf := hOX
  refine lv_iconst (v := 0) hx hb dX12_thereSet_0 (by decide) ?_
  refine lv_istore_n (lv' := [(1, .int 0), (0, .ref a0)]) hx hb dX12_thereSet_1 rfl hl (by decide) rfl (fun ls hl => ?_)
  refine lv_iconst (v := 0) hx hb dX12_thereSet_2 (by decide) ?_
  have J4 : ∀ (n : Nat) (p4_2 : Int32) (p4_1 : Int32) (H : Heap) (locs : List Loc) (ls : Array Slot), (14 - p4_2.toInt).toNat = n → (0 ≤ p4_2.toInt) → (p4_2.toInt ≤ 14) → (0 ≤ p4_1.toInt) → (p4_1.toInt ≤ 16383) → (p4_1 = thS f1 p4_2.toInt.toNat) → (p4_2.toInt ≤ ((hg / 6 : Nat) : Int)) → HT D cs A T (y1 :: a0 :: O) ((y1, .inl (cs.2.1, 3906, .inl f1)) :: (a0, .inr (12, o0 :: (.ref y1) :: o2 :: o3 :: o4 :: o5 :: o6 :: o7 :: o8 :: o9 :: o10 :: o11 :: o12 :: o13 :: o14 :: (.ref y15) :: (.int y16) :: tl)) :: X) H → va_S A s.heap H locs → lv_has ls 3 [(2, .int p4_2), (1, .int p4_1), (0, .ref a0)] → W p l e { frames := 2, cells := 0, slots := 0, locals := 43 } s m [.ref a0].toArray below meth c H locs 0 0 (MQ below (Ti D cs (fun r u => u = (T, y1 :: a0 :: O, (y1, .inl (cs.2.1, 3906, .inl f1)) :: (a0, .inr (12, o0 :: (.ref y1) :: o2 :: o3 :: o4 :: o5 :: o6 :: o7 :: o8 :: o9 :: o10 :: o11 :: o12 :: o13 :: o14 :: (.ref y15) :: (.int y16) :: tl)) :: X) ∧ 0 ≤ r.toInt ∧ r.toInt ≤ 16383 ∧ (r = thS f1 (hg / 6))) A) [.ref a0].toArray s 0 0 A) (F0 m 4 ls []) := by
    intro n
    induction n using Nat.strongRecOn with
    | _ n ih4 =>
      intro p4_2 p4_1 H locs ls hm4 l_p4_2 u_p4_2 l_p4_1 u_p4_1 i4 j4 hH hS hl
      refine lv_iload_n hx hb dX12_thereSet_4 rfl (lv_at hl 0 rfl) ?_
      refine lv_aload_n hx hb dX12_thereSet_5 rfl (lv_at hl 2 rfl) ?_
      refine x_getk (ci := 12) (C := RX12) (F := TX12) (N := 36) (v := .ref y1) hx hb hts uX12 hown hkb hH 1 rfl rfl 1 (by decide) rfl kw_1224 (fun _ h9 => h9) dX12_thereSet_6 ?_
      refine lv_iconst (v := 1) hx hb dX12_thereSet_9 (by decide) ?_
      refine xa_ild hx hb hkb hH 0 rfl (by decide) (by decide) dX12_thereSet_10 ?_
      refine lv_topi (fun v10 ev10 => ?_)
      have tv10 : v10 = f1 1 := by rw [ev10]; rfl
      have bv10 : 0 ≤ v10.toInt ∧ v10.toInt ≤ 14 := by rw [ev10]; exact (s_f1.at (by decide) 1).1 (by decide)
      have hv10 : v10.toInt = ((hg / 6 : Nat) : Int) := by rw [tv10, g_f1.1]; exact nI_toInt (by omega)
      refine lv_icmp_ge (tgt := 38) hx hb dX12_thereSet_11 (by decide) (fun c11 => ?_) (fun c11 => ?_)
      · skip
        have fuc11 := full_i p4_2
        have fvc11 := full_i v10
        have tc11 := g_le c11
        refine lv_iload_n hx hb dX12_thereSet_38 rfl (lv_at hl 1 rfl) ?_
        exact te_i hx hb hr hlocks hH hS (⟨rfl, by omega, by omega, (by rw [i4, show p4_2.toInt.toNat = hg / 6 by omega])⟩) dX12_thereSet_39
      · skip
        have fuc11 := full_i p4_2
        have fvc11 := full_i v10
        have tc11 := g_nle c11
        refine lv_iload_n hx hb dX12_thereSet_14 rfl (lv_at hl 1 rfl) ?_
        refine lv_aload_n hx hb dX12_thereSet_15 rfl (lv_at hl 2 rfl) ?_
        refine lv_iload_n hx hb dX12_thereSet_16 rfl (lv_at hl 0 rfl) ?_
        refine tk_i hH hS hA (tr_V (n := 1) (As := [.int p4_2]) hx hb hml hown hts hkb hH (ox_map hOX rfl) hks hE hS hA (s_M_isThereF l D cs kf T O X a0 hg mq p4_2 f1 o0 y1 o2 o3 o4 o5 o6 o7 o8 o9 o10 o11 o12 o13 o14 y15 y16 tl t_a0 b_hg (by omega) (by omega) s_f1 g_f1 t_y1 t_y15 (hO.sub (by decide))) kw_1458 kw_1460 ks_65 kw_13 kw_1461 (by decide +kernel) ⟨Nat.le_of_ble_eq_true rfl, Nat.le_of_ble_eq_true rfl⟩ (x_recv (ci := 12) hkb hH 1 rfl rfl) rfl rfl hl.1 (Nat.le_of_ble_eq_true rfl) dX12_thereSet_17 ⟨Nat.le_of_ble_eq_true rfl, Nat.le_of_ble_eq_true rfl⟩) (fun v17 u H locs hz9 hH hS => ?_)
        obtain ⟨rfl, l_v17, u_v17, x_v170⟩ := hz9
        have hH : HT D cs A T (y1 :: a0 :: O) ((y1, .inl (cs.2.1, 3906, .inl f1)) :: (a0, .inr (12, o0 :: (.ref y1) :: o2 :: o3 :: o4 :: o5 :: o6 :: o7 :: o8 :: o9 :: o10 :: o11 :: o12 :: o13 :: o14 :: (.ref y15) :: (.int y16) :: tl)) :: X) H := hH
        refine W.widen (k := 0) (n := 0) (Nat.le_of_ble_eq_true rfl) (Nat.le_of_ble_eq_true rfl) ?_
        refine lv_if_eq (tgt := 29) hx hb dX12_thereSet_20 (by decide) (fun c20 => ?_) (fun c20 => ?_)
        · skip
          have tc20 := f_eq (k := 0) (by decide) c20
          refine lv_iconst (v := 0) hx hb dX12_thereSet_29 (by decide) ?_
          refine lv_ior hx hb dX12_thereSet_30 ?_
          refine lv_topi (fun v30 ev30 => ?_)
          have tv30 : 0 ≤ v30.toInt ∧ v30.toInt < 16384 := by rw [ev30]; exact or_b 14 (by decide) (by omega) (by decide) (by omega) (by decide)
          refine lv_istore_n (lv' := [(1, .int v30), (2, .int p4_2), (0, .ref a0)]) hx hb dX12_thereSet_31 rfl hl (by decide) rfl (fun ls hl => ?_)
          obtain ⟨v32, ev32⟩ : ∃ y : Int32, y = p4_2 + 1 := ⟨_, rfl⟩
          have tv32 : v32.toInt = p4_2.toInt + (1) := by rw [ev32]; exact add_i rfl (by decide) (by omega) (by omega)
          refine lv_iinc (v := v32) (lv' := [(2, .int v32), (1, .int v30), (0, .ref a0)]) hx hb dX12_thereSet_32 hl (k := 1) rfl (by rw [ev32]; rfl) (by decide) rfl (fun ls hl => ?_)
          refine lv_goto (tgt := 4) hx hb dX12_thereSet_35 (by decide) ?_
          exact ih4 _ (by omega) v32 v30 _ _ _ rfl (by omega) (by omega) (by omega) (by omega) (by first | (refine thS_n i4 ?_ x_v170 (Or.inr ⟨?_, ev25⟩) ev30 tv32 <;> omega) | (refine thS_n i4 ?_ x_v170 (Or.inl ⟨?_, rfl⟩) ev30 tv32 <;> omega) | (rw [show ((0 : Int32).toInt.toNat) = 0 by decide]; rfl)) (by omega) hH hS (lv_sub hl [0, 1, 2] rfl)
        · skip
          have tc20 := f_ne (k := 0) (by decide) c20
          refine lv_iconst (v := 1) hx hb dX12_thereSet_23 (by decide) ?_
          refine lv_iload_n hx hb dX12_thereSet_24 rfl (lv_at hl 0 rfl) ?_
          refine lv_ishl hx hb dX12_thereSet_25 ?_
          refine lv_topi (fun v25 ev25 => ?_)
          have tv25 : 1 ≤ v25.toInt ∧ v25.toInt ≤ 8192 := by rw [ev25]; exact shl_b 13 (by decide) (by omega) (by omega)
          refine lv_goto (tgt := 30) hx hb dX12_thereSet_26 (by decide) ?_
          refine lv_ior hx hb dX12_thereSet_30 ?_
          refine lv_topi (fun v30 ev30 => ?_)
          have tv30 : 0 ≤ v30.toInt ∧ v30.toInt < 16384 := by rw [ev30]; exact or_b 14 (by decide) (by omega) (by omega) (by omega) (by omega)
          refine lv_istore_n (lv' := [(1, .int v30), (2, .int p4_2), (0, .ref a0)]) hx hb dX12_thereSet_31 rfl hl (by decide) rfl (fun ls hl => ?_)
          obtain ⟨v32, ev32⟩ : ∃ y : Int32, y = p4_2 + 1 := ⟨_, rfl⟩
          have tv32 : v32.toInt = p4_2.toInt + (1) := by rw [ev32]; exact add_i rfl (by decide) (by omega) (by omega)
          refine lv_iinc (v := v32) (lv' := [(2, .int v32), (1, .int v30), (0, .ref a0)]) hx hb dX12_thereSet_32 hl (k := 1) rfl (by rw [ev32]; rfl) (by decide) rfl (fun ls hl => ?_)
          refine lv_goto (tgt := 4) hx hb dX12_thereSet_35 (by decide) ?_
          exact ih4 _ (by omega) v32 v30 _ _ _ rfl (by omega) (by omega) (by omega) (by omega) (by first | (refine thS_n i4 ?_ x_v170 (Or.inr ⟨?_, ev25⟩) ev30 tv32 <;> omega) | (refine thS_n i4 ?_ x_v170 (Or.inl ⟨?_, rfl⟩) ev30 tv32 <;> omega) | (rw [show ((0 : Int32).toInt.toNat) = 0 by decide]; rfl)) (by omega) hH hS (lv_sub hl [0, 1, 2] rfl)
  refine lv_istore_n (lv' := [(2, .int 0), (1, .int 0), (0, .ref a0)]) hx hb dX12_thereSet_3 rfl hl (by decide) rfl (fun ls hl => ?_)
  have z_0 : (0 : Int32).toInt = 0 := by decide
  exact J4 _ 0 0 _ _ _ rfl (by decide) (by decide) (by decide) (by decide) (by first | (refine thS_n i4 ?_ x_v170 (Or.inr ⟨?_, ev25⟩) ev30 tv32 <;> omega) | (refine thS_n i4 ?_ x_v170 (Or.inl ⟨?_, rfl⟩) ev30 tv32 <;> omega) | (rw [show ((0 : Int32).toInt.toNat) = 0 by decide]; rfl)) (by omega) hH hS (lv_sub hl [0, 1, 2] rfl)
set_option maxHeartbeats 4000000 in
set_option maxRecDepth 100000 in
theorem s_M_isSetOfX (l : Launch) (D : va_G) (cs : CS) (kf : KF) (T : TF) (O : List Nat) (X : va_W) (a0 hg mq : Nat) (x1 : Int32) (f1 : Nat → Int32) (o0 : Value) (y1 : Nat) (o2 : Value) (o3 : Value) (o4 : Value) (o5 : Value) (o6 : Value) (o7 : Value) (o8 : Value) (o9 : Value) (o10 : Value) (o11 : Value) (o12 : Value) (o13 : Value) (o14 : Value) (y15 : Nat) (y16 : Int32) (tl : List Value) (t_a0 : T a0 = some (22, hg, mq)) (b_hg : hg < 90) (s_f1 : B8 3906 f1) (g_f1 : f1 1 = nI (hg / 6) ∧ f1 2 = nI (hg % 6)) (t_y1 : T y1 = some (8, 3906, hg)) (t_y15 : T y15 = some (1, 900, 0)) (hO : okO T (y1 :: a0 :: O) []) : TK l D cs kf yX12_isSetOf cX12_isSetOf 2 (some (.boolean)) { frames := 3, cells := 0, slots := 0, locals := 65 } [.ref a0, .int x1] T (y1 :: a0 :: O) ((y1, .inl (cs.2.1, 3906, .inl f1)) :: (a0, .inr (12, o0 :: (.ref y1) :: o2 :: o3 :: o4 :: o5 :: o6 :: o7 :: o8 :: o9 :: o10 :: o11 :: o12 :: o13 :: o14 :: (.ref y15) :: (.int y16) :: tl)) :: X) (Ti D cs (fun r u => u = (T, y1 :: a0 :: O, (y1, .inl (cs.2.1, 3906, .inl f1)) :: (a0, .inr (12, o0 :: (.ref y1) :: o2 :: o3 :: o4 :: o5 :: o6 :: o7 :: o8 :: o9 :: o10 :: o11 :: o12 :: o13 :: o14 :: (.ref y15) :: (.int y16) :: tl)) :: X) ∧ 0 ≤ r.toInt ∧ r.toInt ≤ 1 ∧ (r.toInt = 0 ∨ (0 ≤ x1.toInt ∧ x1.toInt ≤ 16383)))) := by
  refine tk_of (by decide) (Nat.le_of_ble_eq_true rfl) (fun p e s m below meth c ls A H locs hx hb hr hml hown hts hlocks hnm hkb hH hS hA hOX hks hE hl => ?_)
  have hown : s.vm.findClass RX12 = some m.cls := hown
  have hl : lv_has ls 2 [(0, .ref a0), (1, .int x1)] := hl
  have hOXf := hOX
  refine lv_iload_n hx hb dX12_isSetOf_0 rfl (lv_at hl 1 rfl) ?_
  refine lv_aload_n hx hb dX12_isSetOf_1 rfl (lv_at hl 0 rfl) ?_
  refine tk_i hH hS hA (tr_V (n := 0) (As := []) hx hb hml hown hts hkb hH (ox_map hOX rfl) hks hE hS hA (s_M_thereSetF l D cs kf T O X a0 hg mq f1 o0 y1 o2 o3 o4 o5 o6 o7 o8 o9 o10 o11 o12 o13 o14 y15 y16 tl t_a0 b_hg s_f1 g_f1 t_y1 t_y15 (hO.sub (by decide))) kw_1724 kw_1726 ks_99 kw_13 kw_1727 (by decide +kernel) ⟨Nat.le_of_ble_eq_true rfl, Nat.le_of_ble_eq_true rfl⟩ (x_recv (ci := 12) hkb hH 1 rfl rfl) rfl rfl hl.1 (Nat.le_of_ble_eq_true rfl) dX12_isSetOf_2 ⟨Nat.le_of_ble_eq_true rfl, Nat.le_of_ble_eq_true rfl⟩) (fun v2 u H locs hz9 hH hS => ?_)
  obtain ⟨rfl, l_v2, u_v2, x_v20⟩ := hz9
  have hH : HT D cs A T (y1 :: a0 :: O) ((y1, .inl (cs.2.1, 3906, .inl f1)) :: (a0, .inr (12, o0 :: (.ref y1) :: o2 :: o3 :: o4 :: o5 :: o6 :: o7 :: o8 :: o9 :: o10 :: o11 :: o12 :: o13 :: o14 :: (.ref y15) :: (.int y16) :: tl)) :: X) H := hH
  refine W.widen (k := 0) (n := 0) (Nat.le_of_ble_eq_true rfl) (Nat.le_of_ble_eq_true rfl) ?_
  refine lv_aload_n hx hb dX12_isSetOf_5 rfl (lv_at hl 0 rfl) ?_
  refine tk_i hH hS hA (tr_V (n := 0) (As := []) hx hb hml hown hts hkb hH (ox_map hOX rfl) hks hE hS hA (s_M_endsF l D cs kf T O X a0 hg mq f1 o0 y1 o2 o3 o4 o5 o6 o7 o8 o9 o10 o11 o12 o13 o14 y15 y16 tl t_a0 b_hg s_f1 g_f1 t_y1 t_y15 (hO.sub (by decide))) kw_1536 kw_1538 ks_78 kw_13 kw_1539 (by decide +kernel) ⟨Nat.le_of_ble_eq_true rfl, Nat.le_of_ble_eq_true rfl⟩ (x_recv (ci := 12) hkb hH 1 rfl rfl) rfl rfl hl.1 (Nat.le_of_ble_eq_true rfl) dX12_isSetOf_6 ⟨Nat.le_of_ble_eq_true rfl, Nat.le_of_ble_eq_true rfl⟩) (fun v6 u H locs hz9 hH hS => ?_)
  obtain ⟨rfl, l_v6, u_v6, x_v60⟩ := hz9
  have hH : HT D cs A T (y1 :: a0 :: O) ((y1, .inl (cs.2.1, 3906, .inl f1)) :: (a0, .inr (12, o0 :: (.ref y1) :: o2 :: o3 :: o4 :: o5 :: o6 :: o7 :: o8 :: o9 :: o10 :: o11 :: o12 :: o13 :: o14 :: (.ref y15) :: (.int y16) :: tl)) :: X) H := hH
  refine W.widen (k := 0) (n := 0) (Nat.le_of_ble_eq_true rfl) (Nat.le_of_ble_eq_true rfl) ?_
  refine lv_iconst (v := (-1)) hx hb dX12_isSetOf_9 (by decide) ?_
  refine lv_ixor hx hb dX12_isSetOf_10 ?_
  refine lv_topi (fun v10 ev10 => ?_)
  refine lv_iand hx hb dX12_isSetOf_11 ?_
  refine lv_topi (fun v11 ev11 => ?_)
  have tv11 : 0 ≤ v11.toInt ∧ v11.toInt ≤ v2.toInt := by rw [ev11]; exact and_l (by omega)
  refine lv_iconst (v := (-1)) hx hb dX12_isSetOf_12 (by decide) ?_
  refine lv_ixor hx hb dX12_isSetOf_13 ?_
  refine lv_topi (fun v13 ev13 => ?_)
  refine lv_iand hx hb dX12_isSetOf_14 ?_
  refine lv_topi (fun v14 ev14 => ?_)
  refine lv_if_ne (tgt := 22) hx hb dX12_isSetOf_15 (by decide) (fun c15 => ?_) (fun c15 => ?_)
  · skip
    have tc15 := f_ne (k := 0) (by decide) c15
    refine lv_iconst (v := 0) hx hb dX12_isSetOf_22 (by decide) ?_
    have z9_0 : (0 : Int32).toInt = 0 := by decide
    exact te_z hx hb hr hlocks (by rfl) hH hS (⟨rfl, by decide, by decide, (Or.inl (by decide))⟩) dX12_isSetOf_23
  · skip
    have tc15 := f_eq (k := 0) (by decide) c15
    refine lv_iconst (v := 1) hx hb dX12_isSetOf_18 (by decide) ?_
    refine lv_goto (tgt := 23) hx hb dX12_isSetOf_19 (by decide) ?_
    have z9_1 : (1 : Int32).toInt = 1 := by decide
    exact te_z hx hb hr hlocks (by rfl) hH hS (⟨rfl, by decide, by decide, (Or.inr (by have q9 := sub_lim ev13 ev14 (by omega) (by omega); omega))⟩) dX12_isSetOf_23
