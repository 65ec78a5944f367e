set_option maxHeartbeats 4000000 in
set_option maxRecDepth 100000 in
theorem s_M_laysWhoseX (l : Launch) (D : va_G) (cs : CS) (kf : KF) (T : TF) (O : List Nat) (X : va_W) (a0 hg mq : Nat) (x1 : Int32) (x2 : Int32) (f1 : Nat → Int32) (o0 : Value) (y1 : Nat) (o2 : Value) (o3 : Value) (o4 : Value) (o5 : Value) (o6 : Value) (o7 : Value) (o8 : Value) (o9 : Value) (o10 : Value) (o11 : Value) (o12 : Value) (o13 : Value) (o14 : Value) (y15 : Nat) (y16 : Int32) (y17 : Nat) (o18 : Value) (o19 : Value) (o20 : Value) (o21 : Value) (o22 : Value) (o23 : Value) (o24 : Value) (o25 : Value) (o26 : Value) (o27 : Value) (y28 : Nat) (tl : List Value) (f28 : Nat → Int32) (f17 : Nat → Int32) (t_a0 : T a0 = some (22, hg, mq)) (b_hg : hg < 90) (l_x1 : 0 ≤ x1.toInt) (u_x1 : x1.toInt ≤ 4) (l_x2 : 0 ≤ x2.toInt) (u_x2 : x2.toInt ≤ 16383) (s_f1 : B8 3906 f1) (g_f1 : f1 1 = nI (hg / 6) ∧ f1 2 = nI (hg % 6)) (t_y1 : T y1 = some (8, 3906, hg)) (t_y15 : T y15 = some (1, 900, 0)) (t_y17 : T y17 = some (9, 14, 1)) (t_y28 : T y28 = some (0, 229376, 0)) (c_f17 : ∀ j, cp 1 (f17 j)) (hO : okO T (y1 :: a0 :: y28 :: y17 :: O) [1]) : TK l D cs kf yX12_laysWhose cX12_laysWhose 6 (some (.int)) { frames := 5, cells := 0, slots := 0, locals := 119 } [.ref a0, .int x1, .int x2] T (y1 :: a0 :: y28 :: y17 :: O) ((y1, .inl (cs.2.1, 3906, .inl f1)) :: (a0, .inr (12, o0 :: (.ref y1) :: o2 :: o3 :: o4 :: o5 :: o6 :: o7 :: o8 :: o9 :: o10 :: o11 :: o12 :: o13 :: o14 :: (.ref y15) :: (.int y16) :: (.ref y17) :: o18 :: o19 :: o20 :: o21 :: o22 :: o23 :: o24 :: o25 :: o26 :: o27 :: (.ref y28) :: tl)) :: (y28, .inl (cs.1, 229376, .inl f28)) :: (y17, .inl (cs.2.1, 14, .inl f17)) :: X) (Ti D cs (fun r u => ∃ (n1_16 : Int32) (G2 : Nat → Int32) (G3 : Nat → Int32), u = (T, y1 :: a0 :: y28 :: y17 :: O, (y1, .inl (cs.2.1, 3906, .inl f1)) :: (a0, .inr (12, o0 :: (.ref y1) :: o2 :: o3 :: o4 :: o5 :: o6 :: o7 :: o8 :: o9 :: o10 :: o11 :: o12 :: o13 :: o14 :: (.ref y15) :: (.int n1_16) :: (.ref y17) :: o18 :: o19 :: o20 :: o21 :: o22 :: o23 :: o24 :: o25 :: o26 :: o27 :: (.ref y28) :: tl)) :: (y28, .inl (cs.1, 229376, .inl G2)) :: (y17, .inl (cs.2.1, 14, .inl G3)) :: X) ∧ -1 ≤ r.toInt ∧ r.toInt ≤ 13 ∧ (LQ hg (x2 ||| (thS f1 (hg / 6) &&& (f1 4 ||| f1 5))) G2 r) ∧ (WS (hg / 6) (x2 ||| (thS f1 (hg / 6) &&& (f1 4 ||| f1 5))).toInt.toNat G3 G2 0) ∧ (∀ j, cp 1 (G3 j)))) := by
  refine tk_of (by decide) (Nat.le_of_ble_eq_true rfl) (fun p e s m below meth c ls A H locs hx hb hr hml hown hts hlocks hnm hkb hH hS hA hOX hks hE hl => ?_)
  have hown : s.vm.findClass RX12 = some m.cls := hown
  have hl : lv_has ls 6 [(0, .ref a0), (1, .int x1), (2, .int x2)] := hl
  have hOXf := hOX
  refine lv_aload_n hx hb dX12_laysWhose_0 rfl (lv_at hl 0 rfl) ?_
  refine lv_iload_n hx hb dX12_laysWhose_1 rfl (lv_at hl 1 rfl) ?_
  refine tk_v hH hS hA (tr_V (n := 1) (As := [.int x1]) hx hb hml hown hts hkb hH (ox_map hOX rfl) hks hE hS hA (s_M_laysGuideX l D cs kf T O X a0 hg mq x1 f1 o0 y1 o2 o3 o4 o5 o6 o7 o8 o9 o10 o11 o12 o13 o14 y15 y16 y17 o18 o19 o20 o21 o22 o23 o24 o25 o26 o27 y28 tl f28 f17 t_a0 b_hg (by omega) (by omega) s_f1 g_f1 t_y1 t_y15 t_y17 t_y28 c_f17 (hO.sub (by decide))) kw_1502 kw_1504 ks_71 kw_13 kw_1505 (by decide +kernel) ⟨Nat.le_of_ble_eq_true rfl, Nat.le_of_ble_eq_true rfl⟩ (x_recv (ci := 12) hkb hH 1 rfl rfl) rfl rfl hl.1 (Nat.le_of_ble_eq_true rfl) dX12_laysWhose_2 ⟨Nat.le_of_ble_eq_true rfl, Nat.le_of_ble_eq_true rfl⟩) (fun u H locs hz9 hH hS => ?_)
  obtain ⟨n2_1_16, F2_3, rfl, x_v20⟩ := hz9
  have c_F2_3 := x_v20
  have hH : HT D cs A T (y1 :: a0 :: y28 :: y17 :: O) ((y1, .inl (cs.2.1, 3906, .inl f1)) :: (a0, .inr (12, o0 :: (.ref y1) :: o2 :: o3 :: o4 :: o5 :: o6 :: o7 :: o8 :: o9 :: o10 :: o11 :: o12 :: o13 :: o14 :: (.ref y15) :: (.int n2_1_16) :: (.ref y17) :: o18 :: o19 :: o20 :: o21 :: o22 :: o23 :: o24 :: o25 :: o26 :: o27 :: (.ref y28) :: tl)) :: (y28, .inl (cs.1, 229376, .inl f28)) :: (y17, .inl (cs.2.1, 14, .inl F2_3)) :: X) H := hH
  refine W.widen (k := 0) (n := 0) (Nat.le_of_ble_eq_true rfl) (Nat.le_of_ble_eq_true rfl) ?_
  refine lv_iload_n hx hb dX12_laysWhose_5 rfl (lv_at hl 2 rfl) ?_
  refine lv_aload_n hx hb dX12_laysWhose_6 rfl (lv_at hl 0 rfl) ?_
  refine tk_i hH hS hA (tr_V (n := 0) (As := []) hx hb hml hown hts hkb hH (ox_map hOX rfl) hks hE hS hA (s_M_thereSetF l D cs kf T (y28 :: y17 :: O) ((y28, .inl (cs.1, 229376, .inl f28)) :: (y17, .inl (cs.2.1, 14, .inl F2_3)) :: X) a0 hg mq f1 o0 y1 o2 o3 o4 o5 o6 o7 o8 o9 o10 o11 o12 o13 o14 y15 n2_1_16 ((.ref y17) :: o18 :: o19 :: o20 :: o21 :: o22 :: o23 :: o24 :: o25 :: o26 :: o27 :: (.ref y28) :: tl) t_a0 b_hg s_f1 g_f1 t_y1 t_y15 (hO.sub (by decide))) kw_1724 kw_1726 ks_99 kw_13 kw_1727 (by decide +kernel) ⟨Nat.le_of_ble_eq_true rfl, Nat.le_of_ble_eq_true rfl⟩ (x_recv (ci := 12) hkb hH 1 rfl rfl) rfl rfl hl.1 (Nat.le_of_ble_eq_true rfl) dX12_laysWhose_7 ⟨Nat.le_of_ble_eq_true rfl, Nat.le_of_ble_eq_true rfl⟩) (fun v7 u H locs hz9 hH hS => ?_)
  obtain ⟨rfl, l_v7, u_v7, x_v70⟩ := hz9
  have hH : HT D cs A T (y1 :: a0 :: y28 :: y17 :: O) ((y1, .inl (cs.2.1, 3906, .inl f1)) :: (a0, .inr (12, o0 :: (.ref y1) :: o2 :: o3 :: o4 :: o5 :: o6 :: o7 :: o8 :: o9 :: o10 :: o11 :: o12 :: o13 :: o14 :: (.ref y15) :: (.int n2_1_16) :: (.ref y17) :: o18 :: o19 :: o20 :: o21 :: o22 :: o23 :: o24 :: o25 :: o26 :: o27 :: (.ref y28) :: tl)) :: (y28, .inl (cs.1, 229376, .inl f28)) :: (y17, .inl (cs.2.1, 14, .inl F2_3)) :: X) H := hH
  refine W.widen (k := 0) (n := 0) (Nat.le_of_ble_eq_true rfl) (Nat.le_of_ble_eq_true rfl) ?_
  refine lv_aload_n hx hb dX12_laysWhose_10 rfl (lv_at hl 0 rfl) ?_
  refine tk_i hH hS hA (tr_V (n := 0) (As := []) hx hb hml hown hts hkb hH (ox_map hOX rfl) hks hE hS hA (s_M_endsF l D cs kf T (y28 :: y17 :: O) ((y28, .inl (cs.1, 229376, .inl f28)) :: (y17, .inl (cs.2.1, 14, .inl F2_3)) :: X) a0 hg mq f1 o0 y1 o2 o3 o4 o5 o6 o7 o8 o9 o10 o11 o12 o13 o14 y15 n2_1_16 ((.ref y17) :: o18 :: o19 :: o20 :: o21 :: o22 :: o23 :: o24 :: o25 :: o26 :: o27 :: (.ref y28) :: tl) t_a0 b_hg s_f1 g_f1 t_y1 t_y15 (hO.sub (by decide))) kw_1536 kw_1538 ks_78 kw_13 kw_1539 (by decide +kernel) ⟨Nat.le_of_ble_eq_true rfl, Nat.le_of_ble_eq_true rfl⟩ (x_recv (ci := 12) hkb hH 1 rfl rfl) rfl rfl hl.1 (Nat.le_of_ble_eq_true rfl) dX12_laysWhose_11 ⟨Nat.le_of_ble_eq_true rfl, Nat.le_of_ble_eq_true rfl⟩) (fun v11 u H locs hz9 hH hS => ?_)
  obtain ⟨rfl, l_v11, u_v11, x_v110⟩ := hz9
  have hH : HT D cs A T (y1 :: a0 :: y28 :: y17 :: O) ((y1, .inl (cs.2.1, 3906, .inl f1)) :: (a0, .inr (12, o0 :: (.ref y1) :: o2 :: o3 :: o4 :: o5 :: o6 :: o7 :: o8 :: o9 :: o10 :: o11 :: o12 :: o13 :: o14 :: (.ref y15) :: (.int n2_1_16) :: (.ref y17) :: o18 :: o19 :: o20 :: o21 :: o22 :: o23 :: o24 :: o25 :: o26 :: o27 :: (.ref y28) :: tl)) :: (y28, .inl (cs.1, 229376, .inl f28)) :: (y17, .inl (cs.2.1, 14, .inl F2_3)) :: X) H := hH
  refine W.widen (k := 0) (n := 0) (Nat.le_of_ble_eq_true rfl) (Nat.le_of_ble_eq_true rfl) ?_
  refine lv_iand hx hb dX12_laysWhose_14 ?_
  refine lv_topi (fun v14 ev14 => ?_)
  have tv14 : 0 ≤ v14.toInt ∧ v14.toInt ≤ v7.toInt := by rw [ev14]; exact and_l (by omega)
  have ttv14 : 0 ≤ v14.toInt ∧ v14.toInt ≤ v11.toInt := by rw [ev14]; exact and_r (by omega)
  refine lv_ior hx hb dX12_laysWhose_15 ?_
  refine lv_topi (fun v15 ev15 => ?_)
  have tv15 : 0 ≤ v15.toInt ∧ v15.toInt < 16384 := by rw [ev15]; exact or_b 14 (by decide) (by omega) (by omega) (by omega) (by omega)
  have h15 : v15 = (x2 ||| (thS f1 (hg / 6) &&& (f1 4 ||| f1 5))) := by rw [ev15, ev14, x_v70, x_v110]
  refine lv_istore_n (lv' := [(3, .int v15), (0, .ref a0), (1, .int x1), (2, .int x2)]) hx hb dX12_laysWhose_16 rfl hl (by decide) rfl (fun ls hl => ?_)
  refine lv_aload_n hx hb dX12_laysWhose_17 rfl (lv_at hl 1 rfl) ?_
  refine lv_iload_n hx hb dX12_laysWhose_18 rfl (lv_at hl 0 rfl) ?_
  refine lv_iload_n hx hb dX12_laysWhose_19 rfl (lv_at hl 3 rfl) ?_
  refine tk_v hH hS hA (tr_V (n := 2) (As := [.int v15, .int x2]) hx hb hml hown hts hkb hH (ox_map hOX rfl) hks hE hS hA (s_M_laysMoreX l D cs kf T O X a0 hg mq v15 x2 f1 o0 y1 o2 o3 o4 o5 o6 o7 o8 o9 o10 o11 o12 o13 o14 y15 n2_1_16 y17 o18 o19 o20 o21 o22 o23 o24 o25 o26 o27 y28 tl f28 F2_3 t_a0 b_hg (by omega) (by omega) s_f1 g_f1 t_y1 t_y15 t_y17 t_y28 (hO.sub (by decide))) kw_1732 kw_1734 ks_101 kw_13 kw_1735 (by decide +kernel) ⟨Nat.le_of_ble_eq_true rfl, Nat.le_of_ble_eq_true rfl⟩ (x_recv (ci := 12) hkb hH 1 rfl rfl) rfl rfl hl.1 (Nat.le_of_ble_eq_true rfl) dX12_laysWhose_20 ⟨Nat.le_of_ble_eq_true rfl, Nat.le_of_ble_eq_true rfl⟩) (fun u H locs hz9 hH hS => ?_)
  obtain ⟨F20_2, rfl, x_v200⟩ := hz9
  have hH : HT D cs A T (y1 :: a0 :: y28 :: y17 :: O) ((y1, .inl (cs.2.1, 3906, .inl f1)) :: (a0, .inr (12, o0 :: (.ref y1) :: o2 :: o3 :: o4 :: o5 :: o6 :: o7 :: o8 :: o9 :: o10 :: o11 :: o12 :: o13 :: o14 :: (.ref y15) :: (.int n2_1_16) :: (.ref y17) :: o18 :: o19 :: o20 :: o21 :: o22 :: o23 :: o24 :: o25 :: o26 :: o27 :: (.ref y28) :: tl)) :: (y28, .inl (cs.1, 229376, .inl F20_2)) :: (y17, .inl (cs.2.1, 14, .inl F2_3)) :: X) H := hH
  refine W.widen (k := 0) (n := 0) (Nat.le_of_ble_eq_true rfl) (Nat.le_of_ble_eq_true rfl) ?_
  refine lv_iconst (v := (-1)) hx hb dX12_laysWhose_23 (by decide) ?_
  refine lv_istore (lv' := [(4, .int (-1)), (3, .int v15), (0, .ref a0), (1, .int x1), (2, .int x2)]) hx hb dX12_laysWhose_24 hl (by decide) rfl (fun ls hl => ?_)
  refine lv_iconst (v := 0) hx hb dX12_laysWhose_26 (by decide) ?_
  have J29 : ∀ (n : Nat) (p29_5 : Int32) (p29_4 : Int32) (H : Heap) (locs : List Loc) (ls : Array Slot), (14 - p29_5.toInt).toNat = n → (0 ≤ p29_5.toInt) → (p29_5.toInt ≤ 14) → (-1 ≤ p29_4.toInt) → (p29_4.toInt ≤ 13) → (LQ hg v15 F20_2 p29_4) → HT D cs A T (y1 :: a0 :: y28 :: y17 :: O) ((y1, .inl (cs.2.1, 3906, .inl f1)) :: (a0, .inr (12, o0 :: (.ref y1) :: o2 :: o3 :: o4 :: o5 :: o6 :: o7 :: o8 :: o9 :: o10 :: o11 :: o12 :: o13 :: o14 :: (.ref y15) :: (.int n2_1_16) :: (.ref y17) :: o18 :: o19 :: o20 :: o21 :: o22 :: o23 :: o24 :: o25 :: o26 :: o27 :: (.ref y28) :: tl)) :: (y28, .inl (cs.1, 229376, .inl F20_2)) :: (y17, .inl (cs.2.1, 14, .inl F2_3)) :: X) H → va_S A s.heap H locs → lv_has ls 6 [(5, .int p29_5), (4, .int p29_4), (3, .int v15), (0, .ref a0)] → W p l e { frames := 5, cells := 0, slots := 0, locals := 119 } s m [.ref a0, .int x1, .int x2].toArray below meth c H locs 0 0 (MQ below (Ti D cs (fun r u => ∃ (n1_16 : Int32) (G2 : Nat → Int32) (G3 : Nat → Int32), u = (T, y1 :: a0 :: y28 :: y17 :: O, (y1, .inl (cs.2.1, 3906, .inl f1)) :: (a0, .inr (12, o0 :: (.ref y1) :: o2 :: o3 :: o4 :: o5 :: o6 :: o7 :: o8 :: o9 :: o10 :: o11 :: o12 :: o13 :: o14 :: (.ref y15) :: (.int n1_16) :: (.ref y17) :: o18 :: o19 :: o20 :: o21 :: o22 :: o23 :: o24 :: o25 :: o26 :: o27 :: (.ref y28) :: tl)) :: (y28, .inl (cs.1, 229376, .inl G2)) :: (y17, .inl (cs.2.1, 14, .inl G3)) :: X) ∧ -1 ≤ r.toInt ∧ r.toInt ≤ 13 ∧ (LQ hg (x2 ||| (thS f1 (hg / 6) &&& (f1 4 ||| f1 5))) G2 r) ∧ (WS (hg / 6) (x2 ||| (thS f1 (hg / 6) &&& (f1 4 ||| f1 5))).toInt.toNat G3 G2 0) ∧ (∀ j, cp 1 (G3 j))) A) [.ref a0, .int x1, .int x2].toArray s 0 0 A) (F0 m 29 ls []) := by
    intro n
    induction n using Nat.strongRecOn with
    | _ n ih29 =>
      intro p29_5 p29_4 H locs ls hm29 l_p29_5 u_p29_5 l_p29_4 u_p29_4 i29 hH hS hl
      refine lv_iload hx hb dX12_laysWhose_29 (lv_at hl 0 rfl) ?_
      refine lv_aload_n hx hb dX12_laysWhose_31 rfl (lv_at hl 3 rfl) ?_
      refine x_getk (ci := 12) (C := RX12) (F := TX12) (N := 36) (v := .ref y1) hx hb hts uX12 hown hkb hH 1 rfl rfl 1 (by decide) rfl kw_1224 (fun _ h9 => h9) dX12_laysWhose_32 ?_
      refine lv_iconst (v := 1) hx hb dX12_laysWhose_35 (by decide) ?_
      refine xa_ild hx hb hkb hH 0 rfl (by decide) (by decide) dX12_laysWhose_36 ?_
      refine lv_topi (fun v36 ev36 => ?_)
      have tv36 : v36 = f1 1 := by rw [ev36]; rfl
      have bv36 : 0 ≤ v36.toInt ∧ v36.toInt ≤ 14 := by rw [ev36]; exact (s_f1.at (by decide) 1).1 (by decide)
      have hv36 : v36.toInt = ((hg / 6 : Nat) : Int) := by rw [tv36, g_f1.1]; exact nI_toInt (by omega)
      refine lv_icmp_ge (tgt := 111) hx hb dX12_laysWhose_37 (by decide) (fun c37 => ?_) (fun c37 => ?_)
      · skip
        have fuc37 := full_i p29_5
        have fvc37 := full_i v36
        have tc37 := g_le c37
        refine lv_iload hx hb dX12_laysWhose_111 (lv_at hl 1 rfl) ?_
        exact te_i hx hb hr hlocks hH hS (⟨n2_1_16, F20_2, F2_3, rfl, by omega, by omega, (by rw [← h15]; exact i29), (by rw [← h15]; exact x_v200), c_F2_3⟩) dX12_laysWhose_113
      · skip
        have fuc37 := full_i p29_5
        have fvc37 := full_i v36
        have tc37 := g_nle c37
        refine lv_iload_n hx hb dX12_laysWhose_40 rfl (lv_at hl 2 rfl) ?_
        refine lv_aload_n hx hb dX12_laysWhose_41 rfl (lv_at hl 3 rfl) ?_
        refine x_getk (ci := 12) (C := RX12) (F := TX12) (N := 36) (v := .ref y1) hx hb hts uX12 hown hkb hH 1 rfl rfl 1 (by decide) rfl kw_1224 (fun _ h9 => h9) dX12_laysWhose_42 ?_
        refine lv_iconst (v := 4) hx hb dX12_laysWhose_45 (by decide) ?_
        refine xa_ild hx hb hkb hH 0 rfl (by decide) (by decide) dX12_laysWhose_46 ?_
        refine lv_topi (fun v46 ev46 => ?_)
        have tv46 : v46 = f1 4 := by rw [ev46]; rfl
        have bv46 : 0 ≤ v46.toInt ∧ v46.toInt ≤ 16383 := by rw [ev46]; exact (s_f1.at (by decide) 4).2.2.1 (by decide)
        refine lv_iand hx hb dX12_laysWhose_47 ?_
        refine lv_topi (fun v47 ev47 => ?_)
        have tv47 : 0 ≤ v47.toInt ∧ v47.toInt ≤ v15.toInt := by rw [ev47]; exact and_l (by omega)
        have ttv47 : 0 ≤ v47.toInt ∧ v47.toInt ≤ v46.toInt := by rw [ev47]; exact and_r (by omega)
        refine lv_i2l hx hb dX12_laysWhose_48 rfl ?_
        refine lv_iload hx hb dX12_laysWhose_49 (lv_at hl 0 rfl) ?_
        refine tk_i hH hS hA (tr_S (n := 2) (As := [.long v47.toInt64, .int p29_5]) hx hb hml hown hts hkb hH (ox_map hOX rfl) hks hE hS hA (s_M_isIn2 l D cs kf T (y1 :: a0 :: y28 :: y17 :: O) ((y1, .inl (cs.2.1, 3906, .inl f1)) :: (a0, .inr (12, o0 :: (.ref y1) :: o2 :: o3 :: o4 :: o5 :: o6 :: o7 :: o8 :: o9 :: o10 :: o11 :: o12 :: o13 :: o14 :: (.ref y15) :: (.int n2_1_16) :: (.ref y17) :: o18 :: o19 :: o20 :: o21 :: o22 :: o23 :: o24 :: o25 :: o26 :: o27 :: (.ref y28) :: tl)) :: (y28, .inl (cs.1, 229376, .inl F20_2)) :: (y17, .inl (cs.2.1, 14, .inl F2_3)) :: X) v47.toInt64 p29_5  (hO.sub (by decide))) kw_1440 kw_1441 kw_13 kw_1442 (by decide +kernel) ⟨Nat.le_of_ble_eq_true rfl, Nat.le_of_ble_eq_true rfl⟩ rfl rfl hl.1 (Nat.le_of_ble_eq_true rfl) dX12_laysWhose_51 ⟨Nat.le_of_ble_eq_true rfl, Nat.le_of_ble_eq_true rfl⟩) (fun v51 u H locs hz9 hH hS => ?_)
        obtain ⟨rfl, l_v51, u_v51, x_v510⟩ := hz9
        have hH : HT D cs A T (y1 :: a0 :: y28 :: y17 :: O) ((y1, .inl (cs.2.1, 3906, .inl f1)) :: (a0, .inr (12, o0 :: (.ref y1) :: o2 :: o3 :: o4 :: o5 :: o6 :: o7 :: o8 :: o9 :: o10 :: o11 :: o12 :: o13 :: o14 :: (.ref y15) :: (.int n2_1_16) :: (.ref y17) :: o18 :: o19 :: o20 :: o21 :: o22 :: o23 :: o24 :: o25 :: o26 :: o27 :: (.ref y28) :: tl)) :: (y28, .inl (cs.1, 229376, .inl F20_2)) :: (y17, .inl (cs.2.1, 14, .inl F2_3)) :: X) H := hH
        refine W.widen (k := 0) (n := 0) (Nat.le_of_ble_eq_true rfl) (Nat.le_of_ble_eq_true rfl) ?_
        have J105 : ∀ (p105_4 : Int32) (H : Heap) (locs : List Loc) (ls : Array Slot), (-1 ≤ p105_4.toInt) → (p105_4.toInt ≤ 13) → (LQ hg v15 F20_2 p105_4) → HT D cs A T (y1 :: a0 :: y28 :: y17 :: O) ((y1, .inl (cs.2.1, 3906, .inl f1)) :: (a0, .inr (12, o0 :: (.ref y1) :: o2 :: o3 :: o4 :: o5 :: o6 :: o7 :: o8 :: o9 :: o10 :: o11 :: o12 :: o13 :: o14 :: (.ref y15) :: (.int n2_1_16) :: (.ref y17) :: o18 :: o19 :: o20 :: o21 :: o22 :: o23 :: o24 :: o25 :: o26 :: o27 :: (.ref y28) :: tl)) :: (y28, .inl (cs.1, 229376, .inl F20_2)) :: (y17, .inl (cs.2.1, 14, .inl F2_3)) :: X) H → va_S A s.heap H locs → lv_has ls 6 [(5, .int p29_5), (4, .int p105_4), (3, .int v15), (0, .ref a0)] → W p l e { frames := 5, cells := 0, slots := 0, locals := 119 } s m [.ref a0, .int x1, .int x2].toArray below meth c H locs 0 0 (MQ below (Ti D cs (fun r u => ∃ (n1_16 : Int32) (G2 : Nat → Int32) (G3 : Nat → Int32), u = (T, y1 :: a0 :: y28 :: y17 :: O, (y1, .inl (cs.2.1, 3906, .inl f1)) :: (a0, .inr (12, o0 :: (.ref y1) :: o2 :: o3 :: o4 :: o5 :: o6 :: o7 :: o8 :: o9 :: o10 :: o11 :: o12 :: o13 :: o14 :: (.ref y15) :: (.int n1_16) :: (.ref y17) :: o18 :: o19 :: o20 :: o21 :: o22 :: o23 :: o24 :: o25 :: o26 :: o27 :: (.ref y28) :: tl)) :: (y28, .inl (cs.1, 229376, .inl G2)) :: (y17, .inl (cs.2.1, 14, .inl G3)) :: X) ∧ -1 ≤ r.toInt ∧ r.toInt ≤ 13 ∧ (LQ hg (x2 ||| (thS f1 (hg / 6) &&& (f1 4 ||| f1 5))) G2 r) ∧ (WS (hg / 6) (x2 ||| (thS f1 (hg / 6) &&& (f1 4 ||| f1 5))).toInt.toNat G3 G2 0) ∧ (∀ j, cp 1 (G3 j))) A) [.ref a0, .int x1, .int x2].toArray s 0 0 A) (F0 m 105 ls []) := by
          intro p105_4 H locs ls l_p105_4 u_p105_4 i105 hH hS hl
          obtain ⟨v105, ev105⟩ : ∃ y : Int32, y = p29_5 + 1 := ⟨_, rfl⟩
          have tv105 : v105.toInt = p29_5.toInt + (1) := by rw [ev105]; exact add_i rfl (by decide) (by omega) (by omega)
          refine lv_iinc (v := v105) (lv' := [(5, .int v105), (4, .int p105_4), (3, .int v15), (0, .ref a0)]) hx hb dX12_laysWhose_105 hl (k := 0) rfl (by rw [ev105]; rfl) (by decide) rfl (fun ls hl => ?_)
          refine lv_goto (tgt := 29) hx hb dX12_laysWhose_108 (by decide) ?_
          exact ih29 _ (by omega) v105 p105_4 _ _ _ rfl (by omega) (by omega) (by omega) (by omega) (by first | exact i29 | exact i105 | (refine LQ_n ?_ ev47 ?_ x_v510 ?_ ?_ ?_ ?_ ev61 x_v640 ?_ <;> omega) | exact LQ_0) hH hS (lv_sub hl [0, 1, 2, 3] rfl)
        refine lv_if_eq (tgt := 105) hx hb dX12_laysWhose_54 (by decide) (fun c54 => ?_) (fun c54 => ?_)
        · skip
          have tc54 := f_eq (k := 0) (by decide) c54
          exact J105 p29_4 _ _ _ (by omega) (by omega) (by first | exact i29 | exact i105 | (refine LQ_n ?_ ev47 ?_ x_v510 ?_ ?_ ?_ ?_ ev61 x_v640 ?_ <;> omega) | exact LQ_0) hH hS (lv_sub hl [0, 1, 2, 3] rfl)
        · skip
          have tc54 := f_ne (k := 0) (by decide) c54
          refine lv_aload_n hx hb dX12_laysWhose_57 rfl (lv_at hl 3 rfl) ?_
          refine lv_iconst (v := 1) hx hb dX12_laysWhose_58 (by decide) ?_
          refine lv_iload hx hb dX12_laysWhose_59 (lv_at hl 0 rfl) ?_
          refine lv_ishl hx hb dX12_laysWhose_61 ?_
          refine lv_topi (fun v61 ev61 => ?_)
          have tv61 : 1 ≤ v61.toInt ∧ v61.toInt ≤ 8192 := by rw [ev61]; exact shl_b 13 (by decide) (by omega) (by omega)
          refine lv_iload hx hb dX12_laysWhose_62 (lv_at hl 0 rfl) ?_
          refine tk_i hH hS hA (tr_V (n := 2) (As := [.int v61, .int p29_5]) hx hb hml hown hts hkb hH (ox_map hOX rfl) hks hE hS hA (s_M_moreByX l D cs kf T O X a0 hg mq v61 p29_5 f1 o0 y1 o2 o3 o4 o5 o6 o7 o8 o9 o10 o11 o12 o13 o14 y15 n2_1_16 y17 o18 o19 o20 o21 o22 o23 o24 o25 o26 o27 y28 tl F20_2 F2_3 t_a0 b_hg (by omega) (by omega) (by omega) (by omega) s_f1 g_f1 t_y1 t_y15 t_y17 t_y28 (hO.sub (by decide))) kw_1736 kw_1738 ks_102 kw_13 kw_1739 (by decide +kernel) ⟨Nat.le_of_ble_eq_true rfl, Nat.le_of_ble_eq_true rfl⟩ (x_recv (ci := 12) hkb hH 1 rfl rfl) rfl rfl hl.1 (Nat.le_of_ble_eq_true rfl) dX12_laysWhose_64 ⟨Nat.le_of_ble_eq_true rfl, Nat.le_of_ble_eq_true rfl⟩) (fun v64 u H locs hz9 hH hS => ?_)
          obtain ⟨rfl, x_v640⟩ := hz9
          have hH : HT D cs A T (y1 :: a0 :: y28 :: y17 :: O) ((y1, .inl (cs.2.1, 3906, .inl f1)) :: (a0, .inr (12, o0 :: (.ref y1) :: o2 :: o3 :: o4 :: o5 :: o6 :: o7 :: o8 :: o9 :: o10 :: o11 :: o12 :: o13 :: o14 :: (.ref y15) :: (.int n2_1_16) :: (.ref y17) :: o18 :: o19 :: o20 :: o21 :: o22 :: o23 :: o24 :: o25 :: o26 :: o27 :: (.ref y28) :: tl)) :: (y28, .inl (cs.1, 229376, .inl F20_2)) :: (y17, .inl (cs.2.1, 14, .inl F2_3)) :: X) H := hH
          refine W.widen (k := 0) (n := 0) (Nat.le_of_ble_eq_true rfl) (Nat.le_of_ble_eq_true rfl) ?_
          refine lv_bipush (v := 99) hx hb dX12_laysWhose_67 (by decide) ?_
          refine lv_icmp_ge (tgt := 105) hx hb dX12_laysWhose_69 (by decide) (fun c69 => ?_) (fun c69 => ?_)
          · skip
            have tc69 := f_ge (k := 99) (by decide) c69
            exact J105 p29_4 _ _ _ (by omega) (by omega) (by first | exact i29 | exact i105 | (refine LQ_n ?_ ev47 ?_ x_v510 ?_ ?_ ?_ ?_ ev61 x_v640 ?_ <;> omega) | exact LQ_0) hH hS (lv_sub hl [0, 1, 2, 3] rfl)
          · skip
            have tc69 := f_nge (k := 99) (by decide) c69
            refine lv_iload hx hb dX12_laysWhose_72 (lv_at hl 1 rfl) ?_
            refine lv_iconst (v := (-1)) hx hb dX12_laysWhose_74 (by decide) ?_
            have J101 : ∀  (H : Heap) (locs : List Loc) (ls : Array Slot), HT D cs A T (y1 :: a0 :: y28 :: y17 :: O) ((y1, .inl (cs.2.1, 3906, .inl f1)) :: (a0, .inr (12, o0 :: (.ref y1) :: o2 :: o3 :: o4 :: o5 :: o6 :: o7 :: o8 :: o9 :: o10 :: o11 :: o12 :: o13 :: o14 :: (.ref y15) :: (.int n2_1_16) :: (.ref y17) :: o18 :: o19 :: o20 :: o21 :: o22 :: o23 :: o24 :: o25 :: o26 :: o27 :: (.ref y28) :: tl)) :: (y28, .inl (cs.1, 229376, .inl F20_2)) :: (y17, .inl (cs.2.1, 14, .inl F2_3)) :: X) H → va_S A s.heap H locs → lv_has ls 6 [(5, .int p29_5), (3, .int v15), (0, .ref a0)] → W p l e { frames := 5, cells := 0, slots := 0, locals := 119 } s m [.ref a0, .int x1, .int x2].toArray below meth c H locs 0 0 (MQ below (Ti D cs (fun r u => ∃ (n1_16 : Int32) (G2 : Nat → Int32) (G3 : Nat → Int32), u = (T, y1 :: a0 :: y28 :: y17 :: O, (y1, .inl (cs.2.1, 3906, .inl f1)) :: (a0, .inr (12, o0 :: (.ref y1) :: o2 :: o3 :: o4 :: o5 :: o6 :: o7 :: o8 :: o9 :: o10 :: o11 :: o12 :: o13 :: o14 :: (.ref y15) :: (.int n1_16) :: (.ref y17) :: o18 :: o19 :: o20 :: o21 :: o22 :: o23 :: o24 :: o25 :: o26 :: o27 :: (.ref y28) :: tl)) :: (y28, .inl (cs.1, 229376, .inl G2)) :: (y17, .inl (cs.2.1, 14, .inl G3)) :: X) ∧ -1 ≤ r.toInt ∧ r.toInt ≤ 13 ∧ (LQ hg (x2 ||| (thS f1 (hg / 6) &&& (f1 4 ||| f1 5))) G2 r) ∧ (WS (hg / 6) (x2 ||| (thS f1 (hg / 6) &&& (f1 4 ||| f1 5))).toInt.toNat G3 G2 0) ∧ (∀ j, cp 1 (G3 j))) A) [.ref a0, .int x1, .int x2].toArray s 0 0 A) (F0 m 101 ls []) := by
              intro  H locs ls  hH hS hl
              refine lv_iload hx hb dX12_laysWhose_101 (lv_at hl 0 rfl) ?_
              refine lv_istore (lv' := [(4, .int p29_5), (5, .int p29_5), (3, .int v15), (0, .ref a0)]) hx hb dX12_laysWhose_103 hl (by decide) rfl (fun ls hl => ?_)
              exact J105 p29_5 _ _ _ (by omega) (by omega) (by first | exact i29 | exact i105 | (refine LQ_n ?_ ev47 ?_ x_v510 ?_ ?_ ?_ ?_ ev61 x_v640 ?_ <;> omega) | exact LQ_0) hH hS (lv_sub hl [1, 0, 2, 3] rfl)
            refine lv_icmp_eq (tgt := 101) hx hb dX12_laysWhose_75 (by decide) (fun c75 => ?_) (fun c75 => ?_)
            · skip
              have tc75 := f_eq (k := -1) (by decide) c75
              exact J101  _ _ _  hH hS (lv_sub hl [0, 2, 3] rfl)
            · skip
              have tc75 := f_ne (k := -1) (by decide) c75
              refine lv_aload_n hx hb dX12_laysWhose_78 rfl (lv_at hl 3 rfl) ?_
              refine lv_iconst (v := 1) hx hb dX12_laysWhose_79 (by decide) ?_
              refine lv_iload hx hb dX12_laysWhose_80 (lv_at hl 0 rfl) ?_
              refine lv_ishl hx hb dX12_laysWhose_82 ?_
              refine lv_topi (fun v82 ev82 => ?_)
              have tv82 : 1 ≤ v82.toInt ∧ v82.toInt ≤ 8192 := by rw [ev82]; exact shl_b 13 (by decide) (by omega) (by omega)
              refine lv_iload hx hb dX12_laysWhose_83 (lv_at hl 0 rfl) ?_
              refine tk_i hH hS hA (tr_V (n := 2) (As := [.int v82, .int p29_5]) hx hb hml hown hts hkb hH (ox_map hOX rfl) hks hE hS hA (s_M_moreByX l D cs kf T O X a0 hg mq v82 p29_5 f1 o0 y1 o2 o3 o4 o5 o6 o7 o8 o9 o10 o11 o12 o13 o14 y15 n2_1_16 y17 o18 o19 o20 o21 o22 o23 o24 o25 o26 o27 y28 tl F20_2 F2_3 t_a0 b_hg (by omega) (by omega) (by omega) (by omega) s_f1 g_f1 t_y1 t_y15 t_y17 t_y28 (hO.sub (by decide))) kw_1736 kw_1738 ks_102 kw_13 kw_1739 (by decide +kernel) ⟨Nat.le_of_ble_eq_true rfl, Nat.le_of_ble_eq_true rfl⟩ (x_recv (ci := 12) hkb hH 1 rfl rfl) rfl rfl hl.1 (Nat.le_of_ble_eq_true rfl) dX12_laysWhose_85 ⟨Nat.le_of_ble_eq_true rfl, Nat.le_of_ble_eq_true rfl⟩) (fun v85 u H locs hz9 hH hS => ?_)
              obtain ⟨rfl, x_v850⟩ := hz9
              have hH : HT D cs A T (y1 :: a0 :: y28 :: y17 :: O) ((y1, .inl (cs.2.1, 3906, .inl f1)) :: (a0, .inr (12, o0 :: (.ref y1) :: o2 :: o3 :: o4 :: o5 :: o6 :: o7 :: o8 :: o9 :: o10 :: o11 :: o12 :: o13 :: o14 :: (.ref y15) :: (.int n2_1_16) :: (.ref y17) :: o18 :: o19 :: o20 :: o21 :: o22 :: o23 :: o24 :: o25 :: o26 :: o27 :: (.ref y28) :: tl)) :: (y28, .inl (cs.1, 229376, .inl F20_2)) :: (y17, .inl (cs.2.1, 14, .inl F2_3)) :: X) H := hH
              refine W.widen (k := 0) (n := 0) (Nat.le_of_ble_eq_true rfl) (Nat.le_of_ble_eq_true rfl) ?_
              refine lv_aload_n hx hb dX12_laysWhose_88 rfl (lv_at hl 3 rfl) ?_
              refine lv_iconst (v := 1) hx hb dX12_laysWhose_89 (by decide) ?_
              refine lv_iload hx hb dX12_laysWhose_90 (lv_at hl 1 rfl) ?_
              refine lv_ishl hx hb dX12_laysWhose_92 ?_
              refine lv_topi (fun v92 ev92 => ?_)
              have tv92 : 1 ≤ v92.toInt ∧ v92.toInt ≤ 8192 := by rw [ev92]; exact shl_b 13 (by decide) (by omega) (by omega)
              refine lv_iload hx hb dX12_laysWhose_93 (lv_at hl 1 rfl) ?_
              refine tk_i hH hS hA (tr_V (n := 2) (As := [.int v92, .int p29_4]) hx hb hml hown hts hkb hH (ox_map hOX rfl) hks hE hS hA (s_M_moreByX l D cs kf T O X a0 hg mq v92 p29_4 f1 o0 y1 o2 o3 o4 o5 o6 o7 o8 o9 o10 o11 o12 o13 o14 y15 n2_1_16 y17 o18 o19 o20 o21 o22 o23 o24 o25 o26 o27 y28 tl F20_2 F2_3 t_a0 b_hg (by omega) (by omega) (by omega) (by omega) s_f1 g_f1 t_y1 t_y15 t_y17 t_y28 (hO.sub (by decide))) kw_1736 kw_1738 ks_102 kw_13 kw_1739 (by decide +kernel) ⟨Nat.le_of_ble_eq_true rfl, Nat.le_of_ble_eq_true rfl⟩ (x_recv (ci := 12) hkb hH 1 rfl rfl) rfl rfl hl.1 (Nat.le_of_ble_eq_true rfl) dX12_laysWhose_95 ⟨Nat.le_of_ble_eq_true rfl, Nat.le_of_ble_eq_true rfl⟩) (fun v95 u H locs hz9 hH hS => ?_)
              obtain ⟨rfl, x_v950⟩ := hz9
              have hH : HT D cs A T (y1 :: a0 :: y28 :: y17 :: O) ((y1, .inl (cs.2.1, 3906, .inl f1)) :: (a0, .inr (12, o0 :: (.ref y1) :: o2 :: o3 :: o4 :: o5 :: o6 :: o7 :: o8 :: o9 :: o10 :: o11 :: o12 :: o13 :: o14 :: (.ref y15) :: (.int n2_1_16) :: (.ref y17) :: o18 :: o19 :: o20 :: o21 :: o22 :: o23 :: o24 :: o25 :: o26 :: o27 :: (.ref y28) :: tl)) :: (y28, .inl (cs.1, 229376, .inl F20_2)) :: (y17, .inl (cs.2.1, 14, .inl F2_3)) :: X) H := hH
              refine W.widen (k := 0) (n := 0) (Nat.le_of_ble_eq_true rfl) (Nat.le_of_ble_eq_true rfl) ?_
              refine lv_icmp_ge (tgt := 105) hx hb dX12_laysWhose_98 (by decide) (fun c98 => ?_) (fun c98 => ?_)
              · skip
                have fuc98 := full_i v85
                have fvc98 := full_i v95
                have tc98 := g_le c98
                exact J105 p29_4 _ _ _ (by omega) (by omega) (by first | exact i29 | exact i105 | (refine LQ_n ?_ ev47 ?_ x_v510 ?_ ?_ ?_ ?_ ev61 x_v640 ?_ <;> omega) | exact LQ_0) hH hS (lv_sub hl [0, 1, 2, 3] rfl)
              · skip
                have fuc98 := full_i v85
                have fvc98 := full_i v95
                have tc98 := g_nle c98
                exact J101  _ _ _  hH hS (lv_sub hl [0, 2, 3] rfl)
  refine lv_istore (lv' := [(5, .int 0), (4, .int (-1)), (3, .int v15), (0, .ref a0), (1, .int x1), (2, .int x2)]) hx hb dX12_laysWhose_27 hl (by decide) rfl (fun ls hl => ?_)
  have z_m1 : ((-1) : Int32).toInt = -1 := by decide
  have z_0 : (0 : Int32).toInt = 0 := by decide
  exact J29 _ 0 (-1) _ _ _ rfl (by decide) (by decide) (by decide) (by decide) (by first | exact i29 | exact i105 | (refine LQ_n ?_ ev47 ?_ x_v510 ?_ ?_ ?_ ?_ ev61 x_v640 ?_ <;> omega) | exact LQ_0) hH hS (lv_sub hl [0, 1, 2, 3] rfl)
