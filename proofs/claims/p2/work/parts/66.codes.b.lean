set_option maxHeartbeats 4000000 in
set_option maxRecDepth 100000 in
theorem s_M_codesA (l : Launch) (D : va_G) (cs : CS) (kf : KF) (T : TF) (O : List Nat) (X : va_W) (a0 hg mq : Nat) (x1 : Int32) (o0 : Value) (o1 : Value) (o2 : Value) (y3 : Nat) (y4 : Nat) (o5 : Value) (y6 : Int32) (y7 : Int32) (y8 : Int32) (y9 : Int32) (y10 : Int32) (y11 : Int32) (y12 : Int32) (tl : List Value) (f4 : Nat → Int32) (t_a0 : T a0 = some (22, hg, mq)) (b_hg : hg < 90) (u_x1 : x1.toInt ≤ 2999) (t_y3 : T y3 = some (1, 900, 0)) (t_y4 : T y4 = some (8, 1302, 0)) (l_y6 : 0 ≤ y6.toInt) (u_y6 : y6.toInt ≤ 900) (l_y7 : 0 ≤ y7.toInt) (u_y7 : y7.toInt ≤ 900) (l_y8 : 0 ≤ y8.toInt) (u_y8 : y8.toInt ≤ 900) (l_y10 : 0 ≤ y10.toInt) (u_y10 : y10.toInt ≤ 999) (s_f4 : S8 f4) (hN : CP y11 f4 0) (hO : okO T (a0 :: y4 :: O) []) : TK l D cs kf yX12_codes cX12_codes 2 none { frames := 0, cells := 0, slots := 0, locals := 0 } [.ref a0, .int x1] T (a0 :: y4 :: O) ((a0, .inr (12, o0 :: o1 :: o2 :: (.ref y3) :: (.ref y4) :: o5 :: (.int y6) :: (.int y7) :: (.int y8) :: (.int y9) :: (.int y10) :: (.int y11) :: (.int y12) :: tl)) :: (y4, .inl (cs.2.1, 1302, .inl f4)) :: X) (Tv D cs (fun u => ∃ (G1 : Nat → Int32), u = (T, a0 :: y4 :: O, (a0, .inr (12, o0 :: o1 :: o2 :: (.ref y3) :: (.ref y4) :: o5 :: (.int y6) :: (.int y7) :: (.int y8) :: (.int y9) :: (.int y10) :: (.int y11) :: (.int y12) :: tl)) :: (y4, .inl (cs.2.1, 1302, .inl G1)) :: X) ∧ (S8 G1) ∧ (CN y11 f4 G1 (1)))) := by
  refine tk_of (by decide) (Nat.le_of_ble_eq_true rfl) (fun p e s m below meth c ls A H locs hx hb hr hml hown hts hlocks hnm hkb hH hS hA hOX hks hE hl => ?_)
  have hown : s.vm.findClass RX12 = some m.cls := hown
  have hl : lv_has ls 2 [(0, .ref a0), (1, .int x1)] := hl
  have hOXf := hOX
  refine lv_aload_n hx hb dX12_codes_0 rfl (lv_at hl 0 rfl) ?_
  refine x_getk (ci := 12) (C := RX12) (F := TX12) (N := 36) (v := .int y11) hx hb hts uX12 hown hkb hH 0 rfl rfl 11 (by decide) rfl kw_1234 (fun _ h9 => h9) dX12_codes_1 ?_
  refine lv_if_eq (tgt := 8) hx hb dX12_codes_4 (by decide) (fun c4 => ?_) (fun c4 => ?_)
  · skip
    have tc4 := f_eq (k := 0) (by decide) c4
    have hN9 := hN (by omega)
    refine lv_aload_n hx hb dX12_codes_8 rfl (lv_at hl 0 rfl) ?_
    refine x_getk (ci := 12) (C := RX12) (F := TX12) (N := 36) (v := .ref y4) hx hb hts uX12 hown hkb hH 0 rfl rfl 4 (by decide) rfl kw_1227 (fun _ h9 => h9) dX12_codes_9 ?_
    refine lv_sipush (v := 402) hx hb dX12_codes_12 (by decide) ?_
    refine lv_aload_n hx hb dX12_codes_15 rfl (lv_at hl 0 rfl) ?_
    refine x_getk (ci := 12) (C := RX12) (F := TX12) (N := 36) (v := .ref y4) hx hb hts uX12 hown hkb hH 0 rfl rfl 4 (by decide) rfl kw_1227 (fun _ h9 => h9) dX12_codes_16 ?_
    refine lv_sipush (v := 401) hx hb dX12_codes_19 (by decide) ?_
    refine xa_ild hx hb hkb hH 1 rfl (by decide) (by decide) dX12_codes_22 ?_
    refine lv_topi (fun v22 ev22 => ?_)
    have tv22 : v22 = f4 401 := by rw [ev22]; rfl
    have hn9 : v22.toInt = ncd f4 := by rw [tv22]; rfl
    have bn9 := s_f4.2.2.2.2.2.2.1
    rw [← tv22] at bn9
    refine lv_iadd hx hb dX12_codes_23 ?_
    refine lv_topi (fun v23 ev23 => ?_)
    have tv23 : v23.toInt = (402) + v22.toInt := by rw [ev23]; exact add_i (by decide : (402 : Int32).toInt = 402) rfl (by omega) (by omega)
    refine lv_iload_n hx hb dX12_codes_24 rfl (lv_at hl 1 rfl) ?_
    refine xa_ist hx hb hkb hH hS 1 rfl (by omega) (by omega) dX12_codes_25 (fun H locs hH hS => ?_)
    have hH : HT D cs A T (a0 :: y4 :: O) ((a0, .inr (12, o0 :: o1 :: o2 :: (.ref y3) :: (.ref y4) :: o5 :: (.int y6) :: (.int y7) :: (.int y8) :: (.int y9) :: (.int y10) :: (.int y11) :: (.int y12) :: tl)) :: (y4, .inl (cs.2.1, 1302, .inl (upd f4 (v23.toInt.toNat) x1))) :: X) H := hH
    obtain ⟨F25, eF25⟩ : ∃ f9, f9 = upd f4 (v23.toInt.toNat) x1 := ⟨_, rfl⟩
    have hH : HT D cs A T (a0 :: y4 :: O) ((a0, .inr (12, o0 :: o1 :: o2 :: (.ref y3) :: (.ref y4) :: o5 :: (.int y6) :: (.int y7) :: (.int y8) :: (.int y9) :: (.int y10) :: (.int y11) :: (.int y12) :: tl)) :: (y4, .inl (cs.2.1, 1302, .inl F25)) :: X) H := eF25 ▸ hH
    refine lv_aload_n hx hb dX12_codes_26 rfl (lv_at hl 0 rfl) ?_
    refine x_getk (ci := 12) (C := RX12) (F := TX12) (N := 36) (v := .ref y4) hx hb hts uX12 hown hkb hH 0 rfl rfl 4 (by decide) rfl kw_1227 (fun _ h9 => h9) dX12_codes_27 ?_
    refine lv_sipush (v := 401) hx hb dX12_codes_30 (by decide) ?_
    refine lv_dup2_11 hx hb dX12_codes_33 rfl rfl ?_
    refine xa_ild hx hb hkb hH 1 rfl (by decide) (by decide) dX12_codes_34 ?_
    refine lv_topi (fun v34 ev34 => ?_)
    have tv34 : v34 = F25 401 := by rw [ev34]; rfl
    have hq9 : v34 = v22 := by rw [tv34, eF25, upd_ne (by omega), ← tv22]
    have hq8 : v34.toInt = v22.toInt := by rw [hq9]
    refine lv_iconst (v := 1) hx hb dX12_codes_35 (by decide) ?_
    refine lv_iadd hx hb dX12_codes_36 ?_
    refine lv_topi (fun v36 ev36 => ?_)
    have tv36 : v36.toInt = v34.toInt + (1) := by rw [ev36]; exact add_i rfl (by decide : (1 : Int32).toInt = 1) (by omega) (by omega)
    refine xa_ist hx hb hkb hH hS 1 rfl (by decide) (by decide) dX12_codes_37 (fun H locs hH hS => ?_)
    have hH : HT D cs A T (a0 :: y4 :: O) ((a0, .inr (12, o0 :: o1 :: o2 :: (.ref y3) :: (.ref y4) :: o5 :: (.int y6) :: (.int y7) :: (.int y8) :: (.int y9) :: (.int y10) :: (.int y11) :: (.int y12) :: tl)) :: (y4, .inl (cs.2.1, 1302, .inl (upd F25 (401) v36))) :: X) H := hH
    obtain ⟨F37, eF37⟩ : ∃ f9, f9 = upd F25 (401) v36 := ⟨_, rfl⟩
    have hH : HT D cs A T (a0 :: y4 :: O) ((a0, .inr (12, o0 :: o1 :: o2 :: (.ref y3) :: (.ref y4) :: o5 :: (.int y6) :: (.int y7) :: (.int y8) :: (.int y9) :: (.int y10) :: (.int y11) :: (.int y12) :: tl)) :: (y4, .inl (cs.2.1, 1302, .inl F37)) :: X) H := eF37 ▸ hH
    have hc9 := codes_end s_f4 tv22 tv23 eF25 tv34 tv36 eF37 (by omega) (fun q => absurd q (by omega))
    have hc8 := hc9.2.1
    have hc7 := dp_A (by omega) hc9.2.2
    have s_F37 := hc9.1
    exact te_v hx hb hr hlocks hH hS (⟨F37, rfl, s_F37, (fun _ => ⟨by omega, by omega⟩)⟩) dX12_codes_38
  · skip
    have tc4 := f_ne (k := 0) (by decide) c4
    exact te_v hx hb hr hlocks hH hS (⟨f4, rfl, s_f4, (fun q => absurd q tc4)⟩) dX12_codes_7
set_option maxHeartbeats 4000000 in
set_option maxRecDepth 100000 in
theorem s_M_codesN (l : Launch) (D : va_G) (cs : CS) (kf : KF) (T : TF) (O : List Nat) (X : va_W) (a0 hg mq : Nat) (x1 : Int32) (o0 : Value) (o1 : Value) (o2 : Value) (y3 : Nat) (y4 : Nat) (o5 : Value) (y6 : Int32) (y7 : Int32) (y8 : Int32) (y9 : Int32) (y10 : Int32) (y11 : Int32) (y12 : Int32) (tl : List Value) (f4 : Nat → Int32) (t_a0 : T a0 = some (22, hg, mq)) (b_hg : hg < 90) (l_x1 : 3008 ≤ x1.toInt) (u_x1 : x1.toInt ≤ 3008) (t_y3 : T y3 = some (1, 900, 0)) (t_y4 : T y4 = some (8, 1302, 0)) (l_y6 : 0 ≤ y6.toInt) (u_y6 : y6.toInt ≤ 900) (l_y7 : 0 ≤ y7.toInt) (u_y7 : y7.toInt ≤ 900) (l_y8 : 0 ≤ y8.toInt) (u_y8 : y8.toInt ≤ 900) (l_y10 : 0 ≤ y10.toInt) (u_y10 : y10.toInt ≤ 999) (s_f4 : S8 f4) (hN : CP y11 f4 1) (hO : okO T (a0 :: y4 :: O) []) : TK l D cs kf yX12_codes cX12_codes 2 none { frames := 0, cells := 0, slots := 0, locals := 0 } [.ref a0, .int x1] T (a0 :: y4 :: O) ((a0, .inr (12, o0 :: o1 :: o2 :: (.ref y3) :: (.ref y4) :: o5 :: (.int y6) :: (.int y7) :: (.int y8) :: (.int y9) :: (.int y10) :: (.int y11) :: (.int y12) :: tl)) :: (y4, .inl (cs.2.1, 1302, .inl f4)) :: X) (Tv D cs (fun u => ∃ (G1 : Nat → Int32), u = (T, a0 :: y4 :: O, (a0, .inr (12, o0 :: o1 :: o2 :: (.ref y3) :: (.ref y4) :: o5 :: (.int y6) :: (.int y7) :: (.int y8) :: (.int y9) :: (.int y10) :: (.int y11) :: (.int y12) :: tl)) :: (y4, .inl (cs.2.1, 1302, .inl G1)) :: X) ∧ (S8 G1) ∧ (CN y11 f4 G1 (0)))) := by
  refine tk_of (by decide) (Nat.le_of_ble_eq_true rfl) (fun p e s m below meth c ls A H locs hx hb hr hml hown hts hlocks hnm hkb hH hS hA hOX hks hE hl => ?_)
  have hown : s.vm.findClass RX12 = some m.cls := hown
  have hl : lv_has ls 2 [(0, .ref a0), (1, .int x1)] := hl
  have hOXf := hOX
  refine lv_aload_n hx hb dX12_codes_0 rfl (lv_at hl 0 rfl) ?_
  refine x_getk (ci := 12) (C := RX12) (F := TX12) (N := 36) (v := .int y11) hx hb hts uX12 hown hkb hH 0 rfl rfl 11 (by decide) rfl kw_1234 (fun _ h9 => h9) dX12_codes_1 ?_
  refine lv_if_eq (tgt := 8) hx hb dX12_codes_4 (by decide) (fun c4 => ?_) (fun c4 => ?_)
  · skip
    have tc4 := f_eq (k := 0) (by decide) c4
    have hN9 := hN (by omega)
    refine lv_aload_n hx hb dX12_codes_8 rfl (lv_at hl 0 rfl) ?_
    refine x_getk (ci := 12) (C := RX12) (F := TX12) (N := 36) (v := .ref y4) hx hb hts uX12 hown hkb hH 0 rfl rfl 4 (by decide) rfl kw_1227 (fun _ h9 => h9) dX12_codes_9 ?_
    refine lv_sipush (v := 402) hx hb dX12_codes_12 (by decide) ?_
    refine lv_aload_n hx hb dX12_codes_15 rfl (lv_at hl 0 rfl) ?_
    refine x_getk (ci := 12) (C := RX12) (F := TX12) (N := 36) (v := .ref y4) hx hb hts uX12 hown hkb hH 0 rfl rfl 4 (by decide) rfl kw_1227 (fun _ h9 => h9) dX12_codes_16 ?_
    refine lv_sipush (v := 401) hx hb dX12_codes_19 (by decide) ?_
    refine xa_ild hx hb hkb hH 1 rfl (by decide) (by decide) dX12_codes_22 ?_
    refine lv_topi (fun v22 ev22 => ?_)
    have tv22 : v22 = f4 401 := by rw [ev22]; rfl
    have hn9 : v22.toInt = ncd f4 := by rw [tv22]; rfl
    have bn9 := s_f4.2.2.2.2.2.2.1
    rw [← tv22] at bn9
    refine lv_iadd hx hb dX12_codes_23 ?_
    refine lv_topi (fun v23 ev23 => ?_)
    have tv23 : v23.toInt = (402) + v22.toInt := by rw [ev23]; exact add_i (by decide : (402 : Int32).toInt = 402) rfl (by omega) (by omega)
    refine lv_iload_n hx hb dX12_codes_24 rfl (lv_at hl 1 rfl) ?_
    refine xa_ist hx hb hkb hH hS 1 rfl (by omega) (by omega) dX12_codes_25 (fun H locs hH hS => ?_)
    have hH : HT D cs A T (a0 :: y4 :: O) ((a0, .inr (12, o0 :: o1 :: o2 :: (.ref y3) :: (.ref y4) :: o5 :: (.int y6) :: (.int y7) :: (.int y8) :: (.int y9) :: (.int y10) :: (.int y11) :: (.int y12) :: tl)) :: (y4, .inl (cs.2.1, 1302, .inl (upd f4 (v23.toInt.toNat) x1))) :: X) H := hH
    obtain ⟨F25, eF25⟩ : ∃ f9, f9 = upd f4 (v23.toInt.toNat) x1 := ⟨_, rfl⟩
    have hH : HT D cs A T (a0 :: y4 :: O) ((a0, .inr (12, o0 :: o1 :: o2 :: (.ref y3) :: (.ref y4) :: o5 :: (.int y6) :: (.int y7) :: (.int y8) :: (.int y9) :: (.int y10) :: (.int y11) :: (.int y12) :: tl)) :: (y4, .inl (cs.2.1, 1302, .inl F25)) :: X) H := eF25 ▸ hH
    refine lv_aload_n hx hb dX12_codes_26 rfl (lv_at hl 0 rfl) ?_
    refine x_getk (ci := 12) (C := RX12) (F := TX12) (N := 36) (v := .ref y4) hx hb hts uX12 hown hkb hH 0 rfl rfl 4 (by decide) rfl kw_1227 (fun _ h9 => h9) dX12_codes_27 ?_
    refine lv_sipush (v := 401) hx hb dX12_codes_30 (by decide) ?_
    refine lv_dup2_11 hx hb dX12_codes_33 rfl rfl ?_
    refine xa_ild hx hb hkb hH 1 rfl (by decide) (by decide) dX12_codes_34 ?_
    refine lv_topi (fun v34 ev34 => ?_)
    have tv34 : v34 = F25 401 := by rw [ev34]; rfl
    have hq9 : v34 = v22 := by rw [tv34, eF25, upd_ne (by omega), ← tv22]
    have hq8 : v34.toInt = v22.toInt := by rw [hq9]
    refine lv_iconst (v := 1) hx hb dX12_codes_35 (by decide) ?_
    refine lv_iadd hx hb dX12_codes_36 ?_
    refine lv_topi (fun v36 ev36 => ?_)
    have tv36 : v36.toInt = v34.toInt + (1) := by rw [ev36]; exact add_i rfl (by decide : (1 : Int32).toInt = 1) (by omega) (by omega)
    refine xa_ist hx hb hkb hH hS 1 rfl (by decide) (by decide) dX12_codes_37 (fun H locs hH hS => ?_)
    have hH : HT D cs A T (a0 :: y4 :: O) ((a0, .inr (12, o0 :: o1 :: o2 :: (.ref y3) :: (.ref y4) :: o5 :: (.int y6) :: (.int y7) :: (.int y8) :: (.int y9) :: (.int y10) :: (.int y11) :: (.int y12) :: tl)) :: (y4, .inl (cs.2.1, 1302, .inl (upd F25 (401) v36))) :: X) H := hH
    obtain ⟨F37, eF37⟩ : ∃ f9, f9 = upd F25 (401) v36 := ⟨_, rfl⟩
    have hH : HT D cs A T (a0 :: y4 :: O) ((a0, .inr (12, o0 :: o1 :: o2 :: (.ref y3) :: (.ref y4) :: o5 :: (.int y6) :: (.int y7) :: (.int y8) :: (.int y9) :: (.int y10) :: (.int y11) :: (.int y12) :: tl)) :: (y4, .inl (cs.2.1, 1302, .inl F37)) :: X) H := eF37 ▸ hH
    have hc9 := codes_end s_f4 tv22 tv23 eF25 tv34 tv36 eF37 (by omega) (fun _ => ⟨by omega, fun q => absurd (show x1.toInt = 3008 by omega) q⟩)
    have hc8 := hc9.2.1
    have hc7 := dp_N (by omega) hc9.2.2
    have s_F37 := hc9.1
    exact te_v hx hb hr hlocks hH hS (⟨F37, rfl, s_F37, (fun _ => ⟨by omega, by omega⟩)⟩) dX12_codes_38
  · skip
    have tc4 := f_ne (k := 0) (by decide) c4
    exact te_v hx hb hr hlocks hH hS (⟨f4, rfl, s_f4, (fun q => absurd q tc4)⟩) dX12_codes_7
set_option maxHeartbeats 4000000 in
set_option maxRecDepth 100000 in
theorem s_M_codesO (l : Launch) (D : va_G) (cs : CS) (kf : KF) (T : TF) (O : List Nat) (X : va_W) (a0 hg mq : Nat) (x1 : Int32) (o0 : Value) (o1 : Value) (o2 : Value) (y3 : Nat) (y4 : Nat) (o5 : Value) (y6 : Int32) (y7 : Int32) (y8 : Int32) (y9 : Int32) (y10 : Int32) (y11 : Int32) (y12 : Int32) (tl : List Value) (f4 : Nat → Int32) (t_a0 : T a0 = some (22, hg, mq)) (b_hg : hg < 90) (l_x1 : 3000 ≤ x1.toInt) (u_x1 : x1.toInt ≤ 3007) (t_y3 : T y3 = some (1, 900, 0)) (t_y4 : T y4 = some (8, 1302, 0)) (l_y6 : 0 ≤ y6.toInt) (u_y6 : y6.toInt ≤ 900) (l_y7 : 0 ≤ y7.toInt) (u_y7 : y7.toInt ≤ 900) (l_y8 : 0 ≤ y8.toInt) (u_y8 : y8.toInt ≤ 900) (l_y10 : 0 ≤ y10.toInt) (u_y10 : y10.toInt ≤ 999) (s_f4 : S8 f4) (hN : CP y11 f4 2) (hO : okO T (a0 :: y4 :: O) []) : TK l D cs kf yX12_codes cX12_codes 2 none { frames := 0, cells := 0, slots := 0, locals := 0 } [.ref a0, .int x1] T (a0 :: y4 :: O) ((a0, .inr (12, o0 :: o1 :: o2 :: (.ref y3) :: (.ref y4) :: o5 :: (.int y6) :: (.int y7) :: (.int y8) :: (.int y9) :: (.int y10) :: (.int y11) :: (.int y12) :: tl)) :: (y4, .inl (cs.2.1, 1302, .inl f4)) :: X) (Tv D cs (fun u => ∃ (G1 : Nat → Int32), u = (T, a0 :: y4 :: O, (a0, .inr (12, o0 :: o1 :: o2 :: (.ref y3) :: (.ref y4) :: o5 :: (.int y6) :: (.int y7) :: (.int y8) :: (.int y9) :: (.int y10) :: (.int y11) :: (.int y12) :: tl)) :: (y4, .inl (cs.2.1, 1302, .inl G1)) :: X) ∧ (S8 G1) ∧ (CN y11 f4 G1 (-1)))) := by
  refine tk_of (by decide) (Nat.le_of_ble_eq_true rfl) (fun p e s m below meth c ls A H locs hx hb hr hml hown hts hlocks hnm hkb hH hS hA hOX hks hE hl => ?_)
  have hown : s.vm.findClass RX12 = some m.cls := hown
  have hl : lv_has ls 2 [(0, .ref a0), (1, .int x1)] := hl
  have hOXf := hOX
  refine lv_aload_n hx hb dX12_codes_0 rfl (lv_at hl 0 rfl) ?_
  refine x_getk (ci := 12) (C := RX12) (F := TX12) (N := 36) (v := .int y11) hx hb hts uX12 hown hkb hH 0 rfl rfl 11 (by decide) rfl kw_1234 (fun _ h9 => h9) dX12_codes_1 ?_
  refine lv_if_eq (tgt := 8) hx hb dX12_codes_4 (by decide) (fun c4 => ?_) (fun c4 => ?_)
  · skip
    have tc4 := f_eq (k := 0) (by decide) c4
    have hN9 := hN (by omega)
    refine lv_aload_n hx hb dX12_codes_8 rfl (lv_at hl 0 rfl) ?_
    refine x_getk (ci := 12) (C := RX12) (F := TX12) (N := 36) (v := .ref y4) hx hb hts uX12 hown hkb hH 0 rfl rfl 4 (by decide) rfl kw_1227 (fun _ h9 => h9) dX12_codes_9 ?_
    refine lv_sipush (v := 402) hx hb dX12_codes_12 (by decide) ?_
    refine lv_aload_n hx hb dX12_codes_15 rfl (lv_at hl 0 rfl) ?_
    refine x_getk (ci := 12) (C := RX12) (F := TX12) (N := 36) (v := .ref y4) hx hb hts uX12 hown hkb hH 0 rfl rfl 4 (by decide) rfl kw_1227 (fun _ h9 => h9) dX12_codes_16 ?_
    refine lv_sipush (v := 401) hx hb dX12_codes_19 (by decide) ?_
    refine xa_ild hx hb hkb hH 1 rfl (by decide) (by decide) dX12_codes_22 ?_
    refine lv_topi (fun v22 ev22 => ?_)
    have tv22 : v22 = f4 401 := by rw [ev22]; rfl
    have hn9 : v22.toInt = ncd f4 := by rw [tv22]; rfl
    have bn9 := s_f4.2.2.2.2.2.2.1
    rw [← tv22] at bn9
    refine lv_iadd hx hb dX12_codes_23 ?_
    refine lv_topi (fun v23 ev23 => ?_)
    have tv23 : v23.toInt = (402) + v22.toInt := by rw [ev23]; exact add_i (by decide : (402 : Int32).toInt = 402) rfl (by omega) (by omega)
    refine lv_iload_n hx hb dX12_codes_24 rfl (lv_at hl 1 rfl) ?_
    refine xa_ist hx hb hkb hH hS 1 rfl (by omega) (by omega) dX12_codes_25 (fun H locs hH hS => ?_)
    have hH : HT D cs A T (a0 :: y4 :: O) ((a0, .inr (12, o0 :: o1 :: o2 :: (.ref y3) :: (.ref y4) :: o5 :: (.int y6) :: (.int y7) :: (.int y8) :: (.int y9) :: (.int y10) :: (.int y11) :: (.int y12) :: tl)) :: (y4, .inl (cs.2.1, 1302, .inl (upd f4 (v23.toInt.toNat) x1))) :: X) H := hH
    obtain ⟨F25, eF25⟩ : ∃ f9, f9 = upd f4 (v23.toInt.toNat) x1 := ⟨_, rfl⟩
    have hH : HT D cs A T (a0 :: y4 :: O) ((a0, .inr (12, o0 :: o1 :: o2 :: (.ref y3) :: (.ref y4) :: o5 :: (.int y6) :: (.int y7) :: (.int y8) :: (.int y9) :: (.int y10) :: (.int y11) :: (.int y12) :: tl)) :: (y4, .inl (cs.2.1, 1302, .inl F25)) :: X) H := eF25 ▸ hH
    refine lv_aload_n hx hb dX12_codes_26 rfl (lv_at hl 0 rfl) ?_
    refine x_getk (ci := 12) (C := RX12) (F := TX12) (N := 36) (v := .ref y4) hx hb hts uX12 hown hkb hH 0 rfl rfl 4 (by decide) rfl kw_1227 (fun _ h9 => h9) dX12_codes_27 ?_
    refine lv_sipush (v := 401) hx hb dX12_codes_30 (by decide) ?_
    refine lv_dup2_11 hx hb dX12_codes_33 rfl rfl ?_
    refine xa_ild hx hb hkb hH 1 rfl (by decide) (by decide) dX12_codes_34 ?_
    refine lv_topi (fun v34 ev34 => ?_)
    have tv34 : v34 = F25 401 := by rw [ev34]; rfl
    have hq9 : v34 = v22 := by rw [tv34, eF25, upd_ne (by omega), ← tv22]
    have hq8 : v34.toInt = v22.toInt := by rw [hq9]
    refine lv_iconst (v := 1) hx hb dX12_codes_35 (by decide) ?_
    refine lv_iadd hx hb dX12_codes_36 ?_
    refine lv_topi (fun v36 ev36 => ?_)
    have tv36 : v36.toInt = v34.toInt + (1) := by rw [ev36]; exact add_i rfl (by decide : (1 : Int32).toInt = 1) (by omega) (by omega)
    refine xa_ist hx hb hkb hH hS 1 rfl (by decide) (by decide) dX12_codes_37 (fun H locs hH hS => ?_)
    have hH : HT D cs A T (a0 :: y4 :: O) ((a0, .inr (12, o0 :: o1 :: o2 :: (.ref y3) :: (.ref y4) :: o5 :: (.int y6) :: (.int y7) :: (.int y8) :: (.int y9) :: (.int y10) :: (.int y11) :: (.int y12) :: tl)) :: (y4, .inl (cs.2.1, 1302, .inl (upd F25 (401) v36))) :: X) H := hH
    obtain ⟨F37, eF37⟩ : ∃ f9, f9 = upd F25 (401) v36 := ⟨_, rfl⟩
    have hH : HT D cs A T (a0 :: y4 :: O) ((a0, .inr (12, o0 :: o1 :: o2 :: (.ref y3) :: (.ref y4) :: o5 :: (.int y6) :: (.int y7) :: (.int y8) :: (.int y9) :: (.int y10) :: (.int y11) :: (.int y12) :: tl)) :: (y4, .inl (cs.2.1, 1302, .inl F37)) :: X) H := eF37 ▸ hH
    have hc9 := codes_end s_f4 tv22 tv23 eF25 tv34 tv36 eF37 (by omega) (fun _ => ⟨by omega, fun _ => by omega⟩)
    have hc8 := hc9.2.1
    have hc7 := dp_O (by omega) (by omega) hc9.2.2
    have s_F37 := hc9.1
    exact te_v hx hb hr hlocks hH hS (⟨F37, rfl, s_F37, (fun _ => ⟨by omega, by omega⟩)⟩) dX12_codes_38
  · skip
    have tc4 := f_ne (k := 0) (by decide) c4
    exact te_v hx hb hr hlocks hH hS (⟨f4, rfl, s_f4, (fun q => absurd q tc4)⟩) dX12_codes_7
