set_option maxHeartbeats 4000000 in
set_option maxRecDepth 100000 in
theorem s_M_isSmall2 (l : Launch) (D : va_G) (cs : CS) (kf : KF) (T : TF) (O : List Nat) (X : va_W) (x0 : Int32)  (hO : okO T O []) : TK l D cs kf yX12_isSmall cX12_isSmall 1 (some (.boolean)) { frames := 0, cells := 0, slots := 0, locals := 0 } [.int x0] T O X (Ti D cs (fun r u => u = (T, O, X) ∧ 0 ≤ r.toInt ∧ r.toInt ≤ 1 ∧ (r.toInt = 0 ∨ (97 ≤ x0.toInt ∧ x0.toInt ≤ 122)) ∧ (¬ r.toInt = 0 ∨ x0.toInt < 97 ∨ 122 < x0.toInt))) := by
  refine tk_of (by decide) (Nat.le_of_ble_eq_true rfl) (fun p e s m below meth c ls A H locs hx hb hr hml hown hts hlocks hnm hkb hH hS hA hOX hks hE hl => ?_)
  have hown : s.vm.findClass RX12 = some m.cls := hown
  have hl : lv_has ls 1 [(0, .int x0)] := hl
  refine lv_iload_n hx hb dX12_isSmall_0 rfl (lv_at hl 0 rfl) ?_
  refine lv_bipush (v := 97) hx hb dX12_isSmall_1 (by decide) ?_
  refine lv_icmp_lt (tgt := 16) hx hb dX12_isSmall_3 (by decide) (fun c3 => ?_) (fun c3 => ?_)
  · skip
    have tc3 := f_lt (k := 97) (by decide) c3
    refine lv_iconst (v := 0) hx hb dX12_isSmall_16 (by decide) ?_
    have z9 : (0 : Int32).toInt = 0 := by decide
    exact te_z hx hb hr hlocks (by rfl) hH hS (⟨rfl, by decide, by decide, by omega, by omega⟩) dX12_isSmall_17
  · skip
    have tc3 := f_nlt (k := 97) (by decide) c3
    refine lv_iload_n hx hb dX12_isSmall_6 rfl (lv_at hl 0 rfl) ?_
    refine lv_bipush (v := 122) hx hb dX12_isSmall_7 (by decide) ?_
    refine lv_icmp_gt (tgt := 16) hx hb dX12_isSmall_9 (by decide) (fun c9 => ?_) (fun c9 => ?_)
    · skip
      have tc9 := f_gt (k := 122) (by decide) c9
      refine lv_iconst (v := 0) hx hb dX12_isSmall_16 (by decide) ?_
      have z9 : (0 : Int32).toInt = 0 := by decide
      exact te_z hx hb hr hlocks (by rfl) hH hS (⟨rfl, by decide, by decide, by omega, by omega⟩) dX12_isSmall_17
    · skip
      have tc9 := f_ngt (k := 122) (by decide) c9
      refine lv_iconst (v := 1) hx hb dX12_isSmall_12 (by decide) ?_
      refine lv_goto (tgt := 17) hx hb dX12_isSmall_13 (by decide) ?_
      have z9 : (1 : Int32).toInt = 1 := by decide
      exact te_z hx hb hr hlocks (by rfl) hH hS (⟨rfl, by decide, by decide, by omega, by omega⟩) dX12_isSmall_17
set_option maxHeartbeats 4000000 in
set_option maxRecDepth 100000 in
theorem s_M_isDigit2 (l : Launch) (D : va_G) (cs : CS) (kf : KF) (T : TF) (O : List Nat) (X : va_W) (x0 : Int32)  (hO : okO T O []) : TK l D cs kf yX12_isDigit cX12_isDigit 1 (some (.boolean)) { frames := 0, cells := 0, slots := 0, locals := 0 } [.int x0] T O X (Ti D cs (fun r u => u = (T, O, X) ∧ 0 ≤ r.toInt ∧ r.toInt ≤ 1 ∧ (r.toInt = 0 ∨ (48 ≤ x0.toInt ∧ x0.toInt ≤ 57)) ∧ (¬ r.toInt = 0 ∨ x0.toInt < 48 ∨ 57 < x0.toInt))) := by
  refine tk_of (by decide) (Nat.le_of_ble_eq_true rfl) (fun p e s m below meth c ls A H locs hx hb hr hml hown hts hlocks hnm hkb hH hS hA hOX hks hE hl => ?_)
  have hown : s.vm.findClass RX12 = some m.cls := hown
  have hl : lv_has ls 1 [(0, .int x0)] := hl
  refine lv_iload_n hx hb dX12_isDigit_0 rfl (lv_at hl 0 rfl) ?_
  refine lv_bipush (v := 48) hx hb dX12_isDigit_1 (by decide) ?_
  refine lv_icmp_lt (tgt := 16) hx hb dX12_isDigit_3 (by decide) (fun c3 => ?_) (fun c3 => ?_)
  · skip
    have tc3 := f_lt (k := 48) (by decide) c3
    refine lv_iconst (v := 0) hx hb dX12_isDigit_16 (by decide) ?_
    have z9 : (0 : Int32).toInt = 0 := by decide
    exact te_z hx hb hr hlocks (by rfl) hH hS (⟨rfl, by decide, by decide, by omega, by omega⟩) dX12_isDigit_17
  · skip
    have tc3 := f_nlt (k := 48) (by decide) c3
    refine lv_iload_n hx hb dX12_isDigit_6 rfl (lv_at hl 0 rfl) ?_
    refine lv_bipush (v := 57) hx hb dX12_isDigit_7 (by decide) ?_
    refine lv_icmp_gt (tgt := 16) hx hb dX12_isDigit_9 (by decide) (fun c9 => ?_) (fun c9 => ?_)
    · skip
      have tc9 := f_gt (k := 57) (by decide) c9
      refine lv_iconst (v := 0) hx hb dX12_isDigit_16 (by decide) ?_
      have z9 : (0 : Int32).toInt = 0 := by decide
      exact te_z hx hb hr hlocks (by rfl) hH hS (⟨rfl, by decide, by decide, by omega, by omega⟩) dX12_isDigit_17
    · skip
      have tc9 := f_ngt (k := 57) (by decide) c9
      refine lv_iconst (v := 1) hx hb dX12_isDigit_12 (by decide) ?_
      refine lv_goto (tgt := 17) hx hb dX12_isDigit_13 (by decide) ?_
      have z9 : (1 : Int32).toInt = 1 := by decide
      exact te_z hx hb hr hlocks (by rfl) hH hS (⟨rfl, by decide, by decide, by omega, by omega⟩) dX12_isDigit_17
set_option maxHeartbeats 4000000 in
set_option maxRecDepth 100000 in
theorem s_L1charAt2 (l : Launch) (D : va_G) (cs : CS) (kf : KF) (T : TF) (O : List Nat) (X : va_W) (a0 : Nat) (x1 : Int32) (t_a0 : a0 < 21) (l_x1 : 0 ≤ x1.toInt) (u_x1 : x1.toInt < (slen.getD a0 0 : Nat)) (hO : okO T O []) : TK l D cs kf yJ1_charAt_3b067 cJ1_charAt_3b067 2 (some (.char)) { frames := 2, cells := 0, slots := 0, locals := 43 } [.ref (kf.2 a0), .int x1] T O X (Ti D cs (fun r u => u = (T, O, X) ∧ 0 ≤ r.toInt ∧ r.toInt ≤ 255 ∧ (r = chF a0 x1.toInt.toNat))) := by
  refine tk_of (by decide) (Nat.le_of_ble_eq_true rfl) (fun p e s m below meth c ls A H locs hx hb hr hml hown hts hlocks hnm hkb hH hS hA hOX hks hE hl => ?_)
  have hown : s.vm.findClass RJ1 = some m.cls := hown
  have hl : lv_has ls 2 [(0, .ref (kf.2 a0)), (1, .int x1)] := hl
  refine lv_iload_n hx hb dJ1_charAt_3b067_0 rfl (lv_at hl 1 rfl) ?_
  refine lv_aload_n hx hb dJ1_charAt_3b067_1 rfl (lv_at hl 0 rfl) ?_
  refine va_tlen (v := nI (slen.getD a0 0)) hx hb (hE.1.1 a0 t_a0).2.2.2 hS rfl dJ1_charAt_3b067_2 ?_
  have b9_a0 := slen_b a0
  have e9_a0 : (nI (slen.getD a0 0)).toInt = (slen.getD a0 0 : Nat) := nI_toInt (by omega)
  refine tk_v hH hS hA (tr_S (n := 2) (As := [.int x1, .int (nI (slen.getD a0 0))]) hx hb hml hown hts hkb hH hOX hks hE hS hA (s_checkIndex l D cs kf T O X x1 (nI (slen.getD a0 0)) (by omega) (by omega) (hO.sub (by decide))) kw_562 kw_563 kw_14 kw_564 (by decide +kernel) ⟨Nat.le_of_ble_eq_true rfl, Nat.le_of_ble_eq_true rfl⟩ rfl rfl hl.1 (Nat.le_of_ble_eq_true rfl) dJ1_charAt_3b067_3 ⟨Nat.le_of_ble_eq_true rfl, Nat.le_of_ble_eq_true rfl⟩) (fun u H locs hz9 hH hS => ?_)
  have hz9 : u = (T, O, X) := hz9
  subst hz9
  have hH : HT D cs A T O X H := hH
  refine W.widen (k := 0) (n := 0) (Nat.le_of_ble_eq_true rfl) (Nat.le_of_ble_eq_true rfl) ?_
  refine lv_aload_n hx hb dJ1_charAt_3b067_6 rfl (lv_at hl 0 rfl) ?_
  refine lv_iload_n hx hb dJ1_charAt_3b067_7 rfl (lv_at hl 1 rfl) ?_
  refine va_tb (v := .int ((sbyt.getD a0 []).getD (Int32.toNatClampNeg x1) 0)) hx hb (hE.1.1 a0 t_a0).2.2.2 hS (in_t (by omega) (by omega)) rfl dJ1_charAt_3b067_8 ?_
  refine lv_topi (fun v8 ev8 => ?_)
  refine lv_sipush (v := 255) hx hb dJ1_charAt_3b067_9 (by decide) ?_
  refine lv_iand hx hb dJ1_charAt_3b067_12 ?_
  refine lv_topi (fun v12 ev12 => ?_)
  have tv12 : 0 ≤ v12.toInt ∧ v12.toInt ≤ 255 := by rw [ev12]; exact and_r (by decide)
  refine lv_i2c (v := v12) hx hb dJ1_charAt_3b067_13 (i2c_id (by omega) (by omega)) ?_
  exact te_n hx hb hr hlocks (narc (by omega) (by omega)) hH hS (⟨rfl, by omega, by omega, (ch_and (show v8 = chF a0 x1.toInt.toNat from ev8) ev12).1⟩) dJ1_charAt_3b067_14
set_option maxHeartbeats 4000000 in
set_option maxRecDepth 100000 in
theorem s_charAt2 (l : Launch) (D : va_G) (cs : CS) (kf : KF) (T : TF) (O : List Nat) (X : va_W) (a0 : Nat) (x1 : Int32) (t_a0 : a0 < 21) (l_x1 : 0 ≤ x1.toInt) (u_x1 : x1.toInt < (slen.getD a0 0 : Nat)) (hO : okO T O []) : TK l D cs kf yJ0_charAt_5068e cJ0_charAt_5068e 2 (some (.char)) { frames := 3, cells := 0, slots := 0, locals := 64 } [.ref (kf.1 a0), .int x1] T O X (Ti D cs (fun r u => u = (T, O, X) ∧ 0 ≤ r.toInt ∧ r.toInt ≤ 255 ∧ (r = chF a0 x1.toInt.toNat))) := by
  refine tk_of (by decide) (Nat.le_of_ble_eq_true rfl) (fun p e s m below meth c ls A H locs hx hb hr hml hown hts hlocks hnm hkb hH hS hA hOX hks hE hl => ?_)
  have hown : s.vm.findClass RJ0 = some m.cls := hown
  have hl : lv_has ls 2 [(0, .ref (kf.1 a0)), (1, .int x1)] := hl
  refine lv_aload_n hx hb dJ0_charAt_5068e_0 rfl (lv_at hl 0 rfl) ?_
  refine tk_i hH hS hA (tr_V (n := 0) (As := []) hx hb hml hown hts hkb hH hOX hks hE hS hA (s_isLatin1 l D cs kf T O X a0 t_a0 (hO.sub (by decide))) kw_471 kw_472 kw_473 kw_14 kw_474 (by decide +kernel) ⟨Nat.le_of_ble_eq_true rfl, Nat.le_of_ble_eq_true rfl⟩ (vk_recv hE.1 t_a0 hS) rfl rfl hl.1 (Nat.le_of_ble_eq_true rfl) dJ0_charAt_5068e_1 ⟨Nat.le_of_ble_eq_true rfl, Nat.le_of_ble_eq_true rfl⟩) (fun v1 u H locs hz9 hH hS => ?_)
  obtain ⟨rfl, l_v1, u_v1⟩ := hz9
  refine lv_topc (y := 1) (eq_c (by decide) l_v1 u_v1) ?_
  have hH : HT D cs A T O X H := hH
  refine W.widen (k := 0) (n := 0) (Nat.le_of_ble_eq_true rfl) (Nat.le_of_ble_eq_true rfl) ?_
  refine lv_if_eq (tgt := 16) hx hb dJ0_charAt_5068e_4 (by decide) (fun c4 => absurd c4 (by decide)) (fun _ => ?_)
  refine lv_aload_n hx hb dJ0_charAt_5068e_7 rfl (lv_at hl 0 rfl) ?_
  refine vk_getf hx hb (hE.1.1 a0 t_a0).2.2.1 hS hown (hts _ kw_1790) (fun _ h9 => h9) dJ0_charAt_5068e_8 ?_
  refine lv_iload_n hx hb dJ0_charAt_5068e_11 rfl (lv_at hl 1 rfl) ?_
  refine tk_i hH hS hA (tr_S (n := 2) (As := [.ref (kf.2 a0), .int x1]) hx hb hml hown hts hkb hH hOX hks hE hS hA (s_L1charAt2 l D cs kf T O X a0 x1 t_a0 (by omega) (by omega) (hO.sub (by decide))) kw_559 kw_560 kw_15 kw_561 (by decide +kernel) ⟨Nat.le_of_ble_eq_true rfl, Nat.le_of_ble_eq_true rfl⟩ rfl rfl hl.1 (Nat.le_of_ble_eq_true rfl) dJ0_charAt_5068e_12 ⟨Nat.le_of_ble_eq_true rfl, Nat.le_of_ble_eq_true rfl⟩) (fun v12 u H locs hz9 hH hS => ?_)
  obtain ⟨rfl, l_v12, u_v12, x_v120⟩ := hz9
  have hH : HT D cs A T O X H := hH
  refine W.widen (k := 0) (n := 0) (Nat.le_of_ble_eq_true rfl) (Nat.le_of_ble_eq_true rfl) ?_
  exact te_n hx hb hr hlocks (narc (by omega) (by omega)) hH hS (⟨rfl, by omega, by omega, x_v120⟩) dJ0_charAt_5068e_15
set_option maxHeartbeats 4000000 in
set_option maxRecDepth 100000 in
theorem s_M_see (l : Launch) (D : va_G) (cs : CS) (kf : KF) (T : TF) (O : List Nat) (X : va_W) (a0 hg mq : Nat) (x1 : Int32) (f3 : Nat → Int32) (o0 : Value) (o1 : Value) (o2 : Value) (y3 : Nat) (y4 : Nat) (o5 : Value) (y6 : Int32) (y7 : Int32) (y8 : Int32) (y9 : Int32) (y10 : Int32) (y11 : Int32) (y12 : Int32) (tl : List Value) (t_a0 : T a0 = some (22, hg, mq)) (b_hg : hg < 90) (l_x1 : 0 ≤ x1.toInt) (t_y3 : T y3 = some (1, 900, 0)) (t_y4 : T y4 = some (8, 1302, 0)) (l_y6 : 0 ≤ y6.toInt) (u_y6 : y6.toInt ≤ 900) (l_y7 : 0 ≤ y7.toInt) (u_y7 : y7.toInt ≤ 900) (l_y8 : 0 ≤ y8.toInt) (u_y8 : y8.toInt ≤ 900) (l_y10 : 0 ≤ y10.toInt) (u_y10 : y10.toInt ≤ 999) (hO : okO T (y3 :: a0 :: O) []) : TK l D cs kf yX12_see cX12_see 2 (some (.int)) { frames := 0, cells := 0, slots := 0, locals := 0 } [.ref a0, .int x1] T (y3 :: a0 :: O) ((y3, .inl (cs.2.1, 900, .inl f3)) :: (a0, .inr (12, o0 :: o1 :: o2 :: (.ref y3) :: (.ref y4) :: o5 :: (.int y6) :: (.int y7) :: (.int y8) :: (.int y9) :: (.int y10) :: (.int y11) :: (.int y12) :: tl)) :: X) (Ti D cs (fun r u => u = (T, y3 :: a0 :: O, (y3, .inl (cs.2.1, 900, .inl f3)) :: (a0, .inr (12, o0 :: o1 :: o2 :: (.ref y3) :: (.ref y4) :: o5 :: (.int y6) :: (.int y7) :: (.int y8) :: (.int y9) :: (.int y10) :: (.int y11) :: (.int y12) :: tl)) :: X) ∧ (r = seeF f3 y8 x1) ∧ (r.toInt = -1 ∨ x1.toInt < y8.toInt))) := by
  refine tk_of (by decide) (Nat.le_of_ble_eq_true rfl) (fun p e s m below meth c ls A H locs hx hb hr hml hown hts hlocks hnm hkb hH hS hA hOX hks hE hl => ?_)
  have hown : s.vm.findClass RX12 = some m.cls := hown
  have hl : lv_has ls 2 [(0, .ref a0), (1, .int x1)] := hl
  have hOXf := hOX
  refine lv_iload_n hx hb dX12_see_0 rfl (lv_at hl 1 rfl) ?_
  refine lv_aload_n hx hb dX12_see_1 rfl (lv_at hl 0 rfl) ?_
  refine x_getk (ci := 12) (C := RX12) (F := TX12) (N := 36) (v := .int y8) hx hb hts uX12 hown hkb hH 1 rfl rfl 8 (by decide) rfl kw_1231 (fun _ h9 => h9) dX12_see_2 ?_
  refine lv_icmp_ge (tgt := 17) hx hb dX12_see_5 (by decide) (fun c5 => ?_) (fun c5 => ?_)
  · skip
    have fuc5 := full_i x1
    have fvc5 := full_i y8
    have tc5 := g_le c5
    refine lv_iconst (v := (-1)) hx hb dX12_see_17 (by decide) ?_
    have z9_m1 : ((-1) : Int32).toInt = -1 := by decide
    exact te_i hx hb hr hlocks hH hS (⟨rfl, see_ge tc5, by omega⟩) dX12_see_18
  · skip
    have fuc5 := full_i x1
    have fvc5 := full_i y8
    have tc5 := g_nle c5
    refine lv_aload_n hx hb dX12_see_8 rfl (lv_at hl 0 rfl) ?_
    refine x_getk (ci := 12) (C := RX12) (F := TX12) (N := 36) (v := .ref y3) hx hb hts uX12 hown hkb hH 1 rfl rfl 3 (by decide) rfl kw_1226 (fun _ h9 => h9) dX12_see_9 ?_
    refine lv_iload_n hx hb dX12_see_12 rfl (lv_at hl 1 rfl) ?_
    refine xa_ild hx hb hkb hH 0 rfl (by omega) (by omega) dX12_see_13 ?_
    refine lv_topi (fun v13 ev13 => ?_)
    have tv13 : v13 = f3 x1.toInt.toNat := ev13
    refine lv_goto (tgt := 18) hx hb dX12_see_14 (by decide) ?_
    exact te_i hx hb hr hlocks hH hS (⟨rfl, see_lt tc5 tv13, by omega⟩) dX12_see_18
set_option maxHeartbeats 4000000 in
set_option maxRecDepth 100000 in
theorem s_M_keyAt (l : Launch) (D : va_G) (cs : CS) (kf : KF) (T : TF) (O : List Nat) (X : va_W) (a0 hg mq : Nat) (f3 : Nat → Int32) (o0 : Value) (o1 : Value) (o2 : Value) (y3 : Nat) (y4 : Nat) (o5 : Value) (y6 : Int32) (y7 : Int32) (y8 : Int32) (y9 : Int32) (y10 : Int32) (y11 : Int32) (y12 : Int32) (tl : List Value) (t_a0 : T a0 = some (22, hg, mq)) (b_hg : hg < 90) (t_y3 : T y3 = some (1, 900, 0)) (t_y4 : T y4 = some (8, 1302, 0)) (l_y6 : 0 ≤ y6.toInt) (u_y6 : y6.toInt ≤ 900) (l_y7 : 0 ≤ y7.toInt) (u_y7 : y7.toInt ≤ 900) (l_y8 : 0 ≤ y8.toInt) (u_y8 : y8.toInt ≤ 900) (l_y10 : 0 ≤ y10.toInt) (u_y10 : y10.toInt ≤ 999) (k1 : y6.toInt ≤ y7.toInt) (hO : okO T (y3 :: a0 :: O) []) : TK l D cs kf yX12_keyAt cX12_keyAt 4 (some (.int)) { frames := 4, cells := 0, slots := 0, locals := 85 } [.ref a0] T (y3 :: a0 :: O) ((y3, .inl (cs.2.1, 900, .inl f3)) :: (a0, .inr (12, o0 :: o1 :: o2 :: (.ref y3) :: (.ref y4) :: o5 :: (.int y6) :: (.int y7) :: (.int y8) :: (.int y9) :: (.int y10) :: (.int y11) :: (.int y12) :: tl)) :: X) (Ti D cs (fun r u => u = (T, y3 :: a0 :: O, (y3, .inl (cs.2.1, 900, .inl f3)) :: (a0, .inr (12, o0 :: o1 :: o2 :: (.ref y3) :: (.ref y4) :: o5 :: (.int y6) :: (.int y7) :: (.int y8) :: (.int y9) :: (.int y10) :: (.int y11) :: (.int y12) :: tl)) :: X))) := by
  refine tk_of (by decide) (Nat.le_of_ble_eq_true rfl) (fun p e s m below meth c ls A H locs hx hb hr hml hown hts hlocks hnm hkb hH hS hA hOX hks hE hl => ?_)
  have hown : s.vm.findClass RX12 = some m.cls := hown
  have hl : lv_has ls 4 [(0, .ref a0)] := hl
  have hOXf := hOX
  have hs20 : slen.getD 20 0 = 87 := by decide
  refine lv_iconst (v := 0) hx hb dX12_keyAt_0 (by decide) ?_
  refine lv_istore_n (lv' := [(1, .int 0), (0, .ref a0)]) hx hb dX12_keyAt_1 rfl hl (by decide) rfl (fun ls hl => ?_)
  refine lv_iconst (v := 1) hx hb dX12_keyAt_2 (by decide) ?_
  have J4 : ∀ (n : Nat) (p4_2 : Int32) (p4_1 : Int32) (H : Heap) (locs : List Loc) (ls : Array Slot), (87 - p4_2.toInt).toNat = n → (1 ≤ p4_2.toInt) → (p4_2.toInt ≤ 87) → HT D cs A T (y3 :: a0 :: O) ((y3, .inl (cs.2.1, 900, .inl f3)) :: (a0, .inr (12, o0 :: o1 :: o2 :: (.ref y3) :: (.ref y4) :: o5 :: (.int y6) :: (.int y7) :: (.int y8) :: (.int y9) :: (.int y10) :: (.int y11) :: (.int y12) :: tl)) :: X) H → va_S A s.heap H locs → lv_has ls 4 [(2, .int p4_2), (1, .int p4_1), (0, .ref a0)] → W p l e { frames := 4, cells := 0, slots := 0, locals := 85 } s m [.ref a0].toArray below meth c H locs 0 0 (MQ below (Ti D cs (fun r u => u = (T, y3 :: a0 :: O, (y3, .inl (cs.2.1, 900, .inl f3)) :: (a0, .inr (12, o0 :: o1 :: o2 :: (.ref y3) :: (.ref y4) :: o5 :: (.int y6) :: (.int y7) :: (.int y8) :: (.int y9) :: (.int y10) :: (.int y11) :: (.int y12) :: tl)) :: X)) A) [.ref a0].toArray s 0 0 A) (F0 m 4 ls []) := by
    intro n
    induction n using Nat.strongRecOn with
    | _ n ih4 =>
      intro p4_2 p4_1 H locs ls hm4 l_p4_2 u_p4_2 hH hS hl
      refine lv_iload_n hx hb dX12_keyAt_4 rfl (lv_at hl 0 rfl) ?_
      refine va_ldcS (q := kf.1 20) hx hb hown (hks ("FootholdWallModel", 88, " hold guide leg weight step used by broken day start top wide ice or and not dx up far ", 20) (by decide +kernel)) dX12_keyAt_5 ?_
      refine tk_i hH hS hA (tr_V (n := 0) (As := []) hx hb hml hown hts hkb hH (ox_map hOX rfl) hks hE hS hA (s_length l D cs kf T (y3 :: a0 :: O) ((y3, .inl (cs.2.1, 900, .inl f3)) :: (a0, .inr (12, o0 :: o1 :: o2 :: (.ref y3) :: (.ref y4) :: o5 :: (.int y6) :: (.int y7) :: (.int y8) :: (.int y9) :: (.int y10) :: (.int y11) :: (.int y12) :: tl)) :: X) 20 (by decide) (hO.sub (by decide))) kw_1360 kw_478 kw_479 kw_14 kw_480 (by decide +kernel) ⟨Nat.le_of_ble_eq_true rfl, Nat.le_of_ble_eq_true rfl⟩ (vk_recv hE.1 (by decide) hS) rfl rfl hl.1 (Nat.le_of_ble_eq_true rfl) dX12_keyAt_7 ⟨Nat.le_of_ble_eq_true rfl, Nat.le_of_ble_eq_true rfl⟩) (fun v7 u H locs hz9 hH hS => ?_)
      obtain ⟨rfl, l_v7, u_v7, x_v70⟩ := hz9
      have hH : HT D cs A T (y3 :: a0 :: O) ((y3, .inl (cs.2.1, 900, .inl f3)) :: (a0, .inr (12, o0 :: o1 :: o2 :: (.ref y3) :: (.ref y4) :: o5 :: (.int y6) :: (.int y7) :: (.int y8) :: (.int y9) :: (.int y10) :: (.int y11) :: (.int y12) :: tl)) :: X) H := hH
      refine W.widen (k := 0) (n := 0) (Nat.le_of_ble_eq_true rfl) (Nat.le_of_ble_eq_true rfl) ?_
      refine lv_icmp_ge (tgt := 123) hx hb dX12_keyAt_10 (by decide) (fun c10 => ?_) (fun c10 => ?_)
      · skip
        have fuc10 := full_i p4_2
        have fvc10 := full_i v7
        have tc10 := g_le c10
        refine lv_bipush (v := 20) hx hb dX12_keyAt_123 (by decide) ?_
        have z9_20 : (20 : Int32).toInt = 20 := by decide
        exact te_i hx hb hr hlocks hH hS (rfl) dX12_keyAt_125
      · skip
        have fuc10 := full_i p4_2
        have fvc10 := full_i v7
        have tc10 := g_nle c10
        refine lv_iconst (v := 0) hx hb dX12_keyAt_13 (by decide) ?_
        have J15 : ∀ (n : Nat) (p15_3 : Int32) (H : Heap) (locs : List Loc) (ls : Array Slot), (86 - p15_3.toInt).toNat = n → (0 ≤ p15_3.toInt) → (p15_3.toInt ≤ 86) → (p4_2.toInt + p15_3.toInt ≤ 86) → HT D cs A T (y3 :: a0 :: O) ((y3, .inl (cs.2.1, 900, .inl f3)) :: (a0, .inr (12, o0 :: o1 :: o2 :: (.ref y3) :: (.ref y4) :: o5 :: (.int y6) :: (.int y7) :: (.int y8) :: (.int y9) :: (.int y10) :: (.int y11) :: (.int y12) :: tl)) :: X) H → va_S A s.heap H locs → lv_has ls 4 [(3, .int p15_3), (2, .int p4_2), (1, .int p4_1), (0, .ref a0)] → W p l e { frames := 4, cells := 0, slots := 0, locals := 85 } s m [.ref a0].toArray below meth c H locs 0 0 (MQ below (Ti D cs (fun r u => u = (T, y3 :: a0 :: O, (y3, .inl (cs.2.1, 900, .inl f3)) :: (a0, .inr (12, o0 :: o1 :: o2 :: (.ref y3) :: (.ref y4) :: o5 :: (.int y6) :: (.int y7) :: (.int y8) :: (.int y9) :: (.int y10) :: (.int y11) :: (.int y12) :: tl)) :: X)) A) [.ref a0].toArray s 0 0 A) (F0 m 15 ls []) := by
          intro n
          induction n using Nat.strongRecOn with
          | _ n ih15 =>
            intro p15_3 H locs ls hm15 l_p15_3 u_p15_3 i15 hH hS hl
            refine va_ldcS (q := kf.1 20) hx hb hown (hks ("FootholdWallModel", 88, " hold guide leg weight step used by broken day start top wide ice or and not dx up far ", 20) (by decide +kernel)) dX12_keyAt_15 ?_
            refine lv_iload_n hx hb dX12_keyAt_17 rfl (lv_at hl 1 rfl) ?_
            refine lv_iload_n hx hb dX12_keyAt_18 rfl (lv_at hl 0 rfl) ?_
            refine lv_iadd hx hb dX12_keyAt_19 ?_
            refine lv_topi (fun v19 ev19 => ?_)
            have tv19 : v19.toInt = p4_2.toInt + p15_3.toInt := by rw [ev19]; exact add_i rfl rfl (by omega) (by omega)
            refine tk_i hH hS hA (tr_V (n := 1) (As := [.int v19]) hx hb hml hown hts hkb hH (ox_map hOX rfl) hks hE hS hA (s_charAt2 l D cs kf T (y3 :: a0 :: O) ((y3, .inl (cs.2.1, 900, .inl f3)) :: (a0, .inr (12, o0 :: o1 :: o2 :: (.ref y3) :: (.ref y4) :: o5 :: (.int y6) :: (.int y7) :: (.int y8) :: (.int y9) :: (.int y10) :: (.int y11) :: (.int y12) :: tl)) :: X) 20 v19 (by decide) (by omega) (by omega) (hO.sub (by decide))) kw_1361 kw_556 kw_557 kw_14 kw_558 (by decide +kernel) ⟨Nat.le_of_ble_eq_true rfl, Nat.le_of_ble_eq_true rfl⟩ (vk_recv hE.1 (by decide) hS) rfl rfl hl.1 (Nat.le_of_ble_eq_true rfl) dX12_keyAt_20 ⟨Nat.le_of_ble_eq_true rfl, Nat.le_of_ble_eq_true rfl⟩) (fun v20 u H locs hz9 hH hS => ?_)
            obtain ⟨rfl, l_v20, u_v20, x_v200⟩ := hz9
            have hH : HT D cs A T (y3 :: a0 :: O) ((y3, .inl (cs.2.1, 900, .inl f3)) :: (a0, .inr (12, o0 :: o1 :: o2 :: (.ref y3) :: (.ref y4) :: o5 :: (.int y6) :: (.int y7) :: (.int y8) :: (.int y9) :: (.int y10) :: (.int y11) :: (.int y12) :: tl)) :: X) H := hH
            refine W.widen (k := 0) (n := 0) (Nat.le_of_ble_eq_true rfl) (Nat.le_of_ble_eq_true rfl) ?_
            refine lv_bipush (v := 32) hx hb dX12_keyAt_23 (by decide) ?_
            have J69 : ∀  (H : Heap) (locs : List Loc) (ls : Array Slot), HT D cs A T (y3 :: a0 :: O) ((y3, .inl (cs.2.1, 900, .inl f3)) :: (a0, .inr (12, o0 :: o1 :: o2 :: (.ref y3) :: (.ref y4) :: o5 :: (.int y6) :: (.int y7) :: (.int y8) :: (.int y9) :: (.int y10) :: (.int y11) :: (.int y12) :: tl)) :: X) H → va_S A s.heap H locs → lv_has ls 4 [(3, .int p15_3), (2, .int p4_2), (1, .int p4_1), (0, .ref a0)] → W p l e { frames := 4, cells := 0, slots := 0, locals := 85 } s m [.ref a0].toArray below meth c H locs 0 0 (MQ below (Ti D cs (fun r u => u = (T, y3 :: a0 :: O, (y3, .inl (cs.2.1, 900, .inl f3)) :: (a0, .inr (12, o0 :: o1 :: o2 :: (.ref y3) :: (.ref y4) :: o5 :: (.int y6) :: (.int y7) :: (.int y8) :: (.int y9) :: (.int y10) :: (.int y11) :: (.int y12) :: tl)) :: X)) A) [.ref a0].toArray s 0 0 A) (F0 m 69 ls []) := by
              intro  H locs ls  hH hS hl
              refine va_ldcS (q := kf.1 20) hx hb hown (hks ("FootholdWallModel", 88, " hold guide leg weight step used by broken day start top wide ice or and not dx up far ", 20) (by decide +kernel)) dX12_keyAt_69 ?_
              refine lv_iload_n hx hb dX12_keyAt_71 rfl (lv_at hl 1 rfl) ?_
              refine lv_iload_n hx hb dX12_keyAt_72 rfl (lv_at hl 0 rfl) ?_
              refine lv_iadd hx hb dX12_keyAt_73 ?_
              refine lv_topi (fun v73 ev73 => ?_)
              have tv73 : v73.toInt = p4_2.toInt + p15_3.toInt := by rw [ev73]; exact add_i rfl rfl (by omega) (by omega)
              refine tk_i hH hS hA (tr_V (n := 1) (As := [.int v73]) hx hb hml hown hts hkb hH (ox_map hOX rfl) hks hE hS hA (s_charAt2 l D cs kf T (y3 :: a0 :: O) ((y3, .inl (cs.2.1, 900, .inl f3)) :: (a0, .inr (12, o0 :: o1 :: o2 :: (.ref y3) :: (.ref y4) :: o5 :: (.int y6) :: (.int y7) :: (.int y8) :: (.int y9) :: (.int y10) :: (.int y11) :: (.int y12) :: tl)) :: X) 20 v73 (by decide) (by omega) (by omega) (hO.sub (by decide))) kw_1361 kw_556 kw_557 kw_14 kw_558 (by decide +kernel) ⟨Nat.le_of_ble_eq_true rfl, Nat.le_of_ble_eq_true rfl⟩ (vk_recv hE.1 (by decide) hS) rfl rfl hl.1 (Nat.le_of_ble_eq_true rfl) dX12_keyAt_74 ⟨Nat.le_of_ble_eq_true rfl, Nat.le_of_ble_eq_true rfl⟩) (fun v74 u H locs hz9 hH hS => ?_)
              obtain ⟨rfl, l_v74, u_v74, x_v740⟩ := hz9
              have hH : HT D cs A T (y3 :: a0 :: O) ((y3, .inl (cs.2.1, 900, .inl f3)) :: (a0, .inr (12, o0 :: o1 :: o2 :: (.ref y3) :: (.ref y4) :: o5 :: (.int y6) :: (.int y7) :: (.int y8) :: (.int y9) :: (.int y10) :: (.int y11) :: (.int y12) :: tl)) :: X) H := hH
              refine W.widen (k := 0) (n := 0) (Nat.le_of_ble_eq_true rfl) (Nat.le_of_ble_eq_true rfl) ?_
              refine lv_bipush (v := 32) hx hb dX12_keyAt_77 (by decide) ?_
              have J97 : ∀ (n : Nat) (p97_2 : Int32) (H : Heap) (locs : List Loc) (ls : Array Slot), (86 - p97_2.toInt).toNat = n → (1 ≤ p97_2.toInt) → (p97_2.toInt ≤ 86) → (p4_2.toInt ≤ p97_2.toInt) → HT D cs A T (y3 :: a0 :: O) ((y3, .inl (cs.2.1, 900, .inl f3)) :: (a0, .inr (12, o0 :: o1 :: o2 :: (.ref y3) :: (.ref y4) :: o5 :: (.int y6) :: (.int y7) :: (.int y8) :: (.int y9) :: (.int y10) :: (.int y11) :: (.int y12) :: tl)) :: X) H → va_S A s.heap H locs → lv_has ls 4 [(2, .int p97_2), (1, .int p4_1), (0, .ref a0)] → W p l e { frames := 4, cells := 0, slots := 0, locals := 85 } s m [.ref a0].toArray below meth c H locs 0 0 (MQ below (Ti D cs (fun r u => u = (T, y3 :: a0 :: O, (y3, .inl (cs.2.1, 900, .inl f3)) :: (a0, .inr (12, o0 :: o1 :: o2 :: (.ref y3) :: (.ref y4) :: o5 :: (.int y6) :: (.int y7) :: (.int y8) :: (.int y9) :: (.int y10) :: (.int y11) :: (.int y12) :: tl)) :: X)) A) [.ref a0].toArray s 0 0 A) (F0 m 97 ls []) := by
                intro n
                induction n using Nat.strongRecOn with
                | _ n ih97 =>
                  intro p97_2 H locs ls hm97 l_p97_2 u_p97_2 i97 hH hS hl
                  refine va_ldcS (q := kf.1 20) hx hb hown (hks ("FootholdWallModel", 88, " hold guide leg weight step used by broken day start top wide ice or and not dx up far ", 20) (by decide +kernel)) dX12_keyAt_97 ?_
                  refine lv_iload_n hx hb dX12_keyAt_99 rfl (lv_at hl 0 rfl) ?_
                  refine tk_i hH hS hA (tr_V (n := 1) (As := [.int p97_2]) hx hb hml hown hts hkb hH (ox_map hOX rfl) hks hE hS hA (s_charAt2 l D cs kf T (y3 :: a0 :: O) ((y3, .inl (cs.2.1, 900, .inl f3)) :: (a0, .inr (12, o0 :: o1 :: o2 :: (.ref y3) :: (.ref y4) :: o5 :: (.int y6) :: (.int y7) :: (.int y8) :: (.int y9) :: (.int y10) :: (.int y11) :: (.int y12) :: tl)) :: X) 20 p97_2 (by decide) (by omega) (by omega) (hO.sub (by decide))) kw_1361 kw_556 kw_557 kw_14 kw_558 (by decide +kernel) ⟨Nat.le_of_ble_eq_true rfl, Nat.le_of_ble_eq_true rfl⟩ (vk_recv hE.1 (by decide) hS) rfl rfl hl.1 (Nat.le_of_ble_eq_true rfl) dX12_keyAt_100 ⟨Nat.le_of_ble_eq_true rfl, Nat.le_of_ble_eq_true rfl⟩) (fun v100 u H locs hz9 hH hS => ?_)
                  obtain ⟨rfl, l_v100, u_v100, x_v1000⟩ := hz9
                  have hH : HT D cs A T (y3 :: a0 :: O) ((y3, .inl (cs.2.1, 900, .inl f3)) :: (a0, .inr (12, o0 :: o1 :: o2 :: (.ref y3) :: (.ref y4) :: o5 :: (.int y6) :: (.int y7) :: (.int y8) :: (.int y9) :: (.int y10) :: (.int y11) :: (.int y12) :: tl)) :: X) H := hH
                  refine W.widen (k := 0) (n := 0) (Nat.le_of_ble_eq_true rfl) (Nat.le_of_ble_eq_true rfl) ?_
                  refine lv_bipush (v := 32) hx hb dX12_keyAt_103 (by decide) ?_
                  refine lv_icmp_eq (tgt := 114) hx hb dX12_keyAt_105 (by decide) (fun c105 => ?_) (fun c105 => ?_)
                  · skip
                    have tc105 := f_eq (k := 32) (by decide) c105
                    obtain ⟨v114, ev114⟩ : ∃ y : Int32, y = p97_2 + 1 := ⟨_, rfl⟩
                    have tv114 : v114.toInt = p97_2.toInt + (1) := by rw [ev114]; exact add_i rfl (by decide) (by omega) (by omega)
                    refine lv_iinc (v := v114) (lv' := [(2, .int v114), (1, .int p4_1), (0, .ref a0)]) hx hb dX12_keyAt_114 hl (k := 0) rfl (by rw [ev114]; rfl) (by decide) rfl (fun ls hl => ?_)
                    obtain ⟨v117, ev117⟩ : ∃ y : Int32, y = p4_1 + 1 := ⟨_, rfl⟩
                    refine lv_iinc (v := v117) (lv' := [(1, .int v117), (2, .int v114), (0, .ref a0)]) hx hb dX12_keyAt_117 hl (k := 1) rfl (by rw [ev117]; rfl) (by decide) rfl (fun ls hl => ?_)
                    refine lv_goto (tgt := 4) hx hb dX12_keyAt_120 (by decide) ?_
                    exact ih4 _ (by omega) v114 v117 _ _ _ rfl (by omega) (by omega) hH hS (lv_sub hl [1, 0, 2] rfl)
                  · skip
                    have tc105 := f_ne (k := 32) (by decide) c105
                    have hk108 : p97_2.toInt ≠ 86 := fun q => tc105 (keys_end x_v1000 q)
                    obtain ⟨v108, ev108⟩ : ∃ y : Int32, y = p97_2 + 1 := ⟨_, rfl⟩
                    have tv108 : v108.toInt = p97_2.toInt + (1) := by rw [ev108]; exact add_i rfl (by decide) (by omega) (by omega)
                    refine lv_iinc (v := v108) (lv' := [(2, .int v108), (1, .int p4_1), (0, .ref a0)]) hx hb dX12_keyAt_108 hl (k := 0) rfl (by rw [ev108]; rfl) (by decide) rfl (fun ls hl => ?_)
                    refine lv_goto (tgt := 97) hx hb dX12_keyAt_111 (by decide) ?_
                    exact ih97 _ (by omega) v108 _ _ _ rfl (by omega) (by omega) (by omega) hH hS (lv_sub hl [0, 1, 2] rfl)
              refine lv_icmp_ne (tgt := 97) hx hb dX12_keyAt_79 (by decide) (fun c79 => ?_) (fun c79 => ?_)
              · skip
                have tc79 := f_ne (k := 32) (by decide) c79
                exact J97 _ p4_2 _ _ _ rfl (by omega) (by omega) (by omega) hH hS (lv_sub hl [1, 2, 3] rfl)
              · skip
                have tc79 := f_eq (k := 32) (by decide) c79
                refine lv_aload_n hx hb dX12_keyAt_82 rfl (lv_at hl 3 rfl) ?_
                refine x_getk (ci := 12) (C := RX12) (F := TX12) (N := 36) (v := .int y6) hx hb hts uX12 hown hkb hH 1 rfl rfl 6 (by decide) rfl kw_1229 (fun _ h9 => h9) dX12_keyAt_83 ?_
                refine lv_iload_n hx hb dX12_keyAt_86 rfl (lv_at hl 0 rfl) ?_
                refine lv_iadd hx hb dX12_keyAt_87 ?_
                refine lv_topi (fun v87 ev87 => ?_)
                have tv87 : v87.toInt = y6.toInt + p15_3.toInt := by rw [ev87]; exact add_i rfl rfl (by omega) (by omega)
                refine lv_aload_n hx hb dX12_keyAt_88 rfl (lv_at hl 3 rfl) ?_
                refine x_getk (ci := 12) (C := RX12) (F := TX12) (N := 36) (v := .int y7) hx hb hts uX12 hown hkb hH 1 rfl rfl 7 (by decide) rfl kw_1230 (fun _ h9 => h9) dX12_keyAt_89 ?_
                refine lv_icmp_ne (tgt := 97) hx hb dX12_keyAt_92 (by decide) (fun c92 => ?_) (fun c92 => ?_)
                · skip
                  have fuc92 := full_i v87
                  have fvc92 := full_i y7
                  have tc92 := g_ne c92
                  exact J97 _ p4_2 _ _ _ rfl (by omega) (by omega) (by omega) hH hS (lv_sub hl [1, 2, 3] rfl)
                · skip
                  have fuc92 := full_i v87
                  have fvc92 := full_i y7
                  have tc92 := g_eq c92
                  refine lv_iload_n hx hb dX12_keyAt_95 rfl (lv_at hl 2 rfl) ?_
                  exact te_i hx hb hr hlocks hH hS (rfl) dX12_keyAt_96
            refine lv_icmp_eq (tgt := 69) hx hb dX12_keyAt_25 (by decide) (fun c25 => ?_) (fun c25 => ?_)
            · skip
              have tc25 := f_eq (k := 32) (by decide) c25
              exact J69  _ _ _  hH hS (lv_sub hl [0, 1, 2, 3] rfl)
            · skip
              have tc25 := f_ne (k := 32) (by decide) c25
              have hk28 : v19.toInt ≠ 86 := fun q => tc25 (keys_end x_v200 q)
              refine lv_aload_n hx hb dX12_keyAt_28 rfl (lv_at hl 3 rfl) ?_
              refine x_getk (ci := 12) (C := RX12) (F := TX12) (N := 36) (v := .int y6) hx hb hts uX12 hown hkb hH 1 rfl rfl 6 (by decide) rfl kw_1229 (fun _ h9 => h9) dX12_keyAt_29 ?_
              refine lv_iload_n hx hb dX12_keyAt_32 rfl (lv_at hl 0 rfl) ?_
              refine lv_iadd hx hb dX12_keyAt_33 ?_
              refine lv_topi (fun v33 ev33 => ?_)
              have tv33 : v33.toInt = y6.toInt + p15_3.toInt := by rw [ev33]; exact add_i rfl rfl (by omega) (by omega)
              refine lv_aload_n hx hb dX12_keyAt_34 rfl (lv_at hl 3 rfl) ?_
              refine x_getk (ci := 12) (C := RX12) (F := TX12) (N := 36) (v := .int y7) hx hb hts uX12 hown hkb hH 1 rfl rfl 7 (by decide) rfl kw_1230 (fun _ h9 => h9) dX12_keyAt_35 ?_
              refine lv_icmp_ge (tgt := 69) hx hb dX12_keyAt_38 (by decide) (fun c38 => ?_) (fun c38 => ?_)
              · skip
                have fuc38 := full_i v33
                have fvc38 := full_i y7
                have tc38 := g_le c38
                exact J69  _ _ _  hH hS (lv_sub hl [0, 1, 2, 3] rfl)
              · skip
                have fuc38 := full_i v33
                have fvc38 := full_i y7
                have tc38 := g_nle c38
                refine lv_aload_n hx hb dX12_keyAt_41 rfl (lv_at hl 3 rfl) ?_
                refine x_getk (ci := 12) (C := RX12) (F := TX12) (N := 36) (v := .ref y3) hx hb hts uX12 hown hkb hH 1 rfl rfl 3 (by decide) rfl kw_1226 (fun _ h9 => h9) dX12_keyAt_42 ?_
                refine lv_aload_n hx hb dX12_keyAt_45 rfl (lv_at hl 3 rfl) ?_
                refine x_getk (ci := 12) (C := RX12) (F := TX12) (N := 36) (v := .int y6) hx hb hts uX12 hown hkb hH 1 rfl rfl 6 (by decide) rfl kw_1229 (fun _ h9 => h9) dX12_keyAt_46 ?_
                refine lv_iload_n hx hb dX12_keyAt_49 rfl (lv_at hl 0 rfl) ?_
                refine lv_iadd hx hb dX12_keyAt_50 ?_
                refine lv_topi (fun v50 ev50 => ?_)
                have tv50 : v50.toInt = y6.toInt + p15_3.toInt := by rw [ev50]; exact add_i rfl rfl (by omega) (by omega)
                refine xa_ild hx hb hkb hH 0 rfl (by omega) (by omega) dX12_keyAt_51 ?_
                refine lv_topi (fun v51 ev51 => ?_)
                have tv51 : v51 = f3 v50.toInt.toNat := ev51
                refine va_ldcS (q := kf.1 20) hx hb hown (hks ("FootholdWallModel", 88, " hold guide leg weight step used by broken day start top wide ice or and not dx up far ", 20) (by decide +kernel)) dX12_keyAt_52 ?_
                refine lv_iload_n hx hb dX12_keyAt_54 rfl (lv_at hl 1 rfl) ?_
                refine lv_iload_n hx hb dX12_keyAt_55 rfl (lv_at hl 0 rfl) ?_
                refine lv_iadd hx hb dX12_keyAt_56 ?_
                refine lv_topi (fun v56 ev56 => ?_)
                have tv56 : v56.toInt = p4_2.toInt + p15_3.toInt := by rw [ev56]; exact add_i rfl rfl (by omega) (by omega)
                refine tk_i hH hS hA (tr_V (n := 1) (As := [.int v56]) hx hb hml hown hts hkb hH (ox_map hOX rfl) hks hE hS hA (s_charAt2 l D cs kf T (y3 :: a0 :: O) ((y3, .inl (cs.2.1, 900, .inl f3)) :: (a0, .inr (12, o0 :: o1 :: o2 :: (.ref y3) :: (.ref y4) :: o5 :: (.int y6) :: (.int y7) :: (.int y8) :: (.int y9) :: (.int y10) :: (.int y11) :: (.int y12) :: tl)) :: X) 20 v56 (by decide) (by omega) (by omega) (hO.sub (by decide))) kw_1361 kw_556 kw_557 kw_14 kw_558 (by decide +kernel) ⟨Nat.le_of_ble_eq_true rfl, Nat.le_of_ble_eq_true rfl⟩ (vk_recv hE.1 (by decide) hS) rfl rfl hl.1 (Nat.le_of_ble_eq_true rfl) dX12_keyAt_57 ⟨Nat.le_of_ble_eq_true rfl, Nat.le_of_ble_eq_true rfl⟩) (fun v57 u H locs hz9 hH hS => ?_)
                obtain ⟨rfl, l_v57, u_v57, x_v570⟩ := hz9
                have hH : HT D cs A T (y3 :: a0 :: O) ((y3, .inl (cs.2.1, 900, .inl f3)) :: (a0, .inr (12, o0 :: o1 :: o2 :: (.ref y3) :: (.ref y4) :: o5 :: (.int y6) :: (.int y7) :: (.int y8) :: (.int y9) :: (.int y10) :: (.int y11) :: (.int y12) :: tl)) :: X) H := hH
                refine W.widen (k := 0) (n := 0) (Nat.le_of_ble_eq_true rfl) (Nat.le_of_ble_eq_true rfl) ?_
                refine lv_icmp_ne (tgt := 69) hx hb dX12_keyAt_60 (by decide) (fun c60 => ?_) (fun c60 => ?_)
                · skip
                  have fuc60 := full_i v51
                  have fvc60 := full_i v57
                  have tc60 := g_ne c60
                  exact J69  _ _ _  hH hS (lv_sub hl [0, 1, 2, 3] rfl)
                · skip
                  have fuc60 := full_i v51
                  have fvc60 := full_i v57
                  have tc60 := g_eq c60
                  obtain ⟨v63, ev63⟩ : ∃ y : Int32, y = p15_3 + 1 := ⟨_, rfl⟩
                  have tv63 : v63.toInt = p15_3.toInt + (1) := by rw [ev63]; exact add_i rfl (by decide) (by omega) (by omega)
                  refine lv_iinc (v := v63) (lv' := [(3, .int v63), (2, .int p4_2), (1, .int p4_1), (0, .ref a0)]) hx hb dX12_keyAt_63 hl (k := 0) rfl (by rw [ev63]; rfl) (by decide) rfl (fun ls hl => ?_)
                  refine lv_goto (tgt := 15) hx hb dX12_keyAt_66 (by decide) ?_
                  exact ih15 _ (by omega) v63 _ _ _ rfl (by omega) (by omega) (by omega) hH hS (lv_sub hl [0, 1, 2, 3] rfl)
        refine lv_istore_n (lv' := [(3, .int 0), (2, .int p4_2), (1, .int p4_1), (0, .ref a0)]) hx hb dX12_keyAt_14 rfl hl (by decide) rfl (fun ls hl => ?_)
        have z_0 : (0 : Int32).toInt = 0 := by decide
        exact J15 _ 0 _ _ _ rfl (by decide) (by decide) (by omega) hH hS (lv_sub hl [0, 1, 2, 3] rfl)
  refine lv_istore_n (lv' := [(2, .int 1), (1, .int 0), (0, .ref a0)]) hx hb dX12_keyAt_3 rfl hl (by decide) rfl (fun ls hl => ?_)
  exact J4 _ 1 0 _ _ _ rfl (by decide) (by decide) hH hS (lv_sub hl [0, 1, 2] rfl)
