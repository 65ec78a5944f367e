set_option maxHeartbeats 4000000 in
set_option maxRecDepth 100000 in
theorem s_Wall_forget3 (l : Launch) (D : va_G) (cs : CS) (kf : KF) (T : TF) (O : List Nat) (X : va_W) (a0 : Nat) (tl7 : List Value) (ft : Nat → Int32) (z0 : Int32) (z1 : Int32) (z2 : Int32) (z3 : Int32) (z4 : Int32) (z5 : Int32) (z6 : Nat) (z7 : Nat) (z8 : Nat) (z9 : Nat) (z10 : Nat) (z12 : Int32) (z13 : Int32) (tk yy : Nat) (t_a0 : T a0 = some (19, 100, 0)) (l_z0 : 0 ≤ z0.toInt) (u_z0 : z0.toInt ≤ 14) (l_z1 : 0 ≤ z1.toInt) (u_z1 : z1.toInt ≤ 5) (l_z3 : 0 ≤ z3.toInt) (u_z3 : z3.toInt ≤ 16383) (l_z4 : 0 ≤ z4.toInt) (u_z4 : z4.toInt ≤ 16383) (l_z5 : 0 ≤ z5.toInt) (u_z5 : z5.toInt ≤ 16383) (t_z6 : T z6 = some (1, 14, 0)) (t_z7 : T z7 = some (1, 14, 0)) (t_z8 : T z8 = some (1, 14, 0)) (t_z9 : T z9 = some (1, 5, 0)) (t_z10 : T z10 = some (1, 5, 9)) (l_z12 : 0 ≤ z12.toInt) (u_z12 : z12.toInt ≤ 1) (l_z13 : 0 ≤ z13.toInt) (u_z13 : z13.toInt ≤ 1) (hO : okO T (tk :: yy :: a0 :: O) []) : TK l D cs kf yX9_forget cX9_forget 1 none { frames := 0, cells := 0, slots := 0, locals := 0 } [.ref a0] T (tk :: yy :: a0 :: O) ((tk, .inr (7, tl7)) :: (yy, .inl (cs.1, 900, .inl ft)) :: (a0, .inr (9, [.int z0, .int z1, .int z2, .int z3, .int z4, .int z5, .ref z6, .ref z7, .ref z8, .ref z9, .ref z10, .null, .int z12, .int z13])) :: X) (Tv D cs (fun u => u = (T, tk :: yy :: a0 :: O, (tk, .inr (7, tl7)) :: (yy, .inl (cs.1, 900, .inl ft)) :: (a0, .inr (9, [.int 0, .int 0, .int 0, .int 0, .int 0, .int 0, .ref z6, .ref z7, .ref z8, .ref z9, .ref z10, .null, .int z12, .int z13])) :: X))) := by
  refine tk_of (by decide) (Nat.le_of_ble_eq_true rfl) (fun p e s m below meth c ls A H locs hx hb hr hml hown hts hlocks hnm hkb hH hS hA hOX hks hE hl => ?_)
  have hown : s.vm.findClass RX9 = some m.cls := hown
  have hl : lv_has ls 1 [(0, .ref a0)] := hl
  have hOXf := hOX
  refine lv_aload_n hx hb dX9_forget_0 rfl (lv_at hl 0 rfl) ?_
  refine lv_iconst (v := 0) hx hb dX9_forget_1 (by decide) ?_
  refine x_putk (ci := 9) (v := .int 0) (ty := tyX9 0) (C := RX9) (F := TX9) (N := 14) hx hb hts uX9 tyX9 tyX9_ok nmX9 hown hkb hH hS 2 rfl rfl 0 (by decide) kw_106 (fun _ h9 => h9) rfl (tyX9_ok 0 (by decide)) rfl rfl (Nat.le_of_ble_eq_true rfl) dX9_forget_2 (fun H locs hH hS => ?_)
  have hH : HT D cs A T (tk :: yy :: a0 :: O) ((tk, .inr (7, tl7)) :: (yy, .inl (cs.1, 900, .inl ft)) :: (a0, .inr (9, [.int 0, .int z1, .int z2, .int z3, .int z4, .int z5, .ref z6, .ref z7, .ref z8, .ref z9, .ref z10, .null, .int z12, .int z13])) :: X) H := hH
  refine lv_aload_n hx hb dX9_forget_5 rfl (lv_at hl 0 rfl) ?_
  refine lv_iconst (v := 0) hx hb dX9_forget_6 (by decide) ?_
  refine x_putk (ci := 9) (v := .int 0) (ty := tyX9 1) (C := RX9) (F := TX9) (N := 14) hx hb hts uX9 tyX9 tyX9_ok nmX9 hown hkb hH hS 2 rfl rfl 1 (by decide) kw_110 (fun _ h9 => h9) rfl (tyX9_ok 1 (by decide)) rfl rfl (Nat.le_of_ble_eq_true rfl) dX9_forget_7 (fun H locs hH hS => ?_)
  have hH : HT D cs A T (tk :: yy :: a0 :: O) ((tk, .inr (7, tl7)) :: (yy, .inl (cs.1, 900, .inl ft)) :: (a0, .inr (9, [.int 0, .int 0, .int z2, .int z3, .int z4, .int z5, .ref z6, .ref z7, .ref z8, .ref z9, .ref z10, .null, .int z12, .int z13])) :: X) H := hH
  refine lv_aload_n hx hb dX9_forget_10 rfl (lv_at hl 0 rfl) ?_
  refine lv_iconst (v := 0) hx hb dX9_forget_11 (by decide) ?_
  refine x_putk (ci := 9) (v := .int 0) (ty := tyX9 2) (C := RX9) (F := TX9) (N := 14) hx hb hts uX9 tyX9 tyX9_ok nmX9 hown hkb hH hS 2 rfl rfl 2 (by decide) kw_113 (fun _ h9 => h9) rfl (tyX9_ok 2 (by decide)) rfl rfl (Nat.le_of_ble_eq_true rfl) dX9_forget_12 (fun H locs hH hS => ?_)
  have hH : HT D cs A T (tk :: yy :: a0 :: O) ((tk, .inr (7, tl7)) :: (yy, .inl (cs.1, 900, .inl ft)) :: (a0, .inr (9, [.int 0, .int 0, .int 0, .int z3, .int z4, .int z5, .ref z6, .ref z7, .ref z8, .ref z9, .ref z10, .null, .int z12, .int z13])) :: X) H := hH
  refine lv_aload_n hx hb dX9_forget_15 rfl (lv_at hl 0 rfl) ?_
  refine lv_iconst (v := 0) hx hb dX9_forget_16 (by decide) ?_
  refine x_putk (ci := 9) (v := .int 0) (ty := tyX9 3) (C := RX9) (F := TX9) (N := 14) hx hb hts uX9 tyX9 tyX9_ok nmX9 hown hkb hH hS 2 rfl rfl 3 (by decide) kw_116 (fun _ h9 => h9) rfl (tyX9_ok 3 (by decide)) rfl rfl (Nat.le_of_ble_eq_true rfl) dX9_forget_17 (fun H locs hH hS => ?_)
  have hH : HT D cs A T (tk :: yy :: a0 :: O) ((tk, .inr (7, tl7)) :: (yy, .inl (cs.1, 900, .inl ft)) :: (a0, .inr (9, [.int 0, .int 0, .int 0, .int 0, .int z4, .int z5, .ref z6, .ref z7, .ref z8, .ref z9, .ref z10, .null, .int z12, .int z13])) :: X) H := hH
  refine lv_aload_n hx hb dX9_forget_20 rfl (lv_at hl 0 rfl) ?_
  refine lv_iconst (v := 0) hx hb dX9_forget_21 (by decide) ?_
  refine x_putk (ci := 9) (v := .int 0) (ty := tyX9 4) (C := RX9) (F := TX9) (N := 14) hx hb hts uX9 tyX9 tyX9_ok nmX9 hown hkb hH hS 2 rfl rfl 4 (by decide) kw_123 (fun _ h9 => h9) rfl (tyX9_ok 4 (by decide)) rfl rfl (Nat.le_of_ble_eq_true rfl) dX9_forget_22 (fun H locs hH hS => ?_)
  have hH : HT D cs A T (tk :: yy :: a0 :: O) ((tk, .inr (7, tl7)) :: (yy, .inl (cs.1, 900, .inl ft)) :: (a0, .inr (9, [.int 0, .int 0, .int 0, .int 0, .int 0, .int z5, .ref z6, .ref z7, .ref z8, .ref z9, .ref z10, .null, .int z12, .int z13])) :: X) H := hH
  refine lv_aload_n hx hb dX9_forget_25 rfl (lv_at hl 0 rfl) ?_
  refine lv_iconst (v := 0) hx hb dX9_forget_26 (by decide) ?_
  refine x_putk (ci := 9) (v := .int 0) (ty := tyX9 5) (C := RX9) (F := TX9) (N := 14) hx hb hts uX9 tyX9 tyX9_ok nmX9 hown hkb hH hS 2 rfl rfl 5 (by decide) kw_130 (fun _ h9 => h9) rfl (tyX9_ok 5 (by decide)) rfl rfl (Nat.le_of_ble_eq_true rfl) dX9_forget_27 (fun H locs hH hS => ?_)
  have hH : HT D cs A T (tk :: yy :: a0 :: O) ((tk, .inr (7, tl7)) :: (yy, .inl (cs.1, 900, .inl ft)) :: (a0, .inr (9, [.int 0, .int 0, .int 0, .int 0, .int 0, .int 0, .ref z6, .ref z7, .ref z8, .ref z9, .ref z10, .null, .int z12, .int z13])) :: X) H := hH
  have z9_0 : (0 : Int32).toInt = 0 := by decide
  have z9_0 : (0 : Int32).toInt = 0 := by decide
  have z9_0 : (0 : Int32).toInt = 0 := by decide
  have z9_0 : (0 : Int32).toInt = 0 := by decide
  have z9_0 : (0 : Int32).toInt = 0 := by decide
  have z9_0 : (0 : Int32).toInt = 0 := by decide
  exact te_v hx hb hr hlocks hH hS (rfl) dX9_forget_30
set_option maxHeartbeats 4000000 in
set_option maxRecDepth 100000 in
theorem s_Tok_begin (l : Launch) (D : va_G) (cs : CS) (kf : KF) (T : TF) (O : List Nat) (X : va_W) (a0 : Nat) (a1 : Nat) (x2 : Int32) (o0 : Value) (y1 : Int32) (y2 : Int32) (y3 : Int32) (y4 : Int32) (y5 : Int32) (y6 : Int32) (y7 : Int32) (ft : Nat → Int32) (t : Tp) (tn : Nat) (t_a0 : T a0 = some (17, 0, 0)) (t_a1 : T a1 = some (0, 900, 0)) (l_x2 : 0 ≤ x2.toInt) (u_x2 : x2.toInt ≤ 900) (l_y1 : 0 ≤ y1.toInt) (u_y1 : y1.toInt ≤ 900) (l_y2 : 0 ≤ y2.toInt) (u_y2 : y2.toInt ≤ 900) (l_y3 : 0 ≤ y3.toInt) (u_y3 : y3.toInt ≤ 900) (hn : x2.toInt = (tn : Int)) (htb : TB ft t) (hO : okO T (a0 :: a1 :: O) []) : TK l D cs kf yX7_begin cX7_begin 3 none { frames := 5, cells := 0, slots := 0, locals := 111 } [.ref a0, .ref a1, .int x2] T (a0 :: a1 :: O) ((a0, .inr (7, [o0, .int y1, .int y2, .int y3, .int y4, .int y5, .int y6, .int y7])) :: (a1, .inl (cs.1, 900, .inl ft)) :: X) (Tv D cs (fun u => ∃ (n0_1 : Int32) (n0_2 : Int32) (n0_3 : Int32) (n0_4 : Int32) (n0_5 : Int32), u = (T, a0 :: a1 :: O, (a0, .inr (7, [.ref a1, .int n0_1, .int n0_2, .int n0_3, .int n0_4, .int n0_5, .int 0, .int (-1)])) :: (a1, .inl (cs.1, 900, .inl ft)) :: X) ∧ (TSS t tn n0_2 n0_3 n0_4 n0_5) ∧ (n0_2.toInt.toNat = nxs t tn 0) ∧ (n0_1.toInt = x2.toInt) ∧ (0 ≤ n0_2.toInt ∧ n0_2.toInt ≤ n0_3.toInt ∧ n0_3.toInt ≤ x2.toInt))) := by
  refine tk_of (by decide) (Nat.le_of_ble_eq_true rfl) (fun p e s m below meth c ls A H locs hx hb hr hml hown hts hlocks hnm hkb hH hS hA hOX hks hE hl => ?_)
  have hown : s.vm.findClass RX7 = some m.cls := hown
  have hl : lv_has ls 3 [(0, .ref a0), (1, .ref a1), (2, .int x2)] := hl
  have hOXf := hOX
  refine lv_aload_n hx hb dX7_begin_0 rfl (lv_at hl 0 rfl) ?_
  refine lv_aload_n hx hb dX7_begin_1 rfl (lv_at hl 1 rfl) ?_
  refine x_putk (ci := 7) (v := .ref a1) (ty := tyX7 0) (C := RX7) (F := TX7) (N := 8) hx hb hts uX7 tyX7 tyX7_ok nmX7 hown hkb hH hS 0 rfl rfl 0 (by decide) kw_44 (fun _ h9 => h9) rfl (tyX7_ok 0 (by decide)) rfl rfl (Nat.le_of_ble_eq_true rfl) dX7_begin_2 (fun H locs hH hS => ?_)
  have hH : HT D cs A T (a0 :: a1 :: O) ((a0, .inr (7, [.ref a1, .int y1, .int y2, .int y3, .int y4, .int y5, .int y6, .int y7])) :: (a1, .inl (cs.1, 900, .inl ft)) :: X) H := hH
  refine lv_aload_n hx hb dX7_begin_5 rfl (lv_at hl 0 rfl) ?_
  refine lv_iload_n hx hb dX7_begin_6 rfl (lv_at hl 2 rfl) ?_
  refine lv_aload_n hx hb dX7_begin_7 rfl (lv_at hl 1 rfl) ?_
  refine xa_len hx hb hkb hH 1 rfl dX7_begin_8 ?_
  refine lv_topc (y := 900) (by rfl) ?_
  refine va_mmin hx hb (by rw [hml]; exact hl.1.symm) hown (hts _ kw_449) (hts _ kw_450) (hts _ kw_6) (hts _ kw_451) (Nat.le_of_ble_eq_true rfl) (Nat.le_of_ble_eq_true rfl) (Nat.le_of_ble_eq_true rfl) (Nat.le_of_ble_eq_true rfl) dX7_begin_9 ?_
  refine lv_topi (fun v9 ev9 => ?_)
  have tv9 : v9.toInt = min x2.toInt (900) := by rw [ev9]; exact min_i rfl (by decide : (900 : Int32).toInt = 900)
  refine x_putk (ci := 7) (v := .int v9) (ty := tyX7 1) (C := RX7) (F := TX7) (N := 8) hx hb hts uX7 tyX7 tyX7_ok nmX7 hown hkb hH hS 0 rfl rfl 1 (by decide) kw_45 (fun _ h9 => h9) rfl (tyX7_ok 1 (by decide)) rfl rfl (Nat.le_of_ble_eq_true rfl) dX7_begin_12 (fun H locs hH hS => ?_)
  have hH : HT D cs A T (a0 :: a1 :: O) ((a0, .inr (7, [.ref a1, .int v9, .int y2, .int y3, .int y4, .int y5, .int y6, .int y7])) :: (a1, .inl (cs.1, 900, .inl ft)) :: X) H := hH
  refine lv_aload_n hx hb dX7_begin_15 rfl (lv_at hl 0 rfl) ?_
  refine lv_iconst (v := 0) hx hb dX7_begin_16 (by decide) ?_
  refine x_putk (ci := 7) (v := .int 0) (ty := tyX7 3) (C := RX7) (F := TX7) (N := 8) hx hb hts uX7 tyX7 tyX7_ok nmX7 hown hkb hH hS 0 rfl rfl 3 (by decide) kw_47 (fun _ h9 => h9) rfl (tyX7_ok 3 (by decide)) rfl rfl (Nat.le_of_ble_eq_true rfl) dX7_begin_17 (fun H locs hH hS => ?_)
  have hH : HT D cs A T (a0 :: a1 :: O) ((a0, .inr (7, [.ref a1, .int v9, .int y2, .int 0, .int y4, .int y5, .int y6, .int y7])) :: (a1, .inl (cs.1, 900, .inl ft)) :: X) H := hH
  refine lv_aload_n hx hb dX7_begin_20 rfl (lv_at hl 0 rfl) ?_
  refine lv_iconst (v := 0) hx hb dX7_begin_21 (by decide) ?_
  refine x_putk (ci := 7) (v := .int 0) (ty := tyX7 6) (C := RX7) (F := TX7) (N := 8) hx hb hts uX7 tyX7 tyX7_ok nmX7 hown hkb hH hS 0 rfl rfl 6 (by decide) kw_54 (fun _ h9 => h9) rfl (tyX7_ok 6 (by decide)) rfl rfl (Nat.le_of_ble_eq_true rfl) dX7_begin_22 (fun H locs hH hS => ?_)
  have hH : HT D cs A T (a0 :: a1 :: O) ((a0, .inr (7, [.ref a1, .int v9, .int y2, .int 0, .int y4, .int y5, .int 0, .int y7])) :: (a1, .inl (cs.1, 900, .inl ft)) :: X) H := hH
  refine lv_aload_n hx hb dX7_begin_25 rfl (lv_at hl 0 rfl) ?_
  refine lv_iconst (v := (-1)) hx hb dX7_begin_26 (by decide) ?_
  refine x_putk (ci := 7) (v := .int (-1)) (ty := tyX7 7) (C := RX7) (F := TX7) (N := 8) hx hb hts uX7 tyX7 tyX7_ok nmX7 hown hkb hH hS 0 rfl rfl 7 (by decide) kw_56 (fun _ h9 => h9) rfl (tyX7_ok 7 (by decide)) rfl rfl (Nat.le_of_ble_eq_true rfl) dX7_begin_27 (fun H locs hH hS => ?_)
  have hH : HT D cs A T (a0 :: a1 :: O) ((a0, .inr (7, [.ref a1, .int v9, .int y2, .int 0, .int y4, .int y5, .int 0, .int (-1)])) :: (a1, .inl (cs.1, 900, .inl ft)) :: X) H := hH
  refine lv_aload_n hx hb dX7_begin_30 rfl (lv_at hl 0 rfl) ?_
  have z9_0 : (0 : Int32).toInt = 0 := by decide
  have z9_0 : (0 : Int32).toInt = 0 := by decide
  have z9_m1 : ((-1) : Int32).toInt = -1 := by decide
  refine tk_v hH hS hA (tr_V (n := 0) (As := []) hx hb hml hown hts hkb hH (ox_map hOX rfl) hks hE hS hA (s_Tok_go l D cs kf T O X a0 a1 v9 y2 (0) y4 y5 (0) ((-1)) ft t tn t_a0 t_a1 (by omega) (by omega) (by omega) (by omega) (by decide) (by decide) (by omega) htb (by omega) (hO.sub (by decide))) kw_452 kw_453 kw_454 kw_3 kw_455 (by decide +kernel) ⟨Nat.le_of_ble_eq_true rfl, Nat.le_of_ble_eq_true rfl⟩ (x_recv (ci := 7) hkb hH 0 rfl rfl) rfl rfl hl.1 (Nat.le_of_ble_eq_true rfl) dX7_begin_31 ⟨Nat.le_of_ble_eq_true rfl, Nat.le_of_ble_eq_true rfl⟩) (fun u H locs hz9 hH hS => ?_)
  obtain ⟨n31_0_2, n31_0_3, n31_0_4, n31_0_5, rfl, x_v310, x_v311, x_v312⟩ := hz9
  have hH : HT D cs A T (a0 :: a1 :: O) ((a0, .inr (7, [.ref a1, .int v9, .int n31_0_2, .int n31_0_3, .int n31_0_4, .int n31_0_5, .int 0, .int (-1)])) :: (a1, .inl (cs.1, 900, .inl ft)) :: X) H := hH
  refine W.widen (k := 0) (n := 0) (Nat.le_of_ble_eq_true rfl) (Nat.le_of_ble_eq_true rfl) ?_
  have z9_0 : (0 : Int32).toInt = 0 := by decide
  have z9_m1 : ((-1) : Int32).toInt = -1 := by decide
  exact te_v hx hb hr hlocks hH hS (⟨v9, n31_0_2, n31_0_3, n31_0_4, n31_0_5, rfl, x_v310, (by have q9 := x_v311; rw [show (0 : Int32).toInt.toNat = 0 from by decide] at q9; exact q9), by omega, by omega⟩) dX7_begin_34
set_option maxHeartbeats 4000000 in
set_option maxRecDepth 100000 in
theorem s_RD_read (l : Launch) (D : va_G) (cs : CS) (kf : KF) (T : TF) (O : List Nat) (X : va_W) (a0 d : Nat) (a1 : Nat) (x2 : Int32) (o0 : Value) (y1 : Int32) (y2 : Int32) (y3 : Int32) (y4 : Int32) (y5 : Int32) (y6 : Int32) (y7 : Int32) (ft : Nat → Int32) (z0 : Int32) (z1 : Int32) (z2 : Int32) (z3 : Int32) (z4 : Int32) (z5 : Int32) (z6 : Nat) (z7 : Nat) (z8 : Nat) (z9 : Nat) (z10 : Nat) (z12 : Int32) (z13 : Int32) (t : Tp) (tn tk : Nat) (t_a0 : T a0 = some (14, d, 0)) (t_d : T d = some (19, 100, 0)) (t_a1 : T a1 = some (0, 900, 0)) (l_x2 : 0 ≤ x2.toInt) (u_x2 : x2.toInt ≤ 900) (l_y1 : 0 ≤ y1.toInt) (u_y1 : y1.toInt ≤ 900) (l_y2 : 0 ≤ y2.toInt) (u_y2 : y2.toInt ≤ 900) (l_y3 : 0 ≤ y3.toInt) (u_y3 : y3.toInt ≤ 900) (l_z0 : 0 ≤ z0.toInt) (u_z0 : z0.toInt ≤ 14) (l_z1 : 0 ≤ z1.toInt) (u_z1 : z1.toInt ≤ 5) (l_z3 : 0 ≤ z3.toInt) (u_z3 : z3.toInt ≤ 16383) (l_z4 : 0 ≤ z4.toInt) (u_z4 : z4.toInt ≤ 16383) (l_z5 : 0 ≤ z5.toInt) (u_z5 : z5.toInt ≤ 16383) (t_z6 : T z6 = some (1, 14, 0)) (t_z7 : T z7 = some (1, 14, 0)) (t_z8 : T z8 = some (1, 14, 0)) (t_z9 : T z9 = some (1, 5, 0)) (t_z10 : T z10 = some (1, 5, 9)) (l_z12 : 0 ≤ z12.toInt) (u_z12 : z12.toInt ≤ 1) (l_z13 : 0 ≤ z13.toInt) (u_z13 : z13.toInt ≤ 1) (hn : x2.toInt = (tn : Int)) (htb : TB ft t) (t_tk : T tk = some (17, 0, 0)) (hU7 : ∀ (b : Nat) (q : Nat), T b = some (17, 0, q) → b = tk) (hO : okO T (tk :: a1 :: d :: O) [1, 13, 14, 16]) : TK l D cs kf yX4_read cX4_read 4 (some (.boolean)) { frames := 32, cells := 0, slots := 0, locals := 726 } [.ref a0, .ref a1, .int x2] T (tk :: a1 :: d :: O) ((tk, .inr (7, [o0, .int y1, .int y2, .int y3, .int y4, .int y5, .int y6, .int y7])) :: (a1, .inl (cs.1, 900, .inl ft)) :: (d, .inr (9, [.int z0, .int z1, .int z2, .int z3, .int z4, .int z5, .ref z6, .ref z7, .ref z8, .ref z9, .ref z10, .null, .int z12, .int z13])) :: X) (Ti D cs (fun r u => ∃ (n0_1 : Int32) (n0_2 : Int32) (n0_3 : Int32) (n0_4 : Int32) (n0_5 : Int32) (n0_6 : Int32) (n0_7 : Int32) (n2_0 : Int32) (n2_1 : Int32) (n2_2 : Int32) (n2_3 : Int32) (n2_4 : Int32) (n2_5 : Int32), u = (T, tk :: a1 :: d :: O, (tk, .inr (7, [.ref a1, .int n0_1, .int n0_2, .int n0_3, .int n0_4, .int n0_5, .int n0_6, .int n0_7])) :: (a1, .inl (cs.1, 900, .inl ft)) :: (d, .inr (9, [.int n2_0, .int n2_1, .int n2_2, .int n2_3, .int n2_4, .int n2_5, .ref z6, .ref z7, .ref z8, .ref z9, .ref z10, .null, .int z12, .int z13])) :: X) ∧ 0 ≤ r.toInt ∧ r.toInt ≤ 1 ∧ (r.toInt = 0 ∨ (n0_6.toInt = 0 ∧ n0_7.toInt = -1 ∧ WO t tn n2_2 ∧ 0 ≤ n2_2.toInt)) ∧ (r.toInt ≠ 0 ∨ WB t tn n0_6 n0_7) ∧ (0 ≤ n0_1.toInt ∧ n0_1.toInt ≤ 900 ∧ 0 ≤ n0_2.toInt ∧ n0_2.toInt ≤ n0_3.toInt ∧ n0_3.toInt ≤ 900) ∧ (0 ≤ n2_0.toInt ∧ n2_0.toInt ≤ 14 ∧ 0 ≤ n2_1.toInt ∧ n2_1.toInt ≤ 5) ∧ (0 ≤ n2_3.toInt ∧ n2_3.toInt ≤ 16383 ∧ 0 ≤ n2_4.toInt ∧ n2_4.toInt ≤ 16383 ∧ 0 ≤ n2_5.toInt ∧ n2_5.toInt ≤ 16383))) := by
  refine tk_of (by decide) (Nat.le_of_ble_eq_true rfl) (fun p e s m below meth c ls A H locs hx hb hr hml hown hts hlocks hnm hkb hH hS hA hOX hks hE hl => ?_)
  have hown : s.vm.findClass RX4 = some m.cls := hown
  have hl : lv_has ls 4 [(0, .ref a0), (1, .ref a1), (2, .int x2)] := hl
  have hOXf := hOX
  refine lv_aload_n hx hb dX4_read_0 rfl (lv_at hl 0 rfl) ?_
  refine t_get (ci := 4) (lst := ft4 d 0) (C := RX4) (F := TX4) (N := 5) hx hb hts uX4 hown hkb hH t_a0 (hO.no t_a0 (by decide)) (fun _ h9 => h9) rfl rfl 2 (by decide) rfl kw_214 (fun _ h9 => h9) dX4_read_1 (fun v9 h9 => ?_)
  have h9 : v9 = .ref d := h9
  subst h9
  refine tk_v hH hS hA (tr_V (n := 0) (As := []) hx hb hml hown hts hkb hH (ox_map hOX rfl) hks hE hS hA (s_Wall_forget3 l D cs kf T O X d [o0, .int y1, .int y2, .int y3, .int y4, .int y5, .int y6, .int y7] ft z0 z1 z2 z3 z4 z5 z6 z7 z8 z9 z10 z12 z13 tk a1 t_d (by omega) (by omega) (by omega) (by omega) (by omega) (by omega) (by omega) (by omega) (by omega) (by omega) t_z6 t_z7 t_z8 t_z9 t_z10 (by omega) (by omega) (by omega) (by omega) (hO.sub (by decide))) kw_437 kw_438 kw_439 kw_5 kw_440 (by decide +kernel) ⟨Nat.le_of_ble_eq_true rfl, Nat.le_of_ble_eq_true rfl⟩ (x_recv (ci := 9) hkb hH 2 rfl rfl) rfl rfl hl.1 (Nat.le_of_ble_eq_true rfl) dX4_read_4 ⟨Nat.le_of_ble_eq_true rfl, Nat.le_of_ble_eq_true rfl⟩) (fun u H locs hz9 hH hS => ?_)
  obtain ⟨rfl⟩ := hz9
  have hH : HT D cs A T (tk :: a1 :: d :: O) ((tk, .inr (7, [o0, .int y1, .int y2, .int y3, .int y4, .int y5, .int y6, .int y7])) :: (a1, .inl (cs.1, 900, .inl ft)) :: (d, .inr (9, [.int 0, .int 0, .int 0, .int 0, .int 0, .int 0, .ref z6, .ref z7, .ref z8, .ref z9, .ref z10, .null, .int z12, .int z13])) :: X) H := hH
  refine W.widen (k := 0) (n := 0) (Nat.le_of_ble_eq_true rfl) (Nat.le_of_ble_eq_true rfl) ?_
  refine lv_aload_n hx hb dX4_read_7 rfl (lv_at hl 0 rfl) ?_
  refine t_get (ci := 4) (lst := ft4 d 0) (C := RX4) (F := TX4) (N := 5) hx hb hts uX4 hown hkb hH t_a0 (hO.no t_a0 (by decide)) (fun _ h9 => h9) rfl rfl 4 (by decide) rfl kw_216 (fun _ h9 => h9) dX4_read_8 (fun v9 h9 => ?_)
  obtain ⟨v8, rfl, t_v8⟩ := h9
  refine tk_v hH hS hA (tr_V (n := 0) (As := []) hx hb hml hown hts hkb hH (ox_map hOX rfl) hks hE hS hA (s_State_forget l D cs kf T (tk :: a1 :: d :: O) ((tk, .inr (7, [o0, .int y1, .int y2, .int y3, .int y4, .int y5, .int y6, .int y7])) :: (a1, .inl (cs.1, 900, .inl ft)) :: (d, .inr (9, [.int 0, .int 0, .int 0, .int 0, .int 0, .int 0, .ref z6, .ref z7, .ref z8, .ref z9, .ref z10, .null, .int z12, .int z13])) :: X) v8 t_v8 (hO.sub (by decide))) kw_441 kw_442 kw_443 kw_7 kw_444 (by decide +kernel) ⟨Nat.le_of_ble_eq_true rfl, Nat.le_of_ble_eq_true rfl⟩ (HT.recv (ci := 6) hkb hH t_v8 (hO.no t_v8 (by decide)) rfl) rfl rfl hl.1 (Nat.le_of_ble_eq_true rfl) dX4_read_11 ⟨Nat.le_of_ble_eq_true rfl, Nat.le_of_ble_eq_true rfl⟩) (fun u H locs hz9 hH hS => ?_)
  have hz9 : u = (T, tk :: a1 :: d :: O, (tk, .inr (7, [o0, .int y1, .int y2, .int y3, .int y4, .int y5, .int y6, .int y7])) :: (a1, .inl (cs.1, 900, .inl ft)) :: (d, .inr (9, [.int 0, .int 0, .int 0, .int 0, .int 0, .int 0, .ref z6, .ref z7, .ref z8, .ref z9, .ref z10, .null, .int z12, .int z13])) :: X) := hz9
  subst hz9
  have hH : HT D cs A T (tk :: a1 :: d :: O) ((tk, .inr (7, [o0, .int y1, .int y2, .int y3, .int y4, .int y5, .int y6, .int y7])) :: (a1, .inl (cs.1, 900, .inl ft)) :: (d, .inr (9, [.int 0, .int 0, .int 0, .int 0, .int 0, .int 0, .ref z6, .ref z7, .ref z8, .ref z9, .ref z10, .null, .int z12, .int z13])) :: X) H := hH
  refine W.widen (k := 0) (n := 0) (Nat.le_of_ble_eq_true rfl) (Nat.le_of_ble_eq_true rfl) ?_
  refine lv_aload_n hx hb dX4_read_14 rfl (lv_at hl 0 rfl) ?_
  refine lv_iconst (v := 0) hx hb dX4_read_15 (by decide) ?_
  refine t_put (ci := 4) (lst := ft4 d 0) (v := .int 0) (ty := tyX4 3) (C := RX4) (F := TX4) (N := 5) hx hb hts uX4 tyX4 tyX4_ok nmX4 hown hkb hH hS t_a0 (hO.no t_a0 (by decide)) (fun _ => Iff.rfl) rfl rfl 3 (by decide) rfl (⟨_, rfl, by decide, by decide⟩) kw_215 (fun _ h9 => h9) rfl (tyX4_ok 3 (by decide)) rfl rfl dX4_read_16 (fun H locs hH hS => ?_)
  refine lv_aload_n hx hb dX4_read_19 rfl (lv_at hl 0 rfl) ?_
  refine t_get (ci := 4) (lst := ft4 d 0) (C := RX4) (F := TX4) (N := 5) hx hb hts uX4 hown hkb hH t_a0 (hO.no t_a0 (by decide)) (fun _ h9 => h9) rfl rfl 0 (by decide) rfl kw_211 (fun _ h9 => h9) dX4_read_20 (fun v9 h9 => ?_)
  obtain ⟨v20, rfl, t_v20⟩ := h9
  have e9 := (hU7 _ _ t_v20).symm
  subst e9
  refine lv_aload_n hx hb dX4_read_23 rfl (lv_at hl 1 rfl) ?_
  refine lv_iload_n hx hb dX4_read_24 rfl (lv_at hl 2 rfl) ?_
  refine tk_v hH hS hA (tr_V (n := 2) (As := [.ref a1, .int x2]) hx hb hml hown hts hkb hH (ox_map hOX rfl) hks hE hS hA (s_Tok_begin l D cs kf T (d :: O) ((d, .inr (9, [.int 0, .int 0, .int 0, .int 0, .int 0, .int 0, .ref z6, .ref z7, .ref z8, .ref z9, .ref z10, .null, .int z12, .int z13])) :: X) tk a1 x2 o0 y1 y2 y3 y4 y5 y6 y7 ft t tn t_tk t_a1 (by omega) (by omega) (by omega) (by omega) (by omega) (by omega) (by omega) (by omega) (by omega) htb (hO.sub (by decide))) kw_445 kw_446 kw_447 kw_3 kw_448 (by decide +kernel) ⟨Nat.le_of_ble_eq_true rfl, Nat.le_of_ble_eq_true rfl⟩ (x_recv (ci := 7) hkb hH 0 rfl rfl) rfl rfl hl.1 (Nat.le_of_ble_eq_true rfl) dX4_read_25 ⟨Nat.le_of_ble_eq_true rfl, Nat.le_of_ble_eq_true rfl⟩) (fun u H locs hz9 hH hS => ?_)
  obtain ⟨n25_0_1, n25_0_2, n25_0_3, n25_0_4, n25_0_5, rfl, x_v250, x_v251, x_v252, x_v253⟩ := hz9
  have hH : HT D cs A T (tk :: a1 :: d :: O) ((tk, .inr (7, [.ref a1, .int n25_0_1, .int n25_0_2, .int n25_0_3, .int n25_0_4, .int n25_0_5, .int 0, .int (-1)])) :: (a1, .inl (cs.1, 900, .inl ft)) :: (d, .inr (9, [.int 0, .int 0, .int 0, .int 0, .int 0, .int 0, .ref z6, .ref z7, .ref z8, .ref z9, .ref z10, .null, .int z12, .int z13])) :: X) H := hH
  refine W.widen (k := 0) (n := 0) (Nat.le_of_ble_eq_true rfl) (Nat.le_of_ble_eq_true rfl) ?_
  refine lv_iconst (v := 0) hx hb dX4_read_28 (by decide) ?_
  have J30 : ∀ (n : Nat) (p30_3 : Int32) (f30_102 : Int32) (f30_103 : Int32) (f30_104 : Int32) (f30_105 : Int32) (f30_106 : Int32) (f30_107 : Int32) (f30_300 : Int32) (f30_301 : Int32) (f30_302 : Int32) (f30_303 : Int32) (f30_304 : Int32) (f30_305 : Int32) (H : Heap) (locs : List Loc) (ls : Array Slot), (900 - p30_3.toInt).toNat = n → (0 ≤ p30_3.toInt) → (p30_3.toInt ≤ 900) → (0 ≤ f30_102.toInt) → (f30_102.toInt ≤ 900) → (0 ≤ f30_103.toInt) → (f30_103.toInt ≤ 900) → (0 ≤ f30_300.toInt) → (f30_300.toInt ≤ 14) → (0 ≤ f30_301.toInt) → (f30_301.toInt ≤ 5) → (0 ≤ f30_302.toInt) → (f30_302.toInt ≤ 900) → (0 ≤ f30_303.toInt) → (f30_303.toInt ≤ 16383) → (0 ≤ f30_304.toInt) → (f30_304.toInt ≤ 16383) → (0 ≤ f30_305.toInt) → (f30_305.toInt ≤ 16383) → (TSS t tn f30_102 f30_103 f30_104 f30_105) → (f30_106.toInt = 0 ∧ f30_107.toInt = -1) → (GR t tn [(30, 0)] [(30, 0)] (RZ 0 0 0 0 0) (RZ f30_300 f30_301 f30_303 f30_304 f30_302) n25_0_2 f30_102) → (0 ≤ f30_102.toInt ∧ f30_102.toInt ≤ f30_103.toInt ∧ f30_103.toInt ≤ x2.toInt ∧ p30_3.toInt ≤ f30_102.toInt ∧ 0 ≤ f30_302.toInt ∧ f30_302.toInt ≤ f30_102.toInt) → HT D cs A T (tk :: a1 :: d :: O) ((tk, .inr (7, [.ref a1, .int n25_0_1, .int f30_102, .int f30_103, .int f30_104, .int f30_105, .int f30_106, .int f30_107])) :: (a1, .inl (cs.1, 900, .inl ft)) :: (d, .inr (9, [.int f30_300, .int f30_301, .int f30_302, .int f30_303, .int f30_304, .int f30_305, .ref z6, .ref z7, .ref z8, .ref z9, .ref z10, .null, .int z12, .int z13])) :: X) H → va_S A s.heap H locs → lv_has ls 4 [(3, .int p30_3), (0, .ref a0)] → W p l e { frames := 32, cells := 0, slots := 0, locals := 726 } s m [.ref a0, .ref a1, .int x2].toArray below meth c H locs 0 0 (MQ below (Ti D cs (fun r u => ∃ (n0_1 : Int32) (n0_2 : Int32) (n0_3 : Int32) (n0_4 : Int32) (n0_5 : Int32) (n0_6 : Int32) (n0_7 : Int32) (n2_0 : Int32) (n2_1 : Int32) (n2_2 : Int32) (n2_3 : Int32) (n2_4 : Int32) (n2_5 : Int32), u = (T, tk :: a1 :: d :: O, (tk, .inr (7, [.ref a1, .int n0_1, .int n0_2, .int n0_3, .int n0_4, .int n0_5, .int n0_6, .int n0_7])) :: (a1, .inl (cs.1, 900, .inl ft)) :: (d, .inr (9, [.int n2_0, .int n2_1, .int n2_2, .int n2_3, .int n2_4, .int n2_5, .ref z6, .ref z7, .ref z8, .ref z9, .ref z10, .null, .int z12, .int z13])) :: X) ∧ 0 ≤ r.toInt ∧ r.toInt ≤ 1 ∧ (r.toInt = 0 ∨ (n0_6.toInt = 0 ∧ n0_7.toInt = -1 ∧ WO t tn n2_2 ∧ 0 ≤ n2_2.toInt)) ∧ (r.toInt ≠ 0 ∨ WB t tn n0_6 n0_7) ∧ (0 ≤ n0_1.toInt ∧ n0_1.toInt ≤ 900 ∧ 0 ≤ n0_2.toInt ∧ n0_2.toInt ≤ n0_3.toInt ∧ n0_3.toInt ≤ 900) ∧ (0 ≤ n2_0.toInt ∧ n2_0.toInt ≤ 14 ∧ 0 ≤ n2_1.toInt ∧ n2_1.toInt ≤ 5) ∧ (0 ≤ n2_3.toInt ∧ n2_3.toInt ≤ 16383 ∧ 0 ≤ n2_4.toInt ∧ n2_4.toInt ≤ 16383 ∧ 0 ≤ n2_5.toInt ∧ n2_5.toInt ≤ 16383)) A) [.ref a0, .ref a1, .int x2].toArray s 0 0 A) (F0 m 30 ls []) := by
    intro n
    induction n using Nat.strongRecOn with
    | _ n ih30 =>
      intro p30_3 f30_102 f30_103 f30_104 f30_105 f30_106 f30_107 f30_300 f30_301 f30_302 f30_303 f30_304 f30_305 H locs ls hm30 l_p30_3 u_p30_3 l_f30_102 u_f30_102 l_f30_103 u_f30_103 l_f30_300 u_f30_300 l_f30_301 u_f30_301 l_f30_302 u_f30_302 l_f30_303 u_f30_303 l_f30_304 u_f30_304 l_f30_305 u_f30_305 iA iB iC iD hH hS hl
      have hb30 := iA.b
      have hc30 := iA.cs
      refine lv_iload_n hx hb dX4_read_30 rfl (lv_at hl 0 rfl) ?_
      refine lv_sipush (v := 900) hx hb dX4_read_31 (by decide) ?_
      refine lv_icmp_ge (tgt := 87) hx hb dX4_read_34 (by decide) (fun c34 => ?_) (fun c34 => ?_)
      · skip
        have tc34 := f_ge (k := 900) (by decide) c34
        have hk87 : kd t tn f30_102.toInt.toNat = 22 := by first | omega | exact kd_end (by omega)
        have g87 : GR t tn [(30, 0)] [] (RZ 0 0 0 0 0) (RZ f30_300 f30_301 f30_303 f30_304 f30_302) n25_0_2 f30_102 := iC.tr (show GR t tn [(30, 0)] [] (RZ f30_300 f30_301 f30_303 f30_304 f30_302) (RZ f30_300 f30_301 f30_303 f30_304 f30_302) f30_102 f30_102 from fun _ => st_lE hk87)
        refine lv_aload_n hx hb dX4_read_87 rfl (lv_at hl 1 rfl) ?_
        refine t_get (ci := 4) (lst := ft4 d 0) (C := RX4) (F := TX4) (N := 5) hx hb hts uX4 hown hkb hH t_a0 (hO.no t_a0 (by decide)) (fun _ h9 => h9) rfl rfl 4 (by decide) rfl kw_216 (fun _ h9 => h9) dX4_read_88 (fun v9 h9 => ?_)
        obtain ⟨v88, rfl, t_v88⟩ := h9
        refine tk_v hH hS hA (tr_V (n := 0) (As := []) hx hb hml hown hts hkb hH (ox_map hOX rfl) hks hE hS hA (s_State_useSinceToday l D cs kf T (tk :: a1 :: d :: O) ((tk, .inr (7, [.ref a1, .int n25_0_1, .int f30_102, .int f30_103, .int f30_104, .int f30_105, .int f30_106, .int f30_107])) :: (a1, .inl (cs.1, 900, .inl ft)) :: (d, .inr (9, [.int f30_300, .int f30_301, .int f30_302, .int f30_303, .int f30_304, .int f30_305, .ref z6, .ref z7, .ref z8, .ref z9, .ref z10, .null, .int z12, .int z13])) :: X) v88 t_v88 (hO.sub (by decide))) kw_707 kw_708 kw_709 kw_7 kw_710 (by decide +kernel) ⟨Nat.le_of_ble_eq_true rfl, Nat.le_of_ble_eq_true rfl⟩ (HT.recv (ci := 6) hkb hH t_v88 (hO.no t_v88 (by decide)) rfl) rfl rfl hl.1 (Nat.le_of_ble_eq_true rfl) dX4_read_91 ⟨Nat.le_of_ble_eq_true rfl, Nat.le_of_ble_eq_true rfl⟩) (fun u H locs hz9 hH hS => ?_)
        have hz9 : u = (T, tk :: a1 :: d :: O, (tk, .inr (7, [.ref a1, .int n25_0_1, .int f30_102, .int f30_103, .int f30_104, .int f30_105, .int f30_106, .int f30_107])) :: (a1, .inl (cs.1, 900, .inl ft)) :: (d, .inr (9, [.int f30_300, .int f30_301, .int f30_302, .int f30_303, .int f30_304, .int f30_305, .ref z6, .ref z7, .ref z8, .ref z9, .ref z10, .null, .int z12, .int z13])) :: X) := hz9
        subst hz9
        have hH : HT D cs A T (tk :: a1 :: d :: O) ((tk, .inr (7, [.ref a1, .int n25_0_1, .int f30_102, .int f30_103, .int f30_104, .int f30_105, .int f30_106, .int f30_107])) :: (a1, .inl (cs.1, 900, .inl ft)) :: (d, .inr (9, [.int f30_300, .int f30_301, .int f30_302, .int f30_303, .int f30_304, .int f30_305, .ref z6, .ref z7, .ref z8, .ref z9, .ref z10, .null, .int z12, .int z13])) :: X) H := hH
        refine W.widen (k := 0) (n := 0) (Nat.le_of_ble_eq_true rfl) (Nat.le_of_ble_eq_true rfl) ?_
        refine lv_iconst (v := 1) hx hb dX4_read_94 (by decide) ?_
        have z9_1 : (1 : Int32).toInt = 1 := by decide
        exact te_z hx hb hr hlocks (by rfl) hH hS (⟨n25_0_1, f30_102, f30_103, f30_104, f30_105, f30_106, f30_107, f30_300, f30_301, f30_302, f30_303, f30_304, f30_305, rfl, by decide, by decide, (Or.inr ⟨by omega, by omega, WO_of g87 x_v251, by omega⟩), Or.inl (by decide), by omega, by omega, by omega⟩) dX4_read_95
      · skip
        have tc34 := f_nge (k := 900) (by decide) c34
        refine lv_aload_n hx hb dX4_read_37 rfl (lv_at hl 1 rfl) ?_
        refine t_get (ci := 4) (lst := ft4 d 0) (C := RX4) (F := TX4) (N := 5) hx hb hts uX4 hown hkb hH t_a0 (hO.no t_a0 (by decide)) (fun _ h9 => h9) rfl rfl 0 (by decide) rfl kw_211 (fun _ h9 => h9) dX4_read_38 (fun v9 h9 => ?_)
        obtain ⟨v38, rfl, t_v38⟩ := h9
        have e9 := (hU7 _ _ t_v38).symm
        subst e9
        refine x_getk (ci := 7) (C := RX7) (F := TX7) (N := 8) (v := .int f30_104) hx hb hts uX7 hown hkb hH 0 rfl rfl 4 (by decide) rfl kw_49 (fun _ h9 => h9) dX4_read_41 ?_
        refine lv_if_eq (tgt := 87) hx hb dX4_read_44 (by decide) (fun c44 => ?_) (fun c44 => ?_)
        · skip
          have tc44 := f_eq (k := 0) (by decide) c44
          have hk87 : kd t tn f30_102.toInt.toNat = 22 := by first | omega | exact kd_end (by omega)
          have g87 : GR t tn [(30, 0)] [] (RZ 0 0 0 0 0) (RZ f30_300 f30_301 f30_303 f30_304 f30_302) n25_0_2 f30_102 := iC.tr (show GR t tn [(30, 0)] [] (RZ f30_300 f30_301 f30_303 f30_304 f30_302) (RZ f30_300 f30_301 f30_303 f30_304 f30_302) f30_102 f30_102 from fun _ => st_lE hk87)
          refine lv_aload_n hx hb dX4_read_87 rfl (lv_at hl 1 rfl) ?_
          refine t_get (ci := 4) (lst := ft4 d 0) (C := RX4) (F := TX4) (N := 5) hx hb hts uX4 hown hkb hH t_a0 (hO.no t_a0 (by decide)) (fun _ h9 => h9) rfl rfl 4 (by decide) rfl kw_216 (fun _ h9 => h9) dX4_read_88 (fun v9 h9 => ?_)
          obtain ⟨v88, rfl, t_v88⟩ := h9
          refine tk_v hH hS hA (tr_V (n := 0) (As := []) hx hb hml hown hts hkb hH (ox_map hOX rfl) hks hE hS hA (s_State_useSinceToday l D cs kf T (tk :: a1 :: d :: O) ((tk, .inr (7, [.ref a1, .int n25_0_1, .int f30_102, .int f30_103, .int f30_104, .int f30_105, .int f30_106, .int f30_107])) :: (a1, .inl (cs.1, 900, .inl ft)) :: (d, .inr (9, [.int f30_300, .int f30_301, .int f30_302, .int f30_303, .int f30_304, .int f30_305, .ref z6, .ref z7, .ref z8, .ref z9, .ref z10, .null, .int z12, .int z13])) :: X) v88 t_v88 (hO.sub (by decide))) kw_707 kw_708 kw_709 kw_7 kw_710 (by decide +kernel) ⟨Nat.le_of_ble_eq_true rfl, Nat.le_of_ble_eq_true rfl⟩ (HT.recv (ci := 6) hkb hH t_v88 (hO.no t_v88 (by decide)) rfl) rfl rfl hl.1 (Nat.le_of_ble_eq_true rfl) dX4_read_91 ⟨Nat.le_of_ble_eq_true rfl, Nat.le_of_ble_eq_true rfl⟩) (fun u H locs hz9 hH hS => ?_)
          have hz9 : u = (T, tk :: a1 :: d :: O, (tk, .inr (7, [.ref a1, .int n25_0_1, .int f30_102, .int f30_103, .int f30_104, .int f30_105, .int f30_106, .int f30_107])) :: (a1, .inl (cs.1, 900, .inl ft)) :: (d, .inr (9, [.int f30_300, .int f30_301, .int f30_302, .int f30_303, .int f30_304, .int f30_305, .ref z6, .ref z7, .ref z8, .ref z9, .ref z10, .null, .int z12, .int z13])) :: X) := hz9
          subst hz9
          have hH : HT D cs A T (tk :: a1 :: d :: O) ((tk, .inr (7, [.ref a1, .int n25_0_1, .int f30_102, .int f30_103, .int f30_104, .int f30_105, .int f30_106, .int f30_107])) :: (a1, .inl (cs.1, 900, .inl ft)) :: (d, .inr (9, [.int f30_300, .int f30_301, .int f30_302, .int f30_303, .int f30_304, .int f30_305, .ref z6, .ref z7, .ref z8, .ref z9, .ref z10, .null, .int z12, .int z13])) :: X) H := hH
          refine W.widen (k := 0) (n := 0) (Nat.le_of_ble_eq_true rfl) (Nat.le_of_ble_eq_true rfl) ?_
          refine lv_iconst (v := 1) hx hb dX4_read_94 (by decide) ?_
          have z9_1 : (1 : Int32).toInt = 1 := by decide
          exact te_z hx hb hr hlocks (by rfl) hH hS (⟨n25_0_1, f30_102, f30_103, f30_104, f30_105, f30_106, f30_107, f30_300, f30_301, f30_302, f30_303, f30_304, f30_305, rfl, by decide, by decide, (Or.inr ⟨by omega, by omega, WO_of g87 x_v251, by omega⟩), Or.inl (by decide), by omega, by omega, by omega⟩) dX4_read_95
        · skip
          have tc44 := f_ne (k := 0) (by decide) c44
          have hl47 := iA.lt (by omega)
          have g47 : GR t tn [(30, 0)] [(31, 0), (20, 30), (32, 0)] (RZ 0 0 0 0 0) (RZ f30_300 f30_301 f30_303 f30_304 f30_302) n25_0_2 f30_102 := iC.tr (show GR t tn [(30, 0)] [(31, 0), (20, 30), (32, 0)] (RZ f30_300 f30_301 f30_303 f30_304 f30_302) (RZ f30_300 f30_301 f30_303 f30_304 f30_302) f30_102 f30_102 from fun _ => st_lL (by omega))
          refine lv_aload_n hx hb dX4_read_47 rfl (lv_at hl 1 rfl) ?_
          refine tk_i hH hS hA (tr_V (n := 0) (As := []) hx hb hml hown hts hkb hH (ox_map hOX rfl) hks hE hS hA (s_RD_readLine l D cs kf T O X a0 d a1 n25_0_1 f30_102 f30_103 f30_104 f30_105 f30_106 f30_107 ft f30_300 f30_301 f30_302 f30_303 f30_304 f30_305 z6 z7 z8 z9 z10 z12 z13 t tn tk t_a0 t_d t_a1 (by omega) (by omega) (by omega) (by omega) (by omega) (by omega) (by omega) (by omega) (by omega) (by omega) (by omega) (by omega) (by omega) (by omega) (by omega) (by omega) t_z6 t_z7 t_z8 t_z9 t_z10 (by omega) (by omega) (by omega) (by omega) (by omega) htb iA t_tk hU7 (by omega) (by omega) (hO.sub (by decide))) kw_545 kw_547 ks_1 kw_2 kw_548 (by decide +kernel) ⟨Nat.le_of_ble_eq_true rfl, Nat.le_of_ble_eq_true rfl⟩ (HT.recv (ci := 4) hkb hH t_a0 (hO.no t_a0 (by decide)) rfl) rfl rfl hl.1 (Nat.le_of_ble_eq_true rfl) dX4_read_48 ⟨Nat.le_of_ble_eq_true rfl, Nat.le_of_ble_eq_true rfl⟩) (fun v48 u H locs hz9 hH hS => ?_)
          obtain ⟨n48_0_2, n48_0_3, n48_0_4, n48_0_5, n48_0_6, n48_0_7, n48_2_0, n48_2_1, n48_2_3, n48_2_4, n48_2_5, rfl, l_v48, u_v48, x_v480, x_v481, x_v482, x_v483, x_v484⟩ := hz9
          have hH : HT D cs A T (tk :: a1 :: d :: O) ((tk, .inr (7, [.ref a1, .int n25_0_1, .int n48_0_2, .int n48_0_3, .int n48_0_4, .int n48_0_5, .int n48_0_6, .int n48_0_7])) :: (a1, .inl (cs.1, 900, .inl ft)) :: (d, .inr (9, [.int n48_2_0, .int n48_2_1, .int f30_302, .int n48_2_3, .int n48_2_4, .int n48_2_5, .ref z6, .ref z7, .ref z8, .ref z9, .ref z10, .null, .int z12, .int z13])) :: X) H := hH
          refine W.widen (k := 0) (n := 0) (Nat.le_of_ble_eq_true rfl) (Nat.le_of_ble_eq_true rfl) ?_
          refine lv_if_eq (tgt := 66) hx hb dX4_read_51 (by decide) (fun c51 => ?_) (fun c51 => ?_)
          · skip
            have tc51 := f_eq (k := 0) (by decide) c51
            clear x_v480
            replace x_v481 := x_v481.resolve_left (fun q9 => q9 tc51)
            refine lv_iconst (v := 0) hx hb dX4_read_66 (by decide) ?_
            have z9_0 : (0 : Int32).toInt = 0 := by decide
            exact te_z hx hb hr hlocks (by rfl) hH hS (⟨n25_0_1, n48_0_2, n48_0_3, n48_0_4, n48_0_5, n48_0_6, n48_0_7, n48_2_0, n48_2_1, f30_302, n48_2_3, n48_2_4, n48_2_5, rfl, by decide, by decide, Or.inl (by decide), (Or.inr (WB_of (by first | (refine g47.bd (BR.ap (G := [(32, 0)]) x_v481)) | (refine g54.bd (BR.cons (BR_f (G := []) (fun _ => st_xN x_v601.1) x_v601.2.1 (by decide) x_v601.2.2 ?_)); omega)) x_v251)), by omega, by omega, by omega⟩) dX4_read_67
          · skip
            have tc51 := f_ne (k := 0) (by decide) c51
            replace x_v480 := x_v480.resolve_left tc51
            clear x_v481
            have g54 : GR t tn [(30, 0)] [(20, 30), (32, 0)] (RZ 0 0 0 0 0) (RZ n48_2_0 n48_2_1 n48_2_3 n48_2_4 f30_302) n25_0_2 n48_0_2 := g47.tr (GR.cons x_v480.2.2.2.2)
            refine lv_aload_n hx hb dX4_read_54 rfl (lv_at hl 1 rfl) ?_
            refine t_get (ci := 4) (lst := ft4 d 0) (C := RX4) (F := TX4) (N := 5) hx hb hts uX4 hown hkb hH t_a0 (hO.no t_a0 (by decide)) (fun _ h9 => h9) rfl rfl 0 (by decide) rfl kw_211 (fun _ h9 => h9) dX4_read_55 (fun v9 h9 => ?_)
            obtain ⟨v55, rfl, t_v55⟩ := h9
            have e9 := (hU7 _ _ t_v55).symm
            subst e9
            refine lv_bipush (v := 59) hx hb dX4_read_58 (by decide) ?_
            have z9_59 : (59 : Int32).toInt = 59 := by decide
            refine tk_i hH hS hA (tr_V (n := 1) (As := [.int 59]) hx hb hml hown hts hkb hH (ox_map hOX rfl) hks hE hS hA (s_Tok_takeSign l D cs kf T (d :: O) ((d, .inr (9, [.int n48_2_0, .int n48_2_1, .int f30_302, .int n48_2_3, .int n48_2_4, .int n48_2_5, .ref z6, .ref z7, .ref z8, .ref z9, .ref z10, .null, .int z12, .int z13])) :: X) tk (59) a1 n25_0_1 n48_0_2 n48_0_3 n48_0_4 n48_0_5 n48_0_6 n48_0_7 ft t tn 30 t_tk t_a1 (by omega) (by omega) (by omega) (by omega) (by omega) (by omega) (by omega) htb x_v480.1 (by decide) (by decide) (hO.sub (by decide))) kw_610 kw_611 kw_612 kw_3 kw_613 (by decide +kernel) ⟨Nat.le_of_ble_eq_true rfl, Nat.le_of_ble_eq_true rfl⟩ (x_recv (ci := 7) hkb hH 0 rfl rfl) rfl rfl hl.1 (Nat.le_of_ble_eq_true rfl) dX4_read_60 ⟨Nat.le_of_ble_eq_true rfl, Nat.le_of_ble_eq_true rfl⟩) (fun v60 u H locs hz9 hH hS => ?_)
            obtain ⟨n60_0_2, n60_0_3, n60_0_4, n60_0_5, n60_0_6, n60_0_7, rfl, l_v60, u_v60, x_v600, x_v601, x_v602⟩ := hz9
            have hH : HT D cs A T (tk :: a1 :: d :: O) ((tk, .inr (7, [.ref a1, .int n25_0_1, .int n60_0_2, .int n60_0_3, .int n60_0_4, .int n60_0_5, .int n60_0_6, .int n60_0_7])) :: (a1, .inl (cs.1, 900, .inl ft)) :: (d, .inr (9, [.int n48_2_0, .int n48_2_1, .int f30_302, .int n48_2_3, .int n48_2_4, .int n48_2_5, .ref z6, .ref z7, .ref z8, .ref z9, .ref z10, .null, .int z12, .int z13])) :: X) H := hH
            refine W.widen (k := 0) (n := 0) (Nat.le_of_ble_eq_true rfl) (Nat.le_of_ble_eq_true rfl) ?_
            refine lv_if_ne (tgt := 68) hx hb dX4_read_63 (by decide) (fun c63 => ?_) (fun c63 => ?_)
            · skip
              have tc63 := f_ne (k := 0) (by decide) c63
              replace x_v600 := x_v600.resolve_left tc63
              clear x_v601
              have g68 : GR t tn [(30, 0)] [(32, 0)] (RZ 0 0 0 0 0) (RZ n48_2_0 n48_2_1 n48_2_3 n48_2_4 f30_302) n25_0_2 n60_0_2 := g54.tr (GR.cons (GR_nx (fun _ => st_xY x_v600.2.2.1) x_v600.2.1))
              refine lv_aload_n hx hb dX4_read_68 rfl (lv_at hl 1 rfl) ?_
              refine t_get (ci := 4) (lst := ft4 d 0) (C := RX4) (F := TX4) (N := 5) hx hb hts uX4 hown hkb hH t_a0 (hO.no t_a0 (by decide)) (fun _ h9 => h9) rfl rfl 2 (by decide) rfl kw_214 (fun _ h9 => h9) dX4_read_69 (fun v9 h9 => ?_)
              have h9 : v9 = .ref d := h9
              subst h9
              refine lv_dup hx hb dX4_read_72 rfl ?_
              refine x_getk (ci := 9) (C := RX9) (F := TX9) (N := 14) (v := .int f30_302) hx hb hts uX9 hown hkb hH 2 rfl rfl 2 (by decide) rfl kw_114 (fun _ h9 => h9) dX4_read_73 ?_
              refine lv_iconst (v := 1) hx hb dX4_read_76 (by decide) ?_
              refine lv_iadd hx hb dX4_read_77 ?_
              refine lv_topi (fun v77 ev77 => ?_)
              have tv77 : v77.toInt = f30_302.toInt + (1) := by rw [ev77]; exact add_i rfl (by decide : (1 : Int32).toInt = 1) (by omega) (by omega)
              refine x_putk (ci := 9) (v := .int v77) (ty := tyX9 2) (C := RX9) (F := TX9) (N := 14) hx hb hts uX9 tyX9 tyX9_ok nmX9 hown hkb hH hS 2 rfl rfl 2 (by decide) kw_114 (fun _ h9 => h9) rfl (tyX9_ok 2 (by decide)) rfl rfl (Nat.le_of_ble_eq_true rfl) dX4_read_78 (fun H locs hH hS => ?_)
              have hH : HT D cs A T (tk :: a1 :: d :: O) ((tk, .inr (7, [.ref a1, .int n25_0_1, .int n60_0_2, .int n60_0_3, .int n60_0_4, .int n60_0_5, .int n60_0_6, .int n60_0_7])) :: (a1, .inl (cs.1, 900, .inl ft)) :: (d, .inr (9, [.int n48_2_0, .int n48_2_1, .int v77, .int n48_2_3, .int n48_2_4, .int n48_2_5, .ref z6, .ref z7, .ref z8, .ref z9, .ref z10, .null, .int z12, .int z13])) :: X) H := hH
              have g81 := g68.tr (GR_lC (by omega) tv77)
              obtain ⟨v81, ev81⟩ : ∃ y : Int32, y = p30_3 + 1 := ⟨_, rfl⟩
              have tv81 : v81.toInt = p30_3.toInt + (1) := by rw [ev81]; exact add_i rfl (by decide) (by omega) (by omega)
              refine lv_iinc (v := v81) (lv' := [(3, .int v81), (0, .ref a0)]) hx hb dX4_read_81 hl (k := 0) rfl (by rw [ev81]; rfl) (by decide) rfl (fun ls hl => ?_)
              refine lv_goto (tgt := 30) hx hb dX4_read_84 (by decide) ?_
              exact ih30 _ (by omega) v81 n60_0_2 n60_0_3 n60_0_4 n60_0_5 n60_0_6 n60_0_7 n48_2_0 n48_2_1 v77 n48_2_3 n48_2_4 n48_2_5 _ _ _ rfl (by omega) (by omega) (by omega) (by omega) (by omega) (by omega) (by omega) (by omega) (by omega) (by omega) (by omega) (by omega) (by omega) (by omega) (by omega) (by omega) (by omega) (by omega) x_v600.1 (by omega) (by first | exact GR.rf | exact g81) (by omega) hH hS (lv_sub hl [0, 1] rfl)
            · skip
              have tc63 := f_eq (k := 0) (by decide) c63
              clear x_v600
              replace x_v601 := x_v601.resolve_left (fun q9 => q9 tc63)
              refine lv_iconst (v := 0) hx hb dX4_read_66 (by decide) ?_
              have z9_0 : (0 : Int32).toInt = 0 := by decide
              exact te_z hx hb hr hlocks (by rfl) hH hS (⟨n25_0_1, n60_0_2, n60_0_3, n60_0_4, n60_0_5, n60_0_6, n60_0_7, n48_2_0, n48_2_1, f30_302, n48_2_3, n48_2_4, n48_2_5, rfl, by decide, by decide, Or.inl (by decide), (Or.inr (WB_of (by first | (refine g47.bd (BR.ap (G := [(32, 0)]) x_v481)) | (refine g54.bd (BR.cons (BR_f (G := []) (fun _ => st_xN x_v601.1) x_v601.2.1 (by decide) x_v601.2.2 ?_)); omega)) x_v251)), by omega, by omega, by omega⟩) dX4_read_67
  refine lv_istore_n (lv' := [(3, .int 0), (0, .ref a0), (1, .ref a1), (2, .int x2)]) hx hb dX4_read_29 rfl hl (by decide) rfl (fun ls hl => ?_)
  have z_m1 : ((-1) : Int32).toInt = -1 := by decide
  have z_0 : (0 : Int32).toInt = 0 := by decide
  exact J30 _ 0 n25_0_2 n25_0_3 n25_0_4 n25_0_5 0 (-1) 0 0 0 0 0 0 _ _ _ rfl (by decide) (by decide) (by omega) (by omega) (by omega) (by omega) (by decide) (by decide) (by decide) (by decide) (by decide) (by decide) (by decide) (by decide) (by decide) (by decide) (by decide) (by decide) x_v250 (by omega) (by first | exact GR.rf | exact g81) (by omega) hH hS (lv_sub hl [0, 1] rfl)
theorem dX11_fault_0 : decode cX11_fault 0 = .ok (.iload_n 1, 1) := by decide +kernel
theorem dX11_fault_1 : decode cX11_fault 1 = .ok (.ifCond .ne 14, 3) := by decide +kernel
theorem dX11_fault_4 : decode cX11_fault 4 = .ok (.aload_n 0, 1) := by decide +kernel
theorem dX11_fault_5 : decode cX11_fault 5 = .ok (.getfield 20, 3) := by decide +kernel
theorem dX11_fault_8 : decode cX11_fault 8 = .ok (.getfield 119, 3) := by decide +kernel
theorem dX11_fault_11 : decode cX11_fault 11 = .ok (.getfield 123, 3) := by decide +kernel
theorem dX11_fault_14 : decode cX11_fault 14 = .ok (.ireturn, 1) := by decide +kernel
theorem dX11_fault_15 : decode cX11_fault 15 = .ok (.iload_n 1, 1) := by decide +kernel
theorem dX11_fault_16 : decode cX11_fault 16 = .ok (.iconst 1, 1) := by decide +kernel
theorem dX11_fault_17 : decode cX11_fault 17 = .ok (.if_icmp .ne 16, 3) := by decide +kernel
theorem dX11_fault_20 : decode cX11_fault 20 = .ok (.aload_n 0, 1) := by decide +kernel
theorem dX11_fault_21 : decode cX11_fault 21 = .ok (.getfield 20, 3) := by decide +kernel
theorem dX11_fault_24 : decode cX11_fault 24 = .ok (.getfield 119, 3) := by decide +kernel
theorem dX11_fault_27 : decode cX11_fault 27 = .ok (.getfield 142, 3) := by decide +kernel
theorem dX11_fault_30 : decode cX11_fault 30 = .ok (.goto 4, 3) := by decide +kernel
theorem dX11_fault_33 : decode cX11_fault 33 = .ok (.iconst (-1), 1) := by decide +kernel
theorem dX11_fault_34 : decode cX11_fault 34 = .ok (.ireturn, 1) := by decide +kernel
theorem kw_55 : Cond.fieldLink "FootholdWall" 123 "FootholdWall$Tokens" "fault" "I" ∈ gw := gw_of (tb_of 55 (by decide +kernel)) (by decide +kernel)
theorem kw_57 : Cond.fieldLink "FootholdWall" 142 "FootholdWall$Tokens" "place" "I" ∈ gw := gw_of (tb_of 57 (by decide +kernel)) (by decide +kernel)
theorem kw_212 : Cond.fieldLink "FootholdWall" 119 "FootholdWall$Reader" "tokens" "LFootholdWall$Tokens;" ∈ gw := gw_of (tb_of 212 (by decide +kernel)) (by decide +kernel)
theorem kw_362 : Cond.fieldLink "FootholdWall" 20 "FootholdWall" "reader" "LFootholdWall$Reader;" ∈ gw := gw_of (tb_of 362 (by decide +kernel)) (by decide +kernel)
set_option maxHeartbeats 4000000 in
set_option maxRecDepth 100000 in
theorem s_FW_fault (l : Launch) (D : va_G) (cs : CS) (kf : KF) (T : TF) (O : List Nat) (X : va_W) (a0 w hw gw ch gq : Nat) (x1 : Int32) (o0 : Value) (o1 : Value) (o2 : Value) (o3 : Value) (o4 : Value) (o5 : Value) (y6 : Int32) (y7 : Int32) (tk : Nat) (t_a0 : T a0 = some (21, w, ch)) (t_w : isW T w hw gw) (t_ch : T ch = some (10, gq, 0)) (t_tk : T tk = some (17, 0, 0)) (hU7 : ∀ (b : Nat) (q : Nat), T b = some (17, 0, q) → b = tk) (hO : okO T (tk :: O) [14, 21]) : TK l D cs kf yX11_fault cX11_fault 2 (some (.int)) { frames := 0, cells := 0, slots := 0, locals := 0 } [.ref a0, .int x1] T (tk :: O) ((tk, .inr (7, [o0, o1, o2, o3, o4, o5, .int y6, .int y7])) :: X) (Ti D cs (fun r u => u = (T, tk :: O, (tk, .inr (7, [o0, o1, o2, o3, o4, o5, .int y6, .int y7])) :: X) ∧ (r.toInt = FTF y6.toInt y7.toInt x1.toInt))) := by
  refine tk_of (by decide) (Nat.le_of_ble_eq_true rfl) (fun p e s m below meth c ls A H locs hx hb hr hml hown hts hlocks hnm hkb hH hS hA hOX hks hE hl => ?_)
  have hown : s.vm.findClass RX11 = some m.cls := hown
  have hl : lv_has ls 2 [(0, .ref a0), (1, .int x1)] := hl
  have b1_w := t_w.2.1
  have b2_w := t_w.2.2
  have hOXf := hOX
  refine lv_iload_n hx hb dX11_fault_0 rfl (lv_at hl 1 rfl) ?_
  refine lv_if_ne (tgt := 15) hx hb dX11_fault_1 (by decide) (fun c1 => ?_) (fun c1 => ?_)
  · skip
    have tc1 := f_ne (k := 0) (by decide) c1
    refine lv_iload_n hx hb dX11_fault_15 rfl (lv_at hl 1 rfl) ?_
    refine lv_iconst (v := 1) hx hb dX11_fault_16 (by decide) ?_
    refine lv_icmp_ne (tgt := 33) hx hb dX11_fault_17 (by decide) (fun c17 => ?_) (fun c17 => ?_)
    · skip
      have tc17 := f_ne (k := 1) (by decide) c17
      refine lv_iconst (v := (-1)) hx hb dX11_fault_33 (by decide) ?_
      have z9_m1 : ((-1) : Int32).toInt = -1 := by decide
      exact te_i hx hb hr hlocks hH hS (⟨rfl, (by first | (rw [FTF_0 (by omega)]) | (rw [FTF_1 (by omega)]) | (rw [FTF_2 (by omega) (by omega)]; decide))⟩) dX11_fault_34
    · skip
      have tc17 := f_eq (k := 1) (by decide) c17
      refine lv_aload_n hx hb dX11_fault_20 rfl (lv_at hl 0 rfl) ?_
      refine t_get (ci := 11) (lst := ft11 w ch) (C := RX11) (F := TX11) (N := 20) hx hb hts uX11 hown hkb hH t_a0 (hO.no t_a0 (by decide)) (fun _ h9 => h9) rfl rfl 2 (by decide) rfl kw_362 (fun _ h9 => h9) dX11_fault_21 (fun v9 h9 => ?_)
      obtain ⟨v21, dv21, rfl, t_v21, t_dv21⟩ := h9
      refine t_get (ci := 4) (lst := ft4 dv21 0) (C := RX4) (F := TX4) (N := 5) hx hb hts uX4 hown hkb hH t_v21 (hO.no t_v21 (by decide)) (fun _ h9 => h9) rfl rfl 0 (by decide) rfl kw_212 (fun _ h9 => h9) dX11_fault_24 (fun v9 h9 => ?_)
      obtain ⟨v24, rfl, t_v24⟩ := h9
      have e9 := (hU7 _ _ t_v24).symm
      subst e9
      refine x_getk (ci := 7) (C := RX7) (F := TX7) (N := 8) (v := .int y7) hx hb hts uX7 hown hkb hH 0 rfl rfl 7 (by decide) rfl kw_57 (fun _ h9 => h9) dX11_fault_27 ?_
      refine lv_goto (tgt := 34) hx hb dX11_fault_30 (by decide) ?_
      exact te_i hx hb hr hlocks hH hS (⟨rfl, (by first | (rw [FTF_0 (by omega)]) | (rw [FTF_1 (by omega)]) | (rw [FTF_2 (by omega) (by omega)]; decide))⟩) dX11_fault_34
  · skip
    have tc1 := f_eq (k := 0) (by decide) c1
    refine lv_aload_n hx hb dX11_fault_4 rfl (lv_at hl 0 rfl) ?_
    refine t_get (ci := 11) (lst := ft11 w ch) (C := RX11) (F := TX11) (N := 20) hx hb hts uX11 hown hkb hH t_a0 (hO.no t_a0 (by decide)) (fun _ h9 => h9) rfl rfl 2 (by decide) rfl kw_362 (fun _ h9 => h9) dX11_fault_5 (fun v9 h9 => ?_)
    obtain ⟨v5, dv5, rfl, t_v5, t_dv5⟩ := h9
    refine t_get (ci := 4) (lst := ft4 dv5 0) (C := RX4) (F := TX4) (N := 5) hx hb hts uX4 hown hkb hH t_v5 (hO.no t_v5 (by decide)) (fun _ h9 => h9) rfl rfl 0 (by decide) rfl kw_212 (fun _ h9 => h9) dX11_fault_8 (fun v9 h9 => ?_)
    obtain ⟨v8, rfl, t_v8⟩ := h9
    have e9 := (hU7 _ _ t_v8).symm
    subst e9
    refine x_getk (ci := 7) (C := RX7) (F := TX7) (N := 8) (v := .int y6) hx hb hts uX7 hown hkb hH 0 rfl rfl 6 (by decide) rfl kw_55 (fun _ h9 => h9) dX11_fault_11 ?_
    exact te_i hx hb hr hlocks hH hS (⟨rfl, (by first | (rw [FTF_0 (by omega)]) | (rw [FTF_1 (by omega)]) | (rw [FTF_2 (by omega) (by omega)]; decide))⟩) dX11_fault_14
theorem dX12_between_0 : decode cX12_between 0 = .ok (.iload_n 0, 1) := by decide +kernel
theorem dX12_between_1 : decode cX12_between 1 = .ok (.sipush 3002, 3) := by decide +kernel
theorem dX12_between_4 : decode cX12_between 4 = .ok (.if_icmp .gt 70, 3) := by decide +kernel
theorem dX12_between_7 : decode cX12_between 7 = .ok (.iload_n 0, 1) := by decide +kernel
theorem dX12_between_8 : decode cX12_between 8 = .ok (.sipush 3000, 3) := by decide +kernel
theorem dX12_between_11 : decode cX12_between 11 = .ok (.if_icmp .ne 11, 3) := by decide +kernel
theorem dX12_between_14 : decode cX12_between 14 = .ok (.iload_n 1, 1) := by decide +kernel
theorem dX12_between_15 : decode cX12_between 15 = .ok (.i2l, 1) := by decide +kernel
theorem dX12_between_16 : decode cX12_between 16 = .ok (.iload_n 2, 1) := by decide +kernel
theorem dX12_between_17 : decode cX12_between 17 = .ok (.i2l, 1) := by decide +kernel
theorem dX12_between_18 : decode cX12_between 18 = .ok (.ladd, 1) := by decide +kernel
theorem dX12_between_19 : decode cX12_between 19 = .ok (.goto 23, 3) := by decide +kernel
theorem dX12_between_22 : decode cX12_between 22 = .ok (.iload_n 0, 1) := by decide +kernel
theorem dX12_between_23 : decode cX12_between 23 = .ok (.sipush 3001, 3) := by decide +kernel
theorem dX12_between_26 : decode cX12_between 26 = .ok (.if_icmp .ne 11, 3) := by decide +kernel
theorem dX12_between_29 : decode cX12_between 29 = .ok (.iload_n 1, 1) := by decide +kernel
theorem dX12_between_30 : decode cX12_between 30 = .ok (.i2l, 1) := by decide +kernel
theorem dX12_between_31 : decode cX12_between 31 = .ok (.iload_n 2, 1) := by decide +kernel
theorem dX12_between_32 : decode cX12_between 32 = .ok (.i2l, 1) := by decide +kernel
theorem dX12_between_33 : decode cX12_between 33 = .ok (.lsub, 1) := by decide +kernel
theorem dX12_between_34 : decode cX12_between 34 = .ok (.goto 8, 3) := by decide +kernel
theorem dX12_between_37 : decode cX12_between 37 = .ok (.iload_n 1, 1) := by decide +kernel
theorem dX12_between_38 : decode cX12_between 38 = .ok (.i2l, 1) := by decide +kernel
theorem dX12_between_39 : decode cX12_between 39 = .ok (.iload_n 2, 1) := by decide +kernel
theorem dX12_between_40 : decode cX12_between 40 = .ok (.i2l, 1) := by decide +kernel
theorem dX12_between_41 : decode cX12_between 41 = .ok (.lmul, 1) := by decide +kernel
theorem dX12_between_42 : decode cX12_between 42 = .ok (.lstore_n 3, 1) := by decide +kernel
theorem dX12_between_43 : decode cX12_between 43 = .ok (.lload_n 3, 1) := by decide +kernel
theorem dX12_between_44 : decode cX12_between 44 = .ok (.ldc2_w 234, 3) := by decide +kernel
theorem dX12_between_47 : decode cX12_between 47 = .ok (.lcmp, 1) := by decide +kernel
theorem dX12_between_48 : decode cX12_between 48 = .ok (.ifCond .le 9, 3) := by decide +kernel
theorem dX12_between_51 : decode cX12_between 51 = .ok (.ldc2_w 234, 3) := by decide +kernel
theorem dX12_between_54 : decode cX12_between 54 = .ok (.goto 18, 3) := by decide +kernel
theorem dX12_between_57 : decode cX12_between 57 = .ok (.lload_n 3, 1) := by decide +kernel
theorem dX12_between_58 : decode cX12_between 58 = .ok (.ldc2_w 236, 3) := by decide +kernel
theorem dX12_between_61 : decode cX12_between 61 = .ok (.lcmp, 1) := by decide +kernel
theorem dX12_between_62 : decode cX12_between 62 = .ok (.ifCond .ge 9, 3) := by decide +kernel
theorem dX12_between_65 : decode cX12_between 65 = .ok (.ldc2_w 236, 3) := by decide +kernel
theorem dX12_between_68 : decode cX12_between 68 = .ok (.goto 4, 3) := by decide +kernel
theorem dX12_between_71 : decode cX12_between 71 = .ok (.lload_n 3, 1) := by decide +kernel
theorem dX12_between_72 : decode cX12_between 72 = .ok (.l2i, 1) := by decide +kernel
theorem dX12_between_73 : decode cX12_between 73 = .ok (.ireturn, 1) := by decide +kernel
theorem dX12_between_74 : decode cX12_between 74 = .ok (.iload_n 0, 1) := by decide +kernel
theorem dX12_between_75 : decode cX12_between 75 = .ok (.sipush 3003, 3) := by decide +kernel
theorem dX12_between_78 : decode cX12_between 78 = .ok (.if_icmp .ne 16, 3) := by decide +kernel
theorem dX12_between_81 : decode cX12_between 81 = .ok (.iload_n 1, 1) := by decide +kernel
theorem dX12_between_82 : decode cX12_between 82 = .ok (.iload_n 2, 1) := by decide +kernel
theorem dX12_between_83 : decode cX12_between 83 = .ok (.if_icmp .ne 7, 3) := by decide +kernel
theorem dX12_between_86 : decode cX12_between 86 = .ok (.iconst 1, 1) := by decide +kernel
theorem dX12_between_87 : decode cX12_between 87 = .ok (.goto 80, 3) := by decide +kernel
theorem dX12_between_90 : decode cX12_between 90 = .ok (.iconst 0, 1) := by decide +kernel
theorem dX12_between_91 : decode cX12_between 91 = .ok (.goto 76, 3) := by decide +kernel
theorem dX12_between_94 : decode cX12_between 94 = .ok (.iload_n 0, 1) := by decide +kernel
theorem dX12_between_95 : decode cX12_between 95 = .ok (.sipush 3004, 3) := by decide +kernel
theorem dX12_between_98 : decode cX12_between 98 = .ok (.if_icmp .ne 16, 3) := by decide +kernel
theorem dX12_between_101 : decode cX12_between 101 = .ok (.iload_n 1, 1) := by decide +kernel
theorem dX12_between_102 : decode cX12_between 102 = .ok (.iload_n 2, 1) := by decide +kernel
theorem dX12_between_103 : decode cX12_between 103 = .ok (.if_icmp .ge 7, 3) := by decide +kernel
theorem dX12_between_106 : decode cX12_between 106 = .ok (.iconst 1, 1) := by decide +kernel
theorem dX12_between_107 : decode cX12_between 107 = .ok (.goto 60, 3) := by decide +kernel
theorem dX12_between_110 : decode cX12_between 110 = .ok (.iconst 0, 1) := by decide +kernel
theorem dX12_between_111 : decode cX12_between 111 = .ok (.goto 56, 3) := by decide +kernel
theorem dX12_between_114 : decode cX12_between 114 = .ok (.iload_n 0, 1) := by decide +kernel
theorem dX12_between_115 : decode cX12_between 115 = .ok (.sipush 3005, 3) := by decide +kernel
theorem dX12_between_118 : decode cX12_between 118 = .ok (.if_icmp .ne 16, 3) := by decide +kernel
theorem dX12_between_121 : decode cX12_between 121 = .ok (.iload_n 1, 1) := by decide +kernel
theorem dX12_between_122 : decode cX12_between 122 = .ok (.iload_n 2, 1) := by decide +kernel
theorem dX12_between_123 : decode cX12_between 123 = .ok (.if_icmp .le 7, 3) := by decide +kernel
theorem dX12_between_126 : decode cX12_between 126 = .ok (.iconst 1, 1) := by decide +kernel
theorem dX12_between_127 : decode cX12_between 127 = .ok (.goto 40, 3) := by decide +kernel
theorem dX12_between_130 : decode cX12_between 130 = .ok (.iconst 0, 1) := by decide +kernel
theorem dX12_between_131 : decode cX12_between 131 = .ok (.goto 36, 3) := by decide +kernel
theorem dX12_between_134 : decode cX12_between 134 = .ok (.iload_n 0, 1) := by decide +kernel
theorem dX12_between_135 : decode cX12_between 135 = .ok (.sipush 3006, 3) := by decide +kernel
theorem dX12_between_138 : decode cX12_between 138 = .ok (.if_icmp .ne 18, 3) := by decide +kernel
theorem dX12_between_141 : decode cX12_between 141 = .ok (.iload_n 1, 1) := by decide +kernel
theorem dX12_between_142 : decode cX12_between 142 = .ok (.iload_n 2, 1) := by decide +kernel
theorem dX12_between_143 : decode cX12_between 143 = .ok (.iadd, 1) := by decide +kernel
theorem dX12_between_144 : decode cX12_between 144 = .ok (.iconst 2, 1) := by decide +kernel
theorem dX12_between_145 : decode cX12_between 145 = .ok (.if_icmp .ne 7, 3) := by decide +kernel
theorem dX12_between_148 : decode cX12_between 148 = .ok (.iconst 1, 1) := by decide +kernel
theorem dX12_between_149 : decode cX12_between 149 = .ok (.goto 18, 3) := by decide +kernel
theorem dX12_between_152 : decode cX12_between 152 = .ok (.iconst 0, 1) := by decide +kernel
theorem dX12_between_153 : decode cX12_between 153 = .ok (.goto 14, 3) := by decide +kernel
theorem dX12_between_156 : decode cX12_between 156 = .ok (.iload_n 1, 1) := by decide +kernel
theorem dX12_between_157 : decode cX12_between 157 = .ok (.iload_n 2, 1) := by decide +kernel
theorem dX12_between_158 : decode cX12_between 158 = .ok (.iadd, 1) := by decide +kernel
theorem dX12_between_159 : decode cX12_between 159 = .ok (.ifCond .le 7, 3) := by decide +kernel
theorem dX12_between_162 : decode cX12_between 162 = .ok (.iconst 1, 1) := by decide +kernel
theorem dX12_between_163 : decode cX12_between 163 = .ok (.goto 4, 3) := by decide +kernel
theorem dX12_between_166 : decode cX12_between 166 = .ok (.iconst 0, 1) := by decide +kernel
theorem dX12_between_167 : decode cX12_between 167 = .ok (.istore_n 3, 1) := by decide +kernel
theorem dX12_between_168 : decode cX12_between 168 = .ok (.iload_n 3, 1) := by decide +kernel
theorem dX12_between_169 : decode cX12_between 169 = .ok (.ifCond .eq 7, 3) := by decide +kernel
theorem dX12_between_172 : decode cX12_between 172 = .ok (.iconst 1, 1) := by decide +kernel
theorem dX12_between_173 : decode cX12_between 173 = .ok (.goto 4, 3) := by decide +kernel
theorem dX12_between_176 : decode cX12_between 176 = .ok (.iconst 0, 1) := by decide +kernel
theorem dX12_between_177 : decode cX12_between 177 = .ok (.ireturn, 1) := by decide +kernel
theorem dX12_bitsOf_0 : decode cX12_bitsOf 0 = .ok (.iconst 0, 1) := by decide +kernel
theorem dX12_bitsOf_1 : decode cX12_bitsOf 1 = .ok (.istore_n 1, 1) := by decide +kernel
theorem dX12_bitsOf_2 : decode cX12_bitsOf 2 = .ok (.iconst 0, 1) := by decide +kernel
theorem dX12_bitsOf_3 : decode cX12_bitsOf 3 = .ok (.istore_n 2, 1) := by decide +kernel
theorem dX12_bitsOf_4 : decode cX12_bitsOf 4 = .ok (.iload_n 2, 1) := by decide +kernel
theorem dX12_bitsOf_5 : decode cX12_bitsOf 5 = .ok (.bipush 14, 2) := by decide +kernel
theorem dX12_bitsOf_7 : decode cX12_bitsOf 7 = .ok (.if_icmp .ge 17, 3) := by decide +kernel
theorem dX12_bitsOf_10 : decode cX12_bitsOf 10 = .ok (.iload_n 1, 1) := by decide +kernel
theorem dX12_bitsOf_11 : decode cX12_bitsOf 11 = .ok (.iload_n 0, 1) := by decide +kernel
theorem dX12_bitsOf_12 : decode cX12_bitsOf 12 = .ok (.iload_n 2, 1) := by decide +kernel
theorem dX12_bitsOf_13 : decode cX12_bitsOf 13 = .ok (.ishr, 1) := by decide +kernel
theorem dX12_bitsOf_14 : decode cX12_bitsOf 14 = .ok (.iconst 1, 1) := by decide +kernel
theorem dX12_bitsOf_15 : decode cX12_bitsOf 15 = .ok (.iand, 1) := by decide +kernel
theorem dX12_bitsOf_16 : decode cX12_bitsOf 16 = .ok (.iadd, 1) := by decide +kernel
theorem dX12_bitsOf_17 : decode cX12_bitsOf 17 = .ok (.istore_n 1, 1) := by decide +kernel
theorem dX12_bitsOf_18 : decode cX12_bitsOf 18 = .ok (.iinc 2 1, 3) := by decide +kernel
theorem dX12_bitsOf_21 : decode cX12_bitsOf 21 = .ok (.goto (-17), 3) := by decide +kernel
theorem dX12_bitsOf_24 : decode cX12_bitsOf 24 = .ok (.iload_n 1, 1) := by decide +kernel
theorem dX12_bitsOf_25 : decode cX12_bitsOf 25 = .ok (.ireturn, 1) := by decide +kernel
theorem dX12_cut_0 : decode cX12_cut 0 = .ok (.iload_n 2, 1) := by decide +kernel
theorem dX12_cut_1 : decode cX12_cut 1 = .ok (.ifCond .ne 10, 3) := by decide +kernel
theorem dX12_cut_4 : decode cX12_cut 4 = .ok (.lload_n 0, 1) := by decide +kernel
theorem dX12_cut_5 : decode cX12_cut 5 = .ok (.l2i, 1) := by decide +kernel
theorem dX12_cut_6 : decode cX12_cut 6 = .ok (.i2b, 1) := by decide +kernel
theorem dX12_cut_7 : decode cX12_cut 7 = .ok (.i2l, 1) := by decide +kernel
theorem dX12_cut_8 : decode cX12_cut 8 = .ok (.goto 27, 3) := by decide +kernel
theorem dX12_cut_11 : decode cX12_cut 11 = .ok (.iload_n 2, 1) := by decide +kernel
theorem dX12_cut_12 : decode cX12_cut 12 = .ok (.iconst 1, 1) := by decide +kernel
theorem dX12_cut_13 : decode cX12_cut 13 = .ok (.if_icmp .ne 10, 3) := by decide +kernel
theorem dX12_cut_16 : decode cX12_cut 16 = .ok (.lload_n 0, 1) := by decide +kernel
theorem dX12_cut_17 : decode cX12_cut 17 = .ok (.l2i, 1) := by decide +kernel
theorem dX12_cut_18 : decode cX12_cut 18 = .ok (.i2s, 1) := by decide +kernel
theorem dX12_cut_19 : decode cX12_cut 19 = .ok (.i2l, 1) := by decide +kernel
theorem dX12_cut_20 : decode cX12_cut 20 = .ok (.goto 15, 3) := by decide +kernel
theorem dX12_cut_23 : decode cX12_cut 23 = .ok (.iload_n 2, 1) := by decide +kernel
theorem dX12_cut_24 : decode cX12_cut 24 = .ok (.iconst 2, 1) := by decide +kernel
theorem dX12_cut_25 : decode cX12_cut 25 = .ok (.if_icmp .ne 9, 3) := by decide +kernel
theorem dX12_cut_28 : decode cX12_cut 28 = .ok (.lload_n 0, 1) := by decide +kernel
theorem dX12_cut_29 : decode cX12_cut 29 = .ok (.l2i, 1) := by decide +kernel
theorem dX12_cut_30 : decode cX12_cut 30 = .ok (.i2l, 1) := by decide +kernel
theorem dX12_cut_31 : decode cX12_cut 31 = .ok (.goto 4, 3) := by decide +kernel
theorem dX12_cut_34 : decode cX12_cut 34 = .ok (.lload_n 0, 1) := by decide +kernel
theorem dX12_cut_35 : decode cX12_cut 35 = .ok (.lreturn, 1) := by decide +kernel
theorem dX12_far_0 : decode cX12_far 0 = .ok (.iload_n 0, 1) := by decide +kernel
theorem dX12_far_1 : decode cX12_far 1 = .ok (.ifCond .ge 8, 3) := by decide +kernel
theorem dX12_far_4 : decode cX12_far 4 = .ok (.iload_n 0, 1) := by decide +kernel
theorem dX12_far_5 : decode cX12_far 5 = .ok (.ineg, 1) := by decide +kernel
theorem dX12_far_6 : decode cX12_far 6 = .ok (.goto 4, 3) := by decide +kernel
theorem dX12_far_9 : decode cX12_far 9 = .ok (.iload_n 0, 1) := by decide +kernel
theorem dX12_far_10 : decode cX12_far 10 = .ok (.ireturn, 1) := by decide +kernel
theorem dX12_isDigit_0 : decode cX12_isDigit 0 = .ok (.iload_n 0, 1) := by decide +kernel
theorem dX12_isDigit_1 : decode cX12_isDigit 1 = .ok (.bipush 48, 2) := by decide +kernel
theorem dX12_isDigit_3 : decode cX12_isDigit 3 = .ok (.if_icmp .lt 13, 3) := by decide +kernel
theorem dX12_isDigit_6 : decode cX12_isDigit 6 = .ok (.iload_n 0, 1) := by decide +kernel
theorem dX12_isDigit_7 : decode cX12_isDigit 7 = .ok (.bipush 57, 2) := by decide +kernel
theorem dX12_isDigit_9 : decode cX12_isDigit 9 = .ok (.if_icmp .gt 7, 3) := by decide +kernel
theorem dX12_isDigit_12 : decode cX12_isDigit 12 = .ok (.iconst 1, 1) := by decide +kernel
theorem dX12_isDigit_13 : decode cX12_isDigit 13 = .ok (.goto 4, 3) := by decide +kernel
theorem dX12_isDigit_16 : decode cX12_isDigit 16 = .ok (.iconst 0, 1) := by decide +kernel
theorem dX12_isDigit_17 : decode cX12_isDigit 17 = .ok (.ireturn, 1) := by decide +kernel
theorem dX12_isIn_0 : decode cX12_isIn 0 = .ok (.lload_n 0, 1) := by decide +kernel
theorem dX12_isIn_1 : decode cX12_isIn 1 = .ok (.iload_n 2, 1) := by decide +kernel
theorem dX12_isIn_2 : decode cX12_isIn 2 = .ok (.lshr, 1) := by decide +kernel
theorem dX12_isIn_3 : decode cX12_isIn 3 = .ok (.lconst 1, 1) := by decide +kernel
theorem dX12_isIn_4 : decode cX12_isIn 4 = .ok (.land, 1) := by decide +kernel
theorem dX12_isIn_5 : decode cX12_isIn 5 = .ok (.lconst 1, 1) := by decide +kernel
theorem dX12_isIn_6 : decode cX12_isIn 6 = .ok (.lcmp, 1) := by decide +kernel
theorem dX12_isIn_7 : decode cX12_isIn 7 = .ok (.ifCond .ne 7, 3) := by decide +kernel
theorem dX12_isIn_10 : decode cX12_isIn 10 = .ok (.iconst 1, 1) := by decide +kernel
theorem dX12_isIn_11 : decode cX12_isIn 11 = .ok (.goto 4, 3) := by decide +kernel
theorem dX12_isIn_14 : decode cX12_isIn 14 = .ok (.iconst 0, 1) := by decide +kernel
theorem dX12_isIn_15 : decode cX12_isIn 15 = .ok (.ireturn, 1) := by decide +kernel
theorem dX12_isSmall_0 : decode cX12_isSmall 0 = .ok (.iload_n 0, 1) := by decide +kernel
theorem dX12_isSmall_1 : decode cX12_isSmall 1 = .ok (.bipush 97, 2) := by decide +kernel
theorem dX12_isSmall_3 : decode cX12_isSmall 3 = .ok (.if_icmp .lt 13, 3) := by decide +kernel
theorem dX12_isSmall_6 : decode cX12_isSmall 6 = .ok (.iload_n 0, 1) := by decide +kernel
theorem dX12_isSmall_7 : decode cX12_isSmall 7 = .ok (.bipush 122, 2) := by decide +kernel
theorem dX12_isSmall_9 : decode cX12_isSmall 9 = .ok (.if_icmp .gt 7, 3) := by decide +kernel
theorem dX12_isSmall_12 : decode cX12_isSmall 12 = .ok (.iconst 1, 1) := by decide +kernel
theorem dX12_isSmall_13 : decode cX12_isSmall 13 = .ok (.goto 4, 3) := by decide +kernel
theorem dX12_isSmall_16 : decode cX12_isSmall 16 = .ok (.iconst 0, 1) := by decide +kernel
theorem dX12_isSmall_17 : decode cX12_isSmall 17 = .ok (.ireturn, 1) := by decide +kernel
theorem dX12_within_0 : decode cX12_within 0 = .ok (.lload_n 0, 1) := by decide +kernel
theorem dX12_within_1 : decode cX12_within 1 = .ok (.lload_n 2, 1) := by decide +kernel
theorem dX12_within_2 : decode cX12_within 2 = .ok (.lcmp, 1) := by decide +kernel
theorem dX12_within_3 : decode cX12_within 3 = .ok (.ifCond .lt 14, 3) := by decide +kernel
theorem dX12_within_6 : decode cX12_within 6 = .ok (.lload_n 0, 1) := by decide +kernel
theorem dX12_within_7 : decode cX12_within 7 = .ok (.lload 4, 2) := by decide +kernel
theorem dX12_within_9 : decode cX12_within 9 = .ok (.lcmp, 1) := by decide +kernel
theorem dX12_within_10 : decode cX12_within 10 = .ok (.ifCond .gt 7, 3) := by decide +kernel
theorem dX12_within_13 : decode cX12_within 13 = .ok (.iconst 1, 1) := by decide +kernel
theorem dX12_within_14 : decode cX12_within 14 = .ok (.goto 4, 3) := by decide +kernel
theorem dX12_within_17 : decode cX12_within 17 = .ok (.iconst 0, 1) := by decide +kernel
theorem dX12_within_18 : decode cX12_within 18 = .ok (.ireturn, 1) := by decide +kernel
theorem kw_1496 : Cond.constantLong "FootholdWallModel" 234 1000000 ∈ gw := gw_of (tb_of 1496 (by decide +kernel)) (by decide +kernel)
theorem kw_1497 : Cond.constantLong "FootholdWallModel" 236 (-1000000) ∈ gw := gw_of (tb_of 1497 (by decide +kernel)) (by decide +kernel)
set_option maxHeartbeats 4000000 in
set_option maxRecDepth 100000 in
theorem s_M_within (l : Launch) (D : va_G) (cs : CS) (kf : KF) (T : TF) (O : List Nat) (X : va_W) (x0 : Int64) (x1 : Int64) (x2 : Int64)  (hO : okO T O []) : TK l D cs kf yX12_within cX12_within 6 (some (.boolean)) { frames := 0, cells := 0, slots := 0, locals := 0 } [.long x0, .long x1, .long x2] T O X (Ti D cs (fun r u => u = (T, O, X) ∧ 0 ≤ r.toInt ∧ r.toInt ≤ 1 ∧ (r.toInt = 0 ∨ (x1.toInt ≤ x0.toInt ∧ x0.toInt ≤ x2.toInt)) ∧ (¬ r.toInt = 0 ∨ x0.toInt < x1.toInt ∨ x2.toInt < x0.toInt))) := by
  refine tk_of (by decide) (Nat.le_of_ble_eq_true rfl) (fun p e s m below meth c ls A H locs hx hb hr hml hown hts hlocks hnm hkb hH hS hA hOX hks hE hl => ?_)
  have hown : s.vm.findClass RX12 = some m.cls := hown
  have hl : lv_has ls 6 [(0, .long x0), (2, .long x1), (4, .long x2)] := hl
  refine lv_lload_n hx hb dX12_within_0 rfl (lv_at hl 0 rfl) ?_
  refine lv_lload_n hx hb dX12_within_1 rfl (lv_at hl 1 rfl) ?_
  refine W.lcmp hx hb dX12_within_2 ?_
  have J18 : ∀ (k18_0 : Int32) (H : Heap) (locs : List Loc) (ls : Array Slot), (0 ≤ k18_0.toInt) → (k18_0.toInt ≤ 1) → (k18_0.toInt = 0 ∨ (x1.toInt ≤ x0.toInt ∧ x0.toInt ≤ x2.toInt)) → (¬ k18_0.toInt = 0 ∨ x0.toInt < x1.toInt ∨ x2.toInt < x0.toInt) → HT D cs A T O X H → va_S A s.heap H locs → lv_has ls 6 [] → W p l e { frames := 0, cells := 0, slots := 0, locals := 0 } s m [.long x0, .long x1, .long x2].toArray below meth c H locs 0 0 (MQ below (Ti D cs (fun r u => u = (T, O, X) ∧ 0 ≤ r.toInt ∧ r.toInt ≤ 1 ∧ (r.toInt = 0 ∨ (x1.toInt ≤ x0.toInt ∧ x0.toInt ≤ x2.toInt)) ∧ (¬ r.toInt = 0 ∨ x0.toInt < x1.toInt ∨ x2.toInt < x0.toInt)) A) [.long x0, .long x1, .long x2].toArray s 0 0 A) (F0 m 18 ls [.int k18_0]) := by
    intro k18_0 H locs ls l_k18_0 u_k18_0 ix18_0 ix18_1 hH hS hl
    exact te_z hx hb hr hlocks (nar01 (by omega) (by omega)) hH hS (⟨rfl, by omega, by omega, by omega, by omega⟩) dX12_within_18
  have J17 : ∀  (H : Heap) (locs : List Loc) (ls : Array Slot), (x0.toInt < x1.toInt ∨ x2.toInt < x0.toInt) → HT D cs A T O X H → va_S A s.heap H locs → lv_has ls 6 [] → W p l e { frames := 0, cells := 0, slots := 0, locals := 0 } s m [.long x0, .long x1, .long x2].toArray below meth c H locs 0 0 (MQ below (Ti D cs (fun r u => u = (T, O, X) ∧ 0 ≤ r.toInt ∧ r.toInt ≤ 1 ∧ (r.toInt = 0 ∨ (x1.toInt ≤ x0.toInt ∧ x0.toInt ≤ x2.toInt)) ∧ (¬ r.toInt = 0 ∨ x0.toInt < x1.toInt ∨ x2.toInt < x0.toInt)) A) [.long x0, .long x1, .long x2].toArray s 0 0 A) (F0 m 17 ls []) := by
    intro  H locs ls i17 hH hS hl
    refine lv_iconst (v := 0) hx hb dX12_within_17 (by decide) ?_
    have z_0 : (0 : Int32).toInt = 0 := by decide
    exact J18 0 _ _ _ (by decide) (by decide) (by omega) (by omega) hH hS (lv_sub hl [] rfl)
  refine lv_if_lt (tgt := 17) hx hb dX12_within_3 (by decide) (fun c3 => ?_) (fun c3 => ?_)
  · skip
    have tc3 := lt_l c3
    exact J17  _ _ _ (by omega) hH hS (lv_sub hl [] rfl)
  · skip
    have tc3 := nlt_l c3
    refine lv_lload_n hx hb dX12_within_6 rfl (lv_at hl 0 rfl) ?_
    refine lv_lload hx hb dX12_within_7 (lv_at hl 2 rfl) ?_
    refine W.lcmp hx hb dX12_within_9 ?_
    refine lv_if_gt (tgt := 17) hx hb dX12_within_10 (by decide) (fun c10 => ?_) (fun c10 => ?_)
    · skip
      have tc10 := gt_l c10
      exact J17  _ _ _ (by omega) hH hS (lv_sub hl [] rfl)
    · skip
      have tc10 := ngt_l c10
      refine lv_iconst (v := 1) hx hb dX12_within_13 (by decide) ?_
      refine lv_goto (tgt := 18) hx hb dX12_within_14 (by decide) ?_
      have z_1 : (1 : Int32).toInt = 1 := by decide
      exact J18 1 _ _ _ (by decide) (by decide) (by omega) (by omega) hH hS (lv_sub hl [] rfl)
set_option maxHeartbeats 4000000 in
set_option maxRecDepth 100000 in
theorem s_M_isIn (l : Launch) (D : va_G) (cs : CS) (kf : KF) (T : TF) (O : List Nat) (X : va_W) (x0 : Int64) (x1 : Int32)  (hO : okO T O []) : TK l D cs kf yX12_isIn cX12_isIn 3 (some (.boolean)) { frames := 0, cells := 0, slots := 0, locals := 0 } [.long x0, .int x1] T O X (Ti D cs (fun r u => u = (T, O, X) ∧ 0 ≤ r.toInt ∧ r.toInt ≤ 1)) := by
  refine tk_of (by decide) (Nat.le_of_ble_eq_true rfl) (fun p e s m below meth c ls A H locs hx hb hr hml hown hts hlocks hnm hkb hH hS hA hOX hks hE hl => ?_)
  have hown : s.vm.findClass RX12 = some m.cls := hown
  have hl : lv_has ls 3 [(0, .long x0), (2, .int x1)] := hl
  refine lv_lload_n hx hb dX12_isIn_0 rfl (lv_at hl 0 rfl) ?_
  refine lv_iload_n hx hb dX12_isIn_1 rfl (lv_at hl 1 rfl) ?_
  refine lv_lshr hx hb dX12_isIn_2 rfl ?_
  refine lv_topl (fun v2 ev2 => ?_)
  refine lv_lconst (v := 1) hx hb dX12_isIn_3 (by decide) ?_
  refine lv_land hx hb dX12_isIn_4 ?_
  refine lv_topl (fun v4 ev4 => ?_)
  refine lv_lconst (v := 1) hx hb dX12_isIn_5 (by decide) ?_
  refine W.lcmp hx hb dX12_isIn_6 ?_
  have J15 : ∀ (k15_0 : Int32) (H : Heap) (locs : List Loc) (ls : Array Slot), (0 ≤ k15_0.toInt) → (k15_0.toInt ≤ 1) → HT D cs A T O X H → va_S A s.heap H locs → lv_has ls 3 [] → W p l e { frames := 0, cells := 0, slots := 0, locals := 0 } s m [.long x0, .int x1].toArray below meth c H locs 0 0 (MQ below (Ti D cs (fun r u => u = (T, O, X) ∧ 0 ≤ r.toInt ∧ r.toInt ≤ 1) A) [.long x0, .int x1].toArray s 0 0 A) (F0 m 15 ls [.int k15_0]) := by
    intro k15_0 H locs ls l_k15_0 u_k15_0 hH hS hl
    exact te_z hx hb hr hlocks (nar01 (by omega) (by omega)) hH hS (⟨rfl, by omega, by omega⟩) dX12_isIn_15
  refine lv_if_ne (tgt := 14) hx hb dX12_isIn_7 (by decide) (fun c7 => ?_) (fun c7 => ?_)
  · skip
    have tc7 := ne_l c7
    have kc7_1 : (1 : Int64).toInt = 1 := by decide
    refine lv_iconst (v := 0) hx hb dX12_isIn_14 (by decide) ?_
    exact J15 0 _ _ _ (by decide) (by decide) hH hS (lv_sub hl [] rfl)
  · skip
    have tc7 := eq_l c7
    have kc7_1 : (1 : Int64).toInt = 1 := by decide
    refine lv_iconst (v := 1) hx hb dX12_isIn_10 (by decide) ?_
    refine lv_goto (tgt := 15) hx hb dX12_isIn_11 (by decide) ?_
    exact J15 1 _ _ _ (by decide) (by decide) hH hS (lv_sub hl [] rfl)
set_option maxHeartbeats 4000000 in
set_option maxRecDepth 100000 in
theorem s_M_far (l : Launch) (D : va_G) (cs : CS) (kf : KF) (T : TF) (O : List Nat) (X : va_W) (x0 : Int32)  (hO : okO T O []) : TK l D cs kf yX12_far cX12_far 1 (some (.int)) { frames := 0, cells := 0, slots := 0, locals := 0 } [.int x0] T O X (Ti D cs (fun r u => u = (T, O, X))) := by
  refine tk_of (by decide) (Nat.le_of_ble_eq_true rfl) (fun p e s m below meth c ls A H locs hx hb hr hml hown hts hlocks hnm hkb hH hS hA hOX hks hE hl => ?_)
  have hown : s.vm.findClass RX12 = some m.cls := hown
  have hl : lv_has ls 1 [(0, .int x0)] := hl
  refine lv_iload_n hx hb dX12_far_0 rfl (lv_at hl 0 rfl) ?_
  have J10 : ∀ (k10_0 : Int32) (H : Heap) (locs : List Loc) (ls : Array Slot), HT D cs A T O X H → va_S A s.heap H locs → lv_has ls 1 [] → W p l e { frames := 0, cells := 0, slots := 0, locals := 0 } s m [.int x0].toArray below meth c H locs 0 0 (MQ below (Ti D cs (fun r u => u = (T, O, X)) A) [.int x0].toArray s 0 0 A) (F0 m 10 ls [.int k10_0]) := by
    intro k10_0 H locs ls  hH hS hl
    exact te_i hx hb hr hlocks hH hS (rfl) dX12_far_10
  refine lv_if_ge (tgt := 9) hx hb dX12_far_1 (by decide) (fun c1 => ?_) (fun c1 => ?_)
  · skip
    have tc1 := f_ge (k := 0) (by decide) c1
    refine lv_iload_n hx hb dX12_far_9 rfl (lv_at hl 0 rfl) ?_
    exact J10 x0 _ _ _  hH hS (lv_sub hl [] rfl)
  · skip
    have tc1 := f_nge (k := 0) (by decide) c1
    refine lv_iload_n hx hb dX12_far_4 rfl (lv_at hl 0 rfl) ?_
    refine lv_ineg hx hb dX12_far_5 ?_
    refine lv_topi (fun v5 ev5 => ?_)
    refine lv_goto (tgt := 10) hx hb dX12_far_6 (by decide) ?_
    exact J10 v5 _ _ _  hH hS (lv_sub hl [] rfl)
set_option maxHeartbeats 4000000 in
set_option maxRecDepth 100000 in
theorem s_M_isSmall (l : Launch) (D : va_G) (cs : CS) (kf : KF) (T : TF) (O : List Nat) (X : va_W) (x0 : Int32)  (hO : okO T O []) : TK l D cs kf yX12_isSmall cX12_isSmall 1 (some (.boolean)) { frames := 0, cells := 0, slots := 0, locals := 0 } [.int x0] T O X (Ti D cs (fun r u => u = (T, O, X) ∧ 0 ≤ r.toInt ∧ r.toInt ≤ 1)) := by
  refine tk_of (by decide) (Nat.le_of_ble_eq_true rfl) (fun p e s m below meth c ls A H locs hx hb hr hml hown hts hlocks hnm hkb hH hS hA hOX hks hE hl => ?_)
  have hown : s.vm.findClass RX12 = some m.cls := hown
  have hl : lv_has ls 1 [(0, .int x0)] := hl
  refine lv_iload_n hx hb dX12_isSmall_0 rfl (lv_at hl 0 rfl) ?_
  refine lv_bipush (v := 97) hx hb dX12_isSmall_1 (by decide) ?_
  have J17 : ∀ (k17_0 : Int32) (H : Heap) (locs : List Loc) (ls : Array Slot), (0 ≤ k17_0.toInt) → (k17_0.toInt ≤ 1) → HT D cs A T O X H → va_S A s.heap H locs → lv_has ls 1 [] → W p l e { frames := 0, cells := 0, slots := 0, locals := 0 } s m [.int x0].toArray below meth c H locs 0 0 (MQ below (Ti D cs (fun r u => u = (T, O, X) ∧ 0 ≤ r.toInt ∧ r.toInt ≤ 1) A) [.int x0].toArray s 0 0 A) (F0 m 17 ls [.int k17_0]) := by
    intro k17_0 H locs ls l_k17_0 u_k17_0 hH hS hl
    exact te_z hx hb hr hlocks (nar01 (by omega) (by omega)) hH hS (⟨rfl, by omega, by omega⟩) dX12_isSmall_17
  have J16 : ∀  (H : Heap) (locs : List Loc) (ls : Array Slot), HT D cs A T O X H → va_S A s.heap H locs → lv_has ls 1 [] → W p l e { frames := 0, cells := 0, slots := 0, locals := 0 } s m [.int x0].toArray below meth c H locs 0 0 (MQ below (Ti D cs (fun r u => u = (T, O, X) ∧ 0 ≤ r.toInt ∧ r.toInt ≤ 1) A) [.int x0].toArray s 0 0 A) (F0 m 16 ls []) := by
    intro  H locs ls  hH hS hl
    refine lv_iconst (v := 0) hx hb dX12_isSmall_16 (by decide) ?_
    exact J17 0 _ _ _ (by decide) (by decide) hH hS (lv_sub hl [] rfl)
  refine lv_icmp_lt (tgt := 16) hx hb dX12_isSmall_3 (by decide) (fun c3 => ?_) (fun c3 => ?_)
  · skip
    have tc3 := f_lt (k := 97) (by decide) c3
    exact J16  _ _ _  hH hS (lv_sub hl [] rfl)
  · skip
    have tc3 := f_nlt (k := 97) (by decide) c3
    refine lv_iload_n hx hb dX12_isSmall_6 rfl (lv_at hl 0 rfl) ?_
    refine lv_bipush (v := 122) hx hb dX12_isSmall_7 (by decide) ?_
    refine lv_icmp_gt (tgt := 16) hx hb dX12_isSmall_9 (by decide) (fun c9 => ?_) (fun c9 => ?_)
    · skip
      have tc9 := f_gt (k := 122) (by decide) c9
      exact J16  _ _ _  hH hS (lv_sub hl [] rfl)
    · skip
      have tc9 := f_ngt (k := 122) (by decide) c9
      refine lv_iconst (v := 1) hx hb dX12_isSmall_12 (by decide) ?_
      refine lv_goto (tgt := 17) hx hb dX12_isSmall_13 (by decide) ?_
      exact J17 1 _ _ _ (by decide) (by decide) hH hS (lv_sub hl [] rfl)
set_option maxHeartbeats 4000000 in
set_option maxRecDepth 100000 in
theorem s_M_isDigit (l : Launch) (D : va_G) (cs : CS) (kf : KF) (T : TF) (O : List Nat) (X : va_W) (x0 : Int32)  (hO : okO T O []) : TK l D cs kf yX12_isDigit cX12_isDigit 1 (some (.boolean)) { frames := 0, cells := 0, slots := 0, locals := 0 } [.int x0] T O X (Ti D cs (fun r u => u = (T, O, X) ∧ 0 ≤ r.toInt ∧ r.toInt ≤ 1)) := by
  refine tk_of (by decide) (Nat.le_of_ble_eq_true rfl) (fun p e s m below meth c ls A H locs hx hb hr hml hown hts hlocks hnm hkb hH hS hA hOX hks hE hl => ?_)
  have hown : s.vm.findClass RX12 = some m.cls := hown
  have hl : lv_has ls 1 [(0, .int x0)] := hl
  refine lv_iload_n hx hb dX12_isDigit_0 rfl (lv_at hl 0 rfl) ?_
  refine lv_bipush (v := 48) hx hb dX12_isDigit_1 (by decide) ?_
  have J17 : ∀ (k17_0 : Int32) (H : Heap) (locs : List Loc) (ls : Array Slot), (0 ≤ k17_0.toInt) → (k17_0.toInt ≤ 1) → HT D cs A T O X H → va_S A s.heap H locs → lv_has ls 1 [] → W p l e { frames := 0, cells := 0, slots := 0, locals := 0 } s m [.int x0].toArray below meth c H locs 0 0 (MQ below (Ti D cs (fun r u => u = (T, O, X) ∧ 0 ≤ r.toInt ∧ r.toInt ≤ 1) A) [.int x0].toArray s 0 0 A) (F0 m 17 ls [.int k17_0]) := by
    intro k17_0 H locs ls l_k17_0 u_k17_0 hH hS hl
    exact te_z hx hb hr hlocks (nar01 (by omega) (by omega)) hH hS (⟨rfl, by omega, by omega⟩) dX12_isDigit_17
  have J16 : ∀  (H : Heap) (locs : List Loc) (ls : Array Slot), HT D cs A T O X H → va_S A s.heap H locs → lv_has ls 1 [] → W p l e { frames := 0, cells := 0, slots := 0, locals := 0 } s m [.int x0].toArray below meth c H locs 0 0 (MQ below (Ti D cs (fun r u => u = (T, O, X) ∧ 0 ≤ r.toInt ∧ r.toInt ≤ 1) A) [.int x0].toArray s 0 0 A) (F0 m 16 ls []) := by
    intro  H locs ls  hH hS hl
    refine lv_iconst (v := 0) hx hb dX12_isDigit_16 (by decide) ?_
    exact J17 0 _ _ _ (by decide) (by decide) hH hS (lv_sub hl [] rfl)
  refine lv_icmp_lt (tgt := 16) hx hb dX12_isDigit_3 (by decide) (fun c3 => ?_) (fun c3 => ?_)
  · skip
    have tc3 := f_lt (k := 48) (by decide) c3
    exact J16  _ _ _  hH hS (lv_sub hl [] rfl)
  · skip
    have tc3 := f_nlt (k := 48) (by decide) c3
    refine lv_iload_n hx hb dX12_isDigit_6 rfl (lv_at hl 0 rfl) ?_
    refine lv_bipush (v := 57) hx hb dX12_isDigit_7 (by decide) ?_
    refine lv_icmp_gt (tgt := 16) hx hb dX12_isDigit_9 (by decide) (fun c9 => ?_) (fun c9 => ?_)
    · skip
      have tc9 := f_gt (k := 57) (by decide) c9
      exact J16  _ _ _  hH hS (lv_sub hl [] rfl)
    · skip
      have tc9 := f_ngt (k := 57) (by decide) c9
      refine lv_iconst (v := 1) hx hb dX12_isDigit_12 (by decide) ?_
      refine lv_goto (tgt := 17) hx hb dX12_isDigit_13 (by decide) ?_
      exact J17 1 _ _ _ (by decide) (by decide) hH hS (lv_sub hl [] rfl)
set_option maxHeartbeats 4000000 in
set_option maxRecDepth 100000 in
theorem s_M_between (l : Launch) (D : va_G) (cs : CS) (kf : KF) (T : TF) (O : List Nat) (X : va_W) (x0 : Int32) (x1 : Int32) (x2 : Int32)  (hO : okO T O []) : TK l D cs kf yX12_between cX12_between 5 (some (.int)) { frames := 0, cells := 0, slots := 0, locals := 0 } [.int x0, .int x1, .int x2] T O X (Ti D cs (fun r u => u = (T, O, X))) := by
  refine tk_of (by decide) (Nat.le_of_ble_eq_true rfl) (fun p e s m below meth c ls A H locs hx hb hr hml hown hts hlocks hnm hkb hH hS hA hOX hks hE hl => ?_)
  have hown : s.vm.findClass RX12 = some m.cls := hown
  have hl : lv_has ls 5 [(0, .int x0), (1, .int x1), (2, .int x2)] := hl
  refine lv_iload_n hx hb dX12_between_0 rfl (lv_at hl 0 rfl) ?_
  refine lv_sipush (v := 3002) hx hb dX12_between_1 (by decide) ?_
  refine lv_icmp_gt (tgt := 74) hx hb dX12_between_4 (by decide) (fun c4 => ?_) (fun c4 => ?_)
  · skip
    have tc4 := f_gt (k := 3002) (by decide) c4
    refine lv_iload_n hx hb dX12_between_74 rfl (lv_at hl 0 rfl) ?_
    refine lv_sipush (v := 3003) hx hb dX12_between_75 (by decide) ?_
    have J167 : ∀ (k167_0 : Int32) (H : Heap) (locs : List Loc) (ls : Array Slot), (0 ≤ k167_0.toInt) → (k167_0.toInt ≤ 1) → HT D cs A T O X H → va_S A s.heap H locs → lv_has ls 5 [] → W p l e { frames := 0, cells := 0, slots := 0, locals := 0 } s m [.int x0, .int x1, .int x2].toArray below meth c H locs 0 0 (MQ below (Ti D cs (fun r u => u = (T, O, X)) A) [.int x0, .int x1, .int x2].toArray s 0 0 A) (F0 m 167 ls [.int k167_0]) := by
      intro k167_0 H locs ls l_k167_0 u_k167_0 hH hS hl
      refine lv_istore_n (lv' := [(3, .int k167_0)]) hx hb dX12_between_167 rfl hl (by decide) rfl (fun ls hl => ?_)
      refine lv_iload_n hx hb dX12_between_168 rfl (lv_at hl 0 rfl) ?_
      have J177 : ∀ (k177_0 : Int32) (H : Heap) (locs : List Loc) (ls : Array Slot), (0 ≤ k177_0.toInt) → (k177_0.toInt ≤ 1) → HT D cs A T O X H → va_S A s.heap H locs → lv_has ls 5 [] → W p l e { frames := 0, cells := 0, slots := 0, locals := 0 } s m [.int x0, .int x1, .int x2].toArray below meth c H locs 0 0 (MQ below (Ti D cs (fun r u => u = (T, O, X)) A) [.int x0, .int x1, .int x2].toArray s 0 0 A) (F0 m 177 ls [.int k177_0]) := by
        intro k177_0 H locs ls l_k177_0 u_k177_0 hH hS hl
        exact te_i hx hb hr hlocks hH hS (rfl) dX12_between_177
      refine lv_if_eq (tgt := 176) hx hb dX12_between_169 (by decide) (fun c169 => ?_) (fun c169 => ?_)
      · skip
        have tc169 := f_eq (k := 0) (by decide) c169
        refine lv_iconst (v := 0) hx hb dX12_between_176 (by decide) ?_
        exact J177 0 _ _ _ (by decide) (by decide) hH hS (lv_sub hl [] rfl)
      · skip
        have tc169 := f_ne (k := 0) (by decide) c169
        refine lv_iconst (v := 1) hx hb dX12_between_172 (by decide) ?_
        refine lv_goto (tgt := 177) hx hb dX12_between_173 (by decide) ?_
        exact J177 1 _ _ _ (by decide) (by decide) hH hS (lv_sub hl [] rfl)
    refine lv_icmp_ne (tgt := 94) hx hb dX12_between_78 (by decide) (fun c78 => ?_) (fun c78 => ?_)
    · skip
      have tc78 := f_ne (k := 3003) (by decide) c78
      refine lv_iload_n hx hb dX12_between_94 rfl (lv_at hl 0 rfl) ?_
      refine lv_sipush (v := 3004) hx hb dX12_between_95 (by decide) ?_
      refine lv_icmp_ne (tgt := 114) hx hb dX12_between_98 (by decide) (fun c98 => ?_) (fun c98 => ?_)
      · skip
        have tc98 := f_ne (k := 3004) (by decide) c98
        refine lv_iload_n hx hb dX12_between_114 rfl (lv_at hl 0 rfl) ?_
        refine lv_sipush (v := 3005) hx hb dX12_between_115 (by decide) ?_
        refine lv_icmp_ne (tgt := 134) hx hb dX12_between_118 (by decide) (fun c118 => ?_) (fun c118 => ?_)
        · skip
          have tc118 := f_ne (k := 3005) (by decide) c118
          refine lv_iload_n hx hb dX12_between_134 rfl (lv_at hl 0 rfl) ?_
          refine lv_sipush (v := 3006) hx hb dX12_between_135 (by decide) ?_
          refine lv_icmp_ne (tgt := 156) hx hb dX12_between_138 (by decide) (fun c138 => ?_) (fun c138 => ?_)
          · skip
            have tc138 := f_ne (k := 3006) (by decide) c138
            refine lv_iload_n hx hb dX12_between_156 rfl (lv_at hl 1 rfl) ?_
            refine lv_iload_n hx hb dX12_between_157 rfl (lv_at hl 2 rfl) ?_
            refine lv_iadd hx hb dX12_between_158 ?_
            refine lv_topi (fun v158 ev158 => ?_)
            refine lv_if_le (tgt := 166) hx hb dX12_between_159 (by decide) (fun c159 => ?_) (fun c159 => ?_)
            · skip
              have tc159 := f_le (k := 0) (by decide) c159
              refine lv_iconst (v := 0) hx hb dX12_between_166 (by decide) ?_
              exact J167 0 _ _ _ (by decide) (by decide) hH hS (lv_sub hl [] rfl)
            · skip
              have tc159 := f_nle (k := 0) (by decide) c159
              refine lv_iconst (v := 1) hx hb dX12_between_162 (by decide) ?_
              refine lv_goto (tgt := 167) hx hb dX12_between_163 (by decide) ?_
              exact J167 1 _ _ _ (by decide) (by decide) hH hS (lv_sub hl [] rfl)
          · skip
            have tc138 := f_eq (k := 3006) (by decide) c138
            refine lv_iload_n hx hb dX12_between_141 rfl (lv_at hl 1 rfl) ?_
            refine lv_iload_n hx hb dX12_between_142 rfl (lv_at hl 2 rfl) ?_
            refine lv_iadd hx hb dX12_between_143 ?_
            refine lv_topi (fun v143 ev143 => ?_)
            refine lv_iconst (v := 2) hx hb dX12_between_144 (by decide) ?_
            refine lv_icmp_ne (tgt := 152) hx hb dX12_between_145 (by decide) (fun c145 => ?_) (fun c145 => ?_)
            · skip
              have tc145 := f_ne (k := 2) (by decide) c145
              refine lv_iconst (v := 0) hx hb dX12_between_152 (by decide) ?_
              refine lv_goto (tgt := 167) hx hb dX12_between_153 (by decide) ?_
              exact J167 0 _ _ _ (by decide) (by decide) hH hS (lv_sub hl [] rfl)
            · skip
              have tc145 := f_eq (k := 2) (by decide) c145
              refine lv_iconst (v := 1) hx hb dX12_between_148 (by decide) ?_
              refine lv_goto (tgt := 167) hx hb dX12_between_149 (by decide) ?_
              exact J167 1 _ _ _ (by decide) (by decide) hH hS (lv_sub hl [] rfl)
        · skip
          have tc118 := f_eq (k := 3005) (by decide) c118
          refine lv_iload_n hx hb dX12_between_121 rfl (lv_at hl 1 rfl) ?_
          refine lv_iload_n hx hb dX12_between_122 rfl (lv_at hl 2 rfl) ?_
          refine lv_icmp_le (tgt := 130) hx hb dX12_between_123 (by decide) (fun c123 => ?_) (fun c123 => ?_)
          · skip
            have fuc123 := full_i x1
            have fvc123 := full_i x2
            have tc123 := g_le c123
            refine lv_iconst (v := 0) hx hb dX12_between_130 (by decide) ?_
            refine lv_goto (tgt := 167) hx hb dX12_between_131 (by decide) ?_
            exact J167 0 _ _ _ (by decide) (by decide) hH hS (lv_sub hl [] rfl)
          · skip
            have fuc123 := full_i x1
            have fvc123 := full_i x2
            have tc123 := g_nle c123
            refine lv_iconst (v := 1) hx hb dX12_between_126 (by decide) ?_
            refine lv_goto (tgt := 167) hx hb dX12_between_127 (by decide) ?_
            exact J167 1 _ _ _ (by decide) (by decide) hH hS (lv_sub hl [] rfl)
      · skip
        have tc98 := f_eq (k := 3004) (by decide) c98
        refine lv_iload_n hx hb dX12_between_101 rfl (lv_at hl 1 rfl) ?_
        refine lv_iload_n hx hb dX12_between_102 rfl (lv_at hl 2 rfl) ?_
        refine lv_icmp_ge (tgt := 110) hx hb dX12_between_103 (by decide) (fun c103 => ?_) (fun c103 => ?_)
        · skip
          have fuc103 := full_i x1
          have fvc103 := full_i x2
          have tc103 := g_le c103
          refine lv_iconst (v := 0) hx hb dX12_between_110 (by decide) ?_
          refine lv_goto (tgt := 167) hx hb dX12_between_111 (by decide) ?_
          exact J167 0 _ _ _ (by decide) (by decide) hH hS (lv_sub hl [] rfl)
        · skip
          have fuc103 := full_i x1
          have fvc103 := full_i x2
          have tc103 := g_nle c103
          refine lv_iconst (v := 1) hx hb dX12_between_106 (by decide) ?_
          refine lv_goto (tgt := 167) hx hb dX12_between_107 (by decide) ?_
          exact J167 1 _ _ _ (by decide) (by decide) hH hS (lv_sub hl [] rfl)
    · skip
      have tc78 := f_eq (k := 3003) (by decide) c78
      refine lv_iload_n hx hb dX12_between_81 rfl (lv_at hl 1 rfl) ?_
      refine lv_iload_n hx hb dX12_between_82 rfl (lv_at hl 2 rfl) ?_
      refine lv_icmp_ne (tgt := 90) hx hb dX12_between_83 (by decide) (fun c83 => ?_) (fun c83 => ?_)
      · skip
        have fuc83 := full_i x1
        have fvc83 := full_i x2
        have tc83 := g_ne c83
        refine lv_iconst (v := 0) hx hb dX12_between_90 (by decide) ?_
        refine lv_goto (tgt := 167) hx hb dX12_between_91 (by decide) ?_
        exact J167 0 _ _ _ (by decide) (by decide) hH hS (lv_sub hl [] rfl)
      · skip
        have fuc83 := full_i x1
        have fvc83 := full_i x2
        have tc83 := g_eq c83
        refine lv_iconst (v := 1) hx hb dX12_between_86 (by decide) ?_
        refine lv_goto (tgt := 167) hx hb dX12_between_87 (by decide) ?_
        exact J167 1 _ _ _ (by decide) (by decide) hH hS (lv_sub hl [] rfl)
  · skip
    have tc4 := f_ngt (k := 3002) (by decide) c4
    refine lv_iload_n hx hb dX12_between_7 rfl (lv_at hl 0 rfl) ?_
    refine lv_sipush (v := 3000) hx hb dX12_between_8 (by decide) ?_
    have J42 : ∀ (k42_0 : Int64) (H : Heap) (locs : List Loc) (ls : Array Slot), HT D cs A T O X H → va_S A s.heap H locs → lv_has ls 5 [] → W p l e { frames := 0, cells := 0, slots := 0, locals := 0 } s m [.int x0, .int x1, .int x2].toArray below meth c H locs 0 0 (MQ below (Ti D cs (fun r u => u = (T, O, X)) A) [.int x0, .int x1, .int x2].toArray s 0 0 A) (F0 m 42 ls [.long k42_0]) := by
      intro k42_0 H locs ls  hH hS hl
      refine lv_lstore_n (lv' := [(3, .long k42_0)]) hx hb dX12_between_42 rfl hl (by decide) rfl (fun ls hl => ?_)
      refine lv_lload_n hx hb dX12_between_43 rfl (lv_at hl 0 rfl) ?_
      refine lv_ldc2 hx hb hown (hts _ kw_1496) dX12_between_44 ?_
      refine W.lcmp hx hb dX12_between_47 ?_
      have J72 : ∀ (k72_0 : Int64) (H : Heap) (locs : List Loc) (ls : Array Slot), HT D cs A T O X H → va_S A s.heap H locs → lv_has ls 5 [] → W p l e { frames := 0, cells := 0, slots := 0, locals := 0 } s m [.int x0, .int x1, .int x2].toArray below meth c H locs 0 0 (MQ below (Ti D cs (fun r u => u = (T, O, X)) A) [.int x0, .int x1, .int x2].toArray s 0 0 A) (F0 m 72 ls [.long k72_0]) := by
        intro k72_0 H locs ls  hH hS hl
        refine lv_l2i hx hb dX12_between_72 rfl ?_
        refine lv_topi (fun v72 ev72 => ?_)
        exact te_i hx hb hr hlocks hH hS (rfl) dX12_between_73
      refine lv_if_le (tgt := 57) hx hb dX12_between_48 (by decide) (fun c48 => ?_) (fun c48 => ?_)
      · skip
        have tc48 := le_l c48
        have kc48_1000000 : (1000000 : Int64).toInt = 1000000 := by decide
        refine lv_lload_n hx hb dX12_between_57 rfl (lv_at hl 0 rfl) ?_
        refine lv_ldc2 hx hb hown (hts _ kw_1497) dX12_between_58 ?_
        refine W.lcmp hx hb dX12_between_61 ?_
        refine lv_if_ge (tgt := 71) hx hb dX12_between_62 (by decide) (fun c62 => ?_) (fun c62 => ?_)
        · skip
          have tc62 := ge_l c62
          have kc62_m1000000 : ((-1000000) : Int64).toInt = -1000000 := by decide
          refine lv_lload_n hx hb dX12_between_71 rfl (lv_at hl 0 rfl) ?_
          exact J72 k42_0 _ _ _  hH hS (lv_sub hl [] rfl)
        · skip
          have tc62 := nge_l c62
          have kc62_m1000000 : ((-1000000) : Int64).toInt = -1000000 := by decide
          refine lv_ldc2 hx hb hown (hts _ kw_1497) dX12_between_65 ?_
          refine lv_goto (tgt := 72) hx hb dX12_between_68 (by decide) ?_
          exact J72 (-1000000) _ _ _  hH hS (lv_sub hl [] rfl)
      · skip
        have tc48 := nle_l c48
        have kc48_1000000 : (1000000 : Int64).toInt = 1000000 := by decide
        refine lv_ldc2 hx hb hown (hts _ kw_1496) dX12_between_51 ?_
        refine lv_goto (tgt := 72) hx hb dX12_between_54 (by decide) ?_
        exact J72 1000000 _ _ _  hH hS (lv_sub hl [] rfl)
    refine lv_icmp_ne (tgt := 22) hx hb dX12_between_11 (by decide) (fun c11 => ?_) (fun c11 => ?_)
    · skip
      have tc11 := f_ne (k := 3000) (by decide) c11
      refine lv_iload_n hx hb dX12_between_22 rfl (lv_at hl 0 rfl) ?_
      refine lv_sipush (v := 3001) hx hb dX12_between_23 (by decide) ?_
      refine lv_icmp_ne (tgt := 37) hx hb dX12_between_26 (by decide) (fun c26 => ?_) (fun c26 => ?_)
      · skip
        have tc26 := f_ne (k := 3001) (by decide) c26
        refine lv_iload_n hx hb dX12_between_37 rfl (lv_at hl 1 rfl) ?_
        refine lv_i2l hx hb dX12_between_38 rfl ?_
        refine lv_iload_n hx hb dX12_between_39 rfl (lv_at hl 2 rfl) ?_
        refine lv_i2l hx hb dX12_between_40 rfl ?_
        refine lv_lmul hx hb dX12_between_41 ?_
        refine lv_topl (fun v41 ev41 => ?_)
        exact J42 v41 _ _ _  hH hS (lv_sub hl [] rfl)
      · skip
        have tc26 := f_eq (k := 3001) (by decide) c26
        refine lv_iload_n hx hb dX12_between_29 rfl (lv_at hl 1 rfl) ?_
        refine lv_i2l hx hb dX12_between_30 rfl ?_
        refine lv_iload_n hx hb dX12_between_31 rfl (lv_at hl 2 rfl) ?_
        refine lv_i2l hx hb dX12_between_32 rfl ?_
        refine lv_lsub hx hb dX12_between_33 ?_
        refine lv_topl (fun v33 ev33 => ?_)
        refine lv_goto (tgt := 42) hx hb dX12_between_34 (by decide) ?_
        exact J42 v33 _ _ _  hH hS (lv_sub hl [] rfl)
    · skip
      have tc11 := f_eq (k := 3000) (by decide) c11
      refine lv_iload_n hx hb dX12_between_14 rfl (lv_at hl 1 rfl) ?_
      refine lv_i2l hx hb dX12_between_15 rfl ?_
      refine lv_iload_n hx hb dX12_between_16 rfl (lv_at hl 2 rfl) ?_
      refine lv_i2l hx hb dX12_between_17 rfl ?_
      refine lv_ladd hx hb dX12_between_18 ?_
      refine lv_topl (fun v18 ev18 => ?_)
      refine lv_goto (tgt := 42) hx hb dX12_between_19 (by decide) ?_
      exact J42 v18 _ _ _  hH hS (lv_sub hl [] rfl)
set_option maxHeartbeats 4000000 in
set_option maxRecDepth 100000 in
theorem s_M_cut (l : Launch) (D : va_G) (cs : CS) (kf : KF) (T : TF) (O : List Nat) (X : va_W) (x0 : Int64) (x1 : Int32)  (hO : okO T O []) : TK l D cs kf yX12_cut cX12_cut 3 (some (.long)) { frames := 0, cells := 0, slots := 0, locals := 0 } [.long x0, .int x1] T O X (Tl D cs (fun _ u => u = (T, O, X))) := by
  refine tk_of (by decide) (Nat.le_of_ble_eq_true rfl) (fun p e s m below meth c ls A H locs hx hb hr hml hown hts hlocks hnm hkb hH hS hA hOX hks hE hl => ?_)
  have hown : s.vm.findClass RX12 = some m.cls := hown
  have hl : lv_has ls 3 [(0, .long x0), (2, .int x1)] := hl
  refine lv_iload_n hx hb dX12_cut_0 rfl (lv_at hl 1 rfl) ?_
  have J35 : ∀ (k35_0 : Int64) (H : Heap) (locs : List Loc) (ls : Array Slot), HT D cs A T O X H → va_S A s.heap H locs → lv_has ls 3 [] → W p l e { frames := 0, cells := 0, slots := 0, locals := 0 } s m [.long x0, .int x1].toArray below meth c H locs 0 0 (MQ below (Tl D cs (fun _ u => u = (T, O, X)) A) [.long x0, .int x1].toArray s 0 0 A) (F0 m 35 ls [.long k35_0]) := by
    intro k35_0 H locs ls  hH hS hl
    exact te_l hx hb hr hlocks hH hS rfl dX12_cut_35
  refine lv_if_ne (tgt := 11) hx hb dX12_cut_1 (by decide) (fun c1 => ?_) (fun c1 => ?_)
  · skip
    have tc1 := f_ne (k := 0) (by decide) c1
    refine lv_iload_n hx hb dX12_cut_11 rfl (lv_at hl 1 rfl) ?_
    refine lv_iconst (v := 1) hx hb dX12_cut_12 (by decide) ?_
    refine lv_icmp_ne (tgt := 23) hx hb dX12_cut_13 (by decide) (fun c13 => ?_) (fun c13 => ?_)
    · skip
      have tc13 := f_ne (k := 1) (by decide) c13
      refine lv_iload_n hx hb dX12_cut_23 rfl (lv_at hl 1 rfl) ?_
      refine lv_iconst (v := 2) hx hb dX12_cut_24 (by decide) ?_
      refine lv_icmp_ne (tgt := 34) hx hb dX12_cut_25 (by decide) (fun c25 => ?_) (fun c25 => ?_)
      · skip
        have tc25 := f_ne (k := 2) (by decide) c25
        refine lv_lload_n hx hb dX12_cut_34 rfl (lv_at hl 0 rfl) ?_
        exact J35 x0 _ _ _  hH hS (lv_sub hl [] rfl)
      · skip
        have tc25 := f_eq (k := 2) (by decide) c25
        refine lv_lload_n hx hb dX12_cut_28 rfl (lv_at hl 0 rfl) ?_
        refine lv_l2i hx hb dX12_cut_29 rfl ?_
        refine lv_topi (fun v29 ev29 => ?_)
        refine lv_i2l hx hb dX12_cut_30 rfl ?_
        refine lv_goto (tgt := 35) hx hb dX12_cut_31 (by decide) ?_
        exact J35 v29.toInt64 _ _ _  hH hS (lv_sub hl [] rfl)
    · skip
      have tc13 := f_eq (k := 1) (by decide) c13
      refine lv_lload_n hx hb dX12_cut_16 rfl (lv_at hl 0 rfl) ?_
      refine lv_l2i hx hb dX12_cut_17 rfl ?_
      refine lv_topi (fun v17 ev17 => ?_)
      refine lv_i2s hx hb dX12_cut_18 rfl ?_
      refine lv_topi (fun v18 ev18 => ?_)
      refine lv_i2l hx hb dX12_cut_19 rfl ?_
      refine lv_goto (tgt := 35) hx hb dX12_cut_20 (by decide) ?_
      exact J35 v18.toInt64 _ _ _  hH hS (lv_sub hl [] rfl)
  · skip
    have tc1 := f_eq (k := 0) (by decide) c1
    refine lv_lload_n hx hb dX12_cut_4 rfl (lv_at hl 0 rfl) ?_
    refine lv_l2i hx hb dX12_cut_5 rfl ?_
    refine lv_topi (fun v5 ev5 => ?_)
    refine lv_i2b hx hb dX12_cut_6 rfl ?_
    refine lv_topi (fun v6 ev6 => ?_)
    refine lv_i2l hx hb dX12_cut_7 rfl ?_
    refine lv_goto (tgt := 35) hx hb dX12_cut_8 (by decide) ?_
    exact J35 v6.toInt64 _ _ _  hH hS (lv_sub hl [] rfl)
set_option maxHeartbeats 4000000 in
set_option maxRecDepth 100000 in
theorem s_M_bitsOf (l : Launch) (D : va_G) (cs : CS) (kf : KF) (T : TF) (O : List Nat) (X : va_W) (x0 : Int32)  (hO : okO T O []) : TK l D cs kf yX12_bitsOf cX12_bitsOf 3 (some (.int)) { frames := 0, cells := 0, slots := 0, locals := 0 } [.int x0] T O X (Ti D cs (fun r u => u = (T, O, X))) := by
  refine tk_of (by decide) (Nat.le_of_ble_eq_true rfl) (fun p e s m below meth c ls A H locs hx hb hr hml hown hts hlocks hnm hkb hH hS hA hOX hks hE hl => ?_)
  have hown : s.vm.findClass RX12 = some m.cls := hown
  have hl : lv_has ls 3 [(0, .int x0)] := hl
  refine lv_iconst (v := 0) hx hb dX12_bitsOf_0 (by decide) ?_
  refine lv_istore_n (lv' := [(1, .int 0), (0, .int x0)]) hx hb dX12_bitsOf_1 rfl hl (by decide) rfl (fun ls hl => ?_)
  refine lv_iconst (v := 0) hx hb dX12_bitsOf_2 (by decide) ?_
  have J4 : ∀ (n : Nat) (p4_2 : Int32) (p4_1 : Int32) (H : Heap) (locs : List Loc) (ls : Array Slot), (14 - p4_2.toInt).toNat = n → (0 ≤ p4_2.toInt) → (p4_2.toInt ≤ 14) → HT D cs A T O X H → va_S A s.heap H locs → lv_has ls 3 [(2, .int p4_2), (1, .int p4_1), (0, .int x0)] → W p l e { frames := 0, cells := 0, slots := 0, locals := 0 } s m [.int x0].toArray below meth c H locs 0 0 (MQ below (Ti D cs (fun r u => u = (T, O, X)) A) [.int x0].toArray s 0 0 A) (F0 m 4 ls []) := by
    intro n
    induction n using Nat.strongRecOn with
    | _ n ih4 =>
      intro p4_2 p4_1 H locs ls hm4 l_p4_2 u_p4_2 hH hS hl
      refine lv_iload_n hx hb dX12_bitsOf_4 rfl (lv_at hl 0 rfl) ?_
      refine lv_bipush (v := 14) hx hb dX12_bitsOf_5 (by decide) ?_
      refine lv_icmp_ge (tgt := 24) hx hb dX12_bitsOf_7 (by decide) (fun c7 => ?_) (fun c7 => ?_)
      · skip
        have tc7 := f_ge (k := 14) (by decide) c7
        refine lv_iload_n hx hb dX12_bitsOf_24 rfl (lv_at hl 1 rfl) ?_
        exact te_i hx hb hr hlocks hH hS (rfl) dX12_bitsOf_25
      · skip
        have tc7 := f_nge (k := 14) (by decide) c7
        refine lv_iload_n hx hb dX12_bitsOf_10 rfl (lv_at hl 1 rfl) ?_
        refine lv_iload_n hx hb dX12_bitsOf_11 rfl (lv_at hl 2 rfl) ?_
        refine lv_iload_n hx hb dX12_bitsOf_12 rfl (lv_at hl 0 rfl) ?_
        refine lv_ishr hx hb dX12_bitsOf_13 ?_
        refine lv_topi (fun v13 ev13 => ?_)
        refine lv_iconst (v := 1) hx hb dX12_bitsOf_14 (by decide) ?_
        refine lv_iand hx hb dX12_bitsOf_15 ?_
        refine lv_topi (fun v15 ev15 => ?_)
        have tv15 : 0 ≤ v15.toInt ∧ v15.toInt ≤ 1 := by rw [ev15]; exact and_r (by decide)
        refine lv_iadd hx hb dX12_bitsOf_16 ?_
        refine lv_topi (fun v16 ev16 => ?_)
        refine lv_istore_n (lv' := [(1, .int v16), (2, .int p4_2), (0, .int x0)]) hx hb dX12_bitsOf_17 rfl hl (by decide) rfl (fun ls hl => ?_)
        obtain ⟨v18, ev18⟩ : ∃ y : Int32, y = p4_2 + 1 := ⟨_, rfl⟩
        have tv18 : v18.toInt = p4_2.toInt + (1) := by rw [ev18]; exact add_i rfl (by decide) (by omega) (by omega)
        refine lv_iinc (v := v18) (lv' := [(2, .int v18), (1, .int v16), (0, .int x0)]) hx hb dX12_bitsOf_18 hl (k := 1) rfl (by rw [ev18]; rfl) (by decide) rfl (fun ls hl => ?_)
        refine lv_goto (tgt := 4) hx hb dX12_bitsOf_21 (by decide) ?_
        exact ih4 _ (by omega) v18 v16 _ _ _ rfl (by omega) (by omega) hH hS (lv_sub hl [0, 1, 2] rfl)
  refine lv_istore_n (lv' := [(2, .int 0), (1, .int 0), (0, .int x0)]) hx hb dX12_bitsOf_3 rfl hl (by decide) rfl (fun ls hl => ?_)
  exact J4 _ 0 0 _ _ _ rfl (by decide) (by decide) hH hS (lv_sub hl [0, 1, 2] rfl)
/-! another wall of a FootholdWall -/
theorem isW.le {T T' : TF} (h : Tle T T') {a x g : Nat} (hw : isW T a x g) : isW T' a x g := ⟨h _ _ hw.1, hw.2⟩
theorem okO.le {T T' : TF} (h : Tle T T') {O K : List Nat} (ho : okO T O K) : okO T' O K := fun o hm => by
  obtain ⟨tg, h1, h2⟩ := ho o hm
  exact ⟨tg, h _ _ h1, h2⟩
/-- kept when the cell a of kind 21 is told anew -/
def mon1 (P : FT) : Prop := ∀ (T : TF) (a w w2 q : Nat) (v : Value), T a = some (21, w, q) → P T v → P (Tadd T a (21, w2, q)) v
theorem re_ne {T : TF} {a w w2 q b : Nat} {tg : Tg} (ha : T a = some (21, w, q)) (hk : tg.1 ≠ 21) (h : T b = some tg) : Tadd T a (21, w2, q) b = some tg := by
  unfold Tadd
  rw [if_neg (fun z => by rw [z, ha] at h; cases h; exact hk rfl)]
  exact h
theorem nI_ (lo hi : Int) : mon1 (fI lo hi) := fun _ _ _ _ _ _ _ h => h
theorem nA : mon1 fA := fun _ _ _ _ _ _ _ h => h
theorem nE (n : Nat) : mon1 (fE n) := fun _ _ _ _ _ _ _ h => h
theorem nN : mon1 fN := fun _ _ _ _ _ _ _ h => h
theorem nP (n : Nat) : mon1 (fP n) := fun _ _ _ _ _ _ _ h => h
theorem nR {tg : Tg} (hk : tg.1 ≠ 21) : mon1 (fR tg) := fun _ _ _ _ _ _ ha ⟨b, x, t⟩ => ⟨b, x, re_ne ha hk t⟩
theorem nRd : mon1 fRd := fun _ _ _ _ _ _ ha ⟨b, d, x, t, u⟩ => ⟨b, d, x, re_ne ha (by show 14 ≠ 21; decide) t, re_ne ha (by show 19 ≠ 21; decide) u⟩
theorem isW.re {T : TF} {a w w2 q b x g : Nat} (ha : T a = some (21, w, q)) (h : isW T b x g) : isW (Tadd T a (21, w2, q)) b x g := ⟨re_ne ha (by show 19 ≠ 21; decide) h.1, h.2⟩
theorem nW : mon1 fW := fun _ _ _ _ _ _ ha ⟨b, x, g, q, t⟩ => ⟨b, x, g, q, isW.re ha t⟩
theorem nL : mon1 fLw := fun _ _ _ _ _ _ ha q => q.elim Or.inl (fun ⟨b, n, x, t, u⟩ => Or.inr ⟨b, n, x, re_ne ha (by show 12 ≠ 21; decide) t, u⟩)
theorem nTL (n : Nat) : mon1 (fTL n) := fun _ _ _ _ _ _ ha ⟨x, e, c, d, t⟩ => ⟨x, e, c, d, re_ne ha (by show 10 ≠ 21; decide) t⟩
theorem nTM (n : Nat) : mon1 (fTM n) := fun _ _ _ _ _ _ _ h => h
theorem nFK (n : Nat) : mon1 (fFK n) := fun _ _ _ _ _ _ _ h => h
theorem nFP (n : Nat) : mon1 (fFP n) := fun _ _ _ _ _ _ _ h => h
def mons1 (l : List FT) : Prop := ∀ P ∈ l, mon1 P
theorem m1_n : mons1 [] := fun _ h => absurd h List.not_mem_nil
theorem m1_c {P : FT} {l : List FT} (h : mon1 P) (hl : mons1 l) : mons1 (P :: l) := fun Q hQ => (List.mem_cons.mp hQ).elim (fun q => q ▸ h) (hl Q)
theorem ft1_1 (p q : Nat) : mons1 (ft1 p q) := m1_c (nR (by show 1 ≠ 21; decide)) (m1_c (nR (by show 1 ≠ 21; decide)) (m1_c (nA) (m1_c (nR (by show 1 ≠ 21; decide)) (m1_c (nI_ _ _) (m1_c (nA) (m1_c (nR (by show 1 ≠ 21; decide)) (m1_n)))))))
theorem ft2_1 (p q : Nat) : mons1 (ft2 p q) := m1_c (nR (by show 1 ≠ 21; decide)) (m1_c (nR (by show 1 ≠ 21; decide)) (m1_c (nR (by show 1 ≠ 21; decide)) (m1_n)))
theorem ft3_1 (p q : Nat) : mons1 (ft3 p q) := m1_c (nR (by show 17 ≠ 21; decide)) (m1_c (nR (by show 1 ≠ 21; decide)) (m1_c (nI_ _ _) (m1_n)))
theorem ft4_1 (p q : Nat) : mons1 (ft4 p q) := m1_c (nR (by show 17 ≠ 21; decide)) (m1_c (nR (by show 13 ≠ 21; decide)) (m1_c (nP _) (m1_c (nI_ _ _) (m1_c (nR (by show 16 ≠ 21; decide)) (m1_n)))))
theorem ft5_1 (p q : Nat) : mons1 (ft5 p q) := m1_c (nW) (m1_c (nA) (m1_c (nA) (m1_c (nA) (m1_c (nR (by show 1 ≠ 21; decide)) (m1_c (nR (by show 1 ≠ 21; decide)) (m1_n))))))
theorem ft6_1 (p q : Nat) : mons1 (ft6 p q) := m1_c (nA) (m1_c (nA) (m1_c (nA) (m1_c (nA) (m1_c (nR (by show 1 ≠ 21; decide)) (m1_c (nR (by show 1 ≠ 21; decide)) (m1_n))))))
theorem ft8_1 (p q : Nat) : mons1 (ft8 p q) := m1_c (nR (by show 2 ≠ 21; decide)) (m1_c (nA) (m1_c (nI_ _ _) (m1_n)))
theorem ft10_1 (p q : Nat) : mons1 (ft10 p q) := m1_c (nR (by show 1 ≠ 21; decide)) (m1_c (nR (by show 1 ≠ 21; decide)) (m1_c (nI_ _ _) (m1_c (nR (by show 2 ≠ 21; decide)) (m1_c (nR (by show 1 ≠ 21; decide)) (m1_c (nR (by show 1 ≠ 21; decide)) (m1_c (nI_ _ _) (m1_n)))))))
theorem ft11_1 (p q : Nat) : mons1 (ft11 p q) := m1_c (nR (by show 0 ≠ 21; decide)) (m1_c (nTL _) (m1_c (nRd) (m1_c (nP _) (m1_c (nR (by show 16 ≠ 21; decide)) (m1_c (nR (by show 16 ≠ 21; decide)) (m1_c (nR (by show 4 ≠ 21; decide)) (m1_c (nI_ _ _) (m1_c (nI_ _ _) (m1_c (nR (by show 5 ≠ 21; decide)) (m1_c (nR (by show 4 ≠ 21; decide)) (m1_c (nR (by show 6 ≠ 21; decide)) (m1_c (nR (by show 7 ≠ 21; decide)) (m1_c (nR (by show 15 ≠ 21; decide)) (m1_c (nR (by show 20 ≠ 21; decide)) (m1_c (nR (by show 11 ≠ 21; decide)) (m1_c (nP _) (m1_c (nR (by show 1 ≠ 21; decide)) (m1_c (nR (by show 1 ≠ 21; decide)) (m1_c (nA) (m1_n))))))))))))))))))))
theorem ft12_1 (p q : Nat) : mons1 (ft12 p q) := m1_c (nA) (m1_c (nR (by show 8 ≠ 21; decide)) (m1_c (nR (by show 3 ≠ 21; decide)) (m1_c (nR (by show 9 ≠ 21; decide)) (m1_c (nR (by show 8 ≠ 21; decide)) (m1_c (nTM _) (m1_c (nA) (m1_c (nA) (m1_c (nA) (m1_c (nA) (m1_c (nI_ _ _) (m1_c (nA) (m1_c (nA) (m1_c (nFK _) (m1_c (nFP _) (m1_c (nR (by show 1 ≠ 21; decide)) (m1_c (nA) (m1_c (nR (by show 9 ≠ 21; decide)) (m1_c (nR (by show 9 ≠ 21; decide)) (m1_c (nR (by show 1 ≠ 21; decide)) (m1_c (nI_ _ _) (m1_c (nR (by show 1 ≠ 21; decide)) (m1_c (nR (by show 1 ≠ 21; decide)) (m1_c (nA) (m1_c (nA) (m1_c (nA) (m1_c (nR (by show 2 ≠ 21; decide)) (m1_c (nR (by show 3 ≠ 21; decide)) (m1_c (nR (by show 0 ≠ 21; decide)) (m1_c (nR (by show 1 ≠ 21; decide)) (m1_c (nR (by show 1 ≠ 21; decide)) (m1_c (nR (by show 1 ≠ 21; decide)) (m1_c (nA) (m1_c (nR (by show 1 ≠ 21; decide)) (m1_c (nR (by show 1 ≠ 21; decide)) (m1_c (nR (by show 2 ≠ 21; decide)) (m1_n))))))))))))))))))))))))))))))))))))
theorem ft9w_1 (p q : Nat) : mons1 (ft9w p q) := m1_c (nE _) (m1_c (nE _) (m1_c (nA) (m1_c (nI_ _ _) (m1_c (nI_ _ _) (m1_c (nI_ _ _) (m1_c (nR (by show 1 ≠ 21; decide)) (m1_c (nR (by show 1 ≠ 21; decide)) (m1_c (nR (by show 1 ≠ 21; decide)) (m1_c (nR (by show 1 ≠ 21; decide)) (m1_c (nR (by show 1 ≠ 21; decide)) (m1_c (nL) (m1_c (nI_ _ _) (m1_c (nI_ _ _) (m1_n))))))))))))))
theorem ft9d_1 (p q : Nat) : mons1 (ft9d p q) := m1_c (nI_ _ _) (m1_c (nI_ _ _) (m1_c (nA) (m1_c (nI_ _ _) (m1_c (nI_ _ _) (m1_c (nI_ _ _) (m1_c (nR (by show 1 ≠ 21; decide)) (m1_c (nR (by show 1 ≠ 21; decide)) (m1_c (nR (by show 1 ≠ 21; decide)) (m1_c (nR (by show 1 ≠ 21; decide)) (m1_c (nR (by show 1 ≠ 21; decide)) (m1_c (nN) (m1_c (nI_ _ _) (m1_c (nI_ _ _) (m1_n))))))))))))))
theorem ft9_1 (p q : Nat) : mons1 (ft9 p q) := by
  unfold ft9
  split
  · exact ft9d_1 p q
  · exact ft9w_1 p q
theorem fts_1 (c p q : Nat) : mons1 (fts c p q) := by
  unfold fts
  split <;> first | exact ft1_1 p q | exact ft2_1 p q | exact ft3_1 p q | exact ft4_1 p q | exact ft5_1 p q | exact ft6_1 p q | exact ft8_1 p q | exact ft9_1 p q | exact ft10_1 p q | exact ft11_1 p q | exact ft12_1 p q | exact m1_n
theorem ob_re {T : TF} {a w w2 q0 : Nat} (ha : T a = some (21, w, q0)) {c p q : Nat} {fs : List Value} (ho : ob T c p q fs) : ob (Tadd T a (21, w2, q0)) c p q fs := by
  unfold ob at ho ⊢
  split at ho
  · obtain ⟨b, b2, d, n, x, e1, t1, t2, t3, r⟩ := ho
    exact ⟨b, b2, d, n, x, e1, re_ne ha (by show 1 ≠ 21; decide) t1, re_ne ha (by show 1 ≠ 21; decide) t2, re_ne ha (by show 1 ≠ 21; decide) t3, r⟩
  · obtain ⟨b, n, x1, x2, x3, x4, x5, x6, x7, e1, t, r⟩ := ho
    exact ⟨b, n, x1, x2, x3, x4, x5, x6, x7, e1, re_ne ha (by show 0 ≠ 21; decide) t, r⟩
  · exact ⟨ho.1, fun k P v h1 h2 => fts_1 _ _ _ P (List.mem_of_getElem? h1) T a w w2 q0 v ha (ho.2 k P v h1 h2)⟩
theorem sp_re {cs : CS} {T : TF} {a w w2 q : Nat} (ha : T a = some (21, w, q)) {tg : Tg} {e : va_E} (hs : sp cs T tg e) : sp cs (Tadd T a (21, w2, q)) tg e := by
  unfold sp at hs ⊢
  split at hs
  · exact hs
  · exact hs
  · exact hs
  · exact hs
  · obtain ⟨f, e1, g⟩ := hs
    exact ⟨f, e1, fun j hj => by obtain ⟨b, x, y⟩ := g j hj; exact ⟨b, x, re_ne ha (by show 16 ≠ 21; decide) y⟩⟩
  · obtain ⟨f, e1, g⟩ := hs
    exact ⟨f, e1, fun j b hj => by obtain ⟨x, g2, y⟩ := g j b hj; exact ⟨x, g2, isW.re ha y⟩⟩
  · obtain ⟨f, e1, g⟩ := hs
    exact ⟨f, e1, fun j hj => by obtain ⟨b, x, y⟩ := g j hj; exact ⟨b, x, re_ne ha (by show 18 ≠ 21; decide) y⟩⟩
  · obtain ⟨f, e1, g⟩ := hs
    exact ⟨f, e1, fun j hj => by obtain ⟨b, x, y⟩ := g j hj; exact ⟨b, x, re_ne ha (by show 15 ≠ 21; decide) y⟩⟩
  · exact hs
  · exact hs
  · obtain ⟨fs, e1, g⟩ := hs
    exact ⟨fs, e1, ob_re ha g⟩
/-- a FootholdWall that is taken out gets another wall, and is laid back so -/
theorem HT.re {D : va_G} {cs : CS} {A : Nat → Prop} {T : TF} {O : List Nat} {X : va_W} {H : Heap} {a w w2 q : Nat} {fs : List Value} (h : HT D cs A T (a :: O) ((a, .inr (11, fs)) :: X) H) (ha : T a = some (21, w, q)) (hob : ob T 11 w2 q fs) : HT D cs A (Tadd T a (21, w2, q)) O X H := by
  obtain ⟨ws, hP, hD, h3, h4⟩ := h
  refine HT.lay (T := Tadd T a (21, w2, q)) (ci := 11) (p := w2) (q := q) (fs := fs) ⟨ws, hP, hD, fun b tb hb hO => ?_, fun k x hk => ?_⟩ Tadd_r (ob_re ha hob)
  · have hba : b ≠ a := fun z => hO (z ▸ List.mem_cons_self)
    have hb2 : T b = some tb := by unfold Tadd at hb; rw [if_neg hba] at hb; exact hb
    obtain ⟨k, eb, hk, hsb⟩ := h3 b tb hb2 hO
    exact ⟨k, eb, hk, sp_re ha hsb⟩
  · obtain ⟨t, ht⟩ := h4 k x hk
    by_cases hx : x.1 = a
    · exact ⟨_, by rw [hx]; exact Tadd_r⟩
    · exact ⟨t, by unfold Tadd; rw [if_neg hx]; exact ht⟩
/-! another length of the tape: the kind 10 is told anew -/
def Trc (T T2 : TF) : Prop := ∀ (b : Nat) (tg : Tg), T b = some tg → tg.1 ≠ 10 → T2 b = some tg
def mon3 (P : FT) : Prop := ∀ (T T2 : TF) (v : Value), Trc T T2 → P T v → P T2 v
theorem g3I (lo hi : Int) : mon3 (fI lo hi) := fun _ _ _ _ h => h
theorem g3A : mon3 fA := fun _ _ _ _ h => h
theorem g3E (n : Nat) : mon3 (fE n) := fun _ _ _ _ h => h
theorem g3N : mon3 fN := fun _ _ _ _ h => h
theorem g3P (n : Nat) : mon3 (fP n) := fun _ _ _ _ h => h
theorem g3R {tg : Tg} (h1 : tg.1 ≠ 10) : mon3 (fR tg) := fun _ _ _ h ⟨b, x, t⟩ => ⟨b, x, h _ _ t h1⟩
theorem g3Rd : mon3 fRd := fun _ _ _ h ⟨b, d, x, t, u⟩ => ⟨b, d, x, h _ _ t (by show 14 ≠ 10; decide), h _ _ u (by show 19 ≠ 10; decide)⟩
theorem isW.gc {T T2 : TF} (h : Trc T T2) {b x g : Nat} (hw : isW T b x g) : isW T2 b x g := ⟨h _ _ hw.1 (by show 19 ≠ 10; decide), hw.2⟩
theorem g3W : mon3 fW := fun _ _ _ h ⟨b, x, g, q, t⟩ => ⟨b, x, g, q, isW.gc h t⟩
theorem g3L : mon3 fLw := fun _ _ _ h q => q.elim Or.inl (fun ⟨b, n, x, t, u⟩ => Or.inr ⟨b, n, x, h _ _ t (by show 12 ≠ 10; decide), u⟩)
theorem g3TM (n : Nat) : mon3 (fTM n) := fun _ _ _ _ h => h
theorem g3FK (n : Nat) : mon3 (fFK n) := fun _ _ _ _ h => h
theorem g3FP (n : Nat) : mon3 (fFP n) := fun _ _ _ _ h => h
def mons3 (l : List FT) : Prop := ∀ P ∈ l, mon3 P
theorem m3_n : mons3 [] := fun _ h => absurd h List.not_mem_nil
theorem m3_c {P : FT} {l : List FT} (h : mon3 P) (hl : mons3 l) : mons3 (P :: l) := fun Q hQ => (List.mem_cons.mp hQ).elim (fun q => q ▸ h) (hl Q)
theorem ft1_3 (p q : Nat) : mons3 (ft1 p q) := m3_c (g3R (by show 1 ≠ 10; decide)) (m3_c (g3R (by show 1 ≠ 10; decide)) (m3_c (g3A) (m3_c (g3R (by show 1 ≠ 10; decide)) (m3_c (g3I _ _) (m3_c (g3A) (m3_c (g3R (by show 1 ≠ 10; decide)) (m3_n)))))))
theorem ft2_3 (p q : Nat) : mons3 (ft2 p q) := m3_c (g3R (by show 1 ≠ 10; decide)) (m3_c (g3R (by show 1 ≠ 10; decide)) (m3_c (g3R (by show 1 ≠ 10; decide)) (m3_n)))
theorem ft3_3 (p q : Nat) : mons3 (ft3 p q) := m3_c (g3R (by show 17 ≠ 10; decide)) (m3_c (g3R (by show 1 ≠ 10; decide)) (m3_c (g3I _ _) (m3_n)))
theorem ft4_3 (p q : Nat) : mons3 (ft4 p q) := m3_c (g3R (by show 17 ≠ 10; decide)) (m3_c (g3R (by show 13 ≠ 10; decide)) (m3_c (g3P _) (m3_c (g3I _ _) (m3_c (g3R (by show 16 ≠ 10; decide)) (m3_n)))))
theorem ft5_3 (p q : Nat) : mons3 (ft5 p q) := m3_c (g3W) (m3_c (g3A) (m3_c (g3A) (m3_c (g3A) (m3_c (g3R (by show 1 ≠ 10; decide)) (m3_c (g3R (by show 1 ≠ 10; decide)) (m3_n))))))
theorem ft6_3 (p q : Nat) : mons3 (ft6 p q) := m3_c (g3A) (m3_c (g3A) (m3_c (g3A) (m3_c (g3A) (m3_c (g3R (by show 1 ≠ 10; decide)) (m3_c (g3R (by show 1 ≠ 10; decide)) (m3_n))))))
theorem ft8_3 (p q : Nat) : mons3 (ft8 p q) := m3_c (g3R (by show 2 ≠ 10; decide)) (m3_c (g3A) (m3_c (g3I _ _) (m3_n)))
theorem ft10_3 (p q : Nat) : mons3 (ft10 p q) := m3_c (g3R (by show 1 ≠ 10; decide)) (m3_c (g3R (by show 1 ≠ 10; decide)) (m3_c (g3I _ _) (m3_c (g3R (by show 2 ≠ 10; decide)) (m3_c (g3R (by show 1 ≠ 10; decide)) (m3_c (g3R (by show 1 ≠ 10; decide)) (m3_c (g3I _ _) (m3_n)))))))
theorem ft12_3 (p q : Nat) : mons3 (ft12 p q) := m3_c (g3A) (m3_c (g3R (by show 8 ≠ 10; decide)) (m3_c (g3R (by show 3 ≠ 10; decide)) (m3_c (g3R (by show 9 ≠ 10; decide)) (m3_c (g3R (by show 8 ≠ 10; decide)) (m3_c (g3TM _) (m3_c (g3A) (m3_c (g3A) (m3_c (g3A) (m3_c (g3A) (m3_c (g3I _ _) (m3_c (g3A) (m3_c (g3A) (m3_c (g3FK _) (m3_c (g3FP _) (m3_c (g3R (by show 1 ≠ 10; decide)) (m3_c (g3A) (m3_c (g3R (by show 9 ≠ 10; decide)) (m3_c (g3R (by show 9 ≠ 10; decide)) (m3_c (g3R (by show 1 ≠ 10; decide)) (m3_c (g3I _ _) (m3_c (g3R (by show 1 ≠ 10; decide)) (m3_c (g3R (by show 1 ≠ 10; decide)) (m3_c (g3A) (m3_c (g3A) (m3_c (g3A) (m3_c (g3R (by show 2 ≠ 10; decide)) (m3_c (g3R (by show 3 ≠ 10; decide)) (m3_c (g3R (by show 0 ≠ 10; decide)) (m3_c (g3R (by show 1 ≠ 10; decide)) (m3_c (g3R (by show 1 ≠ 10; decide)) (m3_c (g3R (by show 1 ≠ 10; decide)) (m3_c (g3A) (m3_c (g3R (by show 1 ≠ 10; decide)) (m3_c (g3R (by show 1 ≠ 10; decide)) (m3_c (g3R (by show 2 ≠ 10; decide)) (m3_n))))))))))))))))))))))))))))))))))))
theorem ft9w_3 (p q : Nat) : mons3 (ft9w p q) := m3_c (g3E _) (m3_c (g3E _) (m3_c (g3A) (m3_c (g3I _ _) (m3_c (g3I _ _) (m3_c (g3I _ _) (m3_c (g3R (by show 1 ≠ 10; decide)) (m3_c (g3R (by show 1 ≠ 10; decide)) (m3_c (g3R (by show 1 ≠ 10; decide)) (m3_c (g3R (by show 1 ≠ 10; decide)) (m3_c (g3R (by show 1 ≠ 10; decide)) (m3_c (g3L) (m3_c (g3I _ _) (m3_c (g3I _ _) (m3_n))))))))))))))
theorem ft9d_3 (p q : Nat) : mons3 (ft9d p q) := m3_c (g3I _ _) (m3_c (g3I _ _) (m3_c (g3A) (m3_c (g3I _ _) (m3_c (g3I _ _) (m3_c (g3I _ _) (m3_c (g3R (by show 1 ≠ 10; decide)) (m3_c (g3R (by show 1 ≠ 10; decide)) (m3_c (g3R (by show 1 ≠ 10; decide)) (m3_c (g3R (by show 1 ≠ 10; decide)) (m3_c (g3R (by show 1 ≠ 10; decide)) (m3_c (g3N) (m3_c (g3I _ _) (m3_c (g3I _ _) (m3_n))))))))))))))
theorem ft9_3 (p q : Nat) : mons3 (ft9 p q) := by
  unfold ft9
  split
  · exact ft9d_3 p q
  · exact ft9w_3 p q
theorem fts_3 (c p q : Nat) (hc : c ≠ 11) : mons3 (fts c p q) := by
  unfold fts
  split <;> first | exact ft1_3 p q | exact ft2_3 p q | exact ft3_3 p q | exact ft4_3 p q | exact ft5_3 p q | exact ft6_3 p q | exact ft8_3 p q | exact ft9_3 p q | exact ft10_3 p q | exact ft12_3 p q | exact absurd rfl hc | exact m3_n
theorem ob_gc {T T2 : TF} (h : Trc T T2) {c p q : Nat} (hc : c ≠ 11) {fs : List Value} (ho : ob T c p q fs) : ob T2 c p q fs := by
  unfold ob at ho ⊢
  split at ho
  · obtain ⟨b, b2, d, n, x, e1, t1, t2, t3, r⟩ := ho
    exact ⟨b, b2, d, n, x, e1, h _ _ t1 (by show 1 ≠ 10; decide), h _ _ t2 (by show 1 ≠ 10; decide), h _ _ t3 (by show 1 ≠ 10; decide), r⟩
  · obtain ⟨b, n, x1, x2, x3, x4, x5, x6, x7, e1, t, r⟩ := ho
    exact ⟨b, n, x1, x2, x3, x4, x5, x6, x7, e1, h _ _ t (by show 0 ≠ 10; decide), r⟩
  · exact ⟨ho.1, fun k P v h1 h2 => fts_3 _ _ _ hc P (List.mem_of_getElem? h1) T T2 v h (ho.2 k P v h1 h2)⟩
theorem sp_gc {cs : CS} {T T2 : TF} (h : Trc T T2) {tg : Tg} (h21 : tg.1 ≠ 21) {e : va_E} (hs : sp cs T tg e) : sp cs T2 tg e := by
  unfold sp at hs ⊢
  split at hs
  · exact hs
  · exact hs
  · exact hs
  · exact hs
  · obtain ⟨f, e1, g⟩ := hs
    exact ⟨f, e1, fun j hj => by obtain ⟨b, x, y⟩ := g j hj; exact ⟨b, x, h _ _ y (by show 16 ≠ 10; decide)⟩⟩
  · obtain ⟨f, e1, g⟩ := hs
    exact ⟨f, e1, fun j b hj => by obtain ⟨x, g2, y⟩ := g j b hj; exact ⟨x, g2, isW.gc h y⟩⟩
  · obtain ⟨f, e1, g⟩ := hs
    exact ⟨f, e1, fun j hj => by obtain ⟨b, x, y⟩ := g j hj; exact ⟨b, x, h _ _ y (by show 18 ≠ 10; decide)⟩⟩
  · obtain ⟨f, e1, g⟩ := hs
    exact ⟨f, e1, fun j hj => by obtain ⟨b, x, y⟩ := g j hj; exact ⟨b, x, h _ _ y (by show 15 ≠ 10; decide)⟩⟩
  · exact hs
  · exact hs
  · rename_i c p q
    obtain ⟨fs, e1, g⟩ := hs
    exact ⟨fs, e1, ob_gc h (fun z => h21 (by show c + 10 = 21; omega)) g⟩
theorem HT.gh {D : va_G} {cs : CS} {A : Nat → Prop} {T : TF} {O : List Nat} {X : va_W} {H : Heap} {a ch g g2 : Nat} (h : HT D cs A T O X H) (hc : T ch = some (10, g, 0)) (hU : ∀ (b : Nat) (tg : Tg), T b = some tg → tg.1 = 21 → b = a) (hcO : ch ∈ O) (haO : a ∈ O) : HT D cs A (Tadd T ch (10, g2, 0)) O X H := by
  have q3 : ∀ b, b ≠ ch → Tadd T ch (10, g2, 0) b = T b := fun b h1 => by unfold Tadd; rw [if_neg h1]
  have hk : Trc T (Tadd T ch (10, g2, 0)) := fun b tg hb k1 => by
    rw [q3 b (fun z => by rw [z, hc] at hb; cases hb; exact k1 rfl)]
    exact hb
  obtain ⟨ws, hP, hD, h3, h4⟩ := h
  refine ⟨ws, hP, hD, fun b tg hb hO => ?_, fun k q hq => ?_⟩
  · have h1 : b ≠ ch := fun z => hO (z ▸ hcO)
    have h2 : b ≠ a := fun z => hO (z ▸ haO)
    rw [q3 b h1] at hb
    obtain ⟨k, e1, hk1, hs⟩ := h3 b tg hb hO
    exact ⟨k, e1, hk1, sp_gc hk (fun z => h2 (hU b tg hb z)) hs⟩
  · obtain ⟨tg, ht⟩ := h4 k q hq
    by_cases h1 : q.1 = ch
    · exact ⟨_, by rw [h1]; exact Tadd_r⟩
    · exact ⟨tg, by rw [q3 _ h1]; exact ht⟩
theorem Trc.add {T : TF} {ch g g2 : Nat} (hc : T ch = some (10, g, 0)) : Trc T (Tadd T ch (10, g2, 0)) := fun b tg hb k1 => by
  unfold Tadd
  rw [if_neg (fun z => by rw [z, hc] at hb; cases hb; exact k1 rfl)]
  exact hb
/-! clones, casts, arrays of walls; shifts and powers -/
section ThRows7
variable {p : Program} {l : Launch} {e : Env} {R : Room} {s : State} {m : MethodId} {args : Array Value} {below : List Frame} {meth : Method} {c : Code} {H : Heap} {locs : List Loc} {cells slots : Nat} {Q : State → Prop}
variable {cc : ByteArray} {pc : Nat} {ls : Array Slot} {rest : List Value} {D : va_G} {A : Nat → Prop} {a : Nat} {cs : CS} {T : TF} {O : List Nat} {X : va_W} {H0 : Heap}
theorem fc_I (hkb : kb D (tyc cs) s) : s.vm.findClass "[I" = some cs.2.1 := (hkb.1.2 1 (cs.2.1, .int) rfl).2
theorem t_cloneI {own : String} {index n k : Nat} (hx : p.tables.exec = Jvm.exec) (hb : c.code = cc) (hml : c.maxLocals = ls.size) (hown : s.vm.findClass own = some m.cls)
    (hlink : (Cond.methodLink own index ⟨"[I", "clone", "()Ljava/lang/Object;"⟩).before args s = true) (hsame : (Cond.sameMethod "[I" "java/lang/Object" "clone" "()Ljava/lang/Object;").before args s = true)
    (hnat : (Cond.native ⟨"java/lang/Object", "clone", "()Ljava/lang/Object;"⟩).before args s = true) (hinst : (Cond.instanceMethod ⟨"java/lang/Object", "clone", "()Ljava/lang/Object;"⟩).before args s = true)
    (hsel : (Cond.selects "[I" ⟨"[I", "clone", "()Ljava/lang/Object;"⟩ ⟨"java/lang/Object", "clone", "()Ljava/lang/Object;"⟩).before args s = true)
    (hkb : kb D (tyc cs) s) (hH : HT D cs A T O X H) (hOX : ∀ o ∈ O, ∃ (k : Nat) (e : va_E), X[k]? = some (o, e)) (hS : va_S A H0 H locs) (hA : ∀ q, H0.size ≤ q → A q) (ha : T a = some (1, n, k)) (hno : a ∉ O)
    (hframes : 1 ≤ R.frames) (hlocals : (rest.map fun v => v.category).sum + 14 ≤ R.locals) (hcells : cells + 1 ≤ R.cells) (hslots : slots + n ≤ R.slots) (hdg : decode cc pc = .ok (.invokevirtual index, 3))
    (kk : ∀ (r : Nat) (T' : TF) (H1 : Heap), Tgr T T' → T' r = some (1, n, k) → HT D cs A T' O X H1 → va_S A H0 H1 locs → W p l e R s m args below meth c H1 locs (cells + 1) (slots + n) Q (F0 m (pc + 3) ls (.ref r :: rest))) : W p l e R s m args below meth c H locs cells slots Q (F0 m pc ls (.ref a :: rest)) := by
  obtain ⟨ws, hP, hD, h3, h4⟩ := hH
  obtain ⟨j, e0, hj, hs⟩ := h3 a _ ha hno
  obtain ⟨f, rfl, hf⟩ : ∃ f : Nat → Int32, e0 = .inl (cs.2.1, n, .inl f) ∧ ∀ j, cp k (f j) := hs
  refine va_clone hx hb hml hown hlink hsame hnat hinst hsel hkb.2.2.2.2.2.2.2.2.2.2 hkb.1 hP hD hS hA (X.length + j) 1 (ap_r hj) rfl (fc_I hkb) (fun i v h => ?_) hframes hlocals hcells hslots hdg (fun q H1 hK2 hP hD hS => ?_)
  · have hlt := (Array.getElem?_eq_some_iff.mp h).1
    rw [vp_cell_i, arrV_size] at hlt
    rw [vp_cell_i, arrV_read _ _ hlt] at h
    cases h
    rfl
  · exact kk q (Tadd T q (1, n, k)) H1 (Tgr_add (new_none hD hOX h3) (Or.inl rfl)) Tadd_r (HT.push hP hD hOX h3 h4 (show sp cs _ (1, n, k) _ from ⟨f, rfl, hf⟩)) hS
theorem t_castI {own : String} {index n k : Nat} (hx : p.tables.exec = Jvm.exec) (hb : c.code = cc) (hown : s.vm.findClass own = some m.cls) (hlink : (Cond.classLink own index "[I").before args s = true) (hkb : kb D (tyc cs) s) (hH : HT D cs A T O X H) (ha : T a = some (1, n, k)) (hno : a ∉ O) (hdg : decode cc pc = .ok (.checkcast index, 3))
    (kk : W p l e R s m args below meth c H locs cells slots Q (F0 m (pc + 3) ls (.ref a :: rest))) : W p l e R s m args below meth c H locs cells slots Q (F0 m pc ls (.ref a :: rest)) := by
  obtain ⟨ws, hP, hD, h3, h4⟩ := hH
  obtain ⟨j, e0, hj, hs⟩ := h3 a _ ha hno
  obtain ⟨f, rfl, hf⟩ : ∃ f : Nat → Int32, e0 = .inl (cs.2.1, n, .inl f) ∧ ∀ j, cp k (f j) := hs
  exact va_castA hx hb hown hlink hP (X.length + j) (ap_r hj) (fc_I hkb) hdg kk
theorem xa_wld {n : Nat} {f : Nat → Option Nat} {j : Int32} (hx : p.tables.exec = Jvm.exec) (hb : c.code = cc) (hkb : kb D (tyc cs) s) (hH : HT D cs A T O X H) (i : Nat) (hi : X[i]? = some (a, .inl (cs.2.2.2.2.2.1, n, .inr (.inr (.inr (.inr f)))))) (hsp : ∀ j a, f j = some a → ∃ h g, isW T a h g) (h0 : 0 ≤ j.toInt) (h1 : j.toInt < n) (hdg : decode cc pc = .ok (.aaload, 1))
    (k1 : f j.toNatClampNeg = none → W p l e R s m args below meth c H locs cells slots Q (F0 m (pc + 1) ls (.null :: rest))) (k2 : ∀ r h g : Nat, f j.toNatClampNeg = some r → isW T r h g → W p l e R s m args below meth c H locs cells slots Q (F0 m (pc + 1) ls (.ref r :: rest))) : W p l e R s m args below meth c H locs cells slots Q (F0 m pc ls (.int j :: .ref a :: rest)) := by
  obtain ⟨ws, hP, hD, h3, h4⟩ := hH
  refine va_aldq (C := RX9) hx hb hkb.1 hP i 5 (ap_l hi) rfl (in_t h0 h1) hdg ?_
  cases hr : f j.toNatClampNeg with
  | none => exact k1 hr
  | some r =>
    obtain ⟨h, g, hw⟩ := hsp _ r hr
    exact k2 r h g hr hw
theorem xa_wld1 {n r : Nat} {f : Nat → Option Nat} {j : Int32} (hx : p.tables.exec = Jvm.exec) (hb : c.code = cc) (hkb : kb D (tyc cs) s) (hH : HT D cs A T O X H) (i : Nat) (hi : X[i]? = some (a, .inl (cs.2.2.2.2.2.1, n, .inr (.inr (.inr (.inr f)))))) (h0 : 0 ≤ j.toInt) (h1 : j.toInt < n) (hr : f j.toNatClampNeg = some r) (hdg : decode cc pc = .ok (.aaload, 1))
    (kk : W p l e R s m args below meth c H locs cells slots Q (F0 m (pc + 1) ls (.ref r :: rest))) : W p l e R s m args below meth c H locs cells slots Q (F0 m pc ls (.int j :: .ref a :: rest)) := by
  obtain ⟨ws, hP, hD, h3, h4⟩ := hH
  refine va_aldq (C := RX9) hx hb hkb.1 hP i 5 (ap_l hi) rfl (in_t h0 h1) hdg ?_
  rw [hr]
  exact kk
theorem TK.mono {kf : KF} {y : MethodName} {b : ByteArray} {n : Nat} {r : Option FieldType} {rm : Room} {as : List Value} {post post' : Int32 → TX → Prop} (h : TK l D cs kf y b n r rm as T O X (Ti D cs post)) (hp : ∀ v u, post v u → post' v u) : TK l D cs kf y b n r rm as T O X (Ti D cs post') := by
  intro sz p e ha hc hk s m args below hf happ hP hK
  obtain ⟨z, o, h1, h2, h3, ⟨⟨⟨v, u, e1, e2, e3⟩, e4⟩, h5⟩⟩ := h sz p e ha hc hk s m args below hf happ hP hK
  exact ⟨z, o, h1, h2, h3, ⟨⟨v, u, e1, hp v u e2, e3⟩, e4⟩, h5⟩
end ThRows7
/-- all but the FootholdWall stay as they are -/
def Tre (T T2 : TF) (a : Nat) : Prop := (∀ (b : Nat) (tg : Tg), T b = some tg → tg.1 ≠ 21 → T2 b = some tg) ∧ ∀ (b : Nat) (tg : Tg), T2 b = some tg → T b = some tg ∨ tg.1 = 1 ∨ tg.1 = 12 ∨ tg.1 = 19 ∨ (tg.1 = 21 ∧ b = a)
theorem Tre.rf {T : TF} {a : Nat} : Tre T T a := ⟨fun _ _ h _ => h, fun _ _ h => Or.inl h⟩
theorem Tre.of {T T2 : TF} {a : Nat} (h : Tgr T T2) : Tre T T2 a := ⟨fun b tg hb _ => h.1 b tg hb, fun b tg hb => (h.2 b tg hb).elim Or.inl (fun q => Or.inr (by omega))⟩
theorem Tre.tr {T T1 T2 : TF} {a : Nat} (h1 : Tre T T1 a) (h2 : Tre T1 T2 a) : Tre T T2 a := ⟨fun b tg hb hk => h2.1 b tg (h1.1 b tg hb hk) hk, fun b tg hb => (h2.2 b tg hb).elim (h1.2 b tg) Or.inr⟩
theorem Tre.add {T : TF} {a w w2 q : Nat} (ha : T a = some (21, w, q)) : Tre T (Tadd T a (21, w2, q)) a := ⟨fun b tg hb hk => re_ne ha hk hb, fun b tg hb => by
  unfold Tadd at hb
  split at hb
  · rename_i hba
    cases hb
    exact Or.inr (Or.inr (Or.inr (Or.inr ⟨rfl, hba⟩)))
  · exact Or.inl hb⟩
theorem ushr_n {x y : Int32} (k : Nat) (hk : y.toUInt32 &&& Int32.toUInt32 31 = UInt32.ofNat k) (h31 : k < 32) (h : 0 ≤ x.toInt) : (x.toUInt32 >>> (y.toUInt32 &&& Int32.toUInt32 31)).toInt32.toInt = x.toInt / 2 ^ k := by
  rw [hk]
  obtain ⟨h1, h2⟩ := nn_i h
  have e : (x.toUInt32 >>> UInt32.ofNat k).toNat = x.toBitVec.toNat >>> k := by
    rw [UInt32.toNat_shiftRight]
    have : (UInt32.ofNat k).toNat % 32 = k := by rw [UInt32.toNat_ofNat']; omega
    rw [this]
    rfl
  have hb : ((x.toUInt32 >>> UInt32.ofNat k).toInt32).toBitVec.toNat = x.toBitVec.toNat >>> k := by
    show (x.toUInt32 >>> UInt32.ofNat k).toBitVec.toNat = _
    exact e
  have hle : x.toBitVec.toNat >>> k ≤ x.toBitVec.toNat := Nat.shiftRight_le _ _
  have := nn_of (x := (x.toUInt32 >>> UInt32.ofNat k).toInt32) (by rw [hb]; omega)
  rw [this, hb, h1, Nat.shiftRight_eq_div_pow]
  exact_mod_cast rfl
theorem nat_and_pow {n k : Nat} (h0 : 2 ^ k ≤ n) (h1 : n < 2 ^ (k + 1)) : n &&& 2 ^ k = 2 ^ k := by
  apply Nat.eq_of_testBit_eq
  intro i
  rw [Nat.testBit_and, Nat.testBit_two_pow]
  by_cases hi : k = i
  · subst hi
    rw [Nat.testBit_of_two_pow_le_and_two_pow_add_one_gt h0 h1]
    simp
  · simp [hi]
theorem and_pow {x c : Int32} (k : Nat) (hk : k ≤ 30) (hc : c.toInt = 2 ^ k) (h0 : (2 : Int) ^ k ≤ x.toInt) (h1 : x.toInt < 2 ^ (k + 1)) : (x &&& c).toInt = 2 ^ k := by
  have hp : (0 : Int) < 2 ^ k := Int.pow_pos (by decide)
  obtain ⟨a1, a2⟩ := nn_i (x := x) (by omega)
  obtain ⟨b1, b2⟩ := nn_i (x := c) (by omega)
  have ec : c.toBitVec.toNat = 2 ^ k := by
    have : (c.toBitVec.toNat : Int) = ((2 ^ k : Nat) : Int) := by rw [← b1, hc]; norm_cast
    exact_mod_cast this
  have g0 : 2 ^ k ≤ x.toBitVec.toNat := by
    have : ((2 ^ k : Nat) : Int) ≤ (x.toBitVec.toNat : Int) := by rw [← a1]; exact_mod_cast h0
    exact_mod_cast this
  have g1 : x.toBitVec.toNat < 2 ^ (k + 1) := by
    have : (x.toBitVec.toNat : Int) < ((2 ^ (k + 1) : Nat) : Int) := by rw [← a1]; exact_mod_cast h1
    exact_mod_cast this
  have e : (x &&& c).toBitVec.toNat = 2 ^ k := by rw [Int32.toBitVec_and, BitVec.toNat_and, ec, nat_and_pow g0 g1]
  have := nn_of (x := x &&& c) (by rw [e]; omega)
  rw [this, e]
  norm_cast
theorem a31_tab : ∀ k, k < 32 → nI k &&& 31 = nI k := by decide +kernel
/-- a bit of a number that isn't below 0 -/
theorem bit_le {x h v w : Int32} (hx : 0 ≤ x.toInt) (h0 : 0 ≤ h.toInt) (h1 : h.toInt ≤ 30) (ev : v = x >>> (h &&& 31)) (ew : w = v &&& 1) (hw : w.toInt ≠ 0) : ((1 : Int32) <<< (h &&& 31)).toInt ≤ x.toInt := by
  have e := is_nI h0
  have ek : h &&& 31 = nI h.toInt.toNat := by
    have := a31_tab h.toInt.toNat (by omega)
    rw [← e] at this
    rw [this]
    exact e
  have hv : v.toInt = x.toInt / 2 ^ h.toInt.toNat := by
    rw [ev]
    exact shr_c h.toInt.toNat ek (by omega)
  have hs : ((1 : Int32) <<< (h &&& 31)).toInt = 2 ^ h.toInt.toNat := by
    have := sh_tab h.toInt.toNat (by omega)
    rw [← e] at this
    exact this
  rw [hs]
  have hp : (0 : Int) < 2 ^ h.toInt.toNat := Int.pow_pos (by decide)
  rcases Int.lt_or_le x.toInt (2 ^ h.toInt.toNat) with q | q
  · exfalso
    rw [Int.ediv_eq_zero_of_lt hx q] at hv
    have v0 : v = 0 := Int32.toInt_inj.mp (by rw [hv]; decide)
    rw [ew, v0] at hw
    exact hw (by decide)
  · exact q
/-- a power of two above another one -/
theorem p2_lt {n m j i : Nat} (hn : n = 2 ^ j) (hm : m = 2 ^ i) (h : n < m) : j < i := by
  rw [hn, hm] at h
  exact (Nat.pow_lt_pow_iff_right (by decide)).mp h
theorem p2_le {n j : Nat} (hn : n = 2 ^ j) (hj : j ≤ 14) : 1 ≤ n ∧ n ≤ 16384 := by
  rw [hn]
  exact ⟨Nat.pow_pos (by decide), Nat.pow_le_pow_right (by decide) hj⟩
def hobP (x r : Int) : Prop := (x = 0 ∧ r = 0) ∨ ∃ j : Nat, j ≤ 13 ∧ r = 2 ^ j
/-- the room of a Chains: twice its highest bit, or one -/
theorem hob_size {x r v s0 : Int32} (h : hobP x.toInt r.toInt) (hv : v.toInt = 2 * r.toInt) (hs : s0.toInt = max 1 v.toInt) : ∃ j : Nat, j ≤ 14 ∧ s0.toInt.toNat = 2 ^ j := by
  rcases h with ⟨-, h⟩ | ⟨j, hj, h⟩
  · exact ⟨0, by omega, by omega⟩
  · have hp : (0 : Int) < 2 ^ j := Int.pow_pos (by decide)
    refine ⟨j + 1, by omega, ?_⟩
    have h2 : s0.toInt = ((2 ^ (j + 1) : Nat) : Int) := by
      rw [Nat.pow_succ]
      have : ((2 ^ j * 2 : Nat) : Int) = 2 ^ j * 2 := by norm_cast
      omega
    omega
theorem dJ6_highestOneBit_0f7a4_0 : decode cJ6_highestOneBit_0f7a4 0 = .ok (.iload_n 0, 1) := by decide +kernel
theorem dJ6_highestOneBit_0f7a4_1 : decode cJ6_highestOneBit_0f7a4 1 = .ok (.ldc 127, 2) := by decide +kernel
theorem dJ6_highestOneBit_0f7a4_3 : decode cJ6_highestOneBit_0f7a4 3 = .ok (.iload_n 0, 1) := by decide +kernel
theorem dJ6_highestOneBit_0f7a4_4 : decode cJ6_highestOneBit_0f7a4 4 = .ok (.invokestatic 51, 3) := by decide +kernel
theorem dJ6_highestOneBit_0f7a4_7 : decode cJ6_highestOneBit_0f7a4 7 = .ok (.iushr, 1) := by decide +kernel
theorem dJ6_highestOneBit_0f7a4_8 : decode cJ6_highestOneBit_0f7a4 8 = .ok (.iand, 1) := by decide +kernel
theorem dJ6_highestOneBit_0f7a4_9 : decode cJ6_highestOneBit_0f7a4 9 = .ok (.ireturn, 1) := by decide +kernel
theorem kw_1083 : Cond.constant "java/lang/Integer" 127 (-2147483648) ∈ gw := gw_of (tb_of 1083 (by decide +kernel)) (by decide +kernel)
theorem kw_1084 : Cond.methodLink "java/lang/Integer" 51 yJ6_numberOfLeadingZeros_0f7a4 ∈ gw := gw_of (tb_of 1084 (by decide +kernel)) (by decide +kernel)
theorem kw_1085 : Cond.static yJ6_numberOfLeadingZeros_0f7a4 ∈ gw := gw_of (tb_of 1085 (by decide +kernel)) (by decide +kernel)
theorem kw_1086 : Cond.code yJ6_numberOfLeadingZeros_0f7a4 cJ6_numberOfLeadingZeros_0f7a4 2 (some (.int)) ∈ gw := gw_of (tb_of 1086 (by decide +kernel)) (by decide +kernel)
set_option maxHeartbeats 4000000 in
set_option maxRecDepth 100000 in
theorem s_nlz_0 (l : Launch) (D : va_G) (cs : CS) (kf : KF) (T : TF) (O : List Nat) (X : va_W) (x0 : Int32) (l_x0 : 1 ≤ x0.toInt) (u_x0 : x0.toInt ≤ 1) (hO : okO T O []) : TK l D cs kf yJ6_numberOfLeadingZeros_0f7a4 cJ6_numberOfLeadingZeros_0f7a4 2 (some (.int)) { frames := 0, cells := 0, slots := 0, locals := 0 } [.int x0] T O X (Ti D cs (fun r u => u = (T, O, X) ∧ 31 ≤ r.toInt ∧ r.toInt ≤ 31)) := by
  refine tk_of (by decide) (Nat.le_of_ble_eq_true rfl) (fun p e s m below meth c ls A H locs hx hb hr hml hown hts hlocks hnm hkb hH hS hA hOX hks hE hl => ?_)
  have hown : s.vm.findClass RJ6 = some m.cls := hown
  have hl : lv_has ls 2 [(0, .int x0)] := hl
  refine lv_iload_n hx hb dJ6_numberOfLeadingZeros_0f7a4_0 rfl (lv_at hl 0 rfl) ?_
  refine lv_if_gt (tgt := 15) hx hb dJ6_numberOfLeadingZeros_0f7a4_1 (by decide) (fun c1 => ?_) (fun c1 => ?_)
  · skip
    have tc1 := f_gt (k := 0) (by decide) c1
    refine lv_bipush (v := 31) hx hb dJ6_numberOfLeadingZeros_0f7a4_15 (by decide) ?_
    refine lv_istore_n (lv' := [(1, .int 31), (0, .int x0)]) hx hb dJ6_numberOfLeadingZeros_0f7a4_17 rfl hl (by decide) rfl (fun ls hl => ?_)
    refine lv_iload_n hx hb dJ6_numberOfLeadingZeros_0f7a4_18 rfl (lv_at hl 1 rfl) ?_
    refine lv_ldcw hx hb hown (hts _ kw_861) dJ6_numberOfLeadingZeros_0f7a4_19 ?_
    refine lv_icmp_lt (tgt := 33) hx hb dJ6_numberOfLeadingZeros_0f7a4_22 (by decide) (fun c22 => ?_) (fun c22 => ?_)
    · skip
      have tc22 := f_lt (k := 65536) (by decide) c22
      refine lv_iload_n hx hb dJ6_numberOfLeadingZeros_0f7a4_33 rfl (lv_at hl 1 rfl) ?_
      refine lv_sipush (v := 256) hx hb dJ6_numberOfLeadingZeros_0f7a4_34 (by decide) ?_
      refine lv_icmp_lt (tgt := 48) hx hb dJ6_numberOfLeadingZeros_0f7a4_37 (by decide) (fun c37 => ?_) (fun c37 => ?_)
      · skip
        have tc37 := f_lt (k := 256) (by decide) c37
        refine lv_iload_n hx hb dJ6_numberOfLeadingZeros_0f7a4_48 rfl (lv_at hl 1 rfl) ?_
        refine lv_bipush (v := 16) hx hb dJ6_numberOfLeadingZeros_0f7a4_49 (by decide) ?_
        refine lv_icmp_lt (tgt := 61) hx hb dJ6_numberOfLeadingZeros_0f7a4_51 (by decide) (fun c51 => ?_) (fun c51 => ?_)
        · skip
          have tc51 := f_lt (k := 16) (by decide) c51
          refine lv_iload_n hx hb dJ6_numberOfLeadingZeros_0f7a4_61 rfl (lv_at hl 1 rfl) ?_
          refine lv_iconst (v := 4) hx hb dJ6_numberOfLeadingZeros_0f7a4_62 (by decide) ?_
          refine lv_icmp_lt (tgt := 73) hx hb dJ6_numberOfLeadingZeros_0f7a4_63 (by decide) (fun c63 => ?_) (fun c63 => ?_)
          · skip
            have tc63 := f_lt (k := 4) (by decide) c63
            refine lv_iload_n hx hb dJ6_numberOfLeadingZeros_0f7a4_73 rfl (lv_at hl 0 rfl) ?_
            refine lv_iload_n hx hb dJ6_numberOfLeadingZeros_0f7a4_74 rfl (lv_at hl 1 rfl) ?_
            refine lv_iconst (v := 1) hx hb dJ6_numberOfLeadingZeros_0f7a4_75 (by decide) ?_
            refine lv_iushr hx hb dJ6_numberOfLeadingZeros_0f7a4_76 rfl ?_
            refine lv_topi (fun v76 ev76 => ?_)
            have tv76 : v76.toInt = x0.toInt / 2 := by rw [ev76]; exact ushr_n 1 (by decide +kernel) (by decide) (by omega)
            refine lv_isub hx hb dJ6_numberOfLeadingZeros_0f7a4_77 ?_
            refine lv_topi (fun v77 ev77 => ?_)
            have tv77 : v77.toInt = (31) - v76.toInt := by rw [ev77]; exact sub_i (by decide : (31 : Int32).toInt = 31) rfl (by omega) (by omega)
            exact te_i hx hb hr hlocks hH hS (⟨rfl, by omega, by omega⟩) dJ6_numberOfLeadingZeros_0f7a4_78
          · skip
            have tc63 := f_nlt (k := 4) (by decide) c63
            exfalso; omega
        · skip
          have tc51 := f_nlt (k := 16) (by decide) c51
          exfalso; omega
      · skip
        have tc37 := f_nlt (k := 256) (by decide) c37
        exfalso; omega
    · skip
      have tc22 := f_nlt (k := 65536) (by decide) c22
      exfalso; omega
  · skip
    have tc1 := f_ngt (k := 0) (by decide) c1
    exfalso; omega
set_option maxHeartbeats 4000000 in
set_option maxRecDepth 100000 in
theorem s_nlz_1 (l : Launch) (D : va_G) (cs : CS) (kf : KF) (T : TF) (O : List Nat) (X : va_W) (x0 : Int32) (l_x0 : 2 ≤ x0.toInt) (u_x0 : x0.toInt ≤ 3) (hO : okO T O []) : TK l D cs kf yJ6_numberOfLeadingZeros_0f7a4 cJ6_numberOfLeadingZeros_0f7a4 2 (some (.int)) { frames := 0, cells := 0, slots := 0, locals := 0 } [.int x0] T O X (Ti D cs (fun r u => u = (T, O, X) ∧ 30 ≤ r.toInt ∧ r.toInt ≤ 30)) := by
  refine tk_of (by decide) (Nat.le_of_ble_eq_true rfl) (fun p e s m below meth c ls A H locs hx hb hr hml hown hts hlocks hnm hkb hH hS hA hOX hks hE hl => ?_)
  have hown : s.vm.findClass RJ6 = some m.cls := hown
  have hl : lv_has ls 2 [(0, .int x0)] := hl
  refine lv_iload_n hx hb dJ6_numberOfLeadingZeros_0f7a4_0 rfl (lv_at hl 0 rfl) ?_
  refine lv_if_gt (tgt := 15) hx hb dJ6_numberOfLeadingZeros_0f7a4_1 (by decide) (fun c1 => ?_) (fun c1 => ?_)
  · skip
    have tc1 := f_gt (k := 0) (by decide) c1
    refine lv_bipush (v := 31) hx hb dJ6_numberOfLeadingZeros_0f7a4_15 (by decide) ?_
    refine lv_istore_n (lv' := [(1, .int 31), (0, .int x0)]) hx hb dJ6_numberOfLeadingZeros_0f7a4_17 rfl hl (by decide) rfl (fun ls hl => ?_)
    refine lv_iload_n hx hb dJ6_numberOfLeadingZeros_0f7a4_18 rfl (lv_at hl 1 rfl) ?_
    refine lv_ldcw hx hb hown (hts _ kw_861) dJ6_numberOfLeadingZeros_0f7a4_19 ?_
    refine lv_icmp_lt (tgt := 33) hx hb dJ6_numberOfLeadingZeros_0f7a4_22 (by decide) (fun c22 => ?_) (fun c22 => ?_)
    · skip
      have tc22 := f_lt (k := 65536) (by decide) c22
      refine lv_iload_n hx hb dJ6_numberOfLeadingZeros_0f7a4_33 rfl (lv_at hl 1 rfl) ?_
      refine lv_sipush (v := 256) hx hb dJ6_numberOfLeadingZeros_0f7a4_34 (by decide) ?_
      refine lv_icmp_lt (tgt := 48) hx hb dJ6_numberOfLeadingZeros_0f7a4_37 (by decide) (fun c37 => ?_) (fun c37 => ?_)
      · skip
        have tc37 := f_lt (k := 256) (by decide) c37
        refine lv_iload_n hx hb dJ6_numberOfLeadingZeros_0f7a4_48 rfl (lv_at hl 1 rfl) ?_
        refine lv_bipush (v := 16) hx hb dJ6_numberOfLeadingZeros_0f7a4_49 (by decide) ?_
        refine lv_icmp_lt (tgt := 61) hx hb dJ6_numberOfLeadingZeros_0f7a4_51 (by decide) (fun c51 => ?_) (fun c51 => ?_)
        · skip
          have tc51 := f_lt (k := 16) (by decide) c51
          refine lv_iload_n hx hb dJ6_numberOfLeadingZeros_0f7a4_61 rfl (lv_at hl 1 rfl) ?_
          refine lv_iconst (v := 4) hx hb dJ6_numberOfLeadingZeros_0f7a4_62 (by decide) ?_
          refine lv_icmp_lt (tgt := 73) hx hb dJ6_numberOfLeadingZeros_0f7a4_63 (by decide) (fun c63 => ?_) (fun c63 => ?_)
          · skip
            have tc63 := f_lt (k := 4) (by decide) c63
            refine lv_iload_n hx hb dJ6_numberOfLeadingZeros_0f7a4_73 rfl (lv_at hl 0 rfl) ?_
            refine lv_iload_n hx hb dJ6_numberOfLeadingZeros_0f7a4_74 rfl (lv_at hl 1 rfl) ?_
            refine lv_iconst (v := 1) hx hb dJ6_numberOfLeadingZeros_0f7a4_75 (by decide) ?_
            refine lv_iushr hx hb dJ6_numberOfLeadingZeros_0f7a4_76 rfl ?_
            refine lv_topi (fun v76 ev76 => ?_)
            have tv76 : v76.toInt = x0.toInt / 2 := by rw [ev76]; exact ushr_n 1 (by decide +kernel) (by decide) (by omega)
            refine lv_isub hx hb dJ6_numberOfLeadingZeros_0f7a4_77 ?_
            refine lv_topi (fun v77 ev77 => ?_)
            have tv77 : v77.toInt = (31) - v76.toInt := by rw [ev77]; exact sub_i (by decide : (31 : Int32).toInt = 31) rfl (by omega) (by omega)
            exact te_i hx hb hr hlocks hH hS (⟨rfl, by omega, by omega⟩) dJ6_numberOfLeadingZeros_0f7a4_78
          · skip
            have tc63 := f_nlt (k := 4) (by decide) c63
            exfalso; omega
        · skip
          have tc51 := f_nlt (k := 16) (by decide) c51
          exfalso; omega
      · skip
        have tc37 := f_nlt (k := 256) (by decide) c37
        exfalso; omega
    · skip
      have tc22 := f_nlt (k := 65536) (by decide) c22
      exfalso; omega
  · skip
    have tc1 := f_ngt (k := 0) (by decide) c1
    exfalso; omega
set_option maxHeartbeats 4000000 in
set_option maxRecDepth 100000 in
theorem s_nlz_2 (l : Launch) (D : va_G) (cs : CS) (kf : KF) (T : TF) (O : List Nat) (X : va_W) (x0 : Int32) (l_x0 : 4 ≤ x0.toInt) (u_x0 : x0.toInt ≤ 7) (hO : okO T O []) : TK l D cs kf yJ6_numberOfLeadingZeros_0f7a4 cJ6_numberOfLeadingZeros_0f7a4 2 (some (.int)) { frames := 0, cells := 0, slots := 0, locals := 0 } [.int x0] T O X (Ti D cs (fun r u => u = (T, O, X) ∧ 29 ≤ r.toInt ∧ r.toInt ≤ 29)) := by
  refine tk_of (by decide) (Nat.le_of_ble_eq_true rfl) (fun p e s m below meth c ls A H locs hx hb hr hml hown hts hlocks hnm hkb hH hS hA hOX hks hE hl => ?_)
  have hown : s.vm.findClass RJ6 = some m.cls := hown
  have hl : lv_has ls 2 [(0, .int x0)] := hl
  refine lv_iload_n hx hb dJ6_numberOfLeadingZeros_0f7a4_0 rfl (lv_at hl 0 rfl) ?_
  refine lv_if_gt (tgt := 15) hx hb dJ6_numberOfLeadingZeros_0f7a4_1 (by decide) (fun c1 => ?_) (fun c1 => ?_)
  · skip
    have tc1 := f_gt (k := 0) (by decide) c1
    refine lv_bipush (v := 31) hx hb dJ6_numberOfLeadingZeros_0f7a4_15 (by decide) ?_
    refine lv_istore_n (lv' := [(1, .int 31), (0, .int x0)]) hx hb dJ6_numberOfLeadingZeros_0f7a4_17 rfl hl (by decide) rfl (fun ls hl => ?_)
    refine lv_iload_n hx hb dJ6_numberOfLeadingZeros_0f7a4_18 rfl (lv_at hl 1 rfl) ?_
    refine lv_ldcw hx hb hown (hts _ kw_861) dJ6_numberOfLeadingZeros_0f7a4_19 ?_
    refine lv_icmp_lt (tgt := 33) hx hb dJ6_numberOfLeadingZeros_0f7a4_22 (by decide) (fun c22 => ?_) (fun c22 => ?_)
    · skip
      have tc22 := f_lt (k := 65536) (by decide) c22
      refine lv_iload_n hx hb dJ6_numberOfLeadingZeros_0f7a4_33 rfl (lv_at hl 1 rfl) ?_
      refine lv_sipush (v := 256) hx hb dJ6_numberOfLeadingZeros_0f7a4_34 (by decide) ?_
      refine lv_icmp_lt (tgt := 48) hx hb dJ6_numberOfLeadingZeros_0f7a4_37 (by decide) (fun c37 => ?_) (fun c37 => ?_)
      · skip
        have tc37 := f_lt (k := 256) (by decide) c37
        refine lv_iload_n hx hb dJ6_numberOfLeadingZeros_0f7a4_48 rfl (lv_at hl 1 rfl) ?_
        refine lv_bipush (v := 16) hx hb dJ6_numberOfLeadingZeros_0f7a4_49 (by decide) ?_
        refine lv_icmp_lt (tgt := 61) hx hb dJ6_numberOfLeadingZeros_0f7a4_51 (by decide) (fun c51 => ?_) (fun c51 => ?_)
        · skip
          have tc51 := f_lt (k := 16) (by decide) c51
          refine lv_iload_n hx hb dJ6_numberOfLeadingZeros_0f7a4_61 rfl (lv_at hl 1 rfl) ?_
          refine lv_iconst (v := 4) hx hb dJ6_numberOfLeadingZeros_0f7a4_62 (by decide) ?_
          refine lv_icmp_lt (tgt := 73) hx hb dJ6_numberOfLeadingZeros_0f7a4_63 (by decide) (fun c63 => ?_) (fun c63 => ?_)
          · skip
            have tc63 := f_lt (k := 4) (by decide) c63
            exfalso; omega
          · skip
            have tc63 := f_nlt (k := 4) (by decide) c63
            refine lv_iinc (v := 29) (lv' := [(1, .int 29), (0, .int x0)]) hx hb dJ6_numberOfLeadingZeros_0f7a4_66 hl (k := 0) rfl (by decide) (by decide) rfl (fun ls hl => ?_)
            refine lv_iload_n hx hb dJ6_numberOfLeadingZeros_0f7a4_69 rfl (lv_at hl 1 rfl) ?_
            refine lv_iconst (v := 2) hx hb dJ6_numberOfLeadingZeros_0f7a4_70 (by decide) ?_
            refine lv_iushr hx hb dJ6_numberOfLeadingZeros_0f7a4_71 rfl ?_
            refine lv_topi (fun v71 ev71 => ?_)
            have tv71 : v71.toInt = x0.toInt / 4 := by rw [ev71]; exact ushr_n 2 (by decide +kernel) (by decide) (by omega)
            refine lv_istore_n (lv' := [(0, .int v71), (1, .int 29)]) hx hb dJ6_numberOfLeadingZeros_0f7a4_72 rfl hl (by decide) rfl (fun ls hl => ?_)
            refine lv_iload_n hx hb dJ6_numberOfLeadingZeros_0f7a4_73 rfl (lv_at hl 1 rfl) ?_
            refine lv_iload_n hx hb dJ6_numberOfLeadingZeros_0f7a4_74 rfl (lv_at hl 0 rfl) ?_
            refine lv_iconst (v := 1) hx hb dJ6_numberOfLeadingZeros_0f7a4_75 (by decide) ?_
            refine lv_iushr hx hb dJ6_numberOfLeadingZeros_0f7a4_76 rfl ?_
            refine lv_topi (fun v76 ev76 => ?_)
            have tv76 : v76.toInt = v71.toInt / 2 := by rw [ev76]; exact ushr_n 1 (by decide +kernel) (by decide) (by omega)
            refine lv_isub hx hb dJ6_numberOfLeadingZeros_0f7a4_77 ?_
            refine lv_topi (fun v77 ev77 => ?_)
            have tv77 : v77.toInt = (29) - v76.toInt := by rw [ev77]; exact sub_i (by decide : (29 : Int32).toInt = 29) rfl (by omega) (by omega)
            exact te_i hx hb hr hlocks hH hS (⟨rfl, by omega, by omega⟩) dJ6_numberOfLeadingZeros_0f7a4_78
        · skip
          have tc51 := f_nlt (k := 16) (by decide) c51
          exfalso; omega
      · skip
        have tc37 := f_nlt (k := 256) (by decide) c37
        exfalso; omega
    · skip
      have tc22 := f_nlt (k := 65536) (by decide) c22
      exfalso; omega
  · skip
    have tc1 := f_ngt (k := 0) (by decide) c1
    exfalso; omega
set_option maxHeartbeats 4000000 in
set_option maxRecDepth 100000 in
theorem s_nlz_3 (l : Launch) (D : va_G) (cs : CS) (kf : KF) (T : TF) (O : List Nat) (X : va_W) (x0 : Int32) (l_x0 : 8 ≤ x0.toInt) (u_x0 : x0.toInt ≤ 15) (hO : okO T O []) : TK l D cs kf yJ6_numberOfLeadingZeros_0f7a4 cJ6_numberOfLeadingZeros_0f7a4 2 (some (.int)) { frames := 0, cells := 0, slots := 0, locals := 0 } [.int x0] T O X (Ti D cs (fun r u => u = (T, O, X) ∧ 28 ≤ r.toInt ∧ r.toInt ≤ 28)) := by
  refine tk_of (by decide) (Nat.le_of_ble_eq_true rfl) (fun p e s m below meth c ls A H locs hx hb hr hml hown hts hlocks hnm hkb hH hS hA hOX hks hE hl => ?_)
  have hown : s.vm.findClass RJ6 = some m.cls := hown
  have hl : lv_has ls 2 [(0, .int x0)] := hl
  refine lv_iload_n hx hb dJ6_numberOfLeadingZeros_0f7a4_0 rfl (lv_at hl 0 rfl) ?_
  refine lv_if_gt (tgt := 15) hx hb dJ6_numberOfLeadingZeros_0f7a4_1 (by decide) (fun c1 => ?_) (fun c1 => ?_)
  · skip
    have tc1 := f_gt (k := 0) (by decide) c1
    refine lv_bipush (v := 31) hx hb dJ6_numberOfLeadingZeros_0f7a4_15 (by decide) ?_
    refine lv_istore_n (lv' := [(1, .int 31), (0, .int x0)]) hx hb dJ6_numberOfLeadingZeros_0f7a4_17 rfl hl (by decide) rfl (fun ls hl => ?_)
    refine lv_iload_n hx hb dJ6_numberOfLeadingZeros_0f7a4_18 rfl (lv_at hl 1 rfl) ?_
    refine lv_ldcw hx hb hown (hts _ kw_861) dJ6_numberOfLeadingZeros_0f7a4_19 ?_
    refine lv_icmp_lt (tgt := 33) hx hb dJ6_numberOfLeadingZeros_0f7a4_22 (by decide) (fun c22 => ?_) (fun c22 => ?_)
    · skip
      have tc22 := f_lt (k := 65536) (by decide) c22
      refine lv_iload_n hx hb dJ6_numberOfLeadingZeros_0f7a4_33 rfl (lv_at hl 1 rfl) ?_
      refine lv_sipush (v := 256) hx hb dJ6_numberOfLeadingZeros_0f7a4_34 (by decide) ?_
      refine lv_icmp_lt (tgt := 48) hx hb dJ6_numberOfLeadingZeros_0f7a4_37 (by decide) (fun c37 => ?_) (fun c37 => ?_)
      · skip
        have tc37 := f_lt (k := 256) (by decide) c37
        refine lv_iload_n hx hb dJ6_numberOfLeadingZeros_0f7a4_48 rfl (lv_at hl 1 rfl) ?_
        refine lv_bipush (v := 16) hx hb dJ6_numberOfLeadingZeros_0f7a4_49 (by decide) ?_
        refine lv_icmp_lt (tgt := 61) hx hb dJ6_numberOfLeadingZeros_0f7a4_51 (by decide) (fun c51 => ?_) (fun c51 => ?_)
        · skip
          have tc51 := f_lt (k := 16) (by decide) c51
          refine lv_iload_n hx hb dJ6_numberOfLeadingZeros_0f7a4_61 rfl (lv_at hl 1 rfl) ?_
          refine lv_iconst (v := 4) hx hb dJ6_numberOfLeadingZeros_0f7a4_62 (by decide) ?_
          refine lv_icmp_lt (tgt := 73) hx hb dJ6_numberOfLeadingZeros_0f7a4_63 (by decide) (fun c63 => ?_) (fun c63 => ?_)
          · skip
            have tc63 := f_lt (k := 4) (by decide) c63
            exfalso; omega
          · skip
            have tc63 := f_nlt (k := 4) (by decide) c63
            refine lv_iinc (v := 29) (lv' := [(1, .int 29), (0, .int x0)]) hx hb dJ6_numberOfLeadingZeros_0f7a4_66 hl (k := 0) rfl (by decide) (by decide) rfl (fun ls hl => ?_)
            refine lv_iload_n hx hb dJ6_numberOfLeadingZeros_0f7a4_69 rfl (lv_at hl 1 rfl) ?_
            refine lv_iconst (v := 2) hx hb dJ6_numberOfLeadingZeros_0f7a4_70 (by decide) ?_
            refine lv_iushr hx hb dJ6_numberOfLeadingZeros_0f7a4_71 rfl ?_
            refine lv_topi (fun v71 ev71 => ?_)
            have tv71 : v71.toInt = x0.toInt / 4 := by rw [ev71]; exact ushr_n 2 (by decide +kernel) (by decide) (by omega)
            refine lv_istore_n (lv' := [(0, .int v71), (1, .int 29)]) hx hb dJ6_numberOfLeadingZeros_0f7a4_72 rfl hl (by decide) rfl (fun ls hl => ?_)
            refine lv_iload_n hx hb dJ6_numberOfLeadingZeros_0f7a4_73 rfl (lv_at hl 1 rfl) ?_
            refine lv_iload_n hx hb dJ6_numberOfLeadingZeros_0f7a4_74 rfl (lv_at hl 0 rfl) ?_
            refine lv_iconst (v := 1) hx hb dJ6_numberOfLeadingZeros_0f7a4_75 (by decide) ?_
            refine lv_iushr hx hb dJ6_numberOfLeadingZeros_0f7a4_76 rfl ?_
            refine lv_topi (fun v76 ev76 => ?_)
            have tv76 : v76.toInt = v71.toInt / 2 := by rw [ev76]; exact ushr_n 1 (by decide +kernel) (by decide) (by omega)
            refine lv_isub hx hb dJ6_numberOfLeadingZeros_0f7a4_77 ?_
            refine lv_topi (fun v77 ev77 => ?_)
            have tv77 : v77.toInt = (29) - v76.toInt := by rw [ev77]; exact sub_i (by decide : (29 : Int32).toInt = 29) rfl (by omega) (by omega)
            exact te_i hx hb hr hlocks hH hS (⟨rfl, by omega, by omega⟩) dJ6_numberOfLeadingZeros_0f7a4_78
        · skip
          have tc51 := f_nlt (k := 16) (by decide) c51
          exfalso; omega
      · skip
        have tc37 := f_nlt (k := 256) (by decide) c37
        exfalso; omega
    · skip
      have tc22 := f_nlt (k := 65536) (by decide) c22
      exfalso; omega
  · skip
    have tc1 := f_ngt (k := 0) (by decide) c1
    exfalso; omega
set_option maxHeartbeats 4000000 in
set_option maxRecDepth 100000 in
theorem s_nlz_4 (l : Launch) (D : va_G) (cs : CS) (kf : KF) (T : TF) (O : List Nat) (X : va_W) (x0 : Int32) (l_x0 : 16 ≤ x0.toInt) (u_x0 : x0.toInt ≤ 31) (hO : okO T O []) : TK l D cs kf yJ6_numberOfLeadingZeros_0f7a4 cJ6_numberOfLeadingZeros_0f7a4 2 (some (.int)) { frames := 0, cells := 0, slots := 0, locals := 0 } [.int x0] T O X (Ti D cs (fun r u => u = (T, O, X) ∧ 27 ≤ r.toInt ∧ r.toInt ≤ 27)) := by
  refine tk_of (by decide) (Nat.le_of_ble_eq_true rfl) (fun p e s m below meth c ls A H locs hx hb hr hml hown hts hlocks hnm hkb hH hS hA hOX hks hE hl => ?_)
  have hown : s.vm.findClass RJ6 = some m.cls := hown
  have hl : lv_has ls 2 [(0, .int x0)] := hl
  refine lv_iload_n hx hb dJ6_numberOfLeadingZeros_0f7a4_0 rfl (lv_at hl 0 rfl) ?_
  refine lv_if_gt (tgt := 15) hx hb dJ6_numberOfLeadingZeros_0f7a4_1 (by decide) (fun c1 => ?_) (fun c1 => ?_)
  · skip
    have tc1 := f_gt (k := 0) (by decide) c1
    refine lv_bipush (v := 31) hx hb dJ6_numberOfLeadingZeros_0f7a4_15 (by decide) ?_
    refine lv_istore_n (lv' := [(1, .int 31), (0, .int x0)]) hx hb dJ6_numberOfLeadingZeros_0f7a4_17 rfl hl (by decide) rfl (fun ls hl => ?_)
    refine lv_iload_n hx hb dJ6_numberOfLeadingZeros_0f7a4_18 rfl (lv_at hl 1 rfl) ?_
    refine lv_ldcw hx hb hown (hts _ kw_861) dJ6_numberOfLeadingZeros_0f7a4_19 ?_
    refine lv_icmp_lt (tgt := 33) hx hb dJ6_numberOfLeadingZeros_0f7a4_22 (by decide) (fun c22 => ?_) (fun c22 => ?_)
    · skip
      have tc22 := f_lt (k := 65536) (by decide) c22
      refine lv_iload_n hx hb dJ6_numberOfLeadingZeros_0f7a4_33 rfl (lv_at hl 1 rfl) ?_
      refine lv_sipush (v := 256) hx hb dJ6_numberOfLeadingZeros_0f7a4_34 (by decide) ?_
      refine lv_icmp_lt (tgt := 48) hx hb dJ6_numberOfLeadingZeros_0f7a4_37 (by decide) (fun c37 => ?_) (fun c37 => ?_)
      · skip
        have tc37 := f_lt (k := 256) (by decide) c37
        refine lv_iload_n hx hb dJ6_numberOfLeadingZeros_0f7a4_48 rfl (lv_at hl 1 rfl) ?_
        refine lv_bipush (v := 16) hx hb dJ6_numberOfLeadingZeros_0f7a4_49 (by decide) ?_
        refine lv_icmp_lt (tgt := 61) hx hb dJ6_numberOfLeadingZeros_0f7a4_51 (by decide) (fun c51 => ?_) (fun c51 => ?_)
        · skip
          have tc51 := f_lt (k := 16) (by decide) c51
          exfalso; omega
        · skip
          have tc51 := f_nlt (k := 16) (by decide) c51
          refine lv_iinc (v := 27) (lv' := [(1, .int 27), (0, .int x0)]) hx hb dJ6_numberOfLeadingZeros_0f7a4_54 hl (k := 0) rfl (by decide) (by decide) rfl (fun ls hl => ?_)
          refine lv_iload_n hx hb dJ6_numberOfLeadingZeros_0f7a4_57 rfl (lv_at hl 1 rfl) ?_
          refine lv_iconst (v := 4) hx hb dJ6_numberOfLeadingZeros_0f7a4_58 (by decide) ?_
          refine lv_iushr hx hb dJ6_numberOfLeadingZeros_0f7a4_59 rfl ?_
          refine lv_topi (fun v59 ev59 => ?_)
          have tv59 : v59.toInt = x0.toInt / 16 := by rw [ev59]; exact ushr_n 4 (by decide +kernel) (by decide) (by omega)
          refine lv_istore_n (lv' := [(0, .int v59), (1, .int 27)]) hx hb dJ6_numberOfLeadingZeros_0f7a4_60 rfl hl (by decide) rfl (fun ls hl => ?_)
          refine lv_iload_n hx hb dJ6_numberOfLeadingZeros_0f7a4_61 rfl (lv_at hl 0 rfl) ?_
          refine lv_iconst (v := 4) hx hb dJ6_numberOfLeadingZeros_0f7a4_62 (by decide) ?_
          refine lv_icmp_lt (tgt := 73) hx hb dJ6_numberOfLeadingZeros_0f7a4_63 (by decide) (fun c63 => ?_) (fun c63 => ?_)
          · skip
            have tc63 := f_lt (k := 4) (by decide) c63
            refine lv_iload_n hx hb dJ6_numberOfLeadingZeros_0f7a4_73 rfl (lv_at hl 1 rfl) ?_
            refine lv_iload_n hx hb dJ6_numberOfLeadingZeros_0f7a4_74 rfl (lv_at hl 0 rfl) ?_
            refine lv_iconst (v := 1) hx hb dJ6_numberOfLeadingZeros_0f7a4_75 (by decide) ?_
            refine lv_iushr hx hb dJ6_numberOfLeadingZeros_0f7a4_76 rfl ?_
            refine lv_topi (fun v76 ev76 => ?_)
            have tv76 : v76.toInt = v59.toInt / 2 := by rw [ev76]; exact ushr_n 1 (by decide +kernel) (by decide) (by omega)
            refine lv_isub hx hb dJ6_numberOfLeadingZeros_0f7a4_77 ?_
            refine lv_topi (fun v77 ev77 => ?_)
            have tv77 : v77.toInt = (27) - v76.toInt := by rw [ev77]; exact sub_i (by decide : (27 : Int32).toInt = 27) rfl (by omega) (by omega)
            exact te_i hx hb hr hlocks hH hS (⟨rfl, by omega, by omega⟩) dJ6_numberOfLeadingZeros_0f7a4_78
          · skip
            have tc63 := f_nlt (k := 4) (by decide) c63
            exfalso; omega
      · skip
        have tc37 := f_nlt (k := 256) (by decide) c37
        exfalso; omega
    · skip
      have tc22 := f_nlt (k := 65536) (by decide) c22
      exfalso; omega
  · skip
    have tc1 := f_ngt (k := 0) (by decide) c1
    exfalso; omega
set_option maxHeartbeats 4000000 in
set_option maxRecDepth 100000 in
theorem s_nlz_5 (l : Launch) (D : va_G) (cs : CS) (kf : KF) (T : TF) (O : List Nat) (X : va_W) (x0 : Int32) (l_x0 : 32 ≤ x0.toInt) (u_x0 : x0.toInt ≤ 63) (hO : okO T O []) : TK l D cs kf yJ6_numberOfLeadingZeros_0f7a4 cJ6_numberOfLeadingZeros_0f7a4 2 (some (.int)) { frames := 0, cells := 0, slots := 0, locals := 0 } [.int x0] T O X (Ti D cs (fun r u => u = (T, O, X) ∧ 26 ≤ r.toInt ∧ r.toInt ≤ 26)) := by
  refine tk_of (by decide) (Nat.le_of_ble_eq_true rfl) (fun p e s m below meth c ls A H locs hx hb hr hml hown hts hlocks hnm hkb hH hS hA hOX hks hE hl => ?_)
  have hown : s.vm.findClass RJ6 = some m.cls := hown
  have hl : lv_has ls 2 [(0, .int x0)] := hl
  refine lv_iload_n hx hb dJ6_numberOfLeadingZeros_0f7a4_0 rfl (lv_at hl 0 rfl) ?_
  refine lv_if_gt (tgt := 15) hx hb dJ6_numberOfLeadingZeros_0f7a4_1 (by decide) (fun c1 => ?_) (fun c1 => ?_)
  · skip
    have tc1 := f_gt (k := 0) (by decide) c1
    refine lv_bipush (v := 31) hx hb dJ6_numberOfLeadingZeros_0f7a4_15 (by decide) ?_
    refine lv_istore_n (lv' := [(1, .int 31), (0, .int x0)]) hx hb dJ6_numberOfLeadingZeros_0f7a4_17 rfl hl (by decide) rfl (fun ls hl => ?_)
    refine lv_iload_n hx hb dJ6_numberOfLeadingZeros_0f7a4_18 rfl (lv_at hl 1 rfl) ?_
    refine lv_ldcw hx hb hown (hts _ kw_861) dJ6_numberOfLeadingZeros_0f7a4_19 ?_
    refine lv_icmp_lt (tgt := 33) hx hb dJ6_numberOfLeadingZeros_0f7a4_22 (by decide) (fun c22 => ?_) (fun c22 => ?_)
    · skip
      have tc22 := f_lt (k := 65536) (by decide) c22
      refine lv_iload_n hx hb dJ6_numberOfLeadingZeros_0f7a4_33 rfl (lv_at hl 1 rfl) ?_
      refine lv_sipush (v := 256) hx hb dJ6_numberOfLeadingZeros_0f7a4_34 (by decide) ?_
      refine lv_icmp_lt (tgt := 48) hx hb dJ6_numberOfLeadingZeros_0f7a4_37 (by decide) (fun c37 => ?_) (fun c37 => ?_)
      · skip
        have tc37 := f_lt (k := 256) (by decide) c37
        refine lv_iload_n hx hb dJ6_numberOfLeadingZeros_0f7a4_48 rfl (lv_at hl 1 rfl) ?_
        refine lv_bipush (v := 16) hx hb dJ6_numberOfLeadingZeros_0f7a4_49 (by decide) ?_
        refine lv_icmp_lt (tgt := 61) hx hb dJ6_numberOfLeadingZeros_0f7a4_51 (by decide) (fun c51 => ?_) (fun c51 => ?_)
        · skip
          have tc51 := f_lt (k := 16) (by decide) c51
          exfalso; omega
        · skip
          have tc51 := f_nlt (k := 16) (by decide) c51
          refine lv_iinc (v := 27) (lv' := [(1, .int 27), (0, .int x0)]) hx hb dJ6_numberOfLeadingZeros_0f7a4_54 hl (k := 0) rfl (by decide) (by decide) rfl (fun ls hl => ?_)
          refine lv_iload_n hx hb dJ6_numberOfLeadingZeros_0f7a4_57 rfl (lv_at hl 1 rfl) ?_
          refine lv_iconst (v := 4) hx hb dJ6_numberOfLeadingZeros_0f7a4_58 (by decide) ?_
          refine lv_iushr hx hb dJ6_numberOfLeadingZeros_0f7a4_59 rfl ?_
          refine lv_topi (fun v59 ev59 => ?_)
          have tv59 : v59.toInt = x0.toInt / 16 := by rw [ev59]; exact ushr_n 4 (by decide +kernel) (by decide) (by omega)
          refine lv_istore_n (lv' := [(0, .int v59), (1, .int 27)]) hx hb dJ6_numberOfLeadingZeros_0f7a4_60 rfl hl (by decide) rfl (fun ls hl => ?_)
          refine lv_iload_n hx hb dJ6_numberOfLeadingZeros_0f7a4_61 rfl (lv_at hl 0 rfl) ?_
          refine lv_iconst (v := 4) hx hb dJ6_numberOfLeadingZeros_0f7a4_62 (by decide) ?_
          refine lv_icmp_lt (tgt := 73) hx hb dJ6_numberOfLeadingZeros_0f7a4_63 (by decide) (fun c63 => ?_) (fun c63 => ?_)
          · skip
            have tc63 := f_lt (k := 4) (by decide) c63
            refine lv_iload_n hx hb dJ6_numberOfLeadingZeros_0f7a4_73 rfl (lv_at hl 1 rfl) ?_
            refine lv_iload_n hx hb dJ6_numberOfLeadingZeros_0f7a4_74 rfl (lv_at hl 0 rfl) ?_
            refine lv_iconst (v := 1) hx hb dJ6_numberOfLeadingZeros_0f7a4_75 (by decide) ?_
            refine lv_iushr hx hb dJ6_numberOfLeadingZeros_0f7a4_76 rfl ?_
            refine lv_topi (fun v76 ev76 => ?_)
            have tv76 : v76.toInt = v59.toInt / 2 := by rw [ev76]; exact ushr_n 1 (by decide +kernel) (by decide) (by omega)
            refine lv_isub hx hb dJ6_numberOfLeadingZeros_0f7a4_77 ?_
            refine lv_topi (fun v77 ev77 => ?_)
            have tv77 : v77.toInt = (27) - v76.toInt := by rw [ev77]; exact sub_i (by decide : (27 : Int32).toInt = 27) rfl (by omega) (by omega)
            exact te_i hx hb hr hlocks hH hS (⟨rfl, by omega, by omega⟩) dJ6_numberOfLeadingZeros_0f7a4_78
          · skip
            have tc63 := f_nlt (k := 4) (by decide) c63
            exfalso; omega
      · skip
        have tc37 := f_nlt (k := 256) (by decide) c37
        exfalso; omega
    · skip
      have tc22 := f_nlt (k := 65536) (by decide) c22
      exfalso; omega
  · skip
    have tc1 := f_ngt (k := 0) (by decide) c1
    exfalso; omega
set_option maxHeartbeats 4000000 in
set_option maxRecDepth 100000 in
theorem s_nlz_6 (l : Launch) (D : va_G) (cs : CS) (kf : KF) (T : TF) (O : List Nat) (X : va_W) (x0 : Int32) (l_x0 : 64 ≤ x0.toInt) (u_x0 : x0.toInt ≤ 127) (hO : okO T O []) : TK l D cs kf yJ6_numberOfLeadingZeros_0f7a4 cJ6_numberOfLeadingZeros_0f7a4 2 (some (.int)) { frames := 0, cells := 0, slots := 0, locals := 0 } [.int x0] T O X (Ti D cs (fun r u => u = (T, O, X) ∧ 25 ≤ r.toInt ∧ r.toInt ≤ 25)) := by
  refine tk_of (by decide) (Nat.le_of_ble_eq_true rfl) (fun p e s m below meth c ls A H locs hx hb hr hml hown hts hlocks hnm hkb hH hS hA hOX hks hE hl => ?_)
  have hown : s.vm.findClass RJ6 = some m.cls := hown
  have hl : lv_has ls 2 [(0, .int x0)] := hl
  refine lv_iload_n hx hb dJ6_numberOfLeadingZeros_0f7a4_0 rfl (lv_at hl 0 rfl) ?_
  refine lv_if_gt (tgt := 15) hx hb dJ6_numberOfLeadingZeros_0f7a4_1 (by decide) (fun c1 => ?_) (fun c1 => ?_)
  · skip
    have tc1 := f_gt (k := 0) (by decide) c1
    refine lv_bipush (v := 31) hx hb dJ6_numberOfLeadingZeros_0f7a4_15 (by decide) ?_
    refine lv_istore_n (lv' := [(1, .int 31), (0, .int x0)]) hx hb dJ6_numberOfLeadingZeros_0f7a4_17 rfl hl (by decide) rfl (fun ls hl => ?_)
    refine lv_iload_n hx hb dJ6_numberOfLeadingZeros_0f7a4_18 rfl (lv_at hl 1 rfl) ?_
    refine lv_ldcw hx hb hown (hts _ kw_861) dJ6_numberOfLeadingZeros_0f7a4_19 ?_
    refine lv_icmp_lt (tgt := 33) hx hb dJ6_numberOfLeadingZeros_0f7a4_22 (by decide) (fun c22 => ?_) (fun c22 => ?_)
    · skip
      have tc22 := f_lt (k := 65536) (by decide) c22
      refine lv_iload_n hx hb dJ6_numberOfLeadingZeros_0f7a4_33 rfl (lv_at hl 1 rfl) ?_
      refine lv_sipush (v := 256) hx hb dJ6_numberOfLeadingZeros_0f7a4_34 (by decide) ?_
      refine lv_icmp_lt (tgt := 48) hx hb dJ6_numberOfLeadingZeros_0f7a4_37 (by decide) (fun c37 => ?_) (fun c37 => ?_)
      · skip
        have tc37 := f_lt (k := 256) (by decide) c37
        refine lv_iload_n hx hb dJ6_numberOfLeadingZeros_0f7a4_48 rfl (lv_at hl 1 rfl) ?_
        refine lv_bipush (v := 16) hx hb dJ6_numberOfLeadingZeros_0f7a4_49 (by decide) ?_
        refine lv_icmp_lt (tgt := 61) hx hb dJ6_numberOfLeadingZeros_0f7a4_51 (by decide) (fun c51 => ?_) (fun c51 => ?_)
        · skip
          have tc51 := f_lt (k := 16) (by decide) c51
          exfalso; omega
        · skip
          have tc51 := f_nlt (k := 16) (by decide) c51
          refine lv_iinc (v := 27) (lv' := [(1, .int 27), (0, .int x0)]) hx hb dJ6_numberOfLeadingZeros_0f7a4_54 hl (k := 0) rfl (by decide) (by decide) rfl (fun ls hl => ?_)
          refine lv_iload_n hx hb dJ6_numberOfLeadingZeros_0f7a4_57 rfl (lv_at hl 1 rfl) ?_
          refine lv_iconst (v := 4) hx hb dJ6_numberOfLeadingZeros_0f7a4_58 (by decide) ?_
          refine lv_iushr hx hb dJ6_numberOfLeadingZeros_0f7a4_59 rfl ?_
          refine lv_topi (fun v59 ev59 => ?_)
          have tv59 : v59.toInt = x0.toInt / 16 := by rw [ev59]; exact ushr_n 4 (by decide +kernel) (by decide) (by omega)
          refine lv_istore_n (lv' := [(0, .int v59), (1, .int 27)]) hx hb dJ6_numberOfLeadingZeros_0f7a4_60 rfl hl (by decide) rfl (fun ls hl => ?_)
          refine lv_iload_n hx hb dJ6_numberOfLeadingZeros_0f7a4_61 rfl (lv_at hl 0 rfl) ?_
          refine lv_iconst (v := 4) hx hb dJ6_numberOfLeadingZeros_0f7a4_62 (by decide) ?_
          refine lv_icmp_lt (tgt := 73) hx hb dJ6_numberOfLeadingZeros_0f7a4_63 (by decide) (fun c63 => ?_) (fun c63 => ?_)
          · skip
            have tc63 := f_lt (k := 4) (by decide) c63
            exfalso; omega
          · skip
            have tc63 := f_nlt (k := 4) (by decide) c63
            refine lv_iinc (v := 25) (lv' := [(1, .int 25), (0, .int v59)]) hx hb dJ6_numberOfLeadingZeros_0f7a4_66 hl (k := 1) rfl (by decide) (by decide) rfl (fun ls hl => ?_)
            refine lv_iload_n hx hb dJ6_numberOfLeadingZeros_0f7a4_69 rfl (lv_at hl 1 rfl) ?_
            refine lv_iconst (v := 2) hx hb dJ6_numberOfLeadingZeros_0f7a4_70 (by decide) ?_
            refine lv_iushr hx hb dJ6_numberOfLeadingZeros_0f7a4_71 rfl ?_
            refine lv_topi (fun v71 ev71 => ?_)
            have tv71 : v71.toInt = v59.toInt / 4 := by rw [ev71]; exact ushr_n 2 (by decide +kernel) (by decide) (by omega)
            refine lv_istore_n (lv' := [(0, .int v71), (1, .int 25)]) hx hb dJ6_numberOfLeadingZeros_0f7a4_72 rfl hl (by decide) rfl (fun ls hl => ?_)
            refine lv_iload_n hx hb dJ6_numberOfLeadingZeros_0f7a4_73 rfl (lv_at hl 1 rfl) ?_
            refine lv_iload_n hx hb dJ6_numberOfLeadingZeros_0f7a4_74 rfl (lv_at hl 0 rfl) ?_
            refine lv_iconst (v := 1) hx hb dJ6_numberOfLeadingZeros_0f7a4_75 (by decide) ?_
            refine lv_iushr hx hb dJ6_numberOfLeadingZeros_0f7a4_76 rfl ?_
            refine lv_topi (fun v76 ev76 => ?_)
            have tv76 : v76.toInt = v71.toInt / 2 := by rw [ev76]; exact ushr_n 1 (by decide +kernel) (by decide) (by omega)
            refine lv_isub hx hb dJ6_numberOfLeadingZeros_0f7a4_77 ?_
            refine lv_topi (fun v77 ev77 => ?_)
            have tv77 : v77.toInt = (25) - v76.toInt := by rw [ev77]; exact sub_i (by decide : (25 : Int32).toInt = 25) rfl (by omega) (by omega)
            exact te_i hx hb hr hlocks hH hS (⟨rfl, by omega, by omega⟩) dJ6_numberOfLeadingZeros_0f7a4_78
      · skip
        have tc37 := f_nlt (k := 256) (by decide) c37
        exfalso; omega
    · skip
      have tc22 := f_nlt (k := 65536) (by decide) c22
      exfalso; omega
  · skip
    have tc1 := f_ngt (k := 0) (by decide) c1
    exfalso; omega
set_option maxHeartbeats 4000000 in
set_option maxRecDepth 100000 in
theorem s_nlz_7 (l : Launch) (D : va_G) (cs : CS) (kf : KF) (T : TF) (O : List Nat) (X : va_W) (x0 : Int32) (l_x0 : 128 ≤ x0.toInt) (u_x0 : x0.toInt ≤ 255) (hO : okO T O []) : TK l D cs kf yJ6_numberOfLeadingZeros_0f7a4 cJ6_numberOfLeadingZeros_0f7a4 2 (some (.int)) { frames := 0, cells := 0, slots := 0, locals := 0 } [.int x0] T O X (Ti D cs (fun r u => u = (T, O, X) ∧ 24 ≤ r.toInt ∧ r.toInt ≤ 24)) := by
  refine tk_of (by decide) (Nat.le_of_ble_eq_true rfl) (fun p e s m below meth c ls A H locs hx hb hr hml hown hts hlocks hnm hkb hH hS hA hOX hks hE hl => ?_)
  have hown : s.vm.findClass RJ6 = some m.cls := hown
  have hl : lv_has ls 2 [(0, .int x0)] := hl
  refine lv_iload_n hx hb dJ6_numberOfLeadingZeros_0f7a4_0 rfl (lv_at hl 0 rfl) ?_
  refine lv_if_gt (tgt := 15) hx hb dJ6_numberOfLeadingZeros_0f7a4_1 (by decide) (fun c1 => ?_) (fun c1 => ?_)
  · skip
    have tc1 := f_gt (k := 0) (by decide) c1
    refine lv_bipush (v := 31) hx hb dJ6_numberOfLeadingZeros_0f7a4_15 (by decide) ?_
    refine lv_istore_n (lv' := [(1, .int 31), (0, .int x0)]) hx hb dJ6_numberOfLeadingZeros_0f7a4_17 rfl hl (by decide) rfl (fun ls hl => ?_)
    refine lv_iload_n hx hb dJ6_numberOfLeadingZeros_0f7a4_18 rfl (lv_at hl 1 rfl) ?_
    refine lv_ldcw hx hb hown (hts _ kw_861) dJ6_numberOfLeadingZeros_0f7a4_19 ?_
    refine lv_icmp_lt (tgt := 33) hx hb dJ6_numberOfLeadingZeros_0f7a4_22 (by decide) (fun c22 => ?_) (fun c22 => ?_)
    · skip
      have tc22 := f_lt (k := 65536) (by decide) c22
      refine lv_iload_n hx hb dJ6_numberOfLeadingZeros_0f7a4_33 rfl (lv_at hl 1 rfl) ?_
      refine lv_sipush (v := 256) hx hb dJ6_numberOfLeadingZeros_0f7a4_34 (by decide) ?_
      refine lv_icmp_lt (tgt := 48) hx hb dJ6_numberOfLeadingZeros_0f7a4_37 (by decide) (fun c37 => ?_) (fun c37 => ?_)
      · skip
        have tc37 := f_lt (k := 256) (by decide) c37
        refine lv_iload_n hx hb dJ6_numberOfLeadingZeros_0f7a4_48 rfl (lv_at hl 1 rfl) ?_
        refine lv_bipush (v := 16) hx hb dJ6_numberOfLeadingZeros_0f7a4_49 (by decide) ?_
        refine lv_icmp_lt (tgt := 61) hx hb dJ6_numberOfLeadingZeros_0f7a4_51 (by decide) (fun c51 => ?_) (fun c51 => ?_)
        · skip
          have tc51 := f_lt (k := 16) (by decide) c51
          exfalso; omega
        · skip
          have tc51 := f_nlt (k := 16) (by decide) c51
          refine lv_iinc (v := 27) (lv' := [(1, .int 27), (0, .int x0)]) hx hb dJ6_numberOfLeadingZeros_0f7a4_54 hl (k := 0) rfl (by decide) (by decide) rfl (fun ls hl => ?_)
          refine lv_iload_n hx hb dJ6_numberOfLeadingZeros_0f7a4_57 rfl (lv_at hl 1 rfl) ?_
          refine lv_iconst (v := 4) hx hb dJ6_numberOfLeadingZeros_0f7a4_58 (by decide) ?_
          refine lv_iushr hx hb dJ6_numberOfLeadingZeros_0f7a4_59 rfl ?_
          refine lv_topi (fun v59 ev59 => ?_)
          have tv59 : v59.toInt = x0.toInt / 16 := by rw [ev59]; exact ushr_n 4 (by decide +kernel) (by decide) (by omega)
          refine lv_istore_n (lv' := [(0, .int v59), (1, .int 27)]) hx hb dJ6_numberOfLeadingZeros_0f7a4_60 rfl hl (by decide) rfl (fun ls hl => ?_)
          refine lv_iload_n hx hb dJ6_numberOfLeadingZeros_0f7a4_61 rfl (lv_at hl 0 rfl) ?_
          refine lv_iconst (v := 4) hx hb dJ6_numberOfLeadingZeros_0f7a4_62 (by decide) ?_
          refine lv_icmp_lt (tgt := 73) hx hb dJ6_numberOfLeadingZeros_0f7a4_63 (by decide) (fun c63 => ?_) (fun c63 => ?_)
          · skip
            have tc63 := f_lt (k := 4) (by decide) c63
            exfalso; omega
          · skip
            have tc63 := f_nlt (k := 4) (by decide) c63
            refine lv_iinc (v := 25) (lv' := [(1, .int 25), (0, .int v59)]) hx hb dJ6_numberOfLeadingZeros_0f7a4_66 hl (k := 1) rfl (by decide) (by decide) rfl (fun ls hl => ?_)
            refine lv_iload_n hx hb dJ6_numberOfLeadingZeros_0f7a4_69 rfl (lv_at hl 1 rfl) ?_
            refine lv_iconst (v := 2) hx hb dJ6_numberOfLeadingZeros_0f7a4_70 (by decide) ?_
            refine lv_iushr hx hb dJ6_numberOfLeadingZeros_0f7a4_71 rfl ?_
            refine lv_topi (fun v71 ev71 => ?_)
            have tv71 : v71.toInt = v59.toInt / 4 := by rw [ev71]; exact ushr_n 2 (by decide +kernel) (by decide) (by omega)
            refine lv_istore_n (lv' := [(0, .int v71), (1, .int 25)]) hx hb dJ6_numberOfLeadingZeros_0f7a4_72 rfl hl (by decide) rfl (fun ls hl => ?_)
            refine lv_iload_n hx hb dJ6_numberOfLeadingZeros_0f7a4_73 rfl (lv_at hl 1 rfl) ?_
            refine lv_iload_n hx hb dJ6_numberOfLeadingZeros_0f7a4_74 rfl (lv_at hl 0 rfl) ?_
            refine lv_iconst (v := 1) hx hb dJ6_numberOfLeadingZeros_0f7a4_75 (by decide) ?_
            refine lv_iushr hx hb dJ6_numberOfLeadingZeros_0f7a4_76 rfl ?_
            refine lv_topi (fun v76 ev76 => ?_)
            have tv76 : v76.toInt = v71.toInt / 2 := by rw [ev76]; exact ushr_n 1 (by decide +kernel) (by decide) (by omega)
            refine lv_isub hx hb dJ6_numberOfLeadingZeros_0f7a4_77 ?_
            refine lv_topi (fun v77 ev77 => ?_)
            have tv77 : v77.toInt = (25) - v76.toInt := by rw [ev77]; exact sub_i (by decide : (25 : Int32).toInt = 25) rfl (by omega) (by omega)
            exact te_i hx hb hr hlocks hH hS (⟨rfl, by omega, by omega⟩) dJ6_numberOfLeadingZeros_0f7a4_78
      · skip
        have tc37 := f_nlt (k := 256) (by decide) c37
        exfalso; omega
    · skip
      have tc22 := f_nlt (k := 65536) (by decide) c22
      exfalso; omega
  · skip
    have tc1 := f_ngt (k := 0) (by decide) c1
    exfalso; omega
set_option maxHeartbeats 4000000 in
set_option maxRecDepth 100000 in
theorem s_nlz_8 (l : Launch) (D : va_G) (cs : CS) (kf : KF) (T : TF) (O : List Nat) (X : va_W) (x0 : Int32) (l_x0 : 256 ≤ x0.toInt) (u_x0 : x0.toInt ≤ 511) (hO : okO T O []) : TK l D cs kf yJ6_numberOfLeadingZeros_0f7a4 cJ6_numberOfLeadingZeros_0f7a4 2 (some (.int)) { frames := 0, cells := 0, slots := 0, locals := 0 } [.int x0] T O X (Ti D cs (fun r u => u = (T, O, X) ∧ 23 ≤ r.toInt ∧ r.toInt ≤ 23)) := by
  refine tk_of (by decide) (Nat.le_of_ble_eq_true rfl) (fun p e s m below meth c ls A H locs hx hb hr hml hown hts hlocks hnm hkb hH hS hA hOX hks hE hl => ?_)
  have hown : s.vm.findClass RJ6 = some m.cls := hown
  have hl : lv_has ls 2 [(0, .int x0)] := hl
  refine lv_iload_n hx hb dJ6_numberOfLeadingZeros_0f7a4_0 rfl (lv_at hl 0 rfl) ?_
  refine lv_if_gt (tgt := 15) hx hb dJ6_numberOfLeadingZeros_0f7a4_1 (by decide) (fun c1 => ?_) (fun c1 => ?_)
  · skip
    have tc1 := f_gt (k := 0) (by decide) c1
    refine lv_bipush (v := 31) hx hb dJ6_numberOfLeadingZeros_0f7a4_15 (by decide) ?_
    refine lv_istore_n (lv' := [(1, .int 31), (0, .int x0)]) hx hb dJ6_numberOfLeadingZeros_0f7a4_17 rfl hl (by decide) rfl (fun ls hl => ?_)
    refine lv_iload_n hx hb dJ6_numberOfLeadingZeros_0f7a4_18 rfl (lv_at hl 1 rfl) ?_
    refine lv_ldcw hx hb hown (hts _ kw_861) dJ6_numberOfLeadingZeros_0f7a4_19 ?_
    refine lv_icmp_lt (tgt := 33) hx hb dJ6_numberOfLeadingZeros_0f7a4_22 (by decide) (fun c22 => ?_) (fun c22 => ?_)
    · skip
      have tc22 := f_lt (k := 65536) (by decide) c22
      refine lv_iload_n hx hb dJ6_numberOfLeadingZeros_0f7a4_33 rfl (lv_at hl 1 rfl) ?_
      refine lv_sipush (v := 256) hx hb dJ6_numberOfLeadingZeros_0f7a4_34 (by decide) ?_
      refine lv_icmp_lt (tgt := 48) hx hb dJ6_numberOfLeadingZeros_0f7a4_37 (by decide) (fun c37 => ?_) (fun c37 => ?_)
      · skip
        have tc37 := f_lt (k := 256) (by decide) c37
        exfalso; omega
      · skip
        have tc37 := f_nlt (k := 256) (by decide) c37
        refine lv_iinc (v := 23) (lv' := [(1, .int 23), (0, .int x0)]) hx hb dJ6_numberOfLeadingZeros_0f7a4_40 hl (k := 0) rfl (by decide) (by decide) rfl (fun ls hl => ?_)
        refine lv_iload_n hx hb dJ6_numberOfLeadingZeros_0f7a4_43 rfl (lv_at hl 1 rfl) ?_
        refine lv_bipush (v := 8) hx hb dJ6_numberOfLeadingZeros_0f7a4_44 (by decide) ?_
        refine lv_iushr hx hb dJ6_numberOfLeadingZeros_0f7a4_46 rfl ?_
        refine lv_topi (fun v46 ev46 => ?_)
        have tv46 : v46.toInt = x0.toInt / 256 := by rw [ev46]; exact ushr_n 8 (by decide +kernel) (by decide) (by omega)
        refine lv_istore_n (lv' := [(0, .int v46), (1, .int 23)]) hx hb dJ6_numberOfLeadingZeros_0f7a4_47 rfl hl (by decide) rfl (fun ls hl => ?_)
        refine lv_iload_n hx hb dJ6_numberOfLeadingZeros_0f7a4_48 rfl (lv_at hl 0 rfl) ?_
        refine lv_bipush (v := 16) hx hb dJ6_numberOfLeadingZeros_0f7a4_49 (by decide) ?_
        refine lv_icmp_lt (tgt := 61) hx hb dJ6_numberOfLeadingZeros_0f7a4_51 (by decide) (fun c51 => ?_) (fun c51 => ?_)
        · skip
          have tc51 := f_lt (k := 16) (by decide) c51
          refine lv_iload_n hx hb dJ6_numberOfLeadingZeros_0f7a4_61 rfl (lv_at hl 0 rfl) ?_
          refine lv_iconst (v := 4) hx hb dJ6_numberOfLeadingZeros_0f7a4_62 (by decide) ?_
          refine lv_icmp_lt (tgt := 73) hx hb dJ6_numberOfLeadingZeros_0f7a4_63 (by decide) (fun c63 => ?_) (fun c63 => ?_)
          · skip
            have tc63 := f_lt (k := 4) (by decide) c63
            refine lv_iload_n hx hb dJ6_numberOfLeadingZeros_0f7a4_73 rfl (lv_at hl 1 rfl) ?_
            refine lv_iload_n hx hb dJ6_numberOfLeadingZeros_0f7a4_74 rfl (lv_at hl 0 rfl) ?_
            refine lv_iconst (v := 1) hx hb dJ6_numberOfLeadingZeros_0f7a4_75 (by decide) ?_
            refine lv_iushr hx hb dJ6_numberOfLeadingZeros_0f7a4_76 rfl ?_
            refine lv_topi (fun v76 ev76 => ?_)
            have tv76 : v76.toInt = v46.toInt / 2 := by rw [ev76]; exact ushr_n 1 (by decide +kernel) (by decide) (by omega)
            refine lv_isub hx hb dJ6_numberOfLeadingZeros_0f7a4_77 ?_
            refine lv_topi (fun v77 ev77 => ?_)
            have tv77 : v77.toInt = (23) - v76.toInt := by rw [ev77]; exact sub_i (by decide : (23 : Int32).toInt = 23) rfl (by omega) (by omega)
            exact te_i hx hb hr hlocks hH hS (⟨rfl, by omega, by omega⟩) dJ6_numberOfLeadingZeros_0f7a4_78
          · skip
            have tc63 := f_nlt (k := 4) (by decide) c63
            exfalso; omega
        · skip
          have tc51 := f_nlt (k := 16) (by decide) c51
          exfalso; omega
    · skip
      have tc22 := f_nlt (k := 65536) (by decide) c22
      exfalso; omega
  · skip
    have tc1 := f_ngt (k := 0) (by decide) c1
    exfalso; omega
set_option maxHeartbeats 4000000 in
set_option maxRecDepth 100000 in
theorem s_nlz_9 (l : Launch) (D : va_G) (cs : CS) (kf : KF) (T : TF) (O : List Nat) (X : va_W) (x0 : Int32) (l_x0 : 512 ≤ x0.toInt) (u_x0 : x0.toInt ≤ 1023) (hO : okO T O []) : TK l D cs kf yJ6_numberOfLeadingZeros_0f7a4 cJ6_numberOfLeadingZeros_0f7a4 2 (some (.int)) { frames := 0, cells := 0, slots := 0, locals := 0 } [.int x0] T O X (Ti D cs (fun r u => u = (T, O, X) ∧ 22 ≤ r.toInt ∧ r.toInt ≤ 22)) := by
  refine tk_of (by decide) (Nat.le_of_ble_eq_true rfl) (fun p e s m below meth c ls A H locs hx hb hr hml hown hts hlocks hnm hkb hH hS hA hOX hks hE hl => ?_)
  have hown : s.vm.findClass RJ6 = some m.cls := hown
  have hl : lv_has ls 2 [(0, .int x0)] := hl
  refine lv_iload_n hx hb dJ6_numberOfLeadingZeros_0f7a4_0 rfl (lv_at hl 0 rfl) ?_
  refine lv_if_gt (tgt := 15) hx hb dJ6_numberOfLeadingZeros_0f7a4_1 (by decide) (fun c1 => ?_) (fun c1 => ?_)
  · skip
    have tc1 := f_gt (k := 0) (by decide) c1
    refine lv_bipush (v := 31) hx hb dJ6_numberOfLeadingZeros_0f7a4_15 (by decide) ?_
    refine lv_istore_n (lv' := [(1, .int 31), (0, .int x0)]) hx hb dJ6_numberOfLeadingZeros_0f7a4_17 rfl hl (by decide) rfl (fun ls hl => ?_)
    refine lv_iload_n hx hb dJ6_numberOfLeadingZeros_0f7a4_18 rfl (lv_at hl 1 rfl) ?_
    refine lv_ldcw hx hb hown (hts _ kw_861) dJ6_numberOfLeadingZeros_0f7a4_19 ?_
    refine lv_icmp_lt (tgt := 33) hx hb dJ6_numberOfLeadingZeros_0f7a4_22 (by decide) (fun c22 => ?_) (fun c22 => ?_)
    · skip
      have tc22 := f_lt (k := 65536) (by decide) c22
      refine lv_iload_n hx hb dJ6_numberOfLeadingZeros_0f7a4_33 rfl (lv_at hl 1 rfl) ?_
      refine lv_sipush (v := 256) hx hb dJ6_numberOfLeadingZeros_0f7a4_34 (by decide) ?_
      refine lv_icmp_lt (tgt := 48) hx hb dJ6_numberOfLeadingZeros_0f7a4_37 (by decide) (fun c37 => ?_) (fun c37 => ?_)
      · skip
        have tc37 := f_lt (k := 256) (by decide) c37
        exfalso; omega
      · skip
        have tc37 := f_nlt (k := 256) (by decide) c37
        refine lv_iinc (v := 23) (lv' := [(1, .int 23), (0, .int x0)]) hx hb dJ6_numberOfLeadingZeros_0f7a4_40 hl (k := 0) rfl (by decide) (by decide) rfl (fun ls hl => ?_)
        refine lv_iload_n hx hb dJ6_numberOfLeadingZeros_0f7a4_43 rfl (lv_at hl 1 rfl) ?_
        refine lv_bipush (v := 8) hx hb dJ6_numberOfLeadingZeros_0f7a4_44 (by decide) ?_
        refine lv_iushr hx hb dJ6_numberOfLeadingZeros_0f7a4_46 rfl ?_
        refine lv_topi (fun v46 ev46 => ?_)
        have tv46 : v46.toInt = x0.toInt / 256 := by rw [ev46]; exact ushr_n 8 (by decide +kernel) (by decide) (by omega)
        refine lv_istore_n (lv' := [(0, .int v46), (1, .int 23)]) hx hb dJ6_numberOfLeadingZeros_0f7a4_47 rfl hl (by decide) rfl (fun ls hl => ?_)
        refine lv_iload_n hx hb dJ6_numberOfLeadingZeros_0f7a4_48 rfl (lv_at hl 0 rfl) ?_
        refine lv_bipush (v := 16) hx hb dJ6_numberOfLeadingZeros_0f7a4_49 (by decide) ?_
        refine lv_icmp_lt (tgt := 61) hx hb dJ6_numberOfLeadingZeros_0f7a4_51 (by decide) (fun c51 => ?_) (fun c51 => ?_)
        · skip
          have tc51 := f_lt (k := 16) (by decide) c51
          refine lv_iload_n hx hb dJ6_numberOfLeadingZeros_0f7a4_61 rfl (lv_at hl 0 rfl) ?_
          refine lv_iconst (v := 4) hx hb dJ6_numberOfLeadingZeros_0f7a4_62 (by decide) ?_
          refine lv_icmp_lt (tgt := 73) hx hb dJ6_numberOfLeadingZeros_0f7a4_63 (by decide) (fun c63 => ?_) (fun c63 => ?_)
          · skip
            have tc63 := f_lt (k := 4) (by decide) c63
            refine lv_iload_n hx hb dJ6_numberOfLeadingZeros_0f7a4_73 rfl (lv_at hl 1 rfl) ?_
            refine lv_iload_n hx hb dJ6_numberOfLeadingZeros_0f7a4_74 rfl (lv_at hl 0 rfl) ?_
            refine lv_iconst (v := 1) hx hb dJ6_numberOfLeadingZeros_0f7a4_75 (by decide) ?_
            refine lv_iushr hx hb dJ6_numberOfLeadingZeros_0f7a4_76 rfl ?_
            refine lv_topi (fun v76 ev76 => ?_)
            have tv76 : v76.toInt = v46.toInt / 2 := by rw [ev76]; exact ushr_n 1 (by decide +kernel) (by decide) (by omega)
            refine lv_isub hx hb dJ6_numberOfLeadingZeros_0f7a4_77 ?_
            refine lv_topi (fun v77 ev77 => ?_)
            have tv77 : v77.toInt = (23) - v76.toInt := by rw [ev77]; exact sub_i (by decide : (23 : Int32).toInt = 23) rfl (by omega) (by omega)
            exact te_i hx hb hr hlocks hH hS (⟨rfl, by omega, by omega⟩) dJ6_numberOfLeadingZeros_0f7a4_78
          · skip
            have tc63 := f_nlt (k := 4) (by decide) c63
            exfalso; omega
        · skip
          have tc51 := f_nlt (k := 16) (by decide) c51
          exfalso; omega
    · skip
      have tc22 := f_nlt (k := 65536) (by decide) c22
      exfalso; omega
  · skip
    have tc1 := f_ngt (k := 0) (by decide) c1
    exfalso; omega
set_option maxHeartbeats 4000000 in
set_option maxRecDepth 100000 in
theorem s_nlz_10 (l : Launch) (D : va_G) (cs : CS) (kf : KF) (T : TF) (O : List Nat) (X : va_W) (x0 : Int32) (l_x0 : 1024 ≤ x0.toInt) (u_x0 : x0.toInt ≤ 2047) (hO : okO T O []) : TK l D cs kf yJ6_numberOfLeadingZeros_0f7a4 cJ6_numberOfLeadingZeros_0f7a4 2 (some (.int)) { frames := 0, cells := 0, slots := 0, locals := 0 } [.int x0] T O X (Ti D cs (fun r u => u = (T, O, X) ∧ 21 ≤ r.toInt ∧ r.toInt ≤ 21)) := by
  refine tk_of (by decide) (Nat.le_of_ble_eq_true rfl) (fun p e s m below meth c ls A H locs hx hb hr hml hown hts hlocks hnm hkb hH hS hA hOX hks hE hl => ?_)
  have hown : s.vm.findClass RJ6 = some m.cls := hown
  have hl : lv_has ls 2 [(0, .int x0)] := hl
  refine lv_iload_n hx hb dJ6_numberOfLeadingZeros_0f7a4_0 rfl (lv_at hl 0 rfl) ?_
  refine lv_if_gt (tgt := 15) hx hb dJ6_numberOfLeadingZeros_0f7a4_1 (by decide) (fun c1 => ?_) (fun c1 => ?_)
  · skip
    have tc1 := f_gt (k := 0) (by decide) c1
    refine lv_bipush (v := 31) hx hb dJ6_numberOfLeadingZeros_0f7a4_15 (by decide) ?_
    refine lv_istore_n (lv' := [(1, .int 31), (0, .int x0)]) hx hb dJ6_numberOfLeadingZeros_0f7a4_17 rfl hl (by decide) rfl (fun ls hl => ?_)
    refine lv_iload_n hx hb dJ6_numberOfLeadingZeros_0f7a4_18 rfl (lv_at hl 1 rfl) ?_
    refine lv_ldcw hx hb hown (hts _ kw_861) dJ6_numberOfLeadingZeros_0f7a4_19 ?_
    refine lv_icmp_lt (tgt := 33) hx hb dJ6_numberOfLeadingZeros_0f7a4_22 (by decide) (fun c22 => ?_) (fun c22 => ?_)
    · skip
      have tc22 := f_lt (k := 65536) (by decide) c22
      refine lv_iload_n hx hb dJ6_numberOfLeadingZeros_0f7a4_33 rfl (lv_at hl 1 rfl) ?_
      refine lv_sipush (v := 256) hx hb dJ6_numberOfLeadingZeros_0f7a4_34 (by decide) ?_
      refine lv_icmp_lt (tgt := 48) hx hb dJ6_numberOfLeadingZeros_0f7a4_37 (by decide) (fun c37 => ?_) (fun c37 => ?_)
      · skip
        have tc37 := f_lt (k := 256) (by decide) c37
        exfalso; omega
      · skip
        have tc37 := f_nlt (k := 256) (by decide) c37
        refine lv_iinc (v := 23) (lv' := [(1, .int 23), (0, .int x0)]) hx hb dJ6_numberOfLeadingZeros_0f7a4_40 hl (k := 0) rfl (by decide) (by decide) rfl (fun ls hl => ?_)
        refine lv_iload_n hx hb dJ6_numberOfLeadingZeros_0f7a4_43 rfl (lv_at hl 1 rfl) ?_
        refine lv_bipush (v := 8) hx hb dJ6_numberOfLeadingZeros_0f7a4_44 (by decide) ?_
        refine lv_iushr hx hb dJ6_numberOfLeadingZeros_0f7a4_46 rfl ?_
        refine lv_topi (fun v46 ev46 => ?_)
        have tv46 : v46.toInt = x0.toInt / 256 := by rw [ev46]; exact ushr_n 8 (by decide +kernel) (by decide) (by omega)
        refine lv_istore_n (lv' := [(0, .int v46), (1, .int 23)]) hx hb dJ6_numberOfLeadingZeros_0f7a4_47 rfl hl (by decide) rfl (fun ls hl => ?_)
        refine lv_iload_n hx hb dJ6_numberOfLeadingZeros_0f7a4_48 rfl (lv_at hl 0 rfl) ?_
        refine lv_bipush (v := 16) hx hb dJ6_numberOfLeadingZeros_0f7a4_49 (by decide) ?_
        refine lv_icmp_lt (tgt := 61) hx hb dJ6_numberOfLeadingZeros_0f7a4_51 (by decide) (fun c51 => ?_) (fun c51 => ?_)
        · skip
          have tc51 := f_lt (k := 16) (by decide) c51
          refine lv_iload_n hx hb dJ6_numberOfLeadingZeros_0f7a4_61 rfl (lv_at hl 0 rfl) ?_
          refine lv_iconst (v := 4) hx hb dJ6_numberOfLeadingZeros_0f7a4_62 (by decide) ?_
          refine lv_icmp_lt (tgt := 73) hx hb dJ6_numberOfLeadingZeros_0f7a4_63 (by decide) (fun c63 => ?_) (fun c63 => ?_)
          · skip
            have tc63 := f_lt (k := 4) (by decide) c63
            exfalso; omega
          · skip
            have tc63 := f_nlt (k := 4) (by decide) c63
            refine lv_iinc (v := 21) (lv' := [(1, .int 21), (0, .int v46)]) hx hb dJ6_numberOfLeadingZeros_0f7a4_66 hl (k := 1) rfl (by decide) (by decide) rfl (fun ls hl => ?_)
            refine lv_iload_n hx hb dJ6_numberOfLeadingZeros_0f7a4_69 rfl (lv_at hl 1 rfl) ?_
            refine lv_iconst (v := 2) hx hb dJ6_numberOfLeadingZeros_0f7a4_70 (by decide) ?_
            refine lv_iushr hx hb dJ6_numberOfLeadingZeros_0f7a4_71 rfl ?_
            refine lv_topi (fun v71 ev71 => ?_)
            have tv71 : v71.toInt = v46.toInt / 4 := by rw [ev71]; exact ushr_n 2 (by decide +kernel) (by decide) (by omega)
            refine lv_istore_n (lv' := [(0, .int v71), (1, .int 21)]) hx hb dJ6_numberOfLeadingZeros_0f7a4_72 rfl hl (by decide) rfl (fun ls hl => ?_)
            refine lv_iload_n hx hb dJ6_numberOfLeadingZeros_0f7a4_73 rfl (lv_at hl 1 rfl) ?_
            refine lv_iload_n hx hb dJ6_numberOfLeadingZeros_0f7a4_74 rfl (lv_at hl 0 rfl) ?_
            refine lv_iconst (v := 1) hx hb dJ6_numberOfLeadingZeros_0f7a4_75 (by decide) ?_
            refine lv_iushr hx hb dJ6_numberOfLeadingZeros_0f7a4_76 rfl ?_
            refine lv_topi (fun v76 ev76 => ?_)
            have tv76 : v76.toInt = v71.toInt / 2 := by rw [ev76]; exact ushr_n 1 (by decide +kernel) (by decide) (by omega)
            refine lv_isub hx hb dJ6_numberOfLeadingZeros_0f7a4_77 ?_
            refine lv_topi (fun v77 ev77 => ?_)
            have tv77 : v77.toInt = (21) - v76.toInt := by rw [ev77]; exact sub_i (by decide : (21 : Int32).toInt = 21) rfl (by omega) (by omega)
            exact te_i hx hb hr hlocks hH hS (⟨rfl, by omega, by omega⟩) dJ6_numberOfLeadingZeros_0f7a4_78
        · skip
          have tc51 := f_nlt (k := 16) (by decide) c51
          exfalso; omega
    · skip
      have tc22 := f_nlt (k := 65536) (by decide) c22
      exfalso; omega
  · skip
    have tc1 := f_ngt (k := 0) (by decide) c1
    exfalso; omega
set_option maxHeartbeats 4000000 in
set_option maxRecDepth 100000 in
theorem s_nlz_11 (l : Launch) (D : va_G) (cs : CS) (kf : KF) (T : TF) (O : List Nat) (X : va_W) (x0 : Int32) (l_x0 : 2048 ≤ x0.toInt) (u_x0 : x0.toInt ≤ 4095) (hO : okO T O []) : TK l D cs kf yJ6_numberOfLeadingZeros_0f7a4 cJ6_numberOfLeadingZeros_0f7a4 2 (some (.int)) { frames := 0, cells := 0, slots := 0, locals := 0 } [.int x0] T O X (Ti D cs (fun r u => u = (T, O, X) ∧ 20 ≤ r.toInt ∧ r.toInt ≤ 20)) := by
  refine tk_of (by decide) (Nat.le_of_ble_eq_true rfl) (fun p e s m below meth c ls A H locs hx hb hr hml hown hts hlocks hnm hkb hH hS hA hOX hks hE hl => ?_)
  have hown : s.vm.findClass RJ6 = some m.cls := hown
  have hl : lv_has ls 2 [(0, .int x0)] := hl
  refine lv_iload_n hx hb dJ6_numberOfLeadingZeros_0f7a4_0 rfl (lv_at hl 0 rfl) ?_
  refine lv_if_gt (tgt := 15) hx hb dJ6_numberOfLeadingZeros_0f7a4_1 (by decide) (fun c1 => ?_) (fun c1 => ?_)
  · skip
    have tc1 := f_gt (k := 0) (by decide) c1
    refine lv_bipush (v := 31) hx hb dJ6_numberOfLeadingZeros_0f7a4_15 (by decide) ?_
    refine lv_istore_n (lv' := [(1, .int 31), (0, .int x0)]) hx hb dJ6_numberOfLeadingZeros_0f7a4_17 rfl hl (by decide) rfl (fun ls hl => ?_)
    refine lv_iload_n hx hb dJ6_numberOfLeadingZeros_0f7a4_18 rfl (lv_at hl 1 rfl) ?_
    refine lv_ldcw hx hb hown (hts _ kw_861) dJ6_numberOfLeadingZeros_0f7a4_19 ?_
    refine lv_icmp_lt (tgt := 33) hx hb dJ6_numberOfLeadingZeros_0f7a4_22 (by decide) (fun c22 => ?_) (fun c22 => ?_)
    · skip
      have tc22 := f_lt (k := 65536) (by decide) c22
      refine lv_iload_n hx hb dJ6_numberOfLeadingZeros_0f7a4_33 rfl (lv_at hl 1 rfl) ?_
      refine lv_sipush (v := 256) hx hb dJ6_numberOfLeadingZeros_0f7a4_34 (by decide) ?_
      refine lv_icmp_lt (tgt := 48) hx hb dJ6_numberOfLeadingZeros_0f7a4_37 (by decide) (fun c37 => ?_) (fun c37 => ?_)
      · skip
        have tc37 := f_lt (k := 256) (by decide) c37
        exfalso; omega
      · skip
        have tc37 := f_nlt (k := 256) (by decide) c37
        refine lv_iinc (v := 23) (lv' := [(1, .int 23), (0, .int x0)]) hx hb dJ6_numberOfLeadingZeros_0f7a4_40 hl (k := 0) rfl (by decide) (by decide) rfl (fun ls hl => ?_)
        refine lv_iload_n hx hb dJ6_numberOfLeadingZeros_0f7a4_43 rfl (lv_at hl 1 rfl) ?_
        refine lv_bipush (v := 8) hx hb dJ6_numberOfLeadingZeros_0f7a4_44 (by decide) ?_
        refine lv_iushr hx hb dJ6_numberOfLeadingZeros_0f7a4_46 rfl ?_
        refine lv_topi (fun v46 ev46 => ?_)
        have tv46 : v46.toInt = x0.toInt / 256 := by rw [ev46]; exact ushr_n 8 (by decide +kernel) (by decide) (by omega)
        refine lv_istore_n (lv' := [(0, .int v46), (1, .int 23)]) hx hb dJ6_numberOfLeadingZeros_0f7a4_47 rfl hl (by decide) rfl (fun ls hl => ?_)
        refine lv_iload_n hx hb dJ6_numberOfLeadingZeros_0f7a4_48 rfl (lv_at hl 0 rfl) ?_
        refine lv_bipush (v := 16) hx hb dJ6_numberOfLeadingZeros_0f7a4_49 (by decide) ?_
        refine lv_icmp_lt (tgt := 61) hx hb dJ6_numberOfLeadingZeros_0f7a4_51 (by decide) (fun c51 => ?_) (fun c51 => ?_)
        · skip
          have tc51 := f_lt (k := 16) (by decide) c51
          refine lv_iload_n hx hb dJ6_numberOfLeadingZeros_0f7a4_61 rfl (lv_at hl 0 rfl) ?_
          refine lv_iconst (v := 4) hx hb dJ6_numberOfLeadingZeros_0f7a4_62 (by decide) ?_
          refine lv_icmp_lt (tgt := 73) hx hb dJ6_numberOfLeadingZeros_0f7a4_63 (by decide) (fun c63 => ?_) (fun c63 => ?_)
          · skip
            have tc63 := f_lt (k := 4) (by decide) c63
            exfalso; omega
          · skip
            have tc63 := f_nlt (k := 4) (by decide) c63
            refine lv_iinc (v := 21) (lv' := [(1, .int 21), (0, .int v46)]) hx hb dJ6_numberOfLeadingZeros_0f7a4_66 hl (k := 1) rfl (by decide) (by decide) rfl (fun ls hl => ?_)
            refine lv_iload_n hx hb dJ6_numberOfLeadingZeros_0f7a4_69 rfl (lv_at hl 1 rfl) ?_
            refine lv_iconst (v := 2) hx hb dJ6_numberOfLeadingZeros_0f7a4_70 (by decide) ?_
            refine lv_iushr hx hb dJ6_numberOfLeadingZeros_0f7a4_71 rfl ?_
            refine lv_topi (fun v71 ev71 => ?_)
            have tv71 : v71.toInt = v46.toInt / 4 := by rw [ev71]; exact ushr_n 2 (by decide +kernel) (by decide) (by omega)
            refine lv_istore_n (lv' := [(0, .int v71), (1, .int 21)]) hx hb dJ6_numberOfLeadingZeros_0f7a4_72 rfl hl (by decide) rfl (fun ls hl => ?_)
            refine lv_iload_n hx hb dJ6_numberOfLeadingZeros_0f7a4_73 rfl (lv_at hl 1 rfl) ?_
            refine lv_iload_n hx hb dJ6_numberOfLeadingZeros_0f7a4_74 rfl (lv_at hl 0 rfl) ?_
            refine lv_iconst (v := 1) hx hb dJ6_numberOfLeadingZeros_0f7a4_75 (by decide) ?_
            refine lv_iushr hx hb dJ6_numberOfLeadingZeros_0f7a4_76 rfl ?_
            refine lv_topi (fun v76 ev76 => ?_)
            have tv76 : v76.toInt = v71.toInt / 2 := by rw [ev76]; exact ushr_n 1 (by decide +kernel) (by decide) (by omega)
            refine lv_isub hx hb dJ6_numberOfLeadingZeros_0f7a4_77 ?_
            refine lv_topi (fun v77 ev77 => ?_)
            have tv77 : v77.toInt = (21) - v76.toInt := by rw [ev77]; exact sub_i (by decide : (21 : Int32).toInt = 21) rfl (by omega) (by omega)
            exact te_i hx hb hr hlocks hH hS (⟨rfl, by omega, by omega⟩) dJ6_numberOfLeadingZeros_0f7a4_78
        · skip
          have tc51 := f_nlt (k := 16) (by decide) c51
          exfalso; omega
    · skip
      have tc22 := f_nlt (k := 65536) (by decide) c22
      exfalso; omega
  · skip
    have tc1 := f_ngt (k := 0) (by decide) c1
    exfalso; omega
set_option maxHeartbeats 4000000 in
set_option maxRecDepth 100000 in
theorem s_nlz_12 (l : Launch) (D : va_G) (cs : CS) (kf : KF) (T : TF) (O : List Nat) (X : va_W) (x0 : Int32) (l_x0 : 4096 ≤ x0.toInt) (u_x0 : x0.toInt ≤ 8191) (hO : okO T O []) : TK l D cs kf yJ6_numberOfLeadingZeros_0f7a4 cJ6_numberOfLeadingZeros_0f7a4 2 (some (.int)) { frames := 0, cells := 0, slots := 0, locals := 0 } [.int x0] T O X (Ti D cs (fun r u => u = (T, O, X) ∧ 19 ≤ r.toInt ∧ r.toInt ≤ 19)) := by
  refine tk_of (by decide) (Nat.le_of_ble_eq_true rfl) (fun p e s m below meth c ls A H locs hx hb hr hml hown hts hlocks hnm hkb hH hS hA hOX hks hE hl => ?_)
  have hown : s.vm.findClass RJ6 = some m.cls := hown
  have hl : lv_has ls 2 [(0, .int x0)] := hl
  refine lv_iload_n hx hb dJ6_numberOfLeadingZeros_0f7a4_0 rfl (lv_at hl 0 rfl) ?_
  refine lv_if_gt (tgt := 15) hx hb dJ6_numberOfLeadingZeros_0f7a4_1 (by decide) (fun c1 => ?_) (fun c1 => ?_)
  · skip
    have tc1 := f_gt (k := 0) (by decide) c1
    refine lv_bipush (v := 31) hx hb dJ6_numberOfLeadingZeros_0f7a4_15 (by decide) ?_
    refine lv_istore_n (lv' := [(1, .int 31), (0, .int x0)]) hx hb dJ6_numberOfLeadingZeros_0f7a4_17 rfl hl (by decide) rfl (fun ls hl => ?_)
    refine lv_iload_n hx hb dJ6_numberOfLeadingZeros_0f7a4_18 rfl (lv_at hl 1 rfl) ?_
    refine lv_ldcw hx hb hown (hts _ kw_861) dJ6_numberOfLeadingZeros_0f7a4_19 ?_
    refine lv_icmp_lt (tgt := 33) hx hb dJ6_numberOfLeadingZeros_0f7a4_22 (by decide) (fun c22 => ?_) (fun c22 => ?_)
    · skip
      have tc22 := f_lt (k := 65536) (by decide) c22
      refine lv_iload_n hx hb dJ6_numberOfLeadingZeros_0f7a4_33 rfl (lv_at hl 1 rfl) ?_
      refine lv_sipush (v := 256) hx hb dJ6_numberOfLeadingZeros_0f7a4_34 (by decide) ?_
      refine lv_icmp_lt (tgt := 48) hx hb dJ6_numberOfLeadingZeros_0f7a4_37 (by decide) (fun c37 => ?_) (fun c37 => ?_)
      · skip
        have tc37 := f_lt (k := 256) (by decide) c37
        exfalso; omega
      · skip
        have tc37 := f_nlt (k := 256) (by decide) c37
        refine lv_iinc (v := 23) (lv' := [(1, .int 23), (0, .int x0)]) hx hb dJ6_numberOfLeadingZeros_0f7a4_40 hl (k := 0) rfl (by decide) (by decide) rfl (fun ls hl => ?_)
        refine lv_iload_n hx hb dJ6_numberOfLeadingZeros_0f7a4_43 rfl (lv_at hl 1 rfl) ?_
        refine lv_bipush (v := 8) hx hb dJ6_numberOfLeadingZeros_0f7a4_44 (by decide) ?_
        refine lv_iushr hx hb dJ6_numberOfLeadingZeros_0f7a4_46 rfl ?_
        refine lv_topi (fun v46 ev46 => ?_)
        have tv46 : v46.toInt = x0.toInt / 256 := by rw [ev46]; exact ushr_n 8 (by decide +kernel) (by decide) (by omega)
        refine lv_istore_n (lv' := [(0, .int v46), (1, .int 23)]) hx hb dJ6_numberOfLeadingZeros_0f7a4_47 rfl hl (by decide) rfl (fun ls hl => ?_)
        refine lv_iload_n hx hb dJ6_numberOfLeadingZeros_0f7a4_48 rfl (lv_at hl 0 rfl) ?_
        refine lv_bipush (v := 16) hx hb dJ6_numberOfLeadingZeros_0f7a4_49 (by decide) ?_
        refine lv_icmp_lt (tgt := 61) hx hb dJ6_numberOfLeadingZeros_0f7a4_51 (by decide) (fun c51 => ?_) (fun c51 => ?_)
        · skip
          have tc51 := f_lt (k := 16) (by decide) c51
          exfalso; omega
        · skip
          have tc51 := f_nlt (k := 16) (by decide) c51
          refine lv_iinc (v := 19) (lv' := [(1, .int 19), (0, .int v46)]) hx hb dJ6_numberOfLeadingZeros_0f7a4_54 hl (k := 1) rfl (by decide) (by decide) rfl (fun ls hl => ?_)
          refine lv_iload_n hx hb dJ6_numberOfLeadingZeros_0f7a4_57 rfl (lv_at hl 1 rfl) ?_
          refine lv_iconst (v := 4) hx hb dJ6_numberOfLeadingZeros_0f7a4_58 (by decide) ?_
          refine lv_iushr hx hb dJ6_numberOfLeadingZeros_0f7a4_59 rfl ?_
          refine lv_topi (fun v59 ev59 => ?_)
          have tv59 : v59.toInt = v46.toInt / 16 := by rw [ev59]; exact ushr_n 4 (by decide +kernel) (by decide) (by omega)
          refine lv_istore_n (lv' := [(0, .int v59), (1, .int 19)]) hx hb dJ6_numberOfLeadingZeros_0f7a4_60 rfl hl (by decide) rfl (fun ls hl => ?_)
          refine lv_iload_n hx hb dJ6_numberOfLeadingZeros_0f7a4_61 rfl (lv_at hl 0 rfl) ?_
          refine lv_iconst (v := 4) hx hb dJ6_numberOfLeadingZeros_0f7a4_62 (by decide) ?_
          refine lv_icmp_lt (tgt := 73) hx hb dJ6_numberOfLeadingZeros_0f7a4_63 (by decide) (fun c63 => ?_) (fun c63 => ?_)
          · skip
            have tc63 := f_lt (k := 4) (by decide) c63
            refine lv_iload_n hx hb dJ6_numberOfLeadingZeros_0f7a4_73 rfl (lv_at hl 1 rfl) ?_
            refine lv_iload_n hx hb dJ6_numberOfLeadingZeros_0f7a4_74 rfl (lv_at hl 0 rfl) ?_
            refine lv_iconst (v := 1) hx hb dJ6_numberOfLeadingZeros_0f7a4_75 (by decide) ?_
            refine lv_iushr hx hb dJ6_numberOfLeadingZeros_0f7a4_76 rfl ?_
            refine lv_topi (fun v76 ev76 => ?_)
            have tv76 : v76.toInt = v59.toInt / 2 := by rw [ev76]; exact ushr_n 1 (by decide +kernel) (by decide) (by omega)
            refine lv_isub hx hb dJ6_numberOfLeadingZeros_0f7a4_77 ?_
            refine lv_topi (fun v77 ev77 => ?_)
            have tv77 : v77.toInt = (19) - v76.toInt := by rw [ev77]; exact sub_i (by decide : (19 : Int32).toInt = 19) rfl (by omega) (by omega)
            exact te_i hx hb hr hlocks hH hS (⟨rfl, by omega, by omega⟩) dJ6_numberOfLeadingZeros_0f7a4_78
          · skip
            have tc63 := f_nlt (k := 4) (by decide) c63
            exfalso; omega
    · skip
      have tc22 := f_nlt (k := 65536) (by decide) c22
      exfalso; omega
  · skip
    have tc1 := f_ngt (k := 0) (by decide) c1
    exfalso; omega
set_option maxHeartbeats 4000000 in
set_option maxRecDepth 100000 in
theorem s_nlz_13 (l : Launch) (D : va_G) (cs : CS) (kf : KF) (T : TF) (O : List Nat) (X : va_W) (x0 : Int32) (l_x0 : 8192 ≤ x0.toInt) (u_x0 : x0.toInt ≤ 16383) (hO : okO T O []) : TK l D cs kf yJ6_numberOfLeadingZeros_0f7a4 cJ6_numberOfLeadingZeros_0f7a4 2 (some (.int)) { frames := 0, cells := 0, slots := 0, locals := 0 } [.int x0] T O X (Ti D cs (fun r u => u = (T, O, X) ∧ 18 ≤ r.toInt ∧ r.toInt ≤ 18)) := by
  refine tk_of (by decide) (Nat.le_of_ble_eq_true rfl) (fun p e s m below meth c ls A H locs hx hb hr hml hown hts hlocks hnm hkb hH hS hA hOX hks hE hl => ?_)
  have hown : s.vm.findClass RJ6 = some m.cls := hown
  have hl : lv_has ls 2 [(0, .int x0)] := hl
  refine lv_iload_n hx hb dJ6_numberOfLeadingZeros_0f7a4_0 rfl (lv_at hl 0 rfl) ?_
  refine lv_if_gt (tgt := 15) hx hb dJ6_numberOfLeadingZeros_0f7a4_1 (by decide) (fun c1 => ?_) (fun c1 => ?_)
  · skip
    have tc1 := f_gt (k := 0) (by decide) c1
    refine lv_bipush (v := 31) hx hb dJ6_numberOfLeadingZeros_0f7a4_15 (by decide) ?_
    refine lv_istore_n (lv' := [(1, .int 31), (0, .int x0)]) hx hb dJ6_numberOfLeadingZeros_0f7a4_17 rfl hl (by decide) rfl (fun ls hl => ?_)
    refine lv_iload_n hx hb dJ6_numberOfLeadingZeros_0f7a4_18 rfl (lv_at hl 1 rfl) ?_
    refine lv_ldcw hx hb hown (hts _ kw_861) dJ6_numberOfLeadingZeros_0f7a4_19 ?_
    refine lv_icmp_lt (tgt := 33) hx hb dJ6_numberOfLeadingZeros_0f7a4_22 (by decide) (fun c22 => ?_) (fun c22 => ?_)
    · skip
      have tc22 := f_lt (k := 65536) (by decide) c22
      refine lv_iload_n hx hb dJ6_numberOfLeadingZeros_0f7a4_33 rfl (lv_at hl 1 rfl) ?_
      refine lv_sipush (v := 256) hx hb dJ6_numberOfLeadingZeros_0f7a4_34 (by decide) ?_
      refine lv_icmp_lt (tgt := 48) hx hb dJ6_numberOfLeadingZeros_0f7a4_37 (by decide) (fun c37 => ?_) (fun c37 => ?_)
      · skip
        have tc37 := f_lt (k := 256) (by decide) c37
        exfalso; omega
      · skip
        have tc37 := f_nlt (k := 256) (by decide) c37
        refine lv_iinc (v := 23) (lv' := [(1, .int 23), (0, .int x0)]) hx hb dJ6_numberOfLeadingZeros_0f7a4_40 hl (k := 0) rfl (by decide) (by decide) rfl (fun ls hl => ?_)
        refine lv_iload_n hx hb dJ6_numberOfLeadingZeros_0f7a4_43 rfl (lv_at hl 1 rfl) ?_
        refine lv_bipush (v := 8) hx hb dJ6_numberOfLeadingZeros_0f7a4_44 (by decide) ?_
        refine lv_iushr hx hb dJ6_numberOfLeadingZeros_0f7a4_46 rfl ?_
        refine lv_topi (fun v46 ev46 => ?_)
        have tv46 : v46.toInt = x0.toInt / 256 := by rw [ev46]; exact ushr_n 8 (by decide +kernel) (by decide) (by omega)
        refine lv_istore_n (lv' := [(0, .int v46), (1, .int 23)]) hx hb dJ6_numberOfLeadingZeros_0f7a4_47 rfl hl (by decide) rfl (fun ls hl => ?_)
        refine lv_iload_n hx hb dJ6_numberOfLeadingZeros_0f7a4_48 rfl (lv_at hl 0 rfl) ?_
        refine lv_bipush (v := 16) hx hb dJ6_numberOfLeadingZeros_0f7a4_49 (by decide) ?_
        refine lv_icmp_lt (tgt := 61) hx hb dJ6_numberOfLeadingZeros_0f7a4_51 (by decide) (fun c51 => ?_) (fun c51 => ?_)
        · skip
          have tc51 := f_lt (k := 16) (by decide) c51
          exfalso; omega
        · skip
          have tc51 := f_nlt (k := 16) (by decide) c51
          refine lv_iinc (v := 19) (lv' := [(1, .int 19), (0, .int v46)]) hx hb dJ6_numberOfLeadingZeros_0f7a4_54 hl (k := 1) rfl (by decide) (by decide) rfl (fun ls hl => ?_)
          refine lv_iload_n hx hb dJ6_numberOfLeadingZeros_0f7a4_57 rfl (lv_at hl 1 rfl) ?_
          refine lv_iconst (v := 4) hx hb dJ6_numberOfLeadingZeros_0f7a4_58 (by decide) ?_
          refine lv_iushr hx hb dJ6_numberOfLeadingZeros_0f7a4_59 rfl ?_
          refine lv_topi (fun v59 ev59 => ?_)
          have tv59 : v59.toInt = v46.toInt / 16 := by rw [ev59]; exact ushr_n 4 (by decide +kernel) (by decide) (by omega)
          refine lv_istore_n (lv' := [(0, .int v59), (1, .int 19)]) hx hb dJ6_numberOfLeadingZeros_0f7a4_60 rfl hl (by decide) rfl (fun ls hl => ?_)
          refine lv_iload_n hx hb dJ6_numberOfLeadingZeros_0f7a4_61 rfl (lv_at hl 0 rfl) ?_
          refine lv_iconst (v := 4) hx hb dJ6_numberOfLeadingZeros_0f7a4_62 (by decide) ?_
          refine lv_icmp_lt (tgt := 73) hx hb dJ6_numberOfLeadingZeros_0f7a4_63 (by decide) (fun c63 => ?_) (fun c63 => ?_)
          · skip
            have tc63 := f_lt (k := 4) (by decide) c63
            refine lv_iload_n hx hb dJ6_numberOfLeadingZeros_0f7a4_73 rfl (lv_at hl 1 rfl) ?_
            refine lv_iload_n hx hb dJ6_numberOfLeadingZeros_0f7a4_74 rfl (lv_at hl 0 rfl) ?_
            refine lv_iconst (v := 1) hx hb dJ6_numberOfLeadingZeros_0f7a4_75 (by decide) ?_
            refine lv_iushr hx hb dJ6_numberOfLeadingZeros_0f7a4_76 rfl ?_
            refine lv_topi (fun v76 ev76 => ?_)
            have tv76 : v76.toInt = v59.toInt / 2 := by rw [ev76]; exact ushr_n 1 (by decide +kernel) (by decide) (by omega)
            refine lv_isub hx hb dJ6_numberOfLeadingZeros_0f7a4_77 ?_
            refine lv_topi (fun v77 ev77 => ?_)
            have tv77 : v77.toInt = (19) - v76.toInt := by rw [ev77]; exact sub_i (by decide : (19 : Int32).toInt = 19) rfl (by omega) (by omega)
            exact te_i hx hb hr hlocks hH hS (⟨rfl, by omega, by omega⟩) dJ6_numberOfLeadingZeros_0f7a4_78
          · skip
            have tc63 := f_nlt (k := 4) (by decide) c63
            exfalso; omega
    · skip
      have tc22 := f_nlt (k := 65536) (by decide) c22
      exfalso; omega
  · skip
    have tc1 := f_ngt (k := 0) (by decide) c1
    exfalso; omega
set_option maxHeartbeats 4000000 in
set_option maxRecDepth 100000 in
theorem s_nlz_z (l : Launch) (D : va_G) (cs : CS) (kf : KF) (T : TF) (O : List Nat) (X : va_W) (x0 : Int32) (l_x0 : 0 ≤ x0.toInt) (u_x0 : x0.toInt ≤ 0) (hO : okO T O []) : TK l D cs kf yJ6_numberOfLeadingZeros_0f7a4 cJ6_numberOfLeadingZeros_0f7a4 2 (some (.int)) { frames := 0, cells := 0, slots := 0, locals := 0 } [.int x0] T O X (Ti D cs (fun r u => u = (T, O, X) ∧ 32 ≤ r.toInt ∧ r.toInt ≤ 32)) := by
  refine tk_of (by decide) (Nat.le_of_ble_eq_true rfl) (fun p e s m below meth c ls A H locs hx hb hr hml hown hts hlocks hnm hkb hH hS hA hOX hks hE hl => ?_)
  have hown : s.vm.findClass RJ6 = some m.cls := hown
  have hl : lv_has ls 2 [(0, .int x0)] := hl
  refine lv_iload_n hx hb dJ6_numberOfLeadingZeros_0f7a4_0 rfl (lv_at hl 0 rfl) ?_
  refine lv_if_gt (tgt := 15) hx hb dJ6_numberOfLeadingZeros_0f7a4_1 (by decide) (fun c1 => ?_) (fun c1 => ?_)
  · skip
    have tc1 := f_gt (k := 0) (by decide) c1
    exfalso; omega
  · skip
    have tc1 := f_ngt (k := 0) (by decide) c1
    refine lv_iload_n hx hb dJ6_numberOfLeadingZeros_0f7a4_4 rfl (lv_at hl 0 rfl) ?_
    refine lv_if_ne (tgt := 13) hx hb dJ6_numberOfLeadingZeros_0f7a4_5 (by decide) (fun c5 => ?_) (fun c5 => ?_)
    · skip
      have tc5 := f_ne (k := 0) (by decide) c5
      exfalso; omega
    · skip
      have tc5 := f_eq (k := 0) (by decide) c5
      refine lv_bipush (v := 32) hx hb dJ6_numberOfLeadingZeros_0f7a4_8 (by decide) ?_
      refine lv_goto (tgt := 14) hx hb dJ6_numberOfLeadingZeros_0f7a4_10 (by decide) ?_
      exact te_i hx hb hr hlocks hH hS (⟨rfl, by decide, by decide⟩) dJ6_numberOfLeadingZeros_0f7a4_14
set_option maxHeartbeats 4000000 in
set_option maxRecDepth 100000 in
theorem s_hob_z (l : Launch) (D : va_G) (cs : CS) (kf : KF) (T : TF) (O : List Nat) (X : va_W) (x0 : Int32) (l_x0 : 0 ≤ x0.toInt) (u_x0 : x0.toInt ≤ 0) (hO : okO T O []) : TK l D cs kf yJ6_highestOneBit_0f7a4 cJ6_highestOneBit_0f7a4 1 (some (.int)) { frames := 1, cells := 0, slots := 0, locals := 21 } [.int x0] T O X (Ti D cs (fun r u => u = (T, O, X) ∧ 0 ≤ r.toInt ∧ r.toInt ≤ 0)) := by
  refine tk_of (by decide) (Nat.le_of_ble_eq_true rfl) (fun p e s m below meth c ls A H locs hx hb hr hml hown hts hlocks hnm hkb hH hS hA hOX hks hE hl => ?_)
  have hown : s.vm.findClass RJ6 = some m.cls := hown
  have hl : lv_has ls 1 [(0, .int x0)] := hl
  refine lv_iload_n hx hb dJ6_highestOneBit_0f7a4_0 rfl (lv_at hl 0 rfl) ?_
  refine lv_ldc hx hb hown (hts _ kw_1083) dJ6_highestOneBit_0f7a4_1 ?_
  refine lv_iload_n hx hb dJ6_highestOneBit_0f7a4_3 rfl (lv_at hl 0 rfl) ?_
  refine tk_i hH hS hA (tr_S (n := 1) (As := [.int x0]) hx hb hml hown hts hkb hH hOX hks hE hS hA (s_nlz_z l D cs kf T O X x0 (by omega) (by omega) (hO.sub (by decide))) kw_1084 kw_1085 kw_20 kw_1086 (by decide +kernel) ⟨Nat.le_of_ble_eq_true rfl, Nat.le_of_ble_eq_true rfl⟩ rfl rfl hl.1 (Nat.le_of_ble_eq_true rfl) dJ6_highestOneBit_0f7a4_4 ⟨Nat.le_of_ble_eq_true rfl, Nat.le_of_ble_eq_true rfl⟩) (fun v4 u H locs hz9 hH hS => ?_)
  obtain ⟨rfl, l_v4, u_v4⟩ := hz9
  refine lv_topc (y := 32) (eq_c (by decide) l_v4 u_v4) ?_
  have hH : HT D cs A T O X H := hH
  refine W.widen (k := 0) (n := 0) (Nat.le_of_ble_eq_true rfl) (Nat.le_of_ble_eq_true rfl) ?_
  refine lv_iushr hx hb dJ6_highestOneBit_0f7a4_7 rfl ?_
  refine lv_topc (y := (-2147483648)) (by decide +kernel) ?_
  refine lv_iand hx hb dJ6_highestOneBit_0f7a4_8 ?_
  refine lv_topi (fun v8 ev8 => ?_)
  have tv8 : 0 ≤ v8.toInt ∧ v8.toInt ≤ x0.toInt := by rw [ev8]; exact and_l (by omega)
  exact te_i hx hb hr hlocks hH hS (⟨rfl, by omega, by omega⟩) dJ6_highestOneBit_0f7a4_9
set_option maxHeartbeats 4000000 in
set_option maxRecDepth 100000 in
theorem s_hob_0 (l : Launch) (D : va_G) (cs : CS) (kf : KF) (T : TF) (O : List Nat) (X : va_W) (x0 : Int32) (l_x0 : 1 ≤ x0.toInt) (u_x0 : x0.toInt ≤ 1) (hO : okO T O []) : TK l D cs kf yJ6_highestOneBit_0f7a4 cJ6_highestOneBit_0f7a4 1 (some (.int)) { frames := 1, cells := 0, slots := 0, locals := 21 } [.int x0] T O X (Ti D cs (fun r u => u = (T, O, X) ∧ 1 ≤ r.toInt ∧ r.toInt ≤ 1)) := by
  refine tk_of (by decide) (Nat.le_of_ble_eq_true rfl) (fun p e s m below meth c ls A H locs hx hb hr hml hown hts hlocks hnm hkb hH hS hA hOX hks hE hl => ?_)
  have hown : s.vm.findClass RJ6 = some m.cls := hown
  have hl : lv_has ls 1 [(0, .int x0)] := hl
  refine lv_iload_n hx hb dJ6_highestOneBit_0f7a4_0 rfl (lv_at hl 0 rfl) ?_
  refine lv_ldc hx hb hown (hts _ kw_1083) dJ6_highestOneBit_0f7a4_1 ?_
  refine lv_iload_n hx hb dJ6_highestOneBit_0f7a4_3 rfl (lv_at hl 0 rfl) ?_
  refine tk_i hH hS hA (tr_S (n := 1) (As := [.int x0]) hx hb hml hown hts hkb hH hOX hks hE hS hA (s_nlz_0 l D cs kf T O X x0 (by omega) (by omega) (hO.sub (by decide))) kw_1084 kw_1085 kw_20 kw_1086 (by decide +kernel) ⟨Nat.le_of_ble_eq_true rfl, Nat.le_of_ble_eq_true rfl⟩ rfl rfl hl.1 (Nat.le_of_ble_eq_true rfl) dJ6_highestOneBit_0f7a4_4 ⟨Nat.le_of_ble_eq_true rfl, Nat.le_of_ble_eq_true rfl⟩) (fun v4 u H locs hz9 hH hS => ?_)
  obtain ⟨rfl, l_v4, u_v4⟩ := hz9
  refine lv_topc (y := 31) (eq_c (by decide) l_v4 u_v4) ?_
  have hH : HT D cs A T O X H := hH
  refine W.widen (k := 0) (n := 0) (Nat.le_of_ble_eq_true rfl) (Nat.le_of_ble_eq_true rfl) ?_
  refine lv_iushr hx hb dJ6_highestOneBit_0f7a4_7 rfl ?_
  refine lv_topc (y := 1) (by decide +kernel) ?_
  refine lv_iand hx hb dJ6_highestOneBit_0f7a4_8 ?_
  refine lv_topi (fun v8 ev8 => ?_)
  have tv8 : v8.toInt = 1 := by rw [ev8]; exact and_pow 0 (by decide) (by decide) (by omega) (by omega)
  exact te_i hx hb hr hlocks hH hS (⟨rfl, by omega, by omega⟩) dJ6_highestOneBit_0f7a4_9
set_option maxHeartbeats 4000000 in
set_option maxRecDepth 100000 in
theorem s_hob_1 (l : Launch) (D : va_G) (cs : CS) (kf : KF) (T : TF) (O : List Nat) (X : va_W) (x0 : Int32) (l_x0 : 2 ≤ x0.toInt) (u_x0 : x0.toInt ≤ 3) (hO : okO T O []) : TK l D cs kf yJ6_highestOneBit_0f7a4 cJ6_highestOneBit_0f7a4 1 (some (.int)) { frames := 1, cells := 0, slots := 0, locals := 21 } [.int x0] T O X (Ti D cs (fun r u => u = (T, O, X) ∧ 2 ≤ r.toInt ∧ r.toInt ≤ 2)) := by
  refine tk_of (by decide) (Nat.le_of_ble_eq_true rfl) (fun p e s m below meth c ls A H locs hx hb hr hml hown hts hlocks hnm hkb hH hS hA hOX hks hE hl => ?_)
  have hown : s.vm.findClass RJ6 = some m.cls := hown
  have hl : lv_has ls 1 [(0, .int x0)] := hl
  refine lv_iload_n hx hb dJ6_highestOneBit_0f7a4_0 rfl (lv_at hl 0 rfl) ?_
  refine lv_ldc hx hb hown (hts _ kw_1083) dJ6_highestOneBit_0f7a4_1 ?_
  refine lv_iload_n hx hb dJ6_highestOneBit_0f7a4_3 rfl (lv_at hl 0 rfl) ?_
  refine tk_i hH hS hA (tr_S (n := 1) (As := [.int x0]) hx hb hml hown hts hkb hH hOX hks hE hS hA (s_nlz_1 l D cs kf T O X x0 (by omega) (by omega) (hO.sub (by decide))) kw_1084 kw_1085 kw_20 kw_1086 (by decide +kernel) ⟨Nat.le_of_ble_eq_true rfl, Nat.le_of_ble_eq_true rfl⟩ rfl rfl hl.1 (Nat.le_of_ble_eq_true rfl) dJ6_highestOneBit_0f7a4_4 ⟨Nat.le_of_ble_eq_true rfl, Nat.le_of_ble_eq_true rfl⟩) (fun v4 u H locs hz9 hH hS => ?_)
  obtain ⟨rfl, l_v4, u_v4⟩ := hz9
  refine lv_topc (y := 30) (eq_c (by decide) l_v4 u_v4) ?_
  have hH : HT D cs A T O X H := hH
  refine W.widen (k := 0) (n := 0) (Nat.le_of_ble_eq_true rfl) (Nat.le_of_ble_eq_true rfl) ?_
  refine lv_iushr hx hb dJ6_highestOneBit_0f7a4_7 rfl ?_
  refine lv_topc (y := 2) (by decide +kernel) ?_
  refine lv_iand hx hb dJ6_highestOneBit_0f7a4_8 ?_
  refine lv_topi (fun v8 ev8 => ?_)
  have tv8 : v8.toInt = 2 := by rw [ev8]; exact and_pow 1 (by decide) (by decide) (by omega) (by omega)
  exact te_i hx hb hr hlocks hH hS (⟨rfl, by omega, by omega⟩) dJ6_highestOneBit_0f7a4_9
set_option maxHeartbeats 4000000 in
set_option maxRecDepth 100000 in
theorem s_hob_2 (l : Launch) (D : va_G) (cs : CS) (kf : KF) (T : TF) (O : List Nat) (X : va_W) (x0 : Int32) (l_x0 : 4 ≤ x0.toInt) (u_x0 : x0.toInt ≤ 7) (hO : okO T O []) : TK l D cs kf yJ6_highestOneBit_0f7a4 cJ6_highestOneBit_0f7a4 1 (some (.int)) { frames := 1, cells := 0, slots := 0, locals := 21 } [.int x0] T O X (Ti D cs (fun r u => u = (T, O, X) ∧ 4 ≤ r.toInt ∧ r.toInt ≤ 4)) := by
  refine tk_of (by decide) (Nat.le_of_ble_eq_true rfl) (fun p e s m below meth c ls A H locs hx hb hr hml hown hts hlocks hnm hkb hH hS hA hOX hks hE hl => ?_)
  have hown : s.vm.findClass RJ6 = some m.cls := hown
  have hl : lv_has ls 1 [(0, .int x0)] := hl
  refine lv_iload_n hx hb dJ6_highestOneBit_0f7a4_0 rfl (lv_at hl 0 rfl) ?_
  refine lv_ldc hx hb hown (hts _ kw_1083) dJ6_highestOneBit_0f7a4_1 ?_
  refine lv_iload_n hx hb dJ6_highestOneBit_0f7a4_3 rfl (lv_at hl 0 rfl) ?_
  refine tk_i hH hS hA (tr_S (n := 1) (As := [.int x0]) hx hb hml hown hts hkb hH hOX hks hE hS hA (s_nlz_2 l D cs kf T O X x0 (by omega) (by omega) (hO.sub (by decide))) kw_1084 kw_1085 kw_20 kw_1086 (by decide +kernel) ⟨Nat.le_of_ble_eq_true rfl, Nat.le_of_ble_eq_true rfl⟩ rfl rfl hl.1 (Nat.le_of_ble_eq_true rfl) dJ6_highestOneBit_0f7a4_4 ⟨Nat.le_of_ble_eq_true rfl, Nat.le_of_ble_eq_true rfl⟩) (fun v4 u H locs hz9 hH hS => ?_)
  obtain ⟨rfl, l_v4, u_v4⟩ := hz9
  refine lv_topc (y := 29) (eq_c (by decide) l_v4 u_v4) ?_
  have hH : HT D cs A T O X H := hH
  refine W.widen (k := 0) (n := 0) (Nat.le_of_ble_eq_true rfl) (Nat.le_of_ble_eq_true rfl) ?_
  refine lv_iushr hx hb dJ6_highestOneBit_0f7a4_7 rfl ?_
  refine lv_topc (y := 4) (by decide +kernel) ?_
  refine lv_iand hx hb dJ6_highestOneBit_0f7a4_8 ?_
  refine lv_topi (fun v8 ev8 => ?_)
  have tv8 : v8.toInt = 4 := by rw [ev8]; exact and_pow 2 (by decide) (by decide) (by omega) (by omega)
  exact te_i hx hb hr hlocks hH hS (⟨rfl, by omega, by omega⟩) dJ6_highestOneBit_0f7a4_9
set_option maxHeartbeats 4000000 in
set_option maxRecDepth 100000 in
theorem s_hob_3 (l : Launch) (D : va_G) (cs : CS) (kf : KF) (T : TF) (O : List Nat) (X : va_W) (x0 : Int32) (l_x0 : 8 ≤ x0.toInt) (u_x0 : x0.toInt ≤ 15) (hO : okO T O []) : TK l D cs kf yJ6_highestOneBit_0f7a4 cJ6_highestOneBit_0f7a4 1 (some (.int)) { frames := 1, cells := 0, slots := 0, locals := 21 } [.int x0] T O X (Ti D cs (fun r u => u = (T, O, X) ∧ 8 ≤ r.toInt ∧ r.toInt ≤ 8)) := by
  refine tk_of (by decide) (Nat.le_of_ble_eq_true rfl) (fun p e s m below meth c ls A H locs hx hb hr hml hown hts hlocks hnm hkb hH hS hA hOX hks hE hl => ?_)
  have hown : s.vm.findClass RJ6 = some m.cls := hown
  have hl : lv_has ls 1 [(0, .int x0)] := hl
  refine lv_iload_n hx hb dJ6_highestOneBit_0f7a4_0 rfl (lv_at hl 0 rfl) ?_
  refine lv_ldc hx hb hown (hts _ kw_1083) dJ6_highestOneBit_0f7a4_1 ?_
  refine lv_iload_n hx hb dJ6_highestOneBit_0f7a4_3 rfl (lv_at hl 0 rfl) ?_
  refine tk_i hH hS hA (tr_S (n := 1) (As := [.int x0]) hx hb hml hown hts hkb hH hOX hks hE hS hA (s_nlz_3 l D cs kf T O X x0 (by omega) (by omega) (hO.sub (by decide))) kw_1084 kw_1085 kw_20 kw_1086 (by decide +kernel) ⟨Nat.le_of_ble_eq_true rfl, Nat.le_of_ble_eq_true rfl⟩ rfl rfl hl.1 (Nat.le_of_ble_eq_true rfl) dJ6_highestOneBit_0f7a4_4 ⟨Nat.le_of_ble_eq_true rfl, Nat.le_of_ble_eq_true rfl⟩) (fun v4 u H locs hz9 hH hS => ?_)
  obtain ⟨rfl, l_v4, u_v4⟩ := hz9
  refine lv_topc (y := 28) (eq_c (by decide) l_v4 u_v4) ?_
  have hH : HT D cs A T O X H := hH
  refine W.widen (k := 0) (n := 0) (Nat.le_of_ble_eq_true rfl) (Nat.le_of_ble_eq_true rfl) ?_
  refine lv_iushr hx hb dJ6_highestOneBit_0f7a4_7 rfl ?_
  refine lv_topc (y := 8) (by decide +kernel) ?_
  refine lv_iand hx hb dJ6_highestOneBit_0f7a4_8 ?_
  refine lv_topi (fun v8 ev8 => ?_)
  have tv8 : v8.toInt = 8 := by rw [ev8]; exact and_pow 3 (by decide) (by decide) (by omega) (by omega)
  exact te_i hx hb hr hlocks hH hS (⟨rfl, by omega, by omega⟩) dJ6_highestOneBit_0f7a4_9
set_option maxHeartbeats 4000000 in
set_option maxRecDepth 100000 in
theorem s_hob_4 (l : Launch) (D : va_G) (cs : CS) (kf : KF) (T : TF) (O : List Nat) (X : va_W) (x0 : Int32) (l_x0 : 16 ≤ x0.toInt) (u_x0 : x0.toInt ≤ 31) (hO : okO T O []) : TK l D cs kf yJ6_highestOneBit_0f7a4 cJ6_highestOneBit_0f7a4 1 (some (.int)) { frames := 1, cells := 0, slots := 0, locals := 21 } [.int x0] T O X (Ti D cs (fun r u => u = (T, O, X) ∧ 16 ≤ r.toInt ∧ r.toInt ≤ 16)) := by
  refine tk_of (by decide) (Nat.le_of_ble_eq_true rfl) (fun p e s m below meth c ls A H locs hx hb hr hml hown hts hlocks hnm hkb hH hS hA hOX hks hE hl => ?_)
  have hown : s.vm.findClass RJ6 = some m.cls := hown
  have hl : lv_has ls 1 [(0, .int x0)] := hl
  refine lv_iload_n hx hb dJ6_highestOneBit_0f7a4_0 rfl (lv_at hl 0 rfl) ?_
  refine lv_ldc hx hb hown (hts _ kw_1083) dJ6_highestOneBit_0f7a4_1 ?_
  refine lv_iload_n hx hb dJ6_highestOneBit_0f7a4_3 rfl (lv_at hl 0 rfl) ?_
  refine tk_i hH hS hA (tr_S (n := 1) (As := [.int x0]) hx hb hml hown hts hkb hH hOX hks hE hS hA (s_nlz_4 l D cs kf T O X x0 (by omega) (by omega) (hO.sub (by decide))) kw_1084 kw_1085 kw_20 kw_1086 (by decide +kernel) ⟨Nat.le_of_ble_eq_true rfl, Nat.le_of_ble_eq_true rfl⟩ rfl rfl hl.1 (Nat.le_of_ble_eq_true rfl) dJ6_highestOneBit_0f7a4_4 ⟨Nat.le_of_ble_eq_true rfl, Nat.le_of_ble_eq_true rfl⟩) (fun v4 u H locs hz9 hH hS => ?_)
  obtain ⟨rfl, l_v4, u_v4⟩ := hz9
  refine lv_topc (y := 27) (eq_c (by decide) l_v4 u_v4) ?_
  have hH : HT D cs A T O X H := hH
  refine W.widen (k := 0) (n := 0) (Nat.le_of_ble_eq_true rfl) (Nat.le_of_ble_eq_true rfl) ?_
  refine lv_iushr hx hb dJ6_highestOneBit_0f7a4_7 rfl ?_
  refine lv_topc (y := 16) (by decide +kernel) ?_
  refine lv_iand hx hb dJ6_highestOneBit_0f7a4_8 ?_
  refine lv_topi (fun v8 ev8 => ?_)
  have tv8 : v8.toInt = 16 := by rw [ev8]; exact and_pow 4 (by decide) (by decide) (by omega) (by omega)
  exact te_i hx hb hr hlocks hH hS (⟨rfl, by omega, by omega⟩) dJ6_highestOneBit_0f7a4_9
set_option maxHeartbeats 4000000 in
set_option maxRecDepth 100000 in
theorem s_hob_5 (l : Launch) (D : va_G) (cs : CS) (kf : KF) (T : TF) (O : List Nat) (X : va_W) (x0 : Int32) (l_x0 : 32 ≤ x0.toInt) (u_x0 : x0.toInt ≤ 63) (hO : okO T O []) : TK l D cs kf yJ6_highestOneBit_0f7a4 cJ6_highestOneBit_0f7a4 1 (some (.int)) { frames := 1, cells := 0, slots := 0, locals := 21 } [.int x0] T O X (Ti D cs (fun r u => u = (T, O, X) ∧ 32 ≤ r.toInt ∧ r.toInt ≤ 32)) := by
  refine tk_of (by decide) (Nat.le_of_ble_eq_true rfl) (fun p e s m below meth c ls A H locs hx hb hr hml hown hts hlocks hnm hkb hH hS hA hOX hks hE hl => ?_)
  have hown : s.vm.findClass RJ6 = some m.cls := hown
  have hl : lv_has ls 1 [(0, .int x0)] := hl
  refine lv_iload_n hx hb dJ6_highestOneBit_0f7a4_0 rfl (lv_at hl 0 rfl) ?_
  refine lv_ldc hx hb hown (hts _ kw_1083) dJ6_highestOneBit_0f7a4_1 ?_
  refine lv_iload_n hx hb dJ6_highestOneBit_0f7a4_3 rfl (lv_at hl 0 rfl) ?_
  refine tk_i hH hS hA (tr_S (n := 1) (As := [.int x0]) hx hb hml hown hts hkb hH hOX hks hE hS hA (s_nlz_5 l D cs kf T O X x0 (by omega) (by omega) (hO.sub (by decide))) kw_1084 kw_1085 kw_20 kw_1086 (by decide +kernel) ⟨Nat.le_of_ble_eq_true rfl, Nat.le_of_ble_eq_true rfl⟩ rfl rfl hl.1 (Nat.le_of_ble_eq_true rfl) dJ6_highestOneBit_0f7a4_4 ⟨Nat.le_of_ble_eq_true rfl, Nat.le_of_ble_eq_true rfl⟩) (fun v4 u H locs hz9 hH hS => ?_)
  obtain ⟨rfl, l_v4, u_v4⟩ := hz9
  refine lv_topc (y := 26) (eq_c (by decide) l_v4 u_v4) ?_
  have hH : HT D cs A T O X H := hH
  refine W.widen (k := 0) (n := 0) (Nat.le_of_ble_eq_true rfl) (Nat.le_of_ble_eq_true rfl) ?_
  refine lv_iushr hx hb dJ6_highestOneBit_0f7a4_7 rfl ?_
  refine lv_topc (y := 32) (by decide +kernel) ?_
  refine lv_iand hx hb dJ6_highestOneBit_0f7a4_8 ?_
  refine lv_topi (fun v8 ev8 => ?_)
  have tv8 : v8.toInt = 32 := by rw [ev8]; exact and_pow 5 (by decide) (by decide) (by omega) (by omega)
  exact te_i hx hb hr hlocks hH hS (⟨rfl, by omega, by omega⟩) dJ6_highestOneBit_0f7a4_9
set_option maxHeartbeats 4000000 in
set_option maxRecDepth 100000 in
theorem s_hob_6 (l : Launch) (D : va_G) (cs : CS) (kf : KF) (T : TF) (O : List Nat) (X : va_W) (x0 : Int32) (l_x0 : 64 ≤ x0.toInt) (u_x0 : x0.toInt ≤ 127) (hO : okO T O []) : TK l D cs kf yJ6_highestOneBit_0f7a4 cJ6_highestOneBit_0f7a4 1 (some (.int)) { frames := 1, cells := 0, slots := 0, locals := 21 } [.int x0] T O X (Ti D cs (fun r u => u = (T, O, X) ∧ 64 ≤ r.toInt ∧ r.toInt ≤ 64)) := by
  refine tk_of (by decide) (Nat.le_of_ble_eq_true rfl) (fun p e s m below meth c ls A H locs hx hb hr hml hown hts hlocks hnm hkb hH hS hA hOX hks hE hl => ?_)
  have hown : s.vm.findClass RJ6 = some m.cls := hown
  have hl : lv_has ls 1 [(0, .int x0)] := hl
  refine lv_iload_n hx hb dJ6_highestOneBit_0f7a4_0 rfl (lv_at hl 0 rfl) ?_
  refine lv_ldc hx hb hown (hts _ kw_1083) dJ6_highestOneBit_0f7a4_1 ?_
  refine lv_iload_n hx hb dJ6_highestOneBit_0f7a4_3 rfl (lv_at hl 0 rfl) ?_
  refine tk_i hH hS hA (tr_S (n := 1) (As := [.int x0]) hx hb hml hown hts hkb hH hOX hks hE hS hA (s_nlz_6 l D cs kf T O X x0 (by omega) (by omega) (hO.sub (by decide))) kw_1084 kw_1085 kw_20 kw_1086 (by decide +kernel) ⟨Nat.le_of_ble_eq_true rfl, Nat.le_of_ble_eq_true rfl⟩ rfl rfl hl.1 (Nat.le_of_ble_eq_true rfl) dJ6_highestOneBit_0f7a4_4 ⟨Nat.le_of_ble_eq_true rfl, Nat.le_of_ble_eq_true rfl⟩) (fun v4 u H locs hz9 hH hS => ?_)
  obtain ⟨rfl, l_v4, u_v4⟩ := hz9
  refine lv_topc (y := 25) (eq_c (by decide) l_v4 u_v4) ?_
  have hH : HT D cs A T O X H := hH
  refine W.widen (k := 0) (n := 0) (Nat.le_of_ble_eq_true rfl) (Nat.le_of_ble_eq_true rfl) ?_
  refine lv_iushr hx hb dJ6_highestOneBit_0f7a4_7 rfl ?_
  refine lv_topc (y := 64) (by decide +kernel) ?_
  refine lv_iand hx hb dJ6_highestOneBit_0f7a4_8 ?_
  refine lv_topi (fun v8 ev8 => ?_)
  have tv8 : v8.toInt = 64 := by rw [ev8]; exact and_pow 6 (by decide) (by decide) (by omega) (by omega)
  exact te_i hx hb hr hlocks hH hS (⟨rfl, by omega, by omega⟩) dJ6_highestOneBit_0f7a4_9
set_option maxHeartbeats 4000000 in
set_option maxRecDepth 100000 in
theorem s_hob_7 (l : Launch) (D : va_G) (cs : CS) (kf : KF) (T : TF) (O : List Nat) (X : va_W) (x0 : Int32) (l_x0 : 128 ≤ x0.toInt) (u_x0 : x0.toInt ≤ 255) (hO : okO T O []) : TK l D cs kf yJ6_highestOneBit_0f7a4 cJ6_highestOneBit_0f7a4 1 (some (.int)) { frames := 1, cells := 0, slots := 0, locals := 21 } [.int x0] T O X (Ti D cs (fun r u => u = (T, O, X) ∧ 128 ≤ r.toInt ∧ r.toInt ≤ 128)) := by
  refine tk_of (by decide) (Nat.le_of_ble_eq_true rfl) (fun p e s m below meth c ls A H locs hx hb hr hml hown hts hlocks hnm hkb hH hS hA hOX hks hE hl => ?_)
  have hown : s.vm.findClass RJ6 = some m.cls := hown
  have hl : lv_has ls 1 [(0, .int x0)] := hl
  refine lv_iload_n hx hb dJ6_highestOneBit_0f7a4_0 rfl (lv_at hl 0 rfl) ?_
  refine lv_ldc hx hb hown (hts _ kw_1083) dJ6_highestOneBit_0f7a4_1 ?_
  refine lv_iload_n hx hb dJ6_highestOneBit_0f7a4_3 rfl (lv_at hl 0 rfl) ?_
  refine tk_i hH hS hA (tr_S (n := 1) (As := [.int x0]) hx hb hml hown hts hkb hH hOX hks hE hS hA (s_nlz_7 l D cs kf T O X x0 (by omega) (by omega) (hO.sub (by decide))) kw_1084 kw_1085 kw_20 kw_1086 (by decide +kernel) ⟨Nat.le_of_ble_eq_true rfl, Nat.le_of_ble_eq_true rfl⟩ rfl rfl hl.1 (Nat.le_of_ble_eq_true rfl) dJ6_highestOneBit_0f7a4_4 ⟨Nat.le_of_ble_eq_true rfl, Nat.le_of_ble_eq_true rfl⟩) (fun v4 u H locs hz9 hH hS => ?_)
  obtain ⟨rfl, l_v4, u_v4⟩ := hz9
  refine lv_topc (y := 24) (eq_c (by decide) l_v4 u_v4) ?_
  have hH : HT D cs A T O X H := hH
  refine W.widen (k := 0) (n := 0) (Nat.le_of_ble_eq_true rfl) (Nat.le_of_ble_eq_true rfl) ?_
  refine lv_iushr hx hb dJ6_highestOneBit_0f7a4_7 rfl ?_
  refine lv_topc (y := 128) (by decide +kernel) ?_
  refine lv_iand hx hb dJ6_highestOneBit_0f7a4_8 ?_
  refine lv_topi (fun v8 ev8 => ?_)
  have tv8 : v8.toInt = 128 := by rw [ev8]; exact and_pow 7 (by decide) (by decide) (by omega) (by omega)
  exact te_i hx hb hr hlocks hH hS (⟨rfl, by omega, by omega⟩) dJ6_highestOneBit_0f7a4_9
set_option maxHeartbeats 4000000 in
set_option maxRecDepth 100000 in
theorem s_hob_8 (l : Launch) (D : va_G) (cs : CS) (kf : KF) (T : TF) (O : List Nat) (X : va_W) (x0 : Int32) (l_x0 : 256 ≤ x0.toInt) (u_x0 : x0.toInt ≤ 511) (hO : okO T O []) : TK l D cs kf yJ6_highestOneBit_0f7a4 cJ6_highestOneBit_0f7a4 1 (some (.int)) { frames := 1, cells := 0, slots := 0, locals := 21 } [.int x0] T O X (Ti D cs (fun r u => u = (T, O, X) ∧ 256 ≤ r.toInt ∧ r.toInt ≤ 256)) := by
  refine tk_of (by decide) (Nat.le_of_ble_eq_true rfl) (fun p e s m below meth c ls A H locs hx hb hr hml hown hts hlocks hnm hkb hH hS hA hOX hks hE hl => ?_)
  have hown : s.vm.findClass RJ6 = some m.cls := hown
  have hl : lv_has ls 1 [(0, .int x0)] := hl
  refine lv_iload_n hx hb dJ6_highestOneBit_0f7a4_0 rfl (lv_at hl 0 rfl) ?_
  refine lv_ldc hx hb hown (hts _ kw_1083) dJ6_highestOneBit_0f7a4_1 ?_
  refine lv_iload_n hx hb dJ6_highestOneBit_0f7a4_3 rfl (lv_at hl 0 rfl) ?_
  refine tk_i hH hS hA (tr_S (n := 1) (As := [.int x0]) hx hb hml hown hts hkb hH hOX hks hE hS hA (s_nlz_8 l D cs kf T O X x0 (by omega) (by omega) (hO.sub (by decide))) kw_1084 kw_1085 kw_20 kw_1086 (by decide +kernel) ⟨Nat.le_of_ble_eq_true rfl, Nat.le_of_ble_eq_true rfl⟩ rfl rfl hl.1 (Nat.le_of_ble_eq_true rfl) dJ6_highestOneBit_0f7a4_4 ⟨Nat.le_of_ble_eq_true rfl, Nat.le_of_ble_eq_true rfl⟩) (fun v4 u H locs hz9 hH hS => ?_)
  obtain ⟨rfl, l_v4, u_v4⟩ := hz9
  refine lv_topc (y := 23) (eq_c (by decide) l_v4 u_v4) ?_
  have hH : HT D cs A T O X H := hH
  refine W.widen (k := 0) (n := 0) (Nat.le_of_ble_eq_true rfl) (Nat.le_of_ble_eq_true rfl) ?_
  refine lv_iushr hx hb dJ6_highestOneBit_0f7a4_7 rfl ?_
  refine lv_topc (y := 256) (by decide +kernel) ?_
  refine lv_iand hx hb dJ6_highestOneBit_0f7a4_8 ?_
  refine lv_topi (fun v8 ev8 => ?_)
  have tv8 : v8.toInt = 256 := by rw [ev8]; exact and_pow 8 (by decide) (by decide) (by omega) (by omega)
  exact te_i hx hb hr hlocks hH hS (⟨rfl, by omega, by omega⟩) dJ6_highestOneBit_0f7a4_9
set_option maxHeartbeats 4000000 in
set_option maxRecDepth 100000 in
theorem s_hob_9 (l : Launch) (D : va_G) (cs : CS) (kf : KF) (T : TF) (O : List Nat) (X : va_W) (x0 : Int32) (l_x0 : 512 ≤ x0.toInt) (u_x0 : x0.toInt ≤ 1023) (hO : okO T O []) : TK l D cs kf yJ6_highestOneBit_0f7a4 cJ6_highestOneBit_0f7a4 1 (some (.int)) { frames := 1, cells := 0, slots := 0, locals := 21 } [.int x0] T O X (Ti D cs (fun r u => u = (T, O, X) ∧ 512 ≤ r.toInt ∧ r.toInt ≤ 512)) := by
  refine tk_of (by decide) (Nat.le_of_ble_eq_true rfl) (fun p e s m below meth c ls A H locs hx hb hr hml hown hts hlocks hnm hkb hH hS hA hOX hks hE hl => ?_)
  have hown : s.vm.findClass RJ6 = some m.cls := hown
  have hl : lv_has ls 1 [(0, .int x0)] := hl
  refine lv_iload_n hx hb dJ6_highestOneBit_0f7a4_0 rfl (lv_at hl 0 rfl) ?_
  refine lv_ldc hx hb hown (hts _ kw_1083) dJ6_highestOneBit_0f7a4_1 ?_
  refine lv_iload_n hx hb dJ6_highestOneBit_0f7a4_3 rfl (lv_at hl 0 rfl) ?_
  refine tk_i hH hS hA (tr_S (n := 1) (As := [.int x0]) hx hb hml hown hts hkb hH hOX hks hE hS hA (s_nlz_9 l D cs kf T O X x0 (by omega) (by omega) (hO.sub (by decide))) kw_1084 kw_1085 kw_20 kw_1086 (by decide +kernel) ⟨Nat.le_of_ble_eq_true rfl, Nat.le_of_ble_eq_true rfl⟩ rfl rfl hl.1 (Nat.le_of_ble_eq_true rfl) dJ6_highestOneBit_0f7a4_4 ⟨Nat.le_of_ble_eq_true rfl, Nat.le_of_ble_eq_true rfl⟩) (fun v4 u H locs hz9 hH hS => ?_)
  obtain ⟨rfl, l_v4, u_v4⟩ := hz9
  refine lv_topc (y := 22) (eq_c (by decide) l_v4 u_v4) ?_
  have hH : HT D cs A T O X H := hH
  refine W.widen (k := 0) (n := 0) (Nat.le_of_ble_eq_true rfl) (Nat.le_of_ble_eq_true rfl) ?_
  refine lv_iushr hx hb dJ6_highestOneBit_0f7a4_7 rfl ?_
  refine lv_topc (y := 512) (by decide +kernel) ?_
  refine lv_iand hx hb dJ6_highestOneBit_0f7a4_8 ?_
  refine lv_topi (fun v8 ev8 => ?_)
  have tv8 : v8.toInt = 512 := by rw [ev8]; exact and_pow 9 (by decide) (by decide) (by omega) (by omega)
  exact te_i hx hb hr hlocks hH hS (⟨rfl, by omega, by omega⟩) dJ6_highestOneBit_0f7a4_9
set_option maxHeartbeats 4000000 in
set_option maxRecDepth 100000 in
theorem s_hob_10 (l : Launch) (D : va_G) (cs : CS) (kf : KF) (T : TF) (O : List Nat) (X : va_W) (x0 : Int32) (l_x0 : 1024 ≤ x0.toInt) (u_x0 : x0.toInt ≤ 2047) (hO : okO T O []) : TK l D cs kf yJ6_highestOneBit_0f7a4 cJ6_highestOneBit_0f7a4 1 (some (.int)) { frames := 1, cells := 0, slots := 0, locals := 21 } [.int x0] T O X (Ti D cs (fun r u => u = (T, O, X) ∧ 1024 ≤ r.toInt ∧ r.toInt ≤ 1024)) := by
  refine tk_of (by decide) (Nat.le_of_ble_eq_true rfl) (fun p e s m below meth c ls A H locs hx hb hr hml hown hts hlocks hnm hkb hH hS hA hOX hks hE hl => ?_)
  have hown : s.vm.findClass RJ6 = some m.cls := hown
  have hl : lv_has ls 1 [(0, .int x0)] := hl
  refine lv_iload_n hx hb dJ6_highestOneBit_0f7a4_0 rfl (lv_at hl 0 rfl) ?_
  refine lv_ldc hx hb hown (hts _ kw_1083) dJ6_highestOneBit_0f7a4_1 ?_
  refine lv_iload_n hx hb dJ6_highestOneBit_0f7a4_3 rfl (lv_at hl 0 rfl) ?_
  refine tk_i hH hS hA (tr_S (n := 1) (As := [.int x0]) hx hb hml hown hts hkb hH hOX hks hE hS hA (s_nlz_10 l D cs kf T O X x0 (by omega) (by omega) (hO.sub (by decide))) kw_1084 kw_1085 kw_20 kw_1086 (by decide +kernel) ⟨Nat.le_of_ble_eq_true rfl, Nat.le_of_ble_eq_true rfl⟩ rfl rfl hl.1 (Nat.le_of_ble_eq_true rfl) dJ6_highestOneBit_0f7a4_4 ⟨Nat.le_of_ble_eq_true rfl, Nat.le_of_ble_eq_true rfl⟩) (fun v4 u H locs hz9 hH hS => ?_)
  obtain ⟨rfl, l_v4, u_v4⟩ := hz9
  refine lv_topc (y := 21) (eq_c (by decide) l_v4 u_v4) ?_
  have hH : HT D cs A T O X H := hH
  refine W.widen (k := 0) (n := 0) (Nat.le_of_ble_eq_true rfl) (Nat.le_of_ble_eq_true rfl) ?_
  refine lv_iushr hx hb dJ6_highestOneBit_0f7a4_7 rfl ?_
  refine lv_topc (y := 1024) (by decide +kernel) ?_
  refine lv_iand hx hb dJ6_highestOneBit_0f7a4_8 ?_
  refine lv_topi (fun v8 ev8 => ?_)
  have tv8 : v8.toInt = 1024 := by rw [ev8]; exact and_pow 10 (by decide) (by decide) (by omega) (by omega)
  exact te_i hx hb hr hlocks hH hS (⟨rfl, by omega, by omega⟩) dJ6_highestOneBit_0f7a4_9
set_option maxHeartbeats 4000000 in
set_option maxRecDepth 100000 in
theorem s_hob_11 (l : Launch) (D : va_G) (cs : CS) (kf : KF) (T : TF) (O : List Nat) (X : va_W) (x0 : Int32) (l_x0 : 2048 ≤ x0.toInt) (u_x0 : x0.toInt ≤ 4095) (hO : okO T O []) : TK l D cs kf yJ6_highestOneBit_0f7a4 cJ6_highestOneBit_0f7a4 1 (some (.int)) { frames := 1, cells := 0, slots := 0, locals := 21 } [.int x0] T O X (Ti D cs (fun r u => u = (T, O, X) ∧ 2048 ≤ r.toInt ∧ r.toInt ≤ 2048)) := by
  refine tk_of (by decide) (Nat.le_of_ble_eq_true rfl) (fun p e s m below meth c ls A H locs hx hb hr hml hown hts hlocks hnm hkb hH hS hA hOX hks hE hl => ?_)
  have hown : s.vm.findClass RJ6 = some m.cls := hown
  have hl : lv_has ls 1 [(0, .int x0)] := hl
  refine lv_iload_n hx hb dJ6_highestOneBit_0f7a4_0 rfl (lv_at hl 0 rfl) ?_
  refine lv_ldc hx hb hown (hts _ kw_1083) dJ6_highestOneBit_0f7a4_1 ?_
  refine lv_iload_n hx hb dJ6_highestOneBit_0f7a4_3 rfl (lv_at hl 0 rfl) ?_
  refine tk_i hH hS hA (tr_S (n := 1) (As := [.int x0]) hx hb hml hown hts hkb hH hOX hks hE hS hA (s_nlz_11 l D cs kf T O X x0 (by omega) (by omega) (hO.sub (by decide))) kw_1084 kw_1085 kw_20 kw_1086 (by decide +kernel) ⟨Nat.le_of_ble_eq_true rfl, Nat.le_of_ble_eq_true rfl⟩ rfl rfl hl.1 (Nat.le_of_ble_eq_true rfl) dJ6_highestOneBit_0f7a4_4 ⟨Nat.le_of_ble_eq_true rfl, Nat.le_of_ble_eq_true rfl⟩) (fun v4 u H locs hz9 hH hS => ?_)
  obtain ⟨rfl, l_v4, u_v4⟩ := hz9
  refine lv_topc (y := 20) (eq_c (by decide) l_v4 u_v4) ?_
  have hH : HT D cs A T O X H := hH
  refine W.widen (k := 0) (n := 0) (Nat.le_of_ble_eq_true rfl) (Nat.le_of_ble_eq_true rfl) ?_
  refine lv_iushr hx hb dJ6_highestOneBit_0f7a4_7 rfl ?_
  refine lv_topc (y := 2048) (by decide +kernel) ?_
  refine lv_iand hx hb dJ6_highestOneBit_0f7a4_8 ?_
  refine lv_topi (fun v8 ev8 => ?_)
  have tv8 : v8.toInt = 2048 := by rw [ev8]; exact and_pow 11 (by decide) (by decide) (by omega) (by omega)
  exact te_i hx hb hr hlocks hH hS (⟨rfl, by omega, by omega⟩) dJ6_highestOneBit_0f7a4_9
set_option maxHeartbeats 4000000 in
set_option maxRecDepth 100000 in
theorem s_hob_12 (l : Launch) (D : va_G) (cs : CS) (kf : KF) (T : TF) (O : List Nat) (X : va_W) (x0 : Int32) (l_x0 : 4096 ≤ x0.toInt) (u_x0 : x0.toInt ≤ 8191) (hO : okO T O []) : TK l D cs kf yJ6_highestOneBit_0f7a4 cJ6_highestOneBit_0f7a4 1 (some (.int)) { frames := 1, cells := 0, slots := 0, locals := 21 } [.int x0] T O X (Ti D cs (fun r u => u = (T, O, X) ∧ 4096 ≤ r.toInt ∧ r.toInt ≤ 4096)) := by
  refine tk_of (by decide) (Nat.le_of_ble_eq_true rfl) (fun p e s m below meth c ls A H locs hx hb hr hml hown hts hlocks hnm hkb hH hS hA hOX hks hE hl => ?_)
  have hown : s.vm.findClass RJ6 = some m.cls := hown
  have hl : lv_has ls 1 [(0, .int x0)] := hl
  refine lv_iload_n hx hb dJ6_highestOneBit_0f7a4_0 rfl (lv_at hl 0 rfl) ?_
  refine lv_ldc hx hb hown (hts _ kw_1083) dJ6_highestOneBit_0f7a4_1 ?_
  refine lv_iload_n hx hb dJ6_highestOneBit_0f7a4_3 rfl (lv_at hl 0 rfl) ?_
  refine tk_i hH hS hA (tr_S (n := 1) (As := [.int x0]) hx hb hml hown hts hkb hH hOX hks hE hS hA (s_nlz_12 l D cs kf T O X x0 (by omega) (by omega) (hO.sub (by decide))) kw_1084 kw_1085 kw_20 kw_1086 (by decide +kernel) ⟨Nat.le_of_ble_eq_true rfl, Nat.le_of_ble_eq_true rfl⟩ rfl rfl hl.1 (Nat.le_of_ble_eq_true rfl) dJ6_highestOneBit_0f7a4_4 ⟨Nat.le_of_ble_eq_true rfl, Nat.le_of_ble_eq_true rfl⟩) (fun v4 u H locs hz9 hH hS => ?_)
  obtain ⟨rfl, l_v4, u_v4⟩ := hz9
  refine lv_topc (y := 19) (eq_c (by decide) l_v4 u_v4) ?_
  have hH : HT D cs A T O X H := hH
  refine W.widen (k := 0) (n := 0) (Nat.le_of_ble_eq_true rfl) (Nat.le_of_ble_eq_true rfl) ?_
  refine lv_iushr hx hb dJ6_highestOneBit_0f7a4_7 rfl ?_
  refine lv_topc (y := 4096) (by decide +kernel) ?_
  refine lv_iand hx hb dJ6_highestOneBit_0f7a4_8 ?_
  refine lv_topi (fun v8 ev8 => ?_)
  have tv8 : v8.toInt = 4096 := by rw [ev8]; exact and_pow 12 (by decide) (by decide) (by omega) (by omega)
  exact te_i hx hb hr hlocks hH hS (⟨rfl, by omega, by omega⟩) dJ6_highestOneBit_0f7a4_9
set_option maxHeartbeats 4000000 in
set_option maxRecDepth 100000 in
theorem s_hob_13 (l : Launch) (D : va_G) (cs : CS) (kf : KF) (T : TF) (O : List Nat) (X : va_W) (x0 : Int32) (l_x0 : 8192 ≤ x0.toInt) (u_x0 : x0.toInt ≤ 16383) (hO : okO T O []) : TK l D cs kf yJ6_highestOneBit_0f7a4 cJ6_highestOneBit_0f7a4 1 (some (.int)) { frames := 1, cells := 0, slots := 0, locals := 21 } [.int x0] T O X (Ti D cs (fun r u => u = (T, O, X) ∧ 8192 ≤ r.toInt ∧ r.toInt ≤ 8192)) := by
  refine tk_of (by decide) (Nat.le_of_ble_eq_true rfl) (fun p e s m below meth c ls A H locs hx hb hr hml hown hts hlocks hnm hkb hH hS hA hOX hks hE hl => ?_)
  have hown : s.vm.findClass RJ6 = some m.cls := hown
  have hl : lv_has ls 1 [(0, .int x0)] := hl
  refine lv_iload_n hx hb dJ6_highestOneBit_0f7a4_0 rfl (lv_at hl 0 rfl) ?_
  refine lv_ldc hx hb hown (hts _ kw_1083) dJ6_highestOneBit_0f7a4_1 ?_
  refine lv_iload_n hx hb dJ6_highestOneBit_0f7a4_3 rfl (lv_at hl 0 rfl) ?_
  refine tk_i hH hS hA (tr_S (n := 1) (As := [.int x0]) hx hb hml hown hts hkb hH hOX hks hE hS hA (s_nlz_13 l D cs kf T O X x0 (by omega) (by omega) (hO.sub (by decide))) kw_1084 kw_1085 kw_20 kw_1086 (by decide +kernel) ⟨Nat.le_of_ble_eq_true rfl, Nat.le_of_ble_eq_true rfl⟩ rfl rfl hl.1 (Nat.le_of_ble_eq_true rfl) dJ6_highestOneBit_0f7a4_4 ⟨Nat.le_of_ble_eq_true rfl, Nat.le_of_ble_eq_true rfl⟩) (fun v4 u H locs hz9 hH hS => ?_)
  obtain ⟨rfl, l_v4, u_v4⟩ := hz9
  refine lv_topc (y := 18) (eq_c (by decide) l_v4 u_v4) ?_
  have hH : HT D cs A T O X H := hH
  refine W.widen (k := 0) (n := 0) (Nat.le_of_ble_eq_true rfl) (Nat.le_of_ble_eq_true rfl) ?_
  refine lv_iushr hx hb dJ6_highestOneBit_0f7a4_7 rfl ?_
  refine lv_topc (y := 8192) (by decide +kernel) ?_
  refine lv_iand hx hb dJ6_highestOneBit_0f7a4_8 ?_
  refine lv_topi (fun v8 ev8 => ?_)
  have tv8 : v8.toInt = 8192 := by rw [ev8]; exact and_pow 13 (by decide) (by decide) (by omega) (by omega)
  exact te_i hx hb hr hlocks hH hS (⟨rfl, by omega, by omega⟩) dJ6_highestOneBit_0f7a4_9
theorem s_hob (l : Launch) (D : va_G) (cs : CS) (kf : KF) (T : TF) (O : List Nat) (X : va_W) (x0 : Int32) (l_x0 : 0 ≤ x0.toInt) (u_x0 : x0.toInt ≤ 16383) (hO : okO T O []) : TK l D cs kf yJ6_highestOneBit_0f7a4 cJ6_highestOneBit_0f7a4 1 (some (.int)) { frames := 1, cells := 0, slots := 0, locals := 21 } [.int x0] T O X (Ti D cs (fun r u => u = (T, O, X) ∧ 0 ≤ r.toInt ∧ r.toInt ≤ 8192 ∧ (r.toInt ≤ x0.toInt) ∧ (x0.toInt < 2 * r.toInt ∨ x0.toInt = 0) ∧ (hobP x0.toInt r.toInt))) := by
  by_cases c0 : x0.toInt ≤ 0
  · exact TK.mono (s_hob_z l D cs kf T O X x0 (by omega) (by omega) hO) (fun r u h => ⟨h.1, by have := h.2; omega, by have := h.2; omega, by have := h.2; omega, by have := h.2; omega, by have := h.2; exact Or.inl ⟨by omega, by omega⟩⟩)
  by_cases c1 : x0.toInt ≤ 1
  · exact TK.mono (s_hob_0 l D cs kf T O X x0 (by omega) (by omega) hO) (fun r u h => ⟨h.1, by have := h.2; omega, by have := h.2; omega, by have := h.2; omega, by have := h.2; omega, by have := h.2; exact Or.inr ⟨0, by decide, by omega⟩⟩)
  by_cases c2 : x0.toInt ≤ 3
  · exact TK.mono (s_hob_1 l D cs kf T O X x0 (by omega) (by omega) hO) (fun r u h => ⟨h.1, by have := h.2; omega, by have := h.2; omega, by have := h.2; omega, by have := h.2; omega, by have := h.2; exact Or.inr ⟨1, by decide, by omega⟩⟩)
  by_cases c3 : x0.toInt ≤ 7
  · exact TK.mono (s_hob_2 l D cs kf T O X x0 (by omega) (by omega) hO) (fun r u h => ⟨h.1, by have := h.2; omega, by have := h.2; omega, by have := h.2; omega, by have := h.2; omega, by have := h.2; exact Or.inr ⟨2, by decide, by omega⟩⟩)
  by_cases c4 : x0.toInt ≤ 15
  · exact TK.mono (s_hob_3 l D cs kf T O X x0 (by omega) (by omega) hO) (fun r u h => ⟨h.1, by have := h.2; omega, by have := h.2; omega, by have := h.2; omega, by have := h.2; omega, by have := h.2; exact Or.inr ⟨3, by decide, by omega⟩⟩)
  by_cases c5 : x0.toInt ≤ 31
  · exact TK.mono (s_hob_4 l D cs kf T O X x0 (by omega) (by omega) hO) (fun r u h => ⟨h.1, by have := h.2; omega, by have := h.2; omega, by have := h.2; omega, by have := h.2; omega, by have := h.2; exact Or.inr ⟨4, by decide, by omega⟩⟩)
  by_cases c6 : x0.toInt ≤ 63
  · exact TK.mono (s_hob_5 l D cs kf T O X x0 (by omega) (by omega) hO) (fun r u h => ⟨h.1, by have := h.2; omega, by have := h.2; omega, by have := h.2; omega, by have := h.2; omega, by have := h.2; exact Or.inr ⟨5, by decide, by omega⟩⟩)
  by_cases c7 : x0.toInt ≤ 127
  · exact TK.mono (s_hob_6 l D cs kf T O X x0 (by omega) (by omega) hO) (fun r u h => ⟨h.1, by have := h.2; omega, by have := h.2; omega, by have := h.2; omega, by have := h.2; omega, by have := h.2; exact Or.inr ⟨6, by decide, by omega⟩⟩)
  by_cases c8 : x0.toInt ≤ 255
  · exact TK.mono (s_hob_7 l D cs kf T O X x0 (by omega) (by omega) hO) (fun r u h => ⟨h.1, by have := h.2; omega, by have := h.2; omega, by have := h.2; omega, by have := h.2; omega, by have := h.2; exact Or.inr ⟨7, by decide, by omega⟩⟩)
  by_cases c9 : x0.toInt ≤ 511
  · exact TK.mono (s_hob_8 l D cs kf T O X x0 (by omega) (by omega) hO) (fun r u h => ⟨h.1, by have := h.2; omega, by have := h.2; omega, by have := h.2; omega, by have := h.2; omega, by have := h.2; exact Or.inr ⟨8, by decide, by omega⟩⟩)
  by_cases c10 : x0.toInt ≤ 1023
  · exact TK.mono (s_hob_9 l D cs kf T O X x0 (by omega) (by omega) hO) (fun r u h => ⟨h.1, by have := h.2; omega, by have := h.2; omega, by have := h.2; omega, by have := h.2; omega, by have := h.2; exact Or.inr ⟨9, by decide, by omega⟩⟩)
  by_cases c11 : x0.toInt ≤ 2047
  · exact TK.mono (s_hob_10 l D cs kf T O X x0 (by omega) (by omega) hO) (fun r u h => ⟨h.1, by have := h.2; omega, by have := h.2; omega, by have := h.2; omega, by have := h.2; omega, by have := h.2; exact Or.inr ⟨10, by decide, by omega⟩⟩)
  by_cases c12 : x0.toInt ≤ 4095
  · exact TK.mono (s_hob_11 l D cs kf T O X x0 (by omega) (by omega) hO) (fun r u h => ⟨h.1, by have := h.2; omega, by have := h.2; omega, by have := h.2; omega, by have := h.2; omega, by have := h.2; exact Or.inr ⟨11, by decide, by omega⟩⟩)
  by_cases c13 : x0.toInt ≤ 8191
  · exact TK.mono (s_hob_12 l D cs kf T O X x0 (by omega) (by omega) hO) (fun r u h => ⟨h.1, by have := h.2; omega, by have := h.2; omega, by have := h.2; omega, by have := h.2; omega, by have := h.2; exact Or.inr ⟨12, by decide, by omega⟩⟩)
  exact TK.mono (s_hob_13 l D cs kf T O X x0 (by omega) (by omega) hO) (fun r u h => ⟨h.1, by have := h.2; omega, by have := h.2; omega, by have := h.2; omega, by have := h.2; omega, by have := h.2; exact Or.inr ⟨13, by decide, by omega⟩⟩)
theorem dJ7_copyOf_59c91_0 : decode cJ7_copyOf_59c91 0 = .ok (.iload_n 1, 1) := by decide +kernel
theorem dJ7_copyOf_59c91_1 : decode cJ7_copyOf_59c91 1 = .ok (.aload_n 0, 1) := by decide +kernel
theorem dJ7_copyOf_59c91_2 : decode cJ7_copyOf_59c91 2 = .ok (.arraylength, 1) := by decide +kernel
theorem dJ7_copyOf_59c91_3 : decode cJ7_copyOf_59c91 3 = .ok (.if_icmp .ne 11, 3) := by decide +kernel
theorem dJ7_copyOf_59c91_6 : decode cJ7_copyOf_59c91 6 = .ok (.aload_n 0, 1) := by decide +kernel
theorem dJ7_copyOf_59c91_7 : decode cJ7_copyOf_59c91 7 = .ok (.invokevirtual 316, 3) := by decide +kernel
theorem dJ7_copyOf_59c91_10 : decode cJ7_copyOf_59c91 10 = .ok (.checkcast 317, 3) := by decide +kernel
theorem dJ7_copyOf_59c91_13 : decode cJ7_copyOf_59c91 13 = .ok (.areturn, 1) := by decide +kernel
theorem dJ7_copyOf_59c91_14 : decode cJ7_copyOf_59c91 14 = .ok (.iload_n 1, 1) := by decide +kernel
theorem dJ7_copyOf_59c91_15 : decode cJ7_copyOf_59c91 15 = .ok (.newarray .int, 2) := by decide +kernel
theorem dJ7_copyOf_59c91_17 : decode cJ7_copyOf_59c91 17 = .ok (.astore_n 2, 1) := by decide +kernel
theorem dJ7_copyOf_59c91_18 : decode cJ7_copyOf_59c91 18 = .ok (.aload_n 0, 1) := by decide +kernel
theorem dJ7_copyOf_59c91_19 : decode cJ7_copyOf_59c91 19 = .ok (.iconst 0, 1) := by decide +kernel
theorem dJ7_copyOf_59c91_20 : decode cJ7_copyOf_59c91 20 = .ok (.aload_n 2, 1) := by decide +kernel
theorem dJ7_copyOf_59c91_21 : decode cJ7_copyOf_59c91 21 = .ok (.iconst 0, 1) := by decide +kernel
theorem dJ7_copyOf_59c91_22 : decode cJ7_copyOf_59c91 22 = .ok (.aload_n 0, 1) := by decide +kernel
theorem dJ7_copyOf_59c91_23 : decode cJ7_copyOf_59c91 23 = .ok (.arraylength, 1) := by decide +kernel
theorem dJ7_copyOf_59c91_24 : decode cJ7_copyOf_59c91 24 = .ok (.iload_n 1, 1) := by decide +kernel
theorem dJ7_copyOf_59c91_25 : decode cJ7_copyOf_59c91 25 = .ok (.invokestatic 304, 3) := by decide +kernel
theorem dJ7_copyOf_59c91_28 : decode cJ7_copyOf_59c91 28 = .ok (.invokestatic 150, 3) := by decide +kernel
theorem dJ7_copyOf_59c91_31 : decode cJ7_copyOf_59c91 31 = .ok (.aload_n 2, 1) := by decide +kernel
theorem dJ7_copyOf_59c91_32 : decode cJ7_copyOf_59c91 32 = .ok (.areturn, 1) := by decide +kernel
theorem dX2_init_0 : decode cX2_init 0 = .ok (.aload_n 0, 1) := by decide +kernel
theorem dX2_init_1 : decode cX2_init 1 = .ok (.invokespecial 1, 3) := by decide +kernel
theorem dX2_init_4 : decode cX2_init 4 = .ok (.aload_n 0, 1) := by decide +kernel
theorem dX2_init_5 : decode cX2_init 5 = .ok (.bipush 8, 2) := by decide +kernel
theorem dX2_init_7 : decode cX2_init 7 = .ok (.newarray .int, 2) := by decide +kernel
theorem dX2_init_9 : decode cX2_init 9 = .ok (.putfield 9, 3) := by decide +kernel
theorem dX2_init_12 : decode cX2_init 12 = .ok (.aload_n 0, 1) := by decide +kernel
theorem dX2_init_13 : decode cX2_init 13 = .ok (.bipush 24, 2) := by decide +kernel
theorem dX2_init_15 : decode cX2_init 15 = .ok (.newarray .int, 2) := by decide +kernel
theorem dX2_init_17 : decode cX2_init 17 = .ok (.putfield 13, 3) := by decide +kernel
theorem dX2_init_20 : decode cX2_init 20 = .ok (.aload_n 0, 1) := by decide +kernel
theorem dX2_init_21 : decode cX2_init 21 = .ok (.aload_n 1, 1) := by decide +kernel
theorem dX2_init_22 : decode cX2_init 22 = .ok (.putfield 16, 3) := by decide +kernel
theorem dX2_init_25 : decode cX2_init 25 = .ok (.return_, 1) := by decide +kernel
theorem dX3_made_0 : decode cX3_made 0 = .ok (.new 27, 3) := by decide +kernel
theorem dX3_made_3 : decode cX3_made 3 = .ok (.dup, 1) := by decide +kernel
theorem dX3_made_4 : decode cX3_made 4 = .ok (.aload_n 0, 1) := by decide +kernel
theorem dX3_made_5 : decode cX3_made 5 = .ok (.getfield 9, 3) := by decide +kernel
theorem dX3_made_8 : decode cX3_made 8 = .ok (.aload_n 0, 1) := by decide +kernel
theorem dX3_made_9 : decode cX3_made 9 = .ok (.getfield 15, 3) := by decide +kernel
theorem dX3_made_12 : decode cX3_made 12 = .ok (.invokestatic 29, 3) := by decide +kernel
theorem dX3_made_15 : decode cX3_made 15 = .ok (.invokespecial 35, 3) := by decide +kernel
theorem dX3_made_18 : decode cX3_made 18 = .ok (.areturn, 1) := by decide +kernel
theorem kw_30 : Cond.instanceMethod objectInit ∈ gw := gw_of (tb_of 30 (by decide +kernel)) (by decide +kernel)
theorem kw_31 : Cond.code objectInit ⟨#[0xb1]⟩ 1 none ∈ gw := gw_of (tb_of 31 (by decide +kernel)) (by decide +kernel)
theorem kw_92 : Cond.arrayClass .int ∈ gw := gw_of (tb_of 92 (by decide +kernel)) (by decide +kernel)
theorem kw_719 : Cond.classLink "FootholdWall$LawReader" 27 "FootholdWall$Law" ∈ gw := gw_of (tb_of 719 (by decide +kernel)) (by decide +kernel)
theorem kw_720 : Cond.instantiable "FootholdWall$Law" 3 ∈ gw := gw_of (tb_of 720 (by decide +kernel)) (by decide +kernel)
theorem kw_721 : Cond.methodLink "FootholdWall$LawReader" 29 yJ7_copyOf_59c91 ∈ gw := gw_of (tb_of 721 (by decide +kernel)) (by decide +kernel)
theorem kw_722 : Cond.static yJ7_copyOf_59c91 ∈ gw := gw_of (tb_of 722 (by decide +kernel)) (by decide +kernel)
theorem kw_723 : Cond.code yJ7_copyOf_59c91 cJ7_copyOf_59c91 3 (some (.array .int)) ∈ gw := gw_of (tb_of 723 (by decide +kernel)) (by decide +kernel)
theorem kw_724 : Cond.methodLink "java/util/Arrays" 316 ⟨"[I", "clone", "()Ljava/lang/Object;"⟩ ∈ gw := gw_of (tb_of 724 (by decide +kernel)) (by decide +kernel)
theorem kw_725 : Cond.sameMethod "[I" "java/lang/Object" "clone" "()Ljava/lang/Object;" ∈ gw := gw_of (tb_of 725 (by decide +kernel)) (by decide +kernel)
theorem kw_726 : Cond.native ⟨"java/lang/Object", "clone", "()Ljava/lang/Object;"⟩ ∈ gw := gw_of (tb_of 726 (by decide +kernel)) (by decide +kernel)
theorem kw_727 : Cond.instanceMethod ⟨"java/lang/Object", "clone", "()Ljava/lang/Object;"⟩ ∈ gw := gw_of (tb_of 727 (by decide +kernel)) (by decide +kernel)
theorem kw_728 : Cond.selects "[I" ⟨"[I", "clone", "()Ljava/lang/Object;"⟩ ⟨"java/lang/Object", "clone", "()Ljava/lang/Object;"⟩ ∈ gw := gw_of (tb_of 728 (by decide +kernel)) (by decide +kernel)
theorem kw_730 : Cond.classLink "java/util/Arrays" 317 "[I" ∈ gw := gw_of (tb_of 730 (by decide +kernel)) (by decide +kernel)
theorem kw_731 : Cond.methodLink "java/util/Arrays" 304 Lib.Math.min.name ∈ gw := gw_of (tb_of 731 (by decide +kernel)) (by decide +kernel)
theorem kw_732 : Cond.methodLink "java/util/Arrays" 150 arraycopyName ∈ gw := gw_of (tb_of 732 (by decide +kernel)) (by decide +kernel)
theorem kw_735 : Cond.methodLink "FootholdWall$LawReader" 35 yX2_init ∈ gw := gw_of (tb_of 735 (by decide +kernel)) (by decide +kernel)
theorem kw_736 : Cond.instanceMethod yX2_init ∈ gw := gw_of (tb_of 736 (by decide +kernel)) (by decide +kernel)
theorem kw_737 : Cond.code yX2_init cX2_init 2 none ∈ gw := gw_of (tb_of 737 (by decide +kernel)) (by decide +kernel)
theorem kw_738 : Cond.methodLink "FootholdWall$Law" 1 objectInit ∈ gw := gw_of (tb_of 738 (by decide +kernel)) (by decide +kernel)
set_option maxHeartbeats 4000000 in
set_option maxRecDepth 100000 in
theorem s_copyOf (l : Launch) (D : va_G) (cs : CS) (kf : KF) (T : TF) (O : List Nat) (X : va_W) (a0 : Nat) (x1 : Int32) (t_a0 : T a0 = some (1, 900, 0)) (l_x1 : 0 ≤ x1.toInt) (u_x1 : x1.toInt ≤ 900) (hO : okO T O [1]) : TK l D cs kf yJ7_copyOf_59c91 cJ7_copyOf_59c91 3 (some (.array .int)) { frames := 1, cells := 1, slots := 900, locals := 60 } [.ref a0, .int x1] T O X (Tr D cs (fun u => ∃ T2 : TF, Tgr T T2 ∧ u.1 = (T2, O, X) ∧ (T2 u.2 = some (1, x1.toInt.toNat, 0)))) := by
  refine tk_of (by decide) (Nat.le_of_ble_eq_true rfl) (fun p e s m below meth c ls A H locs hx hb hr hml hown hts hlocks hnm hkb hH hS hA hOX hks hE hl => ?_)
  have hown : s.vm.findClass RJ7 = some m.cls := hown
  have hl : lv_has ls 3 [(0, .ref a0), (1, .int x1)] := hl
  refine lv_iload_n hx hb dJ7_copyOf_59c91_0 rfl (lv_at hl 1 rfl) ?_
  refine lv_aload_n hx hb dJ7_copyOf_59c91_1 rfl (lv_at hl 0 rfl) ?_
  refine t_len1 hx hb hkb hH t_a0 (hO.no t_a0 (by decide)) dJ7_copyOf_59c91_2 ?_
  refine lv_topc (y := 900) (by rfl) ?_
  refine lv_icmp_ne (tgt := 14) hx hb dJ7_copyOf_59c91_3 (by decide) (fun c3 => ?_) (fun c3 => ?_)
  · skip
    have tc3 := f_ne (k := 900) (by decide) c3
    refine lv_iload_n hx hb dJ7_copyOf_59c91_14 rfl (lv_at hl 1 rfl) ?_
    refine t_newI (N' := (x1.toInt.toNat)) (k := 0) hx hb hts kw_92 hkb hH hOX hS hA (by omega) (by omega) (cp_0 _) (Nat.le_of_ble_eq_true rfl) (by show 0 + (x1.toInt.toNat) ≤ 900; omega) dJ7_copyOf_59c91_15 (fun v15 T15 H le_T15 t_v15 hH hS => ?_)
    have t_a0 := le_T15.1 _ _ t_a0
    have hO := okO.le le_T15.1 hO
    refine W.widen (k := 1) (n := 899) (Nat.le_of_ble_eq_true rfl) (by omega) ?_
    refine lv_astore_n (lv' := [(2, .ref v15), (0, .ref a0), (1, .int x1)]) hx hb dJ7_copyOf_59c91_17 rfl hl (by decide) rfl (fun ls hl => ?_)
    refine lv_aload_n hx hb dJ7_copyOf_59c91_18 rfl (lv_at hl 1 rfl) ?_
    refine lv_iconst (v := 0) hx hb dJ7_copyOf_59c91_19 (by decide) ?_
    refine lv_aload_n hx hb dJ7_copyOf_59c91_20 rfl (lv_at hl 0 rfl) ?_
    refine lv_iconst (v := 0) hx hb dJ7_copyOf_59c91_21 (by decide) ?_
    refine lv_aload_n hx hb dJ7_copyOf_59c91_22 rfl (lv_at hl 1 rfl) ?_
    refine t_len1 hx hb hkb hH t_a0 (hO.no t_a0 (by decide)) dJ7_copyOf_59c91_23 ?_
    refine lv_topc (y := 900) (by rfl) ?_
    refine lv_iload_n hx hb dJ7_copyOf_59c91_24 rfl (lv_at hl 2 rfl) ?_
    refine va_mmin hx hb (by rw [hml]; exact hl.1.symm) hown (hts _ kw_731) (hts _ kw_450) (hts _ kw_6) (hts _ kw_451) (Nat.le_of_ble_eq_true rfl) (Nat.le_of_ble_eq_true rfl) (Nat.le_of_ble_eq_true rfl) (Nat.le_of_ble_eq_true rfl) dJ7_copyOf_59c91_25 ?_
    refine lv_topi (fun v25 ev25 => ?_)
    have tv25 : v25.toInt = min (900) x1.toInt := by rw [ev25]; exact min_i (by decide : (900 : Int32).toInt = 900) rfl
    refine t_copy hx hb (by rw [hml]; exact hl.1.symm) hown (hts _ kw_732) (hts _ kw_734) (hts _ kw_733) (hts _ kw_23) hkb hH hS (fun _ h9 => h9) t_a0 (hO.no t_a0 (by decide)) t_v15 (hO.no t_v15 (by decide)) (by decide) (by decide) (by omega) (by have k0 : (0 : Int32).toInt = 0 := (by decide); omega) (by have k0 : (0 : Int32).toInt = 0 := (by decide); omega) (Nat.le_of_ble_eq_true rfl) (Nat.le_of_ble_eq_true rfl) dJ7_copyOf_59c91_28 (fun H locs hH hS => ?_)
    refine lv_aload_n hx hb dJ7_copyOf_59c91_31 rfl (lv_at hl 0 rfl) ?_
    refine W.widen (k := 1) (n := 900) (Nat.le_of_ble_eq_true rfl) (Nat.le_of_ble_eq_true rfl) ?_
    exact te_ra hx hb hr hlocks hH hS (⟨T15, le_T15, rfl, t_v15⟩) dJ7_copyOf_59c91_32
  · skip
    have tc3 := f_eq (k := 900) (by decide) c3
    refine lv_aload_n hx hb dJ7_copyOf_59c91_6 rfl (lv_at hl 0 rfl) ?_
    refine t_cloneI hx hb (by rw [hml]; exact hl.1.symm) hown (hts _ kw_724) (hts _ kw_725) (hts _ kw_726) (hts _ kw_727) (hts _ kw_728) hkb hH hOX hS hA t_a0 (hO.no t_a0 (by decide)) (Nat.le_of_ble_eq_true rfl) (Nat.le_of_ble_eq_true rfl) (Nat.le_of_ble_eq_true rfl) (by show 0 + 900 ≤ 900; omega) dJ7_copyOf_59c91_7 (fun v7 T7 H le_T7 t_v7 hH hS => ?_)
    have t_a0 := le_T7.1 _ _ t_a0
    have hO := okO.le le_T7.1 hO
    refine W.widen (k := 1) (n := 900) (Nat.le_of_ble_eq_true rfl) (by omega) ?_
    refine t_castI hx hb hown (hts _ kw_730) hkb hH t_v7 (hO.no t_v7 (by decide)) dJ7_copyOf_59c91_10 ?_
    exact te_ra hx hb hr hlocks hH hS (⟨T7, le_T7, rfl, (by have q9 : x1.toInt.toNat = 900 := (by omega); rw [q9]; exact t_v7)⟩) dJ7_copyOf_59c91_13
set_option maxHeartbeats 4000000 in
set_option maxRecDepth 100000 in
theorem s_Law_init (l : Launch) (D : va_G) (cs : CS) (kf : KF) (T : TF) (O : List Nat) (X : va_W) (a0 : Nat) (a1 na1 : Nat) (hOX9 : ∀ o ∈ O, ∃ (k : Nat) (e : va_E), X[k]? = some (o, e)) (t_a1 : T a1 = some (1, na1, 0)) (hO : okO T O []) : TK l D cs kf yX2_init cX2_init 2 none { frames := 1, cells := 2, slots := 32, locals := 12 } [.ref a0, .ref a1] T O ((a0, .inr (2, [.null, .null, .null])) :: X) (Tv D cs (fun u => ∃ T2 : TF, Tgr T T2 ∧ ∃ (n0_1 : Nat) (n0_2 : Nat), u = (T2, O, (a0, .inr (2, [.ref a1, .ref n0_1, .ref n0_2])) :: X) ∧ (T2 n0_1 = some (1, 8, 0)) ∧ (T2 n0_2 = some (1, 24, 0)))) := by
  refine tk_of (by decide) (Nat.le_of_ble_eq_true rfl) (fun p e s m below meth c ls A H locs hx hb hr hml hown hts hlocks hnm hkb hH hS hA hOX hks hE hl => ?_)
  have hown : s.vm.findClass RX2 = some m.cls := hown
  have hl : lv_has ls 2 [(0, .ref a0), (1, .ref a1)] := hl
  have hOXf := hOX
  refine lv_aload_n hx hb dX2_init_0 rfl (lv_at hl 0 rfl) ?_
  refine W.objInit hx hb hown (hts _ kw_738) (hts _ kw_30) (hts _ kw_31) rfl (by rw [hml]; exact hl.1) rfl dX2_init_1 (Nat.le_of_ble_eq_true rfl) (Nat.le_of_ble_eq_true rfl) ?_
  refine W.eq (g2 := F0 m 4 ls []) rfl ?_
  refine lv_aload_n hx hb dX2_init_4 rfl (lv_at hl 0 rfl) ?_
  refine lv_bipush (v := 8) hx hb dX2_init_5 (by decide) ?_
  refine t_newI (N' := 8) (k := 0) hx hb hts kw_92 hkb hH (ox_n hOX9) hS hA (by decide) (by decide) (cp_0 _) (Nat.le_of_ble_eq_true rfl) (by show 0 + 8 ≤ 32; omega) dX2_init_7 (fun v7 T7 H le_T7 t_v7 hH hS => ?_)
  have t_a1 := le_T7.1 _ _ t_a1
  have hO := okO.le le_T7.1 hO
  refine W.widen (k := 1) (n := 8) (Nat.le_of_ble_eq_true rfl) (by omega) ?_
  refine x_putkF (ci := 2) (v := .ref v7) (ty := tyX2 1) (C := RX2) (F := TX2) (N := 3) hx hb hts uX2 tyX2 tyX2_ok nmX2 hown hkb hH hS 0 rfl rfl 1 (by decide) kw_740 (fun _ h9 => h9) rfl hnm rfl (tyX2_ok 1 (by decide)) rfl rfl (Nat.le_of_ble_eq_true rfl) dX2_init_9 (fun H locs hH hS => ?_)
  have hH : HT D cs A T7 O ((a0, .inr (2, [.null, .ref v7, .null])) :: X) H := hH
  refine lv_aload_n hx hb dX2_init_12 rfl (lv_at hl 0 rfl) ?_
  refine lv_bipush (v := 24) hx hb dX2_init_13 (by decide) ?_
  refine t_newI (N' := 24) (k := 0) hx hb hts kw_92 hkb hH (ox_n hOX9) hS hA (by decide) (by decide) (cp_0 _) (Nat.le_of_ble_eq_true rfl) (by show 8 + 24 ≤ 32; omega) dX2_init_15 (fun v15 T15 H le_T15 t_v15 hH hS => ?_)
  have t_a1 := le_T15.1 _ _ t_a1
  have t_v7 := le_T15.1 _ _ t_v7
  have hO := okO.le le_T15.1 hO
  refine W.widen (k := 2) (n := 32) (Nat.le_of_ble_eq_true rfl) (by omega) ?_
  refine x_putkF (ci := 2) (v := .ref v15) (ty := tyX2 2) (C := RX2) (F := TX2) (N := 3) hx hb hts uX2 tyX2 tyX2_ok nmX2 hown hkb hH hS 0 rfl rfl 2 (by decide) kw_742 (fun _ h9 => h9) rfl hnm rfl (tyX2_ok 2 (by decide)) rfl rfl (Nat.le_of_ble_eq_true rfl) dX2_init_17 (fun H locs hH hS => ?_)
  have hH : HT D cs A T15 O ((a0, .inr (2, [.null, .ref v7, .ref v15])) :: X) H := hH
  refine lv_aload_n hx hb dX2_init_20 rfl (lv_at hl 0 rfl) ?_
  refine lv_aload_n hx hb dX2_init_21 rfl (lv_at hl 1 rfl) ?_
  refine x_putkF (ci := 2) (v := .ref a1) (ty := tyX2 0) (C := RX2) (F := TX2) (N := 3) hx hb hts uX2 tyX2 tyX2_ok nmX2 hown hkb hH hS 0 rfl rfl 0 (by decide) kw_739 (fun _ h9 => h9) rfl hnm rfl (tyX2_ok 0 (by decide)) rfl rfl (Nat.le_of_ble_eq_true rfl) dX2_init_22 (fun H locs hH hS => ?_)
  have hH : HT D cs A T15 O ((a0, .inr (2, [.ref a1, .ref v7, .ref v15])) :: X) H := hH
  exact te_v hx hb hr hlocks hH hS (⟨T15, (Tgr.tr le_T7 le_T15), v7, v15, rfl, t_v7, t_v15⟩) dX2_init_25
set_option maxHeartbeats 4000000 in
set_option maxRecDepth 100000 in
theorem s_LR_made (l : Launch) (D : va_G) (cs : CS) (kf : KF) (T : TF) (O : List Nat) (X : va_W) (a0 : Nat) (t_a0 : T a0 = some (13, 0, 0)) (hO : okO T O [1, 13]) : TK l D cs kf yX3_made cX3_made 1 (some (.object "FootholdWall$Law")) { frames := 2, cells := 4, slots := 935, locals := 82 } [.ref a0] T O X (Tr D cs (fun u => ∃ T2 : TF, Tgr T T2 ∧ u.1 = (T2, O, X) ∧ (∃ n9 : Nat, T2 u.2 = some (12, n9, 0) ∧ n9 ≤ 900))) := by
  refine tk_of (by decide) (Nat.le_of_ble_eq_true rfl) (fun p e s m below meth c ls A H locs hx hb hr hml hown hts hlocks hnm hkb hH hS hA hOX hks hE hl => ?_)
  have hown : s.vm.findClass RX3 = some m.cls := hown
  have hl : lv_has ls 1 [(0, .ref a0)] := hl
  refine x_new (ci := 2) (C := RX2) (F := TX2) (N := 3) (fs := [.null, .null, .null]) hx hb hts uX2 tyX2 tyX2_ok hown kw_719 kw_720 kw_21 hkb hH hOX hS hA rfl dfX2 (Nat.le_of_ble_eq_true rfl) (Nat.le_of_ble_eq_true rfl) dX3_made_0 (fun v0 H tn_v0 hH hS => ?_)
  have hH : HT D cs A T O ((v0, .inr (2, [.null, .null, .null])) :: X) H := hH
  refine W.widen (k := 1) (n := 3) (Nat.le_of_ble_eq_true rfl) (Nat.le_of_ble_eq_true rfl) ?_
  refine lv_dup hx hb dX3_made_3 rfl ?_
  refine lv_aload_n hx hb dX3_made_4 rfl (lv_at hl 0 rfl) ?_
  refine t_get (ci := 3) (lst := ft3 0 0) (C := RX3) (F := TX3) (N := 3) hx hb hts uX3 hown hkb hH t_a0 (hO.no t_a0 (by decide)) (fun _ h9 => h9) rfl rfl 1 (by decide) rfl kw_83 (fun _ h9 => h9) dX3_made_5 (fun v9 h9 => ?_)
  obtain ⟨v5, rfl, t_v5⟩ := h9
  refine lv_aload_n hx hb dX3_made_8 rfl (lv_at hl 0 rfl) ?_
  refine t_get (ci := 3) (lst := ft3 0 0) (C := RX3) (F := TX3) (N := 3) hx hb hts uX3 hown hkb hH t_a0 (hO.no t_a0 (by decide)) (fun _ h9 => h9) rfl rfl 2 (by decide) rfl kw_84 (fun _ h9 => h9) dX3_made_9 (fun v9 h9 => ?_)
  obtain ⟨v9, rfl, l_v9, u_v9⟩ := h9
  refine tk_r hH hS hA (tr_S (n := 2) (As := [.ref v5, .int v9]) hx hb hml hown hts hkb hH (ox_n hOX) hks hE hS hA (s_copyOf l D cs kf T O ((v0, .inr (2, [.null, .null, .null])) :: X) v5 v9 t_v5 (by omega) (by omega) (hO.sub (by decide))) kw_721 kw_722 kw_22 kw_723 (by decide +kernel) ⟨Nat.le_of_ble_eq_true rfl, Nat.le_of_ble_eq_true rfl⟩ rfl rfl hl.1 (Nat.le_of_ble_eq_true rfl) dX3_made_12 ⟨Nat.le_of_ble_eq_true rfl, Nat.le_of_ble_eq_true rfl⟩) (fun v12 u H locs hz9 hH hS => ?_)
  obtain ⟨T12, le_T12, rfl, t_v12⟩ := hz9
  have t_a0 := le_T12.1 _ _ t_a0
  have t_v5 := le_T12.1 _ _ t_v5
  have hO := okO.le le_T12.1 hO
  have hH : HT D cs A T12 O ((v0, .inr (2, [.null, .null, .null])) :: X) H := hH
  refine W.widen (k := 2) (n := 903) (Nat.le_of_ble_eq_true rfl) (Nat.le_of_ble_eq_true rfl) ?_
  refine tk_v hH hS hA (tr_I (n := 1) (As := [.ref v12]) hx hb hml hown hts hkb hH (ox_n hOX) hks hE hS hA (s_Law_init l D cs kf T12 O X v0 v12 (v9.toInt.toNat) hOX t_v12 (hO.sub (by decide))) kw_735 kw_736 kw_21 kw_737 rfl (by decide +kernel) ⟨Nat.le_of_ble_eq_true rfl, Nat.le_of_ble_eq_true rfl⟩ rfl rfl hl.1 (Nat.le_of_ble_eq_true rfl) dX3_made_15 ⟨Nat.le_of_ble_eq_true rfl, Nat.le_of_ble_eq_true rfl⟩) (fun u H locs hz9 hH hS => ?_)
  obtain ⟨T15, le_T15, n15_0_1, n15_0_2, rfl, x_v150, x_v151⟩ := hz9
  have t_a0 := le_T15.1 _ _ t_a0
  have t_v5 := le_T15.1 _ _ t_v5
  have t_v12 := le_T15.1 _ _ t_v12
  have hO := okO.le le_T15.1 hO
  have t_n15_0_1 := x_v150
  have t_n15_0_2 := x_v151
  have hH : HT D cs A T15 O ((v0, .inr (2, [.ref v12, .ref n15_0_1, .ref n15_0_2])) :: X) H := hH
  refine W.widen (k := 4) (n := 935) (Nat.le_of_ble_eq_true rfl) (Nat.le_of_ble_eq_true rfl) ?_
  have hno := HT.none hH hOX
  obtain ⟨Tz, le_Tz, t_v0, hH⟩ : ∃ Tz, Tgr T15 Tz ∧ Tz v0 = some (12, (v9.toInt.toNat), 0) ∧ HT D cs A Tz O X H := ⟨_, Tgr_add hno (Or.inr (Or.inl rfl)), Tadd_r, HT.seal (ci := 2) (p0 := (v9.toInt.toNat)) (q0 := 0) hH hno (okL_c ⟨_, rfl, Tadd_le hno _ _ t_v12⟩ (okL_c ⟨_, rfl, Tadd_le hno _ _ t_n15_0_1⟩ (okL_c ⟨_, rfl, Tadd_le hno _ _ t_n15_0_2⟩ (okL_n))))⟩
  exact te_r hx hb hr hlocks hH hS (⟨Tz, (Tgr.tr (Tgr.tr le_T12 le_T15) le_Tz), rfl, ⟨(v9.toInt.toNat), t_v0, by omega⟩⟩) dX3_made_18
theorem dX4_made_0 : decode cX4_made 0 = .ok (.aload_n 0, 1) := by decide +kernel
theorem dX4_made_1 : decode cX4_made 1 = .ok (.getfield 32, 3) := by decide +kernel
theorem dX4_made_4 : decode cX4_made 4 = .ok (.aload_n 0, 1) := by decide +kernel
theorem dX4_made_5 : decode cX4_made 5 = .ok (.getfield 36, 3) := by decide +kernel
theorem dX4_made_8 : decode cX4_made 8 = .ok (.ifCond .eq 13, 3) := by decide +kernel
theorem dX4_made_11 : decode cX4_made 11 = .ok (.aload_n 0, 1) := by decide +kernel
theorem dX4_made_12 : decode cX4_made 12 = .ok (.getfield 23, 3) := by decide +kernel
theorem dX4_made_15 : decode cX4_made 15 = .ok (.invokevirtual 73, 3) := by decide +kernel
theorem dX4_made_18 : decode cX4_made 18 = .ok (.goto 4, 3) := by decide +kernel
theorem dX4_made_21 : decode cX4_made 21 = .ok (.aconst_null, 1) := by decide +kernel
theorem dX4_made_22 : decode cX4_made 22 = .ok (.invokevirtual 77, 3) := by decide +kernel
theorem dX4_made_25 : decode cX4_made 25 = .ok (.areturn, 1) := by decide +kernel
theorem dX9_cutToSize_0 : decode cX9_cutToSize 0 = .ok (.new 8, 3) := by decide +kernel
theorem dX9_cutToSize_3 : decode cX9_cutToSize 3 = .ok (.dup, 1) := by decide +kernel
theorem dX9_cutToSize_4 : decode cX9_cutToSize 4 = .ok (.aload_n 0, 1) := by decide +kernel
theorem dX9_cutToSize_5 : decode cX9_cutToSize 5 = .ok (.getfield 28, 3) := by decide +kernel
theorem dX9_cutToSize_8 : decode cX9_cutToSize 8 = .ok (.aload_n 0, 1) := by decide +kernel
theorem dX9_cutToSize_9 : decode cX9_cutToSize 9 = .ok (.getfield 31, 3) := by decide +kernel
theorem dX9_cutToSize_12 : decode cX9_cutToSize 12 = .ok (.aload_n 1, 1) := by decide +kernel
theorem dX9_cutToSize_13 : decode cX9_cutToSize 13 = .ok (.invokespecial 67, 3) := by decide +kernel
theorem dX9_cutToSize_16 : decode cX9_cutToSize 16 = .ok (.astore_n 2, 1) := by decide +kernel
theorem dX9_cutToSize_17 : decode cX9_cutToSize 17 = .ok (.aload_n 2, 1) := by decide +kernel
theorem dX9_cutToSize_18 : decode cX9_cutToSize 18 = .ok (.aload_n 0, 1) := by decide +kernel
theorem dX9_cutToSize_19 : decode cX9_cutToSize 19 = .ok (.getfield 7, 3) := by decide +kernel
theorem dX9_cutToSize_22 : decode cX9_cutToSize 22 = .ok (.putfield 7, 3) := by decide +kernel
theorem dX9_cutToSize_25 : decode cX9_cutToSize 25 = .ok (.aload_n 2, 1) := by decide +kernel
theorem dX9_cutToSize_26 : decode cX9_cutToSize 26 = .ok (.aload_n 0, 1) := by decide +kernel
theorem dX9_cutToSize_27 : decode cX9_cutToSize 27 = .ok (.getfield 13, 3) := by decide +kernel
theorem dX9_cutToSize_30 : decode cX9_cutToSize 30 = .ok (.putfield 13, 3) := by decide +kernel
theorem dX9_cutToSize_33 : decode cX9_cutToSize 33 = .ok (.aload_n 2, 1) := by decide +kernel
theorem dX9_cutToSize_34 : decode cX9_cutToSize 34 = .ok (.aload_n 0, 1) := by decide +kernel
theorem dX9_cutToSize_35 : decode cX9_cutToSize 35 = .ok (.getfield 16, 3) := by decide +kernel
theorem dX9_cutToSize_38 : decode cX9_cutToSize 38 = .ok (.putfield 16, 3) := by decide +kernel
theorem dX9_cutToSize_41 : decode cX9_cutToSize 41 = .ok (.aload_n 2, 1) := by decide +kernel
theorem dX9_cutToSize_42 : decode cX9_cutToSize 42 = .ok (.aload_n 0, 1) := by decide +kernel
theorem dX9_cutToSize_43 : decode cX9_cutToSize 43 = .ok (.getfield 19, 3) := by decide +kernel
theorem dX9_cutToSize_46 : decode cX9_cutToSize 46 = .ok (.putfield 19, 3) := by decide +kernel
theorem dX9_cutToSize_49 : decode cX9_cutToSize 49 = .ok (.aload_n 0, 1) := by decide +kernel
theorem dX9_cutToSize_50 : decode cX9_cutToSize 50 = .ok (.getfield 34, 3) := by decide +kernel
theorem dX9_cutToSize_53 : decode cX9_cutToSize 53 = .ok (.iconst 0, 1) := by decide +kernel
theorem dX9_cutToSize_54 : decode cX9_cutToSize 54 = .ok (.aload_n 2, 1) := by decide +kernel
theorem dX9_cutToSize_55 : decode cX9_cutToSize 55 = .ok (.getfield 34, 3) := by decide +kernel
theorem dX9_cutToSize_58 : decode cX9_cutToSize 58 = .ok (.iconst 0, 1) := by decide +kernel
theorem dX9_cutToSize_59 : decode cX9_cutToSize 59 = .ok (.aload_n 0, 1) := by decide +kernel
theorem dX9_cutToSize_60 : decode cX9_cutToSize 60 = .ok (.getfield 28, 3) := by decide +kernel
theorem dX9_cutToSize_63 : decode cX9_cutToSize 63 = .ok (.invokestatic 70, 3) := by decide +kernel
theorem dX9_cutToSize_66 : decode cX9_cutToSize 66 = .ok (.aload_n 0, 1) := by decide +kernel
theorem dX9_cutToSize_67 : decode cX9_cutToSize 67 = .ok (.getfield 38, 3) := by decide +kernel
theorem dX9_cutToSize_70 : decode cX9_cutToSize 70 = .ok (.iconst 0, 1) := by decide +kernel
theorem dX9_cutToSize_71 : decode cX9_cutToSize 71 = .ok (.aload_n 2, 1) := by decide +kernel
theorem dX9_cutToSize_72 : decode cX9_cutToSize 72 = .ok (.getfield 38, 3) := by decide +kernel
theorem dX9_cutToSize_75 : decode cX9_cutToSize 75 = .ok (.iconst 0, 1) := by decide +kernel
theorem dX9_cutToSize_76 : decode cX9_cutToSize 76 = .ok (.aload_n 0, 1) := by decide +kernel
theorem dX9_cutToSize_77 : decode cX9_cutToSize 77 = .ok (.getfield 28, 3) := by decide +kernel
theorem dX9_cutToSize_80 : decode cX9_cutToSize 80 = .ok (.invokestatic 70, 3) := by decide +kernel
theorem dX9_cutToSize_83 : decode cX9_cutToSize 83 = .ok (.aload_n 0, 1) := by decide +kernel
theorem dX9_cutToSize_84 : decode cX9_cutToSize 84 = .ok (.getfield 41, 3) := by decide +kernel
theorem dX9_cutToSize_87 : decode cX9_cutToSize 87 = .ok (.iconst 0, 1) := by decide +kernel
theorem dX9_cutToSize_88 : decode cX9_cutToSize 88 = .ok (.aload_n 2, 1) := by decide +kernel
theorem dX9_cutToSize_89 : decode cX9_cutToSize 89 = .ok (.getfield 41, 3) := by decide +kernel
theorem dX9_cutToSize_92 : decode cX9_cutToSize 92 = .ok (.iconst 0, 1) := by decide +kernel
theorem dX9_cutToSize_93 : decode cX9_cutToSize 93 = .ok (.aload_n 0, 1) := by decide +kernel
theorem dX9_cutToSize_94 : decode cX9_cutToSize 94 = .ok (.getfield 28, 3) := by decide +kernel
theorem dX9_cutToSize_97 : decode cX9_cutToSize 97 = .ok (.invokestatic 70, 3) := by decide +kernel
theorem dX9_cutToSize_100 : decode cX9_cutToSize 100 = .ok (.aload_n 0, 1) := by decide +kernel
theorem dX9_cutToSize_101 : decode cX9_cutToSize 101 = .ok (.getfield 44, 3) := by decide +kernel
theorem dX9_cutToSize_104 : decode cX9_cutToSize 104 = .ok (.iconst 0, 1) := by decide +kernel
theorem dX9_cutToSize_105 : decode cX9_cutToSize 105 = .ok (.aload_n 2, 1) := by decide +kernel
theorem dX9_cutToSize_106 : decode cX9_cutToSize 106 = .ok (.getfield 44, 3) := by decide +kernel
theorem dX9_cutToSize_109 : decode cX9_cutToSize 109 = .ok (.iconst 0, 1) := by decide +kernel
theorem dX9_cutToSize_110 : decode cX9_cutToSize 110 = .ok (.aload_n 0, 1) := by decide +kernel
theorem dX9_cutToSize_111 : decode cX9_cutToSize 111 = .ok (.getfield 31, 3) := by decide +kernel
theorem dX9_cutToSize_114 : decode cX9_cutToSize 114 = .ok (.invokestatic 70, 3) := by decide +kernel
theorem dX9_cutToSize_117 : decode cX9_cutToSize 117 = .ok (.aload_n 0, 1) := by decide +kernel
theorem dX9_cutToSize_118 : decode cX9_cutToSize 118 = .ok (.getfield 47, 3) := by decide +kernel
theorem dX9_cutToSize_121 : decode cX9_cutToSize 121 = .ok (.iconst 0, 1) := by decide +kernel
theorem dX9_cutToSize_122 : decode cX9_cutToSize 122 = .ok (.aload_n 2, 1) := by decide +kernel
theorem dX9_cutToSize_123 : decode cX9_cutToSize 123 = .ok (.getfield 47, 3) := by decide +kernel
theorem dX9_cutToSize_126 : decode cX9_cutToSize 126 = .ok (.iconst 0, 1) := by decide +kernel
theorem dX9_cutToSize_127 : decode cX9_cutToSize 127 = .ok (.aload_n 0, 1) := by decide +kernel
theorem dX9_cutToSize_128 : decode cX9_cutToSize 128 = .ok (.getfield 31, 3) := by decide +kernel
theorem dX9_cutToSize_131 : decode cX9_cutToSize 131 = .ok (.invokestatic 70, 3) := by decide +kernel
theorem dX9_cutToSize_134 : decode cX9_cutToSize 134 = .ok (.aload_n 2, 1) := by decide +kernel
theorem dX9_cutToSize_135 : decode cX9_cutToSize 135 = .ok (.areturn, 1) := by decide +kernel
theorem dX9_init_0 : decode cX9_init 0 = .ok (.aload_n 0, 1) := by decide +kernel
theorem dX9_init_1 : decode cX9_init 1 = .ok (.invokespecial 1, 3) := by decide +kernel
theorem dX9_init_4 : decode cX9_init 4 = .ok (.aload_n 0, 1) := by decide +kernel
theorem dX9_init_5 : decode cX9_init 5 = .ok (.iconst 0, 1) := by decide +kernel
theorem dX9_init_6 : decode cX9_init 6 = .ok (.putfield 7, 3) := by decide +kernel
theorem dX9_init_9 : decode cX9_init 9 = .ok (.aload_n 0, 1) := by decide +kernel
theorem dX9_init_10 : decode cX9_init 10 = .ok (.iconst 0, 1) := by decide +kernel
theorem dX9_init_11 : decode cX9_init 11 = .ok (.putfield 13, 3) := by decide +kernel
theorem dX9_init_14 : decode cX9_init 14 = .ok (.aload_n 0, 1) := by decide +kernel
theorem dX9_init_15 : decode cX9_init 15 = .ok (.iconst 0, 1) := by decide +kernel
theorem dX9_init_16 : decode cX9_init 16 = .ok (.putfield 16, 3) := by decide +kernel
theorem dX9_init_19 : decode cX9_init 19 = .ok (.aload_n 0, 1) := by decide +kernel
theorem dX9_init_20 : decode cX9_init 20 = .ok (.iconst 0, 1) := by decide +kernel
theorem dX9_init_21 : decode cX9_init 21 = .ok (.putfield 19, 3) := by decide +kernel
theorem dX9_init_24 : decode cX9_init 24 = .ok (.aload_n 0, 1) := by decide +kernel
theorem dX9_init_25 : decode cX9_init 25 = .ok (.iconst 0, 1) := by decide +kernel
theorem dX9_init_26 : decode cX9_init 26 = .ok (.iload_n 1, 1) := by decide +kernel
theorem dX9_init_27 : decode cX9_init 27 = .ok (.invokestatic 22, 3) := by decide +kernel
theorem dX9_init_30 : decode cX9_init 30 = .ok (.putfield 28, 3) := by decide +kernel
theorem dX9_init_33 : decode cX9_init 33 = .ok (.aload_n 0, 1) := by decide +kernel
theorem dX9_init_34 : decode cX9_init 34 = .ok (.iconst 0, 1) := by decide +kernel
theorem dX9_init_35 : decode cX9_init 35 = .ok (.iload_n 2, 1) := by decide +kernel
theorem dX9_init_36 : decode cX9_init 36 = .ok (.invokestatic 22, 3) := by decide +kernel
theorem dX9_init_39 : decode cX9_init 39 = .ok (.putfield 31, 3) := by decide +kernel
theorem dX9_init_42 : decode cX9_init 42 = .ok (.aload_n 0, 1) := by decide +kernel
theorem dX9_init_43 : decode cX9_init 43 = .ok (.aload_n 0, 1) := by decide +kernel
theorem dX9_init_44 : decode cX9_init 44 = .ok (.getfield 28, 3) := by decide +kernel
theorem dX9_init_47 : decode cX9_init 47 = .ok (.newarray .int, 2) := by decide +kernel
theorem dX9_init_49 : decode cX9_init 49 = .ok (.putfield 34, 3) := by decide +kernel
theorem dX9_init_52 : decode cX9_init 52 = .ok (.aload_n 0, 1) := by decide +kernel
theorem dX9_init_53 : decode cX9_init 53 = .ok (.aload_n 0, 1) := by decide +kernel
theorem dX9_init_54 : decode cX9_init 54 = .ok (.getfield 28, 3) := by decide +kernel
theorem dX9_init_57 : decode cX9_init 57 = .ok (.newarray .int, 2) := by decide +kernel
theorem dX9_init_59 : decode cX9_init 59 = .ok (.putfield 38, 3) := by decide +kernel
theorem dX9_init_62 : decode cX9_init 62 = .ok (.aload_n 0, 1) := by decide +kernel
theorem dX9_init_63 : decode cX9_init 63 = .ok (.aload_n 0, 1) := by decide +kernel
theorem dX9_init_64 : decode cX9_init 64 = .ok (.getfield 28, 3) := by decide +kernel
theorem dX9_init_67 : decode cX9_init 67 = .ok (.newarray .int, 2) := by decide +kernel
theorem dX9_init_69 : decode cX9_init 69 = .ok (.putfield 41, 3) := by decide +kernel
theorem dX9_init_72 : decode cX9_init 72 = .ok (.aload_n 0, 1) := by decide +kernel
theorem dX9_init_73 : decode cX9_init 73 = .ok (.aload_n 0, 1) := by decide +kernel
theorem dX9_init_74 : decode cX9_init 74 = .ok (.getfield 31, 3) := by decide +kernel
theorem dX9_init_77 : decode cX9_init 77 = .ok (.newarray .int, 2) := by decide +kernel
theorem dX9_init_79 : decode cX9_init 79 = .ok (.putfield 44, 3) := by decide +kernel
theorem dX9_init_82 : decode cX9_init 82 = .ok (.aload_n 0, 1) := by decide +kernel
theorem dX9_init_83 : decode cX9_init 83 = .ok (.aload_n 0, 1) := by decide +kernel
theorem dX9_init_84 : decode cX9_init 84 = .ok (.getfield 31, 3) := by decide +kernel
theorem dX9_init_87 : decode cX9_init 87 = .ok (.newarray .int, 2) := by decide +kernel
theorem dX9_init_89 : decode cX9_init 89 = .ok (.putfield 47, 3) := by decide +kernel
theorem dX9_init_92 : decode cX9_init 92 = .ok (.aload_n 0, 1) := by decide +kernel
theorem dX9_init_93 : decode cX9_init 93 = .ok (.aload_n 3, 1) := by decide +kernel
theorem dX9_init_94 : decode cX9_init 94 = .ok (.putfield 50, 3) := by decide +kernel
theorem dX9_init_97 : decode cX9_init 97 = .ok (.aload_n 0, 1) := by decide +kernel
theorem dX9_init_98 : decode cX9_init 98 = .ok (.aload_n 3, 1) := by decide +kernel
theorem dX9_init_99 : decode cX9_init 99 = .ok (.ifnull 16, 3) := by decide +kernel
theorem dX9_init_102 : decode cX9_init 102 = .ok (.aload_n 3, 1) := by decide +kernel
theorem dX9_init_103 : decode cX9_init 103 = .ok (.bipush 6, 2) := by decide +kernel
theorem dX9_init_105 : decode cX9_init 105 = .ok (.invokevirtual 56, 3) := by decide +kernel
theorem dX9_init_108 : decode cX9_init 108 = .ok (.ifCond .eq 7, 3) := by decide +kernel
theorem dX9_init_111 : decode cX9_init 111 = .ok (.iconst 1, 1) := by decide +kernel
theorem dX9_init_112 : decode cX9_init 112 = .ok (.goto 4, 3) := by decide +kernel
theorem dX9_init_115 : decode cX9_init 115 = .ok (.iconst 0, 1) := by decide +kernel
theorem dX9_init_116 : decode cX9_init 116 = .ok (.putfield 60, 3) := by decide +kernel
theorem dX9_init_119 : decode cX9_init 119 = .ok (.aload_n 0, 1) := by decide +kernel
theorem dX9_init_120 : decode cX9_init 120 = .ok (.aload_n 3, 1) := by decide +kernel
theorem dX9_init_121 : decode cX9_init 121 = .ok (.ifnull 11, 3) := by decide +kernel
theorem dX9_init_124 : decode cX9_init 124 = .ok (.aload_n 3, 1) := by decide +kernel
theorem dX9_init_125 : decode cX9_init 125 = .ok (.iconst 3, 1) := by decide +kernel
theorem dX9_init_126 : decode cX9_init 126 = .ok (.invokevirtual 56, 3) := by decide +kernel
theorem dX9_init_129 : decode cX9_init 129 = .ok (.ifCond .eq 7, 3) := by decide +kernel
theorem dX9_init_132 : decode cX9_init 132 = .ok (.iconst 1, 1) := by decide +kernel
theorem dX9_init_133 : decode cX9_init 133 = .ok (.goto 4, 3) := by decide +kernel
theorem dX9_init_136 : decode cX9_init 136 = .ok (.iconst 0, 1) := by decide +kernel
theorem dX9_init_137 : decode cX9_init 137 = .ok (.putfield 64, 3) := by decide +kernel
theorem dX9_init_140 : decode cX9_init 140 = .ok (.return_, 1) := by decide +kernel
theorem kw_94 : Cond.instantiable "FootholdWall$Wall" 14 ∈ gw := gw_of (tb_of 94 (by decide +kernel)) (by decide +kernel)
theorem kw_96 : Cond.instanceMethod yX9_init ∈ gw := gw_of (tb_of 96 (by decide +kernel)) (by decide +kernel)
theorem kw_97 : Cond.code yX9_init cX9_init 4 none ∈ gw := gw_of (tb_of 97 (by decide +kernel)) (by decide +kernel)
theorem kw_98 : Cond.methodLink "FootholdWall$Wall" 1 objectInit ∈ gw := gw_of (tb_of 98 (by decide +kernel)) (by decide +kernel)
theorem kw_99 : Cond.methodLink "FootholdWall$Wall" 22 Lib.Math.max.name ∈ gw := gw_of (tb_of 99 (by decide +kernel)) (by decide +kernel)
theorem kw_102 : Cond.methodLink "FootholdWall$Wall" 56 yX2_asks ∈ gw := gw_of (tb_of 102 (by decide +kernel)) (by decide +kernel)
theorem kw_103 : Cond.instanceMethod yX2_asks ∈ gw := gw_of (tb_of 103 (by decide +kernel)) (by decide +kernel)
theorem kw_104 : Cond.selects "FootholdWall$Law" yX2_asks yX2_asks ∈ gw := gw_of (tb_of 104 (by decide +kernel)) (by decide +kernel)
theorem kw_105 : Cond.code yX2_asks cX2_asks 4 (some (.boolean)) ∈ gw := gw_of (tb_of 105 (by decide +kernel)) (by decide +kernel)
theorem kw_141 : Cond.fieldLink "FootholdWall$Wall" 44 "FootholdWall$Wall" "leg" "[I" ∈ gw := gw_of (tb_of 141 (by decide +kernel)) (by decide +kernel)
theorem kw_144 : Cond.fieldLink "FootholdWall$Wall" 47 "FootholdWall$Wall" "weight" "[I" ∈ gw := gw_of (tb_of 144 (by decide +kernel)) (by decide +kernel)
theorem kw_715 : Cond.methodLink "FootholdWall$Reader" 73 yX3_made ∈ gw := gw_of (tb_of 715 (by decide +kernel)) (by decide +kernel)
theorem kw_716 : Cond.instanceMethod yX3_made ∈ gw := gw_of (tb_of 716 (by decide +kernel)) (by decide +kernel)
theorem kw_717 : Cond.selects "FootholdWall$LawReader" yX3_made yX3_made ∈ gw := gw_of (tb_of 717 (by decide +kernel)) (by decide +kernel)
theorem kw_718 : Cond.code yX3_made cX3_made 1 (some (.object "FootholdWall$Law")) ∈ gw := gw_of (tb_of 718 (by decide +kernel)) (by decide +kernel)
theorem kw_750 : Cond.methodLink "FootholdWall$Reader" 77 yX9_cutToSize ∈ gw := gw_of (tb_of 750 (by decide +kernel)) (by decide +kernel)
theorem kw_751 : Cond.instanceMethod yX9_cutToSize ∈ gw := gw_of (tb_of 751 (by decide +kernel)) (by decide +kernel)
theorem kw_752 : Cond.selects "FootholdWall$Wall" yX9_cutToSize yX9_cutToSize ∈ gw := gw_of (tb_of 752 (by decide +kernel)) (by decide +kernel)
theorem kw_753 : Cond.code yX9_cutToSize cX9_cutToSize 3 (some (.object "FootholdWall$Wall")) ∈ gw := gw_of (tb_of 753 (by decide +kernel)) (by decide +kernel)
theorem kw_754 : Cond.classLink "FootholdWall$Wall" 8 "FootholdWall$Wall" ∈ gw := gw_of (tb_of 754 (by decide +kernel)) (by decide +kernel)
theorem kw_755 : Cond.methodLink "FootholdWall$Wall" 67 yX9_init ∈ gw := gw_of (tb_of 755 (by decide +kernel)) (by decide +kernel)
theorem kw_756 : Cond.methodLink "FootholdWall$Wall" 70 arraycopyName ∈ gw := gw_of (tb_of 756 (by decide +kernel)) (by decide +kernel)
set_option maxHeartbeats 4000000 in
set_option maxRecDepth 100000 in
theorem s_Wall_initN (l : Launch) (D : va_G) (cs : CS) (kf : KF) (T : TF) (O : List Nat) (X : va_W) (a0 : Nat) (x1 : Int32) (x2 : Int32) (hOX9 : ∀ o ∈ O, ∃ (k : Nat) (e : va_E), X[k]? = some (o, e)) (l_x1 : 0 ≤ x1.toInt) (u_x1 : x1.toInt ≤ 14) (l_x2 : 0 ≤ x2.toInt) (u_x2 : x2.toInt ≤ 5) (hO : okO T O []) : TK l D cs kf yX9_init cX9_init 4 none { frames := 1, cells := 5, slots := 52, locals := 14 } [.ref a0, .int x1, .int x2, .null] T O ((a0, .inr (9, [.int 0, .int 0, .int 0, .int 0, .int 0, .int 0, .null, .null, .null, .null, .null, .null, .int 0, .int 0])) :: X) (Tv D cs (fun u => ∃ T2 : TF, Tgr T T2 ∧ ∃ (n0_0 : Int32) (n0_1 : Int32) (n0_6 : Nat) (n0_7 : Nat) (n0_8 : Nat) (n0_9 : Nat) (n0_10 : Nat) (n0_12 : Int32) (n0_13 : Int32), u = (T2, O, (a0, .inr (9, [.int n0_0, .int n0_1, .int 0, .int 0, .int 0, .int 0, .ref n0_6, .ref n0_7, .ref n0_8, .ref n0_9, .ref n0_10, .null, .int n0_12, .int n0_13])) :: X) ∧ (n0_0.toInt = x1.toInt) ∧ (n0_1.toInt = x2.toInt) ∧ (T2 n0_6 = some (1, n0_0.toInt.toNat, 0)) ∧ (T2 n0_7 = some (1, n0_0.toInt.toNat, 0)) ∧ (T2 n0_8 = some (1, n0_0.toInt.toNat, 0)) ∧ (T2 n0_9 = some (1, n0_1.toInt.toNat, 0)) ∧ (T2 n0_10 = some (1, n0_1.toInt.toNat, 0)) ∧ (0 ≤ n0_12.toInt) ∧ (n0_12.toInt ≤ 1) ∧ (0 ≤ n0_13.toInt) ∧ (n0_13.toInt ≤ 1))) := by
  refine tk_of (by decide) (Nat.le_of_ble_eq_true rfl) (fun p e s m below meth c ls A H locs hx hb hr hml hown hts hlocks hnm hkb hH hS hA hOX hks hE hl => ?_)
  have hown : s.vm.findClass RX9 = some m.cls := hown
  have hl : lv_has ls 4 [(0, .ref a0), (1, .int x1), (2, .int x2), (3, .null)] := hl
  have hOXf := hOX
  refine lv_aload_n hx hb dX9_init_0 rfl (lv_at hl 0 rfl) ?_
  refine W.objInit hx hb hown (hts _ kw_98) (hts _ kw_30) (hts _ kw_31) rfl (by rw [hml]; exact hl.1) rfl dX9_init_1 (Nat.le_of_ble_eq_true rfl) (Nat.le_of_ble_eq_true rfl) ?_
  refine W.eq (g2 := F0 m 4 ls []) rfl ?_
  refine lv_aload_n hx hb dX9_init_4 rfl (lv_at hl 0 rfl) ?_
  refine lv_iconst (v := 0) hx hb dX9_init_5 (by decide) ?_
  refine x_putk (ci := 9) (v := .int 0) (ty := tyX9 2) (C := RX9) (F := TX9) (N := 14) hx hb hts uX9 tyX9 tyX9_ok nmX9 hown hkb hH hS 0 rfl rfl 2 (by decide) kw_113 (fun _ h9 => h9) rfl (tyX9_ok 2 (by decide)) rfl rfl (Nat.le_of_ble_eq_true rfl) dX9_init_6 (fun H locs hH hS => ?_)
  have hH : HT D cs A T O ((a0, .inr (9, [.int 0, .int 0, .int 0, .int 0, .int 0, .int 0, .null, .null, .null, .null, .null, .null, .int 0, .int 0])) :: X) H := hH
  refine lv_aload_n hx hb dX9_init_9 rfl (lv_at hl 0 rfl) ?_
  refine lv_iconst (v := 0) hx hb dX9_init_10 (by decide) ?_
  refine x_putk (ci := 9) (v := .int 0) (ty := tyX9 3) (C := RX9) (F := TX9) (N := 14) hx hb hts uX9 tyX9 tyX9_ok nmX9 hown hkb hH hS 0 rfl rfl 3 (by decide) kw_116 (fun _ h9 => h9) rfl (tyX9_ok 3 (by decide)) rfl rfl (Nat.le_of_ble_eq_true rfl) dX9_init_11 (fun H locs hH hS => ?_)
  have hH : HT D cs A T O ((a0, .inr (9, [.int 0, .int 0, .int 0, .int 0, .int 0, .int 0, .null, .null, .null, .null, .null, .null, .int 0, .int 0])) :: X) H := hH
  refine lv_aload_n hx hb dX9_init_14 rfl (lv_at hl 0 rfl) ?_
  refine lv_iconst (v := 0) hx hb dX9_init_15 (by decide) ?_
  refine x_putk (ci := 9) (v := .int 0) (ty := tyX9 4) (C := RX9) (F := TX9) (N := 14) hx hb hts uX9 tyX9 tyX9_ok nmX9 hown hkb hH hS 0 rfl rfl 4 (by decide) kw_123 (fun _ h9 => h9) rfl (tyX9_ok 4 (by decide)) rfl rfl (Nat.le_of_ble_eq_true rfl) dX9_init_16 (fun H locs hH hS => ?_)
  have hH : HT D cs A T O ((a0, .inr (9, [.int 0, .int 0, .int 0, .int 0, .int 0, .int 0, .null, .null, .null, .null, .null, .null, .int 0, .int 0])) :: X) H := hH
  refine lv_aload_n hx hb dX9_init_19 rfl (lv_at hl 0 rfl) ?_
  refine lv_iconst (v := 0) hx hb dX9_init_20 (by decide) ?_
  refine x_putk (ci := 9) (v := .int 0) (ty := tyX9 5) (C := RX9) (F := TX9) (N := 14) hx hb hts uX9 tyX9 tyX9_ok nmX9 hown hkb hH hS 0 rfl rfl 5 (by decide) kw_130 (fun _ h9 => h9) rfl (tyX9_ok 5 (by decide)) rfl rfl (Nat.le_of_ble_eq_true rfl) dX9_init_21 (fun H locs hH hS => ?_)
  have hH : HT D cs A T O ((a0, .inr (9, [.int 0, .int 0, .int 0, .int 0, .int 0, .int 0, .null, .null, .null, .null, .null, .null, .int 0, .int 0])) :: X) H := hH
  refine lv_aload_n hx hb dX9_init_24 rfl (lv_at hl 0 rfl) ?_
  refine lv_iconst (v := 0) hx hb dX9_init_25 (by decide) ?_
  refine lv_iload_n hx hb dX9_init_26 rfl (lv_at hl 1 rfl) ?_
  refine va_mmax hx hb (by rw [hml]; exact hl.1.symm) hown (hts _ kw_99) (hts _ kw_100) (hts _ kw_6) (hts _ kw_101) (Nat.le_of_ble_eq_true rfl) (Nat.le_of_ble_eq_true rfl) (Nat.le_of_ble_eq_true rfl) (Nat.le_of_ble_eq_true rfl) dX9_init_27 ?_
  refine lv_topi (fun v27 ev27 => ?_)
  have tv27 : v27.toInt = max (0) x1.toInt := by rw [ev27]; exact max_i (by decide : (0 : Int32).toInt = 0) rfl
  refine x_putk (ci := 9) (v := .int v27) (ty := tyX9 0) (C := RX9) (F := TX9) (N := 14) hx hb hts uX9 tyX9 tyX9_ok nmX9 hown hkb hH hS 0 rfl rfl 0 (by decide) kw_106 (fun _ h9 => h9) rfl (tyX9_ok 0 (by decide)) rfl rfl (Nat.le_of_ble_eq_true rfl) dX9_init_30 (fun H locs hH hS => ?_)
  have hH : HT D cs A T O ((a0, .inr (9, [.int v27, .int 0, .int 0, .int 0, .int 0, .int 0, .null, .null, .null, .null, .null, .null, .int 0, .int 0])) :: X) H := hH
  refine lv_aload_n hx hb dX9_init_33 rfl (lv_at hl 0 rfl) ?_
  refine lv_iconst (v := 0) hx hb dX9_init_34 (by decide) ?_
  refine lv_iload_n hx hb dX9_init_35 rfl (lv_at hl 2 rfl) ?_
  refine va_mmax hx hb (by rw [hml]; exact hl.1.symm) hown (hts _ kw_99) (hts _ kw_100) (hts _ kw_6) (hts _ kw_101) (Nat.le_of_ble_eq_true rfl) (Nat.le_of_ble_eq_true rfl) (Nat.le_of_ble_eq_true rfl) (Nat.le_of_ble_eq_true rfl) dX9_init_36 ?_
  refine lv_topi (fun v36 ev36 => ?_)
  have tv36 : v36.toInt = max (0) x2.toInt := by rw [ev36]; exact max_i (by decide : (0 : Int32).toInt = 0) rfl
  refine x_putk (ci := 9) (v := .int v36) (ty := tyX9 1) (C := RX9) (F := TX9) (N := 14) hx hb hts uX9 tyX9 tyX9_ok nmX9 hown hkb hH hS 0 rfl rfl 1 (by decide) kw_110 (fun _ h9 => h9) rfl (tyX9_ok 1 (by decide)) rfl rfl (Nat.le_of_ble_eq_true rfl) dX9_init_39 (fun H locs hH hS => ?_)
  have hH : HT D cs A T O ((a0, .inr (9, [.int v27, .int v36, .int 0, .int 0, .int 0, .int 0, .null, .null, .null, .null, .null, .null, .int 0, .int 0])) :: X) H := hH
  refine lv_aload_n hx hb dX9_init_42 rfl (lv_at hl 0 rfl) ?_
  refine lv_aload_n hx hb dX9_init_43 rfl (lv_at hl 0 rfl) ?_
  refine x_getk (ci := 9) (C := RX9) (F := TX9) (N := 14) (v := .int v27) hx hb hts uX9 hown hkb hH 0 rfl rfl 0 (by decide) rfl kw_106 (fun _ h9 => h9) dX9_init_44 ?_
  refine t_newI (N' := (v27.toInt.toNat)) (k := 0) hx hb hts kw_92 hkb hH (ox_n hOX9) hS hA (by omega) (by omega) (cp_0 _) (Nat.le_of_ble_eq_true rfl) (by show 0 + (v27.toInt.toNat) ≤ 52; omega) dX9_init_47 (fun v47 T47 H le_T47 t_v47 hH hS => ?_)
  have hO := okO.le le_T47.1 hO
  refine W.widen (k := 1) (n := 14) (Nat.le_of_ble_eq_true rfl) (by omega) ?_
  refine x_putkF (ci := 9) (v := .ref v47) (ty := tyX9 6) (C := RX9) (F := TX9) (N := 14) hx hb hts uX9 tyX9 tyX9_ok nmX9 hown hkb hH hS 0 rfl rfl 6 (by decide) kw_132 (fun _ h9 => h9) rfl hnm rfl (tyX9_ok 6 (by decide)) rfl rfl (Nat.le_of_ble_eq_true rfl) dX9_init_49 (fun H locs hH hS => ?_)
  have hH : HT D cs A T47 O ((a0, .inr (9, [.int v27, .int v36, .int 0, .int 0, .int 0, .int 0, .ref v47, .null, .null, .null, .null, .null, .int 0, .int 0])) :: X) H := hH
  refine lv_aload_n hx hb dX9_init_52 rfl (lv_at hl 0 rfl) ?_
  refine lv_aload_n hx hb dX9_init_53 rfl (lv_at hl 0 rfl) ?_
  refine x_getk (ci := 9) (C := RX9) (F := TX9) (N := 14) (v := .int v27) hx hb hts uX9 hown hkb hH 0 rfl rfl 0 (by decide) rfl kw_106 (fun _ h9 => h9) dX9_init_54 ?_
  refine t_newI (N' := (v27.toInt.toNat)) (k := 0) hx hb hts kw_92 hkb hH (ox_n hOX9) hS hA (by omega) (by omega) (cp_0 _) (Nat.le_of_ble_eq_true rfl) (by show 14 + (v27.toInt.toNat) ≤ 52; omega) dX9_init_57 (fun v57 T57 H le_T57 t_v57 hH hS => ?_)
  have t_v47 := le_T57.1 _ _ t_v47
  have hO := okO.le le_T57.1 hO
  refine W.widen (k := 2) (n := 28) (Nat.le_of_ble_eq_true rfl) (by omega) ?_
  refine x_putkF (ci := 9) (v := .ref v57) (ty := tyX9 7) (C := RX9) (F := TX9) (N := 14) hx hb hts uX9 tyX9 tyX9_ok nmX9 hown hkb hH hS 0 rfl rfl 7 (by decide) kw_135 (fun _ h9 => h9) rfl hnm rfl (tyX9_ok 7 (by decide)) rfl rfl (Nat.le_of_ble_eq_true rfl) dX9_init_59 (fun H locs hH hS => ?_)
  have hH : HT D cs A T57 O ((a0, .inr (9, [.int v27, .int v36, .int 0, .int 0, .int 0, .int 0, .ref v47, .ref v57, .null, .null, .null, .null, .int 0, .int 0])) :: X) H := hH
  refine lv_aload_n hx hb dX9_init_62 rfl (lv_at hl 0 rfl) ?_
  refine lv_aload_n hx hb dX9_init_63 rfl (lv_at hl 0 rfl) ?_
  refine x_getk (ci := 9) (C := RX9) (F := TX9) (N := 14) (v := .int v27) hx hb hts uX9 hown hkb hH 0 rfl rfl 0 (by decide) rfl kw_106 (fun _ h9 => h9) dX9_init_64 ?_
  refine t_newI (N' := (v27.toInt.toNat)) (k := 0) hx hb hts kw_92 hkb hH (ox_n hOX9) hS hA (by omega) (by omega) (cp_0 _) (Nat.le_of_ble_eq_true rfl) (by show 28 + (v27.toInt.toNat) ≤ 52; omega) dX9_init_67 (fun v67 T67 H le_T67 t_v67 hH hS => ?_)
  have t_v47 := le_T67.1 _ _ t_v47
  have t_v57 := le_T67.1 _ _ t_v57
  have hO := okO.le le_T67.1 hO
  refine W.widen (k := 3) (n := 42) (Nat.le_of_ble_eq_true rfl) (by omega) ?_
  refine x_putkF (ci := 9) (v := .ref v67) (ty := tyX9 8) (C := RX9) (F := TX9) (N := 14) hx hb hts uX9 tyX9 tyX9_ok nmX9 hown hkb hH hS 0 rfl rfl 8 (by decide) kw_138 (fun _ h9 => h9) rfl hnm rfl (tyX9_ok 8 (by decide)) rfl rfl (Nat.le_of_ble_eq_true rfl) dX9_init_69 (fun H locs hH hS => ?_)
  have hH : HT D cs A T67 O ((a0, .inr (9, [.int v27, .int v36, .int 0, .int 0, .int 0, .int 0, .ref v47, .ref v57, .ref v67, .null, .null, .null, .int 0, .int 0])) :: X) H := hH
  refine lv_aload_n hx hb dX9_init_72 rfl (lv_at hl 0 rfl) ?_
  refine lv_aload_n hx hb dX9_init_73 rfl (lv_at hl 0 rfl) ?_
  refine x_getk (ci := 9) (C := RX9) (F := TX9) (N := 14) (v := .int v36) hx hb hts uX9 hown hkb hH 0 rfl rfl 1 (by decide) rfl kw_110 (fun _ h9 => h9) dX9_init_74 ?_
  refine t_newI (N' := (v36.toInt.toNat)) (k := 0) hx hb hts kw_92 hkb hH (ox_n hOX9) hS hA (by omega) (by omega) (cp_0 _) (Nat.le_of_ble_eq_true rfl) (by show 42 + (v36.toInt.toNat) ≤ 52; omega) dX9_init_77 (fun v77 T77 H le_T77 t_v77 hH hS => ?_)
  have t_v47 := le_T77.1 _ _ t_v47
  have t_v57 := le_T77.1 _ _ t_v57
  have t_v67 := le_T77.1 _ _ t_v67
  have hO := okO.le le_T77.1 hO
  refine W.widen (k := 4) (n := 47) (Nat.le_of_ble_eq_true rfl) (by omega) ?_
  refine x_putkF (ci := 9) (v := .ref v77) (ty := tyX9 9) (C := RX9) (F := TX9) (N := 14) hx hb hts uX9 tyX9 tyX9_ok nmX9 hown hkb hH hS 0 rfl rfl 9 (by decide) kw_141 (fun _ h9 => h9) rfl hnm rfl (tyX9_ok 9 (by decide)) rfl rfl (Nat.le_of_ble_eq_true rfl) dX9_init_79 (fun H locs hH hS => ?_)
  have hH : HT D cs A T77 O ((a0, .inr (9, [.int v27, .int v36, .int 0, .int 0, .int 0, .int 0, .ref v47, .ref v57, .ref v67, .ref v77, .null, .null, .int 0, .int 0])) :: X) H := hH
  refine lv_aload_n hx hb dX9_init_82 rfl (lv_at hl 0 rfl) ?_
  refine lv_aload_n hx hb dX9_init_83 rfl (lv_at hl 0 rfl) ?_
  refine x_getk (ci := 9) (C := RX9) (F := TX9) (N := 14) (v := .int v36) hx hb hts uX9 hown hkb hH 0 rfl rfl 1 (by decide) rfl kw_110 (fun _ h9 => h9) dX9_init_84 ?_
  refine t_newI (N' := (v36.toInt.toNat)) (k := 0) hx hb hts kw_92 hkb hH (ox_n hOX9) hS hA (by omega) (by omega) (cp_0 _) (Nat.le_of_ble_eq_true rfl) (by show 47 + (v36.toInt.toNat) ≤ 52; omega) dX9_init_87 (fun v87 T87 H le_T87 t_v87 hH hS => ?_)
  have t_v47 := le_T87.1 _ _ t_v47
  have t_v57 := le_T87.1 _ _ t_v57
  have t_v67 := le_T87.1 _ _ t_v67
  have t_v77 := le_T87.1 _ _ t_v77
  have hO := okO.le le_T87.1 hO
  refine W.widen (k := 5) (n := 52) (Nat.le_of_ble_eq_true rfl) (by omega) ?_
  refine x_putkF (ci := 9) (v := .ref v87) (ty := tyX9 10) (C := RX9) (F := TX9) (N := 14) hx hb hts uX9 tyX9 tyX9_ok nmX9 hown hkb hH hS 0 rfl rfl 10 (by decide) kw_144 (fun _ h9 => h9) rfl hnm rfl (tyX9_ok 10 (by decide)) rfl rfl (Nat.le_of_ble_eq_true rfl) dX9_init_89 (fun H locs hH hS => ?_)
  have hH : HT D cs A T87 O ((a0, .inr (9, [.int v27, .int v36, .int 0, .int 0, .int 0, .int 0, .ref v47, .ref v57, .ref v67, .ref v77, .ref v87, .null, .int 0, .int 0])) :: X) H := hH
  refine lv_aload_n hx hb dX9_init_92 rfl (lv_at hl 0 rfl) ?_
  refine lv_aload_nN hx hb dX9_init_93 rfl (lv_at hl 3 rfl) ?_
  refine x_putkF (ci := 9) (v := .null) (ty := tyX9 11) (C := RX9) (F := TX9) (N := 14) hx hb hts uX9 tyX9 tyX9_ok nmX9 hown hkb hH hS 0 rfl rfl 11 (by decide) kw_147 (fun _ h9 => h9) rfl hnm rfl (tyX9_ok 11 (by decide)) rfl rfl (Nat.le_of_ble_eq_true rfl) dX9_init_94 (fun H locs hH hS => ?_)
  have hH : HT D cs A T87 O ((a0, .inr (9, [.int v27, .int v36, .int 0, .int 0, .int 0, .int 0, .ref v47, .ref v57, .ref v67, .ref v77, .ref v87, .null, .int 0, .int 0])) :: X) H := hH
  refine lv_aload_n hx hb dX9_init_97 rfl (lv_at hl 0 rfl) ?_
  refine lv_aload_nN hx hb dX9_init_98 rfl (lv_at hl 3 rfl) ?_
  refine lv_ifnullN (tgt := 115) hx hb dX9_init_99 (by decide) ?_
  refine lv_iconst (v := 0) hx hb dX9_init_115 (by decide) ?_
  refine x_putkF (ci := 9) (v := .int 0) (ty := tyX9 12) (C := RX9) (F := TX9) (N := 14) hx hb hts uX9 tyX9 tyX9_ok nmX9 hown hkb hH hS 0 rfl rfl 12 (by decide) kw_148 (fun _ h9 => h9) rfl hnm rfl (tyX9_ok 12 (by decide)) rfl rfl (Nat.le_of_ble_eq_true rfl) dX9_init_116 (fun H locs hH hS => ?_)
  have hH : HT D cs A T87 O ((a0, .inr (9, [.int v27, .int v36, .int 0, .int 0, .int 0, .int 0, .ref v47, .ref v57, .ref v67, .ref v77, .ref v87, .null, .int 0, .int 0])) :: X) H := hH
  refine lv_aload_n hx hb dX9_init_119 rfl (lv_at hl 0 rfl) ?_
  refine lv_aload_nN hx hb dX9_init_120 rfl (lv_at hl 3 rfl) ?_
  refine lv_ifnullN (tgt := 132) hx hb dX9_init_121 (by decide) ?_
  refine lv_iconst (v := 1) hx hb dX9_init_132 (by decide) ?_
  refine lv_goto (tgt := 137) hx hb dX9_init_133 (by decide) ?_
  refine x_putkF (ci := 9) (v := .int 1) (ty := tyX9 13) (C := RX9) (F := TX9) (N := 14) hx hb hts uX9 tyX9 tyX9_ok nmX9 hown hkb hH hS 0 rfl rfl 13 (by decide) kw_149 (fun _ h9 => h9) rfl hnm rfl (tyX9_ok 13 (by decide)) rfl rfl (Nat.le_of_ble_eq_true rfl) dX9_init_137 (fun H locs hH hS => ?_)
  have hH : HT D cs A T87 O ((a0, .inr (9, [.int v27, .int v36, .int 0, .int 0, .int 0, .int 0, .ref v47, .ref v57, .ref v67, .ref v77, .ref v87, .null, .int 0, .int 1])) :: X) H := hH
  have z9_0 : (0 : Int32).toInt = 0 := by decide
  have z9_1 : (1 : Int32).toInt = 1 := by decide
  have z9_0 : (0 : Int32).toInt = 0 := by decide
  have z9_0 : (0 : Int32).toInt = 0 := by decide
  have z9_0 : (0 : Int32).toInt = 0 := by decide
  have z9_0 : (0 : Int32).toInt = 0 := by decide
  have z9_0 : (0 : Int32).toInt = 0 := by decide
  have z9_1 : (1 : Int32).toInt = 1 := by decide
  exact te_v hx hb hr hlocks hH hS (⟨T87, (Tgr.tr (Tgr.tr (Tgr.tr (Tgr.tr le_T47 le_T57) le_T67) le_T77) le_T87), v27, v36, v47, v57, v67, v77, v87, (0 : Int32), (1 : Int32), rfl, by omega, by omega, t_v47, t_v57, t_v67, t_v77, t_v87, by omega, by omega, by omega, by omega⟩) dX9_init_140
set_option maxHeartbeats 4000000 in
set_option maxRecDepth 100000 in
theorem s_Wall_initL (l : Launch) (D : va_G) (cs : CS) (kf : KF) (T : TF) (O : List Nat) (X : va_W) (a0 : Nat) (x1 : Int32) (x2 : Int32) (a3 na3 : Nat) (hOX9 : ∀ o ∈ O, ∃ (k : Nat) (e : va_E), X[k]? = some (o, e)) (l_x1 : 0 ≤ x1.toInt) (u_x1 : x1.toInt ≤ 14) (l_x2 : 0 ≤ x2.toInt) (u_x2 : x2.toInt ≤ 5) (t_a3 : T a3 = some (12, na3, 0)) (b_a3 : na3 ≤ 900) (hO : okO T O [1, 12]) : TK l D cs kf yX9_init cX9_init 4 none { frames := 1, cells := 5, slots := 52, locals := 23 } [.ref a0, .int x1, .int x2, .ref a3] T O ((a0, .inr (9, [.int 0, .int 0, .int 0, .int 0, .int 0, .int 0, .null, .null, .null, .null, .null, .null, .int 0, .int 0])) :: X) (Tv D cs (fun u => ∃ T2 : TF, Tgr T T2 ∧ ∃ (n0_0 : Int32) (n0_1 : Int32) (n0_6 : Nat) (n0_7 : Nat) (n0_8 : Nat) (n0_9 : Nat) (n0_10 : Nat) (n0_12 : Int32) (n0_13 : Int32), u = (T2, O, (a0, .inr (9, [.int n0_0, .int n0_1, .int 0, .int 0, .int 0, .int 0, .ref n0_6, .ref n0_7, .ref n0_8, .ref n0_9, .ref n0_10, .ref a3, .int n0_12, .int n0_13])) :: X) ∧ (n0_0.toInt = x1.toInt) ∧ (n0_1.toInt = x2.toInt) ∧ (T2 n0_6 = some (1, n0_0.toInt.toNat, 0)) ∧ (T2 n0_7 = some (1, n0_0.toInt.toNat, 0)) ∧ (T2 n0_8 = some (1, n0_0.toInt.toNat, 0)) ∧ (T2 n0_9 = some (1, n0_1.toInt.toNat, 0)) ∧ (T2 n0_10 = some (1, n0_1.toInt.toNat, 0)) ∧ (0 ≤ n0_12.toInt) ∧ (n0_12.toInt ≤ 1) ∧ (0 ≤ n0_13.toInt) ∧ (n0_13.toInt ≤ 1))) := by
  refine tk_of (by decide) (Nat.le_of_ble_eq_true rfl) (fun p e s m below meth c ls A H locs hx hb hr hml hown hts hlocks hnm hkb hH hS hA hOX hks hE hl => ?_)
  have hown : s.vm.findClass RX9 = some m.cls := hown
  have hl : lv_has ls 4 [(0, .ref a0), (1, .int x1), (2, .int x2), (3, .ref a3)] := hl
  have hOXf := hOX
  refine lv_aload_n hx hb dX9_init_0 rfl (lv_at hl 0 rfl) ?_
  refine W.objInit hx hb hown (hts _ kw_98) (hts _ kw_30) (hts _ kw_31) rfl (by rw [hml]; exact hl.1) rfl dX9_init_1 (Nat.le_of_ble_eq_true rfl) (Nat.le_of_ble_eq_true rfl) ?_
  refine W.eq (g2 := F0 m 4 ls []) rfl ?_
  refine lv_aload_n hx hb dX9_init_4 rfl (lv_at hl 0 rfl) ?_
  refine lv_iconst (v := 0) hx hb dX9_init_5 (by decide) ?_
  refine x_putk (ci := 9) (v := .int 0) (ty := tyX9 2) (C := RX9) (F := TX9) (N := 14) hx hb hts uX9 tyX9 tyX9_ok nmX9 hown hkb hH hS 0 rfl rfl 2 (by decide) kw_113 (fun _ h9 => h9) rfl (tyX9_ok 2 (by decide)) rfl rfl (Nat.le_of_ble_eq_true rfl) dX9_init_6 (fun H locs hH hS => ?_)
  have hH : HT D cs A T O ((a0, .inr (9, [.int 0, .int 0, .int 0, .int 0, .int 0, .int 0, .null, .null, .null, .null, .null, .null, .int 0, .int 0])) :: X) H := hH
  refine lv_aload_n hx hb dX9_init_9 rfl (lv_at hl 0 rfl) ?_
  refine lv_iconst (v := 0) hx hb dX9_init_10 (by decide) ?_
  refine x_putk (ci := 9) (v := .int 0) (ty := tyX9 3) (C := RX9) (F := TX9) (N := 14) hx hb hts uX9 tyX9 tyX9_ok nmX9 hown hkb hH hS 0 rfl rfl 3 (by decide) kw_116 (fun _ h9 => h9) rfl (tyX9_ok 3 (by decide)) rfl rfl (Nat.le_of_ble_eq_true rfl) dX9_init_11 (fun H locs hH hS => ?_)
  have hH : HT D cs A T O ((a0, .inr (9, [.int 0, .int 0, .int 0, .int 0, .int 0, .int 0, .null, .null, .null, .null, .null, .null, .int 0, .int 0])) :: X) H := hH
  refine lv_aload_n hx hb dX9_init_14 rfl (lv_at hl 0 rfl) ?_
  refine lv_iconst (v := 0) hx hb dX9_init_15 (by decide) ?_
  refine x_putk (ci := 9) (v := .int 0) (ty := tyX9 4) (C := RX9) (F := TX9) (N := 14) hx hb hts uX9 tyX9 tyX9_ok nmX9 hown hkb hH hS 0 rfl rfl 4 (by decide) kw_123 (fun _ h9 => h9) rfl (tyX9_ok 4 (by decide)) rfl rfl (Nat.le_of_ble_eq_true rfl) dX9_init_16 (fun H locs hH hS => ?_)
  have hH : HT D cs A T O ((a0, .inr (9, [.int 0, .int 0, .int 0, .int 0, .int 0, .int 0, .null, .null, .null, .null, .null, .null, .int 0, .int 0])) :: X) H := hH
  refine lv_aload_n hx hb dX9_init_19 rfl (lv_at hl 0 rfl) ?_
  refine lv_iconst (v := 0) hx hb dX9_init_20 (by decide) ?_
  refine x_putk (ci := 9) (v := .int 0) (ty := tyX9 5) (C := RX9) (F := TX9) (N := 14) hx hb hts uX9 tyX9 tyX9_ok nmX9 hown hkb hH hS 0 rfl rfl 5 (by decide) kw_130 (fun _ h9 => h9) rfl (tyX9_ok 5 (by decide)) rfl rfl (Nat.le_of_ble_eq_true rfl) dX9_init_21 (fun H locs hH hS => ?_)
  have hH : HT D cs A T O ((a0, .inr (9, [.int 0, .int 0, .int 0, .int 0, .int 0, .int 0, .null, .null, .null, .null, .null, .null, .int 0, .int 0])) :: X) H := hH
  refine lv_aload_n hx hb dX9_init_24 rfl (lv_at hl 0 rfl) ?_
  refine lv_iconst (v := 0) hx hb dX9_init_25 (by decide) ?_
  refine lv_iload_n hx hb dX9_init_26 rfl (lv_at hl 1 rfl) ?_
  refine va_mmax hx hb (by rw [hml]; exact hl.1.symm) hown (hts _ kw_99) (hts _ kw_100) (hts _ kw_6) (hts _ kw_101) (Nat.le_of_ble_eq_true rfl) (Nat.le_of_ble_eq_true rfl) (Nat.le_of_ble_eq_true rfl) (Nat.le_of_ble_eq_true rfl) dX9_init_27 ?_
  refine lv_topi (fun v27 ev27 => ?_)
  have tv27 : v27.toInt = max (0) x1.toInt := by rw [ev27]; exact max_i (by decide : (0 : Int32).toInt = 0) rfl
  refine x_putk (ci := 9) (v := .int v27) (ty := tyX9 0) (C := RX9) (F := TX9) (N := 14) hx hb hts uX9 tyX9 tyX9_ok nmX9 hown hkb hH hS 0 rfl rfl 0 (by decide) kw_106 (fun _ h9 => h9) rfl (tyX9_ok 0 (by decide)) rfl rfl (Nat.le_of_ble_eq_true rfl) dX9_init_30 (fun H locs hH hS => ?_)
  have hH : HT D cs A T O ((a0, .inr (9, [.int v27, .int 0, .int 0, .int 0, .int 0, .int 0, .null, .null, .null, .null, .null, .null, .int 0, .int 0])) :: X) H := hH
  refine lv_aload_n hx hb dX9_init_33 rfl (lv_at hl 0 rfl) ?_
  refine lv_iconst (v := 0) hx hb dX9_init_34 (by decide) ?_
  refine lv_iload_n hx hb dX9_init_35 rfl (lv_at hl 2 rfl) ?_
  refine va_mmax hx hb (by rw [hml]; exact hl.1.symm) hown (hts _ kw_99) (hts _ kw_100) (hts _ kw_6) (hts _ kw_101) (Nat.le_of_ble_eq_true rfl) (Nat.le_of_ble_eq_true rfl) (Nat.le_of_ble_eq_true rfl) (Nat.le_of_ble_eq_true rfl) dX9_init_36 ?_
  refine lv_topi (fun v36 ev36 => ?_)
  have tv36 : v36.toInt = max (0) x2.toInt := by rw [ev36]; exact max_i (by decide : (0 : Int32).toInt = 0) rfl
  refine x_putk (ci := 9) (v := .int v36) (ty := tyX9 1) (C := RX9) (F := TX9) (N := 14) hx hb hts uX9 tyX9 tyX9_ok nmX9 hown hkb hH hS 0 rfl rfl 1 (by decide) kw_110 (fun _ h9 => h9) rfl (tyX9_ok 1 (by decide)) rfl rfl (Nat.le_of_ble_eq_true rfl) dX9_init_39 (fun H locs hH hS => ?_)
  have hH : HT D cs A T O ((a0, .inr (9, [.int v27, .int v36, .int 0, .int 0, .int 0, .int 0, .null, .null, .null, .null, .null, .null, .int 0, .int 0])) :: X) H := hH
  refine lv_aload_n hx hb dX9_init_42 rfl (lv_at hl 0 rfl) ?_
  refine lv_aload_n hx hb dX9_init_43 rfl (lv_at hl 0 rfl) ?_
  refine x_getk (ci := 9) (C := RX9) (F := TX9) (N := 14) (v := .int v27) hx hb hts uX9 hown hkb hH 0 rfl rfl 0 (by decide) rfl kw_106 (fun _ h9 => h9) dX9_init_44 ?_
  refine t_newI (N' := (v27.toInt.toNat)) (k := 0) hx hb hts kw_92 hkb hH (ox_n hOX9) hS hA (by omega) (by omega) (cp_0 _) (Nat.le_of_ble_eq_true rfl) (by show 0 + (v27.toInt.toNat) ≤ 52; omega) dX9_init_47 (fun v47 T47 H le_T47 t_v47 hH hS => ?_)
  have t_a3 := le_T47.1 _ _ t_a3
  have hO := okO.le le_T47.1 hO
  refine W.widen (k := 1) (n := 14) (Nat.le_of_ble_eq_true rfl) (by omega) ?_
  refine x_putkF (ci := 9) (v := .ref v47) (ty := tyX9 6) (C := RX9) (F := TX9) (N := 14) hx hb hts uX9 tyX9 tyX9_ok nmX9 hown hkb hH hS 0 rfl rfl 6 (by decide) kw_132 (fun _ h9 => h9) rfl hnm rfl (tyX9_ok 6 (by decide)) rfl rfl (Nat.le_of_ble_eq_true rfl) dX9_init_49 (fun H locs hH hS => ?_)
  have hH : HT D cs A T47 O ((a0, .inr (9, [.int v27, .int v36, .int 0, .int 0, .int 0, .int 0, .ref v47, .null, .null, .null, .null, .null, .int 0, .int 0])) :: X) H := hH
  refine lv_aload_n hx hb dX9_init_52 rfl (lv_at hl 0 rfl) ?_
  refine lv_aload_n hx hb dX9_init_53 rfl (lv_at hl 0 rfl) ?_
  refine x_getk (ci := 9) (C := RX9) (F := TX9) (N := 14) (v := .int v27) hx hb hts uX9 hown hkb hH 0 rfl rfl 0 (by decide) rfl kw_106 (fun _ h9 => h9) dX9_init_54 ?_
  refine t_newI (N' := (v27.toInt.toNat)) (k := 0) hx hb hts kw_92 hkb hH (ox_n hOX9) hS hA (by omega) (by omega) (cp_0 _) (Nat.le_of_ble_eq_true rfl) (by show 14 + (v27.toInt.toNat) ≤ 52; omega) dX9_init_57 (fun v57 T57 H le_T57 t_v57 hH hS => ?_)
  have t_a3 := le_T57.1 _ _ t_a3
  have t_v47 := le_T57.1 _ _ t_v47
  have hO := okO.le le_T57.1 hO
  refine W.widen (k := 2) (n := 28) (Nat.le_of_ble_eq_true rfl) (by omega) ?_
  refine x_putkF (ci := 9) (v := .ref v57) (ty := tyX9 7) (C := RX9) (F := TX9) (N := 14) hx hb hts uX9 tyX9 tyX9_ok nmX9 hown hkb hH hS 0 rfl rfl 7 (by decide) kw_135 (fun _ h9 => h9) rfl hnm rfl (tyX9_ok 7 (by decide)) rfl rfl (Nat.le_of_ble_eq_true rfl) dX9_init_59 (fun H locs hH hS => ?_)
  have hH : HT D cs A T57 O ((a0, .inr (9, [.int v27, .int v36, .int 0, .int 0, .int 0, .int 0, .ref v47, .ref v57, .null, .null, .null, .null, .int 0, .int 0])) :: X) H := hH
  refine lv_aload_n hx hb dX9_init_62 rfl (lv_at hl 0 rfl) ?_
  refine lv_aload_n hx hb dX9_init_63 rfl (lv_at hl 0 rfl) ?_
  refine x_getk (ci := 9) (C := RX9) (F := TX9) (N := 14) (v := .int v27) hx hb hts uX9 hown hkb hH 0 rfl rfl 0 (by decide) rfl kw_106 (fun _ h9 => h9) dX9_init_64 ?_
  refine t_newI (N' := (v27.toInt.toNat)) (k := 0) hx hb hts kw_92 hkb hH (ox_n hOX9) hS hA (by omega) (by omega) (cp_0 _) (Nat.le_of_ble_eq_true rfl) (by show 28 + (v27.toInt.toNat) ≤ 52; omega) dX9_init_67 (fun v67 T67 H le_T67 t_v67 hH hS => ?_)
  have t_a3 := le_T67.1 _ _ t_a3
  have t_v47 := le_T67.1 _ _ t_v47
  have t_v57 := le_T67.1 _ _ t_v57
  have hO := okO.le le_T67.1 hO
  refine W.widen (k := 3) (n := 42) (Nat.le_of_ble_eq_true rfl) (by omega) ?_
  refine x_putkF (ci := 9) (v := .ref v67) (ty := tyX9 8) (C := RX9) (F := TX9) (N := 14) hx hb hts uX9 tyX9 tyX9_ok nmX9 hown hkb hH hS 0 rfl rfl 8 (by decide) kw_138 (fun _ h9 => h9) rfl hnm rfl (tyX9_ok 8 (by decide)) rfl rfl (Nat.le_of_ble_eq_true rfl) dX9_init_69 (fun H locs hH hS => ?_)
  have hH : HT D cs A T67 O ((a0, .inr (9, [.int v27, .int v36, .int 0, .int 0, .int 0, .int 0, .ref v47, .ref v57, .ref v67, .null, .null, .null, .int 0, .int 0])) :: X) H := hH
  refine lv_aload_n hx hb dX9_init_72 rfl (lv_at hl 0 rfl) ?_
  refine lv_aload_n hx hb dX9_init_73 rfl (lv_at hl 0 rfl) ?_
  refine x_getk (ci := 9) (C := RX9) (F := TX9) (N := 14) (v := .int v36) hx hb hts uX9 hown hkb hH 0 rfl rfl 1 (by decide) rfl kw_110 (fun _ h9 => h9) dX9_init_74 ?_
  refine t_newI (N' := (v36.toInt.toNat)) (k := 0) hx hb hts kw_92 hkb hH (ox_n hOX9) hS hA (by omega) (by omega) (cp_0 _) (Nat.le_of_ble_eq_true rfl) (by show 42 + (v36.toInt.toNat) ≤ 52; omega) dX9_init_77 (fun v77 T77 H le_T77 t_v77 hH hS => ?_)
  have t_a3 := le_T77.1 _ _ t_a3
  have t_v47 := le_T77.1 _ _ t_v47
  have t_v57 := le_T77.1 _ _ t_v57
  have t_v67 := le_T77.1 _ _ t_v67
  have hO := okO.le le_T77.1 hO
  refine W.widen (k := 4) (n := 47) (Nat.le_of_ble_eq_true rfl) (by omega) ?_
  refine x_putkF (ci := 9) (v := .ref v77) (ty := tyX9 9) (C := RX9) (F := TX9) (N := 14) hx hb hts uX9 tyX9 tyX9_ok nmX9 hown hkb hH hS 0 rfl rfl 9 (by decide) kw_141 (fun _ h9 => h9) rfl hnm rfl (tyX9_ok 9 (by decide)) rfl rfl (Nat.le_of_ble_eq_true rfl) dX9_init_79 (fun H locs hH hS => ?_)
  have hH : HT D cs A T77 O ((a0, .inr (9, [.int v27, .int v36, .int 0, .int 0, .int 0, .int 0, .ref v47, .ref v57, .ref v67, .ref v77, .null, .null, .int 0, .int 0])) :: X) H := hH
  refine lv_aload_n hx hb dX9_init_82 rfl (lv_at hl 0 rfl) ?_
  refine lv_aload_n hx hb dX9_init_83 rfl (lv_at hl 0 rfl) ?_
  refine x_getk (ci := 9) (C := RX9) (F := TX9) (N := 14) (v := .int v36) hx hb hts uX9 hown hkb hH 0 rfl rfl 1 (by decide) rfl kw_110 (fun _ h9 => h9) dX9_init_84 ?_
  refine t_newI (N' := (v36.toInt.toNat)) (k := 0) hx hb hts kw_92 hkb hH (ox_n hOX9) hS hA (by omega) (by omega) (cp_0 _) (Nat.le_of_ble_eq_true rfl) (by show 47 + (v36.toInt.toNat) ≤ 52; omega) dX9_init_87 (fun v87 T87 H le_T87 t_v87 hH hS => ?_)
  have t_a3 := le_T87.1 _ _ t_a3
  have t_v47 := le_T87.1 _ _ t_v47
  have t_v57 := le_T87.1 _ _ t_v57
  have t_v67 := le_T87.1 _ _ t_v67
  have t_v77 := le_T87.1 _ _ t_v77
  have hO := okO.le le_T87.1 hO
  refine W.widen (k := 5) (n := 52) (Nat.le_of_ble_eq_true rfl) (by omega) ?_
  refine x_putkF (ci := 9) (v := .ref v87) (ty := tyX9 10) (C := RX9) (F := TX9) (N := 14) hx hb hts uX9 tyX9 tyX9_ok nmX9 hown hkb hH hS 0 rfl rfl 10 (by decide) kw_144 (fun _ h9 => h9) rfl hnm rfl (tyX9_ok 10 (by decide)) rfl rfl (Nat.le_of_ble_eq_true rfl) dX9_init_89 (fun H locs hH hS => ?_)
  have hH : HT D cs A T87 O ((a0, .inr (9, [.int v27, .int v36, .int 0, .int 0, .int 0, .int 0, .ref v47, .ref v57, .ref v67, .ref v77, .ref v87, .null, .int 0, .int 0])) :: X) H := hH
  refine lv_aload_n hx hb dX9_init_92 rfl (lv_at hl 0 rfl) ?_
  refine lv_aload_n hx hb dX9_init_93 rfl (lv_at hl 3 rfl) ?_
  refine x_putkF (ci := 9) (v := .ref a3) (ty := tyX9 11) (C := RX9) (F := TX9) (N := 14) hx hb hts uX9 tyX9 tyX9_ok nmX9 hown hkb hH hS 0 rfl rfl 11 (by decide) kw_147 (fun _ h9 => h9) rfl hnm rfl (tyX9_ok 11 (by decide)) rfl rfl (Nat.le_of_ble_eq_true rfl) dX9_init_94 (fun H locs hH hS => ?_)
  have hH : HT D cs A T87 O ((a0, .inr (9, [.int v27, .int v36, .int 0, .int 0, .int 0, .int 0, .ref v47, .ref v57, .ref v67, .ref v77, .ref v87, .ref a3, .int 0, .int 0])) :: X) H := hH
  refine lv_aload_n hx hb dX9_init_97 rfl (lv_at hl 0 rfl) ?_
  refine lv_aload_n hx hb dX9_init_98 rfl (lv_at hl 3 rfl) ?_
  refine lv_ifnull hx hb dX9_init_99 ?_
  refine lv_aload_n hx hb dX9_init_102 rfl (lv_at hl 3 rfl) ?_
  refine lv_bipush (v := 6) hx hb dX9_init_103 (by decide) ?_
  refine tk_i hH hS hA (tr_V (n := 1) (As := [.int 6]) hx hb hml hown hts hkb hH (ox_n hOX9) hks hE hS hA (s_Law_asks l D cs kf T87 O ((a0, .inr (9, [.int v27, .int v36, .int 0, .int 0, .int 0, .int 0, .ref v47, .ref v57, .ref v67, .ref v77, .ref v87, .ref a3, .int 0, .int 0])) :: X) a3 na3 (6) t_a3 b_a3 (hO.sub (by decide))) kw_102 kw_103 kw_104 kw_21 kw_105 (by decide +kernel) ⟨Nat.le_of_ble_eq_true rfl, Nat.le_of_ble_eq_true rfl⟩ (HT.recv (ci := 2) hkb hH t_a3 (hO.no t_a3 (by decide)) rfl) rfl rfl hl.1 (Nat.le_of_ble_eq_true rfl) dX9_init_105 ⟨Nat.le_of_ble_eq_true rfl, Nat.le_of_ble_eq_true rfl⟩) (fun v105 u H locs hz9 hH hS => ?_)
  obtain ⟨rfl, l_v105, u_v105⟩ := hz9
  have hH : HT D cs A T87 O ((a0, .inr (9, [.int v27, .int v36, .int 0, .int 0, .int 0, .int 0, .ref v47, .ref v57, .ref v67, .ref v77, .ref v87, .ref a3, .int 0, .int 0])) :: X) H := hH
  refine W.widen (k := 5) (n := 52) (Nat.le_of_ble_eq_true rfl) (Nat.le_of_ble_eq_true rfl) ?_
  have J124 : ∀ (f124_112 : Int32) (H : Heap) (locs : List Loc) (ls : Array Slot), (0 ≤ f124_112.toInt) → (f124_112.toInt ≤ 1) → HT D cs A T87 O ((a0, .inr (9, [.int v27, .int v36, .int 0, .int 0, .int 0, .int 0, .ref v47, .ref v57, .ref v67, .ref v77, .ref v87, .ref a3, .int f124_112, .int 0])) :: X) H → va_S A s.heap H locs → lv_has ls 4 [(3, .ref a3)] → W p l e { frames := 1, cells := 5, slots := 52, locals := 23 } s m [.ref a0, .int x1, .int x2, .ref a3].toArray below meth c H locs 5 52 (MQ below (Tv D cs (fun u => ∃ T2 : TF, Tgr T T2 ∧ ∃ (n0_0 : Int32) (n0_1 : Int32) (n0_6 : Nat) (n0_7 : Nat) (n0_8 : Nat) (n0_9 : Nat) (n0_10 : Nat) (n0_12 : Int32) (n0_13 : Int32), u = (T2, O, (a0, .inr (9, [.int n0_0, .int n0_1, .int 0, .int 0, .int 0, .int 0, .ref n0_6, .ref n0_7, .ref n0_8, .ref n0_9, .ref n0_10, .ref a3, .int n0_12, .int n0_13])) :: X) ∧ (n0_0.toInt = x1.toInt) ∧ (n0_1.toInt = x2.toInt) ∧ (T2 n0_6 = some (1, n0_0.toInt.toNat, 0)) ∧ (T2 n0_7 = some (1, n0_0.toInt.toNat, 0)) ∧ (T2 n0_8 = some (1, n0_0.toInt.toNat, 0)) ∧ (T2 n0_9 = some (1, n0_1.toInt.toNat, 0)) ∧ (T2 n0_10 = some (1, n0_1.toInt.toNat, 0)) ∧ (0 ≤ n0_12.toInt) ∧ (n0_12.toInt ≤ 1) ∧ (0 ≤ n0_13.toInt) ∧ (n0_13.toInt ≤ 1)) A) [.ref a0, .int x1, .int x2, .ref a3].toArray s 5 52 A) (F0 m 124 ls [.ref a0]) := by
    intro f124_112 H locs ls l_f124_112 u_f124_112 hH hS hl
    refine lv_aload_n hx hb dX9_init_124 rfl (lv_at hl 0 rfl) ?_
    refine lv_iconst (v := 3) hx hb dX9_init_125 (by decide) ?_
    refine tk_i hH hS hA (tr_V (n := 1) (As := [.int 3]) hx hb hml hown hts hkb hH (ox_n hOX9) hks hE hS hA (s_Law_asks l D cs kf T87 O ((a0, .inr (9, [.int v27, .int v36, .int 0, .int 0, .int 0, .int 0, .ref v47, .ref v57, .ref v67, .ref v77, .ref v87, .ref a3, .int f124_112, .int 0])) :: X) a3 na3 (3) t_a3 b_a3 (hO.sub (by decide))) kw_102 kw_103 kw_104 kw_21 kw_105 (by decide +kernel) ⟨Nat.le_of_ble_eq_true rfl, Nat.le_of_ble_eq_true rfl⟩ (HT.recv (ci := 2) hkb hH t_a3 (hO.no t_a3 (by decide)) rfl) rfl rfl hl.1 (Nat.le_of_ble_eq_true rfl) dX9_init_126 ⟨Nat.le_of_ble_eq_true rfl, Nat.le_of_ble_eq_true rfl⟩) (fun v126 u H locs hz9 hH hS => ?_)
    obtain ⟨rfl, l_v126, u_v126⟩ := hz9
    have hH : HT D cs A T87 O ((a0, .inr (9, [.int v27, .int v36, .int 0, .int 0, .int 0, .int 0, .ref v47, .ref v57, .ref v67, .ref v77, .ref v87, .ref a3, .int f124_112, .int 0])) :: X) H := hH
    refine W.widen (k := 5) (n := 52) (Nat.le_of_ble_eq_true rfl) (Nat.le_of_ble_eq_true rfl) ?_
    refine lv_if_eq (tgt := 136) hx hb dX9_init_129 (by decide) (fun c129 => ?_) (fun c129 => ?_)
    · skip
      have tc129 := f_eq (k := 0) (by decide) c129
      refine lv_iconst (v := 0) hx hb dX9_init_136 (by decide) ?_
      refine x_putkF (ci := 9) (v := .int 0) (ty := tyX9 13) (C := RX9) (F := TX9) (N := 14) hx hb hts uX9 tyX9 tyX9_ok nmX9 hown hkb hH hS 0 rfl rfl 13 (by decide) kw_149 (fun _ h9 => h9) rfl hnm rfl (tyX9_ok 13 (by decide)) rfl rfl (Nat.le_of_ble_eq_true rfl) dX9_init_137 (fun H locs hH hS => ?_)
      have hH : HT D cs A T87 O ((a0, .inr (9, [.int v27, .int v36, .int 0, .int 0, .int 0, .int 0, .ref v47, .ref v57, .ref v67, .ref v77, .ref v87, .ref a3, .int f124_112, .int 0])) :: X) H := hH
      have z9_0 : (0 : Int32).toInt = 0 := by decide
      have z9_0 : (0 : Int32).toInt = 0 := by decide
      have z9_0 : (0 : Int32).toInt = 0 := by decide
      have z9_0 : (0 : Int32).toInt = 0 := by decide
      have z9_0 : (0 : Int32).toInt = 0 := by decide
      have z9_0 : (0 : Int32).toInt = 0 := by decide
      exact te_v hx hb hr hlocks hH hS (⟨T87, (Tgr.tr (Tgr.tr (Tgr.tr (Tgr.tr le_T47 le_T57) le_T67) le_T77) le_T87), v27, v36, v47, v57, v67, v77, v87, f124_112, (0 : Int32), rfl, by omega, by omega, t_v47, t_v57, t_v67, t_v77, t_v87, by omega, by omega, by omega, by omega⟩) dX9_init_140
    · skip
      have tc129 := f_ne (k := 0) (by decide) c129
      refine lv_iconst (v := 1) hx hb dX9_init_132 (by decide) ?_
      refine lv_goto (tgt := 137) hx hb dX9_init_133 (by decide) ?_
      refine x_putkF (ci := 9) (v := .int 1) (ty := tyX9 13) (C := RX9) (F := TX9) (N := 14) hx hb hts uX9 tyX9 tyX9_ok nmX9 hown hkb hH hS 0 rfl rfl 13 (by decide) kw_149 (fun _ h9 => h9) rfl hnm rfl (tyX9_ok 13 (by decide)) rfl rfl (Nat.le_of_ble_eq_true rfl) dX9_init_137 (fun H locs hH hS => ?_)
      have hH : HT D cs A T87 O ((a0, .inr (9, [.int v27, .int v36, .int 0, .int 0, .int 0, .int 0, .ref v47, .ref v57, .ref v67, .ref v77, .ref v87, .ref a3, .int f124_112, .int 1])) :: X) H := hH
      have z9_1 : (1 : Int32).toInt = 1 := by decide
      have z9_0 : (0 : Int32).toInt = 0 := by decide
      have z9_0 : (0 : Int32).toInt = 0 := by decide
      have z9_0 : (0 : Int32).toInt = 0 := by decide
      have z9_0 : (0 : Int32).toInt = 0 := by decide
      have z9_1 : (1 : Int32).toInt = 1 := by decide
      exact te_v hx hb hr hlocks hH hS (⟨T87, (Tgr.tr (Tgr.tr (Tgr.tr (Tgr.tr le_T47 le_T57) le_T67) le_T77) le_T87), v27, v36, v47, v57, v67, v77, v87, f124_112, (1 : Int32), rfl, by omega, by omega, t_v47, t_v57, t_v67, t_v77, t_v87, by omega, by omega, by omega, by omega⟩) dX9_init_140
  refine lv_if_eq (tgt := 115) hx hb dX9_init_108 (by decide) (fun c108 => ?_) (fun c108 => ?_)
  · skip
    have tc108 := f_eq (k := 0) (by decide) c108
    refine lv_iconst (v := 0) hx hb dX9_init_115 (by decide) ?_
    refine x_putkF (ci := 9) (v := .int 0) (ty := tyX9 12) (C := RX9) (F := TX9) (N := 14) hx hb hts uX9 tyX9 tyX9_ok nmX9 hown hkb hH hS 0 rfl rfl 12 (by decide) kw_148 (fun _ h9 => h9) rfl hnm rfl (tyX9_ok 12 (by decide)) rfl rfl (Nat.le_of_ble_eq_true rfl) dX9_init_116 (fun H locs hH hS => ?_)
    have hH : HT D cs A T87 O ((a0, .inr (9, [.int v27, .int v36, .int 0, .int 0, .int 0, .int 0, .ref v47, .ref v57, .ref v67, .ref v77, .ref v87, .ref a3, .int 0, .int 0])) :: X) H := hH
    refine lv_aload_n hx hb dX9_init_119 rfl (lv_at hl 0 rfl) ?_
    refine lv_aload_n hx hb dX9_init_120 rfl (lv_at hl 3 rfl) ?_
    refine lv_ifnull hx hb dX9_init_121 ?_
    exact J124 0 _ _ _ (by decide) (by decide) hH hS (lv_sub hl [3] rfl)
  · skip
    have tc108 := f_ne (k := 0) (by decide) c108
    refine lv_iconst (v := 1) hx hb dX9_init_111 (by decide) ?_
    refine lv_goto (tgt := 116) hx hb dX9_init_112 (by decide) ?_
    refine x_putkF (ci := 9) (v := .int 1) (ty := tyX9 12) (C := RX9) (F := TX9) (N := 14) hx hb hts uX9 tyX9 tyX9_ok nmX9 hown hkb hH hS 0 rfl rfl 12 (by decide) kw_148 (fun _ h9 => h9) rfl hnm rfl (tyX9_ok 12 (by decide)) rfl rfl (Nat.le_of_ble_eq_true rfl) dX9_init_116 (fun H locs hH hS => ?_)
    have hH : HT D cs A T87 O ((a0, .inr (9, [.int v27, .int v36, .int 0, .int 0, .int 0, .int 0, .ref v47, .ref v57, .ref v67, .ref v77, .ref v87, .ref a3, .int 1, .int 0])) :: X) H := hH
    refine lv_aload_n hx hb dX9_init_119 rfl (lv_at hl 0 rfl) ?_
    refine lv_aload_n hx hb dX9_init_120 rfl (lv_at hl 3 rfl) ?_
    refine lv_ifnull hx hb dX9_init_121 ?_
    exact J124 1 _ _ _ (by decide) (by decide) hH hS (lv_sub hl [3] rfl)
set_option maxHeartbeats 4000000 in
set_option maxRecDepth 100000 in
theorem s_Wall_cutN (l : Launch) (D : va_G) (cs : CS) (kf : KF) (T : TF) (O : List Nat) (X : va_W) (a0 : Nat) (t_a0 : T a0 = some (19, 100, 0)) (hO : okO T O [1, 19]) : TK l D cs kf yX9_cutToSize cX9_cutToSize 3 (some (.object "FootholdWall$Wall")) { frames := 2, cells := 6, slots := 66, locals := 60 } [.ref a0, .null] T O X (Tr D cs (fun u => ∃ T2 : TF, Tgr T T2 ∧ u.1 = (T2, O, X) ∧ (∃ h9 g9 : Nat, isW T2 u.2 h9 g9))) := by
  refine tk_of (by decide) (Nat.le_of_ble_eq_true rfl) (fun p e s m below meth c ls A H locs hx hb hr hml hown hts hlocks hnm hkb hH hS hA hOX hks hE hl => ?_)
  have hown : s.vm.findClass RX9 = some m.cls := hown
  have hl : lv_has ls 3 [(0, .ref a0), (1, .null)] := hl
  have hO0 := hO
  obtain ⟨fs9, ho9, hH⟩ := hH.take t_a0 (hO0.no t_a0 (by decide))
  have hp0 : okL T (ft9d 100 0) fs9 := (fun fs => (ob9d fs).mp) _ ho9
  clear ho9
  obtain ⟨v9, fs9, rfl, h9, hp1⟩ := okL_i hp0
  obtain ⟨q0_0, rfl, l_q0_0, u_q0_0⟩ := h9
  obtain ⟨v9, fs9, rfl, h9, hp2⟩ := okL_i hp1
  obtain ⟨q0_1, rfl, l_q0_1, u_q0_1⟩ := h9
  obtain ⟨v9, fs9, rfl, h9, hp3⟩ := okL_i hp2
  obtain ⟨q0_2, rfl⟩ := h9
  obtain ⟨v9, fs9, rfl, h9, hp4⟩ := okL_i hp3
  obtain ⟨q0_3, rfl, l_q0_3, u_q0_3⟩ := h9
  obtain ⟨v9, fs9, rfl, h9, hp5⟩ := okL_i hp4
  obtain ⟨q0_4, rfl, l_q0_4, u_q0_4⟩ := h9
  obtain ⟨v9, fs9, rfl, h9, hp6⟩ := okL_i hp5
  obtain ⟨q0_5, rfl, l_q0_5, u_q0_5⟩ := h9
  obtain ⟨v9, fs9, rfl, h9, hp7⟩ := okL_i hp6
  obtain ⟨q0_6, rfl, t_q0_6⟩ := h9
  obtain ⟨v9, fs9, rfl, h9, hp8⟩ := okL_i hp7
  obtain ⟨q0_7, rfl, t_q0_7⟩ := h9
  obtain ⟨v9, fs9, rfl, h9, hp9⟩ := okL_i hp8
  obtain ⟨q0_8, rfl, t_q0_8⟩ := h9
  obtain ⟨v9, fs9, rfl, h9, hp10⟩ := okL_i hp9
  obtain ⟨q0_9, rfl, t_q0_9⟩ := h9
  obtain ⟨v9, fs9, rfl, h9, hp11⟩ := okL_i hp10
  obtain ⟨q0_10, rfl, t_q0_10⟩ := h9
  obtain ⟨v9, fs9, rfl, h9, hp12⟩ := okL_i hp11
  have h9 : v9 = .null := h9
  subst h9
  obtain ⟨v9, fs9, rfl, h9, hp13⟩ := okL_i hp12
  obtain ⟨q0_12, rfl, l_q0_12, u_q0_12⟩ := h9
  obtain ⟨v9, fs9, rfl, h9, hp14⟩ := okL_i hp13
  obtain ⟨q0_13, rfl, l_q0_13, u_q0_13⟩ := h9
  have hpz := okL_z hp14
  subst hpz
  have hH : HT D cs A T (a0 :: O) ((a0, .inr (9, [.int q0_0, .int q0_1, .int q0_2, .int q0_3, .int q0_4, .int q0_5, .ref q0_6, .ref q0_7, .ref q0_8, .ref q0_9, .ref q0_10, .null, .int q0_12, .int q0_13])) :: X) H := hH
  have hO : okO T (a0 :: O) [1] := okO.cons (hO0.sub (by decide)) t_a0 (by decide)
  refine x_new (ci := 9) (C := RX9) (F := TX9) (N := 14) (fs := [.int 0, .int 0, .int 0, .int 0, .int 0, .int 0, .null, .null, .null, .null, .null, .null, .int 0, .int 0]) hx hb hts uX9 tyX9 tyX9_ok hown kw_754 kw_94 kw_5 hkb hH (ox_c hOX) hS hA rfl dfX9 (Nat.le_of_ble_eq_true rfl) (Nat.le_of_ble_eq_true rfl) dX9_cutToSize_0 (fun v0 H tn_v0 hH hS => ?_)
  have hH : HT D cs A T (a0 :: O) ((v0, .inr (9, [.int 0, .int 0, .int 0, .int 0, .int 0, .int 0, .null, .null, .null, .null, .null, .null, .int 0, .int 0])) :: (a0, .inr (9, [.int q0_0, .int q0_1, .int q0_2, .int q0_3, .int q0_4, .int q0_5, .ref q0_6, .ref q0_7, .ref q0_8, .ref q0_9, .ref q0_10, .null, .int q0_12, .int q0_13])) :: X) H := hH
  refine W.widen (k := 1) (n := 14) (Nat.le_of_ble_eq_true rfl) (Nat.le_of_ble_eq_true rfl) ?_
  refine lv_dup hx hb dX9_cutToSize_3 rfl ?_
  refine lv_aload_n hx hb dX9_cutToSize_4 rfl (lv_at hl 0 rfl) ?_
  refine x_getk (ci := 9) (C := RX9) (F := TX9) (N := 14) (v := .int q0_0) hx hb hts uX9 hown hkb hH 1 rfl rfl 0 (by decide) rfl kw_106 (fun _ h9 => h9) dX9_cutToSize_5 ?_
  refine lv_aload_n hx hb dX9_cutToSize_8 rfl (lv_at hl 0 rfl) ?_
  refine x_getk (ci := 9) (C := RX9) (F := TX9) (N := 14) (v := .int q0_1) hx hb hts uX9 hown hkb hH 1 rfl rfl 1 (by decide) rfl kw_110 (fun _ h9 => h9) dX9_cutToSize_9 ?_
  refine lv_aload_nN hx hb dX9_cutToSize_12 rfl (lv_at hl 1 rfl) ?_
  have z9_0 : (0 : Int32).toInt = 0 := by decide
  have z9_0 : (0 : Int32).toInt = 0 := by decide
  have z9_0 : (0 : Int32).toInt = 0 := by decide
  have z9_0 : (0 : Int32).toInt = 0 := by decide
  have z9_0 : (0 : Int32).toInt = 0 := by decide
  have z9_0 : (0 : Int32).toInt = 0 := by decide
  have z9_0 : (0 : Int32).toInt = 0 := by decide
  have z9_0 : (0 : Int32).toInt = 0 := by decide
  refine tk_v hH hS hA (tr_I (n := 3) (As := [.int q0_0, .int q0_1, .null]) hx hb hml hown hts hkb hH (ox_n (ox_c hOX)) hks hE hS hA (s_Wall_initN l D cs kf T (a0 :: O) ((a0, .inr (9, [.int q0_0, .int q0_1, .int q0_2, .int q0_3, .int q0_4, .int q0_5, .ref q0_6, .ref q0_7, .ref q0_8, .ref q0_9, .ref q0_10, .null, .int q0_12, .int q0_13])) :: X) v0 q0_0 q0_1 (ox_c hOX) (by omega) (by omega) (by omega) (by omega) (hO.sub (by decide))) kw_755 kw_96 kw_5 kw_97 rfl (by decide +kernel) ⟨Nat.le_of_ble_eq_true rfl, Nat.le_of_ble_eq_true rfl⟩ rfl rfl hl.1 (Nat.le_of_ble_eq_true rfl) dX9_cutToSize_13 ⟨Nat.le_of_ble_eq_true rfl, Nat.le_of_ble_eq_true rfl⟩) (fun u H locs hz9 hH hS => ?_)
  obtain ⟨T13, le_T13, n13_0_0, n13_0_1, n13_0_6, n13_0_7, n13_0_8, n13_0_9, n13_0_10, n13_0_12, n13_0_13, rfl, x_v130, x_v131, x_v132, x_v133, x_v134, x_v135, x_v136, x_v137, x_v138, x_v139, x_v1310⟩ := hz9
  have t_a0 := le_T13.1 _ _ t_a0
  have t_q0_6 := le_T13.1 _ _ t_q0_6
  have t_q0_7 := le_T13.1 _ _ t_q0_7
  have t_q0_8 := le_T13.1 _ _ t_q0_8
  have t_q0_9 := le_T13.1 _ _ t_q0_9
  have t_q0_10 := le_T13.1 _ _ t_q0_10
  have hO := okO.le le_T13.1 hO
  have hO0 := okO.le le_T13.1 hO0
  have t_n13_0_6 := x_v132
  have t_n13_0_7 := x_v133
  have t_n13_0_8 := x_v134
  have t_n13_0_9 := x_v135
  have t_n13_0_10 := x_v136
  have hH : HT D cs A T13 (a0 :: O) ((v0, .inr (9, [.int n13_0_0, .int n13_0_1, .int 0, .int 0, .int 0, .int 0, .ref n13_0_6, .ref n13_0_7, .ref n13_0_8, .ref n13_0_9, .ref n13_0_10, .null, .int n13_0_12, .int n13_0_13])) :: (a0, .inr (9, [.int q0_0, .int q0_1, .int q0_2, .int q0_3, .int q0_4, .int q0_5, .ref q0_6, .ref q0_7, .ref q0_8, .ref q0_9, .ref q0_10, .null, .int q0_12, .int q0_13])) :: X) H := hH
  refine W.widen (k := 6) (n := 66) (Nat.le_of_ble_eq_true rfl) (Nat.le_of_ble_eq_true rfl) ?_
  refine lv_astore_n (lv' := [(2, .ref v0), (0, .ref a0), (1, .null)]) hx hb dX9_cutToSize_16 rfl hl (by decide) rfl (fun ls hl => ?_)
  refine lv_aload_n hx hb dX9_cutToSize_17 rfl (lv_at hl 0 rfl) ?_
  refine lv_aload_n hx hb dX9_cutToSize_18 rfl (lv_at hl 1 rfl) ?_
  refine x_getk (ci := 9) (C := RX9) (F := TX9) (N := 14) (v := .int q0_2) hx hb hts uX9 hown hkb hH 1 rfl rfl 2 (by decide) rfl kw_113 (fun _ h9 => h9) dX9_cutToSize_19 ?_
  refine x_putk (ci := 9) (v := .int q0_2) (ty := tyX9 2) (C := RX9) (F := TX9) (N := 14) hx hb hts uX9 tyX9 tyX9_ok nmX9 hown hkb hH hS 0 rfl rfl 2 (by decide) kw_113 (fun _ h9 => h9) rfl (tyX9_ok 2 (by decide)) rfl rfl (Nat.le_of_ble_eq_true rfl) dX9_cutToSize_22 (fun H locs hH hS => ?_)
  have hH : HT D cs A T13 (a0 :: O) ((v0, .inr (9, [.int n13_0_0, .int n13_0_1, .int q0_2, .int 0, .int 0, .int 0, .ref n13_0_6, .ref n13_0_7, .ref n13_0_8, .ref n13_0_9, .ref n13_0_10, .null, .int n13_0_12, .int n13_0_13])) :: (a0, .inr (9, [.int q0_0, .int q0_1, .int q0_2, .int q0_3, .int q0_4, .int q0_5, .ref q0_6, .ref q0_7, .ref q0_8, .ref q0_9, .ref q0_10, .null, .int q0_12, .int q0_13])) :: X) H := hH
  refine lv_aload_n hx hb dX9_cutToSize_25 rfl (lv_at hl 0 rfl) ?_
  refine lv_aload_n hx hb dX9_cutToSize_26 rfl (lv_at hl 1 rfl) ?_
  refine x_getk (ci := 9) (C := RX9) (F := TX9) (N := 14) (v := .int q0_3) hx hb hts uX9 hown hkb hH 1 rfl rfl 3 (by decide) rfl kw_116 (fun _ h9 => h9) dX9_cutToSize_27 ?_
  refine x_putk (ci := 9) (v := .int q0_3) (ty := tyX9 3) (C := RX9) (F := TX9) (N := 14) hx hb hts uX9 tyX9 tyX9_ok nmX9 hown hkb hH hS 0 rfl rfl 3 (by decide) kw_116 (fun _ h9 => h9) rfl (tyX9_ok 3 (by decide)) rfl rfl (Nat.le_of_ble_eq_true rfl) dX9_cutToSize_30 (fun H locs hH hS => ?_)
  have hH : HT D cs A T13 (a0 :: O) ((v0, .inr (9, [.int n13_0_0, .int n13_0_1, .int q0_2, .int q0_3, .int 0, .int 0, .ref n13_0_6, .ref n13_0_7, .ref n13_0_8, .ref n13_0_9, .ref n13_0_10, .null, .int n13_0_12, .int n13_0_13])) :: (a0, .inr (9, [.int q0_0, .int q0_1, .int q0_2, .int q0_3, .int q0_4, .int q0_5, .ref q0_6, .ref q0_7, .ref q0_8, .ref q0_9, .ref q0_10, .null, .int q0_12, .int q0_13])) :: X) H := hH
  refine lv_aload_n hx hb dX9_cutToSize_33 rfl (lv_at hl 0 rfl) ?_
  refine lv_aload_n hx hb dX9_cutToSize_34 rfl (lv_at hl 1 rfl) ?_
  refine x_getk (ci := 9) (C := RX9) (F := TX9) (N := 14) (v := .int q0_4) hx hb hts uX9 hown hkb hH 1 rfl rfl 4 (by decide) rfl kw_123 (fun _ h9 => h9) dX9_cutToSize_35 ?_
  refine x_putk (ci := 9) (v := .int q0_4) (ty := tyX9 4) (C := RX9) (F := TX9) (N := 14) hx hb hts uX9 tyX9 tyX9_ok nmX9 hown hkb hH hS 0 rfl rfl 4 (by decide) kw_123 (fun _ h9 => h9) rfl (tyX9_ok 4 (by decide)) rfl rfl (Nat.le_of_ble_eq_true rfl) dX9_cutToSize_38 (fun H locs hH hS => ?_)
  have hH : HT D cs A T13 (a0 :: O) ((v0, .inr (9, [.int n13_0_0, .int n13_0_1, .int q0_2, .int q0_3, .int q0_4, .int 0, .ref n13_0_6, .ref n13_0_7, .ref n13_0_8, .ref n13_0_9, .ref n13_0_10, .null, .int n13_0_12, .int n13_0_13])) :: (a0, .inr (9, [.int q0_0, .int q0_1, .int q0_2, .int q0_3, .int q0_4, .int q0_5, .ref q0_6, .ref q0_7, .ref q0_8, .ref q0_9, .ref q0_10, .null, .int q0_12, .int q0_13])) :: X) H := hH
  refine lv_aload_n hx hb dX9_cutToSize_41 rfl (lv_at hl 0 rfl) ?_
  refine lv_aload_n hx hb dX9_cutToSize_42 rfl (lv_at hl 1 rfl) ?_
  refine x_getk (ci := 9) (C := RX9) (F := TX9) (N := 14) (v := .int q0_5) hx hb hts uX9 hown hkb hH 1 rfl rfl 5 (by decide) rfl kw_130 (fun _ h9 => h9) dX9_cutToSize_43 ?_
  refine x_putk (ci := 9) (v := .int q0_5) (ty := tyX9 5) (C := RX9) (F := TX9) (N := 14) hx hb hts uX9 tyX9 tyX9_ok nmX9 hown hkb hH hS 0 rfl rfl 5 (by decide) kw_130 (fun _ h9 => h9) rfl (tyX9_ok 5 (by decide)) rfl rfl (Nat.le_of_ble_eq_true rfl) dX9_cutToSize_46 (fun H locs hH hS => ?_)
  have hH : HT D cs A T13 (a0 :: O) ((v0, .inr (9, [.int n13_0_0, .int n13_0_1, .int q0_2, .int q0_3, .int q0_4, .int q0_5, .ref n13_0_6, .ref n13_0_7, .ref n13_0_8, .ref n13_0_9, .ref n13_0_10, .null, .int n13_0_12, .int n13_0_13])) :: (a0, .inr (9, [.int q0_0, .int q0_1, .int q0_2, .int q0_3, .int q0_4, .int q0_5, .ref q0_6, .ref q0_7, .ref q0_8, .ref q0_9, .ref q0_10, .null, .int q0_12, .int q0_13])) :: X) H := hH
  refine lv_aload_n hx hb dX9_cutToSize_49 rfl (lv_at hl 1 rfl) ?_
  refine x_getk (ci := 9) (C := RX9) (F := TX9) (N := 14) (v := .ref q0_6) hx hb hts uX9 hown hkb hH 1 rfl rfl 6 (by decide) rfl kw_132 (fun _ h9 => h9) dX9_cutToSize_50 ?_
  refine lv_iconst (v := 0) hx hb dX9_cutToSize_53 (by decide) ?_
  refine lv_aload_n hx hb dX9_cutToSize_54 rfl (lv_at hl 0 rfl) ?_
  refine x_getk (ci := 9) (C := RX9) (F := TX9) (N := 14) (v := .ref n13_0_6) hx hb hts uX9 hown hkb hH 0 rfl rfl 6 (by decide) rfl kw_132 (fun _ h9 => h9) dX9_cutToSize_55 ?_
  refine lv_iconst (v := 0) hx hb dX9_cutToSize_58 (by decide) ?_
  refine lv_aload_n hx hb dX9_cutToSize_59 rfl (lv_at hl 1 rfl) ?_
  refine x_getk (ci := 9) (C := RX9) (F := TX9) (N := 14) (v := .int q0_0) hx hb hts uX9 hown hkb hH 1 rfl rfl 0 (by decide) rfl kw_106 (fun _ h9 => h9) dX9_cutToSize_60 ?_
  refine t_copy hx hb (by rw [hml]; exact hl.1.symm) hown (hts _ kw_756) (hts _ kw_734) (hts _ kw_733) (hts _ kw_23) hkb hH hS (fun _ h9 => h9) t_q0_6 (hO.no t_q0_6 (by decide)) t_n13_0_6 (hO.no t_n13_0_6 (by decide)) (by decide) (by decide) (by omega) (by have k0 : (0 : Int32).toInt = 0 := (by decide); omega) (by have k0 : (0 : Int32).toInt = 0 := (by decide); omega) (Nat.le_of_ble_eq_true rfl) (Nat.le_of_ble_eq_true rfl) dX9_cutToSize_63 (fun H locs hH hS => ?_)
  refine lv_aload_n hx hb dX9_cutToSize_66 rfl (lv_at hl 1 rfl) ?_
  refine x_getk (ci := 9) (C := RX9) (F := TX9) (N := 14) (v := .ref q0_7) hx hb hts uX9 hown hkb hH 1 rfl rfl 7 (by decide) rfl kw_135 (fun _ h9 => h9) dX9_cutToSize_67 ?_
  refine lv_iconst (v := 0) hx hb dX9_cutToSize_70 (by decide) ?_
  refine lv_aload_n hx hb dX9_cutToSize_71 rfl (lv_at hl 0 rfl) ?_
  refine x_getk (ci := 9) (C := RX9) (F := TX9) (N := 14) (v := .ref n13_0_7) hx hb hts uX9 hown hkb hH 0 rfl rfl 7 (by decide) rfl kw_135 (fun _ h9 => h9) dX9_cutToSize_72 ?_
  refine lv_iconst (v := 0) hx hb dX9_cutToSize_75 (by decide) ?_
  refine lv_aload_n hx hb dX9_cutToSize_76 rfl (lv_at hl 1 rfl) ?_
  refine x_getk (ci := 9) (C := RX9) (F := TX9) (N := 14) (v := .int q0_0) hx hb hts uX9 hown hkb hH 1 rfl rfl 0 (by decide) rfl kw_106 (fun _ h9 => h9) dX9_cutToSize_77 ?_
  refine t_copy hx hb (by rw [hml]; exact hl.1.symm) hown (hts _ kw_756) (hts _ kw_734) (hts _ kw_733) (hts _ kw_23) hkb hH hS (fun _ h9 => h9) t_q0_7 (hO.no t_q0_7 (by decide)) t_n13_0_7 (hO.no t_n13_0_7 (by decide)) (by decide) (by decide) (by omega) (by have k0 : (0 : Int32).toInt = 0 := (by decide); omega) (by have k0 : (0 : Int32).toInt = 0 := (by decide); omega) (Nat.le_of_ble_eq_true rfl) (Nat.le_of_ble_eq_true rfl) dX9_cutToSize_80 (fun H locs hH hS => ?_)
  refine lv_aload_n hx hb dX9_cutToSize_83 rfl (lv_at hl 1 rfl) ?_
  refine x_getk (ci := 9) (C := RX9) (F := TX9) (N := 14) (v := .ref q0_8) hx hb hts uX9 hown hkb hH 1 rfl rfl 8 (by decide) rfl kw_138 (fun _ h9 => h9) dX9_cutToSize_84 ?_
  refine lv_iconst (v := 0) hx hb dX9_cutToSize_87 (by decide) ?_
  refine lv_aload_n hx hb dX9_cutToSize_88 rfl (lv_at hl 0 rfl) ?_
  refine x_getk (ci := 9) (C := RX9) (F := TX9) (N := 14) (v := .ref n13_0_8) hx hb hts uX9 hown hkb hH 0 rfl rfl 8 (by decide) rfl kw_138 (fun _ h9 => h9) dX9_cutToSize_89 ?_
  refine lv_iconst (v := 0) hx hb dX9_cutToSize_92 (by decide) ?_
  refine lv_aload_n hx hb dX9_cutToSize_93 rfl (lv_at hl 1 rfl) ?_
  refine x_getk (ci := 9) (C := RX9) (F := TX9) (N := 14) (v := .int q0_0) hx hb hts uX9 hown hkb hH 1 rfl rfl 0 (by decide) rfl kw_106 (fun _ h9 => h9) dX9_cutToSize_94 ?_
  refine t_copy hx hb (by rw [hml]; exact hl.1.symm) hown (hts _ kw_756) (hts _ kw_734) (hts _ kw_733) (hts _ kw_23) hkb hH hS (fun _ h9 => h9) t_q0_8 (hO.no t_q0_8 (by decide)) t_n13_0_8 (hO.no t_n13_0_8 (by decide)) (by decide) (by decide) (by omega) (by have k0 : (0 : Int32).toInt = 0 := (by decide); omega) (by have k0 : (0 : Int32).toInt = 0 := (by decide); omega) (Nat.le_of_ble_eq_true rfl) (Nat.le_of_ble_eq_true rfl) dX9_cutToSize_97 (fun H locs hH hS => ?_)
  refine lv_aload_n hx hb dX9_cutToSize_100 rfl (lv_at hl 1 rfl) ?_
  refine x_getk (ci := 9) (C := RX9) (F := TX9) (N := 14) (v := .ref q0_9) hx hb hts uX9 hown hkb hH 1 rfl rfl 9 (by decide) rfl kw_141 (fun _ h9 => h9) dX9_cutToSize_101 ?_
  refine lv_iconst (v := 0) hx hb dX9_cutToSize_104 (by decide) ?_
  refine lv_aload_n hx hb dX9_cutToSize_105 rfl (lv_at hl 0 rfl) ?_
  refine x_getk (ci := 9) (C := RX9) (F := TX9) (N := 14) (v := .ref n13_0_9) hx hb hts uX9 hown hkb hH 0 rfl rfl 9 (by decide) rfl kw_141 (fun _ h9 => h9) dX9_cutToSize_106 ?_
  refine lv_iconst (v := 0) hx hb dX9_cutToSize_109 (by decide) ?_
  refine lv_aload_n hx hb dX9_cutToSize_110 rfl (lv_at hl 1 rfl) ?_
  refine x_getk (ci := 9) (C := RX9) (F := TX9) (N := 14) (v := .int q0_1) hx hb hts uX9 hown hkb hH 1 rfl rfl 1 (by decide) rfl kw_110 (fun _ h9 => h9) dX9_cutToSize_111 ?_
  refine t_copy hx hb (by rw [hml]; exact hl.1.symm) hown (hts _ kw_756) (hts _ kw_734) (hts _ kw_733) (hts _ kw_23) hkb hH hS (fun _ h9 => h9) t_q0_9 (hO.no t_q0_9 (by decide)) t_n13_0_9 (hO.no t_n13_0_9 (by decide)) (by decide) (by decide) (by omega) (by have k0 : (0 : Int32).toInt = 0 := (by decide); omega) (by have k0 : (0 : Int32).toInt = 0 := (by decide); omega) (Nat.le_of_ble_eq_true rfl) (Nat.le_of_ble_eq_true rfl) dX9_cutToSize_114 (fun H locs hH hS => ?_)
  refine lv_aload_n hx hb dX9_cutToSize_117 rfl (lv_at hl 1 rfl) ?_
  refine x_getk (ci := 9) (C := RX9) (F := TX9) (N := 14) (v := .ref q0_10) hx hb hts uX9 hown hkb hH 1 rfl rfl 10 (by decide) rfl kw_144 (fun _ h9 => h9) dX9_cutToSize_118 ?_
  refine lv_iconst (v := 0) hx hb dX9_cutToSize_121 (by decide) ?_
  refine lv_aload_n hx hb dX9_cutToSize_122 rfl (lv_at hl 0 rfl) ?_
  refine x_getk (ci := 9) (C := RX9) (F := TX9) (N := 14) (v := .ref n13_0_10) hx hb hts uX9 hown hkb hH 0 rfl rfl 10 (by decide) rfl kw_144 (fun _ h9 => h9) dX9_cutToSize_123 ?_
  refine lv_iconst (v := 0) hx hb dX9_cutToSize_126 (by decide) ?_
  refine lv_aload_n hx hb dX9_cutToSize_127 rfl (lv_at hl 1 rfl) ?_
  refine x_getk (ci := 9) (C := RX9) (F := TX9) (N := 14) (v := .int q0_1) hx hb hts uX9 hown hkb hH 1 rfl rfl 1 (by decide) rfl kw_110 (fun _ h9 => h9) dX9_cutToSize_128 ?_
  refine t_copy hx hb (by rw [hml]; exact hl.1.symm) hown (hts _ kw_756) (hts _ kw_734) (hts _ kw_733) (hts _ kw_23) hkb hH hS (fun x9 _ => cp_0 x9) t_q0_10 (hO.no t_q0_10 (by decide)) t_n13_0_10 (hO.no t_n13_0_10 (by decide)) (by decide) (by decide) (by omega) (by have k0 : (0 : Int32).toInt = 0 := (by decide); omega) (by have k0 : (0 : Int32).toInt = 0 := (by decide); omega) (Nat.le_of_ble_eq_true rfl) (Nat.le_of_ble_eq_true rfl) dX9_cutToSize_131 (fun H locs hH hS => ?_)
  refine lv_aload_n hx hb dX9_cutToSize_134 rfl (lv_at hl 0 rfl) ?_
  have hno := HT.none hH (ox_c hOX)
  have hwz : isW (Tadd T13 v0 (19, (n13_0_0.toInt.toNat), (n13_0_1.toInt.toNat))) v0 (n13_0_0.toInt.toNat) (n13_0_1.toInt.toNat) := ⟨Tadd_r, by omega, by omega⟩
  obtain ⟨Tz, le_Tz, t_v0, hH⟩ : ∃ Tz, Tgr T13 Tz ∧ isW Tz v0 (n13_0_0.toInt.toNat) (n13_0_1.toInt.toNat) ∧ HT D cs A Tz (a0 :: O) ((a0, .inr (9, [.int q0_0, .int q0_1, .int q0_2, .int q0_3, .int q0_4, .int q0_5, .ref q0_6, .ref q0_7, .ref q0_8, .ref q0_9, .ref q0_10, .null, .int q0_12, .int q0_13])) :: X) H := ⟨_, Tgr_add hno (Or.inr (Or.inr rfl)), hwz, HT.seal (ci := 9) (p0 := (n13_0_0.toInt.toNat)) (q0 := (n13_0_1.toInt.toNat)) hH hno ((ob9w hwz _).mpr (okL_c (show Value.int n13_0_0 = Value.int (nI n13_0_0.toInt.toNat) from congrArg Value.int (is_nI (by omega))) (okL_c (show Value.int n13_0_1 = Value.int (nI n13_0_1.toInt.toNat) from congrArg Value.int (is_nI (by omega))) (okL_c (⟨_, rfl⟩) (okL_c (⟨_, rfl, by omega, by omega⟩) (okL_c (⟨_, rfl, by omega, by omega⟩) (okL_c (⟨_, rfl, by omega, by omega⟩) (okL_c (⟨_, rfl, Tadd_le hno _ _ t_n13_0_6⟩) (okL_c (⟨_, rfl, Tadd_le hno _ _ t_n13_0_7⟩) (okL_c (⟨_, rfl, Tadd_le hno _ _ t_n13_0_8⟩) (okL_c (⟨_, rfl, Tadd_le hno _ _ t_n13_0_9⟩) (okL_c (⟨_, rfl, Tadd_le hno _ _ t_n13_0_10⟩) (okL_c (Or.inl rfl) (okL_c (⟨_, rfl, by omega, by omega⟩) (okL_c (⟨_, rfl, by omega, by omega⟩) (okL_n))))))))))))))))⟩
  have t_a0 := le_Tz.1 _ _ t_a0
  have t_q0_6 := le_Tz.1 _ _ t_q0_6
  have t_q0_7 := le_Tz.1 _ _ t_q0_7
  have t_q0_8 := le_Tz.1 _ _ t_q0_8
  have t_q0_9 := le_Tz.1 _ _ t_q0_9
  have t_q0_10 := le_Tz.1 _ _ t_q0_10
  have t_n13_0_6 := le_Tz.1 _ _ t_n13_0_6
  have t_n13_0_7 := le_Tz.1 _ _ t_n13_0_7
  have t_n13_0_8 := le_Tz.1 _ _ t_n13_0_8
  have t_n13_0_9 := le_Tz.1 _ _ t_n13_0_9
  have t_n13_0_10 := le_Tz.1 _ _ t_n13_0_10
  have hO := okO.le le_Tz.1 hO
  have hO0 := okO.le le_Tz.1 hO0
  have hH : HT D cs A Tz O X H := HT.lay (ci := 9) hH t_a0 ((ob9d _).mpr (okL_c (⟨_, rfl, by omega, by omega⟩) (okL_c (⟨_, rfl, by omega, by omega⟩) (okL_c (⟨_, rfl⟩) (okL_c (⟨_, rfl, by omega, by omega⟩) (okL_c (⟨_, rfl, by omega, by omega⟩) (okL_c (⟨_, rfl, by omega, by omega⟩) (okL_c (⟨_, rfl, t_q0_6⟩) (okL_c (⟨_, rfl, t_q0_7⟩) (okL_c (⟨_, rfl, t_q0_8⟩) (okL_c (⟨_, rfl, t_q0_9⟩) (okL_c (⟨_, rfl, t_q0_10⟩) (okL_c (rfl) (okL_c (⟨_, rfl, by omega, by omega⟩) (okL_c (⟨_, rfl, by omega, by omega⟩) (okL_n))))))))))))))))
  have hO := hO0
  exact te_r hx hb hr hlocks hH hS (⟨Tz, (Tgr.tr le_T13 le_Tz), rfl, ⟨_, _, t_v0⟩⟩) dX9_cutToSize_135
set_option maxHeartbeats 4000000 in
set_option maxRecDepth 100000 in
theorem s_Wall_cutL (l : Launch) (D : va_G) (cs : CS) (kf : KF) (T : TF) (O : List Nat) (X : va_W) (a0 : Nat) (a1 na1 : Nat) (t_a0 : T a0 = some (19, 100, 0)) (t_a1 : T a1 = some (12, na1, 0)) (b_a1 : na1 ≤ 900) (hO : okO T O [1, 12, 19]) : TK l D cs kf yX9_cutToSize cX9_cutToSize 3 (some (.object "FootholdWall$Wall")) { frames := 2, cells := 6, slots := 66, locals := 60 } [.ref a0, .ref a1] T O X (Tr D cs (fun u => ∃ T2 : TF, Tgr T T2 ∧ u.1 = (T2, O, X) ∧ (∃ h9 g9 : Nat, isW T2 u.2 h9 g9))) := by
  refine tk_of (by decide) (Nat.le_of_ble_eq_true rfl) (fun p e s m below meth c ls A H locs hx hb hr hml hown hts hlocks hnm hkb hH hS hA hOX hks hE hl => ?_)
  have hown : s.vm.findClass RX9 = some m.cls := hown
  have hl : lv_has ls 3 [(0, .ref a0), (1, .ref a1)] := hl
  have hO0 := hO
  obtain ⟨fs9, ho9, hH⟩ := hH.take t_a0 (hO0.no t_a0 (by decide))
  have hp0 : okL T (ft9d 100 0) fs9 := (fun fs => (ob9d fs).mp) _ ho9
  clear ho9
  obtain ⟨v9, fs9, rfl, h9, hp1⟩ := okL_i hp0
  obtain ⟨q0_0, rfl, l_q0_0, u_q0_0⟩ := h9
  obtain ⟨v9, fs9, rfl, h9, hp2⟩ := okL_i hp1
  obtain ⟨q0_1, rfl, l_q0_1, u_q0_1⟩ := h9
  obtain ⟨v9, fs9, rfl, h9, hp3⟩ := okL_i hp2
  obtain ⟨q0_2, rfl⟩ := h9
  obtain ⟨v9, fs9, rfl, h9, hp4⟩ := okL_i hp3
  obtain ⟨q0_3, rfl, l_q0_3, u_q0_3⟩ := h9
  obtain ⟨v9, fs9, rfl, h9, hp5⟩ := okL_i hp4
  obtain ⟨q0_4, rfl, l_q0_4, u_q0_4⟩ := h9
  obtain ⟨v9, fs9, rfl, h9, hp6⟩ := okL_i hp5
  obtain ⟨q0_5, rfl, l_q0_5, u_q0_5⟩ := h9
  obtain ⟨v9, fs9, rfl, h9, hp7⟩ := okL_i hp6
  obtain ⟨q0_6, rfl, t_q0_6⟩ := h9
  obtain ⟨v9, fs9, rfl, h9, hp8⟩ := okL_i hp7
  obtain ⟨q0_7, rfl, t_q0_7⟩ := h9
  obtain ⟨v9, fs9, rfl, h9, hp9⟩ := okL_i hp8
  obtain ⟨q0_8, rfl, t_q0_8⟩ := h9
  obtain ⟨v9, fs9, rfl, h9, hp10⟩ := okL_i hp9
  obtain ⟨q0_9, rfl, t_q0_9⟩ := h9
  obtain ⟨v9, fs9, rfl, h9, hp11⟩ := okL_i hp10
  obtain ⟨q0_10, rfl, t_q0_10⟩ := h9
  obtain ⟨v9, fs9, rfl, h9, hp12⟩ := okL_i hp11
  have h9 : v9 = .null := h9
  subst h9
  obtain ⟨v9, fs9, rfl, h9, hp13⟩ := okL_i hp12
  obtain ⟨q0_12, rfl, l_q0_12, u_q0_12⟩ := h9
  obtain ⟨v9, fs9, rfl, h9, hp14⟩ := okL_i hp13
  obtain ⟨q0_13, rfl, l_q0_13, u_q0_13⟩ := h9
  have hpz := okL_z hp14
  subst hpz
  have hH : HT D cs A T (a0 :: O) ((a0, .inr (9, [.int q0_0, .int q0_1, .int q0_2, .int q0_3, .int q0_4, .int q0_5, .ref q0_6, .ref q0_7, .ref q0_8, .ref q0_9, .ref q0_10, .null, .int q0_12, .int q0_13])) :: X) H := hH
  have hO : okO T (a0 :: O) [1, 12] := okO.cons (hO0.sub (by decide)) t_a0 (by decide)
  refine x_new (ci := 9) (C := RX9) (F := TX9) (N := 14) (fs := [.int 0, .int 0, .int 0, .int 0, .int 0, .int 0, .null, .null, .null, .null, .null, .null, .int 0, .int 0]) hx hb hts uX9 tyX9 tyX9_ok hown kw_754 kw_94 kw_5 hkb hH (ox_c hOX) hS hA rfl dfX9 (Nat.le_of_ble_eq_true rfl) (Nat.le_of_ble_eq_true rfl) dX9_cutToSize_0 (fun v0 H tn_v0 hH hS => ?_)
  have hH : HT D cs A T (a0 :: O) ((v0, .inr (9, [.int 0, .int 0, .int 0, .int 0, .int 0, .int 0, .null, .null, .null, .null, .null, .null, .int 0, .int 0])) :: (a0, .inr (9, [.int q0_0, .int q0_1, .int q0_2, .int q0_3, .int q0_4, .int q0_5, .ref q0_6, .ref q0_7, .ref q0_8, .ref q0_9, .ref q0_10, .null, .int q0_12, .int q0_13])) :: X) H := hH
  refine W.widen (k := 1) (n := 14) (Nat.le_of_ble_eq_true rfl) (Nat.le_of_ble_eq_true rfl) ?_
  refine lv_dup hx hb dX9_cutToSize_3 rfl ?_
  refine lv_aload_n hx hb dX9_cutToSize_4 rfl (lv_at hl 0 rfl) ?_
  refine x_getk (ci := 9) (C := RX9) (F := TX9) (N := 14) (v := .int q0_0) hx hb hts uX9 hown hkb hH 1 rfl rfl 0 (by decide) rfl kw_106 (fun _ h9 => h9) dX9_cutToSize_5 ?_
  refine lv_aload_n hx hb dX9_cutToSize_8 rfl (lv_at hl 0 rfl) ?_
  refine x_getk (ci := 9) (C := RX9) (F := TX9) (N := 14) (v := .int q0_1) hx hb hts uX9 hown hkb hH 1 rfl rfl 1 (by decide) rfl kw_110 (fun _ h9 => h9) dX9_cutToSize_9 ?_
  refine lv_aload_n hx hb dX9_cutToSize_12 rfl (lv_at hl 1 rfl) ?_
  have z9_0 : (0 : Int32).toInt = 0 := by decide
  have z9_0 : (0 : Int32).toInt = 0 := by decide
  have z9_0 : (0 : Int32).toInt = 0 := by decide
  have z9_0 : (0 : Int32).toInt = 0 := by decide
  have z9_0 : (0 : Int32).toInt = 0 := by decide
  have z9_0 : (0 : Int32).toInt = 0 := by decide
  have z9_0 : (0 : Int32).toInt = 0 := by decide
  have z9_0 : (0 : Int32).toInt = 0 := by decide
  refine tk_v hH hS hA (tr_I (n := 3) (As := [.int q0_0, .int q0_1, .ref a1]) hx hb hml hown hts hkb hH (ox_n (ox_c hOX)) hks hE hS hA (s_Wall_initL l D cs kf T (a0 :: O) ((a0, .inr (9, [.int q0_0, .int q0_1, .int q0_2, .int q0_3, .int q0_4, .int q0_5, .ref q0_6, .ref q0_7, .ref q0_8, .ref q0_9, .ref q0_10, .null, .int q0_12, .int q0_13])) :: X) v0 q0_0 q0_1 a1 na1 (ox_c hOX) (by omega) (by omega) (by omega) (by omega) t_a1 b_a1 (hO.sub (by decide))) kw_755 kw_96 kw_5 kw_97 rfl (by decide +kernel) ⟨Nat.le_of_ble_eq_true rfl, Nat.le_of_ble_eq_true rfl⟩ rfl rfl hl.1 (Nat.le_of_ble_eq_true rfl) dX9_cutToSize_13 ⟨Nat.le_of_ble_eq_true rfl, Nat.le_of_ble_eq_true rfl⟩) (fun u H locs hz9 hH hS => ?_)
  obtain ⟨T13, le_T13, n13_0_0, n13_0_1, n13_0_6, n13_0_7, n13_0_8, n13_0_9, n13_0_10, n13_0_12, n13_0_13, rfl, x_v130, x_v131, x_v132, x_v133, x_v134, x_v135, x_v136, x_v137, x_v138, x_v139, x_v1310⟩ := hz9
  have t_a0 := le_T13.1 _ _ t_a0
  have t_a1 := le_T13.1 _ _ t_a1
  have t_q0_6 := le_T13.1 _ _ t_q0_6
  have t_q0_7 := le_T13.1 _ _ t_q0_7
  have t_q0_8 := le_T13.1 _ _ t_q0_8
  have t_q0_9 := le_T13.1 _ _ t_q0_9
  have t_q0_10 := le_T13.1 _ _ t_q0_10
  have hO := okO.le le_T13.1 hO
  have hO0 := okO.le le_T13.1 hO0
  have t_n13_0_6 := x_v132
  have t_n13_0_7 := x_v133
  have t_n13_0_8 := x_v134
  have t_n13_0_9 := x_v135
  have t_n13_0_10 := x_v136
  have hH : HT D cs A T13 (a0 :: O) ((v0, .inr (9, [.int n13_0_0, .int n13_0_1, .int 0, .int 0, .int 0, .int 0, .ref n13_0_6, .ref n13_0_7, .ref n13_0_8, .ref n13_0_9, .ref n13_0_10, .ref a1, .int n13_0_12, .int n13_0_13])) :: (a0, .inr (9, [.int q0_0, .int q0_1, .int q0_2, .int q0_3, .int q0_4, .int q0_5, .ref q0_6, .ref q0_7, .ref q0_8, .ref q0_9, .ref q0_10, .null, .int q0_12, .int q0_13])) :: X) H := hH
  refine W.widen (k := 6) (n := 66) (Nat.le_of_ble_eq_true rfl) (Nat.le_of_ble_eq_true rfl) ?_
  refine lv_astore_n (lv' := [(2, .ref v0), (0, .ref a0), (1, .ref a1)]) hx hb dX9_cutToSize_16 rfl hl (by decide) rfl (fun ls hl => ?_)
  refine lv_aload_n hx hb dX9_cutToSize_17 rfl (lv_at hl 0 rfl) ?_
  refine lv_aload_n hx hb dX9_cutToSize_18 rfl (lv_at hl 1 rfl) ?_
  refine x_getk (ci := 9) (C := RX9) (F := TX9) (N := 14) (v := .int q0_2) hx hb hts uX9 hown hkb hH 1 rfl rfl 2 (by decide) rfl kw_113 (fun _ h9 => h9) dX9_cutToSize_19 ?_
  refine x_putk (ci := 9) (v := .int q0_2) (ty := tyX9 2) (C := RX9) (F := TX9) (N := 14) hx hb hts uX9 tyX9 tyX9_ok nmX9 hown hkb hH hS 0 rfl rfl 2 (by decide) kw_113 (fun _ h9 => h9) rfl (tyX9_ok 2 (by decide)) rfl rfl (Nat.le_of_ble_eq_true rfl) dX9_cutToSize_22 (fun H locs hH hS => ?_)
  have hH : HT D cs A T13 (a0 :: O) ((v0, .inr (9, [.int n13_0_0, .int n13_0_1, .int q0_2, .int 0, .int 0, .int 0, .ref n13_0_6, .ref n13_0_7, .ref n13_0_8, .ref n13_0_9, .ref n13_0_10, .ref a1, .int n13_0_12, .int n13_0_13])) :: (a0, .inr (9, [.int q0_0, .int q0_1, .int q0_2, .int q0_3, .int q0_4, .int q0_5, .ref q0_6, .ref q0_7, .ref q0_8, .ref q0_9, .ref q0_10, .null, .int q0_12, .int q0_13])) :: X) H := hH
  refine lv_aload_n hx hb dX9_cutToSize_25 rfl (lv_at hl 0 rfl) ?_
  refine lv_aload_n hx hb dX9_cutToSize_26 rfl (lv_at hl 1 rfl) ?_
  refine x_getk (ci := 9) (C := RX9) (F := TX9) (N := 14) (v := .int q0_3) hx hb hts uX9 hown hkb hH 1 rfl rfl 3 (by decide) rfl kw_116 (fun _ h9 => h9) dX9_cutToSize_27 ?_
  refine x_putk (ci := 9) (v := .int q0_3) (ty := tyX9 3) (C := RX9) (F := TX9) (N := 14) hx hb hts uX9 tyX9 tyX9_ok nmX9 hown hkb hH hS 0 rfl rfl 3 (by decide) kw_116 (fun _ h9 => h9) rfl (tyX9_ok 3 (by decide)) rfl rfl (Nat.le_of_ble_eq_true rfl) dX9_cutToSize_30 (fun H locs hH hS => ?_)
  have hH : HT D cs A T13 (a0 :: O) ((v0, .inr (9, [.int n13_0_0, .int n13_0_1, .int q0_2, .int q0_3, .int 0, .int 0, .ref n13_0_6, .ref n13_0_7, .ref n13_0_8, .ref n13_0_9, .ref n13_0_10, .ref a1, .int n13_0_12, .int n13_0_13])) :: (a0, .inr (9, [.int q0_0, .int q0_1, .int q0_2, .int q0_3, .int q0_4, .int q0_5, .ref q0_6, .ref q0_7, .ref q0_8, .ref q0_9, .ref q0_10, .null, .int q0_12, .int q0_13])) :: X) H := hH
  refine lv_aload_n hx hb dX9_cutToSize_33 rfl (lv_at hl 0 rfl) ?_
  refine lv_aload_n hx hb dX9_cutToSize_34 rfl (lv_at hl 1 rfl) ?_
  refine x_getk (ci := 9) (C := RX9) (F := TX9) (N := 14) (v := .int q0_4) hx hb hts uX9 hown hkb hH 1 rfl rfl 4 (by decide) rfl kw_123 (fun _ h9 => h9) dX9_cutToSize_35 ?_
  refine x_putk (ci := 9) (v := .int q0_4) (ty := tyX9 4) (C := RX9) (F := TX9) (N := 14) hx hb hts uX9 tyX9 tyX9_ok nmX9 hown hkb hH hS 0 rfl rfl 4 (by decide) kw_123 (fun _ h9 => h9) rfl (tyX9_ok 4 (by decide)) rfl rfl (Nat.le_of_ble_eq_true rfl) dX9_cutToSize_38 (fun H locs hH hS => ?_)
  have hH : HT D cs A T13 (a0 :: O) ((v0, .inr (9, [.int n13_0_0, .int n13_0_1, .int q0_2, .int q0_3, .int q0_4, .int 0, .ref n13_0_6, .ref n13_0_7, .ref n13_0_8, .ref n13_0_9, .ref n13_0_10, .ref a1, .int n13_0_12, .int n13_0_13])) :: (a0, .inr (9, [.int q0_0, .int q0_1, .int q0_2, .int q0_3, .int q0_4, .int q0_5, .ref q0_6, .ref q0_7, .ref q0_8, .ref q0_9, .ref q0_10, .null, .int q0_12, .int q0_13])) :: X) H := hH
  refine lv_aload_n hx hb dX9_cutToSize_41 rfl (lv_at hl 0 rfl) ?_
  refine lv_aload_n hx hb dX9_cutToSize_42 rfl (lv_at hl 1 rfl) ?_
  refine x_getk (ci := 9) (C := RX9) (F := TX9) (N := 14) (v := .int q0_5) hx hb hts uX9 hown hkb hH 1 rfl rfl 5 (by decide) rfl kw_130 (fun _ h9 => h9) dX9_cutToSize_43 ?_
  refine x_putk (ci := 9) (v := .int q0_5) (ty := tyX9 5) (C := RX9) (F := TX9) (N := 14) hx hb hts uX9 tyX9 tyX9_ok nmX9 hown hkb hH hS 0 rfl rfl 5 (by decide) kw_130 (fun _ h9 => h9) rfl (tyX9_ok 5 (by decide)) rfl rfl (Nat.le_of_ble_eq_true rfl) dX9_cutToSize_46 (fun H locs hH hS => ?_)
  have hH : HT D cs A T13 (a0 :: O) ((v0, .inr (9, [.int n13_0_0, .int n13_0_1, .int q0_2, .int q0_3, .int q0_4, .int q0_5, .ref n13_0_6, .ref n13_0_7, .ref n13_0_8, .ref n13_0_9, .ref n13_0_10, .ref a1, .int n13_0_12, .int n13_0_13])) :: (a0, .inr (9, [.int q0_0, .int q0_1, .int q0_2, .int q0_3, .int q0_4, .int q0_5, .ref q0_6, .ref q0_7, .ref q0_8, .ref q0_9, .ref q0_10, .null, .int q0_12, .int q0_13])) :: X) H := hH
  refine lv_aload_n hx hb dX9_cutToSize_49 rfl (lv_at hl 1 rfl) ?_
  refine x_getk (ci := 9) (C := RX9) (F := TX9) (N := 14) (v := .ref q0_6) hx hb hts uX9 hown hkb hH 1 rfl rfl 6 (by decide) rfl kw_132 (fun _ h9 => h9) dX9_cutToSize_50 ?_
  refine lv_iconst (v := 0) hx hb dX9_cutToSize_53 (by decide) ?_
  refine lv_aload_n hx hb dX9_cutToSize_54 rfl (lv_at hl 0 rfl) ?_
  refine x_getk (ci := 9) (C := RX9) (F := TX9) (N := 14) (v := .ref n13_0_6) hx hb hts uX9 hown hkb hH 0 rfl rfl 6 (by decide) rfl kw_132 (fun _ h9 => h9) dX9_cutToSize_55 ?_
  refine lv_iconst (v := 0) hx hb dX9_cutToSize_58 (by decide) ?_
  refine lv_aload_n hx hb dX9_cutToSize_59 rfl (lv_at hl 1 rfl) ?_
  refine x_getk (ci := 9) (C := RX9) (F := TX9) (N := 14) (v := .int q0_0) hx hb hts uX9 hown hkb hH 1 rfl rfl 0 (by decide) rfl kw_106 (fun _ h9 => h9) dX9_cutToSize_60 ?_
  refine t_copy hx hb (by rw [hml]; exact hl.1.symm) hown (hts _ kw_756) (hts _ kw_734) (hts _ kw_733) (hts _ kw_23) hkb hH hS (fun _ h9 => h9) t_q0_6 (hO.no t_q0_6 (by decide)) t_n13_0_6 (hO.no t_n13_0_6 (by decide)) (by decide) (by decide) (by omega) (by have k0 : (0 : Int32).toInt = 0 := (by decide); omega) (by have k0 : (0 : Int32).toInt = 0 := (by decide); omega) (Nat.le_of_ble_eq_true rfl) (Nat.le_of_ble_eq_true rfl) dX9_cutToSize_63 (fun H locs hH hS => ?_)
  refine lv_aload_n hx hb dX9_cutToSize_66 rfl (lv_at hl 1 rfl) ?_
  refine x_getk (ci := 9) (C := RX9) (F := TX9) (N := 14) (v := .ref q0_7) hx hb hts uX9 hown hkb hH 1 rfl rfl 7 (by decide) rfl kw_135 (fun _ h9 => h9) dX9_cutToSize_67 ?_
  refine lv_iconst (v := 0) hx hb dX9_cutToSize_70 (by decide) ?_
  refine lv_aload_n hx hb dX9_cutToSize_71 rfl (lv_at hl 0 rfl) ?_
  refine x_getk (ci := 9) (C := RX9) (F := TX9) (N := 14) (v := .ref n13_0_7) hx hb hts uX9 hown hkb hH 0 rfl rfl 7 (by decide) rfl kw_135 (fun _ h9 => h9) dX9_cutToSize_72 ?_
  refine lv_iconst (v := 0) hx hb dX9_cutToSize_75 (by decide) ?_
  refine lv_aload_n hx hb dX9_cutToSize_76 rfl (lv_at hl 1 rfl) ?_
  refine x_getk (ci := 9) (C := RX9) (F := TX9) (N := 14) (v := .int q0_0) hx hb hts uX9 hown hkb hH 1 rfl rfl 0 (by decide) rfl kw_106 (fun _ h9 => h9) dX9_cutToSize_77 ?_
  refine t_copy hx hb (by rw [hml]; exact hl.1.symm) hown (hts _ kw_756) (hts _ kw_734) (hts _ kw_733) (hts _ kw_23) hkb hH hS (fun _ h9 => h9) t_q0_7 (hO.no t_q0_7 (by decide)) t_n13_0_7 (hO.no t_n13_0_7 (by decide)) (by decide) (by decide) (by omega) (by have k0 : (0 : Int32).toInt = 0 := (by decide); omega) (by have k0 : (0 : Int32).toInt = 0 := (by decide); omega) (Nat.le_of_ble_eq_true rfl) (Nat.le_of_ble_eq_true rfl) dX9_cutToSize_80 (fun H locs hH hS => ?_)
  refine lv_aload_n hx hb dX9_cutToSize_83 rfl (lv_at hl 1 rfl) ?_
  refine x_getk (ci := 9) (C := RX9) (F := TX9) (N := 14) (v := .ref q0_8) hx hb hts uX9 hown hkb hH 1 rfl rfl 8 (by decide) rfl kw_138 (fun _ h9 => h9) dX9_cutToSize_84 ?_
  refine lv_iconst (v := 0) hx hb dX9_cutToSize_87 (by decide) ?_
  refine lv_aload_n hx hb dX9_cutToSize_88 rfl (lv_at hl 0 rfl) ?_
  refine x_getk (ci := 9) (C := RX9) (F := TX9) (N := 14) (v := .ref n13_0_8) hx hb hts uX9 hown hkb hH 0 rfl rfl 8 (by decide) rfl kw_138 (fun _ h9 => h9) dX9_cutToSize_89 ?_
  refine lv_iconst (v := 0) hx hb dX9_cutToSize_92 (by decide) ?_
  refine lv_aload_n hx hb dX9_cutToSize_93 rfl (lv_at hl 1 rfl) ?_
  refine x_getk (ci := 9) (C := RX9) (F := TX9) (N := 14) (v := .int q0_0) hx hb hts uX9 hown hkb hH 1 rfl rfl 0 (by decide) rfl kw_106 (fun _ h9 => h9) dX9_cutToSize_94 ?_
  refine t_copy hx hb (by rw [hml]; exact hl.1.symm) hown (hts _ kw_756) (hts _ kw_734) (hts _ kw_733) (hts _ kw_23) hkb hH hS (fun _ h9 => h9) t_q0_8 (hO.no t_q0_8 (by decide)) t_n13_0_8 (hO.no t_n13_0_8 (by decide)) (by decide) (by decide) (by omega) (by have k0 : (0 : Int32).toInt = 0 := (by decide); omega) (by have k0 : (0 : Int32).toInt = 0 := (by decide); omega) (Nat.le_of_ble_eq_true rfl) (Nat.le_of_ble_eq_true rfl) dX9_cutToSize_97 (fun H locs hH hS => ?_)
  refine lv_aload_n hx hb dX9_cutToSize_100 rfl (lv_at hl 1 rfl) ?_
  refine x_getk (ci := 9) (C := RX9) (F := TX9) (N := 14) (v := .ref q0_9) hx hb hts uX9 hown hkb hH 1 rfl rfl 9 (by decide) rfl kw_141 (fun _ h9 => h9) dX9_cutToSize_101 ?_
  refine lv_iconst (v := 0) hx hb dX9_cutToSize_104 (by decide) ?_
  refine lv_aload_n hx hb dX9_cutToSize_105 rfl (lv_at hl 0 rfl) ?_
  refine x_getk (ci := 9) (C := RX9) (F := TX9) (N := 14) (v := .ref n13_0_9) hx hb hts uX9 hown hkb hH 0 rfl rfl 9 (by decide) rfl kw_141 (fun _ h9 => h9) dX9_cutToSize_106 ?_
  refine lv_iconst (v := 0) hx hb dX9_cutToSize_109 (by decide) ?_
  refine lv_aload_n hx hb dX9_cutToSize_110 rfl (lv_at hl 1 rfl) ?_
  refine x_getk (ci := 9) (C := RX9) (F := TX9) (N := 14) (v := .int q0_1) hx hb hts uX9 hown hkb hH 1 rfl rfl 1 (by decide) rfl kw_110 (fun _ h9 => h9) dX9_cutToSize_111 ?_
  refine t_copy hx hb (by rw [hml]; exact hl.1.symm) hown (hts _ kw_756) (hts _ kw_734) (hts _ kw_733) (hts _ kw_23) hkb hH hS (fun _ h9 => h9) t_q0_9 (hO.no t_q0_9 (by decide)) t_n13_0_9 (hO.no t_n13_0_9 (by decide)) (by decide) (by decide) (by omega) (by have k0 : (0 : Int32).toInt = 0 := (by decide); omega) (by have k0 : (0 : Int32).toInt = 0 := (by decide); omega) (Nat.le_of_ble_eq_true rfl) (Nat.le_of_ble_eq_true rfl) dX9_cutToSize_114 (fun H locs hH hS => ?_)
  refine lv_aload_n hx hb dX9_cutToSize_117 rfl (lv_at hl 1 rfl) ?_
  refine x_getk (ci := 9) (C := RX9) (F := TX9) (N := 14) (v := .ref q0_10) hx hb hts uX9 hown hkb hH 1 rfl rfl 10 (by decide) rfl kw_144 (fun _ h9 => h9) dX9_cutToSize_118 ?_
  refine lv_iconst (v := 0) hx hb dX9_cutToSize_121 (by decide) ?_
  refine lv_aload_n hx hb dX9_cutToSize_122 rfl (lv_at hl 0 rfl) ?_
  refine x_getk (ci := 9) (C := RX9) (F := TX9) (N := 14) (v := .ref n13_0_10) hx hb hts uX9 hown hkb hH 0 rfl rfl 10 (by decide) rfl kw_144 (fun _ h9 => h9) dX9_cutToSize_123 ?_
  refine lv_iconst (v := 0) hx hb dX9_cutToSize_126 (by decide) ?_
  refine lv_aload_n hx hb dX9_cutToSize_127 rfl (lv_at hl 1 rfl) ?_
  refine x_getk (ci := 9) (C := RX9) (F := TX9) (N := 14) (v := .int q0_1) hx hb hts uX9 hown hkb hH 1 rfl rfl 1 (by decide) rfl kw_110 (fun _ h9 => h9) dX9_cutToSize_128 ?_
  refine t_copy hx hb (by rw [hml]; exact hl.1.symm) hown (hts _ kw_756) (hts _ kw_734) (hts _ kw_733) (hts _ kw_23) hkb hH hS (fun x9 _ => cp_0 x9) t_q0_10 (hO.no t_q0_10 (by decide)) t_n13_0_10 (hO.no t_n13_0_10 (by decide)) (by decide) (by decide) (by omega) (by have k0 : (0 : Int32).toInt = 0 := (by decide); omega) (by have k0 : (0 : Int32).toInt = 0 := (by decide); omega) (Nat.le_of_ble_eq_true rfl) (Nat.le_of_ble_eq_true rfl) dX9_cutToSize_131 (fun H locs hH hS => ?_)
  refine lv_aload_n hx hb dX9_cutToSize_134 rfl (lv_at hl 0 rfl) ?_
  have hno := HT.none hH (ox_c hOX)
  have hwz : isW (Tadd T13 v0 (19, (n13_0_0.toInt.toNat), (n13_0_1.toInt.toNat))) v0 (n13_0_0.toInt.toNat) (n13_0_1.toInt.toNat) := ⟨Tadd_r, by omega, by omega⟩
  obtain ⟨Tz, le_Tz, t_v0, hH⟩ : ∃ Tz, Tgr T13 Tz ∧ isW Tz v0 (n13_0_0.toInt.toNat) (n13_0_1.toInt.toNat) ∧ HT D cs A Tz (a0 :: O) ((a0, .inr (9, [.int q0_0, .int q0_1, .int q0_2, .int q0_3, .int q0_4, .int q0_5, .ref q0_6, .ref q0_7, .ref q0_8, .ref q0_9, .ref q0_10, .null, .int q0_12, .int q0_13])) :: X) H := ⟨_, Tgr_add hno (Or.inr (Or.inr rfl)), hwz, HT.seal (ci := 9) (p0 := (n13_0_0.toInt.toNat)) (q0 := (n13_0_1.toInt.toNat)) hH hno ((ob9w hwz _).mpr (okL_c (show Value.int n13_0_0 = Value.int (nI n13_0_0.toInt.toNat) from congrArg Value.int (is_nI (by omega))) (okL_c (show Value.int n13_0_1 = Value.int (nI n13_0_1.toInt.toNat) from congrArg Value.int (is_nI (by omega))) (okL_c (⟨_, rfl⟩) (okL_c (⟨_, rfl, by omega, by omega⟩) (okL_c (⟨_, rfl, by omega, by omega⟩) (okL_c (⟨_, rfl, by omega, by omega⟩) (okL_c (⟨_, rfl, Tadd_le hno _ _ t_n13_0_6⟩) (okL_c (⟨_, rfl, Tadd_le hno _ _ t_n13_0_7⟩) (okL_c (⟨_, rfl, Tadd_le hno _ _ t_n13_0_8⟩) (okL_c (⟨_, rfl, Tadd_le hno _ _ t_n13_0_9⟩) (okL_c (⟨_, rfl, Tadd_le hno _ _ t_n13_0_10⟩) (okL_c (Or.inr ⟨_, _, rfl, Tadd_le hno _ _ t_a1, b_a1⟩) (okL_c (⟨_, rfl, by omega, by omega⟩) (okL_c (⟨_, rfl, by omega, by omega⟩) (okL_n))))))))))))))))⟩
  have t_a0 := le_Tz.1 _ _ t_a0
  have t_a1 := le_Tz.1 _ _ t_a1
  have t_q0_6 := le_Tz.1 _ _ t_q0_6
  have t_q0_7 := le_Tz.1 _ _ t_q0_7
  have t_q0_8 := le_Tz.1 _ _ t_q0_8
  have t_q0_9 := le_Tz.1 _ _ t_q0_9
  have t_q0_10 := le_Tz.1 _ _ t_q0_10
  have t_n13_0_6 := le_Tz.1 _ _ t_n13_0_6
  have t_n13_0_7 := le_Tz.1 _ _ t_n13_0_7
  have t_n13_0_8 := le_Tz.1 _ _ t_n13_0_8
  have t_n13_0_9 := le_Tz.1 _ _ t_n13_0_9
  have t_n13_0_10 := le_Tz.1 _ _ t_n13_0_10
  have hO := okO.le le_Tz.1 hO
  have hO0 := okO.le le_Tz.1 hO0
  have hH : HT D cs A Tz O X H := HT.lay (ci := 9) hH t_a0 ((ob9d _).mpr (okL_c (⟨_, rfl, by omega, by omega⟩) (okL_c (⟨_, rfl, by omega, by omega⟩) (okL_c (⟨_, rfl⟩) (okL_c (⟨_, rfl, by omega, by omega⟩) (okL_c (⟨_, rfl, by omega, by omega⟩) (okL_c (⟨_, rfl, by omega, by omega⟩) (okL_c (⟨_, rfl, t_q0_6⟩) (okL_c (⟨_, rfl, t_q0_7⟩) (okL_c (⟨_, rfl, t_q0_8⟩) (okL_c (⟨_, rfl, t_q0_9⟩) (okL_c (⟨_, rfl, t_q0_10⟩) (okL_c (rfl) (okL_c (⟨_, rfl, by omega, by omega⟩) (okL_c (⟨_, rfl, by omega, by omega⟩) (okL_n))))))))))))))))
  have hO := hO0
  exact te_r hx hb hr hlocks hH hS (⟨Tz, (Tgr.tr le_T13 le_Tz), rfl, ⟨_, _, t_v0⟩⟩) dX9_cutToSize_135
set_option maxHeartbeats 4000000 in
set_option maxRecDepth 100000 in
theorem s_RD_made (l : Launch) (D : va_G) (cs : CS) (kf : KF) (T : TF) (O : List Nat) (X : va_W) (a0 d : Nat) (t_a0 : T a0 = some (14, d, 0)) (t_d : T d = some (19, 100, 0)) (hO : okO T O [1, 12, 13, 14, 19]) : TK l D cs kf yX4_made cX4_made 1 (some (.object "FootholdWall$Wall")) { frames := 3, cells := 10, slots := 1001, locals := 102 } [.ref a0] T O X (Tr D cs (fun u => ∃ T2 : TF, Tgr T T2 ∧ u.1 = (T2, O, X) ∧ (∃ h9 g9 : Nat, isW T2 u.2 h9 g9))) := by
  refine tk_of (by decide) (Nat.le_of_ble_eq_true rfl) (fun p e s m below meth c ls A H locs hx hb hr hml hown hts hlocks hnm hkb hH hS hA hOX hks hE hl => ?_)
  have hown : s.vm.findClass RX4 = some m.cls := hown
  have hl : lv_has ls 1 [(0, .ref a0)] := hl
  refine lv_aload_n hx hb dX4_made_0 rfl (lv_at hl 0 rfl) ?_
  refine t_get (ci := 4) (lst := ft4 d 0) (C := RX4) (F := TX4) (N := 5) hx hb hts uX4 hown hkb hH t_a0 (hO.no t_a0 (by decide)) (fun _ h9 => h9) rfl rfl 2 (by decide) rfl kw_214 (fun _ h9 => h9) dX4_made_1 (fun v9 h9 => ?_)
  have h9 : v9 = .ref d := h9
  subst h9
  refine lv_aload_n hx hb dX4_made_4 rfl (lv_at hl 0 rfl) ?_
  refine t_get (ci := 4) (lst := ft4 d 0) (C := RX4) (F := TX4) (N := 5) hx hb hts uX4 hown hkb hH t_a0 (hO.no t_a0 (by decide)) (fun _ h9 => h9) rfl rfl 3 (by decide) rfl kw_215 (fun _ h9 => h9) dX4_made_5 (fun v9 h9 => ?_)
  obtain ⟨v5, rfl, l_v5, u_v5⟩ := h9
  refine lv_if_eq (tgt := 21) hx hb dX4_made_8 (by decide) (fun c8 => ?_) (fun c8 => ?_)
  · skip
    have tc8 := f_eq (k := 0) (by decide) c8
    refine lv_null hx hb dX4_made_21 ?_
    refine tk_r hH hS hA (tr_V (n := 1) (As := [.null]) hx hb hml hown hts hkb hH hOX hks hE hS hA (s_Wall_cutN l D cs kf T O X d t_d (hO.sub (by decide))) kw_750 kw_751 kw_752 kw_5 kw_753 (by decide +kernel) ⟨Nat.le_of_ble_eq_true rfl, Nat.le_of_ble_eq_true rfl⟩ (HT.recv (ci := 9) hkb hH t_d (hO.no t_d (by decide)) rfl) rfl rfl hl.1 (Nat.le_of_ble_eq_true rfl) dX4_made_22 ⟨Nat.le_of_ble_eq_true rfl, Nat.le_of_ble_eq_true rfl⟩) (fun v22 u H locs hz9 hH hS => ?_)
    obtain ⟨T22, le_T22, rfl, ⟨hv22, gv22, t_v22⟩⟩ := hz9
    have t_a0 := le_T22.1 _ _ t_a0
    have t_d := le_T22.1 _ _ t_d
    have hO := okO.le le_T22.1 hO
    have hH : HT D cs A T22 O X H := hH
    refine W.widen (k := 6) (n := 66) (Nat.le_of_ble_eq_true rfl) (Nat.le_of_ble_eq_true rfl) ?_
    refine W.widen (k := 10) (n := 1001) (Nat.le_of_ble_eq_true rfl) (Nat.le_of_ble_eq_true rfl) ?_
    exact te_r hx hb hr hlocks hH hS (⟨T22, le_T22, rfl, ⟨_, _, t_v22⟩⟩) dX4_made_25
  · skip
    have tc8 := f_ne (k := 0) (by decide) c8
    refine lv_aload_n hx hb dX4_made_11 rfl (lv_at hl 0 rfl) ?_
    refine t_get (ci := 4) (lst := ft4 d 0) (C := RX4) (F := TX4) (N := 5) hx hb hts uX4 hown hkb hH t_a0 (hO.no t_a0 (by decide)) (fun _ h9 => h9) rfl rfl 1 (by decide) rfl kw_213 (fun _ h9 => h9) dX4_made_12 (fun v9 h9 => ?_)
    obtain ⟨v12, rfl, t_v12⟩ := h9
    refine tk_r hH hS hA (tr_V (n := 0) (As := []) hx hb hml hown hts hkb hH hOX hks hE hS hA (s_LR_made l D cs kf T O X v12 t_v12 (hO.sub (by decide))) kw_715 kw_716 kw_717 kw_4 kw_718 (by decide +kernel) ⟨Nat.le_of_ble_eq_true rfl, Nat.le_of_ble_eq_true rfl⟩ (HT.recv (ci := 3) hkb hH t_v12 (hO.no t_v12 (by decide)) rfl) rfl rfl hl.1 (Nat.le_of_ble_eq_true rfl) dX4_made_15 ⟨Nat.le_of_ble_eq_true rfl, Nat.le_of_ble_eq_true rfl⟩) (fun v15 u H locs hz9 hH hS => ?_)
    obtain ⟨T15, le_T15, rfl, ⟨nv15, t_v15, b_v15⟩⟩ := hz9
    have t_a0 := le_T15.1 _ _ t_a0
    have t_d := le_T15.1 _ _ t_d
    have t_v12 := le_T15.1 _ _ t_v12
    have hO := okO.le le_T15.1 hO
    have hH : HT D cs A T15 O X H := hH
    refine W.widen (k := 4) (n := 935) (Nat.le_of_ble_eq_true rfl) (Nat.le_of_ble_eq_true rfl) ?_
    refine lv_goto (tgt := 22) hx hb dX4_made_18 (by decide) ?_
    refine tk_r hH hS hA (tr_V (n := 1) (As := [.ref v15]) hx hb hml hown hts hkb hH hOX hks hE hS hA (s_Wall_cutL l D cs kf T15 O X d v15 nv15 t_d t_v15 b_v15 (hO.sub (by decide))) kw_750 kw_751 kw_752 kw_5 kw_753 (by decide +kernel) ⟨Nat.le_of_ble_eq_true rfl, Nat.le_of_ble_eq_true rfl⟩ (HT.recv (ci := 9) hkb hH t_d (hO.no t_d (by decide)) rfl) rfl rfl hl.1 (Nat.le_of_ble_eq_true rfl) dX4_made_22 ⟨Nat.le_of_ble_eq_true rfl, Nat.le_of_ble_eq_true rfl⟩) (fun v22 u H locs hz9 hH hS => ?_)
    obtain ⟨T22, le_T22, rfl, ⟨hv22, gv22, t_v22⟩⟩ := hz9
    have t_a0 := le_T22.1 _ _ t_a0
    have t_d := le_T22.1 _ _ t_d
    have t_v12 := le_T22.1 _ _ t_v12
    have t_v15 := le_T22.1 _ _ t_v15
    have hO := okO.le le_T22.1 hO
    have hH : HT D cs A T22 O X H := hH
    refine W.widen (k := 10) (n := 1001) (Nat.le_of_ble_eq_true rfl) (Nat.le_of_ble_eq_true rfl) ?_
    exact te_r hx hb hr hlocks hH hS (⟨T22, (Tgr.tr le_T15 le_T22), rfl, ⟨_, _, t_v22⟩⟩) dX4_made_25
set_option maxHeartbeats 4000000 in
set_option maxRecDepth 100000 in
theorem s_Wall_cutN2 (l : Launch) (D : va_G) (cs : CS) (kf : KF) (T : TF) (O : List Nat) (X : va_W) (a0 : Nat) (z0 : Int32) (z1 : Int32) (z2 : Int32) (z3 : Int32) (z4 : Int32) (z5 : Int32) (z6 : Nat) (z7 : Nat) (z8 : Nat) (z9 : Nat) (z10 : Nat) (z12 : Int32) (z13 : Int32) (t_a0 : T a0 = some (19, 100, 0)) (l_z0 : 0 ≤ z0.toInt) (u_z0 : z0.toInt ≤ 14) (l_z1 : 0 ≤ z1.toInt) (u_z1 : z1.toInt ≤ 5) (l_z3 : 0 ≤ z3.toInt) (u_z3 : z3.toInt ≤ 16383) (l_z4 : 0 ≤ z4.toInt) (u_z4 : z4.toInt ≤ 16383) (l_z5 : 0 ≤ z5.toInt) (u_z5 : z5.toInt ≤ 16383) (t_z6 : T z6 = some (1, 14, 0)) (t_z7 : T z7 = some (1, 14, 0)) (t_z8 : T z8 = some (1, 14, 0)) (t_z9 : T z9 = some (1, 5, 0)) (t_z10 : T z10 = some (1, 5, 9)) (l_z12 : 0 ≤ z12.toInt) (u_z12 : z12.toInt ≤ 1) (l_z13 : 0 ≤ z13.toInt) (u_z13 : z13.toInt ≤ 1) (hO : okO T (a0 :: O) [1]) : TK l D cs kf yX9_cutToSize cX9_cutToSize 3 (some (.object "FootholdWall$Wall")) { frames := 2, cells := 6, slots := 66, locals := 60 } [.ref a0, .null] T (a0 :: O) ((a0, .inr (9, [.int z0, .int z1, .int z2, .int z3, .int z4, .int z5, .ref z6, .ref z7, .ref z8, .ref z9, .ref z10, .null, .int z12, .int z13])) :: X) (Tr D cs (fun u => ∃ T2 : TF, Tgr T T2 ∧ ∃ (h9 : Nat) (g9 : Nat) (f90 : Value) (f91 : Value) (f99 : List Value), u.1 = (T2, a0 :: O, (u.2, .inr (9, f90 :: f91 :: (.int z2) :: f99)) :: (a0, .inr (9, [.int z0, .int z1, .int z2, .int z3, .int z4, .int z5, .ref z6, .ref z7, .ref z8, .ref z9, .ref z10, .null, .int z12, .int z13])) :: X) ∧ (okL T2 (ft9w h9 g9) (f90 :: f91 :: Value.int z2 :: f99) ∧ h9 ≤ 14 ∧ g9 ≤ 5))) := by
  refine tk_of (by decide) (Nat.le_of_ble_eq_true rfl) (fun p e s m below meth c ls A H locs hx hb hr hml hown hts hlocks hnm hkb hH hS hA hOX hks hE hl => ?_)
  have hown : s.vm.findClass RX9 = some m.cls := hown
  have hl : lv_has ls 3 [(0, .ref a0), (1, .null)] := hl
  have hOXf := hOX
  refine x_new (ci := 9) (C := RX9) (F := TX9) (N := 14) (fs := [.int 0, .int 0, .int 0, .int 0, .int 0, .int 0, .null, .null, .null, .null, .null, .null, .int 0, .int 0]) hx hb hts uX9 tyX9 tyX9_ok hown kw_754 kw_94 kw_5 hkb hH (ox_map hOX rfl) hS hA rfl dfX9 (Nat.le_of_ble_eq_true rfl) (Nat.le_of_ble_eq_true rfl) dX9_cutToSize_0 (fun v0 H tn_v0 hH hS => ?_)
  have hH : HT D cs A T (a0 :: O) ((v0, .inr (9, [.int 0, .int 0, .int 0, .int 0, .int 0, .int 0, .null, .null, .null, .null, .null, .null, .int 0, .int 0])) :: (a0, .inr (9, [.int z0, .int z1, .int z2, .int z3, .int z4, .int z5, .ref z6, .ref z7, .ref z8, .ref z9, .ref z10, .null, .int z12, .int z13])) :: X) H := hH
  refine W.widen (k := 1) (n := 14) (Nat.le_of_ble_eq_true rfl) (Nat.le_of_ble_eq_true rfl) ?_
  refine lv_dup hx hb dX9_cutToSize_3 rfl ?_
  refine lv_aload_n hx hb dX9_cutToSize_4 rfl (lv_at hl 0 rfl) ?_
  refine x_getk (ci := 9) (C := RX9) (F := TX9) (N := 14) (v := .int z0) hx hb hts uX9 hown hkb hH 1 rfl rfl 0 (by decide) rfl kw_106 (fun _ h9 => h9) dX9_cutToSize_5 ?_
  refine lv_aload_n hx hb dX9_cutToSize_8 rfl (lv_at hl 0 rfl) ?_
  refine x_getk (ci := 9) (C := RX9) (F := TX9) (N := 14) (v := .int z1) hx hb hts uX9 hown hkb hH 1 rfl rfl 1 (by decide) rfl kw_110 (fun _ h9 => h9) dX9_cutToSize_9 ?_
  refine lv_aload_nN hx hb dX9_cutToSize_12 rfl (lv_at hl 1 rfl) ?_
  have z9_0 : (0 : Int32).toInt = 0 := by decide
  have z9_0 : (0 : Int32).toInt = 0 := by decide
  have z9_0 : (0 : Int32).toInt = 0 := by decide
  have z9_0 : (0 : Int32).toInt = 0 := by decide
  have z9_0 : (0 : Int32).toInt = 0 := by decide
  have z9_0 : (0 : Int32).toInt = 0 := by decide
  have z9_0 : (0 : Int32).toInt = 0 := by decide
  have z9_0 : (0 : Int32).toInt = 0 := by decide
  refine tk_v hH hS hA (tr_I (n := 3) (As := [.int z0, .int z1, .null]) hx hb hml hown hts hkb hH (ox_n (ox_map hOX rfl)) hks hE hS hA (s_Wall_initN l D cs kf T (a0 :: O) ((a0, .inr (9, [.int z0, .int z1, .int z2, .int z3, .int z4, .int z5, .ref z6, .ref z7, .ref z8, .ref z9, .ref z10, .null, .int z12, .int z13])) :: X) v0 z0 z1 (ox_map hOX rfl) (by omega) (by omega) (by omega) (by omega) (hO.sub (by decide))) kw_755 kw_96 kw_5 kw_97 rfl (by decide +kernel) ⟨Nat.le_of_ble_eq_true rfl, Nat.le_of_ble_eq_true rfl⟩ rfl rfl hl.1 (Nat.le_of_ble_eq_true rfl) dX9_cutToSize_13 ⟨Nat.le_of_ble_eq_true rfl, Nat.le_of_ble_eq_true rfl⟩) (fun u H locs hz9 hH hS => ?_)
  obtain ⟨T13, le_T13, n13_0_0, n13_0_1, n13_0_6, n13_0_7, n13_0_8, n13_0_9, n13_0_10, n13_0_12, n13_0_13, rfl, x_v130, x_v131, x_v132, x_v133, x_v134, x_v135, x_v136, x_v137, x_v138, x_v139, x_v1310⟩ := hz9
  have t_a0 := le_T13.1 _ _ t_a0
  have t_z6 := le_T13.1 _ _ t_z6
  have t_z7 := le_T13.1 _ _ t_z7
  have t_z8 := le_T13.1 _ _ t_z8
  have t_z9 := le_T13.1 _ _ t_z9
  have t_z10 := le_T13.1 _ _ t_z10
  have hO := okO.le le_T13.1 hO
  have t_n13_0_6 := x_v132
  have t_n13_0_7 := x_v133
  have t_n13_0_8 := x_v134
  have t_n13_0_9 := x_v135
  have t_n13_0_10 := x_v136
  have hH : HT D cs A T13 (a0 :: O) ((v0, .inr (9, [.int n13_0_0, .int n13_0_1, .int 0, .int 0, .int 0, .int 0, .ref n13_0_6, .ref n13_0_7, .ref n13_0_8, .ref n13_0_9, .ref n13_0_10, .null, .int n13_0_12, .int n13_0_13])) :: (a0, .inr (9, [.int z0, .int z1, .int z2, .int z3, .int z4, .int z5, .ref z6, .ref z7, .ref z8, .ref z9, .ref z10, .null, .int z12, .int z13])) :: X) H := hH
  refine W.widen (k := 6) (n := 66) (Nat.le_of_ble_eq_true rfl) (Nat.le_of_ble_eq_true rfl) ?_
  refine lv_astore_n (lv' := [(2, .ref v0), (0, .ref a0), (1, .null)]) hx hb dX9_cutToSize_16 rfl hl (by decide) rfl (fun ls hl => ?_)
  refine lv_aload_n hx hb dX9_cutToSize_17 rfl (lv_at hl 0 rfl) ?_
  refine lv_aload_n hx hb dX9_cutToSize_18 rfl (lv_at hl 1 rfl) ?_
  refine x_getk (ci := 9) (C := RX9) (F := TX9) (N := 14) (v := .int z2) hx hb hts uX9 hown hkb hH 1 rfl rfl 2 (by decide) rfl kw_113 (fun _ h9 => h9) dX9_cutToSize_19 ?_
  refine x_putk (ci := 9) (v := .int z2) (ty := tyX9 2) (C := RX9) (F := TX9) (N := 14) hx hb hts uX9 tyX9 tyX9_ok nmX9 hown hkb hH hS 0 rfl rfl 2 (by decide) kw_113 (fun _ h9 => h9) rfl (tyX9_ok 2 (by decide)) rfl rfl (Nat.le_of_ble_eq_true rfl) dX9_cutToSize_22 (fun H locs hH hS => ?_)
  have hH : HT D cs A T13 (a0 :: O) ((v0, .inr (9, [.int n13_0_0, .int n13_0_1, .int z2, .int 0, .int 0, .int 0, .ref n13_0_6, .ref n13_0_7, .ref n13_0_8, .ref n13_0_9, .ref n13_0_10, .null, .int n13_0_12, .int n13_0_13])) :: (a0, .inr (9, [.int z0, .int z1, .int z2, .int z3, .int z4, .int z5, .ref z6, .ref z7, .ref z8, .ref z9, .ref z10, .null, .int z12, .int z13])) :: X) H := hH
  refine lv_aload_n hx hb dX9_cutToSize_25 rfl (lv_at hl 0 rfl) ?_
  refine lv_aload_n hx hb dX9_cutToSize_26 rfl (lv_at hl 1 rfl) ?_
  refine x_getk (ci := 9) (C := RX9) (F := TX9) (N := 14) (v := .int z3) hx hb hts uX9 hown hkb hH 1 rfl rfl 3 (by decide) rfl kw_116 (fun _ h9 => h9) dX9_cutToSize_27 ?_
  refine x_putk (ci := 9) (v := .int z3) (ty := tyX9 3) (C := RX9) (F := TX9) (N := 14) hx hb hts uX9 tyX9 tyX9_ok nmX9 hown hkb hH hS 0 rfl rfl 3 (by decide) kw_116 (fun _ h9 => h9) rfl (tyX9_ok 3 (by decide)) rfl rfl (Nat.le_of_ble_eq_true rfl) dX9_cutToSize_30 (fun H locs hH hS => ?_)
  have hH : HT D cs A T13 (a0 :: O) ((v0, .inr (9, [.int n13_0_0, .int n13_0_1, .int z2, .int z3, .int 0, .int 0, .ref n13_0_6, .ref n13_0_7, .ref n13_0_8, .ref n13_0_9, .ref n13_0_10, .null, .int n13_0_12, .int n13_0_13])) :: (a0, .inr (9, [.int z0, .int z1, .int z2, .int z3, .int z4, .int z5, .ref z6, .ref z7, .ref z8, .ref z9, .ref z10, .null, .int z12, .int z13])) :: X) H := hH
  refine lv_aload_n hx hb dX9_cutToSize_33 rfl (lv_at hl 0 rfl) ?_
  refine lv_aload_n hx hb dX9_cutToSize_34 rfl (lv_at hl 1 rfl) ?_
  refine x_getk (ci := 9) (C := RX9) (F := TX9) (N := 14) (v := .int z4) hx hb hts uX9 hown hkb hH 1 rfl rfl 4 (by decide) rfl kw_123 (fun _ h9 => h9) dX9_cutToSize_35 ?_
  refine x_putk (ci := 9) (v := .int z4) (ty := tyX9 4) (C := RX9) (F := TX9) (N := 14) hx hb hts uX9 tyX9 tyX9_ok nmX9 hown hkb hH hS 0 rfl rfl 4 (by decide) kw_123 (fun _ h9 => h9) rfl (tyX9_ok 4 (by decide)) rfl rfl (Nat.le_of_ble_eq_true rfl) dX9_cutToSize_38 (fun H locs hH hS => ?_)
  have hH : HT D cs A T13 (a0 :: O) ((v0, .inr (9, [.int n13_0_0, .int n13_0_1, .int z2, .int z3, .int z4, .int 0, .ref n13_0_6, .ref n13_0_7, .ref n13_0_8, .ref n13_0_9, .ref n13_0_10, .null, .int n13_0_12, .int n13_0_13])) :: (a0, .inr (9, [.int z0, .int z1, .int z2, .int z3, .int z4, .int z5, .ref z6, .ref z7, .ref z8, .ref z9, .ref z10, .null, .int z12, .int z13])) :: X) H := hH
  refine lv_aload_n hx hb dX9_cutToSize_41 rfl (lv_at hl 0 rfl) ?_
  refine lv_aload_n hx hb dX9_cutToSize_42 rfl (lv_at hl 1 rfl) ?_
  refine x_getk (ci := 9) (C := RX9) (F := TX9) (N := 14) (v := .int z5) hx hb hts uX9 hown hkb hH 1 rfl rfl 5 (by decide) rfl kw_130 (fun _ h9 => h9) dX9_cutToSize_43 ?_
  refine x_putk (ci := 9) (v := .int z5) (ty := tyX9 5) (C := RX9) (F := TX9) (N := 14) hx hb hts uX9 tyX9 tyX9_ok nmX9 hown hkb hH hS 0 rfl rfl 5 (by decide) kw_130 (fun _ h9 => h9) rfl (tyX9_ok 5 (by decide)) rfl rfl (Nat.le_of_ble_eq_true rfl) dX9_cutToSize_46 (fun H locs hH hS => ?_)
  have hH : HT D cs A T13 (a0 :: O) ((v0, .inr (9, [.int n13_0_0, .int n13_0_1, .int z2, .int z3, .int z4, .int z5, .ref n13_0_6, .ref n13_0_7, .ref n13_0_8, .ref n13_0_9, .ref n13_0_10, .null, .int n13_0_12, .int n13_0_13])) :: (a0, .inr (9, [.int z0, .int z1, .int z2, .int z3, .int z4, .int z5, .ref z6, .ref z7, .ref z8, .ref z9, .ref z10, .null, .int z12, .int z13])) :: X) H := hH
  refine lv_aload_n hx hb dX9_cutToSize_49 rfl (lv_at hl 1 rfl) ?_
  refine x_getk (ci := 9) (C := RX9) (F := TX9) (N := 14) (v := .ref z6) hx hb hts uX9 hown hkb hH 1 rfl rfl 6 (by decide) rfl kw_132 (fun _ h9 => h9) dX9_cutToSize_50 ?_
  refine lv_iconst (v := 0) hx hb dX9_cutToSize_53 (by decide) ?_
  refine lv_aload_n hx hb dX9_cutToSize_54 rfl (lv_at hl 0 rfl) ?_
  refine x_getk (ci := 9) (C := RX9) (F := TX9) (N := 14) (v := .ref n13_0_6) hx hb hts uX9 hown hkb hH 0 rfl rfl 6 (by decide) rfl kw_132 (fun _ h9 => h9) dX9_cutToSize_55 ?_
  refine lv_iconst (v := 0) hx hb dX9_cutToSize_58 (by decide) ?_
  refine lv_aload_n hx hb dX9_cutToSize_59 rfl (lv_at hl 1 rfl) ?_
  refine x_getk (ci := 9) (C := RX9) (F := TX9) (N := 14) (v := .int z0) hx hb hts uX9 hown hkb hH 1 rfl rfl 0 (by decide) rfl kw_106 (fun _ h9 => h9) dX9_cutToSize_60 ?_
  refine t_copy hx hb (by rw [hml]; exact hl.1.symm) hown (hts _ kw_756) (hts _ kw_734) (hts _ kw_733) (hts _ kw_23) hkb hH hS (fun _ h9 => h9) t_z6 (hO.no t_z6 (by decide)) t_n13_0_6 (hO.no t_n13_0_6 (by decide)) (by decide) (by decide) (by omega) (by have k0 : (0 : Int32).toInt = 0 := (by decide); omega) (by have k0 : (0 : Int32).toInt = 0 := (by decide); omega) (Nat.le_of_ble_eq_true rfl) (Nat.le_of_ble_eq_true rfl) dX9_cutToSize_63 (fun H locs hH hS => ?_)
  refine lv_aload_n hx hb dX9_cutToSize_66 rfl (lv_at hl 1 rfl) ?_
  refine x_getk (ci := 9) (C := RX9) (F := TX9) (N := 14) (v := .ref z7) hx hb hts uX9 hown hkb hH 1 rfl rfl 7 (by decide) rfl kw_135 (fun _ h9 => h9) dX9_cutToSize_67 ?_
  refine lv_iconst (v := 0) hx hb dX9_cutToSize_70 (by decide) ?_
  refine lv_aload_n hx hb dX9_cutToSize_71 rfl (lv_at hl 0 rfl) ?_
  refine x_getk (ci := 9) (C := RX9) (F := TX9) (N := 14) (v := .ref n13_0_7) hx hb hts uX9 hown hkb hH 0 rfl rfl 7 (by decide) rfl kw_135 (fun _ h9 => h9) dX9_cutToSize_72 ?_
  refine lv_iconst (v := 0) hx hb dX9_cutToSize_75 (by decide) ?_
  refine lv_aload_n hx hb dX9_cutToSize_76 rfl (lv_at hl 1 rfl) ?_
  refine x_getk (ci := 9) (C := RX9) (F := TX9) (N := 14) (v := .int z0) hx hb hts uX9 hown hkb hH 1 rfl rfl 0 (by decide) rfl kw_106 (fun _ h9 => h9) dX9_cutToSize_77 ?_
  refine t_copy hx hb (by rw [hml]; exact hl.1.symm) hown (hts _ kw_756) (hts _ kw_734) (hts _ kw_733) (hts _ kw_23) hkb hH hS (fun _ h9 => h9) t_z7 (hO.no t_z7 (by decide)) t_n13_0_7 (hO.no t_n13_0_7 (by decide)) (by decide) (by decide) (by omega) (by have k0 : (0 : Int32).toInt = 0 := (by decide); omega) (by have k0 : (0 : Int32).toInt = 0 := (by decide); omega) (Nat.le_of_ble_eq_true rfl) (Nat.le_of_ble_eq_true rfl) dX9_cutToSize_80 (fun H locs hH hS => ?_)
  refine lv_aload_n hx hb dX9_cutToSize_83 rfl (lv_at hl 1 rfl) ?_
  refine x_getk (ci := 9) (C := RX9) (F := TX9) (N := 14) (v := .ref z8) hx hb hts uX9 hown hkb hH 1 rfl rfl 8 (by decide) rfl kw_138 (fun _ h9 => h9) dX9_cutToSize_84 ?_
  refine lv_iconst (v := 0) hx hb dX9_cutToSize_87 (by decide) ?_
  refine lv_aload_n hx hb dX9_cutToSize_88 rfl (lv_at hl 0 rfl) ?_
  refine x_getk (ci := 9) (C := RX9) (F := TX9) (N := 14) (v := .ref n13_0_8) hx hb hts uX9 hown hkb hH 0 rfl rfl 8 (by decide) rfl kw_138 (fun _ h9 => h9) dX9_cutToSize_89 ?_
  refine lv_iconst (v := 0) hx hb dX9_cutToSize_92 (by decide) ?_
  refine lv_aload_n hx hb dX9_cutToSize_93 rfl (lv_at hl 1 rfl) ?_
  refine x_getk (ci := 9) (C := RX9) (F := TX9) (N := 14) (v := .int z0) hx hb hts uX9 hown hkb hH 1 rfl rfl 0 (by decide) rfl kw_106 (fun _ h9 => h9) dX9_cutToSize_94 ?_
  refine t_copy hx hb (by rw [hml]; exact hl.1.symm) hown (hts _ kw_756) (hts _ kw_734) (hts _ kw_733) (hts _ kw_23) hkb hH hS (fun _ h9 => h9) t_z8 (hO.no t_z8 (by decide)) t_n13_0_8 (hO.no t_n13_0_8 (by decide)) (by decide) (by decide) (by omega) (by have k0 : (0 : Int32).toInt = 0 := (by decide); omega) (by have k0 : (0 : Int32).toInt = 0 := (by decide); omega) (Nat.le_of_ble_eq_true rfl) (Nat.le_of_ble_eq_true rfl) dX9_cutToSize_97 (fun H locs hH hS => ?_)
  refine lv_aload_n hx hb dX9_cutToSize_100 rfl (lv_at hl 1 rfl) ?_
  refine x_getk (ci := 9) (C := RX9) (F := TX9) (N := 14) (v := .ref z9) hx hb hts uX9 hown hkb hH 1 rfl rfl 9 (by decide) rfl kw_141 (fun _ h9 => h9) dX9_cutToSize_101 ?_
  refine lv_iconst (v := 0) hx hb dX9_cutToSize_104 (by decide) ?_
  refine lv_aload_n hx hb dX9_cutToSize_105 rfl (lv_at hl 0 rfl) ?_
  refine x_getk (ci := 9) (C := RX9) (F := TX9) (N := 14) (v := .ref n13_0_9) hx hb hts uX9 hown hkb hH 0 rfl rfl 9 (by decide) rfl kw_141 (fun _ h9 => h9) dX9_cutToSize_106 ?_
  refine lv_iconst (v := 0) hx hb dX9_cutToSize_109 (by decide) ?_
  refine lv_aload_n hx hb dX9_cutToSize_110 rfl (lv_at hl 1 rfl) ?_
  refine x_getk (ci := 9) (C := RX9) (F := TX9) (N := 14) (v := .int z1) hx hb hts uX9 hown hkb hH 1 rfl rfl 1 (by decide) rfl kw_110 (fun _ h9 => h9) dX9_cutToSize_111 ?_
  refine t_copy hx hb (by rw [hml]; exact hl.1.symm) hown (hts _ kw_756) (hts _ kw_734) (hts _ kw_733) (hts _ kw_23) hkb hH hS (fun _ h9 => h9) t_z9 (hO.no t_z9 (by decide)) t_n13_0_9 (hO.no t_n13_0_9 (by decide)) (by decide) (by decide) (by omega) (by have k0 : (0 : Int32).toInt = 0 := (by decide); omega) (by have k0 : (0 : Int32).toInt = 0 := (by decide); omega) (Nat.le_of_ble_eq_true rfl) (Nat.le_of_ble_eq_true rfl) dX9_cutToSize_114 (fun H locs hH hS => ?_)
  refine lv_aload_n hx hb dX9_cutToSize_117 rfl (lv_at hl 1 rfl) ?_
  refine x_getk (ci := 9) (C := RX9) (F := TX9) (N := 14) (v := .ref z10) hx hb hts uX9 hown hkb hH 1 rfl rfl 10 (by decide) rfl kw_144 (fun _ h9 => h9) dX9_cutToSize_118 ?_
  refine lv_iconst (v := 0) hx hb dX9_cutToSize_121 (by decide) ?_
  refine lv_aload_n hx hb dX9_cutToSize_122 rfl (lv_at hl 0 rfl) ?_
  refine x_getk (ci := 9) (C := RX9) (F := TX9) (N := 14) (v := .ref n13_0_10) hx hb hts uX9 hown hkb hH 0 rfl rfl 10 (by decide) rfl kw_144 (fun _ h9 => h9) dX9_cutToSize_123 ?_
  refine lv_iconst (v := 0) hx hb dX9_cutToSize_126 (by decide) ?_
  refine lv_aload_n hx hb dX9_cutToSize_127 rfl (lv_at hl 1 rfl) ?_
  refine x_getk (ci := 9) (C := RX9) (F := TX9) (N := 14) (v := .int z1) hx hb hts uX9 hown hkb hH 1 rfl rfl 1 (by decide) rfl kw_110 (fun _ h9 => h9) dX9_cutToSize_128 ?_
  refine t_copy hx hb (by rw [hml]; exact hl.1.symm) hown (hts _ kw_756) (hts _ kw_734) (hts _ kw_733) (hts _ kw_23) hkb hH hS (fun x9 _ => cp_0 x9) t_z10 (hO.no t_z10 (by decide)) t_n13_0_10 (hO.no t_n13_0_10 (by decide)) (by decide) (by decide) (by omega) (by have k0 : (0 : Int32).toInt = 0 := (by decide); omega) (by have k0 : (0 : Int32).toInt = 0 := (by decide); omega) (Nat.le_of_ble_eq_true rfl) (Nat.le_of_ble_eq_true rfl) dX9_cutToSize_131 (fun H locs hH hS => ?_)
  refine lv_aload_n hx hb dX9_cutToSize_134 rfl (lv_at hl 0 rfl) ?_
  exact te_r hx hb hr hlocks hH hS (⟨T13, le_T13, (n13_0_0.toInt.toNat), (n13_0_1.toInt.toNat), (.int n13_0_0), (.int n13_0_1), [.int z3, .int z4, .int z5, .ref n13_0_6, .ref n13_0_7, .ref n13_0_8, .ref n13_0_9, .ref n13_0_10, .null, .int n13_0_12, .int n13_0_13], rfl, ⟨okL_c (show Value.int n13_0_0 = Value.int (nI n13_0_0.toInt.toNat) from congrArg Value.int (is_nI (by omega))) (okL_c (show Value.int n13_0_1 = Value.int (nI n13_0_1.toInt.toNat) from congrArg Value.int (is_nI (by omega))) (okL_c (⟨_, rfl⟩) (okL_c (⟨_, rfl, by omega, by omega⟩) (okL_c (⟨_, rfl, by omega, by omega⟩) (okL_c (⟨_, rfl, by omega, by omega⟩) (okL_c (⟨_, rfl, t_n13_0_6⟩) (okL_c (⟨_, rfl, t_n13_0_7⟩) (okL_c (⟨_, rfl, t_n13_0_8⟩) (okL_c (⟨_, rfl, t_n13_0_9⟩) (okL_c (⟨_, rfl, t_n13_0_10⟩) (okL_c (Or.inl rfl) (okL_c (⟨_, rfl, by omega, by omega⟩) (okL_c (⟨_, rfl, by omega, by omega⟩) (okL_n)))))))))))))), by omega, by omega⟩⟩) dX9_cutToSize_135
set_option maxHeartbeats 4000000 in
set_option maxRecDepth 100000 in
theorem s_Wall_cutL2 (l : Launch) (D : va_G) (cs : CS) (kf : KF) (T : TF) (O : List Nat) (X : va_W) (a0 : Nat) (a1 na1 : Nat) (z0 : Int32) (z1 : Int32) (z2 : Int32) (z3 : Int32) (z4 : Int32) (z5 : Int32) (z6 : Nat) (z7 : Nat) (z8 : Nat) (z9 : Nat) (z10 : Nat) (z12 : Int32) (z13 : Int32) (t_a0 : T a0 = some (19, 100, 0)) (t_a1 : T a1 = some (12, na1, 0)) (b_a1 : na1 ≤ 900) (l_z0 : 0 ≤ z0.toInt) (u_z0 : z0.toInt ≤ 14) (l_z1 : 0 ≤ z1.toInt) (u_z1 : z1.toInt ≤ 5) (l_z3 : 0 ≤ z3.toInt) (u_z3 : z3.toInt ≤ 16383) (l_z4 : 0 ≤ z4.toInt) (u_z4 : z4.toInt ≤ 16383) (l_z5 : 0 ≤ z5.toInt) (u_z5 : z5.toInt ≤ 16383) (t_z6 : T z6 = some (1, 14, 0)) (t_z7 : T z7 = some (1, 14, 0)) (t_z8 : T z8 = some (1, 14, 0)) (t_z9 : T z9 = some (1, 5, 0)) (t_z10 : T z10 = some (1, 5, 9)) (l_z12 : 0 ≤ z12.toInt) (u_z12 : z12.toInt ≤ 1) (l_z13 : 0 ≤ z13.toInt) (u_z13 : z13.toInt ≤ 1) (hO : okO T (a0 :: O) [1, 12]) : TK l D cs kf yX9_cutToSize cX9_cutToSize 3 (some (.object "FootholdWall$Wall")) { frames := 2, cells := 6, slots := 66, locals := 60 } [.ref a0, .ref a1] T (a0 :: O) ((a0, .inr (9, [.int z0, .int z1, .int z2, .int z3, .int z4, .int z5, .ref z6, .ref z7, .ref z8, .ref z9, .ref z10, .null, .int z12, .int z13])) :: X) (Tr D cs (fun u => ∃ T2 : TF, Tgr T T2 ∧ ∃ (h9 : Nat) (g9 : Nat) (f90 : Value) (f91 : Value) (f99 : List Value), u.1 = (T2, a0 :: O, (u.2, .inr (9, f90 :: f91 :: (.int z2) :: f99)) :: (a0, .inr (9, [.int z0, .int z1, .int z2, .int z3, .int z4, .int z5, .ref z6, .ref z7, .ref z8, .ref z9, .ref z10, .null, .int z12, .int z13])) :: X) ∧ (okL T2 (ft9w h9 g9) (f90 :: f91 :: Value.int z2 :: f99) ∧ h9 ≤ 14 ∧ g9 ≤ 5))) := by
  refine tk_of (by decide) (Nat.le_of_ble_eq_true rfl) (fun p e s m below meth c ls A H locs hx hb hr hml hown hts hlocks hnm hkb hH hS hA hOX hks hE hl => ?_)
  have hown : s.vm.findClass RX9 = some m.cls := hown
  have hl : lv_has ls 3 [(0, .ref a0), (1, .ref a1)] := hl
  have hOXf := hOX
  refine x_new (ci := 9) (C := RX9) (F := TX9) (N := 14) (fs := [.int 0, .int 0, .int 0, .int 0, .int 0, .int 0, .null, .null, .null, .null, .null, .null, .int 0, .int 0]) hx hb hts uX9 tyX9 tyX9_ok hown kw_754 kw_94 kw_5 hkb hH (ox_map hOX rfl) hS hA rfl dfX9 (Nat.le_of_ble_eq_true rfl) (Nat.le_of_ble_eq_true rfl) dX9_cutToSize_0 (fun v0 H tn_v0 hH hS => ?_)
  have hH : HT D cs A T (a0 :: O) ((v0, .inr (9, [.int 0, .int 0, .int 0, .int 0, .int 0, .int 0, .null, .null, .null, .null, .null, .null, .int 0, .int 0])) :: (a0, .inr (9, [.int z0, .int z1, .int z2, .int z3, .int z4, .int z5, .ref z6, .ref z7, .ref z8, .ref z9, .ref z10, .null, .int z12, .int z13])) :: X) H := hH
  refine W.widen (k := 1) (n := 14) (Nat.le_of_ble_eq_true rfl) (Nat.le_of_ble_eq_true rfl) ?_
  refine lv_dup hx hb dX9_cutToSize_3 rfl ?_
  refine lv_aload_n hx hb dX9_cutToSize_4 rfl (lv_at hl 0 rfl) ?_
  refine x_getk (ci := 9) (C := RX9) (F := TX9) (N := 14) (v := .int z0) hx hb hts uX9 hown hkb hH 1 rfl rfl 0 (by decide) rfl kw_106 (fun _ h9 => h9) dX9_cutToSize_5 ?_
  refine lv_aload_n hx hb dX9_cutToSize_8 rfl (lv_at hl 0 rfl) ?_
  refine x_getk (ci := 9) (C := RX9) (F := TX9) (N := 14) (v := .int z1) hx hb hts uX9 hown hkb hH 1 rfl rfl 1 (by decide) rfl kw_110 (fun _ h9 => h9) dX9_cutToSize_9 ?_
  refine lv_aload_n hx hb dX9_cutToSize_12 rfl (lv_at hl 1 rfl) ?_
  have z9_0 : (0 : Int32).toInt = 0 := by decide
  have z9_0 : (0 : Int32).toInt = 0 := by decide
  have z9_0 : (0 : Int32).toInt = 0 := by decide
  have z9_0 : (0 : Int32).toInt = 0 := by decide
  have z9_0 : (0 : Int32).toInt = 0 := by decide
  have z9_0 : (0 : Int32).toInt = 0 := by decide
  have z9_0 : (0 : Int32).toInt = 0 := by decide
  have z9_0 : (0 : Int32).toInt = 0 := by decide
  refine tk_v hH hS hA (tr_I (n := 3) (As := [.int z0, .int z1, .ref a1]) hx hb hml hown hts hkb hH (ox_n (ox_map hOX rfl)) hks hE hS hA (s_Wall_initL l D cs kf T (a0 :: O) ((a0, .inr (9, [.int z0, .int z1, .int z2, .int z3, .int z4, .int z5, .ref z6, .ref z7, .ref z8, .ref z9, .ref z10, .null, .int z12, .int z13])) :: X) v0 z0 z1 a1 na1 (ox_map hOX rfl) (by omega) (by omega) (by omega) (by omega) t_a1 b_a1 (hO.sub (by decide))) kw_755 kw_96 kw_5 kw_97 rfl (by decide +kernel) ⟨Nat.le_of_ble_eq_true rfl, Nat.le_of_ble_eq_true rfl⟩ rfl rfl hl.1 (Nat.le_of_ble_eq_true rfl) dX9_cutToSize_13 ⟨Nat.le_of_ble_eq_true rfl, Nat.le_of_ble_eq_true rfl⟩) (fun u H locs hz9 hH hS => ?_)
  obtain ⟨T13, le_T13, n13_0_0, n13_0_1, n13_0_6, n13_0_7, n13_0_8, n13_0_9, n13_0_10, n13_0_12, n13_0_13, rfl, x_v130, x_v131, x_v132, x_v133, x_v134, x_v135, x_v136, x_v137, x_v138, x_v139, x_v1310⟩ := hz9
  have t_a0 := le_T13.1 _ _ t_a0
  have t_a1 := le_T13.1 _ _ t_a1
  have t_z6 := le_T13.1 _ _ t_z6
  have t_z7 := le_T13.1 _ _ t_z7
  have t_z8 := le_T13.1 _ _ t_z8
  have t_z9 := le_T13.1 _ _ t_z9
  have t_z10 := le_T13.1 _ _ t_z10
  have hO := okO.le le_T13.1 hO
  have t_n13_0_6 := x_v132
  have t_n13_0_7 := x_v133
  have t_n13_0_8 := x_v134
  have t_n13_0_9 := x_v135
  have t_n13_0_10 := x_v136
  have hH : HT D cs A T13 (a0 :: O) ((v0, .inr (9, [.int n13_0_0, .int n13_0_1, .int 0, .int 0, .int 0, .int 0, .ref n13_0_6, .ref n13_0_7, .ref n13_0_8, .ref n13_0_9, .ref n13_0_10, .ref a1, .int n13_0_12, .int n13_0_13])) :: (a0, .inr (9, [.int z0, .int z1, .int z2, .int z3, .int z4, .int z5, .ref z6, .ref z7, .ref z8, .ref z9, .ref z10, .null, .int z12, .int z13])) :: X) H := hH
  refine W.widen (k := 6) (n := 66) (Nat.le_of_ble_eq_true rfl) (Nat.le_of_ble_eq_true rfl) ?_
  refine lv_astore_n (lv' := [(2, .ref v0), (0, .ref a0), (1, .ref a1)]) hx hb dX9_cutToSize_16 rfl hl (by decide) rfl (fun ls hl => ?_)
  refine lv_aload_n hx hb dX9_cutToSize_17 rfl (lv_at hl 0 rfl) ?_
  refine lv_aload_n hx hb dX9_cutToSize_18 rfl (lv_at hl 1 rfl) ?_
  refine x_getk (ci := 9) (C := RX9) (F := TX9) (N := 14) (v := .int z2) hx hb hts uX9 hown hkb hH 1 rfl rfl 2 (by decide) rfl kw_113 (fun _ h9 => h9) dX9_cutToSize_19 ?_
  refine x_putk (ci := 9) (v := .int z2) (ty := tyX9 2) (C := RX9) (F := TX9) (N := 14) hx hb hts uX9 tyX9 tyX9_ok nmX9 hown hkb hH hS 0 rfl rfl 2 (by decide) kw_113 (fun _ h9 => h9) rfl (tyX9_ok 2 (by decide)) rfl rfl (Nat.le_of_ble_eq_true rfl) dX9_cutToSize_22 (fun H locs hH hS => ?_)
  have hH : HT D cs A T13 (a0 :: O) ((v0, .inr (9, [.int n13_0_0, .int n13_0_1, .int z2, .int 0, .int 0, .int 0, .ref n13_0_6, .ref n13_0_7, .ref n13_0_8, .ref n13_0_9, .ref n13_0_10, .ref a1, .int n13_0_12, .int n13_0_13])) :: (a0, .inr (9, [.int z0, .int z1, .int z2, .int z3, .int z4, .int z5, .ref z6, .ref z7, .ref z8, .ref z9, .ref z10, .null, .int z12, .int z13])) :: X) H := hH
  refine lv_aload_n hx hb dX9_cutToSize_25 rfl (lv_at hl 0 rfl) ?_
  refine lv_aload_n hx hb dX9_cutToSize_26 rfl (lv_at hl 1 rfl) ?_
  refine x_getk (ci := 9) (C := RX9) (F := TX9) (N := 14) (v := .int z3) hx hb hts uX9 hown hkb hH 1 rfl rfl 3 (by decide) rfl kw_116 (fun _ h9 => h9) dX9_cutToSize_27 ?_
  refine x_putk (ci := 9) (v := .int z3) (ty := tyX9 3) (C := RX9) (F := TX9) (N := 14) hx hb hts uX9 tyX9 tyX9_ok nmX9 hown hkb hH hS 0 rfl rfl 3 (by decide) kw_116 (fun _ h9 => h9) rfl (tyX9_ok 3 (by decide)) rfl rfl (Nat.le_of_ble_eq_true rfl) dX9_cutToSize_30 (fun H locs hH hS => ?_)
  have hH : HT D cs A T13 (a0 :: O) ((v0, .inr (9, [.int n13_0_0, .int n13_0_1, .int z2, .int z3, .int 0, .int 0, .ref n13_0_6, .ref n13_0_7, .ref n13_0_8, .ref n13_0_9, .ref n13_0_10, .ref a1, .int n13_0_12, .int n13_0_13])) :: (a0, .inr (9, [.int z0, .int z1, .int z2, .int z3, .int z4, .int z5, .ref z6, .ref z7, .ref z8, .ref z9, .ref z10, .null, .int z12, .int z13])) :: X) H := hH
  refine lv_aload_n hx hb dX9_cutToSize_33 rfl (lv_at hl 0 rfl) ?_
  refine lv_aload_n hx hb dX9_cutToSize_34 rfl (lv_at hl 1 rfl) ?_
  refine x_getk (ci := 9) (C := RX9) (F := TX9) (N := 14) (v := .int z4) hx hb hts uX9 hown hkb hH 1 rfl rfl 4 (by decide) rfl kw_123 (fun _ h9 => h9) dX9_cutToSize_35 ?_
  refine x_putk (ci := 9) (v := .int z4) (ty := tyX9 4) (C := RX9) (F := TX9) (N := 14) hx hb hts uX9 tyX9 tyX9_ok nmX9 hown hkb hH hS 0 rfl rfl 4 (by decide) kw_123 (fun _ h9 => h9) rfl (tyX9_ok 4 (by decide)) rfl rfl (Nat.le_of_ble_eq_true rfl) dX9_cutToSize_38 (fun H locs hH hS => ?_)
  have hH : HT D cs A T13 (a0 :: O) ((v0, .inr (9, [.int n13_0_0, .int n13_0_1, .int z2, .int z3, .int z4, .int 0, .ref n13_0_6, .ref n13_0_7, .ref n13_0_8, .ref n13_0_9, .ref n13_0_10, .ref a1, .int n13_0_12, .int n13_0_13])) :: (a0, .inr (9, [.int z0, .int z1, .int z2, .int z3, .int z4, .int z5, .ref z6, .ref z7, .ref z8, .ref z9, .ref z10, .null, .int z12, .int z13])) :: X) H := hH
  refine lv_aload_n hx hb dX9_cutToSize_41 rfl (lv_at hl 0 rfl) ?_
  refine lv_aload_n hx hb dX9_cutToSize_42 rfl (lv_at hl 1 rfl) ?_
  refine x_getk (ci := 9) (C := RX9) (F := TX9) (N := 14) (v := .int z5) hx hb hts uX9 hown hkb hH 1 rfl rfl 5 (by decide) rfl kw_130 (fun _ h9 => h9) dX9_cutToSize_43 ?_
  refine x_putk (ci := 9) (v := .int z5) (ty := tyX9 5) (C := RX9) (F := TX9) (N := 14) hx hb hts uX9 tyX9 tyX9_ok nmX9 hown hkb hH hS 0 rfl rfl 5 (by decide) kw_130 (fun _ h9 => h9) rfl (tyX9_ok 5 (by decide)) rfl rfl (Nat.le_of_ble_eq_true rfl) dX9_cutToSize_46 (fun H locs hH hS => ?_)
  have hH : HT D cs A T13 (a0 :: O) ((v0, .inr (9, [.int n13_0_0, .int n13_0_1, .int z2, .int z3, .int z4, .int z5, .ref n13_0_6, .ref n13_0_7, .ref n13_0_8, .ref n13_0_9, .ref n13_0_10, .ref a1, .int n13_0_12, .int n13_0_13])) :: (a0, .inr (9, [.int z0, .int z1, .int z2, .int z3, .int z4, .int z5, .ref z6, .ref z7, .ref z8, .ref z9, .ref z10, .null, .int z12, .int z13])) :: X) H := hH
  refine lv_aload_n hx hb dX9_cutToSize_49 rfl (lv_at hl 1 rfl) ?_
  refine x_getk (ci := 9) (C := RX9) (F := TX9) (N := 14) (v := .ref z6) hx hb hts uX9 hown hkb hH 1 rfl rfl 6 (by decide) rfl kw_132 (fun _ h9 => h9) dX9_cutToSize_50 ?_
  refine lv_iconst (v := 0) hx hb dX9_cutToSize_53 (by decide) ?_
  refine lv_aload_n hx hb dX9_cutToSize_54 rfl (lv_at hl 0 rfl) ?_
  refine x_getk (ci := 9) (C := RX9) (F := TX9) (N := 14) (v := .ref n13_0_6) hx hb hts uX9 hown hkb hH 0 rfl rfl 6 (by decide) rfl kw_132 (fun _ h9 => h9) dX9_cutToSize_55 ?_
  refine lv_iconst (v := 0) hx hb dX9_cutToSize_58 (by decide) ?_
  refine lv_aload_n hx hb dX9_cutToSize_59 rfl (lv_at hl 1 rfl) ?_
  refine x_getk (ci := 9) (C := RX9) (F := TX9) (N := 14) (v := .int z0) hx hb hts uX9 hown hkb hH 1 rfl rfl 0 (by decide) rfl kw_106 (fun _ h9 => h9) dX9_cutToSize_60 ?_
  refine t_copy hx hb (by rw [hml]; exact hl.1.symm) hown (hts _ kw_756) (hts _ kw_734) (hts _ kw_733) (hts _ kw_23) hkb hH hS (fun _ h9 => h9) t_z6 (hO.no t_z6 (by decide)) t_n13_0_6 (hO.no t_n13_0_6 (by decide)) (by decide) (by decide) (by omega) (by have k0 : (0 : Int32).toInt = 0 := (by decide); omega) (by have k0 : (0 : Int32).toInt = 0 := (by decide); omega) (Nat.le_of_ble_eq_true rfl) (Nat.le_of_ble_eq_true rfl) dX9_cutToSize_63 (fun H locs hH hS => ?_)
  refine lv_aload_n hx hb dX9_cutToSize_66 rfl (lv_at hl 1 rfl) ?_
  refine x_getk (ci := 9) (C := RX9) (F := TX9) (N := 14) (v := .ref z7) hx hb hts uX9 hown hkb hH 1 rfl rfl 7 (by decide) rfl kw_135 (fun _ h9 => h9) dX9_cutToSize_67 ?_
  refine lv_iconst (v := 0) hx hb dX9_cutToSize_70 (by decide) ?_
  refine lv_aload_n hx hb dX9_cutToSize_71 rfl (lv_at hl 0 rfl) ?_
  refine x_getk (ci := 9) (C := RX9) (F := TX9) (N := 14) (v := .ref n13_0_7) hx hb hts uX9 hown hkb hH 0 rfl rfl 7 (by decide) rfl kw_135 (fun _ h9 => h9) dX9_cutToSize_72 ?_
  refine lv_iconst (v := 0) hx hb dX9_cutToSize_75 (by decide) ?_
  refine lv_aload_n hx hb dX9_cutToSize_76 rfl (lv_at hl 1 rfl) ?_
  refine x_getk (ci := 9) (C := RX9) (F := TX9) (N := 14) (v := .int z0) hx hb hts uX9 hown hkb hH 1 rfl rfl 0 (by decide) rfl kw_106 (fun _ h9 => h9) dX9_cutToSize_77 ?_
  refine t_copy hx hb (by rw [hml]; exact hl.1.symm) hown (hts _ kw_756) (hts _ kw_734) (hts _ kw_733) (hts _ kw_23) hkb hH hS (fun _ h9 => h9) t_z7 (hO.no t_z7 (by decide)) t_n13_0_7 (hO.no t_n13_0_7 (by decide)) (by decide) (by decide) (by omega) (by have k0 : (0 : Int32).toInt = 0 := (by decide); omega) (by have k0 : (0 : Int32).toInt = 0 := (by decide); omega) (Nat.le_of_ble_eq_true rfl) (Nat.le_of_ble_eq_true rfl) dX9_cutToSize_80 (fun H locs hH hS => ?_)
  refine lv_aload_n hx hb dX9_cutToSize_83 rfl (lv_at hl 1 rfl) ?_
  refine x_getk (ci := 9) (C := RX9) (F := TX9) (N := 14) (v := .ref z8) hx hb hts uX9 hown hkb hH 1 rfl rfl 8 (by decide) rfl kw_138 (fun _ h9 => h9) dX9_cutToSize_84 ?_
  refine lv_iconst (v := 0) hx hb dX9_cutToSize_87 (by decide) ?_
  refine lv_aload_n hx hb dX9_cutToSize_88 rfl (lv_at hl 0 rfl) ?_
  refine x_getk (ci := 9) (C := RX9) (F := TX9) (N := 14) (v := .ref n13_0_8) hx hb hts uX9 hown hkb hH 0 rfl rfl 8 (by decide) rfl kw_138 (fun _ h9 => h9) dX9_cutToSize_89 ?_
  refine lv_iconst (v := 0) hx hb dX9_cutToSize_92 (by decide) ?_
  refine lv_aload_n hx hb dX9_cutToSize_93 rfl (lv_at hl 1 rfl) ?_
  refine x_getk (ci := 9) (C := RX9) (F := TX9) (N := 14) (v := .int z0) hx hb hts uX9 hown hkb hH 1 rfl rfl 0 (by decide) rfl kw_106 (fun _ h9 => h9) dX9_cutToSize_94 ?_
  refine t_copy hx hb (by rw [hml]; exact hl.1.symm) hown (hts _ kw_756) (hts _ kw_734) (hts _ kw_733) (hts _ kw_23) hkb hH hS (fun _ h9 => h9) t_z8 (hO.no t_z8 (by decide)) t_n13_0_8 (hO.no t_n13_0_8 (by decide)) (by decide) (by decide) (by omega) (by have k0 : (0 : Int32).toInt = 0 := (by decide); omega) (by have k0 : (0 : Int32).toInt = 0 := (by decide); omega) (Nat.le_of_ble_eq_true rfl) (Nat.le_of_ble_eq_true rfl) dX9_cutToSize_97 (fun H locs hH hS => ?_)
  refine lv_aload_n hx hb dX9_cutToSize_100 rfl (lv_at hl 1 rfl) ?_
  refine x_getk (ci := 9) (C := RX9) (F := TX9) (N := 14) (v := .ref z9) hx hb hts uX9 hown hkb hH 1 rfl rfl 9 (by decide) rfl kw_141 (fun _ h9 => h9) dX9_cutToSize_101 ?_
  refine lv_iconst (v := 0) hx hb dX9_cutToSize_104 (by decide) ?_
  refine lv_aload_n hx hb dX9_cutToSize_105 rfl (lv_at hl 0 rfl) ?_
  refine x_getk (ci := 9) (C := RX9) (F := TX9) (N := 14) (v := .ref n13_0_9) hx hb hts uX9 hown hkb hH 0 rfl rfl 9 (by decide) rfl kw_141 (fun _ h9 => h9) dX9_cutToSize_106 ?_
  refine lv_iconst (v := 0) hx hb dX9_cutToSize_109 (by decide) ?_
  refine lv_aload_n hx hb dX9_cutToSize_110 rfl (lv_at hl 1 rfl) ?_
  refine x_getk (ci := 9) (C := RX9) (F := TX9) (N := 14) (v := .int z1) hx hb hts uX9 hown hkb hH 1 rfl rfl 1 (by decide) rfl kw_110 (fun _ h9 => h9) dX9_cutToSize_111 ?_
  refine t_copy hx hb (by rw [hml]; exact hl.1.symm) hown (hts _ kw_756) (hts _ kw_734) (hts _ kw_733) (hts _ kw_23) hkb hH hS (fun _ h9 => h9) t_z9 (hO.no t_z9 (by decide)) t_n13_0_9 (hO.no t_n13_0_9 (by decide)) (by decide) (by decide) (by omega) (by have k0 : (0 : Int32).toInt = 0 := (by decide); omega) (by have k0 : (0 : Int32).toInt = 0 := (by decide); omega) (Nat.le_of_ble_eq_true rfl) (Nat.le_of_ble_eq_true rfl) dX9_cutToSize_114 (fun H locs hH hS => ?_)
  refine lv_aload_n hx hb dX9_cutToSize_117 rfl (lv_at hl 1 rfl) ?_
  refine x_getk (ci := 9) (C := RX9) (F := TX9) (N := 14) (v := .ref z10) hx hb hts uX9 hown hkb hH 1 rfl rfl 10 (by decide) rfl kw_144 (fun _ h9 => h9) dX9_cutToSize_118 ?_
  refine lv_iconst (v := 0) hx hb dX9_cutToSize_121 (by decide) ?_
  refine lv_aload_n hx hb dX9_cutToSize_122 rfl (lv_at hl 0 rfl) ?_
  refine x_getk (ci := 9) (C := RX9) (F := TX9) (N := 14) (v := .ref n13_0_10) hx hb hts uX9 hown hkb hH 0 rfl rfl 10 (by decide) rfl kw_144 (fun _ h9 => h9) dX9_cutToSize_123 ?_
  refine lv_iconst (v := 0) hx hb dX9_cutToSize_126 (by decide) ?_
  refine lv_aload_n hx hb dX9_cutToSize_127 rfl (lv_at hl 1 rfl) ?_
  refine x_getk (ci := 9) (C := RX9) (F := TX9) (N := 14) (v := .int z1) hx hb hts uX9 hown hkb hH 1 rfl rfl 1 (by decide) rfl kw_110 (fun _ h9 => h9) dX9_cutToSize_128 ?_
  refine t_copy hx hb (by rw [hml]; exact hl.1.symm) hown (hts _ kw_756) (hts _ kw_734) (hts _ kw_733) (hts _ kw_23) hkb hH hS (fun x9 _ => cp_0 x9) t_z10 (hO.no t_z10 (by decide)) t_n13_0_10 (hO.no t_n13_0_10 (by decide)) (by decide) (by decide) (by omega) (by have k0 : (0 : Int32).toInt = 0 := (by decide); omega) (by have k0 : (0 : Int32).toInt = 0 := (by decide); omega) (Nat.le_of_ble_eq_true rfl) (Nat.le_of_ble_eq_true rfl) dX9_cutToSize_131 (fun H locs hH hS => ?_)
  refine lv_aload_n hx hb dX9_cutToSize_134 rfl (lv_at hl 0 rfl) ?_
  exact te_r hx hb hr hlocks hH hS (⟨T13, le_T13, (n13_0_0.toInt.toNat), (n13_0_1.toInt.toNat), (.int n13_0_0), (.int n13_0_1), [.int z3, .int z4, .int z5, .ref n13_0_6, .ref n13_0_7, .ref n13_0_8, .ref n13_0_9, .ref n13_0_10, .ref a1, .int n13_0_12, .int n13_0_13], rfl, ⟨okL_c (show Value.int n13_0_0 = Value.int (nI n13_0_0.toInt.toNat) from congrArg Value.int (is_nI (by omega))) (okL_c (show Value.int n13_0_1 = Value.int (nI n13_0_1.toInt.toNat) from congrArg Value.int (is_nI (by omega))) (okL_c (⟨_, rfl⟩) (okL_c (⟨_, rfl, by omega, by omega⟩) (okL_c (⟨_, rfl, by omega, by omega⟩) (okL_c (⟨_, rfl, by omega, by omega⟩) (okL_c (⟨_, rfl, t_n13_0_6⟩) (okL_c (⟨_, rfl, t_n13_0_7⟩) (okL_c (⟨_, rfl, t_n13_0_8⟩) (okL_c (⟨_, rfl, t_n13_0_9⟩) (okL_c (⟨_, rfl, t_n13_0_10⟩) (okL_c (Or.inr ⟨_, _, rfl, t_a1, b_a1⟩) (okL_c (⟨_, rfl, by omega, by omega⟩) (okL_c (⟨_, rfl, by omega, by omega⟩) (okL_n)))))))))))))), by omega, by omega⟩⟩) dX9_cutToSize_135
set_option maxHeartbeats 4000000 in
set_option maxRecDepth 100000 in
theorem s_RD_made2 (l : Launch) (D : va_G) (cs : CS) (kf : KF) (T : TF) (O : List Nat) (X : va_W) (a0 d : Nat) (z0 : Int32) (z1 : Int32) (z2 : Int32) (z3 : Int32) (z4 : Int32) (z5 : Int32) (z6 : Nat) (z7 : Nat) (z8 : Nat) (z9 : Nat) (z10 : Nat) (z12 : Int32) (z13 : Int32) (t_a0 : T a0 = some (14, d, 0)) (t_d : T d = some (19, 100, 0)) (l_z0 : 0 ≤ z0.toInt) (u_z0 : z0.toInt ≤ 14) (l_z1 : 0 ≤ z1.toInt) (u_z1 : z1.toInt ≤ 5) (l_z3 : 0 ≤ z3.toInt) (u_z3 : z3.toInt ≤ 16383) (l_z4 : 0 ≤ z4.toInt) (u_z4 : z4.toInt ≤ 16383) (l_z5 : 0 ≤ z5.toInt) (u_z5 : z5.toInt ≤ 16383) (t_z6 : T z6 = some (1, 14, 0)) (t_z7 : T z7 = some (1, 14, 0)) (t_z8 : T z8 = some (1, 14, 0)) (t_z9 : T z9 = some (1, 5, 0)) (t_z10 : T z10 = some (1, 5, 9)) (l_z12 : 0 ≤ z12.toInt) (u_z12 : z12.toInt ≤ 1) (l_z13 : 0 ≤ z13.toInt) (u_z13 : z13.toInt ≤ 1) (hO : okO T (d :: O) [1, 12, 13, 14]) : TK l D cs kf yX4_made cX4_made 1 (some (.object "FootholdWall$Wall")) { frames := 3, cells := 10, slots := 1001, locals := 102 } [.ref a0] T (d :: O) ((d, .inr (9, [.int z0, .int z1, .int z2, .int z3, .int z4, .int z5, .ref z6, .ref z7, .ref z8, .ref z9, .ref z10, .null, .int z12, .int z13])) :: X) (Tr D cs (fun u => ∃ T2 : TF, Tgr T T2 ∧ ∃ (h9 : Nat) (g9 : Nat) (f90 : Value) (f91 : Value) (f99 : List Value), u.1 = (T2, d :: O, (u.2, .inr (9, f90 :: f91 :: (.int z2) :: f99)) :: (d, .inr (9, [.int z0, .int z1, .int z2, .int z3, .int z4, .int z5, .ref z6, .ref z7, .ref z8, .ref z9, .ref z10, .null, .int z12, .int z13])) :: X) ∧ (okL T2 (ft9w h9 g9) (f90 :: f91 :: Value.int z2 :: f99) ∧ h9 ≤ 14 ∧ g9 ≤ 5))) := by
  refine tk_of (by decide) (Nat.le_of_ble_eq_true rfl) (fun p e s m below meth c ls A H locs hx hb hr hml hown hts hlocks hnm hkb hH hS hA hOX hks hE hl => ?_)
  have hown : s.vm.findClass RX4 = some m.cls := hown
  have hl : lv_has ls 1 [(0, .ref a0)] := hl
  have hOXf := hOX
  refine lv_aload_n hx hb dX4_made_0 rfl (lv_at hl 0 rfl) ?_
  refine t_get (ci := 4) (lst := ft4 d 0) (C := RX4) (F := TX4) (N := 5) hx hb hts uX4 hown hkb hH t_a0 (hO.no t_a0 (by decide)) (fun _ h9 => h9) rfl rfl 2 (by decide) rfl kw_214 (fun _ h9 => h9) dX4_made_1 (fun v9 h9 => ?_)
  have h9 : v9 = .ref d := h9
  subst h9
  refine lv_aload_n hx hb dX4_made_4 rfl (lv_at hl 0 rfl) ?_
  refine t_get (ci := 4) (lst := ft4 d 0) (C := RX4) (F := TX4) (N := 5) hx hb hts uX4 hown hkb hH t_a0 (hO.no t_a0 (by decide)) (fun _ h9 => h9) rfl rfl 3 (by decide) rfl kw_215 (fun _ h9 => h9) dX4_made_5 (fun v9 h9 => ?_)
  obtain ⟨v5, rfl, l_v5, u_v5⟩ := h9
  refine lv_if_eq (tgt := 21) hx hb dX4_made_8 (by decide) (fun c8 => ?_) (fun c8 => ?_)
  · skip
    have tc8 := f_eq (k := 0) (by decide) c8
    refine lv_null hx hb dX4_made_21 ?_
    refine tk_r hH hS hA (tr_V (n := 1) (As := [.null]) hx hb hml hown hts hkb hH (ox_map hOX rfl) hks hE hS hA (s_Wall_cutN2 l D cs kf T O X d z0 z1 z2 z3 z4 z5 z6 z7 z8 z9 z10 z12 z13 t_d (by omega) (by omega) (by omega) (by omega) (by omega) (by omega) (by omega) (by omega) (by omega) (by omega) t_z6 t_z7 t_z8 t_z9 t_z10 (by omega) (by omega) (by omega) (by omega) (hO.sub (by decide))) kw_750 kw_751 kw_752 kw_5 kw_753 (by decide +kernel) ⟨Nat.le_of_ble_eq_true rfl, Nat.le_of_ble_eq_true rfl⟩ (x_recv (ci := 9) hkb hH 0 rfl rfl) rfl rfl hl.1 (Nat.le_of_ble_eq_true rfl) dX4_made_22 ⟨Nat.le_of_ble_eq_true rfl, Nat.le_of_ble_eq_true rfl⟩) (fun v22 u H locs hz9 hH hS => ?_)
    dsimp only at hz9
    obtain ⟨T22, le_T22, h9_22, g9_22, f90_22, f91_22, f99_22, rfl, ⟨ok_v22, bh_v22, bg_v22⟩⟩ := hz9
    have t_a0 := le_T22.1 _ _ t_a0
    have t_d := le_T22.1 _ _ t_d
    have t_z6 := le_T22.1 _ _ t_z6
    have t_z7 := le_T22.1 _ _ t_z7
    have t_z8 := le_T22.1 _ _ t_z8
    have t_z9 := le_T22.1 _ _ t_z9
    have t_z10 := le_T22.1 _ _ t_z10
    have hO := okO.le le_T22.1 hO
    have hH : HT D cs A T22 (d :: O) ((v22, .inr (9, f90_22 :: f91_22 :: (.int z2) :: f99_22)) :: (d, .inr (9, [.int z0, .int z1, .int z2, .int z3, .int z4, .int z5, .ref z6, .ref z7, .ref z8, .ref z9, .ref z10, .null, .int z12, .int z13])) :: X) H := hH
    refine W.widen (k := 6) (n := 66) (Nat.le_of_ble_eq_true rfl) (Nat.le_of_ble_eq_true rfl) ?_
    refine W.widen (k := 10) (n := 1001) (Nat.le_of_ble_eq_true rfl) (Nat.le_of_ble_eq_true rfl) ?_
    exact te_r hx hb hr hlocks hH hS (⟨T22, le_T22, h9_22, g9_22, f90_22, f91_22, f99_22, rfl, ⟨ok_v22, bh_v22, bg_v22⟩⟩) dX4_made_25
  · skip
    have tc8 := f_ne (k := 0) (by decide) c8
    refine lv_aload_n hx hb dX4_made_11 rfl (lv_at hl 0 rfl) ?_
    refine t_get (ci := 4) (lst := ft4 d 0) (C := RX4) (F := TX4) (N := 5) hx hb hts uX4 hown hkb hH t_a0 (hO.no t_a0 (by decide)) (fun _ h9 => h9) rfl rfl 1 (by decide) rfl kw_213 (fun _ h9 => h9) dX4_made_12 (fun v9 h9 => ?_)
    obtain ⟨v12, rfl, t_v12⟩ := h9
    refine tk_r hH hS hA (tr_V (n := 0) (As := []) hx hb hml hown hts hkb hH (ox_map hOX rfl) hks hE hS hA (s_LR_made l D cs kf T (d :: O) ((d, .inr (9, [.int z0, .int z1, .int z2, .int z3, .int z4, .int z5, .ref z6, .ref z7, .ref z8, .ref z9, .ref z10, .null, .int z12, .int z13])) :: X) v12 t_v12 (hO.sub (by decide))) kw_715 kw_716 kw_717 kw_4 kw_718 (by decide +kernel) ⟨Nat.le_of_ble_eq_true rfl, Nat.le_of_ble_eq_true rfl⟩ (HT.recv (ci := 3) hkb hH t_v12 (hO.no t_v12 (by decide)) rfl) rfl rfl hl.1 (Nat.le_of_ble_eq_true rfl) dX4_made_15 ⟨Nat.le_of_ble_eq_true rfl, Nat.le_of_ble_eq_true rfl⟩) (fun v15 u H locs hz9 hH hS => ?_)
    obtain ⟨T15, le_T15, rfl, ⟨nv15, t_v15, b_v15⟩⟩ := hz9
    have t_a0 := le_T15.1 _ _ t_a0
    have t_d := le_T15.1 _ _ t_d
    have t_z6 := le_T15.1 _ _ t_z6
    have t_z7 := le_T15.1 _ _ t_z7
    have t_z8 := le_T15.1 _ _ t_z8
    have t_z9 := le_T15.1 _ _ t_z9
    have t_z10 := le_T15.1 _ _ t_z10
    have t_v12 := le_T15.1 _ _ t_v12
    have hO := okO.le le_T15.1 hO
    have hH : HT D cs A T15 (d :: O) ((d, .inr (9, [.int z0, .int z1, .int z2, .int z3, .int z4, .int z5, .ref z6, .ref z7, .ref z8, .ref z9, .ref z10, .null, .int z12, .int z13])) :: X) H := hH
    refine W.widen (k := 4) (n := 935) (Nat.le_of_ble_eq_true rfl) (Nat.le_of_ble_eq_true rfl) ?_
    refine lv_goto (tgt := 22) hx hb dX4_made_18 (by decide) ?_
    refine tk_r hH hS hA (tr_V (n := 1) (As := [.ref v15]) hx hb hml hown hts hkb hH (ox_map hOX rfl) hks hE hS hA (s_Wall_cutL2 l D cs kf T15 O X d v15 nv15 z0 z1 z2 z3 z4 z5 z6 z7 z8 z9 z10 z12 z13 t_d t_v15 b_v15 (by omega) (by omega) (by omega) (by omega) (by omega) (by omega) (by omega) (by omega) (by omega) (by omega) t_z6 t_z7 t_z8 t_z9 t_z10 (by omega) (by omega) (by omega) (by omega) (hO.sub (by decide))) kw_750 kw_751 kw_752 kw_5 kw_753 (by decide +kernel) ⟨Nat.le_of_ble_eq_true rfl, Nat.le_of_ble_eq_true rfl⟩ (x_recv (ci := 9) hkb hH 0 rfl rfl) rfl rfl hl.1 (Nat.le_of_ble_eq_true rfl) dX4_made_22 ⟨Nat.le_of_ble_eq_true rfl, Nat.le_of_ble_eq_true rfl⟩) (fun v22 u H locs hz9 hH hS => ?_)
    dsimp only at hz9
    obtain ⟨T22, le_T22, h9_22, g9_22, f90_22, f91_22, f99_22, rfl, ⟨ok_v22, bh_v22, bg_v22⟩⟩ := hz9
    have t_a0 := le_T22.1 _ _ t_a0
    have t_d := le_T22.1 _ _ t_d
    have t_z6 := le_T22.1 _ _ t_z6
    have t_z7 := le_T22.1 _ _ t_z7
    have t_z8 := le_T22.1 _ _ t_z8
    have t_z9 := le_T22.1 _ _ t_z9
    have t_z10 := le_T22.1 _ _ t_z10
    have t_v12 := le_T22.1 _ _ t_v12
    have t_v15 := le_T22.1 _ _ t_v15
    have hO := okO.le le_T22.1 hO
    have hH : HT D cs A T22 (d :: O) ((v22, .inr (9, f90_22 :: f91_22 :: (.int z2) :: f99_22)) :: (d, .inr (9, [.int z0, .int z1, .int z2, .int z3, .int z4, .int z5, .ref z6, .ref z7, .ref z8, .ref z9, .ref z10, .null, .int z12, .int z13])) :: X) H := hH
    refine W.widen (k := 10) (n := 1001) (Nat.le_of_ble_eq_true rfl) (Nat.le_of_ble_eq_true rfl) ?_
    exact te_r hx hb hr hlocks hH hS (⟨T22, (Tgr.tr le_T15 le_T22), h9_22, g9_22, f90_22, f91_22, f99_22, rfl, ⟨ok_v22, bh_v22, bg_v22⟩⟩) dX4_made_25
theorem dX0_begunOver_0 : decode cX0_begunOver 0 = .ok (.iconst 0, 1) := by decide +kernel
theorem dX0_begunOver_1 : decode cX0_begunOver 1 = .ok (.istore 4, 2) := by decide +kernel
theorem dX0_begunOver_3 : decode cX0_begunOver 3 = .ok (.iconst 1, 1) := by decide +kernel
theorem dX0_begunOver_4 : decode cX0_begunOver 4 = .ok (.iload_n 2, 1) := by decide +kernel
theorem dX0_begunOver_5 : decode cX0_begunOver 5 = .ok (.invokestatic 37, 3) := by decide +kernel
theorem dX0_begunOver_8 : decode cX0_begunOver 8 = .ok (.ishl, 1) := by decide +kernel
theorem dX0_begunOver_9 : decode cX0_begunOver 9 = .ok (.istore 5, 2) := by decide +kernel
theorem dX0_begunOver_11 : decode cX0_begunOver 11 = .ok (.iconst 0, 1) := by decide +kernel
theorem dX0_begunOver_12 : decode cX0_begunOver 12 = .ok (.istore 6, 2) := by decide +kernel
theorem dX0_begunOver_14 : decode cX0_begunOver 14 = .ok (.iconst 0, 1) := by decide +kernel
theorem dX0_begunOver_15 : decode cX0_begunOver 15 = .ok (.istore 7, 2) := by decide +kernel
theorem dX0_begunOver_17 : decode cX0_begunOver 17 = .ok (.iload 7, 2) := by decide +kernel
theorem dX0_begunOver_19 : decode cX0_begunOver 19 = .ok (.iload 5, 2) := by decide +kernel
theorem dX0_begunOver_21 : decode cX0_begunOver 21 = .ok (.if_icmp .ge 59, 3) := by decide +kernel
theorem dX0_begunOver_24 : decode cX0_begunOver 24 = .ok (.iload_n 1, 1) := by decide +kernel
theorem dX0_begunOver_25 : decode cX0_begunOver 25 = .ok (.iload 6, 2) := by decide +kernel
theorem dX0_begunOver_27 : decode cX0_begunOver 27 = .ok (.ior, 1) := by decide +kernel
theorem dX0_begunOver_28 : decode cX0_begunOver 28 = .ok (.istore 8, 2) := by decide +kernel
theorem dX0_begunOver_30 : decode cX0_begunOver 30 = .ok (.iload 8, 2) := by decide +kernel
theorem dX0_begunOver_32 : decode cX0_begunOver 32 = .ok (.invokestatic 37, 3) := by decide +kernel
theorem dX0_begunOver_35 : decode cX0_begunOver 35 = .ok (.iload_n 3, 1) := by decide +kernel
theorem dX0_begunOver_36 : decode cX0_begunOver 36 = .ok (.if_icmp .ne 30, 3) := by decide +kernel
theorem dX0_begunOver_39 : decode cX0_begunOver 39 = .ok (.iload 8, 2) := by decide +kernel
theorem dX0_begunOver_41 : decode cX0_begunOver 41 = .ok (.ifCond .lt 25, 3) := by decide +kernel
theorem dX0_begunOver_44 : decode cX0_begunOver 44 = .ok (.iload 8, 2) := by decide +kernel
theorem dX0_begunOver_46 : decode cX0_begunOver 46 = .ok (.aload_n 0, 1) := by decide +kernel
theorem dX0_begunOver_47 : decode cX0_begunOver 47 = .ok (.getfield 9, 3) := by decide +kernel
theorem dX0_begunOver_50 : decode cX0_begunOver 50 = .ok (.arraylength, 1) := by decide +kernel
theorem dX0_begunOver_51 : decode cX0_begunOver 51 = .ok (.if_icmp .ge 15, 3) := by decide +kernel
theorem dX0_begunOver_54 : decode cX0_begunOver 54 = .ok (.iload 4, 2) := by decide +kernel
theorem dX0_begunOver_56 : decode cX0_begunOver 56 = .ok (.aload_n 0, 1) := by decide +kernel
theorem dX0_begunOver_57 : decode cX0_begunOver 57 = .ok (.getfield 9, 3) := by decide +kernel
theorem dX0_begunOver_60 : decode cX0_begunOver 60 = .ok (.iload 8, 2) := by decide +kernel
theorem dX0_begunOver_62 : decode cX0_begunOver 62 = .ok (.iaload, 1) := by decide +kernel
theorem dX0_begunOver_63 : decode cX0_begunOver 63 = .ok (.ior, 1) := by decide +kernel
theorem dX0_begunOver_64 : decode cX0_begunOver 64 = .ok (.istore 4, 2) := by decide +kernel
theorem dX0_begunOver_66 : decode cX0_begunOver 66 = .ok (.iload 6, 2) := by decide +kernel
theorem dX0_begunOver_68 : decode cX0_begunOver 68 = .ok (.iload_n 2, 1) := by decide +kernel
theorem dX0_begunOver_69 : decode cX0_begunOver 69 = .ok (.isub, 1) := by decide +kernel
theorem dX0_begunOver_70 : decode cX0_begunOver 70 = .ok (.iload_n 2, 1) := by decide +kernel
theorem dX0_begunOver_71 : decode cX0_begunOver 71 = .ok (.iand, 1) := by decide +kernel
theorem dX0_begunOver_72 : decode cX0_begunOver 72 = .ok (.istore 6, 2) := by decide +kernel
theorem dX0_begunOver_74 : decode cX0_begunOver 74 = .ok (.iinc 7 1, 3) := by decide +kernel
theorem dX0_begunOver_77 : decode cX0_begunOver 77 = .ok (.goto (-60), 3) := by decide +kernel
theorem dX0_begunOver_80 : decode cX0_begunOver 80 = .ok (.iload 4, 2) := by decide +kernel
theorem dX0_begunOver_82 : decode cX0_begunOver 82 = .ok (.ireturn, 1) := by decide +kernel
theorem dX0_growFrom_0 : decode cX0_growFrom 0 = .ok (.aload_n 0, 1) := by decide +kernel
theorem dX0_growFrom_1 : decode cX0_growFrom 1 = .ok (.getfield 9, 3) := by decide +kernel
theorem dX0_growFrom_4 : decode cX0_growFrom 4 = .ok (.iload_n 1, 1) := by decide +kernel
theorem dX0_growFrom_5 : decode cX0_growFrom 5 = .ok (.iaload, 1) := by decide +kernel
theorem dX0_growFrom_6 : decode cX0_growFrom 6 = .ok (.istore_n 2, 1) := by decide +kernel
theorem dX0_growFrom_7 : decode cX0_growFrom 7 = .ok (.iconst 0, 1) := by decide +kernel
theorem dX0_growFrom_8 : decode cX0_growFrom 8 = .ok (.istore_n 3, 1) := by decide +kernel
theorem dX0_growFrom_9 : decode cX0_growFrom 9 = .ok (.iload_n 3, 1) := by decide +kernel
theorem dX0_growFrom_10 : decode cX0_growFrom 10 = .ok (.bipush 14, 2) := by decide +kernel
theorem dX0_growFrom_12 : decode cX0_growFrom 12 = .ok (.if_icmp .ge 55, 3) := by decide +kernel
theorem dX0_growFrom_15 : decode cX0_growFrom 15 = .ok (.iload_n 2, 1) := by decide +kernel
theorem dX0_growFrom_16 : decode cX0_growFrom 16 = .ok (.ifCond .eq 51, 3) := by decide +kernel
theorem dX0_growFrom_19 : decode cX0_growFrom 19 = .ok (.aload_n 0, 1) := by decide +kernel
theorem dX0_growFrom_20 : decode cX0_growFrom 20 = .ok (.getfield 15, 3) := by decide +kernel
theorem dX0_growFrom_23 : decode cX0_growFrom 23 = .ok (.iload_n 1, 1) := by decide +kernel
theorem dX0_growFrom_24 : decode cX0_growFrom 24 = .ok (.iconst (-1), 1) := by decide +kernel
theorem dX0_growFrom_25 : decode cX0_growFrom 25 = .ok (.ixor, 1) := by decide +kernel
theorem dX0_growFrom_26 : decode cX0_growFrom 26 = .ok (.iand, 1) := by decide +kernel
theorem dX0_growFrom_27 : decode cX0_growFrom 27 = .ok (.iload_n 3, 1) := by decide +kernel
theorem dX0_growFrom_28 : decode cX0_growFrom 28 = .ok (.ishr, 1) := by decide +kernel
theorem dX0_growFrom_29 : decode cX0_growFrom 29 = .ok (.iconst 1, 1) := by decide +kernel
theorem dX0_growFrom_30 : decode cX0_growFrom 30 = .ok (.iand, 1) := by decide +kernel
theorem dX0_growFrom_31 : decode cX0_growFrom 31 = .ok (.ifCond .eq 30, 3) := by decide +kernel
theorem dX0_growFrom_34 : decode cX0_growFrom 34 = .ok (.aload_n 0, 1) := by decide +kernel
theorem dX0_growFrom_35 : decode cX0_growFrom 35 = .ok (.getfield 19, 3) := by decide +kernel
theorem dX0_growFrom_38 : decode cX0_growFrom 38 = .ok (.iload_n 3, 1) := by decide +kernel
theorem dX0_growFrom_39 : decode cX0_growFrom 39 = .ok (.iaload, 1) := by decide +kernel
theorem dX0_growFrom_40 : decode cX0_growFrom 40 = .ok (.iload_n 2, 1) := by decide +kernel
theorem dX0_growFrom_41 : decode cX0_growFrom 41 = .ok (.iand, 1) := by decide +kernel
theorem dX0_growFrom_42 : decode cX0_growFrom 42 = .ok (.ifCond .eq 19, 3) := by decide +kernel
theorem dX0_growFrom_45 : decode cX0_growFrom 45 = .ok (.aload_n 0, 1) := by decide +kernel
theorem dX0_growFrom_46 : decode cX0_growFrom 46 = .ok (.getfield 9, 3) := by decide +kernel
theorem dX0_growFrom_49 : decode cX0_growFrom 49 = .ok (.iload_n 1, 1) := by decide +kernel
theorem dX0_growFrom_50 : decode cX0_growFrom 50 = .ok (.iconst 1, 1) := by decide +kernel
theorem dX0_growFrom_51 : decode cX0_growFrom 51 = .ok (.iload_n 3, 1) := by decide +kernel
theorem dX0_growFrom_52 : decode cX0_growFrom 52 = .ok (.ishl, 1) := by decide +kernel
theorem dX0_growFrom_53 : decode cX0_growFrom 53 = .ok (.ior, 1) := by decide +kernel
theorem dX0_growFrom_54 : decode cX0_growFrom 54 = .ok (.dup2, 1) := by decide +kernel
theorem dX0_growFrom_55 : decode cX0_growFrom 55 = .ok (.iaload, 1) := by decide +kernel
theorem dX0_growFrom_56 : decode cX0_growFrom 56 = .ok (.iconst 1, 1) := by decide +kernel
theorem dX0_growFrom_57 : decode cX0_growFrom 57 = .ok (.iload_n 3, 1) := by decide +kernel
theorem dX0_growFrom_58 : decode cX0_growFrom 58 = .ok (.ishl, 1) := by decide +kernel
theorem dX0_growFrom_59 : decode cX0_growFrom 59 = .ok (.ior, 1) := by decide +kernel
theorem dX0_growFrom_60 : decode cX0_growFrom 60 = .ok (.iastore, 1) := by decide +kernel
theorem dX0_growFrom_61 : decode cX0_growFrom 61 = .ok (.iinc 3 1, 3) := by decide +kernel
theorem dX0_growFrom_64 : decode cX0_growFrom 64 = .ok (.goto (-55), 3) := by decide +kernel
theorem dX0_growFrom_67 : decode cX0_growFrom 67 = .ok (.return_, 1) := by decide +kernel
theorem dX0_leadingOn_0 : decode cX0_leadingOn 0 = .ok (.iload_n 2, 1) := by decide +kernel
theorem dX0_leadingOn_1 : decode cX0_leadingOn 1 = .ok (.istore_n 3, 1) := by decide +kernel
theorem dX0_leadingOn_2 : decode cX0_leadingOn 2 = .ok (.iconst 1, 1) := by decide +kernel
theorem dX0_leadingOn_3 : decode cX0_leadingOn 3 = .ok (.istore 4, 2) := by decide +kernel
theorem dX0_leadingOn_5 : decode cX0_leadingOn 5 = .ok (.iconst 0, 1) := by decide +kernel
theorem dX0_leadingOn_6 : decode cX0_leadingOn 6 = .ok (.istore 5, 2) := by decide +kernel
theorem dX0_leadingOn_8 : decode cX0_leadingOn 8 = .ok (.iload 5, 2) := by decide +kernel
theorem dX0_leadingOn_10 : decode cX0_leadingOn 10 = .ok (.bipush 14, 2) := by decide +kernel
theorem dX0_leadingOn_12 : decode cX0_leadingOn 12 = .ok (.if_icmp .ge 76, 3) := by decide +kernel
theorem dX0_leadingOn_15 : decode cX0_leadingOn 15 = .ok (.iload 4, 2) := by decide +kernel
theorem dX0_leadingOn_17 : decode cX0_leadingOn 17 = .ok (.ifCond .eq 71, 3) := by decide +kernel
theorem dX0_leadingOn_20 : decode cX0_leadingOn 20 = .ok (.iload_n 3, 1) := by decide +kernel
theorem dX0_leadingOn_21 : decode cX0_leadingOn 21 = .ok (.istore 6, 2) := by decide +kernel
theorem dX0_leadingOn_23 : decode cX0_leadingOn 23 = .ok (.iconst 0, 1) := by decide +kernel
theorem dX0_leadingOn_24 : decode cX0_leadingOn 24 = .ok (.istore 7, 2) := by decide +kernel
theorem dX0_leadingOn_26 : decode cX0_leadingOn 26 = .ok (.iload 7, 2) := by decide +kernel
theorem dX0_leadingOn_28 : decode cX0_leadingOn 28 = .ok (.bipush 14, 2) := by decide +kernel
theorem dX0_leadingOn_30 : decode cX0_leadingOn 30 = .ok (.if_icmp .ge 39, 3) := by decide +kernel
theorem dX0_leadingOn_33 : decode cX0_leadingOn 33 = .ok (.iload_n 1, 1) := by decide +kernel
theorem dX0_leadingOn_34 : decode cX0_leadingOn 34 = .ok (.iload_n 3, 1) := by decide +kernel
theorem dX0_leadingOn_35 : decode cX0_leadingOn 35 = .ok (.iconst (-1), 1) := by decide +kernel
theorem dX0_leadingOn_36 : decode cX0_leadingOn 36 = .ok (.ixor, 1) := by decide +kernel
theorem dX0_leadingOn_37 : decode cX0_leadingOn 37 = .ok (.iand, 1) := by decide +kernel
theorem dX0_leadingOn_38 : decode cX0_leadingOn 38 = .ok (.iload 7, 2) := by decide +kernel
theorem dX0_leadingOn_40 : decode cX0_leadingOn 40 = .ok (.ishr, 1) := by decide +kernel
theorem dX0_leadingOn_41 : decode cX0_leadingOn 41 = .ok (.iconst 1, 1) := by decide +kernel
theorem dX0_leadingOn_42 : decode cX0_leadingOn 42 = .ok (.iand, 1) := by decide +kernel
theorem dX0_leadingOn_43 : decode cX0_leadingOn 43 = .ok (.ifCond .eq 20, 3) := by decide +kernel
theorem dX0_leadingOn_46 : decode cX0_leadingOn 46 = .ok (.aload_n 0, 1) := by decide +kernel
theorem dX0_leadingOn_47 : decode cX0_leadingOn 47 = .ok (.iload 7, 2) := by decide +kernel
theorem dX0_leadingOn_49 : decode cX0_leadingOn 49 = .ok (.iload_n 3, 1) := by decide +kernel
theorem dX0_leadingOn_50 : decode cX0_leadingOn 50 = .ok (.invokevirtual 40, 3) := by decide +kernel
theorem dX0_leadingOn_53 : decode cX0_leadingOn 53 = .ok (.ifCond .eq 10, 3) := by decide +kernel
theorem dX0_leadingOn_56 : decode cX0_leadingOn 56 = .ok (.iload_n 3, 1) := by decide +kernel
theorem dX0_leadingOn_57 : decode cX0_leadingOn 57 = .ok (.iconst 1, 1) := by decide +kernel
theorem dX0_leadingOn_58 : decode cX0_leadingOn 58 = .ok (.iload 7, 2) := by decide +kernel
theorem dX0_leadingOn_60 : decode cX0_leadingOn 60 = .ok (.ishl, 1) := by decide +kernel
theorem dX0_leadingOn_61 : decode cX0_leadingOn 61 = .ok (.ior, 1) := by decide +kernel
theorem dX0_leadingOn_62 : decode cX0_leadingOn 62 = .ok (.istore_n 3, 1) := by decide +kernel
theorem dX0_leadingOn_63 : decode cX0_leadingOn 63 = .ok (.iinc 7 1, 3) := by decide +kernel
theorem dX0_leadingOn_66 : decode cX0_leadingOn 66 = .ok (.goto (-40), 3) := by decide +kernel
theorem dX0_leadingOn_69 : decode cX0_leadingOn 69 = .ok (.iload_n 3, 1) := by decide +kernel
theorem dX0_leadingOn_70 : decode cX0_leadingOn 70 = .ok (.iload 6, 2) := by decide +kernel
theorem dX0_leadingOn_72 : decode cX0_leadingOn 72 = .ok (.if_icmp .eq 7, 3) := by decide +kernel
theorem dX0_leadingOn_75 : decode cX0_leadingOn 75 = .ok (.iconst 1, 1) := by decide +kernel
theorem dX0_leadingOn_76 : decode cX0_leadingOn 76 = .ok (.goto 4, 3) := by decide +kernel
theorem dX0_leadingOn_79 : decode cX0_leadingOn 79 = .ok (.iconst 0, 1) := by decide +kernel
theorem dX0_leadingOn_80 : decode cX0_leadingOn 80 = .ok (.istore 4, 2) := by decide +kernel
theorem dX0_leadingOn_82 : decode cX0_leadingOn 82 = .ok (.iinc 5 1, 3) := by decide +kernel
theorem dX0_leadingOn_85 : decode cX0_leadingOn 85 = .ok (.goto (-77), 3) := by decide +kernel
theorem dX0_leadingOn_88 : decode cX0_leadingOn 88 = .ok (.iload_n 3, 1) := by decide +kernel
theorem dX0_leadingOn_89 : decode cX0_leadingOn 89 = .ok (.iload_n 2, 1) := by decide +kernel
theorem dX0_leadingOn_90 : decode cX0_leadingOn 90 = .ok (.iconst (-1), 1) := by decide +kernel
theorem dX0_leadingOn_91 : decode cX0_leadingOn 91 = .ok (.ixor, 1) := by decide +kernel
theorem dX0_leadingOn_92 : decode cX0_leadingOn 92 = .ok (.iand, 1) := by decide +kernel
theorem dX0_leadingOn_93 : decode cX0_leadingOn 93 = .ok (.ireturn, 1) := by decide +kernel
theorem kw_330 : Cond.fieldLink "FootholdWall$Chains" 9 "FootholdWall$Chains" "heads" "[I" ∈ gw := gw_of (tb_of 330 (by decide +kernel)) (by decide +kernel)
theorem kw_331 : Cond.fieldLink "FootholdWall$Chains" 15 "FootholdWall$Chains" "all" "I" ∈ gw := gw_of (tb_of 331 (by decide +kernel)) (by decide +kernel)
theorem kw_332 : Cond.fieldLink "FootholdWall$Chains" 19 "FootholdWall$Chains" "row" "[I" ∈ gw := gw_of (tb_of 332 (by decide +kernel)) (by decide +kernel)
theorem kw_1075 : Cond.methodLink "FootholdWall$Chains" 40 yX5_stepped ∈ gw := gw_of (tb_of 1075 (by decide +kernel)) (by decide +kernel)
theorem kw_1088 : Cond.methodLink "FootholdWall$Chains" 37 yJ6_bitCount_0f7a4 ∈ gw := gw_of (tb_of 1088 (by decide +kernel)) (by decide +kernel)
set_option maxHeartbeats 4000000 in
set_option maxRecDepth 100000 in
theorem s_Ch_leadingOn (l : Launch) (D : va_G) (cs : CS) (kf : KF) (T : TF) (O : List Nat) (X : va_W) (a0 : Nat) (x1 : Int32) (x2 : Int32) (t_a0 : T a0 = some (15, 0, 0)) (l_x2 : 0 ≤ x2.toInt) (u_x2 : x2.toInt ≤ 16383) (hO : okO T O [1, 12, 15, 19]) : TK l D cs kf yX0_leadingOn cX0_leadingOn 8 (some (.int)) { frames := 4, cells := 0, slots := 0, locals := 101 } [.ref a0, .int x1, .int x2] T O X (Ti D cs (fun r u => u = (T, O, X) ∧ 0 ≤ r.toInt ∧ r.toInt ≤ 16383)) := by
  refine tk_of (by decide) (Nat.le_of_ble_eq_true rfl) (fun p e s m below meth c ls A H locs hx hb hr hml hown hts hlocks hnm hkb hH hS hA hOX hks hE hl => ?_)
  have hown : s.vm.findClass RX0 = some m.cls := hown
  have hl : lv_has ls 8 [(0, .ref a0), (1, .int x1), (2, .int x2)] := hl
  refine lv_iload_n hx hb dX0_leadingOn_0 rfl (lv_at hl 2 rfl) ?_
  refine lv_istore_n (lv' := [(3, .int x2), (0, .ref a0), (1, .int x1), (2, .int x2)]) hx hb dX0_leadingOn_1 rfl hl (by decide) rfl (fun ls hl => ?_)
  refine lv_iconst (v := 1) hx hb dX0_leadingOn_2 (by decide) ?_
  refine lv_istore (lv' := [(4, .int 1), (3, .int x2), (0, .ref a0), (1, .int x1), (2, .int x2)]) hx hb dX0_leadingOn_3 hl (by decide) rfl (fun ls hl => ?_)
  refine lv_iconst (v := 0) hx hb dX0_leadingOn_5 (by decide) ?_
  have J8 : ∀ (n : Nat) (p8_5 : Int32) (p8_4 : Int32) (p8_3 : Int32) (H : Heap) (locs : List Loc) (ls : Array Slot), (14 - p8_5.toInt).toNat = n → (0 ≤ p8_5.toInt) → (p8_5.toInt ≤ 14) → (0 ≤ p8_4.toInt) → (p8_4.toInt ≤ 1) → (0 ≤ p8_3.toInt) → (p8_3.toInt ≤ 16383) → HT D cs A T O X H → va_S A s.heap H locs → lv_has ls 8 [(5, .int p8_5), (4, .int p8_4), (3, .int p8_3), (0, .ref a0), (1, .int x1), (2, .int x2)] → W p l e { frames := 4, cells := 0, slots := 0, locals := 101 } s m [.ref a0, .int x1, .int x2].toArray below meth c H locs 0 0 (MQ below (Ti D cs (fun r u => u = (T, O, X) ∧ 0 ≤ r.toInt ∧ r.toInt ≤ 16383) A) [.ref a0, .int x1, .int x2].toArray s 0 0 A) (F0 m 8 ls []) := by
    intro n
    induction n using Nat.strongRecOn with
    | _ n ih8 =>
      intro p8_5 p8_4 p8_3 H locs ls hm8 l_p8_5 u_p8_5 l_p8_4 u_p8_4 l_p8_3 u_p8_3 hH hS hl
      refine lv_iload hx hb dX0_leadingOn_8 (lv_at hl 0 rfl) ?_
      refine lv_bipush (v := 14) hx hb dX0_leadingOn_10 (by decide) ?_
      have J88 : ∀  (H : Heap) (locs : List Loc) (ls : Array Slot), HT D cs A T O X H → va_S A s.heap H locs → lv_has ls 8 [(3, .int p8_3), (2, .int x2)] → W p l e { frames := 4, cells := 0, slots := 0, locals := 101 } s m [.ref a0, .int x1, .int x2].toArray below meth c H locs 0 0 (MQ below (Ti D cs (fun r u => u = (T, O, X) ∧ 0 ≤ r.toInt ∧ r.toInt ≤ 16383) A) [.ref a0, .int x1, .int x2].toArray s 0 0 A) (F0 m 88 ls []) := by
        intro  H locs ls  hH hS hl
        refine lv_iload_n hx hb dX0_leadingOn_88 rfl (lv_at hl 0 rfl) ?_
        refine lv_iload_n hx hb dX0_leadingOn_89 rfl (lv_at hl 1 rfl) ?_
        refine lv_iconst (v := (-1)) hx hb dX0_leadingOn_90 (by decide) ?_
        refine lv_ixor hx hb dX0_leadingOn_91 ?_
        refine lv_topi (fun v91 ev91 => ?_)
        refine lv_iand hx hb dX0_leadingOn_92 ?_
        refine lv_topi (fun v92 ev92 => ?_)
        have tv92 : 0 ≤ v92.toInt ∧ v92.toInt ≤ p8_3.toInt := by rw [ev92]; exact and_l (by omega)
        exact te_i hx hb hr hlocks hH hS (⟨rfl, by omega, by omega⟩) dX0_leadingOn_93
      refine lv_icmp_ge (tgt := 88) hx hb dX0_leadingOn_12 (by decide) (fun c12 => ?_) (fun c12 => ?_)
      · skip
        have tc12 := f_ge (k := 14) (by decide) c12
        exact J88  _ _ _  hH hS (lv_sub hl [2, 5] rfl)
      · skip
        have tc12 := f_nge (k := 14) (by decide) c12
        refine lv_iload hx hb dX0_leadingOn_15 (lv_at hl 1 rfl) ?_
        refine lv_if_eq (tgt := 88) hx hb dX0_leadingOn_17 (by decide) (fun c17 => ?_) (fun c17 => ?_)
        · skip
          have tc17 := f_eq (k := 0) (by decide) c17
          exact J88  _ _ _  hH hS (lv_sub hl [2, 5] rfl)
        · skip
          have tc17 := f_ne (k := 0) (by decide) c17
          refine lv_iload_n hx hb dX0_leadingOn_20 rfl (lv_at hl 2 rfl) ?_
          refine lv_istore (lv' := [(6, .int p8_3), (5, .int p8_5), (4, .int p8_4), (3, .int p8_3), (0, .ref a0), (1, .int x1), (2, .int x2)]) hx hb dX0_leadingOn_21 hl (by decide) rfl (fun ls hl => ?_)
          refine lv_iconst (v := 0) hx hb dX0_leadingOn_23 (by decide) ?_
          have J26 : ∀ (n : Nat) (p26_7 : Int32) (p26_3 : Int32) (H : Heap) (locs : List Loc) (ls : Array Slot), (14 - p26_7.toInt).toNat = n → (0 ≤ p26_7.toInt) → (p26_7.toInt ≤ 14) → (0 ≤ p26_3.toInt) → (p26_3.toInt ≤ 16383) → HT D cs A T O X H → va_S A s.heap H locs → lv_has ls 8 [(7, .int p26_7), (6, .int p8_3), (5, .int p8_5), (3, .int p26_3), (0, .ref a0), (1, .int x1), (2, .int x2)] → W p l e { frames := 4, cells := 0, slots := 0, locals := 101 } s m [.ref a0, .int x1, .int x2].toArray below meth c H locs 0 0 (MQ below (Ti D cs (fun r u => u = (T, O, X) ∧ 0 ≤ r.toInt ∧ r.toInt ≤ 16383) A) [.ref a0, .int x1, .int x2].toArray s 0 0 A) (F0 m 26 ls []) := by
            intro n
            induction n using Nat.strongRecOn with
            | _ n ih26 =>
              intro p26_7 p26_3 H locs ls hm26 l_p26_7 u_p26_7 l_p26_3 u_p26_3 hH hS hl
              refine lv_iload hx hb dX0_leadingOn_26 (lv_at hl 0 rfl) ?_
              refine lv_bipush (v := 14) hx hb dX0_leadingOn_28 (by decide) ?_
              refine lv_icmp_ge (tgt := 69) hx hb dX0_leadingOn_30 (by decide) (fun c30 => ?_) (fun c30 => ?_)
              · skip
                have tc30 := f_ge (k := 14) (by decide) c30
                refine lv_iload_n hx hb dX0_leadingOn_69 rfl (lv_at hl 3 rfl) ?_
                refine lv_iload hx hb dX0_leadingOn_70 (lv_at hl 1 rfl) ?_
                have J80 : ∀ (k80_0 : Int32) (H : Heap) (locs : List Loc) (ls : Array Slot), (0 ≤ k80_0.toInt) → (k80_0.toInt ≤ 1) → HT D cs A T O X H → va_S A s.heap H locs → lv_has ls 8 [(5, .int p8_5), (3, .int p26_3), (0, .ref a0), (1, .int x1), (2, .int x2)] → W p l e { frames := 4, cells := 0, slots := 0, locals := 101 } s m [.ref a0, .int x1, .int x2].toArray below meth c H locs 0 0 (MQ below (Ti D cs (fun r u => u = (T, O, X) ∧ 0 ≤ r.toInt ∧ r.toInt ≤ 16383) A) [.ref a0, .int x1, .int x2].toArray s 0 0 A) (F0 m 80 ls [.int k80_0]) := by
                  intro k80_0 H locs ls l_k80_0 u_k80_0 hH hS hl
                  refine lv_istore (lv' := [(4, .int k80_0), (5, .int p8_5), (3, .int p26_3), (0, .ref a0), (1, .int x1), (2, .int x2)]) hx hb dX0_leadingOn_80 hl (by decide) rfl (fun ls hl => ?_)
                  obtain ⟨v82, ev82⟩ : ∃ y : Int32, y = p8_5 + 1 := ⟨_, rfl⟩
                  have tv82 : v82.toInt = p8_5.toInt + (1) := by rw [ev82]; exact add_i rfl (by decide) (by omega) (by omega)
                  refine lv_iinc (v := v82) (lv' := [(5, .int v82), (4, .int k80_0), (3, .int p26_3), (0, .ref a0), (1, .int x1), (2, .int x2)]) hx hb dX0_leadingOn_82 hl (k := 1) rfl (by rw [ev82]; rfl) (by decide) rfl (fun ls hl => ?_)
                  refine lv_goto (tgt := 8) hx hb dX0_leadingOn_85 (by decide) ?_
                  exact ih8 _ (by omega) v82 k80_0 p26_3 _ _ _ rfl (by omega) (by omega) (by omega) (by omega) (by omega) (by omega) hH hS (lv_sub hl [0, 1, 2, 3, 4, 5] rfl)
                refine lv_icmp_eq (tgt := 79) hx hb dX0_leadingOn_72 (by decide) (fun c72 => ?_) (fun c72 => ?_)
                · skip
                  have fuc72 := full_i p26_3
                  have fvc72 := full_i p8_3
                  have tc72 := g_eq c72
                  refine lv_iconst (v := 0) hx hb dX0_leadingOn_79 (by decide) ?_
                  exact J80 0 _ _ _ (by decide) (by decide) hH hS (lv_sub hl [2, 3, 4, 5, 6] rfl)
                · skip
                  have fuc72 := full_i p26_3
                  have fvc72 := full_i p8_3
                  have tc72 := g_ne c72
                  refine lv_iconst (v := 1) hx hb dX0_leadingOn_75 (by decide) ?_
                  refine lv_goto (tgt := 80) hx hb dX0_leadingOn_76 (by decide) ?_
                  exact J80 1 _ _ _ (by decide) (by decide) hH hS (lv_sub hl [2, 3, 4, 5, 6] rfl)
              · skip
                have tc30 := f_nge (k := 14) (by decide) c30
                refine lv_iload_n hx hb dX0_leadingOn_33 rfl (lv_at hl 5 rfl) ?_
                refine lv_iload_n hx hb dX0_leadingOn_34 rfl (lv_at hl 3 rfl) ?_
                refine lv_iconst (v := (-1)) hx hb dX0_leadingOn_35 (by decide) ?_
                refine lv_ixor hx hb dX0_leadingOn_36 ?_
                refine lv_topi (fun v36 ev36 => ?_)
                refine lv_iand hx hb dX0_leadingOn_37 ?_
                refine lv_topi (fun v37 ev37 => ?_)
                refine lv_iload hx hb dX0_leadingOn_38 (lv_at hl 0 rfl) ?_
                refine lv_ishr hx hb dX0_leadingOn_40 ?_
                refine lv_topi (fun v40 ev40 => ?_)
                refine lv_iconst (v := 1) hx hb dX0_leadingOn_41 (by decide) ?_
                refine lv_iand hx hb dX0_leadingOn_42 ?_
                refine lv_topi (fun v42 ev42 => ?_)
                have tv42 : 0 ≤ v42.toInt ∧ v42.toInt ≤ 1 := by rw [ev42]; exact and_r (by decide)
                have J63 : ∀ (p63_3 : Int32) (H : Heap) (locs : List Loc) (ls : Array Slot), (0 ≤ p63_3.toInt) → (p63_3.toInt ≤ 16383) → HT D cs A T O X H → va_S A s.heap H locs → lv_has ls 8 [(7, .int p26_7), (6, .int p8_3), (5, .int p8_5), (3, .int p63_3), (0, .ref a0), (1, .int x1), (2, .int x2)] → W p l e { frames := 4, cells := 0, slots := 0, locals := 101 } s m [.ref a0, .int x1, .int x2].toArray below meth c H locs 0 0 (MQ below (Ti D cs (fun r u => u = (T, O, X) ∧ 0 ≤ r.toInt ∧ r.toInt ≤ 16383) A) [.ref a0, .int x1, .int x2].toArray s 0 0 A) (F0 m 63 ls []) := by
                  intro p63_3 H locs ls l_p63_3 u_p63_3 hH hS hl
                  obtain ⟨v63, ev63⟩ : ∃ y : Int32, y = p26_7 + 1 := ⟨_, rfl⟩
                  have tv63 : v63.toInt = p26_7.toInt + (1) := by rw [ev63]; exact add_i rfl (by decide) (by omega) (by omega)
                  refine lv_iinc (v := v63) (lv' := [(7, .int v63), (6, .int p8_3), (5, .int p8_5), (3, .int p63_3), (0, .ref a0), (1, .int x1), (2, .int x2)]) hx hb dX0_leadingOn_63 hl (k := 0) rfl (by rw [ev63]; rfl) (by decide) rfl (fun ls hl => ?_)
                  refine lv_goto (tgt := 26) hx hb dX0_leadingOn_66 (by decide) ?_
                  exact ih26 _ (by omega) v63 p63_3 _ _ _ rfl (by omega) (by omega) (by omega) (by omega) hH hS (lv_sub hl [0, 1, 2, 3, 4, 5, 6] rfl)
                refine lv_if_eq (tgt := 63) hx hb dX0_leadingOn_43 (by decide) (fun c43 => ?_) (fun c43 => ?_)
                · skip
                  have tc43 := f_eq (k := 0) (by decide) c43
                  exact J63 p26_3 _ _ _ (by omega) (by omega) hH hS (lv_sub hl [0, 1, 2, 3, 4, 5, 6] rfl)
                · skip
                  have tc43 := f_ne (k := 0) (by decide) c43
                  refine lv_aload_n hx hb dX0_leadingOn_46 rfl (lv_at hl 4 rfl) ?_
                  refine lv_iload hx hb dX0_leadingOn_47 (lv_at hl 0 rfl) ?_
                  refine lv_iload_n hx hb dX0_leadingOn_49 rfl (lv_at hl 3 rfl) ?_
                  refine tk_i hH hS hA (tr_V (n := 2) (As := [.int p26_7, .int p26_3]) hx hb hml hown hts hkb hH hOX hks hE hS hA (s_Rows_stepped l D cs kf T O X a0 p26_7 p26_3 t_a0 (hO.sub (by decide))) kw_1075 kw_863 kw_864 kw_8 kw_865 (by decide +kernel) ⟨Nat.le_of_ble_eq_true rfl, Nat.le_of_ble_eq_true rfl⟩ (HT.recv (ci := 5) hkb hH t_a0 (hO.no t_a0 (by decide)) rfl) rfl rfl hl.1 (Nat.le_of_ble_eq_true rfl) dX0_leadingOn_50 ⟨Nat.le_of_ble_eq_true rfl, Nat.le_of_ble_eq_true rfl⟩) (fun v50 u H locs hz9 hH hS => ?_)
                  obtain ⟨rfl, l_v50, u_v50⟩ := hz9
                  have hH : HT D cs A T O X H := hH
                  refine W.widen (k := 0) (n := 0) (Nat.le_of_ble_eq_true rfl) (Nat.le_of_ble_eq_true rfl) ?_
                  refine lv_if_eq (tgt := 63) hx hb dX0_leadingOn_53 (by decide) (fun c53 => ?_) (fun c53 => ?_)
                  · skip
                    have tc53 := f_eq (k := 0) (by decide) c53
                    exact J63 p26_3 _ _ _ (by omega) (by omega) hH hS (lv_sub hl [0, 1, 2, 3, 4, 5, 6] rfl)
                  · skip
                    have tc53 := f_ne (k := 0) (by decide) c53
                    refine lv_iload_n hx hb dX0_leadingOn_56 rfl (lv_at hl 3 rfl) ?_
                    refine lv_iconst (v := 1) hx hb dX0_leadingOn_57 (by decide) ?_
                    refine lv_iload hx hb dX0_leadingOn_58 (lv_at hl 0 rfl) ?_
                    refine lv_ishl hx hb dX0_leadingOn_60 ?_
                    refine lv_topi (fun v60 ev60 => ?_)
                    have tv60 : 1 ≤ v60.toInt ∧ v60.toInt ≤ 8192 := by rw [ev60]; exact shl_b 13 (by decide) (by omega) (by omega)
                    refine lv_ior hx hb dX0_leadingOn_61 ?_
                    refine lv_topi (fun v61 ev61 => ?_)
                    have tv61 : 0 ≤ v61.toInt ∧ v61.toInt < 16384 := by rw [ev61]; exact or_b 14 (by decide) (by omega) (by omega) (by omega) (by omega)
                    refine lv_istore_n (lv' := [(3, .int v61), (7, .int p26_7), (6, .int p8_3), (5, .int p8_5), (0, .ref a0), (1, .int x1), (2, .int x2)]) hx hb dX0_leadingOn_62 rfl hl (by decide) rfl (fun ls hl => ?_)
                    exact J63 v61 _ _ _ (by omega) (by omega) hH hS (lv_sub hl [1, 2, 3, 0, 4, 5, 6] rfl)
          refine lv_istore (lv' := [(7, .int 0), (6, .int p8_3), (5, .int p8_5), (4, .int p8_4), (3, .int p8_3), (0, .ref a0), (1, .int x1), (2, .int x2)]) hx hb dX0_leadingOn_24 hl (by decide) rfl (fun ls hl => ?_)
          exact J26 _ 0 p8_3 _ _ _ rfl (by decide) (by decide) (by omega) (by omega) hH hS (lv_sub hl [0, 1, 2, 4, 5, 6, 7] rfl)
  refine lv_istore (lv' := [(5, .int 0), (4, .int 1), (3, .int x2), (0, .ref a0), (1, .int x1), (2, .int x2)]) hx hb dX0_leadingOn_6 hl (by decide) rfl (fun ls hl => ?_)
  exact J8 _ 0 1 x2 _ _ _ rfl (by decide) (by decide) (by decide) (by decide) (by omega) (by omega) hH hS (lv_sub hl [0, 1, 2, 3, 4, 5] rfl)
set_option maxHeartbeats 4000000 in
set_option maxRecDepth 100000 in
theorem s_Ch_growFrom (l : Launch) (D : va_G) (cs : CS) (kf : KF) (T : TF) (O : List Nat) (X : va_W) (a0 : Nat) (x1 : Int32) (y0 : Nat) (y1 : Int32) (y2 : Nat) (y3 : Nat) (nn j gq : Nat) (t_a0 : T a0 = some (10, gq, 0)) (l_x1 : 0 ≤ x1.toInt) (u_x1 : x1.toInt ≤ 16383) (t_y0 : T y0 = some (1, nn, 0)) (l_y1 : 0 ≤ y1.toInt) (u_y1 : y1.toInt ≤ 16383) (t_y2 : T y2 = some (1, 14, 1)) (t_y3 : T y3 = some (1, 14, 0)) (hn : nn = 2 ^ j) (hj : j ≤ 14) (h1 : x1.toInt < nn) (h2 : y1.toInt < nn) (hO : okO T (a0 :: O) [1]) : TK l D cs kf yX0_growFrom cX0_growFrom 4 none { frames := 0, cells := 0, slots := 0, locals := 0 } [.ref a0, .int x1] T (a0 :: O) ((a0, .inr (0, [.ref y0, .int y1, .ref y2, .ref y3])) :: X) (Tv D cs (fun u => u = (T, a0 :: O, (a0, .inr (0, [.ref y0, .int y1, .ref y2, .ref y3])) :: X))) := by
  refine tk_of (by decide) (Nat.le_of_ble_eq_true rfl) (fun p e s m below meth c ls A H locs hx hb hr hml hown hts hlocks hnm hkb hH hS hA hOX hks hE hl => ?_)
  have hown : s.vm.findClass RX0 = some m.cls := hown
  have hl : lv_has ls 4 [(0, .ref a0), (1, .int x1)] := hl
  have hOXf := hOX
  have hnb := p2_le hn hj
  refine lv_aload_n hx hb dX0_growFrom_0 rfl (lv_at hl 0 rfl) ?_
  refine x_getk (ci := 0) (C := RX0) (F := TX0) (N := 4) (v := .ref y0) hx hb hts uX0 hown hkb hH 0 rfl rfl 0 (by decide) rfl kw_330 (fun _ h9 => h9) dX0_growFrom_1 ?_
  refine lv_iload_n hx hb dX0_growFrom_4 rfl (lv_at hl 1 rfl) ?_
  refine t_ild hx hb hkb hH t_y0 (hO.no t_y0 (by decide)) (by omega) (by omega) dX0_growFrom_5 (fun v5 h9 => ?_)
  refine lv_istore_n (lv' := [(2, .int v5), (0, .ref a0), (1, .int x1)]) hx hb dX0_growFrom_6 rfl hl (by decide) rfl (fun ls hl => ?_)
  refine lv_iconst (v := 0) hx hb dX0_growFrom_7 (by decide) ?_
  have J9 : ∀ (n : Nat) (p9_3 : Int32) (H : Heap) (locs : List Loc) (ls : Array Slot), (14 - p9_3.toInt).toNat = n → (0 ≤ p9_3.toInt) → (p9_3.toInt ≤ 14) → HT D cs A T (a0 :: O) ((a0, .inr (0, [.ref y0, .int y1, .ref y2, .ref y3])) :: X) H → va_S A s.heap H locs → lv_has ls 4 [(3, .int p9_3), (2, .int v5), (0, .ref a0), (1, .int x1)] → W p l e { frames := 0, cells := 0, slots := 0, locals := 0 } s m [.ref a0, .int x1].toArray below meth c H locs 0 0 (MQ below (Tv D cs (fun u => u = (T, a0 :: O, (a0, .inr (0, [.ref y0, .int y1, .ref y2, .ref y3])) :: X)) A) [.ref a0, .int x1].toArray s 0 0 A) (F0 m 9 ls []) := by
    intro n
    induction n using Nat.strongRecOn with
    | _ n ih9 =>
      intro p9_3 H locs ls hm9 l_p9_3 u_p9_3 hH hS hl
      refine lv_iload_n hx hb dX0_growFrom_9 rfl (lv_at hl 0 rfl) ?_
      refine lv_bipush (v := 14) hx hb dX0_growFrom_10 (by decide) ?_
      have J67 : ∀  (H : Heap) (locs : List Loc) (ls : Array Slot), HT D cs A T (a0 :: O) ((a0, .inr (0, [.ref y0, .int y1, .ref y2, .ref y3])) :: X) H → va_S A s.heap H locs → lv_has ls 4 [] → W p l e { frames := 0, cells := 0, slots := 0, locals := 0 } s m [.ref a0, .int x1].toArray below meth c H locs 0 0 (MQ below (Tv D cs (fun u => u = (T, a0 :: O, (a0, .inr (0, [.ref y0, .int y1, .ref y2, .ref y3])) :: X)) A) [.ref a0, .int x1].toArray s 0 0 A) (F0 m 67 ls []) := by
        intro  H locs ls  hH hS hl
        exact te_v hx hb hr hlocks hH hS (rfl) dX0_growFrom_67
      refine lv_icmp_ge (tgt := 67) hx hb dX0_growFrom_12 (by decide) (fun c12 => ?_) (fun c12 => ?_)
      · skip
        have tc12 := f_ge (k := 14) (by decide) c12
        exact J67  _ _ _  hH hS (lv_sub hl [] rfl)
      · skip
        have tc12 := f_nge (k := 14) (by decide) c12
        refine lv_iload_n hx hb dX0_growFrom_15 rfl (lv_at hl 1 rfl) ?_
        refine lv_if_eq (tgt := 67) hx hb dX0_growFrom_16 (by decide) (fun c16 => ?_) (fun c16 => ?_)
        · skip
          have tc16 := f_eq (k := 0) (by decide) c16
          exact J67  _ _ _  hH hS (lv_sub hl [] rfl)
        · skip
          have tc16 := f_ne (k := 0) (by decide) c16
          refine lv_aload_n hx hb dX0_growFrom_19 rfl (lv_at hl 2 rfl) ?_
          refine x_getk (ci := 0) (C := RX0) (F := TX0) (N := 4) (v := .int y1) hx hb hts uX0 hown hkb hH 0 rfl rfl 1 (by decide) rfl kw_331 (fun _ h9 => h9) dX0_growFrom_20 ?_
          refine lv_iload_n hx hb dX0_growFrom_23 rfl (lv_at hl 3 rfl) ?_
          refine lv_iconst (v := (-1)) hx hb dX0_growFrom_24 (by decide) ?_
          refine lv_ixor hx hb dX0_growFrom_25 ?_
          refine lv_topi (fun v25 ev25 => ?_)
          refine lv_iand hx hb dX0_growFrom_26 ?_
          refine lv_topi (fun v26 ev26 => ?_)
          have tv26 : 0 ≤ v26.toInt ∧ v26.toInt ≤ y1.toInt := by rw [ev26]; exact and_l (by omega)
          refine lv_iload_n hx hb dX0_growFrom_27 rfl (lv_at hl 0 rfl) ?_
          refine lv_ishr hx hb dX0_growFrom_28 ?_
          refine lv_topi (fun v28 ev28 => ?_)
          have tv28 : 0 ≤ v28.toInt ∧ v28.toInt ≤ v26.toInt := by rw [ev28]; exact shr_b (by omega)
          refine lv_iconst (v := 1) hx hb dX0_growFrom_29 (by decide) ?_
          refine lv_iand hx hb dX0_growFrom_30 ?_
          refine lv_topi (fun v30 ev30 => ?_)
          have tv30 : 0 ≤ v30.toInt ∧ v30.toInt ≤ 1 := by rw [ev30]; exact and_r (by decide)
          have J61 : ∀  (H : Heap) (locs : List Loc) (ls : Array Slot), HT D cs A T (a0 :: O) ((a0, .inr (0, [.ref y0, .int y1, .ref y2, .ref y3])) :: X) H → va_S A s.heap H locs → lv_has ls 4 [(3, .int p9_3), (2, .int v5), (0, .ref a0), (1, .int x1)] → W p l e { frames := 0, cells := 0, slots := 0, locals := 0 } s m [.ref a0, .int x1].toArray below meth c H locs 0 0 (MQ below (Tv D cs (fun u => u = (T, a0 :: O, (a0, .inr (0, [.ref y0, .int y1, .ref y2, .ref y3])) :: X)) A) [.ref a0, .int x1].toArray s 0 0 A) (F0 m 61 ls []) := by
            intro  H locs ls  hH hS hl
            obtain ⟨v61, ev61⟩ : ∃ y : Int32, y = p9_3 + 1 := ⟨_, rfl⟩
            have tv61 : v61.toInt = p9_3.toInt + (1) := by rw [ev61]; exact add_i rfl (by decide) (by omega) (by omega)
            refine lv_iinc (v := v61) (lv' := [(3, .int v61), (2, .int v5), (0, .ref a0), (1, .int x1)]) hx hb dX0_growFrom_61 hl (k := 0) rfl (by rw [ev61]; rfl) (by decide) rfl (fun ls hl => ?_)
            refine lv_goto (tgt := 9) hx hb dX0_growFrom_64 (by decide) ?_
            exact ih9 _ (by omega) v61 _ _ _ rfl (by omega) (by omega) hH hS (lv_sub hl [0, 1, 2, 3] rfl)
          refine lv_if_eq (tgt := 61) hx hb dX0_growFrom_31 (by decide) (fun c31 => ?_) (fun c31 => ?_)
          · skip
            have tc31 := f_eq (k := 0) (by decide) c31
            exact J61  _ _ _  hH hS (lv_sub hl [0, 1, 2, 3] rfl)
          · skip
            have tc31 := f_ne (k := 0) (by decide) c31
            have hb9 := bit_le (by omega) (by omega) (by omega) ev28 ev30 (by omega)
            refine lv_aload_n hx hb dX0_growFrom_34 rfl (lv_at hl 2 rfl) ?_
            refine x_getk (ci := 0) (C := RX0) (F := TX0) (N := 4) (v := .ref y2) hx hb hts uX0 hown hkb hH 0 rfl rfl 2 (by decide) rfl kw_332 (fun _ h9 => h9) dX0_growFrom_35 ?_
            refine lv_iload_n hx hb dX0_growFrom_38 rfl (lv_at hl 0 rfl) ?_
            refine t_ild hx hb hkb hH t_y2 (hO.no t_y2 (by decide)) (by omega) (by omega) dX0_growFrom_39 (fun v39 h9 => ?_)
            have tv39 : 0 ≤ v39.toInt ∧ v39.toInt ≤ 16383 := h9
            refine lv_iload_n hx hb dX0_growFrom_40 rfl (lv_at hl 1 rfl) ?_
            refine lv_iand hx hb dX0_growFrom_41 ?_
            refine lv_topi (fun v41 ev41 => ?_)
            have tv41 : 0 ≤ v41.toInt ∧ v41.toInt ≤ v39.toInt := by rw [ev41]; exact and_l (by omega)
            refine lv_if_eq (tgt := 61) hx hb dX0_growFrom_42 (by decide) (fun c42 => ?_) (fun c42 => ?_)
            · skip
              have tc42 := f_eq (k := 0) (by decide) c42
              exact J61  _ _ _  hH hS (lv_sub hl [0, 1, 2, 3] rfl)
            · skip
              have tc42 := f_ne (k := 0) (by decide) c42
              refine lv_aload_n hx hb dX0_growFrom_45 rfl (lv_at hl 2 rfl) ?_
              refine x_getk (ci := 0) (C := RX0) (F := TX0) (N := 4) (v := .ref y0) hx hb hts uX0 hown hkb hH 0 rfl rfl 0 (by decide) rfl kw_330 (fun _ h9 => h9) dX0_growFrom_46 ?_
              refine lv_iload_n hx hb dX0_growFrom_49 rfl (lv_at hl 3 rfl) ?_
              refine lv_iconst (v := 1) hx hb dX0_growFrom_50 (by decide) ?_
              refine lv_iload_n hx hb dX0_growFrom_51 rfl (lv_at hl 0 rfl) ?_
              refine lv_ishl hx hb dX0_growFrom_52 ?_
              refine lv_topi (fun v52 ev52 => ?_)
              have tv52 : 1 ≤ v52.toInt ∧ v52.toInt ≤ 8192 := by rw [ev52]; exact shl_b 13 (by decide) (by omega) (by omega)
              refine lv_ior hx hb dX0_growFrom_53 ?_
              refine lv_topi (fun v53 ev53 => ?_)
              have tv53 : 0 ≤ v53.toInt ∧ v53.toInt < 16384 := by rw [ev53]; exact or_b 14 (by decide) (by omega) (by omega) (by omega) (by omega)
              rw [← ev52] at hb9
              have ho9 := or_b j (by omega) (x := x1) (y := v52) (by omega) (by omega) (by have := hn; exact_mod_cast (show x1.toInt < ((2 ^ j : Nat) : Int) by omega)) (by have := hn; exact_mod_cast (show v52.toInt < ((2 ^ j : Nat) : Int) by omega))
              have ho8 : v53.toInt < nn := by
                have q9 := ho9.2
                rw [← ev53] at q9
                have e8 : ((2 ^ j : Nat) : Int) = 2 ^ j := by norm_cast
                omega
              refine lv_dup2_11 hx hb dX0_growFrom_54 rfl rfl ?_
              refine t_ild hx hb hkb hH t_y0 (hO.no t_y0 (by decide)) (by omega) (by omega) dX0_growFrom_55 (fun v55 h9 => ?_)
              refine lv_iconst (v := 1) hx hb dX0_growFrom_56 (by decide) ?_
              refine lv_iload_n hx hb dX0_growFrom_57 rfl (lv_at hl 0 rfl) ?_
              refine lv_ishl hx hb dX0_growFrom_58 ?_
              refine lv_topi (fun v58 ev58 => ?_)
              have tv58 : 1 ≤ v58.toInt ∧ v58.toInt ≤ 8192 := by rw [ev58]; exact shl_b 13 (by decide) (by omega) (by omega)
              refine lv_ior hx hb dX0_growFrom_59 ?_
              refine lv_topi (fun v59 ev59 => ?_)
              refine t_ist hx hb hkb hH hS t_y0 (hO.no t_y0 (by decide)) (by omega) (by omega) (cp_0 _) dX0_growFrom_60 (fun H locs hH hS => ?_)
              exact J61  _ _ _  hH hS (lv_sub hl [0, 1, 2, 3] rfl)
  refine lv_istore_n (lv' := [(3, .int 0), (2, .int v5), (0, .ref a0), (1, .int x1)]) hx hb dX0_growFrom_8 rfl hl (by decide) rfl (fun ls hl => ?_)
  exact J9 _ 0 _ _ _ rfl (by decide) (by decide) hH hS (lv_sub hl [0, 1, 2, 3] rfl)
set_option maxHeartbeats 4000000 in
set_option maxRecDepth 100000 in
theorem s_Ch_begunOver (l : Launch) (D : va_G) (cs : CS) (kf : KF) (T : TF) (O : List Nat) (X : va_W) (a0 : Nat) (x1 : Int32) (x2 : Int32) (x3 : Int32) (y0 : Nat) (y1 : Int32) (y2 : Nat) (y3 : Nat) (nn j gq : Nat) (t_a0 : T a0 = some (10, gq, 0)) (t_y0 : T y0 = some (1, nn, 0)) (l_y1 : 0 ≤ y1.toInt) (u_y1 : y1.toInt ≤ 16383) (t_y2 : T y2 = some (1, 14, 1)) (t_y3 : T y3 = some (1, 14, 0)) (hn : nn = 2 ^ j) (hj : j ≤ 14) (hO : okO T (a0 :: O) [1]) : TK l D cs kf yX0_begunOver cX0_begunOver 9 (some (.int)) { frames := 1, cells := 0, slots := 0, locals := 20 } [.ref a0, .int x1, .int x2, .int x3] T (a0 :: O) ((a0, .inr (0, [.ref y0, .int y1, .ref y2, .ref y3])) :: X) (Ti D cs (fun r u => u = (T, a0 :: O, (a0, .inr (0, [.ref y0, .int y1, .ref y2, .ref y3])) :: X))) := by
  refine tk_of (by decide) (Nat.le_of_ble_eq_true rfl) (fun p e s m below meth c ls A H locs hx hb hr hml hown hts hlocks hnm hkb hH hS hA hOX hks hE hl => ?_)
  have hown : s.vm.findClass RX0 = some m.cls := hown
  have hl : lv_has ls 9 [(0, .ref a0), (1, .int x1), (2, .int x2), (3, .int x3)] := hl
  have hOXf := hOX
  have hnb := p2_le hn hj
  refine lv_iconst (v := 0) hx hb dX0_begunOver_0 (by decide) ?_
  refine lv_istore (lv' := [(4, .int 0), (0, .ref a0), (1, .int x1), (2, .int x2), (3, .int x3)]) hx hb dX0_begunOver_1 hl (by decide) rfl (fun ls hl => ?_)
  refine lv_iconst (v := 1) hx hb dX0_begunOver_3 (by decide) ?_
  refine lv_iload_n hx hb dX0_begunOver_4 rfl (lv_at hl 3 rfl) ?_
  refine tk_i hH hS hA (tr_S (n := 1) (As := [.int x2]) hx hb hml hown hts hkb hH (ox_map hOX rfl) hks hE hS hA (s_bitCount l D cs kf T (a0 :: O) ((a0, .inr (0, [.ref y0, .int y1, .ref y2, .ref y3])) :: X) x2  (hO.sub (by decide))) kw_1088 kw_692 kw_20 kw_693 (by decide +kernel) ⟨Nat.le_of_ble_eq_true rfl, Nat.le_of_ble_eq_true rfl⟩ rfl rfl hl.1 (Nat.le_of_ble_eq_true rfl) dX0_begunOver_5 ⟨Nat.le_of_ble_eq_true rfl, Nat.le_of_ble_eq_true rfl⟩) (fun v5 u H locs hz9 hH hS => ?_)
  obtain ⟨rfl, l_v5, u_v5⟩ := hz9
  have hH : HT D cs A T (a0 :: O) ((a0, .inr (0, [.ref y0, .int y1, .ref y2, .ref y3])) :: X) H := hH
  refine W.widen (k := 0) (n := 0) (Nat.le_of_ble_eq_true rfl) (Nat.le_of_ble_eq_true rfl) ?_
  refine lv_ishl hx hb dX0_begunOver_8 ?_
  refine lv_topi (fun v8 ev8 => ?_)
  refine lv_istore (lv' := [(5, .int v8), (4, .int 0), (0, .ref a0), (1, .int x1), (2, .int x2), (3, .int x3)]) hx hb dX0_begunOver_9 hl (by decide) rfl (fun ls hl => ?_)
  refine lv_iconst (v := 0) hx hb dX0_begunOver_11 (by decide) ?_
  refine lv_istore (lv' := [(6, .int 0), (5, .int v8), (4, .int 0), (0, .ref a0), (1, .int x1), (2, .int x2), (3, .int x3)]) hx hb dX0_begunOver_12 hl (by decide) rfl (fun ls hl => ?_)
  refine lv_iconst (v := 0) hx hb dX0_begunOver_14 (by decide) ?_
  have J17 : ∀ (n : Nat) (p17_7 : Int32) (p17_6 : Int32) (p17_4 : Int32) (H : Heap) (locs : List Loc) (ls : Array Slot), (2147483647 - p17_7.toInt).toNat = n → (0 ≤ p17_7.toInt) → HT D cs A T (a0 :: O) ((a0, .inr (0, [.ref y0, .int y1, .ref y2, .ref y3])) :: X) H → va_S A s.heap H locs → lv_has ls 9 [(7, .int p17_7), (6, .int p17_6), (5, .int v8), (4, .int p17_4), (0, .ref a0), (1, .int x1), (2, .int x2), (3, .int x3)] → W p l e { frames := 1, cells := 0, slots := 0, locals := 20 } s m [.ref a0, .int x1, .int x2, .int x3].toArray below meth c H locs 0 0 (MQ below (Ti D cs (fun r u => u = (T, a0 :: O, (a0, .inr (0, [.ref y0, .int y1, .ref y2, .ref y3])) :: X)) A) [.ref a0, .int x1, .int x2, .int x3].toArray s 0 0 A) (F0 m 17 ls []) := by
    intro n
    induction n using Nat.strongRecOn with
    | _ n ih17 =>
      intro p17_7 p17_6 p17_4 H locs ls hm17 l_p17_7 hH hS hl
      refine lv_iload hx hb dX0_begunOver_17 (lv_at hl 0 rfl) ?_
      refine lv_iload hx hb dX0_begunOver_19 (lv_at hl 2 rfl) ?_
      refine lv_icmp_ge (tgt := 80) hx hb dX0_begunOver_21 (by decide) (fun c21 => ?_) (fun c21 => ?_)
      · skip
        have fuc21 := full_i p17_7
        have fvc21 := full_i v8
        have tc21 := g_le c21
        refine lv_iload hx hb dX0_begunOver_80 (lv_at hl 3 rfl) ?_
        exact te_i hx hb hr hlocks hH hS (rfl) dX0_begunOver_82
      · skip
        have fuc21 := full_i p17_7
        have fvc21 := full_i v8
        have tc21 := g_nle c21
        refine lv_iload_n hx hb dX0_begunOver_24 rfl (lv_at hl 5 rfl) ?_
        refine lv_iload hx hb dX0_begunOver_25 (lv_at hl 1 rfl) ?_
        refine lv_ior hx hb dX0_begunOver_27 ?_
        refine lv_topi (fun v27 ev27 => ?_)
        refine lv_istore (lv' := [(8, .int v27), (7, .int p17_7), (6, .int p17_6), (5, .int v8), (4, .int p17_4), (0, .ref a0), (1, .int x1), (2, .int x2), (3, .int x3)]) hx hb dX0_begunOver_28 hl (by decide) rfl (fun ls hl => ?_)
        refine lv_iload hx hb dX0_begunOver_30 (lv_at hl 0 rfl) ?_
        refine tk_i hH hS hA (tr_S (n := 1) (As := [.int v27]) hx hb hml hown hts hkb hH (ox_map hOX rfl) hks hE hS hA (s_bitCount l D cs kf T (a0 :: O) ((a0, .inr (0, [.ref y0, .int y1, .ref y2, .ref y3])) :: X) v27  (hO.sub (by decide))) kw_1088 kw_692 kw_20 kw_693 (by decide +kernel) ⟨Nat.le_of_ble_eq_true rfl, Nat.le_of_ble_eq_true rfl⟩ rfl rfl hl.1 (Nat.le_of_ble_eq_true rfl) dX0_begunOver_32 ⟨Nat.le_of_ble_eq_true rfl, Nat.le_of_ble_eq_true rfl⟩) (fun v32 u H locs hz9 hH hS => ?_)
        obtain ⟨rfl, l_v32, u_v32⟩ := hz9
        have hH : HT D cs A T (a0 :: O) ((a0, .inr (0, [.ref y0, .int y1, .ref y2, .ref y3])) :: X) H := hH
        refine W.widen (k := 0) (n := 0) (Nat.le_of_ble_eq_true rfl) (Nat.le_of_ble_eq_true rfl) ?_
        refine lv_iload_n hx hb dX0_begunOver_35 rfl (lv_at hl 8 rfl) ?_
        have J66 : ∀ (p66_4 : Int32) (H : Heap) (locs : List Loc) (ls : Array Slot), HT D cs A T (a0 :: O) ((a0, .inr (0, [.ref y0, .int y1, .ref y2, .ref y3])) :: X) H → va_S A s.heap H locs → lv_has ls 9 [(7, .int p17_7), (6, .int p17_6), (5, .int v8), (4, .int p66_4), (0, .ref a0), (1, .int x1), (2, .int x2), (3, .int x3)] → W p l e { frames := 1, cells := 0, slots := 0, locals := 20 } s m [.ref a0, .int x1, .int x2, .int x3].toArray below meth c H locs 0 0 (MQ below (Ti D cs (fun r u => u = (T, a0 :: O, (a0, .inr (0, [.ref y0, .int y1, .ref y2, .ref y3])) :: X)) A) [.ref a0, .int x1, .int x2, .int x3].toArray s 0 0 A) (F0 m 66 ls []) := by
          intro p66_4 H locs ls  hH hS hl
          refine lv_iload hx hb dX0_begunOver_66 (lv_at hl 1 rfl) ?_
          refine lv_iload_n hx hb dX0_begunOver_68 rfl (lv_at hl 6 rfl) ?_
          refine lv_isub hx hb dX0_begunOver_69 ?_
          refine lv_topi (fun v69 ev69 => ?_)
          refine lv_iload_n hx hb dX0_begunOver_70 rfl (lv_at hl 6 rfl) ?_
          refine lv_iand hx hb dX0_begunOver_71 ?_
          refine lv_topi (fun v71 ev71 => ?_)
          refine lv_istore (lv' := [(6, .int v71), (7, .int p17_7), (5, .int v8), (4, .int p66_4), (0, .ref a0), (1, .int x1), (2, .int x2), (3, .int x3)]) hx hb dX0_begunOver_72 hl (by decide) rfl (fun ls hl => ?_)
          obtain ⟨v74, ev74⟩ : ∃ y : Int32, y = p17_7 + 1 := ⟨_, rfl⟩
          have tv74 : v74.toInt = p17_7.toInt + (1) := by rw [ev74]; exact add_i rfl (by decide) (by omega) (by omega)
          refine lv_iinc (v := v74) (lv' := [(7, .int v74), (6, .int v71), (5, .int v8), (4, .int p66_4), (0, .ref a0), (1, .int x1), (2, .int x2), (3, .int x3)]) hx hb dX0_begunOver_74 hl (k := 1) rfl (by rw [ev74]; rfl) (by decide) rfl (fun ls hl => ?_)
          refine lv_goto (tgt := 17) hx hb dX0_begunOver_77 (by decide) ?_
          exact ih17 _ (by omega) v74 v71 p66_4 _ _ _ rfl (by omega) hH hS (lv_sub hl [0, 1, 2, 3, 4, 5, 6, 7] rfl)
        refine lv_icmp_ne (tgt := 66) hx hb dX0_begunOver_36 (by decide) (fun c36 => ?_) (fun c36 => ?_)
        · skip
          have fuc36 := full_i v32
          have fvc36 := full_i x3
          have tc36 := g_ne c36
          exact J66 p17_4 _ _ _  hH hS (lv_sub hl [1, 2, 3, 4, 5, 6, 7, 8] rfl)
        · skip
          have fuc36 := full_i v32
          have fvc36 := full_i x3
          have tc36 := g_eq c36
          refine lv_iload hx hb dX0_begunOver_39 (lv_at hl 0 rfl) ?_
          refine lv_if_lt (tgt := 66) hx hb dX0_begunOver_41 (by decide) (fun c41 => ?_) (fun c41 => ?_)
          · skip
            have tc41 := f_lt (k := 0) (by decide) c41
            exact J66 p17_4 _ _ _  hH hS (lv_sub hl [1, 2, 3, 4, 5, 6, 7, 8] rfl)
          · skip
            have tc41 := f_nlt (k := 0) (by decide) c41
            refine lv_iload hx hb dX0_begunOver_44 (lv_at hl 0 rfl) ?_
            refine lv_aload_n hx hb dX0_begunOver_46 rfl (lv_at hl 5 rfl) ?_
            refine x_getk (ci := 0) (C := RX0) (F := TX0) (N := 4) (v := .ref y0) hx hb hts uX0 hown hkb hH 0 rfl rfl 0 (by decide) rfl kw_330 (fun _ h9 => h9) dX0_begunOver_47 ?_
            refine t_len1 hx hb hkb hH t_y0 (hO.no t_y0 (by decide)) dX0_begunOver_50 ?_
            have e_nn : (nI nn).toInt = nn := nI_toInt (by omega)
            refine lv_icmp_ge (tgt := 66) hx hb dX0_begunOver_51 (by decide) (fun c51 => ?_) (fun c51 => ?_)
            · skip
              have fuc51 := full_i v27
              have fvc51 := full_i (nI nn)
              have tc51 := g_le c51
              exact J66 p17_4 _ _ _  hH hS (lv_sub hl [1, 2, 3, 4, 5, 6, 7, 8] rfl)
            · skip
              have fuc51 := full_i v27
              have fvc51 := full_i (nI nn)
              have tc51 := g_nle c51
              refine lv_iload hx hb dX0_begunOver_54 (lv_at hl 4 rfl) ?_
              refine lv_aload_n hx hb dX0_begunOver_56 rfl (lv_at hl 5 rfl) ?_
              refine x_getk (ci := 0) (C := RX0) (F := TX0) (N := 4) (v := .ref y0) hx hb hts uX0 hown hkb hH 0 rfl rfl 0 (by decide) rfl kw_330 (fun _ h9 => h9) dX0_begunOver_57 ?_
              refine lv_iload hx hb dX0_begunOver_60 (lv_at hl 0 rfl) ?_
              refine t_ild hx hb hkb hH t_y0 (hO.no t_y0 (by decide)) (by omega) (by omega) dX0_begunOver_62 (fun v62 h9 => ?_)
              refine lv_ior hx hb dX0_begunOver_63 ?_
              refine lv_topi (fun v63 ev63 => ?_)
              refine lv_istore (lv' := [(4, .int v63), (8, .int v27), (7, .int p17_7), (6, .int p17_6), (5, .int v8), (0, .ref a0), (1, .int x1), (2, .int x2), (3, .int x3)]) hx hb dX0_begunOver_64 hl (by decide) rfl (fun ls hl => ?_)
              exact J66 v63 _ _ _  hH hS (lv_sub hl [2, 3, 4, 0, 5, 6, 7, 8] rfl)
  refine lv_istore (lv' := [(7, .int 0), (6, .int 0), (5, .int v8), (4, .int 0), (0, .ref a0), (1, .int x1), (2, .int x2), (3, .int x3)]) hx hb dX0_begunOver_15 hl (by decide) rfl (fun ls hl => ?_)
  exact J17 _ 0 0 0 _ _ _ rfl (by decide) hH hS (lv_sub hl [0, 1, 2, 3, 4, 5, 6, 7] rfl)
theorem dX0_prepare_0 : decode cX0_prepare 0 = .ok (.aload_n 0, 1) := by decide +kernel
theorem dX0_prepare_1 : decode cX0_prepare 1 = .ok (.iload_n 2, 1) := by decide +kernel
theorem dX0_prepare_2 : decode cX0_prepare 2 = .ok (.putfield 15, 3) := by decide +kernel
theorem dX0_prepare_5 : decode cX0_prepare 5 = .ok (.iconst 1, 1) := by decide +kernel
theorem dX0_prepare_6 : decode cX0_prepare 6 = .ok (.iconst 2, 1) := by decide +kernel
theorem dX0_prepare_7 : decode cX0_prepare 7 = .ok (.aload_n 0, 1) := by decide +kernel
theorem dX0_prepare_8 : decode cX0_prepare 8 = .ok (.getfield 15, 3) := by decide +kernel
theorem dX0_prepare_11 : decode cX0_prepare 11 = .ok (.invokestatic 25, 3) := by decide +kernel
theorem dX0_prepare_14 : decode cX0_prepare 14 = .ok (.imul, 1) := by decide +kernel
theorem dX0_prepare_15 : decode cX0_prepare 15 = .ok (.invokestatic 31, 3) := by decide +kernel
theorem dX0_prepare_18 : decode cX0_prepare 18 = .ok (.istore 4, 2) := by decide +kernel
theorem dX0_prepare_20 : decode cX0_prepare 20 = .ok (.aload_n 0, 1) := by decide +kernel
theorem dX0_prepare_21 : decode cX0_prepare 21 = .ok (.getfield 9, 3) := by decide +kernel
theorem dX0_prepare_24 : decode cX0_prepare 24 = .ok (.arraylength, 1) := by decide +kernel
theorem dX0_prepare_25 : decode cX0_prepare 25 = .ok (.iload 4, 2) := by decide +kernel
theorem dX0_prepare_27 : decode cX0_prepare 27 = .ok (.if_icmp .ge 11, 3) := by decide +kernel
theorem dX0_prepare_30 : decode cX0_prepare 30 = .ok (.aload_n 0, 1) := by decide +kernel
theorem dX0_prepare_31 : decode cX0_prepare 31 = .ok (.iload 4, 2) := by decide +kernel
theorem dX0_prepare_33 : decode cX0_prepare 33 = .ok (.newarray .int, 2) := by decide +kernel
theorem dX0_prepare_35 : decode cX0_prepare 35 = .ok (.putfield 9, 3) := by decide +kernel
theorem dX0_prepare_38 : decode cX0_prepare 38 = .ok (.iconst 1, 1) := by decide +kernel
theorem dX0_prepare_39 : decode cX0_prepare 39 = .ok (.aload_n 0, 1) := by decide +kernel
theorem dX0_prepare_40 : decode cX0_prepare 40 = .ok (.getfield 15, 3) := by decide +kernel
theorem dX0_prepare_43 : decode cX0_prepare 43 = .ok (.invokestatic 37, 3) := by decide +kernel
theorem dX0_prepare_46 : decode cX0_prepare 46 = .ok (.ishl, 1) := by decide +kernel
theorem dX0_prepare_47 : decode cX0_prepare 47 = .ok (.istore 5, 2) := by decide +kernel
theorem dX0_prepare_49 : decode cX0_prepare 49 = .ok (.iconst 0, 1) := by decide +kernel
theorem dX0_prepare_50 : decode cX0_prepare 50 = .ok (.istore 6, 2) := by decide +kernel
theorem dX0_prepare_52 : decode cX0_prepare 52 = .ok (.iconst 0, 1) := by decide +kernel
theorem dX0_prepare_53 : decode cX0_prepare 53 = .ok (.istore 7, 2) := by decide +kernel
theorem dX0_prepare_55 : decode cX0_prepare 55 = .ok (.iload 7, 2) := by decide +kernel
theorem dX0_prepare_57 : decode cX0_prepare 57 = .ok (.iload 5, 2) := by decide +kernel
theorem dX0_prepare_59 : decode cX0_prepare 59 = .ok (.if_icmp .ge 31, 3) := by decide +kernel
theorem dX0_prepare_62 : decode cX0_prepare 62 = .ok (.aload_n 0, 1) := by decide +kernel
theorem dX0_prepare_63 : decode cX0_prepare 63 = .ok (.getfield 9, 3) := by decide +kernel
theorem dX0_prepare_66 : decode cX0_prepare 66 = .ok (.iload 6, 2) := by decide +kernel
theorem dX0_prepare_68 : decode cX0_prepare 68 = .ok (.iconst 0, 1) := by decide +kernel
theorem dX0_prepare_69 : decode cX0_prepare 69 = .ok (.iastore, 1) := by decide +kernel
theorem dX0_prepare_70 : decode cX0_prepare 70 = .ok (.iload 6, 2) := by decide +kernel
theorem dX0_prepare_72 : decode cX0_prepare 72 = .ok (.aload_n 0, 1) := by decide +kernel
theorem dX0_prepare_73 : decode cX0_prepare 73 = .ok (.getfield 15, 3) := by decide +kernel
theorem dX0_prepare_76 : decode cX0_prepare 76 = .ok (.isub, 1) := by decide +kernel
theorem dX0_prepare_77 : decode cX0_prepare 77 = .ok (.aload_n 0, 1) := by decide +kernel
theorem dX0_prepare_78 : decode cX0_prepare 78 = .ok (.getfield 15, 3) := by decide +kernel
theorem dX0_prepare_81 : decode cX0_prepare 81 = .ok (.iand, 1) := by decide +kernel
theorem dX0_prepare_82 : decode cX0_prepare 82 = .ok (.istore 6, 2) := by decide +kernel
theorem dX0_prepare_84 : decode cX0_prepare 84 = .ok (.iinc 7 1, 3) := by decide +kernel
theorem dX0_prepare_87 : decode cX0_prepare 87 = .ok (.goto (-32), 3) := by decide +kernel
theorem dX0_prepare_90 : decode cX0_prepare 90 = .ok (.iconst 0, 1) := by decide +kernel
theorem dX0_prepare_91 : decode cX0_prepare 91 = .ok (.istore 7, 2) := by decide +kernel
theorem dX0_prepare_93 : decode cX0_prepare 93 = .ok (.iload 7, 2) := by decide +kernel
theorem dX0_prepare_95 : decode cX0_prepare 95 = .ok (.bipush 14, 2) := by decide +kernel
theorem dX0_prepare_97 : decode cX0_prepare 97 = .ok (.if_icmp .ge 65, 3) := by decide +kernel
theorem dX0_prepare_100 : decode cX0_prepare 100 = .ok (.aload_n 0, 1) := by decide +kernel
theorem dX0_prepare_101 : decode cX0_prepare 101 = .ok (.getfield 15, 3) := by decide +kernel
theorem dX0_prepare_104 : decode cX0_prepare 104 = .ok (.iload 7, 2) := by decide +kernel
theorem dX0_prepare_106 : decode cX0_prepare 106 = .ok (.ishr, 1) := by decide +kernel
theorem dX0_prepare_107 : decode cX0_prepare 107 = .ok (.iconst 1, 1) := by decide +kernel
theorem dX0_prepare_108 : decode cX0_prepare 108 = .ok (.iand, 1) := by decide +kernel
theorem dX0_prepare_109 : decode cX0_prepare 109 = .ok (.ifCond .eq 47, 3) := by decide +kernel
theorem dX0_prepare_112 : decode cX0_prepare 112 = .ok (.aload_n 0, 1) := by decide +kernel
theorem dX0_prepare_113 : decode cX0_prepare 113 = .ok (.getfield 19, 3) := by decide +kernel
theorem dX0_prepare_116 : decode cX0_prepare 116 = .ok (.iload 7, 2) := by decide +kernel
theorem dX0_prepare_118 : decode cX0_prepare 118 = .ok (.aload_n 1, 1) := by decide +kernel
theorem dX0_prepare_119 : decode cX0_prepare 119 = .ok (.iload 7, 2) := by decide +kernel
theorem dX0_prepare_121 : decode cX0_prepare 121 = .ok (.aload_n 0, 1) := by decide +kernel
theorem dX0_prepare_122 : decode cX0_prepare 122 = .ok (.getfield 15, 3) := by decide +kernel
theorem dX0_prepare_125 : decode cX0_prepare 125 = .ok (.invokevirtual 40, 3) := by decide +kernel
theorem dX0_prepare_128 : decode cX0_prepare 128 = .ok (.iastore, 1) := by decide +kernel
theorem dX0_prepare_129 : decode cX0_prepare 129 = .ok (.aload_n 0, 1) := by decide +kernel
theorem dX0_prepare_130 : decode cX0_prepare 130 = .ok (.getfield 9, 3) := by decide +kernel
theorem dX0_prepare_133 : decode cX0_prepare 133 = .ok (.iconst 1, 1) := by decide +kernel
theorem dX0_prepare_134 : decode cX0_prepare 134 = .ok (.iload 7, 2) := by decide +kernel
theorem dX0_prepare_136 : decode cX0_prepare 136 = .ok (.ishl, 1) := by decide +kernel
theorem dX0_prepare_137 : decode cX0_prepare 137 = .ok (.aload_n 1, 1) := by decide +kernel
theorem dX0_prepare_138 : decode cX0_prepare 138 = .ok (.iload 7, 2) := by decide +kernel
theorem dX0_prepare_140 : decode cX0_prepare 140 = .ok (.iload_n 3, 1) := by decide +kernel
theorem dX0_prepare_141 : decode cX0_prepare 141 = .ok (.invokevirtual 40, 3) := by decide +kernel
theorem dX0_prepare_144 : decode cX0_prepare 144 = .ok (.ifCond .eq 10, 3) := by decide +kernel
theorem dX0_prepare_147 : decode cX0_prepare 147 = .ok (.iconst 1, 1) := by decide +kernel
theorem dX0_prepare_148 : decode cX0_prepare 148 = .ok (.iload 7, 2) := by decide +kernel
theorem dX0_prepare_150 : decode cX0_prepare 150 = .ok (.ishl, 1) := by decide +kernel
theorem dX0_prepare_151 : decode cX0_prepare 151 = .ok (.goto 4, 3) := by decide +kernel
theorem dX0_prepare_154 : decode cX0_prepare 154 = .ok (.iconst 0, 1) := by decide +kernel
theorem dX0_prepare_155 : decode cX0_prepare 155 = .ok (.iastore, 1) := by decide +kernel
theorem dX0_prepare_156 : decode cX0_prepare 156 = .ok (.iinc 7 1, 3) := by decide +kernel
theorem dX0_prepare_159 : decode cX0_prepare 159 = .ok (.goto (-66), 3) := by decide +kernel
theorem dX0_prepare_162 : decode cX0_prepare 162 = .ok (.return_, 1) := by decide +kernel
theorem kw_1080 : Cond.methodLink "FootholdWall$Chains" 25 yJ6_highestOneBit_0f7a4 ∈ gw := gw_of (tb_of 1080 (by decide +kernel)) (by decide +kernel)
theorem kw_1081 : Cond.static yJ6_highestOneBit_0f7a4 ∈ gw := gw_of (tb_of 1081 (by decide +kernel)) (by decide +kernel)
theorem kw_1082 : Cond.code yJ6_highestOneBit_0f7a4 cJ6_highestOneBit_0f7a4 1 (some (.int)) ∈ gw := gw_of (tb_of 1082 (by decide +kernel)) (by decide +kernel)
theorem kw_1087 : Cond.methodLink "FootholdWall$Chains" 31 Lib.Math.max.name ∈ gw := gw_of (tb_of 1087 (by decide +kernel)) (by decide +kernel)
set_option maxHeartbeats 4000000 in
set_option maxRecDepth 100000 in
theorem s_Ch_prepare (l : Launch) (D : va_G) (cs : CS) (kf : KF) (T : TF) (O : List Nat) (X : va_W) (a0 : Nat) (a1 : Nat) (x2 : Int32) (x3 : Int32) (y0 : Nat) (y1 : Int32) (y2 : Nat) (y3 : Nat) (nn j gq : Nat) (t_a0 : T a0 = some (10, gq, 0)) (t_a1 : T a1 = some (15, 0, 0)) (l_x2 : 0 ≤ x2.toInt) (u_x2 : x2.toInt ≤ 16383) (t_y0 : T y0 = some (1, nn, 0)) (l_y1 : 0 ≤ y1.toInt) (u_y1 : y1.toInt ≤ 16383) (t_y2 : T y2 = some (1, 14, 1)) (t_y3 : T y3 = some (1, 14, 0)) (hn : nn = 2 ^ j) (hj : j ≤ 14) (hO : okO T (a0 :: O) [1, 12, 15, 19]) : TKD l D cs kf yX0_prepare cX0_prepare 8 none { frames := 4, cells := 1, slots := 16384, locals := 101 } [.ref a0, .ref a1, .int x2, .int x3] T (a0 :: O) ((a0, .inr (0, [.ref y0, .int y1, .ref y2, .ref y3])) :: X) (fun kk ss => Tv D cs ((fun kk ss u => ∃ T2 : TF, Tgr T T2 ∧ ∃ (n2 : Nat) (j2 : Nat) (n0_0 : Nat) (n0_1 : Int32), u = (T2, a0 :: O, (a0, .inr (0, [.ref n0_0, .int n0_1, .ref y2, .ref y3])) :: X) ∧ (T2 n0_0 = some (1, n2, 0)) ∧ (n2 = 2 ^ j2) ∧ (j ≤ j2) ∧ (j2 ≤ 14) ∧ (0 ≤ n0_1.toInt) ∧ (n0_1.toInt ≤ 16383) ∧ (n0_1.toInt < n2) ∧ (kk + j ≤ j2) ∧ (ss + 16384 * j ≤ 16384 * j2) ∧ (kk ≤ 1) ∧ (ss ≤ 16384)) kk ss)) := by
  refine tkd_of (by decide) (Nat.le_of_ble_eq_true rfl) (fun p e s m below meth c ls A H locs hx hb hr hml hown hts hlocks hnm hkb hH hS hA hOX hks hE hl => ?_)
  have hown : s.vm.findClass RX0 = some m.cls := hown
  have hl : lv_has ls 8 [(0, .ref a0), (1, .ref a1), (2, .int x2), (3, .int x3)] := hl
  have hOXf := hOX
  have hnb := p2_le hn hj
  refine lv_aload_n hx hb dX0_prepare_0 rfl (lv_at hl 0 rfl) ?_
  refine lv_iload_n hx hb dX0_prepare_1 rfl (lv_at hl 2 rfl) ?_
  refine x_putk (ci := 0) (v := .int x2) (ty := tyX0 1) (C := RX0) (F := TX0) (N := 4) hx hb hts uX0 tyX0 tyX0_ok nmX0 hown hkb hH hS 0 rfl rfl 1 (by decide) kw_331 (fun _ h9 => h9) rfl (tyX0_ok 1 (by decide)) rfl rfl (Nat.le_of_ble_eq_true rfl) dX0_prepare_2 (fun H locs hH hS => ?_)
  have hH : HT D cs A T (a0 :: O) ((a0, .inr (0, [.ref y0, .int x2, .ref y2, .ref y3])) :: X) H := hH
  refine lv_iconst (v := 1) hx hb dX0_prepare_5 (by decide) ?_
  refine lv_iconst (v := 2) hx hb dX0_prepare_6 (by decide) ?_
  refine lv_aload_n hx hb dX0_prepare_7 rfl (lv_at hl 0 rfl) ?_
  refine x_getk (ci := 0) (C := RX0) (F := TX0) (N := 4) (v := .int x2) hx hb hts uX0 hown hkb hH 0 rfl rfl 1 (by decide) rfl kw_331 (fun _ h9 => h9) dX0_prepare_8 ?_
  refine tk_i hH hS hA (tr_S (n := 1) (As := [.int x2]) hx hb hml hown hts hkb hH (ox_map hOX rfl) hks hE hS hA (s_hob l D cs kf T (a0 :: O) ((a0, .inr (0, [.ref y0, .int x2, .ref y2, .ref y3])) :: X) x2 (by omega) (by omega) (hO.sub (by decide))) kw_1080 kw_1081 kw_20 kw_1082 (by decide +kernel) ⟨Nat.le_of_ble_eq_true rfl, Nat.le_of_ble_eq_true rfl⟩ rfl rfl hl.1 (Nat.le_of_ble_eq_true rfl) dX0_prepare_11 ⟨by show 0 + 0 ≤ 1; omega, by show 0 + 0 ≤ 16384; omega⟩) (fun v11 u H locs hz9 hH hS => ?_)
  obtain ⟨rfl, l_v11, u_v11, x_v110, x_v111, x_v112⟩ := hz9
  have hH : HT D cs A T (a0 :: O) ((a0, .inr (0, [.ref y0, .int x2, .ref y2, .ref y3])) :: X) H := hH
  refine W.widen (k := 0) (n := 0) (Nat.le_refl _) (Nat.le_refl _) ?_
  refine lv_imul hx hb dX0_prepare_14 ?_
  refine lv_topi (fun v14 ev14 => ?_)
  have tv14 : v14.toInt = (2) * v11.toInt := by rw [ev14]; exact mul_i (by decide : (2 : Int32).toInt = 2) rfl (by omega) (by omega)
  refine va_mmax hx hb (by rw [hml]; exact hl.1.symm) hown (hts _ kw_1087) (hts _ kw_100) (hts _ kw_6) (hts _ kw_101) (Nat.le_of_ble_eq_true rfl) (Nat.le_of_ble_eq_true rfl) (Nat.le_of_ble_eq_true rfl) (Nat.le_of_ble_eq_true rfl) dX0_prepare_15 ?_
  refine lv_topi (fun v15 ev15 => ?_)
  have tv15 : v15.toInt = max (1) v14.toInt := by rw [ev15]; exact max_i (by decide : (1 : Int32).toInt = 1) rfl
  refine lv_istore (lv' := [(4, .int v15), (0, .ref a0), (1, .ref a1), (2, .int x2), (3, .int x3)]) hx hb dX0_prepare_18 hl (by decide) rfl (fun ls hl => ?_)
  refine lv_aload_n hx hb dX0_prepare_20 rfl (lv_at hl 1 rfl) ?_
  refine x_getk (ci := 0) (C := RX0) (F := TX0) (N := 4) (v := .ref y0) hx hb hts uX0 hown hkb hH 0 rfl rfl 0 (by decide) rfl kw_330 (fun _ h9 => h9) dX0_prepare_21 ?_
  refine t_len1 hx hb hkb hH t_y0 (hO.no t_y0 (by decide)) dX0_prepare_24 ?_
  have e_nn : (nI nn).toInt = nn := nI_toInt (by omega)
  refine lv_iload hx hb dX0_prepare_25 (lv_at hl 0 rfl) ?_
  have J38 : ∀ (T38q : TF) (kc38 ks38 : Nat) (f38_100 : Nat) (nf38_100 jf38_100 : Nat) (H : Heap) (locs : List Loc) (ls : Array Slot), Tgr T T38q → (T38q f38_100 = some (1, nf38_100, 0)) → (nf38_100 = 2 ^ jf38_100) → (jf38_100 ≤ 14) → (kc38 + j ≤ jf38_100) → (ks38 + 16384 * j ≤ 16384 * jf38_100) → (x2.toInt < nf38_100) → (kc38 ≤ 1 ∧ ks38 ≤ 16384) → HT D cs A T38q (a0 :: O) ((a0, .inr (0, [.ref f38_100, .int x2, .ref y2, .ref y3])) :: X) H → va_S A s.heap H locs → lv_has ls 8 [(0, .ref a0), (1, .ref a1), (3, .int x3)] → W p l e { frames := 4, cells := 1, slots := 16384, locals := 101 } s m [.ref a0, .ref a1, .int x2, .int x3].toArray below meth c H locs kc38 ks38 (MQD below (fun kk ss => Tv D cs ((fun kk ss u => ∃ T2 : TF, Tgr T T2 ∧ ∃ (n2 : Nat) (j2 : Nat) (n0_0 : Nat) (n0_1 : Int32), u = (T2, a0 :: O, (a0, .inr (0, [.ref n0_0, .int n0_1, .ref y2, .ref y3])) :: X) ∧ (T2 n0_0 = some (1, n2, 0)) ∧ (n2 = 2 ^ j2) ∧ (j ≤ j2) ∧ (j2 ≤ 14) ∧ (0 ≤ n0_1.toInt) ∧ (n0_1.toInt ≤ 16383) ∧ (n0_1.toInt < n2) ∧ (kk + j ≤ j2) ∧ (ss + 16384 * j ≤ 16384 * j2) ∧ (kk ≤ 1) ∧ (ss ≤ 16384)) kk ss) A) [.ref a0, .ref a1, .int x2, .int x3].toArray s A) (F0 m 38 ls []) := by
    intro T38q kc38 ks38 f38_100 nf38_100 jf38_100 H locs ls le_T38q t_f38_100 q_f38_100 qj_f38_100 i38a i38b i38c i38d hH hS hl
    have t_a0 := le_T38q.1 _ _ t_a0
    have t_a1 := le_T38q.1 _ _ t_a1
    have t_y0 := le_T38q.1 _ _ t_y0
    have t_y2 := le_T38q.1 _ _ t_y2
    have t_y3 := le_T38q.1 _ _ t_y3
    have hO := okO.le le_T38q.1 hO
    have qb_f38_100 := p2_le q_f38_100 qj_f38_100
    refine lv_iconst (v := 1) hx hb dX0_prepare_38 (by decide) ?_
    refine lv_aload_n hx hb dX0_prepare_39 rfl (lv_at hl 0 rfl) ?_
    refine x_getk (ci := 0) (C := RX0) (F := TX0) (N := 4) (v := .int x2) hx hb hts uX0 hown hkb hH 0 rfl rfl 1 (by decide) rfl kw_331 (fun _ h9 => h9) dX0_prepare_40 ?_
    refine tk_i hH hS hA (tr_S (n := 1) (As := [.int x2]) hx hb hml hown hts hkb hH (ox_map hOX rfl) hks hE hS hA (s_bitCount l D cs kf T38q (a0 :: O) ((a0, .inr (0, [.ref f38_100, .int x2, .ref y2, .ref y3])) :: X) x2  (hO.sub (by decide))) kw_1088 kw_692 kw_20 kw_693 (by decide +kernel) ⟨Nat.le_of_ble_eq_true rfl, Nat.le_of_ble_eq_true rfl⟩ rfl rfl hl.1 (Nat.le_of_ble_eq_true rfl) dX0_prepare_43 ⟨by show kc38 + 0 ≤ 1; omega, by show ks38 + 0 ≤ 16384; omega⟩) (fun v43 u H locs hz9 hH hS => ?_)
    obtain ⟨rfl, l_v43, u_v43⟩ := hz9
    have hH : HT D cs A T38q (a0 :: O) ((a0, .inr (0, [.ref f38_100, .int x2, .ref y2, .ref y3])) :: X) H := hH
    refine W.widen (k := kc38) (n := ks38) (Nat.le_refl _) (Nat.le_refl _) ?_
    refine lv_ishl hx hb dX0_prepare_46 ?_
    refine lv_topi (fun v46 ev46 => ?_)
    refine lv_istore (lv' := [(5, .int v46), (0, .ref a0), (1, .ref a1), (3, .int x3)]) hx hb dX0_prepare_47 hl (by decide) rfl (fun ls hl => ?_)
    refine lv_iconst (v := 0) hx hb dX0_prepare_49 (by decide) ?_
    refine lv_istore (lv' := [(6, .int 0), (5, .int v46), (0, .ref a0), (1, .ref a1), (3, .int x3)]) hx hb dX0_prepare_50 hl (by decide) rfl (fun ls hl => ?_)
    refine lv_iconst (v := 0) hx hb dX0_prepare_52 (by decide) ?_
    have J55 : ∀ (n : Nat) (p55_7 : Int32) (p55_6 : Int32) (H : Heap) (locs : List Loc) (ls : Array Slot), (2147483647 - p55_7.toInt).toNat = n → (0 ≤ p55_7.toInt) → (0 ≤ p55_6.toInt) → (p55_6.toInt ≤ 16383) → (p55_6.toInt ≤ x2.toInt) → HT D cs A T38q (a0 :: O) ((a0, .inr (0, [.ref f38_100, .int x2, .ref y2, .ref y3])) :: X) H → va_S A s.heap H locs → lv_has ls 8 [(7, .int p55_7), (6, .int p55_6), (5, .int v46), (0, .ref a0), (1, .ref a1), (3, .int x3)] → W p l e { frames := 4, cells := 1, slots := 16384, locals := 101 } s m [.ref a0, .ref a1, .int x2, .int x3].toArray below meth c H locs kc38 ks38 (MQD below (fun kk ss => Tv D cs ((fun kk ss u => ∃ T2 : TF, Tgr T T2 ∧ ∃ (n2 : Nat) (j2 : Nat) (n0_0 : Nat) (n0_1 : Int32), u = (T2, a0 :: O, (a0, .inr (0, [.ref n0_0, .int n0_1, .ref y2, .ref y3])) :: X) ∧ (T2 n0_0 = some (1, n2, 0)) ∧ (n2 = 2 ^ j2) ∧ (j ≤ j2) ∧ (j2 ≤ 14) ∧ (0 ≤ n0_1.toInt) ∧ (n0_1.toInt ≤ 16383) ∧ (n0_1.toInt < n2) ∧ (kk + j ≤ j2) ∧ (ss + 16384 * j ≤ 16384 * j2) ∧ (kk ≤ 1) ∧ (ss ≤ 16384)) kk ss) A) [.ref a0, .ref a1, .int x2, .int x3].toArray s A) (F0 m 55 ls []) := by
      intro n
      induction n using Nat.strongRecOn with
      | _ n ih55 =>
        intro p55_7 p55_6 H locs ls hm55 l_p55_7 l_p55_6 u_p55_6 i55 hH hS hl
        refine lv_iload hx hb dX0_prepare_55 (lv_at hl 0 rfl) ?_
        refine lv_iload hx hb dX0_prepare_57 (lv_at hl 2 rfl) ?_
        refine lv_icmp_ge (tgt := 90) hx hb dX0_prepare_59 (by decide) (fun c59 => ?_) (fun c59 => ?_)
        · skip
          have fuc59 := full_i p55_7
          have fvc59 := full_i v46
          have tc59 := g_le c59
          refine lv_iconst (v := 0) hx hb dX0_prepare_90 (by decide) ?_
          have J93 : ∀ (n : Nat) (p93_7 : Int32) (H : Heap) (locs : List Loc) (ls : Array Slot), (14 - p93_7.toInt).toNat = n → (0 ≤ p93_7.toInt) → (p93_7.toInt ≤ 14) → HT D cs A T38q (a0 :: O) ((a0, .inr (0, [.ref f38_100, .int x2, .ref y2, .ref y3])) :: X) H → va_S A s.heap H locs → lv_has ls 8 [(7, .int p93_7), (0, .ref a0), (1, .ref a1), (3, .int x3)] → W p l e { frames := 4, cells := 1, slots := 16384, locals := 101 } s m [.ref a0, .ref a1, .int x2, .int x3].toArray below meth c H locs kc38 ks38 (MQD below (fun kk ss => Tv D cs ((fun kk ss u => ∃ T2 : TF, Tgr T T2 ∧ ∃ (n2 : Nat) (j2 : Nat) (n0_0 : Nat) (n0_1 : Int32), u = (T2, a0 :: O, (a0, .inr (0, [.ref n0_0, .int n0_1, .ref y2, .ref y3])) :: X) ∧ (T2 n0_0 = some (1, n2, 0)) ∧ (n2 = 2 ^ j2) ∧ (j ≤ j2) ∧ (j2 ≤ 14) ∧ (0 ≤ n0_1.toInt) ∧ (n0_1.toInt ≤ 16383) ∧ (n0_1.toInt < n2) ∧ (kk + j ≤ j2) ∧ (ss + 16384 * j ≤ 16384 * j2) ∧ (kk ≤ 1) ∧ (ss ≤ 16384)) kk ss) A) [.ref a0, .ref a1, .int x2, .int x3].toArray s A) (F0 m 93 ls []) := by
            intro n
            induction n using Nat.strongRecOn with
            | _ n ih93 =>
              intro p93_7 H locs ls hm93 l_p93_7 u_p93_7 hH hS hl
              refine lv_iload hx hb dX0_prepare_93 (lv_at hl 0 rfl) ?_
              refine lv_bipush (v := 14) hx hb dX0_prepare_95 (by decide) ?_
              refine lv_icmp_ge (tgt := 162) hx hb dX0_prepare_97 (by decide) (fun c97 => ?_) (fun c97 => ?_)
              · skip
                have tc97 := f_ge (k := 14) (by decide) c97
                exact te_vD hx hb hr hlocks hH hS (⟨T38q, le_T38q, nf38_100, jf38_100, f38_100, x2, rfl, t_f38_100, q_f38_100, by omega, by omega, by omega, by omega, by omega, by omega, by omega, by omega, by omega⟩) dX0_prepare_162
              · skip
                have tc97 := f_nge (k := 14) (by decide) c97
                refine lv_aload_n hx hb dX0_prepare_100 rfl (lv_at hl 1 rfl) ?_
                refine x_getk (ci := 0) (C := RX0) (F := TX0) (N := 4) (v := .int x2) hx hb hts uX0 hown hkb hH 0 rfl rfl 1 (by decide) rfl kw_331 (fun _ h9 => h9) dX0_prepare_101 ?_
                refine lv_iload hx hb dX0_prepare_104 (lv_at hl 0 rfl) ?_
                refine lv_ishr hx hb dX0_prepare_106 ?_
                refine lv_topi (fun v106 ev106 => ?_)
                have tv106 : 0 ≤ v106.toInt ∧ v106.toInt ≤ x2.toInt := by rw [ev106]; exact shr_b (by omega)
                refine lv_iconst (v := 1) hx hb dX0_prepare_107 (by decide) ?_
                refine lv_iand hx hb dX0_prepare_108 ?_
                refine lv_topi (fun v108 ev108 => ?_)
                have tv108 : 0 ≤ v108.toInt ∧ v108.toInt ≤ 1 := by rw [ev108]; exact and_r (by decide)
                have J156 : ∀  (H : Heap) (locs : List Loc) (ls : Array Slot), HT D cs A T38q (a0 :: O) ((a0, .inr (0, [.ref f38_100, .int x2, .ref y2, .ref y3])) :: X) H → va_S A s.heap H locs → lv_has ls 8 [(7, .int p93_7), (0, .ref a0), (1, .ref a1), (3, .int x3)] → W p l e { frames := 4, cells := 1, slots := 16384, locals := 101 } s m [.ref a0, .ref a1, .int x2, .int x3].toArray below meth c H locs kc38 ks38 (MQD below (fun kk ss => Tv D cs ((fun kk ss u => ∃ T2 : TF, Tgr T T2 ∧ ∃ (n2 : Nat) (j2 : Nat) (n0_0 : Nat) (n0_1 : Int32), u = (T2, a0 :: O, (a0, .inr (0, [.ref n0_0, .int n0_1, .ref y2, .ref y3])) :: X) ∧ (T2 n0_0 = some (1, n2, 0)) ∧ (n2 = 2 ^ j2) ∧ (j ≤ j2) ∧ (j2 ≤ 14) ∧ (0 ≤ n0_1.toInt) ∧ (n0_1.toInt ≤ 16383) ∧ (n0_1.toInt < n2) ∧ (kk + j ≤ j2) ∧ (ss + 16384 * j ≤ 16384 * j2) ∧ (kk ≤ 1) ∧ (ss ≤ 16384)) kk ss) A) [.ref a0, .ref a1, .int x2, .int x3].toArray s A) (F0 m 156 ls []) := by
                  intro  H locs ls  hH hS hl
                  obtain ⟨v156, ev156⟩ : ∃ y : Int32, y = p93_7 + 1 := ⟨_, rfl⟩
                  have tv156 : v156.toInt = p93_7.toInt + (1) := by rw [ev156]; exact add_i rfl (by decide) (by omega) (by omega)
                  refine lv_iinc (v := v156) (lv' := [(7, .int v156), (0, .ref a0), (1, .ref a1), (3, .int x3)]) hx hb dX0_prepare_156 hl (k := 0) rfl (by rw [ev156]; rfl) (by decide) rfl (fun ls hl => ?_)
                  refine lv_goto (tgt := 93) hx hb dX0_prepare_159 (by decide) ?_
                  exact ih93 _ (by omega) v156 _ _ _ rfl (by omega) (by omega) hH hS (lv_sub hl [0, 1, 2, 3] rfl)
                refine lv_if_eq (tgt := 156) hx hb dX0_prepare_109 (by decide) (fun c109 => ?_) (fun c109 => ?_)
                · skip
                  have tc109 := f_eq (k := 0) (by decide) c109
                  exact J156  _ _ _  hH hS (lv_sub hl [0, 1, 2, 3] rfl)
                · skip
                  have tc109 := f_ne (k := 0) (by decide) c109
                  refine lv_aload_n hx hb dX0_prepare_112 rfl (lv_at hl 1 rfl) ?_
                  refine x_getk (ci := 0) (C := RX0) (F := TX0) (N := 4) (v := .ref y2) hx hb hts uX0 hown hkb hH 0 rfl rfl 2 (by decide) rfl kw_332 (fun _ h9 => h9) dX0_prepare_113 ?_
                  refine lv_iload hx hb dX0_prepare_116 (lv_at hl 0 rfl) ?_
                  refine lv_aload_n hx hb dX0_prepare_118 rfl (lv_at hl 2 rfl) ?_
                  refine lv_iload hx hb dX0_prepare_119 (lv_at hl 0 rfl) ?_
                  refine lv_aload_n hx hb dX0_prepare_121 rfl (lv_at hl 1 rfl) ?_
                  refine x_getk (ci := 0) (C := RX0) (F := TX0) (N := 4) (v := .int x2) hx hb hts uX0 hown hkb hH 0 rfl rfl 1 (by decide) rfl kw_331 (fun _ h9 => h9) dX0_prepare_122 ?_
                  refine tk_i hH hS hA (tr_V (n := 2) (As := [.int p93_7, .int x2]) hx hb hml hown hts hkb hH (ox_map hOX rfl) hks hE hS hA (s_Rows_stepped l D cs kf T38q (a0 :: O) ((a0, .inr (0, [.ref f38_100, .int x2, .ref y2, .ref y3])) :: X) a1 p93_7 x2 t_a1 (hO.sub (by decide))) kw_1075 kw_863 kw_864 kw_8 kw_865 (by decide +kernel) ⟨Nat.le_of_ble_eq_true rfl, Nat.le_of_ble_eq_true rfl⟩ (HT.recv (ci := 5) hkb hH t_a1 (hO.no t_a1 (by decide)) rfl) rfl rfl hl.1 (Nat.le_of_ble_eq_true rfl) dX0_prepare_125 ⟨by show kc38 + 0 ≤ 1; omega, by show ks38 + 0 ≤ 16384; omega⟩) (fun v125 u H locs hz9 hH hS => ?_)
                  obtain ⟨rfl, l_v125, u_v125⟩ := hz9
                  have hH : HT D cs A T38q (a0 :: O) ((a0, .inr (0, [.ref f38_100, .int x2, .ref y2, .ref y3])) :: X) H := hH
                  refine W.widen (k := kc38) (n := ks38) (Nat.le_refl _) (Nat.le_refl _) ?_
                  refine t_ist hx hb hkb hH hS t_y2 (hO.no t_y2 (by decide)) (by omega) (by omega) (show 0 ≤ v125.toInt ∧ v125.toInt ≤ 16383 from by omega) dX0_prepare_128 (fun H locs hH hS => ?_)
                  have hb9 := bit_le (by omega) (by omega) (by omega) ev106 ev108 (by omega)
                  refine lv_aload_n hx hb dX0_prepare_129 rfl (lv_at hl 1 rfl) ?_
                  refine x_getk (ci := 0) (C := RX0) (F := TX0) (N := 4) (v := .ref f38_100) hx hb hts uX0 hown hkb hH 0 rfl rfl 0 (by decide) rfl kw_330 (fun _ h9 => h9) dX0_prepare_130 ?_
                  refine lv_iconst (v := 1) hx hb dX0_prepare_133 (by decide) ?_
                  refine lv_iload hx hb dX0_prepare_134 (lv_at hl 0 rfl) ?_
                  refine lv_ishl hx hb dX0_prepare_136 ?_
                  refine lv_topi (fun v136 ev136 => ?_)
                  have tv136 : 1 ≤ v136.toInt ∧ v136.toInt ≤ 8192 := by rw [ev136]; exact shl_b 13 (by decide) (by omega) (by omega)
                  rw [← ev136] at hb9
                  refine lv_aload_n hx hb dX0_prepare_137 rfl (lv_at hl 2 rfl) ?_
                  refine lv_iload hx hb dX0_prepare_138 (lv_at hl 0 rfl) ?_
                  refine lv_iload_n hx hb dX0_prepare_140 rfl (lv_at hl 3 rfl) ?_
                  refine tk_i hH hS hA (tr_V (n := 2) (As := [.int p93_7, .int x3]) hx hb hml hown hts hkb hH (ox_map hOX rfl) hks hE hS hA (s_Rows_stepped l D cs kf T38q (a0 :: O) ((a0, .inr (0, [.ref f38_100, .int x2, .ref y2, .ref y3])) :: X) a1 p93_7 x3 t_a1 (hO.sub (by decide))) kw_1075 kw_863 kw_864 kw_8 kw_865 (by decide +kernel) ⟨Nat.le_of_ble_eq_true rfl, Nat.le_of_ble_eq_true rfl⟩ (HT.recv (ci := 5) hkb hH t_a1 (hO.no t_a1 (by decide)) rfl) rfl rfl hl.1 (Nat.le_of_ble_eq_true rfl) dX0_prepare_141 ⟨by show kc38 + 0 ≤ 1; omega, by show ks38 + 0 ≤ 16384; omega⟩) (fun v141 u H locs hz9 hH hS => ?_)
                  obtain ⟨rfl, l_v141, u_v141⟩ := hz9
                  have hH : HT D cs A T38q (a0 :: O) ((a0, .inr (0, [.ref f38_100, .int x2, .ref y2, .ref y3])) :: X) H := hH
                  refine W.widen (k := kc38) (n := ks38) (Nat.le_refl _) (Nat.le_refl _) ?_
                  have J155 : ∀ (k155_0 : Int32) (H : Heap) (locs : List Loc) (ls : Array Slot), (0 ≤ k155_0.toInt) → (k155_0.toInt ≤ 8192) → HT D cs A T38q (a0 :: O) ((a0, .inr (0, [.ref f38_100, .int x2, .ref y2, .ref y3])) :: X) H → va_S A s.heap H locs → lv_has ls 8 [(7, .int p93_7), (0, .ref a0), (1, .ref a1), (3, .int x3)] → W p l e { frames := 4, cells := 1, slots := 16384, locals := 101 } s m [.ref a0, .ref a1, .int x2, .int x3].toArray below meth c H locs kc38 ks38 (MQD below (fun kk ss => Tv D cs ((fun kk ss u => ∃ T2 : TF, Tgr T T2 ∧ ∃ (n2 : Nat) (j2 : Nat) (n0_0 : Nat) (n0_1 : Int32), u = (T2, a0 :: O, (a0, .inr (0, [.ref n0_0, .int n0_1, .ref y2, .ref y3])) :: X) ∧ (T2 n0_0 = some (1, n2, 0)) ∧ (n2 = 2 ^ j2) ∧ (j ≤ j2) ∧ (j2 ≤ 14) ∧ (0 ≤ n0_1.toInt) ∧ (n0_1.toInt ≤ 16383) ∧ (n0_1.toInt < n2) ∧ (kk + j ≤ j2) ∧ (ss + 16384 * j ≤ 16384 * j2) ∧ (kk ≤ 1) ∧ (ss ≤ 16384)) kk ss) A) [.ref a0, .ref a1, .int x2, .int x3].toArray s A) (F0 m 155 ls [.int k155_0, .int v136, .ref f38_100]) := by
                    intro k155_0 H locs ls l_k155_0 u_k155_0 hH hS hl
                    refine t_ist hx hb hkb hH hS t_f38_100 (hO.no t_f38_100 (by decide)) (by omega) (by omega) (cp_0 _) dX0_prepare_155 (fun H locs hH hS => ?_)
                    exact J156  _ _ _  hH hS (lv_sub hl [0, 1, 2, 3] rfl)
                  refine lv_if_eq (tgt := 154) hx hb dX0_prepare_144 (by decide) (fun c144 => ?_) (fun c144 => ?_)
                  · skip
                    have tc144 := f_eq (k := 0) (by decide) c144
                    refine lv_iconst (v := 0) hx hb dX0_prepare_154 (by decide) ?_
                    exact J155 0 _ _ _ (by decide) (by decide) hH hS (lv_sub hl [0, 1, 2, 3] rfl)
                  · skip
                    have tc144 := f_ne (k := 0) (by decide) c144
                    refine lv_iconst (v := 1) hx hb dX0_prepare_147 (by decide) ?_
                    refine lv_iload hx hb dX0_prepare_148 (lv_at hl 0 rfl) ?_
                    refine lv_ishl hx hb dX0_prepare_150 ?_
                    refine lv_topi (fun v150 ev150 => ?_)
                    have tv150 : 1 ≤ v150.toInt ∧ v150.toInt ≤ 8192 := by rw [ev150]; exact shl_b 13 (by decide) (by omega) (by omega)
                    refine lv_goto (tgt := 155) hx hb dX0_prepare_151 (by decide) ?_
                    exact J155 v150 _ _ _ (by omega) (by omega) hH hS (lv_sub hl [0, 1, 2, 3] rfl)
          refine lv_istore (lv' := [(7, .int 0), (6, .int p55_6), (5, .int v46), (0, .ref a0), (1, .ref a1), (3, .int x3)]) hx hb dX0_prepare_91 hl (by decide) rfl (fun ls hl => ?_)
          exact J93 _ 0 _ _ _ rfl (by decide) (by decide) hH hS (lv_sub hl [0, 3, 4, 5] rfl)
        · skip
          have fuc59 := full_i p55_7
          have fvc59 := full_i v46
          have tc59 := g_nle c59
          refine lv_aload_n hx hb dX0_prepare_62 rfl (lv_at hl 3 rfl) ?_
          refine x_getk (ci := 0) (C := RX0) (F := TX0) (N := 4) (v := .ref f38_100) hx hb hts uX0 hown hkb hH 0 rfl rfl 0 (by decide) rfl kw_330 (fun _ h9 => h9) dX0_prepare_63 ?_
          refine lv_iload hx hb dX0_prepare_66 (lv_at hl 1 rfl) ?_
          refine lv_iconst (v := 0) hx hb dX0_prepare_68 (by decide) ?_
          refine t_ist hx hb hkb hH hS t_f38_100 (hO.no t_f38_100 (by decide)) (by omega) (by omega) (cp_0 _) dX0_prepare_69 (fun H locs hH hS => ?_)
          refine lv_iload hx hb dX0_prepare_70 (lv_at hl 1 rfl) ?_
          refine lv_aload_n hx hb dX0_prepare_72 rfl (lv_at hl 3 rfl) ?_
          refine x_getk (ci := 0) (C := RX0) (F := TX0) (N := 4) (v := .int x2) hx hb hts uX0 hown hkb hH 0 rfl rfl 1 (by decide) rfl kw_331 (fun _ h9 => h9) dX0_prepare_73 ?_
          refine lv_isub hx hb dX0_prepare_76 ?_
          refine lv_topi (fun v76 ev76 => ?_)
          have tv76 : v76.toInt = p55_6.toInt - x2.toInt := by rw [ev76]; exact sub_i rfl rfl (by omega) (by omega)
          refine lv_aload_n hx hb dX0_prepare_77 rfl (lv_at hl 3 rfl) ?_
          refine x_getk (ci := 0) (C := RX0) (F := TX0) (N := 4) (v := .int x2) hx hb hts uX0 hown hkb hH 0 rfl rfl 1 (by decide) rfl kw_331 (fun _ h9 => h9) dX0_prepare_78 ?_
          refine lv_iand hx hb dX0_prepare_81 ?_
          refine lv_topi (fun v81 ev81 => ?_)
          have tv81 : 0 ≤ v81.toInt ∧ v81.toInt ≤ x2.toInt := by rw [ev81]; exact and_r (by omega)
          refine lv_istore (lv' := [(6, .int v81), (7, .int p55_7), (5, .int v46), (0, .ref a0), (1, .ref a1), (3, .int x3)]) hx hb dX0_prepare_82 hl (by decide) rfl (fun ls hl => ?_)
          obtain ⟨v84, ev84⟩ : ∃ y : Int32, y = p55_7 + 1 := ⟨_, rfl⟩
          have tv84 : v84.toInt = p55_7.toInt + (1) := by rw [ev84]; exact add_i rfl (by decide) (by omega) (by omega)
          refine lv_iinc (v := v84) (lv' := [(7, .int v84), (6, .int v81), (5, .int v46), (0, .ref a0), (1, .ref a1), (3, .int x3)]) hx hb dX0_prepare_84 hl (k := 1) rfl (by rw [ev84]; rfl) (by decide) rfl (fun ls hl => ?_)
          refine lv_goto (tgt := 55) hx hb dX0_prepare_87 (by decide) ?_
          exact ih55 _ (by omega) v84 v81 _ _ _ rfl (by omega) (by omega) (by omega) (by omega) hH hS (lv_sub hl [0, 1, 2, 3, 4, 5] rfl)
    refine lv_istore (lv' := [(7, .int 0), (6, .int 0), (5, .int v46), (0, .ref a0), (1, .ref a1), (3, .int x3)]) hx hb dX0_prepare_53 hl (by decide) rfl (fun ls hl => ?_)
    have z_0 : (0 : Int32).toInt = 0 := by decide
    exact J55 _ 0 0 _ _ _ rfl (by decide) (by decide) (by decide) (by omega) hH hS (lv_sub hl [0, 1, 2, 3, 4, 5] rfl)
  refine lv_icmp_ge (tgt := 38) hx hb dX0_prepare_27 (by decide) (fun c27 => ?_) (fun c27 => ?_)
  · skip
    have fuc27 := full_i (nI nn)
    have fvc27 := full_i v15
    have tc27 := g_le c27
    exact J38 T 0 0 y0 nn j _ _ _ Tgr.rf t_y0 hn (by omega) (by omega) (by omega) (by omega) (by omega) hH hS (lv_sub hl [1, 2, 4] rfl)
  · skip
    have fuc27 := full_i (nI nn)
    have fvc27 := full_i v15
    have tc27 := g_nle c27
    obtain ⟨jz, hz1, hz2⟩ := hob_size x_v112 tv14 tv15
    have hzl := p2_lt hn hz2 (by omega)
    refine lv_aload_n hx hb dX0_prepare_30 rfl (lv_at hl 1 rfl) ?_
    refine lv_iload hx hb dX0_prepare_31 (lv_at hl 0 rfl) ?_
    refine t_newI (N' := (v15.toInt.toNat)) (k := 0) hx hb hts kw_92 hkb hH (ox_map hOX rfl) hS hA (by omega) (by omega) (cp_0 _) (by show 0 + 1 ≤ 1; omega) (by show 0 + (v15.toInt.toNat) ≤ 16384; omega) dX0_prepare_33 (fun v33 T33 H le_T33 t_v33 hH hS => ?_)
    have t_a0 := le_T33.1 _ _ t_a0
    have t_a1 := le_T33.1 _ _ t_a1
    have t_y0 := le_T33.1 _ _ t_y0
    have t_y2 := le_T33.1 _ _ t_y2
    have t_y3 := le_T33.1 _ _ t_y3
    have hO := okO.le le_T33.1 hO
    refine x_putk (ci := 0) (v := .ref v33) (ty := tyX0 0) (C := RX0) (F := TX0) (N := 4) hx hb hts uX0 tyX0 tyX0_ok nmX0 hown hkb hH hS 0 rfl rfl 0 (by decide) kw_330 (fun _ h9 => h9) rfl (tyX0_ok 0 (by decide)) rfl rfl (Nat.le_of_ble_eq_true rfl) dX0_prepare_35 (fun H locs hH hS => ?_)
    have hH : HT D cs A T33 (a0 :: O) ((a0, .inr (0, [.ref v33, .int x2, .ref y2, .ref y3])) :: X) H := hH
    exact J38 T33 (0 + 1) (0 + (v15.toInt.toNat)) v33 (v15.toInt.toNat) jz _ _ _ le_T33 t_v33 hz2 (by omega) (by omega) (by omega) (by omega) (by omega) hH hS (lv_sub hl [1, 2, 4] rfl)
