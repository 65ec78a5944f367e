set_option maxHeartbeats 4000000 in
set_option maxRecDepth 100000 in
theorem s_M_fails (l : Launch) (D : va_G) (cs : CS) (kf : KF) (T : TF) (O : List Nat) (X : va_W) (a0 hg mq : Nat) (x1 : Int32) (o0 : Value) (o1 : Value) (o2 : Value) (y3 : Nat) (y4 : Nat) (o5 : Value) (y6 : Int32) (y7 : Int32) (y8 : Int32) (y9 : Int32) (y10 : Int32) (y11 : Int32) (y12 : Int32) (tl : List Value) (t_a0 : T a0 = some (22, hg, mq)) (b_hg : hg < 90) (l_x1 : 1 ≤ x1.toInt) (u_x1 : x1.toInt ≤ 4) (t_y3 : T y3 = some (1, 900, 0)) (t_y4 : T y4 = some (8, 1302, 0)) (l_y6 : 0 ≤ y6.toInt) (u_y6 : y6.toInt ≤ 900) (l_y7 : 0 ≤ y7.toInt) (u_y7 : y7.toInt ≤ 900) (l_y8 : 0 ≤ y8.toInt) (u_y8 : y8.toInt ≤ 900) (l_y10 : 0 ≤ y10.toInt) (u_y10 : y10.toInt ≤ 999) (hO : okO T (a0 :: O) []) : TK l D cs kf yX12_fails cX12_fails 2 none { frames := 0, cells := 0, slots := 0, locals := 0 } [.ref a0, .int x1] T (a0 :: O) ((a0, .inr (12, o0 :: o1 :: o2 :: (.ref y3) :: (.ref y4) :: o5 :: (.int y6) :: (.int y7) :: (.int y8) :: (.int y9) :: (.int y10) :: (.int y11) :: (.int y12) :: tl)) :: X) (Tv D cs (fun u => ∃ (n0_11 : Int32) (n0_12 : Int32), u = (T, a0 :: O, (a0, .inr (12, o0 :: o1 :: o2 :: (.ref y3) :: (.ref y4) :: o5 :: (.int y6) :: (.int y7) :: (.int y8) :: (.int y9) :: (.int y10) :: (.int n0_11) :: (.int n0_12) :: tl)) :: X) ∧ (NZ n0_11))) := by
  refine tk_of (by decide) (Nat.le_of_ble_eq_true rfl) (fun p e s m below meth c ls A H locs hx hb hr hml hown hts hlocks hnm hkb hH hS hA hOX hks hE hl => ?_)
  have hown : s.vm.findClass RX12 = some m.cls := hown
  have hl : lv_has ls 2 [(0, .ref a0), (1, .int x1)] := hl
  have hOXf := hOX
  refine lv_aload_n hx hb dX12_fails_0 rfl (lv_at hl 0 rfl) ?_
  refine x_getk (ci := 12) (C := RX12) (F := TX12) (N := 36) (v := .int y11) hx hb hts uX12 hown hkb hH 0 rfl rfl 11 (by decide) rfl kw_1234 (fun _ h9 => h9) dX12_fails_1 ?_
  refine lv_if_eq (tgt := 8) hx hb dX12_fails_4 (by decide) (fun c4 => ?_) (fun c4 => ?_)
  · skip
    have tc4 := f_eq (k := 0) (by decide) c4
    refine lv_aload_n hx hb dX12_fails_8 rfl (lv_at hl 0 rfl) ?_
    refine lv_aload_n hx hb dX12_fails_9 rfl (lv_at hl 0 rfl) ?_
    refine x_getk (ci := 12) (C := RX12) (F := TX12) (N := 36) (v := .int y9) hx hb hts uX12 hown hkb hH 0 rfl rfl 9 (by decide) rfl kw_1232 (fun _ h9 => h9) dX12_fails_10 ?_
    refine lv_bipush (v := 23) hx hb dX12_fails_13 (by decide) ?_
    refine lv_icmp_ne (tgt := 22) hx hb dX12_fails_15 (by decide) (fun c15 => ?_) (fun c15 => ?_)
    · skip
      have tc15 := f_ne (k := 23) (by decide) c15
      refine lv_iload_n hx hb dX12_fails_22 rfl (lv_at hl 1 rfl) ?_
      refine x_putk (ci := 12) (v := .int x1) (ty := tyX12 11) (C := RX12) (F := TX12) (N := 36) hx hb hts uX12 tyX12 tyX12_ok nmX12 hown hkb hH hS 0 rfl rfl 11 (by decide) kw_1234 (fun _ h9 => h9) rfl (tyX12_ok 11 (by decide)) rfl rfl (by show 11 < tl.length + 13; omega) dX12_fails_23 (fun H locs hH hS => ?_)
      have hH : HT D cs A T (a0 :: O) ((a0, .inr (12, o0 :: o1 :: o2 :: (.ref y3) :: (.ref y4) :: o5 :: (.int y6) :: (.int y7) :: (.int y8) :: (.int y9) :: (.int y10) :: (.int x1) :: (.int y12) :: tl)) :: X) H := hH
      refine lv_aload_n hx hb dX12_fails_26 rfl (lv_at hl 0 rfl) ?_
      refine lv_aload_n hx hb dX12_fails_27 rfl (lv_at hl 0 rfl) ?_
      refine x_getk (ci := 12) (C := RX12) (F := TX12) (N := 36) (v := .int y6) hx hb hts uX12 hown hkb hH 0 rfl rfl 6 (by decide) rfl kw_1229 (fun _ h9 => h9) dX12_fails_28 ?_
      refine x_putk (ci := 12) (v := .int y6) (ty := tyX12 12) (C := RX12) (F := TX12) (N := 36) hx hb hts uX12 tyX12 tyX12_ok nmX12 hown hkb hH hS 0 rfl rfl 12 (by decide) kw_1235 (fun _ h9 => h9) rfl (tyX12_ok 12 (by decide)) rfl rfl (by show 12 < tl.length + 13; omega) dX12_fails_31 (fun H locs hH hS => ?_)
      have hH : HT D cs A T (a0 :: O) ((a0, .inr (12, o0 :: o1 :: o2 :: (.ref y3) :: (.ref y4) :: o5 :: (.int y6) :: (.int y7) :: (.int y8) :: (.int y9) :: (.int y10) :: (.int x1) :: (.int y6) :: tl)) :: X) H := hH
      exact te_v hx hb hr hlocks hH hS (⟨x1, y6, rfl, (by unfold NZ; omega)⟩) dX12_fails_34
    · skip
      have tc15 := f_eq (k := 23) (by decide) c15
      refine lv_iconst (v := 1) hx hb dX12_fails_18 (by decide) ?_
      refine lv_goto (tgt := 23) hx hb dX12_fails_19 (by decide) ?_
      refine x_putk (ci := 12) (v := .int 1) (ty := tyX12 11) (C := RX12) (F := TX12) (N := 36) hx hb hts uX12 tyX12 tyX12_ok nmX12 hown hkb hH hS 0 rfl rfl 11 (by decide) kw_1234 (fun _ h9 => h9) rfl (tyX12_ok 11 (by decide)) rfl rfl (by show 11 < tl.length + 13; omega) dX12_fails_23 (fun H locs hH hS => ?_)
      have hH : HT D cs A T (a0 :: O) ((a0, .inr (12, o0 :: o1 :: o2 :: (.ref y3) :: (.ref y4) :: o5 :: (.int y6) :: (.int y7) :: (.int y8) :: (.int y9) :: (.int y10) :: (.int 1) :: (.int y12) :: tl)) :: X) H := hH
      refine lv_aload_n hx hb dX12_fails_26 rfl (lv_at hl 0 rfl) ?_
      refine lv_aload_n hx hb dX12_fails_27 rfl (lv_at hl 0 rfl) ?_
      refine x_getk (ci := 12) (C := RX12) (F := TX12) (N := 36) (v := .int y6) hx hb hts uX12 hown hkb hH 0 rfl rfl 6 (by decide) rfl kw_1229 (fun _ h9 => h9) dX12_fails_28 ?_
      refine x_putk (ci := 12) (v := .int y6) (ty := tyX12 12) (C := RX12) (F := TX12) (N := 36) hx hb hts uX12 tyX12 tyX12_ok nmX12 hown hkb hH hS 0 rfl rfl 12 (by decide) kw_1235 (fun _ h9 => h9) rfl (tyX12_ok 12 (by decide)) rfl rfl (by show 12 < tl.length + 13; omega) dX12_fails_31 (fun H locs hH hS => ?_)
      have hH : HT D cs A T (a0 :: O) ((a0, .inr (12, o0 :: o1 :: o2 :: (.ref y3) :: (.ref y4) :: o5 :: (.int y6) :: (.int y7) :: (.int y8) :: (.int y9) :: (.int y10) :: (.int 1) :: (.int y6) :: tl)) :: X) H := hH
      have z9_1 : (1 : Int32).toInt = 1 := by decide
      have z9_1 : (1 : Int32).toInt = 1 := by decide
      exact te_v hx hb hr hlocks hH hS (⟨(1 : Int32), y6, rfl, (by unfold NZ; omega)⟩) dX12_fails_34
  · skip
    have tc4 := f_ne (k := 0) (by decide) c4
    exact te_v hx hb hr hlocks hH hS (⟨y11, y12, rfl, (by unfold NZ; omega)⟩) dX12_fails_7
set_option maxHeartbeats 4000000 in
set_option maxRecDepth 100000 in
theorem s_M_is (l : Launch) (D : va_G) (cs : CS) (kf : KF) (T : TF) (O : List Nat) (X : va_W) (a0 hg mq : Nat) (x1 : Int32) (o0 : Value) (o1 : Value) (o2 : Value) (y3 : Nat) (y4 : Nat) (o5 : Value) (y6 : Int32) (y7 : Int32) (y8 : Int32) (y9 : Int32) (y10 : Int32) (y11 : Int32) (y12 : Int32) (tl : List Value) (t_a0 : T a0 = some (22, hg, mq)) (b_hg : hg < 90) (t_y3 : T y3 = some (1, 900, 0)) (t_y4 : T y4 = some (8, 1302, 0)) (l_y6 : 0 ≤ y6.toInt) (u_y6 : y6.toInt ≤ 900) (l_y7 : 0 ≤ y7.toInt) (u_y7 : y7.toInt ≤ 900) (l_y8 : 0 ≤ y8.toInt) (u_y8 : y8.toInt ≤ 900) (l_y10 : 0 ≤ y10.toInt) (u_y10 : y10.toInt ≤ 999) (hO : okO T (a0 :: O) []) : TK l D cs kf yX12_is cX12_is 2 (some (.boolean)) { frames := 0, cells := 0, slots := 0, locals := 0 } [.ref a0, .int x1] T (a0 :: O) ((a0, .inr (12, o0 :: o1 :: o2 :: (.ref y3) :: (.ref y4) :: o5 :: (.int y6) :: (.int y7) :: (.int y8) :: (.int y9) :: (.int y10) :: (.int y11) :: (.int y12) :: tl)) :: X) (Ti D cs (fun r u => u = (T, a0 :: O, (a0, .inr (12, o0 :: o1 :: o2 :: (.ref y3) :: (.ref y4) :: o5 :: (.int y6) :: (.int y7) :: (.int y8) :: (.int y9) :: (.int y10) :: (.int y11) :: (.int y12) :: tl)) :: X) ∧ 0 ≤ r.toInt ∧ r.toInt ≤ 1 ∧ (r.toInt = 0 ∨ (y11.toInt = 0 ∧ y9.toInt = x1.toInt)))) := by
  refine tk_of (by decide) (Nat.le_of_ble_eq_true rfl) (fun p e s m below meth c ls A H locs hx hb hr hml hown hts hlocks hnm hkb hH hS hA hOX hks hE hl => ?_)
  have hown : s.vm.findClass RX12 = some m.cls := hown
  have hl : lv_has ls 2 [(0, .ref a0), (1, .int x1)] := hl
  have hOXf := hOX
  refine lv_aload_n hx hb dX12_is_0 rfl (lv_at hl 0 rfl) ?_
  refine x_getk (ci := 12) (C := RX12) (F := TX12) (N := 36) (v := .int y11) hx hb hts uX12 hown hkb hH 0 rfl rfl 11 (by decide) rfl kw_1234 (fun _ h9 => h9) dX12_is_1 ?_
  refine lv_if_ne (tgt := 19) hx hb dX12_is_4 (by decide) (fun c4 => ?_) (fun c4 => ?_)
  · skip
    have tc4 := f_ne (k := 0) (by decide) c4
    refine lv_iconst (v := 0) hx hb dX12_is_19 (by decide) ?_
    have z9_0 : (0 : Int32).toInt = 0 := by decide
    exact te_z hx hb hr hlocks (by rfl) hH hS (⟨rfl, by decide, by decide, by omega⟩) dX12_is_20
  · skip
    have tc4 := f_eq (k := 0) (by decide) c4
    refine lv_aload_n hx hb dX12_is_7 rfl (lv_at hl 0 rfl) ?_
    refine x_getk (ci := 12) (C := RX12) (F := TX12) (N := 36) (v := .int y9) hx hb hts uX12 hown hkb hH 0 rfl rfl 9 (by decide) rfl kw_1232 (fun _ h9 => h9) dX12_is_8 ?_
    refine lv_iload_n hx hb dX12_is_11 rfl (lv_at hl 1 rfl) ?_
    refine lv_icmp_ne (tgt := 19) hx hb dX12_is_12 (by decide) (fun c12 => ?_) (fun c12 => ?_)
    · skip
      have fuc12 := full_i y9
      have fvc12 := full_i x1
      have tc12 := g_ne c12
      refine lv_iconst (v := 0) hx hb dX12_is_19 (by decide) ?_
      have z9_0 : (0 : Int32).toInt = 0 := by decide
      exact te_z hx hb hr hlocks (by rfl) hH hS (⟨rfl, by decide, by decide, by omega⟩) dX12_is_20
    · skip
      have fuc12 := full_i y9
      have fvc12 := full_i x1
      have tc12 := g_eq c12
      refine lv_iconst (v := 1) hx hb dX12_is_15 (by decide) ?_
      refine lv_goto (tgt := 20) hx hb dX12_is_16 (by decide) ?_
      have z9_1 : (1 : Int32).toInt = 1 := by decide
      exact te_z hx hb hr hlocks (by rfl) hH hS (⟨rfl, by decide, by decide, by omega⟩) dX12_is_20
set_option maxHeartbeats 4000000 in
set_option maxRecDepth 100000 in
theorem s_M_eats (l : Launch) (D : va_G) (cs : CS) (kf : KF) (T : TF) (O : List Nat) (X : va_W) (a0 hg mq : Nat) (x1 : Int32) (o0 : Value) (o1 : Value) (o2 : Value) (y3 : Nat) (y4 : Nat) (o5 : Value) (y6 : Int32) (y7 : Int32) (y8 : Int32) (y9 : Int32) (y10 : Int32) (y11 : Int32) (y12 : Int32) (tl : List Value) (t_a0 : T a0 = some (22, hg, mq)) (b_hg : hg < 90) (t_y3 : T y3 = some (1, 900, 0)) (t_y4 : T y4 = some (8, 1302, 0)) (l_y6 : 0 ≤ y6.toInt) (u_y6 : y6.toInt ≤ 900) (l_y7 : 0 ≤ y7.toInt) (u_y7 : y7.toInt ≤ 900) (l_y8 : 0 ≤ y8.toInt) (u_y8 : y8.toInt ≤ 900) (l_y10 : 0 ≤ y10.toInt) (u_y10 : y10.toInt ≤ 999) (k1 : y6.toInt ≤ y7.toInt) (k2 : y7.toInt ≤ y8.toInt) (k3 : TK3 y9 y6 y7) (k4 : x1.toInt ≠ 22) (hO : okO T (a0 :: O) [1]) : TK l D cs kf yX12_eats cX12_eats 2 (some (.boolean)) { frames := 6, cells := 0, slots := 0, locals := 129 } [.ref a0, .int x1] T (a0 :: O) ((a0, .inr (12, o0 :: o1 :: o2 :: (.ref y3) :: (.ref y4) :: o5 :: (.int y6) :: (.int y7) :: (.int y8) :: (.int y9) :: (.int y10) :: (.int y11) :: (.int y12) :: tl)) :: X) (Ti D cs (fun r u => ∃ (n0_6 : Int32) (n0_7 : Int32) (n0_9 : Int32) (n0_10 : Int32), u = (T, a0 :: O, (a0, .inr (12, o0 :: o1 :: o2 :: (.ref y3) :: (.ref y4) :: o5 :: (.int n0_6) :: (.int n0_7) :: (.int y8) :: (.int n0_9) :: (.int n0_10) :: (.int y11) :: (.int y12) :: tl)) :: X) ∧ 0 ≤ r.toInt ∧ r.toInt ≤ 1 ∧ (y6.toInt ≤ n0_6.toInt) ∧ (n0_6.toInt ≤ n0_7.toInt) ∧ (n0_7.toInt ≤ y8.toInt) ∧ (TK3 n0_9 n0_6 n0_7) ∧ (0 ≤ n0_10.toInt) ∧ (n0_10.toInt ≤ 999) ∧ (r.toInt = 0 ∨ (y11.toInt = 0 ∧ y6.toInt + 1 ≤ n0_6.toInt)))) := by
  refine tk_of (by decide) (Nat.le_of_ble_eq_true rfl) (fun p e s m below meth c ls A H locs hx hb hr hml hown hts hlocks hnm hkb hH hS hA hOX hks hE hl => ?_)
  have hown : s.vm.findClass RX12 = some m.cls := hown
  have hl : lv_has ls 2 [(0, .ref a0), (1, .int x1)] := hl
  have hOXf := hOX
  refine lv_aload_n hx hb dX12_eats_0 rfl (lv_at hl 0 rfl) ?_
  refine lv_iload_n hx hb dX12_eats_1 rfl (lv_at hl 1 rfl) ?_
  refine tk_i hH hS hA (tr_V (n := 1) (As := [.int x1]) hx hb hml hown hts hkb hH (ox_map hOX rfl) hks hE hS hA (s_M_is l D cs kf T O X a0 hg mq x1 o0 o1 o2 y3 y4 o5 y6 y7 y8 y9 y10 y11 y12 tl t_a0 b_hg t_y3 t_y4 (by omega) (by omega) (by omega) (by omega) (by omega) (by omega) (by omega) (by omega) (hO.sub (by decide))) kw_1370 kw_1372 ks_47 kw_13 kw_1373 (by decide +kernel) ⟨Nat.le_of_ble_eq_true rfl, Nat.le_of_ble_eq_true rfl⟩ (x_recv (ci := 12) hkb hH 0 rfl rfl) rfl rfl hl.1 (Nat.le_of_ble_eq_true rfl) dX12_eats_2 ⟨Nat.le_of_ble_eq_true rfl, Nat.le_of_ble_eq_true rfl⟩) (fun v2 u H locs hz9 hH hS => ?_)
  obtain ⟨rfl, l_v2, u_v2, x_v20⟩ := hz9
  have hH : HT D cs A T (a0 :: O) ((a0, .inr (12, o0 :: o1 :: o2 :: (.ref y3) :: (.ref y4) :: o5 :: (.int y6) :: (.int y7) :: (.int y8) :: (.int y9) :: (.int y10) :: (.int y11) :: (.int y12) :: tl)) :: X) H := hH
  refine W.widen (k := 0) (n := 0) (Nat.le_of_ble_eq_true rfl) (Nat.le_of_ble_eq_true rfl) ?_
  refine lv_if_ne (tgt := 10) hx hb dX12_eats_5 (by decide) (fun c5 => ?_) (fun c5 => ?_)
  · skip
    have tc5 := f_ne (k := 0) (by decide) c5
    replace x_v20 := x_v20.resolve_left tc5
    have hk3 := k3 (by omega)
    refine lv_aload_n hx hb dX12_eats_10 rfl (lv_at hl 0 rfl) ?_
    refine tk_v hH hS hA (tr_V (n := 0) (As := []) hx hb hml hown hts hkb hH (ox_map hOX rfl) hks hE hS hA (s_M_next l D cs kf T O X a0 hg mq o0 o1 o2 y3 y4 o5 y6 y7 y8 y9 y10 y11 y12 tl t_a0 b_hg t_y3 t_y4 (by omega) (by omega) (by omega) (by omega) (by omega) (by omega) (by omega) (by omega) (by omega) (hO.sub (by decide))) kw_1344 kw_1346 ks_43 kw_13 kw_1347 (by decide +kernel) ⟨Nat.le_of_ble_eq_true rfl, Nat.le_of_ble_eq_true rfl⟩ (x_recv (ci := 12) hkb hH 0 rfl rfl) rfl rfl hl.1 (Nat.le_of_ble_eq_true rfl) dX12_eats_11 ⟨Nat.le_of_ble_eq_true rfl, Nat.le_of_ble_eq_true rfl⟩) (fun u H locs hz9 hH hS => ?_)
    obtain ⟨n11_0_6, n11_0_7, n11_0_9, n11_0_10, rfl, x_v110, x_v111, x_v112, x_v113, x_v114, x_v115⟩ := hz9
    have hH : HT D cs A T (a0 :: O) ((a0, .inr (12, o0 :: o1 :: o2 :: (.ref y3) :: (.ref y4) :: o5 :: (.int n11_0_6) :: (.int n11_0_7) :: (.int y8) :: (.int n11_0_9) :: (.int n11_0_10) :: (.int y11) :: (.int y12) :: tl)) :: X) H := hH
    refine W.widen (k := 0) (n := 0) (Nat.le_of_ble_eq_true rfl) (Nat.le_of_ble_eq_true rfl) ?_
    refine lv_iconst (v := 1) hx hb dX12_eats_14 (by decide) ?_
    have z9_1 : (1 : Int32).toInt = 1 := by decide
    exact te_z hx hb hr hlocks (by rfl) hH hS (⟨n11_0_6, n11_0_7, n11_0_9, n11_0_10, rfl, by decide, by decide, by omega, by omega, by omega, x_v113, by omega, by omega, by omega⟩) dX12_eats_15
  · skip
    have tc5 := f_eq (k := 0) (by decide) c5
    clear x_v20
    refine lv_iconst (v := 0) hx hb dX12_eats_8 (by decide) ?_
    have z9_0 : (0 : Int32).toInt = 0 := by decide
    exact te_z hx hb hr hlocks (by rfl) hH hS (⟨y6, y7, y9, y10, rfl, by decide, by decide, by omega, by omega, by omega, k3, by omega, by omega, by omega⟩) dX12_eats_9
set_option maxHeartbeats 4000000 in
set_option maxRecDepth 100000 in
theorem s_M_takes (l : Launch) (D : va_G) (cs : CS) (kf : KF) (T : TF) (O : List Nat) (X : va_W) (a0 hg mq : Nat) (x1 : Int32) (x2 : Int32) (o0 : Value) (o1 : Value) (o2 : Value) (y3 : Nat) (y4 : Nat) (o5 : Value) (y6 : Int32) (y7 : Int32) (y8 : Int32) (y9 : Int32) (y10 : Int32) (y11 : Int32) (y12 : Int32) (tl : List Value) (t_a0 : T a0 = some (22, hg, mq)) (b_hg : hg < 90) (t_y3 : T y3 = some (1, 900, 0)) (t_y4 : T y4 = some (8, 1302, 0)) (l_y6 : 0 ≤ y6.toInt) (u_y6 : y6.toInt ≤ 900) (l_y7 : 0 ≤ y7.toInt) (u_y7 : y7.toInt ≤ 900) (l_y8 : 0 ≤ y8.toInt) (u_y8 : y8.toInt ≤ 900) (l_y10 : 0 ≤ y10.toInt) (u_y10 : y10.toInt ≤ 999) (k1 : y6.toInt ≤ y7.toInt) (k2 : y7.toInt ≤ y8.toInt) (k3 : TK3 y9 y6 y7) (hO : okO T (a0 :: O) [1]) : TK l D cs kf yX12_takes cX12_takes 4 (some (.int)) { frames := 6, cells := 0, slots := 0, locals := 129 } [.ref a0, .int x1, .int x2] T (a0 :: O) ((a0, .inr (12, o0 :: o1 :: o2 :: (.ref y3) :: (.ref y4) :: o5 :: (.int y6) :: (.int y7) :: (.int y8) :: (.int y9) :: (.int y10) :: (.int y11) :: (.int y12) :: tl)) :: X) (Ti D cs (fun r u => ∃ (n0_6 : Int32) (n0_7 : Int32) (n0_9 : Int32) (n0_10 : Int32) (n0_11 : Int32) (n0_12 : Int32), u = (T, a0 :: O, (a0, .inr (12, o0 :: o1 :: o2 :: (.ref y3) :: (.ref y4) :: o5 :: (.int n0_6) :: (.int n0_7) :: (.int y8) :: (.int n0_9) :: (.int n0_10) :: (.int n0_11) :: (.int n0_12) :: tl)) :: X) ∧ 0 ≤ r.toInt ∧ r.toInt ≤ 999 ∧ (y6.toInt ≤ n0_6.toInt) ∧ (n0_6.toInt ≤ n0_7.toInt) ∧ (n0_7.toInt ≤ y8.toInt) ∧ (TK3 n0_9 n0_6 n0_7) ∧ (0 ≤ n0_10.toInt) ∧ (n0_10.toInt ≤ 999) ∧ (TKN y11 n0_11 r x1 x2 y6 n0_6))) := by
  refine tk_of (by decide) (Nat.le_of_ble_eq_true rfl) (fun p e s m below meth c ls A H locs hx hb hr hml hown hts hlocks hnm hkb hH hS hA hOX hks hE hl => ?_)
  have hown : s.vm.findClass RX12 = some m.cls := hown
  have hl : lv_has ls 4 [(0, .ref a0), (1, .int x1), (2, .int x2)] := hl
  have hOXf := hOX
  refine lv_aload_n hx hb dX12_takes_0 rfl (lv_at hl 0 rfl) ?_
  refine lv_bipush (v := 21) hx hb dX12_takes_1 (by decide) ?_
  have z9_21 : (21 : Int32).toInt = 21 := by decide
  refine tk_i hH hS hA (tr_V (n := 1) (As := [.int 21]) hx hb hml hown hts hkb hH (ox_map hOX rfl) hks hE hS hA (s_M_is l D cs kf T O X a0 hg mq (21) o0 o1 o2 y3 y4 o5 y6 y7 y8 y9 y10 y11 y12 tl t_a0 b_hg t_y3 t_y4 (by omega) (by omega) (by omega) (by omega) (by omega) (by omega) (by omega) (by omega) (hO.sub (by decide))) kw_1370 kw_1372 ks_47 kw_13 kw_1373 (by decide +kernel) ⟨Nat.le_of_ble_eq_true rfl, Nat.le_of_ble_eq_true rfl⟩ (x_recv (ci := 12) hkb hH 0 rfl rfl) rfl rfl hl.1 (Nat.le_of_ble_eq_true rfl) dX12_takes_3 ⟨Nat.le_of_ble_eq_true rfl, Nat.le_of_ble_eq_true rfl⟩) (fun v3 u H locs hz9 hH hS => ?_)
  obtain ⟨rfl, l_v3, u_v3, x_v30⟩ := hz9
  have hH : HT D cs A T (a0 :: O) ((a0, .inr (12, o0 :: o1 :: o2 :: (.ref y3) :: (.ref y4) :: o5 :: (.int y6) :: (.int y7) :: (.int y8) :: (.int y9) :: (.int y10) :: (.int y11) :: (.int y12) :: tl)) :: X) H := hH
  refine W.widen (k := 0) (n := 0) (Nat.le_of_ble_eq_true rfl) (Nat.le_of_ble_eq_true rfl) ?_
  refine lv_if_ne (tgt := 17) hx hb dX12_takes_6 (by decide) (fun c6 => ?_) (fun c6 => ?_)
  · skip
    have tc6 := f_ne (k := 0) (by decide) c6
    replace x_v30 := x_v30.resolve_left tc6
    have hk3 := k3 (by omega)
    refine lv_aload_n hx hb dX12_takes_17 rfl (lv_at hl 0 rfl) ?_
    refine x_getk (ci := 12) (C := RX12) (F := TX12) (N := 36) (v := .int y10) hx hb hts uX12 hown hkb hH 0 rfl rfl 10 (by decide) rfl kw_1233 (fun _ h9 => h9) dX12_takes_18 ?_
    refine lv_i2l hx hb dX12_takes_21 rfl ?_
    refine lv_iload_n hx hb dX12_takes_22 rfl (lv_at hl 1 rfl) ?_
    refine lv_i2l hx hb dX12_takes_23 rfl ?_
    refine lv_iload_n hx hb dX12_takes_24 rfl (lv_at hl 2 rfl) ?_
    refine lv_i2l hx hb dX12_takes_25 rfl ?_
    refine tk_i hH hS hA (tr_S (n := 3) (As := [.long y10.toInt64, .long x1.toInt64, .long x2.toInt64]) hx hb hml hown hts hkb hH (ox_map hOX rfl) hks hE hS hA (s_M_within l D cs kf T (a0 :: O) ((a0, .inr (12, o0 :: o1 :: o2 :: (.ref y3) :: (.ref y4) :: o5 :: (.int y6) :: (.int y7) :: (.int y8) :: (.int y9) :: (.int y10) :: (.int y11) :: (.int y12) :: tl)) :: X) y10.toInt64 x1.toInt64 x2.toInt64  (hO.sub (by decide))) kw_1341 kw_1342 kw_13 kw_1343 (by decide +kernel) ⟨Nat.le_of_ble_eq_true rfl, Nat.le_of_ble_eq_true rfl⟩ rfl rfl hl.1 (Nat.le_of_ble_eq_true rfl) dX12_takes_26 ⟨Nat.le_of_ble_eq_true rfl, Nat.le_of_ble_eq_true rfl⟩) (fun v26 u H locs hz9 hH hS => ?_)
    obtain ⟨rfl, l_v26, u_v26, x_v260, x_v261⟩ := hz9
    simp only [Int32.toInt_toInt64] at x_v260 x_v261
    have hH : HT D cs A T (a0 :: O) ((a0, .inr (12, o0 :: o1 :: o2 :: (.ref y3) :: (.ref y4) :: o5 :: (.int y6) :: (.int y7) :: (.int y8) :: (.int y9) :: (.int y10) :: (.int y11) :: (.int y12) :: tl)) :: X) H := hH
    refine W.widen (k := 0) (n := 0) (Nat.le_of_ble_eq_true rfl) (Nat.le_of_ble_eq_true rfl) ?_
    refine lv_if_ne (tgt := 37) hx hb dX12_takes_29 (by decide) (fun c29 => ?_) (fun c29 => ?_)
    · skip
      have tc29 := f_ne (k := 0) (by decide) c29
      replace x_v260 := x_v260.resolve_left tc29
      clear x_v261
      refine lv_aload_n hx hb dX12_takes_37 rfl (lv_at hl 0 rfl) ?_
      refine x_getk (ci := 12) (C := RX12) (F := TX12) (N := 36) (v := .int y10) hx hb hts uX12 hown hkb hH 0 rfl rfl 10 (by decide) rfl kw_1233 (fun _ h9 => h9) dX12_takes_38 ?_
      refine lv_istore_n (lv' := [(3, .int y10), (0, .ref a0), (1, .int x1), (2, .int x2)]) hx hb dX12_takes_41 rfl hl (by decide) rfl (fun ls hl => ?_)
      refine lv_aload_n hx hb dX12_takes_42 rfl (lv_at hl 1 rfl) ?_
      refine x_getk (ci := 12) (C := RX12) (F := TX12) (N := 36) (v := .int y11) hx hb hts uX12 hown hkb hH 0 rfl rfl 11 (by decide) rfl kw_1234 (fun _ h9 => h9) dX12_takes_43 ?_
      refine lv_if_ne (tgt := 53) hx hb dX12_takes_46 (by decide) (fun c46 => ?_) (fun c46 => ?_)
      · skip
        have tc46 := f_ne (k := 0) (by decide) c46
        refine lv_iload_n hx hb dX12_takes_53 rfl (lv_at hl 0 rfl) ?_
        exact te_i hx hb hr hlocks hH hS (⟨y6, y7, y9, y10, y11, y12, rfl, by omega, by omega, by omega, by omega, by omega, k3, by omega, by omega, (by first | (intro q; refine ⟨?_, ?_, ?_, ?_⟩ <;> omega))⟩) dX12_takes_54
      · skip
        have tc46 := f_eq (k := 0) (by decide) c46
        refine lv_aload_n hx hb dX12_takes_49 rfl (lv_at hl 1 rfl) ?_
        refine tk_v hH hS hA (tr_V (n := 0) (As := []) hx hb hml hown hts hkb hH (ox_map hOX rfl) hks hE hS hA (s_M_next l D cs kf T O X a0 hg mq o0 o1 o2 y3 y4 o5 y6 y7 y8 y9 y10 y11 y12 tl t_a0 b_hg t_y3 t_y4 (by omega) (by omega) (by omega) (by omega) (by omega) (by omega) (by omega) (by omega) (by omega) (hO.sub (by decide))) kw_1344 kw_1346 ks_43 kw_13 kw_1347 (by decide +kernel) ⟨Nat.le_of_ble_eq_true rfl, Nat.le_of_ble_eq_true rfl⟩ (x_recv (ci := 12) hkb hH 0 rfl rfl) rfl rfl hl.1 (Nat.le_of_ble_eq_true rfl) dX12_takes_50 ⟨Nat.le_of_ble_eq_true rfl, Nat.le_of_ble_eq_true rfl⟩) (fun u H locs hz9 hH hS => ?_)
        obtain ⟨n50_0_6, n50_0_7, n50_0_9, n50_0_10, rfl, x_v500, x_v501, x_v502, x_v503, x_v504, x_v505⟩ := hz9
        have hH : HT D cs A T (a0 :: O) ((a0, .inr (12, o0 :: o1 :: o2 :: (.ref y3) :: (.ref y4) :: o5 :: (.int n50_0_6) :: (.int n50_0_7) :: (.int y8) :: (.int n50_0_9) :: (.int n50_0_10) :: (.int y11) :: (.int y12) :: tl)) :: X) H := hH
        refine W.widen (k := 0) (n := 0) (Nat.le_of_ble_eq_true rfl) (Nat.le_of_ble_eq_true rfl) ?_
        refine lv_iload_n hx hb dX12_takes_53 rfl (lv_at hl 0 rfl) ?_
        exact te_i hx hb hr hlocks hH hS (⟨n50_0_6, n50_0_7, n50_0_9, n50_0_10, y11, y12, rfl, by omega, by omega, by omega, by omega, by omega, x_v503, by omega, by omega, (by first | (intro q; refine ⟨?_, ?_, ?_, ?_⟩ <;> omega))⟩) dX12_takes_54
    · skip
      have tc29 := f_eq (k := 0) (by decide) c29
      clear x_v260
      replace x_v261 := x_v261.resolve_left (fun q9 => q9 tc29)
      refine lv_aload_n hx hb dX12_takes_32 rfl (lv_at hl 0 rfl) ?_
      refine lv_iconst (v := 3) hx hb dX12_takes_33 (by decide) ?_
      have z9_3 : (3 : Int32).toInt = 3 := by decide
      refine tk_v hH hS hA (tr_V (n := 1) (As := [.int 3]) hx hb hml hown hts hkb hH (ox_map hOX rfl) hks hE hS hA (s_M_fails l D cs kf T O X a0 hg mq (3) o0 o1 o2 y3 y4 o5 y6 y7 y8 y9 y10 y11 y12 tl t_a0 b_hg (by decide) (by decide) t_y3 t_y4 (by omega) (by omega) (by omega) (by omega) (by omega) (by omega) (by omega) (by omega) (hO.sub (by decide))) kw_1378 kw_1380 ks_49 kw_13 kw_1381 (by decide +kernel) ⟨Nat.le_of_ble_eq_true rfl, Nat.le_of_ble_eq_true rfl⟩ (x_recv (ci := 12) hkb hH 0 rfl rfl) rfl rfl hl.1 (Nat.le_of_ble_eq_true rfl) dX12_takes_34 ⟨Nat.le_of_ble_eq_true rfl, Nat.le_of_ble_eq_true rfl⟩) (fun u H locs hz9 hH hS => ?_)
      obtain ⟨n34_0_11, n34_0_12, rfl, x_v340⟩ := hz9
      have hH : HT D cs A T (a0 :: O) ((a0, .inr (12, o0 :: o1 :: o2 :: (.ref y3) :: (.ref y4) :: o5 :: (.int y6) :: (.int y7) :: (.int y8) :: (.int y9) :: (.int y10) :: (.int n34_0_11) :: (.int n34_0_12) :: tl)) :: X) H := hH
      refine W.widen (k := 0) (n := 0) (Nat.le_of_ble_eq_true rfl) (Nat.le_of_ble_eq_true rfl) ?_
      refine lv_aload_n hx hb dX12_takes_37 rfl (lv_at hl 0 rfl) ?_
      refine x_getk (ci := 12) (C := RX12) (F := TX12) (N := 36) (v := .int y10) hx hb hts uX12 hown hkb hH 0 rfl rfl 10 (by decide) rfl kw_1233 (fun _ h9 => h9) dX12_takes_38 ?_
      refine lv_istore_n (lv' := [(3, .int y10), (0, .ref a0), (1, .int x1), (2, .int x2)]) hx hb dX12_takes_41 rfl hl (by decide) rfl (fun ls hl => ?_)
      refine lv_aload_n hx hb dX12_takes_42 rfl (lv_at hl 1 rfl) ?_
      refine x_getk (ci := 12) (C := RX12) (F := TX12) (N := 36) (v := .int n34_0_11) hx hb hts uX12 hown hkb hH 0 rfl rfl 11 (by decide) rfl kw_1234 (fun _ h9 => h9) dX12_takes_43 ?_
      refine lv_if_ne (tgt := 53) hx hb dX12_takes_46 (by decide) (fun c46 => ?_) (fun c46 => ?_)
      · skip
        have tc46 := f_ne (k := 0) (by decide) c46
        refine lv_iload_n hx hb dX12_takes_53 rfl (lv_at hl 0 rfl) ?_
        exact te_i hx hb hr hlocks hH hS (⟨y6, y7, y9, y10, n34_0_11, n34_0_12, rfl, by omega, by omega, by omega, by omega, by omega, k3, by omega, by omega, (by first | exact (fun q => absurd q x_v340) | (intro q; refine ⟨?_, ?_, ?_, ?_⟩ <;> omega))⟩) dX12_takes_54
      · skip
        have tc46 := f_eq (k := 0) (by decide) c46
        refine lv_aload_n hx hb dX12_takes_49 rfl (lv_at hl 1 rfl) ?_
        refine tk_v hH hS hA (tr_V (n := 0) (As := []) hx hb hml hown hts hkb hH (ox_map hOX rfl) hks hE hS hA (s_M_next l D cs kf T O X a0 hg mq o0 o1 o2 y3 y4 o5 y6 y7 y8 y9 y10 n34_0_11 n34_0_12 tl t_a0 b_hg t_y3 t_y4 (by omega) (by omega) (by omega) (by omega) (by omega) (by omega) (by omega) (by omega) (by omega) (hO.sub (by decide))) kw_1344 kw_1346 ks_43 kw_13 kw_1347 (by decide +kernel) ⟨Nat.le_of_ble_eq_true rfl, Nat.le_of_ble_eq_true rfl⟩ (x_recv (ci := 12) hkb hH 0 rfl rfl) rfl rfl hl.1 (Nat.le_of_ble_eq_true rfl) dX12_takes_50 ⟨Nat.le_of_ble_eq_true rfl, Nat.le_of_ble_eq_true rfl⟩) (fun u H locs hz9 hH hS => ?_)
        obtain ⟨n50_0_6, n50_0_7, n50_0_9, n50_0_10, rfl, x_v500, x_v501, x_v502, x_v503, x_v504, x_v505⟩ := hz9
        have hH : HT D cs A T (a0 :: O) ((a0, .inr (12, o0 :: o1 :: o2 :: (.ref y3) :: (.ref y4) :: o5 :: (.int n50_0_6) :: (.int n50_0_7) :: (.int y8) :: (.int n50_0_9) :: (.int n50_0_10) :: (.int n34_0_11) :: (.int n34_0_12) :: tl)) :: X) H := hH
        refine W.widen (k := 0) (n := 0) (Nat.le_of_ble_eq_true rfl) (Nat.le_of_ble_eq_true rfl) ?_
        refine lv_iload_n hx hb dX12_takes_53 rfl (lv_at hl 0 rfl) ?_
        exact te_i hx hb hr hlocks hH hS (⟨n50_0_6, n50_0_7, n50_0_9, n50_0_10, n34_0_11, n34_0_12, rfl, by omega, by omega, by omega, by omega, by omega, x_v503, by omega, by omega, (by first | exact (fun q => absurd q x_v340) | (intro q; refine ⟨?_, ?_, ?_, ?_⟩ <;> omega))⟩) dX12_takes_54
  · skip
    have tc6 := f_eq (k := 0) (by decide) c6
    clear x_v30
    refine lv_aload_n hx hb dX12_takes_9 rfl (lv_at hl 0 rfl) ?_
    refine lv_iconst (v := 2) hx hb dX12_takes_10 (by decide) ?_
    have z9_2 : (2 : Int32).toInt = 2 := by decide
    refine tk_v hH hS hA (tr_V (n := 1) (As := [.int 2]) hx hb hml hown hts hkb hH (ox_map hOX rfl) hks hE hS hA (s_M_fails l D cs kf T O X a0 hg mq (2) o0 o1 o2 y3 y4 o5 y6 y7 y8 y9 y10 y11 y12 tl t_a0 b_hg (by decide) (by decide) t_y3 t_y4 (by omega) (by omega) (by omega) (by omega) (by omega) (by omega) (by omega) (by omega) (hO.sub (by decide))) kw_1378 kw_1380 ks_49 kw_13 kw_1381 (by decide +kernel) ⟨Nat.le_of_ble_eq_true rfl, Nat.le_of_ble_eq_true rfl⟩ (x_recv (ci := 12) hkb hH 0 rfl rfl) rfl rfl hl.1 (Nat.le_of_ble_eq_true rfl) dX12_takes_11 ⟨Nat.le_of_ble_eq_true rfl, Nat.le_of_ble_eq_true rfl⟩) (fun u H locs hz9 hH hS => ?_)
    obtain ⟨n11_0_11, n11_0_12, rfl, x_v110⟩ := hz9
    have hH : HT D cs A T (a0 :: O) ((a0, .inr (12, o0 :: o1 :: o2 :: (.ref y3) :: (.ref y4) :: o5 :: (.int y6) :: (.int y7) :: (.int y8) :: (.int y9) :: (.int y10) :: (.int n11_0_11) :: (.int n11_0_12) :: tl)) :: X) H := hH
    refine W.widen (k := 0) (n := 0) (Nat.le_of_ble_eq_true rfl) (Nat.le_of_ble_eq_true rfl) ?_
    refine lv_goto (tgt := 37) hx hb dX12_takes_14 (by decide) ?_
    refine lv_aload_n hx hb dX12_takes_37 rfl (lv_at hl 0 rfl) ?_
    refine x_getk (ci := 12) (C := RX12) (F := TX12) (N := 36) (v := .int y10) hx hb hts uX12 hown hkb hH 0 rfl rfl 10 (by decide) rfl kw_1233 (fun _ h9 => h9) dX12_takes_38 ?_
    refine lv_istore_n (lv' := [(3, .int y10), (0, .ref a0), (1, .int x1), (2, .int x2)]) hx hb dX12_takes_41 rfl hl (by decide) rfl (fun ls hl => ?_)
    refine lv_aload_n hx hb dX12_takes_42 rfl (lv_at hl 1 rfl) ?_
    refine x_getk (ci := 12) (C := RX12) (F := TX12) (N := 36) (v := .int n11_0_11) hx hb hts uX12 hown hkb hH 0 rfl rfl 11 (by decide) rfl kw_1234 (fun _ h9 => h9) dX12_takes_43 ?_
    refine lv_if_ne (tgt := 53) hx hb dX12_takes_46 (by decide) (fun c46 => ?_) (fun c46 => ?_)
    · skip
      have tc46 := f_ne (k := 0) (by decide) c46
      refine lv_iload_n hx hb dX12_takes_53 rfl (lv_at hl 0 rfl) ?_
      exact te_i hx hb hr hlocks hH hS (⟨y6, y7, y9, y10, n11_0_11, n11_0_12, rfl, by omega, by omega, by omega, by omega, by omega, k3, by omega, by omega, (by first | exact (fun q => absurd q x_v110) | (intro q; refine ⟨?_, ?_, ?_, ?_⟩ <;> omega))⟩) dX12_takes_54
    · skip
      have tc46 := f_eq (k := 0) (by decide) c46
      refine lv_aload_n hx hb dX12_takes_49 rfl (lv_at hl 1 rfl) ?_
      refine tk_v hH hS hA (tr_V (n := 0) (As := []) hx hb hml hown hts hkb hH (ox_map hOX rfl) hks hE hS hA (s_M_next l D cs kf T O X a0 hg mq o0 o1 o2 y3 y4 o5 y6 y7 y8 y9 y10 n11_0_11 n11_0_12 tl t_a0 b_hg t_y3 t_y4 (by omega) (by omega) (by omega) (by omega) (by omega) (by omega) (by omega) (by omega) (by omega) (hO.sub (by decide))) kw_1344 kw_1346 ks_43 kw_13 kw_1347 (by decide +kernel) ⟨Nat.le_of_ble_eq_true rfl, Nat.le_of_ble_eq_true rfl⟩ (x_recv (ci := 12) hkb hH 0 rfl rfl) rfl rfl hl.1 (Nat.le_of_ble_eq_true rfl) dX12_takes_50 ⟨Nat.le_of_ble_eq_true rfl, Nat.le_of_ble_eq_true rfl⟩) (fun u H locs hz9 hH hS => ?_)
      obtain ⟨n50_0_6, n50_0_7, n50_0_9, n50_0_10, rfl, x_v500, x_v501, x_v502, x_v503, x_v504, x_v505⟩ := hz9
      have hH : HT D cs A T (a0 :: O) ((a0, .inr (12, o0 :: o1 :: o2 :: (.ref y3) :: (.ref y4) :: o5 :: (.int n50_0_6) :: (.int n50_0_7) :: (.int y8) :: (.int n50_0_9) :: (.int n50_0_10) :: (.int n11_0_11) :: (.int n11_0_12) :: tl)) :: X) H := hH
      refine W.widen (k := 0) (n := 0) (Nat.le_of_ble_eq_true rfl) (Nat.le_of_ble_eq_true rfl) ?_
      refine lv_iload_n hx hb dX12_takes_53 rfl (lv_at hl 0 rfl) ?_
      exact te_i hx hb hr hlocks hH hS (⟨n50_0_6, n50_0_7, n50_0_9, n50_0_10, n11_0_11, n11_0_12, rfl, by omega, by omega, by omega, by omega, by omega, x_v503, by omega, by omega, (by first | exact (fun q => absurd q x_v110) | (intro q; refine ⟨?_, ?_, ?_, ?_⟩ <;> omega))⟩) dX12_takes_54
set_option maxHeartbeats 4000000 in
set_option maxRecDepth 100000 in
theorem s_M_goesIn0 (l : Launch) (D : va_G) (cs : CS) (kf : KF) (T : TF) (O : List Nat) (X : va_W) (a0 hg mq : Nat) (x1 : Int32) (o0 : Value) (o1 : Value) (o2 : Value) (y3 : Nat) (y4 : Nat) (o5 : Value) (y6 : Int32) (y7 : Int32) (y8 : Int32) (y9 : Int32) (y10 : Int32) (y11 : Int32) (y12 : Int32) (tl : List Value) (t_a0 : T a0 = some (22, hg, mq)) (b_hg : hg < 90) (l_x1 : 0 ≤ x1.toInt) (u_x1 : x1.toInt ≤ 0) (t_y3 : T y3 = some (1, 900, 0)) (t_y4 : T y4 = some (8, 1302, 0)) (l_y6 : 0 ≤ y6.toInt) (u_y6 : y6.toInt ≤ 900) (l_y7 : 0 ≤ y7.toInt) (u_y7 : y7.toInt ≤ 900) (l_y8 : 0 ≤ y8.toInt) (u_y8 : y8.toInt ≤ 900) (l_y10 : 0 ≤ y10.toInt) (u_y10 : y10.toInt ≤ 999) (k1 : y6.toInt ≤ y7.toInt) (k2 : y7.toInt ≤ y8.toInt) (k3 : TK3 y9 y6 y7) (k4 : y9.toInt ≠ 22) (k5 : y11.toInt = 0) (hO : okO T (a0 :: O) [1]) : TK l D cs kf yX12_goesIn cX12_goesIn 2 (some (.boolean)) { frames := 6, cells := 0, slots := 0, locals := 129 } [.ref a0, .int x1] T (a0 :: O) ((a0, .inr (12, o0 :: o1 :: o2 :: (.ref y3) :: (.ref y4) :: o5 :: (.int y6) :: (.int y7) :: (.int y8) :: (.int y9) :: (.int y10) :: (.int y11) :: (.int y12) :: tl)) :: X) (Ti D cs (fun r u => ∃ (n0_6 : Int32) (n0_7 : Int32) (n0_9 : Int32) (n0_10 : Int32) (n0_11 : Int32) (n0_12 : Int32), u = (T, a0 :: O, (a0, .inr (12, o0 :: o1 :: o2 :: (.ref y3) :: (.ref y4) :: o5 :: (.int n0_6) :: (.int n0_7) :: (.int y8) :: (.int n0_9) :: (.int n0_10) :: (.int n0_11) :: (.int n0_12) :: tl)) :: X) ∧ 0 ≤ r.toInt ∧ r.toInt ≤ 1 ∧ (y6.toInt ≤ n0_6.toInt) ∧ (n0_6.toInt ≤ n0_7.toInt) ∧ (n0_7.toInt ≤ y8.toInt) ∧ (TK3 n0_9 n0_6 n0_7) ∧ (0 ≤ n0_10.toInt) ∧ (n0_10.toInt ≤ 999) ∧ (r.toInt = 0 ∨ (n0_11.toInt = 0 ∧ y6.toInt + 1 ≤ n0_6.toInt)) ∧ (r.toInt ≠ 0 ∨ NZ n0_11))) := by
  refine tk_of (by decide) (Nat.le_of_ble_eq_true rfl) (fun p e s m below meth c ls A H locs hx hb hr hml hown hts hlocks hnm hkb hH hS hA hOX hks hE hl => ?_)
  have hown : s.vm.findClass RX12 = some m.cls := hown
  have hl : lv_has ls 2 [(0, .ref a0), (1, .int x1)] := hl
  have hOXf := hOX
  have hk3 := k3 k4
  refine lv_iload_n hx hb dX12_goesIn_0 rfl (lv_at hl 1 rfl) ?_
  refine lv_bipush (v := 6) hx hb dX12_goesIn_1 (by decide) ?_
  refine lv_icmp_ne (tgt := 11) hx hb dX12_goesIn_3 (by decide) (fun c3 => ?_) (fun c3 => ?_)
  · skip
    have tc3 := f_ne (k := 6) (by decide) c3
    refine lv_aload_n hx hb dX12_goesIn_11 rfl (lv_at hl 0 rfl) ?_
    refine x_getk (ci := 12) (C := RX12) (F := TX12) (N := 36) (v := .int y11) hx hb hts uX12 hown hkb hH 0 rfl rfl 11 (by decide) rfl kw_1234 (fun _ h9 => h9) dX12_goesIn_12 ?_
    refine lv_if_ne (tgt := 22) hx hb dX12_goesIn_15 (by decide) (fun c15 => ?_) (fun c15 => ?_)
    · skip
      have tc15 := f_ne (k := 0) (by decide) c15
      refine lv_aload_n hx hb dX12_goesIn_22 rfl (lv_at hl 0 rfl) ?_
      refine x_getk (ci := 12) (C := RX12) (F := TX12) (N := 36) (v := .int y11) hx hb hts uX12 hown hkb hH 0 rfl rfl 11 (by decide) rfl kw_1234 (fun _ h9 => h9) dX12_goesIn_23 ?_
      refine lv_if_ne (tgt := 33) hx hb dX12_goesIn_26 (by decide) (fun c26 => ?_) (fun c26 => ?_)
      · skip
        have tc26 := f_ne (k := 0) (by decide) c26
        refine lv_iconst (v := 0) hx hb dX12_goesIn_33 (by decide) ?_
        have z9_0 : (0 : Int32).toInt = 0 := by decide
        exact te_z hx hb hr hlocks (by rfl) hH hS (⟨y6, y7, y9, y10, y11, y12, rfl, by decide, by decide, by omega, by omega, by omega, k3, by omega, by omega, by omega, (by first | (refine Or.inr ?_; unfold NZ; omega))⟩) dX12_goesIn_34
      · skip
        have tc26 := f_eq (k := 0) (by decide) c26
        refine lv_iconst (v := 1) hx hb dX12_goesIn_29 (by decide) ?_
        refine lv_goto (tgt := 34) hx hb dX12_goesIn_30 (by decide) ?_
        have z9_1 : (1 : Int32).toInt = 1 := by decide
        exact te_z hx hb hr hlocks (by rfl) hH hS (⟨y6, y7, y9, y10, y11, y12, rfl, by decide, by decide, by omega, by omega, by omega, k3, by omega, by omega, by omega, (Or.inl (by decide))⟩) dX12_goesIn_34
    · skip
      have tc15 := f_eq (k := 0) (by decide) c15
      refine lv_aload_n hx hb dX12_goesIn_18 rfl (lv_at hl 0 rfl) ?_
      refine tk_v hH hS hA (tr_V (n := 0) (As := []) hx hb hml hown hts hkb hH (ox_map hOX rfl) hks hE hS hA (s_M_next l D cs kf T O X a0 hg mq o0 o1 o2 y3 y4 o5 y6 y7 y8 y9 y10 y11 y12 tl t_a0 b_hg t_y3 t_y4 (by omega) (by omega) (by omega) (by omega) (by omega) (by omega) (by omega) (by omega) (by omega) (hO.sub (by decide))) kw_1344 kw_1346 ks_43 kw_13 kw_1347 (by decide +kernel) ⟨Nat.le_of_ble_eq_true rfl, Nat.le_of_ble_eq_true rfl⟩ (x_recv (ci := 12) hkb hH 0 rfl rfl) rfl rfl hl.1 (Nat.le_of_ble_eq_true rfl) dX12_goesIn_19 ⟨Nat.le_of_ble_eq_true rfl, Nat.le_of_ble_eq_true rfl⟩) (fun u H locs hz9 hH hS => ?_)
      obtain ⟨n19_0_6, n19_0_7, n19_0_9, n19_0_10, rfl, x_v190, x_v191, x_v192, x_v193, x_v194, x_v195⟩ := hz9
      have hH : HT D cs A T (a0 :: O) ((a0, .inr (12, o0 :: o1 :: o2 :: (.ref y3) :: (.ref y4) :: o5 :: (.int n19_0_6) :: (.int n19_0_7) :: (.int y8) :: (.int n19_0_9) :: (.int n19_0_10) :: (.int y11) :: (.int y12) :: tl)) :: X) H := hH
      refine W.widen (k := 0) (n := 0) (Nat.le_of_ble_eq_true rfl) (Nat.le_of_ble_eq_true rfl) ?_
      refine lv_aload_n hx hb dX12_goesIn_22 rfl (lv_at hl 0 rfl) ?_
      refine x_getk (ci := 12) (C := RX12) (F := TX12) (N := 36) (v := .int y11) hx hb hts uX12 hown hkb hH 0 rfl rfl 11 (by decide) rfl kw_1234 (fun _ h9 => h9) dX12_goesIn_23 ?_
      refine lv_if_ne (tgt := 33) hx hb dX12_goesIn_26 (by decide) (fun c26 => ?_) (fun c26 => ?_)
      · skip
        have tc26 := f_ne (k := 0) (by decide) c26
        exfalso; omega
      · skip
        have tc26 := f_eq (k := 0) (by decide) c26
        refine lv_iconst (v := 1) hx hb dX12_goesIn_29 (by decide) ?_
        refine lv_goto (tgt := 34) hx hb dX12_goesIn_30 (by decide) ?_
        have z9_1 : (1 : Int32).toInt = 1 := by decide
        exact te_z hx hb hr hlocks (by rfl) hH hS (⟨n19_0_6, n19_0_7, n19_0_9, n19_0_10, y11, y12, rfl, by decide, by decide, by omega, by omega, by omega, x_v193, by omega, by omega, by omega, (Or.inl (by decide))⟩) dX12_goesIn_34
  · skip
    have tc3 := f_eq (k := 6) (by decide) c3
    exfalso; omega
set_option maxHeartbeats 4000000 in
set_option maxRecDepth 100000 in
theorem s_M_goesIn1 (l : Launch) (D : va_G) (cs : CS) (kf : KF) (T : TF) (O : List Nat) (X : va_W) (a0 hg mq : Nat) (x1 : Int32) (o0 : Value) (o1 : Value) (o2 : Value) (y3 : Nat) (y4 : Nat) (o5 : Value) (y6 : Int32) (y7 : Int32) (y8 : Int32) (y9 : Int32) (y10 : Int32) (y11 : Int32) (y12 : Int32) (tl : List Value) (t_a0 : T a0 = some (22, hg, mq)) (b_hg : hg < 90) (l_x1 : 1 ≤ x1.toInt) (u_x1 : x1.toInt ≤ 1) (t_y3 : T y3 = some (1, 900, 0)) (t_y4 : T y4 = some (8, 1302, 0)) (l_y6 : 0 ≤ y6.toInt) (u_y6 : y6.toInt ≤ 900) (l_y7 : 0 ≤ y7.toInt) (u_y7 : y7.toInt ≤ 900) (l_y8 : 0 ≤ y8.toInt) (u_y8 : y8.toInt ≤ 900) (l_y10 : 0 ≤ y10.toInt) (u_y10 : y10.toInt ≤ 999) (k1 : y6.toInt ≤ y7.toInt) (k2 : y7.toInt ≤ y8.toInt) (k3 : TK3 y9 y6 y7) (k4 : y9.toInt ≠ 22) (k5 : y11.toInt = 0) (hO : okO T (a0 :: O) [1]) : TK l D cs kf yX12_goesIn cX12_goesIn 2 (some (.boolean)) { frames := 6, cells := 0, slots := 0, locals := 129 } [.ref a0, .int x1] T (a0 :: O) ((a0, .inr (12, o0 :: o1 :: o2 :: (.ref y3) :: (.ref y4) :: o5 :: (.int y6) :: (.int y7) :: (.int y8) :: (.int y9) :: (.int y10) :: (.int y11) :: (.int y12) :: tl)) :: X) (Ti D cs (fun r u => ∃ (n0_6 : Int32) (n0_7 : Int32) (n0_9 : Int32) (n0_10 : Int32) (n0_11 : Int32) (n0_12 : Int32), u = (T, a0 :: O, (a0, .inr (12, o0 :: o1 :: o2 :: (.ref y3) :: (.ref y4) :: o5 :: (.int n0_6) :: (.int n0_7) :: (.int y8) :: (.int n0_9) :: (.int n0_10) :: (.int n0_11) :: (.int n0_12) :: tl)) :: X) ∧ 0 ≤ r.toInt ∧ r.toInt ≤ 1 ∧ (y6.toInt ≤ n0_6.toInt) ∧ (n0_6.toInt ≤ n0_7.toInt) ∧ (n0_7.toInt ≤ y8.toInt) ∧ (TK3 n0_9 n0_6 n0_7) ∧ (0 ≤ n0_10.toInt) ∧ (n0_10.toInt ≤ 999) ∧ (r.toInt = 0 ∨ (n0_11.toInt = 0 ∧ y6.toInt + 1 ≤ n0_6.toInt)) ∧ (r.toInt ≠ 0 ∨ NZ n0_11))) := by
  refine tk_of (by decide) (Nat.le_of_ble_eq_true rfl) (fun p e s m below meth c ls A H locs hx hb hr hml hown hts hlocks hnm hkb hH hS hA hOX hks hE hl => ?_)
  have hown : s.vm.findClass RX12 = some m.cls := hown
  have hl : lv_has ls 2 [(0, .ref a0), (1, .int x1)] := hl
  have hOXf := hOX
  have hk3 := k3 k4
  refine lv_iload_n hx hb dX12_goesIn_0 rfl (lv_at hl 1 rfl) ?_
  refine lv_bipush (v := 6) hx hb dX12_goesIn_1 (by decide) ?_
  refine lv_icmp_ne (tgt := 11) hx hb dX12_goesIn_3 (by decide) (fun c3 => ?_) (fun c3 => ?_)
  · skip
    have tc3 := f_ne (k := 6) (by decide) c3
    refine lv_aload_n hx hb dX12_goesIn_11 rfl (lv_at hl 0 rfl) ?_
    refine x_getk (ci := 12) (C := RX12) (F := TX12) (N := 36) (v := .int y11) hx hb hts uX12 hown hkb hH 0 rfl rfl 11 (by decide) rfl kw_1234 (fun _ h9 => h9) dX12_goesIn_12 ?_
    refine lv_if_ne (tgt := 22) hx hb dX12_goesIn_15 (by decide) (fun c15 => ?_) (fun c15 => ?_)
    · skip
      have tc15 := f_ne (k := 0) (by decide) c15
      refine lv_aload_n hx hb dX12_goesIn_22 rfl (lv_at hl 0 rfl) ?_
      refine x_getk (ci := 12) (C := RX12) (F := TX12) (N := 36) (v := .int y11) hx hb hts uX12 hown hkb hH 0 rfl rfl 11 (by decide) rfl kw_1234 (fun _ h9 => h9) dX12_goesIn_23 ?_
      refine lv_if_ne (tgt := 33) hx hb dX12_goesIn_26 (by decide) (fun c26 => ?_) (fun c26 => ?_)
      · skip
        have tc26 := f_ne (k := 0) (by decide) c26
        refine lv_iconst (v := 0) hx hb dX12_goesIn_33 (by decide) ?_
        have z9_0 : (0 : Int32).toInt = 0 := by decide
        exact te_z hx hb hr hlocks (by rfl) hH hS (⟨y6, y7, y9, y10, y11, y12, rfl, by decide, by decide, by omega, by omega, by omega, k3, by omega, by omega, by omega, (by first | (refine Or.inr ?_; unfold NZ; omega))⟩) dX12_goesIn_34
      · skip
        have tc26 := f_eq (k := 0) (by decide) c26
        refine lv_iconst (v := 1) hx hb dX12_goesIn_29 (by decide) ?_
        refine lv_goto (tgt := 34) hx hb dX12_goesIn_30 (by decide) ?_
        have z9_1 : (1 : Int32).toInt = 1 := by decide
        exact te_z hx hb hr hlocks (by rfl) hH hS (⟨y6, y7, y9, y10, y11, y12, rfl, by decide, by decide, by omega, by omega, by omega, k3, by omega, by omega, by omega, (Or.inl (by decide))⟩) dX12_goesIn_34
    · skip
      have tc15 := f_eq (k := 0) (by decide) c15
      refine lv_aload_n hx hb dX12_goesIn_18 rfl (lv_at hl 0 rfl) ?_
      refine tk_v hH hS hA (tr_V (n := 0) (As := []) hx hb hml hown hts hkb hH (ox_map hOX rfl) hks hE hS hA (s_M_next l D cs kf T O X a0 hg mq o0 o1 o2 y3 y4 o5 y6 y7 y8 y9 y10 y11 y12 tl t_a0 b_hg t_y3 t_y4 (by omega) (by omega) (by omega) (by omega) (by omega) (by omega) (by omega) (by omega) (by omega) (hO.sub (by decide))) kw_1344 kw_1346 ks_43 kw_13 kw_1347 (by decide +kernel) ⟨Nat.le_of_ble_eq_true rfl, Nat.le_of_ble_eq_true rfl⟩ (x_recv (ci := 12) hkb hH 0 rfl rfl) rfl rfl hl.1 (Nat.le_of_ble_eq_true rfl) dX12_goesIn_19 ⟨Nat.le_of_ble_eq_true rfl, Nat.le_of_ble_eq_true rfl⟩) (fun u H locs hz9 hH hS => ?_)
      obtain ⟨n19_0_6, n19_0_7, n19_0_9, n19_0_10, rfl, x_v190, x_v191, x_v192, x_v193, x_v194, x_v195⟩ := hz9
      have hH : HT D cs A T (a0 :: O) ((a0, .inr (12, o0 :: o1 :: o2 :: (.ref y3) :: (.ref y4) :: o5 :: (.int n19_0_6) :: (.int n19_0_7) :: (.int y8) :: (.int n19_0_9) :: (.int n19_0_10) :: (.int y11) :: (.int y12) :: tl)) :: X) H := hH
      refine W.widen (k := 0) (n := 0) (Nat.le_of_ble_eq_true rfl) (Nat.le_of_ble_eq_true rfl) ?_
      refine lv_aload_n hx hb dX12_goesIn_22 rfl (lv_at hl 0 rfl) ?_
      refine x_getk (ci := 12) (C := RX12) (F := TX12) (N := 36) (v := .int y11) hx hb hts uX12 hown hkb hH 0 rfl rfl 11 (by decide) rfl kw_1234 (fun _ h9 => h9) dX12_goesIn_23 ?_
      refine lv_if_ne (tgt := 33) hx hb dX12_goesIn_26 (by decide) (fun c26 => ?_) (fun c26 => ?_)
      · skip
        have tc26 := f_ne (k := 0) (by decide) c26
        exfalso; omega
      · skip
        have tc26 := f_eq (k := 0) (by decide) c26
        refine lv_iconst (v := 1) hx hb dX12_goesIn_29 (by decide) ?_
        refine lv_goto (tgt := 34) hx hb dX12_goesIn_30 (by decide) ?_
        have z9_1 : (1 : Int32).toInt = 1 := by decide
        exact te_z hx hb hr hlocks (by rfl) hH hS (⟨n19_0_6, n19_0_7, n19_0_9, n19_0_10, y11, y12, rfl, by decide, by decide, by omega, by omega, by omega, x_v193, by omega, by omega, by omega, (Or.inl (by decide))⟩) dX12_goesIn_34
  · skip
    have tc3 := f_eq (k := 6) (by decide) c3
    exfalso; omega
set_option maxHeartbeats 4000000 in
set_option maxRecDepth 100000 in
theorem s_M_goesIn2 (l : Launch) (D : va_G) (cs : CS) (kf : KF) (T : TF) (O : List Nat) (X : va_W) (a0 hg mq : Nat) (x1 : Int32) (o0 : Value) (o1 : Value) (o2 : Value) (y3 : Nat) (y4 : Nat) (o5 : Value) (y6 : Int32) (y7 : Int32) (y8 : Int32) (y9 : Int32) (y10 : Int32) (y11 : Int32) (y12 : Int32) (tl : List Value) (t_a0 : T a0 = some (22, hg, mq)) (b_hg : hg < 90) (l_x1 : 2 ≤ x1.toInt) (u_x1 : x1.toInt ≤ 2) (t_y3 : T y3 = some (1, 900, 0)) (t_y4 : T y4 = some (8, 1302, 0)) (l_y6 : 0 ≤ y6.toInt) (u_y6 : y6.toInt ≤ 900) (l_y7 : 0 ≤ y7.toInt) (u_y7 : y7.toInt ≤ 900) (l_y8 : 0 ≤ y8.toInt) (u_y8 : y8.toInt ≤ 900) (l_y10 : 0 ≤ y10.toInt) (u_y10 : y10.toInt ≤ 999) (k1 : y6.toInt ≤ y7.toInt) (k2 : y7.toInt ≤ y8.toInt) (k3 : TK3 y9 y6 y7) (k4 : y9.toInt ≠ 22) (k5 : y11.toInt = 0) (hO : okO T (a0 :: O) [1]) : TK l D cs kf yX12_goesIn cX12_goesIn 2 (some (.boolean)) { frames := 6, cells := 0, slots := 0, locals := 129 } [.ref a0, .int x1] T (a0 :: O) ((a0, .inr (12, o0 :: o1 :: o2 :: (.ref y3) :: (.ref y4) :: o5 :: (.int y6) :: (.int y7) :: (.int y8) :: (.int y9) :: (.int y10) :: (.int y11) :: (.int y12) :: tl)) :: X) (Ti D cs (fun r u => ∃ (n0_6 : Int32) (n0_7 : Int32) (n0_9 : Int32) (n0_10 : Int32) (n0_11 : Int32) (n0_12 : Int32), u = (T, a0 :: O, (a0, .inr (12, o0 :: o1 :: o2 :: (.ref y3) :: (.ref y4) :: o5 :: (.int n0_6) :: (.int n0_7) :: (.int y8) :: (.int n0_9) :: (.int n0_10) :: (.int n0_11) :: (.int n0_12) :: tl)) :: X) ∧ 0 ≤ r.toInt ∧ r.toInt ≤ 1 ∧ (y6.toInt ≤ n0_6.toInt) ∧ (n0_6.toInt ≤ n0_7.toInt) ∧ (n0_7.toInt ≤ y8.toInt) ∧ (TK3 n0_9 n0_6 n0_7) ∧ (0 ≤ n0_10.toInt) ∧ (n0_10.toInt ≤ 999) ∧ (r.toInt = 0 ∨ (n0_11.toInt = 0 ∧ y6.toInt + 1 ≤ n0_6.toInt)) ∧ (r.toInt ≠ 0 ∨ NZ n0_11))) := by
  refine tk_of (by decide) (Nat.le_of_ble_eq_true rfl) (fun p e s m below meth c ls A H locs hx hb hr hml hown hts hlocks hnm hkb hH hS hA hOX hks hE hl => ?_)
  have hown : s.vm.findClass RX12 = some m.cls := hown
  have hl : lv_has ls 2 [(0, .ref a0), (1, .int x1)] := hl
  have hOXf := hOX
  have hk3 := k3 k4
  refine lv_iload_n hx hb dX12_goesIn_0 rfl (lv_at hl 1 rfl) ?_
  refine lv_bipush (v := 6) hx hb dX12_goesIn_1 (by decide) ?_
  refine lv_icmp_ne (tgt := 11) hx hb dX12_goesIn_3 (by decide) (fun c3 => ?_) (fun c3 => ?_)
  · skip
    have tc3 := f_ne (k := 6) (by decide) c3
    refine lv_aload_n hx hb dX12_goesIn_11 rfl (lv_at hl 0 rfl) ?_
    refine x_getk (ci := 12) (C := RX12) (F := TX12) (N := 36) (v := .int y11) hx hb hts uX12 hown hkb hH 0 rfl rfl 11 (by decide) rfl kw_1234 (fun _ h9 => h9) dX12_goesIn_12 ?_
    refine lv_if_ne (tgt := 22) hx hb dX12_goesIn_15 (by decide) (fun c15 => ?_) (fun c15 => ?_)
    · skip
      have tc15 := f_ne (k := 0) (by decide) c15
      refine lv_aload_n hx hb dX12_goesIn_22 rfl (lv_at hl 0 rfl) ?_
      refine x_getk (ci := 12) (C := RX12) (F := TX12) (N := 36) (v := .int y11) hx hb hts uX12 hown hkb hH 0 rfl rfl 11 (by decide) rfl kw_1234 (fun _ h9 => h9) dX12_goesIn_23 ?_
      refine lv_if_ne (tgt := 33) hx hb dX12_goesIn_26 (by decide) (fun c26 => ?_) (fun c26 => ?_)
      · skip
        have tc26 := f_ne (k := 0) (by decide) c26
        refine lv_iconst (v := 0) hx hb dX12_goesIn_33 (by decide) ?_
        have z9_0 : (0 : Int32).toInt = 0 := by decide
        exact te_z hx hb hr hlocks (by rfl) hH hS (⟨y6, y7, y9, y10, y11, y12, rfl, by decide, by decide, by omega, by omega, by omega, k3, by omega, by omega, by omega, (by first | (refine Or.inr ?_; unfold NZ; omega))⟩) dX12_goesIn_34
      · skip
        have tc26 := f_eq (k := 0) (by decide) c26
        refine lv_iconst (v := 1) hx hb dX12_goesIn_29 (by decide) ?_
        refine lv_goto (tgt := 34) hx hb dX12_goesIn_30 (by decide) ?_
        have z9_1 : (1 : Int32).toInt = 1 := by decide
        exact te_z hx hb hr hlocks (by rfl) hH hS (⟨y6, y7, y9, y10, y11, y12, rfl, by decide, by decide, by omega, by omega, by omega, k3, by omega, by omega, by omega, (Or.inl (by decide))⟩) dX12_goesIn_34
    · skip
      have tc15 := f_eq (k := 0) (by decide) c15
      refine lv_aload_n hx hb dX12_goesIn_18 rfl (lv_at hl 0 rfl) ?_
      refine tk_v hH hS hA (tr_V (n := 0) (As := []) hx hb hml hown hts hkb hH (ox_map hOX rfl) hks hE hS hA (s_M_next l D cs kf T O X a0 hg mq o0 o1 o2 y3 y4 o5 y6 y7 y8 y9 y10 y11 y12 tl t_a0 b_hg t_y3 t_y4 (by omega) (by omega) (by omega) (by omega) (by omega) (by omega) (by omega) (by omega) (by omega) (hO.sub (by decide))) kw_1344 kw_1346 ks_43 kw_13 kw_1347 (by decide +kernel) ⟨Nat.le_of_ble_eq_true rfl, Nat.le_of_ble_eq_true rfl⟩ (x_recv (ci := 12) hkb hH 0 rfl rfl) rfl rfl hl.1 (Nat.le_of_ble_eq_true rfl) dX12_goesIn_19 ⟨Nat.le_of_ble_eq_true rfl, Nat.le_of_ble_eq_true rfl⟩) (fun u H locs hz9 hH hS => ?_)
      obtain ⟨n19_0_6, n19_0_7, n19_0_9, n19_0_10, rfl, x_v190, x_v191, x_v192, x_v193, x_v194, x_v195⟩ := hz9
      have hH : HT D cs A T (a0 :: O) ((a0, .inr (12, o0 :: o1 :: o2 :: (.ref y3) :: (.ref y4) :: o5 :: (.int n19_0_6) :: (.int n19_0_7) :: (.int y8) :: (.int n19_0_9) :: (.int n19_0_10) :: (.int y11) :: (.int y12) :: tl)) :: X) H := hH
      refine W.widen (k := 0) (n := 0) (Nat.le_of_ble_eq_true rfl) (Nat.le_of_ble_eq_true rfl) ?_
      refine lv_aload_n hx hb dX12_goesIn_22 rfl (lv_at hl 0 rfl) ?_
      refine x_getk (ci := 12) (C := RX12) (F := TX12) (N := 36) (v := .int y11) hx hb hts uX12 hown hkb hH 0 rfl rfl 11 (by decide) rfl kw_1234 (fun _ h9 => h9) dX12_goesIn_23 ?_
      refine lv_if_ne (tgt := 33) hx hb dX12_goesIn_26 (by decide) (fun c26 => ?_) (fun c26 => ?_)
      · skip
        have tc26 := f_ne (k := 0) (by decide) c26
        exfalso; omega
      · skip
        have tc26 := f_eq (k := 0) (by decide) c26
        refine lv_iconst (v := 1) hx hb dX12_goesIn_29 (by decide) ?_
        refine lv_goto (tgt := 34) hx hb dX12_goesIn_30 (by decide) ?_
        have z9_1 : (1 : Int32).toInt = 1 := by decide
        exact te_z hx hb hr hlocks (by rfl) hH hS (⟨n19_0_6, n19_0_7, n19_0_9, n19_0_10, y11, y12, rfl, by decide, by decide, by omega, by omega, by omega, x_v193, by omega, by omega, by omega, (Or.inl (by decide))⟩) dX12_goesIn_34
  · skip
    have tc3 := f_eq (k := 6) (by decide) c3
    exfalso; omega
set_option maxHeartbeats 4000000 in
set_option maxRecDepth 100000 in
theorem s_M_goesIn3 (l : Launch) (D : va_G) (cs : CS) (kf : KF) (T : TF) (O : List Nat) (X : va_W) (a0 hg mq : Nat) (x1 : Int32) (o0 : Value) (o1 : Value) (o2 : Value) (y3 : Nat) (y4 : Nat) (o5 : Value) (y6 : Int32) (y7 : Int32) (y8 : Int32) (y9 : Int32) (y10 : Int32) (y11 : Int32) (y12 : Int32) (tl : List Value) (t_a0 : T a0 = some (22, hg, mq)) (b_hg : hg < 90) (l_x1 : 3 ≤ x1.toInt) (u_x1 : x1.toInt ≤ 3) (t_y3 : T y3 = some (1, 900, 0)) (t_y4 : T y4 = some (8, 1302, 0)) (l_y6 : 0 ≤ y6.toInt) (u_y6 : y6.toInt ≤ 900) (l_y7 : 0 ≤ y7.toInt) (u_y7 : y7.toInt ≤ 900) (l_y8 : 0 ≤ y8.toInt) (u_y8 : y8.toInt ≤ 900) (l_y10 : 0 ≤ y10.toInt) (u_y10 : y10.toInt ≤ 999) (k1 : y6.toInt ≤ y7.toInt) (k2 : y7.toInt ≤ y8.toInt) (k3 : TK3 y9 y6 y7) (k4 : y9.toInt ≠ 22) (k5 : y11.toInt = 0) (hO : okO T (a0 :: O) [1]) : TK l D cs kf yX12_goesIn cX12_goesIn 2 (some (.boolean)) { frames := 6, cells := 0, slots := 0, locals := 129 } [.ref a0, .int x1] T (a0 :: O) ((a0, .inr (12, o0 :: o1 :: o2 :: (.ref y3) :: (.ref y4) :: o5 :: (.int y6) :: (.int y7) :: (.int y8) :: (.int y9) :: (.int y10) :: (.int y11) :: (.int y12) :: tl)) :: X) (Ti D cs (fun r u => ∃ (n0_6 : Int32) (n0_7 : Int32) (n0_9 : Int32) (n0_10 : Int32) (n0_11 : Int32) (n0_12 : Int32), u = (T, a0 :: O, (a0, .inr (12, o0 :: o1 :: o2 :: (.ref y3) :: (.ref y4) :: o5 :: (.int n0_6) :: (.int n0_7) :: (.int y8) :: (.int n0_9) :: (.int n0_10) :: (.int n0_11) :: (.int n0_12) :: tl)) :: X) ∧ 0 ≤ r.toInt ∧ r.toInt ≤ 1 ∧ (y6.toInt ≤ n0_6.toInt) ∧ (n0_6.toInt ≤ n0_7.toInt) ∧ (n0_7.toInt ≤ y8.toInt) ∧ (TK3 n0_9 n0_6 n0_7) ∧ (0 ≤ n0_10.toInt) ∧ (n0_10.toInt ≤ 999) ∧ (r.toInt = 0 ∨ (n0_11.toInt = 0 ∧ y6.toInt + 1 ≤ n0_6.toInt)) ∧ (r.toInt ≠ 0 ∨ NZ n0_11))) := by
  refine tk_of (by decide) (Nat.le_of_ble_eq_true rfl) (fun p e s m below meth c ls A H locs hx hb hr hml hown hts hlocks hnm hkb hH hS hA hOX hks hE hl => ?_)
  have hown : s.vm.findClass RX12 = some m.cls := hown
  have hl : lv_has ls 2 [(0, .ref a0), (1, .int x1)] := hl
  have hOXf := hOX
  have hk3 := k3 k4
  refine lv_iload_n hx hb dX12_goesIn_0 rfl (lv_at hl 1 rfl) ?_
  refine lv_bipush (v := 6) hx hb dX12_goesIn_1 (by decide) ?_
  refine lv_icmp_ne (tgt := 11) hx hb dX12_goesIn_3 (by decide) (fun c3 => ?_) (fun c3 => ?_)
  · skip
    have tc3 := f_ne (k := 6) (by decide) c3
    refine lv_aload_n hx hb dX12_goesIn_11 rfl (lv_at hl 0 rfl) ?_
    refine x_getk (ci := 12) (C := RX12) (F := TX12) (N := 36) (v := .int y11) hx hb hts uX12 hown hkb hH 0 rfl rfl 11 (by decide) rfl kw_1234 (fun _ h9 => h9) dX12_goesIn_12 ?_
    refine lv_if_ne (tgt := 22) hx hb dX12_goesIn_15 (by decide) (fun c15 => ?_) (fun c15 => ?_)
    · skip
      have tc15 := f_ne (k := 0) (by decide) c15
      refine lv_aload_n hx hb dX12_goesIn_22 rfl (lv_at hl 0 rfl) ?_
      refine x_getk (ci := 12) (C := RX12) (F := TX12) (N := 36) (v := .int y11) hx hb hts uX12 hown hkb hH 0 rfl rfl 11 (by decide) rfl kw_1234 (fun _ h9 => h9) dX12_goesIn_23 ?_
      refine lv_if_ne (tgt := 33) hx hb dX12_goesIn_26 (by decide) (fun c26 => ?_) (fun c26 => ?_)
      · skip
        have tc26 := f_ne (k := 0) (by decide) c26
        refine lv_iconst (v := 0) hx hb dX12_goesIn_33 (by decide) ?_
        have z9_0 : (0 : Int32).toInt = 0 := by decide
        exact te_z hx hb hr hlocks (by rfl) hH hS (⟨y6, y7, y9, y10, y11, y12, rfl, by decide, by decide, by omega, by omega, by omega, k3, by omega, by omega, by omega, (by first | (refine Or.inr ?_; unfold NZ; omega))⟩) dX12_goesIn_34
      · skip
        have tc26 := f_eq (k := 0) (by decide) c26
        refine lv_iconst (v := 1) hx hb dX12_goesIn_29 (by decide) ?_
        refine lv_goto (tgt := 34) hx hb dX12_goesIn_30 (by decide) ?_
        have z9_1 : (1 : Int32).toInt = 1 := by decide
        exact te_z hx hb hr hlocks (by rfl) hH hS (⟨y6, y7, y9, y10, y11, y12, rfl, by decide, by decide, by omega, by omega, by omega, k3, by omega, by omega, by omega, (Or.inl (by decide))⟩) dX12_goesIn_34
    · skip
      have tc15 := f_eq (k := 0) (by decide) c15
      refine lv_aload_n hx hb dX12_goesIn_18 rfl (lv_at hl 0 rfl) ?_
      refine tk_v hH hS hA (tr_V (n := 0) (As := []) hx hb hml hown hts hkb hH (ox_map hOX rfl) hks hE hS hA (s_M_next l D cs kf T O X a0 hg mq o0 o1 o2 y3 y4 o5 y6 y7 y8 y9 y10 y11 y12 tl t_a0 b_hg t_y3 t_y4 (by omega) (by omega) (by omega) (by omega) (by omega) (by omega) (by omega) (by omega) (by omega) (hO.sub (by decide))) kw_1344 kw_1346 ks_43 kw_13 kw_1347 (by decide +kernel) ⟨Nat.le_of_ble_eq_true rfl, Nat.le_of_ble_eq_true rfl⟩ (x_recv (ci := 12) hkb hH 0 rfl rfl) rfl rfl hl.1 (Nat.le_of_ble_eq_true rfl) dX12_goesIn_19 ⟨Nat.le_of_ble_eq_true rfl, Nat.le_of_ble_eq_true rfl⟩) (fun u H locs hz9 hH hS => ?_)
      obtain ⟨n19_0_6, n19_0_7, n19_0_9, n19_0_10, rfl, x_v190, x_v191, x_v192, x_v193, x_v194, x_v195⟩ := hz9
      have hH : HT D cs A T (a0 :: O) ((a0, .inr (12, o0 :: o1 :: o2 :: (.ref y3) :: (.ref y4) :: o5 :: (.int n19_0_6) :: (.int n19_0_7) :: (.int y8) :: (.int n19_0_9) :: (.int n19_0_10) :: (.int y11) :: (.int y12) :: tl)) :: X) H := hH
      refine W.widen (k := 0) (n := 0) (Nat.le_of_ble_eq_true rfl) (Nat.le_of_ble_eq_true rfl) ?_
      refine lv_aload_n hx hb dX12_goesIn_22 rfl (lv_at hl 0 rfl) ?_
      refine x_getk (ci := 12) (C := RX12) (F := TX12) (N := 36) (v := .int y11) hx hb hts uX12 hown hkb hH 0 rfl rfl 11 (by decide) rfl kw_1234 (fun _ h9 => h9) dX12_goesIn_23 ?_
      refine lv_if_ne (tgt := 33) hx hb dX12_goesIn_26 (by decide) (fun c26 => ?_) (fun c26 => ?_)
      · skip
        have tc26 := f_ne (k := 0) (by decide) c26
        exfalso; omega
      · skip
        have tc26 := f_eq (k := 0) (by decide) c26
        refine lv_iconst (v := 1) hx hb dX12_goesIn_29 (by decide) ?_
        refine lv_goto (tgt := 34) hx hb dX12_goesIn_30 (by decide) ?_
        have z9_1 : (1 : Int32).toInt = 1 := by decide
        exact te_z hx hb hr hlocks (by rfl) hH hS (⟨n19_0_6, n19_0_7, n19_0_9, n19_0_10, y11, y12, rfl, by decide, by decide, by omega, by omega, by omega, x_v193, by omega, by omega, by omega, (Or.inl (by decide))⟩) dX12_goesIn_34
  · skip
    have tc3 := f_eq (k := 6) (by decide) c3
    exfalso; omega
set_option maxHeartbeats 4000000 in
set_option maxRecDepth 100000 in
theorem s_M_goesIn4 (l : Launch) (D : va_G) (cs : CS) (kf : KF) (T : TF) (O : List Nat) (X : va_W) (a0 hg mq : Nat) (x1 : Int32) (o0 : Value) (o1 : Value) (o2 : Value) (y3 : Nat) (y4 : Nat) (o5 : Value) (y6 : Int32) (y7 : Int32) (y8 : Int32) (y9 : Int32) (y10 : Int32) (y11 : Int32) (y12 : Int32) (tl : List Value) (t_a0 : T a0 = some (22, hg, mq)) (b_hg : hg < 90) (l_x1 : 4 ≤ x1.toInt) (u_x1 : x1.toInt ≤ 4) (t_y3 : T y3 = some (1, 900, 0)) (t_y4 : T y4 = some (8, 1302, 0)) (l_y6 : 0 ≤ y6.toInt) (u_y6 : y6.toInt ≤ 900) (l_y7 : 0 ≤ y7.toInt) (u_y7 : y7.toInt ≤ 900) (l_y8 : 0 ≤ y8.toInt) (u_y8 : y8.toInt ≤ 900) (l_y10 : 0 ≤ y10.toInt) (u_y10 : y10.toInt ≤ 999) (k1 : y6.toInt ≤ y7.toInt) (k2 : y7.toInt ≤ y8.toInt) (k3 : TK3 y9 y6 y7) (k4 : y9.toInt ≠ 22) (k5 : y11.toInt = 0) (hO : okO T (a0 :: O) [1]) : TK l D cs kf yX12_goesIn cX12_goesIn 2 (some (.boolean)) { frames := 6, cells := 0, slots := 0, locals := 129 } [.ref a0, .int x1] T (a0 :: O) ((a0, .inr (12, o0 :: o1 :: o2 :: (.ref y3) :: (.ref y4) :: o5 :: (.int y6) :: (.int y7) :: (.int y8) :: (.int y9) :: (.int y10) :: (.int y11) :: (.int y12) :: tl)) :: X) (Ti D cs (fun r u => ∃ (n0_6 : Int32) (n0_7 : Int32) (n0_9 : Int32) (n0_10 : Int32) (n0_11 : Int32) (n0_12 : Int32), u = (T, a0 :: O, (a0, .inr (12, o0 :: o1 :: o2 :: (.ref y3) :: (.ref y4) :: o5 :: (.int n0_6) :: (.int n0_7) :: (.int y8) :: (.int n0_9) :: (.int n0_10) :: (.int n0_11) :: (.int n0_12) :: tl)) :: X) ∧ 0 ≤ r.toInt ∧ r.toInt ≤ 1 ∧ (y6.toInt ≤ n0_6.toInt) ∧ (n0_6.toInt ≤ n0_7.toInt) ∧ (n0_7.toInt ≤ y8.toInt) ∧ (TK3 n0_9 n0_6 n0_7) ∧ (0 ≤ n0_10.toInt) ∧ (n0_10.toInt ≤ 999) ∧ (r.toInt = 0 ∨ (n0_11.toInt = 0 ∧ y6.toInt + 1 ≤ n0_6.toInt)) ∧ (r.toInt ≠ 0 ∨ NZ n0_11))) := by
  refine tk_of (by decide) (Nat.le_of_ble_eq_true rfl) (fun p e s m below meth c ls A H locs hx hb hr hml hown hts hlocks hnm hkb hH hS hA hOX hks hE hl => ?_)
  have hown : s.vm.findClass RX12 = some m.cls := hown
  have hl : lv_has ls 2 [(0, .ref a0), (1, .int x1)] := hl
  have hOXf := hOX
  have hk3 := k3 k4
  refine lv_iload_n hx hb dX12_goesIn_0 rfl (lv_at hl 1 rfl) ?_
  refine lv_bipush (v := 6) hx hb dX12_goesIn_1 (by decide) ?_
  refine lv_icmp_ne (tgt := 11) hx hb dX12_goesIn_3 (by decide) (fun c3 => ?_) (fun c3 => ?_)
  · skip
    have tc3 := f_ne (k := 6) (by decide) c3
    refine lv_aload_n hx hb dX12_goesIn_11 rfl (lv_at hl 0 rfl) ?_
    refine x_getk (ci := 12) (C := RX12) (F := TX12) (N := 36) (v := .int y11) hx hb hts uX12 hown hkb hH 0 rfl rfl 11 (by decide) rfl kw_1234 (fun _ h9 => h9) dX12_goesIn_12 ?_
    refine lv_if_ne (tgt := 22) hx hb dX12_goesIn_15 (by decide) (fun c15 => ?_) (fun c15 => ?_)
    · skip
      have tc15 := f_ne (k := 0) (by decide) c15
      refine lv_aload_n hx hb dX12_goesIn_22 rfl (lv_at hl 0 rfl) ?_
      refine x_getk (ci := 12) (C := RX12) (F := TX12) (N := 36) (v := .int y11) hx hb hts uX12 hown hkb hH 0 rfl rfl 11 (by decide) rfl kw_1234 (fun _ h9 => h9) dX12_goesIn_23 ?_
      refine lv_if_ne (tgt := 33) hx hb dX12_goesIn_26 (by decide) (fun c26 => ?_) (fun c26 => ?_)
      · skip
        have tc26 := f_ne (k := 0) (by decide) c26
        refine lv_iconst (v := 0) hx hb dX12_goesIn_33 (by decide) ?_
        have z9_0 : (0 : Int32).toInt = 0 := by decide
        exact te_z hx hb hr hlocks (by rfl) hH hS (⟨y6, y7, y9, y10, y11, y12, rfl, by decide, by decide, by omega, by omega, by omega, k3, by omega, by omega, by omega, (by first | (refine Or.inr ?_; unfold NZ; omega))⟩) dX12_goesIn_34
      · skip
        have tc26 := f_eq (k := 0) (by decide) c26
        refine lv_iconst (v := 1) hx hb dX12_goesIn_29 (by decide) ?_
        refine lv_goto (tgt := 34) hx hb dX12_goesIn_30 (by decide) ?_
        have z9_1 : (1 : Int32).toInt = 1 := by decide
        exact te_z hx hb hr hlocks (by rfl) hH hS (⟨y6, y7, y9, y10, y11, y12, rfl, by decide, by decide, by omega, by omega, by omega, k3, by omega, by omega, by omega, (Or.inl (by decide))⟩) dX12_goesIn_34
    · skip
      have tc15 := f_eq (k := 0) (by decide) c15
      refine lv_aload_n hx hb dX12_goesIn_18 rfl (lv_at hl 0 rfl) ?_
      refine tk_v hH hS hA (tr_V (n := 0) (As := []) hx hb hml hown hts hkb hH (ox_map hOX rfl) hks hE hS hA (s_M_next l D cs kf T O X a0 hg mq o0 o1 o2 y3 y4 o5 y6 y7 y8 y9 y10 y11 y12 tl t_a0 b_hg t_y3 t_y4 (by omega) (by omega) (by omega) (by omega) (by omega) (by omega) (by omega) (by omega) (by omega) (hO.sub (by decide))) kw_1344 kw_1346 ks_43 kw_13 kw_1347 (by decide +kernel) ⟨Nat.le_of_ble_eq_true rfl, Nat.le_of_ble_eq_true rfl⟩ (x_recv (ci := 12) hkb hH 0 rfl rfl) rfl rfl hl.1 (Nat.le_of_ble_eq_true rfl) dX12_goesIn_19 ⟨Nat.le_of_ble_eq_true rfl, Nat.le_of_ble_eq_true rfl⟩) (fun u H locs hz9 hH hS => ?_)
      obtain ⟨n19_0_6, n19_0_7, n19_0_9, n19_0_10, rfl, x_v190, x_v191, x_v192, x_v193, x_v194, x_v195⟩ := hz9
      have hH : HT D cs A T (a0 :: O) ((a0, .inr (12, o0 :: o1 :: o2 :: (.ref y3) :: (.ref y4) :: o5 :: (.int n19_0_6) :: (.int n19_0_7) :: (.int y8) :: (.int n19_0_9) :: (.int n19_0_10) :: (.int y11) :: (.int y12) :: tl)) :: X) H := hH
      refine W.widen (k := 0) (n := 0) (Nat.le_of_ble_eq_true rfl) (Nat.le_of_ble_eq_true rfl) ?_
      refine lv_aload_n hx hb dX12_goesIn_22 rfl (lv_at hl 0 rfl) ?_
      refine x_getk (ci := 12) (C := RX12) (F := TX12) (N := 36) (v := .int y11) hx hb hts uX12 hown hkb hH 0 rfl rfl 11 (by decide) rfl kw_1234 (fun _ h9 => h9) dX12_goesIn_23 ?_
      refine lv_if_ne (tgt := 33) hx hb dX12_goesIn_26 (by decide) (fun c26 => ?_) (fun c26 => ?_)
      · skip
        have tc26 := f_ne (k := 0) (by decide) c26
        exfalso; omega
      · skip
        have tc26 := f_eq (k := 0) (by decide) c26
        refine lv_iconst (v := 1) hx hb dX12_goesIn_29 (by decide) ?_
        refine lv_goto (tgt := 34) hx hb dX12_goesIn_30 (by decide) ?_
        have z9_1 : (1 : Int32).toInt = 1 := by decide
        exact te_z hx hb hr hlocks (by rfl) hH hS (⟨n19_0_6, n19_0_7, n19_0_9, n19_0_10, y11, y12, rfl, by decide, by decide, by omega, by omega, by omega, x_v193, by omega, by omega, by omega, (Or.inl (by decide))⟩) dX12_goesIn_34
  · skip
    have tc3 := f_eq (k := 6) (by decide) c3
    exfalso; omega
set_option maxHeartbeats 4000000 in
set_option maxRecDepth 100000 in
theorem s_M_goesIn5 (l : Launch) (D : va_G) (cs : CS) (kf : KF) (T : TF) (O : List Nat) (X : va_W) (a0 hg mq : Nat) (x1 : Int32) (o0 : Value) (o1 : Value) (o2 : Value) (y3 : Nat) (y4 : Nat) (o5 : Value) (y6 : Int32) (y7 : Int32) (y8 : Int32) (y9 : Int32) (y10 : Int32) (y11 : Int32) (y12 : Int32) (tl : List Value) (t_a0 : T a0 = some (22, hg, mq)) (b_hg : hg < 90) (l_x1 : 5 ≤ x1.toInt) (u_x1 : x1.toInt ≤ 5) (t_y3 : T y3 = some (1, 900, 0)) (t_y4 : T y4 = some (8, 1302, 0)) (l_y6 : 0 ≤ y6.toInt) (u_y6 : y6.toInt ≤ 900) (l_y7 : 0 ≤ y7.toInt) (u_y7 : y7.toInt ≤ 900) (l_y8 : 0 ≤ y8.toInt) (u_y8 : y8.toInt ≤ 900) (l_y10 : 0 ≤ y10.toInt) (u_y10 : y10.toInt ≤ 999) (k1 : y6.toInt ≤ y7.toInt) (k2 : y7.toInt ≤ y8.toInt) (k3 : TK3 y9 y6 y7) (k4 : y9.toInt ≠ 22) (k5 : y11.toInt = 0) (hO : okO T (a0 :: O) [1]) : TK l D cs kf yX12_goesIn cX12_goesIn 2 (some (.boolean)) { frames := 6, cells := 0, slots := 0, locals := 129 } [.ref a0, .int x1] T (a0 :: O) ((a0, .inr (12, o0 :: o1 :: o2 :: (.ref y3) :: (.ref y4) :: o5 :: (.int y6) :: (.int y7) :: (.int y8) :: (.int y9) :: (.int y10) :: (.int y11) :: (.int y12) :: tl)) :: X) (Ti D cs (fun r u => ∃ (n0_6 : Int32) (n0_7 : Int32) (n0_9 : Int32) (n0_10 : Int32) (n0_11 : Int32) (n0_12 : Int32), u = (T, a0 :: O, (a0, .inr (12, o0 :: o1 :: o2 :: (.ref y3) :: (.ref y4) :: o5 :: (.int n0_6) :: (.int n0_7) :: (.int y8) :: (.int n0_9) :: (.int n0_10) :: (.int n0_11) :: (.int n0_12) :: tl)) :: X) ∧ 0 ≤ r.toInt ∧ r.toInt ≤ 1 ∧ (y6.toInt ≤ n0_6.toInt) ∧ (n0_6.toInt ≤ n0_7.toInt) ∧ (n0_7.toInt ≤ y8.toInt) ∧ (TK3 n0_9 n0_6 n0_7) ∧ (0 ≤ n0_10.toInt) ∧ (n0_10.toInt ≤ 999) ∧ (r.toInt = 0 ∨ (n0_11.toInt = 0 ∧ y6.toInt + 1 ≤ n0_6.toInt)) ∧ (r.toInt ≠ 0 ∨ NZ n0_11))) := by
  refine tk_of (by decide) (Nat.le_of_ble_eq_true rfl) (fun p e s m below meth c ls A H locs hx hb hr hml hown hts hlocks hnm hkb hH hS hA hOX hks hE hl => ?_)
  have hown : s.vm.findClass RX12 = some m.cls := hown
  have hl : lv_has ls 2 [(0, .ref a0), (1, .int x1)] := hl
  have hOXf := hOX
  have hk3 := k3 k4
  refine lv_iload_n hx hb dX12_goesIn_0 rfl (lv_at hl 1 rfl) ?_
  refine lv_bipush (v := 6) hx hb dX12_goesIn_1 (by decide) ?_
  refine lv_icmp_ne (tgt := 11) hx hb dX12_goesIn_3 (by decide) (fun c3 => ?_) (fun c3 => ?_)
  · skip
    have tc3 := f_ne (k := 6) (by decide) c3
    refine lv_aload_n hx hb dX12_goesIn_11 rfl (lv_at hl 0 rfl) ?_
    refine x_getk (ci := 12) (C := RX12) (F := TX12) (N := 36) (v := .int y11) hx hb hts uX12 hown hkb hH 0 rfl rfl 11 (by decide) rfl kw_1234 (fun _ h9 => h9) dX12_goesIn_12 ?_
    refine lv_if_ne (tgt := 22) hx hb dX12_goesIn_15 (by decide) (fun c15 => ?_) (fun c15 => ?_)
    · skip
      have tc15 := f_ne (k := 0) (by decide) c15
      refine lv_aload_n hx hb dX12_goesIn_22 rfl (lv_at hl 0 rfl) ?_
      refine x_getk (ci := 12) (C := RX12) (F := TX12) (N := 36) (v := .int y11) hx hb hts uX12 hown hkb hH 0 rfl rfl 11 (by decide) rfl kw_1234 (fun _ h9 => h9) dX12_goesIn_23 ?_
      refine lv_if_ne (tgt := 33) hx hb dX12_goesIn_26 (by decide) (fun c26 => ?_) (fun c26 => ?_)
      · skip
        have tc26 := f_ne (k := 0) (by decide) c26
        refine lv_iconst (v := 0) hx hb dX12_goesIn_33 (by decide) ?_
        have z9_0 : (0 : Int32).toInt = 0 := by decide
        exact te_z hx hb hr hlocks (by rfl) hH hS (⟨y6, y7, y9, y10, y11, y12, rfl, by decide, by decide, by omega, by omega, by omega, k3, by omega, by omega, by omega, (by first | (refine Or.inr ?_; unfold NZ; omega))⟩) dX12_goesIn_34
      · skip
        have tc26 := f_eq (k := 0) (by decide) c26
        refine lv_iconst (v := 1) hx hb dX12_goesIn_29 (by decide) ?_
        refine lv_goto (tgt := 34) hx hb dX12_goesIn_30 (by decide) ?_
        have z9_1 : (1 : Int32).toInt = 1 := by decide
        exact te_z hx hb hr hlocks (by rfl) hH hS (⟨y6, y7, y9, y10, y11, y12, rfl, by decide, by decide, by omega, by omega, by omega, k3, by omega, by omega, by omega, (Or.inl (by decide))⟩) dX12_goesIn_34
    · skip
      have tc15 := f_eq (k := 0) (by decide) c15
      refine lv_aload_n hx hb dX12_goesIn_18 rfl (lv_at hl 0 rfl) ?_
      refine tk_v hH hS hA (tr_V (n := 0) (As := []) hx hb hml hown hts hkb hH (ox_map hOX rfl) hks hE hS hA (s_M_next l D cs kf T O X a0 hg mq o0 o1 o2 y3 y4 o5 y6 y7 y8 y9 y10 y11 y12 tl t_a0 b_hg t_y3 t_y4 (by omega) (by omega) (by omega) (by omega) (by omega) (by omega) (by omega) (by omega) (by omega) (hO.sub (by decide))) kw_1344 kw_1346 ks_43 kw_13 kw_1347 (by decide +kernel) ⟨Nat.le_of_ble_eq_true rfl, Nat.le_of_ble_eq_true rfl⟩ (x_recv (ci := 12) hkb hH 0 rfl rfl) rfl rfl hl.1 (Nat.le_of_ble_eq_true rfl) dX12_goesIn_19 ⟨Nat.le_of_ble_eq_true rfl, Nat.le_of_ble_eq_true rfl⟩) (fun u H locs hz9 hH hS => ?_)
      obtain ⟨n19_0_6, n19_0_7, n19_0_9, n19_0_10, rfl, x_v190, x_v191, x_v192, x_v193, x_v194, x_v195⟩ := hz9
      have hH : HT D cs A T (a0 :: O) ((a0, .inr (12, o0 :: o1 :: o2 :: (.ref y3) :: (.ref y4) :: o5 :: (.int n19_0_6) :: (.int n19_0_7) :: (.int y8) :: (.int n19_0_9) :: (.int n19_0_10) :: (.int y11) :: (.int y12) :: tl)) :: X) H := hH
      refine W.widen (k := 0) (n := 0) (Nat.le_of_ble_eq_true rfl) (Nat.le_of_ble_eq_true rfl) ?_
      refine lv_aload_n hx hb dX12_goesIn_22 rfl (lv_at hl 0 rfl) ?_
      refine x_getk (ci := 12) (C := RX12) (F := TX12) (N := 36) (v := .int y11) hx hb hts uX12 hown hkb hH 0 rfl rfl 11 (by decide) rfl kw_1234 (fun _ h9 => h9) dX12_goesIn_23 ?_
      refine lv_if_ne (tgt := 33) hx hb dX12_goesIn_26 (by decide) (fun c26 => ?_) (fun c26 => ?_)
      · skip
        have tc26 := f_ne (k := 0) (by decide) c26
        exfalso; omega
      · skip
        have tc26 := f_eq (k := 0) (by decide) c26
        refine lv_iconst (v := 1) hx hb dX12_goesIn_29 (by decide) ?_
        refine lv_goto (tgt := 34) hx hb dX12_goesIn_30 (by decide) ?_
        have z9_1 : (1 : Int32).toInt = 1 := by decide
        exact te_z hx hb hr hlocks (by rfl) hH hS (⟨n19_0_6, n19_0_7, n19_0_9, n19_0_10, y11, y12, rfl, by decide, by decide, by omega, by omega, by omega, x_v193, by omega, by omega, by omega, (Or.inl (by decide))⟩) dX12_goesIn_34
  · skip
    have tc3 := f_eq (k := 6) (by decide) c3
    exfalso; omega
set_option maxHeartbeats 4000000 in
set_option maxRecDepth 100000 in
theorem s_M_goesIn6 (l : Launch) (D : va_G) (cs : CS) (kf : KF) (T : TF) (O : List Nat) (X : va_W) (a0 hg mq : Nat) (x1 : Int32) (o0 : Value) (o1 : Value) (o2 : Value) (y3 : Nat) (y4 : Nat) (o5 : Value) (y6 : Int32) (y7 : Int32) (y8 : Int32) (y9 : Int32) (y10 : Int32) (y11 : Int32) (y12 : Int32) (tl : List Value) (t_a0 : T a0 = some (22, hg, mq)) (b_hg : hg < 90) (l_x1 : 6 ≤ x1.toInt) (u_x1 : x1.toInt ≤ 6) (t_y3 : T y3 = some (1, 900, 0)) (t_y4 : T y4 = some (8, 1302, 0)) (l_y6 : 0 ≤ y6.toInt) (u_y6 : y6.toInt ≤ 900) (l_y7 : 0 ≤ y7.toInt) (u_y7 : y7.toInt ≤ 900) (l_y8 : 0 ≤ y8.toInt) (u_y8 : y8.toInt ≤ 900) (l_y10 : 0 ≤ y10.toInt) (u_y10 : y10.toInt ≤ 999) (k1 : y6.toInt ≤ y7.toInt) (k2 : y7.toInt ≤ y8.toInt) (k3 : TK3 y9 y6 y7) (k4 : y9.toInt ≠ 22) (k5 : y11.toInt = 0) (hO : okO T (a0 :: O) [1]) : TK l D cs kf yX12_goesIn cX12_goesIn 2 (some (.boolean)) { frames := 6, cells := 0, slots := 0, locals := 129 } [.ref a0, .int x1] T (a0 :: O) ((a0, .inr (12, o0 :: o1 :: o2 :: (.ref y3) :: (.ref y4) :: o5 :: (.int y6) :: (.int y7) :: (.int y8) :: (.int y9) :: (.int y10) :: (.int y11) :: (.int y12) :: tl)) :: X) (Ti D cs (fun r u => ∃ (n0_6 : Int32) (n0_7 : Int32) (n0_9 : Int32) (n0_10 : Int32) (n0_11 : Int32) (n0_12 : Int32), u = (T, a0 :: O, (a0, .inr (12, o0 :: o1 :: o2 :: (.ref y3) :: (.ref y4) :: o5 :: (.int n0_6) :: (.int n0_7) :: (.int y8) :: (.int n0_9) :: (.int n0_10) :: (.int n0_11) :: (.int n0_12) :: tl)) :: X) ∧ 0 ≤ r.toInt ∧ r.toInt ≤ 0 ∧ (y6.toInt ≤ n0_6.toInt) ∧ (n0_6.toInt ≤ n0_7.toInt) ∧ (n0_7.toInt ≤ y8.toInt) ∧ (TK3 n0_9 n0_6 n0_7) ∧ (0 ≤ n0_10.toInt) ∧ (n0_10.toInt ≤ 999) ∧ (r.toInt = 0 ∨ (n0_11.toInt = 0 ∧ y6.toInt + 1 ≤ n0_6.toInt)) ∧ (r.toInt ≠ 0 ∨ NZ n0_11))) := by
  refine tk_of (by decide) (Nat.le_of_ble_eq_true rfl) (fun p e s m below meth c ls A H locs hx hb hr hml hown hts hlocks hnm hkb hH hS hA hOX hks hE hl => ?_)
  have hown : s.vm.findClass RX12 = some m.cls := hown
  have hl : lv_has ls 2 [(0, .ref a0), (1, .int x1)] := hl
  have hOXf := hOX
  have hk3 := k3 k4
  refine lv_iload_n hx hb dX12_goesIn_0 rfl (lv_at hl 1 rfl) ?_
  refine lv_bipush (v := 6) hx hb dX12_goesIn_1 (by decide) ?_
  refine lv_icmp_ne (tgt := 11) hx hb dX12_goesIn_3 (by decide) (fun c3 => ?_) (fun c3 => ?_)
  · skip
    have tc3 := f_ne (k := 6) (by decide) c3
    exfalso; omega
  · skip
    have tc3 := f_eq (k := 6) (by decide) c3
    refine lv_aload_n hx hb dX12_goesIn_6 rfl (lv_at hl 0 rfl) ?_
    refine lv_iconst (v := 4) hx hb dX12_goesIn_7 (by decide) ?_
    have z9_4 : (4 : Int32).toInt = 4 := by decide
    refine tk_v hH hS hA (tr_V (n := 1) (As := [.int 4]) hx hb hml hown hts hkb hH (ox_map hOX rfl) hks hE hS hA (s_M_fails l D cs kf T O X a0 hg mq (4) o0 o1 o2 y3 y4 o5 y6 y7 y8 y9 y10 y11 y12 tl t_a0 b_hg (by decide) (by decide) t_y3 t_y4 (by omega) (by omega) (by omega) (by omega) (by omega) (by omega) (by omega) (by omega) (hO.sub (by decide))) kw_1378 kw_1380 ks_49 kw_13 kw_1381 (by decide +kernel) ⟨Nat.le_of_ble_eq_true rfl, Nat.le_of_ble_eq_true rfl⟩ (x_recv (ci := 12) hkb hH 0 rfl rfl) rfl rfl hl.1 (Nat.le_of_ble_eq_true rfl) dX12_goesIn_8 ⟨Nat.le_of_ble_eq_true rfl, Nat.le_of_ble_eq_true rfl⟩) (fun u H locs hz9 hH hS => ?_)
    obtain ⟨n8_0_11, n8_0_12, rfl, x_v80⟩ := hz9
    have hH : HT D cs A T (a0 :: O) ((a0, .inr (12, o0 :: o1 :: o2 :: (.ref y3) :: (.ref y4) :: o5 :: (.int y6) :: (.int y7) :: (.int y8) :: (.int y9) :: (.int y10) :: (.int n8_0_11) :: (.int n8_0_12) :: tl)) :: X) H := hH
    refine W.widen (k := 0) (n := 0) (Nat.le_of_ble_eq_true rfl) (Nat.le_of_ble_eq_true rfl) ?_
    refine lv_aload_n hx hb dX12_goesIn_11 rfl (lv_at hl 0 rfl) ?_
    refine x_getk (ci := 12) (C := RX12) (F := TX12) (N := 36) (v := .int n8_0_11) hx hb hts uX12 hown hkb hH 0 rfl rfl 11 (by decide) rfl kw_1234 (fun _ h9 => h9) dX12_goesIn_12 ?_
    refine lv_if_ne (tgt := 22) hx hb dX12_goesIn_15 (by decide) (fun c15 => ?_) (fun c15 => ?_)
    · skip
      have tc15 := f_ne (k := 0) (by decide) c15
      refine lv_aload_n hx hb dX12_goesIn_22 rfl (lv_at hl 0 rfl) ?_
      refine x_getk (ci := 12) (C := RX12) (F := TX12) (N := 36) (v := .int n8_0_11) hx hb hts uX12 hown hkb hH 0 rfl rfl 11 (by decide) rfl kw_1234 (fun _ h9 => h9) dX12_goesIn_23 ?_
      refine lv_if_ne (tgt := 33) hx hb dX12_goesIn_26 (by decide) (fun c26 => ?_) (fun c26 => ?_)
      · skip
        have tc26 := f_ne (k := 0) (by decide) c26
        refine lv_iconst (v := 0) hx hb dX12_goesIn_33 (by decide) ?_
        have z9_0 : (0 : Int32).toInt = 0 := by decide
        exact te_z hx hb hr hlocks (by rfl) hH hS (⟨y6, y7, y9, y10, n8_0_11, n8_0_12, rfl, by decide, by decide, by omega, by omega, by omega, k3, by omega, by omega, by omega, (by first | exact (Or.inr x_v80) | (refine Or.inr ?_; unfold NZ; omega))⟩) dX12_goesIn_34
      · skip
        have tc26 := f_eq (k := 0) (by decide) c26
        have hz9 : (0 : Int) = 1 := absurd tc26 x_v80
        refine lv_iconst (v := 1) hx hb dX12_goesIn_29 (by decide) ?_
        refine lv_goto (tgt := 34) hx hb dX12_goesIn_30 (by decide) ?_
        have z9_1 : (1 : Int32).toInt = 1 := by decide
        exact te_z hx hb hr hlocks (by rfl) hH hS (⟨y6, y7, y9, y10, n8_0_11, n8_0_12, rfl, by omega, by omega, by omega, by omega, by omega, k3, by omega, by omega, by omega, (Or.inl (by decide))⟩) dX12_goesIn_34
    · skip
      have tc15 := f_eq (k := 0) (by decide) c15
      have hz9 : (0 : Int) = 1 := absurd tc15 x_v80
      refine lv_aload_n hx hb dX12_goesIn_18 rfl (lv_at hl 0 rfl) ?_
      refine tk_v hH hS hA (tr_V (n := 0) (As := []) hx hb hml hown hts hkb hH (ox_map hOX rfl) hks hE hS hA (s_M_next l D cs kf T O X a0 hg mq o0 o1 o2 y3 y4 o5 y6 y7 y8 y9 y10 n8_0_11 n8_0_12 tl t_a0 b_hg t_y3 t_y4 (by omega) (by omega) (by omega) (by omega) (by omega) (by omega) (by omega) (by omega) (by omega) (hO.sub (by decide))) kw_1344 kw_1346 ks_43 kw_13 kw_1347 (by decide +kernel) ⟨Nat.le_of_ble_eq_true rfl, Nat.le_of_ble_eq_true rfl⟩ (x_recv (ci := 12) hkb hH 0 rfl rfl) rfl rfl hl.1 (Nat.le_of_ble_eq_true rfl) dX12_goesIn_19 ⟨Nat.le_of_ble_eq_true rfl, Nat.le_of_ble_eq_true rfl⟩) (fun u H locs hz9 hH hS => ?_)
      obtain ⟨n19_0_6, n19_0_7, n19_0_9, n19_0_10, rfl, x_v190, x_v191, x_v192, x_v193, x_v194, x_v195⟩ := hz9
      have hH : HT D cs A T (a0 :: O) ((a0, .inr (12, o0 :: o1 :: o2 :: (.ref y3) :: (.ref y4) :: o5 :: (.int n19_0_6) :: (.int n19_0_7) :: (.int y8) :: (.int n19_0_9) :: (.int n19_0_10) :: (.int n8_0_11) :: (.int n8_0_12) :: tl)) :: X) H := hH
      refine W.widen (k := 0) (n := 0) (Nat.le_of_ble_eq_true rfl) (Nat.le_of_ble_eq_true rfl) ?_
      refine lv_aload_n hx hb dX12_goesIn_22 rfl (lv_at hl 0 rfl) ?_
      refine x_getk (ci := 12) (C := RX12) (F := TX12) (N := 36) (v := .int n8_0_11) hx hb hts uX12 hown hkb hH 0 rfl rfl 11 (by decide) rfl kw_1234 (fun _ h9 => h9) dX12_goesIn_23 ?_
      refine lv_if_ne (tgt := 33) hx hb dX12_goesIn_26 (by decide) (fun c26 => ?_) (fun c26 => ?_)
      · skip
        have tc26 := f_ne (k := 0) (by decide) c26
        exfalso; omega
      · skip
        have tc26 := f_eq (k := 0) (by decide) c26
        have hz9 : (0 : Int) = 1 := absurd tc26 x_v80
        refine lv_iconst (v := 1) hx hb dX12_goesIn_29 (by decide) ?_
        refine lv_goto (tgt := 34) hx hb dX12_goesIn_30 (by decide) ?_
        have z9_1 : (1 : Int32).toInt = 1 := by decide
        exact te_z hx hb hr hlocks (by rfl) hH hS (⟨n19_0_6, n19_0_7, n19_0_9, n19_0_10, n8_0_11, n8_0_12, rfl, by omega, by omega, by omega, by omega, by omega, x_v193, by omega, by omega, by omega, (Or.inl (by decide))⟩) dX12_goesIn_34
