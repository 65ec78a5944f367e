set_option maxHeartbeats 4000000 in
set_option maxRecDepth 100000 in
theorem s_M_goes (l : Launch) (D : va_G) (cs : CS) (kf : KF) (T : TF) (O : List Nat) (X : va_W) (a0 hg mq : Nat) (x1 : Int32) (t_a0 : T a0 = some (22, hg, mq)) (b_hg : hg < 90) (hO : okO T O [1, 8, 9, 22]) : TK l D cs kf yX12_goes cX12_goes 3 (some (.int)) { frames := 6, cells := 0, slots := 0, locals := 140 } [.ref a0, .int x1] T O X (Ti D cs (fun r u => u = (T, O, X))) := by
  refine tk_of (by decide) (Nat.le_of_ble_eq_true rfl) (fun p e s m below meth c ls A H locs hx hb hr hml hown hts hlocks hnm hkb hH hS hA hOX hks hE hl => ?_)
  have hown : s.vm.findClass RX12 = some m.cls := hown
  have hl : lv_has ls 3 [(0, .ref a0), (1, .int x1)] := hl
  refine lv_aload_n hx hb dX12_goes_0 rfl (lv_at hl 0 rfl) ?_
  refine lv_iconst (v := 0) hx hb dX12_goes_1 (by decide) ?_
  refine t_put (ci := 12) (lst := ft12 hg mq) (v := .int 0) (ty := tyX12 0) (C := RX12) (F := TX12) (N := 36) hx hb hts uX12 tyX12 tyX12_ok nmX12 hown hkb hH hS t_a0 (hO.no t_a0 (by decide)) (fun _ => Iff.rfl) rfl rfl 0 (by decide) rfl (⟨_, rfl⟩) kw_1223 (fun _ h9 => h9) rfl (tyX12_ok 0 (by decide)) rfl rfl dX12_goes_2 (fun H locs hH hS => ?_)
  refine lv_aload_n hx hb dX12_goes_5 rfl (lv_at hl 0 rfl) ?_
  refine lv_iload_n hx hb dX12_goes_6 rfl (lv_at hl 1 rfl) ?_
  refine lv_i2l hx hb dX12_goes_7 rfl ?_
  refine tk_i hH hS hA (tr_V (n := 1) (As := [.long x1.toInt64]) hx hb hml hown hts hkb hH hOX hks hE hS hA (s_M_isGuide l D cs kf T O X a0 hg mq x1.toInt64 t_a0 b_hg (hO.sub (by decide))) kw_1470 kw_1472 ks_67 kw_13 kw_1473 (by decide +kernel) ⟨Nat.le_of_ble_eq_true rfl, Nat.le_of_ble_eq_true rfl⟩ (HT.recv (ci := 12) hkb hH t_a0 (hO.no t_a0 (by decide)) rfl) rfl rfl hl.1 (Nat.le_of_ble_eq_true rfl) dX12_goes_8 ⟨Nat.le_of_ble_eq_true rfl, Nat.le_of_ble_eq_true rfl⟩) (fun v8 u H locs hz9 hH hS => ?_)
  obtain ⟨rfl, l_v8, u_v8, x_v80⟩ := hz9
  simp only [Int32.toInt_toInt64] at x_v80
  have hH : HT D cs A T O X H := hH
  refine W.widen (k := 0) (n := 0) (Nat.le_of_ble_eq_true rfl) (Nat.le_of_ble_eq_true rfl) ?_
  refine lv_if_ne (tgt := 17) hx hb dX12_goes_11 (by decide) (fun c11 => ?_) (fun c11 => ?_)
  · skip
    have tc11 := f_ne (k := 0) (by decide) c11
    replace x_v80 := x_v80.resolve_left tc11
    refine lv_aload_n hx hb dX12_goes_17 rfl (lv_at hl 0 rfl) ?_
    refine lv_iload_n hx hb dX12_goes_18 rfl (lv_at hl 1 rfl) ?_
    refine tk_i hH hS hA (tr_V (n := 1) (As := [.int x1]) hx hb hml hown hts hkb hH hOX hks hE hS hA (s_M_laysWayOf l D cs kf T O X a0 hg mq x1 t_a0 b_hg (by omega) (by omega) (hO.sub (by decide))) kw_1560 kw_1562 ks_82 kw_13 kw_1563 (by decide +kernel) ⟨Nat.le_of_ble_eq_true rfl, Nat.le_of_ble_eq_true rfl⟩ (HT.recv (ci := 12) hkb hH t_a0 (hO.no t_a0 (by decide)) rfl) rfl rfl hl.1 (Nat.le_of_ble_eq_true rfl) dX12_goes_19 ⟨Nat.le_of_ble_eq_true rfl, Nat.le_of_ble_eq_true rfl⟩) (fun v19 u H locs hz9 hH hS => ?_)
    obtain ⟨rfl, l_v19, u_v19⟩ := hz9
    have hH : HT D cs A T O X H := hH
    refine W.widen (k := 0) (n := 0) (Nat.le_of_ble_eq_true rfl) (Nat.le_of_ble_eq_true rfl) ?_
    refine lv_if_ne (tgt := 28) hx hb dX12_goes_22 (by decide) (fun c22 => ?_) (fun c22 => ?_)
    · skip
      have tc22 := f_ne (k := 0) (by decide) c22
      refine lv_aload_n hx hb dX12_goes_28 rfl (lv_at hl 0 rfl) ?_
      refine tk_v hH hS hA (tr_V (n := 0) (As := []) hx hb hml hown hts hkb hH hOX hks hE hS hA (s_M_keeps l D cs kf T O X a0 hg mq t_a0 b_hg (hO.sub (by decide))) kw_1544 kw_1546 ks_79 kw_13 kw_1547 (by decide +kernel) ⟨Nat.le_of_ble_eq_true rfl, Nat.le_of_ble_eq_true rfl⟩ (HT.recv (ci := 12) hkb hH t_a0 (hO.no t_a0 (by decide)) rfl) rfl rfl hl.1 (Nat.le_of_ble_eq_true rfl) dX12_goes_29 ⟨Nat.le_of_ble_eq_true rfl, Nat.le_of_ble_eq_true rfl⟩) (fun u H locs hz9 hH hS => ?_)
      have hz9 : u = (T, O, X) := hz9
      subst hz9
      have hH : HT D cs A T O X H := hH
      refine W.widen (k := 0) (n := 0) (Nat.le_of_ble_eq_true rfl) (Nat.le_of_ble_eq_true rfl) ?_
      refine lv_aload_n hx hb dX12_goes_32 rfl (lv_at hl 0 rfl) ?_
      refine lv_iload_n hx hb dX12_goes_33 rfl (lv_at hl 1 rfl) ?_
      refine tk_i hH hS hA (tr_V (n := 1) (As := [.int x1]) hx hb hml hown hts hkb hH hOX hks hE hS hA (s_M_usesRow l D cs kf T O X a0 hg mq x1 t_a0 b_hg (hO.sub (by decide))) kw_1548 kw_1550 ks_80 kw_13 kw_1551 (by decide +kernel) ⟨Nat.le_of_ble_eq_true rfl, Nat.le_of_ble_eq_true rfl⟩ (HT.recv (ci := 12) hkb hH t_a0 (hO.no t_a0 (by decide)) rfl) rfl rfl hl.1 (Nat.le_of_ble_eq_true rfl) dX12_goes_34 ⟨Nat.le_of_ble_eq_true rfl, Nat.le_of_ble_eq_true rfl⟩) (fun v34 u H locs hz9 hH hS => ?_)
      have hz9 : u = (T, O, X) := hz9
      subst hz9
      have hH : HT D cs A T O X H := hH
      refine W.widen (k := 0) (n := 0) (Nat.le_of_ble_eq_true rfl) (Nat.le_of_ble_eq_true rfl) ?_
      refine lv_istore_n (lv' := [(2, .int v34), (0, .ref a0), (1, .int x1)]) hx hb dX12_goes_37 rfl hl (by decide) rfl (fun ls hl => ?_)
      refine lv_aload_n hx hb dX12_goes_38 rfl (lv_at hl 1 rfl) ?_
      refine tk_v hH hS hA (tr_V (n := 0) (As := []) hx hb hml hown hts hkb hH hOX hks hE hS hA (s_M_notes l D cs kf T O X a0 hg mq t_a0 b_hg (hO.sub (by decide))) kw_1552 kw_1554 ks_81 kw_13 kw_1555 (by decide +kernel) ⟨Nat.le_of_ble_eq_true rfl, Nat.le_of_ble_eq_true rfl⟩ (HT.recv (ci := 12) hkb hH t_a0 (hO.no t_a0 (by decide)) rfl) rfl rfl hl.1 (Nat.le_of_ble_eq_true rfl) dX12_goes_39 ⟨Nat.le_of_ble_eq_true rfl, Nat.le_of_ble_eq_true rfl⟩) (fun u H locs hz9 hH hS => ?_)
      obtain ⟨rfl⟩ := hz9
      have hH : HT D cs A T O X H := hH
      refine W.widen (k := 0) (n := 0) (Nat.le_of_ble_eq_true rfl) (Nat.le_of_ble_eq_true rfl) ?_
      refine lv_iload_n hx hb dX12_goes_42 rfl (lv_at hl 0 rfl) ?_
      exact te_i hx hb hr hlocks hH hS (rfl) dX12_goes_43
    · skip
      have tc22 := f_eq (k := 0) (by decide) c22
      refine lv_bipush (v := (-5)) hx hb dX12_goes_25 (by decide) ?_
      exact te_i hx hb hr hlocks hH hS (rfl) dX12_goes_27
  · skip
    have tc11 := f_eq (k := 0) (by decide) c11
    clear x_v80
    refine lv_bipush (v := (-2)) hx hb dX12_goes_14 (by decide) ?_
    exact te_i hx hb hr hlocks hH hS (rfl) dX12_goes_16
set_option maxHeartbeats 4000000 in
set_option maxRecDepth 100000 in
theorem s_M_way (l : Launch) (D : va_G) (cs : CS) (kf : KF) (T : TF) (O : List Nat) (X : va_W) (a0 hg mq : Nat) (x1 : Int32) (x2 : Int32) (t_a0 : T a0 = some (22, hg, mq)) (b_hg : hg < 90) (hO : okO T O [1, 8, 9, 22]) : TK l D cs kf yX12_way cX12_way 3 (some (.int)) { frames := 6, cells := 0, slots := 0, locals := 140 } [.ref a0, .int x1, .int x2] T O X (Ti D cs (fun r u => u = (T, O, X) ∧ -2 ≤ r.toInt ∧ r.toInt ≤ 14)) := by
  refine tk_of (by decide) (Nat.le_of_ble_eq_true rfl) (fun p e s m below meth c ls A H locs hx hb hr hml hown hts hlocks hnm hkb hH hS hA hOX hks hE hl => ?_)
  have hown : s.vm.findClass RX12 = some m.cls := hown
  have hl : lv_has ls 3 [(0, .ref a0), (1, .int x1), (2, .int x2)] := hl
  refine lv_aload_n hx hb dX12_way_0 rfl (lv_at hl 0 rfl) ?_
  refine lv_iconst (v := 0) hx hb dX12_way_1 (by decide) ?_
  refine t_put (ci := 12) (lst := ft12 hg mq) (v := .int 0) (ty := tyX12 0) (C := RX12) (F := TX12) (N := 36) hx hb hts uX12 tyX12 tyX12_ok nmX12 hown hkb hH hS t_a0 (hO.no t_a0 (by decide)) (fun _ => Iff.rfl) rfl rfl 0 (by decide) rfl (⟨_, rfl⟩) kw_1223 (fun _ h9 => h9) rfl (tyX12_ok 0 (by decide)) rfl rfl dX12_way_2 (fun H locs hH hS => ?_)
  refine lv_aload_n hx hb dX12_way_5 rfl (lv_at hl 0 rfl) ?_
  refine lv_iload_n hx hb dX12_way_6 rfl (lv_at hl 1 rfl) ?_
  refine lv_i2l hx hb dX12_way_7 rfl ?_
  refine tk_i hH hS hA (tr_V (n := 1) (As := [.long x1.toInt64]) hx hb hml hown hts hkb hH hOX hks hE hS hA (s_M_isGuide l D cs kf T O X a0 hg mq x1.toInt64 t_a0 b_hg (hO.sub (by decide))) kw_1470 kw_1472 ks_67 kw_13 kw_1473 (by decide +kernel) ⟨Nat.le_of_ble_eq_true rfl, Nat.le_of_ble_eq_true rfl⟩ (HT.recv (ci := 12) hkb hH t_a0 (hO.no t_a0 (by decide)) rfl) rfl rfl hl.1 (Nat.le_of_ble_eq_true rfl) dX12_way_8 ⟨Nat.le_of_ble_eq_true rfl, Nat.le_of_ble_eq_true rfl⟩) (fun v8 u H locs hz9 hH hS => ?_)
  obtain ⟨rfl, l_v8, u_v8, x_v80⟩ := hz9
  simp only [Int32.toInt_toInt64] at x_v80
  have hH : HT D cs A T O X H := hH
  refine W.widen (k := 0) (n := 0) (Nat.le_of_ble_eq_true rfl) (Nat.le_of_ble_eq_true rfl) ?_
  refine lv_if_eq (tgt := 32) hx hb dX12_way_11 (by decide) (fun c11 => ?_) (fun c11 => ?_)
  · skip
    have tc11 := f_eq (k := 0) (by decide) c11
    clear x_v80
    refine lv_bipush (v := (-2)) hx hb dX12_way_32 (by decide) ?_
    exact te_i hx hb hr hlocks hH hS (⟨rfl, by decide, by decide⟩) dX12_way_34
  · skip
    have tc11 := f_ne (k := 0) (by decide) c11
    replace x_v80 := x_v80.resolve_left tc11
    refine lv_iload_n hx hb dX12_way_14 rfl (lv_at hl 2 rfl) ?_
    refine lv_if_eq (tgt := 35) hx hb dX12_way_15 (by decide) (fun c15 => ?_) (fun c15 => ?_)
    · skip
      have tc15 := f_eq (k := 0) (by decide) c15
      refine lv_aload_n hx hb dX12_way_35 rfl (lv_at hl 0 rfl) ?_
      refine lv_iload_n hx hb dX12_way_36 rfl (lv_at hl 1 rfl) ?_
      refine tk_i hH hS hA (tr_V (n := 1) (As := [.int x1]) hx hb hml hown hts hkb hH hOX hks hE hS hA (s_M_laysWayOf l D cs kf T O X a0 hg mq x1 t_a0 b_hg (by omega) (by omega) (hO.sub (by decide))) kw_1560 kw_1562 ks_82 kw_13 kw_1563 (by decide +kernel) ⟨Nat.le_of_ble_eq_true rfl, Nat.le_of_ble_eq_true rfl⟩ (HT.recv (ci := 12) hkb hH t_a0 (hO.no t_a0 (by decide)) rfl) rfl rfl hl.1 (Nat.le_of_ble_eq_true rfl) dX12_way_37 ⟨Nat.le_of_ble_eq_true rfl, Nat.le_of_ble_eq_true rfl⟩) (fun v37 u H locs hz9 hH hS => ?_)
      obtain ⟨rfl, l_v37, u_v37⟩ := hz9
      have hH : HT D cs A T O X H := hH
      refine W.widen (k := 0) (n := 0) (Nat.le_of_ble_eq_true rfl) (Nat.le_of_ble_eq_true rfl) ?_
      refine lv_if_ne (tgt := 45) hx hb dX12_way_40 (by decide) (fun c40 => ?_) (fun c40 => ?_)
      · skip
        have tc40 := f_ne (k := 0) (by decide) c40
        refine lv_iload_n hx hb dX12_way_45 rfl (lv_at hl 2 rfl) ?_
        refine lv_if_ne (tgt := 56) hx hb dX12_way_46 (by decide) (fun c46 => ?_) (fun c46 => ?_)
        · skip
          have tc46 := f_ne (k := 0) (by decide) c46
          exfalso; omega
        · skip
          have tc46 := f_eq (k := 0) (by decide) c46
          refine lv_aload_n hx hb dX12_way_49 rfl (lv_at hl 0 rfl) ?_
          refine t_get (ci := 12) (lst := ft12 hg mq) (C := RX12) (F := TX12) (N := 36) hx hb hts uX12 hown hkb hH t_a0 (hO.no t_a0 (by decide)) (fun _ h9 => h9) rfl rfl 20 (by decide) rfl kw_1243 (fun _ h9 => h9) dX12_way_50 (fun v9 h9 => ?_)
          obtain ⟨v50, rfl, l_v50, u_v50⟩ := h9
          refine lv_goto (tgt := 80) hx hb dX12_way_53 (by decide) ?_
          exact te_i hx hb hr hlocks hH hS (⟨rfl, by omega, by omega⟩) dX12_way_80
      · skip
        have tc40 := f_eq (k := 0) (by decide) c40
        refine lv_iconst (v := (-1)) hx hb dX12_way_43 (by decide) ?_
        exact te_i hx hb hr hlocks hH hS (⟨rfl, by decide, by decide⟩) dX12_way_44
    · skip
      have tc15 := f_ne (k := 0) (by decide) c15
      refine lv_iload_n hx hb dX12_way_18 rfl (lv_at hl 2 rfl) ?_
      refine lv_i2l hx hb dX12_way_19 rfl ?_
      refine lv_ldc2 hx hb hown (hts _ kw_1602) dX12_way_20 ?_
      refine lv_ldc2 hx hb hown (hts _ kw_1617) dX12_way_23 ?_
      refine tk_i hH hS hA (tr_S (n := 3) (As := [.long x2.toInt64, .long 10, .long 23]) hx hb hml hown hts hkb hH hOX hks hE hS hA (s_M_within l D cs kf T O X x2.toInt64 10 23  (hO.sub (by decide))) kw_1341 kw_1342 kw_13 kw_1343 (by decide +kernel) ⟨Nat.le_of_ble_eq_true rfl, Nat.le_of_ble_eq_true rfl⟩ rfl rfl hl.1 (Nat.le_of_ble_eq_true rfl) dX12_way_26 ⟨Nat.le_of_ble_eq_true rfl, Nat.le_of_ble_eq_true rfl⟩) (fun v26 u H locs hz9 hH hS => ?_)
      obtain ⟨rfl, l_v26, u_v26, x_v260, x_v261⟩ := hz9
      simp only [Int32.toInt_toInt64] at x_v260 x_v261
      have k9_10 : (10 : Int64).toInt = 10 := by decide
      have k9_23 : (23 : Int64).toInt = 23 := by decide
      have hH : HT D cs A T O X H := hH
      refine W.widen (k := 0) (n := 0) (Nat.le_of_ble_eq_true rfl) (Nat.le_of_ble_eq_true rfl) ?_
      refine lv_if_ne (tgt := 35) hx hb dX12_way_29 (by decide) (fun c29 => ?_) (fun c29 => ?_)
      · skip
        have tc29 := f_ne (k := 0) (by decide) c29
        replace x_v260 := x_v260.resolve_left tc29
        clear x_v261
        refine lv_aload_n hx hb dX12_way_35 rfl (lv_at hl 0 rfl) ?_
        refine lv_iload_n hx hb dX12_way_36 rfl (lv_at hl 1 rfl) ?_
        refine tk_i hH hS hA (tr_V (n := 1) (As := [.int x1]) hx hb hml hown hts hkb hH hOX hks hE hS hA (s_M_laysWayOf l D cs kf T O X a0 hg mq x1 t_a0 b_hg (by omega) (by omega) (hO.sub (by decide))) kw_1560 kw_1562 ks_82 kw_13 kw_1563 (by decide +kernel) ⟨Nat.le_of_ble_eq_true rfl, Nat.le_of_ble_eq_true rfl⟩ (HT.recv (ci := 12) hkb hH t_a0 (hO.no t_a0 (by decide)) rfl) rfl rfl hl.1 (Nat.le_of_ble_eq_true rfl) dX12_way_37 ⟨Nat.le_of_ble_eq_true rfl, Nat.le_of_ble_eq_true rfl⟩) (fun v37 u H locs hz9 hH hS => ?_)
        obtain ⟨rfl, l_v37, u_v37⟩ := hz9
        have hH : HT D cs A T O X H := hH
        refine W.widen (k := 0) (n := 0) (Nat.le_of_ble_eq_true rfl) (Nat.le_of_ble_eq_true rfl) ?_
        refine lv_if_ne (tgt := 45) hx hb dX12_way_40 (by decide) (fun c40 => ?_) (fun c40 => ?_)
        · skip
          have tc40 := f_ne (k := 0) (by decide) c40
          refine lv_iload_n hx hb dX12_way_45 rfl (lv_at hl 2 rfl) ?_
          refine lv_if_ne (tgt := 56) hx hb dX12_way_46 (by decide) (fun c46 => ?_) (fun c46 => ?_)
          · skip
            have tc46 := f_ne (k := 0) (by decide) c46
            refine lv_iload_n hx hb dX12_way_56 rfl (lv_at hl 2 rfl) ?_
            refine lv_bipush (v := 10) hx hb dX12_way_57 (by decide) ?_
            refine lv_isub hx hb dX12_way_59 ?_
            refine lv_topi (fun v59 ev59 => ?_)
            have tv59 : v59.toInt = x2.toInt - (10) := by rw [ev59]; exact sub_i rfl (by decide : (10 : Int32).toInt = 10) (by omega) (by omega)
            refine lv_aload_n hx hb dX12_way_60 rfl (lv_at hl 0 rfl) ?_
            refine t_get (ci := 12) (lst := ft12 hg mq) (C := RX12) (F := TX12) (N := 36) hx hb hts uX12 hown hkb hH t_a0 (hO.no t_a0 (by decide)) (fun _ h9 => h9) rfl rfl 20 (by decide) rfl kw_1243 (fun _ h9 => h9) dX12_way_61 (fun v9 h9 => ?_)
            obtain ⟨v61, rfl, l_v61, u_v61⟩ := h9
            refine lv_icmp_ge (tgt := 79) hx hb dX12_way_64 (by decide) (fun c64 => ?_) (fun c64 => ?_)
            · skip
              have fuc64 := full_i v59
              have fvc64 := full_i v61
              have tc64 := g_le c64
              refine lv_iconst (v := (-1)) hx hb dX12_way_79 (by decide) ?_
              exact te_i hx hb hr hlocks hH hS (⟨rfl, by decide, by decide⟩) dX12_way_80
            · skip
              have fuc64 := full_i v59
              have fvc64 := full_i v61
              have tc64 := g_nle c64
              refine lv_aload_n hx hb dX12_way_67 rfl (lv_at hl 0 rfl) ?_
              refine t_get (ci := 12) (lst := ft12 hg mq) (C := RX12) (F := TX12) (N := 36) hx hb hts uX12 hown hkb hH t_a0 (hO.no t_a0 (by decide)) (fun _ h9 => h9) rfl rfl 19 (by decide) rfl kw_1242 (fun _ h9 => h9) dX12_way_68 (fun v9 h9 => ?_)
              obtain ⟨v68, rfl, t_v68⟩ := h9
              refine lv_iload_n hx hb dX12_way_71 rfl (lv_at hl 2 rfl) ?_
              refine lv_bipush (v := 10) hx hb dX12_way_72 (by decide) ?_
              refine lv_isub hx hb dX12_way_74 ?_
              refine lv_topi (fun v74 ev74 => ?_)
              have tv74 : v74.toInt = x2.toInt - (10) := by rw [ev74]; exact sub_i rfl (by decide : (10 : Int32).toInt = 10) (by omega) (by omega)
              refine t_ild hx hb hkb hH t_v68 (hO.no t_v68 (by decide)) (by omega) (by omega) dX12_way_75 (fun v75 h9 => ?_)
              have tv75 : 0 ≤ v75.toInt ∧ v75.toInt ≤ 13 := h9
              refine lv_goto (tgt := 80) hx hb dX12_way_76 (by decide) ?_
              exact te_i hx hb hr hlocks hH hS (⟨rfl, by omega, by omega⟩) dX12_way_80
          · skip
            have tc46 := f_eq (k := 0) (by decide) c46
            exfalso; omega
        · skip
          have tc40 := f_eq (k := 0) (by decide) c40
          refine lv_iconst (v := (-1)) hx hb dX12_way_43 (by decide) ?_
          exact te_i hx hb hr hlocks hH hS (⟨rfl, by decide, by decide⟩) dX12_way_44
      · skip
        have tc29 := f_eq (k := 0) (by decide) c29
        clear x_v260
        replace x_v261 := x_v261.resolve_left (fun q9 => q9 tc29)
        refine lv_bipush (v := (-2)) hx hb dX12_way_32 (by decide) ?_
        exact te_i hx hb hr hlocks hH hS (⟨rfl, by decide, by decide⟩) dX12_way_34
set_option maxHeartbeats 4000000 in
set_option maxRecDepth 100000 in
theorem s_M_ways (l : Launch) (D : va_G) (cs : CS) (kf : KF) (T : TF) (O : List Nat) (X : va_W) (a0 hg mq : Nat) (x1 : Int32) (t_a0 : T a0 = some (22, hg, mq)) (b_hg : hg < 90) (hO : okO T O [1, 2, 8, 9, 22]) : TK l D cs kf yX12_ways cX12_ways 2 (some (.long)) { frames := 6, cells := 0, slots := 0, locals := 140 } [.ref a0, .int x1] T O X (Tl D cs (fun _ u => u = (T, O, X))) := by
  refine tk_of (by decide) (Nat.le_of_ble_eq_true rfl) (fun p e s m below meth c ls A H locs hx hb hr hml hown hts hlocks hnm hkb hH hS hA hOX hks hE hl => ?_)
  have hown : s.vm.findClass RX12 = some m.cls := hown
  have hl : lv_has ls 2 [(0, .ref a0), (1, .int x1)] := hl
  refine lv_aload_n hx hb dX12_ways_0 rfl (lv_at hl 0 rfl) ?_
  refine lv_iconst (v := 0) hx hb dX12_ways_1 (by decide) ?_
  refine t_put (ci := 12) (lst := ft12 hg mq) (v := .int 0) (ty := tyX12 0) (C := RX12) (F := TX12) (N := 36) hx hb hts uX12 tyX12 tyX12_ok nmX12 hown hkb hH hS t_a0 (hO.no t_a0 (by decide)) (fun _ => Iff.rfl) rfl rfl 0 (by decide) rfl (⟨_, rfl⟩) kw_1223 (fun _ h9 => h9) rfl (tyX12_ok 0 (by decide)) rfl rfl dX12_ways_2 (fun H locs hH hS => ?_)
  refine lv_aload_n hx hb dX12_ways_5 rfl (lv_at hl 0 rfl) ?_
  refine lv_iload_n hx hb dX12_ways_6 rfl (lv_at hl 1 rfl) ?_
  refine lv_i2l hx hb dX12_ways_7 rfl ?_
  refine tk_i hH hS hA (tr_V (n := 1) (As := [.long x1.toInt64]) hx hb hml hown hts hkb hH hOX hks hE hS hA (s_M_isGuide l D cs kf T O X a0 hg mq x1.toInt64 t_a0 b_hg (hO.sub (by decide))) kw_1470 kw_1472 ks_67 kw_13 kw_1473 (by decide +kernel) ⟨Nat.le_of_ble_eq_true rfl, Nat.le_of_ble_eq_true rfl⟩ (HT.recv (ci := 12) hkb hH t_a0 (hO.no t_a0 (by decide)) rfl) rfl rfl hl.1 (Nat.le_of_ble_eq_true rfl) dX12_ways_8 ⟨Nat.le_of_ble_eq_true rfl, Nat.le_of_ble_eq_true rfl⟩) (fun v8 u H locs hz9 hH hS => ?_)
  obtain ⟨rfl, l_v8, u_v8, x_v80⟩ := hz9
  simp only [Int32.toInt_toInt64] at x_v80
  have hH : HT D cs A T O X H := hH
  refine W.widen (k := 0) (n := 0) (Nat.le_of_ble_eq_true rfl) (Nat.le_of_ble_eq_true rfl) ?_
  refine lv_if_ne (tgt := 18) hx hb dX12_ways_11 (by decide) (fun c11 => ?_) (fun c11 => ?_)
  · skip
    have tc11 := f_ne (k := 0) (by decide) c11
    replace x_v80 := x_v80.resolve_left tc11
    refine lv_aload_n hx hb dX12_ways_18 rfl (lv_at hl 0 rfl) ?_
    refine lv_iload_n hx hb dX12_ways_19 rfl (lv_at hl 1 rfl) ?_
    refine tk_i hH hS hA (tr_V (n := 1) (As := [.int x1]) hx hb hml hown hts hkb hH hOX hks hE hS hA (s_M_laysWayOf l D cs kf T O X a0 hg mq x1 t_a0 b_hg (by omega) (by omega) (hO.sub (by decide))) kw_1560 kw_1562 ks_82 kw_13 kw_1563 (by decide +kernel) ⟨Nat.le_of_ble_eq_true rfl, Nat.le_of_ble_eq_true rfl⟩ (HT.recv (ci := 12) hkb hH t_a0 (hO.no t_a0 (by decide)) rfl) rfl rfl hl.1 (Nat.le_of_ble_eq_true rfl) dX12_ways_20 ⟨Nat.le_of_ble_eq_true rfl, Nat.le_of_ble_eq_true rfl⟩) (fun v20 u H locs hz9 hH hS => ?_)
    obtain ⟨rfl, l_v20, u_v20⟩ := hz9
    have hH : HT D cs A T O X H := hH
    refine W.widen (k := 0) (n := 0) (Nat.le_of_ble_eq_true rfl) (Nat.le_of_ble_eq_true rfl) ?_
    refine lv_if_ne (tgt := 28) hx hb dX12_ways_23 (by decide) (fun c23 => ?_) (fun c23 => ?_)
    · skip
      have tc23 := f_ne (k := 0) (by decide) c23
      refine lv_aload_n hx hb dX12_ways_28 rfl (lv_at hl 0 rfl) ?_
      refine lv_aload_n hx hb dX12_ways_29 rfl (lv_at hl 0 rfl) ?_
      refine tk_i hH hS hA (tr_V (n := 0) (As := []) hx hb hml hown hts hkb hH hOX hks hE hS hA (s_M_openSet l D cs kf T O X a0 hg mq t_a0 b_hg (hO.sub (by decide))) kw_1510 kw_1512 ks_73 kw_13 kw_1513 (by decide +kernel) ⟨Nat.le_of_ble_eq_true rfl, Nat.le_of_ble_eq_true rfl⟩ (HT.recv (ci := 12) hkb hH t_a0 (hO.no t_a0 (by decide)) rfl) rfl rfl hl.1 (Nat.le_of_ble_eq_true rfl) dX12_ways_30 ⟨Nat.le_of_ble_eq_true rfl, Nat.le_of_ble_eq_true rfl⟩) (fun v30 u H locs hz9 hH hS => ?_)
      obtain ⟨rfl, l_v30, u_v30⟩ := hz9
      have hH : HT D cs A T O X H := hH
      refine W.widen (k := 0) (n := 0) (Nat.le_of_ble_eq_true rfl) (Nat.le_of_ble_eq_true rfl) ?_
      refine tk_v hH hS hA (tr_V (n := 1) (As := [.int v30]) hx hb hml hown hts hkb hH hOX hks hE hS hA (s_M_laysClimbs l D cs kf T O X a0 hg mq v30 t_a0 b_hg (hO.sub (by decide))) kw_1623 kw_1625 ks_88 kw_13 kw_1626 (by decide +kernel) ⟨Nat.le_of_ble_eq_true rfl, Nat.le_of_ble_eq_true rfl⟩ (HT.recv (ci := 12) hkb hH t_a0 (hO.no t_a0 (by decide)) rfl) rfl rfl hl.1 (Nat.le_of_ble_eq_true rfl) dX12_ways_33 ⟨Nat.le_of_ble_eq_true rfl, Nat.le_of_ble_eq_true rfl⟩) (fun u H locs hz9 hH hS => ?_)
      have hz9 : u = (T, O, X) := hz9
      subst hz9
      have hH : HT D cs A T O X H := hH
      refine W.widen (k := 0) (n := 0) (Nat.le_of_ble_eq_true rfl) (Nat.le_of_ble_eq_true rfl) ?_
      refine lv_aload_n hx hb dX12_ways_36 rfl (lv_at hl 0 rfl) ?_
      refine lv_aload_n hx hb dX12_ways_37 rfl (lv_at hl 0 rfl) ?_
      refine t_get (ci := 12) (lst := ft12 hg mq) (C := RX12) (F := TX12) (N := 36) hx hb hts uX12 hown hkb hH t_a0 (hO.no t_a0 (by decide)) (fun _ h9 => h9) rfl rfl 20 (by decide) rfl kw_1243 (fun _ h9 => h9) dX12_ways_38 (fun v9 h9 => ?_)
      obtain ⟨v38, rfl, l_v38, u_v38⟩ := h9
      refine lv_aload_n hx hb dX12_ways_41 rfl (lv_at hl 0 rfl) ?_
      refine t_get (ci := 12) (lst := ft12 hg mq) (C := RX12) (F := TX12) (N := 36) hx hb hts uX12 hown hkb hH t_a0 (hO.no t_a0 (by decide)) (fun _ h9 => h9) rfl rfl 20 (by decide) rfl kw_1243 (fun _ h9 => h9) dX12_ways_42 (fun v9 h9 => ?_)
      obtain ⟨v42, rfl, l_v42, u_v42⟩ := h9
      refine tk_l hH hS hA (tr_V (n := 2) (As := [.int v38, .int v42]) hx hb hml hown hts hkb hH hOX hks hE hS hA (s_M_climbsOf l D cs kf T O X a0 hg mq v38 v42 t_a0 b_hg (hO.sub (by decide))) kw_1627 kw_1629 ks_89 kw_13 kw_1630 (by decide +kernel) ⟨Nat.le_of_ble_eq_true rfl, Nat.le_of_ble_eq_true rfl⟩ (HT.recv (ci := 12) hkb hH t_a0 (hO.no t_a0 (by decide)) rfl) rfl rfl hl.1 (Nat.le_of_ble_eq_true rfl) dX12_ways_45 ⟨Nat.le_of_ble_eq_true rfl, Nat.le_of_ble_eq_true rfl⟩) (fun v45 u H locs hz9 hH hS => ?_)
      have hz9 : u = (T, O, X) := hz9
      subst hz9
      have hH : HT D cs A T O X H := hH
      refine W.widen (k := 0) (n := 0) (Nat.le_of_ble_eq_true rfl) (Nat.le_of_ble_eq_true rfl) ?_
      exact te_l hx hb hr hlocks hH hS rfl dX12_ways_48
    · skip
      have tc23 := f_eq (k := 0) (by decide) c23
      refine lv_lconst (v := 0) hx hb dX12_ways_26 (by decide) ?_
      exact te_l hx hb hr hlocks hH hS rfl dX12_ways_27
  · skip
    have tc11 := f_eq (k := 0) (by decide) c11
    clear x_v80
    refine lv_ldc2 hx hb hown (hts _ kw_1622) dX12_ways_14 ?_
    exact te_l hx hb hr hlocks hH hS rfl dX12_ways_17
set_option maxHeartbeats 4000000 in
set_option maxRecDepth 100000 in
theorem s_M_leaves (l : Launch) (D : va_G) (cs : CS) (kf : KF) (T : TF) (O : List Nat) (X : va_W) (a0 hg mq : Nat) (x1 : Int32) (x2 : Int32) (t_a0 : T a0 = some (22, hg, mq)) (b_hg : hg < 90) (hO : okO T O [1, 8, 9, 22]) : TK l D cs kf yX12_leaves cX12_leaves 4 (some (.int)) { frames := 6, cells := 0, slots := 0, locals := 140 } [.ref a0, .int x1, .int x2] T O X (Ti D cs (fun r u => u = (T, O, X) ∧ -5 ≤ r.toInt ∧ r.toInt ≤ 1)) := by
  refine tk_of (by decide) (Nat.le_of_ble_eq_true rfl) (fun p e s m below meth c ls A H locs hx hb hr hml hown hts hlocks hnm hkb hH hS hA hOX hks hE hl => ?_)
  have hown : s.vm.findClass RX12 = some m.cls := hown
  have hl : lv_has ls 4 [(0, .ref a0), (1, .int x1), (2, .int x2)] := hl
  refine lv_aload_n hx hb dX12_leaves_0 rfl (lv_at hl 0 rfl) ?_
  refine lv_iconst (v := 0) hx hb dX12_leaves_1 (by decide) ?_
  refine t_put (ci := 12) (lst := ft12 hg mq) (v := .int 0) (ty := tyX12 0) (C := RX12) (F := TX12) (N := 36) hx hb hts uX12 tyX12 tyX12_ok nmX12 hown hkb hH hS t_a0 (hO.no t_a0 (by decide)) (fun _ => Iff.rfl) rfl rfl 0 (by decide) rfl (⟨_, rfl⟩) kw_1223 (fun _ h9 => h9) rfl (tyX12_ok 0 (by decide)) rfl rfl dX12_leaves_2 (fun H locs hH hS => ?_)
  refine lv_aload_n hx hb dX12_leaves_5 rfl (lv_at hl 0 rfl) ?_
  refine lv_iload_n hx hb dX12_leaves_6 rfl (lv_at hl 1 rfl) ?_
  refine lv_i2l hx hb dX12_leaves_7 rfl ?_
  refine tk_i hH hS hA (tr_V (n := 1) (As := [.long x1.toInt64]) hx hb hml hown hts hkb hH hOX hks hE hS hA (s_M_isGuide l D cs kf T O X a0 hg mq x1.toInt64 t_a0 b_hg (hO.sub (by decide))) kw_1470 kw_1472 ks_67 kw_13 kw_1473 (by decide +kernel) ⟨Nat.le_of_ble_eq_true rfl, Nat.le_of_ble_eq_true rfl⟩ (HT.recv (ci := 12) hkb hH t_a0 (hO.no t_a0 (by decide)) rfl) rfl rfl hl.1 (Nat.le_of_ble_eq_true rfl) dX12_leaves_8 ⟨Nat.le_of_ble_eq_true rfl, Nat.le_of_ble_eq_true rfl⟩) (fun v8 u H locs hz9 hH hS => ?_)
  obtain ⟨rfl, l_v8, u_v8, x_v80⟩ := hz9
  simp only [Int32.toInt_toInt64] at x_v80
  have hH : HT D cs A T O X H := hH
  refine W.widen (k := 0) (n := 0) (Nat.le_of_ble_eq_true rfl) (Nat.le_of_ble_eq_true rfl) ?_
  have J23 : ∀  (H : Heap) (locs : List Loc) (ls : Array Slot), HT D cs A T O X H → va_S A s.heap H locs → lv_has ls 4 [] → W p l e { frames := 6, cells := 0, slots := 0, locals := 140 } s m [.ref a0, .int x1, .int x2].toArray below meth c H locs 0 0 (MQ below (Ti D cs (fun r u => u = (T, O, X) ∧ -5 ≤ r.toInt ∧ r.toInt ≤ 1) A) [.ref a0, .int x1, .int x2].toArray s 0 0 A) (F0 m 23 ls []) := by
    intro  H locs ls  hH hS hl
    refine lv_bipush (v := (-2)) hx hb dX12_leaves_23 (by decide) ?_
    exact te_i hx hb hr hlocks hH hS (⟨rfl, by decide, by decide⟩) dX12_leaves_25
  refine lv_if_eq (tgt := 23) hx hb dX12_leaves_11 (by decide) (fun c11 => ?_) (fun c11 => ?_)
  · skip
    have tc11 := f_eq (k := 0) (by decide) c11
    clear x_v80
    exact J23  _ _ _  hH hS (lv_sub hl [] rfl)
  · skip
    have tc11 := f_ne (k := 0) (by decide) c11
    replace x_v80 := x_v80.resolve_left tc11
    refine lv_aload_n hx hb dX12_leaves_14 rfl (lv_at hl 0 rfl) ?_
    refine lv_iload_n hx hb dX12_leaves_15 rfl (lv_at hl 2 rfl) ?_
    refine lv_i2l hx hb dX12_leaves_16 rfl ?_
    refine tk_i hH hS hA (tr_V (n := 1) (As := [.long x2.toInt64]) hx hb hml hown hts hkb hH hOX hks hE hS hA (s_M_isGuide l D cs kf T O X a0 hg mq x2.toInt64 t_a0 b_hg (hO.sub (by decide))) kw_1470 kw_1472 ks_67 kw_13 kw_1473 (by decide +kernel) ⟨Nat.le_of_ble_eq_true rfl, Nat.le_of_ble_eq_true rfl⟩ (HT.recv (ci := 12) hkb hH t_a0 (hO.no t_a0 (by decide)) rfl) rfl rfl hl.1 (Nat.le_of_ble_eq_true rfl) dX12_leaves_17 ⟨Nat.le_of_ble_eq_true rfl, Nat.le_of_ble_eq_true rfl⟩) (fun v17 u H locs hz9 hH hS => ?_)
    obtain ⟨rfl, l_v17, u_v17, x_v170⟩ := hz9
    simp only [Int32.toInt_toInt64] at x_v170
    have hH : HT D cs A T O X H := hH
    refine W.widen (k := 0) (n := 0) (Nat.le_of_ble_eq_true rfl) (Nat.le_of_ble_eq_true rfl) ?_
    refine lv_if_ne (tgt := 26) hx hb dX12_leaves_20 (by decide) (fun c20 => ?_) (fun c20 => ?_)
    · skip
      have tc20 := f_ne (k := 0) (by decide) c20
      replace x_v170 := x_v170.resolve_left tc20
      refine lv_aload_n hx hb dX12_leaves_26 rfl (lv_at hl 0 rfl) ?_
      refine lv_iload_n hx hb dX12_leaves_27 rfl (lv_at hl 2 rfl) ?_
      refine tk_i hH hS hA (tr_V (n := 1) (As := [.int x2]) hx hb hml hown hts hkb hH hOX hks hE hS hA (s_M_laysWayOf l D cs kf T O X a0 hg mq x2 t_a0 b_hg (by omega) (by omega) (hO.sub (by decide))) kw_1560 kw_1562 ks_82 kw_13 kw_1563 (by decide +kernel) ⟨Nat.le_of_ble_eq_true rfl, Nat.le_of_ble_eq_true rfl⟩ (HT.recv (ci := 12) hkb hH t_a0 (hO.no t_a0 (by decide)) rfl) rfl rfl hl.1 (Nat.le_of_ble_eq_true rfl) dX12_leaves_28 ⟨Nat.le_of_ble_eq_true rfl, Nat.le_of_ble_eq_true rfl⟩) (fun v28 u H locs hz9 hH hS => ?_)
      obtain ⟨rfl, l_v28, u_v28⟩ := hz9
      have hH : HT D cs A T O X H := hH
      refine W.widen (k := 0) (n := 0) (Nat.le_of_ble_eq_true rfl) (Nat.le_of_ble_eq_true rfl) ?_
      refine lv_if_ne (tgt := 37) hx hb dX12_leaves_31 (by decide) (fun c31 => ?_) (fun c31 => ?_)
      · skip
        have tc31 := f_ne (k := 0) (by decide) c31
        refine lv_aload_n hx hb dX12_leaves_37 rfl (lv_at hl 0 rfl) ?_
        refine tk_v hH hS hA (tr_V (n := 0) (As := []) hx hb hml hown hts hkb hH hOX hks hE hS hA (s_M_keepsAhead l D cs kf T O X a0 hg mq t_a0 b_hg (hO.sub (by decide))) kw_1704 kw_1706 ks_96 kw_13 kw_1707 (by decide +kernel) ⟨Nat.le_of_ble_eq_true rfl, Nat.le_of_ble_eq_true rfl⟩ (HT.recv (ci := 12) hkb hH t_a0 (hO.no t_a0 (by decide)) rfl) rfl rfl hl.1 (Nat.le_of_ble_eq_true rfl) dX12_leaves_38 ⟨Nat.le_of_ble_eq_true rfl, Nat.le_of_ble_eq_true rfl⟩) (fun u H locs hz9 hH hS => ?_)
        have hz9 : u = (T, O, X) := hz9
        subst hz9
        have hH : HT D cs A T O X H := hH
        refine W.widen (k := 0) (n := 0) (Nat.le_of_ble_eq_true rfl) (Nat.le_of_ble_eq_true rfl) ?_
        refine lv_aload_n hx hb dX12_leaves_41 rfl (lv_at hl 0 rfl) ?_
        refine lv_iload_n hx hb dX12_leaves_42 rfl (lv_at hl 2 rfl) ?_
        refine tk_i hH hS hA (tr_V (n := 1) (As := [.int x2]) hx hb hml hown hts hkb hH hOX hks hE hS hA (s_M_usesRow l D cs kf T O X a0 hg mq x2 t_a0 b_hg (hO.sub (by decide))) kw_1548 kw_1550 ks_80 kw_13 kw_1551 (by decide +kernel) ⟨Nat.le_of_ble_eq_true rfl, Nat.le_of_ble_eq_true rfl⟩ (HT.recv (ci := 12) hkb hH t_a0 (hO.no t_a0 (by decide)) rfl) rfl rfl hl.1 (Nat.le_of_ble_eq_true rfl) dX12_leaves_43 ⟨Nat.le_of_ble_eq_true rfl, Nat.le_of_ble_eq_true rfl⟩) (fun v43 u H locs hz9 hH hS => ?_)
        have hz9 : u = (T, O, X) := hz9
        subst hz9
        have hH : HT D cs A T O X H := hH
        refine W.widen (k := 0) (n := 0) (Nat.le_of_ble_eq_true rfl) (Nat.le_of_ble_eq_true rfl) ?_
        refine lv_pop hx hb dX12_leaves_46 rfl ?_
        refine lv_aload_n hx hb dX12_leaves_47 rfl (lv_at hl 0 rfl) ?_
        refine lv_iload_n hx hb dX12_leaves_48 rfl (lv_at hl 1 rfl) ?_
        refine tk_v hH hS hA (tr_V (n := 1) (As := [.int x1]) hx hb hml hown hts hkb hH hOX hks hE hS hA (s_M_laysGuide l D cs kf T O X a0 hg mq x1 t_a0 b_hg (by omega) (by omega) (hO.sub (by decide))) kw_1502 kw_1504 ks_71 kw_13 kw_1505 (by decide +kernel) ⟨Nat.le_of_ble_eq_true rfl, Nat.le_of_ble_eq_true rfl⟩ (HT.recv (ci := 12) hkb hH t_a0 (hO.no t_a0 (by decide)) rfl) rfl rfl hl.1 (Nat.le_of_ble_eq_true rfl) dX12_leaves_49 ⟨Nat.le_of_ble_eq_true rfl, Nat.le_of_ble_eq_true rfl⟩) (fun u H locs hz9 hH hS => ?_)
        have hz9 : u = (T, O, X) := hz9
        subst hz9
        have hH : HT D cs A T O X H := hH
        refine W.widen (k := 0) (n := 0) (Nat.le_of_ble_eq_true rfl) (Nat.le_of_ble_eq_true rfl) ?_
        refine lv_aload_n hx hb dX12_leaves_52 rfl (lv_at hl 0 rfl) ?_
        refine lv_aload_n hx hb dX12_leaves_53 rfl (lv_at hl 0 rfl) ?_
        refine tk_i hH hS hA (tr_V (n := 0) (As := []) hx hb hml hown hts hkb hH hOX hks hE hS hA (s_M_openSet l D cs kf T O X a0 hg mq t_a0 b_hg (hO.sub (by decide))) kw_1510 kw_1512 ks_73 kw_13 kw_1513 (by decide +kernel) ⟨Nat.le_of_ble_eq_true rfl, Nat.le_of_ble_eq_true rfl⟩ (HT.recv (ci := 12) hkb hH t_a0 (hO.no t_a0 (by decide)) rfl) rfl rfl hl.1 (Nat.le_of_ble_eq_true rfl) dX12_leaves_54 ⟨Nat.le_of_ble_eq_true rfl, Nat.le_of_ble_eq_true rfl⟩) (fun v54 u H locs hz9 hH hS => ?_)
        obtain ⟨rfl, l_v54, u_v54⟩ := hz9
        have hH : HT D cs A T O X H := hH
        refine W.widen (k := 0) (n := 0) (Nat.le_of_ble_eq_true rfl) (Nat.le_of_ble_eq_true rfl) ?_
        refine tk_i hH hS hA (tr_V (n := 1) (As := [.int v54]) hx hb hml hown hts hkb hH hOX hks hE hS hA (s_M_hasClimb l D cs kf T O X a0 hg mq v54 t_a0 b_hg (hO.sub (by decide))) kw_1660 kw_1662 ks_94 kw_13 kw_1663 (by decide +kernel) ⟨Nat.le_of_ble_eq_true rfl, Nat.le_of_ble_eq_true rfl⟩ (HT.recv (ci := 12) hkb hH t_a0 (hO.no t_a0 (by decide)) rfl) rfl rfl hl.1 (Nat.le_of_ble_eq_true rfl) dX12_leaves_57 ⟨Nat.le_of_ble_eq_true rfl, Nat.le_of_ble_eq_true rfl⟩) (fun v57 u H locs hz9 hH hS => ?_)
        obtain ⟨rfl, l_v57, u_v57⟩ := hz9
        have hH : HT D cs A T O X H := hH
        refine W.widen (k := 0) (n := 0) (Nat.le_of_ble_eq_true rfl) (Nat.le_of_ble_eq_true rfl) ?_
        refine lv_istore_n (lv' := [(3, .int v57), (0, .ref a0), (1, .int x1), (2, .int x2)]) hx hb dX12_leaves_60 rfl hl (by decide) rfl (fun ls hl => ?_)
        refine lv_aload_n hx hb dX12_leaves_61 rfl (lv_at hl 1 rfl) ?_
        refine tk_v hH hS hA (tr_V (n := 0) (As := []) hx hb hml hown hts hkb hH hOX hks hE hS hA (s_M_isAhead l D cs kf T O X a0 hg mq t_a0 b_hg (hO.sub (by decide))) kw_1708 kw_1710 ks_97 kw_13 kw_1711 (by decide +kernel) ⟨Nat.le_of_ble_eq_true rfl, Nat.le_of_ble_eq_true rfl⟩ (HT.recv (ci := 12) hkb hH t_a0 (hO.no t_a0 (by decide)) rfl) rfl rfl hl.1 (Nat.le_of_ble_eq_true rfl) dX12_leaves_62 ⟨Nat.le_of_ble_eq_true rfl, Nat.le_of_ble_eq_true rfl⟩) (fun u H locs hz9 hH hS => ?_)
        have hz9 : u = (T, O, X) := hz9
        subst hz9
        have hH : HT D cs A T O X H := hH
        refine W.widen (k := 0) (n := 0) (Nat.le_of_ble_eq_true rfl) (Nat.le_of_ble_eq_true rfl) ?_
        refine lv_iload_n hx hb dX12_leaves_65 rfl (lv_at hl 0 rfl) ?_
        have J74 : ∀ (k74_0 : Int32) (H : Heap) (locs : List Loc) (ls : Array Slot), (0 ≤ k74_0.toInt) → (k74_0.toInt ≤ 1) → HT D cs A T O X H → va_S A s.heap H locs → lv_has ls 4 [] → W p l e { frames := 6, cells := 0, slots := 0, locals := 140 } s m [.ref a0, .int x1, .int x2].toArray below meth c H locs 0 0 (MQ below (Ti D cs (fun r u => u = (T, O, X) ∧ -5 ≤ r.toInt ∧ r.toInt ≤ 1) A) [.ref a0, .int x1, .int x2].toArray s 0 0 A) (F0 m 74 ls [.int k74_0]) := by
          intro k74_0 H locs ls l_k74_0 u_k74_0 hH hS hl
          exact te_i hx hb hr hlocks hH hS (⟨rfl, by omega, by omega⟩) dX12_leaves_74
        refine lv_if_eq (tgt := 73) hx hb dX12_leaves_66 (by decide) (fun c66 => ?_) (fun c66 => ?_)
        · skip
          have tc66 := f_eq (k := 0) (by decide) c66
          refine lv_iconst (v := 0) hx hb dX12_leaves_73 (by decide) ?_
          exact J74 0 _ _ _ (by decide) (by decide) hH hS (lv_sub hl [] rfl)
        · skip
          have tc66 := f_ne (k := 0) (by decide) c66
          refine lv_iconst (v := 1) hx hb dX12_leaves_69 (by decide) ?_
          refine lv_goto (tgt := 74) hx hb dX12_leaves_70 (by decide) ?_
          exact J74 1 _ _ _ (by decide) (by decide) hH hS (lv_sub hl [] rfl)
      · skip
        have tc31 := f_eq (k := 0) (by decide) c31
        refine lv_bipush (v := (-5)) hx hb dX12_leaves_34 (by decide) ?_
        exact te_i hx hb hr hlocks hH hS (⟨rfl, by decide, by decide⟩) dX12_leaves_36
    · skip
      have tc20 := f_eq (k := 0) (by decide) c20
      clear x_v170
      exact J23  _ _ _  hH hS (lv_sub hl [] rfl)
set_option maxHeartbeats 4000000 in
set_option maxRecDepth 100000 in
theorem s_M_season (l : Launch) (D : va_G) (cs : CS) (kf : KF) (T : TF) (O : List Nat) (X : va_W) (a0 hg mq : Nat) (x1 : Int32) (x2 : Int32) (t_a0 : T a0 = some (22, hg, mq)) (b_hg : hg < 90) (hO : okO T O [1, 8, 9, 22]) : TK l D cs kf yX12_season cX12_season 8 (some (.int)) { frames := 6, cells := 0, slots := 0, locals := 140 } [.ref a0, .int x1, .int x2] T O X (Ti D cs (fun r u => u = (T, O, X))) := by
  refine tk_of (by decide) (Nat.le_of_ble_eq_true rfl) (fun p e s m below meth c ls A H locs hx hb hr hml hown hts hlocks hnm hkb hH hS hA hOX hks hE hl => ?_)
  have hown : s.vm.findClass RX12 = some m.cls := hown
  have hl : lv_has ls 8 [(0, .ref a0), (1, .int x1), (2, .int x2)] := hl
  refine lv_aload_n hx hb dX12_season_0 rfl (lv_at hl 0 rfl) ?_
  refine lv_iconst (v := 0) hx hb dX12_season_1 (by decide) ?_
  refine t_put (ci := 12) (lst := ft12 hg mq) (v := .int 0) (ty := tyX12 0) (C := RX12) (F := TX12) (N := 36) hx hb hts uX12 tyX12 tyX12_ok nmX12 hown hkb hH hS t_a0 (hO.no t_a0 (by decide)) (fun _ => Iff.rfl) rfl rfl 0 (by decide) rfl (⟨_, rfl⟩) kw_1223 (fun _ h9 => h9) rfl (tyX12_ok 0 (by decide)) rfl rfl dX12_season_2 (fun H locs hH hS => ?_)
  refine lv_iload_n hx hb dX12_season_5 rfl (lv_at hl 2 rfl) ?_
  refine lv_i2l hx hb dX12_season_6 rfl ?_
  refine lv_lconst (v := 1) hx hb dX12_season_7 (by decide) ?_
  refine lv_ldc2 hx hb hown (hts _ kw_1607) dX12_season_8 ?_
  refine tk_i hH hS hA (tr_S (n := 3) (As := [.long x2.toInt64, .long 1, .long 40]) hx hb hml hown hts hkb hH hOX hks hE hS hA (s_M_within l D cs kf T O X x2.toInt64 1 40  (hO.sub (by decide))) kw_1341 kw_1342 kw_13 kw_1343 (by decide +kernel) ⟨Nat.le_of_ble_eq_true rfl, Nat.le_of_ble_eq_true rfl⟩ rfl rfl hl.1 (Nat.le_of_ble_eq_true rfl) dX12_season_11 ⟨Nat.le_of_ble_eq_true rfl, Nat.le_of_ble_eq_true rfl⟩) (fun v11 u H locs hz9 hH hS => ?_)
  obtain ⟨rfl, l_v11, u_v11, x_v110, x_v111⟩ := hz9
  simp only [Int32.toInt_toInt64] at x_v110 x_v111
  have k9_1 : (1 : Int64).toInt = 1 := by decide
  have k9_40 : (40 : Int64).toInt = 40 := by decide
  have hH : HT D cs A T O X H := hH
  refine W.widen (k := 0) (n := 0) (Nat.le_of_ble_eq_true rfl) (Nat.le_of_ble_eq_true rfl) ?_
  refine lv_if_ne (tgt := 20) hx hb dX12_season_14 (by decide) (fun c14 => ?_) (fun c14 => ?_)
  · skip
    have tc14 := f_ne (k := 0) (by decide) c14
    replace x_v110 := x_v110.resolve_left tc14
    clear x_v111
    refine lv_aload_n hx hb dX12_season_20 rfl (lv_at hl 0 rfl) ?_
    refine t_get (ci := 12) (lst := ft12 hg mq) (C := RX12) (F := TX12) (N := 36) hx hb hts uX12 hown hkb hH t_a0 (hO.no t_a0 (by decide)) (fun _ h9 => h9) rfl rfl 1 (by decide) rfl kw_1224 (fun _ h9 => h9) dX12_season_21 (fun v9 h9 => ?_)
    obtain ⟨v21, rfl, t_v21⟩ := h9
    refine lv_iconst (v := 2) hx hb dX12_season_24 (by decide) ?_
    refine t_ild8 hx hb hkb hH t_v21 (hO.no t_v21 (by decide)) (by decide) (by decide) (by decide) dX12_season_25 (fun v25 h9 h8 => ?_)
    have q9 := (h8 rfl).2 rfl
    subst q9
    have eG9 : (nI (hg % 6)).toInt = (((hg % 6) : Nat) : Int) := nI_toInt (by omega)
    refine lv_if_ne (tgt := 32) hx hb dX12_season_26 (by decide) (fun c26 => ?_) (fun c26 => ?_)
    · skip
      have tc26 := f_ne (k := 0) (by decide) c26
      refine lv_aload_n hx hb dX12_season_32 rfl (lv_at hl 0 rfl) ?_
      refine tk_v hH hS hA (tr_V (n := 0) (As := []) hx hb hml hown hts hkb hH hOX hks hE hS hA (s_M_keeps l D cs kf T O X a0 hg mq t_a0 b_hg (hO.sub (by decide))) kw_1544 kw_1546 ks_79 kw_13 kw_1547 (by decide +kernel) ⟨Nat.le_of_ble_eq_true rfl, Nat.le_of_ble_eq_true rfl⟩ (HT.recv (ci := 12) hkb hH t_a0 (hO.no t_a0 (by decide)) rfl) rfl rfl hl.1 (Nat.le_of_ble_eq_true rfl) dX12_season_33 ⟨Nat.le_of_ble_eq_true rfl, Nat.le_of_ble_eq_true rfl⟩) (fun u H locs hz9 hH hS => ?_)
      have hz9 : u = (T, O, X) := hz9
      subst hz9
      have hH : HT D cs A T O X H := hH
      refine W.widen (k := 0) (n := 0) (Nat.le_of_ble_eq_true rfl) (Nat.le_of_ble_eq_true rfl) ?_
      refine lv_aload_n hx hb dX12_season_36 rfl (lv_at hl 0 rfl) ?_
      refine lv_iload_n hx hb dX12_season_37 rfl (lv_at hl 1 rfl) ?_
      refine t_put (ci := 12) (lst := ft12 hg mq) (v := .int x1) (ty := tyX12 25) (C := RX12) (F := TX12) (N := 36) hx hb hts uX12 tyX12 tyX12_ok nmX12 hown hkb hH hS t_a0 (hO.no t_a0 (by decide)) (fun _ => Iff.rfl) rfl rfl 25 (by decide) rfl (⟨_, rfl⟩) kw_1248 (fun _ h9 => h9) rfl (tyX12_ok 25 (by decide)) rfl rfl dX12_season_38 (fun H locs hH hS => ?_)
      refine lv_iconst (v := 0) hx hb dX12_season_41 (by decide) ?_
      refine lv_istore_n (lv' := [(3, .int 0), (0, .ref a0), (1, .int x1), (2, .int x2)]) hx hb dX12_season_42 rfl hl (by decide) rfl (fun ls hl => ?_)
      refine lv_iconst (v := 0) hx hb dX12_season_43 (by decide) ?_
      refine lv_istore (lv' := [(4, .int 0), (3, .int 0), (0, .ref a0), (1, .int x1), (2, .int x2)]) hx hb dX12_season_44 hl (by decide) rfl (fun ls hl => ?_)
      refine lv_iconst (v := 0) hx hb dX12_season_46 (by decide) ?_
      have J49 : ∀ (n : Nat) (p49_5 : Int32) (p49_4 : Int32) (p49_3 : Int32) (H : Heap) (locs : List Loc) (ls : Array Slot), (40 - p49_5.toInt).toNat = n → (0 ≤ p49_5.toInt) → (p49_5.toInt ≤ 40) → (0 ≤ p49_4.toInt) → (p49_4.toInt ≤ 1) → HT D cs A T O X H → va_S A s.heap H locs → lv_has ls 8 [(5, .int p49_5), (4, .int p49_4), (3, .int p49_3), (0, .ref a0), (2, .int x2)] → W p l e { frames := 6, cells := 0, slots := 0, locals := 140 } s m [.ref a0, .int x1, .int x2].toArray below meth c H locs 0 0 (MQ below (Ti D cs (fun r u => u = (T, O, X)) A) [.ref a0, .int x1, .int x2].toArray s 0 0 A) (F0 m 49 ls []) := by
        intro n
        induction n using Nat.strongRecOn with
        | _ n ih49 =>
          intro p49_5 p49_4 p49_3 H locs ls hm49 l_p49_5 u_p49_5 l_p49_4 u_p49_4 hH hS hl
          refine lv_iload hx hb dX12_season_49 (lv_at hl 0 rfl) ?_
          refine lv_iload_n hx hb dX12_season_51 rfl (lv_at hl 4 rfl) ?_
          refine lv_icmp_ge (tgt := 145) hx hb dX12_season_52 (by decide) (fun c52 => ?_) (fun c52 => ?_)
          · skip
            have fuc52 := full_i p49_5
            have fvc52 := full_i x2
            have tc52 := g_le c52
            refine lv_iload hx hb dX12_season_145 (lv_at hl 1 rfl) ?_
            have J154 : ∀  (H : Heap) (locs : List Loc) (ls : Array Slot), HT D cs A T O X H → va_S A s.heap H locs → lv_has ls 8 [(3, .int p49_3)] → W p l e { frames := 6, cells := 0, slots := 0, locals := 140 } s m [.ref a0, .int x1, .int x2].toArray below meth c H locs 0 0 (MQ below (Ti D cs (fun r u => u = (T, O, X)) A) [.ref a0, .int x1, .int x2].toArray s 0 0 A) (F0 m 154 ls []) := by
              intro  H locs ls  hH hS hl
              refine lv_iload_n hx hb dX12_season_154 rfl (lv_at hl 0 rfl) ?_
              exact te_i hx hb hr hlocks hH hS (rfl) dX12_season_155
            refine lv_if_eq (tgt := 154) hx hb dX12_season_147 (by decide) (fun c147 => ?_) (fun c147 => ?_)
            · skip
              have tc147 := f_eq (k := 0) (by decide) c147
              exact J154  _ _ _  hH hS (lv_sub hl [2] rfl)
            · skip
              have tc147 := f_ne (k := 0) (by decide) c147
              refine lv_aload_n hx hb dX12_season_150 rfl (lv_at hl 3 rfl) ?_
              refine tk_v hH hS hA (tr_V (n := 0) (As := []) hx hb hml hown hts hkb hH hOX hks hE hS hA (s_M_notes l D cs kf T O X a0 hg mq t_a0 b_hg (hO.sub (by decide))) kw_1552 kw_1554 ks_81 kw_13 kw_1555 (by decide +kernel) ⟨Nat.le_of_ble_eq_true rfl, Nat.le_of_ble_eq_true rfl⟩ (HT.recv (ci := 12) hkb hH t_a0 (hO.no t_a0 (by decide)) rfl) rfl rfl hl.1 (Nat.le_of_ble_eq_true rfl) dX12_season_151 ⟨Nat.le_of_ble_eq_true rfl, Nat.le_of_ble_eq_true rfl⟩) (fun u H locs hz9 hH hS => ?_)
              obtain ⟨rfl⟩ := hz9
              have hH : HT D cs A T O X H := hH
              refine W.widen (k := 0) (n := 0) (Nat.le_of_ble_eq_true rfl) (Nat.le_of_ble_eq_true rfl) ?_
              exact J154  _ _ _  hH hS (lv_sub hl [2] rfl)
          · skip
            have fuc52 := full_i p49_5
            have fvc52 := full_i x2
            have tc52 := g_nle c52
            refine lv_aload_n hx hb dX12_season_55 rfl (lv_at hl 3 rfl) ?_
            refine lv_iconst (v := 4) hx hb dX12_season_56 (by decide) ?_
            refine tk_i hH hS hA (tr_V (n := 1) (As := [.int 4]) hx hb hml hown hts hkb hH hOX hks hE hS hA (s_M_draw l D cs kf T O X a0 hg mq (4) t_a0 b_hg (by decide) (by decide) (hO.sub (by decide))) kw_1608 kw_1610 ks_87 kw_13 kw_1611 (by decide +kernel) ⟨Nat.le_of_ble_eq_true rfl, Nat.le_of_ble_eq_true rfl⟩ (HT.recv (ci := 12) hkb hH t_a0 (hO.no t_a0 (by decide)) rfl) rfl rfl hl.1 (Nat.le_of_ble_eq_true rfl) dX12_season_57 ⟨Nat.le_of_ble_eq_true rfl, Nat.le_of_ble_eq_true rfl⟩) (fun v57 u H locs hz9 hH hS => ?_)
            obtain ⟨rfl, l_v57, u_v57⟩ := hz9
            have hH : HT D cs A T O X H := hH
            refine W.widen (k := 0) (n := 0) (Nat.le_of_ble_eq_true rfl) (Nat.le_of_ble_eq_true rfl) ?_
            refine lv_istore (lv' := [(6, .int v57), (5, .int p49_5), (4, .int p49_4), (3, .int p49_3), (0, .ref a0), (2, .int x2)]) hx hb dX12_season_60 hl (by decide) rfl (fun ls hl => ?_)
            refine lv_iload hx hb dX12_season_62 (lv_at hl 0 rfl) ?_
            have J139 : ∀ (p139_4 : Int32) (p139_3 : Int32) (H : Heap) (locs : List Loc) (ls : Array Slot), (0 ≤ p139_4.toInt) → (p139_4.toInt ≤ 1) → HT D cs A T O X H → va_S A s.heap H locs → lv_has ls 8 [(4, .int p139_4), (5, .int p49_5), (3, .int p139_3), (0, .ref a0), (2, .int x2)] → W p l e { frames := 6, cells := 0, slots := 0, locals := 140 } s m [.ref a0, .int x1, .int x2].toArray below meth c H locs 0 0 (MQ below (Ti D cs (fun r u => u = (T, O, X)) A) [.ref a0, .int x1, .int x2].toArray s 0 0 A) (F0 m 139 ls []) := by
              intro p139_4 p139_3 H locs ls l_p139_4 u_p139_4 hH hS hl
              obtain ⟨v139, ev139⟩ : ∃ y : Int32, y = p49_5 + 1 := ⟨_, rfl⟩
              have tv139 : v139.toInt = p49_5.toInt + (1) := by rw [ev139]; exact add_i rfl (by decide) (by omega) (by omega)
              refine lv_iinc (v := v139) (lv' := [(5, .int v139), (4, .int p139_4), (3, .int p139_3), (0, .ref a0), (2, .int x2)]) hx hb dX12_season_139 hl (k := 1) rfl (by rw [ev139]; rfl) (by decide) rfl (fun ls hl => ?_)
              refine lv_goto (tgt := 49) hx hb dX12_season_142 (by decide) ?_
              exact ih49 _ (by omega) v139 p139_4 p139_3 _ _ _ rfl (by omega) (by omega) (by omega) (by omega) hH hS (lv_sub hl [0, 1, 2, 3, 4] rfl)
            refine lv_if_ne (tgt := 84) hx hb dX12_season_64 (by decide) (fun c64 => ?_) (fun c64 => ?_)
            · skip
              have tc64 := f_ne (k := 0) (by decide) c64
              refine lv_iload hx hb dX12_season_84 (lv_at hl 0 rfl) ?_
              refine lv_iconst (v := 3) hx hb dX12_season_86 (by decide) ?_
              refine lv_icmp_ne (tgt := 102) hx hb dX12_season_87 (by decide) (fun c87 => ?_) (fun c87 => ?_)
              · skip
                have tc87 := f_ne (k := 3) (by decide) c87
                refine lv_aload_n hx hb dX12_season_102 rfl (lv_at hl 4 rfl) ?_
                refine lv_aload_n hx hb dX12_season_103 rfl (lv_at hl 4 rfl) ?_
                refine t_get (ci := 12) (lst := ft12 hg mq) (C := RX12) (F := TX12) (N := 36) hx hb hts uX12 hown hkb hH t_a0 (hO.no t_a0 (by decide)) (fun _ h9 => h9) rfl rfl 1 (by decide) rfl kw_1224 (fun _ h9 => h9) dX12_season_104 (fun v9 h9 => ?_)
                obtain ⟨v104, rfl, t_v104⟩ := h9
                refine lv_iconst (v := 2) hx hb dX12_season_107 (by decide) ?_
                refine t_ild8 hx hb hkb hH t_v104 (hO.no t_v104 (by decide)) (by decide) (by decide) (by decide) dX12_season_108 (fun v108 h9 h8 => ?_)
                have q9 := (h8 rfl).2 rfl
                subst q9
                have eG9 : (nI (hg % 6)).toInt = (((hg % 6) : Nat) : Int) := nI_toInt (by omega)
                refine tk_i hH hS hA (tr_V (n := 1) (As := [.int (nI (hg % 6))]) hx hb hml hown hts hkb hH hOX hks hE hS hA (s_M_draw l D cs kf T O X a0 hg mq (nI (hg % 6)) t_a0 b_hg (by omega) (by omega) (hO.sub (by decide))) kw_1608 kw_1610 ks_87 kw_13 kw_1611 (by decide +kernel) ⟨Nat.le_of_ble_eq_true rfl, Nat.le_of_ble_eq_true rfl⟩ (HT.recv (ci := 12) hkb hH t_a0 (hO.no t_a0 (by decide)) rfl) rfl rfl hl.1 (Nat.le_of_ble_eq_true rfl) dX12_season_109 ⟨Nat.le_of_ble_eq_true rfl, Nat.le_of_ble_eq_true rfl⟩) (fun v109 u H locs hz9 hH hS => ?_)
                obtain ⟨rfl, l_v109, u_v109⟩ := hz9
                have hH : HT D cs A T O X H := hH
                refine W.widen (k := 0) (n := 0) (Nat.le_of_ble_eq_true rfl) (Nat.le_of_ble_eq_true rfl) ?_
                refine lv_istore (lv' := [(7, .int v109), (6, .int v57), (5, .int p49_5), (4, .int p49_4), (3, .int p49_3), (0, .ref a0), (2, .int x2)]) hx hb dX12_season_112 hl (by decide) rfl (fun ls hl => ?_)
                refine lv_aload_n hx hb dX12_season_114 rfl (lv_at hl 5 rfl) ?_
                refine lv_iload hx hb dX12_season_115 (lv_at hl 0 rfl) ?_
                refine tk_i hH hS hA (tr_V (n := 1) (As := [.int v109]) hx hb hml hown hts hkb hH hOX hks hE hS hA (s_M_laysWayOf l D cs kf T O X a0 hg mq v109 t_a0 b_hg (by omega) (by omega) (hO.sub (by decide))) kw_1560 kw_1562 ks_82 kw_13 kw_1563 (by decide +kernel) ⟨Nat.le_of_ble_eq_true rfl, Nat.le_of_ble_eq_true rfl⟩ (HT.recv (ci := 12) hkb hH t_a0 (hO.no t_a0 (by decide)) rfl) rfl rfl hl.1 (Nat.le_of_ble_eq_true rfl) dX12_season_117 ⟨Nat.le_of_ble_eq_true rfl, Nat.le_of_ble_eq_true rfl⟩) (fun v117 u H locs hz9 hH hS => ?_)
                obtain ⟨rfl, l_v117, u_v117⟩ := hz9
                have hH : HT D cs A T O X H := hH
                refine W.widen (k := 0) (n := 0) (Nat.le_of_ble_eq_true rfl) (Nat.le_of_ble_eq_true rfl) ?_
                refine lv_if_ne (tgt := 126) hx hb dX12_season_120 (by decide) (fun c120 => ?_) (fun c120 => ?_)
                · skip
                  have tc120 := f_ne (k := 0) (by decide) c120
                  refine lv_aload_n hx hb dX12_season_126 rfl (lv_at hl 5 rfl) ?_
                  refine lv_iload hx hb dX12_season_127 (lv_at hl 0 rfl) ?_
                  refine tk_i hH hS hA (tr_V (n := 1) (As := [.int v109]) hx hb hml hown hts hkb hH hOX hks hE hS hA (s_M_usesRow l D cs kf T O X a0 hg mq v109 t_a0 b_hg (hO.sub (by decide))) kw_1548 kw_1550 ks_80 kw_13 kw_1551 (by decide +kernel) ⟨Nat.le_of_ble_eq_true rfl, Nat.le_of_ble_eq_true rfl⟩ (HT.recv (ci := 12) hkb hH t_a0 (hO.no t_a0 (by decide)) rfl) rfl rfl hl.1 (Nat.le_of_ble_eq_true rfl) dX12_season_129 ⟨Nat.le_of_ble_eq_true rfl, Nat.le_of_ble_eq_true rfl⟩) (fun v129 u H locs hz9 hH hS => ?_)
                  have hz9 : u = (T, O, X) := hz9
                  subst hz9
                  have hH : HT D cs A T O X H := hH
                  refine W.widen (k := 0) (n := 0) (Nat.le_of_ble_eq_true rfl) (Nat.le_of_ble_eq_true rfl) ?_
                  refine lv_pop hx hb dX12_season_132 rfl ?_
                  refine lv_iconst (v := 1) hx hb dX12_season_133 (by decide) ?_
                  refine lv_istore (lv' := [(4, .int 1), (7, .int v109), (6, .int v57), (5, .int p49_5), (3, .int p49_3), (0, .ref a0), (2, .int x2)]) hx hb dX12_season_134 hl (by decide) rfl (fun ls hl => ?_)
                  obtain ⟨v136, ev136⟩ : ∃ y : Int32, y = p49_3 + 1 := ⟨_, rfl⟩
                  refine lv_iinc (v := v136) (lv' := [(3, .int v136), (4, .int 1), (7, .int v109), (6, .int v57), (5, .int p49_5), (0, .ref a0), (2, .int x2)]) hx hb dX12_season_136 hl (k := 4) rfl (by rw [ev136]; rfl) (by decide) rfl (fun ls hl => ?_)
                  exact J139 1 v136 _ _ _ (by decide) (by decide) hH hS (lv_sub hl [1, 4, 0, 5, 6] rfl)
                · skip
                  have tc120 := f_eq (k := 0) (by decide) c120
                  refine lv_goto (tgt := 139) hx hb dX12_season_123 (by decide) ?_
                  exact J139 p49_4 p49_3 _ _ _ (by omega) (by omega) hH hS (lv_sub hl [3, 2, 4, 5, 6] rfl)
              · skip
                have tc87 := f_eq (k := 3) (by decide) c87
                refine lv_iload hx hb dX12_season_90 (lv_at hl 2 rfl) ?_
                refine lv_aload_n hx hb dX12_season_92 rfl (lv_at hl 4 rfl) ?_
                refine tk_i hH hS hA (tr_V (n := 0) (As := []) hx hb hml hown hts hkb hH hOX hks hE hS hA (s_M_rains l D cs kf T O X a0 hg mq t_a0 b_hg (hO.sub (by decide))) kw_1582 kw_1584 ks_85 kw_13 kw_1585 (by decide +kernel) ⟨Nat.le_of_ble_eq_true rfl, Nat.le_of_ble_eq_true rfl⟩ (HT.recv (ci := 12) hkb hH t_a0 (hO.no t_a0 (by decide)) rfl) rfl rfl hl.1 (Nat.le_of_ble_eq_true rfl) dX12_season_93 ⟨Nat.le_of_ble_eq_true rfl, Nat.le_of_ble_eq_true rfl⟩) (fun v93 u H locs hz9 hH hS => ?_)
                obtain ⟨rfl, l_v93, u_v93⟩ := hz9
                have hH : HT D cs A T O X H := hH
                refine W.widen (k := 0) (n := 0) (Nat.le_of_ble_eq_true rfl) (Nat.le_of_ble_eq_true rfl) ?_
                refine lv_ior hx hb dX12_season_96 ?_
                refine lv_topi (fun v96 ev96 => ?_)
                have tv96 : 0 ≤ v96.toInt ∧ v96.toInt < 2 := by rw [ev96]; exact or_b 1 (by decide) (by omega) (by omega) (by omega) (by omega)
                refine lv_istore (lv' := [(4, .int v96), (6, .int v57), (5, .int p49_5), (3, .int p49_3), (0, .ref a0), (2, .int x2)]) hx hb dX12_season_97 hl (by decide) rfl (fun ls hl => ?_)
                refine lv_goto (tgt := 139) hx hb dX12_season_99 (by decide) ?_
                exact J139 v96 p49_3 _ _ _ (by omega) (by omega) hH hS (lv_sub hl [0, 2, 3, 4, 5] rfl)
            · skip
              have tc64 := f_eq (k := 0) (by decide) c64
              refine lv_aload_n hx hb dX12_season_67 rfl (lv_at hl 4 rfl) ?_
              refine t_get (ci := 12) (lst := ft12 hg mq) (C := RX12) (F := TX12) (N := 36) hx hb hts uX12 hown hkb hH t_a0 (hO.no t_a0 (by decide)) (fun _ h9 => h9) rfl rfl 1 (by decide) rfl kw_1224 (fun _ h9 => h9) dX12_season_68 (fun v9 h9 => ?_)
              obtain ⟨v68, rfl, t_v68⟩ := h9
              refine lv_bipush (v := 88) hx hb dX12_season_71 (by decide) ?_
              refine lv_dup2_11 hx hb dX12_season_73 rfl rfl ?_
              refine t_ild8 hx hb hkb hH t_v68 (hO.no t_v68 (by decide)) (by decide) (by decide) (by decide) dX12_season_74 (fun v74 h9 h8 => ?_)
              refine lv_iconst (v := 1) hx hb dX12_season_75 (by decide) ?_
              refine lv_iadd hx hb dX12_season_76 ?_
              refine lv_topi (fun v76 ev76 => ?_)
              refine t_ist8 hx hb hkb hH hS t_v68 (hO.no t_v68 (by decide)) (by decide) (by decide) (by decide) (by decide) (by decide) (p8_far (by decide) (by decide)) dX12_season_77 (fun H locs hH hS => ?_)
              refine lv_iconst (v := 1) hx hb dX12_season_78 (by decide) ?_
              refine lv_istore (lv' := [(4, .int 1), (6, .int v57), (5, .int p49_5), (3, .int p49_3), (0, .ref a0), (2, .int x2)]) hx hb dX12_season_79 hl (by decide) rfl (fun ls hl => ?_)
              refine lv_goto (tgt := 139) hx hb dX12_season_81 (by decide) ?_
              exact J139 1 p49_3 _ _ _ (by decide) (by decide) hH hS (lv_sub hl [0, 2, 3, 4, 5] rfl)
      refine lv_istore (lv' := [(5, .int 0), (4, .int 0), (3, .int 0), (0, .ref a0), (1, .int x1), (2, .int x2)]) hx hb dX12_season_47 hl (by decide) rfl (fun ls hl => ?_)
      exact J49 _ 0 0 0 _ _ _ rfl (by decide) (by decide) (by decide) (by decide) hH hS (lv_sub hl [0, 1, 2, 3, 5] rfl)
    · skip
      have tc26 := f_eq (k := 0) (by decide) c26
      refine lv_bipush (v := (-5)) hx hb dX12_season_29 (by decide) ?_
      exact te_i hx hb hr hlocks hH hS (rfl) dX12_season_31
  · skip
    have tc14 := f_eq (k := 0) (by decide) c14
    clear x_v110
    replace x_v111 := x_v111.resolve_left (fun q9 => q9 tc14)
    refine lv_bipush (v := (-3)) hx hb dX12_season_17 (by decide) ?_
    exact te_i hx hb hr hlocks hH hS (rfl) dX12_season_19
