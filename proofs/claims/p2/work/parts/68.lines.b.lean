set_option maxHeartbeats 4000000 in
set_option maxRecDepth 100000 in
theorem s_M_readFlag (l : Launch) (D : va_G) (cs : CS) (kf : KF) (T : TF) (O : List Nat) (X : va_W) (a0 hg mq : Nat) (x1 : Int32) (o0 : Value) (o1 : Value) (o2 : Value) (y3 : Nat) (y4 : Nat) (o5 : Value) (y6 : Int32) (y7 : Int32) (y8 : Int32) (y9 : Int32) (y10 : Int32) (y11 : Int32) (y12 : Int32) (tl : List Value) (f4 : Nat → Int32) (t_a0 : T a0 = some (22, hg, mq)) (b_hg : hg < 90) (l_x1 : 0 ≤ x1.toInt) (u_x1 : x1.toInt ≤ 13) (t_y3 : T y3 = some (1, 900, 0)) (t_y4 : T y4 = some (8, 1302, 0)) (l_y6 : 0 ≤ y6.toInt) (u_y6 : y6.toInt ≤ 900) (l_y7 : 0 ≤ y7.toInt) (u_y7 : y7.toInt ≤ 900) (l_y8 : 0 ≤ y8.toInt) (u_y8 : y8.toInt ≤ 900) (l_y10 : 0 ≤ y10.toInt) (u_y10 : y10.toInt ≤ 999) (s_f4 : S8 f4) (k1 : y6.toInt ≤ y7.toInt) (k2 : y7.toInt ≤ y8.toInt) (k3 : TK3 y9 y6 y7) (hO : okO T (a0 :: y4 :: O) [1]) : TK l D cs kf yX12_readFlag cX12_readFlag 3 (some (.boolean)) { frames := 7, cells := 0, slots := 0, locals := 152 } [.ref a0, .int x1] T (a0 :: y4 :: O) ((a0, .inr (12, o0 :: o1 :: o2 :: (.ref y3) :: (.ref y4) :: o5 :: (.int y6) :: (.int y7) :: (.int y8) :: (.int y9) :: (.int y10) :: (.int y11) :: (.int y12) :: tl)) :: (y4, .inl (cs.2.1, 1302, .inl f4)) :: X) (Ti D cs (fun r u => ∃ (n0_6 : Int32) (n0_7 : Int32) (n0_9 : Int32) (n0_10 : Int32) (n0_11 : Int32) (n0_12 : Int32) (G1 : Nat → Int32), u = (T, a0 :: y4 :: O, (a0, .inr (12, o0 :: o1 :: o2 :: (.ref y3) :: (.ref y4) :: o5 :: (.int n0_6) :: (.int n0_7) :: (.int y8) :: (.int n0_9) :: (.int n0_10) :: (.int n0_11) :: (.int n0_12) :: tl)) :: (y4, .inl (cs.2.1, 1302, .inl G1)) :: X) ∧ 0 ≤ r.toInt ∧ r.toInt ≤ 1 ∧ (S8 G1) ∧ (y6.toInt ≤ n0_6.toInt) ∧ (n0_6.toInt ≤ n0_7.toInt) ∧ (n0_7.toInt ≤ y8.toInt) ∧ (TK3 n0_9 n0_6 n0_7) ∧ (0 ≤ n0_10.toInt) ∧ (n0_10.toInt ≤ 999) ∧ (r.toInt = 0 ∨ (n0_11.toInt = 0 ∧ y6.toInt + 1 ≤ n0_6.toInt)) ∧ (G1 1 = f4 1))) := by
  refine tk_of (by decide) (Nat.le_of_ble_eq_true rfl) (fun p e s m below meth c ls A H locs hx hb hr hml hown hts hlocks hnm hkb hH hS hA hOX hks hE hl => ?_)
  have hown : s.vm.findClass RX12 = some m.cls := hown
  have hl : lv_has ls 3 [(0, .ref a0), (1, .int x1)] := hl
  have hOXf := hOX
  refine lv_aload_n hx hb dX12_readFlag_0 rfl (lv_at hl 0 rfl) ?_
  refine lv_bipush (v := 9) hx hb dX12_readFlag_1 (by decide) ?_
  have z9_9 : (9 : Int32).toInt = 9 := by decide
  refine tk_i hH hS hA (tr_V (n := 1) (As := [.int 9]) hx hb hml hown hts hkb hH (ox_map hOX rfl) hks hE hS hA (s_M_eats l D cs kf T (y4 :: O) ((y4, .inl (cs.2.1, 1302, .inl f4)) :: X) a0 hg mq (9) o0 o1 o2 y3 y4 o5 y6 y7 y8 y9 y10 y11 y12 tl t_a0 b_hg t_y3 t_y4 (by omega) (by omega) (by omega) (by omega) (by omega) (by omega) (by omega) (by omega) (by omega) (by omega) k3 (by omega) (hO.sub (by decide))) kw_1390 kw_1392 ks_52 kw_13 kw_1393 (by decide +kernel) ⟨Nat.le_of_ble_eq_true rfl, Nat.le_of_ble_eq_true rfl⟩ (x_recv (ci := 12) hkb hH 0 rfl rfl) rfl rfl hl.1 (Nat.le_of_ble_eq_true rfl) dX12_readFlag_3 ⟨Nat.le_of_ble_eq_true rfl, Nat.le_of_ble_eq_true rfl⟩) (fun v3 u H locs hz9 hH hS => ?_)
  obtain ⟨n3_0_6, n3_0_7, n3_0_9, n3_0_10, rfl, l_v3, u_v3, x_v30, x_v31, x_v32, x_v33, x_v34, x_v35, x_v36⟩ := hz9
  have hH : HT D cs A T (a0 :: y4 :: O) ((a0, .inr (12, o0 :: o1 :: o2 :: (.ref y3) :: (.ref y4) :: o5 :: (.int n3_0_6) :: (.int n3_0_7) :: (.int y8) :: (.int n3_0_9) :: (.int n3_0_10) :: (.int y11) :: (.int y12) :: tl)) :: (y4, .inl (cs.2.1, 1302, .inl f4)) :: X) H := hH
  refine W.widen (k := 0) (n := 0) (Nat.le_of_ble_eq_true rfl) (Nat.le_of_ble_eq_true rfl) ?_
  refine lv_if_eq (tgt := 24) hx hb dX12_readFlag_6 (by decide) (fun c6 => ?_) (fun c6 => ?_)
  · skip
    have tc6 := f_eq (k := 0) (by decide) c6
    clear x_v36
    refine lv_aload_n hx hb dX12_readFlag_24 rfl (lv_at hl 0 rfl) ?_
    refine lv_bipush (v := 10) hx hb dX12_readFlag_25 (by decide) ?_
    have z9_10 : (10 : Int32).toInt = 10 := by decide
    refine tk_i hH hS hA (tr_V (n := 1) (As := [.int 10]) hx hb hml hown hts hkb hH (ox_map hOX rfl) hks hE hS hA (s_M_eats l D cs kf T (y4 :: O) ((y4, .inl (cs.2.1, 1302, .inl f4)) :: X) a0 hg mq (10) o0 o1 o2 y3 y4 o5 n3_0_6 n3_0_7 y8 n3_0_9 n3_0_10 y11 y12 tl t_a0 b_hg t_y3 t_y4 (by omega) (by omega) (by omega) (by omega) (by omega) (by omega) (by omega) (by omega) (by omega) (by omega) x_v33 (by omega) (hO.sub (by decide))) kw_1390 kw_1392 ks_52 kw_13 kw_1393 (by decide +kernel) ⟨Nat.le_of_ble_eq_true rfl, Nat.le_of_ble_eq_true rfl⟩ (x_recv (ci := 12) hkb hH 0 rfl rfl) rfl rfl hl.1 (Nat.le_of_ble_eq_true rfl) dX12_readFlag_27 ⟨Nat.le_of_ble_eq_true rfl, Nat.le_of_ble_eq_true rfl⟩) (fun v27 u H locs hz9 hH hS => ?_)
    obtain ⟨n27_0_6, n27_0_7, n27_0_9, n27_0_10, rfl, l_v27, u_v27, x_v270, x_v271, x_v272, x_v273, x_v274, x_v275, x_v276⟩ := hz9
    have hH : HT D cs A T (a0 :: y4 :: O) ((a0, .inr (12, o0 :: o1 :: o2 :: (.ref y3) :: (.ref y4) :: o5 :: (.int n27_0_6) :: (.int n27_0_7) :: (.int y8) :: (.int n27_0_9) :: (.int n27_0_10) :: (.int y11) :: (.int y12) :: tl)) :: (y4, .inl (cs.2.1, 1302, .inl f4)) :: X) H := hH
    refine W.widen (k := 0) (n := 0) (Nat.le_of_ble_eq_true rfl) (Nat.le_of_ble_eq_true rfl) ?_
    refine lv_if_eq (tgt := 48) hx hb dX12_readFlag_30 (by decide) (fun c30 => ?_) (fun c30 => ?_)
    · skip
      have tc30 := f_eq (k := 0) (by decide) c30
      clear x_v276
      refine lv_aload_n hx hb dX12_readFlag_48 rfl (lv_at hl 0 rfl) ?_
      refine lv_bipush (v := 11) hx hb dX12_readFlag_49 (by decide) ?_
      have z9_11 : (11 : Int32).toInt = 11 := by decide
      refine tk_i hH hS hA (tr_V (n := 1) (As := [.int 11]) hx hb hml hown hts hkb hH (ox_map hOX rfl) hks hE hS hA (s_M_eats l D cs kf T (y4 :: O) ((y4, .inl (cs.2.1, 1302, .inl f4)) :: X) a0 hg mq (11) o0 o1 o2 y3 y4 o5 n27_0_6 n27_0_7 y8 n27_0_9 n27_0_10 y11 y12 tl t_a0 b_hg t_y3 t_y4 (by omega) (by omega) (by omega) (by omega) (by omega) (by omega) (by omega) (by omega) (by omega) (by omega) x_v273 (by omega) (hO.sub (by decide))) kw_1390 kw_1392 ks_52 kw_13 kw_1393 (by decide +kernel) ⟨Nat.le_of_ble_eq_true rfl, Nat.le_of_ble_eq_true rfl⟩ (x_recv (ci := 12) hkb hH 0 rfl rfl) rfl rfl hl.1 (Nat.le_of_ble_eq_true rfl) dX12_readFlag_51 ⟨Nat.le_of_ble_eq_true rfl, Nat.le_of_ble_eq_true rfl⟩) (fun v51 u H locs hz9 hH hS => ?_)
      obtain ⟨n51_0_6, n51_0_7, n51_0_9, n51_0_10, rfl, l_v51, u_v51, x_v510, x_v511, x_v512, x_v513, x_v514, x_v515, x_v516⟩ := hz9
      have hH : HT D cs A T (a0 :: y4 :: O) ((a0, .inr (12, o0 :: o1 :: o2 :: (.ref y3) :: (.ref y4) :: o5 :: (.int n51_0_6) :: (.int n51_0_7) :: (.int y8) :: (.int n51_0_9) :: (.int n51_0_10) :: (.int y11) :: (.int y12) :: tl)) :: (y4, .inl (cs.2.1, 1302, .inl f4)) :: X) H := hH
      refine W.widen (k := 0) (n := 0) (Nat.le_of_ble_eq_true rfl) (Nat.le_of_ble_eq_true rfl) ?_
      refine lv_if_eq (tgt := 73) hx hb dX12_readFlag_54 (by decide) (fun c54 => ?_) (fun c54 => ?_)
      · skip
        have tc54 := f_eq (k := 0) (by decide) c54
        clear x_v516
        refine lv_aload_n hx hb dX12_readFlag_73 rfl (lv_at hl 0 rfl) ?_
        refine lv_bipush (v := 12) hx hb dX12_readFlag_74 (by decide) ?_
        have z9_12 : (12 : Int32).toInt = 12 := by decide
        refine tk_i hH hS hA (tr_V (n := 1) (As := [.int 12]) hx hb hml hown hts hkb hH (ox_map hOX rfl) hks hE hS hA (s_M_eats l D cs kf T (y4 :: O) ((y4, .inl (cs.2.1, 1302, .inl f4)) :: X) a0 hg mq (12) o0 o1 o2 y3 y4 o5 n51_0_6 n51_0_7 y8 n51_0_9 n51_0_10 y11 y12 tl t_a0 b_hg t_y3 t_y4 (by omega) (by omega) (by omega) (by omega) (by omega) (by omega) (by omega) (by omega) (by omega) (by omega) x_v513 (by omega) (hO.sub (by decide))) kw_1390 kw_1392 ks_52 kw_13 kw_1393 (by decide +kernel) ⟨Nat.le_of_ble_eq_true rfl, Nat.le_of_ble_eq_true rfl⟩ (x_recv (ci := 12) hkb hH 0 rfl rfl) rfl rfl hl.1 (Nat.le_of_ble_eq_true rfl) dX12_readFlag_76 ⟨Nat.le_of_ble_eq_true rfl, Nat.le_of_ble_eq_true rfl⟩) (fun v76 u H locs hz9 hH hS => ?_)
        obtain ⟨n76_0_6, n76_0_7, n76_0_9, n76_0_10, rfl, l_v76, u_v76, x_v760, x_v761, x_v762, x_v763, x_v764, x_v765, x_v766⟩ := hz9
        have hH : HT D cs A T (a0 :: y4 :: O) ((a0, .inr (12, o0 :: o1 :: o2 :: (.ref y3) :: (.ref y4) :: o5 :: (.int n76_0_6) :: (.int n76_0_7) :: (.int y8) :: (.int n76_0_9) :: (.int n76_0_10) :: (.int y11) :: (.int y12) :: tl)) :: (y4, .inl (cs.2.1, 1302, .inl f4)) :: X) H := hH
        refine W.widen (k := 0) (n := 0) (Nat.le_of_ble_eq_true rfl) (Nat.le_of_ble_eq_true rfl) ?_
        refine lv_if_eq (tgt := 111) hx hb dX12_readFlag_79 (by decide) (fun c79 => ?_) (fun c79 => ?_)
        · skip
          have tc79 := f_eq (k := 0) (by decide) c79
          clear x_v766
          refine lv_iconst (v := 0) hx hb dX12_readFlag_111 (by decide) ?_
          have z9_0 : (0 : Int32).toInt = 0 := by decide
          exact te_z hx hb hr hlocks (by rfl) hH hS (⟨n76_0_6, n76_0_7, n76_0_9, n76_0_10, y11, y12, f4, rfl, by decide, by decide, s_f4, by omega, by omega, by omega, x_v763, by omega, by omega, by omega, rfl⟩) dX12_readFlag_112
        · skip
          have tc79 := f_ne (k := 0) (by decide) c79
          replace x_v766 := x_v766.resolve_left tc79
          refine lv_aload_n hx hb dX12_readFlag_82 rfl (lv_at hl 0 rfl) ?_
          refine lv_iconst (v := 0) hx hb dX12_readFlag_83 (by decide) ?_
          refine lv_sipush (v := 999) hx hb dX12_readFlag_84 (by decide) ?_
          have z9_0 : (0 : Int32).toInt = 0 := by decide
          have z9_999 : (999 : Int32).toInt = 999 := by decide
          refine tk_i hH hS hA (tr_V (n := 2) (As := [.int 0, .int 999]) hx hb hml hown hts hkb hH (ox_map hOX rfl) hks hE hS hA (s_M_takes l D cs kf T (y4 :: O) ((y4, .inl (cs.2.1, 1302, .inl f4)) :: X) a0 hg mq (0) (999) o0 o1 o2 y3 y4 o5 n76_0_6 n76_0_7 y8 n76_0_9 n76_0_10 y11 y12 tl t_a0 b_hg t_y3 t_y4 (by omega) (by omega) (by omega) (by omega) (by omega) (by omega) (by omega) (by omega) (by omega) (by omega) x_v763 (hO.sub (by decide))) kw_1382 kw_1384 ks_50 kw_13 kw_1385 (by decide +kernel) ⟨Nat.le_of_ble_eq_true rfl, Nat.le_of_ble_eq_true rfl⟩ (x_recv (ci := 12) hkb hH 0 rfl rfl) rfl rfl hl.1 (Nat.le_of_ble_eq_true rfl) dX12_readFlag_87 ⟨Nat.le_of_ble_eq_true rfl, Nat.le_of_ble_eq_true rfl⟩) (fun v87 u H locs hz9 hH hS => ?_)
          obtain ⟨n87_0_6, n87_0_7, n87_0_9, n87_0_10, n87_0_11, n87_0_12, rfl, l_v87, u_v87, x_v870, x_v871, x_v872, x_v873, x_v874, x_v875, x_v876⟩ := hz9
          have hH : HT D cs A T (a0 :: y4 :: O) ((a0, .inr (12, o0 :: o1 :: o2 :: (.ref y3) :: (.ref y4) :: o5 :: (.int n87_0_6) :: (.int n87_0_7) :: (.int y8) :: (.int n87_0_9) :: (.int n87_0_10) :: (.int n87_0_11) :: (.int n87_0_12) :: tl)) :: (y4, .inl (cs.2.1, 1302, .inl f4)) :: X) H := hH
          refine W.widen (k := 0) (n := 0) (Nat.le_of_ble_eq_true rfl) (Nat.le_of_ble_eq_true rfl) ?_
          refine lv_istore_n (lv' := [(2, .int v87), (0, .ref a0), (1, .int x1)]) hx hb dX12_readFlag_90 rfl hl (by decide) rfl (fun ls hl => ?_)
          refine lv_aload_n hx hb dX12_readFlag_91 rfl (lv_at hl 1 rfl) ?_
          refine x_getk (ci := 12) (C := RX12) (F := TX12) (N := 36) (v := .int n87_0_11) hx hb hts uX12 hown hkb hH 0 rfl rfl 11 (by decide) rfl kw_1234 (fun _ h9 => h9) dX12_readFlag_92 ?_
          refine lv_if_ne (tgt := 108) hx hb dX12_readFlag_95 (by decide) (fun c95 => ?_) (fun c95 => ?_)
          · skip
            have tc95 := f_ne (k := 0) (by decide) c95
            refine lv_goto (tgt := 113) hx hb dX12_readFlag_108 (by decide) ?_
            refine lv_aload_n hx hb dX12_readFlag_113 rfl (lv_at hl 1 rfl) ?_
            refine x_getk (ci := 12) (C := RX12) (F := TX12) (N := 36) (v := .int n87_0_11) hx hb hts uX12 hown hkb hH 0 rfl rfl 11 (by decide) rfl kw_1234 (fun _ h9 => h9) dX12_readFlag_114 ?_
            refine lv_if_ne (tgt := 124) hx hb dX12_readFlag_117 (by decide) (fun c117 => ?_) (fun c117 => ?_)
            · skip
              have tc117 := f_ne (k := 0) (by decide) c117
              refine lv_iconst (v := 0) hx hb dX12_readFlag_124 (by decide) ?_
              have z9_0 : (0 : Int32).toInt = 0 := by decide
              exact te_z hx hb hr hlocks (by rfl) hH hS (⟨n87_0_6, n87_0_7, n87_0_9, n87_0_10, n87_0_11, n87_0_12, f4, rfl, by decide, by decide, s_f4, by omega, by omega, by omega, x_v873, by omega, by omega, by omega, rfl⟩) dX12_readFlag_125
            · skip
              have tc117 := f_eq (k := 0) (by decide) c117
              refine lv_iconst (v := 1) hx hb dX12_readFlag_120 (by decide) ?_
              refine lv_goto (tgt := 125) hx hb dX12_readFlag_121 (by decide) ?_
              have z9_1 : (1 : Int32).toInt = 1 := by decide
              exact te_z hx hb hr hlocks (by rfl) hH hS (⟨n87_0_6, n87_0_7, n87_0_9, n87_0_10, n87_0_11, n87_0_12, f4, rfl, by decide, by decide, s_f4, by omega, by omega, by omega, x_v873, by omega, by omega, by omega, rfl⟩) dX12_readFlag_125
          · skip
            have tc95 := f_eq (k := 0) (by decide) c95
            refine lv_aload_n hx hb dX12_readFlag_98 rfl (lv_at hl 1 rfl) ?_
            refine x_getk (ci := 12) (C := RX12) (F := TX12) (N := 36) (v := .ref y4) hx hb hts uX12 hown hkb hH 0 rfl rfl 4 (by decide) rfl kw_1227 (fun _ h9 => h9) dX12_readFlag_99 ?_
            refine lv_bipush (v := 35) hx hb dX12_readFlag_102 (by decide) ?_
            refine lv_iload_n hx hb dX12_readFlag_104 rfl (lv_at hl 2 rfl) ?_
            refine lv_iadd hx hb dX12_readFlag_105 ?_
            refine lv_topi (fun v105 ev105 => ?_)
            have tv105 : v105.toInt = (35) + x1.toInt := by rw [ev105]; exact add_i (by decide : (35 : Int32).toInt = 35) rfl (by omega) (by omega)
            refine lv_iload_n hx hb dX12_readFlag_106 rfl (lv_at hl 0 rfl) ?_
            refine xa_ist hx hb hkb hH hS 1 rfl (by omega) (by omega) dX12_readFlag_107 (fun H locs hH hS => ?_)
            have hH : HT D cs A T (a0 :: y4 :: O) ((a0, .inr (12, o0 :: o1 :: o2 :: (.ref y3) :: (.ref y4) :: o5 :: (.int n87_0_6) :: (.int n87_0_7) :: (.int y8) :: (.int n87_0_9) :: (.int n87_0_10) :: (.int n87_0_11) :: (.int n87_0_12) :: tl)) :: (y4, .inl (cs.2.1, 1302, .inl (upd f4 (v105.toInt.toNat) v87))) :: X) H := hH
            obtain ⟨F107, eF107⟩ : ∃ f9, f9 = upd f4 (v105.toInt.toNat) v87 := ⟨_, rfl⟩
            have hH : HT D cs A T (a0 :: y4 :: O) ((a0, .inr (12, o0 :: o1 :: o2 :: (.ref y3) :: (.ref y4) :: o5 :: (.int n87_0_6) :: (.int n87_0_7) :: (.int y8) :: (.int n87_0_9) :: (.int n87_0_10) :: (.int n87_0_11) :: (.int n87_0_12) :: tl)) :: (y4, .inl (cs.2.1, 1302, .inl F107)) :: X) H := eF107 ▸ hH
            have s_F107 : S8 F107 := eF107 ▸ S8_put (i := v105) (x := v87) s_f4 (by omega) (by omega) (p8_far (by omega) (⟨by omega, by omega⟩))
            refine lv_goto (tgt := 113) hx hb dX12_readFlag_108 (by decide) ?_
            refine lv_aload_n hx hb dX12_readFlag_113 rfl (lv_at hl 1 rfl) ?_
            refine x_getk (ci := 12) (C := RX12) (F := TX12) (N := 36) (v := .int n87_0_11) hx hb hts uX12 hown hkb hH 0 rfl rfl 11 (by decide) rfl kw_1234 (fun _ h9 => h9) dX12_readFlag_114 ?_
            refine lv_if_ne (tgt := 124) hx hb dX12_readFlag_117 (by decide) (fun c117 => ?_) (fun c117 => ?_)
            · skip
              have tc117 := f_ne (k := 0) (by decide) c117
              exfalso; omega
            · skip
              have tc117 := f_eq (k := 0) (by decide) c117
              refine lv_iconst (v := 1) hx hb dX12_readFlag_120 (by decide) ?_
              refine lv_goto (tgt := 125) hx hb dX12_readFlag_121 (by decide) ?_
              have z9_1 : (1 : Int32).toInt = 1 := by decide
              exact te_z hx hb hr hlocks (by rfl) hH hS (⟨n87_0_6, n87_0_7, n87_0_9, n87_0_10, n87_0_11, n87_0_12, F107, rfl, by decide, by decide, s_F107, by omega, by omega, by omega, x_v873, by omega, by omega, by omega, (by rw [eF107]; exact upd_ne (by first | decide | omega))⟩) dX12_readFlag_125
      · skip
        have tc54 := f_ne (k := 0) (by decide) c54
        replace x_v516 := x_v516.resolve_left tc54
        refine lv_aload_n hx hb dX12_readFlag_57 rfl (lv_at hl 0 rfl) ?_
        refine x_getk (ci := 12) (C := RX12) (F := TX12) (N := 36) (v := .ref y4) hx hb hts uX12 hown hkb hH 0 rfl rfl 4 (by decide) rfl kw_1227 (fun _ h9 => h9) dX12_readFlag_58 ?_
        refine lv_bipush (v := 6) hx hb dX12_readFlag_61 (by decide) ?_
        refine lv_dup2_11 hx hb dX12_readFlag_63 rfl rfl ?_
        refine xa_ild hx hb hkb hH 1 rfl (by decide) (by decide) dX12_readFlag_64 ?_
        refine lv_topi (fun v64 ev64 => ?_)
        have tv64 : v64 = f4 6 := by rw [ev64]; rfl
        have bv64 : 0 ≤ v64.toInt ∧ v64.toInt ≤ 16383 := by rw [tv64]; exact s_f4.2.2.2.2.1
        refine lv_iconst (v := 1) hx hb dX12_readFlag_65 (by decide) ?_
        refine lv_iload_n hx hb dX12_readFlag_66 rfl (lv_at hl 1 rfl) ?_
        refine lv_ishl hx hb dX12_readFlag_67 ?_
        refine lv_topi (fun v67 ev67 => ?_)
        have tv67 : 1 ≤ v67.toInt ∧ v67.toInt ≤ 8192 := by rw [ev67]; exact shl_b 13 (by decide) (by omega) (by omega)
        refine lv_ior hx hb dX12_readFlag_68 ?_
        refine lv_topi (fun v68 ev68 => ?_)
        have tv68 : 0 ≤ v68.toInt ∧ v68.toInt < 16384 := by rw [ev68]; exact or_b 14 (by decide) (by omega) (by omega) (by omega) (by omega)
        refine xa_ist hx hb hkb hH hS 1 rfl (by decide) (by decide) dX12_readFlag_69 (fun H locs hH hS => ?_)
        have hH : HT D cs A T (a0 :: y4 :: O) ((a0, .inr (12, o0 :: o1 :: o2 :: (.ref y3) :: (.ref y4) :: o5 :: (.int n51_0_6) :: (.int n51_0_7) :: (.int y8) :: (.int n51_0_9) :: (.int n51_0_10) :: (.int y11) :: (.int y12) :: tl)) :: (y4, .inl (cs.2.1, 1302, .inl (upd f4 (6) v68))) :: X) H := hH
        obtain ⟨F69, eF69⟩ : ∃ f9, f9 = upd f4 (6) v68 := ⟨_, rfl⟩
        have hH : HT D cs A T (a0 :: y4 :: O) ((a0, .inr (12, o0 :: o1 :: o2 :: (.ref y3) :: (.ref y4) :: o5 :: (.int n51_0_6) :: (.int n51_0_7) :: (.int y8) :: (.int n51_0_9) :: (.int n51_0_10) :: (.int y11) :: (.int y12) :: tl)) :: (y4, .inl (cs.2.1, 1302, .inl F69)) :: X) H := eF69 ▸ hH
        have s_F69 : S8 F69 := eF69 ▸ S8_put (i := 6) (x := v68) s_f4 (by decide) (by decide) (⟨fun q9 => absurd q9 (by decide), fun q9 => absurd q9 (by decide), fun q9 => absurd q9 (by decide), fun q9 => absurd q9 (by decide), fun _ => ⟨by omega, by omega⟩, fun q9 => absurd q9 (by decide), fun q9 => absurd q9 (by decide)⟩)
        refine lv_goto (tgt := 113) hx hb dX12_readFlag_70 (by decide) ?_
        refine lv_aload_n hx hb dX12_readFlag_113 rfl (lv_at hl 0 rfl) ?_
        refine x_getk (ci := 12) (C := RX12) (F := TX12) (N := 36) (v := .int y11) hx hb hts uX12 hown hkb hH 0 rfl rfl 11 (by decide) rfl kw_1234 (fun _ h9 => h9) dX12_readFlag_114 ?_
        refine lv_if_ne (tgt := 124) hx hb dX12_readFlag_117 (by decide) (fun c117 => ?_) (fun c117 => ?_)
        · skip
          have tc117 := f_ne (k := 0) (by decide) c117
          refine lv_iconst (v := 0) hx hb dX12_readFlag_124 (by decide) ?_
          have z9_0 : (0 : Int32).toInt = 0 := by decide
          exact te_z hx hb hr hlocks (by rfl) hH hS (⟨n51_0_6, n51_0_7, n51_0_9, n51_0_10, y11, y12, F69, rfl, by decide, by decide, s_F69, by omega, by omega, by omega, x_v513, by omega, by omega, by omega, (by rw [eF69]; exact upd_ne (by first | decide | omega))⟩) dX12_readFlag_125
        · skip
          have tc117 := f_eq (k := 0) (by decide) c117
          refine lv_iconst (v := 1) hx hb dX12_readFlag_120 (by decide) ?_
          refine lv_goto (tgt := 125) hx hb dX12_readFlag_121 (by decide) ?_
          have z9_1 : (1 : Int32).toInt = 1 := by decide
          exact te_z hx hb hr hlocks (by rfl) hH hS (⟨n51_0_6, n51_0_7, n51_0_9, n51_0_10, y11, y12, F69, rfl, by decide, by decide, s_F69, by omega, by omega, by omega, x_v513, by omega, by omega, by omega, (by rw [eF69]; exact upd_ne (by first | decide | omega))⟩) dX12_readFlag_125
    · skip
      have tc30 := f_ne (k := 0) (by decide) c30
      replace x_v276 := x_v276.resolve_left tc30
      refine lv_aload_n hx hb dX12_readFlag_33 rfl (lv_at hl 0 rfl) ?_
      refine x_getk (ci := 12) (C := RX12) (F := TX12) (N := 36) (v := .ref y4) hx hb hts uX12 hown hkb hH 0 rfl rfl 4 (by decide) rfl kw_1227 (fun _ h9 => h9) dX12_readFlag_34 ?_
      refine lv_iconst (v := 5) hx hb dX12_readFlag_37 (by decide) ?_
      refine lv_dup2_11 hx hb dX12_readFlag_38 rfl rfl ?_
      refine xa_ild hx hb hkb hH 1 rfl (by decide) (by decide) dX12_readFlag_39 ?_
      refine lv_topi (fun v39 ev39 => ?_)
      have tv39 : v39 = f4 5 := by rw [ev39]; rfl
      have bv39 : 0 ≤ v39.toInt ∧ v39.toInt ≤ 16383 := by rw [tv39]; exact s_f4.2.2.2.1
      refine lv_iconst (v := 1) hx hb dX12_readFlag_40 (by decide) ?_
      refine lv_iload_n hx hb dX12_readFlag_41 rfl (lv_at hl 1 rfl) ?_
      refine lv_ishl hx hb dX12_readFlag_42 ?_
      refine lv_topi (fun v42 ev42 => ?_)
      have tv42 : 1 ≤ v42.toInt ∧ v42.toInt ≤ 8192 := by rw [ev42]; exact shl_b 13 (by decide) (by omega) (by omega)
      refine lv_ior hx hb dX12_readFlag_43 ?_
      refine lv_topi (fun v43 ev43 => ?_)
      have tv43 : 0 ≤ v43.toInt ∧ v43.toInt < 16384 := by rw [ev43]; exact or_b 14 (by decide) (by omega) (by omega) (by omega) (by omega)
      refine xa_ist hx hb hkb hH hS 1 rfl (by decide) (by decide) dX12_readFlag_44 (fun H locs hH hS => ?_)
      have hH : HT D cs A T (a0 :: y4 :: O) ((a0, .inr (12, o0 :: o1 :: o2 :: (.ref y3) :: (.ref y4) :: o5 :: (.int n27_0_6) :: (.int n27_0_7) :: (.int y8) :: (.int n27_0_9) :: (.int n27_0_10) :: (.int y11) :: (.int y12) :: tl)) :: (y4, .inl (cs.2.1, 1302, .inl (upd f4 (5) v43))) :: X) H := hH
      obtain ⟨F44, eF44⟩ : ∃ f9, f9 = upd f4 (5) v43 := ⟨_, rfl⟩
      have hH : HT D cs A T (a0 :: y4 :: O) ((a0, .inr (12, o0 :: o1 :: o2 :: (.ref y3) :: (.ref y4) :: o5 :: (.int n27_0_6) :: (.int n27_0_7) :: (.int y8) :: (.int n27_0_9) :: (.int n27_0_10) :: (.int y11) :: (.int y12) :: tl)) :: (y4, .inl (cs.2.1, 1302, .inl F44)) :: X) H := eF44 ▸ hH
      have s_F44 : S8 F44 := eF44 ▸ S8_put (i := 5) (x := v43) s_f4 (by decide) (by decide) (⟨fun q9 => absurd q9 (by decide), fun q9 => absurd q9 (by decide), fun q9 => absurd q9 (by decide), fun _ => ⟨by omega, by omega⟩, fun q9 => absurd q9 (by decide), fun q9 => absurd q9 (by decide), fun q9 => absurd q9 (by decide)⟩)
      refine lv_goto (tgt := 113) hx hb dX12_readFlag_45 (by decide) ?_
      refine lv_aload_n hx hb dX12_readFlag_113 rfl (lv_at hl 0 rfl) ?_
      refine x_getk (ci := 12) (C := RX12) (F := TX12) (N := 36) (v := .int y11) hx hb hts uX12 hown hkb hH 0 rfl rfl 11 (by decide) rfl kw_1234 (fun _ h9 => h9) dX12_readFlag_114 ?_
      refine lv_if_ne (tgt := 124) hx hb dX12_readFlag_117 (by decide) (fun c117 => ?_) (fun c117 => ?_)
      · skip
        have tc117 := f_ne (k := 0) (by decide) c117
        refine lv_iconst (v := 0) hx hb dX12_readFlag_124 (by decide) ?_
        have z9_0 : (0 : Int32).toInt = 0 := by decide
        exact te_z hx hb hr hlocks (by rfl) hH hS (⟨n27_0_6, n27_0_7, n27_0_9, n27_0_10, y11, y12, F44, rfl, by decide, by decide, s_F44, by omega, by omega, by omega, x_v273, by omega, by omega, by omega, (by rw [eF44]; exact upd_ne (by first | decide | omega))⟩) dX12_readFlag_125
      · skip
        have tc117 := f_eq (k := 0) (by decide) c117
        refine lv_iconst (v := 1) hx hb dX12_readFlag_120 (by decide) ?_
        refine lv_goto (tgt := 125) hx hb dX12_readFlag_121 (by decide) ?_
        have z9_1 : (1 : Int32).toInt = 1 := by decide
        exact te_z hx hb hr hlocks (by rfl) hH hS (⟨n27_0_6, n27_0_7, n27_0_9, n27_0_10, y11, y12, F44, rfl, by decide, by decide, s_F44, by omega, by omega, by omega, x_v273, by omega, by omega, by omega, (by rw [eF44]; exact upd_ne (by first | decide | omega))⟩) dX12_readFlag_125
  · skip
    have tc6 := f_ne (k := 0) (by decide) c6
    replace x_v36 := x_v36.resolve_left tc6
    refine lv_aload_n hx hb dX12_readFlag_9 rfl (lv_at hl 0 rfl) ?_
    refine x_getk (ci := 12) (C := RX12) (F := TX12) (N := 36) (v := .ref y4) hx hb hts uX12 hown hkb hH 0 rfl rfl 4 (by decide) rfl kw_1227 (fun _ h9 => h9) dX12_readFlag_10 ?_
    refine lv_iconst (v := 4) hx hb dX12_readFlag_13 (by decide) ?_
    refine lv_dup2_11 hx hb dX12_readFlag_14 rfl rfl ?_
    refine xa_ild hx hb hkb hH 1 rfl (by decide) (by decide) dX12_readFlag_15 ?_
    refine lv_topi (fun v15 ev15 => ?_)
    have tv15 : v15 = f4 4 := by rw [ev15]; rfl
    have bv15 : 0 ≤ v15.toInt ∧ v15.toInt ≤ 16383 := by rw [tv15]; exact s_f4.2.2.1
    refine lv_iconst (v := 1) hx hb dX12_readFlag_16 (by decide) ?_
    refine lv_iload_n hx hb dX12_readFlag_17 rfl (lv_at hl 1 rfl) ?_
    refine lv_ishl hx hb dX12_readFlag_18 ?_
    refine lv_topi (fun v18 ev18 => ?_)
    have tv18 : 1 ≤ v18.toInt ∧ v18.toInt ≤ 8192 := by rw [ev18]; exact shl_b 13 (by decide) (by omega) (by omega)
    refine lv_ior hx hb dX12_readFlag_19 ?_
    refine lv_topi (fun v19 ev19 => ?_)
    have tv19 : 0 ≤ v19.toInt ∧ v19.toInt < 16384 := by rw [ev19]; exact or_b 14 (by decide) (by omega) (by omega) (by omega) (by omega)
    refine xa_ist hx hb hkb hH hS 1 rfl (by decide) (by decide) dX12_readFlag_20 (fun H locs hH hS => ?_)
    have hH : HT D cs A T (a0 :: y4 :: O) ((a0, .inr (12, o0 :: o1 :: o2 :: (.ref y3) :: (.ref y4) :: o5 :: (.int n3_0_6) :: (.int n3_0_7) :: (.int y8) :: (.int n3_0_9) :: (.int n3_0_10) :: (.int y11) :: (.int y12) :: tl)) :: (y4, .inl (cs.2.1, 1302, .inl (upd f4 (4) v19))) :: X) H := hH
    obtain ⟨F20, eF20⟩ : ∃ f9, f9 = upd f4 (4) v19 := ⟨_, rfl⟩
    have hH : HT D cs A T (a0 :: y4 :: O) ((a0, .inr (12, o0 :: o1 :: o2 :: (.ref y3) :: (.ref y4) :: o5 :: (.int n3_0_6) :: (.int n3_0_7) :: (.int y8) :: (.int n3_0_9) :: (.int n3_0_10) :: (.int y11) :: (.int y12) :: tl)) :: (y4, .inl (cs.2.1, 1302, .inl F20)) :: X) H := eF20 ▸ hH
    have s_F20 : S8 F20 := eF20 ▸ S8_put (i := 4) (x := v19) s_f4 (by decide) (by decide) (⟨fun q9 => absurd q9 (by decide), fun q9 => absurd q9 (by decide), fun _ => ⟨by omega, by omega⟩, fun q9 => absurd q9 (by decide), fun q9 => absurd q9 (by decide), fun q9 => absurd q9 (by decide), fun q9 => absurd q9 (by decide)⟩)
    refine lv_goto (tgt := 113) hx hb dX12_readFlag_21 (by decide) ?_
    refine lv_aload_n hx hb dX12_readFlag_113 rfl (lv_at hl 0 rfl) ?_
    refine x_getk (ci := 12) (C := RX12) (F := TX12) (N := 36) (v := .int y11) hx hb hts uX12 hown hkb hH 0 rfl rfl 11 (by decide) rfl kw_1234 (fun _ h9 => h9) dX12_readFlag_114 ?_
    refine lv_if_ne (tgt := 124) hx hb dX12_readFlag_117 (by decide) (fun c117 => ?_) (fun c117 => ?_)
    · skip
      have tc117 := f_ne (k := 0) (by decide) c117
      refine lv_iconst (v := 0) hx hb dX12_readFlag_124 (by decide) ?_
      have z9_0 : (0 : Int32).toInt = 0 := by decide
      exact te_z hx hb hr hlocks (by rfl) hH hS (⟨n3_0_6, n3_0_7, n3_0_9, n3_0_10, y11, y12, F20, rfl, by decide, by decide, s_F20, by omega, by omega, by omega, x_v33, by omega, by omega, by omega, (by rw [eF20]; exact upd_ne (by first | decide | omega))⟩) dX12_readFlag_125
    · skip
      have tc117 := f_eq (k := 0) (by decide) c117
      refine lv_iconst (v := 1) hx hb dX12_readFlag_120 (by decide) ?_
      refine lv_goto (tgt := 125) hx hb dX12_readFlag_121 (by decide) ?_
      have z9_1 : (1 : Int32).toInt = 1 := by decide
      exact te_z hx hb hr hlocks (by rfl) hH hS (⟨n3_0_6, n3_0_7, n3_0_9, n3_0_10, y11, y12, F20, rfl, by decide, by decide, s_F20, by omega, by omega, by omega, x_v33, by omega, by omega, by omega, (by rw [eF20]; exact upd_ne (by first | decide | omega))⟩) dX12_readFlag_125
set_option maxHeartbeats 4000000 in
set_option maxRecDepth 100000 in
theorem s_M_readHold (l : Launch) (D : va_G) (cs : CS) (kf : KF) (T : TF) (O : List Nat) (X : va_W) (a0 hg mq : Nat) (o0 : Value) (o1 : Value) (o2 : Value) (y3 : Nat) (y4 : Nat) (o5 : Value) (y6 : Int32) (y7 : Int32) (y8 : Int32) (y9 : Int32) (y10 : Int32) (y11 : Int32) (y12 : Int32) (tl : List Value) (f4 : Nat → Int32) (t_a0 : T a0 = some (22, hg, mq)) (b_hg : hg < 90) (t_y3 : T y3 = some (1, 900, 0)) (t_y4 : T y4 = some (8, 1302, 0)) (l_y6 : 0 ≤ y6.toInt) (u_y6 : y6.toInt ≤ 900) (l_y7 : 0 ≤ y7.toInt) (u_y7 : y7.toInt ≤ 900) (l_y8 : 0 ≤ y8.toInt) (u_y8 : y8.toInt ≤ 900) (l_y10 : 0 ≤ y10.toInt) (u_y10 : y10.toInt ≤ 999) (s_f4 : S8 f4) (k1 : y6.toInt ≤ y7.toInt) (k2 : y7.toInt ≤ y8.toInt) (k3 : TK3 y9 y6 y7) (k5 : y11.toInt = 0) (k6 : y9.toInt ≠ 22) (hO : okO T (a0 :: y4 :: O) [1]) : TK l D cs kf yX12_readHold cX12_readHold 4 none { frames := 8, cells := 0, slots := 0, locals := 174 } [.ref a0] T (a0 :: y4 :: O) ((a0, .inr (12, o0 :: o1 :: o2 :: (.ref y3) :: (.ref y4) :: o5 :: (.int y6) :: (.int y7) :: (.int y8) :: (.int y9) :: (.int y10) :: (.int y11) :: (.int y12) :: tl)) :: (y4, .inl (cs.2.1, 1302, .inl f4)) :: X) (Tv D cs (fun u => ∃ (n0_6 : Int32) (n0_7 : Int32) (n0_9 : Int32) (n0_10 : Int32) (n0_11 : Int32) (n0_12 : Int32) (G1 : Nat → Int32), u = (T, a0 :: y4 :: O, (a0, .inr (12, o0 :: o1 :: o2 :: (.ref y3) :: (.ref y4) :: o5 :: (.int n0_6) :: (.int n0_7) :: (.int y8) :: (.int n0_9) :: (.int n0_10) :: (.int n0_11) :: (.int n0_12) :: tl)) :: (y4, .inl (cs.2.1, 1302, .inl G1)) :: X) ∧ (S8 G1) ∧ (y6.toInt ≤ n0_6.toInt) ∧ (n0_6.toInt ≤ n0_7.toInt) ∧ (n0_7.toInt ≤ y8.toInt) ∧ (TK3 n0_9 n0_6 n0_7) ∧ (0 ≤ n0_10.toInt) ∧ (n0_10.toInt ≤ 999))) := by
  refine tk_of (by decide) (Nat.le_of_ble_eq_true rfl) (fun p e s m below meth c ls A H locs hx hb hr hml hown hts hlocks hnm hkb hH hS hA hOX hks hE hl => ?_)
  have hown : s.vm.findClass RX12 = some m.cls := hown
  have hl : lv_has ls 4 [(0, .ref a0)] := hl
  have hOXf := hOX
  refine lv_aload_n hx hb dX12_readHold_0 rfl (lv_at hl 0 rfl) ?_
  refine x_getk (ci := 12) (C := RX12) (F := TX12) (N := 36) (v := .ref y4) hx hb hts uX12 hown hkb hH 0 rfl rfl 4 (by decide) rfl kw_1227 (fun _ h9 => h9) dX12_readHold_1 ?_
  refine lv_iconst (v := 1) hx hb dX12_readHold_4 (by decide) ?_
  refine xa_ild hx hb hkb hH 1 rfl (by decide) (by decide) dX12_readHold_5 ?_
  refine lv_topi (fun v5 ev5 => ?_)
  have tv5 : v5 = f4 1 := by rw [ev5]; rfl
  have bv5 : 0 ≤ v5.toInt ∧ v5.toInt ≤ 14 := by rw [tv5]; exact s_f4.1
  refine lv_istore_n (lv' := [(1, .int v5), (0, .ref a0)]) hx hb dX12_readHold_6 rfl hl (by decide) rfl (fun ls hl => ?_)
  refine lv_iload_n hx hb dX12_readHold_7 rfl (lv_at hl 0 rfl) ?_
  refine lv_bipush (v := 14) hx hb dX12_readHold_8 (by decide) ?_
  have J18 : ∀ (f18_111 : Int32) (f18_112 : Int32) (H : Heap) (locs : List Loc) (ls : Array Slot), (f18_111.toInt ≠ 0 ∨ v5.toInt ≤ 13) → HT D cs A T (a0 :: y4 :: O) ((a0, .inr (12, o0 :: o1 :: o2 :: (.ref y3) :: (.ref y4) :: o5 :: (.int y6) :: (.int y7) :: (.int y8) :: (.int y9) :: (.int y10) :: (.int f18_111) :: (.int f18_112) :: tl)) :: (y4, .inl (cs.2.1, 1302, .inl f4)) :: X) H → va_S A s.heap H locs → lv_has ls 4 [(1, .int v5), (0, .ref a0)] → W p l e { frames := 8, cells := 0, slots := 0, locals := 174 } s m [.ref a0].toArray below meth c H locs 0 0 (MQ below (Tv D cs (fun u => ∃ (n0_6 : Int32) (n0_7 : Int32) (n0_9 : Int32) (n0_10 : Int32) (n0_11 : Int32) (n0_12 : Int32) (G1 : Nat → Int32), u = (T, a0 :: y4 :: O, (a0, .inr (12, o0 :: o1 :: o2 :: (.ref y3) :: (.ref y4) :: o5 :: (.int n0_6) :: (.int n0_7) :: (.int y8) :: (.int n0_9) :: (.int n0_10) :: (.int n0_11) :: (.int n0_12) :: tl)) :: (y4, .inl (cs.2.1, 1302, .inl G1)) :: X) ∧ (S8 G1) ∧ (y6.toInt ≤ n0_6.toInt) ∧ (n0_6.toInt ≤ n0_7.toInt) ∧ (n0_7.toInt ≤ y8.toInt) ∧ (TK3 n0_9 n0_6 n0_7) ∧ (0 ≤ n0_10.toInt) ∧ (n0_10.toInt ≤ 999)) A) [.ref a0].toArray s 0 0 A) (F0 m 18 ls []) := by
    intro f18_111 f18_112 H locs ls i18 hH hS hl
    refine lv_aload_n hx hb dX12_readHold_18 rfl (lv_at hl 1 rfl) ?_
    refine x_getk (ci := 12) (C := RX12) (F := TX12) (N := 36) (v := .int f18_111) hx hb hts uX12 hown hkb hH 0 rfl rfl 11 (by decide) rfl kw_1234 (fun _ h9 => h9) dX12_readHold_19 ?_
    refine lv_if_eq (tgt := 26) hx hb dX12_readHold_22 (by decide) (fun c22 => ?_) (fun c22 => ?_)
    · skip
      have tc22 := f_eq (k := 0) (by decide) c22
      refine lv_aload_n hx hb dX12_readHold_26 rfl (lv_at hl 1 rfl) ?_
      refine tk_v hH hS hA (tr_V (n := 0) (As := []) hx hb hml hown hts hkb hH (ox_map hOX rfl) hks hE hS hA (s_M_next l D cs kf T (y4 :: O) ((y4, .inl (cs.2.1, 1302, .inl f4)) :: X) a0 hg mq o0 o1 o2 y3 y4 o5 y6 y7 y8 y9 y10 f18_111 f18_112 tl t_a0 b_hg t_y3 t_y4 (by omega) (by omega) (by omega) (by omega) (by omega) (by omega) (by omega) (by omega) (by omega) (hO.sub (by decide))) kw_1344 kw_1346 ks_43 kw_13 kw_1347 (by decide +kernel) ⟨Nat.le_of_ble_eq_true rfl, Nat.le_of_ble_eq_true rfl⟩ (x_recv (ci := 12) hkb hH 0 rfl rfl) rfl rfl hl.1 (Nat.le_of_ble_eq_true rfl) dX12_readHold_27 ⟨Nat.le_of_ble_eq_true rfl, Nat.le_of_ble_eq_true rfl⟩) (fun u H locs hz9 hH hS => ?_)
      obtain ⟨n27_0_6, n27_0_7, n27_0_9, n27_0_10, rfl, x_v270, x_v271, x_v272, x_v273, x_v274, x_v275⟩ := hz9
      have hH : HT D cs A T (a0 :: y4 :: O) ((a0, .inr (12, o0 :: o1 :: o2 :: (.ref y3) :: (.ref y4) :: o5 :: (.int n27_0_6) :: (.int n27_0_7) :: (.int y8) :: (.int n27_0_9) :: (.int n27_0_10) :: (.int f18_111) :: (.int f18_112) :: tl)) :: (y4, .inl (cs.2.1, 1302, .inl f4)) :: X) H := hH
      refine W.widen (k := 0) (n := 0) (Nat.le_of_ble_eq_true rfl) (Nat.le_of_ble_eq_true rfl) ?_
      refine lv_aload_n hx hb dX12_readHold_30 rfl (lv_at hl 1 rfl) ?_
      refine lv_iconst (v := 0) hx hb dX12_readHold_31 (by decide) ?_
      refine lv_bipush (v := 99) hx hb dX12_readHold_32 (by decide) ?_
      have z9_0 : (0 : Int32).toInt = 0 := by decide
      have z9_99 : (99 : Int32).toInt = 99 := by decide
      refine tk_i hH hS hA (tr_V (n := 2) (As := [.int 0, .int 99]) hx hb hml hown hts hkb hH (ox_map hOX rfl) hks hE hS hA (s_M_takes l D cs kf T (y4 :: O) ((y4, .inl (cs.2.1, 1302, .inl f4)) :: X) a0 hg mq (0) (99) o0 o1 o2 y3 y4 o5 n27_0_6 n27_0_7 y8 n27_0_9 n27_0_10 f18_111 f18_112 tl t_a0 b_hg t_y3 t_y4 (by omega) (by omega) (by omega) (by omega) (by omega) (by omega) (by omega) (by omega) (by omega) (by omega) x_v273 (hO.sub (by decide))) kw_1382 kw_1384 ks_50 kw_13 kw_1385 (by decide +kernel) ⟨Nat.le_of_ble_eq_true rfl, Nat.le_of_ble_eq_true rfl⟩ (x_recv (ci := 12) hkb hH 0 rfl rfl) rfl rfl hl.1 (Nat.le_of_ble_eq_true rfl) dX12_readHold_34 ⟨Nat.le_of_ble_eq_true rfl, Nat.le_of_ble_eq_true rfl⟩) (fun v34 u H locs hz9 hH hS => ?_)
      obtain ⟨n34_0_6, n34_0_7, n34_0_9, n34_0_10, n34_0_11, n34_0_12, rfl, l_v34, u_v34, x_v340, x_v341, x_v342, x_v343, x_v344, x_v345, x_v346⟩ := hz9
      have hH : HT D cs A T (a0 :: y4 :: O) ((a0, .inr (12, o0 :: o1 :: o2 :: (.ref y3) :: (.ref y4) :: o5 :: (.int n34_0_6) :: (.int n34_0_7) :: (.int y8) :: (.int n34_0_9) :: (.int n34_0_10) :: (.int n34_0_11) :: (.int n34_0_12) :: tl)) :: (y4, .inl (cs.2.1, 1302, .inl f4)) :: X) H := hH
      refine W.widen (k := 0) (n := 0) (Nat.le_of_ble_eq_true rfl) (Nat.le_of_ble_eq_true rfl) ?_
      refine lv_istore_n (lv' := [(2, .int v34), (1, .int v5), (0, .ref a0)]) hx hb dX12_readHold_37 rfl hl (by decide) rfl (fun ls hl => ?_)
      refine lv_aload_n hx hb dX12_readHold_38 rfl (lv_at hl 2 rfl) ?_
      refine lv_iconst (v := 0) hx hb dX12_readHold_39 (by decide) ?_
      refine lv_bipush (v := 99) hx hb dX12_readHold_40 (by decide) ?_
      have z9_0 : (0 : Int32).toInt = 0 := by decide
      have z9_99 : (99 : Int32).toInt = 99 := by decide
      refine tk_i hH hS hA (tr_V (n := 2) (As := [.int 0, .int 99]) hx hb hml hown hts hkb hH (ox_map hOX rfl) hks hE hS hA (s_M_takes l D cs kf T (y4 :: O) ((y4, .inl (cs.2.1, 1302, .inl f4)) :: X) a0 hg mq (0) (99) o0 o1 o2 y3 y4 o5 n34_0_6 n34_0_7 y8 n34_0_9 n34_0_10 n34_0_11 n34_0_12 tl t_a0 b_hg t_y3 t_y4 (by omega) (by omega) (by omega) (by omega) (by omega) (by omega) (by omega) (by omega) (by omega) (by omega) x_v343 (hO.sub (by decide))) kw_1382 kw_1384 ks_50 kw_13 kw_1385 (by decide +kernel) ⟨Nat.le_of_ble_eq_true rfl, Nat.le_of_ble_eq_true rfl⟩ (x_recv (ci := 12) hkb hH 0 rfl rfl) rfl rfl hl.1 (Nat.le_of_ble_eq_true rfl) dX12_readHold_42 ⟨Nat.le_of_ble_eq_true rfl, Nat.le_of_ble_eq_true rfl⟩) (fun v42 u H locs hz9 hH hS => ?_)
      obtain ⟨n42_0_6, n42_0_7, n42_0_9, n42_0_10, n42_0_11, n42_0_12, rfl, l_v42, u_v42, x_v420, x_v421, x_v422, x_v423, x_v424, x_v425, x_v426⟩ := hz9
      have hH : HT D cs A T (a0 :: y4 :: O) ((a0, .inr (12, o0 :: o1 :: o2 :: (.ref y3) :: (.ref y4) :: o5 :: (.int n42_0_6) :: (.int n42_0_7) :: (.int y8) :: (.int n42_0_9) :: (.int n42_0_10) :: (.int n42_0_11) :: (.int n42_0_12) :: tl)) :: (y4, .inl (cs.2.1, 1302, .inl f4)) :: X) H := hH
      refine W.widen (k := 0) (n := 0) (Nat.le_of_ble_eq_true rfl) (Nat.le_of_ble_eq_true rfl) ?_
      refine lv_istore_n (lv' := [(3, .int v42), (2, .int v34), (1, .int v5), (0, .ref a0)]) hx hb dX12_readHold_45 rfl hl (by decide) rfl (fun ls hl => ?_)
      refine lv_aload_n hx hb dX12_readHold_46 rfl (lv_at hl 3 rfl) ?_
      refine x_getk (ci := 12) (C := RX12) (F := TX12) (N := 36) (v := .int n42_0_11) hx hb hts uX12 hown hkb hH 0 rfl rfl 11 (by decide) rfl kw_1234 (fun _ h9 => h9) dX12_readHold_47 ?_
      refine lv_if_eq (tgt := 54) hx hb dX12_readHold_50 (by decide) (fun c50 => ?_) (fun c50 => ?_)
      · skip
        have tc50 := f_eq (k := 0) (by decide) c50
        refine lv_aload_n hx hb dX12_readHold_54 rfl (lv_at hl 3 rfl) ?_
        refine x_getk (ci := 12) (C := RX12) (F := TX12) (N := 36) (v := .ref y4) hx hb hts uX12 hown hkb hH 0 rfl rfl 4 (by decide) rfl kw_1227 (fun _ h9 => h9) dX12_readHold_55 ?_
        refine lv_bipush (v := 7) hx hb dX12_readHold_58 (by decide) ?_
        refine lv_iload_n hx hb dX12_readHold_60 rfl (lv_at hl 2 rfl) ?_
        refine lv_iadd hx hb dX12_readHold_61 ?_
        refine lv_topi (fun v61 ev61 => ?_)
        have tv61 : v61.toInt = (7) + v5.toInt := by rw [ev61]; exact add_i (by decide : (7 : Int32).toInt = 7) rfl (by omega) (by omega)
        refine lv_iload_n hx hb dX12_readHold_62 rfl (lv_at hl 1 rfl) ?_
        refine xa_ist hx hb hkb hH hS 1 rfl (by omega) (by omega) dX12_readHold_63 (fun H locs hH hS => ?_)
        have hH : HT D cs A T (a0 :: y4 :: O) ((a0, .inr (12, o0 :: o1 :: o2 :: (.ref y3) :: (.ref y4) :: o5 :: (.int n42_0_6) :: (.int n42_0_7) :: (.int y8) :: (.int n42_0_9) :: (.int n42_0_10) :: (.int n42_0_11) :: (.int n42_0_12) :: tl)) :: (y4, .inl (cs.2.1, 1302, .inl (upd f4 (v61.toInt.toNat) v34))) :: X) H := hH
        obtain ⟨F63, eF63⟩ : ∃ f9, f9 = upd f4 (v61.toInt.toNat) v34 := ⟨_, rfl⟩
        have hH : HT D cs A T (a0 :: y4 :: O) ((a0, .inr (12, o0 :: o1 :: o2 :: (.ref y3) :: (.ref y4) :: o5 :: (.int n42_0_6) :: (.int n42_0_7) :: (.int y8) :: (.int n42_0_9) :: (.int n42_0_10) :: (.int n42_0_11) :: (.int n42_0_12) :: tl)) :: (y4, .inl (cs.2.1, 1302, .inl F63)) :: X) H := eF63 ▸ hH
        have s_F63 : S8 F63 := eF63 ▸ S8_put (i := v61) (x := v34) s_f4 (by omega) (by omega) (p8_far (by omega) (⟨by omega, by omega⟩))
        refine lv_aload_n hx hb dX12_readHold_64 rfl (lv_at hl 3 rfl) ?_
        refine x_getk (ci := 12) (C := RX12) (F := TX12) (N := 36) (v := .ref y4) hx hb hts uX12 hown hkb hH 0 rfl rfl 4 (by decide) rfl kw_1227 (fun _ h9 => h9) dX12_readHold_65 ?_
        refine lv_bipush (v := 21) hx hb dX12_readHold_68 (by decide) ?_
        refine lv_iload_n hx hb dX12_readHold_70 rfl (lv_at hl 2 rfl) ?_
        refine lv_iadd hx hb dX12_readHold_71 ?_
        refine lv_topi (fun v71 ev71 => ?_)
        have tv71 : v71.toInt = (21) + v5.toInt := by rw [ev71]; exact add_i (by decide : (21 : Int32).toInt = 21) rfl (by omega) (by omega)
        refine lv_iload_n hx hb dX12_readHold_72 rfl (lv_at hl 0 rfl) ?_
        have J74 : ∀ (n : Nat) (f74_106 : Int32) (f74_107 : Int32) (f74_109 : Int32) (f74_110 : Int32) (f74_111 : Int32) (f74_112 : Int32) (g74_1 : Nat → Int32) (H : Heap) (locs : List Loc) (ls : Array Slot), (900 - f74_106.toInt).toNat = n → (S8 g74_1) → (0 ≤ f74_106.toInt) → (f74_106.toInt ≤ 900) → (0 ≤ f74_107.toInt) → (f74_107.toInt ≤ 900) → (0 ≤ f74_110.toInt) → (f74_110.toInt ≤ 999) → (f74_106.toInt ≤ f74_107.toInt) → (f74_107.toInt ≤ y8.toInt) → (TK3 f74_109 f74_106 f74_107) → (y6.toInt ≤ f74_106.toInt) → (g74_1 1 = f4 1) → (v5.toInt ≤ 13) → HT D cs A T (a0 :: y4 :: O) ((a0, .inr (12, o0 :: o1 :: o2 :: (.ref y3) :: (.ref y4) :: o5 :: (.int f74_106) :: (.int f74_107) :: (.int y8) :: (.int f74_109) :: (.int f74_110) :: (.int f74_111) :: (.int f74_112) :: tl)) :: (y4, .inl (cs.2.1, 1302, .inl g74_1)) :: X) H → va_S A s.heap H locs → lv_has ls 4 [(1, .int v5), (0, .ref a0)] → W p l e { frames := 8, cells := 0, slots := 0, locals := 174 } s m [.ref a0].toArray below meth c H locs 0 0 (MQ below (Tv D cs (fun u => ∃ (n0_6 : Int32) (n0_7 : Int32) (n0_9 : Int32) (n0_10 : Int32) (n0_11 : Int32) (n0_12 : Int32) (G1 : Nat → Int32), u = (T, a0 :: y4 :: O, (a0, .inr (12, o0 :: o1 :: o2 :: (.ref y3) :: (.ref y4) :: o5 :: (.int n0_6) :: (.int n0_7) :: (.int y8) :: (.int n0_9) :: (.int n0_10) :: (.int n0_11) :: (.int n0_12) :: tl)) :: (y4, .inl (cs.2.1, 1302, .inl G1)) :: X) ∧ (S8 G1) ∧ (y6.toInt ≤ n0_6.toInt) ∧ (n0_6.toInt ≤ n0_7.toInt) ∧ (n0_7.toInt ≤ y8.toInt) ∧ (TK3 n0_9 n0_6 n0_7) ∧ (0 ≤ n0_10.toInt) ∧ (n0_10.toInt ≤ 999)) A) [.ref a0].toArray s 0 0 A) (F0 m 74 ls []) := by
          intro n
          induction n using Nat.strongRecOn with
          | _ n ih74 =>
            intro f74_106 f74_107 f74_109 f74_110 f74_111 f74_112 g74_1 H locs ls hm74 s_g74_1 l_f74_106 u_f74_106 l_f74_107 u_f74_107 l_f74_110 u_f74_110 ia74 ib74 ic74 id74 i74h i74v hH hS hl
            refine lv_aload_n hx hb dX12_readHold_74 rfl (lv_at hl 1 rfl) ?_
            refine lv_iload_n hx hb dX12_readHold_75 rfl (lv_at hl 0 rfl) ?_
            refine tk_i hH hS hA (tr_V (n := 1) (As := [.int v5]) hx hb hml hown hts hkb hH (ox_map hOX rfl) hks hE hS hA (s_M_readFlag l D cs kf T O X a0 hg mq v5 o0 o1 o2 y3 y4 o5 f74_106 f74_107 y8 f74_109 f74_110 f74_111 f74_112 tl g74_1 t_a0 b_hg (by omega) (by omega) t_y3 t_y4 (by omega) (by omega) (by omega) (by omega) (by omega) (by omega) (by omega) (by omega) s_g74_1 (by omega) (by omega) ic74 (hO.sub (by decide))) kw_1386 kw_1388 ks_51 kw_13 kw_1389 (by decide +kernel) ⟨Nat.le_of_ble_eq_true rfl, Nat.le_of_ble_eq_true rfl⟩ (x_recv (ci := 12) hkb hH 0 rfl rfl) rfl rfl hl.1 (Nat.le_of_ble_eq_true rfl) dX12_readHold_76 ⟨Nat.le_of_ble_eq_true rfl, Nat.le_of_ble_eq_true rfl⟩) (fun v76 u H locs hz9 hH hS => ?_)
            obtain ⟨n76_0_6, n76_0_7, n76_0_9, n76_0_10, n76_0_11, n76_0_12, F76_1, rfl, l_v76, u_v76, x_v760, x_v761, x_v762, x_v763, x_v764, x_v765, x_v766, x_v767, x_v768⟩ := hz9
            have s_F76_1 := x_v760
            have hH : HT D cs A T (a0 :: y4 :: O) ((a0, .inr (12, o0 :: o1 :: o2 :: (.ref y3) :: (.ref y4) :: o5 :: (.int n76_0_6) :: (.int n76_0_7) :: (.int y8) :: (.int n76_0_9) :: (.int n76_0_10) :: (.int n76_0_11) :: (.int n76_0_12) :: tl)) :: (y4, .inl (cs.2.1, 1302, .inl F76_1)) :: X) H := hH
            refine W.widen (k := 0) (n := 0) (Nat.le_of_ble_eq_true rfl) (Nat.le_of_ble_eq_true rfl) ?_
            refine lv_if_eq (tgt := 85) hx hb dX12_readHold_79 (by decide) (fun c79 => ?_) (fun c79 => ?_)
            · skip
              have tc79 := f_eq (k := 0) (by decide) c79
              clear x_v767
              refine lv_aload_n hx hb dX12_readHold_85 rfl (lv_at hl 1 rfl) ?_
              refine x_getk (ci := 12) (C := RX12) (F := TX12) (N := 36) (v := .int n76_0_11) hx hb hts uX12 hown hkb hH 0 rfl rfl 11 (by decide) rfl kw_1234 (fun _ h9 => h9) dX12_readHold_86 ?_
              refine lv_if_ne (tgt := 102) hx hb dX12_readHold_89 (by decide) (fun c89 => ?_) (fun c89 => ?_)
              · skip
                have tc89 := f_ne (k := 0) (by decide) c89
                exact te_v hx hb hr hlocks hH hS (⟨n76_0_6, n76_0_7, n76_0_9, n76_0_10, n76_0_11, n76_0_12, F76_1, rfl, s_F76_1, by omega, by omega, by omega, x_v764, by omega, by omega⟩) dX12_readHold_102
              · skip
                have tc89 := f_eq (k := 0) (by decide) c89
                refine lv_aload_n hx hb dX12_readHold_92 rfl (lv_at hl 1 rfl) ?_
                refine x_getk (ci := 12) (C := RX12) (F := TX12) (N := 36) (v := .ref y4) hx hb hts uX12 hown hkb hH 0 rfl rfl 4 (by decide) rfl kw_1227 (fun _ h9 => h9) dX12_readHold_93 ?_
                refine lv_iconst (v := 1) hx hb dX12_readHold_96 (by decide) ?_
                refine lv_dup2_11 hx hb dX12_readHold_97 rfl rfl ?_
                refine xa_ild hx hb hkb hH 1 rfl (by decide) (by decide) dX12_readHold_98 ?_
                refine lv_topi (fun v98 ev98 => ?_)
                have tv98 : v98 = F76_1 1 := by rw [ev98]; rfl
                have bv98 : 0 ≤ v98.toInt ∧ v98.toInt ≤ 14 := by rw [tv98]; exact s_F76_1.1
                have hh9 : v98 = v5 := by rw [tv98, x_v768, i74h, tv5]
                have hh8 : v98.toInt = v5.toInt := by rw [hh9]
                refine lv_iconst (v := 1) hx hb dX12_readHold_99 (by decide) ?_
                refine lv_iadd hx hb dX12_readHold_100 ?_
                refine lv_topi (fun v100 ev100 => ?_)
                have tv100 : v100.toInt = v98.toInt + (1) := by rw [ev100]; exact add_i rfl (by decide : (1 : Int32).toInt = 1) (by omega) (by omega)
                refine xa_ist hx hb hkb hH hS 1 rfl (by decide) (by decide) dX12_readHold_101 (fun H locs hH hS => ?_)
                have hH : HT D cs A T (a0 :: y4 :: O) ((a0, .inr (12, o0 :: o1 :: o2 :: (.ref y3) :: (.ref y4) :: o5 :: (.int n76_0_6) :: (.int n76_0_7) :: (.int y8) :: (.int n76_0_9) :: (.int n76_0_10) :: (.int n76_0_11) :: (.int n76_0_12) :: tl)) :: (y4, .inl (cs.2.1, 1302, .inl (upd F76_1 (1) v100))) :: X) H := hH
                obtain ⟨F101, eF101⟩ : ∃ f9, f9 = upd F76_1 (1) v100 := ⟨_, rfl⟩
                have hH : HT D cs A T (a0 :: y4 :: O) ((a0, .inr (12, o0 :: o1 :: o2 :: (.ref y3) :: (.ref y4) :: o5 :: (.int n76_0_6) :: (.int n76_0_7) :: (.int y8) :: (.int n76_0_9) :: (.int n76_0_10) :: (.int n76_0_11) :: (.int n76_0_12) :: tl)) :: (y4, .inl (cs.2.1, 1302, .inl F101)) :: X) H := eF101 ▸ hH
                have s_F101 : S8 F101 := eF101 ▸ S8_put (i := 1) (x := v100) s_F76_1 (by decide) (by decide) (⟨fun _ => ⟨by omega, by omega⟩, fun q9 => absurd q9 (by decide), fun q9 => absurd q9 (by decide), fun q9 => absurd q9 (by decide), fun q9 => absurd q9 (by decide), fun q9 => absurd q9 (by decide), fun q9 => absurd q9 (by decide)⟩)
                exact te_v hx hb hr hlocks hH hS (⟨n76_0_6, n76_0_7, n76_0_9, n76_0_10, n76_0_11, n76_0_12, F101, rfl, s_F101, by omega, by omega, by omega, x_v764, by omega, by omega⟩) dX12_readHold_102
            · skip
              have tc79 := f_ne (k := 0) (by decide) c79
              replace x_v767 := x_v767.resolve_left tc79
              refine lv_goto (tgt := 74) hx hb dX12_readHold_82 (by decide) ?_
              exact ih74 _ (by omega) n76_0_6 n76_0_7 n76_0_9 n76_0_10 n76_0_11 n76_0_12 F76_1 _ _ _ rfl s_F76_1 (by omega) (by omega) (by omega) (by omega) (by omega) (by omega) (by omega) (by omega) x_v764 (by omega) (by first | (rw [x_v768]; exact i74h) | (rw [eF73, upd_ne (by omega), eF63]; exact upd_ne (by omega))) (by omega) hH hS (lv_sub hl [0, 1] rfl)
        refine xa_ist hx hb hkb hH hS 1 rfl (by omega) (by omega) dX12_readHold_73 (fun H locs hH hS => ?_)
        have hH : HT D cs A T (a0 :: y4 :: O) ((a0, .inr (12, o0 :: o1 :: o2 :: (.ref y3) :: (.ref y4) :: o5 :: (.int n42_0_6) :: (.int n42_0_7) :: (.int y8) :: (.int n42_0_9) :: (.int n42_0_10) :: (.int n42_0_11) :: (.int n42_0_12) :: tl)) :: (y4, .inl (cs.2.1, 1302, .inl (upd F63 (v71.toInt.toNat) v42))) :: X) H := hH
        obtain ⟨F73, eF73⟩ : ∃ f9, f9 = upd F63 (v71.toInt.toNat) v42 := ⟨_, rfl⟩
        have hH : HT D cs A T (a0 :: y4 :: O) ((a0, .inr (12, o0 :: o1 :: o2 :: (.ref y3) :: (.ref y4) :: o5 :: (.int n42_0_6) :: (.int n42_0_7) :: (.int y8) :: (.int n42_0_9) :: (.int n42_0_10) :: (.int n42_0_11) :: (.int n42_0_12) :: tl)) :: (y4, .inl (cs.2.1, 1302, .inl F73)) :: X) H := eF73 ▸ hH
        have s_F73 : S8 F73 := eF73 ▸ S8_put (i := v71) (x := v42) s_F63 (by omega) (by omega) (p8_far (by omega) (⟨by omega, by omega⟩))
        exact J74 _ n42_0_6 n42_0_7 n42_0_9 n42_0_10 n42_0_11 n42_0_12 F73 _ _ _ rfl s_F73 (by omega) (by omega) (by omega) (by omega) (by omega) (by omega) (by omega) (by omega) x_v423 (by omega) (by first | (rw [x_v768]; exact i74h) | (rw [eF73, upd_ne (by omega), eF63]; exact upd_ne (by omega))) (by omega) hH hS (lv_sub hl [2, 3] rfl)
      · skip
        have tc50 := f_ne (k := 0) (by decide) c50
        exact te_v hx hb hr hlocks hH hS (⟨n42_0_6, n42_0_7, n42_0_9, n42_0_10, n42_0_11, n42_0_12, f4, rfl, s_f4, by omega, by omega, by omega, x_v423, by omega, by omega⟩) dX12_readHold_53
    · skip
      have tc22 := f_ne (k := 0) (by decide) c22
      exact te_v hx hb hr hlocks hH hS (⟨y6, y7, y9, y10, f18_111, f18_112, f4, rfl, s_f4, by omega, by omega, by omega, k3, by omega, by omega⟩) dX12_readHold_25
  refine lv_icmp_ne (tgt := 18) hx hb dX12_readHold_10 (by decide) (fun c10 => ?_) (fun c10 => ?_)
  · skip
    have tc10 := f_ne (k := 14) (by decide) c10
    exact J18 y11 y12 _ _ _ (by first | omega | exact Or.inl x_v150) hH hS (lv_sub hl [0, 1] rfl)
  · skip
    have tc10 := f_eq (k := 14) (by decide) c10
    refine lv_aload_n hx hb dX12_readHold_13 rfl (lv_at hl 1 rfl) ?_
    refine lv_iconst (v := 4) hx hb dX12_readHold_14 (by decide) ?_
    have z9_4 : (4 : Int32).toInt = 4 := by decide
    refine tk_v hH hS hA (tr_V (n := 1) (As := [.int 4]) hx hb hml hown hts hkb hH (ox_map hOX rfl) hks hE hS hA (s_M_fails l D cs kf T (y4 :: O) ((y4, .inl (cs.2.1, 1302, .inl f4)) :: X) a0 hg mq (4) o0 o1 o2 y3 y4 o5 y6 y7 y8 y9 y10 y11 y12 tl t_a0 b_hg (by decide) (by decide) t_y3 t_y4 (by omega) (by omega) (by omega) (by omega) (by omega) (by omega) (by omega) (by omega) (hO.sub (by decide))) kw_1378 kw_1380 ks_49 kw_13 kw_1381 (by decide +kernel) ⟨Nat.le_of_ble_eq_true rfl, Nat.le_of_ble_eq_true rfl⟩ (x_recv (ci := 12) hkb hH 0 rfl rfl) rfl rfl hl.1 (Nat.le_of_ble_eq_true rfl) dX12_readHold_15 ⟨Nat.le_of_ble_eq_true rfl, Nat.le_of_ble_eq_true rfl⟩) (fun u H locs hz9 hH hS => ?_)
    obtain ⟨n15_0_11, n15_0_12, rfl, x_v150⟩ := hz9
    have hH : HT D cs A T (a0 :: y4 :: O) ((a0, .inr (12, o0 :: o1 :: o2 :: (.ref y3) :: (.ref y4) :: o5 :: (.int y6) :: (.int y7) :: (.int y8) :: (.int y9) :: (.int y10) :: (.int n15_0_11) :: (.int n15_0_12) :: tl)) :: (y4, .inl (cs.2.1, 1302, .inl f4)) :: X) H := hH
    refine W.widen (k := 0) (n := 0) (Nat.le_of_ble_eq_true rfl) (Nat.le_of_ble_eq_true rfl) ?_
    exact J18 n15_0_11 n15_0_12 _ _ _ (by first | omega | exact Or.inl x_v150) hH hS (lv_sub hl [0, 1] rfl)
set_option maxHeartbeats 4000000 in
set_option maxRecDepth 100000 in
theorem s_M_readGuide (l : Launch) (D : va_G) (cs : CS) (kf : KF) (T : TF) (O : List Nat) (X : va_W) (a0 hg mq : Nat) (o0 : Value) (o1 : Value) (o2 : Value) (y3 : Nat) (y4 : Nat) (o5 : Value) (y6 : Int32) (y7 : Int32) (y8 : Int32) (y9 : Int32) (y10 : Int32) (y11 : Int32) (y12 : Int32) (tl : List Value) (f4 : Nat → Int32) (t_a0 : T a0 = some (22, hg, mq)) (b_hg : hg < 90) (t_y3 : T y3 = some (1, 900, 0)) (t_y4 : T y4 = some (8, 1302, 0)) (l_y6 : 0 ≤ y6.toInt) (u_y6 : y6.toInt ≤ 900) (l_y7 : 0 ≤ y7.toInt) (u_y7 : y7.toInt ≤ 900) (l_y8 : 0 ≤ y8.toInt) (u_y8 : y8.toInt ≤ 900) (l_y10 : 0 ≤ y10.toInt) (u_y10 : y10.toInt ≤ 999) (s_f4 : S8 f4) (k1 : y6.toInt ≤ y7.toInt) (k2 : y7.toInt ≤ y8.toInt) (k3 : TK3 y9 y6 y7) (k5 : y11.toInt = 0) (k6 : y9.toInt ≠ 22) (hO : okO T (a0 :: y4 :: O) [1]) : TK l D cs kf yX12_readGuide cX12_readGuide 4 none { frames := 7, cells := 0, slots := 0, locals := 152 } [.ref a0] T (a0 :: y4 :: O) ((a0, .inr (12, o0 :: o1 :: o2 :: (.ref y3) :: (.ref y4) :: o5 :: (.int y6) :: (.int y7) :: (.int y8) :: (.int y9) :: (.int y10) :: (.int y11) :: (.int y12) :: tl)) :: (y4, .inl (cs.2.1, 1302, .inl f4)) :: X) (Tv D cs (fun u => ∃ (n0_6 : Int32) (n0_7 : Int32) (n0_9 : Int32) (n0_10 : Int32) (n0_11 : Int32) (n0_12 : Int32) (G1 : Nat → Int32), u = (T, a0 :: y4 :: O, (a0, .inr (12, o0 :: o1 :: o2 :: (.ref y3) :: (.ref y4) :: o5 :: (.int n0_6) :: (.int n0_7) :: (.int y8) :: (.int n0_9) :: (.int n0_10) :: (.int n0_11) :: (.int n0_12) :: tl)) :: (y4, .inl (cs.2.1, 1302, .inl G1)) :: X) ∧ (S8 G1) ∧ (y6.toInt ≤ n0_6.toInt) ∧ (n0_6.toInt ≤ n0_7.toInt) ∧ (n0_7.toInt ≤ y8.toInt) ∧ (TK3 n0_9 n0_6 n0_7) ∧ (0 ≤ n0_10.toInt) ∧ (n0_10.toInt ≤ 999))) := by
  refine tk_of (by decide) (Nat.le_of_ble_eq_true rfl) (fun p e s m below meth c ls A H locs hx hb hr hml hown hts hlocks hnm hkb hH hS hA hOX hks hE hl => ?_)
  have hown : s.vm.findClass RX12 = some m.cls := hown
  have hl : lv_has ls 4 [(0, .ref a0)] := hl
  have hOXf := hOX
  refine lv_aload_n hx hb dX12_readGuide_0 rfl (lv_at hl 0 rfl) ?_
  refine x_getk (ci := 12) (C := RX12) (F := TX12) (N := 36) (v := .ref y4) hx hb hts uX12 hown hkb hH 0 rfl rfl 4 (by decide) rfl kw_1227 (fun _ h9 => h9) dX12_readGuide_1 ?_
  refine lv_iconst (v := 2) hx hb dX12_readGuide_4 (by decide) ?_
  refine xa_ild hx hb hkb hH 1 rfl (by decide) (by decide) dX12_readGuide_5 ?_
  refine lv_topi (fun v5 ev5 => ?_)
  have tv5 : v5 = f4 2 := by rw [ev5]; rfl
  have bv5 : 0 ≤ v5.toInt ∧ v5.toInt ≤ 5 := by rw [tv5]; exact s_f4.2.1
  refine lv_istore_n (lv' := [(1, .int v5), (0, .ref a0)]) hx hb dX12_readGuide_6 rfl hl (by decide) rfl (fun ls hl => ?_)
  refine lv_iload_n hx hb dX12_readGuide_7 rfl (lv_at hl 0 rfl) ?_
  refine lv_iconst (v := 5) hx hb dX12_readGuide_8 (by decide) ?_
  have J17 : ∀ (f17_111 : Int32) (f17_112 : Int32) (H : Heap) (locs : List Loc) (ls : Array Slot), (f17_111.toInt ≠ 0 ∨ v5.toInt ≤ 4) → HT D cs A T (a0 :: y4 :: O) ((a0, .inr (12, o0 :: o1 :: o2 :: (.ref y3) :: (.ref y4) :: o5 :: (.int y6) :: (.int y7) :: (.int y8) :: (.int y9) :: (.int y10) :: (.int f17_111) :: (.int f17_112) :: tl)) :: (y4, .inl (cs.2.1, 1302, .inl f4)) :: X) H → va_S A s.heap H locs → lv_has ls 4 [(1, .int v5), (0, .ref a0)] → W p l e { frames := 7, cells := 0, slots := 0, locals := 152 } s m [.ref a0].toArray below meth c H locs 0 0 (MQ below (Tv D cs (fun u => ∃ (n0_6 : Int32) (n0_7 : Int32) (n0_9 : Int32) (n0_10 : Int32) (n0_11 : Int32) (n0_12 : Int32) (G1 : Nat → Int32), u = (T, a0 :: y4 :: O, (a0, .inr (12, o0 :: o1 :: o2 :: (.ref y3) :: (.ref y4) :: o5 :: (.int n0_6) :: (.int n0_7) :: (.int y8) :: (.int n0_9) :: (.int n0_10) :: (.int n0_11) :: (.int n0_12) :: tl)) :: (y4, .inl (cs.2.1, 1302, .inl G1)) :: X) ∧ (S8 G1) ∧ (y6.toInt ≤ n0_6.toInt) ∧ (n0_6.toInt ≤ n0_7.toInt) ∧ (n0_7.toInt ≤ y8.toInt) ∧ (TK3 n0_9 n0_6 n0_7) ∧ (0 ≤ n0_10.toInt) ∧ (n0_10.toInt ≤ 999)) A) [.ref a0].toArray s 0 0 A) (F0 m 17 ls []) := by
    intro f17_111 f17_112 H locs ls i17 hH hS hl
    refine lv_aload_n hx hb dX12_readGuide_17 rfl (lv_at hl 1 rfl) ?_
    refine x_getk (ci := 12) (C := RX12) (F := TX12) (N := 36) (v := .int f17_111) hx hb hts uX12 hown hkb hH 0 rfl rfl 11 (by decide) rfl kw_1234 (fun _ h9 => h9) dX12_readGuide_18 ?_
    refine lv_if_eq (tgt := 25) hx hb dX12_readGuide_21 (by decide) (fun c21 => ?_) (fun c21 => ?_)
    · skip
      have tc21 := f_eq (k := 0) (by decide) c21
      refine lv_aload_n hx hb dX12_readGuide_25 rfl (lv_at hl 1 rfl) ?_
      refine tk_v hH hS hA (tr_V (n := 0) (As := []) hx hb hml hown hts hkb hH (ox_map hOX rfl) hks hE hS hA (s_M_next l D cs kf T (y4 :: O) ((y4, .inl (cs.2.1, 1302, .inl f4)) :: X) a0 hg mq o0 o1 o2 y3 y4 o5 y6 y7 y8 y9 y10 f17_111 f17_112 tl t_a0 b_hg t_y3 t_y4 (by omega) (by omega) (by omega) (by omega) (by omega) (by omega) (by omega) (by omega) (by omega) (hO.sub (by decide))) kw_1344 kw_1346 ks_43 kw_13 kw_1347 (by decide +kernel) ⟨Nat.le_of_ble_eq_true rfl, Nat.le_of_ble_eq_true rfl⟩ (x_recv (ci := 12) hkb hH 0 rfl rfl) rfl rfl hl.1 (Nat.le_of_ble_eq_true rfl) dX12_readGuide_26 ⟨Nat.le_of_ble_eq_true rfl, Nat.le_of_ble_eq_true rfl⟩) (fun u H locs hz9 hH hS => ?_)
      obtain ⟨n26_0_6, n26_0_7, n26_0_9, n26_0_10, rfl, x_v260, x_v261, x_v262, x_v263, x_v264, x_v265⟩ := hz9
      have hH : HT D cs A T (a0 :: y4 :: O) ((a0, .inr (12, o0 :: o1 :: o2 :: (.ref y3) :: (.ref y4) :: o5 :: (.int n26_0_6) :: (.int n26_0_7) :: (.int y8) :: (.int n26_0_9) :: (.int n26_0_10) :: (.int f17_111) :: (.int f17_112) :: tl)) :: (y4, .inl (cs.2.1, 1302, .inl f4)) :: X) H := hH
      refine W.widen (k := 0) (n := 0) (Nat.le_of_ble_eq_true rfl) (Nat.le_of_ble_eq_true rfl) ?_
      refine lv_aload_n hx hb dX12_readGuide_29 rfl (lv_at hl 1 rfl) ?_
      refine lv_iconst (v := 2) hx hb dX12_readGuide_30 (by decide) ?_
      have z9_2 : (2 : Int32).toInt = 2 := by decide
      refine tk_i hH hS hA (tr_V (n := 1) (As := [.int 2]) hx hb hml hown hts hkb hH (ox_map hOX rfl) hks hE hS hA (s_M_eats l D cs kf T (y4 :: O) ((y4, .inl (cs.2.1, 1302, .inl f4)) :: X) a0 hg mq (2) o0 o1 o2 y3 y4 o5 n26_0_6 n26_0_7 y8 n26_0_9 n26_0_10 f17_111 f17_112 tl t_a0 b_hg t_y3 t_y4 (by omega) (by omega) (by omega) (by omega) (by omega) (by omega) (by omega) (by omega) (by omega) (by omega) x_v263 (by omega) (hO.sub (by decide))) kw_1390 kw_1392 ks_52 kw_13 kw_1393 (by decide +kernel) ⟨Nat.le_of_ble_eq_true rfl, Nat.le_of_ble_eq_true rfl⟩ (x_recv (ci := 12) hkb hH 0 rfl rfl) rfl rfl hl.1 (Nat.le_of_ble_eq_true rfl) dX12_readGuide_31 ⟨Nat.le_of_ble_eq_true rfl, Nat.le_of_ble_eq_true rfl⟩) (fun v31 u H locs hz9 hH hS => ?_)
      obtain ⟨n31_0_6, n31_0_7, n31_0_9, n31_0_10, rfl, l_v31, u_v31, x_v310, x_v311, x_v312, x_v313, x_v314, x_v315, x_v316⟩ := hz9
      have hH : HT D cs A T (a0 :: y4 :: O) ((a0, .inr (12, o0 :: o1 :: o2 :: (.ref y3) :: (.ref y4) :: o5 :: (.int n31_0_6) :: (.int n31_0_7) :: (.int y8) :: (.int n31_0_9) :: (.int n31_0_10) :: (.int f17_111) :: (.int f17_112) :: tl)) :: (y4, .inl (cs.2.1, 1302, .inl f4)) :: X) H := hH
      refine W.widen (k := 0) (n := 0) (Nat.le_of_ble_eq_true rfl) (Nat.le_of_ble_eq_true rfl) ?_
      have J42 : ∀ (f42_111 : Int32) (f42_112 : Int32) (H : Heap) (locs : List Loc) (ls : Array Slot), HT D cs A T (a0 :: y4 :: O) ((a0, .inr (12, o0 :: o1 :: o2 :: (.ref y3) :: (.ref y4) :: o5 :: (.int n31_0_6) :: (.int n31_0_7) :: (.int y8) :: (.int n31_0_9) :: (.int n31_0_10) :: (.int f42_111) :: (.int f42_112) :: tl)) :: (y4, .inl (cs.2.1, 1302, .inl f4)) :: X) H → va_S A s.heap H locs → lv_has ls 4 [(1, .int v5), (0, .ref a0)] → W p l e { frames := 7, cells := 0, slots := 0, locals := 152 } s m [.ref a0].toArray below meth c H locs 0 0 (MQ below (Tv D cs (fun u => ∃ (n0_6 : Int32) (n0_7 : Int32) (n0_9 : Int32) (n0_10 : Int32) (n0_11 : Int32) (n0_12 : Int32) (G1 : Nat → Int32), u = (T, a0 :: y4 :: O, (a0, .inr (12, o0 :: o1 :: o2 :: (.ref y3) :: (.ref y4) :: o5 :: (.int n0_6) :: (.int n0_7) :: (.int y8) :: (.int n0_9) :: (.int n0_10) :: (.int n0_11) :: (.int n0_12) :: tl)) :: (y4, .inl (cs.2.1, 1302, .inl G1)) :: X) ∧ (S8 G1) ∧ (y6.toInt ≤ n0_6.toInt) ∧ (n0_6.toInt ≤ n0_7.toInt) ∧ (n0_7.toInt ≤ y8.toInt) ∧ (TK3 n0_9 n0_6 n0_7) ∧ (0 ≤ n0_10.toInt) ∧ (n0_10.toInt ≤ 999)) A) [.ref a0].toArray s 0 0 A) (F0 m 42 ls []) := by
        intro f42_111 f42_112 H locs ls  hH hS hl
        refine lv_aload_n hx hb dX12_readGuide_42 rfl (lv_at hl 1 rfl) ?_
        refine lv_iconst (v := 0) hx hb dX12_readGuide_43 (by decide) ?_
        refine lv_bipush (v := 99) hx hb dX12_readGuide_44 (by decide) ?_
        have z9_0 : (0 : Int32).toInt = 0 := by decide
        have z9_99 : (99 : Int32).toInt = 99 := by decide
        refine tk_i hH hS hA (tr_V (n := 2) (As := [.int 0, .int 99]) hx hb hml hown hts hkb hH (ox_map hOX rfl) hks hE hS hA (s_M_takes l D cs kf T (y4 :: O) ((y4, .inl (cs.2.1, 1302, .inl f4)) :: X) a0 hg mq (0) (99) o0 o1 o2 y3 y4 o5 n31_0_6 n31_0_7 y8 n31_0_9 n31_0_10 f42_111 f42_112 tl t_a0 b_hg t_y3 t_y4 (by omega) (by omega) (by omega) (by omega) (by omega) (by omega) (by omega) (by omega) (by omega) (by omega) x_v313 (hO.sub (by decide))) kw_1382 kw_1384 ks_50 kw_13 kw_1385 (by decide +kernel) ⟨Nat.le_of_ble_eq_true rfl, Nat.le_of_ble_eq_true rfl⟩ (x_recv (ci := 12) hkb hH 0 rfl rfl) rfl rfl hl.1 (Nat.le_of_ble_eq_true rfl) dX12_readGuide_46 ⟨Nat.le_of_ble_eq_true rfl, Nat.le_of_ble_eq_true rfl⟩) (fun v46 u H locs hz9 hH hS => ?_)
        obtain ⟨n46_0_6, n46_0_7, n46_0_9, n46_0_10, n46_0_11, n46_0_12, rfl, l_v46, u_v46, x_v460, x_v461, x_v462, x_v463, x_v464, x_v465, x_v466⟩ := hz9
        have hH : HT D cs A T (a0 :: y4 :: O) ((a0, .inr (12, o0 :: o1 :: o2 :: (.ref y3) :: (.ref y4) :: o5 :: (.int n46_0_6) :: (.int n46_0_7) :: (.int y8) :: (.int n46_0_9) :: (.int n46_0_10) :: (.int n46_0_11) :: (.int n46_0_12) :: tl)) :: (y4, .inl (cs.2.1, 1302, .inl f4)) :: X) H := hH
        refine W.widen (k := 0) (n := 0) (Nat.le_of_ble_eq_true rfl) (Nat.le_of_ble_eq_true rfl) ?_
        refine lv_istore_n (lv' := [(2, .int v46), (1, .int v5), (0, .ref a0)]) hx hb dX12_readGuide_49 rfl hl (by decide) rfl (fun ls hl => ?_)
        refine lv_aload_n hx hb dX12_readGuide_50 rfl (lv_at hl 2 rfl) ?_
        refine lv_iconst (v := 3) hx hb dX12_readGuide_51 (by decide) ?_
        have z9_3 : (3 : Int32).toInt = 3 := by decide
        refine tk_i hH hS hA (tr_V (n := 1) (As := [.int 3]) hx hb hml hown hts hkb hH (ox_map hOX rfl) hks hE hS hA (s_M_eats l D cs kf T (y4 :: O) ((y4, .inl (cs.2.1, 1302, .inl f4)) :: X) a0 hg mq (3) o0 o1 o2 y3 y4 o5 n46_0_6 n46_0_7 y8 n46_0_9 n46_0_10 n46_0_11 n46_0_12 tl t_a0 b_hg t_y3 t_y4 (by omega) (by omega) (by omega) (by omega) (by omega) (by omega) (by omega) (by omega) (by omega) (by omega) x_v463 (by omega) (hO.sub (by decide))) kw_1390 kw_1392 ks_52 kw_13 kw_1393 (by decide +kernel) ⟨Nat.le_of_ble_eq_true rfl, Nat.le_of_ble_eq_true rfl⟩ (x_recv (ci := 12) hkb hH 0 rfl rfl) rfl rfl hl.1 (Nat.le_of_ble_eq_true rfl) dX12_readGuide_52 ⟨Nat.le_of_ble_eq_true rfl, Nat.le_of_ble_eq_true rfl⟩) (fun v52 u H locs hz9 hH hS => ?_)
        obtain ⟨n52_0_6, n52_0_7, n52_0_9, n52_0_10, rfl, l_v52, u_v52, x_v520, x_v521, x_v522, x_v523, x_v524, x_v525, x_v526⟩ := hz9
        have hH : HT D cs A T (a0 :: y4 :: O) ((a0, .inr (12, o0 :: o1 :: o2 :: (.ref y3) :: (.ref y4) :: o5 :: (.int n52_0_6) :: (.int n52_0_7) :: (.int y8) :: (.int n52_0_9) :: (.int n52_0_10) :: (.int n46_0_11) :: (.int n46_0_12) :: tl)) :: (y4, .inl (cs.2.1, 1302, .inl f4)) :: X) H := hH
        refine W.widen (k := 0) (n := 0) (Nat.le_of_ble_eq_true rfl) (Nat.le_of_ble_eq_true rfl) ?_
        have J69 : ∀ (k69_0 : Int32) (f69_106 : Int32) (f69_107 : Int32) (f69_109 : Int32) (f69_110 : Int32) (f69_111 : Int32) (f69_112 : Int32) (H : Heap) (locs : List Loc) (ls : Array Slot), (0 ≤ k69_0.toInt) → (k69_0.toInt ≤ 999) → (0 ≤ f69_106.toInt) → (f69_106.toInt ≤ 900) → (0 ≤ f69_107.toInt) → (f69_107.toInt ≤ 900) → (0 ≤ f69_110.toInt) → (f69_110.toInt ≤ 999) → (f69_106.toInt ≤ f69_107.toInt) → (f69_107.toInt ≤ y8.toInt) → (TK3 f69_109 f69_106 f69_107) → (y6.toInt ≤ f69_106.toInt) → HT D cs A T (a0 :: y4 :: O) ((a0, .inr (12, o0 :: o1 :: o2 :: (.ref y3) :: (.ref y4) :: o5 :: (.int f69_106) :: (.int f69_107) :: (.int y8) :: (.int f69_109) :: (.int f69_110) :: (.int f69_111) :: (.int f69_112) :: tl)) :: (y4, .inl (cs.2.1, 1302, .inl f4)) :: X) H → va_S A s.heap H locs → lv_has ls 4 [(2, .int v46), (1, .int v5), (0, .ref a0)] → W p l e { frames := 7, cells := 0, slots := 0, locals := 152 } s m [.ref a0].toArray below meth c H locs 0 0 (MQ below (Tv D cs (fun u => ∃ (n0_6 : Int32) (n0_7 : Int32) (n0_9 : Int32) (n0_10 : Int32) (n0_11 : Int32) (n0_12 : Int32) (G1 : Nat → Int32), u = (T, a0 :: y4 :: O, (a0, .inr (12, o0 :: o1 :: o2 :: (.ref y3) :: (.ref y4) :: o5 :: (.int n0_6) :: (.int n0_7) :: (.int y8) :: (.int n0_9) :: (.int n0_10) :: (.int n0_11) :: (.int n0_12) :: tl)) :: (y4, .inl (cs.2.1, 1302, .inl G1)) :: X) ∧ (S8 G1) ∧ (y6.toInt ≤ n0_6.toInt) ∧ (n0_6.toInt ≤ n0_7.toInt) ∧ (n0_7.toInt ≤ y8.toInt) ∧ (TK3 n0_9 n0_6 n0_7) ∧ (0 ≤ n0_10.toInt) ∧ (n0_10.toInt ≤ 999)) A) [.ref a0].toArray s 0 0 A) (F0 m 69 ls [.int k69_0]) := by
          intro k69_0 f69_106 f69_107 f69_109 f69_110 f69_111 f69_112 H locs ls l_k69_0 u_k69_0 l_f69_106 u_f69_106 l_f69_107 u_f69_107 l_f69_110 u_f69_110 ia69 ib69 ic69 id69 hH hS hl
          refine lv_istore_n (lv' := [(3, .int k69_0), (2, .int v46), (1, .int v5), (0, .ref a0)]) hx hb dX12_readGuide_69 rfl hl (by decide) rfl (fun ls hl => ?_)
          refine lv_aload_n hx hb dX12_readGuide_70 rfl (lv_at hl 3 rfl) ?_
          refine x_getk (ci := 12) (C := RX12) (F := TX12) (N := 36) (v := .int f69_111) hx hb hts uX12 hown hkb hH 0 rfl rfl 11 (by decide) rfl kw_1234 (fun _ h9 => h9) dX12_readGuide_71 ?_
          refine lv_if_eq (tgt := 78) hx hb dX12_readGuide_74 (by decide) (fun c74 => ?_) (fun c74 => ?_)
          · skip
            have tc74 := f_eq (k := 0) (by decide) c74
            refine lv_aload_n hx hb dX12_readGuide_78 rfl (lv_at hl 3 rfl) ?_
            refine x_getk (ci := 12) (C := RX12) (F := TX12) (N := 36) (v := .ref y4) hx hb hts uX12 hown hkb hH 0 rfl rfl 4 (by decide) rfl kw_1227 (fun _ h9 => h9) dX12_readGuide_79 ?_
            refine lv_bipush (v := 49) hx hb dX12_readGuide_82 (by decide) ?_
            refine lv_iload_n hx hb dX12_readGuide_84 rfl (lv_at hl 2 rfl) ?_
            refine lv_iadd hx hb dX12_readGuide_85 ?_
            refine lv_topi (fun v85 ev85 => ?_)
            have tv85 : v85.toInt = (49) + v5.toInt := by rw [ev85]; exact add_i (by decide : (49 : Int32).toInt = 49) rfl (by omega) (by omega)
            refine lv_iload_n hx hb dX12_readGuide_86 rfl (lv_at hl 1 rfl) ?_
            refine xa_ist hx hb hkb hH hS 1 rfl (by omega) (by omega) dX12_readGuide_87 (fun H locs hH hS => ?_)
            have hH : HT D cs A T (a0 :: y4 :: O) ((a0, .inr (12, o0 :: o1 :: o2 :: (.ref y3) :: (.ref y4) :: o5 :: (.int f69_106) :: (.int f69_107) :: (.int y8) :: (.int f69_109) :: (.int f69_110) :: (.int f69_111) :: (.int f69_112) :: tl)) :: (y4, .inl (cs.2.1, 1302, .inl (upd f4 (v85.toInt.toNat) v46))) :: X) H := hH
            obtain ⟨F87, eF87⟩ : ∃ f9, f9 = upd f4 (v85.toInt.toNat) v46 := ⟨_, rfl⟩
            have hH : HT D cs A T (a0 :: y4 :: O) ((a0, .inr (12, o0 :: o1 :: o2 :: (.ref y3) :: (.ref y4) :: o5 :: (.int f69_106) :: (.int f69_107) :: (.int y8) :: (.int f69_109) :: (.int f69_110) :: (.int f69_111) :: (.int f69_112) :: tl)) :: (y4, .inl (cs.2.1, 1302, .inl F87)) :: X) H := eF87 ▸ hH
            have s_F87 : S8 F87 := eF87 ▸ S8_put (i := v85) (x := v46) s_f4 (by omega) (by omega) (p8_far (by omega) (⟨by omega, by omega⟩))
            refine lv_aload_n hx hb dX12_readGuide_88 rfl (lv_at hl 3 rfl) ?_
            refine x_getk (ci := 12) (C := RX12) (F := TX12) (N := 36) (v := .ref y4) hx hb hts uX12 hown hkb hH 0 rfl rfl 4 (by decide) rfl kw_1227 (fun _ h9 => h9) dX12_readGuide_89 ?_
            refine lv_bipush (v := 54) hx hb dX12_readGuide_92 (by decide) ?_
            refine lv_iload_n hx hb dX12_readGuide_94 rfl (lv_at hl 2 rfl) ?_
            refine lv_iadd hx hb dX12_readGuide_95 ?_
            refine lv_topi (fun v95 ev95 => ?_)
            have tv95 : v95.toInt = (54) + v5.toInt := by rw [ev95]; exact add_i (by decide : (54 : Int32).toInt = 54) rfl (by omega) (by omega)
            refine lv_iload_n hx hb dX12_readGuide_96 rfl (lv_at hl 0 rfl) ?_
            refine xa_ist hx hb hkb hH hS 1 rfl (by omega) (by omega) dX12_readGuide_97 (fun H locs hH hS => ?_)
            have hH : HT D cs A T (a0 :: y4 :: O) ((a0, .inr (12, o0 :: o1 :: o2 :: (.ref y3) :: (.ref y4) :: o5 :: (.int f69_106) :: (.int f69_107) :: (.int y8) :: (.int f69_109) :: (.int f69_110) :: (.int f69_111) :: (.int f69_112) :: tl)) :: (y4, .inl (cs.2.1, 1302, .inl (upd F87 (v95.toInt.toNat) k69_0))) :: X) H := hH
            obtain ⟨F97, eF97⟩ : ∃ f9, f9 = upd F87 (v95.toInt.toNat) k69_0 := ⟨_, rfl⟩
            have hH : HT D cs A T (a0 :: y4 :: O) ((a0, .inr (12, o0 :: o1 :: o2 :: (.ref y3) :: (.ref y4) :: o5 :: (.int f69_106) :: (.int f69_107) :: (.int y8) :: (.int f69_109) :: (.int f69_110) :: (.int f69_111) :: (.int f69_112) :: tl)) :: (y4, .inl (cs.2.1, 1302, .inl F97)) :: X) H := eF97 ▸ hH
            have s_F97 : S8 F97 := eF97 ▸ S8_put (i := v95) (x := k69_0) s_F87 (by omega) (by omega) (p8_far (by omega) (⟨by omega, by omega⟩))
            refine lv_aload_n hx hb dX12_readGuide_98 rfl (lv_at hl 3 rfl) ?_
            refine x_getk (ci := 12) (C := RX12) (F := TX12) (N := 36) (v := .ref y4) hx hb hts uX12 hown hkb hH 0 rfl rfl 4 (by decide) rfl kw_1227 (fun _ h9 => h9) dX12_readGuide_99 ?_
            refine lv_iconst (v := 2) hx hb dX12_readGuide_102 (by decide) ?_
            refine lv_dup2_11 hx hb dX12_readGuide_103 rfl rfl ?_
            refine xa_ild hx hb hkb hH 1 rfl (by decide) (by decide) dX12_readGuide_104 ?_
            refine lv_topi (fun v104 ev104 => ?_)
            have tv104 : v104 = F97 2 := by rw [ev104]; rfl
            have bv104 : 0 ≤ v104.toInt ∧ v104.toInt ≤ 5 := by rw [tv104]; exact s_F97.2.1
            have hh9 : v104 = v5 := by rw [tv104, eF97, upd_ne (by omega), eF87, upd_ne (by omega), tv5]
            have hh8 : v104.toInt = v5.toInt := by rw [hh9]
            refine lv_iconst (v := 1) hx hb dX12_readGuide_105 (by decide) ?_
            refine lv_iadd hx hb dX12_readGuide_106 ?_
            refine lv_topi (fun v106 ev106 => ?_)
            have tv106 : v106.toInt = v104.toInt + (1) := by rw [ev106]; exact add_i rfl (by decide : (1 : Int32).toInt = 1) (by omega) (by omega)
            refine xa_ist hx hb hkb hH hS 1 rfl (by decide) (by decide) dX12_readGuide_107 (fun H locs hH hS => ?_)
            have hH : HT D cs A T (a0 :: y4 :: O) ((a0, .inr (12, o0 :: o1 :: o2 :: (.ref y3) :: (.ref y4) :: o5 :: (.int f69_106) :: (.int f69_107) :: (.int y8) :: (.int f69_109) :: (.int f69_110) :: (.int f69_111) :: (.int f69_112) :: tl)) :: (y4, .inl (cs.2.1, 1302, .inl (upd F97 (2) v106))) :: X) H := hH
            obtain ⟨F107, eF107⟩ : ∃ f9, f9 = upd F97 (2) v106 := ⟨_, rfl⟩
            have hH : HT D cs A T (a0 :: y4 :: O) ((a0, .inr (12, o0 :: o1 :: o2 :: (.ref y3) :: (.ref y4) :: o5 :: (.int f69_106) :: (.int f69_107) :: (.int y8) :: (.int f69_109) :: (.int f69_110) :: (.int f69_111) :: (.int f69_112) :: tl)) :: (y4, .inl (cs.2.1, 1302, .inl F107)) :: X) H := eF107 ▸ hH
            have s_F107 : S8 F107 := eF107 ▸ S8_put (i := 2) (x := v106) s_F97 (by decide) (by decide) (⟨fun q9 => absurd q9 (by decide), fun _ => ⟨by omega, by omega⟩, fun q9 => absurd q9 (by decide), fun q9 => absurd q9 (by decide), fun q9 => absurd q9 (by decide), fun q9 => absurd q9 (by decide), fun q9 => absurd q9 (by decide)⟩)
            exact te_v hx hb hr hlocks hH hS (⟨f69_106, f69_107, f69_109, f69_110, f69_111, f69_112, F107, rfl, s_F107, by omega, by omega, by omega, ic69, by omega, by omega⟩) dX12_readGuide_108
          · skip
            have tc74 := f_ne (k := 0) (by decide) c74
            exact te_v hx hb hr hlocks hH hS (⟨f69_106, f69_107, f69_109, f69_110, f69_111, f69_112, f4, rfl, s_f4, by omega, by omega, by omega, ic69, by omega, by omega⟩) dX12_readGuide_77
        refine lv_if_eq (tgt := 68) hx hb dX12_readGuide_55 (by decide) (fun c55 => ?_) (fun c55 => ?_)
        · skip
          have tc55 := f_eq (k := 0) (by decide) c55
          clear x_v526
          refine lv_iconst (v := 0) hx hb dX12_readGuide_68 (by decide) ?_
          have z_0 : (0 : Int32).toInt = 0 := by decide
          exact J69 0 n52_0_6 n52_0_7 n52_0_9 n52_0_10 n46_0_11 n46_0_12 _ _ _ (by decide) (by decide) (by omega) (by omega) (by omega) (by omega) (by omega) (by omega) (by omega) (by omega) x_v523 (by omega) hH hS (lv_sub hl [0, 1, 2] rfl)
        · skip
          have tc55 := f_ne (k := 0) (by decide) c55
          replace x_v526 := x_v526.resolve_left tc55
          refine lv_aload_n hx hb dX12_readGuide_58 rfl (lv_at hl 2 rfl) ?_
          refine lv_iconst (v := 0) hx hb dX12_readGuide_59 (by decide) ?_
          refine lv_bipush (v := 99) hx hb dX12_readGuide_60 (by decide) ?_
          have z9_0 : (0 : Int32).toInt = 0 := by decide
          have z9_99 : (99 : Int32).toInt = 99 := by decide
          refine tk_i hH hS hA (tr_V (n := 2) (As := [.int 0, .int 99]) hx hb hml hown hts hkb hH (ox_map hOX rfl) hks hE hS hA (s_M_takes l D cs kf T (y4 :: O) ((y4, .inl (cs.2.1, 1302, .inl f4)) :: X) a0 hg mq (0) (99) o0 o1 o2 y3 y4 o5 n52_0_6 n52_0_7 y8 n52_0_9 n52_0_10 n46_0_11 n46_0_12 tl t_a0 b_hg t_y3 t_y4 (by omega) (by omega) (by omega) (by omega) (by omega) (by omega) (by omega) (by omega) (by omega) (by omega) x_v523 (hO.sub (by decide))) kw_1382 kw_1384 ks_50 kw_13 kw_1385 (by decide +kernel) ⟨Nat.le_of_ble_eq_true rfl, Nat.le_of_ble_eq_true rfl⟩ (x_recv (ci := 12) hkb hH 0 rfl rfl) rfl rfl hl.1 (Nat.le_of_ble_eq_true rfl) dX12_readGuide_62 ⟨Nat.le_of_ble_eq_true rfl, Nat.le_of_ble_eq_true rfl⟩) (fun v62 u H locs hz9 hH hS => ?_)
          obtain ⟨n62_0_6, n62_0_7, n62_0_9, n62_0_10, n62_0_11, n62_0_12, rfl, l_v62, u_v62, x_v620, x_v621, x_v622, x_v623, x_v624, x_v625, x_v626⟩ := hz9
          have hH : HT D cs A T (a0 :: y4 :: O) ((a0, .inr (12, o0 :: o1 :: o2 :: (.ref y3) :: (.ref y4) :: o5 :: (.int n62_0_6) :: (.int n62_0_7) :: (.int y8) :: (.int n62_0_9) :: (.int n62_0_10) :: (.int n62_0_11) :: (.int n62_0_12) :: tl)) :: (y4, .inl (cs.2.1, 1302, .inl f4)) :: X) H := hH
          refine W.widen (k := 0) (n := 0) (Nat.le_of_ble_eq_true rfl) (Nat.le_of_ble_eq_true rfl) ?_
          refine lv_goto (tgt := 69) hx hb dX12_readGuide_65 (by decide) ?_
          exact J69 v62 n62_0_6 n62_0_7 n62_0_9 n62_0_10 n62_0_11 n62_0_12 _ _ _ (by omega) (by omega) (by omega) (by omega) (by omega) (by omega) (by omega) (by omega) (by omega) (by omega) x_v623 (by omega) hH hS (lv_sub hl [0, 1, 2] rfl)
      refine lv_if_ne (tgt := 42) hx hb dX12_readGuide_34 (by decide) (fun c34 => ?_) (fun c34 => ?_)
      · skip
        have tc34 := f_ne (k := 0) (by decide) c34
        replace x_v316 := x_v316.resolve_left tc34
        exact J42 f17_111 f17_112 _ _ _  hH hS (lv_sub hl [0, 1] rfl)
      · skip
        have tc34 := f_eq (k := 0) (by decide) c34
        clear x_v316
        refine lv_aload_n hx hb dX12_readGuide_37 rfl (lv_at hl 1 rfl) ?_
        refine lv_iconst (v := 2) hx hb dX12_readGuide_38 (by decide) ?_
        have z9_2 : (2 : Int32).toInt = 2 := by decide
        refine tk_v hH hS hA (tr_V (n := 1) (As := [.int 2]) hx hb hml hown hts hkb hH (ox_map hOX rfl) hks hE hS hA (s_M_fails l D cs kf T (y4 :: O) ((y4, .inl (cs.2.1, 1302, .inl f4)) :: X) a0 hg mq (2) o0 o1 o2 y3 y4 o5 n31_0_6 n31_0_7 y8 n31_0_9 n31_0_10 f17_111 f17_112 tl t_a0 b_hg (by decide) (by decide) t_y3 t_y4 (by omega) (by omega) (by omega) (by omega) (by omega) (by omega) (by omega) (by omega) (hO.sub (by decide))) kw_1378 kw_1380 ks_49 kw_13 kw_1381 (by decide +kernel) ⟨Nat.le_of_ble_eq_true rfl, Nat.le_of_ble_eq_true rfl⟩ (x_recv (ci := 12) hkb hH 0 rfl rfl) rfl rfl hl.1 (Nat.le_of_ble_eq_true rfl) dX12_readGuide_39 ⟨Nat.le_of_ble_eq_true rfl, Nat.le_of_ble_eq_true rfl⟩) (fun u H locs hz9 hH hS => ?_)
        obtain ⟨n39_0_11, n39_0_12, rfl, x_v390⟩ := hz9
        have hH : HT D cs A T (a0 :: y4 :: O) ((a0, .inr (12, o0 :: o1 :: o2 :: (.ref y3) :: (.ref y4) :: o5 :: (.int n31_0_6) :: (.int n31_0_7) :: (.int y8) :: (.int n31_0_9) :: (.int n31_0_10) :: (.int n39_0_11) :: (.int n39_0_12) :: tl)) :: (y4, .inl (cs.2.1, 1302, .inl f4)) :: X) H := hH
        refine W.widen (k := 0) (n := 0) (Nat.le_of_ble_eq_true rfl) (Nat.le_of_ble_eq_true rfl) ?_
        exact J42 n39_0_11 n39_0_12 _ _ _  hH hS (lv_sub hl [0, 1] rfl)
    · skip
      have tc21 := f_ne (k := 0) (by decide) c21
      exact te_v hx hb hr hlocks hH hS (⟨y6, y7, y9, y10, f17_111, f17_112, f4, rfl, s_f4, by omega, by omega, by omega, k3, by omega, by omega⟩) dX12_readGuide_24
  refine lv_icmp_ne (tgt := 17) hx hb dX12_readGuide_9 (by decide) (fun c9 => ?_) (fun c9 => ?_)
  · skip
    have tc9 := f_ne (k := 5) (by decide) c9
    exact J17 y11 y12 _ _ _ (by first | omega | exact Or.inl x_v140) hH hS (lv_sub hl [0, 1] rfl)
  · skip
    have tc9 := f_eq (k := 5) (by decide) c9
    refine lv_aload_n hx hb dX12_readGuide_12 rfl (lv_at hl 1 rfl) ?_
    refine lv_iconst (v := 4) hx hb dX12_readGuide_13 (by decide) ?_
    have z9_4 : (4 : Int32).toInt = 4 := by decide
    refine tk_v hH hS hA (tr_V (n := 1) (As := [.int 4]) hx hb hml hown hts hkb hH (ox_map hOX rfl) hks hE hS hA (s_M_fails l D cs kf T (y4 :: O) ((y4, .inl (cs.2.1, 1302, .inl f4)) :: X) a0 hg mq (4) o0 o1 o2 y3 y4 o5 y6 y7 y8 y9 y10 y11 y12 tl t_a0 b_hg (by decide) (by decide) t_y3 t_y4 (by omega) (by omega) (by omega) (by omega) (by omega) (by omega) (by omega) (by omega) (hO.sub (by decide))) kw_1378 kw_1380 ks_49 kw_13 kw_1381 (by decide +kernel) ⟨Nat.le_of_ble_eq_true rfl, Nat.le_of_ble_eq_true rfl⟩ (x_recv (ci := 12) hkb hH 0 rfl rfl) rfl rfl hl.1 (Nat.le_of_ble_eq_true rfl) dX12_readGuide_14 ⟨Nat.le_of_ble_eq_true rfl, Nat.le_of_ble_eq_true rfl⟩) (fun u H locs hz9 hH hS => ?_)
    obtain ⟨n14_0_11, n14_0_12, rfl, x_v140⟩ := hz9
    have hH : HT D cs A T (a0 :: y4 :: O) ((a0, .inr (12, o0 :: o1 :: o2 :: (.ref y3) :: (.ref y4) :: o5 :: (.int y6) :: (.int y7) :: (.int y8) :: (.int y9) :: (.int y10) :: (.int n14_0_11) :: (.int n14_0_12) :: tl)) :: (y4, .inl (cs.2.1, 1302, .inl f4)) :: X) H := hH
    refine W.widen (k := 0) (n := 0) (Nat.le_of_ble_eq_true rfl) (Nat.le_of_ble_eq_true rfl) ?_
    exact J17 n14_0_11 n14_0_12 _ _ _ (by first | omega | exact Or.inl x_v140) hH hS (lv_sub hl [0, 1] rfl)
set_option maxHeartbeats 4000000 in
set_option maxRecDepth 100000 in
theorem s_M_readStep (l : Launch) (D : va_G) (cs : CS) (kf : KF) (T : TF) (O : List Nat) (X : va_W) (a0 hg mq : Nat) (o0 : Value) (o1 : Value) (o2 : Value) (y3 : Nat) (y4 : Nat) (o5 : Value) (y6 : Int32) (y7 : Int32) (y8 : Int32) (y9 : Int32) (y10 : Int32) (y11 : Int32) (y12 : Int32) (tl : List Value) (f4 : Nat → Int32) (t_a0 : T a0 = some (22, hg, mq)) (b_hg : hg < 90) (t_y3 : T y3 = some (1, 900, 0)) (t_y4 : T y4 = some (8, 1302, 0)) (l_y6 : 0 ≤ y6.toInt) (u_y6 : y6.toInt ≤ 900) (l_y7 : 0 ≤ y7.toInt) (u_y7 : y7.toInt ≤ 900) (l_y8 : 0 ≤ y8.toInt) (u_y8 : y8.toInt ≤ 900) (l_y10 : 0 ≤ y10.toInt) (u_y10 : y10.toInt ≤ 999) (s_f4 : S8 f4) (k1 : y6.toInt ≤ y7.toInt) (k2 : y7.toInt ≤ y8.toInt) (k3 : TK3 y9 y6 y7) (k5 : y11.toInt = 0) (k6 : y9.toInt ≠ 22) (hO : okO T (a0 :: y4 :: O) [1]) : TK l D cs kf yX12_readStep cX12_readStep 1 none { frames := 31, cells := 0, slots := 0, locals := 662 } [.ref a0] T (a0 :: y4 :: O) ((a0, .inr (12, o0 :: o1 :: o2 :: (.ref y3) :: (.ref y4) :: o5 :: (.int y6) :: (.int y7) :: (.int y8) :: (.int y9) :: (.int y10) :: (.int y11) :: (.int y12) :: tl)) :: (y4, .inl (cs.2.1, 1302, .inl f4)) :: X) (Tv D cs (fun u => ∃ (n0_6 : Int32) (n0_7 : Int32) (n0_9 : Int32) (n0_10 : Int32) (n0_11 : Int32) (n0_12 : Int32) (G1 : Nat → Int32), u = (T, a0 :: y4 :: O, (a0, .inr (12, o0 :: o1 :: o2 :: (.ref y3) :: (.ref y4) :: o5 :: (.int n0_6) :: (.int n0_7) :: (.int y8) :: (.int n0_9) :: (.int n0_10) :: (.int n0_11) :: (.int n0_12) :: tl)) :: (y4, .inl (cs.2.1, 1302, .inl G1)) :: X) ∧ (S8 G1) ∧ (y6.toInt ≤ n0_6.toInt) ∧ (n0_6.toInt ≤ n0_7.toInt) ∧ (n0_7.toInt ≤ y8.toInt) ∧ (TK3 n0_9 n0_6 n0_7) ∧ (0 ≤ n0_10.toInt) ∧ (n0_10.toInt ≤ 999))) := by
  refine tk_of (by decide) (Nat.le_of_ble_eq_true rfl) (fun p e s m below meth c ls A H locs hx hb hr hml hown hts hlocks hnm hkb hH hS hA hOX hks hE hl => ?_)
  have hown : s.vm.findClass RX12 = some m.cls := hown
  have hl : lv_has ls 1 [(0, .ref a0)] := hl
  have hOXf := hOX
  refine lv_aload_n hx hb dX12_readStep_0 rfl (lv_at hl 0 rfl) ?_
  refine tk_v hH hS hA (tr_V (n := 0) (As := []) hx hb hml hown hts hkb hH (ox_map hOX rfl) hks hE hS hA (s_M_next l D cs kf T (y4 :: O) ((y4, .inl (cs.2.1, 1302, .inl f4)) :: X) a0 hg mq o0 o1 o2 y3 y4 o5 y6 y7 y8 y9 y10 y11 y12 tl t_a0 b_hg t_y3 t_y4 (by omega) (by omega) (by omega) (by omega) (by omega) (by omega) (by omega) (by omega) (by omega) (hO.sub (by decide))) kw_1344 kw_1346 ks_43 kw_13 kw_1347 (by decide +kernel) ⟨Nat.le_of_ble_eq_true rfl, Nat.le_of_ble_eq_true rfl⟩ (x_recv (ci := 12) hkb hH 0 rfl rfl) rfl rfl hl.1 (Nat.le_of_ble_eq_true rfl) dX12_readStep_1 ⟨Nat.le_of_ble_eq_true rfl, Nat.le_of_ble_eq_true rfl⟩) (fun u H locs hz9 hH hS => ?_)
  obtain ⟨n1_0_6, n1_0_7, n1_0_9, n1_0_10, rfl, x_v10, x_v11, x_v12, x_v13, x_v14, x_v15⟩ := hz9
  have hH : HT D cs A T (a0 :: y4 :: O) ((a0, .inr (12, o0 :: o1 :: o2 :: (.ref y3) :: (.ref y4) :: o5 :: (.int n1_0_6) :: (.int n1_0_7) :: (.int y8) :: (.int n1_0_9) :: (.int n1_0_10) :: (.int y11) :: (.int y12) :: tl)) :: (y4, .inl (cs.2.1, 1302, .inl f4)) :: X) H := hH
  refine W.widen (k := 0) (n := 0) (Nat.le_of_ble_eq_true rfl) (Nat.le_of_ble_eq_true rfl) ?_
  refine lv_aload_n hx hb dX12_readStep_4 rfl (lv_at hl 0 rfl) ?_
  refine lv_bipush (v := 31) hx hb dX12_readStep_5 (by decide) ?_
  have z9_31 : (31 : Int32).toInt = 31 := by decide
  refine tk_i hH hS hA (tr_V (n := 1) (As := [.int 31]) hx hb hml hown hts hkb hH (ox_map hOX rfl) hks hE hS hA (s_M_eats l D cs kf T (y4 :: O) ((y4, .inl (cs.2.1, 1302, .inl f4)) :: X) a0 hg mq (31) o0 o1 o2 y3 y4 o5 n1_0_6 n1_0_7 y8 n1_0_9 n1_0_10 y11 y12 tl t_a0 b_hg t_y3 t_y4 (by omega) (by omega) (by omega) (by omega) (by omega) (by omega) (by omega) (by omega) (by omega) (by omega) x_v13 (by omega) (hO.sub (by decide))) kw_1390 kw_1392 ks_52 kw_13 kw_1393 (by decide +kernel) ⟨Nat.le_of_ble_eq_true rfl, Nat.le_of_ble_eq_true rfl⟩ (x_recv (ci := 12) hkb hH 0 rfl rfl) rfl rfl hl.1 (Nat.le_of_ble_eq_true rfl) dX12_readStep_7 ⟨Nat.le_of_ble_eq_true rfl, Nat.le_of_ble_eq_true rfl⟩) (fun v7 u H locs hz9 hH hS => ?_)
  obtain ⟨n7_0_6, n7_0_7, n7_0_9, n7_0_10, rfl, l_v7, u_v7, x_v70, x_v71, x_v72, x_v73, x_v74, x_v75, x_v76⟩ := hz9
  have hH : HT D cs A T (a0 :: y4 :: O) ((a0, .inr (12, o0 :: o1 :: o2 :: (.ref y3) :: (.ref y4) :: o5 :: (.int n7_0_6) :: (.int n7_0_7) :: (.int y8) :: (.int n7_0_9) :: (.int n7_0_10) :: (.int y11) :: (.int y12) :: tl)) :: (y4, .inl (cs.2.1, 1302, .inl f4)) :: X) H := hH
  refine W.widen (k := 0) (n := 0) (Nat.le_of_ble_eq_true rfl) (Nat.le_of_ble_eq_true rfl) ?_
  have J18 : ∀ (f18_111 : Int32) (f18_112 : Int32) (H : Heap) (locs : List Loc) (ls : Array Slot), HT D cs A T (a0 :: y4 :: O) ((a0, .inr (12, o0 :: o1 :: o2 :: (.ref y3) :: (.ref y4) :: o5 :: (.int n7_0_6) :: (.int n7_0_7) :: (.int y8) :: (.int n7_0_9) :: (.int n7_0_10) :: (.int f18_111) :: (.int f18_112) :: tl)) :: (y4, .inl (cs.2.1, 1302, .inl f4)) :: X) H → va_S A s.heap H locs → lv_has ls 1 [(0, .ref a0)] → W p l e { frames := 31, cells := 0, slots := 0, locals := 662 } s m [.ref a0].toArray below meth c H locs 0 0 (MQ below (Tv D cs (fun u => ∃ (n0_6 : Int32) (n0_7 : Int32) (n0_9 : Int32) (n0_10 : Int32) (n0_11 : Int32) (n0_12 : Int32) (G1 : Nat → Int32), u = (T, a0 :: y4 :: O, (a0, .inr (12, o0 :: o1 :: o2 :: (.ref y3) :: (.ref y4) :: o5 :: (.int n0_6) :: (.int n0_7) :: (.int y8) :: (.int n0_9) :: (.int n0_10) :: (.int n0_11) :: (.int n0_12) :: tl)) :: (y4, .inl (cs.2.1, 1302, .inl G1)) :: X) ∧ (S8 G1) ∧ (y6.toInt ≤ n0_6.toInt) ∧ (n0_6.toInt ≤ n0_7.toInt) ∧ (n0_7.toInt ≤ y8.toInt) ∧ (TK3 n0_9 n0_6 n0_7) ∧ (0 ≤ n0_10.toInt) ∧ (n0_10.toInt ≤ 999)) A) [.ref a0].toArray s 0 0 A) (F0 m 18 ls []) := by
    intro f18_111 f18_112 H locs ls  hH hS hl
    refine lv_aload_n hx hb dX12_readStep_18 rfl (lv_at hl 0 rfl) ?_
    refine x_getk (ci := 12) (C := RX12) (F := TX12) (N := 36) (v := .ref y4) hx hb hts uX12 hown hkb hH 0 rfl rfl 4 (by decide) rfl kw_1227 (fun _ h9 => h9) dX12_readStep_19 ?_
    refine lv_sipush (v := 401) hx hb dX12_readStep_22 (by decide) ?_
    refine lv_iconst (v := 0) hx hb dX12_readStep_25 (by decide) ?_
    refine xa_ist hx hb hkb hH hS 1 rfl (by decide) (by decide) dX12_readStep_26 (fun H locs hH hS => ?_)
    have hH : HT D cs A T (a0 :: y4 :: O) ((a0, .inr (12, o0 :: o1 :: o2 :: (.ref y3) :: (.ref y4) :: o5 :: (.int n7_0_6) :: (.int n7_0_7) :: (.int y8) :: (.int n7_0_9) :: (.int n7_0_10) :: (.int f18_111) :: (.int f18_112) :: tl)) :: (y4, .inl (cs.2.1, 1302, .inl (upd f4 (401) (0 : Int32)))) :: X) H := hH
    obtain ⟨F26, eF26⟩ : ∃ f9, f9 = upd f4 (401) (0 : Int32) := ⟨_, rfl⟩
    have hH : HT D cs A T (a0 :: y4 :: O) ((a0, .inr (12, o0 :: o1 :: o2 :: (.ref y3) :: (.ref y4) :: o5 :: (.int n7_0_6) :: (.int n7_0_7) :: (.int y8) :: (.int n7_0_9) :: (.int n7_0_10) :: (.int f18_111) :: (.int f18_112) :: tl)) :: (y4, .inl (cs.2.1, 1302, .inl F26)) :: X) H := eF26 ▸ hH
    have hz9 := S8_zero s_f4
    rw [← eF26] at hz9
    have s_F26 := hz9.1
    have hz8 := hz9.2.1
    refine lv_aload_n hx hb dX12_readStep_27 rfl (lv_at hl 0 rfl) ?_
    refine lv_iconst (v := 0) hx hb dX12_readStep_28 (by decide) ?_
    have z9_0 : (0 : Int32).toInt = 0 := by decide
    refine tk_v hH hS hA (tr_V (n := 1) (As := [.int 0]) hx hb hml hown hts hkb hH (ox_map hOX rfl) hks hE hS hA (s_M_readTruth0 l D cs kf T O X a0 hg mq (0) o0 o1 o2 y3 y4 o5 n7_0_6 n7_0_7 y8 n7_0_9 n7_0_10 f18_111 f18_112 tl F26 t_a0 b_hg (by decide) (by decide) t_y3 t_y4 (by omega) (by omega) (by omega) (by omega) (by omega) (by omega) (by omega) (by omega) s_F26 (by omega) (by omega) x_v73 (by first | exact k4 | (intro _; omega)) (hO.sub (by decide))) kw_1402 kw_1404 ks_55 kw_13 kw_1405 (by decide +kernel) ⟨Nat.le_of_ble_eq_true rfl, Nat.le_of_ble_eq_true rfl⟩ (x_recv (ci := 12) hkb hH 0 rfl rfl) rfl rfl hl.1 (Nat.le_of_ble_eq_true rfl) dX12_readStep_29 ⟨Nat.le_of_ble_eq_true rfl, Nat.le_of_ble_eq_true rfl⟩) (fun u H locs hz9 hH hS => ?_)
    obtain ⟨n29_0_6, n29_0_7, n29_0_9, n29_0_10, n29_0_11, n29_0_12, F29_1, rfl, x_v290, x_v291, x_v292, x_v293, x_v294, x_v295, x_v296, x_v297⟩ := hz9
    have s_F29_1 := x_v290
    have hH : HT D cs A T (a0 :: y4 :: O) ((a0, .inr (12, o0 :: o1 :: o2 :: (.ref y3) :: (.ref y4) :: o5 :: (.int n29_0_6) :: (.int n29_0_7) :: (.int y8) :: (.int n29_0_9) :: (.int n29_0_10) :: (.int n29_0_11) :: (.int n29_0_12) :: tl)) :: (y4, .inl (cs.2.1, 1302, .inl F29_1)) :: X) H := hH
    refine W.widen (k := 0) (n := 0) (Nat.le_of_ble_eq_true rfl) (Nat.le_of_ble_eq_true rfl) ?_
    refine lv_aload_n hx hb dX12_readStep_32 rfl (lv_at hl 0 rfl) ?_
    refine x_getk (ci := 12) (C := RX12) (F := TX12) (N := 36) (v := .int n29_0_11) hx hb hts uX12 hown hkb hH 0 rfl rfl 11 (by decide) rfl kw_1234 (fun _ h9 => h9) dX12_readStep_33 ?_
    refine lv_if_ne (tgt := 46) hx hb dX12_readStep_36 (by decide) (fun c36 => ?_) (fun c36 => ?_)
    · skip
      have tc36 := f_ne (k := 0) (by decide) c36
      exact te_v hx hb hr hlocks hH hS (⟨n29_0_6, n29_0_7, n29_0_9, n29_0_10, n29_0_11, n29_0_12, F29_1, rfl, s_F29_1, by omega, by omega, by omega, x_v294, by omega, by omega⟩) dX12_readStep_46
    · skip
      have tc36 := f_eq (k := 0) (by decide) c36
      refine lv_aload_n hx hb dX12_readStep_39 rfl (lv_at hl 0 rfl) ?_
      refine x_getk (ci := 12) (C := RX12) (F := TX12) (N := 36) (v := .ref y4) hx hb hts uX12 hown hkb hH 0 rfl rfl 4 (by decide) rfl kw_1227 (fun _ h9 => h9) dX12_readStep_40 ?_
      refine lv_iconst (v := 3) hx hb dX12_readStep_43 (by decide) ?_
      refine lv_iconst (v := 1) hx hb dX12_readStep_44 (by decide) ?_
      refine xa_ist hx hb hkb hH hS 1 rfl (by decide) (by decide) dX12_readStep_45 (fun H locs hH hS => ?_)
      have hH : HT D cs A T (a0 :: y4 :: O) ((a0, .inr (12, o0 :: o1 :: o2 :: (.ref y3) :: (.ref y4) :: o5 :: (.int n29_0_6) :: (.int n29_0_7) :: (.int y8) :: (.int n29_0_9) :: (.int n29_0_10) :: (.int n29_0_11) :: (.int n29_0_12) :: tl)) :: (y4, .inl (cs.2.1, 1302, .inl (upd F29_1 (3) (1 : Int32)))) :: X) H := hH
      obtain ⟨F45, eF45⟩ : ∃ f9, f9 = upd F29_1 (3) (1 : Int32) := ⟨_, rfl⟩
      have hH : HT D cs A T (a0 :: y4 :: O) ((a0, .inr (12, o0 :: o1 :: o2 :: (.ref y3) :: (.ref y4) :: o5 :: (.int n29_0_6) :: (.int n29_0_7) :: (.int y8) :: (.int n29_0_9) :: (.int n29_0_10) :: (.int n29_0_11) :: (.int n29_0_12) :: tl)) :: (y4, .inl (cs.2.1, 1302, .inl F45)) :: X) H := eF45 ▸ hH
      have s_F45 : S8 F45 := eF45 ▸ S8_put (i := 3) (x := (1 : Int32)) s_F29_1 (by decide) (by decide) (⟨fun q9 => absurd q9 (by decide), fun q9 => absurd q9 (by decide), fun q9 => absurd q9 (by decide), fun q9 => absurd q9 (by decide), fun q9 => absurd q9 (by decide), fun q9 => absurd q9 (by decide), fun q9 => absurd q9 (by decide)⟩)
      exact te_v hx hb hr hlocks hH hS (⟨n29_0_6, n29_0_7, n29_0_9, n29_0_10, n29_0_11, n29_0_12, F45, rfl, s_F45, by omega, by omega, by omega, x_v294, by omega, by omega⟩) dX12_readStep_46
  refine lv_if_ne (tgt := 18) hx hb dX12_readStep_10 (by decide) (fun c10 => ?_) (fun c10 => ?_)
  · skip
    have tc10 := f_ne (k := 0) (by decide) c10
    replace x_v76 := x_v76.resolve_left tc10
    exact J18 y11 y12 _ _ _  hH hS (lv_sub hl [0] rfl)
  · skip
    have tc10 := f_eq (k := 0) (by decide) c10
    clear x_v76
    refine lv_aload_n hx hb dX12_readStep_13 rfl (lv_at hl 0 rfl) ?_
    refine lv_iconst (v := 2) hx hb dX12_readStep_14 (by decide) ?_
    have z9_2 : (2 : Int32).toInt = 2 := by decide
    refine tk_v hH hS hA (tr_V (n := 1) (As := [.int 2]) hx hb hml hown hts hkb hH (ox_map hOX rfl) hks hE hS hA (s_M_fails l D cs kf T (y4 :: O) ((y4, .inl (cs.2.1, 1302, .inl f4)) :: X) a0 hg mq (2) o0 o1 o2 y3 y4 o5 n7_0_6 n7_0_7 y8 n7_0_9 n7_0_10 y11 y12 tl t_a0 b_hg (by decide) (by decide) t_y3 t_y4 (by omega) (by omega) (by omega) (by omega) (by omega) (by omega) (by omega) (by omega) (hO.sub (by decide))) kw_1378 kw_1380 ks_49 kw_13 kw_1381 (by decide +kernel) ⟨Nat.le_of_ble_eq_true rfl, Nat.le_of_ble_eq_true rfl⟩ (x_recv (ci := 12) hkb hH 0 rfl rfl) rfl rfl hl.1 (Nat.le_of_ble_eq_true rfl) dX12_readStep_15 ⟨Nat.le_of_ble_eq_true rfl, Nat.le_of_ble_eq_true rfl⟩) (fun u H locs hz9 hH hS => ?_)
    obtain ⟨n15_0_11, n15_0_12, rfl, x_v150⟩ := hz9
    have hH : HT D cs A T (a0 :: y4 :: O) ((a0, .inr (12, o0 :: o1 :: o2 :: (.ref y3) :: (.ref y4) :: o5 :: (.int n7_0_6) :: (.int n7_0_7) :: (.int y8) :: (.int n7_0_9) :: (.int n7_0_10) :: (.int n15_0_11) :: (.int n15_0_12) :: tl)) :: (y4, .inl (cs.2.1, 1302, .inl f4)) :: X) H := hH
    refine W.widen (k := 0) (n := 0) (Nat.le_of_ble_eq_true rfl) (Nat.le_of_ble_eq_true rfl) ?_
    exact J18 n15_0_11 n15_0_12 _ _ _  hH hS (lv_sub hl [0] rfl)
set_option maxHeartbeats 4000000 in
set_option maxRecDepth 100000 in
theorem s_M_readUsed (l : Launch) (D : va_G) (cs : CS) (kf : KF) (T : TF) (O : List Nat) (X : va_W) (a0 hg mq : Nat) (o0 : Value) (o1 : Value) (o2 : Value) (y3 : Nat) (y4 : Nat) (o5 : Value) (y6 : Int32) (y7 : Int32) (y8 : Int32) (y9 : Int32) (y10 : Int32) (y11 : Int32) (y12 : Int32) (tl : List Value) (f4 : Nat → Int32) (t_a0 : T a0 = some (22, hg, mq)) (b_hg : hg < 90) (t_y3 : T y3 = some (1, 900, 0)) (t_y4 : T y4 = some (8, 1302, 0)) (l_y6 : 0 ≤ y6.toInt) (u_y6 : y6.toInt ≤ 900) (l_y7 : 0 ≤ y7.toInt) (u_y7 : y7.toInt ≤ 900) (l_y8 : 0 ≤ y8.toInt) (u_y8 : y8.toInt ≤ 900) (l_y10 : 0 ≤ y10.toInt) (u_y10 : y10.toInt ≤ 999) (s_f4 : S8 f4) (k1 : y6.toInt ≤ y7.toInt) (k2 : y7.toInt ≤ y8.toInt) (k3 : TK3 y9 y6 y7) (k5 : y11.toInt = 0) (k6 : y9.toInt ≠ 22) (hO : okO T (a0 :: y4 :: O) [1]) : TK l D cs kf yX12_readUsed cX12_readUsed 3 none { frames := 7, cells := 0, slots := 0, locals := 152 } [.ref a0] T (a0 :: y4 :: O) ((a0, .inr (12, o0 :: o1 :: o2 :: (.ref y3) :: (.ref y4) :: o5 :: (.int y6) :: (.int y7) :: (.int y8) :: (.int y9) :: (.int y10) :: (.int y11) :: (.int y12) :: tl)) :: (y4, .inl (cs.2.1, 1302, .inl f4)) :: X) (Tv D cs (fun u => ∃ (n0_6 : Int32) (n0_7 : Int32) (n0_9 : Int32) (n0_10 : Int32) (n0_11 : Int32) (n0_12 : Int32) (G1 : Nat → Int32), u = (T, a0 :: y4 :: O, (a0, .inr (12, o0 :: o1 :: o2 :: (.ref y3) :: (.ref y4) :: o5 :: (.int n0_6) :: (.int n0_7) :: (.int y8) :: (.int n0_9) :: (.int n0_10) :: (.int n0_11) :: (.int n0_12) :: tl)) :: (y4, .inl (cs.2.1, 1302, .inl G1)) :: X) ∧ (S8 G1) ∧ (y6.toInt ≤ n0_6.toInt) ∧ (n0_6.toInt ≤ n0_7.toInt) ∧ (n0_7.toInt ≤ y8.toInt) ∧ (TK3 n0_9 n0_6 n0_7) ∧ (0 ≤ n0_10.toInt) ∧ (n0_10.toInt ≤ 999))) := by
  refine tk_of (by decide) (Nat.le_of_ble_eq_true rfl) (fun p e s m below meth c ls A H locs hx hb hr hml hown hts hlocks hnm hkb hH hS hA hOX hks hE hl => ?_)
  have hown : s.vm.findClass RX12 = some m.cls := hown
  have hl : lv_has ls 3 [(0, .ref a0)] := hl
  have hOXf := hOX
  refine lv_aload_n hx hb dX12_readUsed_0 rfl (lv_at hl 0 rfl) ?_
  refine tk_v hH hS hA (tr_V (n := 0) (As := []) hx hb hml hown hts hkb hH (ox_map hOX rfl) hks hE hS hA (s_M_next l D cs kf T (y4 :: O) ((y4, .inl (cs.2.1, 1302, .inl f4)) :: X) a0 hg mq o0 o1 o2 y3 y4 o5 y6 y7 y8 y9 y10 y11 y12 tl t_a0 b_hg t_y3 t_y4 (by omega) (by omega) (by omega) (by omega) (by omega) (by omega) (by omega) (by omega) (by omega) (hO.sub (by decide))) kw_1344 kw_1346 ks_43 kw_13 kw_1347 (by decide +kernel) ⟨Nat.le_of_ble_eq_true rfl, Nat.le_of_ble_eq_true rfl⟩ (x_recv (ci := 12) hkb hH 0 rfl rfl) rfl rfl hl.1 (Nat.le_of_ble_eq_true rfl) dX12_readUsed_1 ⟨Nat.le_of_ble_eq_true rfl, Nat.le_of_ble_eq_true rfl⟩) (fun u H locs hz9 hH hS => ?_)
  obtain ⟨n1_0_6, n1_0_7, n1_0_9, n1_0_10, rfl, x_v10, x_v11, x_v12, x_v13, x_v14, x_v15⟩ := hz9
  have hH : HT D cs A T (a0 :: y4 :: O) ((a0, .inr (12, o0 :: o1 :: o2 :: (.ref y3) :: (.ref y4) :: o5 :: (.int n1_0_6) :: (.int n1_0_7) :: (.int y8) :: (.int n1_0_9) :: (.int n1_0_10) :: (.int y11) :: (.int y12) :: tl)) :: (y4, .inl (cs.2.1, 1302, .inl f4)) :: X) H := hH
  refine W.widen (k := 0) (n := 0) (Nat.le_of_ble_eq_true rfl) (Nat.le_of_ble_eq_true rfl) ?_
  refine lv_aload_n hx hb dX12_readUsed_4 rfl (lv_at hl 0 rfl) ?_
  refine lv_bipush (v := 21) hx hb dX12_readUsed_5 (by decide) ?_
  have z9_21 : (21 : Int32).toInt = 21 := by decide
  refine tk_i hH hS hA (tr_V (n := 1) (As := [.int 21]) hx hb hml hown hts hkb hH (ox_map hOX rfl) hks hE hS hA (s_M_is l D cs kf T (y4 :: O) ((y4, .inl (cs.2.1, 1302, .inl f4)) :: X) a0 hg mq (21) o0 o1 o2 y3 y4 o5 n1_0_6 n1_0_7 y8 n1_0_9 n1_0_10 y11 y12 tl t_a0 b_hg t_y3 t_y4 (by omega) (by omega) (by omega) (by omega) (by omega) (by omega) (by omega) (by omega) (hO.sub (by decide))) kw_1370 kw_1372 ks_47 kw_13 kw_1373 (by decide +kernel) ⟨Nat.le_of_ble_eq_true rfl, Nat.le_of_ble_eq_true rfl⟩ (x_recv (ci := 12) hkb hH 0 rfl rfl) rfl rfl hl.1 (Nat.le_of_ble_eq_true rfl) dX12_readUsed_7 ⟨Nat.le_of_ble_eq_true rfl, Nat.le_of_ble_eq_true rfl⟩) (fun v7 u H locs hz9 hH hS => ?_)
  obtain ⟨rfl, l_v7, u_v7, x_v70⟩ := hz9
  have hH : HT D cs A T (a0 :: y4 :: O) ((a0, .inr (12, o0 :: o1 :: o2 :: (.ref y3) :: (.ref y4) :: o5 :: (.int n1_0_6) :: (.int n1_0_7) :: (.int y8) :: (.int n1_0_9) :: (.int n1_0_10) :: (.int y11) :: (.int y12) :: tl)) :: (y4, .inl (cs.2.1, 1302, .inl f4)) :: X) H := hH
  refine W.widen (k := 0) (n := 0) (Nat.le_of_ble_eq_true rfl) (Nat.le_of_ble_eq_true rfl) ?_
  have J63 : ∀ (f63_111 : Int32) (f63_112 : Int32) (H : Heap) (locs : List Loc) (ls : Array Slot), HT D cs A T (a0 :: y4 :: O) ((a0, .inr (12, o0 :: o1 :: o2 :: (.ref y3) :: (.ref y4) :: o5 :: (.int n1_0_6) :: (.int n1_0_7) :: (.int y8) :: (.int n1_0_9) :: (.int n1_0_10) :: (.int f63_111) :: (.int f63_112) :: tl)) :: (y4, .inl (cs.2.1, 1302, .inl f4)) :: X) H → va_S A s.heap H locs → lv_has ls 3 [(0, .ref a0)] → W p l e { frames := 7, cells := 0, slots := 0, locals := 152 } s m [.ref a0].toArray below meth c H locs 0 0 (MQ below (Tv D cs (fun u => ∃ (n0_6 : Int32) (n0_7 : Int32) (n0_9 : Int32) (n0_10 : Int32) (n0_11 : Int32) (n0_12 : Int32) (G1 : Nat → Int32), u = (T, a0 :: y4 :: O, (a0, .inr (12, o0 :: o1 :: o2 :: (.ref y3) :: (.ref y4) :: o5 :: (.int n0_6) :: (.int n0_7) :: (.int y8) :: (.int n0_9) :: (.int n0_10) :: (.int n0_11) :: (.int n0_12) :: tl)) :: (y4, .inl (cs.2.1, 1302, .inl G1)) :: X) ∧ (S8 G1) ∧ (y6.toInt ≤ n0_6.toInt) ∧ (n0_6.toInt ≤ n0_7.toInt) ∧ (n0_7.toInt ≤ y8.toInt) ∧ (TK3 n0_9 n0_6 n0_7) ∧ (0 ≤ n0_10.toInt) ∧ (n0_10.toInt ≤ 999)) A) [.ref a0].toArray s 0 0 A) (F0 m 63 ls []) := by
    intro f63_111 f63_112 H locs ls  hH hS hl
    refine lv_aload_n hx hb dX12_readUsed_63 rfl (lv_at hl 0 rfl) ?_
    refine lv_iconst (v := 0) hx hb dX12_readUsed_64 (by decide) ?_
    refine lv_aload_n hx hb dX12_readUsed_65 rfl (lv_at hl 0 rfl) ?_
    refine x_getk (ci := 12) (C := RX12) (F := TX12) (N := 36) (v := .ref y4) hx hb hts uX12 hown hkb hH 0 rfl rfl 4 (by decide) rfl kw_1227 (fun _ h9 => h9) dX12_readUsed_66 ?_
    refine lv_iconst (v := 1) hx hb dX12_readUsed_69 (by decide) ?_
    refine xa_ild hx hb hkb hH 1 rfl (by decide) (by decide) dX12_readUsed_70 ?_
    refine lv_topi (fun v70 ev70 => ?_)
    have tv70 : v70 = f4 1 := by rw [ev70]; rfl
    have bv70 : 0 ≤ v70.toInt ∧ v70.toInt ≤ 14 := by rw [tv70]; exact s_f4.1
    refine lv_iconst (v := 1) hx hb dX12_readUsed_71 (by decide) ?_
    refine lv_isub hx hb dX12_readUsed_72 ?_
    refine lv_topi (fun v72 ev72 => ?_)
    have tv72 : v72.toInt = v70.toInt - (1) := by rw [ev72]; exact sub_i rfl (by decide : (1 : Int32).toInt = 1) (by omega) (by omega)
    have z9_0 : (0 : Int32).toInt = 0 := by decide
    refine tk_i hH hS hA (tr_V (n := 2) (As := [.int 0, .int v72]) hx hb hml hown hts hkb hH (ox_map hOX rfl) hks hE hS hA (s_M_takes l D cs kf T (y4 :: O) ((y4, .inl (cs.2.1, 1302, .inl f4)) :: X) a0 hg mq (0) v72 o0 o1 o2 y3 y4 o5 n1_0_6 n1_0_7 y8 n1_0_9 n1_0_10 f63_111 f63_112 tl t_a0 b_hg t_y3 t_y4 (by omega) (by omega) (by omega) (by omega) (by omega) (by omega) (by omega) (by omega) (by omega) (by omega) x_v13 (hO.sub (by decide))) kw_1382 kw_1384 ks_50 kw_13 kw_1385 (by decide +kernel) ⟨Nat.le_of_ble_eq_true rfl, Nat.le_of_ble_eq_true rfl⟩ (x_recv (ci := 12) hkb hH 0 rfl rfl) rfl rfl hl.1 (Nat.le_of_ble_eq_true rfl) dX12_readUsed_73 ⟨Nat.le_of_ble_eq_true rfl, Nat.le_of_ble_eq_true rfl⟩) (fun v73 u H locs hz9 hH hS => ?_)
    obtain ⟨n73_0_6, n73_0_7, n73_0_9, n73_0_10, n73_0_11, n73_0_12, rfl, l_v73, u_v73, x_v730, x_v731, x_v732, x_v733, x_v734, x_v735, x_v736⟩ := hz9
    have hH : HT D cs A T (a0 :: y4 :: O) ((a0, .inr (12, o0 :: o1 :: o2 :: (.ref y3) :: (.ref y4) :: o5 :: (.int n73_0_6) :: (.int n73_0_7) :: (.int y8) :: (.int n73_0_9) :: (.int n73_0_10) :: (.int n73_0_11) :: (.int n73_0_12) :: tl)) :: (y4, .inl (cs.2.1, 1302, .inl f4)) :: X) H := hH
    refine W.widen (k := 0) (n := 0) (Nat.le_of_ble_eq_true rfl) (Nat.le_of_ble_eq_true rfl) ?_
    refine lv_istore_n (lv' := [(1, .int v73), (0, .ref a0)]) hx hb dX12_readUsed_76 rfl hl (by decide) rfl (fun ls hl => ?_)
    refine lv_aload_n hx hb dX12_readUsed_77 rfl (lv_at hl 1 rfl) ?_
    refine lv_bipush (v := 6) hx hb dX12_readUsed_78 (by decide) ?_
    have z9_6 : (6 : Int32).toInt = 6 := by decide
    refine tk_i hH hS hA (tr_V (n := 1) (As := [.int 6]) hx hb hml hown hts hkb hH (ox_map hOX rfl) hks hE hS hA (s_M_eats l D cs kf T (y4 :: O) ((y4, .inl (cs.2.1, 1302, .inl f4)) :: X) a0 hg mq (6) o0 o1 o2 y3 y4 o5 n73_0_6 n73_0_7 y8 n73_0_9 n73_0_10 n73_0_11 n73_0_12 tl t_a0 b_hg t_y3 t_y4 (by omega) (by omega) (by omega) (by omega) (by omega) (by omega) (by omega) (by omega) (by omega) (by omega) x_v733 (by omega) (hO.sub (by decide))) kw_1390 kw_1392 ks_52 kw_13 kw_1393 (by decide +kernel) ⟨Nat.le_of_ble_eq_true rfl, Nat.le_of_ble_eq_true rfl⟩ (x_recv (ci := 12) hkb hH 0 rfl rfl) rfl rfl hl.1 (Nat.le_of_ble_eq_true rfl) dX12_readUsed_80 ⟨Nat.le_of_ble_eq_true rfl, Nat.le_of_ble_eq_true rfl⟩) (fun v80 u H locs hz9 hH hS => ?_)
    obtain ⟨n80_0_6, n80_0_7, n80_0_9, n80_0_10, rfl, l_v80, u_v80, x_v800, x_v801, x_v802, x_v803, x_v804, x_v805, x_v806⟩ := hz9
    have hH : HT D cs A T (a0 :: y4 :: O) ((a0, .inr (12, o0 :: o1 :: o2 :: (.ref y3) :: (.ref y4) :: o5 :: (.int n80_0_6) :: (.int n80_0_7) :: (.int y8) :: (.int n80_0_9) :: (.int n80_0_10) :: (.int n73_0_11) :: (.int n73_0_12) :: tl)) :: (y4, .inl (cs.2.1, 1302, .inl f4)) :: X) H := hH
    refine W.widen (k := 0) (n := 0) (Nat.le_of_ble_eq_true rfl) (Nat.le_of_ble_eq_true rfl) ?_
    have J91 : ∀ (f91_111 : Int32) (f91_112 : Int32) (H : Heap) (locs : List Loc) (ls : Array Slot), (MW n73_0_11 f91_111) → HT D cs A T (a0 :: y4 :: O) ((a0, .inr (12, o0 :: o1 :: o2 :: (.ref y3) :: (.ref y4) :: o5 :: (.int n80_0_6) :: (.int n80_0_7) :: (.int y8) :: (.int n80_0_9) :: (.int n80_0_10) :: (.int f91_111) :: (.int f91_112) :: tl)) :: (y4, .inl (cs.2.1, 1302, .inl f4)) :: X) H → va_S A s.heap H locs → lv_has ls 3 [(1, .int v73), (0, .ref a0)] → W p l e { frames := 7, cells := 0, slots := 0, locals := 152 } s m [.ref a0].toArray below meth c H locs 0 0 (MQ below (Tv D cs (fun u => ∃ (n0_6 : Int32) (n0_7 : Int32) (n0_9 : Int32) (n0_10 : Int32) (n0_11 : Int32) (n0_12 : Int32) (G1 : Nat → Int32), u = (T, a0 :: y4 :: O, (a0, .inr (12, o0 :: o1 :: o2 :: (.ref y3) :: (.ref y4) :: o5 :: (.int n0_6) :: (.int n0_7) :: (.int y8) :: (.int n0_9) :: (.int n0_10) :: (.int n0_11) :: (.int n0_12) :: tl)) :: (y4, .inl (cs.2.1, 1302, .inl G1)) :: X) ∧ (S8 G1) ∧ (y6.toInt ≤ n0_6.toInt) ∧ (n0_6.toInt ≤ n0_7.toInt) ∧ (n0_7.toInt ≤ y8.toInt) ∧ (TK3 n0_9 n0_6 n0_7) ∧ (0 ≤ n0_10.toInt) ∧ (n0_10.toInt ≤ 999)) A) [.ref a0].toArray s 0 0 A) (F0 m 91 ls []) := by
      intro f91_111 f91_112 H locs ls i91 hH hS hl
      refine lv_aload_n hx hb dX12_readUsed_91 rfl (lv_at hl 1 rfl) ?_
      refine lv_iconst (v := 0) hx hb dX12_readUsed_92 (by decide) ?_
      refine lv_aload_n hx hb dX12_readUsed_93 rfl (lv_at hl 1 rfl) ?_
      refine x_getk (ci := 12) (C := RX12) (F := TX12) (N := 36) (v := .ref y4) hx hb hts uX12 hown hkb hH 0 rfl rfl 4 (by decide) rfl kw_1227 (fun _ h9 => h9) dX12_readUsed_94 ?_
      refine lv_iconst (v := 2) hx hb dX12_readUsed_97 (by decide) ?_
      refine xa_ild hx hb hkb hH 1 rfl (by decide) (by decide) dX12_readUsed_98 ?_
      refine lv_topi (fun v98 ev98 => ?_)
      have tv98 : v98 = f4 2 := by rw [ev98]; rfl
      have bv98 : 0 ≤ v98.toInt ∧ v98.toInt ≤ 5 := by rw [tv98]; exact s_f4.2.1
      refine lv_iconst (v := 1) hx hb dX12_readUsed_99 (by decide) ?_
      refine lv_isub hx hb dX12_readUsed_100 ?_
      refine lv_topi (fun v100 ev100 => ?_)
      have tv100 : v100.toInt = v98.toInt - (1) := by rw [ev100]; exact sub_i rfl (by decide : (1 : Int32).toInt = 1) (by omega) (by omega)
      have z9_0 : (0 : Int32).toInt = 0 := by decide
      refine tk_i hH hS hA (tr_V (n := 2) (As := [.int 0, .int v100]) hx hb hml hown hts hkb hH (ox_map hOX rfl) hks hE hS hA (s_M_takes l D cs kf T (y4 :: O) ((y4, .inl (cs.2.1, 1302, .inl f4)) :: X) a0 hg mq (0) v100 o0 o1 o2 y3 y4 o5 n80_0_6 n80_0_7 y8 n80_0_9 n80_0_10 f91_111 f91_112 tl t_a0 b_hg t_y3 t_y4 (by omega) (by omega) (by omega) (by omega) (by omega) (by omega) (by omega) (by omega) (by omega) (by omega) x_v803 (hO.sub (by decide))) kw_1382 kw_1384 ks_50 kw_13 kw_1385 (by decide +kernel) ⟨Nat.le_of_ble_eq_true rfl, Nat.le_of_ble_eq_true rfl⟩ (x_recv (ci := 12) hkb hH 0 rfl rfl) rfl rfl hl.1 (Nat.le_of_ble_eq_true rfl) dX12_readUsed_101 ⟨Nat.le_of_ble_eq_true rfl, Nat.le_of_ble_eq_true rfl⟩) (fun v101 u H locs hz9 hH hS => ?_)
      obtain ⟨n101_0_6, n101_0_7, n101_0_9, n101_0_10, n101_0_11, n101_0_12, rfl, l_v101, u_v101, x_v1010, x_v1011, x_v1012, x_v1013, x_v1014, x_v1015, x_v1016⟩ := hz9
      have hH : HT D cs A T (a0 :: y4 :: O) ((a0, .inr (12, o0 :: o1 :: o2 :: (.ref y3) :: (.ref y4) :: o5 :: (.int n101_0_6) :: (.int n101_0_7) :: (.int y8) :: (.int n101_0_9) :: (.int n101_0_10) :: (.int n101_0_11) :: (.int n101_0_12) :: tl)) :: (y4, .inl (cs.2.1, 1302, .inl f4)) :: X) H := hH
      refine W.widen (k := 0) (n := 0) (Nat.le_of_ble_eq_true rfl) (Nat.le_of_ble_eq_true rfl) ?_
      refine lv_istore_n (lv' := [(2, .int v101), (1, .int v73), (0, .ref a0)]) hx hb dX12_readUsed_104 rfl hl (by decide) rfl (fun ls hl => ?_)
      refine lv_aload_n hx hb dX12_readUsed_105 rfl (lv_at hl 2 rfl) ?_
      refine x_getk (ci := 12) (C := RX12) (F := TX12) (N := 36) (v := .int n101_0_11) hx hb hts uX12 hown hkb hH 0 rfl rfl 11 (by decide) rfl kw_1234 (fun _ h9 => h9) dX12_readUsed_106 ?_
      refine lv_if_ne (tgt := 137) hx hb dX12_readUsed_109 (by decide) (fun c109 => ?_) (fun c109 => ?_)
      · skip
        have tc109 := f_ne (k := 0) (by decide) c109
        exact te_v hx hb hr hlocks hH hS (⟨n101_0_6, n101_0_7, n101_0_9, n101_0_10, n101_0_11, n101_0_12, f4, rfl, s_f4, by omega, by omega, by omega, x_v1013, by omega, by omega⟩) dX12_readUsed_137
      · skip
        have tc109 := f_eq (k := 0) (by decide) c109
        have t2 := x_v1016 tc109
        have t1 := x_v736 (i91 t2.1)
        refine lv_aload_n hx hb dX12_readUsed_112 rfl (lv_at hl 2 rfl) ?_
        refine x_getk (ci := 12) (C := RX12) (F := TX12) (N := 36) (v := .ref y4) hx hb hts uX12 hown hkb hH 0 rfl rfl 4 (by decide) rfl kw_1227 (fun _ h9 => h9) dX12_readUsed_113 ?_
        refine lv_bipush (v := 87) hx hb dX12_readUsed_116 (by decide) ?_
        refine xa_ild hx hb hkb hH 1 rfl (by decide) (by decide) dX12_readUsed_118 ?_
        refine lv_topi (fun v118 ev118 => ?_)
        have tv118 : v118 = f4 87 := by rw [ev118]; rfl
        refine lv_i2l hx hb dX12_readUsed_119 rfl ?_
        refine lv_iload_n hx hb dX12_readUsed_120 rfl (lv_at hl 1 rfl) ?_
        refine tk_i hH hS hA (tr_S (n := 2) (As := [.long v118.toInt64, .int v73]) hx hb hml hown hts hkb hH (ox_map hOX rfl) hks hE hS hA (s_M_isIn l D cs kf T (a0 :: y4 :: O) ((a0, .inr (12, o0 :: o1 :: o2 :: (.ref y3) :: (.ref y4) :: o5 :: (.int n101_0_6) :: (.int n101_0_7) :: (.int y8) :: (.int n101_0_9) :: (.int n101_0_10) :: (.int n101_0_11) :: (.int n101_0_12) :: tl)) :: (y4, .inl (cs.2.1, 1302, .inl f4)) :: X) v118.toInt64 v73  (hO.sub (by decide))) kw_1440 kw_1441 kw_13 kw_1442 (by decide +kernel) ⟨Nat.le_of_ble_eq_true rfl, Nat.le_of_ble_eq_true rfl⟩ rfl rfl hl.1 (Nat.le_of_ble_eq_true rfl) dX12_readUsed_121 ⟨Nat.le_of_ble_eq_true rfl, Nat.le_of_ble_eq_true rfl⟩) (fun v121 u H locs hz9 hH hS => ?_)
        obtain ⟨rfl, l_v121, u_v121⟩ := hz9
        have hH : HT D cs A T (a0 :: y4 :: O) ((a0, .inr (12, o0 :: o1 :: o2 :: (.ref y3) :: (.ref y4) :: o5 :: (.int n101_0_6) :: (.int n101_0_7) :: (.int y8) :: (.int n101_0_9) :: (.int n101_0_10) :: (.int n101_0_11) :: (.int n101_0_12) :: tl)) :: (y4, .inl (cs.2.1, 1302, .inl f4)) :: X) H := hH
        refine W.widen (k := 0) (n := 0) (Nat.le_of_ble_eq_true rfl) (Nat.le_of_ble_eq_true rfl) ?_
        refine lv_if_ne (tgt := 137) hx hb dX12_readUsed_124 (by decide) (fun c124 => ?_) (fun c124 => ?_)
        · skip
          have tc124 := f_ne (k := 0) (by decide) c124
          exact te_v hx hb hr hlocks hH hS (⟨n101_0_6, n101_0_7, n101_0_9, n101_0_10, n101_0_11, n101_0_12, f4, rfl, s_f4, by omega, by omega, by omega, x_v1013, by omega, by omega⟩) dX12_readUsed_137
        · skip
          have tc124 := f_eq (k := 0) (by decide) c124
          refine lv_aload_n hx hb dX12_readUsed_127 rfl (lv_at hl 2 rfl) ?_
          refine x_getk (ci := 12) (C := RX12) (F := TX12) (N := 36) (v := .ref y4) hx hb hts uX12 hown hkb hH 0 rfl rfl 4 (by decide) rfl kw_1227 (fun _ h9 => h9) dX12_readUsed_128 ?_
          refine lv_bipush (v := 59) hx hb dX12_readUsed_131 (by decide) ?_
          refine lv_iload_n hx hb dX12_readUsed_133 rfl (lv_at hl 1 rfl) ?_
          refine lv_iadd hx hb dX12_readUsed_134 ?_
          refine lv_topi (fun v134 ev134 => ?_)
          have tv134 : v134.toInt = (59) + v73.toInt := by rw [ev134]; exact add_i (by decide : (59 : Int32).toInt = 59) rfl (by omega) (by omega)
          refine lv_iload_n hx hb dX12_readUsed_135 rfl (lv_at hl 0 rfl) ?_
          refine xa_ist hx hb hkb hH hS 1 rfl (by omega) (by omega) dX12_readUsed_136 (fun H locs hH hS => ?_)
          have hH : HT D cs A T (a0 :: y4 :: O) ((a0, .inr (12, o0 :: o1 :: o2 :: (.ref y3) :: (.ref y4) :: o5 :: (.int n101_0_6) :: (.int n101_0_7) :: (.int y8) :: (.int n101_0_9) :: (.int n101_0_10) :: (.int n101_0_11) :: (.int n101_0_12) :: tl)) :: (y4, .inl (cs.2.1, 1302, .inl (upd f4 (v134.toInt.toNat) v101))) :: X) H := hH
          obtain ⟨F136, eF136⟩ : ∃ f9, f9 = upd f4 (v134.toInt.toNat) v101 := ⟨_, rfl⟩
          have hH : HT D cs A T (a0 :: y4 :: O) ((a0, .inr (12, o0 :: o1 :: o2 :: (.ref y3) :: (.ref y4) :: o5 :: (.int n101_0_6) :: (.int n101_0_7) :: (.int y8) :: (.int n101_0_9) :: (.int n101_0_10) :: (.int n101_0_11) :: (.int n101_0_12) :: tl)) :: (y4, .inl (cs.2.1, 1302, .inl F136)) :: X) H := eF136 ▸ hH
          have s_F136 : S8 F136 := eF136 ▸ S8_put (i := v134) (x := v101) s_f4 (by omega) (by omega) (p8_far (by omega) (⟨by omega, by omega⟩))
          exact te_v hx hb hr hlocks hH hS (⟨n101_0_6, n101_0_7, n101_0_9, n101_0_10, n101_0_11, n101_0_12, F136, rfl, s_F136, by omega, by omega, by omega, x_v1013, by omega, by omega⟩) dX12_readUsed_137
    refine lv_if_ne (tgt := 91) hx hb dX12_readUsed_83 (by decide) (fun c83 => ?_) (fun c83 => ?_)
    · skip
      have tc83 := f_ne (k := 0) (by decide) c83
      replace x_v806 := x_v806.resolve_left tc83
      exact J91 n73_0_11 n73_0_12 _ _ _ (by first | exact (fun q => q)) hH hS (lv_sub hl [0, 1] rfl)
    · skip
      have tc83 := f_eq (k := 0) (by decide) c83
      clear x_v806
      refine lv_aload_n hx hb dX12_readUsed_86 rfl (lv_at hl 1 rfl) ?_
      refine lv_iconst (v := 2) hx hb dX12_readUsed_87 (by decide) ?_
      have z9_2 : (2 : Int32).toInt = 2 := by decide
      refine tk_v hH hS hA (tr_V (n := 1) (As := [.int 2]) hx hb hml hown hts hkb hH (ox_map hOX rfl) hks hE hS hA (s_M_fails l D cs kf T (y4 :: O) ((y4, .inl (cs.2.1, 1302, .inl f4)) :: X) a0 hg mq (2) o0 o1 o2 y3 y4 o5 n80_0_6 n80_0_7 y8 n80_0_9 n80_0_10 n73_0_11 n73_0_12 tl t_a0 b_hg (by decide) (by decide) t_y3 t_y4 (by omega) (by omega) (by omega) (by omega) (by omega) (by omega) (by omega) (by omega) (hO.sub (by decide))) kw_1378 kw_1380 ks_49 kw_13 kw_1381 (by decide +kernel) ⟨Nat.le_of_ble_eq_true rfl, Nat.le_of_ble_eq_true rfl⟩ (x_recv (ci := 12) hkb hH 0 rfl rfl) rfl rfl hl.1 (Nat.le_of_ble_eq_true rfl) dX12_readUsed_88 ⟨Nat.le_of_ble_eq_true rfl, Nat.le_of_ble_eq_true rfl⟩) (fun u H locs hz9 hH hS => ?_)
      obtain ⟨n88_0_11, n88_0_12, rfl, x_v880⟩ := hz9
      have hH : HT D cs A T (a0 :: y4 :: O) ((a0, .inr (12, o0 :: o1 :: o2 :: (.ref y3) :: (.ref y4) :: o5 :: (.int n80_0_6) :: (.int n80_0_7) :: (.int y8) :: (.int n80_0_9) :: (.int n80_0_10) :: (.int n88_0_11) :: (.int n88_0_12) :: tl)) :: (y4, .inl (cs.2.1, 1302, .inl f4)) :: X) H := hH
      refine W.widen (k := 0) (n := 0) (Nat.le_of_ble_eq_true rfl) (Nat.le_of_ble_eq_true rfl) ?_
      exact J91 n88_0_11 n88_0_12 _ _ _ (by first | exact (fun q => q) | exact (fun q => absurd q x_v880)) hH hS (lv_sub hl [0, 1] rfl)
  refine lv_if_eq (tgt := 63) hx hb dX12_readUsed_10 (by decide) (fun c10 => ?_) (fun c10 => ?_)
  · skip
    have tc10 := f_eq (k := 0) (by decide) c10
    clear x_v70
    exact J63 y11 y12 _ _ _  hH hS (lv_sub hl [0] rfl)
  · skip
    have tc10 := f_ne (k := 0) (by decide) c10
    replace x_v70 := x_v70.resolve_left tc10
    refine lv_aload_n hx hb dX12_readUsed_13 rfl (lv_at hl 0 rfl) ?_
    refine x_getk (ci := 12) (C := RX12) (F := TX12) (N := 36) (v := .int n1_0_10) hx hb hts uX12 hown hkb hH 0 rfl rfl 10 (by decide) rfl kw_1233 (fun _ h9 => h9) dX12_readUsed_14 ?_
    refine lv_i2l hx hb dX12_readUsed_17 rfl ?_
    refine lv_lconst (v := 0) hx hb dX12_readUsed_18 (by decide) ?_
    refine lv_aload_n hx hb dX12_readUsed_19 rfl (lv_at hl 0 rfl) ?_
    refine x_getk (ci := 12) (C := RX12) (F := TX12) (N := 36) (v := .ref y4) hx hb hts uX12 hown hkb hH 0 rfl rfl 4 (by decide) rfl kw_1227 (fun _ h9 => h9) dX12_readUsed_20 ?_
    refine lv_iconst (v := 1) hx hb dX12_readUsed_23 (by decide) ?_
    refine xa_ild hx hb hkb hH 1 rfl (by decide) (by decide) dX12_readUsed_24 ?_
    refine lv_topi (fun v24 ev24 => ?_)
    have tv24 : v24 = f4 1 := by rw [ev24]; rfl
    have bv24 : 0 ≤ v24.toInt ∧ v24.toInt ≤ 14 := by rw [tv24]; exact s_f4.1
    refine lv_iconst (v := 1) hx hb dX12_readUsed_25 (by decide) ?_
    refine lv_isub hx hb dX12_readUsed_26 ?_
    refine lv_topi (fun v26 ev26 => ?_)
    have tv26 : v26.toInt = v24.toInt - (1) := by rw [ev26]; exact sub_i rfl (by decide : (1 : Int32).toInt = 1) (by omega) (by omega)
    refine lv_i2l hx hb dX12_readUsed_27 rfl ?_
    refine tk_i hH hS hA (tr_S (n := 3) (As := [.long n1_0_10.toInt64, .long 0, .long v26.toInt64]) hx hb hml hown hts hkb hH (ox_map hOX rfl) hks hE hS hA (s_M_within l D cs kf T (a0 :: y4 :: O) ((a0, .inr (12, o0 :: o1 :: o2 :: (.ref y3) :: (.ref y4) :: o5 :: (.int n1_0_6) :: (.int n1_0_7) :: (.int y8) :: (.int n1_0_9) :: (.int n1_0_10) :: (.int y11) :: (.int y12) :: tl)) :: (y4, .inl (cs.2.1, 1302, .inl f4)) :: X) n1_0_10.toInt64 0 v26.toInt64  (hO.sub (by decide))) kw_1341 kw_1342 kw_13 kw_1343 (by decide +kernel) ⟨Nat.le_of_ble_eq_true rfl, Nat.le_of_ble_eq_true rfl⟩ rfl rfl hl.1 (Nat.le_of_ble_eq_true rfl) dX12_readUsed_28 ⟨Nat.le_of_ble_eq_true rfl, Nat.le_of_ble_eq_true rfl⟩) (fun v28 u H locs hz9 hH hS => ?_)
    obtain ⟨rfl, l_v28, u_v28, x_v280, x_v281⟩ := hz9
    simp only [Int32.toInt_toInt64] at x_v280 x_v281
    have k9_0 : (0 : Int64).toInt = 0 := by decide
    have hH : HT D cs A T (a0 :: y4 :: O) ((a0, .inr (12, o0 :: o1 :: o2 :: (.ref y3) :: (.ref y4) :: o5 :: (.int n1_0_6) :: (.int n1_0_7) :: (.int y8) :: (.int n1_0_9) :: (.int n1_0_10) :: (.int y11) :: (.int y12) :: tl)) :: (y4, .inl (cs.2.1, 1302, .inl f4)) :: X) H := hH
    refine W.widen (k := 0) (n := 0) (Nat.le_of_ble_eq_true rfl) (Nat.le_of_ble_eq_true rfl) ?_
    refine lv_if_eq (tgt := 63) hx hb dX12_readUsed_31 (by decide) (fun c31 => ?_) (fun c31 => ?_)
    · skip
      have tc31 := f_eq (k := 0) (by decide) c31
      clear x_v280
      replace x_v281 := x_v281.resolve_left (fun q9 => q9 tc31)
      exact J63 y11 y12 _ _ _  hH hS (lv_sub hl [0] rfl)
    · skip
      have tc31 := f_ne (k := 0) (by decide) c31
      replace x_v280 := x_v280.resolve_left tc31
      clear x_v281
      refine lv_aload_n hx hb dX12_readUsed_34 rfl (lv_at hl 0 rfl) ?_
      refine x_getk (ci := 12) (C := RX12) (F := TX12) (N := 36) (v := .ref y4) hx hb hts uX12 hown hkb hH 0 rfl rfl 4 (by decide) rfl kw_1227 (fun _ h9 => h9) dX12_readUsed_35 ?_
      refine lv_iconst (v := 4) hx hb dX12_readUsed_38 (by decide) ?_
      refine xa_ild hx hb hkb hH 1 rfl (by decide) (by decide) dX12_readUsed_39 ?_
      refine lv_topi (fun v39 ev39 => ?_)
      have tv39 : v39 = f4 4 := by rw [ev39]; rfl
      have bv39 : 0 ≤ v39.toInt ∧ v39.toInt ≤ 16383 := by rw [tv39]; exact s_f4.2.2.1
      refine lv_aload_n hx hb dX12_readUsed_40 rfl (lv_at hl 0 rfl) ?_
      refine x_getk (ci := 12) (C := RX12) (F := TX12) (N := 36) (v := .ref y4) hx hb hts uX12 hown hkb hH 0 rfl rfl 4 (by decide) rfl kw_1227 (fun _ h9 => h9) dX12_readUsed_41 ?_
      refine lv_iconst (v := 5) hx hb dX12_readUsed_44 (by decide) ?_
      refine xa_ild hx hb hkb hH 1 rfl (by decide) (by decide) dX12_readUsed_45 ?_
      refine lv_topi (fun v45 ev45 => ?_)
      have tv45 : v45 = f4 5 := by rw [ev45]; rfl
      have bv45 : 0 ≤ v45.toInt ∧ v45.toInt ≤ 16383 := by rw [tv45]; exact s_f4.2.2.2.1
      refine lv_ior hx hb dX12_readUsed_46 ?_
      refine lv_topi (fun v46 ev46 => ?_)
      have tv46 : 0 ≤ v46.toInt ∧ v46.toInt < 16384 := by rw [ev46]; exact or_b 14 (by decide) (by omega) (by omega) (by omega) (by omega)
      refine lv_i2l hx hb dX12_readUsed_47 rfl ?_
      refine lv_aload_n hx hb dX12_readUsed_48 rfl (lv_at hl 0 rfl) ?_
      refine x_getk (ci := 12) (C := RX12) (F := TX12) (N := 36) (v := .int n1_0_10) hx hb hts uX12 hown hkb hH 0 rfl rfl 10 (by decide) rfl kw_1233 (fun _ h9 => h9) dX12_readUsed_49 ?_
      refine tk_i hH hS hA (tr_S (n := 2) (As := [.long v46.toInt64, .int n1_0_10]) hx hb hml hown hts hkb hH (ox_map hOX rfl) hks hE hS hA (s_M_isIn l D cs kf T (a0 :: y4 :: O) ((a0, .inr (12, o0 :: o1 :: o2 :: (.ref y3) :: (.ref y4) :: o5 :: (.int n1_0_6) :: (.int n1_0_7) :: (.int y8) :: (.int n1_0_9) :: (.int n1_0_10) :: (.int y11) :: (.int y12) :: tl)) :: (y4, .inl (cs.2.1, 1302, .inl f4)) :: X) v46.toInt64 n1_0_10  (hO.sub (by decide))) kw_1440 kw_1441 kw_13 kw_1442 (by decide +kernel) ⟨Nat.le_of_ble_eq_true rfl, Nat.le_of_ble_eq_true rfl⟩ rfl rfl hl.1 (Nat.le_of_ble_eq_true rfl) dX12_readUsed_52 ⟨Nat.le_of_ble_eq_true rfl, Nat.le_of_ble_eq_true rfl⟩) (fun v52 u H locs hz9 hH hS => ?_)
      obtain ⟨rfl, l_v52, u_v52⟩ := hz9
      have hH : HT D cs A T (a0 :: y4 :: O) ((a0, .inr (12, o0 :: o1 :: o2 :: (.ref y3) :: (.ref y4) :: o5 :: (.int n1_0_6) :: (.int n1_0_7) :: (.int y8) :: (.int n1_0_9) :: (.int n1_0_10) :: (.int y11) :: (.int y12) :: tl)) :: (y4, .inl (cs.2.1, 1302, .inl f4)) :: X) H := hH
      refine W.widen (k := 0) (n := 0) (Nat.le_of_ble_eq_true rfl) (Nat.le_of_ble_eq_true rfl) ?_
      refine lv_if_eq (tgt := 63) hx hb dX12_readUsed_55 (by decide) (fun c55 => ?_) (fun c55 => ?_)
      · skip
        have tc55 := f_eq (k := 0) (by decide) c55
        exact J63 y11 y12 _ _ _  hH hS (lv_sub hl [0] rfl)
      · skip
        have tc55 := f_ne (k := 0) (by decide) c55
        refine lv_aload_n hx hb dX12_readUsed_58 rfl (lv_at hl 0 rfl) ?_
        refine lv_iconst (v := 3) hx hb dX12_readUsed_59 (by decide) ?_
        have z9_3 : (3 : Int32).toInt = 3 := by decide
        refine tk_v hH hS hA (tr_V (n := 1) (As := [.int 3]) hx hb hml hown hts hkb hH (ox_map hOX rfl) hks hE hS hA (s_M_fails l D cs kf T (y4 :: O) ((y4, .inl (cs.2.1, 1302, .inl f4)) :: X) a0 hg mq (3) o0 o1 o2 y3 y4 o5 n1_0_6 n1_0_7 y8 n1_0_9 n1_0_10 y11 y12 tl t_a0 b_hg (by decide) (by decide) t_y3 t_y4 (by omega) (by omega) (by omega) (by omega) (by omega) (by omega) (by omega) (by omega) (hO.sub (by decide))) kw_1378 kw_1380 ks_49 kw_13 kw_1381 (by decide +kernel) ⟨Nat.le_of_ble_eq_true rfl, Nat.le_of_ble_eq_true rfl⟩ (x_recv (ci := 12) hkb hH 0 rfl rfl) rfl rfl hl.1 (Nat.le_of_ble_eq_true rfl) dX12_readUsed_60 ⟨Nat.le_of_ble_eq_true rfl, Nat.le_of_ble_eq_true rfl⟩) (fun u H locs hz9 hH hS => ?_)
        obtain ⟨n60_0_11, n60_0_12, rfl, x_v600⟩ := hz9
        have hH : HT D cs A T (a0 :: y4 :: O) ((a0, .inr (12, o0 :: o1 :: o2 :: (.ref y3) :: (.ref y4) :: o5 :: (.int n1_0_6) :: (.int n1_0_7) :: (.int y8) :: (.int n1_0_9) :: (.int n1_0_10) :: (.int n60_0_11) :: (.int n60_0_12) :: tl)) :: (y4, .inl (cs.2.1, 1302, .inl f4)) :: X) H := hH
        refine W.widen (k := 0) (n := 0) (Nat.le_of_ble_eq_true rfl) (Nat.le_of_ble_eq_true rfl) ?_
        exact J63 n60_0_11 n60_0_12 _ _ _  hH hS (lv_sub hl [0] rfl)
set_option maxHeartbeats 4000000 in
set_option maxRecDepth 100000 in
theorem s_M_breaksOfF (l : Launch) (D : va_G) (cs : CS) (kf : KF) (T : TF) (O : List Nat) (X : va_W) (x1 : Int32) (o0 : Value) (o1 : Value) (o2 : Value) (y3 : Nat) (y4 : Nat) (o5 : Value) (y6 : Int32) (y7 : Int32) (y8 : Int32) (y9 : Int32) (y10 : Int32) (y11 : Int32) (y12 : Int32) (tl : List Value) (f4 : Nat → Int32) (mm hg mq : Nat) (l_x1 : 0 ≤ x1.toInt) (u_x1 : x1.toInt ≤ 13) (t_y3 : T y3 = some (1, 900, 0)) (t_y4 : T y4 = some (8, 1302, 0)) (l_y6 : 0 ≤ y6.toInt) (u_y6 : y6.toInt ≤ 900) (l_y7 : 0 ≤ y7.toInt) (u_y7 : y7.toInt ≤ 900) (l_y8 : 0 ≤ y8.toInt) (u_y8 : y8.toInt ≤ 900) (l_y10 : 0 ≤ y10.toInt) (u_y10 : y10.toInt ≤ 999) (s_f4 : S8 f4) (t_mm : T mm = some (22, hg, mq)) (b_hg : hg < 90) (hO : okO T (mm :: y4 :: O) []) : TK l D cs kf yX12_breaksOf cX12_breaksOf 2 none { frames := 0, cells := 0, slots := 0, locals := 0 } [.ref y4, .int x1] T (mm :: y4 :: O) ((mm, .inr (12, o0 :: o1 :: o2 :: (.ref y3) :: (.ref y4) :: o5 :: (.int y6) :: (.int y7) :: (.int y8) :: (.int y9) :: (.int y10) :: (.int y11) :: (.int y12) :: tl)) :: (y4, .inl (cs.2.1, 1302, .inl f4)) :: X) (Tv D cs (fun u => ∃ (G1 : Nat → Int32), u = (T, mm :: y4 :: O, (mm, .inr (12, o0 :: o1 :: o2 :: (.ref y3) :: (.ref y4) :: o5 :: (.int y6) :: (.int y7) :: (.int y8) :: (.int y9) :: (.int y10) :: (.int y11) :: (.int y12) :: tl)) :: (y4, .inl (cs.2.1, 1302, .inl G1)) :: X) ∧ (S8 G1))) := by
  refine tk_of (by decide) (Nat.le_of_ble_eq_true rfl) (fun p e s m below meth c ls A H locs hx hb hr hml hown hts hlocks hnm hkb hH hS hA hOX hks hE hl => ?_)
  have hown : s.vm.findClass RX12 = some m.cls := hown
  have hl : lv_has ls 2 [(0, .ref y4), (1, .int x1)] := hl
  have hOXf := hOX
  refine lv_aload_n hx hb dX12_breaksOf_0 rfl (lv_at hl 0 rfl) ?_
  refine lv_bipush (v := 87) hx hb dX12_breaksOf_1 (by decide) ?_
  refine lv_dup2_11 hx hb dX12_breaksOf_3 rfl rfl ?_
  refine xa_ild hx hb hkb hH 1 rfl (by decide) (by decide) dX12_breaksOf_4 ?_
  refine lv_topi (fun v4 ev4 => ?_)
  have tv4 : v4 = f4 87 := by rw [ev4]; rfl
  refine lv_iconst (v := 1) hx hb dX12_breaksOf_5 (by decide) ?_
  refine lv_iload_n hx hb dX12_breaksOf_6 rfl (lv_at hl 1 rfl) ?_
  refine lv_ishl hx hb dX12_breaksOf_7 ?_
  refine lv_topi (fun v7 ev7 => ?_)
  have tv7 : 1 ≤ v7.toInt ∧ v7.toInt ≤ 8192 := by rw [ev7]; exact shl_b 13 (by decide) (by omega) (by omega)
  refine lv_ior hx hb dX12_breaksOf_8 ?_
  refine lv_topi (fun v8 ev8 => ?_)
  refine xa_ist hx hb hkb hH hS 1 rfl (by decide) (by decide) dX12_breaksOf_9 (fun H locs hH hS => ?_)
  have hH : HT D cs A T (mm :: y4 :: O) ((mm, .inr (12, o0 :: o1 :: o2 :: (.ref y3) :: (.ref y4) :: o5 :: (.int y6) :: (.int y7) :: (.int y8) :: (.int y9) :: (.int y10) :: (.int y11) :: (.int y12) :: tl)) :: (y4, .inl (cs.2.1, 1302, .inl (upd f4 (87) v8))) :: X) H := hH
  obtain ⟨F9, eF9⟩ : ∃ f9, f9 = upd f4 (87) v8 := ⟨_, rfl⟩
  have hH : HT D cs A T (mm :: y4 :: O) ((mm, .inr (12, o0 :: o1 :: o2 :: (.ref y3) :: (.ref y4) :: o5 :: (.int y6) :: (.int y7) :: (.int y8) :: (.int y9) :: (.int y10) :: (.int y11) :: (.int y12) :: tl)) :: (y4, .inl (cs.2.1, 1302, .inl F9)) :: X) H := eF9 ▸ hH
  have s_F9 : S8 F9 := eF9 ▸ S8_put (i := 87) (x := v8) s_f4 (by decide) (by decide) (p8_far (by decide) (by decide))
  refine lv_aload_n hx hb dX12_breaksOf_10 rfl (lv_at hl 0 rfl) ?_
  refine lv_bipush (v := 59) hx hb dX12_breaksOf_11 (by decide) ?_
  refine lv_iload_n hx hb dX12_breaksOf_13 rfl (lv_at hl 1 rfl) ?_
  refine lv_iadd hx hb dX12_breaksOf_14 ?_
  refine lv_topi (fun v14 ev14 => ?_)
  have tv14 : v14.toInt = (59) + x1.toInt := by rw [ev14]; exact add_i (by decide : (59 : Int32).toInt = 59) rfl (by omega) (by omega)
  refine lv_iconst (v := (-1)) hx hb dX12_breaksOf_15 (by decide) ?_
  refine xa_ist hx hb hkb hH hS 1 rfl (by omega) (by omega) dX12_breaksOf_16 (fun H locs hH hS => ?_)
  have hH : HT D cs A T (mm :: y4 :: O) ((mm, .inr (12, o0 :: o1 :: o2 :: (.ref y3) :: (.ref y4) :: o5 :: (.int y6) :: (.int y7) :: (.int y8) :: (.int y9) :: (.int y10) :: (.int y11) :: (.int y12) :: tl)) :: (y4, .inl (cs.2.1, 1302, .inl (upd F9 (v14.toInt.toNat) ((-1) : Int32)))) :: X) H := hH
  obtain ⟨F16, eF16⟩ : ∃ f9, f9 = upd F9 (v14.toInt.toNat) ((-1) : Int32) := ⟨_, rfl⟩
  have hH : HT D cs A T (mm :: y4 :: O) ((mm, .inr (12, o0 :: o1 :: o2 :: (.ref y3) :: (.ref y4) :: o5 :: (.int y6) :: (.int y7) :: (.int y8) :: (.int y9) :: (.int y10) :: (.int y11) :: (.int y12) :: tl)) :: (y4, .inl (cs.2.1, 1302, .inl F16)) :: X) H := eF16 ▸ hH
  have s_F16 : S8 F16 := eF16 ▸ S8_put (i := v14) (x := ((-1) : Int32)) s_F9 (by omega) (by omega) (p8_far (by omega) (⟨by omega, by omega⟩))
  refine lv_aload_n hx hb dX12_breaksOf_17 rfl (lv_at hl 0 rfl) ?_
  refine lv_bipush (v := 73) hx hb dX12_breaksOf_18 (by decide) ?_
  refine lv_iload_n hx hb dX12_breaksOf_20 rfl (lv_at hl 1 rfl) ?_
  refine lv_iadd hx hb dX12_breaksOf_21 ?_
  refine lv_topi (fun v21 ev21 => ?_)
  have tv21 : v21.toInt = (73) + x1.toInt := by rw [ev21]; exact add_i (by decide : (73 : Int32).toInt = 73) rfl (by omega) (by omega)
  refine lv_iconst (v := (-1)) hx hb dX12_breaksOf_22 (by decide) ?_
  refine xa_ist hx hb hkb hH hS 1 rfl (by omega) (by omega) dX12_breaksOf_23 (fun H locs hH hS => ?_)
  have hH : HT D cs A T (mm :: y4 :: O) ((mm, .inr (12, o0 :: o1 :: o2 :: (.ref y3) :: (.ref y4) :: o5 :: (.int y6) :: (.int y7) :: (.int y8) :: (.int y9) :: (.int y10) :: (.int y11) :: (.int y12) :: tl)) :: (y4, .inl (cs.2.1, 1302, .inl (upd F16 (v21.toInt.toNat) ((-1) : Int32)))) :: X) H := hH
  obtain ⟨F23, eF23⟩ : ∃ f9, f9 = upd F16 (v21.toInt.toNat) ((-1) : Int32) := ⟨_, rfl⟩
  have hH : HT D cs A T (mm :: y4 :: O) ((mm, .inr (12, o0 :: o1 :: o2 :: (.ref y3) :: (.ref y4) :: o5 :: (.int y6) :: (.int y7) :: (.int y8) :: (.int y9) :: (.int y10) :: (.int y11) :: (.int y12) :: tl)) :: (y4, .inl (cs.2.1, 1302, .inl F23)) :: X) H := eF23 ▸ hH
  have s_F23 : S8 F23 := eF23 ▸ S8_put (i := v21) (x := ((-1) : Int32)) s_F16 (by omega) (by omega) (p8_far (by omega) (⟨by omega, by omega⟩))
  exact te_v hx hb hr hlocks hH hS (⟨F23, rfl, s_F23⟩) dX12_breaksOf_24
set_option maxHeartbeats 4000000 in
set_option maxRecDepth 100000 in
theorem s_M_breaksOf (l : Launch) (D : va_G) (cs : CS) (kf : KF) (T : TF) (O : List Nat) (X : va_W) (a0 hg : Nat) (x1 : Int32) (t_a0 : T a0 = some (8, 3906, hg)) (l_x1 : 0 ≤ x1.toInt) (u_x1 : x1.toInt ≤ 13) (hO : okO T O [8]) : TK l D cs kf yX12_breaksOf cX12_breaksOf 2 none { frames := 0, cells := 0, slots := 0, locals := 0 } [.ref a0, .int x1] T O X (Tv D cs (fun u => u = (T, O, X))) := by
  refine tk_of (by decide) (Nat.le_of_ble_eq_true rfl) (fun p e s m below meth c ls A H locs hx hb hr hml hown hts hlocks hnm hkb hH hS hA hOX hks hE hl => ?_)
  have hown : s.vm.findClass RX12 = some m.cls := hown
  have hl : lv_has ls 2 [(0, .ref a0), (1, .int x1)] := hl
  refine lv_aload_n hx hb dX12_breaksOf_0 rfl (lv_at hl 0 rfl) ?_
  refine lv_bipush (v := 87) hx hb dX12_breaksOf_1 (by decide) ?_
  refine lv_dup2_11 hx hb dX12_breaksOf_3 rfl rfl ?_
  refine t_ild8 hx hb hkb hH t_a0 (hO.no t_a0 (by decide)) (by decide) (by decide) (by decide) dX12_breaksOf_4 (fun v4 h9 h8 => ?_)
  refine lv_iconst (v := 1) hx hb dX12_breaksOf_5 (by decide) ?_
  refine lv_iload_n hx hb dX12_breaksOf_6 rfl (lv_at hl 1 rfl) ?_
  refine lv_ishl hx hb dX12_breaksOf_7 ?_
  refine lv_topi (fun v7 ev7 => ?_)
  have tv7 : 1 ≤ v7.toInt ∧ v7.toInt ≤ 8192 := by rw [ev7]; exact shl_b 13 (by decide) (by omega) (by omega)
  refine lv_ior hx hb dX12_breaksOf_8 ?_
  refine lv_topi (fun v8 ev8 => ?_)
  refine t_ist8 hx hb hkb hH hS t_a0 (hO.no t_a0 (by decide)) (by decide) (by decide) (by decide) (by decide) (by decide) (p8_far (by decide) (by decide)) dX12_breaksOf_9 (fun H locs hH hS => ?_)
  refine lv_aload_n hx hb dX12_breaksOf_10 rfl (lv_at hl 0 rfl) ?_
  refine lv_bipush (v := 59) hx hb dX12_breaksOf_11 (by decide) ?_
  refine lv_iload_n hx hb dX12_breaksOf_13 rfl (lv_at hl 1 rfl) ?_
  refine lv_iadd hx hb dX12_breaksOf_14 ?_
  refine lv_topi (fun v14 ev14 => ?_)
  have tv14 : v14.toInt = (59) + x1.toInt := by rw [ev14]; exact add_i (by decide : (59 : Int32).toInt = 59) rfl (by omega) (by omega)
  refine lv_iconst (v := (-1)) hx hb dX12_breaksOf_15 (by decide) ?_
  refine t_ist8 hx hb hkb hH hS t_a0 (hO.no t_a0 (by decide)) (by decide) (by omega) (by omega) (by omega) (by omega) (p8_far (by omega) (by omega)) dX12_breaksOf_16 (fun H locs hH hS => ?_)
  refine lv_aload_n hx hb dX12_breaksOf_17 rfl (lv_at hl 0 rfl) ?_
  refine lv_bipush (v := 73) hx hb dX12_breaksOf_18 (by decide) ?_
  refine lv_iload_n hx hb dX12_breaksOf_20 rfl (lv_at hl 1 rfl) ?_
  refine lv_iadd hx hb dX12_breaksOf_21 ?_
  refine lv_topi (fun v21 ev21 => ?_)
  have tv21 : v21.toInt = (73) + x1.toInt := by rw [ev21]; exact add_i (by decide : (73 : Int32).toInt = 73) rfl (by omega) (by omega)
  refine lv_iconst (v := (-1)) hx hb dX12_breaksOf_22 (by decide) ?_
  refine t_ist8 hx hb hkb hH hS t_a0 (hO.no t_a0 (by decide)) (by decide) (by omega) (by omega) (by omega) (by omega) (p8_far (by omega) (by omega)) dX12_breaksOf_23 (fun H locs hH hS => ?_)
  exact te_v hx hb hr hlocks hH hS rfl dX12_breaksOf_24
set_option maxHeartbeats 4000000 in
set_option maxRecDepth 100000 in
theorem s_M_readLine (l : Launch) (D : va_G) (cs : CS) (kf : KF) (T : TF) (O : List Nat) (X : va_W) (a0 hg mq : Nat) (o0 : Value) (o1 : Value) (o2 : Value) (y3 : Nat) (y4 : Nat) (o5 : Value) (y6 : Int32) (y7 : Int32) (y8 : Int32) (y9 : Int32) (y10 : Int32) (y11 : Int32) (y12 : Int32) (tl : List Value) (f4 : Nat → Int32) (t_a0 : T a0 = some (22, hg, mq)) (b_hg : hg < 90) (t_y3 : T y3 = some (1, 900, 0)) (t_y4 : T y4 = some (8, 1302, 0)) (l_y6 : 0 ≤ y6.toInt) (u_y6 : y6.toInt ≤ 900) (l_y7 : 0 ≤ y7.toInt) (u_y7 : y7.toInt ≤ 900) (l_y8 : 0 ≤ y8.toInt) (u_y8 : y8.toInt ≤ 900) (l_y10 : 0 ≤ y10.toInt) (u_y10 : y10.toInt ≤ 999) (s_f4 : S8 f4) (k1 : y6.toInt ≤ y7.toInt) (k2 : y7.toInt ≤ y8.toInt) (k3 : TK3 y9 y6 y7) (k5 : y11.toInt = 0) (k6 : y9.toInt ≠ 22) (hO : okO T (a0 :: y4 :: O) [1]) : TK l D cs kf yX12_readLine cX12_readLine 2 none { frames := 32, cells := 0, slots := 0, locals := 682 } [.ref a0] T (a0 :: y4 :: O) ((a0, .inr (12, o0 :: o1 :: o2 :: (.ref y3) :: (.ref y4) :: o5 :: (.int y6) :: (.int y7) :: (.int y8) :: (.int y9) :: (.int y10) :: (.int y11) :: (.int y12) :: tl)) :: (y4, .inl (cs.2.1, 1302, .inl f4)) :: X) (Tv D cs (fun u => ∃ (n0_6 : Int32) (n0_7 : Int32) (n0_9 : Int32) (n0_10 : Int32) (n0_11 : Int32) (n0_12 : Int32) (G1 : Nat → Int32), u = (T, a0 :: y4 :: O, (a0, .inr (12, o0 :: o1 :: o2 :: (.ref y3) :: (.ref y4) :: o5 :: (.int n0_6) :: (.int n0_7) :: (.int y8) :: (.int n0_9) :: (.int n0_10) :: (.int n0_11) :: (.int n0_12) :: tl)) :: (y4, .inl (cs.2.1, 1302, .inl G1)) :: X) ∧ (S8 G1) ∧ (y6.toInt ≤ n0_6.toInt) ∧ (n0_6.toInt ≤ n0_7.toInt) ∧ (n0_7.toInt ≤ y8.toInt) ∧ (TK3 n0_9 n0_6 n0_7) ∧ (0 ≤ n0_10.toInt) ∧ (n0_10.toInt ≤ 999))) := by
  refine tk_of (by decide) (Nat.le_of_ble_eq_true rfl) (fun p e s m below meth c ls A H locs hx hb hr hml hown hts hlocks hnm hkb hH hS hA hOX hks hE hl => ?_)
  have hown : s.vm.findClass RX12 = some m.cls := hown
  have hl : lv_has ls 2 [(0, .ref a0)] := hl
  have hOXf := hOX
  refine lv_aload_n hx hb dX12_readLine_0 rfl (lv_at hl 0 rfl) ?_
  refine lv_iconst (v := 0) hx hb dX12_readLine_1 (by decide) ?_
  have z9_0 : (0 : Int32).toInt = 0 := by decide
  refine tk_i hH hS hA (tr_V (n := 1) (As := [.int 0]) hx hb hml hown hts hkb hH (ox_map hOX rfl) hks hE hS hA (s_M_is l D cs kf T (y4 :: O) ((y4, .inl (cs.2.1, 1302, .inl f4)) :: X) a0 hg mq (0) o0 o1 o2 y3 y4 o5 y6 y7 y8 y9 y10 y11 y12 tl t_a0 b_hg t_y3 t_y4 (by omega) (by omega) (by omega) (by omega) (by omega) (by omega) (by omega) (by omega) (hO.sub (by decide))) kw_1370 kw_1372 ks_47 kw_13 kw_1373 (by decide +kernel) ⟨Nat.le_of_ble_eq_true rfl, Nat.le_of_ble_eq_true rfl⟩ (x_recv (ci := 12) hkb hH 0 rfl rfl) rfl rfl hl.1 (Nat.le_of_ble_eq_true rfl) dX12_readLine_2 ⟨Nat.le_of_ble_eq_true rfl, Nat.le_of_ble_eq_true rfl⟩) (fun v2 u H locs hz9 hH hS => ?_)
  obtain ⟨rfl, l_v2, u_v2, x_v20⟩ := hz9
  have hH : HT D cs A T (a0 :: y4 :: O) ((a0, .inr (12, o0 :: o1 :: o2 :: (.ref y3) :: (.ref y4) :: o5 :: (.int y6) :: (.int y7) :: (.int y8) :: (.int y9) :: (.int y10) :: (.int y11) :: (.int y12) :: tl)) :: (y4, .inl (cs.2.1, 1302, .inl f4)) :: X) H := hH
  refine W.widen (k := 0) (n := 0) (Nat.le_of_ble_eq_true rfl) (Nat.le_of_ble_eq_true rfl) ?_
  refine lv_if_eq (tgt := 15) hx hb dX12_readLine_5 (by decide) (fun c5 => ?_) (fun c5 => ?_)
  · skip
    have tc5 := f_eq (k := 0) (by decide) c5
    clear x_v20
    refine lv_aload_n hx hb dX12_readLine_15 rfl (lv_at hl 0 rfl) ?_
    refine lv_iconst (v := 1) hx hb dX12_readLine_16 (by decide) ?_
    have z9_1 : (1 : Int32).toInt = 1 := by decide
    refine tk_i hH hS hA (tr_V (n := 1) (As := [.int 1]) hx hb hml hown hts hkb hH (ox_map hOX rfl) hks hE hS hA (s_M_is l D cs kf T (y4 :: O) ((y4, .inl (cs.2.1, 1302, .inl f4)) :: X) a0 hg mq (1) o0 o1 o2 y3 y4 o5 y6 y7 y8 y9 y10 y11 y12 tl t_a0 b_hg t_y3 t_y4 (by omega) (by omega) (by omega) (by omega) (by omega) (by omega) (by omega) (by omega) (hO.sub (by decide))) kw_1370 kw_1372 ks_47 kw_13 kw_1373 (by decide +kernel) ⟨Nat.le_of_ble_eq_true rfl, Nat.le_of_ble_eq_true rfl⟩ (x_recv (ci := 12) hkb hH 0 rfl rfl) rfl rfl hl.1 (Nat.le_of_ble_eq_true rfl) dX12_readLine_17 ⟨Nat.le_of_ble_eq_true rfl, Nat.le_of_ble_eq_true rfl⟩) (fun v17 u H locs hz9 hH hS => ?_)
    obtain ⟨rfl, l_v17, u_v17, x_v170⟩ := hz9
    have hH : HT D cs A T (a0 :: y4 :: O) ((a0, .inr (12, o0 :: o1 :: o2 :: (.ref y3) :: (.ref y4) :: o5 :: (.int y6) :: (.int y7) :: (.int y8) :: (.int y9) :: (.int y10) :: (.int y11) :: (.int y12) :: tl)) :: (y4, .inl (cs.2.1, 1302, .inl f4)) :: X) H := hH
    refine W.widen (k := 0) (n := 0) (Nat.le_of_ble_eq_true rfl) (Nat.le_of_ble_eq_true rfl) ?_
    refine lv_if_eq (tgt := 30) hx hb dX12_readLine_20 (by decide) (fun c20 => ?_) (fun c20 => ?_)
    · skip
      have tc20 := f_eq (k := 0) (by decide) c20
      clear x_v170
      refine lv_aload_n hx hb dX12_readLine_30 rfl (lv_at hl 0 rfl) ?_
      refine lv_iconst (v := 4) hx hb dX12_readLine_31 (by decide) ?_
      have z9_4 : (4 : Int32).toInt = 4 := by decide
      refine tk_i hH hS hA (tr_V (n := 1) (As := [.int 4]) hx hb hml hown hts hkb hH (ox_map hOX rfl) hks hE hS hA (s_M_is l D cs kf T (y4 :: O) ((y4, .inl (cs.2.1, 1302, .inl f4)) :: X) a0 hg mq (4) o0 o1 o2 y3 y4 o5 y6 y7 y8 y9 y10 y11 y12 tl t_a0 b_hg t_y3 t_y4 (by omega) (by omega) (by omega) (by omega) (by omega) (by omega) (by omega) (by omega) (hO.sub (by decide))) kw_1370 kw_1372 ks_47 kw_13 kw_1373 (by decide +kernel) ⟨Nat.le_of_ble_eq_true rfl, Nat.le_of_ble_eq_true rfl⟩ (x_recv (ci := 12) hkb hH 0 rfl rfl) rfl rfl hl.1 (Nat.le_of_ble_eq_true rfl) dX12_readLine_32 ⟨Nat.le_of_ble_eq_true rfl, Nat.le_of_ble_eq_true rfl⟩) (fun v32 u H locs hz9 hH hS => ?_)
      obtain ⟨rfl, l_v32, u_v32, x_v320⟩ := hz9
      have hH : HT D cs A T (a0 :: y4 :: O) ((a0, .inr (12, o0 :: o1 :: o2 :: (.ref y3) :: (.ref y4) :: o5 :: (.int y6) :: (.int y7) :: (.int y8) :: (.int y9) :: (.int y10) :: (.int y11) :: (.int y12) :: tl)) :: (y4, .inl (cs.2.1, 1302, .inl f4)) :: X) H := hH
      refine W.widen (k := 0) (n := 0) (Nat.le_of_ble_eq_true rfl) (Nat.le_of_ble_eq_true rfl) ?_
      refine lv_if_eq (tgt := 45) hx hb dX12_readLine_35 (by decide) (fun c35 => ?_) (fun c35 => ?_)
      · skip
        have tc35 := f_eq (k := 0) (by decide) c35
        clear x_v320
        refine lv_aload_n hx hb dX12_readLine_45 rfl (lv_at hl 0 rfl) ?_
        refine lv_iconst (v := 5) hx hb dX12_readLine_46 (by decide) ?_
        have z9_5 : (5 : Int32).toInt = 5 := by decide
        refine tk_i hH hS hA (tr_V (n := 1) (As := [.int 5]) hx hb hml hown hts hkb hH (ox_map hOX rfl) hks hE hS hA (s_M_is l D cs kf T (y4 :: O) ((y4, .inl (cs.2.1, 1302, .inl f4)) :: X) a0 hg mq (5) o0 o1 o2 y3 y4 o5 y6 y7 y8 y9 y10 y11 y12 tl t_a0 b_hg t_y3 t_y4 (by omega) (by omega) (by omega) (by omega) (by omega) (by omega) (by omega) (by omega) (hO.sub (by decide))) kw_1370 kw_1372 ks_47 kw_13 kw_1373 (by decide +kernel) ⟨Nat.le_of_ble_eq_true rfl, Nat.le_of_ble_eq_true rfl⟩ (x_recv (ci := 12) hkb hH 0 rfl rfl) rfl rfl hl.1 (Nat.le_of_ble_eq_true rfl) dX12_readLine_47 ⟨Nat.le_of_ble_eq_true rfl, Nat.le_of_ble_eq_true rfl⟩) (fun v47 u H locs hz9 hH hS => ?_)
        obtain ⟨rfl, l_v47, u_v47, x_v470⟩ := hz9
        have hH : HT D cs A T (a0 :: y4 :: O) ((a0, .inr (12, o0 :: o1 :: o2 :: (.ref y3) :: (.ref y4) :: o5 :: (.int y6) :: (.int y7) :: (.int y8) :: (.int y9) :: (.int y10) :: (.int y11) :: (.int y12) :: tl)) :: (y4, .inl (cs.2.1, 1302, .inl f4)) :: X) H := hH
        refine W.widen (k := 0) (n := 0) (Nat.le_of_ble_eq_true rfl) (Nat.le_of_ble_eq_true rfl) ?_
        refine lv_if_eq (tgt := 60) hx hb dX12_readLine_50 (by decide) (fun c50 => ?_) (fun c50 => ?_)
        · skip
          have tc50 := f_eq (k := 0) (by decide) c50
          clear x_v470
          refine lv_aload_n hx hb dX12_readLine_60 rfl (lv_at hl 0 rfl) ?_
          refine lv_bipush (v := 7) hx hb dX12_readLine_61 (by decide) ?_
          have z9_7 : (7 : Int32).toInt = 7 := by decide
          refine tk_i hH hS hA (tr_V (n := 1) (As := [.int 7]) hx hb hml hown hts hkb hH (ox_map hOX rfl) hks hE hS hA (s_M_eats l D cs kf T (y4 :: O) ((y4, .inl (cs.2.1, 1302, .inl f4)) :: X) a0 hg mq (7) o0 o1 o2 y3 y4 o5 y6 y7 y8 y9 y10 y11 y12 tl t_a0 b_hg t_y3 t_y4 (by omega) (by omega) (by omega) (by omega) (by omega) (by omega) (by omega) (by omega) (by omega) (by omega) k3 (by omega) (hO.sub (by decide))) kw_1390 kw_1392 ks_52 kw_13 kw_1393 (by decide +kernel) ⟨Nat.le_of_ble_eq_true rfl, Nat.le_of_ble_eq_true rfl⟩ (x_recv (ci := 12) hkb hH 0 rfl rfl) rfl rfl hl.1 (Nat.le_of_ble_eq_true rfl) dX12_readLine_63 ⟨Nat.le_of_ble_eq_true rfl, Nat.le_of_ble_eq_true rfl⟩) (fun v63 u H locs hz9 hH hS => ?_)
          obtain ⟨n63_0_6, n63_0_7, n63_0_9, n63_0_10, rfl, l_v63, u_v63, x_v630, x_v631, x_v632, x_v633, x_v634, x_v635, x_v636⟩ := hz9
          have hH : HT D cs A T (a0 :: y4 :: O) ((a0, .inr (12, o0 :: o1 :: o2 :: (.ref y3) :: (.ref y4) :: o5 :: (.int n63_0_6) :: (.int n63_0_7) :: (.int y8) :: (.int n63_0_9) :: (.int n63_0_10) :: (.int y11) :: (.int y12) :: tl)) :: (y4, .inl (cs.2.1, 1302, .inl f4)) :: X) H := hH
          refine W.widen (k := 0) (n := 0) (Nat.le_of_ble_eq_true rfl) (Nat.le_of_ble_eq_true rfl) ?_
          refine lv_if_eq (tgt := 101) hx hb dX12_readLine_66 (by decide) (fun c66 => ?_) (fun c66 => ?_)
          · skip
            have tc66 := f_eq (k := 0) (by decide) c66
            clear x_v636
            refine lv_aload_n hx hb dX12_readLine_101 rfl (lv_at hl 0 rfl) ?_
            refine lv_bipush (v := 8) hx hb dX12_readLine_102 (by decide) ?_
            have z9_8 : (8 : Int32).toInt = 8 := by decide
            refine tk_i hH hS hA (tr_V (n := 1) (As := [.int 8]) hx hb hml hown hts hkb hH (ox_map hOX rfl) hks hE hS hA (s_M_eats l D cs kf T (y4 :: O) ((y4, .inl (cs.2.1, 1302, .inl f4)) :: X) a0 hg mq (8) o0 o1 o2 y3 y4 o5 n63_0_6 n63_0_7 y8 n63_0_9 n63_0_10 y11 y12 tl t_a0 b_hg t_y3 t_y4 (by omega) (by omega) (by omega) (by omega) (by omega) (by omega) (by omega) (by omega) (by omega) (by omega) x_v633 (by omega) (hO.sub (by decide))) kw_1390 kw_1392 ks_52 kw_13 kw_1393 (by decide +kernel) ⟨Nat.le_of_ble_eq_true rfl, Nat.le_of_ble_eq_true rfl⟩ (x_recv (ci := 12) hkb hH 0 rfl rfl) rfl rfl hl.1 (Nat.le_of_ble_eq_true rfl) dX12_readLine_104 ⟨Nat.le_of_ble_eq_true rfl, Nat.le_of_ble_eq_true rfl⟩) (fun v104 u H locs hz9 hH hS => ?_)
            obtain ⟨n104_0_6, n104_0_7, n104_0_9, n104_0_10, rfl, l_v104, u_v104, x_v1040, x_v1041, x_v1042, x_v1043, x_v1044, x_v1045, x_v1046⟩ := hz9
            have hH : HT D cs A T (a0 :: y4 :: O) ((a0, .inr (12, o0 :: o1 :: o2 :: (.ref y3) :: (.ref y4) :: o5 :: (.int n104_0_6) :: (.int n104_0_7) :: (.int y8) :: (.int n104_0_9) :: (.int n104_0_10) :: (.int y11) :: (.int y12) :: tl)) :: (y4, .inl (cs.2.1, 1302, .inl f4)) :: X) H := hH
            refine W.widen (k := 0) (n := 0) (Nat.le_of_ble_eq_true rfl) (Nat.le_of_ble_eq_true rfl) ?_
            refine lv_if_eq (tgt := 137) hx hb dX12_readLine_107 (by decide) (fun c107 => ?_) (fun c107 => ?_)
            · skip
              have tc107 := f_eq (k := 0) (by decide) c107
              clear x_v1046
              refine lv_aload_n hx hb dX12_readLine_137 rfl (lv_at hl 0 rfl) ?_
              refine lv_iconst (v := 2) hx hb dX12_readLine_138 (by decide) ?_
              have z9_2 : (2 : Int32).toInt = 2 := by decide
              refine tk_v hH hS hA (tr_V (n := 1) (As := [.int 2]) hx hb hml hown hts hkb hH (ox_map hOX rfl) hks hE hS hA (s_M_fails l D cs kf T (y4 :: O) ((y4, .inl (cs.2.1, 1302, .inl f4)) :: X) a0 hg mq (2) o0 o1 o2 y3 y4 o5 n104_0_6 n104_0_7 y8 n104_0_9 n104_0_10 y11 y12 tl t_a0 b_hg (by decide) (by decide) t_y3 t_y4 (by omega) (by omega) (by omega) (by omega) (by omega) (by omega) (by omega) (by omega) (hO.sub (by decide))) kw_1378 kw_1380 ks_49 kw_13 kw_1381 (by decide +kernel) ⟨Nat.le_of_ble_eq_true rfl, Nat.le_of_ble_eq_true rfl⟩ (x_recv (ci := 12) hkb hH 0 rfl rfl) rfl rfl hl.1 (Nat.le_of_ble_eq_true rfl) dX12_readLine_139 ⟨Nat.le_of_ble_eq_true rfl, Nat.le_of_ble_eq_true rfl⟩) (fun u H locs hz9 hH hS => ?_)
              obtain ⟨n139_0_11, n139_0_12, rfl, x_v1390⟩ := hz9
              have hH : HT D cs A T (a0 :: y4 :: O) ((a0, .inr (12, o0 :: o1 :: o2 :: (.ref y3) :: (.ref y4) :: o5 :: (.int n104_0_6) :: (.int n104_0_7) :: (.int y8) :: (.int n104_0_9) :: (.int n104_0_10) :: (.int n139_0_11) :: (.int n139_0_12) :: tl)) :: (y4, .inl (cs.2.1, 1302, .inl f4)) :: X) H := hH
              refine W.widen (k := 0) (n := 0) (Nat.le_of_ble_eq_true rfl) (Nat.le_of_ble_eq_true rfl) ?_
              exact te_v hx hb hr hlocks hH hS (⟨n104_0_6, n104_0_7, n104_0_9, n104_0_10, n139_0_11, n139_0_12, f4, rfl, s_f4, by omega, by omega, by omega, x_v1043, by omega, by omega⟩) dX12_readLine_142
            · skip
              have tc107 := f_ne (k := 0) (by decide) c107
              replace x_v1046 := x_v1046.resolve_left tc107
              refine lv_aload_n hx hb dX12_readLine_110 rfl (lv_at hl 0 rfl) ?_
              refine lv_iconst (v := 0) hx hb dX12_readLine_111 (by decide) ?_
              refine lv_sipush (v := 999) hx hb dX12_readLine_112 (by decide) ?_
              have z9_0 : (0 : Int32).toInt = 0 := by decide
              have z9_999 : (999 : Int32).toInt = 999 := by decide
              refine tk_i hH hS hA (tr_V (n := 2) (As := [.int 0, .int 999]) hx hb hml hown hts hkb hH (ox_map hOX rfl) hks hE hS hA (s_M_takes l D cs kf T (y4 :: O) ((y4, .inl (cs.2.1, 1302, .inl f4)) :: X) a0 hg mq (0) (999) o0 o1 o2 y3 y4 o5 n104_0_6 n104_0_7 y8 n104_0_9 n104_0_10 y11 y12 tl t_a0 b_hg t_y3 t_y4 (by omega) (by omega) (by omega) (by omega) (by omega) (by omega) (by omega) (by omega) (by omega) (by omega) x_v1043 (hO.sub (by decide))) kw_1382 kw_1384 ks_50 kw_13 kw_1385 (by decide +kernel) ⟨Nat.le_of_ble_eq_true rfl, Nat.le_of_ble_eq_true rfl⟩ (x_recv (ci := 12) hkb hH 0 rfl rfl) rfl rfl hl.1 (Nat.le_of_ble_eq_true rfl) dX12_readLine_115 ⟨Nat.le_of_ble_eq_true rfl, Nat.le_of_ble_eq_true rfl⟩) (fun v115 u H locs hz9 hH hS => ?_)
              obtain ⟨n115_0_6, n115_0_7, n115_0_9, n115_0_10, n115_0_11, n115_0_12, rfl, l_v115, u_v115, x_v1150, x_v1151, x_v1152, x_v1153, x_v1154, x_v1155, x_v1156⟩ := hz9
              have hH : HT D cs A T (a0 :: y4 :: O) ((a0, .inr (12, o0 :: o1 :: o2 :: (.ref y3) :: (.ref y4) :: o5 :: (.int n115_0_6) :: (.int n115_0_7) :: (.int y8) :: (.int n115_0_9) :: (.int n115_0_10) :: (.int n115_0_11) :: (.int n115_0_12) :: tl)) :: (y4, .inl (cs.2.1, 1302, .inl f4)) :: X) H := hH
              refine W.widen (k := 0) (n := 0) (Nat.le_of_ble_eq_true rfl) (Nat.le_of_ble_eq_true rfl) ?_
              refine lv_istore_n (lv' := [(1, .int v115), (0, .ref a0)]) hx hb dX12_readLine_118 rfl hl (by decide) rfl (fun ls hl => ?_)
              refine lv_aload_n hx hb dX12_readLine_119 rfl (lv_at hl 1 rfl) ?_
              refine x_getk (ci := 12) (C := RX12) (F := TX12) (N := 36) (v := .int n115_0_11) hx hb hts uX12 hown hkb hH 0 rfl rfl 11 (by decide) rfl kw_1234 (fun _ h9 => h9) dX12_readLine_120 ?_
              have J134 : ∀ (g134_1 : Nat → Int32) (H : Heap) (locs : List Loc) (ls : Array Slot), (S8 g134_1) → HT D cs A T (a0 :: y4 :: O) ((a0, .inr (12, o0 :: o1 :: o2 :: (.ref y3) :: (.ref y4) :: o5 :: (.int n115_0_6) :: (.int n115_0_7) :: (.int y8) :: (.int n115_0_9) :: (.int n115_0_10) :: (.int n115_0_11) :: (.int n115_0_12) :: tl)) :: (y4, .inl (cs.2.1, 1302, .inl g134_1)) :: X) H → va_S A s.heap H locs → lv_has ls 2 [] → W p l e { frames := 32, cells := 0, slots := 0, locals := 682 } s m [.ref a0].toArray below meth c H locs 0 0 (MQ below (Tv D cs (fun u => ∃ (n0_6 : Int32) (n0_7 : Int32) (n0_9 : Int32) (n0_10 : Int32) (n0_11 : Int32) (n0_12 : Int32) (G1 : Nat → Int32), u = (T, a0 :: y4 :: O, (a0, .inr (12, o0 :: o1 :: o2 :: (.ref y3) :: (.ref y4) :: o5 :: (.int n0_6) :: (.int n0_7) :: (.int y8) :: (.int n0_9) :: (.int n0_10) :: (.int n0_11) :: (.int n0_12) :: tl)) :: (y4, .inl (cs.2.1, 1302, .inl G1)) :: X) ∧ (S8 G1) ∧ (y6.toInt ≤ n0_6.toInt) ∧ (n0_6.toInt ≤ n0_7.toInt) ∧ (n0_7.toInt ≤ y8.toInt) ∧ (TK3 n0_9 n0_6 n0_7) ∧ (0 ≤ n0_10.toInt) ∧ (n0_10.toInt ≤ 999)) A) [.ref a0].toArray s 0 0 A) (F0 m 134 ls []) := by
                intro g134_1 H locs ls s_g134_1 hH hS hl
                refine lv_goto (tgt := 142) hx hb dX12_readLine_134 (by decide) ?_
                exact te_v hx hb hr hlocks hH hS (⟨n115_0_6, n115_0_7, n115_0_9, n115_0_10, n115_0_11, n115_0_12, g134_1, rfl, s_g134_1, by omega, by omega, by omega, x_v1153, by omega, by omega⟩) dX12_readLine_142
              refine lv_if_ne (tgt := 134) hx hb dX12_readLine_123 (by decide) (fun c123 => ?_) (fun c123 => ?_)
              · skip
                have tc123 := f_ne (k := 0) (by decide) c123
                exact J134 f4 _ _ _ s_f4 hH hS (lv_sub hl [] rfl)
              · skip
                have tc123 := f_eq (k := 0) (by decide) c123
                refine lv_aload_n hx hb dX12_readLine_126 rfl (lv_at hl 1 rfl) ?_
                refine x_getk (ci := 12) (C := RX12) (F := TX12) (N := 36) (v := .ref y4) hx hb hts uX12 hown hkb hH 0 rfl rfl 4 (by decide) rfl kw_1227 (fun _ h9 => h9) dX12_readLine_127 ?_
                refine lv_bipush (v := 88) hx hb dX12_readLine_130 (by decide) ?_
                refine lv_iload_n hx hb dX12_readLine_132 rfl (lv_at hl 0 rfl) ?_
                refine xa_ist hx hb hkb hH hS 1 rfl (by decide) (by decide) dX12_readLine_133 (fun H locs hH hS => ?_)
                have hH : HT D cs A T (a0 :: y4 :: O) ((a0, .inr (12, o0 :: o1 :: o2 :: (.ref y3) :: (.ref y4) :: o5 :: (.int n115_0_6) :: (.int n115_0_7) :: (.int y8) :: (.int n115_0_9) :: (.int n115_0_10) :: (.int n115_0_11) :: (.int n115_0_12) :: tl)) :: (y4, .inl (cs.2.1, 1302, .inl (upd f4 (88) v115))) :: X) H := hH
                obtain ⟨F133, eF133⟩ : ∃ f9, f9 = upd f4 (88) v115 := ⟨_, rfl⟩
                have hH : HT D cs A T (a0 :: y4 :: O) ((a0, .inr (12, o0 :: o1 :: o2 :: (.ref y3) :: (.ref y4) :: o5 :: (.int n115_0_6) :: (.int n115_0_7) :: (.int y8) :: (.int n115_0_9) :: (.int n115_0_10) :: (.int n115_0_11) :: (.int n115_0_12) :: tl)) :: (y4, .inl (cs.2.1, 1302, .inl F133)) :: X) H := eF133 ▸ hH
                have s_F133 : S8 F133 := eF133 ▸ S8_put (i := 88) (x := v115) s_f4 (by decide) (by decide) (p8_far (by decide) (by decide))
                exact J134 F133 _ _ _ s_F133 hH hS (lv_sub hl [] rfl)
          · skip
            have tc66 := f_ne (k := 0) (by decide) c66
            replace x_v636 := x_v636.resolve_left tc66
            refine lv_aload_n hx hb dX12_readLine_69 rfl (lv_at hl 0 rfl) ?_
            refine lv_iconst (v := 0) hx hb dX12_readLine_70 (by decide) ?_
            refine lv_aload_n hx hb dX12_readLine_71 rfl (lv_at hl 0 rfl) ?_
            refine x_getk (ci := 12) (C := RX12) (F := TX12) (N := 36) (v := .ref y4) hx hb hts uX12 hown hkb hH 0 rfl rfl 4 (by decide) rfl kw_1227 (fun _ h9 => h9) dX12_readLine_72 ?_
            refine lv_iconst (v := 1) hx hb dX12_readLine_75 (by decide) ?_
            refine xa_ild hx hb hkb hH 1 rfl (by decide) (by decide) dX12_readLine_76 ?_
            refine lv_topi (fun v76 ev76 => ?_)
            have tv76 : v76 = f4 1 := by rw [ev76]; rfl
            have bv76 : 0 ≤ v76.toInt ∧ v76.toInt ≤ 14 := by rw [tv76]; exact s_f4.1
            refine lv_iconst (v := 1) hx hb dX12_readLine_77 (by decide) ?_
            refine lv_isub hx hb dX12_readLine_78 ?_
            refine lv_topi (fun v78 ev78 => ?_)
            have tv78 : v78.toInt = v76.toInt - (1) := by rw [ev78]; exact sub_i rfl (by decide : (1 : Int32).toInt = 1) (by omega) (by omega)
            have z9_0 : (0 : Int32).toInt = 0 := by decide
            refine tk_i hH hS hA (tr_V (n := 2) (As := [.int 0, .int v78]) hx hb hml hown hts hkb hH (ox_map hOX rfl) hks hE hS hA (s_M_takes l D cs kf T (y4 :: O) ((y4, .inl (cs.2.1, 1302, .inl f4)) :: X) a0 hg mq (0) v78 o0 o1 o2 y3 y4 o5 n63_0_6 n63_0_7 y8 n63_0_9 n63_0_10 y11 y12 tl t_a0 b_hg t_y3 t_y4 (by omega) (by omega) (by omega) (by omega) (by omega) (by omega) (by omega) (by omega) (by omega) (by omega) x_v633 (hO.sub (by decide))) kw_1382 kw_1384 ks_50 kw_13 kw_1385 (by decide +kernel) ⟨Nat.le_of_ble_eq_true rfl, Nat.le_of_ble_eq_true rfl⟩ (x_recv (ci := 12) hkb hH 0 rfl rfl) rfl rfl hl.1 (Nat.le_of_ble_eq_true rfl) dX12_readLine_79 ⟨Nat.le_of_ble_eq_true rfl, Nat.le_of_ble_eq_true rfl⟩) (fun v79 u H locs hz9 hH hS => ?_)
            obtain ⟨n79_0_6, n79_0_7, n79_0_9, n79_0_10, n79_0_11, n79_0_12, rfl, l_v79, u_v79, x_v790, x_v791, x_v792, x_v793, x_v794, x_v795, x_v796⟩ := hz9
            have hH : HT D cs A T (a0 :: y4 :: O) ((a0, .inr (12, o0 :: o1 :: o2 :: (.ref y3) :: (.ref y4) :: o5 :: (.int n79_0_6) :: (.int n79_0_7) :: (.int y8) :: (.int n79_0_9) :: (.int n79_0_10) :: (.int n79_0_11) :: (.int n79_0_12) :: tl)) :: (y4, .inl (cs.2.1, 1302, .inl f4)) :: X) H := hH
            refine W.widen (k := 0) (n := 0) (Nat.le_of_ble_eq_true rfl) (Nat.le_of_ble_eq_true rfl) ?_
            refine lv_istore_n (lv' := [(1, .int v79), (0, .ref a0)]) hx hb dX12_readLine_82 rfl hl (by decide) rfl (fun ls hl => ?_)
            refine lv_aload_n hx hb dX12_readLine_83 rfl (lv_at hl 1 rfl) ?_
            refine x_getk (ci := 12) (C := RX12) (F := TX12) (N := 36) (v := .int n79_0_11) hx hb hts uX12 hown hkb hH 0 rfl rfl 11 (by decide) rfl kw_1234 (fun _ h9 => h9) dX12_readLine_84 ?_
            have J98 : ∀ (g98_1 : Nat → Int32) (H : Heap) (locs : List Loc) (ls : Array Slot), (S8 g98_1) → HT D cs A T (a0 :: y4 :: O) ((a0, .inr (12, o0 :: o1 :: o2 :: (.ref y3) :: (.ref y4) :: o5 :: (.int n79_0_6) :: (.int n79_0_7) :: (.int y8) :: (.int n79_0_9) :: (.int n79_0_10) :: (.int n79_0_11) :: (.int n79_0_12) :: tl)) :: (y4, .inl (cs.2.1, 1302, .inl g98_1)) :: X) H → va_S A s.heap H locs → lv_has ls 2 [] → W p l e { frames := 32, cells := 0, slots := 0, locals := 682 } s m [.ref a0].toArray below meth c H locs 0 0 (MQ below (Tv D cs (fun u => ∃ (n0_6 : Int32) (n0_7 : Int32) (n0_9 : Int32) (n0_10 : Int32) (n0_11 : Int32) (n0_12 : Int32) (G1 : Nat → Int32), u = (T, a0 :: y4 :: O, (a0, .inr (12, o0 :: o1 :: o2 :: (.ref y3) :: (.ref y4) :: o5 :: (.int n0_6) :: (.int n0_7) :: (.int y8) :: (.int n0_9) :: (.int n0_10) :: (.int n0_11) :: (.int n0_12) :: tl)) :: (y4, .inl (cs.2.1, 1302, .inl G1)) :: X) ∧ (S8 G1) ∧ (y6.toInt ≤ n0_6.toInt) ∧ (n0_6.toInt ≤ n0_7.toInt) ∧ (n0_7.toInt ≤ y8.toInt) ∧ (TK3 n0_9 n0_6 n0_7) ∧ (0 ≤ n0_10.toInt) ∧ (n0_10.toInt ≤ 999)) A) [.ref a0].toArray s 0 0 A) (F0 m 98 ls []) := by
              intro g98_1 H locs ls s_g98_1 hH hS hl
              refine lv_goto (tgt := 142) hx hb dX12_readLine_98 (by decide) ?_
              exact te_v hx hb hr hlocks hH hS (⟨n79_0_6, n79_0_7, n79_0_9, n79_0_10, n79_0_11, n79_0_12, g98_1, rfl, s_g98_1, by omega, by omega, by omega, x_v793, by omega, by omega⟩) dX12_readLine_142
            refine lv_if_ne (tgt := 98) hx hb dX12_readLine_87 (by decide) (fun c87 => ?_) (fun c87 => ?_)
            · skip
              have tc87 := f_ne (k := 0) (by decide) c87
              exact J98 f4 _ _ _ s_f4 hH hS (lv_sub hl [] rfl)
            · skip
              have tc87 := f_eq (k := 0) (by decide) c87
              have t1 := x_v796 tc87
              refine lv_aload_n hx hb dX12_readLine_90 rfl (lv_at hl 1 rfl) ?_
              refine x_getk (ci := 12) (C := RX12) (F := TX12) (N := 36) (v := .ref y4) hx hb hts uX12 hown hkb hH 0 rfl rfl 4 (by decide) rfl kw_1227 (fun _ h9 => h9) dX12_readLine_91 ?_
              refine lv_iload_n hx hb dX12_readLine_94 rfl (lv_at hl 0 rfl) ?_
              refine tk_v hH hS hA (tr_S (n := 2) (As := [.ref y4, .int v79]) hx hb hml hown hts hkb hH (ox_map hOX rfl) hks hE hS hA (s_M_breaksOfF l D cs kf T O X v79 o0 o1 o2 y3 y4 o5 n79_0_6 n79_0_7 y8 n79_0_9 n79_0_10 n79_0_11 n79_0_12 tl f4 a0 hg mq (by omega) (by omega) t_y3 t_y4 (by omega) (by omega) (by omega) (by omega) (by omega) (by omega) (by omega) (by omega) s_f4 t_a0 b_hg (hO.sub (by decide))) kw_1443 kw_1444 kw_13 kw_1445 (by decide +kernel) ⟨Nat.le_of_ble_eq_true rfl, Nat.le_of_ble_eq_true rfl⟩ rfl rfl hl.1 (Nat.le_of_ble_eq_true rfl) dX12_readLine_95 ⟨Nat.le_of_ble_eq_true rfl, Nat.le_of_ble_eq_true rfl⟩) (fun u H locs hz9 hH hS => ?_)
              obtain ⟨F95_1, rfl, x_v950⟩ := hz9
              have s_F95_1 := x_v950
              have hH : HT D cs A T (a0 :: y4 :: O) ((a0, .inr (12, o0 :: o1 :: o2 :: (.ref y3) :: (.ref y4) :: o5 :: (.int n79_0_6) :: (.int n79_0_7) :: (.int y8) :: (.int n79_0_9) :: (.int n79_0_10) :: (.int n79_0_11) :: (.int n79_0_12) :: tl)) :: (y4, .inl (cs.2.1, 1302, .inl F95_1)) :: X) H := hH
              refine W.widen (k := 0) (n := 0) (Nat.le_of_ble_eq_true rfl) (Nat.le_of_ble_eq_true rfl) ?_
              exact J98 F95_1 _ _ _ s_F95_1 hH hS (lv_sub hl [] rfl)
        · skip
          have tc50 := f_ne (k := 0) (by decide) c50
          replace x_v470 := x_v470.resolve_left tc50
          refine lv_aload_n hx hb dX12_readLine_53 rfl (lv_at hl 0 rfl) ?_
          refine tk_v hH hS hA (tr_V (n := 0) (As := []) hx hb hml hown hts hkb hH (ox_map hOX rfl) hks hE hS hA (s_M_readUsed l D cs kf T O X a0 hg mq o0 o1 o2 y3 y4 o5 y6 y7 y8 y9 y10 y11 y12 tl f4 t_a0 b_hg t_y3 t_y4 (by omega) (by omega) (by omega) (by omega) (by omega) (by omega) (by omega) (by omega) s_f4 (by omega) (by omega) k3 (by omega) (by omega) (hO.sub (by decide))) kw_1436 kw_1438 ks_63 kw_13 kw_1439 (by decide +kernel) ⟨Nat.le_of_ble_eq_true rfl, Nat.le_of_ble_eq_true rfl⟩ (x_recv (ci := 12) hkb hH 0 rfl rfl) rfl rfl hl.1 (Nat.le_of_ble_eq_true rfl) dX12_readLine_54 ⟨Nat.le_of_ble_eq_true rfl, Nat.le_of_ble_eq_true rfl⟩) (fun u H locs hz9 hH hS => ?_)
          obtain ⟨n54_0_6, n54_0_7, n54_0_9, n54_0_10, n54_0_11, n54_0_12, F54_1, rfl, x_v540, x_v541, x_v542, x_v543, x_v544, x_v545, x_v546⟩ := hz9
          have s_F54_1 := x_v540
          have hH : HT D cs A T (a0 :: y4 :: O) ((a0, .inr (12, o0 :: o1 :: o2 :: (.ref y3) :: (.ref y4) :: o5 :: (.int n54_0_6) :: (.int n54_0_7) :: (.int y8) :: (.int n54_0_9) :: (.int n54_0_10) :: (.int n54_0_11) :: (.int n54_0_12) :: tl)) :: (y4, .inl (cs.2.1, 1302, .inl F54_1)) :: X) H := hH
          refine W.widen (k := 0) (n := 0) (Nat.le_of_ble_eq_true rfl) (Nat.le_of_ble_eq_true rfl) ?_
          refine lv_goto (tgt := 142) hx hb dX12_readLine_57 (by decide) ?_
          exact te_v hx hb hr hlocks hH hS (⟨n54_0_6, n54_0_7, n54_0_9, n54_0_10, n54_0_11, n54_0_12, F54_1, rfl, s_F54_1, by omega, by omega, by omega, x_v544, by omega, by omega⟩) dX12_readLine_142
      · skip
        have tc35 := f_ne (k := 0) (by decide) c35
        replace x_v320 := x_v320.resolve_left tc35
        refine lv_aload_n hx hb dX12_readLine_38 rfl (lv_at hl 0 rfl) ?_
        refine tk_v hH hS hA (tr_V (n := 0) (As := []) hx hb hml hown hts hkb hH (ox_map hOX rfl) hks hE hS hA (s_M_readStep l D cs kf T O X a0 hg mq o0 o1 o2 y3 y4 o5 y6 y7 y8 y9 y10 y11 y12 tl f4 t_a0 b_hg t_y3 t_y4 (by omega) (by omega) (by omega) (by omega) (by omega) (by omega) (by omega) (by omega) s_f4 (by omega) (by omega) k3 (by omega) (by omega) (hO.sub (by decide))) kw_1398 kw_1400 ks_54 kw_13 kw_1401 (by decide +kernel) ⟨Nat.le_of_ble_eq_true rfl, Nat.le_of_ble_eq_true rfl⟩ (x_recv (ci := 12) hkb hH 0 rfl rfl) rfl rfl hl.1 (Nat.le_of_ble_eq_true rfl) dX12_readLine_39 ⟨Nat.le_of_ble_eq_true rfl, Nat.le_of_ble_eq_true rfl⟩) (fun u H locs hz9 hH hS => ?_)
        obtain ⟨n39_0_6, n39_0_7, n39_0_9, n39_0_10, n39_0_11, n39_0_12, F39_1, rfl, x_v390, x_v391, x_v392, x_v393, x_v394, x_v395, x_v396⟩ := hz9
        have s_F39_1 := x_v390
        have hH : HT D cs A T (a0 :: y4 :: O) ((a0, .inr (12, o0 :: o1 :: o2 :: (.ref y3) :: (.ref y4) :: o5 :: (.int n39_0_6) :: (.int n39_0_7) :: (.int y8) :: (.int n39_0_9) :: (.int n39_0_10) :: (.int n39_0_11) :: (.int n39_0_12) :: tl)) :: (y4, .inl (cs.2.1, 1302, .inl F39_1)) :: X) H := hH
        refine W.widen (k := 0) (n := 0) (Nat.le_of_ble_eq_true rfl) (Nat.le_of_ble_eq_true rfl) ?_
        refine lv_goto (tgt := 142) hx hb dX12_readLine_42 (by decide) ?_
        exact te_v hx hb hr hlocks hH hS (⟨n39_0_6, n39_0_7, n39_0_9, n39_0_10, n39_0_11, n39_0_12, F39_1, rfl, s_F39_1, by omega, by omega, by omega, x_v394, by omega, by omega⟩) dX12_readLine_142
    · skip
      have tc20 := f_ne (k := 0) (by decide) c20
      replace x_v170 := x_v170.resolve_left tc20
      refine lv_aload_n hx hb dX12_readLine_23 rfl (lv_at hl 0 rfl) ?_
      refine tk_v hH hS hA (tr_V (n := 0) (As := []) hx hb hml hown hts hkb hH (ox_map hOX rfl) hks hE hS hA (s_M_readGuide l D cs kf T O X a0 hg mq o0 o1 o2 y3 y4 o5 y6 y7 y8 y9 y10 y11 y12 tl f4 t_a0 b_hg t_y3 t_y4 (by omega) (by omega) (by omega) (by omega) (by omega) (by omega) (by omega) (by omega) s_f4 (by omega) (by omega) k3 (by omega) (by omega) (hO.sub (by decide))) kw_1394 kw_1396 ks_53 kw_13 kw_1397 (by decide +kernel) ⟨Nat.le_of_ble_eq_true rfl, Nat.le_of_ble_eq_true rfl⟩ (x_recv (ci := 12) hkb hH 0 rfl rfl) rfl rfl hl.1 (Nat.le_of_ble_eq_true rfl) dX12_readLine_24 ⟨Nat.le_of_ble_eq_true rfl, Nat.le_of_ble_eq_true rfl⟩) (fun u H locs hz9 hH hS => ?_)
      obtain ⟨n24_0_6, n24_0_7, n24_0_9, n24_0_10, n24_0_11, n24_0_12, F24_1, rfl, x_v240, x_v241, x_v242, x_v243, x_v244, x_v245, x_v246⟩ := hz9
      have s_F24_1 := x_v240
      have hH : HT D cs A T (a0 :: y4 :: O) ((a0, .inr (12, o0 :: o1 :: o2 :: (.ref y3) :: (.ref y4) :: o5 :: (.int n24_0_6) :: (.int n24_0_7) :: (.int y8) :: (.int n24_0_9) :: (.int n24_0_10) :: (.int n24_0_11) :: (.int n24_0_12) :: tl)) :: (y4, .inl (cs.2.1, 1302, .inl F24_1)) :: X) H := hH
      refine W.widen (k := 0) (n := 0) (Nat.le_of_ble_eq_true rfl) (Nat.le_of_ble_eq_true rfl) ?_
      refine lv_goto (tgt := 142) hx hb dX12_readLine_27 (by decide) ?_
      exact te_v hx hb hr hlocks hH hS (⟨n24_0_6, n24_0_7, n24_0_9, n24_0_10, n24_0_11, n24_0_12, F24_1, rfl, s_F24_1, by omega, by omega, by omega, x_v244, by omega, by omega⟩) dX12_readLine_142
  · skip
    have tc5 := f_ne (k := 0) (by decide) c5
    replace x_v20 := x_v20.resolve_left tc5
    refine lv_aload_n hx hb dX12_readLine_8 rfl (lv_at hl 0 rfl) ?_
    refine tk_v hH hS hA (tr_V (n := 0) (As := []) hx hb hml hown hts hkb hH (ox_map hOX rfl) hks hE hS hA (s_M_readHold l D cs kf T O X a0 hg mq o0 o1 o2 y3 y4 o5 y6 y7 y8 y9 y10 y11 y12 tl f4 t_a0 b_hg t_y3 t_y4 (by omega) (by omega) (by omega) (by omega) (by omega) (by omega) (by omega) (by omega) s_f4 (by omega) (by omega) k3 (by omega) (by omega) (hO.sub (by decide))) kw_1374 kw_1376 ks_48 kw_13 kw_1377 (by decide +kernel) ⟨Nat.le_of_ble_eq_true rfl, Nat.le_of_ble_eq_true rfl⟩ (x_recv (ci := 12) hkb hH 0 rfl rfl) rfl rfl hl.1 (Nat.le_of_ble_eq_true rfl) dX12_readLine_9 ⟨Nat.le_of_ble_eq_true rfl, Nat.le_of_ble_eq_true rfl⟩) (fun u H locs hz9 hH hS => ?_)
    obtain ⟨n9_0_6, n9_0_7, n9_0_9, n9_0_10, n9_0_11, n9_0_12, F9_1, rfl, x_v90, x_v91, x_v92, x_v93, x_v94, x_v95, x_v96⟩ := hz9
    have s_F9_1 := x_v90
    have hH : HT D cs A T (a0 :: y4 :: O) ((a0, .inr (12, o0 :: o1 :: o2 :: (.ref y3) :: (.ref y4) :: o5 :: (.int n9_0_6) :: (.int n9_0_7) :: (.int y8) :: (.int n9_0_9) :: (.int n9_0_10) :: (.int n9_0_11) :: (.int n9_0_12) :: tl)) :: (y4, .inl (cs.2.1, 1302, .inl F9_1)) :: X) H := hH
    refine W.widen (k := 0) (n := 0) (Nat.le_of_ble_eq_true rfl) (Nat.le_of_ble_eq_true rfl) ?_
    refine lv_goto (tgt := 142) hx hb dX12_readLine_12 (by decide) ?_
    exact te_v hx hb hr hlocks hH hS (⟨n9_0_6, n9_0_7, n9_0_9, n9_0_10, n9_0_11, n9_0_12, F9_1, rfl, s_F9_1, by omega, by omega, by omega, x_v94, by omega, by omega⟩) dX12_readLine_142
set_option maxHeartbeats 4000000 in
set_option maxRecDepth 100000 in
theorem s_M_plain (l : Launch) (D : va_G) (cs : CS) (kf : KF) (T : TF) (O : List Nat) (X : va_W) (o0 : Value) (o1 : Value) (o2 : Value) (y3 : Nat) (y4 : Nat) (o5 : Value) (y6 : Int32) (y7 : Int32) (y8 : Int32) (y9 : Int32) (y10 : Int32) (y11 : Int32) (y12 : Int32) (tl : List Value) (f4 : Nat → Int32) (mm hg mq : Nat) (t_y3 : T y3 = some (1, 900, 0)) (t_y4 : T y4 = some (8, 1302, 0)) (l_y6 : 0 ≤ y6.toInt) (u_y6 : y6.toInt ≤ 900) (l_y7 : 0 ≤ y7.toInt) (u_y7 : y7.toInt ≤ 900) (l_y8 : 0 ≤ y8.toInt) (u_y8 : y8.toInt ≤ 900) (l_y10 : 0 ≤ y10.toInt) (u_y10 : y10.toInt ≤ 999) (t_mm : T mm = some (22, hg, mq)) (b_hg : hg < 90) (s_f4 : S8 f4) (hO : okO T (mm :: y4 :: O) []) : TK l D cs kf yX12_plain cX12_plain 2 none { frames := 0, cells := 0, slots := 0, locals := 0 } [.ref y4] T (mm :: y4 :: O) ((mm, .inr (12, o0 :: o1 :: o2 :: (.ref y3) :: (.ref y4) :: o5 :: (.int y6) :: (.int y7) :: (.int y8) :: (.int y9) :: (.int y10) :: (.int y11) :: (.int y12) :: tl)) :: (y4, .inl (cs.2.1, 1302, .inl f4)) :: X) (Tv D cs (fun u => ∃ (G1 : Nat → Int32), u = (T, mm :: y4 :: O, (mm, .inr (12, o0 :: o1 :: o2 :: (.ref y3) :: (.ref y4) :: o5 :: (.int y6) :: (.int y7) :: (.int y8) :: (.int y9) :: (.int y10) :: (.int y11) :: (.int y12) :: tl)) :: (y4, .inl (cs.2.1, 1302, .inl G1)) :: X) ∧ (S8 G1))) := by
  refine tk_of (by decide) (Nat.le_of_ble_eq_true rfl) (fun p e s m below meth c ls A H locs hx hb hr hml hown hts hlocks hnm hkb hH hS hA hOX hks hE hl => ?_)
  have hown : s.vm.findClass RX12 = some m.cls := hown
  have hl : lv_has ls 2 [(0, .ref y4)] := hl
  have hOXf := hOX
  refine lv_iconst (v := 0) hx hb dX12_plain_0 (by decide) ?_
  have J2 : ∀ (n : Nat) (p2_1 : Int32) (g2_1 : Nat → Int32) (H : Heap) (locs : List Loc) (ls : Array Slot), (1302 - p2_1.toInt).toNat = n → (0 ≤ p2_1.toInt) → (p2_1.toInt ≤ 1302) → (∀ j : Nat, j < p2_1.toInt.toNat → g2_1 j = 0) → HT D cs A T (mm :: y4 :: O) ((mm, .inr (12, o0 :: o1 :: o2 :: (.ref y3) :: (.ref y4) :: o5 :: (.int y6) :: (.int y7) :: (.int y8) :: (.int y9) :: (.int y10) :: (.int y11) :: (.int y12) :: tl)) :: (y4, .inl (cs.2.1, 1302, .inl g2_1)) :: X) H → va_S A s.heap H locs → lv_has ls 2 [(1, .int p2_1), (0, .ref y4)] → W p l e { frames := 0, cells := 0, slots := 0, locals := 0 } s m [.ref y4].toArray below meth c H locs 0 0 (MQ below (Tv D cs (fun u => ∃ (G1 : Nat → Int32), u = (T, mm :: y4 :: O, (mm, .inr (12, o0 :: o1 :: o2 :: (.ref y3) :: (.ref y4) :: o5 :: (.int y6) :: (.int y7) :: (.int y8) :: (.int y9) :: (.int y10) :: (.int y11) :: (.int y12) :: tl)) :: (y4, .inl (cs.2.1, 1302, .inl G1)) :: X) ∧ (S8 G1)) A) [.ref y4].toArray s 0 0 A) (F0 m 2 ls []) := by
    intro n
    induction n using Nat.strongRecOn with
    | _ n ih2 =>
      intro p2_1 g2_1 H locs ls hm2 l_p2_1 u_p2_1 i2p hH hS hl
      refine lv_iload_n hx hb dX12_plain_2 rfl (lv_at hl 0 rfl) ?_
      refine lv_sipush (v := 1302) hx hb dX12_plain_3 (by decide) ?_
      refine lv_icmp_ge (tgt := 19) hx hb dX12_plain_6 (by decide) (fun c6 => ?_) (fun c6 => ?_)
      · skip
        have tc6 := f_ge (k := 1302) (by decide) c6
        refine lv_iconst (v := 0) hx hb dX12_plain_19 (by decide) ?_
        have J21 : ∀ (n : Nat) (p21_1 : Int32) (g21_1 : Nat → Int32) (H : Heap) (locs : List Loc) (ls : Array Slot), (14 - p21_1.toInt).toNat = n → (0 ≤ p21_1.toInt) → (p21_1.toInt ≤ 14) → (∀ j : Nat, j < 1302 → (j < 59 ∨ 87 ≤ j) → g21_1 j = 0) → HT D cs A T (mm :: y4 :: O) ((mm, .inr (12, o0 :: o1 :: o2 :: (.ref y3) :: (.ref y4) :: o5 :: (.int y6) :: (.int y7) :: (.int y8) :: (.int y9) :: (.int y10) :: (.int y11) :: (.int y12) :: tl)) :: (y4, .inl (cs.2.1, 1302, .inl g21_1)) :: X) H → va_S A s.heap H locs → lv_has ls 2 [(1, .int p21_1), (0, .ref y4)] → W p l e { frames := 0, cells := 0, slots := 0, locals := 0 } s m [.ref y4].toArray below meth c H locs 0 0 (MQ below (Tv D cs (fun u => ∃ (G1 : Nat → Int32), u = (T, mm :: y4 :: O, (mm, .inr (12, o0 :: o1 :: o2 :: (.ref y3) :: (.ref y4) :: o5 :: (.int y6) :: (.int y7) :: (.int y8) :: (.int y9) :: (.int y10) :: (.int y11) :: (.int y12) :: tl)) :: (y4, .inl (cs.2.1, 1302, .inl G1)) :: X) ∧ (S8 G1)) A) [.ref y4].toArray s 0 0 A) (F0 m 21 ls []) := by
          intro n
          induction n using Nat.strongRecOn with
          | _ n ih21 =>
            intro p21_1 g21_1 H locs ls hm21 l_p21_1 u_p21_1 i21p hH hS hl
            refine lv_iload_n hx hb dX12_plain_21 rfl (lv_at hl 0 rfl) ?_
            refine lv_bipush (v := 14) hx hb dX12_plain_22 (by decide) ?_
            refine lv_icmp_ge (tgt := 47) hx hb dX12_plain_24 (by decide) (fun c24 => ?_) (fun c24 => ?_)
            · skip
              have tc24 := f_ge (k := 14) (by decide) c24
              exact te_v hx hb hr hlocks hH hS (⟨g21_1, rfl, S8_plain i21p⟩) dX12_plain_47
            · skip
              have tc24 := f_nge (k := 14) (by decide) c24
              refine lv_aload_n hx hb dX12_plain_27 rfl (lv_at hl 1 rfl) ?_
              refine lv_bipush (v := 59) hx hb dX12_plain_28 (by decide) ?_
              refine lv_iload_n hx hb dX12_plain_30 rfl (lv_at hl 0 rfl) ?_
              refine lv_iadd hx hb dX12_plain_31 ?_
              refine lv_topi (fun v31 ev31 => ?_)
              have tv31 : v31.toInt = (59) + p21_1.toInt := by rw [ev31]; exact add_i (by decide : (59 : Int32).toInt = 59) rfl (by omega) (by omega)
              refine lv_iconst (v := (-1)) hx hb dX12_plain_32 (by decide) ?_
              refine xa_ist hx hb hkb hH hS 1 rfl (by omega) (by omega) dX12_plain_33 (fun H locs hH hS => ?_)
              have hH : HT D cs A T (mm :: y4 :: O) ((mm, .inr (12, o0 :: o1 :: o2 :: (.ref y3) :: (.ref y4) :: o5 :: (.int y6) :: (.int y7) :: (.int y8) :: (.int y9) :: (.int y10) :: (.int y11) :: (.int y12) :: tl)) :: (y4, .inl (cs.2.1, 1302, .inl (upd g21_1 (v31.toInt.toNat) ((-1) : Int32)))) :: X) H := hH
              obtain ⟨F33, eF33⟩ : ∃ f9, f9 = upd g21_1 (v31.toInt.toNat) ((-1) : Int32) := ⟨_, rfl⟩
              have hH : HT D cs A T (mm :: y4 :: O) ((mm, .inr (12, o0 :: o1 :: o2 :: (.ref y3) :: (.ref y4) :: o5 :: (.int y6) :: (.int y7) :: (.int y8) :: (.int y9) :: (.int y10) :: (.int y11) :: (.int y12) :: tl)) :: (y4, .inl (cs.2.1, 1302, .inl F33)) :: X) H := eF33 ▸ hH
              refine lv_aload_n hx hb dX12_plain_34 rfl (lv_at hl 1 rfl) ?_
              refine lv_bipush (v := 73) hx hb dX12_plain_35 (by decide) ?_
              refine lv_iload_n hx hb dX12_plain_37 rfl (lv_at hl 0 rfl) ?_
              refine lv_iadd hx hb dX12_plain_38 ?_
              refine lv_topi (fun v38 ev38 => ?_)
              have tv38 : v38.toInt = (73) + p21_1.toInt := by rw [ev38]; exact add_i (by decide : (73 : Int32).toInt = 73) rfl (by omega) (by omega)
              refine lv_iconst (v := (-1)) hx hb dX12_plain_39 (by decide) ?_
              refine xa_ist hx hb hkb hH hS 1 rfl (by omega) (by omega) dX12_plain_40 (fun H locs hH hS => ?_)
              have hH : HT D cs A T (mm :: y4 :: O) ((mm, .inr (12, o0 :: o1 :: o2 :: (.ref y3) :: (.ref y4) :: o5 :: (.int y6) :: (.int y7) :: (.int y8) :: (.int y9) :: (.int y10) :: (.int y11) :: (.int y12) :: tl)) :: (y4, .inl (cs.2.1, 1302, .inl (upd F33 (v38.toInt.toNat) ((-1) : Int32)))) :: X) H := hH
              obtain ⟨F40, eF40⟩ : ∃ f9, f9 = upd F33 (v38.toInt.toNat) ((-1) : Int32) := ⟨_, rfl⟩
              have hH : HT D cs A T (mm :: y4 :: O) ((mm, .inr (12, o0 :: o1 :: o2 :: (.ref y3) :: (.ref y4) :: o5 :: (.int y6) :: (.int y7) :: (.int y8) :: (.int y9) :: (.int y10) :: (.int y11) :: (.int y12) :: tl)) :: (y4, .inl (cs.2.1, 1302, .inl F40)) :: X) H := eF40 ▸ hH
              obtain ⟨v41, ev41⟩ : ∃ y : Int32, y = p21_1 + 1 := ⟨_, rfl⟩
              have tv41 : v41.toInt = p21_1.toInt + (1) := by rw [ev41]; exact add_i rfl (by decide) (by omega) (by omega)
              refine lv_iinc (v := v41) (lv' := [(1, .int v41), (0, .ref y4)]) hx hb dX12_plain_41 hl (k := 0) rfl (by rw [ev41]; rfl) (by decide) rfl (fun ls hl => ?_)
              refine lv_goto (tgt := 21) hx hb dX12_plain_44 (by decide) ?_
              exact ih21 _ (by omega) v41 F40 _ _ _ rfl (by omega) (by omega) (by intro j hj h2; first | exact i2p j (by omega) | (rw [eF40, upd_ne (by omega), eF33, upd_ne (by omega)]; exact i21p j hj h2)) hH hS (lv_sub hl [0, 1] rfl)
        refine lv_istore_n (lv' := [(1, .int 0), (0, .ref y4)]) hx hb dX12_plain_20 rfl hl (by decide) rfl (fun ls hl => ?_)
        have z_0 : (0 : Int32).toInt = 0 := by decide
        exact J21 _ 0 g2_1 _ _ _ rfl (by decide) (by decide) (by intro j hj h2; first | exact i2p j (by omega) | (rw [eF40, upd_ne (by omega), eF33, upd_ne (by omega)]; exact i21p j hj h2)) hH hS (lv_sub hl [0, 1] rfl)
      · skip
        have tc6 := f_nge (k := 1302) (by decide) c6
        refine lv_aload_n hx hb dX12_plain_9 rfl (lv_at hl 1 rfl) ?_
        refine lv_iload_n hx hb dX12_plain_10 rfl (lv_at hl 0 rfl) ?_
        refine lv_iconst (v := 0) hx hb dX12_plain_11 (by decide) ?_
        refine xa_ist hx hb hkb hH hS 1 rfl (by omega) (by omega) dX12_plain_12 (fun H locs hH hS => ?_)
        have hH : HT D cs A T (mm :: y4 :: O) ((mm, .inr (12, o0 :: o1 :: o2 :: (.ref y3) :: (.ref y4) :: o5 :: (.int y6) :: (.int y7) :: (.int y8) :: (.int y9) :: (.int y10) :: (.int y11) :: (.int y12) :: tl)) :: (y4, .inl (cs.2.1, 1302, .inl (upd g2_1 (p2_1.toInt.toNat) (0 : Int32)))) :: X) H := hH
        obtain ⟨F12, eF12⟩ : ∃ f9, f9 = upd g2_1 (p2_1.toInt.toNat) (0 : Int32) := ⟨_, rfl⟩
        have hH : HT D cs A T (mm :: y4 :: O) ((mm, .inr (12, o0 :: o1 :: o2 :: (.ref y3) :: (.ref y4) :: o5 :: (.int y6) :: (.int y7) :: (.int y8) :: (.int y9) :: (.int y10) :: (.int y11) :: (.int y12) :: tl)) :: (y4, .inl (cs.2.1, 1302, .inl F12)) :: X) H := eF12 ▸ hH
        obtain ⟨v13, ev13⟩ : ∃ y : Int32, y = p2_1 + 1 := ⟨_, rfl⟩
        have tv13 : v13.toInt = p2_1.toInt + (1) := by rw [ev13]; exact add_i rfl (by decide) (by omega) (by omega)
        refine lv_iinc (v := v13) (lv' := [(1, .int v13), (0, .ref y4)]) hx hb dX12_plain_13 hl (k := 0) rfl (by rw [ev13]; rfl) (by decide) rfl (fun ls hl => ?_)
        refine lv_goto (tgt := 2) hx hb dX12_plain_16 (by decide) ?_
        exact ih2 _ (by omega) v13 F12 _ _ _ rfl (by omega) (by omega) (by intro j hj; first | (exfalso; have z0 : (0 : Int32).toInt = 0 := (by decide); omega) | (rw [eF12]; unfold upd; split; rfl; exact i2p j (by omega))) hH hS (lv_sub hl [0, 1] rfl)
  refine lv_istore_n (lv' := [(1, .int 0), (0, .ref y4)]) hx hb dX12_plain_1 rfl hl (by decide) rfl (fun ls hl => ?_)
  have z_0 : (0 : Int32).toInt = 0 := by decide
  exact J2 _ 0 f4 _ _ _ rfl (by decide) (by decide) (by intro j hj; first | (exfalso; have z0 : (0 : Int32).toInt = 0 := (by decide); omega) | (rw [eF12]; unfold upd; split; rfl; exact i2p j (by omega))) hH hS (lv_sub hl [0, 1] rfl)
