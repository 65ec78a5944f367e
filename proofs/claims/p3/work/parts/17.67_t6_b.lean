set_option maxHeartbeats 4000000 in
set_option maxRecDepth 100000 in
theorem s_M_readAtom0 (l : Launch) (D : va_G) (cs : CS) (kf : KF) (T : TF) (O : List Nat) (X : va_W) (a0 hg mq : Nat) (x1 : Int32) (o0 : Value) (o1 : Value) (o2 : Value) (y3 : Nat) (y4 : Nat) (o5 : Value) (y6 : Int32) (y7 : Int32) (y8 : Int32) (y9 : Int32) (y10 : Int32) (y11 : Int32) (y12 : Int32) (tl : List Value) (f3 : Nat → Int32) (f4 : Nat → Int32) (t : Tp) (tn : Nat) (t_a0 : T a0 = some (22, hg, mq)) (b_hg : hg < 90) (l_x1 : 0 ≤ x1.toInt) (u_x1 : x1.toInt ≤ 0) (t_y3 : T y3 = some (9, 900, 0)) (t_y4 : T y4 = some (8, 1302, 0)) (l_y6 : 0 ≤ y6.toInt) (u_y6 : y6.toInt ≤ 900) (l_y7 : 0 ≤ y7.toInt) (u_y7 : y7.toInt ≤ 900) (l_y8 : 0 ≤ y8.toInt) (u_y8 : y8.toInt ≤ 900) (l_y10 : 0 ≤ y10.toInt) (u_y10 : y10.toInt ≤ 999) (s_f4 : S8 f4) (hn : y8.toInt = (tn : Int)) (htm : TM f3 t) (k1 : y6.toInt ≤ y7.toInt) (k2 : y7.toInt ≤ y8.toInt) (k3 : TK3 y9 y6 y7) (k4 : SL y11 f4 y6) (hms : MSW t tn y11 y6 y7 y9 y10) (hO : okO T (a0 :: y3 :: y4 :: O) []) : TK l D cs kf yX12_readAtom cX12_readAtom 2 none { frames := 25, cells := 0, slots := 0, locals := 534 } [.ref a0, .int x1] T (a0 :: y3 :: y4 :: O) ((a0, .inr (12, o0 :: o1 :: o2 :: (.ref y3) :: (.ref y4) :: o5 :: (.int y6) :: (.int y7) :: (.int y8) :: (.int y9) :: (.int y10) :: (.int y11) :: (.int y12) :: tl)) :: (y3, .inl (cs.2.1, 900, .inl f3)) :: (y4, .inl (cs.2.1, 1302, .inl f4)) :: X) (Tv D cs (fun u => ∃ (n0_6 : Int32) (n0_7 : Int32) (n0_9 : Int32) (n0_10 : Int32) (n0_11 : Int32) (n0_12 : Int32) (G2 : Nat → Int32), u = (T, a0 :: y3 :: y4 :: O, (a0, .inr (12, o0 :: o1 :: o2 :: (.ref y3) :: (.ref y4) :: o5 :: (.int n0_6) :: (.int n0_7) :: (.int y8) :: (.int n0_9) :: (.int n0_10) :: (.int n0_11) :: (.int n0_12) :: tl)) :: (y3, .inl (cs.2.1, 900, .inl f3)) :: (y4, .inl (cs.2.1, 1302, .inl G2)) :: X) ∧ (S8 G2) ∧ (y6.toInt ≤ n0_6.toInt) ∧ (n0_6.toInt ≤ n0_7.toInt) ∧ (n0_7.toInt ≤ y8.toInt) ∧ (TK3 n0_9 n0_6 n0_7) ∧ (0 ≤ n0_10.toInt) ∧ (n0_10.toInt ≤ 999) ∧ (RD f4 G2 y6 n0_6 y11 n0_11) ∧ (RG t tn [(0, 0)] [] y11 y12 y6 n0_11 n0_12 n0_6 n0_7 n0_9 n0_10) ∧ (FKP f4 G2))) := by
  refine tk_of (by decide) (Nat.le_of_ble_eq_true rfl) (fun p e s m below meth c ls A H locs hx hb hr hml hown hts hlocks hnm hkb hH hS hA hOX hks hE hl => ?_)
  have hown : s.vm.findClass RX12 = some m.cls := hown
  have hl : lv_has ls 2 [(0, .ref a0), (1, .int x1)] := hl
  have hOXf := hOX
  have hd0 := dpt_nn s_f4
  have hq0 := fun q9 => (hms q9).2.2.2.1
  refine lv_aload_n hx hb dX12_readAtom_0 rfl (lv_at hl 0 rfl) ?_
  refine lv_bipush (v := 21) hx hb dX12_readAtom_1 (by decide) ?_
  have z9_21 : (21 : Int32).toInt = 21 := by decide
  refine tk_i hH hS hA (tr_V (n := 1) (As := [.int 21]) hx hb hml hown hts hkb hH (ox_map hOX rfl) hks hE hS hA (s_M_is l D cs kf T (y4 :: O) ((y4, .inl (cs.2.1, 1302, .inl f4)) :: X) a0 hg mq (21) o0 o1 o2 y3 y4 o5 y6 y7 y8 y9 y10 y11 y12 tl f3 t tn t_a0 b_hg t_y3 t_y4 (by omega) (by omega) (by omega) (by omega) (by omega) (by omega) (by omega) (by omega) (by omega) htm (hO.sub (by decide))) kw_1370 kw_1372 ks_47 kw_13 kw_1373 (by decide +kernel) ⟨Nat.le_of_ble_eq_true rfl, Nat.le_of_ble_eq_true rfl⟩ (x_recv (ci := 12) hkb hH 0 rfl rfl) rfl rfl hl.1 (Nat.le_of_ble_eq_true rfl) dX12_readAtom_3 ⟨Nat.le_of_ble_eq_true rfl, Nat.le_of_ble_eq_true rfl⟩) (fun v3 u H locs hz9 hH hS => ?_)
  obtain ⟨rfl, l_v3, u_v3, x_v30, x_v31⟩ := hz9
  have hH : HT D cs A T (a0 :: y3 :: y4 :: O) ((a0, .inr (12, o0 :: o1 :: o2 :: (.ref y3) :: (.ref y4) :: o5 :: (.int y6) :: (.int y7) :: (.int y8) :: (.int y9) :: (.int y10) :: (.int y11) :: (.int y12) :: tl)) :: (y3, .inl (cs.2.1, 900, .inl f3)) :: (y4, .inl (cs.2.1, 1302, .inl f4)) :: X) H := hH
  refine W.widen (k := 0) (n := 0) (Nat.le_of_ble_eq_true rfl) (Nat.le_of_ble_eq_true rfl) ?_
  refine lv_if_eq (tgt := 24) hx hb dX12_readAtom_6 (by decide) (fun c6 => ?_) (fun c6 => ?_)
  · skip
    have tc6 := f_eq (k := 0) (by decide) c6
    clear x_v30
    replace x_v31 := x_v31.resolve_left (fun q9 => q9 tc6)
    refine lv_aload_n hx hb dX12_readAtom_24 rfl (lv_at hl 0 rfl) ?_
    refine x_getk (ci := 12) (C := RX12) (F := TX12) (N := 36) (v := .int y11) hx hb hts uX12 hown hkb hH 0 rfl rfl 11 (by decide) rfl kw_1234 (fun _ h9 => h9) dX12_readAtom_25 ?_
    refine lv_if_ne (tgt := 70) hx hb dX12_readAtom_28 (by decide) (fun c28 => ?_) (fun c28 => ?_)
    · skip
      have tc28 := f_ne (k := 0) (by decide) c28
      refine lv_aload_n hx hb dX12_readAtom_70 rfl (lv_at hl 0 rfl) ?_
      refine lv_iconst (v := 2) hx hb dX12_readAtom_71 (by decide) ?_
      have z9_2 : (2 : Int32).toInt = 2 := by decide
      refine tk_i hH hS hA (tr_V (n := 1) (As := [.int 2]) hx hb hml hown hts hkb hH (ox_map hOX rfl) hks hE hS hA (s_M_eats l D cs kf T (y4 :: O) ((y4, .inl (cs.2.1, 1302, .inl f4)) :: X) a0 hg mq (2) o0 o1 o2 y3 y4 o5 y6 y7 y8 y9 y10 y11 y12 tl f3 t tn t_a0 b_hg t_y3 t_y4 (by omega) (by omega) (by omega) (by omega) (by omega) (by omega) (by omega) (by omega) (by omega) htm (by omega) (by omega) k3 (by omega) hms (hO.sub (by decide))) kw_1390 kw_1392 ks_52 kw_13 kw_1393 (by decide +kernel) ⟨Nat.le_of_ble_eq_true rfl, Nat.le_of_ble_eq_true rfl⟩ (x_recv (ci := 12) hkb hH 0 rfl rfl) rfl rfl hl.1 (Nat.le_of_ble_eq_true rfl) dX12_readAtom_72 ⟨Nat.le_of_ble_eq_true rfl, Nat.le_of_ble_eq_true rfl⟩) (fun v72 u H locs hz9 hH hS => ?_)
      obtain ⟨n72_0_6, n72_0_7, n72_0_9, n72_0_10, rfl, l_v72, u_v72, x_v720, x_v721, x_v722, x_v723, x_v724, x_v725, x_v726, x_v727, x_v728⟩ := hz9
      have hH : HT D cs A T (a0 :: y3 :: y4 :: O) ((a0, .inr (12, o0 :: o1 :: o2 :: (.ref y3) :: (.ref y4) :: o5 :: (.int n72_0_6) :: (.int n72_0_7) :: (.int y8) :: (.int n72_0_9) :: (.int n72_0_10) :: (.int y11) :: (.int y12) :: tl)) :: (y3, .inl (cs.2.1, 900, .inl f3)) :: (y4, .inl (cs.2.1, 1302, .inl f4)) :: X) H := hH
      refine W.widen (k := 0) (n := 0) (Nat.le_of_ble_eq_true rfl) (Nat.le_of_ble_eq_true rfl) ?_
      refine lv_if_eq (tgt := 88) hx hb dX12_readAtom_75 (by decide) (fun c75 => ?_) (fun c75 => ?_)
      · skip
        have tc75 := f_eq (k := 0) (by decide) c75
        clear x_v726
        clear x_v727
        replace x_v728 := x_v728.resolve_left (fun q9 => q9 tc75)
        obtain ⟨e6, e7, e9, e10, x_v728⟩ := x_v728
        subst e6 e7 e9 e10
        refine lv_aload_n hx hb dX12_readAtom_88 rfl (lv_at hl 0 rfl) ?_
        refine lv_iconst (v := 3) hx hb dX12_readAtom_89 (by decide) ?_
        have z9_3 : (3 : Int32).toInt = 3 := by decide
        refine tk_i hH hS hA (tr_V (n := 1) (As := [.int 3]) hx hb hml hown hts hkb hH (ox_map hOX rfl) hks hE hS hA (s_M_eats l D cs kf T (y4 :: O) ((y4, .inl (cs.2.1, 1302, .inl f4)) :: X) a0 hg mq (3) o0 o1 o2 y3 y4 o5 y6 y7 y8 y9 y10 y11 y12 tl f3 t tn t_a0 b_hg t_y3 t_y4 (by omega) (by omega) (by omega) (by omega) (by omega) (by omega) (by omega) (by omega) (by omega) htm (by omega) (by omega) x_v723 (by omega) hms (hO.sub (by decide))) kw_1390 kw_1392 ks_52 kw_13 kw_1393 (by decide +kernel) ⟨Nat.le_of_ble_eq_true rfl, Nat.le_of_ble_eq_true rfl⟩ (x_recv (ci := 12) hkb hH 0 rfl rfl) rfl rfl hl.1 (Nat.le_of_ble_eq_true rfl) dX12_readAtom_90 ⟨Nat.le_of_ble_eq_true rfl, Nat.le_of_ble_eq_true rfl⟩) (fun v90 u H locs hz9 hH hS => ?_)
        obtain ⟨n90_0_6, n90_0_7, n90_0_9, n90_0_10, rfl, l_v90, u_v90, x_v900, x_v901, x_v902, x_v903, x_v904, x_v905, x_v906, x_v907, x_v908⟩ := hz9
        have hH : HT D cs A T (a0 :: y3 :: y4 :: O) ((a0, .inr (12, o0 :: o1 :: o2 :: (.ref y3) :: (.ref y4) :: o5 :: (.int n90_0_6) :: (.int n90_0_7) :: (.int y8) :: (.int n90_0_9) :: (.int n90_0_10) :: (.int y11) :: (.int y12) :: tl)) :: (y3, .inl (cs.2.1, 900, .inl f3)) :: (y4, .inl (cs.2.1, 1302, .inl f4)) :: X) H := hH
        refine W.widen (k := 0) (n := 0) (Nat.le_of_ble_eq_true rfl) (Nat.le_of_ble_eq_true rfl) ?_
        refine lv_if_eq (tgt := 106) hx hb dX12_readAtom_93 (by decide) (fun c93 => ?_) (fun c93 => ?_)
        · skip
          have tc93 := f_eq (k := 0) (by decide) c93
          clear x_v906
          clear x_v907
          replace x_v908 := x_v908.resolve_left (fun q9 => q9 tc93)
          obtain ⟨e6, e7, e9, e10, x_v908⟩ := x_v908
          subst e6 e7 e9 e10
          refine lv_aload_n hx hb dX12_readAtom_106 rfl (lv_at hl 0 rfl) ?_
          refine lv_bipush (v := 11) hx hb dX12_readAtom_107 (by decide) ?_
          have z9_11 : (11 : Int32).toInt = 11 := by decide
          refine tk_i hH hS hA (tr_V (n := 1) (As := [.int 11]) hx hb hml hown hts hkb hH (ox_map hOX rfl) hks hE hS hA (s_M_eats l D cs kf T (y4 :: O) ((y4, .inl (cs.2.1, 1302, .inl f4)) :: X) a0 hg mq (11) o0 o1 o2 y3 y4 o5 y6 y7 y8 y9 y10 y11 y12 tl f3 t tn t_a0 b_hg t_y3 t_y4 (by omega) (by omega) (by omega) (by omega) (by omega) (by omega) (by omega) (by omega) (by omega) htm (by omega) (by omega) x_v903 (by omega) hms (hO.sub (by decide))) kw_1390 kw_1392 ks_52 kw_13 kw_1393 (by decide +kernel) ⟨Nat.le_of_ble_eq_true rfl, Nat.le_of_ble_eq_true rfl⟩ (x_recv (ci := 12) hkb hH 0 rfl rfl) rfl rfl hl.1 (Nat.le_of_ble_eq_true rfl) dX12_readAtom_109 ⟨Nat.le_of_ble_eq_true rfl, Nat.le_of_ble_eq_true rfl⟩) (fun v109 u H locs hz9 hH hS => ?_)
          obtain ⟨n109_0_6, n109_0_7, n109_0_9, n109_0_10, rfl, l_v109, u_v109, x_v1090, x_v1091, x_v1092, x_v1093, x_v1094, x_v1095, x_v1096, x_v1097, x_v1098⟩ := hz9
          have hH : HT D cs A T (a0 :: y3 :: y4 :: O) ((a0, .inr (12, o0 :: o1 :: o2 :: (.ref y3) :: (.ref y4) :: o5 :: (.int n109_0_6) :: (.int n109_0_7) :: (.int y8) :: (.int n109_0_9) :: (.int n109_0_10) :: (.int y11) :: (.int y12) :: tl)) :: (y3, .inl (cs.2.1, 900, .inl f3)) :: (y4, .inl (cs.2.1, 1302, .inl f4)) :: X) H := hH
          refine W.widen (k := 0) (n := 0) (Nat.le_of_ble_eq_true rfl) (Nat.le_of_ble_eq_true rfl) ?_
          refine lv_if_eq (tgt := 125) hx hb dX12_readAtom_112 (by decide) (fun c112 => ?_) (fun c112 => ?_)
          · skip
            have tc112 := f_eq (k := 0) (by decide) c112
            clear x_v1096
            clear x_v1097
            replace x_v1098 := x_v1098.resolve_left (fun q9 => q9 tc112)
            obtain ⟨e6, e7, e9, e10, x_v1098⟩ := x_v1098
            subst e6 e7 e9 e10
            refine lv_aload_n hx hb dX12_readAtom_125 rfl (lv_at hl 0 rfl) ?_
            refine lv_bipush (v := 8) hx hb dX12_readAtom_126 (by decide) ?_
            have z9_8 : (8 : Int32).toInt = 8 := by decide
            refine tk_i hH hS hA (tr_V (n := 1) (As := [.int 8]) hx hb hml hown hts hkb hH (ox_map hOX rfl) hks hE hS hA (s_M_eats l D cs kf T (y4 :: O) ((y4, .inl (cs.2.1, 1302, .inl f4)) :: X) a0 hg mq (8) o0 o1 o2 y3 y4 o5 y6 y7 y8 y9 y10 y11 y12 tl f3 t tn t_a0 b_hg t_y3 t_y4 (by omega) (by omega) (by omega) (by omega) (by omega) (by omega) (by omega) (by omega) (by omega) htm (by omega) (by omega) x_v1093 (by omega) hms (hO.sub (by decide))) kw_1390 kw_1392 ks_52 kw_13 kw_1393 (by decide +kernel) ⟨Nat.le_of_ble_eq_true rfl, Nat.le_of_ble_eq_true rfl⟩ (x_recv (ci := 12) hkb hH 0 rfl rfl) rfl rfl hl.1 (Nat.le_of_ble_eq_true rfl) dX12_readAtom_128 ⟨Nat.le_of_ble_eq_true rfl, Nat.le_of_ble_eq_true rfl⟩) (fun v128 u H locs hz9 hH hS => ?_)
            obtain ⟨n128_0_6, n128_0_7, n128_0_9, n128_0_10, rfl, l_v128, u_v128, x_v1280, x_v1281, x_v1282, x_v1283, x_v1284, x_v1285, x_v1286, x_v1287, x_v1288⟩ := hz9
            have hH : HT D cs A T (a0 :: y3 :: y4 :: O) ((a0, .inr (12, o0 :: o1 :: o2 :: (.ref y3) :: (.ref y4) :: o5 :: (.int n128_0_6) :: (.int n128_0_7) :: (.int y8) :: (.int n128_0_9) :: (.int n128_0_10) :: (.int y11) :: (.int y12) :: tl)) :: (y3, .inl (cs.2.1, 900, .inl f3)) :: (y4, .inl (cs.2.1, 1302, .inl f4)) :: X) H := hH
            refine W.widen (k := 0) (n := 0) (Nat.le_of_ble_eq_true rfl) (Nat.le_of_ble_eq_true rfl) ?_
            refine lv_if_eq (tgt := 144) hx hb dX12_readAtom_131 (by decide) (fun c131 => ?_) (fun c131 => ?_)
            · skip
              have tc131 := f_eq (k := 0) (by decide) c131
              clear x_v1286
              clear x_v1287
              replace x_v1288 := x_v1288.resolve_left (fun q9 => q9 tc131)
              obtain ⟨e6, e7, e9, e10, x_v1288⟩ := x_v1288
              subst e6 e7 e9 e10
              refine lv_aload_n hx hb dX12_readAtom_144 rfl (lv_at hl 0 rfl) ?_
              refine lv_bipush (v := 35) hx hb dX12_readAtom_145 (by decide) ?_
              have z9_35 : (35 : Int32).toInt = 35 := by decide
              refine tk_i hH hS hA (tr_V (n := 1) (As := [.int 35]) hx hb hml hown hts hkb hH (ox_map hOX rfl) hks hE hS hA (s_M_is l D cs kf T (y4 :: O) ((y4, .inl (cs.2.1, 1302, .inl f4)) :: X) a0 hg mq (35) o0 o1 o2 y3 y4 o5 y6 y7 y8 y9 y10 y11 y12 tl f3 t tn t_a0 b_hg t_y3 t_y4 (by omega) (by omega) (by omega) (by omega) (by omega) (by omega) (by omega) (by omega) (by omega) htm (hO.sub (by decide))) kw_1370 kw_1372 ks_47 kw_13 kw_1373 (by decide +kernel) ⟨Nat.le_of_ble_eq_true rfl, Nat.le_of_ble_eq_true rfl⟩ (x_recv (ci := 12) hkb hH 0 rfl rfl) rfl rfl hl.1 (Nat.le_of_ble_eq_true rfl) dX12_readAtom_147 ⟨Nat.le_of_ble_eq_true rfl, Nat.le_of_ble_eq_true rfl⟩) (fun v147 u H locs hz9 hH hS => ?_)
              obtain ⟨rfl, l_v147, u_v147, x_v1470, x_v1471⟩ := hz9
              have hH : HT D cs A T (a0 :: y3 :: y4 :: O) ((a0, .inr (12, o0 :: o1 :: o2 :: (.ref y3) :: (.ref y4) :: o5 :: (.int y6) :: (.int y7) :: (.int y8) :: (.int y9) :: (.int y10) :: (.int y11) :: (.int y12) :: tl)) :: (y3, .inl (cs.2.1, 900, .inl f3)) :: (y4, .inl (cs.2.1, 1302, .inl f4)) :: X) H := hH
              refine W.widen (k := 0) (n := 0) (Nat.le_of_ble_eq_true rfl) (Nat.le_of_ble_eq_true rfl) ?_
              refine lv_if_eq (tgt := 186) hx hb dX12_readAtom_150 (by decide) (fun c150 => ?_) (fun c150 => ?_)
              · skip
                have tc150 := f_eq (k := 0) (by decide) c150
                clear x_v1470
                replace x_v1471 := x_v1471.resolve_left (fun q9 => q9 tc150)
                refine lv_aload_n hx hb dX12_readAtom_186 rfl (lv_at hl 0 rfl) ?_
                refine lv_iconst (v := 2) hx hb dX12_readAtom_187 (by decide) ?_
                have z9_2 : (2 : Int32).toInt = 2 := by decide
                refine tk_v hH hS hA (tr_V (n := 1) (As := [.int 2]) hx hb hml hown hts hkb hH (ox_map hOX rfl) hks hE hS hA (s_M_fails l D cs kf T (y4 :: O) ((y4, .inl (cs.2.1, 1302, .inl f4)) :: X) a0 hg mq (2) o0 o1 o2 y3 y4 o5 y6 y7 y8 y9 y10 y11 y12 tl f3 t tn t_a0 b_hg (by decide) (by decide) t_y3 t_y4 (by omega) (by omega) (by omega) (by omega) (by omega) (by omega) (by omega) (by omega) (by omega) htm (hO.sub (by decide))) kw_1378 kw_1380 ks_49 kw_13 kw_1381 (by decide +kernel) ⟨Nat.le_of_ble_eq_true rfl, Nat.le_of_ble_eq_true rfl⟩ (x_recv (ci := 12) hkb hH 0 rfl rfl) rfl rfl hl.1 (Nat.le_of_ble_eq_true rfl) dX12_readAtom_188 ⟨Nat.le_of_ble_eq_true rfl, Nat.le_of_ble_eq_true rfl⟩) (fun u H locs hz9 hH hS => ?_)
                obtain ⟨n188_0_11, n188_0_12, rfl, x_v1880, x_v1881⟩ := hz9
                have hH : HT D cs A T (a0 :: y3 :: y4 :: O) ((a0, .inr (12, o0 :: o1 :: o2 :: (.ref y3) :: (.ref y4) :: o5 :: (.int y6) :: (.int y7) :: (.int y8) :: (.int y9) :: (.int y10) :: (.int n188_0_11) :: (.int n188_0_12) :: tl)) :: (y3, .inl (cs.2.1, 900, .inl f3)) :: (y4, .inl (cs.2.1, 1302, .inl f4)) :: X) H := hH
                refine W.widen (k := 0) (n := 0) (Nat.le_of_ble_eq_true rfl) (Nat.le_of_ble_eq_true rfl) ?_
                exact te_v hx hb hr hlocks hH hS (⟨y6, y7, y9, y10, n188_0_11, n188_0_12, f4, rfl, s_f4, by omega, by omega, by omega, x_v1283, by omega, by omega, (by first | exact (fun q => absurd q x_v1880)), (by first | (refine RG_nx ?_ x_v186 (fun _ _ => st_aV ?_) ((hms ?_).nx x_v187) <;> omega) | (refine RG_nx ?_ x_v646 (fun _ _ => st_aV ?_) ((hms ?_).nx x_v647) <;> omega) | (refine (RG_nx ?_ x_v727.1 (fun _ _ => st_aV ?_) x_v727.2.1) <;> omega) | (refine (RG_nx ?_ x_v907.1 (fun _ _ => st_aV ?_) x_v907.2.1) <;> omega) | (refine (RG_nx ?_ x_v1097.1 (fun _ _ => st_aV ?_) x_v1097.2.1) <;> omega) | (refine (RG_nx ?_ x_v1287.1 (fun _ _ => st_aV ?_) x_v1287.2.1) <;> omega) | (refine g169.seq (RG_nx ?_ x_v1727.1 (fun _ _ => st_xY ?_) x_v1727.2.1) <;> omega) | (exact g169.seq (RG_f (m := 2) (G := []) x_v1801 (RG.msw x_v1668) (by decide) (by decide) (fun q9 _ _ => st_xN (by have q8 := (RG.msw x_v1668 q9).2.2.2.1; omega)))) | (exact RG_f (m := 4) (G := []) x_v1559 hms (by decide) (by decide) (fun q9 _ _ => st_aD (by omega))) | (exact (RG_f (m := 2) (G := []) x_v1881 hms (by decide) (by decide) (fun q9 _ _ => st_aN (by have q8 := hq0 q9; omega) (by have q8 := hq0 q9; omega))))), FKP.rf⟩) dX12_readAtom_191
              · skip
                have tc150 := f_ne (k := 0) (by decide) c150
                replace x_v1470 := x_v1470.resolve_left tc150
                clear x_v1471
                refine lv_aload_n hx hb dX12_readAtom_153 rfl (lv_at hl 0 rfl) ?_
                refine lv_iload_n hx hb dX12_readAtom_154 rfl (lv_at hl 1 rfl) ?_
                refine tk_i hH hS hA (tr_V (n := 1) (As := [.int x1]) hx hb hml hown hts hkb hH (ox_map hOX rfl) hks hE hS hA (s_M_goesIn0 l D cs kf T (y4 :: O) ((y4, .inl (cs.2.1, 1302, .inl f4)) :: X) a0 hg mq x1 o0 o1 o2 y3 y4 o5 y6 y7 y8 y9 y10 y11 y12 tl f3 t tn t_a0 b_hg (by omega) (by omega) t_y3 t_y4 (by omega) (by omega) (by omega) (by omega) (by omega) (by omega) (by omega) (by omega) (by omega) htm (by omega) (by omega) x_v1283 (by omega) (by omega) hms (hO.sub (by decide))) kw_1414 kw_1416 ks_58 kw_13 kw_1417 (by decide +kernel) ⟨Nat.le_of_ble_eq_true rfl, Nat.le_of_ble_eq_true rfl⟩ (x_recv (ci := 12) hkb hH 0 rfl rfl) rfl rfl hl.1 (Nat.le_of_ble_eq_true rfl) dX12_readAtom_155 ⟨Nat.le_of_ble_eq_true rfl, Nat.le_of_ble_eq_true rfl⟩) (fun v155 u H locs hz9 hH hS => ?_)
                obtain ⟨n155_0_6, n155_0_7, n155_0_9, n155_0_10, n155_0_11, n155_0_12, rfl, l_v155, u_v155, x_v1550, x_v1551, x_v1552, x_v1553, x_v1554, x_v1555, x_v1556, x_v1557, x_v1558, x_v1559⟩ := hz9
                have hH : HT D cs A T (a0 :: y3 :: y4 :: O) ((a0, .inr (12, o0 :: o1 :: o2 :: (.ref y3) :: (.ref y4) :: o5 :: (.int n155_0_6) :: (.int n155_0_7) :: (.int y8) :: (.int n155_0_9) :: (.int n155_0_10) :: (.int n155_0_11) :: (.int n155_0_12) :: tl)) :: (y3, .inl (cs.2.1, 900, .inl f3)) :: (y4, .inl (cs.2.1, 1302, .inl f4)) :: X) H := hH
                refine W.widen (k := 0) (n := 0) (Nat.le_of_ble_eq_true rfl) (Nat.le_of_ble_eq_true rfl) ?_
                refine lv_if_ne (tgt := 162) hx hb dX12_readAtom_158 (by decide) (fun c158 => ?_) (fun c158 => ?_)
                · skip
                  have tc158 := f_ne (k := 0) (by decide) c158
                  replace x_v1556 := x_v1556.resolve_left tc158
                  replace x_v1558 := x_v1558.resolve_left tc158
                  clear x_v1557
                  clear x_v1559
                  have hsl := k4 (by omega)
                  have hq1 := hq0 (by omega)
                  have g162 : RG t tn [(0, 0)] [(3, 1), (20, 36)] y11 y12 y6 n155_0_11 n155_0_12 n155_0_6 n155_0_7 n155_0_9 n155_0_10 := Or.inr (Or.inl ⟨by omega, by omega, x_v1558.1, GL_nx (fun _ _ => st_aP (by omega) (by decide)) x_v1558.2.1⟩)
                  refine lv_aload_n hx hb dX12_readAtom_162 rfl (lv_at hl 0 rfl) ?_
                  refine lv_iload_n hx hb dX12_readAtom_163 rfl (lv_at hl 1 rfl) ?_
                  refine lv_iconst (v := 1) hx hb dX12_readAtom_164 (by decide) ?_
                  refine lv_iadd hx hb dX12_readAtom_165 ?_
                  refine lv_topi (fun v165 ev165 => ?_)
                  have tv165 : v165.toInt = x1.toInt + (1) := by rw [ev165]; exact add_i rfl (by decide : (1 : Int32).toInt = 1) (by omega) (by omega)
                  refine tk_v hH hS hA (tr_V (n := 1) (As := [.int v165]) hx hb hml hown hts hkb hH (ox_map hOX rfl) hks hE hS hA (s_M_readSum1 l D cs kf T O X a0 hg mq v165 o0 o1 o2 y3 y4 o5 n155_0_6 n155_0_7 y8 n155_0_9 n155_0_10 n155_0_11 n155_0_12 tl f3 f4 t tn t_a0 b_hg (by omega) (by omega) t_y3 t_y4 (by omega) (by omega) (by omega) (by omega) (by omega) (by omega) (by omega) (by omega) s_f4 (by omega) htm (by omega) (by omega) x_v1553 (by first | exact k4 | exact (fun q => absurd q x_v1557) | (intro _; omega)) (fun _ => x_v1558.1) (hO.sub (by decide))) kw_1422 kw_1424 ks_60 kw_13 kw_1425 (by decide +kernel) ⟨Nat.le_of_ble_eq_true rfl, Nat.le_of_ble_eq_true rfl⟩ (x_recv (ci := 12) hkb hH 0 rfl rfl) rfl rfl hl.1 (Nat.le_of_ble_eq_true rfl) dX12_readAtom_166 ⟨Nat.le_of_ble_eq_true rfl, Nat.le_of_ble_eq_true rfl⟩) (fun u H locs hz9 hH hS => ?_)
                  obtain ⟨n166_0_6, n166_0_7, n166_0_9, n166_0_10, n166_0_11, n166_0_12, F166_2, rfl, x_v1660, x_v1661, x_v1662, x_v1663, x_v1664, x_v1665, x_v1666, x_v1667, x_v1668, x_v1669⟩ := hz9
                  have s_F166_2 := x_v1660
                  have hH : HT D cs A T (a0 :: y3 :: y4 :: O) ((a0, .inr (12, o0 :: o1 :: o2 :: (.ref y3) :: (.ref y4) :: o5 :: (.int n166_0_6) :: (.int n166_0_7) :: (.int y8) :: (.int n166_0_9) :: (.int n166_0_10) :: (.int n166_0_11) :: (.int n166_0_12) :: tl)) :: (y3, .inl (cs.2.1, 900, .inl f3)) :: (y4, .inl (cs.2.1, 1302, .inl F166_2)) :: X) H := hH
                  refine W.widen (k := 0) (n := 0) (Nat.le_of_ble_eq_true rfl) (Nat.le_of_ble_eq_true rfl) ?_
                  have g169 : RG t tn [(0, 0)] [(20, 36)] y11 y12 y6 n166_0_11 n166_0_12 n166_0_6 n166_0_7 n166_0_9 n166_0_10 := g162.seq (RG.cons x_v1668)
                  refine lv_aload_n hx hb dX12_readAtom_169 rfl (lv_at hl 0 rfl) ?_
                  refine lv_bipush (v := 36) hx hb dX12_readAtom_170 (by decide) ?_
                  have z9_36 : (36 : Int32).toInt = 36 := by decide
                  refine tk_i hH hS hA (tr_V (n := 1) (As := [.int 36]) hx hb hml hown hts hkb hH (ox_map hOX rfl) hks hE hS hA (s_M_eats l D cs kf T (y4 :: O) ((y4, .inl (cs.2.1, 1302, .inl F166_2)) :: X) a0 hg mq (36) o0 o1 o2 y3 y4 o5 n166_0_6 n166_0_7 y8 n166_0_9 n166_0_10 n166_0_11 n166_0_12 tl f3 t tn t_a0 b_hg t_y3 t_y4 (by omega) (by omega) (by omega) (by omega) (by omega) (by omega) (by omega) (by omega) (by omega) htm (by omega) (by omega) x_v1664 (by omega) (RG.msw x_v1668) (hO.sub (by decide))) kw_1390 kw_1392 ks_52 kw_13 kw_1393 (by decide +kernel) ⟨Nat.le_of_ble_eq_true rfl, Nat.le_of_ble_eq_true rfl⟩ (x_recv (ci := 12) hkb hH 0 rfl rfl) rfl rfl hl.1 (Nat.le_of_ble_eq_true rfl) dX12_readAtom_172 ⟨Nat.le_of_ble_eq_true rfl, Nat.le_of_ble_eq_true rfl⟩) (fun v172 u H locs hz9 hH hS => ?_)
                  obtain ⟨n172_0_6, n172_0_7, n172_0_9, n172_0_10, rfl, l_v172, u_v172, x_v1720, x_v1721, x_v1722, x_v1723, x_v1724, x_v1725, x_v1726, x_v1727, x_v1728⟩ := hz9
                  have hH : HT D cs A T (a0 :: y3 :: y4 :: O) ((a0, .inr (12, o0 :: o1 :: o2 :: (.ref y3) :: (.ref y4) :: o5 :: (.int n172_0_6) :: (.int n172_0_7) :: (.int y8) :: (.int n172_0_9) :: (.int n172_0_10) :: (.int n166_0_11) :: (.int n166_0_12) :: tl)) :: (y3, .inl (cs.2.1, 900, .inl f3)) :: (y4, .inl (cs.2.1, 1302, .inl F166_2)) :: X) H := hH
                  refine W.widen (k := 0) (n := 0) (Nat.le_of_ble_eq_true rfl) (Nat.le_of_ble_eq_true rfl) ?_
                  refine lv_if_ne (tgt := 191) hx hb dX12_readAtom_175 (by decide) (fun c175 => ?_) (fun c175 => ?_)
                  · skip
                    have tc175 := f_ne (k := 0) (by decide) c175
                    replace x_v1726 := x_v1726.resolve_left tc175
                    replace x_v1727 := x_v1727.resolve_left tc175
                    clear x_v1728
                    exact te_v hx hb hr hlocks hH hS (⟨n172_0_6, n172_0_7, n172_0_9, n172_0_10, n166_0_11, n166_0_12, F166_2, rfl, s_F166_2, by omega, by omega, by omega, x_v1723, by omega, by omega, (by first | exact (fun q => absurd q x_v1557) | exact (fun q => absurd (x_v1667 q).1 x_v1557) | exact x_v1667 | (refine RD_le x_v1667 ?_; omega) | (intro q; obtain ⟨c0, c1, c2⟩ := x_v1667 q; refine ⟨?_, ?_, ?_⟩ <;> omega)), (by first | (refine RG_nx ?_ x_v186 (fun _ _ => st_aV ?_) ((hms ?_).nx x_v187) <;> omega) | (refine RG_nx ?_ x_v646 (fun _ _ => st_aV ?_) ((hms ?_).nx x_v647) <;> omega) | (refine (RG_nx ?_ x_v727.1 (fun _ _ => st_aV ?_) x_v727.2.1) <;> omega) | (refine (RG_nx ?_ x_v907.1 (fun _ _ => st_aV ?_) x_v907.2.1) <;> omega) | (refine (RG_nx ?_ x_v1097.1 (fun _ _ => st_aV ?_) x_v1097.2.1) <;> omega) | (refine (RG_nx ?_ x_v1287.1 (fun _ _ => st_aV ?_) x_v1287.2.1) <;> omega) | (refine g169.seq (RG_nx ?_ x_v1727.1 (fun _ _ => st_xY ?_) x_v1727.2.1) <;> omega) | (exact g169.seq (RG_f (m := 2) (G := []) x_v1801 (RG.msw x_v1668) (by decide) (by decide) (fun q9 _ _ => st_xN (by have q8 := (RG.msw x_v1668 q9).2.2.2.1; omega)))) | (exact RG_f (m := 4) (G := []) x_v1559 hms (by decide) (by decide) (fun q9 _ _ => st_aD (by omega))) | (exact (RG_f (m := 2) (G := []) x_v1881 hms (by decide) (by decide) (fun q9 _ _ => st_aN (by have q8 := hq0 q9; omega) (by have q8 := hq0 q9; omega))))), (FKP.tr FKP.rf x_v1669)⟩) dX12_readAtom_191
                  · skip
                    have tc175 := f_eq (k := 0) (by decide) c175
                    clear x_v1726
                    clear x_v1727
                    replace x_v1728 := x_v1728.resolve_left (fun q9 => q9 tc175)
                    obtain ⟨e6, e7, e9, e10, x_v1728⟩ := x_v1728
                    subst e6 e7 e9 e10
                    refine lv_aload_n hx hb dX12_readAtom_178 rfl (lv_at hl 0 rfl) ?_
                    refine lv_iconst (v := 2) hx hb dX12_readAtom_179 (by decide) ?_
                    have z9_2 : (2 : Int32).toInt = 2 := by decide
                    refine tk_v hH hS hA (tr_V (n := 1) (As := [.int 2]) hx hb hml hown hts hkb hH (ox_map hOX rfl) hks hE hS hA (s_M_fails l D cs kf T (y4 :: O) ((y4, .inl (cs.2.1, 1302, .inl F166_2)) :: X) a0 hg mq (2) o0 o1 o2 y3 y4 o5 n166_0_6 n166_0_7 y8 n166_0_9 n166_0_10 n166_0_11 n166_0_12 tl f3 t tn t_a0 b_hg (by decide) (by decide) t_y3 t_y4 (by omega) (by omega) (by omega) (by omega) (by omega) (by omega) (by omega) (by omega) (by omega) htm (hO.sub (by decide))) kw_1378 kw_1380 ks_49 kw_13 kw_1381 (by decide +kernel) ⟨Nat.le_of_ble_eq_true rfl, Nat.le_of_ble_eq_true rfl⟩ (x_recv (ci := 12) hkb hH 0 rfl rfl) rfl rfl hl.1 (Nat.le_of_ble_eq_true rfl) dX12_readAtom_180 ⟨Nat.le_of_ble_eq_true rfl, Nat.le_of_ble_eq_true rfl⟩) (fun u H locs hz9 hH hS => ?_)
                    obtain ⟨n180_0_11, n180_0_12, rfl, x_v1800, x_v1801⟩ := hz9
                    have hH : HT D cs A T (a0 :: y3 :: y4 :: O) ((a0, .inr (12, o0 :: o1 :: o2 :: (.ref y3) :: (.ref y4) :: o5 :: (.int n166_0_6) :: (.int n166_0_7) :: (.int y8) :: (.int n166_0_9) :: (.int n166_0_10) :: (.int n180_0_11) :: (.int n180_0_12) :: tl)) :: (y3, .inl (cs.2.1, 900, .inl f3)) :: (y4, .inl (cs.2.1, 1302, .inl F166_2)) :: X) H := hH
                    refine W.widen (k := 0) (n := 0) (Nat.le_of_ble_eq_true rfl) (Nat.le_of_ble_eq_true rfl) ?_
                    refine lv_goto (tgt := 191) hx hb dX12_readAtom_183 (by decide) ?_
                    exact te_v hx hb hr hlocks hH hS (⟨n166_0_6, n166_0_7, n166_0_9, n166_0_10, n180_0_11, n180_0_12, F166_2, rfl, s_F166_2, by omega, by omega, by omega, x_v1723, by omega, by omega, (by first | exact (fun q => absurd q x_v1557) | exact (fun q => absurd q x_v1800) | exact (fun q => absurd (x_v1667 q).1 x_v1557) | exact (fun q => absurd (x_v1667 q).1 x_v1800) | exact x_v1667 | (refine RD_le x_v1667 ?_; omega) | (intro q; obtain ⟨c0, c1, c2⟩ := x_v1667 q; refine ⟨?_, ?_, ?_⟩ <;> omega)), (by first | (refine RG_nx ?_ x_v186 (fun _ _ => st_aV ?_) ((hms ?_).nx x_v187) <;> omega) | (refine RG_nx ?_ x_v646 (fun _ _ => st_aV ?_) ((hms ?_).nx x_v647) <;> omega) | (refine (RG_nx ?_ x_v727.1 (fun _ _ => st_aV ?_) x_v727.2.1) <;> omega) | (refine (RG_nx ?_ x_v907.1 (fun _ _ => st_aV ?_) x_v907.2.1) <;> omega) | (refine (RG_nx ?_ x_v1097.1 (fun _ _ => st_aV ?_) x_v1097.2.1) <;> omega) | (refine (RG_nx ?_ x_v1287.1 (fun _ _ => st_aV ?_) x_v1287.2.1) <;> omega) | (refine g169.seq (RG_nx ?_ x_v1727.1 (fun _ _ => st_xY ?_) x_v1727.2.1) <;> omega) | (exact g169.seq (RG_f (m := 2) (G := []) x_v1801 (RG.msw x_v1668) (by decide) (by decide) (fun q9 _ _ => st_xN (by have q8 := (RG.msw x_v1668 q9).2.2.2.1; omega)))) | (exact RG_f (m := 4) (G := []) x_v1559 hms (by decide) (by decide) (fun q9 _ _ => st_aD (by omega))) | (exact (RG_f (m := 2) (G := []) x_v1881 hms (by decide) (by decide) (fun q9 _ _ => st_aN (by have q8 := hq0 q9; omega) (by have q8 := hq0 q9; omega))))), (FKP.tr FKP.rf x_v1669)⟩) dX12_readAtom_191
                · skip
                  have tc158 := f_eq (k := 0) (by decide) c158
                  clear x_v1556
                  clear x_v1558
                  replace x_v1557 := x_v1557.resolve_left (fun q9 => q9 tc158)
                  replace x_v1559 := x_v1559.resolve_left (fun q9 => q9 tc158)
                  exfalso; omega
            · skip
              have tc131 := f_ne (k := 0) (by decide) c131
              replace x_v1286 := x_v1286.resolve_left tc131
              replace x_v1287 := x_v1287.resolve_left tc131
              clear x_v1288
              have hsl := k4 (by omega)
              refine lv_aload_n hx hb dX12_readAtom_134 rfl (lv_at hl 0 rfl) ?_
              refine lv_sipush (v := 1006) hx hb dX12_readAtom_135 (by decide) ?_
              have z9_1006 : (1006 : Int32).toInt = 1006 := by decide
              refine tk_v hH hS hA (tr_V (n := 1) (As := [.int 1006]) hx hb hml hown hts hkb hH (ox_map hOX rfl) hks hE hS hA (s_M_codesA l D cs kf T O X a0 hg mq (1006) o0 o1 o2 y3 y4 o5 n128_0_6 n128_0_7 y8 n128_0_9 n128_0_10 y11 y12 tl f3 f4 t tn t_a0 b_hg (by decide) t_y3 t_y4 (by omega) (by omega) (by omega) (by omega) (by omega) (by omega) (by omega) (by omega) s_f4 (by omega) htm (by first | (intro q; constructor <;> omega)) (hO.sub (by decide))) kw_1418 kw_1420 ks_59 kw_13 kw_1421 (by decide +kernel) ⟨Nat.le_of_ble_eq_true rfl, Nat.le_of_ble_eq_true rfl⟩ (x_recv (ci := 12) hkb hH 0 rfl rfl) rfl rfl hl.1 (Nat.le_of_ble_eq_true rfl) dX12_readAtom_138 ⟨Nat.le_of_ble_eq_true rfl, Nat.le_of_ble_eq_true rfl⟩) (fun u H locs hz9 hH hS => ?_)
              obtain ⟨F138_2, rfl, x_v1380, x_v1381, x_v1382⟩ := hz9
              have s_F138_2 := x_v1380
              have hH : HT D cs A T (a0 :: y3 :: y4 :: O) ((a0, .inr (12, o0 :: o1 :: o2 :: (.ref y3) :: (.ref y4) :: o5 :: (.int n128_0_6) :: (.int n128_0_7) :: (.int y8) :: (.int n128_0_9) :: (.int n128_0_10) :: (.int y11) :: (.int y12) :: tl)) :: (y3, .inl (cs.2.1, 900, .inl f3)) :: (y4, .inl (cs.2.1, 1302, .inl F138_2)) :: X) H := hH
              refine W.widen (k := 0) (n := 0) (Nat.le_of_ble_eq_true rfl) (Nat.le_of_ble_eq_true rfl) ?_
              refine lv_goto (tgt := 191) hx hb dX12_readAtom_141 (by decide) ?_
              exact te_v hx hb hr hlocks hH hS (⟨n128_0_6, n128_0_7, n128_0_9, n128_0_10, y11, y12, F138_2, rfl, s_F138_2, by omega, by omega, by omega, x_v1283, by omega, by omega, (by first | (intro q; obtain ⟨c1, c2⟩ := x_v1381 q; refine ⟨?_, ?_, ?_⟩ <;> omega)), (by first | (refine RG_nx ?_ x_v186 (fun _ _ => st_aV ?_) ((hms ?_).nx x_v187) <;> omega) | (refine RG_nx ?_ x_v646 (fun _ _ => st_aV ?_) ((hms ?_).nx x_v647) <;> omega) | (refine (RG_nx ?_ x_v727.1 (fun _ _ => st_aV ?_) x_v727.2.1) <;> omega) | (refine (RG_nx ?_ x_v907.1 (fun _ _ => st_aV ?_) x_v907.2.1) <;> omega) | (refine (RG_nx ?_ x_v1097.1 (fun _ _ => st_aV ?_) x_v1097.2.1) <;> omega) | (refine (RG_nx ?_ x_v1287.1 (fun _ _ => st_aV ?_) x_v1287.2.1) <;> omega) | (refine g169.seq (RG_nx ?_ x_v1727.1 (fun _ _ => st_xY ?_) x_v1727.2.1) <;> omega) | (exact g169.seq (RG_f (m := 2) (G := []) x_v1801 (RG.msw x_v1668) (by decide) (by decide) (fun q9 _ _ => st_xN (by have q8 := (RG.msw x_v1668 q9).2.2.2.1; omega)))) | (exact RG_f (m := 4) (G := []) x_v1559 hms (by decide) (by decide) (fun q9 _ _ => st_aD (by omega))) | (exact (RG_f (m := 2) (G := []) x_v1881 hms (by decide) (by decide) (fun q9 _ _ => st_aN (by have q8 := hq0 q9; omega) (by have q8 := hq0 q9; omega))))), (FKP.tr FKP.rf x_v1382)⟩) dX12_readAtom_191
          · skip
            have tc112 := f_ne (k := 0) (by decide) c112
            replace x_v1096 := x_v1096.resolve_left tc112
            replace x_v1097 := x_v1097.resolve_left tc112
            clear x_v1098
            have hsl := k4 (by omega)
            refine lv_aload_n hx hb dX12_readAtom_115 rfl (lv_at hl 0 rfl) ?_
            refine lv_sipush (v := 1005) hx hb dX12_readAtom_116 (by decide) ?_
            have z9_1005 : (1005 : Int32).toInt = 1005 := by decide
            refine tk_v hH hS hA (tr_V (n := 1) (As := [.int 1005]) hx hb hml hown hts hkb hH (ox_map hOX rfl) hks hE hS hA (s_M_codesA l D cs kf T O X a0 hg mq (1005) o0 o1 o2 y3 y4 o5 n109_0_6 n109_0_7 y8 n109_0_9 n109_0_10 y11 y12 tl f3 f4 t tn t_a0 b_hg (by decide) t_y3 t_y4 (by omega) (by omega) (by omega) (by omega) (by omega) (by omega) (by omega) (by omega) s_f4 (by omega) htm (by first | (intro q; constructor <;> omega)) (hO.sub (by decide))) kw_1418 kw_1420 ks_59 kw_13 kw_1421 (by decide +kernel) ⟨Nat.le_of_ble_eq_true rfl, Nat.le_of_ble_eq_true rfl⟩ (x_recv (ci := 12) hkb hH 0 rfl rfl) rfl rfl hl.1 (Nat.le_of_ble_eq_true rfl) dX12_readAtom_119 ⟨Nat.le_of_ble_eq_true rfl, Nat.le_of_ble_eq_true rfl⟩) (fun u H locs hz9 hH hS => ?_)
            obtain ⟨F119_2, rfl, x_v1190, x_v1191, x_v1192⟩ := hz9
            have s_F119_2 := x_v1190
            have hH : HT D cs A T (a0 :: y3 :: y4 :: O) ((a0, .inr (12, o0 :: o1 :: o2 :: (.ref y3) :: (.ref y4) :: o5 :: (.int n109_0_6) :: (.int n109_0_7) :: (.int y8) :: (.int n109_0_9) :: (.int n109_0_10) :: (.int y11) :: (.int y12) :: tl)) :: (y3, .inl (cs.2.1, 900, .inl f3)) :: (y4, .inl (cs.2.1, 1302, .inl F119_2)) :: X) H := hH
            refine W.widen (k := 0) (n := 0) (Nat.le_of_ble_eq_true rfl) (Nat.le_of_ble_eq_true rfl) ?_
            refine lv_goto (tgt := 191) hx hb dX12_readAtom_122 (by decide) ?_
            exact te_v hx hb hr hlocks hH hS (⟨n109_0_6, n109_0_7, n109_0_9, n109_0_10, y11, y12, F119_2, rfl, s_F119_2, by omega, by omega, by omega, x_v1093, by omega, by omega, (by first | (intro q; obtain ⟨c1, c2⟩ := x_v1191 q; refine ⟨?_, ?_, ?_⟩ <;> omega)), (by first | (refine RG_nx ?_ x_v186 (fun _ _ => st_aV ?_) ((hms ?_).nx x_v187) <;> omega) | (refine RG_nx ?_ x_v646 (fun _ _ => st_aV ?_) ((hms ?_).nx x_v647) <;> omega) | (refine (RG_nx ?_ x_v727.1 (fun _ _ => st_aV ?_) x_v727.2.1) <;> omega) | (refine (RG_nx ?_ x_v907.1 (fun _ _ => st_aV ?_) x_v907.2.1) <;> omega) | (refine (RG_nx ?_ x_v1097.1 (fun _ _ => st_aV ?_) x_v1097.2.1) <;> omega) | (refine (RG_nx ?_ x_v1287.1 (fun _ _ => st_aV ?_) x_v1287.2.1) <;> omega) | (refine g169.seq (RG_nx ?_ x_v1727.1 (fun _ _ => st_xY ?_) x_v1727.2.1) <;> omega) | (exact g169.seq (RG_f (m := 2) (G := []) x_v1801 (RG.msw x_v1668) (by decide) (by decide) (fun q9 _ _ => st_xN (by have q8 := (RG.msw x_v1668 q9).2.2.2.1; omega)))) | (exact RG_f (m := 4) (G := []) x_v1559 hms (by decide) (by decide) (fun q9 _ _ => st_aD (by omega))) | (exact (RG_f (m := 2) (G := []) x_v1881 hms (by decide) (by decide) (fun q9 _ _ => st_aN (by have q8 := hq0 q9; omega) (by have q8 := hq0 q9; omega))))), (FKP.tr FKP.rf x_v1192)⟩) dX12_readAtom_191
        · skip
          have tc93 := f_ne (k := 0) (by decide) c93
          replace x_v906 := x_v906.resolve_left tc93
          replace x_v907 := x_v907.resolve_left tc93
          clear x_v908
          have hsl := k4 (by omega)
          refine lv_aload_n hx hb dX12_readAtom_96 rfl (lv_at hl 0 rfl) ?_
          refine lv_sipush (v := 1004) hx hb dX12_readAtom_97 (by decide) ?_
          have z9_1004 : (1004 : Int32).toInt = 1004 := by decide
          refine tk_v hH hS hA (tr_V (n := 1) (As := [.int 1004]) hx hb hml hown hts hkb hH (ox_map hOX rfl) hks hE hS hA (s_M_codesA l D cs kf T O X a0 hg mq (1004) o0 o1 o2 y3 y4 o5 n90_0_6 n90_0_7 y8 n90_0_9 n90_0_10 y11 y12 tl f3 f4 t tn t_a0 b_hg (by decide) t_y3 t_y4 (by omega) (by omega) (by omega) (by omega) (by omega) (by omega) (by omega) (by omega) s_f4 (by omega) htm (by first | (intro q; constructor <;> omega)) (hO.sub (by decide))) kw_1418 kw_1420 ks_59 kw_13 kw_1421 (by decide +kernel) ⟨Nat.le_of_ble_eq_true rfl, Nat.le_of_ble_eq_true rfl⟩ (x_recv (ci := 12) hkb hH 0 rfl rfl) rfl rfl hl.1 (Nat.le_of_ble_eq_true rfl) dX12_readAtom_100 ⟨Nat.le_of_ble_eq_true rfl, Nat.le_of_ble_eq_true rfl⟩) (fun u H locs hz9 hH hS => ?_)
          obtain ⟨F100_2, rfl, x_v1000, x_v1001, x_v1002⟩ := hz9
          have s_F100_2 := x_v1000
          have hH : HT D cs A T (a0 :: y3 :: y4 :: O) ((a0, .inr (12, o0 :: o1 :: o2 :: (.ref y3) :: (.ref y4) :: o5 :: (.int n90_0_6) :: (.int n90_0_7) :: (.int y8) :: (.int n90_0_9) :: (.int n90_0_10) :: (.int y11) :: (.int y12) :: tl)) :: (y3, .inl (cs.2.1, 900, .inl f3)) :: (y4, .inl (cs.2.1, 1302, .inl F100_2)) :: X) H := hH
          refine W.widen (k := 0) (n := 0) (Nat.le_of_ble_eq_true rfl) (Nat.le_of_ble_eq_true rfl) ?_
          refine lv_goto (tgt := 191) hx hb dX12_readAtom_103 (by decide) ?_
          exact te_v hx hb hr hlocks hH hS (⟨n90_0_6, n90_0_7, n90_0_9, n90_0_10, y11, y12, F100_2, rfl, s_F100_2, by omega, by omega, by omega, x_v903, by omega, by omega, (by first | (intro q; obtain ⟨c1, c2⟩ := x_v1001 q; refine ⟨?_, ?_, ?_⟩ <;> omega)), (by first | (refine RG_nx ?_ x_v186 (fun _ _ => st_aV ?_) ((hms ?_).nx x_v187) <;> omega) | (refine RG_nx ?_ x_v646 (fun _ _ => st_aV ?_) ((hms ?_).nx x_v647) <;> omega) | (refine (RG_nx ?_ x_v727.1 (fun _ _ => st_aV ?_) x_v727.2.1) <;> omega) | (refine (RG_nx ?_ x_v907.1 (fun _ _ => st_aV ?_) x_v907.2.1) <;> omega) | (refine (RG_nx ?_ x_v1097.1 (fun _ _ => st_aV ?_) x_v1097.2.1) <;> omega) | (refine (RG_nx ?_ x_v1287.1 (fun _ _ => st_aV ?_) x_v1287.2.1) <;> omega) | (refine g169.seq (RG_nx ?_ x_v1727.1 (fun _ _ => st_xY ?_) x_v1727.2.1) <;> omega) | (exact g169.seq (RG_f (m := 2) (G := []) x_v1801 (RG.msw x_v1668) (by decide) (by decide) (fun q9 _ _ => st_xN (by have q8 := (RG.msw x_v1668 q9).2.2.2.1; omega)))) | (exact RG_f (m := 4) (G := []) x_v1559 hms (by decide) (by decide) (fun q9 _ _ => st_aD (by omega))) | (exact (RG_f (m := 2) (G := []) x_v1881 hms (by decide) (by decide) (fun q9 _ _ => st_aN (by have q8 := hq0 q9; omega) (by have q8 := hq0 q9; omega))))), (FKP.tr FKP.rf x_v1002)⟩) dX12_readAtom_191
      · skip
        have tc75 := f_ne (k := 0) (by decide) c75
        replace x_v726 := x_v726.resolve_left tc75
        replace x_v727 := x_v727.resolve_left tc75
        clear x_v728
        have hsl := k4 (by omega)
        refine lv_aload_n hx hb dX12_readAtom_78 rfl (lv_at hl 0 rfl) ?_
        refine lv_sipush (v := 1003) hx hb dX12_readAtom_79 (by decide) ?_
        have z9_1003 : (1003 : Int32).toInt = 1003 := by decide
        refine tk_v hH hS hA (tr_V (n := 1) (As := [.int 1003]) hx hb hml hown hts hkb hH (ox_map hOX rfl) hks hE hS hA (s_M_codesA l D cs kf T O X a0 hg mq (1003) o0 o1 o2 y3 y4 o5 n72_0_6 n72_0_7 y8 n72_0_9 n72_0_10 y11 y12 tl f3 f4 t tn t_a0 b_hg (by decide) t_y3 t_y4 (by omega) (by omega) (by omega) (by omega) (by omega) (by omega) (by omega) (by omega) s_f4 (by omega) htm (by first | (intro q; constructor <;> omega)) (hO.sub (by decide))) kw_1418 kw_1420 ks_59 kw_13 kw_1421 (by decide +kernel) ⟨Nat.le_of_ble_eq_true rfl, Nat.le_of_ble_eq_true rfl⟩ (x_recv (ci := 12) hkb hH 0 rfl rfl) rfl rfl hl.1 (Nat.le_of_ble_eq_true rfl) dX12_readAtom_82 ⟨Nat.le_of_ble_eq_true rfl, Nat.le_of_ble_eq_true rfl⟩) (fun u H locs hz9 hH hS => ?_)
        obtain ⟨F82_2, rfl, x_v820, x_v821, x_v822⟩ := hz9
        have s_F82_2 := x_v820
        have hH : HT D cs A T (a0 :: y3 :: y4 :: O) ((a0, .inr (12, o0 :: o1 :: o2 :: (.ref y3) :: (.ref y4) :: o5 :: (.int n72_0_6) :: (.int n72_0_7) :: (.int y8) :: (.int n72_0_9) :: (.int n72_0_10) :: (.int y11) :: (.int y12) :: tl)) :: (y3, .inl (cs.2.1, 900, .inl f3)) :: (y4, .inl (cs.2.1, 1302, .inl F82_2)) :: X) H := hH
        refine W.widen (k := 0) (n := 0) (Nat.le_of_ble_eq_true rfl) (Nat.le_of_ble_eq_true rfl) ?_
        refine lv_goto (tgt := 191) hx hb dX12_readAtom_85 (by decide) ?_
        exact te_v hx hb hr hlocks hH hS (⟨n72_0_6, n72_0_7, n72_0_9, n72_0_10, y11, y12, F82_2, rfl, s_F82_2, by omega, by omega, by omega, x_v723, by omega, by omega, (by first | (intro q; obtain ⟨c1, c2⟩ := x_v821 q; refine ⟨?_, ?_, ?_⟩ <;> omega)), (by first | (refine RG_nx ?_ x_v186 (fun _ _ => st_aV ?_) ((hms ?_).nx x_v187) <;> omega) | (refine RG_nx ?_ x_v646 (fun _ _ => st_aV ?_) ((hms ?_).nx x_v647) <;> omega) | (refine (RG_nx ?_ x_v727.1 (fun _ _ => st_aV ?_) x_v727.2.1) <;> omega) | (refine (RG_nx ?_ x_v907.1 (fun _ _ => st_aV ?_) x_v907.2.1) <;> omega) | (refine (RG_nx ?_ x_v1097.1 (fun _ _ => st_aV ?_) x_v1097.2.1) <;> omega) | (refine (RG_nx ?_ x_v1287.1 (fun _ _ => st_aV ?_) x_v1287.2.1) <;> omega) | (refine g169.seq (RG_nx ?_ x_v1727.1 (fun _ _ => st_xY ?_) x_v1727.2.1) <;> omega) | (exact g169.seq (RG_f (m := 2) (G := []) x_v1801 (RG.msw x_v1668) (by decide) (by decide) (fun q9 _ _ => st_xN (by have q8 := (RG.msw x_v1668 q9).2.2.2.1; omega)))) | (exact RG_f (m := 4) (G := []) x_v1559 hms (by decide) (by decide) (fun q9 _ _ => st_aD (by omega))) | (exact (RG_f (m := 2) (G := []) x_v1881 hms (by decide) (by decide) (fun q9 _ _ => st_aN (by have q8 := hq0 q9; omega) (by have q8 := hq0 q9; omega))))), (FKP.tr FKP.rf x_v822)⟩) dX12_readAtom_191
    · skip
      have tc28 := f_eq (k := 0) (by decide) c28
      refine lv_aload_n hx hb dX12_readAtom_31 rfl (lv_at hl 0 rfl) ?_
      refine x_getk (ci := 12) (C := RX12) (F := TX12) (N := 36) (v := .int y9) hx hb hts uX12 hown hkb hH 0 rfl rfl 9 (by decide) rfl kw_1232 (fun _ h9 => h9) dX12_readAtom_32 ?_
      refine lv_i2l hx hb dX12_readAtom_35 rfl ?_
      refine lv_ldc2 hx hb hown (hts _ kw_1434) dX12_readAtom_36 ?_
      refine lv_ldc2 hx hb hown (hts _ kw_1435) dX12_readAtom_39 ?_
      refine tk_i hH hS hA (tr_S (n := 3) (As := [.long y9.toInt64, .long 16, .long 18]) hx hb hml hown hts hkb hH (ox_map hOX rfl) hks hE hS hA (s_M_within l D cs kf T (a0 :: y3 :: y4 :: O) ((a0, .inr (12, o0 :: o1 :: o2 :: (.ref y3) :: (.ref y4) :: o5 :: (.int y6) :: (.int y7) :: (.int y8) :: (.int y9) :: (.int y10) :: (.int y11) :: (.int y12) :: tl)) :: (y3, .inl (cs.2.1, 900, .inl f3)) :: (y4, .inl (cs.2.1, 1302, .inl f4)) :: X) y9.toInt64 16 18  (hO.sub (by decide))) kw_1341 kw_1342 kw_13 kw_1343 (by decide +kernel) ⟨Nat.le_of_ble_eq_true rfl, Nat.le_of_ble_eq_true rfl⟩ rfl rfl hl.1 (Nat.le_of_ble_eq_true rfl) dX12_readAtom_42 ⟨Nat.le_of_ble_eq_true rfl, Nat.le_of_ble_eq_true rfl⟩) (fun v42 u H locs hz9 hH hS => ?_)
      obtain ⟨rfl, l_v42, u_v42, x_v420, x_v421⟩ := hz9
      simp only [Int32.toInt_toInt64] at x_v420 x_v421
      have k9_16 : (16 : Int64).toInt = 16 := by decide
      have k9_18 : (18 : Int64).toInt = 18 := by decide
      have hH : HT D cs A T (a0 :: y3 :: y4 :: O) ((a0, .inr (12, o0 :: o1 :: o2 :: (.ref y3) :: (.ref y4) :: o5 :: (.int y6) :: (.int y7) :: (.int y8) :: (.int y9) :: (.int y10) :: (.int y11) :: (.int y12) :: tl)) :: (y3, .inl (cs.2.1, 900, .inl f3)) :: (y4, .inl (cs.2.1, 1302, .inl f4)) :: X) H := hH
      refine W.widen (k := 0) (n := 0) (Nat.le_of_ble_eq_true rfl) (Nat.le_of_ble_eq_true rfl) ?_
      refine lv_if_eq (tgt := 70) hx hb dX12_readAtom_45 (by decide) (fun c45 => ?_) (fun c45 => ?_)
      · skip
        have tc45 := f_eq (k := 0) (by decide) c45
        clear x_v420
        replace x_v421 := x_v421.resolve_left (fun q9 => q9 tc45)
        refine lv_aload_n hx hb dX12_readAtom_70 rfl (lv_at hl 0 rfl) ?_
        refine lv_iconst (v := 2) hx hb dX12_readAtom_71 (by decide) ?_
        have z9_2 : (2 : Int32).toInt = 2 := by decide
        refine tk_i hH hS hA (tr_V (n := 1) (As := [.int 2]) hx hb hml hown hts hkb hH (ox_map hOX rfl) hks hE hS hA (s_M_eats l D cs kf T (y4 :: O) ((y4, .inl (cs.2.1, 1302, .inl f4)) :: X) a0 hg mq (2) o0 o1 o2 y3 y4 o5 y6 y7 y8 y9 y10 y11 y12 tl f3 t tn t_a0 b_hg t_y3 t_y4 (by omega) (by omega) (by omega) (by omega) (by omega) (by omega) (by omega) (by omega) (by omega) htm (by omega) (by omega) k3 (by omega) hms (hO.sub (by decide))) kw_1390 kw_1392 ks_52 kw_13 kw_1393 (by decide +kernel) ⟨Nat.le_of_ble_eq_true rfl, Nat.le_of_ble_eq_true rfl⟩ (x_recv (ci := 12) hkb hH 0 rfl rfl) rfl rfl hl.1 (Nat.le_of_ble_eq_true rfl) dX12_readAtom_72 ⟨Nat.le_of_ble_eq_true rfl, Nat.le_of_ble_eq_true rfl⟩) (fun v72 u H locs hz9 hH hS => ?_)
        obtain ⟨n72_0_6, n72_0_7, n72_0_9, n72_0_10, rfl, l_v72, u_v72, x_v720, x_v721, x_v722, x_v723, x_v724, x_v725, x_v726, x_v727, x_v728⟩ := hz9
        have hH : HT D cs A T (a0 :: y3 :: y4 :: O) ((a0, .inr (12, o0 :: o1 :: o2 :: (.ref y3) :: (.ref y4) :: o5 :: (.int n72_0_6) :: (.int n72_0_7) :: (.int y8) :: (.int n72_0_9) :: (.int n72_0_10) :: (.int y11) :: (.int y12) :: tl)) :: (y3, .inl (cs.2.1, 900, .inl f3)) :: (y4, .inl (cs.2.1, 1302, .inl f4)) :: X) H := hH
        refine W.widen (k := 0) (n := 0) (Nat.le_of_ble_eq_true rfl) (Nat.le_of_ble_eq_true rfl) ?_
        refine lv_if_eq (tgt := 88) hx hb dX12_readAtom_75 (by decide) (fun c75 => ?_) (fun c75 => ?_)
        · skip
          have tc75 := f_eq (k := 0) (by decide) c75
          clear x_v726
          clear x_v727
          replace x_v728 := x_v728.resolve_left (fun q9 => q9 tc75)
          obtain ⟨e6, e7, e9, e10, x_v728⟩ := x_v728
          subst e6 e7 e9 e10
          refine lv_aload_n hx hb dX12_readAtom_88 rfl (lv_at hl 0 rfl) ?_
          refine lv_iconst (v := 3) hx hb dX12_readAtom_89 (by decide) ?_
          have z9_3 : (3 : Int32).toInt = 3 := by decide
          refine tk_i hH hS hA (tr_V (n := 1) (As := [.int 3]) hx hb hml hown hts hkb hH (ox_map hOX rfl) hks hE hS hA (s_M_eats l D cs kf T (y4 :: O) ((y4, .inl (cs.2.1, 1302, .inl f4)) :: X) a0 hg mq (3) o0 o1 o2 y3 y4 o5 y6 y7 y8 y9 y10 y11 y12 tl f3 t tn t_a0 b_hg t_y3 t_y4 (by omega) (by omega) (by omega) (by omega) (by omega) (by omega) (by omega) (by omega) (by omega) htm (by omega) (by omega) x_v723 (by omega) hms (hO.sub (by decide))) kw_1390 kw_1392 ks_52 kw_13 kw_1393 (by decide +kernel) ⟨Nat.le_of_ble_eq_true rfl, Nat.le_of_ble_eq_true rfl⟩ (x_recv (ci := 12) hkb hH 0 rfl rfl) rfl rfl hl.1 (Nat.le_of_ble_eq_true rfl) dX12_readAtom_90 ⟨Nat.le_of_ble_eq_true rfl, Nat.le_of_ble_eq_true rfl⟩) (fun v90 u H locs hz9 hH hS => ?_)
          obtain ⟨n90_0_6, n90_0_7, n90_0_9, n90_0_10, rfl, l_v90, u_v90, x_v900, x_v901, x_v902, x_v903, x_v904, x_v905, x_v906, x_v907, x_v908⟩ := hz9
          have hH : HT D cs A T (a0 :: y3 :: y4 :: O) ((a0, .inr (12, o0 :: o1 :: o2 :: (.ref y3) :: (.ref y4) :: o5 :: (.int n90_0_6) :: (.int n90_0_7) :: (.int y8) :: (.int n90_0_9) :: (.int n90_0_10) :: (.int y11) :: (.int y12) :: tl)) :: (y3, .inl (cs.2.1, 900, .inl f3)) :: (y4, .inl (cs.2.1, 1302, .inl f4)) :: X) H := hH
          refine W.widen (k := 0) (n := 0) (Nat.le_of_ble_eq_true rfl) (Nat.le_of_ble_eq_true rfl) ?_
          refine lv_if_eq (tgt := 106) hx hb dX12_readAtom_93 (by decide) (fun c93 => ?_) (fun c93 => ?_)
          · skip
            have tc93 := f_eq (k := 0) (by decide) c93
            clear x_v906
            clear x_v907
            replace x_v908 := x_v908.resolve_left (fun q9 => q9 tc93)
            obtain ⟨e6, e7, e9, e10, x_v908⟩ := x_v908
            subst e6 e7 e9 e10
            refine lv_aload_n hx hb dX12_readAtom_106 rfl (lv_at hl 0 rfl) ?_
            refine lv_bipush (v := 11) hx hb dX12_readAtom_107 (by decide) ?_
            have z9_11 : (11 : Int32).toInt = 11 := by decide
            refine tk_i hH hS hA (tr_V (n := 1) (As := [.int 11]) hx hb hml hown hts hkb hH (ox_map hOX rfl) hks hE hS hA (s_M_eats l D cs kf T (y4 :: O) ((y4, .inl (cs.2.1, 1302, .inl f4)) :: X) a0 hg mq (11) o0 o1 o2 y3 y4 o5 y6 y7 y8 y9 y10 y11 y12 tl f3 t tn t_a0 b_hg t_y3 t_y4 (by omega) (by omega) (by omega) (by omega) (by omega) (by omega) (by omega) (by omega) (by omega) htm (by omega) (by omega) x_v903 (by omega) hms (hO.sub (by decide))) kw_1390 kw_1392 ks_52 kw_13 kw_1393 (by decide +kernel) ⟨Nat.le_of_ble_eq_true rfl, Nat.le_of_ble_eq_true rfl⟩ (x_recv (ci := 12) hkb hH 0 rfl rfl) rfl rfl hl.1 (Nat.le_of_ble_eq_true rfl) dX12_readAtom_109 ⟨Nat.le_of_ble_eq_true rfl, Nat.le_of_ble_eq_true rfl⟩) (fun v109 u H locs hz9 hH hS => ?_)
            obtain ⟨n109_0_6, n109_0_7, n109_0_9, n109_0_10, rfl, l_v109, u_v109, x_v1090, x_v1091, x_v1092, x_v1093, x_v1094, x_v1095, x_v1096, x_v1097, x_v1098⟩ := hz9
            have hH : HT D cs A T (a0 :: y3 :: y4 :: O) ((a0, .inr (12, o0 :: o1 :: o2 :: (.ref y3) :: (.ref y4) :: o5 :: (.int n109_0_6) :: (.int n109_0_7) :: (.int y8) :: (.int n109_0_9) :: (.int n109_0_10) :: (.int y11) :: (.int y12) :: tl)) :: (y3, .inl (cs.2.1, 900, .inl f3)) :: (y4, .inl (cs.2.1, 1302, .inl f4)) :: X) H := hH
            refine W.widen (k := 0) (n := 0) (Nat.le_of_ble_eq_true rfl) (Nat.le_of_ble_eq_true rfl) ?_
            refine lv_if_eq (tgt := 125) hx hb dX12_readAtom_112 (by decide) (fun c112 => ?_) (fun c112 => ?_)
            · skip
              have tc112 := f_eq (k := 0) (by decide) c112
              clear x_v1096
              clear x_v1097
              replace x_v1098 := x_v1098.resolve_left (fun q9 => q9 tc112)
              obtain ⟨e6, e7, e9, e10, x_v1098⟩ := x_v1098
              subst e6 e7 e9 e10
              refine lv_aload_n hx hb dX12_readAtom_125 rfl (lv_at hl 0 rfl) ?_
              refine lv_bipush (v := 8) hx hb dX12_readAtom_126 (by decide) ?_
              have z9_8 : (8 : Int32).toInt = 8 := by decide
              refine tk_i hH hS hA (tr_V (n := 1) (As := [.int 8]) hx hb hml hown hts hkb hH (ox_map hOX rfl) hks hE hS hA (s_M_eats l D cs kf T (y4 :: O) ((y4, .inl (cs.2.1, 1302, .inl f4)) :: X) a0 hg mq (8) o0 o1 o2 y3 y4 o5 y6 y7 y8 y9 y10 y11 y12 tl f3 t tn t_a0 b_hg t_y3 t_y4 (by omega) (by omega) (by omega) (by omega) (by omega) (by omega) (by omega) (by omega) (by omega) htm (by omega) (by omega) x_v1093 (by omega) hms (hO.sub (by decide))) kw_1390 kw_1392 ks_52 kw_13 kw_1393 (by decide +kernel) ⟨Nat.le_of_ble_eq_true rfl, Nat.le_of_ble_eq_true rfl⟩ (x_recv (ci := 12) hkb hH 0 rfl rfl) rfl rfl hl.1 (Nat.le_of_ble_eq_true rfl) dX12_readAtom_128 ⟨Nat.le_of_ble_eq_true rfl, Nat.le_of_ble_eq_true rfl⟩) (fun v128 u H locs hz9 hH hS => ?_)
              obtain ⟨n128_0_6, n128_0_7, n128_0_9, n128_0_10, rfl, l_v128, u_v128, x_v1280, x_v1281, x_v1282, x_v1283, x_v1284, x_v1285, x_v1286, x_v1287, x_v1288⟩ := hz9
              have hH : HT D cs A T (a0 :: y3 :: y4 :: O) ((a0, .inr (12, o0 :: o1 :: o2 :: (.ref y3) :: (.ref y4) :: o5 :: (.int n128_0_6) :: (.int n128_0_7) :: (.int y8) :: (.int n128_0_9) :: (.int n128_0_10) :: (.int y11) :: (.int y12) :: tl)) :: (y3, .inl (cs.2.1, 900, .inl f3)) :: (y4, .inl (cs.2.1, 1302, .inl f4)) :: X) H := hH
              refine W.widen (k := 0) (n := 0) (Nat.le_of_ble_eq_true rfl) (Nat.le_of_ble_eq_true rfl) ?_
              refine lv_if_eq (tgt := 144) hx hb dX12_readAtom_131 (by decide) (fun c131 => ?_) (fun c131 => ?_)
              · skip
                have tc131 := f_eq (k := 0) (by decide) c131
                clear x_v1286
                clear x_v1287
                replace x_v1288 := x_v1288.resolve_left (fun q9 => q9 tc131)
                obtain ⟨e6, e7, e9, e10, x_v1288⟩ := x_v1288
                subst e6 e7 e9 e10
                refine lv_aload_n hx hb dX12_readAtom_144 rfl (lv_at hl 0 rfl) ?_
                refine lv_bipush (v := 35) hx hb dX12_readAtom_145 (by decide) ?_
                have z9_35 : (35 : Int32).toInt = 35 := by decide
                refine tk_i hH hS hA (tr_V (n := 1) (As := [.int 35]) hx hb hml hown hts hkb hH (ox_map hOX rfl) hks hE hS hA (s_M_is l D cs kf T (y4 :: O) ((y4, .inl (cs.2.1, 1302, .inl f4)) :: X) a0 hg mq (35) o0 o1 o2 y3 y4 o5 y6 y7 y8 y9 y10 y11 y12 tl f3 t tn t_a0 b_hg t_y3 t_y4 (by omega) (by omega) (by omega) (by omega) (by omega) (by omega) (by omega) (by omega) (by omega) htm (hO.sub (by decide))) kw_1370 kw_1372 ks_47 kw_13 kw_1373 (by decide +kernel) ⟨Nat.le_of_ble_eq_true rfl, Nat.le_of_ble_eq_true rfl⟩ (x_recv (ci := 12) hkb hH 0 rfl rfl) rfl rfl hl.1 (Nat.le_of_ble_eq_true rfl) dX12_readAtom_147 ⟨Nat.le_of_ble_eq_true rfl, Nat.le_of_ble_eq_true rfl⟩) (fun v147 u H locs hz9 hH hS => ?_)
                obtain ⟨rfl, l_v147, u_v147, x_v1470, x_v1471⟩ := hz9
                have hH : HT D cs A T (a0 :: y3 :: y4 :: O) ((a0, .inr (12, o0 :: o1 :: o2 :: (.ref y3) :: (.ref y4) :: o5 :: (.int y6) :: (.int y7) :: (.int y8) :: (.int y9) :: (.int y10) :: (.int y11) :: (.int y12) :: tl)) :: (y3, .inl (cs.2.1, 900, .inl f3)) :: (y4, .inl (cs.2.1, 1302, .inl f4)) :: X) H := hH
                refine W.widen (k := 0) (n := 0) (Nat.le_of_ble_eq_true rfl) (Nat.le_of_ble_eq_true rfl) ?_
                refine lv_if_eq (tgt := 186) hx hb dX12_readAtom_150 (by decide) (fun c150 => ?_) (fun c150 => ?_)
                · skip
                  have tc150 := f_eq (k := 0) (by decide) c150
                  clear x_v1470
                  replace x_v1471 := x_v1471.resolve_left (fun q9 => q9 tc150)
                  refine lv_aload_n hx hb dX12_readAtom_186 rfl (lv_at hl 0 rfl) ?_
                  refine lv_iconst (v := 2) hx hb dX12_readAtom_187 (by decide) ?_
                  have z9_2 : (2 : Int32).toInt = 2 := by decide
                  refine tk_v hH hS hA (tr_V (n := 1) (As := [.int 2]) hx hb hml hown hts hkb hH (ox_map hOX rfl) hks hE hS hA (s_M_fails l D cs kf T (y4 :: O) ((y4, .inl (cs.2.1, 1302, .inl f4)) :: X) a0 hg mq (2) o0 o1 o2 y3 y4 o5 y6 y7 y8 y9 y10 y11 y12 tl f3 t tn t_a0 b_hg (by decide) (by decide) t_y3 t_y4 (by omega) (by omega) (by omega) (by omega) (by omega) (by omega) (by omega) (by omega) (by omega) htm (hO.sub (by decide))) kw_1378 kw_1380 ks_49 kw_13 kw_1381 (by decide +kernel) ⟨Nat.le_of_ble_eq_true rfl, Nat.le_of_ble_eq_true rfl⟩ (x_recv (ci := 12) hkb hH 0 rfl rfl) rfl rfl hl.1 (Nat.le_of_ble_eq_true rfl) dX12_readAtom_188 ⟨Nat.le_of_ble_eq_true rfl, Nat.le_of_ble_eq_true rfl⟩) (fun u H locs hz9 hH hS => ?_)
                  obtain ⟨n188_0_11, n188_0_12, rfl, x_v1880, x_v1881⟩ := hz9
                  have hH : HT D cs A T (a0 :: y3 :: y4 :: O) ((a0, .inr (12, o0 :: o1 :: o2 :: (.ref y3) :: (.ref y4) :: o5 :: (.int y6) :: (.int y7) :: (.int y8) :: (.int y9) :: (.int y10) :: (.int n188_0_11) :: (.int n188_0_12) :: tl)) :: (y3, .inl (cs.2.1, 900, .inl f3)) :: (y4, .inl (cs.2.1, 1302, .inl f4)) :: X) H := hH
                  refine W.widen (k := 0) (n := 0) (Nat.le_of_ble_eq_true rfl) (Nat.le_of_ble_eq_true rfl) ?_
                  exact te_v hx hb hr hlocks hH hS (⟨y6, y7, y9, y10, n188_0_11, n188_0_12, f4, rfl, s_f4, by omega, by omega, by omega, x_v1283, by omega, by omega, (by first | exact (fun q => absurd q x_v1880)), (by first | (refine RG_nx ?_ x_v186 (fun _ _ => st_aV ?_) ((hms ?_).nx x_v187) <;> omega) | (refine RG_nx ?_ x_v646 (fun _ _ => st_aV ?_) ((hms ?_).nx x_v647) <;> omega) | (refine (RG_nx ?_ x_v727.1 (fun _ _ => st_aV ?_) x_v727.2.1) <;> omega) | (refine (RG_nx ?_ x_v907.1 (fun _ _ => st_aV ?_) x_v907.2.1) <;> omega) | (refine (RG_nx ?_ x_v1097.1 (fun _ _ => st_aV ?_) x_v1097.2.1) <;> omega) | (refine (RG_nx ?_ x_v1287.1 (fun _ _ => st_aV ?_) x_v1287.2.1) <;> omega) | (refine g169.seq (RG_nx ?_ x_v1727.1 (fun _ _ => st_xY ?_) x_v1727.2.1) <;> omega) | (exact g169.seq (RG_f (m := 2) (G := []) x_v1801 (RG.msw x_v1668) (by decide) (by decide) (fun q9 _ _ => st_xN (by have q8 := (RG.msw x_v1668 q9).2.2.2.1; omega)))) | (exact RG_f (m := 4) (G := []) x_v1559 hms (by decide) (by decide) (fun q9 _ _ => st_aD (by omega))) | (exact (RG_f (m := 2) (G := []) x_v1881 hms (by decide) (by decide) (fun q9 _ _ => st_aN (by have q8 := hq0 q9; omega) (by have q8 := hq0 q9; omega))))), FKP.rf⟩) dX12_readAtom_191
                · skip
                  have tc150 := f_ne (k := 0) (by decide) c150
                  replace x_v1470 := x_v1470.resolve_left tc150
                  clear x_v1471
                  refine lv_aload_n hx hb dX12_readAtom_153 rfl (lv_at hl 0 rfl) ?_
                  refine lv_iload_n hx hb dX12_readAtom_154 rfl (lv_at hl 1 rfl) ?_
                  refine tk_i hH hS hA (tr_V (n := 1) (As := [.int x1]) hx hb hml hown hts hkb hH (ox_map hOX rfl) hks hE hS hA (s_M_goesIn0 l D cs kf T (y4 :: O) ((y4, .inl (cs.2.1, 1302, .inl f4)) :: X) a0 hg mq x1 o0 o1 o2 y3 y4 o5 y6 y7 y8 y9 y10 y11 y12 tl f3 t tn t_a0 b_hg (by omega) (by omega) t_y3 t_y4 (by omega) (by omega) (by omega) (by omega) (by omega) (by omega) (by omega) (by omega) (by omega) htm (by omega) (by omega) x_v1283 (by omega) (by omega) hms (hO.sub (by decide))) kw_1414 kw_1416 ks_58 kw_13 kw_1417 (by decide +kernel) ⟨Nat.le_of_ble_eq_true rfl, Nat.le_of_ble_eq_true rfl⟩ (x_recv (ci := 12) hkb hH 0 rfl rfl) rfl rfl hl.1 (Nat.le_of_ble_eq_true rfl) dX12_readAtom_155 ⟨Nat.le_of_ble_eq_true rfl, Nat.le_of_ble_eq_true rfl⟩) (fun v155 u H locs hz9 hH hS => ?_)
                  obtain ⟨n155_0_6, n155_0_7, n155_0_9, n155_0_10, n155_0_11, n155_0_12, rfl, l_v155, u_v155, x_v1550, x_v1551, x_v1552, x_v1553, x_v1554, x_v1555, x_v1556, x_v1557, x_v1558, x_v1559⟩ := hz9
                  have hH : HT D cs A T (a0 :: y3 :: y4 :: O) ((a0, .inr (12, o0 :: o1 :: o2 :: (.ref y3) :: (.ref y4) :: o5 :: (.int n155_0_6) :: (.int n155_0_7) :: (.int y8) :: (.int n155_0_9) :: (.int n155_0_10) :: (.int n155_0_11) :: (.int n155_0_12) :: tl)) :: (y3, .inl (cs.2.1, 900, .inl f3)) :: (y4, .inl (cs.2.1, 1302, .inl f4)) :: X) H := hH
                  refine W.widen (k := 0) (n := 0) (Nat.le_of_ble_eq_true rfl) (Nat.le_of_ble_eq_true rfl) ?_
                  refine lv_if_ne (tgt := 162) hx hb dX12_readAtom_158 (by decide) (fun c158 => ?_) (fun c158 => ?_)
                  · skip
                    have tc158 := f_ne (k := 0) (by decide) c158
                    replace x_v1556 := x_v1556.resolve_left tc158
                    replace x_v1558 := x_v1558.resolve_left tc158
                    clear x_v1557
                    clear x_v1559
                    have hsl := k4 (by omega)
                    have hq1 := hq0 (by omega)
                    have g162 : RG t tn [(0, 0)] [(3, 1), (20, 36)] y11 y12 y6 n155_0_11 n155_0_12 n155_0_6 n155_0_7 n155_0_9 n155_0_10 := Or.inr (Or.inl ⟨by omega, by omega, x_v1558.1, GL_nx (fun _ _ => st_aP (by omega) (by decide)) x_v1558.2.1⟩)
                    refine lv_aload_n hx hb dX12_readAtom_162 rfl (lv_at hl 0 rfl) ?_
                    refine lv_iload_n hx hb dX12_readAtom_163 rfl (lv_at hl 1 rfl) ?_
                    refine lv_iconst (v := 1) hx hb dX12_readAtom_164 (by decide) ?_
                    refine lv_iadd hx hb dX12_readAtom_165 ?_
                    refine lv_topi (fun v165 ev165 => ?_)
                    have tv165 : v165.toInt = x1.toInt + (1) := by rw [ev165]; exact add_i rfl (by decide : (1 : Int32).toInt = 1) (by omega) (by omega)
                    refine tk_v hH hS hA (tr_V (n := 1) (As := [.int v165]) hx hb hml hown hts hkb hH (ox_map hOX rfl) hks hE hS hA (s_M_readSum1 l D cs kf T O X a0 hg mq v165 o0 o1 o2 y3 y4 o5 n155_0_6 n155_0_7 y8 n155_0_9 n155_0_10 n155_0_11 n155_0_12 tl f3 f4 t tn t_a0 b_hg (by omega) (by omega) t_y3 t_y4 (by omega) (by omega) (by omega) (by omega) (by omega) (by omega) (by omega) (by omega) s_f4 (by omega) htm (by omega) (by omega) x_v1553 (by first | exact k4 | exact (fun q => absurd q x_v1557) | (intro _; omega)) (fun _ => x_v1558.1) (hO.sub (by decide))) kw_1422 kw_1424 ks_60 kw_13 kw_1425 (by decide +kernel) ⟨Nat.le_of_ble_eq_true rfl, Nat.le_of_ble_eq_true rfl⟩ (x_recv (ci := 12) hkb hH 0 rfl rfl) rfl rfl hl.1 (Nat.le_of_ble_eq_true rfl) dX12_readAtom_166 ⟨Nat.le_of_ble_eq_true rfl, Nat.le_of_ble_eq_true rfl⟩) (fun u H locs hz9 hH hS => ?_)
                    obtain ⟨n166_0_6, n166_0_7, n166_0_9, n166_0_10, n166_0_11, n166_0_12, F166_2, rfl, x_v1660, x_v1661, x_v1662, x_v1663, x_v1664, x_v1665, x_v1666, x_v1667, x_v1668, x_v1669⟩ := hz9
                    have s_F166_2 := x_v1660
                    have hH : HT D cs A T (a0 :: y3 :: y4 :: O) ((a0, .inr (12, o0 :: o1 :: o2 :: (.ref y3) :: (.ref y4) :: o5 :: (.int n166_0_6) :: (.int n166_0_7) :: (.int y8) :: (.int n166_0_9) :: (.int n166_0_10) :: (.int n166_0_11) :: (.int n166_0_12) :: tl)) :: (y3, .inl (cs.2.1, 900, .inl f3)) :: (y4, .inl (cs.2.1, 1302, .inl F166_2)) :: X) H := hH
                    refine W.widen (k := 0) (n := 0) (Nat.le_of_ble_eq_true rfl) (Nat.le_of_ble_eq_true rfl) ?_
                    have g169 : RG t tn [(0, 0)] [(20, 36)] y11 y12 y6 n166_0_11 n166_0_12 n166_0_6 n166_0_7 n166_0_9 n166_0_10 := g162.seq (RG.cons x_v1668)
                    refine lv_aload_n hx hb dX12_readAtom_169 rfl (lv_at hl 0 rfl) ?_
                    refine lv_bipush (v := 36) hx hb dX12_readAtom_170 (by decide) ?_
                    have z9_36 : (36 : Int32).toInt = 36 := by decide
                    refine tk_i hH hS hA (tr_V (n := 1) (As := [.int 36]) hx hb hml hown hts hkb hH (ox_map hOX rfl) hks hE hS hA (s_M_eats l D cs kf T (y4 :: O) ((y4, .inl (cs.2.1, 1302, .inl F166_2)) :: X) a0 hg mq (36) o0 o1 o2 y3 y4 o5 n166_0_6 n166_0_7 y8 n166_0_9 n166_0_10 n166_0_11 n166_0_12 tl f3 t tn t_a0 b_hg t_y3 t_y4 (by omega) (by omega) (by omega) (by omega) (by omega) (by omega) (by omega) (by omega) (by omega) htm (by omega) (by omega) x_v1664 (by omega) (RG.msw x_v1668) (hO.sub (by decide))) kw_1390 kw_1392 ks_52 kw_13 kw_1393 (by decide +kernel) ⟨Nat.le_of_ble_eq_true rfl, Nat.le_of_ble_eq_true rfl⟩ (x_recv (ci := 12) hkb hH 0 rfl rfl) rfl rfl hl.1 (Nat.le_of_ble_eq_true rfl) dX12_readAtom_172 ⟨Nat.le_of_ble_eq_true rfl, Nat.le_of_ble_eq_true rfl⟩) (fun v172 u H locs hz9 hH hS => ?_)
                    obtain ⟨n172_0_6, n172_0_7, n172_0_9, n172_0_10, rfl, l_v172, u_v172, x_v1720, x_v1721, x_v1722, x_v1723, x_v1724, x_v1725, x_v1726, x_v1727, x_v1728⟩ := hz9
                    have hH : HT D cs A T (a0 :: y3 :: y4 :: O) ((a0, .inr (12, o0 :: o1 :: o2 :: (.ref y3) :: (.ref y4) :: o5 :: (.int n172_0_6) :: (.int n172_0_7) :: (.int y8) :: (.int n172_0_9) :: (.int n172_0_10) :: (.int n166_0_11) :: (.int n166_0_12) :: tl)) :: (y3, .inl (cs.2.1, 900, .inl f3)) :: (y4, .inl (cs.2.1, 1302, .inl F166_2)) :: X) H := hH
                    refine W.widen (k := 0) (n := 0) (Nat.le_of_ble_eq_true rfl) (Nat.le_of_ble_eq_true rfl) ?_
                    refine lv_if_ne (tgt := 191) hx hb dX12_readAtom_175 (by decide) (fun c175 => ?_) (fun c175 => ?_)
                    · skip
                      have tc175 := f_ne (k := 0) (by decide) c175
                      replace x_v1726 := x_v1726.resolve_left tc175
                      replace x_v1727 := x_v1727.resolve_left tc175
                      clear x_v1728
                      exact te_v hx hb hr hlocks hH hS (⟨n172_0_6, n172_0_7, n172_0_9, n172_0_10, n166_0_11, n166_0_12, F166_2, rfl, s_F166_2, by omega, by omega, by omega, x_v1723, by omega, by omega, (by first | exact (fun q => absurd q x_v1557) | exact (fun q => absurd (x_v1667 q).1 x_v1557) | exact x_v1667 | (refine RD_le x_v1667 ?_; omega) | (intro q; obtain ⟨c0, c1, c2⟩ := x_v1667 q; refine ⟨?_, ?_, ?_⟩ <;> omega)), (by first | (refine RG_nx ?_ x_v186 (fun _ _ => st_aV ?_) ((hms ?_).nx x_v187) <;> omega) | (refine RG_nx ?_ x_v646 (fun _ _ => st_aV ?_) ((hms ?_).nx x_v647) <;> omega) | (refine (RG_nx ?_ x_v727.1 (fun _ _ => st_aV ?_) x_v727.2.1) <;> omega) | (refine (RG_nx ?_ x_v907.1 (fun _ _ => st_aV ?_) x_v907.2.1) <;> omega) | (refine (RG_nx ?_ x_v1097.1 (fun _ _ => st_aV ?_) x_v1097.2.1) <;> omega) | (refine (RG_nx ?_ x_v1287.1 (fun _ _ => st_aV ?_) x_v1287.2.1) <;> omega) | (refine g169.seq (RG_nx ?_ x_v1727.1 (fun _ _ => st_xY ?_) x_v1727.2.1) <;> omega) | (exact g169.seq (RG_f (m := 2) (G := []) x_v1801 (RG.msw x_v1668) (by decide) (by decide) (fun q9 _ _ => st_xN (by have q8 := (RG.msw x_v1668 q9).2.2.2.1; omega)))) | (exact RG_f (m := 4) (G := []) x_v1559 hms (by decide) (by decide) (fun q9 _ _ => st_aD (by omega))) | (exact (RG_f (m := 2) (G := []) x_v1881 hms (by decide) (by decide) (fun q9 _ _ => st_aN (by have q8 := hq0 q9; omega) (by have q8 := hq0 q9; omega))))), (FKP.tr FKP.rf x_v1669)⟩) dX12_readAtom_191
                    · skip
                      have tc175 := f_eq (k := 0) (by decide) c175
                      clear x_v1726
                      clear x_v1727
                      replace x_v1728 := x_v1728.resolve_left (fun q9 => q9 tc175)
                      obtain ⟨e6, e7, e9, e10, x_v1728⟩ := x_v1728
                      subst e6 e7 e9 e10
                      refine lv_aload_n hx hb dX12_readAtom_178 rfl (lv_at hl 0 rfl) ?_
                      refine lv_iconst (v := 2) hx hb dX12_readAtom_179 (by decide) ?_
                      have z9_2 : (2 : Int32).toInt = 2 := by decide
                      refine tk_v hH hS hA (tr_V (n := 1) (As := [.int 2]) hx hb hml hown hts hkb hH (ox_map hOX rfl) hks hE hS hA (s_M_fails l D cs kf T (y4 :: O) ((y4, .inl (cs.2.1, 1302, .inl F166_2)) :: X) a0 hg mq (2) o0 o1 o2 y3 y4 o5 n166_0_6 n166_0_7 y8 n166_0_9 n166_0_10 n166_0_11 n166_0_12 tl f3 t tn t_a0 b_hg (by decide) (by decide) t_y3 t_y4 (by omega) (by omega) (by omega) (by omega) (by omega) (by omega) (by omega) (by omega) (by omega) htm (hO.sub (by decide))) kw_1378 kw_1380 ks_49 kw_13 kw_1381 (by decide +kernel) ⟨Nat.le_of_ble_eq_true rfl, Nat.le_of_ble_eq_true rfl⟩ (x_recv (ci := 12) hkb hH 0 rfl rfl) rfl rfl hl.1 (Nat.le_of_ble_eq_true rfl) dX12_readAtom_180 ⟨Nat.le_of_ble_eq_true rfl, Nat.le_of_ble_eq_true rfl⟩) (fun u H locs hz9 hH hS => ?_)
                      obtain ⟨n180_0_11, n180_0_12, rfl, x_v1800, x_v1801⟩ := hz9
                      have hH : HT D cs A T (a0 :: y3 :: y4 :: O) ((a0, .inr (12, o0 :: o1 :: o2 :: (.ref y3) :: (.ref y4) :: o5 :: (.int n166_0_6) :: (.int n166_0_7) :: (.int y8) :: (.int n166_0_9) :: (.int n166_0_10) :: (.int n180_0_11) :: (.int n180_0_12) :: tl)) :: (y3, .inl (cs.2.1, 900, .inl f3)) :: (y4, .inl (cs.2.1, 1302, .inl F166_2)) :: X) H := hH
                      refine W.widen (k := 0) (n := 0) (Nat.le_of_ble_eq_true rfl) (Nat.le_of_ble_eq_true rfl) ?_
                      refine lv_goto (tgt := 191) hx hb dX12_readAtom_183 (by decide) ?_
                      exact te_v hx hb hr hlocks hH hS (⟨n166_0_6, n166_0_7, n166_0_9, n166_0_10, n180_0_11, n180_0_12, F166_2, rfl, s_F166_2, by omega, by omega, by omega, x_v1723, by omega, by omega, (by first | exact (fun q => absurd q x_v1557) | exact (fun q => absurd q x_v1800) | exact (fun q => absurd (x_v1667 q).1 x_v1557) | exact (fun q => absurd (x_v1667 q).1 x_v1800) | exact x_v1667 | (refine RD_le x_v1667 ?_; omega) | (intro q; obtain ⟨c0, c1, c2⟩ := x_v1667 q; refine ⟨?_, ?_, ?_⟩ <;> omega)), (by first | (refine RG_nx ?_ x_v186 (fun _ _ => st_aV ?_) ((hms ?_).nx x_v187) <;> omega) | (refine RG_nx ?_ x_v646 (fun _ _ => st_aV ?_) ((hms ?_).nx x_v647) <;> omega) | (refine (RG_nx ?_ x_v727.1 (fun _ _ => st_aV ?_) x_v727.2.1) <;> omega) | (refine (RG_nx ?_ x_v907.1 (fun _ _ => st_aV ?_) x_v907.2.1) <;> omega) | (refine (RG_nx ?_ x_v1097.1 (fun _ _ => st_aV ?_) x_v1097.2.1) <;> omega) | (refine (RG_nx ?_ x_v1287.1 (fun _ _ => st_aV ?_) x_v1287.2.1) <;> omega) | (refine g169.seq (RG_nx ?_ x_v1727.1 (fun _ _ => st_xY ?_) x_v1727.2.1) <;> omega) | (exact g169.seq (RG_f (m := 2) (G := []) x_v1801 (RG.msw x_v1668) (by decide) (by decide) (fun q9 _ _ => st_xN (by have q8 := (RG.msw x_v1668 q9).2.2.2.1; omega)))) | (exact RG_f (m := 4) (G := []) x_v1559 hms (by decide) (by decide) (fun q9 _ _ => st_aD (by omega))) | (exact (RG_f (m := 2) (G := []) x_v1881 hms (by decide) (by decide) (fun q9 _ _ => st_aN (by have q8 := hq0 q9; omega) (by have q8 := hq0 q9; omega))))), (FKP.tr FKP.rf x_v1669)⟩) dX12_readAtom_191
                  · skip
                    have tc158 := f_eq (k := 0) (by decide) c158
                    clear x_v1556
                    clear x_v1558
                    replace x_v1557 := x_v1557.resolve_left (fun q9 => q9 tc158)
                    replace x_v1559 := x_v1559.resolve_left (fun q9 => q9 tc158)
                    exfalso; omega
              · skip
                have tc131 := f_ne (k := 0) (by decide) c131
                replace x_v1286 := x_v1286.resolve_left tc131
                replace x_v1287 := x_v1287.resolve_left tc131
                clear x_v1288
                have hsl := k4 (by omega)
                refine lv_aload_n hx hb dX12_readAtom_134 rfl (lv_at hl 0 rfl) ?_
                refine lv_sipush (v := 1006) hx hb dX12_readAtom_135 (by decide) ?_
                have z9_1006 : (1006 : Int32).toInt = 1006 := by decide
                refine tk_v hH hS hA (tr_V (n := 1) (As := [.int 1006]) hx hb hml hown hts hkb hH (ox_map hOX rfl) hks hE hS hA (s_M_codesA l D cs kf T O X a0 hg mq (1006) o0 o1 o2 y3 y4 o5 n128_0_6 n128_0_7 y8 n128_0_9 n128_0_10 y11 y12 tl f3 f4 t tn t_a0 b_hg (by decide) t_y3 t_y4 (by omega) (by omega) (by omega) (by omega) (by omega) (by omega) (by omega) (by omega) s_f4 (by omega) htm (by first | (intro q; constructor <;> omega)) (hO.sub (by decide))) kw_1418 kw_1420 ks_59 kw_13 kw_1421 (by decide +kernel) ⟨Nat.le_of_ble_eq_true rfl, Nat.le_of_ble_eq_true rfl⟩ (x_recv (ci := 12) hkb hH 0 rfl rfl) rfl rfl hl.1 (Nat.le_of_ble_eq_true rfl) dX12_readAtom_138 ⟨Nat.le_of_ble_eq_true rfl, Nat.le_of_ble_eq_true rfl⟩) (fun u H locs hz9 hH hS => ?_)
                obtain ⟨F138_2, rfl, x_v1380, x_v1381, x_v1382⟩ := hz9
                have s_F138_2 := x_v1380
                have hH : HT D cs A T (a0 :: y3 :: y4 :: O) ((a0, .inr (12, o0 :: o1 :: o2 :: (.ref y3) :: (.ref y4) :: o5 :: (.int n128_0_6) :: (.int n128_0_7) :: (.int y8) :: (.int n128_0_9) :: (.int n128_0_10) :: (.int y11) :: (.int y12) :: tl)) :: (y3, .inl (cs.2.1, 900, .inl f3)) :: (y4, .inl (cs.2.1, 1302, .inl F138_2)) :: X) H := hH
                refine W.widen (k := 0) (n := 0) (Nat.le_of_ble_eq_true rfl) (Nat.le_of_ble_eq_true rfl) ?_
                refine lv_goto (tgt := 191) hx hb dX12_readAtom_141 (by decide) ?_
                exact te_v hx hb hr hlocks hH hS (⟨n128_0_6, n128_0_7, n128_0_9, n128_0_10, y11, y12, F138_2, rfl, s_F138_2, by omega, by omega, by omega, x_v1283, by omega, by omega, (by first | (intro q; obtain ⟨c1, c2⟩ := x_v1381 q; refine ⟨?_, ?_, ?_⟩ <;> omega)), (by first | (refine RG_nx ?_ x_v186 (fun _ _ => st_aV ?_) ((hms ?_).nx x_v187) <;> omega) | (refine RG_nx ?_ x_v646 (fun _ _ => st_aV ?_) ((hms ?_).nx x_v647) <;> omega) | (refine (RG_nx ?_ x_v727.1 (fun _ _ => st_aV ?_) x_v727.2.1) <;> omega) | (refine (RG_nx ?_ x_v907.1 (fun _ _ => st_aV ?_) x_v907.2.1) <;> omega) | (refine (RG_nx ?_ x_v1097.1 (fun _ _ => st_aV ?_) x_v1097.2.1) <;> omega) | (refine (RG_nx ?_ x_v1287.1 (fun _ _ => st_aV ?_) x_v1287.2.1) <;> omega) | (refine g169.seq (RG_nx ?_ x_v1727.1 (fun _ _ => st_xY ?_) x_v1727.2.1) <;> omega) | (exact g169.seq (RG_f (m := 2) (G := []) x_v1801 (RG.msw x_v1668) (by decide) (by decide) (fun q9 _ _ => st_xN (by have q8 := (RG.msw x_v1668 q9).2.2.2.1; omega)))) | (exact RG_f (m := 4) (G := []) x_v1559 hms (by decide) (by decide) (fun q9 _ _ => st_aD (by omega))) | (exact (RG_f (m := 2) (G := []) x_v1881 hms (by decide) (by decide) (fun q9 _ _ => st_aN (by have q8 := hq0 q9; omega) (by have q8 := hq0 q9; omega))))), (FKP.tr FKP.rf x_v1382)⟩) dX12_readAtom_191
            · skip
              have tc112 := f_ne (k := 0) (by decide) c112
              replace x_v1096 := x_v1096.resolve_left tc112
              replace x_v1097 := x_v1097.resolve_left tc112
              clear x_v1098
              have hsl := k4 (by omega)
              refine lv_aload_n hx hb dX12_readAtom_115 rfl (lv_at hl 0 rfl) ?_
              refine lv_sipush (v := 1005) hx hb dX12_readAtom_116 (by decide) ?_
              have z9_1005 : (1005 : Int32).toInt = 1005 := by decide
              refine tk_v hH hS hA (tr_V (n := 1) (As := [.int 1005]) hx hb hml hown hts hkb hH (ox_map hOX rfl) hks hE hS hA (s_M_codesA l D cs kf T O X a0 hg mq (1005) o0 o1 o2 y3 y4 o5 n109_0_6 n109_0_7 y8 n109_0_9 n109_0_10 y11 y12 tl f3 f4 t tn t_a0 b_hg (by decide) t_y3 t_y4 (by omega) (by omega) (by omega) (by omega) (by omega) (by omega) (by omega) (by omega) s_f4 (by omega) htm (by first | (intro q; constructor <;> omega)) (hO.sub (by decide))) kw_1418 kw_1420 ks_59 kw_13 kw_1421 (by decide +kernel) ⟨Nat.le_of_ble_eq_true rfl, Nat.le_of_ble_eq_true rfl⟩ (x_recv (ci := 12) hkb hH 0 rfl rfl) rfl rfl hl.1 (Nat.le_of_ble_eq_true rfl) dX12_readAtom_119 ⟨Nat.le_of_ble_eq_true rfl, Nat.le_of_ble_eq_true rfl⟩) (fun u H locs hz9 hH hS => ?_)
              obtain ⟨F119_2, rfl, x_v1190, x_v1191, x_v1192⟩ := hz9
              have s_F119_2 := x_v1190
              have hH : HT D cs A T (a0 :: y3 :: y4 :: O) ((a0, .inr (12, o0 :: o1 :: o2 :: (.ref y3) :: (.ref y4) :: o5 :: (.int n109_0_6) :: (.int n109_0_7) :: (.int y8) :: (.int n109_0_9) :: (.int n109_0_10) :: (.int y11) :: (.int y12) :: tl)) :: (y3, .inl (cs.2.1, 900, .inl f3)) :: (y4, .inl (cs.2.1, 1302, .inl F119_2)) :: X) H := hH
              refine W.widen (k := 0) (n := 0) (Nat.le_of_ble_eq_true rfl) (Nat.le_of_ble_eq_true rfl) ?_
              refine lv_goto (tgt := 191) hx hb dX12_readAtom_122 (by decide) ?_
              exact te_v hx hb hr hlocks hH hS (⟨n109_0_6, n109_0_7, n109_0_9, n109_0_10, y11, y12, F119_2, rfl, s_F119_2, by omega, by omega, by omega, x_v1093, by omega, by omega, (by first | (intro q; obtain ⟨c1, c2⟩ := x_v1191 q; refine ⟨?_, ?_, ?_⟩ <;> omega)), (by first | (refine RG_nx ?_ x_v186 (fun _ _ => st_aV ?_) ((hms ?_).nx x_v187) <;> omega) | (refine RG_nx ?_ x_v646 (fun _ _ => st_aV ?_) ((hms ?_).nx x_v647) <;> omega) | (refine (RG_nx ?_ x_v727.1 (fun _ _ => st_aV ?_) x_v727.2.1) <;> omega) | (refine (RG_nx ?_ x_v907.1 (fun _ _ => st_aV ?_) x_v907.2.1) <;> omega) | (refine (RG_nx ?_ x_v1097.1 (fun _ _ => st_aV ?_) x_v1097.2.1) <;> omega) | (refine (RG_nx ?_ x_v1287.1 (fun _ _ => st_aV ?_) x_v1287.2.1) <;> omega) | (refine g169.seq (RG_nx ?_ x_v1727.1 (fun _ _ => st_xY ?_) x_v1727.2.1) <;> omega) | (exact g169.seq (RG_f (m := 2) (G := []) x_v1801 (RG.msw x_v1668) (by decide) (by decide) (fun q9 _ _ => st_xN (by have q8 := (RG.msw x_v1668 q9).2.2.2.1; omega)))) | (exact RG_f (m := 4) (G := []) x_v1559 hms (by decide) (by decide) (fun q9 _ _ => st_aD (by omega))) | (exact (RG_f (m := 2) (G := []) x_v1881 hms (by decide) (by decide) (fun q9 _ _ => st_aN (by have q8 := hq0 q9; omega) (by have q8 := hq0 q9; omega))))), (FKP.tr FKP.rf x_v1192)⟩) dX12_readAtom_191
          · skip
            have tc93 := f_ne (k := 0) (by decide) c93
            replace x_v906 := x_v906.resolve_left tc93
            replace x_v907 := x_v907.resolve_left tc93
            clear x_v908
            have hsl := k4 (by omega)
            refine lv_aload_n hx hb dX12_readAtom_96 rfl (lv_at hl 0 rfl) ?_
            refine lv_sipush (v := 1004) hx hb dX12_readAtom_97 (by decide) ?_
            have z9_1004 : (1004 : Int32).toInt = 1004 := by decide
            refine tk_v hH hS hA (tr_V (n := 1) (As := [.int 1004]) hx hb hml hown hts hkb hH (ox_map hOX rfl) hks hE hS hA (s_M_codesA l D cs kf T O X a0 hg mq (1004) o0 o1 o2 y3 y4 o5 n90_0_6 n90_0_7 y8 n90_0_9 n90_0_10 y11 y12 tl f3 f4 t tn t_a0 b_hg (by decide) t_y3 t_y4 (by omega) (by omega) (by omega) (by omega) (by omega) (by omega) (by omega) (by omega) s_f4 (by omega) htm (by first | (intro q; constructor <;> omega)) (hO.sub (by decide))) kw_1418 kw_1420 ks_59 kw_13 kw_1421 (by decide +kernel) ⟨Nat.le_of_ble_eq_true rfl, Nat.le_of_ble_eq_true rfl⟩ (x_recv (ci := 12) hkb hH 0 rfl rfl) rfl rfl hl.1 (Nat.le_of_ble_eq_true rfl) dX12_readAtom_100 ⟨Nat.le_of_ble_eq_true rfl, Nat.le_of_ble_eq_true rfl⟩) (fun u H locs hz9 hH hS => ?_)
            obtain ⟨F100_2, rfl, x_v1000, x_v1001, x_v1002⟩ := hz9
            have s_F100_2 := x_v1000
            have hH : HT D cs A T (a0 :: y3 :: y4 :: O) ((a0, .inr (12, o0 :: o1 :: o2 :: (.ref y3) :: (.ref y4) :: o5 :: (.int n90_0_6) :: (.int n90_0_7) :: (.int y8) :: (.int n90_0_9) :: (.int n90_0_10) :: (.int y11) :: (.int y12) :: tl)) :: (y3, .inl (cs.2.1, 900, .inl f3)) :: (y4, .inl (cs.2.1, 1302, .inl F100_2)) :: X) H := hH
            refine W.widen (k := 0) (n := 0) (Nat.le_of_ble_eq_true rfl) (Nat.le_of_ble_eq_true rfl) ?_
            refine lv_goto (tgt := 191) hx hb dX12_readAtom_103 (by decide) ?_
            exact te_v hx hb hr hlocks hH hS (⟨n90_0_6, n90_0_7, n90_0_9, n90_0_10, y11, y12, F100_2, rfl, s_F100_2, by omega, by omega, by omega, x_v903, by omega, by omega, (by first | (intro q; obtain ⟨c1, c2⟩ := x_v1001 q; refine ⟨?_, ?_, ?_⟩ <;> omega)), (by first | (refine RG_nx ?_ x_v186 (fun _ _ => st_aV ?_) ((hms ?_).nx x_v187) <;> omega) | (refine RG_nx ?_ x_v646 (fun _ _ => st_aV ?_) ((hms ?_).nx x_v647) <;> omega) | (refine (RG_nx ?_ x_v727.1 (fun _ _ => st_aV ?_) x_v727.2.1) <;> omega) | (refine (RG_nx ?_ x_v907.1 (fun _ _ => st_aV ?_) x_v907.2.1) <;> omega) | (refine (RG_nx ?_ x_v1097.1 (fun _ _ => st_aV ?_) x_v1097.2.1) <;> omega) | (refine (RG_nx ?_ x_v1287.1 (fun _ _ => st_aV ?_) x_v1287.2.1) <;> omega) | (refine g169.seq (RG_nx ?_ x_v1727.1 (fun _ _ => st_xY ?_) x_v1727.2.1) <;> omega) | (exact g169.seq (RG_f (m := 2) (G := []) x_v1801 (RG.msw x_v1668) (by decide) (by decide) (fun q9 _ _ => st_xN (by have q8 := (RG.msw x_v1668 q9).2.2.2.1; omega)))) | (exact RG_f (m := 4) (G := []) x_v1559 hms (by decide) (by decide) (fun q9 _ _ => st_aD (by omega))) | (exact (RG_f (m := 2) (G := []) x_v1881 hms (by decide) (by decide) (fun q9 _ _ => st_aN (by have q8 := hq0 q9; omega) (by have q8 := hq0 q9; omega))))), (FKP.tr FKP.rf x_v1002)⟩) dX12_readAtom_191
        · skip
          have tc75 := f_ne (k := 0) (by decide) c75
          replace x_v726 := x_v726.resolve_left tc75
          replace x_v727 := x_v727.resolve_left tc75
          clear x_v728
          have hsl := k4 (by omega)
          refine lv_aload_n hx hb dX12_readAtom_78 rfl (lv_at hl 0 rfl) ?_
          refine lv_sipush (v := 1003) hx hb dX12_readAtom_79 (by decide) ?_
          have z9_1003 : (1003 : Int32).toInt = 1003 := by decide
          refine tk_v hH hS hA (tr_V (n := 1) (As := [.int 1003]) hx hb hml hown hts hkb hH (ox_map hOX rfl) hks hE hS hA (s_M_codesA l D cs kf T O X a0 hg mq (1003) o0 o1 o2 y3 y4 o5 n72_0_6 n72_0_7 y8 n72_0_9 n72_0_10 y11 y12 tl f3 f4 t tn t_a0 b_hg (by decide) t_y3 t_y4 (by omega) (by omega) (by omega) (by omega) (by omega) (by omega) (by omega) (by omega) s_f4 (by omega) htm (by first | (intro q; constructor <;> omega)) (hO.sub (by decide))) kw_1418 kw_1420 ks_59 kw_13 kw_1421 (by decide +kernel) ⟨Nat.le_of_ble_eq_true rfl, Nat.le_of_ble_eq_true rfl⟩ (x_recv (ci := 12) hkb hH 0 rfl rfl) rfl rfl hl.1 (Nat.le_of_ble_eq_true rfl) dX12_readAtom_82 ⟨Nat.le_of_ble_eq_true rfl, Nat.le_of_ble_eq_true rfl⟩) (fun u H locs hz9 hH hS => ?_)
          obtain ⟨F82_2, rfl, x_v820, x_v821, x_v822⟩ := hz9
          have s_F82_2 := x_v820
          have hH : HT D cs A T (a0 :: y3 :: y4 :: O) ((a0, .inr (12, o0 :: o1 :: o2 :: (.ref y3) :: (.ref y4) :: o5 :: (.int n72_0_6) :: (.int n72_0_7) :: (.int y8) :: (.int n72_0_9) :: (.int n72_0_10) :: (.int y11) :: (.int y12) :: tl)) :: (y3, .inl (cs.2.1, 900, .inl f3)) :: (y4, .inl (cs.2.1, 1302, .inl F82_2)) :: X) H := hH
          refine W.widen (k := 0) (n := 0) (Nat.le_of_ble_eq_true rfl) (Nat.le_of_ble_eq_true rfl) ?_
          refine lv_goto (tgt := 191) hx hb dX12_readAtom_85 (by decide) ?_
          exact te_v hx hb hr hlocks hH hS (⟨n72_0_6, n72_0_7, n72_0_9, n72_0_10, y11, y12, F82_2, rfl, s_F82_2, by omega, by omega, by omega, x_v723, by omega, by omega, (by first | (intro q; obtain ⟨c1, c2⟩ := x_v821 q; refine ⟨?_, ?_, ?_⟩ <;> omega)), (by first | (refine RG_nx ?_ x_v186 (fun _ _ => st_aV ?_) ((hms ?_).nx x_v187) <;> omega) | (refine RG_nx ?_ x_v646 (fun _ _ => st_aV ?_) ((hms ?_).nx x_v647) <;> omega) | (refine (RG_nx ?_ x_v727.1 (fun _ _ => st_aV ?_) x_v727.2.1) <;> omega) | (refine (RG_nx ?_ x_v907.1 (fun _ _ => st_aV ?_) x_v907.2.1) <;> omega) | (refine (RG_nx ?_ x_v1097.1 (fun _ _ => st_aV ?_) x_v1097.2.1) <;> omega) | (refine (RG_nx ?_ x_v1287.1 (fun _ _ => st_aV ?_) x_v1287.2.1) <;> omega) | (refine g169.seq (RG_nx ?_ x_v1727.1 (fun _ _ => st_xY ?_) x_v1727.2.1) <;> omega) | (exact g169.seq (RG_f (m := 2) (G := []) x_v1801 (RG.msw x_v1668) (by decide) (by decide) (fun q9 _ _ => st_xN (by have q8 := (RG.msw x_v1668 q9).2.2.2.1; omega)))) | (exact RG_f (m := 4) (G := []) x_v1559 hms (by decide) (by decide) (fun q9 _ _ => st_aD (by omega))) | (exact (RG_f (m := 2) (G := []) x_v1881 hms (by decide) (by decide) (fun q9 _ _ => st_aN (by have q8 := hq0 q9; omega) (by have q8 := hq0 q9; omega))))), (FKP.tr FKP.rf x_v822)⟩) dX12_readAtom_191
      · skip
        have tc45 := f_ne (k := 0) (by decide) c45
        replace x_v420 := x_v420.resolve_left tc45
        clear x_v421
        have hk3 := k3 (by omega)
        have hsl := k4 (by omega)
        have hq1 := hq0 (by omega)
        refine lv_aload_n hx hb dX12_readAtom_48 rfl (lv_at hl 0 rfl) ?_
        have hk9 : 16 ≤ y9.toInt ∧ y9.toInt ≤ 18 := by omega
        refine lv_sipush (v := 1000) hx hb dX12_readAtom_49 (by decide) ?_
        refine lv_aload_n hx hb dX12_readAtom_52 rfl (lv_at hl 0 rfl) ?_
        refine x_getk (ci := 12) (C := RX12) (F := TX12) (N := 36) (v := .int y9) hx hb hts uX12 hown hkb hH 0 rfl rfl 9 (by decide) rfl kw_1232 (fun _ h9 => h9) dX12_readAtom_53 ?_
        refine lv_iadd hx hb dX12_readAtom_56 ?_
        refine lv_topi (fun v56 ev56 => ?_)
        have tv56 : v56.toInt = (1000) + y9.toInt := by rw [ev56]; exact add_i (by decide : (1000 : Int32).toInt = 1000) rfl (by omega) (by omega)
        refine lv_bipush (v := 16) hx hb dX12_readAtom_57 (by decide) ?_
        refine lv_isub hx hb dX12_readAtom_59 ?_
        refine lv_topi (fun v59 ev59 => ?_)
        have tv59 : v59.toInt = v56.toInt - (16) := by rw [ev59]; exact sub_i rfl (by decide : (16 : Int32).toInt = 16) (by omega) (by omega)
        refine tk_v hH hS hA (tr_V (n := 1) (As := [.int v59]) hx hb hml hown hts hkb hH (ox_map hOX rfl) hks hE hS hA (s_M_codesA l D cs kf T O X a0 hg mq v59 o0 o1 o2 y3 y4 o5 y6 y7 y8 y9 y10 y11 y12 tl f3 f4 t tn t_a0 b_hg (by omega) t_y3 t_y4 (by omega) (by omega) (by omega) (by omega) (by omega) (by omega) (by omega) (by omega) s_f4 (by omega) htm (by first | (intro q; constructor <;> omega)) (hO.sub (by decide))) kw_1418 kw_1420 ks_59 kw_13 kw_1421 (by decide +kernel) ⟨Nat.le_of_ble_eq_true rfl, Nat.le_of_ble_eq_true rfl⟩ (x_recv (ci := 12) hkb hH 0 rfl rfl) rfl rfl hl.1 (Nat.le_of_ble_eq_true rfl) dX12_readAtom_60 ⟨Nat.le_of_ble_eq_true rfl, Nat.le_of_ble_eq_true rfl⟩) (fun u H locs hz9 hH hS => ?_)
        obtain ⟨F60_2, rfl, x_v600, x_v601, x_v602⟩ := hz9
        have s_F60_2 := x_v600
        have hH : HT D cs A T (a0 :: y3 :: y4 :: O) ((a0, .inr (12, o0 :: o1 :: o2 :: (.ref y3) :: (.ref y4) :: o5 :: (.int y6) :: (.int y7) :: (.int y8) :: (.int y9) :: (.int y10) :: (.int y11) :: (.int y12) :: tl)) :: (y3, .inl (cs.2.1, 900, .inl f3)) :: (y4, .inl (cs.2.1, 1302, .inl F60_2)) :: X) H := hH
        refine W.widen (k := 0) (n := 0) (Nat.le_of_ble_eq_true rfl) (Nat.le_of_ble_eq_true rfl) ?_
        refine lv_aload_n hx hb dX12_readAtom_63 rfl (lv_at hl 0 rfl) ?_
        refine tk_v hH hS hA (tr_V (n := 0) (As := []) hx hb hml hown hts hkb hH (ox_map hOX rfl) hks hE hS hA (s_M_next l D cs kf T (y4 :: O) ((y4, .inl (cs.2.1, 1302, .inl F60_2)) :: X) a0 hg mq o0 o1 o2 y3 y4 o5 y6 y7 y8 y9 y10 y11 y12 tl f3 t tn t_a0 b_hg t_y3 t_y4 (by omega) (by omega) (by omega) (by omega) (by omega) (by omega) (by omega) (by omega) (by omega) htm (by omega) (hO.sub (by decide))) kw_1344 kw_1346 ks_43 kw_13 kw_1347 (by decide +kernel) ⟨Nat.le_of_ble_eq_true rfl, Nat.le_of_ble_eq_true rfl⟩ (x_recv (ci := 12) hkb hH 0 rfl rfl) rfl rfl hl.1 (Nat.le_of_ble_eq_true rfl) dX12_readAtom_64 ⟨Nat.le_of_ble_eq_true rfl, Nat.le_of_ble_eq_true rfl⟩) (fun u H locs hz9 hH hS => ?_)
        obtain ⟨n64_0_6, n64_0_7, n64_0_9, n64_0_10, rfl, x_v640, x_v641, x_v642, x_v643, x_v644, x_v645, x_v646, x_v647⟩ := hz9
        have hH : HT D cs A T (a0 :: y3 :: y4 :: O) ((a0, .inr (12, o0 :: o1 :: o2 :: (.ref y3) :: (.ref y4) :: o5 :: (.int n64_0_6) :: (.int n64_0_7) :: (.int y8) :: (.int n64_0_9) :: (.int n64_0_10) :: (.int y11) :: (.int y12) :: tl)) :: (y3, .inl (cs.2.1, 900, .inl f3)) :: (y4, .inl (cs.2.1, 1302, .inl F60_2)) :: X) H := hH
        refine W.widen (k := 0) (n := 0) (Nat.le_of_ble_eq_true rfl) (Nat.le_of_ble_eq_true rfl) ?_
        refine lv_goto (tgt := 191) hx hb dX12_readAtom_67 (by decide) ?_
        exact te_v hx hb hr hlocks hH hS (⟨n64_0_6, n64_0_7, n64_0_9, n64_0_10, y11, y12, F60_2, rfl, s_F60_2, by omega, by omega, by omega, x_v643, by omega, by omega, (by first | (intro q; obtain ⟨c1, c2⟩ := x_v601 q; refine ⟨?_, ?_, ?_⟩ <;> omega)), (by first | (refine RG_nx ?_ x_v186 (fun _ _ => st_aV ?_) ((hms ?_).nx x_v187) <;> omega) | (refine RG_nx ?_ x_v646 (fun _ _ => st_aV ?_) ((hms ?_).nx x_v647) <;> omega) | (refine (RG_nx ?_ x_v727.1 (fun _ _ => st_aV ?_) x_v727.2.1) <;> omega) | (refine (RG_nx ?_ x_v907.1 (fun _ _ => st_aV ?_) x_v907.2.1) <;> omega) | (refine (RG_nx ?_ x_v1097.1 (fun _ _ => st_aV ?_) x_v1097.2.1) <;> omega) | (refine (RG_nx ?_ x_v1287.1 (fun _ _ => st_aV ?_) x_v1287.2.1) <;> omega) | (refine g169.seq (RG_nx ?_ x_v1727.1 (fun _ _ => st_xY ?_) x_v1727.2.1) <;> omega) | (exact g169.seq (RG_f (m := 2) (G := []) x_v1801 (RG.msw x_v1668) (by decide) (by decide) (fun q9 _ _ => st_xN (by have q8 := (RG.msw x_v1668 q9).2.2.2.1; omega)))) | (exact RG_f (m := 4) (G := []) x_v1559 hms (by decide) (by decide) (fun q9 _ _ => st_aD (by omega))) | (exact (RG_f (m := 2) (G := []) x_v1881 hms (by decide) (by decide) (fun q9 _ _ => st_aN (by have q8 := hq0 q9; omega) (by have q8 := hq0 q9; omega))))), (FKP.tr FKP.rf x_v602)⟩) dX12_readAtom_191
  · skip
    have tc6 := f_ne (k := 0) (by decide) c6
    replace x_v30 := x_v30.resolve_left tc6
    clear x_v31
    have hk3 := k3 (by omega)
    have hsl := k4 (by omega)
    have hq1 := hq0 (by omega)
    refine lv_aload_n hx hb dX12_readAtom_9 rfl (lv_at hl 0 rfl) ?_
    refine lv_aload_n hx hb dX12_readAtom_10 rfl (lv_at hl 0 rfl) ?_
    refine x_getk (ci := 12) (C := RX12) (F := TX12) (N := 36) (v := .int y10) hx hb hts uX12 hown hkb hH 0 rfl rfl 10 (by decide) rfl kw_1233 (fun _ h9 => h9) dX12_readAtom_11 ?_
    refine tk_v hH hS hA (tr_V (n := 1) (As := [.int y10]) hx hb hml hown hts hkb hH (ox_map hOX rfl) hks hE hS hA (s_M_codesA l D cs kf T O X a0 hg mq y10 o0 o1 o2 y3 y4 o5 y6 y7 y8 y9 y10 y11 y12 tl f3 f4 t tn t_a0 b_hg (by omega) t_y3 t_y4 (by omega) (by omega) (by omega) (by omega) (by omega) (by omega) (by omega) (by omega) s_f4 (by omega) htm (by first | (intro q; constructor <;> omega)) (hO.sub (by decide))) kw_1418 kw_1420 ks_59 kw_13 kw_1421 (by decide +kernel) ⟨Nat.le_of_ble_eq_true rfl, Nat.le_of_ble_eq_true rfl⟩ (x_recv (ci := 12) hkb hH 0 rfl rfl) rfl rfl hl.1 (Nat.le_of_ble_eq_true rfl) dX12_readAtom_14 ⟨Nat.le_of_ble_eq_true rfl, Nat.le_of_ble_eq_true rfl⟩) (fun u H locs hz9 hH hS => ?_)
    obtain ⟨F14_2, rfl, x_v140, x_v141, x_v142⟩ := hz9
    have s_F14_2 := x_v140
    have hH : HT D cs A T (a0 :: y3 :: y4 :: O) ((a0, .inr (12, o0 :: o1 :: o2 :: (.ref y3) :: (.ref y4) :: o5 :: (.int y6) :: (.int y7) :: (.int y8) :: (.int y9) :: (.int y10) :: (.int y11) :: (.int y12) :: tl)) :: (y3, .inl (cs.2.1, 900, .inl f3)) :: (y4, .inl (cs.2.1, 1302, .inl F14_2)) :: X) H := hH
    refine W.widen (k := 0) (n := 0) (Nat.le_of_ble_eq_true rfl) (Nat.le_of_ble_eq_true rfl) ?_
    refine lv_aload_n hx hb dX12_readAtom_17 rfl (lv_at hl 0 rfl) ?_
    refine tk_v hH hS hA (tr_V (n := 0) (As := []) hx hb hml hown hts hkb hH (ox_map hOX rfl) hks hE hS hA (s_M_next l D cs kf T (y4 :: O) ((y4, .inl (cs.2.1, 1302, .inl F14_2)) :: X) a0 hg mq o0 o1 o2 y3 y4 o5 y6 y7 y8 y9 y10 y11 y12 tl f3 t tn t_a0 b_hg t_y3 t_y4 (by omega) (by omega) (by omega) (by omega) (by omega) (by omega) (by omega) (by omega) (by omega) htm (by omega) (hO.sub (by decide))) kw_1344 kw_1346 ks_43 kw_13 kw_1347 (by decide +kernel) ⟨Nat.le_of_ble_eq_true rfl, Nat.le_of_ble_eq_true rfl⟩ (x_recv (ci := 12) hkb hH 0 rfl rfl) rfl rfl hl.1 (Nat.le_of_ble_eq_true rfl) dX12_readAtom_18 ⟨Nat.le_of_ble_eq_true rfl, Nat.le_of_ble_eq_true rfl⟩) (fun u H locs hz9 hH hS => ?_)
    obtain ⟨n18_0_6, n18_0_7, n18_0_9, n18_0_10, rfl, x_v180, x_v181, x_v182, x_v183, x_v184, x_v185, x_v186, x_v187⟩ := hz9
    have hH : HT D cs A T (a0 :: y3 :: y4 :: O) ((a0, .inr (12, o0 :: o1 :: o2 :: (.ref y3) :: (.ref y4) :: o5 :: (.int n18_0_6) :: (.int n18_0_7) :: (.int y8) :: (.int n18_0_9) :: (.int n18_0_10) :: (.int y11) :: (.int y12) :: tl)) :: (y3, .inl (cs.2.1, 900, .inl f3)) :: (y4, .inl (cs.2.1, 1302, .inl F14_2)) :: X) H := hH
    refine W.widen (k := 0) (n := 0) (Nat.le_of_ble_eq_true rfl) (Nat.le_of_ble_eq_true rfl) ?_
    refine lv_goto (tgt := 191) hx hb dX12_readAtom_21 (by decide) ?_
    exact te_v hx hb hr hlocks hH hS (⟨n18_0_6, n18_0_7, n18_0_9, n18_0_10, y11, y12, F14_2, rfl, s_F14_2, by omega, by omega, by omega, x_v183, by omega, by omega, (by first | (intro q; obtain ⟨c1, c2⟩ := x_v141 q; refine ⟨?_, ?_, ?_⟩ <;> omega)), (by first | (refine RG_nx ?_ x_v186 (fun _ _ => st_aV ?_) ((hms ?_).nx x_v187) <;> omega) | (refine RG_nx ?_ x_v646 (fun _ _ => st_aV ?_) ((hms ?_).nx x_v647) <;> omega) | (refine (RG_nx ?_ x_v727.1 (fun _ _ => st_aV ?_) x_v727.2.1) <;> omega) | (refine (RG_nx ?_ x_v907.1 (fun _ _ => st_aV ?_) x_v907.2.1) <;> omega) | (refine (RG_nx ?_ x_v1097.1 (fun _ _ => st_aV ?_) x_v1097.2.1) <;> omega) | (refine (RG_nx ?_ x_v1287.1 (fun _ _ => st_aV ?_) x_v1287.2.1) <;> omega) | (refine g169.seq (RG_nx ?_ x_v1727.1 (fun _ _ => st_xY ?_) x_v1727.2.1) <;> omega) | (exact g169.seq (RG_f (m := 2) (G := []) x_v1801 (RG.msw x_v1668) (by decide) (by decide) (fun q9 _ _ => st_xN (by have q8 := (RG.msw x_v1668 q9).2.2.2.1; omega)))) | (exact RG_f (m := 4) (G := []) x_v1559 hms (by decide) (by decide) (fun q9 _ _ => st_aD (by omega))) | (exact (RG_f (m := 2) (G := []) x_v1881 hms (by decide) (by decide) (fun q9 _ _ => st_aN (by have q8 := hq0 q9; omega) (by have q8 := hq0 q9; omega))))), (FKP.tr FKP.rf x_v142)⟩) dX12_readAtom_191
set_option maxHeartbeats 4000000 in
set_option maxRecDepth 100000 in
theorem s_M_readTerm0 (l : Launch) (D : va_G) (cs : CS) (kf : KF) (T : TF) (O : List Nat) (X : va_W) (a0 hg mq : Nat) (x1 : Int32) (o0 : Value) (o1 : Value) (o2 : Value) (y3 : Nat) (y4 : Nat) (o5 : Value) (y6 : Int32) (y7 : Int32) (y8 : Int32) (y9 : Int32) (y10 : Int32) (y11 : Int32) (y12 : Int32) (tl : List Value) (f3 : Nat → Int32) (f4 : Nat → Int32) (t : Tp) (tn : Nat) (t_a0 : T a0 = some (22, hg, mq)) (b_hg : hg < 90) (l_x1 : 0 ≤ x1.toInt) (u_x1 : x1.toInt ≤ 0) (t_y3 : T y3 = some (9, 900, 0)) (t_y4 : T y4 = some (8, 1302, 0)) (l_y6 : 0 ≤ y6.toInt) (u_y6 : y6.toInt ≤ 900) (l_y7 : 0 ≤ y7.toInt) (u_y7 : y7.toInt ≤ 900) (l_y8 : 0 ≤ y8.toInt) (u_y8 : y8.toInt ≤ 900) (l_y10 : 0 ≤ y10.toInt) (u_y10 : y10.toInt ≤ 999) (s_f4 : S8 f4) (hn : y8.toInt = (tn : Int)) (htm : TM f3 t) (k1 : y6.toInt ≤ y7.toInt) (k2 : y7.toInt ≤ y8.toInt) (k3 : TK3 y9 y6 y7) (k4 : SL y11 f4 y6) (hms : MSW t tn y11 y6 y7 y9 y10) (hO : okO T (a0 :: y3 :: y4 :: O) []) : TK l D cs kf yX12_readTerm cX12_readTerm 2 none { frames := 26, cells := 0, slots := 0, locals := 555 } [.ref a0, .int x1] T (a0 :: y3 :: y4 :: O) ((a0, .inr (12, o0 :: o1 :: o2 :: (.ref y3) :: (.ref y4) :: o5 :: (.int y6) :: (.int y7) :: (.int y8) :: (.int y9) :: (.int y10) :: (.int y11) :: (.int y12) :: tl)) :: (y3, .inl (cs.2.1, 900, .inl f3)) :: (y4, .inl (cs.2.1, 1302, .inl f4)) :: X) (Tv D cs (fun u => ∃ (n0_6 : Int32) (n0_7 : Int32) (n0_9 : Int32) (n0_10 : Int32) (n0_11 : Int32) (n0_12 : Int32) (G2 : Nat → Int32), u = (T, a0 :: y3 :: y4 :: O, (a0, .inr (12, o0 :: o1 :: o2 :: (.ref y3) :: (.ref y4) :: o5 :: (.int n0_6) :: (.int n0_7) :: (.int y8) :: (.int n0_9) :: (.int n0_10) :: (.int n0_11) :: (.int n0_12) :: tl)) :: (y3, .inl (cs.2.1, 900, .inl f3)) :: (y4, .inl (cs.2.1, 1302, .inl G2)) :: X) ∧ (S8 G2) ∧ (y6.toInt ≤ n0_6.toInt) ∧ (n0_6.toInt ≤ n0_7.toInt) ∧ (n0_7.toInt ≤ y8.toInt) ∧ (TK3 n0_9 n0_6 n0_7) ∧ (0 ≤ n0_10.toInt) ∧ (n0_10.toInt ≤ 999) ∧ (RD f4 G2 y6 n0_6 y11 n0_11) ∧ (RG t tn [(1, 0)] [] y11 y12 y6 n0_11 n0_12 n0_6 n0_7 n0_9 n0_10) ∧ (FKP f4 G2))) := by
  refine tk_of (by decide) (Nat.le_of_ble_eq_true rfl) (fun p e s m below meth c ls A H locs hx hb hr hml hown hts hlocks hnm hkb hH hS hA hOX hks hE hl => ?_)
  have hown : s.vm.findClass RX12 = some m.cls := hown
  have hl : lv_has ls 2 [(0, .ref a0), (1, .int x1)] := hl
  have hOXf := hOX
  have hd0 := dpt_nn s_f4
  have hq0 := fun q9 => (hms q9).2.2.2.1
  refine lv_aload_n hx hb dX12_readTerm_0 rfl (lv_at hl 0 rfl) ?_
  refine lv_iload_n hx hb dX12_readTerm_1 rfl (lv_at hl 1 rfl) ?_
  have J5 : ∀ (n : Nat) (f5_106 : Int32) (f5_107 : Int32) (f5_109 : Int32) (f5_110 : Int32) (f5_111 : Int32) (f5_112 : Int32) (g5_2 : Nat → Int32) (H : Heap) (locs : List Loc) (ls : Array Slot), (900 - f5_106.toInt).toNat = n → (S8 g5_2) → (0 ≤ f5_106.toInt) → (f5_106.toInt ≤ 900) → (0 ≤ f5_107.toInt) → (f5_107.toInt ≤ 900) → (0 ≤ f5_110.toInt) → (f5_110.toInt ≤ 999) → (f5_106.toInt ≤ f5_107.toInt) → (f5_107.toInt ≤ y8.toInt) → (TK3 f5_109 f5_106 f5_107) → (y6.toInt ≤ f5_106.toInt) → (RD f4 g5_2 y6 f5_106 y11 f5_111) → (RG t tn [(1, 0)] [(2, 0)] y11 y12 y6 f5_111 f5_112 f5_106 f5_107 f5_109 f5_110) → (FKP f4 g5_2) → HT D cs A T (a0 :: y3 :: y4 :: O) ((a0, .inr (12, o0 :: o1 :: o2 :: (.ref y3) :: (.ref y4) :: o5 :: (.int f5_106) :: (.int f5_107) :: (.int y8) :: (.int f5_109) :: (.int f5_110) :: (.int f5_111) :: (.int f5_112) :: tl)) :: (y3, .inl (cs.2.1, 900, .inl f3)) :: (y4, .inl (cs.2.1, 1302, .inl g5_2)) :: X) H → va_S A s.heap H locs → lv_has ls 2 [(0, .ref a0), (1, .int x1)] → W p l e { frames := 26, cells := 0, slots := 0, locals := 555 } s m [.ref a0, .int x1].toArray below meth c H locs 0 0 (MQ below (Tv D cs (fun u => ∃ (n0_6 : Int32) (n0_7 : Int32) (n0_9 : Int32) (n0_10 : Int32) (n0_11 : Int32) (n0_12 : Int32) (G2 : Nat → Int32), u = (T, a0 :: y3 :: y4 :: O, (a0, .inr (12, o0 :: o1 :: o2 :: (.ref y3) :: (.ref y4) :: o5 :: (.int n0_6) :: (.int n0_7) :: (.int y8) :: (.int n0_9) :: (.int n0_10) :: (.int n0_11) :: (.int n0_12) :: tl)) :: (y3, .inl (cs.2.1, 900, .inl f3)) :: (y4, .inl (cs.2.1, 1302, .inl G2)) :: X) ∧ (S8 G2) ∧ (y6.toInt ≤ n0_6.toInt) ∧ (n0_6.toInt ≤ n0_7.toInt) ∧ (n0_7.toInt ≤ y8.toInt) ∧ (TK3 n0_9 n0_6 n0_7) ∧ (0 ≤ n0_10.toInt) ∧ (n0_10.toInt ≤ 999) ∧ (RD f4 G2 y6 n0_6 y11 n0_11) ∧ (RG t tn [(1, 0)] [] y11 y12 y6 n0_11 n0_12 n0_6 n0_7 n0_9 n0_10) ∧ (FKP f4 G2)) A) [.ref a0, .int x1].toArray s 0 0 A) (F0 m 5 ls []) := by
    intro n
    induction n using Nat.strongRecOn with
    | _ n ih5 =>
      intro f5_106 f5_107 f5_109 f5_110 f5_111 f5_112 g5_2 H locs ls hm5 s_g5_2 l_f5_106 u_f5_106 l_f5_107 u_f5_107 l_f5_110 u_f5_110 ia5 ib5 ic5 id5 if5 ig5 ik5 hH hS hl
      refine lv_aload_n hx hb dX12_readTerm_5 rfl (lv_at hl 0 rfl) ?_
      refine lv_bipush (v := 34) hx hb dX12_readTerm_6 (by decide) ?_
      have z9_34 : (34 : Int32).toInt = 34 := by decide
      refine tk_i hH hS hA (tr_V (n := 1) (As := [.int 34]) hx hb hml hown hts hkb hH (ox_map hOX rfl) hks hE hS hA (s_M_eats l D cs kf T (y4 :: O) ((y4, .inl (cs.2.1, 1302, .inl g5_2)) :: X) a0 hg mq (34) o0 o1 o2 y3 y4 o5 f5_106 f5_107 y8 f5_109 f5_110 f5_111 f5_112 tl f3 t tn t_a0 b_hg t_y3 t_y4 (by omega) (by omega) (by omega) (by omega) (by omega) (by omega) (by omega) (by omega) (by omega) htm (by omega) (by omega) ic5 (by omega) (RG.msw ig5) (hO.sub (by decide))) kw_1390 kw_1392 ks_52 kw_13 kw_1393 (by decide +kernel) ⟨Nat.le_of_ble_eq_true rfl, Nat.le_of_ble_eq_true rfl⟩ (x_recv (ci := 12) hkb hH 0 rfl rfl) rfl rfl hl.1 (Nat.le_of_ble_eq_true rfl) dX12_readTerm_8 ⟨Nat.le_of_ble_eq_true rfl, Nat.le_of_ble_eq_true rfl⟩) (fun v8 u H locs hz9 hH hS => ?_)
      obtain ⟨n8_0_6, n8_0_7, n8_0_9, n8_0_10, rfl, l_v8, u_v8, x_v80, x_v81, x_v82, x_v83, x_v84, x_v85, x_v86, x_v87, x_v88⟩ := hz9
      have hH : HT D cs A T (a0 :: y3 :: y4 :: O) ((a0, .inr (12, o0 :: o1 :: o2 :: (.ref y3) :: (.ref y4) :: o5 :: (.int n8_0_6) :: (.int n8_0_7) :: (.int y8) :: (.int n8_0_9) :: (.int n8_0_10) :: (.int f5_111) :: (.int f5_112) :: tl)) :: (y3, .inl (cs.2.1, 900, .inl f3)) :: (y4, .inl (cs.2.1, 1302, .inl g5_2)) :: X) H := hH
      refine W.widen (k := 0) (n := 0) (Nat.le_of_ble_eq_true rfl) (Nat.le_of_ble_eq_true rfl) ?_
      refine lv_if_eq (tgt := 29) hx hb dX12_readTerm_11 (by decide) (fun c11 => ?_) (fun c11 => ?_)
      · skip
        have tc11 := f_eq (k := 0) (by decide) c11
        clear x_v86
        clear x_v87
        replace x_v88 := x_v88.resolve_left (fun q9 => q9 tc11)
        obtain ⟨e6, e7, e9, e10, x_v88⟩ := x_v88
        subst e6 e7 e9 e10
        exact te_v hx hb hr hlocks hH hS (⟨f5_106, f5_107, f5_109, f5_110, f5_111, f5_112, g5_2, rfl, s_g5_2, by omega, by omega, by omega, x_v83, by omega, by omega, (by first | exact if5 | (refine RD_le if5 ?_; omega) | (intro q; obtain ⟨c0, c1, c2⟩ := if5 q; refine ⟨?_, ?_, ?_⟩ <;> omega)), (by first | (exact ig5.seq (RG_id (fun q9 => ⟨RG.msw ig5 q9, fun _ _ => st_tN (by have q8 := (RG.msw ig5 q9).2.2.2.1; omega)⟩)))), ik5⟩) dX12_readTerm_29
      · skip
        have tc11 := f_ne (k := 0) (by decide) c11
        replace x_v86 := x_v86.resolve_left tc11
        replace x_v87 := x_v87.resolve_left tc11
        clear x_v88
        refine lv_aload_n hx hb dX12_readTerm_14 rfl (lv_at hl 0 rfl) ?_
        refine lv_iload_n hx hb dX12_readTerm_15 rfl (lv_at hl 1 rfl) ?_
        refine tk_v hH hS hA (tr_V (n := 1) (As := [.int x1]) hx hb hml hown hts hkb hH (ox_map hOX rfl) hks hE hS hA (s_M_readAtom0 l D cs kf T O X a0 hg mq x1 o0 o1 o2 y3 y4 o5 n8_0_6 n8_0_7 y8 n8_0_9 n8_0_10 f5_111 f5_112 tl f3 g5_2 t tn t_a0 b_hg (by omega) (by omega) t_y3 t_y4 (by omega) (by omega) (by omega) (by omega) (by omega) (by omega) (by omega) (by omega) s_g5_2 (by omega) htm (by omega) (by omega) x_v83 (by first | exact k4 | (refine RD_sl k4 if5 ?_; omega) | (intro _; omega)) (fun _ => x_v87.1) (hO.sub (by decide))) kw_1430 kw_1432 ks_62 kw_13 kw_1433 (by decide +kernel) ⟨Nat.le_of_ble_eq_true rfl, Nat.le_of_ble_eq_true rfl⟩ (x_recv (ci := 12) hkb hH 0 rfl rfl) rfl rfl hl.1 (Nat.le_of_ble_eq_true rfl) dX12_readTerm_16 ⟨Nat.le_of_ble_eq_true rfl, Nat.le_of_ble_eq_true rfl⟩) (fun u H locs hz9 hH hS => ?_)
        obtain ⟨n16_0_6, n16_0_7, n16_0_9, n16_0_10, n16_0_11, n16_0_12, F16_2, rfl, x_v160, x_v161, x_v162, x_v163, x_v164, x_v165, x_v166, x_v167, x_v168, x_v169⟩ := hz9
        have s_F16_2 := x_v160
        have hH : HT D cs A T (a0 :: y3 :: y4 :: O) ((a0, .inr (12, o0 :: o1 :: o2 :: (.ref y3) :: (.ref y4) :: o5 :: (.int n16_0_6) :: (.int n16_0_7) :: (.int y8) :: (.int n16_0_9) :: (.int n16_0_10) :: (.int n16_0_11) :: (.int n16_0_12) :: tl)) :: (y3, .inl (cs.2.1, 900, .inl f3)) :: (y4, .inl (cs.2.1, 1302, .inl F16_2)) :: X) H := hH
        refine W.widen (k := 0) (n := 0) (Nat.le_of_ble_eq_true rfl) (Nat.le_of_ble_eq_true rfl) ?_
        refine lv_aload_n hx hb dX12_readTerm_19 rfl (lv_at hl 0 rfl) ?_
        refine lv_sipush (v := 3002) hx hb dX12_readTerm_20 (by decide) ?_
        have z9_3002 : (3002 : Int32).toInt = 3002 := by decide
        refine tk_v hH hS hA (tr_V (n := 1) (As := [.int 3002]) hx hb hml hown hts hkb hH (ox_map hOX rfl) hks hE hS hA (s_M_codesO l D cs kf T O X a0 hg mq (3002) o0 o1 o2 y3 y4 o5 n16_0_6 n16_0_7 y8 n16_0_9 n16_0_10 n16_0_11 n16_0_12 tl f3 F16_2 t tn t_a0 b_hg (by decide) (by decide) t_y3 t_y4 (by omega) (by omega) (by omega) (by omega) (by omega) (by omega) (by omega) (by omega) s_F16_2 (by omega) htm (by first | (intro q; constructor <;> omega) | (intro q; obtain ⟨c0, c1, c2⟩ := if5 q; constructor <;> omega) | (intro q; obtain ⟨c0, c1, c2⟩ := x_v167 q; constructor <;> omega) | (refine RD_cp k4 hd0 if5 ?_ x_v167 ?_ <;> omega) | (refine RD_cp k4 hd0 x_v167 ?_ if5 ?_ <;> omega)) (hO.sub (by decide))) kw_1418 kw_1420 ks_59 kw_13 kw_1421 (by decide +kernel) ⟨Nat.le_of_ble_eq_true rfl, Nat.le_of_ble_eq_true rfl⟩ (x_recv (ci := 12) hkb hH 0 rfl rfl) rfl rfl hl.1 (Nat.le_of_ble_eq_true rfl) dX12_readTerm_23 ⟨Nat.le_of_ble_eq_true rfl, Nat.le_of_ble_eq_true rfl⟩) (fun u H locs hz9 hH hS => ?_)
        obtain ⟨F23_2, rfl, x_v230, x_v231, x_v232⟩ := hz9
        have s_F23_2 := x_v230
        have hH : HT D cs A T (a0 :: y3 :: y4 :: O) ((a0, .inr (12, o0 :: o1 :: o2 :: (.ref y3) :: (.ref y4) :: o5 :: (.int n16_0_6) :: (.int n16_0_7) :: (.int y8) :: (.int n16_0_9) :: (.int n16_0_10) :: (.int n16_0_11) :: (.int n16_0_12) :: tl)) :: (y3, .inl (cs.2.1, 900, .inl f3)) :: (y4, .inl (cs.2.1, 1302, .inl F23_2)) :: X) H := hH
        refine W.widen (k := 0) (n := 0) (Nat.le_of_ble_eq_true rfl) (Nat.le_of_ble_eq_true rfl) ?_
        refine lv_goto (tgt := 5) hx hb dX12_readTerm_26 (by decide) ?_
        exact ih5 _ (by omega) n16_0_6 n16_0_7 n16_0_9 n16_0_10 n16_0_11 n16_0_12 F23_2 _ _ _ rfl s_F23_2 (by omega) (by omega) (by omega) (by omega) (by omega) (by omega) (by omega) (by omega) x_v164 (by omega) (by first | (refine RD_op if5 ?_ x_v167 x_v231; omega) | (refine RD_op x_v167 ?_ if5 x_v231; omega) | exact if5 | exact x_v167 | (refine RD_le if5 ?_; omega) | (refine RD_le x_v167 ?_; omega) | (intro q; obtain ⟨c1, c2⟩ := x_v231 q; refine ⟨?_, ?_, ?_⟩ <;> omega) | (intro q; obtain ⟨c0, c1, c2⟩ := x_v167 q; refine ⟨?_, ?_, ?_⟩ <;> omega) | (intro q; obtain ⟨c0, c1, c2⟩ := x_v167 q; obtain ⟨d1, d2⟩ := x_v231 q; refine ⟨?_, ?_, ?_⟩ <;> omega)) (by first | exact (RG.seq (F' := [(0, 0), (2, 0)]) (RG_id (fun q9 => ⟨hms q9, fun _ _ => st_t⟩)) (RG.cons x_v28)) | (refine RG.seq ig5 (RG.seq (F' := [(0, 0), (2, 0)]) (RG_nx ?_ x_v87.1 (fun _ _ => st_tY ?_) x_v87.2.1) (RG.cons x_v168)) <;> omega)) (FKP.tr (FKP.tr ik5 x_v169) x_v232) hH hS (lv_sub hl [0, 1] rfl)
  refine tk_v hH hS hA (tr_V (n := 1) (As := [.int x1]) hx hb hml hown hts hkb hH (ox_map hOX rfl) hks hE hS hA (s_M_readAtom0 l D cs kf T O X a0 hg mq x1 o0 o1 o2 y3 y4 o5 y6 y7 y8 y9 y10 y11 y12 tl f3 f4 t tn t_a0 b_hg (by omega) (by omega) t_y3 t_y4 (by omega) (by omega) (by omega) (by omega) (by omega) (by omega) (by omega) (by omega) s_f4 (by omega) htm (by omega) (by omega) k3 (by first | exact k4 | (intro _; omega)) hms (hO.sub (by decide))) kw_1430 kw_1432 ks_62 kw_13 kw_1433 (by decide +kernel) ⟨Nat.le_of_ble_eq_true rfl, Nat.le_of_ble_eq_true rfl⟩ (x_recv (ci := 12) hkb hH 0 rfl rfl) rfl rfl hl.1 (Nat.le_of_ble_eq_true rfl) dX12_readTerm_2 ⟨Nat.le_of_ble_eq_true rfl, Nat.le_of_ble_eq_true rfl⟩) (fun u H locs hz9 hH hS => ?_)
  obtain ⟨n2_0_6, n2_0_7, n2_0_9, n2_0_10, n2_0_11, n2_0_12, F2_2, rfl, x_v20, x_v21, x_v22, x_v23, x_v24, x_v25, x_v26, x_v27, x_v28, x_v29⟩ := hz9
  have s_F2_2 := x_v20
  have hH : HT D cs A T (a0 :: y3 :: y4 :: O) ((a0, .inr (12, o0 :: o1 :: o2 :: (.ref y3) :: (.ref y4) :: o5 :: (.int n2_0_6) :: (.int n2_0_7) :: (.int y8) :: (.int n2_0_9) :: (.int n2_0_10) :: (.int n2_0_11) :: (.int n2_0_12) :: tl)) :: (y3, .inl (cs.2.1, 900, .inl f3)) :: (y4, .inl (cs.2.1, 1302, .inl F2_2)) :: X) H := hH
  refine W.widen (k := 0) (n := 0) (Nat.le_of_ble_eq_true rfl) (Nat.le_of_ble_eq_true rfl) ?_
  exact J5 _ n2_0_6 n2_0_7 n2_0_9 n2_0_10 n2_0_11 n2_0_12 F2_2 _ _ _ rfl s_F2_2 (by omega) (by omega) (by omega) (by omega) (by omega) (by omega) (by omega) (by omega) x_v24 (by omega) (by first | exact x_v27 | (refine RD_le x_v27 ?_; omega) | (intro q; obtain ⟨c0, c1, c2⟩ := x_v27 q; refine ⟨?_, ?_, ?_⟩ <;> omega)) (by first | exact (RG.seq (F' := [(0, 0), (2, 0)]) (RG_id (fun q9 => ⟨hms q9, fun _ _ => st_t⟩)) (RG.cons x_v28)) | (refine RG.seq ig5 (RG.seq (F' := [(0, 0), (2, 0)]) (RG_nx ?_ x_v87.1 (fun _ _ => st_tY ?_) x_v87.2.1) (RG.cons x_v168)) <;> omega)) (FKP.tr FKP.rf x_v29) hH hS (lv_sub hl [0, 1] rfl)
set_option maxHeartbeats 4000000 in
set_option maxRecDepth 100000 in
theorem s_M_readSum0 (l : Launch) (D : va_G) (cs : CS) (kf : KF) (T : TF) (O : List Nat) (X : va_W) (a0 hg mq : Nat) (x1 : Int32) (o0 : Value) (o1 : Value) (o2 : Value) (y3 : Nat) (y4 : Nat) (o5 : Value) (y6 : Int32) (y7 : Int32) (y8 : Int32) (y9 : Int32) (y10 : Int32) (y11 : Int32) (y12 : Int32) (tl : List Value) (f3 : Nat → Int32) (f4 : Nat → Int32) (t : Tp) (tn : Nat) (t_a0 : T a0 = some (22, hg, mq)) (b_hg : hg < 90) (l_x1 : 0 ≤ x1.toInt) (u_x1 : x1.toInt ≤ 0) (t_y3 : T y3 = some (9, 900, 0)) (t_y4 : T y4 = some (8, 1302, 0)) (l_y6 : 0 ≤ y6.toInt) (u_y6 : y6.toInt ≤ 900) (l_y7 : 0 ≤ y7.toInt) (u_y7 : y7.toInt ≤ 900) (l_y8 : 0 ≤ y8.toInt) (u_y8 : y8.toInt ≤ 900) (l_y10 : 0 ≤ y10.toInt) (u_y10 : y10.toInt ≤ 999) (s_f4 : S8 f4) (hn : y8.toInt = (tn : Int)) (htm : TM f3 t) (k1 : y6.toInt ≤ y7.toInt) (k2 : y7.toInt ≤ y8.toInt) (k3 : TK3 y9 y6 y7) (k4 : SL y11 f4 y6) (hms : MSW t tn y11 y6 y7 y9 y10) (hO : okO T (a0 :: y3 :: y4 :: O) []) : TK l D cs kf yX12_readSum cX12_readSum 3 none { frames := 27, cells := 0, slots := 0, locals := 576 } [.ref a0, .int x1] T (a0 :: y3 :: y4 :: O) ((a0, .inr (12, o0 :: o1 :: o2 :: (.ref y3) :: (.ref y4) :: o5 :: (.int y6) :: (.int y7) :: (.int y8) :: (.int y9) :: (.int y10) :: (.int y11) :: (.int y12) :: tl)) :: (y3, .inl (cs.2.1, 900, .inl f3)) :: (y4, .inl (cs.2.1, 1302, .inl f4)) :: X) (Tv D cs (fun u => ∃ (n0_6 : Int32) (n0_7 : Int32) (n0_9 : Int32) (n0_10 : Int32) (n0_11 : Int32) (n0_12 : Int32) (G2 : Nat → Int32), u = (T, a0 :: y3 :: y4 :: O, (a0, .inr (12, o0 :: o1 :: o2 :: (.ref y3) :: (.ref y4) :: o5 :: (.int n0_6) :: (.int n0_7) :: (.int y8) :: (.int n0_9) :: (.int n0_10) :: (.int n0_11) :: (.int n0_12) :: tl)) :: (y3, .inl (cs.2.1, 900, .inl f3)) :: (y4, .inl (cs.2.1, 1302, .inl G2)) :: X) ∧ (S8 G2) ∧ (y6.toInt ≤ n0_6.toInt) ∧ (n0_6.toInt ≤ n0_7.toInt) ∧ (n0_7.toInt ≤ y8.toInt) ∧ (TK3 n0_9 n0_6 n0_7) ∧ (0 ≤ n0_10.toInt) ∧ (n0_10.toInt ≤ 999) ∧ (RD f4 G2 y6 n0_6 y11 n0_11) ∧ (RG t tn [(3, 0)] [] y11 y12 y6 n0_11 n0_12 n0_6 n0_7 n0_9 n0_10) ∧ (FKP f4 G2))) := by
  refine tk_of (by decide) (Nat.le_of_ble_eq_true rfl) (fun p e s m below meth c ls A H locs hx hb hr hml hown hts hlocks hnm hkb hH hS hA hOX hks hE hl => ?_)
  have hown : s.vm.findClass RX12 = some m.cls := hown
  have hl : lv_has ls 3 [(0, .ref a0), (1, .int x1)] := hl
  have hOXf := hOX
  have hd0 := dpt_nn s_f4
  have hq0 := fun q9 => (hms q9).2.2.2.1
  refine lv_aload_n hx hb dX12_readSum_0 rfl (lv_at hl 0 rfl) ?_
  refine lv_iload_n hx hb dX12_readSum_1 rfl (lv_at hl 1 rfl) ?_
  have J5 : ∀ (n : Nat) (f5_106 : Int32) (f5_107 : Int32) (f5_109 : Int32) (f5_110 : Int32) (f5_111 : Int32) (f5_112 : Int32) (g5_2 : Nat → Int32) (H : Heap) (locs : List Loc) (ls : Array Slot), (900 - f5_106.toInt).toNat = n → (S8 g5_2) → (0 ≤ f5_106.toInt) → (f5_106.toInt ≤ 900) → (0 ≤ f5_107.toInt) → (f5_107.toInt ≤ 900) → (0 ≤ f5_110.toInt) → (f5_110.toInt ≤ 999) → (f5_106.toInt ≤ f5_107.toInt) → (f5_107.toInt ≤ y8.toInt) → (TK3 f5_109 f5_106 f5_107) → (y6.toInt ≤ f5_106.toInt) → (RD f4 g5_2 y6 f5_106 y11 f5_111) → (RG t tn [(3, 0)] [(4, 0)] y11 y12 y6 f5_111 f5_112 f5_106 f5_107 f5_109 f5_110) → (FKP f4 g5_2) → HT D cs A T (a0 :: y3 :: y4 :: O) ((a0, .inr (12, o0 :: o1 :: o2 :: (.ref y3) :: (.ref y4) :: o5 :: (.int f5_106) :: (.int f5_107) :: (.int y8) :: (.int f5_109) :: (.int f5_110) :: (.int f5_111) :: (.int f5_112) :: tl)) :: (y3, .inl (cs.2.1, 900, .inl f3)) :: (y4, .inl (cs.2.1, 1302, .inl g5_2)) :: X) H → va_S A s.heap H locs → lv_has ls 3 [(0, .ref a0), (1, .int x1)] → W p l e { frames := 27, cells := 0, slots := 0, locals := 576 } s m [.ref a0, .int x1].toArray below meth c H locs 0 0 (MQ below (Tv D cs (fun u => ∃ (n0_6 : Int32) (n0_7 : Int32) (n0_9 : Int32) (n0_10 : Int32) (n0_11 : Int32) (n0_12 : Int32) (G2 : Nat → Int32), u = (T, a0 :: y3 :: y4 :: O, (a0, .inr (12, o0 :: o1 :: o2 :: (.ref y3) :: (.ref y4) :: o5 :: (.int n0_6) :: (.int n0_7) :: (.int y8) :: (.int n0_9) :: (.int n0_10) :: (.int n0_11) :: (.int n0_12) :: tl)) :: (y3, .inl (cs.2.1, 900, .inl f3)) :: (y4, .inl (cs.2.1, 1302, .inl G2)) :: X) ∧ (S8 G2) ∧ (y6.toInt ≤ n0_6.toInt) ∧ (n0_6.toInt ≤ n0_7.toInt) ∧ (n0_7.toInt ≤ y8.toInt) ∧ (TK3 n0_9 n0_6 n0_7) ∧ (0 ≤ n0_10.toInt) ∧ (n0_10.toInt ≤ 999) ∧ (RD f4 G2 y6 n0_6 y11 n0_11) ∧ (RG t tn [(3, 0)] [] y11 y12 y6 n0_11 n0_12 n0_6 n0_7 n0_9 n0_10) ∧ (FKP f4 G2)) A) [.ref a0, .int x1].toArray s 0 0 A) (F0 m 5 ls []) := by
    intro n
    induction n using Nat.strongRecOn with
    | _ n ih5 =>
      intro f5_106 f5_107 f5_109 f5_110 f5_111 f5_112 g5_2 H locs ls hm5 s_g5_2 l_f5_106 u_f5_106 l_f5_107 u_f5_107 l_f5_110 u_f5_110 ia5 ib5 ic5 id5 if5 ig5 ik5 hH hS hl
      refine lv_aload_n hx hb dX12_readSum_5 rfl (lv_at hl 0 rfl) ?_
      refine lv_bipush (v := 32) hx hb dX12_readSum_6 (by decide) ?_
      have z9_32 : (32 : Int32).toInt = 32 := by decide
      refine tk_i hH hS hA (tr_V (n := 1) (As := [.int 32]) hx hb hml hown hts hkb hH (ox_map hOX rfl) hks hE hS hA (s_M_is l D cs kf T (y4 :: O) ((y4, .inl (cs.2.1, 1302, .inl g5_2)) :: X) a0 hg mq (32) o0 o1 o2 y3 y4 o5 f5_106 f5_107 y8 f5_109 f5_110 f5_111 f5_112 tl f3 t tn t_a0 b_hg t_y3 t_y4 (by omega) (by omega) (by omega) (by omega) (by omega) (by omega) (by omega) (by omega) (by omega) htm (hO.sub (by decide))) kw_1370 kw_1372 ks_47 kw_13 kw_1373 (by decide +kernel) ⟨Nat.le_of_ble_eq_true rfl, Nat.le_of_ble_eq_true rfl⟩ (x_recv (ci := 12) hkb hH 0 rfl rfl) rfl rfl hl.1 (Nat.le_of_ble_eq_true rfl) dX12_readSum_8 ⟨Nat.le_of_ble_eq_true rfl, Nat.le_of_ble_eq_true rfl⟩) (fun v8 u H locs hz9 hH hS => ?_)
      obtain ⟨rfl, l_v8, u_v8, x_v80, x_v81⟩ := hz9
      have hH : HT D cs A T (a0 :: y3 :: y4 :: O) ((a0, .inr (12, o0 :: o1 :: o2 :: (.ref y3) :: (.ref y4) :: o5 :: (.int f5_106) :: (.int f5_107) :: (.int y8) :: (.int f5_109) :: (.int f5_110) :: (.int f5_111) :: (.int f5_112) :: tl)) :: (y3, .inl (cs.2.1, 900, .inl f3)) :: (y4, .inl (cs.2.1, 1302, .inl g5_2)) :: X) H := hH
      refine W.widen (k := 0) (n := 0) (Nat.le_of_ble_eq_true rfl) (Nat.le_of_ble_eq_true rfl) ?_
      refine lv_if_ne (tgt := 23) hx hb dX12_readSum_11 (by decide) (fun c11 => ?_) (fun c11 => ?_)
      · skip
        have tc11 := f_ne (k := 0) (by decide) c11
        replace x_v80 := x_v80.resolve_left tc11
        clear x_v81
        refine lv_aload_n hx hb dX12_readSum_23 rfl (lv_at hl 0 rfl) ?_
        refine x_getk (ci := 12) (C := RX12) (F := TX12) (N := 36) (v := .int f5_109) hx hb hts uX12 hown hkb hH 0 rfl rfl 9 (by decide) rfl kw_1232 (fun _ h9 => h9) dX12_readSum_24 ?_
        refine lv_bipush (v := 32) hx hb dX12_readSum_27 (by decide) ?_
        refine lv_icmp_ne (tgt := 38) hx hb dX12_readSum_29 (by decide) (fun c29 => ?_) (fun c29 => ?_)
        · skip
          have tc29 := f_ne (k := 32) (by decide) c29
          refine lv_sipush (v := 3001) hx hb dX12_readSum_38 (by decide) ?_
          refine lv_istore_n (lv' := [(2, .int 3001), (0, .ref a0), (1, .int x1)]) hx hb dX12_readSum_41 rfl hl (by decide) rfl (fun ls hl => ?_)
          have hk5 := ic5 (by omega)
          refine lv_aload_n hx hb dX12_readSum_42 rfl (lv_at hl 1 rfl) ?_
          refine tk_v hH hS hA (tr_V (n := 0) (As := []) hx hb hml hown hts hkb hH (ox_map hOX rfl) hks hE hS hA (s_M_next l D cs kf T (y4 :: O) ((y4, .inl (cs.2.1, 1302, .inl g5_2)) :: X) a0 hg mq o0 o1 o2 y3 y4 o5 f5_106 f5_107 y8 f5_109 f5_110 f5_111 f5_112 tl f3 t tn t_a0 b_hg t_y3 t_y4 (by omega) (by omega) (by omega) (by omega) (by omega) (by omega) (by omega) (by omega) (by omega) htm (by omega) (hO.sub (by decide))) kw_1344 kw_1346 ks_43 kw_13 kw_1347 (by decide +kernel) ⟨Nat.le_of_ble_eq_true rfl, Nat.le_of_ble_eq_true rfl⟩ (x_recv (ci := 12) hkb hH 0 rfl rfl) rfl rfl hl.1 (Nat.le_of_ble_eq_true rfl) dX12_readSum_43 ⟨Nat.le_of_ble_eq_true rfl, Nat.le_of_ble_eq_true rfl⟩) (fun u H locs hz9 hH hS => ?_)
          obtain ⟨n43_0_6, n43_0_7, n43_0_9, n43_0_10, rfl, x_v430, x_v431, x_v432, x_v433, x_v434, x_v435, x_v436, x_v437⟩ := hz9
          have hH : HT D cs A T (a0 :: y3 :: y4 :: O) ((a0, .inr (12, o0 :: o1 :: o2 :: (.ref y3) :: (.ref y4) :: o5 :: (.int n43_0_6) :: (.int n43_0_7) :: (.int y8) :: (.int n43_0_9) :: (.int n43_0_10) :: (.int f5_111) :: (.int f5_112) :: tl)) :: (y3, .inl (cs.2.1, 900, .inl f3)) :: (y4, .inl (cs.2.1, 1302, .inl g5_2)) :: X) H := hH
          refine W.widen (k := 0) (n := 0) (Nat.le_of_ble_eq_true rfl) (Nat.le_of_ble_eq_true rfl) ?_
          refine lv_aload_n hx hb dX12_readSum_46 rfl (lv_at hl 1 rfl) ?_
          refine lv_iload_n hx hb dX12_readSum_47 rfl (lv_at hl 2 rfl) ?_
          refine tk_v hH hS hA (tr_V (n := 1) (As := [.int x1]) hx hb hml hown hts hkb hH (ox_map hOX rfl) hks hE hS hA (s_M_readTerm0 l D cs kf T O X a0 hg mq x1 o0 o1 o2 y3 y4 o5 n43_0_6 n43_0_7 y8 n43_0_9 n43_0_10 f5_111 f5_112 tl f3 g5_2 t tn t_a0 b_hg (by omega) (by omega) t_y3 t_y4 (by omega) (by omega) (by omega) (by omega) (by omega) (by omega) (by omega) (by omega) s_g5_2 (by omega) htm (by omega) (by omega) x_v433 (by first | exact k4 | (refine RD_sl k4 if5 ?_; omega) | (intro _; omega)) (fun _ => x_v436) (hO.sub (by decide))) kw_1426 kw_1428 ks_61 kw_13 kw_1429 (by decide +kernel) ⟨Nat.le_of_ble_eq_true rfl, Nat.le_of_ble_eq_true rfl⟩ (x_recv (ci := 12) hkb hH 0 rfl rfl) rfl rfl hl.1 (Nat.le_of_ble_eq_true rfl) dX12_readSum_48 ⟨Nat.le_of_ble_eq_true rfl, Nat.le_of_ble_eq_true rfl⟩) (fun u H locs hz9 hH hS => ?_)
          obtain ⟨n48_0_6, n48_0_7, n48_0_9, n48_0_10, n48_0_11, n48_0_12, F48_2, rfl, x_v480, x_v481, x_v482, x_v483, x_v484, x_v485, x_v486, x_v487, x_v488, x_v489⟩ := hz9
          have s_F48_2 := x_v480
          have hH : HT D cs A T (a0 :: y3 :: y4 :: O) ((a0, .inr (12, o0 :: o1 :: o2 :: (.ref y3) :: (.ref y4) :: o5 :: (.int n48_0_6) :: (.int n48_0_7) :: (.int y8) :: (.int n48_0_9) :: (.int n48_0_10) :: (.int n48_0_11) :: (.int n48_0_12) :: tl)) :: (y3, .inl (cs.2.1, 900, .inl f3)) :: (y4, .inl (cs.2.1, 1302, .inl F48_2)) :: X) H := hH
          refine W.widen (k := 0) (n := 0) (Nat.le_of_ble_eq_true rfl) (Nat.le_of_ble_eq_true rfl) ?_
          refine lv_aload_n hx hb dX12_readSum_51 rfl (lv_at hl 1 rfl) ?_
          refine lv_iload_n hx hb dX12_readSum_52 rfl (lv_at hl 0 rfl) ?_
          have z9_3001 : (3001 : Int32).toInt = 3001 := by decide
          refine tk_v hH hS hA (tr_V (n := 1) (As := [.int 3001]) hx hb hml hown hts hkb hH (ox_map hOX rfl) hks hE hS hA (s_M_codesO l D cs kf T O X a0 hg mq (3001) o0 o1 o2 y3 y4 o5 n48_0_6 n48_0_7 y8 n48_0_9 n48_0_10 n48_0_11 n48_0_12 tl f3 F48_2 t tn t_a0 b_hg (by decide) (by decide) t_y3 t_y4 (by omega) (by omega) (by omega) (by omega) (by omega) (by omega) (by omega) (by omega) s_F48_2 (by omega) htm (by first | (intro q; constructor <;> omega) | (intro q; obtain ⟨c0, c1, c2⟩ := if5 q; constructor <;> omega) | (intro q; obtain ⟨c0, c1, c2⟩ := x_v487 q; constructor <;> omega) | (refine RD_cp k4 hd0 if5 ?_ x_v487 ?_ <;> omega) | (refine RD_cp k4 hd0 x_v487 ?_ if5 ?_ <;> omega)) (hO.sub (by decide))) kw_1418 kw_1420 ks_59 kw_13 kw_1421 (by decide +kernel) ⟨Nat.le_of_ble_eq_true rfl, Nat.le_of_ble_eq_true rfl⟩ (x_recv (ci := 12) hkb hH 0 rfl rfl) rfl rfl hl.1 (Nat.le_of_ble_eq_true rfl) dX12_readSum_53 ⟨Nat.le_of_ble_eq_true rfl, Nat.le_of_ble_eq_true rfl⟩) (fun u H locs hz9 hH hS => ?_)
          obtain ⟨F53_2, rfl, x_v530, x_v531, x_v532⟩ := hz9
          have s_F53_2 := x_v530
          have hH : HT D cs A T (a0 :: y3 :: y4 :: O) ((a0, .inr (12, o0 :: o1 :: o2 :: (.ref y3) :: (.ref y4) :: o5 :: (.int n48_0_6) :: (.int n48_0_7) :: (.int y8) :: (.int n48_0_9) :: (.int n48_0_10) :: (.int n48_0_11) :: (.int n48_0_12) :: tl)) :: (y3, .inl (cs.2.1, 900, .inl f3)) :: (y4, .inl (cs.2.1, 1302, .inl F53_2)) :: X) H := hH
          refine W.widen (k := 0) (n := 0) (Nat.le_of_ble_eq_true rfl) (Nat.le_of_ble_eq_true rfl) ?_
          refine lv_goto (tgt := 5) hx hb dX12_readSum_56 (by decide) ?_
          exact ih5 _ (by omega) n48_0_6 n48_0_7 n48_0_9 n48_0_10 n48_0_11 n48_0_12 F53_2 _ _ _ rfl s_F53_2 (by omega) (by omega) (by omega) (by omega) (by omega) (by omega) (by omega) (by omega) x_v484 (by omega) (by first | (refine RD_op if5 ?_ x_v487 x_v531; omega) | (refine RD_op x_v487 ?_ if5 x_v531; omega) | exact if5 | exact x_v487 | (refine RD_le if5 ?_; omega) | (refine RD_le x_v487 ?_; omega) | (intro q; obtain ⟨c1, c2⟩ := x_v531 q; refine ⟨?_, ?_, ?_⟩ <;> omega) | (intro q; obtain ⟨c0, c1, c2⟩ := x_v487 q; refine ⟨?_, ?_, ?_⟩ <;> omega) | (intro q; obtain ⟨c0, c1, c2⟩ := x_v487 q; obtain ⟨d1, d2⟩ := x_v531 q; refine ⟨?_, ?_, ?_⟩ <;> omega)) (by first | exact (RG.seq (F' := [(1, 0), (4, 0)]) (RG_id (fun q9 => ⟨hms q9, fun _ _ => st_s⟩)) (RG.cons x_v28)) | (refine RG.seq ig5 (RG.seq (F' := [(1, 0), (4, 0)]) (RG_nx ?_ x_v436 (fun _ _ => st_sY ?_) ((RG.msw ig5 ?_).nx x_v437)) (RG.cons x_v488)); omega; (have q8 := (RG.msw ig5 (by omega)).2.2.2.1; omega); omega)) (FKP.tr (FKP.tr ik5 x_v489) x_v532) hH hS (lv_sub hl [1, 2] rfl)
        · skip
          have tc29 := f_eq (k := 32) (by decide) c29
          refine lv_sipush (v := 3000) hx hb dX12_readSum_32 (by decide) ?_
          refine lv_goto (tgt := 41) hx hb dX12_readSum_35 (by decide) ?_
          refine lv_istore_n (lv' := [(2, .int 3000), (0, .ref a0), (1, .int x1)]) hx hb dX12_readSum_41 rfl hl (by decide) rfl (fun ls hl => ?_)
          have hk5 := ic5 (by omega)
          refine lv_aload_n hx hb dX12_readSum_42 rfl (lv_at hl 1 rfl) ?_
          refine tk_v hH hS hA (tr_V (n := 0) (As := []) hx hb hml hown hts hkb hH (ox_map hOX rfl) hks hE hS hA (s_M_next l D cs kf T (y4 :: O) ((y4, .inl (cs.2.1, 1302, .inl g5_2)) :: X) a0 hg mq o0 o1 o2 y3 y4 o5 f5_106 f5_107 y8 f5_109 f5_110 f5_111 f5_112 tl f3 t tn t_a0 b_hg t_y3 t_y4 (by omega) (by omega) (by omega) (by omega) (by omega) (by omega) (by omega) (by omega) (by omega) htm (by omega) (hO.sub (by decide))) kw_1344 kw_1346 ks_43 kw_13 kw_1347 (by decide +kernel) ⟨Nat.le_of_ble_eq_true rfl, Nat.le_of_ble_eq_true rfl⟩ (x_recv (ci := 12) hkb hH 0 rfl rfl) rfl rfl hl.1 (Nat.le_of_ble_eq_true rfl) dX12_readSum_43 ⟨Nat.le_of_ble_eq_true rfl, Nat.le_of_ble_eq_true rfl⟩) (fun u H locs hz9 hH hS => ?_)
          obtain ⟨n43_0_6, n43_0_7, n43_0_9, n43_0_10, rfl, x_v430, x_v431, x_v432, x_v433, x_v434, x_v435, x_v436, x_v437⟩ := hz9
          have hH : HT D cs A T (a0 :: y3 :: y4 :: O) ((a0, .inr (12, o0 :: o1 :: o2 :: (.ref y3) :: (.ref y4) :: o5 :: (.int n43_0_6) :: (.int n43_0_7) :: (.int y8) :: (.int n43_0_9) :: (.int n43_0_10) :: (.int f5_111) :: (.int f5_112) :: tl)) :: (y3, .inl (cs.2.1, 900, .inl f3)) :: (y4, .inl (cs.2.1, 1302, .inl g5_2)) :: X) H := hH
          refine W.widen (k := 0) (n := 0) (Nat.le_of_ble_eq_true rfl) (Nat.le_of_ble_eq_true rfl) ?_
          refine lv_aload_n hx hb dX12_readSum_46 rfl (lv_at hl 1 rfl) ?_
          refine lv_iload_n hx hb dX12_readSum_47 rfl (lv_at hl 2 rfl) ?_
          refine tk_v hH hS hA (tr_V (n := 1) (As := [.int x1]) hx hb hml hown hts hkb hH (ox_map hOX rfl) hks hE hS hA (s_M_readTerm0 l D cs kf T O X a0 hg mq x1 o0 o1 o2 y3 y4 o5 n43_0_6 n43_0_7 y8 n43_0_9 n43_0_10 f5_111 f5_112 tl f3 g5_2 t tn t_a0 b_hg (by omega) (by omega) t_y3 t_y4 (by omega) (by omega) (by omega) (by omega) (by omega) (by omega) (by omega) (by omega) s_g5_2 (by omega) htm (by omega) (by omega) x_v433 (by first | exact k4 | (refine RD_sl k4 if5 ?_; omega) | (intro _; omega)) (fun _ => x_v436) (hO.sub (by decide))) kw_1426 kw_1428 ks_61 kw_13 kw_1429 (by decide +kernel) ⟨Nat.le_of_ble_eq_true rfl, Nat.le_of_ble_eq_true rfl⟩ (x_recv (ci := 12) hkb hH 0 rfl rfl) rfl rfl hl.1 (Nat.le_of_ble_eq_true rfl) dX12_readSum_48 ⟨Nat.le_of_ble_eq_true rfl, Nat.le_of_ble_eq_true rfl⟩) (fun u H locs hz9 hH hS => ?_)
          obtain ⟨n48_0_6, n48_0_7, n48_0_9, n48_0_10, n48_0_11, n48_0_12, F48_2, rfl, x_v480, x_v481, x_v482, x_v483, x_v484, x_v485, x_v486, x_v487, x_v488, x_v489⟩ := hz9
          have s_F48_2 := x_v480
          have hH : HT D cs A T (a0 :: y3 :: y4 :: O) ((a0, .inr (12, o0 :: o1 :: o2 :: (.ref y3) :: (.ref y4) :: o5 :: (.int n48_0_6) :: (.int n48_0_7) :: (.int y8) :: (.int n48_0_9) :: (.int n48_0_10) :: (.int n48_0_11) :: (.int n48_0_12) :: tl)) :: (y3, .inl (cs.2.1, 900, .inl f3)) :: (y4, .inl (cs.2.1, 1302, .inl F48_2)) :: X) H := hH
          refine W.widen (k := 0) (n := 0) (Nat.le_of_ble_eq_true rfl) (Nat.le_of_ble_eq_true rfl) ?_
          refine lv_aload_n hx hb dX12_readSum_51 rfl (lv_at hl 1 rfl) ?_
          refine lv_iload_n hx hb dX12_readSum_52 rfl (lv_at hl 0 rfl) ?_
          have z9_3000 : (3000 : Int32).toInt = 3000 := by decide
          refine tk_v hH hS hA (tr_V (n := 1) (As := [.int 3000]) hx hb hml hown hts hkb hH (ox_map hOX rfl) hks hE hS hA (s_M_codesO l D cs kf T O X a0 hg mq (3000) o0 o1 o2 y3 y4 o5 n48_0_6 n48_0_7 y8 n48_0_9 n48_0_10 n48_0_11 n48_0_12 tl f3 F48_2 t tn t_a0 b_hg (by decide) (by decide) t_y3 t_y4 (by omega) (by omega) (by omega) (by omega) (by omega) (by omega) (by omega) (by omega) s_F48_2 (by omega) htm (by first | (intro q; constructor <;> omega) | (intro q; obtain ⟨c0, c1, c2⟩ := if5 q; constructor <;> omega) | (intro q; obtain ⟨c0, c1, c2⟩ := x_v487 q; constructor <;> omega) | (refine RD_cp k4 hd0 if5 ?_ x_v487 ?_ <;> omega) | (refine RD_cp k4 hd0 x_v487 ?_ if5 ?_ <;> omega)) (hO.sub (by decide))) kw_1418 kw_1420 ks_59 kw_13 kw_1421 (by decide +kernel) ⟨Nat.le_of_ble_eq_true rfl, Nat.le_of_ble_eq_true rfl⟩ (x_recv (ci := 12) hkb hH 0 rfl rfl) rfl rfl hl.1 (Nat.le_of_ble_eq_true rfl) dX12_readSum_53 ⟨Nat.le_of_ble_eq_true rfl, Nat.le_of_ble_eq_true rfl⟩) (fun u H locs hz9 hH hS => ?_)
          obtain ⟨F53_2, rfl, x_v530, x_v531, x_v532⟩ := hz9
          have s_F53_2 := x_v530
          have hH : HT D cs A T (a0 :: y3 :: y4 :: O) ((a0, .inr (12, o0 :: o1 :: o2 :: (.ref y3) :: (.ref y4) :: o5 :: (.int n48_0_6) :: (.int n48_0_7) :: (.int y8) :: (.int n48_0_9) :: (.int n48_0_10) :: (.int n48_0_11) :: (.int n48_0_12) :: tl)) :: (y3, .inl (cs.2.1, 900, .inl f3)) :: (y4, .inl (cs.2.1, 1302, .inl F53_2)) :: X) H := hH
          refine W.widen (k := 0) (n := 0) (Nat.le_of_ble_eq_true rfl) (Nat.le_of_ble_eq_true rfl) ?_
          refine lv_goto (tgt := 5) hx hb dX12_readSum_56 (by decide) ?_
          exact ih5 _ (by omega) n48_0_6 n48_0_7 n48_0_9 n48_0_10 n48_0_11 n48_0_12 F53_2 _ _ _ rfl s_F53_2 (by omega) (by omega) (by omega) (by omega) (by omega) (by omega) (by omega) (by omega) x_v484 (by omega) (by first | (refine RD_op if5 ?_ x_v487 x_v531; omega) | (refine RD_op x_v487 ?_ if5 x_v531; omega) | exact if5 | exact x_v487 | (refine RD_le if5 ?_; omega) | (refine RD_le x_v487 ?_; omega) | (intro q; obtain ⟨c1, c2⟩ := x_v531 q; refine ⟨?_, ?_, ?_⟩ <;> omega) | (intro q; obtain ⟨c0, c1, c2⟩ := x_v487 q; refine ⟨?_, ?_, ?_⟩ <;> omega) | (intro q; obtain ⟨c0, c1, c2⟩ := x_v487 q; obtain ⟨d1, d2⟩ := x_v531 q; refine ⟨?_, ?_, ?_⟩ <;> omega)) (by first | exact (RG.seq (F' := [(1, 0), (4, 0)]) (RG_id (fun q9 => ⟨hms q9, fun _ _ => st_s⟩)) (RG.cons x_v28)) | (refine RG.seq ig5 (RG.seq (F' := [(1, 0), (4, 0)]) (RG_nx ?_ x_v436 (fun _ _ => st_sY ?_) ((RG.msw ig5 ?_).nx x_v437)) (RG.cons x_v488)); omega; (have q8 := (RG.msw ig5 (by omega)).2.2.2.1; omega); omega)) (FKP.tr (FKP.tr ik5 x_v489) x_v532) hH hS (lv_sub hl [1, 2] rfl)
      · skip
        have tc11 := f_eq (k := 0) (by decide) c11
        clear x_v80
        replace x_v81 := x_v81.resolve_left (fun q9 => q9 tc11)
        refine lv_aload_n hx hb dX12_readSum_14 rfl (lv_at hl 0 rfl) ?_
        refine lv_bipush (v := 33) hx hb dX12_readSum_15 (by decide) ?_
        have z9_33 : (33 : Int32).toInt = 33 := by decide
        refine tk_i hH hS hA (tr_V (n := 1) (As := [.int 33]) hx hb hml hown hts hkb hH (ox_map hOX rfl) hks hE hS hA (s_M_is l D cs kf T (y4 :: O) ((y4, .inl (cs.2.1, 1302, .inl g5_2)) :: X) a0 hg mq (33) o0 o1 o2 y3 y4 o5 f5_106 f5_107 y8 f5_109 f5_110 f5_111 f5_112 tl f3 t tn t_a0 b_hg t_y3 t_y4 (by omega) (by omega) (by omega) (by omega) (by omega) (by omega) (by omega) (by omega) (by omega) htm (hO.sub (by decide))) kw_1370 kw_1372 ks_47 kw_13 kw_1373 (by decide +kernel) ⟨Nat.le_of_ble_eq_true rfl, Nat.le_of_ble_eq_true rfl⟩ (x_recv (ci := 12) hkb hH 0 rfl rfl) rfl rfl hl.1 (Nat.le_of_ble_eq_true rfl) dX12_readSum_17 ⟨Nat.le_of_ble_eq_true rfl, Nat.le_of_ble_eq_true rfl⟩) (fun v17 u H locs hz9 hH hS => ?_)
        obtain ⟨rfl, l_v17, u_v17, x_v170, x_v171⟩ := hz9
        have hH : HT D cs A T (a0 :: y3 :: y4 :: O) ((a0, .inr (12, o0 :: o1 :: o2 :: (.ref y3) :: (.ref y4) :: o5 :: (.int f5_106) :: (.int f5_107) :: (.int y8) :: (.int f5_109) :: (.int f5_110) :: (.int f5_111) :: (.int f5_112) :: tl)) :: (y3, .inl (cs.2.1, 900, .inl f3)) :: (y4, .inl (cs.2.1, 1302, .inl g5_2)) :: X) H := hH
        refine W.widen (k := 0) (n := 0) (Nat.le_of_ble_eq_true rfl) (Nat.le_of_ble_eq_true rfl) ?_
        refine lv_if_eq (tgt := 59) hx hb dX12_readSum_20 (by decide) (fun c20 => ?_) (fun c20 => ?_)
        · skip
          have tc20 := f_eq (k := 0) (by decide) c20
          clear x_v170
          replace x_v171 := x_v171.resolve_left (fun q9 => q9 tc20)
          exact te_v hx hb hr hlocks hH hS (⟨f5_106, f5_107, f5_109, f5_110, f5_111, f5_112, g5_2, rfl, s_g5_2, by omega, by omega, by omega, ic5, by omega, by omega, (by first | exact if5 | (refine RD_le if5 ?_; omega) | (intro q; obtain ⟨c0, c1, c2⟩ := if5 q; refine ⟨?_, ?_, ?_⟩ <;> omega)), (by first | (exact ig5.seq (RG_id (fun q9 => ⟨RG.msw ig5 q9, fun _ _ => st_sN (by have q8 := (RG.msw ig5 q9).2.2.2.1; omega)⟩)))), ik5⟩) dX12_readSum_59
        · skip
          have tc20 := f_ne (k := 0) (by decide) c20
          replace x_v170 := x_v170.resolve_left tc20
          clear x_v171
          refine lv_aload_n hx hb dX12_readSum_23 rfl (lv_at hl 0 rfl) ?_
          refine x_getk (ci := 12) (C := RX12) (F := TX12) (N := 36) (v := .int f5_109) hx hb hts uX12 hown hkb hH 0 rfl rfl 9 (by decide) rfl kw_1232 (fun _ h9 => h9) dX12_readSum_24 ?_
          refine lv_bipush (v := 32) hx hb dX12_readSum_27 (by decide) ?_
          refine lv_icmp_ne (tgt := 38) hx hb dX12_readSum_29 (by decide) (fun c29 => ?_) (fun c29 => ?_)
          · skip
            have tc29 := f_ne (k := 32) (by decide) c29
            refine lv_sipush (v := 3001) hx hb dX12_readSum_38 (by decide) ?_
            refine lv_istore_n (lv' := [(2, .int 3001), (0, .ref a0), (1, .int x1)]) hx hb dX12_readSum_41 rfl hl (by decide) rfl (fun ls hl => ?_)
            have hk5 := ic5 (by omega)
            refine lv_aload_n hx hb dX12_readSum_42 rfl (lv_at hl 1 rfl) ?_
            refine tk_v hH hS hA (tr_V (n := 0) (As := []) hx hb hml hown hts hkb hH (ox_map hOX rfl) hks hE hS hA (s_M_next l D cs kf T (y4 :: O) ((y4, .inl (cs.2.1, 1302, .inl g5_2)) :: X) a0 hg mq o0 o1 o2 y3 y4 o5 f5_106 f5_107 y8 f5_109 f5_110 f5_111 f5_112 tl f3 t tn t_a0 b_hg t_y3 t_y4 (by omega) (by omega) (by omega) (by omega) (by omega) (by omega) (by omega) (by omega) (by omega) htm (by omega) (hO.sub (by decide))) kw_1344 kw_1346 ks_43 kw_13 kw_1347 (by decide +kernel) ⟨Nat.le_of_ble_eq_true rfl, Nat.le_of_ble_eq_true rfl⟩ (x_recv (ci := 12) hkb hH 0 rfl rfl) rfl rfl hl.1 (Nat.le_of_ble_eq_true rfl) dX12_readSum_43 ⟨Nat.le_of_ble_eq_true rfl, Nat.le_of_ble_eq_true rfl⟩) (fun u H locs hz9 hH hS => ?_)
            obtain ⟨n43_0_6, n43_0_7, n43_0_9, n43_0_10, rfl, x_v430, x_v431, x_v432, x_v433, x_v434, x_v435, x_v436, x_v437⟩ := hz9
            have hH : HT D cs A T (a0 :: y3 :: y4 :: O) ((a0, .inr (12, o0 :: o1 :: o2 :: (.ref y3) :: (.ref y4) :: o5 :: (.int n43_0_6) :: (.int n43_0_7) :: (.int y8) :: (.int n43_0_9) :: (.int n43_0_10) :: (.int f5_111) :: (.int f5_112) :: tl)) :: (y3, .inl (cs.2.1, 900, .inl f3)) :: (y4, .inl (cs.2.1, 1302, .inl g5_2)) :: X) H := hH
            refine W.widen (k := 0) (n := 0) (Nat.le_of_ble_eq_true rfl) (Nat.le_of_ble_eq_true rfl) ?_
            refine lv_aload_n hx hb dX12_readSum_46 rfl (lv_at hl 1 rfl) ?_
            refine lv_iload_n hx hb dX12_readSum_47 rfl (lv_at hl 2 rfl) ?_
            refine tk_v hH hS hA (tr_V (n := 1) (As := [.int x1]) hx hb hml hown hts hkb hH (ox_map hOX rfl) hks hE hS hA (s_M_readTerm0 l D cs kf T O X a0 hg mq x1 o0 o1 o2 y3 y4 o5 n43_0_6 n43_0_7 y8 n43_0_9 n43_0_10 f5_111 f5_112 tl f3 g5_2 t tn t_a0 b_hg (by omega) (by omega) t_y3 t_y4 (by omega) (by omega) (by omega) (by omega) (by omega) (by omega) (by omega) (by omega) s_g5_2 (by omega) htm (by omega) (by omega) x_v433 (by first | exact k4 | (refine RD_sl k4 if5 ?_; omega) | (intro _; omega)) (fun _ => x_v436) (hO.sub (by decide))) kw_1426 kw_1428 ks_61 kw_13 kw_1429 (by decide +kernel) ⟨Nat.le_of_ble_eq_true rfl, Nat.le_of_ble_eq_true rfl⟩ (x_recv (ci := 12) hkb hH 0 rfl rfl) rfl rfl hl.1 (Nat.le_of_ble_eq_true rfl) dX12_readSum_48 ⟨Nat.le_of_ble_eq_true rfl, Nat.le_of_ble_eq_true rfl⟩) (fun u H locs hz9 hH hS => ?_)
            obtain ⟨n48_0_6, n48_0_7, n48_0_9, n48_0_10, n48_0_11, n48_0_12, F48_2, rfl, x_v480, x_v481, x_v482, x_v483, x_v484, x_v485, x_v486, x_v487, x_v488, x_v489⟩ := hz9
            have s_F48_2 := x_v480
            have hH : HT D cs A T (a0 :: y3 :: y4 :: O) ((a0, .inr (12, o0 :: o1 :: o2 :: (.ref y3) :: (.ref y4) :: o5 :: (.int n48_0_6) :: (.int n48_0_7) :: (.int y8) :: (.int n48_0_9) :: (.int n48_0_10) :: (.int n48_0_11) :: (.int n48_0_12) :: tl)) :: (y3, .inl (cs.2.1, 900, .inl f3)) :: (y4, .inl (cs.2.1, 1302, .inl F48_2)) :: X) H := hH
            refine W.widen (k := 0) (n := 0) (Nat.le_of_ble_eq_true rfl) (Nat.le_of_ble_eq_true rfl) ?_
            refine lv_aload_n hx hb dX12_readSum_51 rfl (lv_at hl 1 rfl) ?_
            refine lv_iload_n hx hb dX12_readSum_52 rfl (lv_at hl 0 rfl) ?_
            have z9_3001 : (3001 : Int32).toInt = 3001 := by decide
            refine tk_v hH hS hA (tr_V (n := 1) (As := [.int 3001]) hx hb hml hown hts hkb hH (ox_map hOX rfl) hks hE hS hA (s_M_codesO l D cs kf T O X a0 hg mq (3001) o0 o1 o2 y3 y4 o5 n48_0_6 n48_0_7 y8 n48_0_9 n48_0_10 n48_0_11 n48_0_12 tl f3 F48_2 t tn t_a0 b_hg (by decide) (by decide) t_y3 t_y4 (by omega) (by omega) (by omega) (by omega) (by omega) (by omega) (by omega) (by omega) s_F48_2 (by omega) htm (by first | (intro q; constructor <;> omega) | (intro q; obtain ⟨c0, c1, c2⟩ := if5 q; constructor <;> omega) | (intro q; obtain ⟨c0, c1, c2⟩ := x_v487 q; constructor <;> omega) | (refine RD_cp k4 hd0 if5 ?_ x_v487 ?_ <;> omega) | (refine RD_cp k4 hd0 x_v487 ?_ if5 ?_ <;> omega)) (hO.sub (by decide))) kw_1418 kw_1420 ks_59 kw_13 kw_1421 (by decide +kernel) ⟨Nat.le_of_ble_eq_true rfl, Nat.le_of_ble_eq_true rfl⟩ (x_recv (ci := 12) hkb hH 0 rfl rfl) rfl rfl hl.1 (Nat.le_of_ble_eq_true rfl) dX12_readSum_53 ⟨Nat.le_of_ble_eq_true rfl, Nat.le_of_ble_eq_true rfl⟩) (fun u H locs hz9 hH hS => ?_)
            obtain ⟨F53_2, rfl, x_v530, x_v531, x_v532⟩ := hz9
            have s_F53_2 := x_v530
            have hH : HT D cs A T (a0 :: y3 :: y4 :: O) ((a0, .inr (12, o0 :: o1 :: o2 :: (.ref y3) :: (.ref y4) :: o5 :: (.int n48_0_6) :: (.int n48_0_7) :: (.int y8) :: (.int n48_0_9) :: (.int n48_0_10) :: (.int n48_0_11) :: (.int n48_0_12) :: tl)) :: (y3, .inl (cs.2.1, 900, .inl f3)) :: (y4, .inl (cs.2.1, 1302, .inl F53_2)) :: X) H := hH
            refine W.widen (k := 0) (n := 0) (Nat.le_of_ble_eq_true rfl) (Nat.le_of_ble_eq_true rfl) ?_
            refine lv_goto (tgt := 5) hx hb dX12_readSum_56 (by decide) ?_
            exact ih5 _ (by omega) n48_0_6 n48_0_7 n48_0_9 n48_0_10 n48_0_11 n48_0_12 F53_2 _ _ _ rfl s_F53_2 (by omega) (by omega) (by omega) (by omega) (by omega) (by omega) (by omega) (by omega) x_v484 (by omega) (by first | (refine RD_op if5 ?_ x_v487 x_v531; omega) | (refine RD_op x_v487 ?_ if5 x_v531; omega) | exact if5 | exact x_v487 | (refine RD_le if5 ?_; omega) | (refine RD_le x_v487 ?_; omega) | (intro q; obtain ⟨c1, c2⟩ := x_v531 q; refine ⟨?_, ?_, ?_⟩ <;> omega) | (intro q; obtain ⟨c0, c1, c2⟩ := x_v487 q; refine ⟨?_, ?_, ?_⟩ <;> omega) | (intro q; obtain ⟨c0, c1, c2⟩ := x_v487 q; obtain ⟨d1, d2⟩ := x_v531 q; refine ⟨?_, ?_, ?_⟩ <;> omega)) (by first | exact (RG.seq (F' := [(1, 0), (4, 0)]) (RG_id (fun q9 => ⟨hms q9, fun _ _ => st_s⟩)) (RG.cons x_v28)) | (refine RG.seq ig5 (RG.seq (F' := [(1, 0), (4, 0)]) (RG_nx ?_ x_v436 (fun _ _ => st_sY ?_) ((RG.msw ig5 ?_).nx x_v437)) (RG.cons x_v488)); omega; (have q8 := (RG.msw ig5 (by omega)).2.2.2.1; omega); omega)) (FKP.tr (FKP.tr ik5 x_v489) x_v532) hH hS (lv_sub hl [1, 2] rfl)
          · skip
            have tc29 := f_eq (k := 32) (by decide) c29
            refine lv_sipush (v := 3000) hx hb dX12_readSum_32 (by decide) ?_
            refine lv_goto (tgt := 41) hx hb dX12_readSum_35 (by decide) ?_
            refine lv_istore_n (lv' := [(2, .int 3000), (0, .ref a0), (1, .int x1)]) hx hb dX12_readSum_41 rfl hl (by decide) rfl (fun ls hl => ?_)
            have hk5 := ic5 (by omega)
            refine lv_aload_n hx hb dX12_readSum_42 rfl (lv_at hl 1 rfl) ?_
            refine tk_v hH hS hA (tr_V (n := 0) (As := []) hx hb hml hown hts hkb hH (ox_map hOX rfl) hks hE hS hA (s_M_next l D cs kf T (y4 :: O) ((y4, .inl (cs.2.1, 1302, .inl g5_2)) :: X) a0 hg mq o0 o1 o2 y3 y4 o5 f5_106 f5_107 y8 f5_109 f5_110 f5_111 f5_112 tl f3 t tn t_a0 b_hg t_y3 t_y4 (by omega) (by omega) (by omega) (by omega) (by omega) (by omega) (by omega) (by omega) (by omega) htm (by omega) (hO.sub (by decide))) kw_1344 kw_1346 ks_43 kw_13 kw_1347 (by decide +kernel) ⟨Nat.le_of_ble_eq_true rfl, Nat.le_of_ble_eq_true rfl⟩ (x_recv (ci := 12) hkb hH 0 rfl rfl) rfl rfl hl.1 (Nat.le_of_ble_eq_true rfl) dX12_readSum_43 ⟨Nat.le_of_ble_eq_true rfl, Nat.le_of_ble_eq_true rfl⟩) (fun u H locs hz9 hH hS => ?_)
            obtain ⟨n43_0_6, n43_0_7, n43_0_9, n43_0_10, rfl, x_v430, x_v431, x_v432, x_v433, x_v434, x_v435, x_v436, x_v437⟩ := hz9
            have hH : HT D cs A T (a0 :: y3 :: y4 :: O) ((a0, .inr (12, o0 :: o1 :: o2 :: (.ref y3) :: (.ref y4) :: o5 :: (.int n43_0_6) :: (.int n43_0_7) :: (.int y8) :: (.int n43_0_9) :: (.int n43_0_10) :: (.int f5_111) :: (.int f5_112) :: tl)) :: (y3, .inl (cs.2.1, 900, .inl f3)) :: (y4, .inl (cs.2.1, 1302, .inl g5_2)) :: X) H := hH
            refine W.widen (k := 0) (n := 0) (Nat.le_of_ble_eq_true rfl) (Nat.le_of_ble_eq_true rfl) ?_
            refine lv_aload_n hx hb dX12_readSum_46 rfl (lv_at hl 1 rfl) ?_
            refine lv_iload_n hx hb dX12_readSum_47 rfl (lv_at hl 2 rfl) ?_
            refine tk_v hH hS hA (tr_V (n := 1) (As := [.int x1]) hx hb hml hown hts hkb hH (ox_map hOX rfl) hks hE hS hA (s_M_readTerm0 l D cs kf T O X a0 hg mq x1 o0 o1 o2 y3 y4 o5 n43_0_6 n43_0_7 y8 n43_0_9 n43_0_10 f5_111 f5_112 tl f3 g5_2 t tn t_a0 b_hg (by omega) (by omega) t_y3 t_y4 (by omega) (by omega) (by omega) (by omega) (by omega) (by omega) (by omega) (by omega) s_g5_2 (by omega) htm (by omega) (by omega) x_v433 (by first | exact k4 | (refine RD_sl k4 if5 ?_; omega) | (intro _; omega)) (fun _ => x_v436) (hO.sub (by decide))) kw_1426 kw_1428 ks_61 kw_13 kw_1429 (by decide +kernel) ⟨Nat.le_of_ble_eq_true rfl, Nat.le_of_ble_eq_true rfl⟩ (x_recv (ci := 12) hkb hH 0 rfl rfl) rfl rfl hl.1 (Nat.le_of_ble_eq_true rfl) dX12_readSum_48 ⟨Nat.le_of_ble_eq_true rfl, Nat.le_of_ble_eq_true rfl⟩) (fun u H locs hz9 hH hS => ?_)
            obtain ⟨n48_0_6, n48_0_7, n48_0_9, n48_0_10, n48_0_11, n48_0_12, F48_2, rfl, x_v480, x_v481, x_v482, x_v483, x_v484, x_v485, x_v486, x_v487, x_v488, x_v489⟩ := hz9
            have s_F48_2 := x_v480
            have hH : HT D cs A T (a0 :: y3 :: y4 :: O) ((a0, .inr (12, o0 :: o1 :: o2 :: (.ref y3) :: (.ref y4) :: o5 :: (.int n48_0_6) :: (.int n48_0_7) :: (.int y8) :: (.int n48_0_9) :: (.int n48_0_10) :: (.int n48_0_11) :: (.int n48_0_12) :: tl)) :: (y3, .inl (cs.2.1, 900, .inl f3)) :: (y4, .inl (cs.2.1, 1302, .inl F48_2)) :: X) H := hH
            refine W.widen (k := 0) (n := 0) (Nat.le_of_ble_eq_true rfl) (Nat.le_of_ble_eq_true rfl) ?_
            refine lv_aload_n hx hb dX12_readSum_51 rfl (lv_at hl 1 rfl) ?_
            refine lv_iload_n hx hb dX12_readSum_52 rfl (lv_at hl 0 rfl) ?_
            have z9_3000 : (3000 : Int32).toInt = 3000 := by decide
            refine tk_v hH hS hA (tr_V (n := 1) (As := [.int 3000]) hx hb hml hown hts hkb hH (ox_map hOX rfl) hks hE hS hA (s_M_codesO l D cs kf T O X a0 hg mq (3000) o0 o1 o2 y3 y4 o5 n48_0_6 n48_0_7 y8 n48_0_9 n48_0_10 n48_0_11 n48_0_12 tl f3 F48_2 t tn t_a0 b_hg (by decide) (by decide) t_y3 t_y4 (by omega) (by omega) (by omega) (by omega) (by omega) (by omega) (by omega) (by omega) s_F48_2 (by omega) htm (by first | (intro q; constructor <;> omega) | (intro q; obtain ⟨c0, c1, c2⟩ := if5 q; constructor <;> omega) | (intro q; obtain ⟨c0, c1, c2⟩ := x_v487 q; constructor <;> omega) | (refine RD_cp k4 hd0 if5 ?_ x_v487 ?_ <;> omega) | (refine RD_cp k4 hd0 x_v487 ?_ if5 ?_ <;> omega)) (hO.sub (by decide))) kw_1418 kw_1420 ks_59 kw_13 kw_1421 (by decide +kernel) ⟨Nat.le_of_ble_eq_true rfl, Nat.le_of_ble_eq_true rfl⟩ (x_recv (ci := 12) hkb hH 0 rfl rfl) rfl rfl hl.1 (Nat.le_of_ble_eq_true rfl) dX12_readSum_53 ⟨Nat.le_of_ble_eq_true rfl, Nat.le_of_ble_eq_true rfl⟩) (fun u H locs hz9 hH hS => ?_)
            obtain ⟨F53_2, rfl, x_v530, x_v531, x_v532⟩ := hz9
            have s_F53_2 := x_v530
            have hH : HT D cs A T (a0 :: y3 :: y4 :: O) ((a0, .inr (12, o0 :: o1 :: o2 :: (.ref y3) :: (.ref y4) :: o5 :: (.int n48_0_6) :: (.int n48_0_7) :: (.int y8) :: (.int n48_0_9) :: (.int n48_0_10) :: (.int n48_0_11) :: (.int n48_0_12) :: tl)) :: (y3, .inl (cs.2.1, 900, .inl f3)) :: (y4, .inl (cs.2.1, 1302, .inl F53_2)) :: X) H := hH
            refine W.widen (k := 0) (n := 0) (Nat.le_of_ble_eq_true rfl) (Nat.le_of_ble_eq_true rfl) ?_
            refine lv_goto (tgt := 5) hx hb dX12_readSum_56 (by decide) ?_
            exact ih5 _ (by omega) n48_0_6 n48_0_7 n48_0_9 n48_0_10 n48_0_11 n48_0_12 F53_2 _ _ _ rfl s_F53_2 (by omega) (by omega) (by omega) (by omega) (by omega) (by omega) (by omega) (by omega) x_v484 (by omega) (by first | (refine RD_op if5 ?_ x_v487 x_v531; omega) | (refine RD_op x_v487 ?_ if5 x_v531; omega) | exact if5 | exact x_v487 | (refine RD_le if5 ?_; omega) | (refine RD_le x_v487 ?_; omega) | (intro q; obtain ⟨c1, c2⟩ := x_v531 q; refine ⟨?_, ?_, ?_⟩ <;> omega) | (intro q; obtain ⟨c0, c1, c2⟩ := x_v487 q; refine ⟨?_, ?_, ?_⟩ <;> omega) | (intro q; obtain ⟨c0, c1, c2⟩ := x_v487 q; obtain ⟨d1, d2⟩ := x_v531 q; refine ⟨?_, ?_, ?_⟩ <;> omega)) (by first | exact (RG.seq (F' := [(1, 0), (4, 0)]) (RG_id (fun q9 => ⟨hms q9, fun _ _ => st_s⟩)) (RG.cons x_v28)) | (refine RG.seq ig5 (RG.seq (F' := [(1, 0), (4, 0)]) (RG_nx ?_ x_v436 (fun _ _ => st_sY ?_) ((RG.msw ig5 ?_).nx x_v437)) (RG.cons x_v488)); omega; (have q8 := (RG.msw ig5 (by omega)).2.2.2.1; omega); omega)) (FKP.tr (FKP.tr ik5 x_v489) x_v532) hH hS (lv_sub hl [1, 2] rfl)
  refine tk_v hH hS hA (tr_V (n := 1) (As := [.int x1]) hx hb hml hown hts hkb hH (ox_map hOX rfl) hks hE hS hA (s_M_readTerm0 l D cs kf T O X a0 hg mq x1 o0 o1 o2 y3 y4 o5 y6 y7 y8 y9 y10 y11 y12 tl f3 f4 t tn t_a0 b_hg (by omega) (by omega) t_y3 t_y4 (by omega) (by omega) (by omega) (by omega) (by omega) (by omega) (by omega) (by omega) s_f4 (by omega) htm (by omega) (by omega) k3 (by first | exact k4 | (intro _; omega)) hms (hO.sub (by decide))) kw_1426 kw_1428 ks_61 kw_13 kw_1429 (by decide +kernel) ⟨Nat.le_of_ble_eq_true rfl, Nat.le_of_ble_eq_true rfl⟩ (x_recv (ci := 12) hkb hH 0 rfl rfl) rfl rfl hl.1 (Nat.le_of_ble_eq_true rfl) dX12_readSum_2 ⟨Nat.le_of_ble_eq_true rfl, Nat.le_of_ble_eq_true rfl⟩) (fun u H locs hz9 hH hS => ?_)
  obtain ⟨n2_0_6, n2_0_7, n2_0_9, n2_0_10, n2_0_11, n2_0_12, F2_2, rfl, x_v20, x_v21, x_v22, x_v23, x_v24, x_v25, x_v26, x_v27, x_v28, x_v29⟩ := hz9
  have s_F2_2 := x_v20
  have hH : HT D cs A T (a0 :: y3 :: y4 :: O) ((a0, .inr (12, o0 :: o1 :: o2 :: (.ref y3) :: (.ref y4) :: o5 :: (.int n2_0_6) :: (.int n2_0_7) :: (.int y8) :: (.int n2_0_9) :: (.int n2_0_10) :: (.int n2_0_11) :: (.int n2_0_12) :: tl)) :: (y3, .inl (cs.2.1, 900, .inl f3)) :: (y4, .inl (cs.2.1, 1302, .inl F2_2)) :: X) H := hH
  refine W.widen (k := 0) (n := 0) (Nat.le_of_ble_eq_true rfl) (Nat.le_of_ble_eq_true rfl) ?_
  exact J5 _ n2_0_6 n2_0_7 n2_0_9 n2_0_10 n2_0_11 n2_0_12 F2_2 _ _ _ rfl s_F2_2 (by omega) (by omega) (by omega) (by omega) (by omega) (by omega) (by omega) (by omega) x_v24 (by omega) (by first | exact x_v27 | (refine RD_le x_v27 ?_; omega) | (intro q; obtain ⟨c0, c1, c2⟩ := x_v27 q; refine ⟨?_, ?_, ?_⟩ <;> omega)) (by first | exact (RG.seq (F' := [(1, 0), (4, 0)]) (RG_id (fun q9 => ⟨hms q9, fun _ _ => st_s⟩)) (RG.cons x_v28)) | (refine RG.seq ig5 (RG.seq (F' := [(1, 0), (4, 0)]) (RG_nx ?_ x_v436 (fun _ _ => st_sY ?_) ((RG.msw ig5 ?_).nx x_v437)) (RG.cons x_v488)); omega; (have q8 := (RG.msw ig5 (by omega)).2.2.2.1; omega); omega)) (FKP.tr FKP.rf x_v29) hH hS (lv_sub hl [0, 1] rfl)
set_option maxHeartbeats 4000000 in
set_option maxRecDepth 100000 in
theorem s_M_readUnit0 (l : Launch) (D : va_G) (cs : CS) (kf : KF) (T : TF) (O : List Nat) (X : va_W) (a0 hg mq : Nat) (x1 : Int32) (o0 : Value) (o1 : Value) (o2 : Value) (y3 : Nat) (y4 : Nat) (o5 : Value) (y6 : Int32) (y7 : Int32) (y8 : Int32) (y9 : Int32) (y10 : Int32) (y11 : Int32) (y12 : Int32) (tl : List Value) (f3 : Nat → Int32) (f4 : Nat → Int32) (t : Tp) (tn : Nat) (t_a0 : T a0 = some (22, hg, mq)) (b_hg : hg < 90) (l_x1 : 0 ≤ x1.toInt) (u_x1 : x1.toInt ≤ 0) (t_y3 : T y3 = some (9, 900, 0)) (t_y4 : T y4 = some (8, 1302, 0)) (l_y6 : 0 ≤ y6.toInt) (u_y6 : y6.toInt ≤ 900) (l_y7 : 0 ≤ y7.toInt) (u_y7 : y7.toInt ≤ 900) (l_y8 : 0 ≤ y8.toInt) (u_y8 : y8.toInt ≤ 900) (l_y10 : 0 ≤ y10.toInt) (u_y10 : y10.toInt ≤ 999) (s_f4 : S8 f4) (hn : y8.toInt = (tn : Int)) (htm : TM f3 t) (k1 : y6.toInt ≤ y7.toInt) (k2 : y7.toInt ≤ y8.toInt) (k3 : TK3 y9 y6 y7) (k4 : SL y11 f4 y6) (hms : MSW t tn y11 y6 y7 y9 y10) (hO : okO T (a0 :: y3 :: y4 :: O) []) : TK l D cs kf yX12_readUnit cX12_readUnit 3 none { frames := 28, cells := 0, slots := 0, locals := 598 } [.ref a0, .int x1] T (a0 :: y3 :: y4 :: O) ((a0, .inr (12, o0 :: o1 :: o2 :: (.ref y3) :: (.ref y4) :: o5 :: (.int y6) :: (.int y7) :: (.int y8) :: (.int y9) :: (.int y10) :: (.int y11) :: (.int y12) :: tl)) :: (y3, .inl (cs.2.1, 900, .inl f3)) :: (y4, .inl (cs.2.1, 1302, .inl f4)) :: X) (Tv D cs (fun u => ∃ (n0_6 : Int32) (n0_7 : Int32) (n0_9 : Int32) (n0_10 : Int32) (n0_11 : Int32) (n0_12 : Int32) (G2 : Nat → Int32), u = (T, a0 :: y3 :: y4 :: O, (a0, .inr (12, o0 :: o1 :: o2 :: (.ref y3) :: (.ref y4) :: o5 :: (.int n0_6) :: (.int n0_7) :: (.int y8) :: (.int n0_9) :: (.int n0_10) :: (.int n0_11) :: (.int n0_12) :: tl)) :: (y3, .inl (cs.2.1, 900, .inl f3)) :: (y4, .inl (cs.2.1, 1302, .inl G2)) :: X) ∧ (S8 G2) ∧ (y6.toInt ≤ n0_6.toInt) ∧ (n0_6.toInt ≤ n0_7.toInt) ∧ (n0_7.toInt ≤ y8.toInt) ∧ (TK3 n0_9 n0_6 n0_7) ∧ (0 ≤ n0_10.toInt) ∧ (n0_10.toInt ≤ 999) ∧ (RD f4 G2 y6 n0_6 y11 n0_11) ∧ (RG t tn [(5, 0)] [] y11 y12 y6 n0_11 n0_12 n0_6 n0_7 n0_9 n0_10) ∧ (FKP f4 G2))) := by
  refine tk_of (by decide) (Nat.le_of_ble_eq_true rfl) (fun p e s m below meth c ls A H locs hx hb hr hml hown hts hlocks hnm hkb hH hS hA hOX hks hE hl => ?_)
  have hown : s.vm.findClass RX12 = some m.cls := hown
  have hl : lv_has ls 3 [(0, .ref a0), (1, .int x1)] := hl
  have hOXf := hOX
  have hd0 := dpt_nn s_f4
  have hq0 := fun q9 => (hms q9).2.2.2.1
  refine lv_aload_n hx hb dX12_readUnit_0 rfl (lv_at hl 0 rfl) ?_
  refine lv_bipush (v := 15) hx hb dX12_readUnit_1 (by decide) ?_
  have z9_15 : (15 : Int32).toInt = 15 := by decide
  refine tk_i hH hS hA (tr_V (n := 1) (As := [.int 15]) hx hb hml hown hts hkb hH (ox_map hOX rfl) hks hE hS hA (s_M_is l D cs kf T (y4 :: O) ((y4, .inl (cs.2.1, 1302, .inl f4)) :: X) a0 hg mq (15) o0 o1 o2 y3 y4 o5 y6 y7 y8 y9 y10 y11 y12 tl f3 t tn t_a0 b_hg t_y3 t_y4 (by omega) (by omega) (by omega) (by omega) (by omega) (by omega) (by omega) (by omega) (by omega) htm (hO.sub (by decide))) kw_1370 kw_1372 ks_47 kw_13 kw_1373 (by decide +kernel) ⟨Nat.le_of_ble_eq_true rfl, Nat.le_of_ble_eq_true rfl⟩ (x_recv (ci := 12) hkb hH 0 rfl rfl) rfl rfl hl.1 (Nat.le_of_ble_eq_true rfl) dX12_readUnit_3 ⟨Nat.le_of_ble_eq_true rfl, Nat.le_of_ble_eq_true rfl⟩) (fun v3 u H locs hz9 hH hS => ?_)
  obtain ⟨rfl, l_v3, u_v3, x_v30, x_v31⟩ := hz9
  have hH : HT D cs A T (a0 :: y3 :: y4 :: O) ((a0, .inr (12, o0 :: o1 :: o2 :: (.ref y3) :: (.ref y4) :: o5 :: (.int y6) :: (.int y7) :: (.int y8) :: (.int y9) :: (.int y10) :: (.int y11) :: (.int y12) :: tl)) :: (y3, .inl (cs.2.1, 900, .inl f3)) :: (y4, .inl (cs.2.1, 1302, .inl f4)) :: X) H := hH
  refine W.widen (k := 0) (n := 0) (Nat.le_of_ble_eq_true rfl) (Nat.le_of_ble_eq_true rfl) ?_
  refine lv_if_eq (tgt := 33) hx hb dX12_readUnit_6 (by decide) (fun c6 => ?_) (fun c6 => ?_)
  · skip
    have tc6 := f_eq (k := 0) (by decide) c6
    clear x_v30
    replace x_v31 := x_v31.resolve_left (fun q9 => q9 tc6)
    refine lv_aload_n hx hb dX12_readUnit_33 rfl (lv_at hl 0 rfl) ?_
    refine lv_bipush (v := 37) hx hb dX12_readUnit_34 (by decide) ?_
    have z9_37 : (37 : Int32).toInt = 37 := by decide
    refine tk_i hH hS hA (tr_V (n := 1) (As := [.int 37]) hx hb hml hown hts hkb hH (ox_map hOX rfl) hks hE hS hA (s_M_is l D cs kf T (y4 :: O) ((y4, .inl (cs.2.1, 1302, .inl f4)) :: X) a0 hg mq (37) o0 o1 o2 y3 y4 o5 y6 y7 y8 y9 y10 y11 y12 tl f3 t tn t_a0 b_hg t_y3 t_y4 (by omega) (by omega) (by omega) (by omega) (by omega) (by omega) (by omega) (by omega) (by omega) htm (hO.sub (by decide))) kw_1370 kw_1372 ks_47 kw_13 kw_1373 (by decide +kernel) ⟨Nat.le_of_ble_eq_true rfl, Nat.le_of_ble_eq_true rfl⟩ (x_recv (ci := 12) hkb hH 0 rfl rfl) rfl rfl hl.1 (Nat.le_of_ble_eq_true rfl) dX12_readUnit_36 ⟨Nat.le_of_ble_eq_true rfl, Nat.le_of_ble_eq_true rfl⟩) (fun v36 u H locs hz9 hH hS => ?_)
    obtain ⟨rfl, l_v36, u_v36, x_v360, x_v361⟩ := hz9
    have hH : HT D cs A T (a0 :: y3 :: y4 :: O) ((a0, .inr (12, o0 :: o1 :: o2 :: (.ref y3) :: (.ref y4) :: o5 :: (.int y6) :: (.int y7) :: (.int y8) :: (.int y9) :: (.int y10) :: (.int y11) :: (.int y12) :: tl)) :: (y3, .inl (cs.2.1, 900, .inl f3)) :: (y4, .inl (cs.2.1, 1302, .inl f4)) :: X) H := hH
    refine W.widen (k := 0) (n := 0) (Nat.le_of_ble_eq_true rfl) (Nat.le_of_ble_eq_true rfl) ?_
    refine lv_if_eq (tgt := 73) hx hb dX12_readUnit_39 (by decide) (fun c39 => ?_) (fun c39 => ?_)
    · skip
      have tc39 := f_eq (k := 0) (by decide) c39
      clear x_v360
      replace x_v361 := x_v361.resolve_left (fun q9 => q9 tc39)
      refine lv_aload_n hx hb dX12_readUnit_73 rfl (lv_at hl 0 rfl) ?_
      refine lv_iload_n hx hb dX12_readUnit_74 rfl (lv_at hl 1 rfl) ?_
      refine tk_v hH hS hA (tr_V (n := 1) (As := [.int x1]) hx hb hml hown hts hkb hH (ox_map hOX rfl) hks hE hS hA (s_M_readSum0 l D cs kf T O X a0 hg mq x1 o0 o1 o2 y3 y4 o5 y6 y7 y8 y9 y10 y11 y12 tl f3 f4 t tn t_a0 b_hg (by omega) (by omega) t_y3 t_y4 (by omega) (by omega) (by omega) (by omega) (by omega) (by omega) (by omega) (by omega) s_f4 (by omega) htm (by omega) (by omega) k3 (by first | exact k4 | (intro _; omega)) hms (hO.sub (by decide))) kw_1422 kw_1424 ks_60 kw_13 kw_1425 (by decide +kernel) ⟨Nat.le_of_ble_eq_true rfl, Nat.le_of_ble_eq_true rfl⟩ (x_recv (ci := 12) hkb hH 0 rfl rfl) rfl rfl hl.1 (Nat.le_of_ble_eq_true rfl) dX12_readUnit_75 ⟨Nat.le_of_ble_eq_true rfl, Nat.le_of_ble_eq_true rfl⟩) (fun u H locs hz9 hH hS => ?_)
      obtain ⟨n75_0_6, n75_0_7, n75_0_9, n75_0_10, n75_0_11, n75_0_12, F75_2, rfl, x_v750, x_v751, x_v752, x_v753, x_v754, x_v755, x_v756, x_v757, x_v758, x_v759⟩ := hz9
      have s_F75_2 := x_v750
      have hH : HT D cs A T (a0 :: y3 :: y4 :: O) ((a0, .inr (12, o0 :: o1 :: o2 :: (.ref y3) :: (.ref y4) :: o5 :: (.int n75_0_6) :: (.int n75_0_7) :: (.int y8) :: (.int n75_0_9) :: (.int n75_0_10) :: (.int n75_0_11) :: (.int n75_0_12) :: tl)) :: (y3, .inl (cs.2.1, 900, .inl f3)) :: (y4, .inl (cs.2.1, 1302, .inl F75_2)) :: X) H := hH
      refine W.widen (k := 0) (n := 0) (Nat.le_of_ble_eq_true rfl) (Nat.le_of_ble_eq_true rfl) ?_
      have g78 : RG t tn [(5, 0)] [(21, 0)] y11 y12 y6 n75_0_11 n75_0_12 n75_0_6 n75_0_7 n75_0_9 n75_0_10 := RG.seq (F' := [(3, 0), (21, 0)]) (RG_id (fun q9 => ⟨hms q9, fun _ _ => st_uS (by have q8 := hq0 q9; omega) (by have q8 := hq0 q9; omega)⟩)) (RG.cons x_v758)
      refine lv_aload_n hx hb dX12_readUnit_78 rfl (lv_at hl 0 rfl) ?_
      refine lv_bipush (v := 39) hx hb dX12_readUnit_79 (by decide) ?_
      have z9_39 : (39 : Int32).toInt = 39 := by decide
      refine tk_i hH hS hA (tr_V (n := 1) (As := [.int 39]) hx hb hml hown hts hkb hH (ox_map hOX rfl) hks hE hS hA (s_M_is l D cs kf T (y4 :: O) ((y4, .inl (cs.2.1, 1302, .inl F75_2)) :: X) a0 hg mq (39) o0 o1 o2 y3 y4 o5 n75_0_6 n75_0_7 y8 n75_0_9 n75_0_10 n75_0_11 n75_0_12 tl f3 t tn t_a0 b_hg t_y3 t_y4 (by omega) (by omega) (by omega) (by omega) (by omega) (by omega) (by omega) (by omega) (by omega) htm (hO.sub (by decide))) kw_1370 kw_1372 ks_47 kw_13 kw_1373 (by decide +kernel) ⟨Nat.le_of_ble_eq_true rfl, Nat.le_of_ble_eq_true rfl⟩ (x_recv (ci := 12) hkb hH 0 rfl rfl) rfl rfl hl.1 (Nat.le_of_ble_eq_true rfl) dX12_readUnit_81 ⟨Nat.le_of_ble_eq_true rfl, Nat.le_of_ble_eq_true rfl⟩) (fun v81 u H locs hz9 hH hS => ?_)
      obtain ⟨rfl, l_v81, u_v81, x_v810, x_v811⟩ := hz9
      have hH : HT D cs A T (a0 :: y3 :: y4 :: O) ((a0, .inr (12, o0 :: o1 :: o2 :: (.ref y3) :: (.ref y4) :: o5 :: (.int n75_0_6) :: (.int n75_0_7) :: (.int y8) :: (.int n75_0_9) :: (.int n75_0_10) :: (.int n75_0_11) :: (.int n75_0_12) :: tl)) :: (y3, .inl (cs.2.1, 900, .inl f3)) :: (y4, .inl (cs.2.1, 1302, .inl F75_2)) :: X) H := hH
      refine W.widen (k := 0) (n := 0) (Nat.le_of_ble_eq_true rfl) (Nat.le_of_ble_eq_true rfl) ?_
      refine lv_if_eq (tgt := 93) hx hb dX12_readUnit_84 (by decide) (fun c84 => ?_) (fun c84 => ?_)
      · skip
        have tc84 := f_eq (k := 0) (by decide) c84
        clear x_v810
        replace x_v811 := x_v811.resolve_left (fun q9 => q9 tc84)
        refine lv_aload_n hx hb dX12_readUnit_93 rfl (lv_at hl 0 rfl) ?_
        refine lv_bipush (v := 40) hx hb dX12_readUnit_94 (by decide) ?_
        have z9_40 : (40 : Int32).toInt = 40 := by decide
        refine tk_i hH hS hA (tr_V (n := 1) (As := [.int 40]) hx hb hml hown hts hkb hH (ox_map hOX rfl) hks hE hS hA (s_M_is l D cs kf T (y4 :: O) ((y4, .inl (cs.2.1, 1302, .inl F75_2)) :: X) a0 hg mq (40) o0 o1 o2 y3 y4 o5 n75_0_6 n75_0_7 y8 n75_0_9 n75_0_10 n75_0_11 n75_0_12 tl f3 t tn t_a0 b_hg t_y3 t_y4 (by omega) (by omega) (by omega) (by omega) (by omega) (by omega) (by omega) (by omega) (by omega) htm (hO.sub (by decide))) kw_1370 kw_1372 ks_47 kw_13 kw_1373 (by decide +kernel) ⟨Nat.le_of_ble_eq_true rfl, Nat.le_of_ble_eq_true rfl⟩ (x_recv (ci := 12) hkb hH 0 rfl rfl) rfl rfl hl.1 (Nat.le_of_ble_eq_true rfl) dX12_readUnit_96 ⟨Nat.le_of_ble_eq_true rfl, Nat.le_of_ble_eq_true rfl⟩) (fun v96 u H locs hz9 hH hS => ?_)
        obtain ⟨rfl, l_v96, u_v96, x_v960, x_v961⟩ := hz9
        have hH : HT D cs A T (a0 :: y3 :: y4 :: O) ((a0, .inr (12, o0 :: o1 :: o2 :: (.ref y3) :: (.ref y4) :: o5 :: (.int n75_0_6) :: (.int n75_0_7) :: (.int y8) :: (.int n75_0_9) :: (.int n75_0_10) :: (.int n75_0_11) :: (.int n75_0_12) :: tl)) :: (y3, .inl (cs.2.1, 900, .inl f3)) :: (y4, .inl (cs.2.1, 1302, .inl F75_2)) :: X) H := hH
        refine W.widen (k := 0) (n := 0) (Nat.le_of_ble_eq_true rfl) (Nat.le_of_ble_eq_true rfl) ?_
        refine lv_if_eq (tgt := 108) hx hb dX12_readUnit_99 (by decide) (fun c99 => ?_) (fun c99 => ?_)
        · skip
          have tc99 := f_eq (k := 0) (by decide) c99
          clear x_v960
          replace x_v961 := x_v961.resolve_left (fun q9 => q9 tc99)
          refine lv_sipush (v := 3005) hx hb dX12_readUnit_108 (by decide) ?_
          refine lv_istore_n (lv' := [(2, .int 3005), (0, .ref a0), (1, .int x1)]) hx hb dX12_readUnit_111 rfl hl (by decide) rfl (fun ls hl => ?_)
          refine lv_aload_n hx hb dX12_readUnit_112 rfl (lv_at hl 1 rfl) ?_
          refine lv_bipush (v := 39) hx hb dX12_readUnit_113 (by decide) ?_
          have z9_39 : (39 : Int32).toInt = 39 := by decide
          refine tk_i hH hS hA (tr_V (n := 1) (As := [.int 39]) hx hb hml hown hts hkb hH (ox_map hOX rfl) hks hE hS hA (s_M_is l D cs kf T (y4 :: O) ((y4, .inl (cs.2.1, 1302, .inl F75_2)) :: X) a0 hg mq (39) o0 o1 o2 y3 y4 o5 n75_0_6 n75_0_7 y8 n75_0_9 n75_0_10 n75_0_11 n75_0_12 tl f3 t tn t_a0 b_hg t_y3 t_y4 (by omega) (by omega) (by omega) (by omega) (by omega) (by omega) (by omega) (by omega) (by omega) htm (hO.sub (by decide))) kw_1370 kw_1372 ks_47 kw_13 kw_1373 (by decide +kernel) ⟨Nat.le_of_ble_eq_true rfl, Nat.le_of_ble_eq_true rfl⟩ (x_recv (ci := 12) hkb hH 0 rfl rfl) rfl rfl hl.1 (Nat.le_of_ble_eq_true rfl) dX12_readUnit_115 ⟨Nat.le_of_ble_eq_true rfl, Nat.le_of_ble_eq_true rfl⟩) (fun v115 u H locs hz9 hH hS => ?_)
          obtain ⟨rfl, l_v115, u_v115, x_v1150, x_v1151⟩ := hz9
          have hH : HT D cs A T (a0 :: y3 :: y4 :: O) ((a0, .inr (12, o0 :: o1 :: o2 :: (.ref y3) :: (.ref y4) :: o5 :: (.int n75_0_6) :: (.int n75_0_7) :: (.int y8) :: (.int n75_0_9) :: (.int n75_0_10) :: (.int n75_0_11) :: (.int n75_0_12) :: tl)) :: (y3, .inl (cs.2.1, 900, .inl f3)) :: (y4, .inl (cs.2.1, 1302, .inl F75_2)) :: X) H := hH
          refine W.widen (k := 0) (n := 0) (Nat.le_of_ble_eq_true rfl) (Nat.le_of_ble_eq_true rfl) ?_
          refine lv_if_ne (tgt := 139) hx hb dX12_readUnit_118 (by decide) (fun c118 => ?_) (fun c118 => ?_)
          · skip
            have tc118 := f_ne (k := 0) (by decide) c118
            replace x_v1150 := x_v1150.resolve_left tc118
            clear x_v1151
            have hk5 := x_v754 (by omega)
            have hq5 := (RG.msw x_v758 (by omega)).2.2.2.1
            refine lv_aload_n hx hb dX12_readUnit_139 rfl (lv_at hl 1 rfl) ?_
            refine tk_v hH hS hA (tr_V (n := 0) (As := []) hx hb hml hown hts hkb hH (ox_map hOX rfl) hks hE hS hA (s_M_next l D cs kf T (y4 :: O) ((y4, .inl (cs.2.1, 1302, .inl F75_2)) :: X) a0 hg mq o0 o1 o2 y3 y4 o5 n75_0_6 n75_0_7 y8 n75_0_9 n75_0_10 n75_0_11 n75_0_12 tl f3 t tn t_a0 b_hg t_y3 t_y4 (by omega) (by omega) (by omega) (by omega) (by omega) (by omega) (by omega) (by omega) (by omega) htm (by omega) (hO.sub (by decide))) kw_1344 kw_1346 ks_43 kw_13 kw_1347 (by decide +kernel) ⟨Nat.le_of_ble_eq_true rfl, Nat.le_of_ble_eq_true rfl⟩ (x_recv (ci := 12) hkb hH 0 rfl rfl) rfl rfl hl.1 (Nat.le_of_ble_eq_true rfl) dX12_readUnit_140 ⟨Nat.le_of_ble_eq_true rfl, Nat.le_of_ble_eq_true rfl⟩) (fun u H locs hz9 hH hS => ?_)
            obtain ⟨n140_0_6, n140_0_7, n140_0_9, n140_0_10, rfl, x_v1400, x_v1401, x_v1402, x_v1403, x_v1404, x_v1405, x_v1406, x_v1407⟩ := hz9
            have hH : HT D cs A T (a0 :: y3 :: y4 :: O) ((a0, .inr (12, o0 :: o1 :: o2 :: (.ref y3) :: (.ref y4) :: o5 :: (.int n140_0_6) :: (.int n140_0_7) :: (.int y8) :: (.int n140_0_9) :: (.int n140_0_10) :: (.int n75_0_11) :: (.int n75_0_12) :: tl)) :: (y3, .inl (cs.2.1, 900, .inl f3)) :: (y4, .inl (cs.2.1, 1302, .inl F75_2)) :: X) H := hH
            refine W.widen (k := 0) (n := 0) (Nat.le_of_ble_eq_true rfl) (Nat.le_of_ble_eq_true rfl) ?_
            refine lv_goto (tgt := 151) hx hb dX12_readUnit_143 (by decide) ?_
            have g151 : RG t tn [(5, 0)] [(3, 0)] y11 y12 y6 n75_0_11 n75_0_12 n140_0_6 n140_0_7 n140_0_9 n140_0_10 := (by first | (refine g78.seq (RG_nx ?_ x_v1406 (fun _ _ => st_cY ?_) ((RG.msw x_v758 ?_).nx x_v1407)) <;> omega) | (exact g78.seq (RG_f (m := 2) (G := []) x_v1481 (RG.msw x_v758) (by decide) (by decide) (fun q9 _ _ => st_cN (by have q8 := (RG.msw x_v758 q9).2.2.2.1; omega)))))
            refine lv_aload_n hx hb dX12_readUnit_151 rfl (lv_at hl 1 rfl) ?_
            refine lv_iload_n hx hb dX12_readUnit_152 rfl (lv_at hl 2 rfl) ?_
            refine tk_v hH hS hA (tr_V (n := 1) (As := [.int x1]) hx hb hml hown hts hkb hH (ox_map hOX rfl) hks hE hS hA (s_M_readSum0 l D cs kf T O X a0 hg mq x1 o0 o1 o2 y3 y4 o5 n140_0_6 n140_0_7 y8 n140_0_9 n140_0_10 n75_0_11 n75_0_12 tl f3 F75_2 t tn t_a0 b_hg (by omega) (by omega) t_y3 t_y4 (by omega) (by omega) (by omega) (by omega) (by omega) (by omega) (by omega) (by omega) s_F75_2 (by omega) htm (by omega) (by omega) x_v1403 (by first | exact k4 | (refine RD_sl k4 x_v757 ?_; omega) | (intro _; omega)) (fun _ => x_v1406) (hO.sub (by decide))) kw_1422 kw_1424 ks_60 kw_13 kw_1425 (by decide +kernel) ⟨Nat.le_of_ble_eq_true rfl, Nat.le_of_ble_eq_true rfl⟩ (x_recv (ci := 12) hkb hH 0 rfl rfl) rfl rfl hl.1 (Nat.le_of_ble_eq_true rfl) dX12_readUnit_153 ⟨Nat.le_of_ble_eq_true rfl, Nat.le_of_ble_eq_true rfl⟩) (fun u H locs hz9 hH hS => ?_)
            obtain ⟨n153_0_6, n153_0_7, n153_0_9, n153_0_10, n153_0_11, n153_0_12, F153_2, rfl, x_v1530, x_v1531, x_v1532, x_v1533, x_v1534, x_v1535, x_v1536, x_v1537, x_v1538, x_v1539⟩ := hz9
            have s_F153_2 := x_v1530
            have hH : HT D cs A T (a0 :: y3 :: y4 :: O) ((a0, .inr (12, o0 :: o1 :: o2 :: (.ref y3) :: (.ref y4) :: o5 :: (.int n153_0_6) :: (.int n153_0_7) :: (.int y8) :: (.int n153_0_9) :: (.int n153_0_10) :: (.int n153_0_11) :: (.int n153_0_12) :: tl)) :: (y3, .inl (cs.2.1, 900, .inl f3)) :: (y4, .inl (cs.2.1, 1302, .inl F153_2)) :: X) H := hH
            refine W.widen (k := 0) (n := 0) (Nat.le_of_ble_eq_true rfl) (Nat.le_of_ble_eq_true rfl) ?_
            refine lv_aload_n hx hb dX12_readUnit_156 rfl (lv_at hl 1 rfl) ?_
            refine lv_iload_n hx hb dX12_readUnit_157 rfl (lv_at hl 0 rfl) ?_
            have z9_3005 : (3005 : Int32).toInt = 3005 := by decide
            refine tk_v hH hS hA (tr_V (n := 1) (As := [.int 3005]) hx hb hml hown hts hkb hH (ox_map hOX rfl) hks hE hS hA (s_M_codesO l D cs kf T O X a0 hg mq (3005) o0 o1 o2 y3 y4 o5 n153_0_6 n153_0_7 y8 n153_0_9 n153_0_10 n153_0_11 n153_0_12 tl f3 F153_2 t tn t_a0 b_hg (by decide) (by decide) t_y3 t_y4 (by omega) (by omega) (by omega) (by omega) (by omega) (by omega) (by omega) (by omega) s_F153_2 (by omega) htm (by first | (intro q; constructor <;> omega) | (intro q; obtain ⟨c0, c1, c2⟩ := x_v757 q; constructor <;> omega) | (intro q; obtain ⟨c0, c1, c2⟩ := x_v1537 q; constructor <;> omega) | (refine RD_cp k4 hd0 x_v757 ?_ x_v1537 ?_ <;> omega) | (refine RD_cp k4 hd0 x_v1537 ?_ x_v757 ?_ <;> omega)) (hO.sub (by decide))) kw_1418 kw_1420 ks_59 kw_13 kw_1421 (by decide +kernel) ⟨Nat.le_of_ble_eq_true rfl, Nat.le_of_ble_eq_true rfl⟩ (x_recv (ci := 12) hkb hH 0 rfl rfl) rfl rfl hl.1 (Nat.le_of_ble_eq_true rfl) dX12_readUnit_158 ⟨Nat.le_of_ble_eq_true rfl, Nat.le_of_ble_eq_true rfl⟩) (fun u H locs hz9 hH hS => ?_)
            obtain ⟨F158_2, rfl, x_v1580, x_v1581, x_v1582⟩ := hz9
            have s_F158_2 := x_v1580
            have hH : HT D cs A T (a0 :: y3 :: y4 :: O) ((a0, .inr (12, o0 :: o1 :: o2 :: (.ref y3) :: (.ref y4) :: o5 :: (.int n153_0_6) :: (.int n153_0_7) :: (.int y8) :: (.int n153_0_9) :: (.int n153_0_10) :: (.int n153_0_11) :: (.int n153_0_12) :: tl)) :: (y3, .inl (cs.2.1, 900, .inl f3)) :: (y4, .inl (cs.2.1, 1302, .inl F158_2)) :: X) H := hH
            refine W.widen (k := 0) (n := 0) (Nat.le_of_ble_eq_true rfl) (Nat.le_of_ble_eq_true rfl) ?_
            exact te_v hx hb hr hlocks hH hS (⟨n153_0_6, n153_0_7, n153_0_9, n153_0_10, n153_0_11, n153_0_12, F158_2, rfl, s_F158_2, by omega, by omega, by omega, x_v1534, by omega, by omega, (by first | (refine RD_op x_v757 ?_ x_v1537 x_v1581; omega) | (refine RD_op x_v1537 ?_ x_v757 x_v1581; omega) | exact x_v757 | exact x_v1537 | (refine RD_le x_v757 ?_; omega) | (refine RD_le x_v1537 ?_; omega) | (intro q; obtain ⟨c1, c2⟩ := x_v1581 q; refine ⟨?_, ?_, ?_⟩ <;> omega) | (intro q; obtain ⟨c0, c1, c2⟩ := x_v1537 q; refine ⟨?_, ?_, ?_⟩ <;> omega) | (intro q; obtain ⟨c0, c1, c2⟩ := x_v1537 q; obtain ⟨d1, d2⟩ := x_v1581 q; refine ⟨?_, ?_, ?_⟩ <;> omega)), (by first | (exact g18.seq x_v228) | (refine g58.seq (RG_nx ?_ x_v617.1 (fun _ _ => st_xY ?_) x_v617.2.1) <;> omega) | (exact g58.seq (RG_f (m := 2) (G := []) x_v691 (RG.msw x_v558) (by decide) (by decide) (fun q9 _ _ => st_xN (by have q8 := (RG.msw x_v558 q9).2.2.2.1; omega)))) | (exact g151.seq x_v1538) | (exact RG_f (m := 4) (G := []) x_v119 hms (by decide) (by decide) (fun q9 _ _ => st_uND (by omega))) | (exact RG_f (m := 4) (G := []) x_v449 hms (by decide) (by decide) (fun q9 _ _ => st_uBD (by omega)))), (FKP.tr (FKP.tr (FKP.tr FKP.rf x_v759) x_v1539) x_v1582)⟩) dX12_readUnit_161
          · skip
            have tc118 := f_eq (k := 0) (by decide) c118
            clear x_v1150
            replace x_v1151 := x_v1151.resolve_left (fun q9 => q9 tc118)
            refine lv_aload_n hx hb dX12_readUnit_121 rfl (lv_at hl 1 rfl) ?_
            refine lv_bipush (v := 40) hx hb dX12_readUnit_122 (by decide) ?_
            have z9_40 : (40 : Int32).toInt = 40 := by decide
            refine tk_i hH hS hA (tr_V (n := 1) (As := [.int 40]) hx hb hml hown hts hkb hH (ox_map hOX rfl) hks hE hS hA (s_M_is l D cs kf T (y4 :: O) ((y4, .inl (cs.2.1, 1302, .inl F75_2)) :: X) a0 hg mq (40) o0 o1 o2 y3 y4 o5 n75_0_6 n75_0_7 y8 n75_0_9 n75_0_10 n75_0_11 n75_0_12 tl f3 t tn t_a0 b_hg t_y3 t_y4 (by omega) (by omega) (by omega) (by omega) (by omega) (by omega) (by omega) (by omega) (by omega) htm (hO.sub (by decide))) kw_1370 kw_1372 ks_47 kw_13 kw_1373 (by decide +kernel) ⟨Nat.le_of_ble_eq_true rfl, Nat.le_of_ble_eq_true rfl⟩ (x_recv (ci := 12) hkb hH 0 rfl rfl) rfl rfl hl.1 (Nat.le_of_ble_eq_true rfl) dX12_readUnit_124 ⟨Nat.le_of_ble_eq_true rfl, Nat.le_of_ble_eq_true rfl⟩) (fun v124 u H locs hz9 hH hS => ?_)
            obtain ⟨rfl, l_v124, u_v124, x_v1240, x_v1241⟩ := hz9
            have hH : HT D cs A T (a0 :: y3 :: y4 :: O) ((a0, .inr (12, o0 :: o1 :: o2 :: (.ref y3) :: (.ref y4) :: o5 :: (.int n75_0_6) :: (.int n75_0_7) :: (.int y8) :: (.int n75_0_9) :: (.int n75_0_10) :: (.int n75_0_11) :: (.int n75_0_12) :: tl)) :: (y3, .inl (cs.2.1, 900, .inl f3)) :: (y4, .inl (cs.2.1, 1302, .inl F75_2)) :: X) H := hH
            refine W.widen (k := 0) (n := 0) (Nat.le_of_ble_eq_true rfl) (Nat.le_of_ble_eq_true rfl) ?_
            refine lv_if_ne (tgt := 139) hx hb dX12_readUnit_127 (by decide) (fun c127 => ?_) (fun c127 => ?_)
            · skip
              have tc127 := f_ne (k := 0) (by decide) c127
              replace x_v1240 := x_v1240.resolve_left tc127
              clear x_v1241
              have hk5 := x_v754 (by omega)
              have hq5 := (RG.msw x_v758 (by omega)).2.2.2.1
              refine lv_aload_n hx hb dX12_readUnit_139 rfl (lv_at hl 1 rfl) ?_
              refine tk_v hH hS hA (tr_V (n := 0) (As := []) hx hb hml hown hts hkb hH (ox_map hOX rfl) hks hE hS hA (s_M_next l D cs kf T (y4 :: O) ((y4, .inl (cs.2.1, 1302, .inl F75_2)) :: X) a0 hg mq o0 o1 o2 y3 y4 o5 n75_0_6 n75_0_7 y8 n75_0_9 n75_0_10 n75_0_11 n75_0_12 tl f3 t tn t_a0 b_hg t_y3 t_y4 (by omega) (by omega) (by omega) (by omega) (by omega) (by omega) (by omega) (by omega) (by omega) htm (by omega) (hO.sub (by decide))) kw_1344 kw_1346 ks_43 kw_13 kw_1347 (by decide +kernel) ⟨Nat.le_of_ble_eq_true rfl, Nat.le_of_ble_eq_true rfl⟩ (x_recv (ci := 12) hkb hH 0 rfl rfl) rfl rfl hl.1 (Nat.le_of_ble_eq_true rfl) dX12_readUnit_140 ⟨Nat.le_of_ble_eq_true rfl, Nat.le_of_ble_eq_true rfl⟩) (fun u H locs hz9 hH hS => ?_)
              obtain ⟨n140_0_6, n140_0_7, n140_0_9, n140_0_10, rfl, x_v1400, x_v1401, x_v1402, x_v1403, x_v1404, x_v1405, x_v1406, x_v1407⟩ := hz9
              have hH : HT D cs A T (a0 :: y3 :: y4 :: O) ((a0, .inr (12, o0 :: o1 :: o2 :: (.ref y3) :: (.ref y4) :: o5 :: (.int n140_0_6) :: (.int n140_0_7) :: (.int y8) :: (.int n140_0_9) :: (.int n140_0_10) :: (.int n75_0_11) :: (.int n75_0_12) :: tl)) :: (y3, .inl (cs.2.1, 900, .inl f3)) :: (y4, .inl (cs.2.1, 1302, .inl F75_2)) :: X) H := hH
              refine W.widen (k := 0) (n := 0) (Nat.le_of_ble_eq_true rfl) (Nat.le_of_ble_eq_true rfl) ?_
              refine lv_goto (tgt := 151) hx hb dX12_readUnit_143 (by decide) ?_
              have g151 : RG t tn [(5, 0)] [(3, 0)] y11 y12 y6 n75_0_11 n75_0_12 n140_0_6 n140_0_7 n140_0_9 n140_0_10 := (by first | (refine g78.seq (RG_nx ?_ x_v1406 (fun _ _ => st_cY ?_) ((RG.msw x_v758 ?_).nx x_v1407)) <;> omega) | (exact g78.seq (RG_f (m := 2) (G := []) x_v1481 (RG.msw x_v758) (by decide) (by decide) (fun q9 _ _ => st_cN (by have q8 := (RG.msw x_v758 q9).2.2.2.1; omega)))))
              refine lv_aload_n hx hb dX12_readUnit_151 rfl (lv_at hl 1 rfl) ?_
              refine lv_iload_n hx hb dX12_readUnit_152 rfl (lv_at hl 2 rfl) ?_
              refine tk_v hH hS hA (tr_V (n := 1) (As := [.int x1]) hx hb hml hown hts hkb hH (ox_map hOX rfl) hks hE hS hA (s_M_readSum0 l D cs kf T O X a0 hg mq x1 o0 o1 o2 y3 y4 o5 n140_0_6 n140_0_7 y8 n140_0_9 n140_0_10 n75_0_11 n75_0_12 tl f3 F75_2 t tn t_a0 b_hg (by omega) (by omega) t_y3 t_y4 (by omega) (by omega) (by omega) (by omega) (by omega) (by omega) (by omega) (by omega) s_F75_2 (by omega) htm (by omega) (by omega) x_v1403 (by first | exact k4 | (refine RD_sl k4 x_v757 ?_; omega) | (intro _; omega)) (fun _ => x_v1406) (hO.sub (by decide))) kw_1422 kw_1424 ks_60 kw_13 kw_1425 (by decide +kernel) ⟨Nat.le_of_ble_eq_true rfl, Nat.le_of_ble_eq_true rfl⟩ (x_recv (ci := 12) hkb hH 0 rfl rfl) rfl rfl hl.1 (Nat.le_of_ble_eq_true rfl) dX12_readUnit_153 ⟨Nat.le_of_ble_eq_true rfl, Nat.le_of_ble_eq_true rfl⟩) (fun u H locs hz9 hH hS => ?_)
              obtain ⟨n153_0_6, n153_0_7, n153_0_9, n153_0_10, n153_0_11, n153_0_12, F153_2, rfl, x_v1530, x_v1531, x_v1532, x_v1533, x_v1534, x_v1535, x_v1536, x_v1537, x_v1538, x_v1539⟩ := hz9
              have s_F153_2 := x_v1530
              have hH : HT D cs A T (a0 :: y3 :: y4 :: O) ((a0, .inr (12, o0 :: o1 :: o2 :: (.ref y3) :: (.ref y4) :: o5 :: (.int n153_0_6) :: (.int n153_0_7) :: (.int y8) :: (.int n153_0_9) :: (.int n153_0_10) :: (.int n153_0_11) :: (.int n153_0_12) :: tl)) :: (y3, .inl (cs.2.1, 900, .inl f3)) :: (y4, .inl (cs.2.1, 1302, .inl F153_2)) :: X) H := hH
              refine W.widen (k := 0) (n := 0) (Nat.le_of_ble_eq_true rfl) (Nat.le_of_ble_eq_true rfl) ?_
              refine lv_aload_n hx hb dX12_readUnit_156 rfl (lv_at hl 1 rfl) ?_
              refine lv_iload_n hx hb dX12_readUnit_157 rfl (lv_at hl 0 rfl) ?_
              have z9_3005 : (3005 : Int32).toInt = 3005 := by decide
              refine tk_v hH hS hA (tr_V (n := 1) (As := [.int 3005]) hx hb hml hown hts hkb hH (ox_map hOX rfl) hks hE hS hA (s_M_codesO l D cs kf T O X a0 hg mq (3005) o0 o1 o2 y3 y4 o5 n153_0_6 n153_0_7 y8 n153_0_9 n153_0_10 n153_0_11 n153_0_12 tl f3 F153_2 t tn t_a0 b_hg (by decide) (by decide) t_y3 t_y4 (by omega) (by omega) (by omega) (by omega) (by omega) (by omega) (by omega) (by omega) s_F153_2 (by omega) htm (by first | (intro q; constructor <;> omega) | (intro q; obtain ⟨c0, c1, c2⟩ := x_v757 q; constructor <;> omega) | (intro q; obtain ⟨c0, c1, c2⟩ := x_v1537 q; constructor <;> omega) | (refine RD_cp k4 hd0 x_v757 ?_ x_v1537 ?_ <;> omega) | (refine RD_cp k4 hd0 x_v1537 ?_ x_v757 ?_ <;> omega)) (hO.sub (by decide))) kw_1418 kw_1420 ks_59 kw_13 kw_1421 (by decide +kernel) ⟨Nat.le_of_ble_eq_true rfl, Nat.le_of_ble_eq_true rfl⟩ (x_recv (ci := 12) hkb hH 0 rfl rfl) rfl rfl hl.1 (Nat.le_of_ble_eq_true rfl) dX12_readUnit_158 ⟨Nat.le_of_ble_eq_true rfl, Nat.le_of_ble_eq_true rfl⟩) (fun u H locs hz9 hH hS => ?_)
              obtain ⟨F158_2, rfl, x_v1580, x_v1581, x_v1582⟩ := hz9
              have s_F158_2 := x_v1580
              have hH : HT D cs A T (a0 :: y3 :: y4 :: O) ((a0, .inr (12, o0 :: o1 :: o2 :: (.ref y3) :: (.ref y4) :: o5 :: (.int n153_0_6) :: (.int n153_0_7) :: (.int y8) :: (.int n153_0_9) :: (.int n153_0_10) :: (.int n153_0_11) :: (.int n153_0_12) :: tl)) :: (y3, .inl (cs.2.1, 900, .inl f3)) :: (y4, .inl (cs.2.1, 1302, .inl F158_2)) :: X) H := hH
              refine W.widen (k := 0) (n := 0) (Nat.le_of_ble_eq_true rfl) (Nat.le_of_ble_eq_true rfl) ?_
              exact te_v hx hb hr hlocks hH hS (⟨n153_0_6, n153_0_7, n153_0_9, n153_0_10, n153_0_11, n153_0_12, F158_2, rfl, s_F158_2, by omega, by omega, by omega, x_v1534, by omega, by omega, (by first | (refine RD_op x_v757 ?_ x_v1537 x_v1581; omega) | (refine RD_op x_v1537 ?_ x_v757 x_v1581; omega) | exact x_v757 | exact x_v1537 | (refine RD_le x_v757 ?_; omega) | (refine RD_le x_v1537 ?_; omega) | (intro q; obtain ⟨c1, c2⟩ := x_v1581 q; refine ⟨?_, ?_, ?_⟩ <;> omega) | (intro q; obtain ⟨c0, c1, c2⟩ := x_v1537 q; refine ⟨?_, ?_, ?_⟩ <;> omega) | (intro q; obtain ⟨c0, c1, c2⟩ := x_v1537 q; obtain ⟨d1, d2⟩ := x_v1581 q; refine ⟨?_, ?_, ?_⟩ <;> omega)), (by first | (exact g18.seq x_v228) | (refine g58.seq (RG_nx ?_ x_v617.1 (fun _ _ => st_xY ?_) x_v617.2.1) <;> omega) | (exact g58.seq (RG_f (m := 2) (G := []) x_v691 (RG.msw x_v558) (by decide) (by decide) (fun q9 _ _ => st_xN (by have q8 := (RG.msw x_v558 q9).2.2.2.1; omega)))) | (exact g151.seq x_v1538) | (exact RG_f (m := 4) (G := []) x_v119 hms (by decide) (by decide) (fun q9 _ _ => st_uND (by omega))) | (exact RG_f (m := 4) (G := []) x_v449 hms (by decide) (by decide) (fun q9 _ _ => st_uBD (by omega)))), (FKP.tr (FKP.tr (FKP.tr FKP.rf x_v759) x_v1539) x_v1582)⟩) dX12_readUnit_161
            · skip
              have tc127 := f_eq (k := 0) (by decide) c127
              clear x_v1240
              replace x_v1241 := x_v1241.resolve_left (fun q9 => q9 tc127)
              refine lv_aload_n hx hb dX12_readUnit_130 rfl (lv_at hl 1 rfl) ?_
              refine lv_bipush (v := 41) hx hb dX12_readUnit_131 (by decide) ?_
              have z9_41 : (41 : Int32).toInt = 41 := by decide
              refine tk_i hH hS hA (tr_V (n := 1) (As := [.int 41]) hx hb hml hown hts hkb hH (ox_map hOX rfl) hks hE hS hA (s_M_is l D cs kf T (y4 :: O) ((y4, .inl (cs.2.1, 1302, .inl F75_2)) :: X) a0 hg mq (41) o0 o1 o2 y3 y4 o5 n75_0_6 n75_0_7 y8 n75_0_9 n75_0_10 n75_0_11 n75_0_12 tl f3 t tn t_a0 b_hg t_y3 t_y4 (by omega) (by omega) (by omega) (by omega) (by omega) (by omega) (by omega) (by omega) (by omega) htm (hO.sub (by decide))) kw_1370 kw_1372 ks_47 kw_13 kw_1373 (by decide +kernel) ⟨Nat.le_of_ble_eq_true rfl, Nat.le_of_ble_eq_true rfl⟩ (x_recv (ci := 12) hkb hH 0 rfl rfl) rfl rfl hl.1 (Nat.le_of_ble_eq_true rfl) dX12_readUnit_133 ⟨Nat.le_of_ble_eq_true rfl, Nat.le_of_ble_eq_true rfl⟩) (fun v133 u H locs hz9 hH hS => ?_)
              obtain ⟨rfl, l_v133, u_v133, x_v1330, x_v1331⟩ := hz9
              have hH : HT D cs A T (a0 :: y3 :: y4 :: O) ((a0, .inr (12, o0 :: o1 :: o2 :: (.ref y3) :: (.ref y4) :: o5 :: (.int n75_0_6) :: (.int n75_0_7) :: (.int y8) :: (.int n75_0_9) :: (.int n75_0_10) :: (.int n75_0_11) :: (.int n75_0_12) :: tl)) :: (y3, .inl (cs.2.1, 900, .inl f3)) :: (y4, .inl (cs.2.1, 1302, .inl F75_2)) :: X) H := hH
              refine W.widen (k := 0) (n := 0) (Nat.le_of_ble_eq_true rfl) (Nat.le_of_ble_eq_true rfl) ?_
              refine lv_if_eq (tgt := 146) hx hb dX12_readUnit_136 (by decide) (fun c136 => ?_) (fun c136 => ?_)
              · skip
                have tc136 := f_eq (k := 0) (by decide) c136
                clear x_v1330
                replace x_v1331 := x_v1331.resolve_left (fun q9 => q9 tc136)
                refine lv_aload_n hx hb dX12_readUnit_146 rfl (lv_at hl 1 rfl) ?_
                refine lv_iconst (v := 2) hx hb dX12_readUnit_147 (by decide) ?_
                have z9_2 : (2 : Int32).toInt = 2 := by decide
                refine tk_v hH hS hA (tr_V (n := 1) (As := [.int 2]) hx hb hml hown hts hkb hH (ox_map hOX rfl) hks hE hS hA (s_M_fails l D cs kf T (y4 :: O) ((y4, .inl (cs.2.1, 1302, .inl F75_2)) :: X) a0 hg mq (2) o0 o1 o2 y3 y4 o5 n75_0_6 n75_0_7 y8 n75_0_9 n75_0_10 n75_0_11 n75_0_12 tl f3 t tn t_a0 b_hg (by decide) (by decide) t_y3 t_y4 (by omega) (by omega) (by omega) (by omega) (by omega) (by omega) (by omega) (by omega) (by omega) htm (hO.sub (by decide))) kw_1378 kw_1380 ks_49 kw_13 kw_1381 (by decide +kernel) ⟨Nat.le_of_ble_eq_true rfl, Nat.le_of_ble_eq_true rfl⟩ (x_recv (ci := 12) hkb hH 0 rfl rfl) rfl rfl hl.1 (Nat.le_of_ble_eq_true rfl) dX12_readUnit_148 ⟨Nat.le_of_ble_eq_true rfl, Nat.le_of_ble_eq_true rfl⟩) (fun u H locs hz9 hH hS => ?_)
                obtain ⟨n148_0_11, n148_0_12, rfl, x_v1480, x_v1481⟩ := hz9
                have hH : HT D cs A T (a0 :: y3 :: y4 :: O) ((a0, .inr (12, o0 :: o1 :: o2 :: (.ref y3) :: (.ref y4) :: o5 :: (.int n75_0_6) :: (.int n75_0_7) :: (.int y8) :: (.int n75_0_9) :: (.int n75_0_10) :: (.int n148_0_11) :: (.int n148_0_12) :: tl)) :: (y3, .inl (cs.2.1, 900, .inl f3)) :: (y4, .inl (cs.2.1, 1302, .inl F75_2)) :: X) H := hH
                refine W.widen (k := 0) (n := 0) (Nat.le_of_ble_eq_true rfl) (Nat.le_of_ble_eq_true rfl) ?_
                have g151 : RG t tn [(5, 0)] [(3, 0)] y11 y12 y6 n148_0_11 n148_0_12 n75_0_6 n75_0_7 n75_0_9 n75_0_10 := (by first | (refine g78.seq (RG_nx ?_ x_v1406 (fun _ _ => st_cY ?_) ((RG.msw x_v758 ?_).nx x_v1407)) <;> omega) | (exact g78.seq (RG_f (m := 2) (G := []) x_v1481 (RG.msw x_v758) (by decide) (by decide) (fun q9 _ _ => st_cN (by have q8 := (RG.msw x_v758 q9).2.2.2.1; omega)))))
                refine lv_aload_n hx hb dX12_readUnit_151 rfl (lv_at hl 1 rfl) ?_
                refine lv_iload_n hx hb dX12_readUnit_152 rfl (lv_at hl 2 rfl) ?_
                refine tk_v hH hS hA (tr_V (n := 1) (As := [.int x1]) hx hb hml hown hts hkb hH (ox_map hOX rfl) hks hE hS hA (s_M_readSum0 l D cs kf T O X a0 hg mq x1 o0 o1 o2 y3 y4 o5 n75_0_6 n75_0_7 y8 n75_0_9 n75_0_10 n148_0_11 n148_0_12 tl f3 F75_2 t tn t_a0 b_hg (by omega) (by omega) t_y3 t_y4 (by omega) (by omega) (by omega) (by omega) (by omega) (by omega) (by omega) (by omega) s_F75_2 (by omega) htm (by omega) (by omega) x_v754 (by first | exact k4 | exact (fun q => absurd q x_v1480) | (refine RD_sl k4 x_v757 ?_; omega) | (intro _; omega)) (fun q9 => absurd q9 x_v1480) (hO.sub (by decide))) kw_1422 kw_1424 ks_60 kw_13 kw_1425 (by decide +kernel) ⟨Nat.le_of_ble_eq_true rfl, Nat.le_of_ble_eq_true rfl⟩ (x_recv (ci := 12) hkb hH 0 rfl rfl) rfl rfl hl.1 (Nat.le_of_ble_eq_true rfl) dX12_readUnit_153 ⟨Nat.le_of_ble_eq_true rfl, Nat.le_of_ble_eq_true rfl⟩) (fun u H locs hz9 hH hS => ?_)
                obtain ⟨n153_0_6, n153_0_7, n153_0_9, n153_0_10, n153_0_11, n153_0_12, F153_2, rfl, x_v1530, x_v1531, x_v1532, x_v1533, x_v1534, x_v1535, x_v1536, x_v1537, x_v1538, x_v1539⟩ := hz9
                have s_F153_2 := x_v1530
                have hH : HT D cs A T (a0 :: y3 :: y4 :: O) ((a0, .inr (12, o0 :: o1 :: o2 :: (.ref y3) :: (.ref y4) :: o5 :: (.int n153_0_6) :: (.int n153_0_7) :: (.int y8) :: (.int n153_0_9) :: (.int n153_0_10) :: (.int n153_0_11) :: (.int n153_0_12) :: tl)) :: (y3, .inl (cs.2.1, 900, .inl f3)) :: (y4, .inl (cs.2.1, 1302, .inl F153_2)) :: X) H := hH
                refine W.widen (k := 0) (n := 0) (Nat.le_of_ble_eq_true rfl) (Nat.le_of_ble_eq_true rfl) ?_
                refine lv_aload_n hx hb dX12_readUnit_156 rfl (lv_at hl 1 rfl) ?_
                refine lv_iload_n hx hb dX12_readUnit_157 rfl (lv_at hl 0 rfl) ?_
                have z9_3005 : (3005 : Int32).toInt = 3005 := by decide
                refine tk_v hH hS hA (tr_V (n := 1) (As := [.int 3005]) hx hb hml hown hts hkb hH (ox_map hOX rfl) hks hE hS hA (s_M_codesO l D cs kf T O X a0 hg mq (3005) o0 o1 o2 y3 y4 o5 n153_0_6 n153_0_7 y8 n153_0_9 n153_0_10 n153_0_11 n153_0_12 tl f3 F153_2 t tn t_a0 b_hg (by decide) (by decide) t_y3 t_y4 (by omega) (by omega) (by omega) (by omega) (by omega) (by omega) (by omega) (by omega) s_F153_2 (by omega) htm (by first | exact (fun q => absurd q x_v1480) | exact (fun q => absurd (x_v757 q).1 x_v1480) | exact (fun q => absurd (x_v1537 q).1 x_v1480) | (intro q; constructor <;> omega) | (intro q; obtain ⟨c0, c1, c2⟩ := x_v757 q; constructor <;> omega) | (intro q; obtain ⟨c0, c1, c2⟩ := x_v1537 q; constructor <;> omega) | (refine RD_cp k4 hd0 x_v757 ?_ x_v1537 ?_ <;> omega) | (refine RD_cp k4 hd0 x_v1537 ?_ x_v757 ?_ <;> omega)) (hO.sub (by decide))) kw_1418 kw_1420 ks_59 kw_13 kw_1421 (by decide +kernel) ⟨Nat.le_of_ble_eq_true rfl, Nat.le_of_ble_eq_true rfl⟩ (x_recv (ci := 12) hkb hH 0 rfl rfl) rfl rfl hl.1 (Nat.le_of_ble_eq_true rfl) dX12_readUnit_158 ⟨Nat.le_of_ble_eq_true rfl, Nat.le_of_ble_eq_true rfl⟩) (fun u H locs hz9 hH hS => ?_)
                obtain ⟨F158_2, rfl, x_v1580, x_v1581, x_v1582⟩ := hz9
                have s_F158_2 := x_v1580
                have hH : HT D cs A T (a0 :: y3 :: y4 :: O) ((a0, .inr (12, o0 :: o1 :: o2 :: (.ref y3) :: (.ref y4) :: o5 :: (.int n153_0_6) :: (.int n153_0_7) :: (.int y8) :: (.int n153_0_9) :: (.int n153_0_10) :: (.int n153_0_11) :: (.int n153_0_12) :: tl)) :: (y3, .inl (cs.2.1, 900, .inl f3)) :: (y4, .inl (cs.2.1, 1302, .inl F158_2)) :: X) H := hH
                refine W.widen (k := 0) (n := 0) (Nat.le_of_ble_eq_true rfl) (Nat.le_of_ble_eq_true rfl) ?_
                exact te_v hx hb hr hlocks hH hS (⟨n153_0_6, n153_0_7, n153_0_9, n153_0_10, n153_0_11, n153_0_12, F158_2, rfl, s_F158_2, by omega, by omega, by omega, x_v1534, by omega, by omega, (by first | exact (fun q => absurd q x_v1480) | exact (fun q => absurd (x_v757 q).1 x_v1480) | exact (fun q => absurd (x_v1537 q).1 x_v1480) | (refine RD_op x_v757 ?_ x_v1537 x_v1581; omega) | (refine RD_op x_v1537 ?_ x_v757 x_v1581; omega) | exact x_v757 | exact x_v1537 | (refine RD_le x_v757 ?_; omega) | (refine RD_le x_v1537 ?_; omega) | (intro q; obtain ⟨c1, c2⟩ := x_v1581 q; refine ⟨?_, ?_, ?_⟩ <;> omega) | (intro q; obtain ⟨c0, c1, c2⟩ := x_v1537 q; refine ⟨?_, ?_, ?_⟩ <;> omega) | (intro q; obtain ⟨c0, c1, c2⟩ := x_v1537 q; obtain ⟨d1, d2⟩ := x_v1581 q; refine ⟨?_, ?_, ?_⟩ <;> omega)), (by first | (exact g18.seq x_v228) | (refine g58.seq (RG_nx ?_ x_v617.1 (fun _ _ => st_xY ?_) x_v617.2.1) <;> omega) | (exact g58.seq (RG_f (m := 2) (G := []) x_v691 (RG.msw x_v558) (by decide) (by decide) (fun q9 _ _ => st_xN (by have q8 := (RG.msw x_v558 q9).2.2.2.1; omega)))) | (exact g151.seq x_v1538) | (exact RG_f (m := 4) (G := []) x_v119 hms (by decide) (by decide) (fun q9 _ _ => st_uND (by omega))) | (exact RG_f (m := 4) (G := []) x_v449 hms (by decide) (by decide) (fun q9 _ _ => st_uBD (by omega)))), (FKP.tr (FKP.tr (FKP.tr FKP.rf x_v759) x_v1539) x_v1582)⟩) dX12_readUnit_161
              · skip
                have tc136 := f_ne (k := 0) (by decide) c136
                replace x_v1330 := x_v1330.resolve_left tc136
                clear x_v1331
                have hk5 := x_v754 (by omega)
                have hq5 := (RG.msw x_v758 (by omega)).2.2.2.1
                refine lv_aload_n hx hb dX12_readUnit_139 rfl (lv_at hl 1 rfl) ?_
                refine tk_v hH hS hA (tr_V (n := 0) (As := []) hx hb hml hown hts hkb hH (ox_map hOX rfl) hks hE hS hA (s_M_next l D cs kf T (y4 :: O) ((y4, .inl (cs.2.1, 1302, .inl F75_2)) :: X) a0 hg mq o0 o1 o2 y3 y4 o5 n75_0_6 n75_0_7 y8 n75_0_9 n75_0_10 n75_0_11 n75_0_12 tl f3 t tn t_a0 b_hg t_y3 t_y4 (by omega) (by omega) (by omega) (by omega) (by omega) (by omega) (by omega) (by omega) (by omega) htm (by omega) (hO.sub (by decide))) kw_1344 kw_1346 ks_43 kw_13 kw_1347 (by decide +kernel) ⟨Nat.le_of_ble_eq_true rfl, Nat.le_of_ble_eq_true rfl⟩ (x_recv (ci := 12) hkb hH 0 rfl rfl) rfl rfl hl.1 (Nat.le_of_ble_eq_true rfl) dX12_readUnit_140 ⟨Nat.le_of_ble_eq_true rfl, Nat.le_of_ble_eq_true rfl⟩) (fun u H locs hz9 hH hS => ?_)
                obtain ⟨n140_0_6, n140_0_7, n140_0_9, n140_0_10, rfl, x_v1400, x_v1401, x_v1402, x_v1403, x_v1404, x_v1405, x_v1406, x_v1407⟩ := hz9
                have hH : HT D cs A T (a0 :: y3 :: y4 :: O) ((a0, .inr (12, o0 :: o1 :: o2 :: (.ref y3) :: (.ref y4) :: o5 :: (.int n140_0_6) :: (.int n140_0_7) :: (.int y8) :: (.int n140_0_9) :: (.int n140_0_10) :: (.int n75_0_11) :: (.int n75_0_12) :: tl)) :: (y3, .inl (cs.2.1, 900, .inl f3)) :: (y4, .inl (cs.2.1, 1302, .inl F75_2)) :: X) H := hH
                refine W.widen (k := 0) (n := 0) (Nat.le_of_ble_eq_true rfl) (Nat.le_of_ble_eq_true rfl) ?_
                refine lv_goto (tgt := 151) hx hb dX12_readUnit_143 (by decide) ?_
                have g151 : RG t tn [(5, 0)] [(3, 0)] y11 y12 y6 n75_0_11 n75_0_12 n140_0_6 n140_0_7 n140_0_9 n140_0_10 := (by first | (refine g78.seq (RG_nx ?_ x_v1406 (fun _ _ => st_cY ?_) ((RG.msw x_v758 ?_).nx x_v1407)) <;> omega) | (exact g78.seq (RG_f (m := 2) (G := []) x_v1481 (RG.msw x_v758) (by decide) (by decide) (fun q9 _ _ => st_cN (by have q8 := (RG.msw x_v758 q9).2.2.2.1; omega)))))
                refine lv_aload_n hx hb dX12_readUnit_151 rfl (lv_at hl 1 rfl) ?_
                refine lv_iload_n hx hb dX12_readUnit_152 rfl (lv_at hl 2 rfl) ?_
                refine tk_v hH hS hA (tr_V (n := 1) (As := [.int x1]) hx hb hml hown hts hkb hH (ox_map hOX rfl) hks hE hS hA (s_M_readSum0 l D cs kf T O X a0 hg mq x1 o0 o1 o2 y3 y4 o5 n140_0_6 n140_0_7 y8 n140_0_9 n140_0_10 n75_0_11 n75_0_12 tl f3 F75_2 t tn t_a0 b_hg (by omega) (by omega) t_y3 t_y4 (by omega) (by omega) (by omega) (by omega) (by omega) (by omega) (by omega) (by omega) s_F75_2 (by omega) htm (by omega) (by omega) x_v1403 (by first | exact k4 | (refine RD_sl k4 x_v757 ?_; omega) | (intro _; omega)) (fun _ => x_v1406) (hO.sub (by decide))) kw_1422 kw_1424 ks_60 kw_13 kw_1425 (by decide +kernel) ⟨Nat.le_of_ble_eq_true rfl, Nat.le_of_ble_eq_true rfl⟩ (x_recv (ci := 12) hkb hH 0 rfl rfl) rfl rfl hl.1 (Nat.le_of_ble_eq_true rfl) dX12_readUnit_153 ⟨Nat.le_of_ble_eq_true rfl, Nat.le_of_ble_eq_true rfl⟩) (fun u H locs hz9 hH hS => ?_)
                obtain ⟨n153_0_6, n153_0_7, n153_0_9, n153_0_10, n153_0_11, n153_0_12, F153_2, rfl, x_v1530, x_v1531, x_v1532, x_v1533, x_v1534, x_v1535, x_v1536, x_v1537, x_v1538, x_v1539⟩ := hz9
                have s_F153_2 := x_v1530
                have hH : HT D cs A T (a0 :: y3 :: y4 :: O) ((a0, .inr (12, o0 :: o1 :: o2 :: (.ref y3) :: (.ref y4) :: o5 :: (.int n153_0_6) :: (.int n153_0_7) :: (.int y8) :: (.int n153_0_9) :: (.int n153_0_10) :: (.int n153_0_11) :: (.int n153_0_12) :: tl)) :: (y3, .inl (cs.2.1, 900, .inl f3)) :: (y4, .inl (cs.2.1, 1302, .inl F153_2)) :: X) H := hH
                refine W.widen (k := 0) (n := 0) (Nat.le_of_ble_eq_true rfl) (Nat.le_of_ble_eq_true rfl) ?_
                refine lv_aload_n hx hb dX12_readUnit_156 rfl (lv_at hl 1 rfl) ?_
                refine lv_iload_n hx hb dX12_readUnit_157 rfl (lv_at hl 0 rfl) ?_
                have z9_3005 : (3005 : Int32).toInt = 3005 := by decide
                refine tk_v hH hS hA (tr_V (n := 1) (As := [.int 3005]) hx hb hml hown hts hkb hH (ox_map hOX rfl) hks hE hS hA (s_M_codesO l D cs kf T O X a0 hg mq (3005) o0 o1 o2 y3 y4 o5 n153_0_6 n153_0_7 y8 n153_0_9 n153_0_10 n153_0_11 n153_0_12 tl f3 F153_2 t tn t_a0 b_hg (by decide) (by decide) t_y3 t_y4 (by omega) (by omega) (by omega) (by omega) (by omega) (by omega) (by omega) (by omega) s_F153_2 (by omega) htm (by first | (intro q; constructor <;> omega) | (intro q; obtain ⟨c0, c1, c2⟩ := x_v757 q; constructor <;> omega) | (intro q; obtain ⟨c0, c1, c2⟩ := x_v1537 q; constructor <;> omega) | (refine RD_cp k4 hd0 x_v757 ?_ x_v1537 ?_ <;> omega) | (refine RD_cp k4 hd0 x_v1537 ?_ x_v757 ?_ <;> omega)) (hO.sub (by decide))) kw_1418 kw_1420 ks_59 kw_13 kw_1421 (by decide +kernel) ⟨Nat.le_of_ble_eq_true rfl, Nat.le_of_ble_eq_true rfl⟩ (x_recv (ci := 12) hkb hH 0 rfl rfl) rfl rfl hl.1 (Nat.le_of_ble_eq_true rfl) dX12_readUnit_158 ⟨Nat.le_of_ble_eq_true rfl, Nat.le_of_ble_eq_true rfl⟩) (fun u H locs hz9 hH hS => ?_)
                obtain ⟨F158_2, rfl, x_v1580, x_v1581, x_v1582⟩ := hz9
                have s_F158_2 := x_v1580
                have hH : HT D cs A T (a0 :: y3 :: y4 :: O) ((a0, .inr (12, o0 :: o1 :: o2 :: (.ref y3) :: (.ref y4) :: o5 :: (.int n153_0_6) :: (.int n153_0_7) :: (.int y8) :: (.int n153_0_9) :: (.int n153_0_10) :: (.int n153_0_11) :: (.int n153_0_12) :: tl)) :: (y3, .inl (cs.2.1, 900, .inl f3)) :: (y4, .inl (cs.2.1, 1302, .inl F158_2)) :: X) H := hH
                refine W.widen (k := 0) (n := 0) (Nat.le_of_ble_eq_true rfl) (Nat.le_of_ble_eq_true rfl) ?_
                exact te_v hx hb hr hlocks hH hS (⟨n153_0_6, n153_0_7, n153_0_9, n153_0_10, n153_0_11, n153_0_12, F158_2, rfl, s_F158_2, by omega, by omega, by omega, x_v1534, by omega, by omega, (by first | (refine RD_op x_v757 ?_ x_v1537 x_v1581; omega) | (refine RD_op x_v1537 ?_ x_v757 x_v1581; omega) | exact x_v757 | exact x_v1537 | (refine RD_le x_v757 ?_; omega) | (refine RD_le x_v1537 ?_; omega) | (intro q; obtain ⟨c1, c2⟩ := x_v1581 q; refine ⟨?_, ?_, ?_⟩ <;> omega) | (intro q; obtain ⟨c0, c1, c2⟩ := x_v1537 q; refine ⟨?_, ?_, ?_⟩ <;> omega) | (intro q; obtain ⟨c0, c1, c2⟩ := x_v1537 q; obtain ⟨d1, d2⟩ := x_v1581 q; refine ⟨?_, ?_, ?_⟩ <;> omega)), (by first | (exact g18.seq x_v228) | (refine g58.seq (RG_nx ?_ x_v617.1 (fun _ _ => st_xY ?_) x_v617.2.1) <;> omega) | (exact g58.seq (RG_f (m := 2) (G := []) x_v691 (RG.msw x_v558) (by decide) (by decide) (fun q9 _ _ => st_xN (by have q8 := (RG.msw x_v558 q9).2.2.2.1; omega)))) | (exact g151.seq x_v1538) | (exact RG_f (m := 4) (G := []) x_v119 hms (by decide) (by decide) (fun q9 _ _ => st_uND (by omega))) | (exact RG_f (m := 4) (G := []) x_v449 hms (by decide) (by decide) (fun q9 _ _ => st_uBD (by omega)))), (FKP.tr (FKP.tr (FKP.tr FKP.rf x_v759) x_v1539) x_v1582)⟩) dX12_readUnit_161
        · skip
          have tc99 := f_ne (k := 0) (by decide) c99
          replace x_v960 := x_v960.resolve_left tc99
          clear x_v961
          refine lv_sipush (v := 3004) hx hb dX12_readUnit_102 (by decide) ?_
          refine lv_goto (tgt := 111) hx hb dX12_readUnit_105 (by decide) ?_
          refine lv_istore_n (lv' := [(2, .int 3004), (0, .ref a0), (1, .int x1)]) hx hb dX12_readUnit_111 rfl hl (by decide) rfl (fun ls hl => ?_)
          refine lv_aload_n hx hb dX12_readUnit_112 rfl (lv_at hl 1 rfl) ?_
          refine lv_bipush (v := 39) hx hb dX12_readUnit_113 (by decide) ?_
          have z9_39 : (39 : Int32).toInt = 39 := by decide
          refine tk_i hH hS hA (tr_V (n := 1) (As := [.int 39]) hx hb hml hown hts hkb hH (ox_map hOX rfl) hks hE hS hA (s_M_is l D cs kf T (y4 :: O) ((y4, .inl (cs.2.1, 1302, .inl F75_2)) :: X) a0 hg mq (39) o0 o1 o2 y3 y4 o5 n75_0_6 n75_0_7 y8 n75_0_9 n75_0_10 n75_0_11 n75_0_12 tl f3 t tn t_a0 b_hg t_y3 t_y4 (by omega) (by omega) (by omega) (by omega) (by omega) (by omega) (by omega) (by omega) (by omega) htm (hO.sub (by decide))) kw_1370 kw_1372 ks_47 kw_13 kw_1373 (by decide +kernel) ⟨Nat.le_of_ble_eq_true rfl, Nat.le_of_ble_eq_true rfl⟩ (x_recv (ci := 12) hkb hH 0 rfl rfl) rfl rfl hl.1 (Nat.le_of_ble_eq_true rfl) dX12_readUnit_115 ⟨Nat.le_of_ble_eq_true rfl, Nat.le_of_ble_eq_true rfl⟩) (fun v115 u H locs hz9 hH hS => ?_)
          obtain ⟨rfl, l_v115, u_v115, x_v1150, x_v1151⟩ := hz9
          have hH : HT D cs A T (a0 :: y3 :: y4 :: O) ((a0, .inr (12, o0 :: o1 :: o2 :: (.ref y3) :: (.ref y4) :: o5 :: (.int n75_0_6) :: (.int n75_0_7) :: (.int y8) :: (.int n75_0_9) :: (.int n75_0_10) :: (.int n75_0_11) :: (.int n75_0_12) :: tl)) :: (y3, .inl (cs.2.1, 900, .inl f3)) :: (y4, .inl (cs.2.1, 1302, .inl F75_2)) :: X) H := hH
          refine W.widen (k := 0) (n := 0) (Nat.le_of_ble_eq_true rfl) (Nat.le_of_ble_eq_true rfl) ?_
          refine lv_if_ne (tgt := 139) hx hb dX12_readUnit_118 (by decide) (fun c118 => ?_) (fun c118 => ?_)
          · skip
            have tc118 := f_ne (k := 0) (by decide) c118
            replace x_v1150 := x_v1150.resolve_left tc118
            clear x_v1151
            have hk5 := x_v754 (by omega)
            have hq5 := (RG.msw x_v758 (by omega)).2.2.2.1
            refine lv_aload_n hx hb dX12_readUnit_139 rfl (lv_at hl 1 rfl) ?_
            refine tk_v hH hS hA (tr_V (n := 0) (As := []) hx hb hml hown hts hkb hH (ox_map hOX rfl) hks hE hS hA (s_M_next l D cs kf T (y4 :: O) ((y4, .inl (cs.2.1, 1302, .inl F75_2)) :: X) a0 hg mq o0 o1 o2 y3 y4 o5 n75_0_6 n75_0_7 y8 n75_0_9 n75_0_10 n75_0_11 n75_0_12 tl f3 t tn t_a0 b_hg t_y3 t_y4 (by omega) (by omega) (by omega) (by omega) (by omega) (by omega) (by omega) (by omega) (by omega) htm (by omega) (hO.sub (by decide))) kw_1344 kw_1346 ks_43 kw_13 kw_1347 (by decide +kernel) ⟨Nat.le_of_ble_eq_true rfl, Nat.le_of_ble_eq_true rfl⟩ (x_recv (ci := 12) hkb hH 0 rfl rfl) rfl rfl hl.1 (Nat.le_of_ble_eq_true rfl) dX12_readUnit_140 ⟨Nat.le_of_ble_eq_true rfl, Nat.le_of_ble_eq_true rfl⟩) (fun u H locs hz9 hH hS => ?_)
            obtain ⟨n140_0_6, n140_0_7, n140_0_9, n140_0_10, rfl, x_v1400, x_v1401, x_v1402, x_v1403, x_v1404, x_v1405, x_v1406, x_v1407⟩ := hz9
            have hH : HT D cs A T (a0 :: y3 :: y4 :: O) ((a0, .inr (12, o0 :: o1 :: o2 :: (.ref y3) :: (.ref y4) :: o5 :: (.int n140_0_6) :: (.int n140_0_7) :: (.int y8) :: (.int n140_0_9) :: (.int n140_0_10) :: (.int n75_0_11) :: (.int n75_0_12) :: tl)) :: (y3, .inl (cs.2.1, 900, .inl f3)) :: (y4, .inl (cs.2.1, 1302, .inl F75_2)) :: X) H := hH
            refine W.widen (k := 0) (n := 0) (Nat.le_of_ble_eq_true rfl) (Nat.le_of_ble_eq_true rfl) ?_
            refine lv_goto (tgt := 151) hx hb dX12_readUnit_143 (by decide) ?_
            have g151 : RG t tn [(5, 0)] [(3, 0)] y11 y12 y6 n75_0_11 n75_0_12 n140_0_6 n140_0_7 n140_0_9 n140_0_10 := (by first | (refine g78.seq (RG_nx ?_ x_v1406 (fun _ _ => st_cY ?_) ((RG.msw x_v758 ?_).nx x_v1407)) <;> omega) | (exact g78.seq (RG_f (m := 2) (G := []) x_v1481 (RG.msw x_v758) (by decide) (by decide) (fun q9 _ _ => st_cN (by have q8 := (RG.msw x_v758 q9).2.2.2.1; omega)))))
            refine lv_aload_n hx hb dX12_readUnit_151 rfl (lv_at hl 1 rfl) ?_
            refine lv_iload_n hx hb dX12_readUnit_152 rfl (lv_at hl 2 rfl) ?_
            refine tk_v hH hS hA (tr_V (n := 1) (As := [.int x1]) hx hb hml hown hts hkb hH (ox_map hOX rfl) hks hE hS hA (s_M_readSum0 l D cs kf T O X a0 hg mq x1 o0 o1 o2 y3 y4 o5 n140_0_6 n140_0_7 y8 n140_0_9 n140_0_10 n75_0_11 n75_0_12 tl f3 F75_2 t tn t_a0 b_hg (by omega) (by omega) t_y3 t_y4 (by omega) (by omega) (by omega) (by omega) (by omega) (by omega) (by omega) (by omega) s_F75_2 (by omega) htm (by omega) (by omega) x_v1403 (by first | exact k4 | (refine RD_sl k4 x_v757 ?_; omega) | (intro _; omega)) (fun _ => x_v1406) (hO.sub (by decide))) kw_1422 kw_1424 ks_60 kw_13 kw_1425 (by decide +kernel) ⟨Nat.le_of_ble_eq_true rfl, Nat.le_of_ble_eq_true rfl⟩ (x_recv (ci := 12) hkb hH 0 rfl rfl) rfl rfl hl.1 (Nat.le_of_ble_eq_true rfl) dX12_readUnit_153 ⟨Nat.le_of_ble_eq_true rfl, Nat.le_of_ble_eq_true rfl⟩) (fun u H locs hz9 hH hS => ?_)
            obtain ⟨n153_0_6, n153_0_7, n153_0_9, n153_0_10, n153_0_11, n153_0_12, F153_2, rfl, x_v1530, x_v1531, x_v1532, x_v1533, x_v1534, x_v1535, x_v1536, x_v1537, x_v1538, x_v1539⟩ := hz9
            have s_F153_2 := x_v1530
            have hH : HT D cs A T (a0 :: y3 :: y4 :: O) ((a0, .inr (12, o0 :: o1 :: o2 :: (.ref y3) :: (.ref y4) :: o5 :: (.int n153_0_6) :: (.int n153_0_7) :: (.int y8) :: (.int n153_0_9) :: (.int n153_0_10) :: (.int n153_0_11) :: (.int n153_0_12) :: tl)) :: (y3, .inl (cs.2.1, 900, .inl f3)) :: (y4, .inl (cs.2.1, 1302, .inl F153_2)) :: X) H := hH
            refine W.widen (k := 0) (n := 0) (Nat.le_of_ble_eq_true rfl) (Nat.le_of_ble_eq_true rfl) ?_
            refine lv_aload_n hx hb dX12_readUnit_156 rfl (lv_at hl 1 rfl) ?_
            refine lv_iload_n hx hb dX12_readUnit_157 rfl (lv_at hl 0 rfl) ?_
            have z9_3004 : (3004 : Int32).toInt = 3004 := by decide
            refine tk_v hH hS hA (tr_V (n := 1) (As := [.int 3004]) hx hb hml hown hts hkb hH (ox_map hOX rfl) hks hE hS hA (s_M_codesO l D cs kf T O X a0 hg mq (3004) o0 o1 o2 y3 y4 o5 n153_0_6 n153_0_7 y8 n153_0_9 n153_0_10 n153_0_11 n153_0_12 tl f3 F153_2 t tn t_a0 b_hg (by decide) (by decide) t_y3 t_y4 (by omega) (by omega) (by omega) (by omega) (by omega) (by omega) (by omega) (by omega) s_F153_2 (by omega) htm (by first | (intro q; constructor <;> omega) | (intro q; obtain ⟨c0, c1, c2⟩ := x_v757 q; constructor <;> omega) | (intro q; obtain ⟨c0, c1, c2⟩ := x_v1537 q; constructor <;> omega) | (refine RD_cp k4 hd0 x_v757 ?_ x_v1537 ?_ <;> omega) | (refine RD_cp k4 hd0 x_v1537 ?_ x_v757 ?_ <;> omega)) (hO.sub (by decide))) kw_1418 kw_1420 ks_59 kw_13 kw_1421 (by decide +kernel) ⟨Nat.le_of_ble_eq_true rfl, Nat.le_of_ble_eq_true rfl⟩ (x_recv (ci := 12) hkb hH 0 rfl rfl) rfl rfl hl.1 (Nat.le_of_ble_eq_true rfl) dX12_readUnit_158 ⟨Nat.le_of_ble_eq_true rfl, Nat.le_of_ble_eq_true rfl⟩) (fun u H locs hz9 hH hS => ?_)
            obtain ⟨F158_2, rfl, x_v1580, x_v1581, x_v1582⟩ := hz9
            have s_F158_2 := x_v1580
            have hH : HT D cs A T (a0 :: y3 :: y4 :: O) ((a0, .inr (12, o0 :: o1 :: o2 :: (.ref y3) :: (.ref y4) :: o5 :: (.int n153_0_6) :: (.int n153_0_7) :: (.int y8) :: (.int n153_0_9) :: (.int n153_0_10) :: (.int n153_0_11) :: (.int n153_0_12) :: tl)) :: (y3, .inl (cs.2.1, 900, .inl f3)) :: (y4, .inl (cs.2.1, 1302, .inl F158_2)) :: X) H := hH
            refine W.widen (k := 0) (n := 0) (Nat.le_of_ble_eq_true rfl) (Nat.le_of_ble_eq_true rfl) ?_
            exact te_v hx hb hr hlocks hH hS (⟨n153_0_6, n153_0_7, n153_0_9, n153_0_10, n153_0_11, n153_0_12, F158_2, rfl, s_F158_2, by omega, by omega, by omega, x_v1534, by omega, by omega, (by first | (refine RD_op x_v757 ?_ x_v1537 x_v1581; omega) | (refine RD_op x_v1537 ?_ x_v757 x_v1581; omega) | exact x_v757 | exact x_v1537 | (refine RD_le x_v757 ?_; omega) | (refine RD_le x_v1537 ?_; omega) | (intro q; obtain ⟨c1, c2⟩ := x_v1581 q; refine ⟨?_, ?_, ?_⟩ <;> omega) | (intro q; obtain ⟨c0, c1, c2⟩ := x_v1537 q; refine ⟨?_, ?_, ?_⟩ <;> omega) | (intro q; obtain ⟨c0, c1, c2⟩ := x_v1537 q; obtain ⟨d1, d2⟩ := x_v1581 q; refine ⟨?_, ?_, ?_⟩ <;> omega)), (by first | (exact g18.seq x_v228) | (refine g58.seq (RG_nx ?_ x_v617.1 (fun _ _ => st_xY ?_) x_v617.2.1) <;> omega) | (exact g58.seq (RG_f (m := 2) (G := []) x_v691 (RG.msw x_v558) (by decide) (by decide) (fun q9 _ _ => st_xN (by have q8 := (RG.msw x_v558 q9).2.2.2.1; omega)))) | (exact g151.seq x_v1538) | (exact RG_f (m := 4) (G := []) x_v119 hms (by decide) (by decide) (fun q9 _ _ => st_uND (by omega))) | (exact RG_f (m := 4) (G := []) x_v449 hms (by decide) (by decide) (fun q9 _ _ => st_uBD (by omega)))), (FKP.tr (FKP.tr (FKP.tr FKP.rf x_v759) x_v1539) x_v1582)⟩) dX12_readUnit_161
          · skip
            have tc118 := f_eq (k := 0) (by decide) c118
            clear x_v1150
            replace x_v1151 := x_v1151.resolve_left (fun q9 => q9 tc118)
            refine lv_aload_n hx hb dX12_readUnit_121 rfl (lv_at hl 1 rfl) ?_
            refine lv_bipush (v := 40) hx hb dX12_readUnit_122 (by decide) ?_
            have z9_40 : (40 : Int32).toInt = 40 := by decide
            refine tk_i hH hS hA (tr_V (n := 1) (As := [.int 40]) hx hb hml hown hts hkb hH (ox_map hOX rfl) hks hE hS hA (s_M_is l D cs kf T (y4 :: O) ((y4, .inl (cs.2.1, 1302, .inl F75_2)) :: X) a0 hg mq (40) o0 o1 o2 y3 y4 o5 n75_0_6 n75_0_7 y8 n75_0_9 n75_0_10 n75_0_11 n75_0_12 tl f3 t tn t_a0 b_hg t_y3 t_y4 (by omega) (by omega) (by omega) (by omega) (by omega) (by omega) (by omega) (by omega) (by omega) htm (hO.sub (by decide))) kw_1370 kw_1372 ks_47 kw_13 kw_1373 (by decide +kernel) ⟨Nat.le_of_ble_eq_true rfl, Nat.le_of_ble_eq_true rfl⟩ (x_recv (ci := 12) hkb hH 0 rfl rfl) rfl rfl hl.1 (Nat.le_of_ble_eq_true rfl) dX12_readUnit_124 ⟨Nat.le_of_ble_eq_true rfl, Nat.le_of_ble_eq_true rfl⟩) (fun v124 u H locs hz9 hH hS => ?_)
            obtain ⟨rfl, l_v124, u_v124, x_v1240, x_v1241⟩ := hz9
            have hH : HT D cs A T (a0 :: y3 :: y4 :: O) ((a0, .inr (12, o0 :: o1 :: o2 :: (.ref y3) :: (.ref y4) :: o5 :: (.int n75_0_6) :: (.int n75_0_7) :: (.int y8) :: (.int n75_0_9) :: (.int n75_0_10) :: (.int n75_0_11) :: (.int n75_0_12) :: tl)) :: (y3, .inl (cs.2.1, 900, .inl f3)) :: (y4, .inl (cs.2.1, 1302, .inl F75_2)) :: X) H := hH
            refine W.widen (k := 0) (n := 0) (Nat.le_of_ble_eq_true rfl) (Nat.le_of_ble_eq_true rfl) ?_
            refine lv_if_ne (tgt := 139) hx hb dX12_readUnit_127 (by decide) (fun c127 => ?_) (fun c127 => ?_)
            · skip
              have tc127 := f_ne (k := 0) (by decide) c127
              replace x_v1240 := x_v1240.resolve_left tc127
              clear x_v1241
              have hk5 := x_v754 (by omega)
              have hq5 := (RG.msw x_v758 (by omega)).2.2.2.1
              refine lv_aload_n hx hb dX12_readUnit_139 rfl (lv_at hl 1 rfl) ?_
              refine tk_v hH hS hA (tr_V (n := 0) (As := []) hx hb hml hown hts hkb hH (ox_map hOX rfl) hks hE hS hA (s_M_next l D cs kf T (y4 :: O) ((y4, .inl (cs.2.1, 1302, .inl F75_2)) :: X) a0 hg mq o0 o1 o2 y3 y4 o5 n75_0_6 n75_0_7 y8 n75_0_9 n75_0_10 n75_0_11 n75_0_12 tl f3 t tn t_a0 b_hg t_y3 t_y4 (by omega) (by omega) (by omega) (by omega) (by omega) (by omega) (by omega) (by omega) (by omega) htm (by omega) (hO.sub (by decide))) kw_1344 kw_1346 ks_43 kw_13 kw_1347 (by decide +kernel) ⟨Nat.le_of_ble_eq_true rfl, Nat.le_of_ble_eq_true rfl⟩ (x_recv (ci := 12) hkb hH 0 rfl rfl) rfl rfl hl.1 (Nat.le_of_ble_eq_true rfl) dX12_readUnit_140 ⟨Nat.le_of_ble_eq_true rfl, Nat.le_of_ble_eq_true rfl⟩) (fun u H locs hz9 hH hS => ?_)
              obtain ⟨n140_0_6, n140_0_7, n140_0_9, n140_0_10, rfl, x_v1400, x_v1401, x_v1402, x_v1403, x_v1404, x_v1405, x_v1406, x_v1407⟩ := hz9
              have hH : HT D cs A T (a0 :: y3 :: y4 :: O) ((a0, .inr (12, o0 :: o1 :: o2 :: (.ref y3) :: (.ref y4) :: o5 :: (.int n140_0_6) :: (.int n140_0_7) :: (.int y8) :: (.int n140_0_9) :: (.int n140_0_10) :: (.int n75_0_11) :: (.int n75_0_12) :: tl)) :: (y3, .inl (cs.2.1, 900, .inl f3)) :: (y4, .inl (cs.2.1, 1302, .inl F75_2)) :: X) H := hH
              refine W.widen (k := 0) (n := 0) (Nat.le_of_ble_eq_true rfl) (Nat.le_of_ble_eq_true rfl) ?_
              refine lv_goto (tgt := 151) hx hb dX12_readUnit_143 (by decide) ?_
              have g151 : RG t tn [(5, 0)] [(3, 0)] y11 y12 y6 n75_0_11 n75_0_12 n140_0_6 n140_0_7 n140_0_9 n140_0_10 := (by first | (refine g78.seq (RG_nx ?_ x_v1406 (fun _ _ => st_cY ?_) ((RG.msw x_v758 ?_).nx x_v1407)) <;> omega) | (exact g78.seq (RG_f (m := 2) (G := []) x_v1481 (RG.msw x_v758) (by decide) (by decide) (fun q9 _ _ => st_cN (by have q8 := (RG.msw x_v758 q9).2.2.2.1; omega)))))
              refine lv_aload_n hx hb dX12_readUnit_151 rfl (lv_at hl 1 rfl) ?_
              refine lv_iload_n hx hb dX12_readUnit_152 rfl (lv_at hl 2 rfl) ?_
              refine tk_v hH hS hA (tr_V (n := 1) (As := [.int x1]) hx hb hml hown hts hkb hH (ox_map hOX rfl) hks hE hS hA (s_M_readSum0 l D cs kf T O X a0 hg mq x1 o0 o1 o2 y3 y4 o5 n140_0_6 n140_0_7 y8 n140_0_9 n140_0_10 n75_0_11 n75_0_12 tl f3 F75_2 t tn t_a0 b_hg (by omega) (by omega) t_y3 t_y4 (by omega) (by omega) (by omega) (by omega) (by omega) (by omega) (by omega) (by omega) s_F75_2 (by omega) htm (by omega) (by omega) x_v1403 (by first | exact k4 | (refine RD_sl k4 x_v757 ?_; omega) | (intro _; omega)) (fun _ => x_v1406) (hO.sub (by decide))) kw_1422 kw_1424 ks_60 kw_13 kw_1425 (by decide +kernel) ⟨Nat.le_of_ble_eq_true rfl, Nat.le_of_ble_eq_true rfl⟩ (x_recv (ci := 12) hkb hH 0 rfl rfl) rfl rfl hl.1 (Nat.le_of_ble_eq_true rfl) dX12_readUnit_153 ⟨Nat.le_of_ble_eq_true rfl, Nat.le_of_ble_eq_true rfl⟩) (fun u H locs hz9 hH hS => ?_)
              obtain ⟨n153_0_6, n153_0_7, n153_0_9, n153_0_10, n153_0_11, n153_0_12, F153_2, rfl, x_v1530, x_v1531, x_v1532, x_v1533, x_v1534, x_v1535, x_v1536, x_v1537, x_v1538, x_v1539⟩ := hz9
              have s_F153_2 := x_v1530
              have hH : HT D cs A T (a0 :: y3 :: y4 :: O) ((a0, .inr (12, o0 :: o1 :: o2 :: (.ref y3) :: (.ref y4) :: o5 :: (.int n153_0_6) :: (.int n153_0_7) :: (.int y8) :: (.int n153_0_9) :: (.int n153_0_10) :: (.int n153_0_11) :: (.int n153_0_12) :: tl)) :: (y3, .inl (cs.2.1, 900, .inl f3)) :: (y4, .inl (cs.2.1, 1302, .inl F153_2)) :: X) H := hH
              refine W.widen (k := 0) (n := 0) (Nat.le_of_ble_eq_true rfl) (Nat.le_of_ble_eq_true rfl) ?_
              refine lv_aload_n hx hb dX12_readUnit_156 rfl (lv_at hl 1 rfl) ?_
              refine lv_iload_n hx hb dX12_readUnit_157 rfl (lv_at hl 0 rfl) ?_
              have z9_3004 : (3004 : Int32).toInt = 3004 := by decide
              refine tk_v hH hS hA (tr_V (n := 1) (As := [.int 3004]) hx hb hml hown hts hkb hH (ox_map hOX rfl) hks hE hS hA (s_M_codesO l D cs kf T O X a0 hg mq (3004) o0 o1 o2 y3 y4 o5 n153_0_6 n153_0_7 y8 n153_0_9 n153_0_10 n153_0_11 n153_0_12 tl f3 F153_2 t tn t_a0 b_hg (by decide) (by decide) t_y3 t_y4 (by omega) (by omega) (by omega) (by omega) (by omega) (by omega) (by omega) (by omega) s_F153_2 (by omega) htm (by first | (intro q; constructor <;> omega) | (intro q; obtain ⟨c0, c1, c2⟩ := x_v757 q; constructor <;> omega) | (intro q; obtain ⟨c0, c1, c2⟩ := x_v1537 q; constructor <;> omega) | (refine RD_cp k4 hd0 x_v757 ?_ x_v1537 ?_ <;> omega) | (refine RD_cp k4 hd0 x_v1537 ?_ x_v757 ?_ <;> omega)) (hO.sub (by decide))) kw_1418 kw_1420 ks_59 kw_13 kw_1421 (by decide +kernel) ⟨Nat.le_of_ble_eq_true rfl, Nat.le_of_ble_eq_true rfl⟩ (x_recv (ci := 12) hkb hH 0 rfl rfl) rfl rfl hl.1 (Nat.le_of_ble_eq_true rfl) dX12_readUnit_158 ⟨Nat.le_of_ble_eq_true rfl, Nat.le_of_ble_eq_true rfl⟩) (fun u H locs hz9 hH hS => ?_)
              obtain ⟨F158_2, rfl, x_v1580, x_v1581, x_v1582⟩ := hz9
              have s_F158_2 := x_v1580
              have hH : HT D cs A T (a0 :: y3 :: y4 :: O) ((a0, .inr (12, o0 :: o1 :: o2 :: (.ref y3) :: (.ref y4) :: o5 :: (.int n153_0_6) :: (.int n153_0_7) :: (.int y8) :: (.int n153_0_9) :: (.int n153_0_10) :: (.int n153_0_11) :: (.int n153_0_12) :: tl)) :: (y3, .inl (cs.2.1, 900, .inl f3)) :: (y4, .inl (cs.2.1, 1302, .inl F158_2)) :: X) H := hH
              refine W.widen (k := 0) (n := 0) (Nat.le_of_ble_eq_true rfl) (Nat.le_of_ble_eq_true rfl) ?_
              exact te_v hx hb hr hlocks hH hS (⟨n153_0_6, n153_0_7, n153_0_9, n153_0_10, n153_0_11, n153_0_12, F158_2, rfl, s_F158_2, by omega, by omega, by omega, x_v1534, by omega, by omega, (by first | (refine RD_op x_v757 ?_ x_v1537 x_v1581; omega) | (refine RD_op x_v1537 ?_ x_v757 x_v1581; omega) | exact x_v757 | exact x_v1537 | (refine RD_le x_v757 ?_; omega) | (refine RD_le x_v1537 ?_; omega) | (intro q; obtain ⟨c1, c2⟩ := x_v1581 q; refine ⟨?_, ?_, ?_⟩ <;> omega) | (intro q; obtain ⟨c0, c1, c2⟩ := x_v1537 q; refine ⟨?_, ?_, ?_⟩ <;> omega) | (intro q; obtain ⟨c0, c1, c2⟩ := x_v1537 q; obtain ⟨d1, d2⟩ := x_v1581 q; refine ⟨?_, ?_, ?_⟩ <;> omega)), (by first | (exact g18.seq x_v228) | (refine g58.seq (RG_nx ?_ x_v617.1 (fun _ _ => st_xY ?_) x_v617.2.1) <;> omega) | (exact g58.seq (RG_f (m := 2) (G := []) x_v691 (RG.msw x_v558) (by decide) (by decide) (fun q9 _ _ => st_xN (by have q8 := (RG.msw x_v558 q9).2.2.2.1; omega)))) | (exact g151.seq x_v1538) | (exact RG_f (m := 4) (G := []) x_v119 hms (by decide) (by decide) (fun q9 _ _ => st_uND (by omega))) | (exact RG_f (m := 4) (G := []) x_v449 hms (by decide) (by decide) (fun q9 _ _ => st_uBD (by omega)))), (FKP.tr (FKP.tr (FKP.tr FKP.rf x_v759) x_v1539) x_v1582)⟩) dX12_readUnit_161
            · skip
              have tc127 := f_eq (k := 0) (by decide) c127
              clear x_v1240
              replace x_v1241 := x_v1241.resolve_left (fun q9 => q9 tc127)
              refine lv_aload_n hx hb dX12_readUnit_130 rfl (lv_at hl 1 rfl) ?_
              refine lv_bipush (v := 41) hx hb dX12_readUnit_131 (by decide) ?_
              have z9_41 : (41 : Int32).toInt = 41 := by decide
              refine tk_i hH hS hA (tr_V (n := 1) (As := [.int 41]) hx hb hml hown hts hkb hH (ox_map hOX rfl) hks hE hS hA (s_M_is l D cs kf T (y4 :: O) ((y4, .inl (cs.2.1, 1302, .inl F75_2)) :: X) a0 hg mq (41) o0 o1 o2 y3 y4 o5 n75_0_6 n75_0_7 y8 n75_0_9 n75_0_10 n75_0_11 n75_0_12 tl f3 t tn t_a0 b_hg t_y3 t_y4 (by omega) (by omega) (by omega) (by omega) (by omega) (by omega) (by omega) (by omega) (by omega) htm (hO.sub (by decide))) kw_1370 kw_1372 ks_47 kw_13 kw_1373 (by decide +kernel) ⟨Nat.le_of_ble_eq_true rfl, Nat.le_of_ble_eq_true rfl⟩ (x_recv (ci := 12) hkb hH 0 rfl rfl) rfl rfl hl.1 (Nat.le_of_ble_eq_true rfl) dX12_readUnit_133 ⟨Nat.le_of_ble_eq_true rfl, Nat.le_of_ble_eq_true rfl⟩) (fun v133 u H locs hz9 hH hS => ?_)
              obtain ⟨rfl, l_v133, u_v133, x_v1330, x_v1331⟩ := hz9
              have hH : HT D cs A T (a0 :: y3 :: y4 :: O) ((a0, .inr (12, o0 :: o1 :: o2 :: (.ref y3) :: (.ref y4) :: o5 :: (.int n75_0_6) :: (.int n75_0_7) :: (.int y8) :: (.int n75_0_9) :: (.int n75_0_10) :: (.int n75_0_11) :: (.int n75_0_12) :: tl)) :: (y3, .inl (cs.2.1, 900, .inl f3)) :: (y4, .inl (cs.2.1, 1302, .inl F75_2)) :: X) H := hH
              refine W.widen (k := 0) (n := 0) (Nat.le_of_ble_eq_true rfl) (Nat.le_of_ble_eq_true rfl) ?_
              refine lv_if_eq (tgt := 146) hx hb dX12_readUnit_136 (by decide) (fun c136 => ?_) (fun c136 => ?_)
              · skip
                have tc136 := f_eq (k := 0) (by decide) c136
                clear x_v1330
                replace x_v1331 := x_v1331.resolve_left (fun q9 => q9 tc136)
                refine lv_aload_n hx hb dX12_readUnit_146 rfl (lv_at hl 1 rfl) ?_
                refine lv_iconst (v := 2) hx hb dX12_readUnit_147 (by decide) ?_
                have z9_2 : (2 : Int32).toInt = 2 := by decide
                refine tk_v hH hS hA (tr_V (n := 1) (As := [.int 2]) hx hb hml hown hts hkb hH (ox_map hOX rfl) hks hE hS hA (s_M_fails l D cs kf T (y4 :: O) ((y4, .inl (cs.2.1, 1302, .inl F75_2)) :: X) a0 hg mq (2) o0 o1 o2 y3 y4 o5 n75_0_6 n75_0_7 y8 n75_0_9 n75_0_10 n75_0_11 n75_0_12 tl f3 t tn t_a0 b_hg (by decide) (by decide) t_y3 t_y4 (by omega) (by omega) (by omega) (by omega) (by omega) (by omega) (by omega) (by omega) (by omega) htm (hO.sub (by decide))) kw_1378 kw_1380 ks_49 kw_13 kw_1381 (by decide +kernel) ⟨Nat.le_of_ble_eq_true rfl, Nat.le_of_ble_eq_true rfl⟩ (x_recv (ci := 12) hkb hH 0 rfl rfl) rfl rfl hl.1 (Nat.le_of_ble_eq_true rfl) dX12_readUnit_148 ⟨Nat.le_of_ble_eq_true rfl, Nat.le_of_ble_eq_true rfl⟩) (fun u H locs hz9 hH hS => ?_)
                obtain ⟨n148_0_11, n148_0_12, rfl, x_v1480, x_v1481⟩ := hz9
                have hH : HT D cs A T (a0 :: y3 :: y4 :: O) ((a0, .inr (12, o0 :: o1 :: o2 :: (.ref y3) :: (.ref y4) :: o5 :: (.int n75_0_6) :: (.int n75_0_7) :: (.int y8) :: (.int n75_0_9) :: (.int n75_0_10) :: (.int n148_0_11) :: (.int n148_0_12) :: tl)) :: (y3, .inl (cs.2.1, 900, .inl f3)) :: (y4, .inl (cs.2.1, 1302, .inl F75_2)) :: X) H := hH
                refine W.widen (k := 0) (n := 0) (Nat.le_of_ble_eq_true rfl) (Nat.le_of_ble_eq_true rfl) ?_
                have g151 : RG t tn [(5, 0)] [(3, 0)] y11 y12 y6 n148_0_11 n148_0_12 n75_0_6 n75_0_7 n75_0_9 n75_0_10 := (by first | (refine g78.seq (RG_nx ?_ x_v1406 (fun _ _ => st_cY ?_) ((RG.msw x_v758 ?_).nx x_v1407)) <;> omega) | (exact g78.seq (RG_f (m := 2) (G := []) x_v1481 (RG.msw x_v758) (by decide) (by decide) (fun q9 _ _ => st_cN (by have q8 := (RG.msw x_v758 q9).2.2.2.1; omega)))))
                refine lv_aload_n hx hb dX12_readUnit_151 rfl (lv_at hl 1 rfl) ?_
                refine lv_iload_n hx hb dX12_readUnit_152 rfl (lv_at hl 2 rfl) ?_
                refine tk_v hH hS hA (tr_V (n := 1) (As := [.int x1]) hx hb hml hown hts hkb hH (ox_map hOX rfl) hks hE hS hA (s_M_readSum0 l D cs kf T O X a0 hg mq x1 o0 o1 o2 y3 y4 o5 n75_0_6 n75_0_7 y8 n75_0_9 n75_0_10 n148_0_11 n148_0_12 tl f3 F75_2 t tn t_a0 b_hg (by omega) (by omega) t_y3 t_y4 (by omega) (by omega) (by omega) (by omega) (by omega) (by omega) (by omega) (by omega) s_F75_2 (by omega) htm (by omega) (by omega) x_v754 (by first | exact k4 | exact (fun q => absurd q x_v1480) | (refine RD_sl k4 x_v757 ?_; omega) | (intro _; omega)) (fun q9 => absurd q9 x_v1480) (hO.sub (by decide))) kw_1422 kw_1424 ks_60 kw_13 kw_1425 (by decide +kernel) ⟨Nat.le_of_ble_eq_true rfl, Nat.le_of_ble_eq_true rfl⟩ (x_recv (ci := 12) hkb hH 0 rfl rfl) rfl rfl hl.1 (Nat.le_of_ble_eq_true rfl) dX12_readUnit_153 ⟨Nat.le_of_ble_eq_true rfl, Nat.le_of_ble_eq_true rfl⟩) (fun u H locs hz9 hH hS => ?_)
                obtain ⟨n153_0_6, n153_0_7, n153_0_9, n153_0_10, n153_0_11, n153_0_12, F153_2, rfl, x_v1530, x_v1531, x_v1532, x_v1533, x_v1534, x_v1535, x_v1536, x_v1537, x_v1538, x_v1539⟩ := hz9
                have s_F153_2 := x_v1530
                have hH : HT D cs A T (a0 :: y3 :: y4 :: O) ((a0, .inr (12, o0 :: o1 :: o2 :: (.ref y3) :: (.ref y4) :: o5 :: (.int n153_0_6) :: (.int n153_0_7) :: (.int y8) :: (.int n153_0_9) :: (.int n153_0_10) :: (.int n153_0_11) :: (.int n153_0_12) :: tl)) :: (y3, .inl (cs.2.1, 900, .inl f3)) :: (y4, .inl (cs.2.1, 1302, .inl F153_2)) :: X) H := hH
                refine W.widen (k := 0) (n := 0) (Nat.le_of_ble_eq_true rfl) (Nat.le_of_ble_eq_true rfl) ?_
                refine lv_aload_n hx hb dX12_readUnit_156 rfl (lv_at hl 1 rfl) ?_
                refine lv_iload_n hx hb dX12_readUnit_157 rfl (lv_at hl 0 rfl) ?_
                have z9_3004 : (3004 : Int32).toInt = 3004 := by decide
                refine tk_v hH hS hA (tr_V (n := 1) (As := [.int 3004]) hx hb hml hown hts hkb hH (ox_map hOX rfl) hks hE hS hA (s_M_codesO l D cs kf T O X a0 hg mq (3004) o0 o1 o2 y3 y4 o5 n153_0_6 n153_0_7 y8 n153_0_9 n153_0_10 n153_0_11 n153_0_12 tl f3 F153_2 t tn t_a0 b_hg (by decide) (by decide) t_y3 t_y4 (by omega) (by omega) (by omega) (by omega) (by omega) (by omega) (by omega) (by omega) s_F153_2 (by omega) htm (by first | exact (fun q => absurd q x_v1480) | exact (fun q => absurd (x_v757 q).1 x_v1480) | exact (fun q => absurd (x_v1537 q).1 x_v1480) | (intro q; constructor <;> omega) | (intro q; obtain ⟨c0, c1, c2⟩ := x_v757 q; constructor <;> omega) | (intro q; obtain ⟨c0, c1, c2⟩ := x_v1537 q; constructor <;> omega) | (refine RD_cp k4 hd0 x_v757 ?_ x_v1537 ?_ <;> omega) | (refine RD_cp k4 hd0 x_v1537 ?_ x_v757 ?_ <;> omega)) (hO.sub (by decide))) kw_1418 kw_1420 ks_59 kw_13 kw_1421 (by decide +kernel) ⟨Nat.le_of_ble_eq_true rfl, Nat.le_of_ble_eq_true rfl⟩ (x_recv (ci := 12) hkb hH 0 rfl rfl) rfl rfl hl.1 (Nat.le_of_ble_eq_true rfl) dX12_readUnit_158 ⟨Nat.le_of_ble_eq_true rfl, Nat.le_of_ble_eq_true rfl⟩) (fun u H locs hz9 hH hS => ?_)
                obtain ⟨F158_2, rfl, x_v1580, x_v1581, x_v1582⟩ := hz9
                have s_F158_2 := x_v1580
                have hH : HT D cs A T (a0 :: y3 :: y4 :: O) ((a0, .inr (12, o0 :: o1 :: o2 :: (.ref y3) :: (.ref y4) :: o5 :: (.int n153_0_6) :: (.int n153_0_7) :: (.int y8) :: (.int n153_0_9) :: (.int n153_0_10) :: (.int n153_0_11) :: (.int n153_0_12) :: tl)) :: (y3, .inl (cs.2.1, 900, .inl f3)) :: (y4, .inl (cs.2.1, 1302, .inl F158_2)) :: X) H := hH
                refine W.widen (k := 0) (n := 0) (Nat.le_of_ble_eq_true rfl) (Nat.le_of_ble_eq_true rfl) ?_
                exact te_v hx hb hr hlocks hH hS (⟨n153_0_6, n153_0_7, n153_0_9, n153_0_10, n153_0_11, n153_0_12, F158_2, rfl, s_F158_2, by omega, by omega, by omega, x_v1534, by omega, by omega, (by first | exact (fun q => absurd q x_v1480) | exact (fun q => absurd (x_v757 q).1 x_v1480) | exact (fun q => absurd (x_v1537 q).1 x_v1480) | (refine RD_op x_v757 ?_ x_v1537 x_v1581; omega) | (refine RD_op x_v1537 ?_ x_v757 x_v1581; omega) | exact x_v757 | exact x_v1537 | (refine RD_le x_v757 ?_; omega) | (refine RD_le x_v1537 ?_; omega) | (intro q; obtain ⟨c1, c2⟩ := x_v1581 q; refine ⟨?_, ?_, ?_⟩ <;> omega) | (intro q; obtain ⟨c0, c1, c2⟩ := x_v1537 q; refine ⟨?_, ?_, ?_⟩ <;> omega) | (intro q; obtain ⟨c0, c1, c2⟩ := x_v1537 q; obtain ⟨d1, d2⟩ := x_v1581 q; refine ⟨?_, ?_, ?_⟩ <;> omega)), (by first | (exact g18.seq x_v228) | (refine g58.seq (RG_nx ?_ x_v617.1 (fun _ _ => st_xY ?_) x_v617.2.1) <;> omega) | (exact g58.seq (RG_f (m := 2) (G := []) x_v691 (RG.msw x_v558) (by decide) (by decide) (fun q9 _ _ => st_xN (by have q8 := (RG.msw x_v558 q9).2.2.2.1; omega)))) | (exact g151.seq x_v1538) | (exact RG_f (m := 4) (G := []) x_v119 hms (by decide) (by decide) (fun q9 _ _ => st_uND (by omega))) | (exact RG_f (m := 4) (G := []) x_v449 hms (by decide) (by decide) (fun q9 _ _ => st_uBD (by omega)))), (FKP.tr (FKP.tr (FKP.tr FKP.rf x_v759) x_v1539) x_v1582)⟩) dX12_readUnit_161
              · skip
                have tc136 := f_ne (k := 0) (by decide) c136
                replace x_v1330 := x_v1330.resolve_left tc136
                clear x_v1331
                have hk5 := x_v754 (by omega)
                have hq5 := (RG.msw x_v758 (by omega)).2.2.2.1
                refine lv_aload_n hx hb dX12_readUnit_139 rfl (lv_at hl 1 rfl) ?_
                refine tk_v hH hS hA (tr_V (n := 0) (As := []) hx hb hml hown hts hkb hH (ox_map hOX rfl) hks hE hS hA (s_M_next l D cs kf T (y4 :: O) ((y4, .inl (cs.2.1, 1302, .inl F75_2)) :: X) a0 hg mq o0 o1 o2 y3 y4 o5 n75_0_6 n75_0_7 y8 n75_0_9 n75_0_10 n75_0_11 n75_0_12 tl f3 t tn t_a0 b_hg t_y3 t_y4 (by omega) (by omega) (by omega) (by omega) (by omega) (by omega) (by omega) (by omega) (by omega) htm (by omega) (hO.sub (by decide))) kw_1344 kw_1346 ks_43 kw_13 kw_1347 (by decide +kernel) ⟨Nat.le_of_ble_eq_true rfl, Nat.le_of_ble_eq_true rfl⟩ (x_recv (ci := 12) hkb hH 0 rfl rfl) rfl rfl hl.1 (Nat.le_of_ble_eq_true rfl) dX12_readUnit_140 ⟨Nat.le_of_ble_eq_true rfl, Nat.le_of_ble_eq_true rfl⟩) (fun u H locs hz9 hH hS => ?_)
                obtain ⟨n140_0_6, n140_0_7, n140_0_9, n140_0_10, rfl, x_v1400, x_v1401, x_v1402, x_v1403, x_v1404, x_v1405, x_v1406, x_v1407⟩ := hz9
                have hH : HT D cs A T (a0 :: y3 :: y4 :: O) ((a0, .inr (12, o0 :: o1 :: o2 :: (.ref y3) :: (.ref y4) :: o5 :: (.int n140_0_6) :: (.int n140_0_7) :: (.int y8) :: (.int n140_0_9) :: (.int n140_0_10) :: (.int n75_0_11) :: (.int n75_0_12) :: tl)) :: (y3, .inl (cs.2.1, 900, .inl f3)) :: (y4, .inl (cs.2.1, 1302, .inl F75_2)) :: X) H := hH
                refine W.widen (k := 0) (n := 0) (Nat.le_of_ble_eq_true rfl) (Nat.le_of_ble_eq_true rfl) ?_
                refine lv_goto (tgt := 151) hx hb dX12_readUnit_143 (by decide) ?_
                have g151 : RG t tn [(5, 0)] [(3, 0)] y11 y12 y6 n75_0_11 n75_0_12 n140_0_6 n140_0_7 n140_0_9 n140_0_10 := (by first | (refine g78.seq (RG_nx ?_ x_v1406 (fun _ _ => st_cY ?_) ((RG.msw x_v758 ?_).nx x_v1407)) <;> omega) | (exact g78.seq (RG_f (m := 2) (G := []) x_v1481 (RG.msw x_v758) (by decide) (by decide) (fun q9 _ _ => st_cN (by have q8 := (RG.msw x_v758 q9).2.2.2.1; omega)))))
                refine lv_aload_n hx hb dX12_readUnit_151 rfl (lv_at hl 1 rfl) ?_
                refine lv_iload_n hx hb dX12_readUnit_152 rfl (lv_at hl 2 rfl) ?_
                refine tk_v hH hS hA (tr_V (n := 1) (As := [.int x1]) hx hb hml hown hts hkb hH (ox_map hOX rfl) hks hE hS hA (s_M_readSum0 l D cs kf T O X a0 hg mq x1 o0 o1 o2 y3 y4 o5 n140_0_6 n140_0_7 y8 n140_0_9 n140_0_10 n75_0_11 n75_0_12 tl f3 F75_2 t tn t_a0 b_hg (by omega) (by omega) t_y3 t_y4 (by omega) (by omega) (by omega) (by omega) (by omega) (by omega) (by omega) (by omega) s_F75_2 (by omega) htm (by omega) (by omega) x_v1403 (by first | exact k4 | (refine RD_sl k4 x_v757 ?_; omega) | (intro _; omega)) (fun _ => x_v1406) (hO.sub (by decide))) kw_1422 kw_1424 ks_60 kw_13 kw_1425 (by decide +kernel) ⟨Nat.le_of_ble_eq_true rfl, Nat.le_of_ble_eq_true rfl⟩ (x_recv (ci := 12) hkb hH 0 rfl rfl) rfl rfl hl.1 (Nat.le_of_ble_eq_true rfl) dX12_readUnit_153 ⟨Nat.le_of_ble_eq_true rfl, Nat.le_of_ble_eq_true rfl⟩) (fun u H locs hz9 hH hS => ?_)
                obtain ⟨n153_0_6, n153_0_7, n153_0_9, n153_0_10, n153_0_11, n153_0_12, F153_2, rfl, x_v1530, x_v1531, x_v1532, x_v1533, x_v1534, x_v1535, x_v1536, x_v1537, x_v1538, x_v1539⟩ := hz9
                have s_F153_2 := x_v1530
                have hH : HT D cs A T (a0 :: y3 :: y4 :: O) ((a0, .inr (12, o0 :: o1 :: o2 :: (.ref y3) :: (.ref y4) :: o5 :: (.int n153_0_6) :: (.int n153_0_7) :: (.int y8) :: (.int n153_0_9) :: (.int n153_0_10) :: (.int n153_0_11) :: (.int n153_0_12) :: tl)) :: (y3, .inl (cs.2.1, 900, .inl f3)) :: (y4, .inl (cs.2.1, 1302, .inl F153_2)) :: X) H := hH
                refine W.widen (k := 0) (n := 0) (Nat.le_of_ble_eq_true rfl) (Nat.le_of_ble_eq_true rfl) ?_
                refine lv_aload_n hx hb dX12_readUnit_156 rfl (lv_at hl 1 rfl) ?_
                refine lv_iload_n hx hb dX12_readUnit_157 rfl (lv_at hl 0 rfl) ?_
                have z9_3004 : (3004 : Int32).toInt = 3004 := by decide
                refine tk_v hH hS hA (tr_V (n := 1) (As := [.int 3004]) hx hb hml hown hts hkb hH (ox_map hOX rfl) hks hE hS hA (s_M_codesO l D cs kf T O X a0 hg mq (3004) o0 o1 o2 y3 y4 o5 n153_0_6 n153_0_7 y8 n153_0_9 n153_0_10 n153_0_11 n153_0_12 tl f3 F153_2 t tn t_a0 b_hg (by decide) (by decide) t_y3 t_y4 (by omega) (by omega) (by omega) (by omega) (by omega) (by omega) (by omega) (by omega) s_F153_2 (by omega) htm (by first | (intro q; constructor <;> omega) | (intro q; obtain ⟨c0, c1, c2⟩ := x_v757 q; constructor <;> omega) | (intro q; obtain ⟨c0, c1, c2⟩ := x_v1537 q; constructor <;> omega) | (refine RD_cp k4 hd0 x_v757 ?_ x_v1537 ?_ <;> omega) | (refine RD_cp k4 hd0 x_v1537 ?_ x_v757 ?_ <;> omega)) (hO.sub (by decide))) kw_1418 kw_1420 ks_59 kw_13 kw_1421 (by decide +kernel) ⟨Nat.le_of_ble_eq_true rfl, Nat.le_of_ble_eq_true rfl⟩ (x_recv (ci := 12) hkb hH 0 rfl rfl) rfl rfl hl.1 (Nat.le_of_ble_eq_true rfl) dX12_readUnit_158 ⟨Nat.le_of_ble_eq_true rfl, Nat.le_of_ble_eq_true rfl⟩) (fun u H locs hz9 hH hS => ?_)
                obtain ⟨F158_2, rfl, x_v1580, x_v1581, x_v1582⟩ := hz9
                have s_F158_2 := x_v1580
                have hH : HT D cs A T (a0 :: y3 :: y4 :: O) ((a0, .inr (12, o0 :: o1 :: o2 :: (.ref y3) :: (.ref y4) :: o5 :: (.int n153_0_6) :: (.int n153_0_7) :: (.int y8) :: (.int n153_0_9) :: (.int n153_0_10) :: (.int n153_0_11) :: (.int n153_0_12) :: tl)) :: (y3, .inl (cs.2.1, 900, .inl f3)) :: (y4, .inl (cs.2.1, 1302, .inl F158_2)) :: X) H := hH
                refine W.widen (k := 0) (n := 0) (Nat.le_of_ble_eq_true rfl) (Nat.le_of_ble_eq_true rfl) ?_
                exact te_v hx hb hr hlocks hH hS (⟨n153_0_6, n153_0_7, n153_0_9, n153_0_10, n153_0_11, n153_0_12, F158_2, rfl, s_F158_2, by omega, by omega, by omega, x_v1534, by omega, by omega, (by first | (refine RD_op x_v757 ?_ x_v1537 x_v1581; omega) | (refine RD_op x_v1537 ?_ x_v757 x_v1581; omega) | exact x_v757 | exact x_v1537 | (refine RD_le x_v757 ?_; omega) | (refine RD_le x_v1537 ?_; omega) | (intro q; obtain ⟨c1, c2⟩ := x_v1581 q; refine ⟨?_, ?_, ?_⟩ <;> omega) | (intro q; obtain ⟨c0, c1, c2⟩ := x_v1537 q; refine ⟨?_, ?_, ?_⟩ <;> omega) | (intro q; obtain ⟨c0, c1, c2⟩ := x_v1537 q; obtain ⟨d1, d2⟩ := x_v1581 q; refine ⟨?_, ?_, ?_⟩ <;> omega)), (by first | (exact g18.seq x_v228) | (refine g58.seq (RG_nx ?_ x_v617.1 (fun _ _ => st_xY ?_) x_v617.2.1) <;> omega) | (exact g58.seq (RG_f (m := 2) (G := []) x_v691 (RG.msw x_v558) (by decide) (by decide) (fun q9 _ _ => st_xN (by have q8 := (RG.msw x_v558 q9).2.2.2.1; omega)))) | (exact g151.seq x_v1538) | (exact RG_f (m := 4) (G := []) x_v119 hms (by decide) (by decide) (fun q9 _ _ => st_uND (by omega))) | (exact RG_f (m := 4) (G := []) x_v449 hms (by decide) (by decide) (fun q9 _ _ => st_uBD (by omega)))), (FKP.tr (FKP.tr (FKP.tr FKP.rf x_v759) x_v1539) x_v1582)⟩) dX12_readUnit_161
      · skip
        have tc84 := f_ne (k := 0) (by decide) c84
        replace x_v810 := x_v810.resolve_left tc84
        clear x_v811
        refine lv_sipush (v := 3003) hx hb dX12_readUnit_87 (by decide) ?_
        refine lv_goto (tgt := 111) hx hb dX12_readUnit_90 (by decide) ?_
        refine lv_istore_n (lv' := [(2, .int 3003), (0, .ref a0), (1, .int x1)]) hx hb dX12_readUnit_111 rfl hl (by decide) rfl (fun ls hl => ?_)
        refine lv_aload_n hx hb dX12_readUnit_112 rfl (lv_at hl 1 rfl) ?_
        refine lv_bipush (v := 39) hx hb dX12_readUnit_113 (by decide) ?_
        have z9_39 : (39 : Int32).toInt = 39 := by decide
        refine tk_i hH hS hA (tr_V (n := 1) (As := [.int 39]) hx hb hml hown hts hkb hH (ox_map hOX rfl) hks hE hS hA (s_M_is l D cs kf T (y4 :: O) ((y4, .inl (cs.2.1, 1302, .inl F75_2)) :: X) a0 hg mq (39) o0 o1 o2 y3 y4 o5 n75_0_6 n75_0_7 y8 n75_0_9 n75_0_10 n75_0_11 n75_0_12 tl f3 t tn t_a0 b_hg t_y3 t_y4 (by omega) (by omega) (by omega) (by omega) (by omega) (by omega) (by omega) (by omega) (by omega) htm (hO.sub (by decide))) kw_1370 kw_1372 ks_47 kw_13 kw_1373 (by decide +kernel) ⟨Nat.le_of_ble_eq_true rfl, Nat.le_of_ble_eq_true rfl⟩ (x_recv (ci := 12) hkb hH 0 rfl rfl) rfl rfl hl.1 (Nat.le_of_ble_eq_true rfl) dX12_readUnit_115 ⟨Nat.le_of_ble_eq_true rfl, Nat.le_of_ble_eq_true rfl⟩) (fun v115 u H locs hz9 hH hS => ?_)
        obtain ⟨rfl, l_v115, u_v115, x_v1150, x_v1151⟩ := hz9
        have hH : HT D cs A T (a0 :: y3 :: y4 :: O) ((a0, .inr (12, o0 :: o1 :: o2 :: (.ref y3) :: (.ref y4) :: o5 :: (.int n75_0_6) :: (.int n75_0_7) :: (.int y8) :: (.int n75_0_9) :: (.int n75_0_10) :: (.int n75_0_11) :: (.int n75_0_12) :: tl)) :: (y3, .inl (cs.2.1, 900, .inl f3)) :: (y4, .inl (cs.2.1, 1302, .inl F75_2)) :: X) H := hH
        refine W.widen (k := 0) (n := 0) (Nat.le_of_ble_eq_true rfl) (Nat.le_of_ble_eq_true rfl) ?_
        refine lv_if_ne (tgt := 139) hx hb dX12_readUnit_118 (by decide) (fun c118 => ?_) (fun c118 => ?_)
        · skip
          have tc118 := f_ne (k := 0) (by decide) c118
          replace x_v1150 := x_v1150.resolve_left tc118
          clear x_v1151
          have hk5 := x_v754 (by omega)
          have hq5 := (RG.msw x_v758 (by omega)).2.2.2.1
          refine lv_aload_n hx hb dX12_readUnit_139 rfl (lv_at hl 1 rfl) ?_
          refine tk_v hH hS hA (tr_V (n := 0) (As := []) hx hb hml hown hts hkb hH (ox_map hOX rfl) hks hE hS hA (s_M_next l D cs kf T (y4 :: O) ((y4, .inl (cs.2.1, 1302, .inl F75_2)) :: X) a0 hg mq o0 o1 o2 y3 y4 o5 n75_0_6 n75_0_7 y8 n75_0_9 n75_0_10 n75_0_11 n75_0_12 tl f3 t tn t_a0 b_hg t_y3 t_y4 (by omega) (by omega) (by omega) (by omega) (by omega) (by omega) (by omega) (by omega) (by omega) htm (by omega) (hO.sub (by decide))) kw_1344 kw_1346 ks_43 kw_13 kw_1347 (by decide +kernel) ⟨Nat.le_of_ble_eq_true rfl, Nat.le_of_ble_eq_true rfl⟩ (x_recv (ci := 12) hkb hH 0 rfl rfl) rfl rfl hl.1 (Nat.le_of_ble_eq_true rfl) dX12_readUnit_140 ⟨Nat.le_of_ble_eq_true rfl, Nat.le_of_ble_eq_true rfl⟩) (fun u H locs hz9 hH hS => ?_)
          obtain ⟨n140_0_6, n140_0_7, n140_0_9, n140_0_10, rfl, x_v1400, x_v1401, x_v1402, x_v1403, x_v1404, x_v1405, x_v1406, x_v1407⟩ := hz9
          have hH : HT D cs A T (a0 :: y3 :: y4 :: O) ((a0, .inr (12, o0 :: o1 :: o2 :: (.ref y3) :: (.ref y4) :: o5 :: (.int n140_0_6) :: (.int n140_0_7) :: (.int y8) :: (.int n140_0_9) :: (.int n140_0_10) :: (.int n75_0_11) :: (.int n75_0_12) :: tl)) :: (y3, .inl (cs.2.1, 900, .inl f3)) :: (y4, .inl (cs.2.1, 1302, .inl F75_2)) :: X) H := hH
          refine W.widen (k := 0) (n := 0) (Nat.le_of_ble_eq_true rfl) (Nat.le_of_ble_eq_true rfl) ?_
          refine lv_goto (tgt := 151) hx hb dX12_readUnit_143 (by decide) ?_
          have g151 : RG t tn [(5, 0)] [(3, 0)] y11 y12 y6 n75_0_11 n75_0_12 n140_0_6 n140_0_7 n140_0_9 n140_0_10 := (by first | (refine g78.seq (RG_nx ?_ x_v1406 (fun _ _ => st_cY ?_) ((RG.msw x_v758 ?_).nx x_v1407)) <;> omega) | (exact g78.seq (RG_f (m := 2) (G := []) x_v1481 (RG.msw x_v758) (by decide) (by decide) (fun q9 _ _ => st_cN (by have q8 := (RG.msw x_v758 q9).2.2.2.1; omega)))))
          refine lv_aload_n hx hb dX12_readUnit_151 rfl (lv_at hl 1 rfl) ?_
          refine lv_iload_n hx hb dX12_readUnit_152 rfl (lv_at hl 2 rfl) ?_
          refine tk_v hH hS hA (tr_V (n := 1) (As := [.int x1]) hx hb hml hown hts hkb hH (ox_map hOX rfl) hks hE hS hA (s_M_readSum0 l D cs kf T O X a0 hg mq x1 o0 o1 o2 y3 y4 o5 n140_0_6 n140_0_7 y8 n140_0_9 n140_0_10 n75_0_11 n75_0_12 tl f3 F75_2 t tn t_a0 b_hg (by omega) (by omega) t_y3 t_y4 (by omega) (by omega) (by omega) (by omega) (by omega) (by omega) (by omega) (by omega) s_F75_2 (by omega) htm (by omega) (by omega) x_v1403 (by first | exact k4 | (refine RD_sl k4 x_v757 ?_; omega) | (intro _; omega)) (fun _ => x_v1406) (hO.sub (by decide))) kw_1422 kw_1424 ks_60 kw_13 kw_1425 (by decide +kernel) ⟨Nat.le_of_ble_eq_true rfl, Nat.le_of_ble_eq_true rfl⟩ (x_recv (ci := 12) hkb hH 0 rfl rfl) rfl rfl hl.1 (Nat.le_of_ble_eq_true rfl) dX12_readUnit_153 ⟨Nat.le_of_ble_eq_true rfl, Nat.le_of_ble_eq_true rfl⟩) (fun u H locs hz9 hH hS => ?_)
          obtain ⟨n153_0_6, n153_0_7, n153_0_9, n153_0_10, n153_0_11, n153_0_12, F153_2, rfl, x_v1530, x_v1531, x_v1532, x_v1533, x_v1534, x_v1535, x_v1536, x_v1537, x_v1538, x_v1539⟩ := hz9
          have s_F153_2 := x_v1530
          have hH : HT D cs A T (a0 :: y3 :: y4 :: O) ((a0, .inr (12, o0 :: o1 :: o2 :: (.ref y3) :: (.ref y4) :: o5 :: (.int n153_0_6) :: (.int n153_0_7) :: (.int y8) :: (.int n153_0_9) :: (.int n153_0_10) :: (.int n153_0_11) :: (.int n153_0_12) :: tl)) :: (y3, .inl (cs.2.1, 900, .inl f3)) :: (y4, .inl (cs.2.1, 1302, .inl F153_2)) :: X) H := hH
          refine W.widen (k := 0) (n := 0) (Nat.le_of_ble_eq_true rfl) (Nat.le_of_ble_eq_true rfl) ?_
          refine lv_aload_n hx hb dX12_readUnit_156 rfl (lv_at hl 1 rfl) ?_
          refine lv_iload_n hx hb dX12_readUnit_157 rfl (lv_at hl 0 rfl) ?_
          have z9_3003 : (3003 : Int32).toInt = 3003 := by decide
          refine tk_v hH hS hA (tr_V (n := 1) (As := [.int 3003]) hx hb hml hown hts hkb hH (ox_map hOX rfl) hks hE hS hA (s_M_codesO l D cs kf T O X a0 hg mq (3003) o0 o1 o2 y3 y4 o5 n153_0_6 n153_0_7 y8 n153_0_9 n153_0_10 n153_0_11 n153_0_12 tl f3 F153_2 t tn t_a0 b_hg (by decide) (by decide) t_y3 t_y4 (by omega) (by omega) (by omega) (by omega) (by omega) (by omega) (by omega) (by omega) s_F153_2 (by omega) htm (by first | (intro q; constructor <;> omega) | (intro q; obtain ⟨c0, c1, c2⟩ := x_v757 q; constructor <;> omega) | (intro q; obtain ⟨c0, c1, c2⟩ := x_v1537 q; constructor <;> omega) | (refine RD_cp k4 hd0 x_v757 ?_ x_v1537 ?_ <;> omega) | (refine RD_cp k4 hd0 x_v1537 ?_ x_v757 ?_ <;> omega)) (hO.sub (by decide))) kw_1418 kw_1420 ks_59 kw_13 kw_1421 (by decide +kernel) ⟨Nat.le_of_ble_eq_true rfl, Nat.le_of_ble_eq_true rfl⟩ (x_recv (ci := 12) hkb hH 0 rfl rfl) rfl rfl hl.1 (Nat.le_of_ble_eq_true rfl) dX12_readUnit_158 ⟨Nat.le_of_ble_eq_true rfl, Nat.le_of_ble_eq_true rfl⟩) (fun u H locs hz9 hH hS => ?_)
          obtain ⟨F158_2, rfl, x_v1580, x_v1581, x_v1582⟩ := hz9
          have s_F158_2 := x_v1580
          have hH : HT D cs A T (a0 :: y3 :: y4 :: O) ((a0, .inr (12, o0 :: o1 :: o2 :: (.ref y3) :: (.ref y4) :: o5 :: (.int n153_0_6) :: (.int n153_0_7) :: (.int y8) :: (.int n153_0_9) :: (.int n153_0_10) :: (.int n153_0_11) :: (.int n153_0_12) :: tl)) :: (y3, .inl (cs.2.1, 900, .inl f3)) :: (y4, .inl (cs.2.1, 1302, .inl F158_2)) :: X) H := hH
          refine W.widen (k := 0) (n := 0) (Nat.le_of_ble_eq_true rfl) (Nat.le_of_ble_eq_true rfl) ?_
          exact te_v hx hb hr hlocks hH hS (⟨n153_0_6, n153_0_7, n153_0_9, n153_0_10, n153_0_11, n153_0_12, F158_2, rfl, s_F158_2, by omega, by omega, by omega, x_v1534, by omega, by omega, (by first | (refine RD_op x_v757 ?_ x_v1537 x_v1581; omega) | (refine RD_op x_v1537 ?_ x_v757 x_v1581; omega) | exact x_v757 | exact x_v1537 | (refine RD_le x_v757 ?_; omega) | (refine RD_le x_v1537 ?_; omega) | (intro q; obtain ⟨c1, c2⟩ := x_v1581 q; refine ⟨?_, ?_, ?_⟩ <;> omega) | (intro q; obtain ⟨c0, c1, c2⟩ := x_v1537 q; refine ⟨?_, ?_, ?_⟩ <;> omega) | (intro q; obtain ⟨c0, c1, c2⟩ := x_v1537 q; obtain ⟨d1, d2⟩ := x_v1581 q; refine ⟨?_, ?_, ?_⟩ <;> omega)), (by first | (exact g18.seq x_v228) | (refine g58.seq (RG_nx ?_ x_v617.1 (fun _ _ => st_xY ?_) x_v617.2.1) <;> omega) | (exact g58.seq (RG_f (m := 2) (G := []) x_v691 (RG.msw x_v558) (by decide) (by decide) (fun q9 _ _ => st_xN (by have q8 := (RG.msw x_v558 q9).2.2.2.1; omega)))) | (exact g151.seq x_v1538) | (exact RG_f (m := 4) (G := []) x_v119 hms (by decide) (by decide) (fun q9 _ _ => st_uND (by omega))) | (exact RG_f (m := 4) (G := []) x_v449 hms (by decide) (by decide) (fun q9 _ _ => st_uBD (by omega)))), (FKP.tr (FKP.tr (FKP.tr FKP.rf x_v759) x_v1539) x_v1582)⟩) dX12_readUnit_161
        · skip
          have tc118 := f_eq (k := 0) (by decide) c118
          clear x_v1150
          replace x_v1151 := x_v1151.resolve_left (fun q9 => q9 tc118)
          refine lv_aload_n hx hb dX12_readUnit_121 rfl (lv_at hl 1 rfl) ?_
          refine lv_bipush (v := 40) hx hb dX12_readUnit_122 (by decide) ?_
          have z9_40 : (40 : Int32).toInt = 40 := by decide
          refine tk_i hH hS hA (tr_V (n := 1) (As := [.int 40]) hx hb hml hown hts hkb hH (ox_map hOX rfl) hks hE hS hA (s_M_is l D cs kf T (y4 :: O) ((y4, .inl (cs.2.1, 1302, .inl F75_2)) :: X) a0 hg mq (40) o0 o1 o2 y3 y4 o5 n75_0_6 n75_0_7 y8 n75_0_9 n75_0_10 n75_0_11 n75_0_12 tl f3 t tn t_a0 b_hg t_y3 t_y4 (by omega) (by omega) (by omega) (by omega) (by omega) (by omega) (by omega) (by omega) (by omega) htm (hO.sub (by decide))) kw_1370 kw_1372 ks_47 kw_13 kw_1373 (by decide +kernel) ⟨Nat.le_of_ble_eq_true rfl, Nat.le_of_ble_eq_true rfl⟩ (x_recv (ci := 12) hkb hH 0 rfl rfl) rfl rfl hl.1 (Nat.le_of_ble_eq_true rfl) dX12_readUnit_124 ⟨Nat.le_of_ble_eq_true rfl, Nat.le_of_ble_eq_true rfl⟩) (fun v124 u H locs hz9 hH hS => ?_)
          obtain ⟨rfl, l_v124, u_v124, x_v1240, x_v1241⟩ := hz9
          have hH : HT D cs A T (a0 :: y3 :: y4 :: O) ((a0, .inr (12, o0 :: o1 :: o2 :: (.ref y3) :: (.ref y4) :: o5 :: (.int n75_0_6) :: (.int n75_0_7) :: (.int y8) :: (.int n75_0_9) :: (.int n75_0_10) :: (.int n75_0_11) :: (.int n75_0_12) :: tl)) :: (y3, .inl (cs.2.1, 900, .inl f3)) :: (y4, .inl (cs.2.1, 1302, .inl F75_2)) :: X) H := hH
          refine W.widen (k := 0) (n := 0) (Nat.le_of_ble_eq_true rfl) (Nat.le_of_ble_eq_true rfl) ?_
          refine lv_if_ne (tgt := 139) hx hb dX12_readUnit_127 (by decide) (fun c127 => ?_) (fun c127 => ?_)
          · skip
            have tc127 := f_ne (k := 0) (by decide) c127
            replace x_v1240 := x_v1240.resolve_left tc127
            clear x_v1241
            have hk5 := x_v754 (by omega)
            have hq5 := (RG.msw x_v758 (by omega)).2.2.2.1
            refine lv_aload_n hx hb dX12_readUnit_139 rfl (lv_at hl 1 rfl) ?_
            refine tk_v hH hS hA (tr_V (n := 0) (As := []) hx hb hml hown hts hkb hH (ox_map hOX rfl) hks hE hS hA (s_M_next l D cs kf T (y4 :: O) ((y4, .inl (cs.2.1, 1302, .inl F75_2)) :: X) a0 hg mq o0 o1 o2 y3 y4 o5 n75_0_6 n75_0_7 y8 n75_0_9 n75_0_10 n75_0_11 n75_0_12 tl f3 t tn t_a0 b_hg t_y3 t_y4 (by omega) (by omega) (by omega) (by omega) (by omega) (by omega) (by omega) (by omega) (by omega) htm (by omega) (hO.sub (by decide))) kw_1344 kw_1346 ks_43 kw_13 kw_1347 (by decide +kernel) ⟨Nat.le_of_ble_eq_true rfl, Nat.le_of_ble_eq_true rfl⟩ (x_recv (ci := 12) hkb hH 0 rfl rfl) rfl rfl hl.1 (Nat.le_of_ble_eq_true rfl) dX12_readUnit_140 ⟨Nat.le_of_ble_eq_true rfl, Nat.le_of_ble_eq_true rfl⟩) (fun u H locs hz9 hH hS => ?_)
            obtain ⟨n140_0_6, n140_0_7, n140_0_9, n140_0_10, rfl, x_v1400, x_v1401, x_v1402, x_v1403, x_v1404, x_v1405, x_v1406, x_v1407⟩ := hz9
            have hH : HT D cs A T (a0 :: y3 :: y4 :: O) ((a0, .inr (12, o0 :: o1 :: o2 :: (.ref y3) :: (.ref y4) :: o5 :: (.int n140_0_6) :: (.int n140_0_7) :: (.int y8) :: (.int n140_0_9) :: (.int n140_0_10) :: (.int n75_0_11) :: (.int n75_0_12) :: tl)) :: (y3, .inl (cs.2.1, 900, .inl f3)) :: (y4, .inl (cs.2.1, 1302, .inl F75_2)) :: X) H := hH
            refine W.widen (k := 0) (n := 0) (Nat.le_of_ble_eq_true rfl) (Nat.le_of_ble_eq_true rfl) ?_
            refine lv_goto (tgt := 151) hx hb dX12_readUnit_143 (by decide) ?_
            have g151 : RG t tn [(5, 0)] [(3, 0)] y11 y12 y6 n75_0_11 n75_0_12 n140_0_6 n140_0_7 n140_0_9 n140_0_10 := (by first | (refine g78.seq (RG_nx ?_ x_v1406 (fun _ _ => st_cY ?_) ((RG.msw x_v758 ?_).nx x_v1407)) <;> omega) | (exact g78.seq (RG_f (m := 2) (G := []) x_v1481 (RG.msw x_v758) (by decide) (by decide) (fun q9 _ _ => st_cN (by have q8 := (RG.msw x_v758 q9).2.2.2.1; omega)))))
            refine lv_aload_n hx hb dX12_readUnit_151 rfl (lv_at hl 1 rfl) ?_
            refine lv_iload_n hx hb dX12_readUnit_152 rfl (lv_at hl 2 rfl) ?_
            refine tk_v hH hS hA (tr_V (n := 1) (As := [.int x1]) hx hb hml hown hts hkb hH (ox_map hOX rfl) hks hE hS hA (s_M_readSum0 l D cs kf T O X a0 hg mq x1 o0 o1 o2 y3 y4 o5 n140_0_6 n140_0_7 y8 n140_0_9 n140_0_10 n75_0_11 n75_0_12 tl f3 F75_2 t tn t_a0 b_hg (by omega) (by omega) t_y3 t_y4 (by omega) (by omega) (by omega) (by omega) (by omega) (by omega) (by omega) (by omega) s_F75_2 (by omega) htm (by omega) (by omega) x_v1403 (by first | exact k4 | (refine RD_sl k4 x_v757 ?_; omega) | (intro _; omega)) (fun _ => x_v1406) (hO.sub (by decide))) kw_1422 kw_1424 ks_60 kw_13 kw_1425 (by decide +kernel) ⟨Nat.le_of_ble_eq_true rfl, Nat.le_of_ble_eq_true rfl⟩ (x_recv (ci := 12) hkb hH 0 rfl rfl) rfl rfl hl.1 (Nat.le_of_ble_eq_true rfl) dX12_readUnit_153 ⟨Nat.le_of_ble_eq_true rfl, Nat.le_of_ble_eq_true rfl⟩) (fun u H locs hz9 hH hS => ?_)
            obtain ⟨n153_0_6, n153_0_7, n153_0_9, n153_0_10, n153_0_11, n153_0_12, F153_2, rfl, x_v1530, x_v1531, x_v1532, x_v1533, x_v1534, x_v1535, x_v1536, x_v1537, x_v1538, x_v1539⟩ := hz9
            have s_F153_2 := x_v1530
            have hH : HT D cs A T (a0 :: y3 :: y4 :: O) ((a0, .inr (12, o0 :: o1 :: o2 :: (.ref y3) :: (.ref y4) :: o5 :: (.int n153_0_6) :: (.int n153_0_7) :: (.int y8) :: (.int n153_0_9) :: (.int n153_0_10) :: (.int n153_0_11) :: (.int n153_0_12) :: tl)) :: (y3, .inl (cs.2.1, 900, .inl f3)) :: (y4, .inl (cs.2.1, 1302, .inl F153_2)) :: X) H := hH
            refine W.widen (k := 0) (n := 0) (Nat.le_of_ble_eq_true rfl) (Nat.le_of_ble_eq_true rfl) ?_
            refine lv_aload_n hx hb dX12_readUnit_156 rfl (lv_at hl 1 rfl) ?_
            refine lv_iload_n hx hb dX12_readUnit_157 rfl (lv_at hl 0 rfl) ?_
            have z9_3003 : (3003 : Int32).toInt = 3003 := by decide
            refine tk_v hH hS hA (tr_V (n := 1) (As := [.int 3003]) hx hb hml hown hts hkb hH (ox_map hOX rfl) hks hE hS hA (s_M_codesO l D cs kf T O X a0 hg mq (3003) o0 o1 o2 y3 y4 o5 n153_0_6 n153_0_7 y8 n153_0_9 n153_0_10 n153_0_11 n153_0_12 tl f3 F153_2 t tn t_a0 b_hg (by decide) (by decide) t_y3 t_y4 (by omega) (by omega) (by omega) (by omega) (by omega) (by omega) (by omega) (by omega) s_F153_2 (by omega) htm (by first | (intro q; constructor <;> omega) | (intro q; obtain ⟨c0, c1, c2⟩ := x_v757 q; constructor <;> omega) | (intro q; obtain ⟨c0, c1, c2⟩ := x_v1537 q; constructor <;> omega) | (refine RD_cp k4 hd0 x_v757 ?_ x_v1537 ?_ <;> omega) | (refine RD_cp k4 hd0 x_v1537 ?_ x_v757 ?_ <;> omega)) (hO.sub (by decide))) kw_1418 kw_1420 ks_59 kw_13 kw_1421 (by decide +kernel) ⟨Nat.le_of_ble_eq_true rfl, Nat.le_of_ble_eq_true rfl⟩ (x_recv (ci := 12) hkb hH 0 rfl rfl) rfl rfl hl.1 (Nat.le_of_ble_eq_true rfl) dX12_readUnit_158 ⟨Nat.le_of_ble_eq_true rfl, Nat.le_of_ble_eq_true rfl⟩) (fun u H locs hz9 hH hS => ?_)
            obtain ⟨F158_2, rfl, x_v1580, x_v1581, x_v1582⟩ := hz9
            have s_F158_2 := x_v1580
            have hH : HT D cs A T (a0 :: y3 :: y4 :: O) ((a0, .inr (12, o0 :: o1 :: o2 :: (.ref y3) :: (.ref y4) :: o5 :: (.int n153_0_6) :: (.int n153_0_7) :: (.int y8) :: (.int n153_0_9) :: (.int n153_0_10) :: (.int n153_0_11) :: (.int n153_0_12) :: tl)) :: (y3, .inl (cs.2.1, 900, .inl f3)) :: (y4, .inl (cs.2.1, 1302, .inl F158_2)) :: X) H := hH
            refine W.widen (k := 0) (n := 0) (Nat.le_of_ble_eq_true rfl) (Nat.le_of_ble_eq_true rfl) ?_
            exact te_v hx hb hr hlocks hH hS (⟨n153_0_6, n153_0_7, n153_0_9, n153_0_10, n153_0_11, n153_0_12, F158_2, rfl, s_F158_2, by omega, by omega, by omega, x_v1534, by omega, by omega, (by first | (refine RD_op x_v757 ?_ x_v1537 x_v1581; omega) | (refine RD_op x_v1537 ?_ x_v757 x_v1581; omega) | exact x_v757 | exact x_v1537 | (refine RD_le x_v757 ?_; omega) | (refine RD_le x_v1537 ?_; omega) | (intro q; obtain ⟨c1, c2⟩ := x_v1581 q; refine ⟨?_, ?_, ?_⟩ <;> omega) | (intro q; obtain ⟨c0, c1, c2⟩ := x_v1537 q; refine ⟨?_, ?_, ?_⟩ <;> omega) | (intro q; obtain ⟨c0, c1, c2⟩ := x_v1537 q; obtain ⟨d1, d2⟩ := x_v1581 q; refine ⟨?_, ?_, ?_⟩ <;> omega)), (by first | (exact g18.seq x_v228) | (refine g58.seq (RG_nx ?_ x_v617.1 (fun _ _ => st_xY ?_) x_v617.2.1) <;> omega) | (exact g58.seq (RG_f (m := 2) (G := []) x_v691 (RG.msw x_v558) (by decide) (by decide) (fun q9 _ _ => st_xN (by have q8 := (RG.msw x_v558 q9).2.2.2.1; omega)))) | (exact g151.seq x_v1538) | (exact RG_f (m := 4) (G := []) x_v119 hms (by decide) (by decide) (fun q9 _ _ => st_uND (by omega))) | (exact RG_f (m := 4) (G := []) x_v449 hms (by decide) (by decide) (fun q9 _ _ => st_uBD (by omega)))), (FKP.tr (FKP.tr (FKP.tr FKP.rf x_v759) x_v1539) x_v1582)⟩) dX12_readUnit_161
          · skip
            have tc127 := f_eq (k := 0) (by decide) c127
            clear x_v1240
            replace x_v1241 := x_v1241.resolve_left (fun q9 => q9 tc127)
            refine lv_aload_n hx hb dX12_readUnit_130 rfl (lv_at hl 1 rfl) ?_
            refine lv_bipush (v := 41) hx hb dX12_readUnit_131 (by decide) ?_
            have z9_41 : (41 : Int32).toInt = 41 := by decide
            refine tk_i hH hS hA (tr_V (n := 1) (As := [.int 41]) hx hb hml hown hts hkb hH (ox_map hOX rfl) hks hE hS hA (s_M_is l D cs kf T (y4 :: O) ((y4, .inl (cs.2.1, 1302, .inl F75_2)) :: X) a0 hg mq (41) o0 o1 o2 y3 y4 o5 n75_0_6 n75_0_7 y8 n75_0_9 n75_0_10 n75_0_11 n75_0_12 tl f3 t tn t_a0 b_hg t_y3 t_y4 (by omega) (by omega) (by omega) (by omega) (by omega) (by omega) (by omega) (by omega) (by omega) htm (hO.sub (by decide))) kw_1370 kw_1372 ks_47 kw_13 kw_1373 (by decide +kernel) ⟨Nat.le_of_ble_eq_true rfl, Nat.le_of_ble_eq_true rfl⟩ (x_recv (ci := 12) hkb hH 0 rfl rfl) rfl rfl hl.1 (Nat.le_of_ble_eq_true rfl) dX12_readUnit_133 ⟨Nat.le_of_ble_eq_true rfl, Nat.le_of_ble_eq_true rfl⟩) (fun v133 u H locs hz9 hH hS => ?_)
            obtain ⟨rfl, l_v133, u_v133, x_v1330, x_v1331⟩ := hz9
            have hH : HT D cs A T (a0 :: y3 :: y4 :: O) ((a0, .inr (12, o0 :: o1 :: o2 :: (.ref y3) :: (.ref y4) :: o5 :: (.int n75_0_6) :: (.int n75_0_7) :: (.int y8) :: (.int n75_0_9) :: (.int n75_0_10) :: (.int n75_0_11) :: (.int n75_0_12) :: tl)) :: (y3, .inl (cs.2.1, 900, .inl f3)) :: (y4, .inl (cs.2.1, 1302, .inl F75_2)) :: X) H := hH
            refine W.widen (k := 0) (n := 0) (Nat.le_of_ble_eq_true rfl) (Nat.le_of_ble_eq_true rfl) ?_
            refine lv_if_eq (tgt := 146) hx hb dX12_readUnit_136 (by decide) (fun c136 => ?_) (fun c136 => ?_)
            · skip
              have tc136 := f_eq (k := 0) (by decide) c136
              clear x_v1330
              replace x_v1331 := x_v1331.resolve_left (fun q9 => q9 tc136)
              refine lv_aload_n hx hb dX12_readUnit_146 rfl (lv_at hl 1 rfl) ?_
              refine lv_iconst (v := 2) hx hb dX12_readUnit_147 (by decide) ?_
              have z9_2 : (2 : Int32).toInt = 2 := by decide
              refine tk_v hH hS hA (tr_V (n := 1) (As := [.int 2]) hx hb hml hown hts hkb hH (ox_map hOX rfl) hks hE hS hA (s_M_fails l D cs kf T (y4 :: O) ((y4, .inl (cs.2.1, 1302, .inl F75_2)) :: X) a0 hg mq (2) o0 o1 o2 y3 y4 o5 n75_0_6 n75_0_7 y8 n75_0_9 n75_0_10 n75_0_11 n75_0_12 tl f3 t tn t_a0 b_hg (by decide) (by decide) t_y3 t_y4 (by omega) (by omega) (by omega) (by omega) (by omega) (by omega) (by omega) (by omega) (by omega) htm (hO.sub (by decide))) kw_1378 kw_1380 ks_49 kw_13 kw_1381 (by decide +kernel) ⟨Nat.le_of_ble_eq_true rfl, Nat.le_of_ble_eq_true rfl⟩ (x_recv (ci := 12) hkb hH 0 rfl rfl) rfl rfl hl.1 (Nat.le_of_ble_eq_true rfl) dX12_readUnit_148 ⟨Nat.le_of_ble_eq_true rfl, Nat.le_of_ble_eq_true rfl⟩) (fun u H locs hz9 hH hS => ?_)
              obtain ⟨n148_0_11, n148_0_12, rfl, x_v1480, x_v1481⟩ := hz9
              have hH : HT D cs A T (a0 :: y3 :: y4 :: O) ((a0, .inr (12, o0 :: o1 :: o2 :: (.ref y3) :: (.ref y4) :: o5 :: (.int n75_0_6) :: (.int n75_0_7) :: (.int y8) :: (.int n75_0_9) :: (.int n75_0_10) :: (.int n148_0_11) :: (.int n148_0_12) :: tl)) :: (y3, .inl (cs.2.1, 900, .inl f3)) :: (y4, .inl (cs.2.1, 1302, .inl F75_2)) :: X) H := hH
              refine W.widen (k := 0) (n := 0) (Nat.le_of_ble_eq_true rfl) (Nat.le_of_ble_eq_true rfl) ?_
              have g151 : RG t tn [(5, 0)] [(3, 0)] y11 y12 y6 n148_0_11 n148_0_12 n75_0_6 n75_0_7 n75_0_9 n75_0_10 := (by first | (refine g78.seq (RG_nx ?_ x_v1406 (fun _ _ => st_cY ?_) ((RG.msw x_v758 ?_).nx x_v1407)) <;> omega) | (exact g78.seq (RG_f (m := 2) (G := []) x_v1481 (RG.msw x_v758) (by decide) (by decide) (fun q9 _ _ => st_cN (by have q8 := (RG.msw x_v758 q9).2.2.2.1; omega)))))
              refine lv_aload_n hx hb dX12_readUnit_151 rfl (lv_at hl 1 rfl) ?_
              refine lv_iload_n hx hb dX12_readUnit_152 rfl (lv_at hl 2 rfl) ?_
              refine tk_v hH hS hA (tr_V (n := 1) (As := [.int x1]) hx hb hml hown hts hkb hH (ox_map hOX rfl) hks hE hS hA (s_M_readSum0 l D cs kf T O X a0 hg mq x1 o0 o1 o2 y3 y4 o5 n75_0_6 n75_0_7 y8 n75_0_9 n75_0_10 n148_0_11 n148_0_12 tl f3 F75_2 t tn t_a0 b_hg (by omega) (by omega) t_y3 t_y4 (by omega) (by omega) (by omega) (by omega) (by omega) (by omega) (by omega) (by omega) s_F75_2 (by omega) htm (by omega) (by omega) x_v754 (by first | exact k4 | exact (fun q => absurd q x_v1480) | (refine RD_sl k4 x_v757 ?_; omega) | (intro _; omega)) (fun q9 => absurd q9 x_v1480) (hO.sub (by decide))) kw_1422 kw_1424 ks_60 kw_13 kw_1425 (by decide +kernel) ⟨Nat.le_of_ble_eq_true rfl, Nat.le_of_ble_eq_true rfl⟩ (x_recv (ci := 12) hkb hH 0 rfl rfl) rfl rfl hl.1 (Nat.le_of_ble_eq_true rfl) dX12_readUnit_153 ⟨Nat.le_of_ble_eq_true rfl, Nat.le_of_ble_eq_true rfl⟩) (fun u H locs hz9 hH hS => ?_)
              obtain ⟨n153_0_6, n153_0_7, n153_0_9, n153_0_10, n153_0_11, n153_0_12, F153_2, rfl, x_v1530, x_v1531, x_v1532, x_v1533, x_v1534, x_v1535, x_v1536, x_v1537, x_v1538, x_v1539⟩ := hz9
              have s_F153_2 := x_v1530
              have hH : HT D cs A T (a0 :: y3 :: y4 :: O) ((a0, .inr (12, o0 :: o1 :: o2 :: (.ref y3) :: (.ref y4) :: o5 :: (.int n153_0_6) :: (.int n153_0_7) :: (.int y8) :: (.int n153_0_9) :: (.int n153_0_10) :: (.int n153_0_11) :: (.int n153_0_12) :: tl)) :: (y3, .inl (cs.2.1, 900, .inl f3)) :: (y4, .inl (cs.2.1, 1302, .inl F153_2)) :: X) H := hH
              refine W.widen (k := 0) (n := 0) (Nat.le_of_ble_eq_true rfl) (Nat.le_of_ble_eq_true rfl) ?_
              refine lv_aload_n hx hb dX12_readUnit_156 rfl (lv_at hl 1 rfl) ?_
              refine lv_iload_n hx hb dX12_readUnit_157 rfl (lv_at hl 0 rfl) ?_
              have z9_3003 : (3003 : Int32).toInt = 3003 := by decide
              refine tk_v hH hS hA (tr_V (n := 1) (As := [.int 3003]) hx hb hml hown hts hkb hH (ox_map hOX rfl) hks hE hS hA (s_M_codesO l D cs kf T O X a0 hg mq (3003) o0 o1 o2 y3 y4 o5 n153_0_6 n153_0_7 y8 n153_0_9 n153_0_10 n153_0_11 n153_0_12 tl f3 F153_2 t tn t_a0 b_hg (by decide) (by decide) t_y3 t_y4 (by omega) (by omega) (by omega) (by omega) (by omega) (by omega) (by omega) (by omega) s_F153_2 (by omega) htm (by first | exact (fun q => absurd q x_v1480) | exact (fun q => absurd (x_v757 q).1 x_v1480) | exact (fun q => absurd (x_v1537 q).1 x_v1480) | (intro q; constructor <;> omega) | (intro q; obtain ⟨c0, c1, c2⟩ := x_v757 q; constructor <;> omega) | (intro q; obtain ⟨c0, c1, c2⟩ := x_v1537 q; constructor <;> omega) | (refine RD_cp k4 hd0 x_v757 ?_ x_v1537 ?_ <;> omega) | (refine RD_cp k4 hd0 x_v1537 ?_ x_v757 ?_ <;> omega)) (hO.sub (by decide))) kw_1418 kw_1420 ks_59 kw_13 kw_1421 (by decide +kernel) ⟨Nat.le_of_ble_eq_true rfl, Nat.le_of_ble_eq_true rfl⟩ (x_recv (ci := 12) hkb hH 0 rfl rfl) rfl rfl hl.1 (Nat.le_of_ble_eq_true rfl) dX12_readUnit_158 ⟨Nat.le_of_ble_eq_true rfl, Nat.le_of_ble_eq_true rfl⟩) (fun u H locs hz9 hH hS => ?_)
              obtain ⟨F158_2, rfl, x_v1580, x_v1581, x_v1582⟩ := hz9
              have s_F158_2 := x_v1580
              have hH : HT D cs A T (a0 :: y3 :: y4 :: O) ((a0, .inr (12, o0 :: o1 :: o2 :: (.ref y3) :: (.ref y4) :: o5 :: (.int n153_0_6) :: (.int n153_0_7) :: (.int y8) :: (.int n153_0_9) :: (.int n153_0_10) :: (.int n153_0_11) :: (.int n153_0_12) :: tl)) :: (y3, .inl (cs.2.1, 900, .inl f3)) :: (y4, .inl (cs.2.1, 1302, .inl F158_2)) :: X) H := hH
              refine W.widen (k := 0) (n := 0) (Nat.le_of_ble_eq_true rfl) (Nat.le_of_ble_eq_true rfl) ?_
              exact te_v hx hb hr hlocks hH hS (⟨n153_0_6, n153_0_7, n153_0_9, n153_0_10, n153_0_11, n153_0_12, F158_2, rfl, s_F158_2, by omega, by omega, by omega, x_v1534, by omega, by omega, (by first | exact (fun q => absurd q x_v1480) | exact (fun q => absurd (x_v757 q).1 x_v1480) | exact (fun q => absurd (x_v1537 q).1 x_v1480) | (refine RD_op x_v757 ?_ x_v1537 x_v1581; omega) | (refine RD_op x_v1537 ?_ x_v757 x_v1581; omega) | exact x_v757 | exact x_v1537 | (refine RD_le x_v757 ?_; omega) | (refine RD_le x_v1537 ?_; omega) | (intro q; obtain ⟨c1, c2⟩ := x_v1581 q; refine ⟨?_, ?_, ?_⟩ <;> omega) | (intro q; obtain ⟨c0, c1, c2⟩ := x_v1537 q; refine ⟨?_, ?_, ?_⟩ <;> omega) | (intro q; obtain ⟨c0, c1, c2⟩ := x_v1537 q; obtain ⟨d1, d2⟩ := x_v1581 q; refine ⟨?_, ?_, ?_⟩ <;> omega)), (by first | (exact g18.seq x_v228) | (refine g58.seq (RG_nx ?_ x_v617.1 (fun _ _ => st_xY ?_) x_v617.2.1) <;> omega) | (exact g58.seq (RG_f (m := 2) (G := []) x_v691 (RG.msw x_v558) (by decide) (by decide) (fun q9 _ _ => st_xN (by have q8 := (RG.msw x_v558 q9).2.2.2.1; omega)))) | (exact g151.seq x_v1538) | (exact RG_f (m := 4) (G := []) x_v119 hms (by decide) (by decide) (fun q9 _ _ => st_uND (by omega))) | (exact RG_f (m := 4) (G := []) x_v449 hms (by decide) (by decide) (fun q9 _ _ => st_uBD (by omega)))), (FKP.tr (FKP.tr (FKP.tr FKP.rf x_v759) x_v1539) x_v1582)⟩) dX12_readUnit_161
            · skip
              have tc136 := f_ne (k := 0) (by decide) c136
              replace x_v1330 := x_v1330.resolve_left tc136
              clear x_v1331
              have hk5 := x_v754 (by omega)
              have hq5 := (RG.msw x_v758 (by omega)).2.2.2.1
              refine lv_aload_n hx hb dX12_readUnit_139 rfl (lv_at hl 1 rfl) ?_
              refine tk_v hH hS hA (tr_V (n := 0) (As := []) hx hb hml hown hts hkb hH (ox_map hOX rfl) hks hE hS hA (s_M_next l D cs kf T (y4 :: O) ((y4, .inl (cs.2.1, 1302, .inl F75_2)) :: X) a0 hg mq o0 o1 o2 y3 y4 o5 n75_0_6 n75_0_7 y8 n75_0_9 n75_0_10 n75_0_11 n75_0_12 tl f3 t tn t_a0 b_hg t_y3 t_y4 (by omega) (by omega) (by omega) (by omega) (by omega) (by omega) (by omega) (by omega) (by omega) htm (by omega) (hO.sub (by decide))) kw_1344 kw_1346 ks_43 kw_13 kw_1347 (by decide +kernel) ⟨Nat.le_of_ble_eq_true rfl, Nat.le_of_ble_eq_true rfl⟩ (x_recv (ci := 12) hkb hH 0 rfl rfl) rfl rfl hl.1 (Nat.le_of_ble_eq_true rfl) dX12_readUnit_140 ⟨Nat.le_of_ble_eq_true rfl, Nat.le_of_ble_eq_true rfl⟩) (fun u H locs hz9 hH hS => ?_)
              obtain ⟨n140_0_6, n140_0_7, n140_0_9, n140_0_10, rfl, x_v1400, x_v1401, x_v1402, x_v1403, x_v1404, x_v1405, x_v1406, x_v1407⟩ := hz9
              have hH : HT D cs A T (a0 :: y3 :: y4 :: O) ((a0, .inr (12, o0 :: o1 :: o2 :: (.ref y3) :: (.ref y4) :: o5 :: (.int n140_0_6) :: (.int n140_0_7) :: (.int y8) :: (.int n140_0_9) :: (.int n140_0_10) :: (.int n75_0_11) :: (.int n75_0_12) :: tl)) :: (y3, .inl (cs.2.1, 900, .inl f3)) :: (y4, .inl (cs.2.1, 1302, .inl F75_2)) :: X) H := hH
              refine W.widen (k := 0) (n := 0) (Nat.le_of_ble_eq_true rfl) (Nat.le_of_ble_eq_true rfl) ?_
              refine lv_goto (tgt := 151) hx hb dX12_readUnit_143 (by decide) ?_
              have g151 : RG t tn [(5, 0)] [(3, 0)] y11 y12 y6 n75_0_11 n75_0_12 n140_0_6 n140_0_7 n140_0_9 n140_0_10 := (by first | (refine g78.seq (RG_nx ?_ x_v1406 (fun _ _ => st_cY ?_) ((RG.msw x_v758 ?_).nx x_v1407)) <;> omega) | (exact g78.seq (RG_f (m := 2) (G := []) x_v1481 (RG.msw x_v758) (by decide) (by decide) (fun q9 _ _ => st_cN (by have q8 := (RG.msw x_v758 q9).2.2.2.1; omega)))))
              refine lv_aload_n hx hb dX12_readUnit_151 rfl (lv_at hl 1 rfl) ?_
              refine lv_iload_n hx hb dX12_readUnit_152 rfl (lv_at hl 2 rfl) ?_
              refine tk_v hH hS hA (tr_V (n := 1) (As := [.int x1]) hx hb hml hown hts hkb hH (ox_map hOX rfl) hks hE hS hA (s_M_readSum0 l D cs kf T O X a0 hg mq x1 o0 o1 o2 y3 y4 o5 n140_0_6 n140_0_7 y8 n140_0_9 n140_0_10 n75_0_11 n75_0_12 tl f3 F75_2 t tn t_a0 b_hg (by omega) (by omega) t_y3 t_y4 (by omega) (by omega) (by omega) (by omega) (by omega) (by omega) (by omega) (by omega) s_F75_2 (by omega) htm (by omega) (by omega) x_v1403 (by first | exact k4 | (refine RD_sl k4 x_v757 ?_; omega) | (intro _; omega)) (fun _ => x_v1406) (hO.sub (by decide))) kw_1422 kw_1424 ks_60 kw_13 kw_1425 (by decide +kernel) ⟨Nat.le_of_ble_eq_true rfl, Nat.le_of_ble_eq_true rfl⟩ (x_recv (ci := 12) hkb hH 0 rfl rfl) rfl rfl hl.1 (Nat.le_of_ble_eq_true rfl) dX12_readUnit_153 ⟨Nat.le_of_ble_eq_true rfl, Nat.le_of_ble_eq_true rfl⟩) (fun u H locs hz9 hH hS => ?_)
              obtain ⟨n153_0_6, n153_0_7, n153_0_9, n153_0_10, n153_0_11, n153_0_12, F153_2, rfl, x_v1530, x_v1531, x_v1532, x_v1533, x_v1534, x_v1535, x_v1536, x_v1537, x_v1538, x_v1539⟩ := hz9
              have s_F153_2 := x_v1530
              have hH : HT D cs A T (a0 :: y3 :: y4 :: O) ((a0, .inr (12, o0 :: o1 :: o2 :: (.ref y3) :: (.ref y4) :: o5 :: (.int n153_0_6) :: (.int n153_0_7) :: (.int y8) :: (.int n153_0_9) :: (.int n153_0_10) :: (.int n153_0_11) :: (.int n153_0_12) :: tl)) :: (y3, .inl (cs.2.1, 900, .inl f3)) :: (y4, .inl (cs.2.1, 1302, .inl F153_2)) :: X) H := hH
              refine W.widen (k := 0) (n := 0) (Nat.le_of_ble_eq_true rfl) (Nat.le_of_ble_eq_true rfl) ?_
              refine lv_aload_n hx hb dX12_readUnit_156 rfl (lv_at hl 1 rfl) ?_
              refine lv_iload_n hx hb dX12_readUnit_157 rfl (lv_at hl 0 rfl) ?_
              have z9_3003 : (3003 : Int32).toInt = 3003 := by decide
              refine tk_v hH hS hA (tr_V (n := 1) (As := [.int 3003]) hx hb hml hown hts hkb hH (ox_map hOX rfl) hks hE hS hA (s_M_codesO l D cs kf T O X a0 hg mq (3003) o0 o1 o2 y3 y4 o5 n153_0_6 n153_0_7 y8 n153_0_9 n153_0_10 n153_0_11 n153_0_12 tl f3 F153_2 t tn t_a0 b_hg (by decide) (by decide) t_y3 t_y4 (by omega) (by omega) (by omega) (by omega) (by omega) (by omega) (by omega) (by omega) s_F153_2 (by omega) htm (by first | (intro q; constructor <;> omega) | (intro q; obtain ⟨c0, c1, c2⟩ := x_v757 q; constructor <;> omega) | (intro q; obtain ⟨c0, c1, c2⟩ := x_v1537 q; constructor <;> omega) | (refine RD_cp k4 hd0 x_v757 ?_ x_v1537 ?_ <;> omega) | (refine RD_cp k4 hd0 x_v1537 ?_ x_v757 ?_ <;> omega)) (hO.sub (by decide))) kw_1418 kw_1420 ks_59 kw_13 kw_1421 (by decide +kernel) ⟨Nat.le_of_ble_eq_true rfl, Nat.le_of_ble_eq_true rfl⟩ (x_recv (ci := 12) hkb hH 0 rfl rfl) rfl rfl hl.1 (Nat.le_of_ble_eq_true rfl) dX12_readUnit_158 ⟨Nat.le_of_ble_eq_true rfl, Nat.le_of_ble_eq_true rfl⟩) (fun u H locs hz9 hH hS => ?_)
              obtain ⟨F158_2, rfl, x_v1580, x_v1581, x_v1582⟩ := hz9
              have s_F158_2 := x_v1580
              have hH : HT D cs A T (a0 :: y3 :: y4 :: O) ((a0, .inr (12, o0 :: o1 :: o2 :: (.ref y3) :: (.ref y4) :: o5 :: (.int n153_0_6) :: (.int n153_0_7) :: (.int y8) :: (.int n153_0_9) :: (.int n153_0_10) :: (.int n153_0_11) :: (.int n153_0_12) :: tl)) :: (y3, .inl (cs.2.1, 900, .inl f3)) :: (y4, .inl (cs.2.1, 1302, .inl F158_2)) :: X) H := hH
              refine W.widen (k := 0) (n := 0) (Nat.le_of_ble_eq_true rfl) (Nat.le_of_ble_eq_true rfl) ?_
              exact te_v hx hb hr hlocks hH hS (⟨n153_0_6, n153_0_7, n153_0_9, n153_0_10, n153_0_11, n153_0_12, F158_2, rfl, s_F158_2, by omega, by omega, by omega, x_v1534, by omega, by omega, (by first | (refine RD_op x_v757 ?_ x_v1537 x_v1581; omega) | (refine RD_op x_v1537 ?_ x_v757 x_v1581; omega) | exact x_v757 | exact x_v1537 | (refine RD_le x_v757 ?_; omega) | (refine RD_le x_v1537 ?_; omega) | (intro q; obtain ⟨c1, c2⟩ := x_v1581 q; refine ⟨?_, ?_, ?_⟩ <;> omega) | (intro q; obtain ⟨c0, c1, c2⟩ := x_v1537 q; refine ⟨?_, ?_, ?_⟩ <;> omega) | (intro q; obtain ⟨c0, c1, c2⟩ := x_v1537 q; obtain ⟨d1, d2⟩ := x_v1581 q; refine ⟨?_, ?_, ?_⟩ <;> omega)), (by first | (exact g18.seq x_v228) | (refine g58.seq (RG_nx ?_ x_v617.1 (fun _ _ => st_xY ?_) x_v617.2.1) <;> omega) | (exact g58.seq (RG_f (m := 2) (G := []) x_v691 (RG.msw x_v558) (by decide) (by decide) (fun q9 _ _ => st_xN (by have q8 := (RG.msw x_v558 q9).2.2.2.1; omega)))) | (exact g151.seq x_v1538) | (exact RG_f (m := 4) (G := []) x_v119 hms (by decide) (by decide) (fun q9 _ _ => st_uND (by omega))) | (exact RG_f (m := 4) (G := []) x_v449 hms (by decide) (by decide) (fun q9 _ _ => st_uBD (by omega)))), (FKP.tr (FKP.tr (FKP.tr FKP.rf x_v759) x_v1539) x_v1582)⟩) dX12_readUnit_161
    · skip
      have tc39 := f_ne (k := 0) (by decide) c39
      replace x_v360 := x_v360.resolve_left tc39
      clear x_v361
      refine lv_aload_n hx hb dX12_readUnit_42 rfl (lv_at hl 0 rfl) ?_
      refine lv_iload_n hx hb dX12_readUnit_43 rfl (lv_at hl 1 rfl) ?_
      refine tk_i hH hS hA (tr_V (n := 1) (As := [.int x1]) hx hb hml hown hts hkb hH (ox_map hOX rfl) hks hE hS hA (s_M_goesIn0 l D cs kf T (y4 :: O) ((y4, .inl (cs.2.1, 1302, .inl f4)) :: X) a0 hg mq x1 o0 o1 o2 y3 y4 o5 y6 y7 y8 y9 y10 y11 y12 tl f3 t tn t_a0 b_hg (by omega) (by omega) t_y3 t_y4 (by omega) (by omega) (by omega) (by omega) (by omega) (by omega) (by omega) (by omega) (by omega) htm (by omega) (by omega) k3 (by omega) (by omega) hms (hO.sub (by decide))) kw_1414 kw_1416 ks_58 kw_13 kw_1417 (by decide +kernel) ⟨Nat.le_of_ble_eq_true rfl, Nat.le_of_ble_eq_true rfl⟩ (x_recv (ci := 12) hkb hH 0 rfl rfl) rfl rfl hl.1 (Nat.le_of_ble_eq_true rfl) dX12_readUnit_44 ⟨Nat.le_of_ble_eq_true rfl, Nat.le_of_ble_eq_true rfl⟩) (fun v44 u H locs hz9 hH hS => ?_)
      obtain ⟨n44_0_6, n44_0_7, n44_0_9, n44_0_10, n44_0_11, n44_0_12, rfl, l_v44, u_v44, x_v440, x_v441, x_v442, x_v443, x_v444, x_v445, x_v446, x_v447, x_v448, x_v449⟩ := hz9
      have hH : HT D cs A T (a0 :: y3 :: y4 :: O) ((a0, .inr (12, o0 :: o1 :: o2 :: (.ref y3) :: (.ref y4) :: o5 :: (.int n44_0_6) :: (.int n44_0_7) :: (.int y8) :: (.int n44_0_9) :: (.int n44_0_10) :: (.int n44_0_11) :: (.int n44_0_12) :: tl)) :: (y3, .inl (cs.2.1, 900, .inl f3)) :: (y4, .inl (cs.2.1, 1302, .inl f4)) :: X) H := hH
      refine W.widen (k := 0) (n := 0) (Nat.le_of_ble_eq_true rfl) (Nat.le_of_ble_eq_true rfl) ?_
      refine lv_if_ne (tgt := 51) hx hb dX12_readUnit_47 (by decide) (fun c47 => ?_) (fun c47 => ?_)
      · skip
        have tc47 := f_ne (k := 0) (by decide) c47
        replace x_v446 := x_v446.resolve_left tc47
        replace x_v448 := x_v448.resolve_left tc47
        clear x_v447
        clear x_v449
        have hsl := k4 (by omega)
        have hq1 := hq0 (by omega)
        have g51 : RG t tn [(5, 0)] [(8, 1), (20, 38)] y11 y12 y6 n44_0_11 n44_0_12 n44_0_6 n44_0_7 n44_0_9 n44_0_10 := Or.inr (Or.inl ⟨by omega, by omega, x_v448.1, GL_nx (fun _ _ => st_uB (by omega) (by decide)) x_v448.2.1⟩)
        refine lv_aload_n hx hb dX12_readUnit_51 rfl (lv_at hl 0 rfl) ?_
        refine lv_iload_n hx hb dX12_readUnit_52 rfl (lv_at hl 1 rfl) ?_
        refine lv_iconst (v := 1) hx hb dX12_readUnit_53 (by decide) ?_
        refine lv_iadd hx hb dX12_readUnit_54 ?_
        refine lv_topi (fun v54 ev54 => ?_)
        have tv54 : v54.toInt = x1.toInt + (1) := by rw [ev54]; exact add_i rfl (by decide : (1 : Int32).toInt = 1) (by omega) (by omega)
        refine tk_v hH hS hA (tr_V (n := 1) (As := [.int v54]) hx hb hml hown hts hkb hH (ox_map hOX rfl) hks hE hS hA (s_M_readTruth1 l D cs kf T O X a0 hg mq v54 o0 o1 o2 y3 y4 o5 n44_0_6 n44_0_7 y8 n44_0_9 n44_0_10 n44_0_11 n44_0_12 tl f3 f4 t tn t_a0 b_hg (by omega) (by omega) t_y3 t_y4 (by omega) (by omega) (by omega) (by omega) (by omega) (by omega) (by omega) (by omega) s_f4 (by omega) htm (by omega) (by omega) x_v443 (by first | exact k4 | exact (fun q => absurd q x_v447) | (intro _; omega)) (fun _ => x_v448.1) (hO.sub (by decide))) kw_1402 kw_1404 ks_55 kw_13 kw_1405 (by decide +kernel) ⟨Nat.le_of_ble_eq_true rfl, Nat.le_of_ble_eq_true rfl⟩ (x_recv (ci := 12) hkb hH 0 rfl rfl) rfl rfl hl.1 (Nat.le_of_ble_eq_true rfl) dX12_readUnit_55 ⟨Nat.le_of_ble_eq_true rfl, Nat.le_of_ble_eq_true rfl⟩) (fun u H locs hz9 hH hS => ?_)
        obtain ⟨n55_0_6, n55_0_7, n55_0_9, n55_0_10, n55_0_11, n55_0_12, F55_2, rfl, x_v550, x_v551, x_v552, x_v553, x_v554, x_v555, x_v556, x_v557, x_v558, x_v559⟩ := hz9
        have s_F55_2 := x_v550
        have hH : HT D cs A T (a0 :: y3 :: y4 :: O) ((a0, .inr (12, o0 :: o1 :: o2 :: (.ref y3) :: (.ref y4) :: o5 :: (.int n55_0_6) :: (.int n55_0_7) :: (.int y8) :: (.int n55_0_9) :: (.int n55_0_10) :: (.int n55_0_11) :: (.int n55_0_12) :: tl)) :: (y3, .inl (cs.2.1, 900, .inl f3)) :: (y4, .inl (cs.2.1, 1302, .inl F55_2)) :: X) H := hH
        refine W.widen (k := 0) (n := 0) (Nat.le_of_ble_eq_true rfl) (Nat.le_of_ble_eq_true rfl) ?_
        have g58 : RG t tn [(5, 0)] [(20, 38)] y11 y12 y6 n55_0_11 n55_0_12 n55_0_6 n55_0_7 n55_0_9 n55_0_10 := g51.seq (RG.cons x_v558)
        refine lv_aload_n hx hb dX12_readUnit_58 rfl (lv_at hl 0 rfl) ?_
        refine lv_bipush (v := 38) hx hb dX12_readUnit_59 (by decide) ?_
        have z9_38 : (38 : Int32).toInt = 38 := by decide
        refine tk_i hH hS hA (tr_V (n := 1) (As := [.int 38]) hx hb hml hown hts hkb hH (ox_map hOX rfl) hks hE hS hA (s_M_eats l D cs kf T (y4 :: O) ((y4, .inl (cs.2.1, 1302, .inl F55_2)) :: X) a0 hg mq (38) o0 o1 o2 y3 y4 o5 n55_0_6 n55_0_7 y8 n55_0_9 n55_0_10 n55_0_11 n55_0_12 tl f3 t tn t_a0 b_hg t_y3 t_y4 (by omega) (by omega) (by omega) (by omega) (by omega) (by omega) (by omega) (by omega) (by omega) htm (by omega) (by omega) x_v554 (by omega) (RG.msw x_v558) (hO.sub (by decide))) kw_1390 kw_1392 ks_52 kw_13 kw_1393 (by decide +kernel) ⟨Nat.le_of_ble_eq_true rfl, Nat.le_of_ble_eq_true rfl⟩ (x_recv (ci := 12) hkb hH 0 rfl rfl) rfl rfl hl.1 (Nat.le_of_ble_eq_true rfl) dX12_readUnit_61 ⟨Nat.le_of_ble_eq_true rfl, Nat.le_of_ble_eq_true rfl⟩) (fun v61 u H locs hz9 hH hS => ?_)
        obtain ⟨n61_0_6, n61_0_7, n61_0_9, n61_0_10, rfl, l_v61, u_v61, x_v610, x_v611, x_v612, x_v613, x_v614, x_v615, x_v616, x_v617, x_v618⟩ := hz9
        have hH : HT D cs A T (a0 :: y3 :: y4 :: O) ((a0, .inr (12, o0 :: o1 :: o2 :: (.ref y3) :: (.ref y4) :: o5 :: (.int n61_0_6) :: (.int n61_0_7) :: (.int y8) :: (.int n61_0_9) :: (.int n61_0_10) :: (.int n55_0_11) :: (.int n55_0_12) :: tl)) :: (y3, .inl (cs.2.1, 900, .inl f3)) :: (y4, .inl (cs.2.1, 1302, .inl F55_2)) :: X) H := hH
        refine W.widen (k := 0) (n := 0) (Nat.le_of_ble_eq_true rfl) (Nat.le_of_ble_eq_true rfl) ?_
        refine lv_if_ne (tgt := 72) hx hb dX12_readUnit_64 (by decide) (fun c64 => ?_) (fun c64 => ?_)
        · skip
          have tc64 := f_ne (k := 0) (by decide) c64
          replace x_v616 := x_v616.resolve_left tc64
          replace x_v617 := x_v617.resolve_left tc64
          clear x_v618
          exact te_v hx hb hr hlocks hH hS (⟨n61_0_6, n61_0_7, n61_0_9, n61_0_10, n55_0_11, n55_0_12, F55_2, rfl, s_F55_2, by omega, by omega, by omega, x_v613, by omega, by omega, (by first | exact (fun q => absurd q x_v447) | exact (fun q => absurd (x_v557 q).1 x_v447) | exact x_v557 | (refine RD_le x_v557 ?_; omega) | (intro q; obtain ⟨c0, c1, c2⟩ := x_v557 q; refine ⟨?_, ?_, ?_⟩ <;> omega)), (by first | (exact g18.seq x_v228) | (refine g58.seq (RG_nx ?_ x_v617.1 (fun _ _ => st_xY ?_) x_v617.2.1) <;> omega) | (exact g58.seq (RG_f (m := 2) (G := []) x_v691 (RG.msw x_v558) (by decide) (by decide) (fun q9 _ _ => st_xN (by have q8 := (RG.msw x_v558 q9).2.2.2.1; omega)))) | (exact g151.seq x_v1538) | (exact RG_f (m := 4) (G := []) x_v119 hms (by decide) (by decide) (fun q9 _ _ => st_uND (by omega))) | (exact RG_f (m := 4) (G := []) x_v449 hms (by decide) (by decide) (fun q9 _ _ => st_uBD (by omega)))), (FKP.tr FKP.rf x_v559)⟩) dX12_readUnit_72
        · skip
          have tc64 := f_eq (k := 0) (by decide) c64
          clear x_v616
          clear x_v617
          replace x_v618 := x_v618.resolve_left (fun q9 => q9 tc64)
          obtain ⟨e6, e7, e9, e10, x_v618⟩ := x_v618
          subst e6 e7 e9 e10
          refine lv_aload_n hx hb dX12_readUnit_67 rfl (lv_at hl 0 rfl) ?_
          refine lv_iconst (v := 2) hx hb dX12_readUnit_68 (by decide) ?_
          have z9_2 : (2 : Int32).toInt = 2 := by decide
          refine tk_v hH hS hA (tr_V (n := 1) (As := [.int 2]) hx hb hml hown hts hkb hH (ox_map hOX rfl) hks hE hS hA (s_M_fails l D cs kf T (y4 :: O) ((y4, .inl (cs.2.1, 1302, .inl F55_2)) :: X) a0 hg mq (2) o0 o1 o2 y3 y4 o5 n55_0_6 n55_0_7 y8 n55_0_9 n55_0_10 n55_0_11 n55_0_12 tl f3 t tn t_a0 b_hg (by decide) (by decide) t_y3 t_y4 (by omega) (by omega) (by omega) (by omega) (by omega) (by omega) (by omega) (by omega) (by omega) htm (hO.sub (by decide))) kw_1378 kw_1380 ks_49 kw_13 kw_1381 (by decide +kernel) ⟨Nat.le_of_ble_eq_true rfl, Nat.le_of_ble_eq_true rfl⟩ (x_recv (ci := 12) hkb hH 0 rfl rfl) rfl rfl hl.1 (Nat.le_of_ble_eq_true rfl) dX12_readUnit_69 ⟨Nat.le_of_ble_eq_true rfl, Nat.le_of_ble_eq_true rfl⟩) (fun u H locs hz9 hH hS => ?_)
          obtain ⟨n69_0_11, n69_0_12, rfl, x_v690, x_v691⟩ := hz9
          have hH : HT D cs A T (a0 :: y3 :: y4 :: O) ((a0, .inr (12, o0 :: o1 :: o2 :: (.ref y3) :: (.ref y4) :: o5 :: (.int n55_0_6) :: (.int n55_0_7) :: (.int y8) :: (.int n55_0_9) :: (.int n55_0_10) :: (.int n69_0_11) :: (.int n69_0_12) :: tl)) :: (y3, .inl (cs.2.1, 900, .inl f3)) :: (y4, .inl (cs.2.1, 1302, .inl F55_2)) :: X) H := hH
          refine W.widen (k := 0) (n := 0) (Nat.le_of_ble_eq_true rfl) (Nat.le_of_ble_eq_true rfl) ?_
          exact te_v hx hb hr hlocks hH hS (⟨n55_0_6, n55_0_7, n55_0_9, n55_0_10, n69_0_11, n69_0_12, F55_2, rfl, s_F55_2, by omega, by omega, by omega, x_v613, by omega, by omega, (by first | exact (fun q => absurd q x_v447) | exact (fun q => absurd q x_v690) | exact (fun q => absurd (x_v557 q).1 x_v447) | exact (fun q => absurd (x_v557 q).1 x_v690) | exact x_v557 | (refine RD_le x_v557 ?_; omega) | (intro q; obtain ⟨c0, c1, c2⟩ := x_v557 q; refine ⟨?_, ?_, ?_⟩ <;> omega)), (by first | (exact g18.seq x_v228) | (refine g58.seq (RG_nx ?_ x_v617.1 (fun _ _ => st_xY ?_) x_v617.2.1) <;> omega) | (exact g58.seq (RG_f (m := 2) (G := []) x_v691 (RG.msw x_v558) (by decide) (by decide) (fun q9 _ _ => st_xN (by have q8 := (RG.msw x_v558 q9).2.2.2.1; omega)))) | (exact g151.seq x_v1538) | (exact RG_f (m := 4) (G := []) x_v119 hms (by decide) (by decide) (fun q9 _ _ => st_uND (by omega))) | (exact RG_f (m := 4) (G := []) x_v449 hms (by decide) (by decide) (fun q9 _ _ => st_uBD (by omega)))), (FKP.tr FKP.rf x_v559)⟩) dX12_readUnit_72
      · skip
        have tc47 := f_eq (k := 0) (by decide) c47
        clear x_v446
        clear x_v448
        replace x_v447 := x_v447.resolve_left (fun q9 => q9 tc47)
        replace x_v449 := x_v449.resolve_left (fun q9 => q9 tc47)
        exfalso; omega
  · skip
    have tc6 := f_ne (k := 0) (by decide) c6
    replace x_v30 := x_v30.resolve_left tc6
    clear x_v31
    refine lv_aload_n hx hb dX12_readUnit_9 rfl (lv_at hl 0 rfl) ?_
    refine lv_iload_n hx hb dX12_readUnit_10 rfl (lv_at hl 1 rfl) ?_
    refine tk_i hH hS hA (tr_V (n := 1) (As := [.int x1]) hx hb hml hown hts hkb hH (ox_map hOX rfl) hks hE hS hA (s_M_goesIn0 l D cs kf T (y4 :: O) ((y4, .inl (cs.2.1, 1302, .inl f4)) :: X) a0 hg mq x1 o0 o1 o2 y3 y4 o5 y6 y7 y8 y9 y10 y11 y12 tl f3 t tn t_a0 b_hg (by omega) (by omega) t_y3 t_y4 (by omega) (by omega) (by omega) (by omega) (by omega) (by omega) (by omega) (by omega) (by omega) htm (by omega) (by omega) k3 (by omega) (by omega) hms (hO.sub (by decide))) kw_1414 kw_1416 ks_58 kw_13 kw_1417 (by decide +kernel) ⟨Nat.le_of_ble_eq_true rfl, Nat.le_of_ble_eq_true rfl⟩ (x_recv (ci := 12) hkb hH 0 rfl rfl) rfl rfl hl.1 (Nat.le_of_ble_eq_true rfl) dX12_readUnit_11 ⟨Nat.le_of_ble_eq_true rfl, Nat.le_of_ble_eq_true rfl⟩) (fun v11 u H locs hz9 hH hS => ?_)
    obtain ⟨n11_0_6, n11_0_7, n11_0_9, n11_0_10, n11_0_11, n11_0_12, rfl, l_v11, u_v11, x_v110, x_v111, x_v112, x_v113, x_v114, x_v115, x_v116, x_v117, x_v118, x_v119⟩ := hz9
    have hH : HT D cs A T (a0 :: y3 :: y4 :: O) ((a0, .inr (12, o0 :: o1 :: o2 :: (.ref y3) :: (.ref y4) :: o5 :: (.int n11_0_6) :: (.int n11_0_7) :: (.int y8) :: (.int n11_0_9) :: (.int n11_0_10) :: (.int n11_0_11) :: (.int n11_0_12) :: tl)) :: (y3, .inl (cs.2.1, 900, .inl f3)) :: (y4, .inl (cs.2.1, 1302, .inl f4)) :: X) H := hH
    refine W.widen (k := 0) (n := 0) (Nat.le_of_ble_eq_true rfl) (Nat.le_of_ble_eq_true rfl) ?_
    refine lv_if_ne (tgt := 18) hx hb dX12_readUnit_14 (by decide) (fun c14 => ?_) (fun c14 => ?_)
    · skip
      have tc14 := f_ne (k := 0) (by decide) c14
      replace x_v116 := x_v116.resolve_left tc14
      replace x_v118 := x_v118.resolve_left tc14
      clear x_v117
      clear x_v119
      have hsl := k4 (by omega)
      have hq1 := hq0 (by omega)
      have g18 : RG t tn [(5, 0)] [(5, 1)] y11 y12 y6 n11_0_11 n11_0_12 n11_0_6 n11_0_7 n11_0_9 n11_0_10 := Or.inr (Or.inl ⟨by omega, by omega, x_v118.1, GL_nx (fun _ _ => st_uN (by omega) (by decide)) x_v118.2.1⟩)
      refine lv_aload_n hx hb dX12_readUnit_18 rfl (lv_at hl 0 rfl) ?_
      refine lv_iload_n hx hb dX12_readUnit_19 rfl (lv_at hl 1 rfl) ?_
      refine lv_iconst (v := 1) hx hb dX12_readUnit_20 (by decide) ?_
      refine lv_iadd hx hb dX12_readUnit_21 ?_
      refine lv_topi (fun v21 ev21 => ?_)
      have tv21 : v21.toInt = x1.toInt + (1) := by rw [ev21]; exact add_i rfl (by decide : (1 : Int32).toInt = 1) (by omega) (by omega)
      refine tk_v hH hS hA (tr_V (n := 1) (As := [.int v21]) hx hb hml hown hts hkb hH (ox_map hOX rfl) hks hE hS hA (s_M_readUnit1 l D cs kf T O X a0 hg mq v21 o0 o1 o2 y3 y4 o5 n11_0_6 n11_0_7 y8 n11_0_9 n11_0_10 n11_0_11 n11_0_12 tl f3 f4 t tn t_a0 b_hg (by omega) (by omega) t_y3 t_y4 (by omega) (by omega) (by omega) (by omega) (by omega) (by omega) (by omega) (by omega) s_f4 (by omega) htm (by omega) (by omega) x_v113 (by first | exact k4 | exact (fun q => absurd q x_v117) | (intro _; omega)) (fun _ => x_v118.1) (hO.sub (by decide))) kw_1410 kw_1412 ks_57 kw_13 kw_1413 (by decide +kernel) ⟨Nat.le_of_ble_eq_true rfl, Nat.le_of_ble_eq_true rfl⟩ (x_recv (ci := 12) hkb hH 0 rfl rfl) rfl rfl hl.1 (Nat.le_of_ble_eq_true rfl) dX12_readUnit_22 ⟨Nat.le_of_ble_eq_true rfl, Nat.le_of_ble_eq_true rfl⟩) (fun u H locs hz9 hH hS => ?_)
      obtain ⟨n22_0_6, n22_0_7, n22_0_9, n22_0_10, n22_0_11, n22_0_12, F22_2, rfl, x_v220, x_v221, x_v222, x_v223, x_v224, x_v225, x_v226, x_v227, x_v228, x_v229⟩ := hz9
      have s_F22_2 := x_v220
      have hH : HT D cs A T (a0 :: y3 :: y4 :: O) ((a0, .inr (12, o0 :: o1 :: o2 :: (.ref y3) :: (.ref y4) :: o5 :: (.int n22_0_6) :: (.int n22_0_7) :: (.int y8) :: (.int n22_0_9) :: (.int n22_0_10) :: (.int n22_0_11) :: (.int n22_0_12) :: tl)) :: (y3, .inl (cs.2.1, 900, .inl f3)) :: (y4, .inl (cs.2.1, 1302, .inl F22_2)) :: X) H := hH
      refine W.widen (k := 0) (n := 0) (Nat.le_of_ble_eq_true rfl) (Nat.le_of_ble_eq_true rfl) ?_
      refine lv_aload_n hx hb dX12_readUnit_25 rfl (lv_at hl 0 rfl) ?_
      refine lv_sipush (v := 3008) hx hb dX12_readUnit_26 (by decide) ?_
      have z9_3008 : (3008 : Int32).toInt = 3008 := by decide
      refine tk_v hH hS hA (tr_V (n := 1) (As := [.int 3008]) hx hb hml hown hts hkb hH (ox_map hOX rfl) hks hE hS hA (s_M_codesN l D cs kf T O X a0 hg mq (3008) o0 o1 o2 y3 y4 o5 n22_0_6 n22_0_7 y8 n22_0_9 n22_0_10 n22_0_11 n22_0_12 tl f3 F22_2 t tn t_a0 b_hg (by decide) (by decide) t_y3 t_y4 (by omega) (by omega) (by omega) (by omega) (by omega) (by omega) (by omega) (by omega) s_F22_2 (by omega) htm (by first | exact (fun q => absurd q x_v117) | exact (fun q => absurd (x_v227 q).1 x_v117) | (intro q; constructor <;> omega) | (intro q; obtain ⟨c0, c1, c2⟩ := x_v227 q; constructor <;> omega)) (hO.sub (by decide))) kw_1418 kw_1420 ks_59 kw_13 kw_1421 (by decide +kernel) ⟨Nat.le_of_ble_eq_true rfl, Nat.le_of_ble_eq_true rfl⟩ (x_recv (ci := 12) hkb hH 0 rfl rfl) rfl rfl hl.1 (Nat.le_of_ble_eq_true rfl) dX12_readUnit_29 ⟨Nat.le_of_ble_eq_true rfl, Nat.le_of_ble_eq_true rfl⟩) (fun u H locs hz9 hH hS => ?_)
      obtain ⟨F29_2, rfl, x_v290, x_v291, x_v292⟩ := hz9
      have s_F29_2 := x_v290
      have hH : HT D cs A T (a0 :: y3 :: y4 :: O) ((a0, .inr (12, o0 :: o1 :: o2 :: (.ref y3) :: (.ref y4) :: o5 :: (.int n22_0_6) :: (.int n22_0_7) :: (.int y8) :: (.int n22_0_9) :: (.int n22_0_10) :: (.int n22_0_11) :: (.int n22_0_12) :: tl)) :: (y3, .inl (cs.2.1, 900, .inl f3)) :: (y4, .inl (cs.2.1, 1302, .inl F29_2)) :: X) H := hH
      refine W.widen (k := 0) (n := 0) (Nat.le_of_ble_eq_true rfl) (Nat.le_of_ble_eq_true rfl) ?_
      exact te_v hx hb hr hlocks hH hS (⟨n22_0_6, n22_0_7, n22_0_9, n22_0_10, n22_0_11, n22_0_12, F29_2, rfl, s_F29_2, by omega, by omega, by omega, x_v224, by omega, by omega, (by first | exact (fun q => absurd q x_v117) | exact (fun q => absurd (x_v227 q).1 x_v117) | exact x_v227 | (refine RD_le x_v227 ?_; omega) | (intro q; obtain ⟨c1, c2⟩ := x_v291 q; refine ⟨?_, ?_, ?_⟩ <;> omega) | (intro q; obtain ⟨c0, c1, c2⟩ := x_v227 q; refine ⟨?_, ?_, ?_⟩ <;> omega) | (intro q; obtain ⟨c0, c1, c2⟩ := x_v227 q; obtain ⟨d1, d2⟩ := x_v291 q; refine ⟨?_, ?_, ?_⟩ <;> omega)), (by first | (exact g18.seq x_v228) | (refine g58.seq (RG_nx ?_ x_v617.1 (fun _ _ => st_xY ?_) x_v617.2.1) <;> omega) | (exact g58.seq (RG_f (m := 2) (G := []) x_v691 (RG.msw x_v558) (by decide) (by decide) (fun q9 _ _ => st_xN (by have q8 := (RG.msw x_v558 q9).2.2.2.1; omega)))) | (exact g151.seq x_v1538) | (exact RG_f (m := 4) (G := []) x_v119 hms (by decide) (by decide) (fun q9 _ _ => st_uND (by omega))) | (exact RG_f (m := 4) (G := []) x_v449 hms (by decide) (by decide) (fun q9 _ _ => st_uBD (by omega)))), (FKP.tr (FKP.tr FKP.rf x_v229) x_v292)⟩) dX12_readUnit_32
    · skip
      have tc14 := f_eq (k := 0) (by decide) c14
      clear x_v116
      clear x_v118
      replace x_v117 := x_v117.resolve_left (fun q9 => q9 tc14)
      replace x_v119 := x_v119.resolve_left (fun q9 => q9 tc14)
      exfalso; omega
set_option maxHeartbeats 4000000 in
set_option maxRecDepth 100000 in
theorem s_M_readBoth0 (l : Launch) (D : va_G) (cs : CS) (kf : KF) (T : TF) (O : List Nat) (X : va_W) (a0 hg mq : Nat) (x1 : Int32) (o0 : Value) (o1 : Value) (o2 : Value) (y3 : Nat) (y4 : Nat) (o5 : Value) (y6 : Int32) (y7 : Int32) (y8 : Int32) (y9 : Int32) (y10 : Int32) (y11 : Int32) (y12 : Int32) (tl : List Value) (f3 : Nat → Int32) (f4 : Nat → Int32) (t : Tp) (tn : Nat) (t_a0 : T a0 = some (22, hg, mq)) (b_hg : hg < 90) (l_x1 : 0 ≤ x1.toInt) (u_x1 : x1.toInt ≤ 0) (t_y3 : T y3 = some (9, 900, 0)) (t_y4 : T y4 = some (8, 1302, 0)) (l_y6 : 0 ≤ y6.toInt) (u_y6 : y6.toInt ≤ 900) (l_y7 : 0 ≤ y7.toInt) (u_y7 : y7.toInt ≤ 900) (l_y8 : 0 ≤ y8.toInt) (u_y8 : y8.toInt ≤ 900) (l_y10 : 0 ≤ y10.toInt) (u_y10 : y10.toInt ≤ 999) (s_f4 : S8 f4) (hn : y8.toInt = (tn : Int)) (htm : TM f3 t) (k1 : y6.toInt ≤ y7.toInt) (k2 : y7.toInt ≤ y8.toInt) (k3 : TK3 y9 y6 y7) (k4 : SL y11 f4 y6) (hms : MSW t tn y11 y6 y7 y9 y10) (hO : okO T (a0 :: y3 :: y4 :: O) []) : TK l D cs kf yX12_readBoth cX12_readBoth 2 none { frames := 29, cells := 0, slots := 0, locals := 620 } [.ref a0, .int x1] T (a0 :: y3 :: y4 :: O) ((a0, .inr (12, o0 :: o1 :: o2 :: (.ref y3) :: (.ref y4) :: o5 :: (.int y6) :: (.int y7) :: (.int y8) :: (.int y9) :: (.int y10) :: (.int y11) :: (.int y12) :: tl)) :: (y3, .inl (cs.2.1, 900, .inl f3)) :: (y4, .inl (cs.2.1, 1302, .inl f4)) :: X) (Tv D cs (fun u => ∃ (n0_6 : Int32) (n0_7 : Int32) (n0_9 : Int32) (n0_10 : Int32) (n0_11 : Int32) (n0_12 : Int32) (G2 : Nat → Int32), u = (T, a0 :: y3 :: y4 :: O, (a0, .inr (12, o0 :: o1 :: o2 :: (.ref y3) :: (.ref y4) :: o5 :: (.int n0_6) :: (.int n0_7) :: (.int y8) :: (.int n0_9) :: (.int n0_10) :: (.int n0_11) :: (.int n0_12) :: tl)) :: (y3, .inl (cs.2.1, 900, .inl f3)) :: (y4, .inl (cs.2.1, 1302, .inl G2)) :: X) ∧ (S8 G2) ∧ (y6.toInt ≤ n0_6.toInt) ∧ (n0_6.toInt ≤ n0_7.toInt) ∧ (n0_7.toInt ≤ y8.toInt) ∧ (TK3 n0_9 n0_6 n0_7) ∧ (0 ≤ n0_10.toInt) ∧ (n0_10.toInt ≤ 999) ∧ (RD f4 G2 y6 n0_6 y11 n0_11) ∧ (RG t tn [(6, 0)] [] y11 y12 y6 n0_11 n0_12 n0_6 n0_7 n0_9 n0_10) ∧ (FKP f4 G2))) := by
  refine tk_of (by decide) (Nat.le_of_ble_eq_true rfl) (fun p e s m below meth c ls A H locs hx hb hr hml hown hts hlocks hnm hkb hH hS hA hOX hks hE hl => ?_)
  have hown : s.vm.findClass RX12 = some m.cls := hown
  have hl : lv_has ls 2 [(0, .ref a0), (1, .int x1)] := hl
  have hOXf := hOX
  have hd0 := dpt_nn s_f4
  have hq0 := fun q9 => (hms q9).2.2.2.1
  refine lv_aload_n hx hb dX12_readBoth_0 rfl (lv_at hl 0 rfl) ?_
  refine lv_iload_n hx hb dX12_readBoth_1 rfl (lv_at hl 1 rfl) ?_
  have J5 : ∀ (n : Nat) (f5_106 : Int32) (f5_107 : Int32) (f5_109 : Int32) (f5_110 : Int32) (f5_111 : Int32) (f5_112 : Int32) (g5_2 : Nat → Int32) (H : Heap) (locs : List Loc) (ls : Array Slot), (900 - f5_106.toInt).toNat = n → (S8 g5_2) → (0 ≤ f5_106.toInt) → (f5_106.toInt ≤ 900) → (0 ≤ f5_107.toInt) → (f5_107.toInt ≤ 900) → (0 ≤ f5_110.toInt) → (f5_110.toInt ≤ 999) → (f5_106.toInt ≤ f5_107.toInt) → (f5_107.toInt ≤ y8.toInt) → (TK3 f5_109 f5_106 f5_107) → (y6.toInt ≤ f5_106.toInt) → (RD f4 g5_2 y6 f5_106 y11 f5_111) → (RG t tn [(6, 0)] [(7, 0)] y11 y12 y6 f5_111 f5_112 f5_106 f5_107 f5_109 f5_110) → (FKP f4 g5_2) → HT D cs A T (a0 :: y3 :: y4 :: O) ((a0, .inr (12, o0 :: o1 :: o2 :: (.ref y3) :: (.ref y4) :: o5 :: (.int f5_106) :: (.int f5_107) :: (.int y8) :: (.int f5_109) :: (.int f5_110) :: (.int f5_111) :: (.int f5_112) :: tl)) :: (y3, .inl (cs.2.1, 900, .inl f3)) :: (y4, .inl (cs.2.1, 1302, .inl g5_2)) :: X) H → va_S A s.heap H locs → lv_has ls 2 [(0, .ref a0), (1, .int x1)] → W p l e { frames := 29, cells := 0, slots := 0, locals := 620 } s m [.ref a0, .int x1].toArray below meth c H locs 0 0 (MQ below (Tv D cs (fun u => ∃ (n0_6 : Int32) (n0_7 : Int32) (n0_9 : Int32) (n0_10 : Int32) (n0_11 : Int32) (n0_12 : Int32) (G2 : Nat → Int32), u = (T, a0 :: y3 :: y4 :: O, (a0, .inr (12, o0 :: o1 :: o2 :: (.ref y3) :: (.ref y4) :: o5 :: (.int n0_6) :: (.int n0_7) :: (.int y8) :: (.int n0_9) :: (.int n0_10) :: (.int n0_11) :: (.int n0_12) :: tl)) :: (y3, .inl (cs.2.1, 900, .inl f3)) :: (y4, .inl (cs.2.1, 1302, .inl G2)) :: X) ∧ (S8 G2) ∧ (y6.toInt ≤ n0_6.toInt) ∧ (n0_6.toInt ≤ n0_7.toInt) ∧ (n0_7.toInt ≤ y8.toInt) ∧ (TK3 n0_9 n0_6 n0_7) ∧ (0 ≤ n0_10.toInt) ∧ (n0_10.toInt ≤ 999) ∧ (RD f4 G2 y6 n0_6 y11 n0_11) ∧ (RG t tn [(6, 0)] [] y11 y12 y6 n0_11 n0_12 n0_6 n0_7 n0_9 n0_10) ∧ (FKP f4 G2)) A) [.ref a0, .int x1].toArray s 0 0 A) (F0 m 5 ls []) := by
    intro n
    induction n using Nat.strongRecOn with
    | _ n ih5 =>
      intro f5_106 f5_107 f5_109 f5_110 f5_111 f5_112 g5_2 H locs ls hm5 s_g5_2 l_f5_106 u_f5_106 l_f5_107 u_f5_107 l_f5_110 u_f5_110 ia5 ib5 ic5 id5 if5 ig5 ik5 hH hS hl
      refine lv_aload_n hx hb dX12_readBoth_5 rfl (lv_at hl 0 rfl) ?_
      refine lv_bipush (v := 14) hx hb dX12_readBoth_6 (by decide) ?_
      have z9_14 : (14 : Int32).toInt = 14 := by decide
      refine tk_i hH hS hA (tr_V (n := 1) (As := [.int 14]) hx hb hml hown hts hkb hH (ox_map hOX rfl) hks hE hS hA (s_M_eats l D cs kf T (y4 :: O) ((y4, .inl (cs.2.1, 1302, .inl g5_2)) :: X) a0 hg mq (14) o0 o1 o2 y3 y4 o5 f5_106 f5_107 y8 f5_109 f5_110 f5_111 f5_112 tl f3 t tn t_a0 b_hg t_y3 t_y4 (by omega) (by omega) (by omega) (by omega) (by omega) (by omega) (by omega) (by omega) (by omega) htm (by omega) (by omega) ic5 (by omega) (RG.msw ig5) (hO.sub (by decide))) kw_1390 kw_1392 ks_52 kw_13 kw_1393 (by decide +kernel) ⟨Nat.le_of_ble_eq_true rfl, Nat.le_of_ble_eq_true rfl⟩ (x_recv (ci := 12) hkb hH 0 rfl rfl) rfl rfl hl.1 (Nat.le_of_ble_eq_true rfl) dX12_readBoth_8 ⟨Nat.le_of_ble_eq_true rfl, Nat.le_of_ble_eq_true rfl⟩) (fun v8 u H locs hz9 hH hS => ?_)
      obtain ⟨n8_0_6, n8_0_7, n8_0_9, n8_0_10, rfl, l_v8, u_v8, x_v80, x_v81, x_v82, x_v83, x_v84, x_v85, x_v86, x_v87, x_v88⟩ := hz9
      have hH : HT D cs A T (a0 :: y3 :: y4 :: O) ((a0, .inr (12, o0 :: o1 :: o2 :: (.ref y3) :: (.ref y4) :: o5 :: (.int n8_0_6) :: (.int n8_0_7) :: (.int y8) :: (.int n8_0_9) :: (.int n8_0_10) :: (.int f5_111) :: (.int f5_112) :: tl)) :: (y3, .inl (cs.2.1, 900, .inl f3)) :: (y4, .inl (cs.2.1, 1302, .inl g5_2)) :: X) H := hH
      refine W.widen (k := 0) (n := 0) (Nat.le_of_ble_eq_true rfl) (Nat.le_of_ble_eq_true rfl) ?_
      refine lv_if_eq (tgt := 29) hx hb dX12_readBoth_11 (by decide) (fun c11 => ?_) (fun c11 => ?_)
      · skip
        have tc11 := f_eq (k := 0) (by decide) c11
        clear x_v86
        clear x_v87
        replace x_v88 := x_v88.resolve_left (fun q9 => q9 tc11)
        obtain ⟨e6, e7, e9, e10, x_v88⟩ := x_v88
        subst e6 e7 e9 e10
        exact te_v hx hb hr hlocks hH hS (⟨f5_106, f5_107, f5_109, f5_110, f5_111, f5_112, g5_2, rfl, s_g5_2, by omega, by omega, by omega, x_v83, by omega, by omega, (by first | exact if5 | (refine RD_le if5 ?_; omega) | (intro q; obtain ⟨c0, c1, c2⟩ := if5 q; refine ⟨?_, ?_, ?_⟩ <;> omega)), (by first | (exact ig5.seq (RG_id (fun q9 => ⟨RG.msw ig5 q9, fun _ _ => st_bN (by have q8 := (RG.msw ig5 q9).2.2.2.1; omega)⟩)))), ik5⟩) dX12_readBoth_29
      · skip
        have tc11 := f_ne (k := 0) (by decide) c11
        replace x_v86 := x_v86.resolve_left tc11
        replace x_v87 := x_v87.resolve_left tc11
        clear x_v88
        refine lv_aload_n hx hb dX12_readBoth_14 rfl (lv_at hl 0 rfl) ?_
        refine lv_iload_n hx hb dX12_readBoth_15 rfl (lv_at hl 1 rfl) ?_
        refine tk_v hH hS hA (tr_V (n := 1) (As := [.int x1]) hx hb hml hown hts hkb hH (ox_map hOX rfl) hks hE hS hA (s_M_readUnit0 l D cs kf T O X a0 hg mq x1 o0 o1 o2 y3 y4 o5 n8_0_6 n8_0_7 y8 n8_0_9 n8_0_10 f5_111 f5_112 tl f3 g5_2 t tn t_a0 b_hg (by omega) (by omega) t_y3 t_y4 (by omega) (by omega) (by omega) (by omega) (by omega) (by omega) (by omega) (by omega) s_g5_2 (by omega) htm (by omega) (by omega) x_v83 (by first | exact k4 | (refine RD_sl k4 if5 ?_; omega) | (intro _; omega)) (fun _ => x_v87.1) (hO.sub (by decide))) kw_1410 kw_1412 ks_57 kw_13 kw_1413 (by decide +kernel) ⟨Nat.le_of_ble_eq_true rfl, Nat.le_of_ble_eq_true rfl⟩ (x_recv (ci := 12) hkb hH 0 rfl rfl) rfl rfl hl.1 (Nat.le_of_ble_eq_true rfl) dX12_readBoth_16 ⟨Nat.le_of_ble_eq_true rfl, Nat.le_of_ble_eq_true rfl⟩) (fun u H locs hz9 hH hS => ?_)
        obtain ⟨n16_0_6, n16_0_7, n16_0_9, n16_0_10, n16_0_11, n16_0_12, F16_2, rfl, x_v160, x_v161, x_v162, x_v163, x_v164, x_v165, x_v166, x_v167, x_v168, x_v169⟩ := hz9
        have s_F16_2 := x_v160
        have hH : HT D cs A T (a0 :: y3 :: y4 :: O) ((a0, .inr (12, o0 :: o1 :: o2 :: (.ref y3) :: (.ref y4) :: o5 :: (.int n16_0_6) :: (.int n16_0_7) :: (.int y8) :: (.int n16_0_9) :: (.int n16_0_10) :: (.int n16_0_11) :: (.int n16_0_12) :: tl)) :: (y3, .inl (cs.2.1, 900, .inl f3)) :: (y4, .inl (cs.2.1, 1302, .inl F16_2)) :: X) H := hH
        refine W.widen (k := 0) (n := 0) (Nat.le_of_ble_eq_true rfl) (Nat.le_of_ble_eq_true rfl) ?_
        refine lv_aload_n hx hb dX12_readBoth_19 rfl (lv_at hl 0 rfl) ?_
        refine lv_sipush (v := 3006) hx hb dX12_readBoth_20 (by decide) ?_
        have z9_3006 : (3006 : Int32).toInt = 3006 := by decide
        refine tk_v hH hS hA (tr_V (n := 1) (As := [.int 3006]) hx hb hml hown hts hkb hH (ox_map hOX rfl) hks hE hS hA (s_M_codesO l D cs kf T O X a0 hg mq (3006) o0 o1 o2 y3 y4 o5 n16_0_6 n16_0_7 y8 n16_0_9 n16_0_10 n16_0_11 n16_0_12 tl f3 F16_2 t tn t_a0 b_hg (by decide) (by decide) t_y3 t_y4 (by omega) (by omega) (by omega) (by omega) (by omega) (by omega) (by omega) (by omega) s_F16_2 (by omega) htm (by first | (intro q; constructor <;> omega) | (intro q; obtain ⟨c0, c1, c2⟩ := if5 q; constructor <;> omega) | (intro q; obtain ⟨c0, c1, c2⟩ := x_v167 q; constructor <;> omega) | (refine RD_cp k4 hd0 if5 ?_ x_v167 ?_ <;> omega) | (refine RD_cp k4 hd0 x_v167 ?_ if5 ?_ <;> omega)) (hO.sub (by decide))) kw_1418 kw_1420 ks_59 kw_13 kw_1421 (by decide +kernel) ⟨Nat.le_of_ble_eq_true rfl, Nat.le_of_ble_eq_true rfl⟩ (x_recv (ci := 12) hkb hH 0 rfl rfl) rfl rfl hl.1 (Nat.le_of_ble_eq_true rfl) dX12_readBoth_23 ⟨Nat.le_of_ble_eq_true rfl, Nat.le_of_ble_eq_true rfl⟩) (fun u H locs hz9 hH hS => ?_)
        obtain ⟨F23_2, rfl, x_v230, x_v231, x_v232⟩ := hz9
        have s_F23_2 := x_v230
        have hH : HT D cs A T (a0 :: y3 :: y4 :: O) ((a0, .inr (12, o0 :: o1 :: o2 :: (.ref y3) :: (.ref y4) :: o5 :: (.int n16_0_6) :: (.int n16_0_7) :: (.int y8) :: (.int n16_0_9) :: (.int n16_0_10) :: (.int n16_0_11) :: (.int n16_0_12) :: tl)) :: (y3, .inl (cs.2.1, 900, .inl f3)) :: (y4, .inl (cs.2.1, 1302, .inl F23_2)) :: X) H := hH
        refine W.widen (k := 0) (n := 0) (Nat.le_of_ble_eq_true rfl) (Nat.le_of_ble_eq_true rfl) ?_
        refine lv_goto (tgt := 5) hx hb dX12_readBoth_26 (by decide) ?_
        exact ih5 _ (by omega) n16_0_6 n16_0_7 n16_0_9 n16_0_10 n16_0_11 n16_0_12 F23_2 _ _ _ rfl s_F23_2 (by omega) (by omega) (by omega) (by omega) (by omega) (by omega) (by omega) (by omega) x_v164 (by omega) (by first | (refine RD_op if5 ?_ x_v167 x_v231; omega) | (refine RD_op x_v167 ?_ if5 x_v231; omega) | exact if5 | exact x_v167 | (refine RD_le if5 ?_; omega) | (refine RD_le x_v167 ?_; omega) | (intro q; obtain ⟨c1, c2⟩ := x_v231 q; refine ⟨?_, ?_, ?_⟩ <;> omega) | (intro q; obtain ⟨c0, c1, c2⟩ := x_v167 q; refine ⟨?_, ?_, ?_⟩ <;> omega) | (intro q; obtain ⟨c0, c1, c2⟩ := x_v167 q; obtain ⟨d1, d2⟩ := x_v231 q; refine ⟨?_, ?_, ?_⟩ <;> omega)) (by first | exact (RG.seq (F' := [(5, 0), (7, 0)]) (RG_id (fun q9 => ⟨hms q9, fun _ _ => st_b⟩)) (RG.cons x_v28)) | (refine RG.seq ig5 (RG.seq (F' := [(5, 0), (7, 0)]) (RG_nx ?_ x_v87.1 (fun _ _ => st_bY ?_) x_v87.2.1) (RG.cons x_v168)) <;> omega)) (FKP.tr (FKP.tr ik5 x_v169) x_v232) hH hS (lv_sub hl [0, 1] rfl)
  refine tk_v hH hS hA (tr_V (n := 1) (As := [.int x1]) hx hb hml hown hts hkb hH (ox_map hOX rfl) hks hE hS hA (s_M_readUnit0 l D cs kf T O X a0 hg mq x1 o0 o1 o2 y3 y4 o5 y6 y7 y8 y9 y10 y11 y12 tl f3 f4 t tn t_a0 b_hg (by omega) (by omega) t_y3 t_y4 (by omega) (by omega) (by omega) (by omega) (by omega) (by omega) (by omega) (by omega) s_f4 (by omega) htm (by omega) (by omega) k3 (by first | exact k4 | (intro _; omega)) hms (hO.sub (by decide))) kw_1410 kw_1412 ks_57 kw_13 kw_1413 (by decide +kernel) ⟨Nat.le_of_ble_eq_true rfl, Nat.le_of_ble_eq_true rfl⟩ (x_recv (ci := 12) hkb hH 0 rfl rfl) rfl rfl hl.1 (Nat.le_of_ble_eq_true rfl) dX12_readBoth_2 ⟨Nat.le_of_ble_eq_true rfl, Nat.le_of_ble_eq_true rfl⟩) (fun u H locs hz9 hH hS => ?_)
  obtain ⟨n2_0_6, n2_0_7, n2_0_9, n2_0_10, n2_0_11, n2_0_12, F2_2, rfl, x_v20, x_v21, x_v22, x_v23, x_v24, x_v25, x_v26, x_v27, x_v28, x_v29⟩ := hz9
  have s_F2_2 := x_v20
  have hH : HT D cs A T (a0 :: y3 :: y4 :: O) ((a0, .inr (12, o0 :: o1 :: o2 :: (.ref y3) :: (.ref y4) :: o5 :: (.int n2_0_6) :: (.int n2_0_7) :: (.int y8) :: (.int n2_0_9) :: (.int n2_0_10) :: (.int n2_0_11) :: (.int n2_0_12) :: tl)) :: (y3, .inl (cs.2.1, 900, .inl f3)) :: (y4, .inl (cs.2.1, 1302, .inl F2_2)) :: X) H := hH
  refine W.widen (k := 0) (n := 0) (Nat.le_of_ble_eq_true rfl) (Nat.le_of_ble_eq_true rfl) ?_
  exact J5 _ n2_0_6 n2_0_7 n2_0_9 n2_0_10 n2_0_11 n2_0_12 F2_2 _ _ _ rfl s_F2_2 (by omega) (by omega) (by omega) (by omega) (by omega) (by omega) (by omega) (by omega) x_v24 (by omega) (by first | exact x_v27 | (refine RD_le x_v27 ?_; omega) | (intro q; obtain ⟨c0, c1, c2⟩ := x_v27 q; refine ⟨?_, ?_, ?_⟩ <;> omega)) (by first | exact (RG.seq (F' := [(5, 0), (7, 0)]) (RG_id (fun q9 => ⟨hms q9, fun _ _ => st_b⟩)) (RG.cons x_v28)) | (refine RG.seq ig5 (RG.seq (F' := [(5, 0), (7, 0)]) (RG_nx ?_ x_v87.1 (fun _ _ => st_bY ?_) x_v87.2.1) (RG.cons x_v168)) <;> omega)) (FKP.tr FKP.rf x_v29) hH hS (lv_sub hl [0, 1] rfl)
set_option maxHeartbeats 4000000 in
set_option maxRecDepth 100000 in
theorem s_M_readTruth0 (l : Launch) (D : va_G) (cs : CS) (kf : KF) (T : TF) (O : List Nat) (X : va_W) (a0 hg mq : Nat) (x1 : Int32) (o0 : Value) (o1 : Value) (o2 : Value) (y3 : Nat) (y4 : Nat) (o5 : Value) (y6 : Int32) (y7 : Int32) (y8 : Int32) (y9 : Int32) (y10 : Int32) (y11 : Int32) (y12 : Int32) (tl : List Value) (f3 : Nat → Int32) (f4 : Nat → Int32) (t : Tp) (tn : Nat) (t_a0 : T a0 = some (22, hg, mq)) (b_hg : hg < 90) (l_x1 : 0 ≤ x1.toInt) (u_x1 : x1.toInt ≤ 0) (t_y3 : T y3 = some (9, 900, 0)) (t_y4 : T y4 = some (8, 1302, 0)) (l_y6 : 0 ≤ y6.toInt) (u_y6 : y6.toInt ≤ 900) (l_y7 : 0 ≤ y7.toInt) (u_y7 : y7.toInt ≤ 900) (l_y8 : 0 ≤ y8.toInt) (u_y8 : y8.toInt ≤ 900) (l_y10 : 0 ≤ y10.toInt) (u_y10 : y10.toInt ≤ 999) (s_f4 : S8 f4) (hn : y8.toInt = (tn : Int)) (htm : TM f3 t) (k1 : y6.toInt ≤ y7.toInt) (k2 : y7.toInt ≤ y8.toInt) (k3 : TK3 y9 y6 y7) (k4 : SL y11 f4 y6) (hms : MSW t tn y11 y6 y7 y9 y10) (hO : okO T (a0 :: y3 :: y4 :: O) []) : TK l D cs kf yX12_readTruth cX12_readTruth 2 none { frames := 30, cells := 0, slots := 0, locals := 641 } [.ref a0, .int x1] T (a0 :: y3 :: y4 :: O) ((a0, .inr (12, o0 :: o1 :: o2 :: (.ref y3) :: (.ref y4) :: o5 :: (.int y6) :: (.int y7) :: (.int y8) :: (.int y9) :: (.int y10) :: (.int y11) :: (.int y12) :: tl)) :: (y3, .inl (cs.2.1, 900, .inl f3)) :: (y4, .inl (cs.2.1, 1302, .inl f4)) :: X) (Tv D cs (fun u => ∃ (n0_6 : Int32) (n0_7 : Int32) (n0_9 : Int32) (n0_10 : Int32) (n0_11 : Int32) (n0_12 : Int32) (G2 : Nat → Int32), u = (T, a0 :: y3 :: y4 :: O, (a0, .inr (12, o0 :: o1 :: o2 :: (.ref y3) :: (.ref y4) :: o5 :: (.int n0_6) :: (.int n0_7) :: (.int y8) :: (.int n0_9) :: (.int n0_10) :: (.int n0_11) :: (.int n0_12) :: tl)) :: (y3, .inl (cs.2.1, 900, .inl f3)) :: (y4, .inl (cs.2.1, 1302, .inl G2)) :: X) ∧ (S8 G2) ∧ (y6.toInt ≤ n0_6.toInt) ∧ (n0_6.toInt ≤ n0_7.toInt) ∧ (n0_7.toInt ≤ y8.toInt) ∧ (TK3 n0_9 n0_6 n0_7) ∧ (0 ≤ n0_10.toInt) ∧ (n0_10.toInt ≤ 999) ∧ (RD f4 G2 y6 n0_6 y11 n0_11) ∧ (RG t tn [(8, 0)] [] y11 y12 y6 n0_11 n0_12 n0_6 n0_7 n0_9 n0_10) ∧ (FKP f4 G2))) := by
  refine tk_of (by decide) (Nat.le_of_ble_eq_true rfl) (fun p e s m below meth c ls A H locs hx hb hr hml hown hts hlocks hnm hkb hH hS hA hOX hks hE hl => ?_)
  have hown : s.vm.findClass RX12 = some m.cls := hown
  have hl : lv_has ls 2 [(0, .ref a0), (1, .int x1)] := hl
  have hOXf := hOX
  have hd0 := dpt_nn s_f4
  have hq0 := fun q9 => (hms q9).2.2.2.1
  refine lv_aload_n hx hb dX12_readTruth_0 rfl (lv_at hl 0 rfl) ?_
  refine lv_iload_n hx hb dX12_readTruth_1 rfl (lv_at hl 1 rfl) ?_
  have J5 : ∀ (n : Nat) (f5_106 : Int32) (f5_107 : Int32) (f5_109 : Int32) (f5_110 : Int32) (f5_111 : Int32) (f5_112 : Int32) (g5_2 : Nat → Int32) (H : Heap) (locs : List Loc) (ls : Array Slot), (900 - f5_106.toInt).toNat = n → (S8 g5_2) → (0 ≤ f5_106.toInt) → (f5_106.toInt ≤ 900) → (0 ≤ f5_107.toInt) → (f5_107.toInt ≤ 900) → (0 ≤ f5_110.toInt) → (f5_110.toInt ≤ 999) → (f5_106.toInt ≤ f5_107.toInt) → (f5_107.toInt ≤ y8.toInt) → (TK3 f5_109 f5_106 f5_107) → (y6.toInt ≤ f5_106.toInt) → (RD f4 g5_2 y6 f5_106 y11 f5_111) → (RG t tn [(8, 0)] [(9, 0)] y11 y12 y6 f5_111 f5_112 f5_106 f5_107 f5_109 f5_110) → (FKP f4 g5_2) → HT D cs A T (a0 :: y3 :: y4 :: O) ((a0, .inr (12, o0 :: o1 :: o2 :: (.ref y3) :: (.ref y4) :: o5 :: (.int f5_106) :: (.int f5_107) :: (.int y8) :: (.int f5_109) :: (.int f5_110) :: (.int f5_111) :: (.int f5_112) :: tl)) :: (y3, .inl (cs.2.1, 900, .inl f3)) :: (y4, .inl (cs.2.1, 1302, .inl g5_2)) :: X) H → va_S A s.heap H locs → lv_has ls 2 [(0, .ref a0), (1, .int x1)] → W p l e { frames := 30, cells := 0, slots := 0, locals := 641 } s m [.ref a0, .int x1].toArray below meth c H locs 0 0 (MQ below (Tv D cs (fun u => ∃ (n0_6 : Int32) (n0_7 : Int32) (n0_9 : Int32) (n0_10 : Int32) (n0_11 : Int32) (n0_12 : Int32) (G2 : Nat → Int32), u = (T, a0 :: y3 :: y4 :: O, (a0, .inr (12, o0 :: o1 :: o2 :: (.ref y3) :: (.ref y4) :: o5 :: (.int n0_6) :: (.int n0_7) :: (.int y8) :: (.int n0_9) :: (.int n0_10) :: (.int n0_11) :: (.int n0_12) :: tl)) :: (y3, .inl (cs.2.1, 900, .inl f3)) :: (y4, .inl (cs.2.1, 1302, .inl G2)) :: X) ∧ (S8 G2) ∧ (y6.toInt ≤ n0_6.toInt) ∧ (n0_6.toInt ≤ n0_7.toInt) ∧ (n0_7.toInt ≤ y8.toInt) ∧ (TK3 n0_9 n0_6 n0_7) ∧ (0 ≤ n0_10.toInt) ∧ (n0_10.toInt ≤ 999) ∧ (RD f4 G2 y6 n0_6 y11 n0_11) ∧ (RG t tn [(8, 0)] [] y11 y12 y6 n0_11 n0_12 n0_6 n0_7 n0_9 n0_10) ∧ (FKP f4 G2)) A) [.ref a0, .int x1].toArray s 0 0 A) (F0 m 5 ls []) := by
    intro n
    induction n using Nat.strongRecOn with
    | _ n ih5 =>
      intro f5_106 f5_107 f5_109 f5_110 f5_111 f5_112 g5_2 H locs ls hm5 s_g5_2 l_f5_106 u_f5_106 l_f5_107 u_f5_107 l_f5_110 u_f5_110 ia5 ib5 ic5 id5 if5 ig5 ik5 hH hS hl
      refine lv_aload_n hx hb dX12_readTruth_5 rfl (lv_at hl 0 rfl) ?_
      refine lv_bipush (v := 13) hx hb dX12_readTruth_6 (by decide) ?_
      have z9_13 : (13 : Int32).toInt = 13 := by decide
      refine tk_i hH hS hA (tr_V (n := 1) (As := [.int 13]) hx hb hml hown hts hkb hH (ox_map hOX rfl) hks hE hS hA (s_M_eats l D cs kf T (y4 :: O) ((y4, .inl (cs.2.1, 1302, .inl g5_2)) :: X) a0 hg mq (13) o0 o1 o2 y3 y4 o5 f5_106 f5_107 y8 f5_109 f5_110 f5_111 f5_112 tl f3 t tn t_a0 b_hg t_y3 t_y4 (by omega) (by omega) (by omega) (by omega) (by omega) (by omega) (by omega) (by omega) (by omega) htm (by omega) (by omega) ic5 (by omega) (RG.msw ig5) (hO.sub (by decide))) kw_1390 kw_1392 ks_52 kw_13 kw_1393 (by decide +kernel) ⟨Nat.le_of_ble_eq_true rfl, Nat.le_of_ble_eq_true rfl⟩ (x_recv (ci := 12) hkb hH 0 rfl rfl) rfl rfl hl.1 (Nat.le_of_ble_eq_true rfl) dX12_readTruth_8 ⟨Nat.le_of_ble_eq_true rfl, Nat.le_of_ble_eq_true rfl⟩) (fun v8 u H locs hz9 hH hS => ?_)
      obtain ⟨n8_0_6, n8_0_7, n8_0_9, n8_0_10, rfl, l_v8, u_v8, x_v80, x_v81, x_v82, x_v83, x_v84, x_v85, x_v86, x_v87, x_v88⟩ := hz9
      have hH : HT D cs A T (a0 :: y3 :: y4 :: O) ((a0, .inr (12, o0 :: o1 :: o2 :: (.ref y3) :: (.ref y4) :: o5 :: (.int n8_0_6) :: (.int n8_0_7) :: (.int y8) :: (.int n8_0_9) :: (.int n8_0_10) :: (.int f5_111) :: (.int f5_112) :: tl)) :: (y3, .inl (cs.2.1, 900, .inl f3)) :: (y4, .inl (cs.2.1, 1302, .inl g5_2)) :: X) H := hH
      refine W.widen (k := 0) (n := 0) (Nat.le_of_ble_eq_true rfl) (Nat.le_of_ble_eq_true rfl) ?_
      refine lv_if_eq (tgt := 29) hx hb dX12_readTruth_11 (by decide) (fun c11 => ?_) (fun c11 => ?_)
      · skip
        have tc11 := f_eq (k := 0) (by decide) c11
        clear x_v86
        clear x_v87
        replace x_v88 := x_v88.resolve_left (fun q9 => q9 tc11)
        obtain ⟨e6, e7, e9, e10, x_v88⟩ := x_v88
        subst e6 e7 e9 e10
        exact te_v hx hb hr hlocks hH hS (⟨f5_106, f5_107, f5_109, f5_110, f5_111, f5_112, g5_2, rfl, s_g5_2, by omega, by omega, by omega, x_v83, by omega, by omega, (by first | exact if5 | (refine RD_le if5 ?_; omega) | (intro q; obtain ⟨c0, c1, c2⟩ := if5 q; refine ⟨?_, ?_, ?_⟩ <;> omega)), (by first | (exact ig5.seq (RG_id (fun q9 => ⟨RG.msw ig5 q9, fun _ _ => st_rN (by have q8 := (RG.msw ig5 q9).2.2.2.1; omega)⟩)))), ik5⟩) dX12_readTruth_29
      · skip
        have tc11 := f_ne (k := 0) (by decide) c11
        replace x_v86 := x_v86.resolve_left tc11
        replace x_v87 := x_v87.resolve_left tc11
        clear x_v88
        refine lv_aload_n hx hb dX12_readTruth_14 rfl (lv_at hl 0 rfl) ?_
        refine lv_iload_n hx hb dX12_readTruth_15 rfl (lv_at hl 1 rfl) ?_
        refine tk_v hH hS hA (tr_V (n := 1) (As := [.int x1]) hx hb hml hown hts hkb hH (ox_map hOX rfl) hks hE hS hA (s_M_readBoth0 l D cs kf T O X a0 hg mq x1 o0 o1 o2 y3 y4 o5 n8_0_6 n8_0_7 y8 n8_0_9 n8_0_10 f5_111 f5_112 tl f3 g5_2 t tn t_a0 b_hg (by omega) (by omega) t_y3 t_y4 (by omega) (by omega) (by omega) (by omega) (by omega) (by omega) (by omega) (by omega) s_g5_2 (by omega) htm (by omega) (by omega) x_v83 (by first | exact k4 | (refine RD_sl k4 if5 ?_; omega) | (intro _; omega)) (fun _ => x_v87.1) (hO.sub (by decide))) kw_1406 kw_1408 ks_56 kw_13 kw_1409 (by decide +kernel) ⟨Nat.le_of_ble_eq_true rfl, Nat.le_of_ble_eq_true rfl⟩ (x_recv (ci := 12) hkb hH 0 rfl rfl) rfl rfl hl.1 (Nat.le_of_ble_eq_true rfl) dX12_readTruth_16 ⟨Nat.le_of_ble_eq_true rfl, Nat.le_of_ble_eq_true rfl⟩) (fun u H locs hz9 hH hS => ?_)
        obtain ⟨n16_0_6, n16_0_7, n16_0_9, n16_0_10, n16_0_11, n16_0_12, F16_2, rfl, x_v160, x_v161, x_v162, x_v163, x_v164, x_v165, x_v166, x_v167, x_v168, x_v169⟩ := hz9
        have s_F16_2 := x_v160
        have hH : HT D cs A T (a0 :: y3 :: y4 :: O) ((a0, .inr (12, o0 :: o1 :: o2 :: (.ref y3) :: (.ref y4) :: o5 :: (.int n16_0_6) :: (.int n16_0_7) :: (.int y8) :: (.int n16_0_9) :: (.int n16_0_10) :: (.int n16_0_11) :: (.int n16_0_12) :: tl)) :: (y3, .inl (cs.2.1, 900, .inl f3)) :: (y4, .inl (cs.2.1, 1302, .inl F16_2)) :: X) H := hH
        refine W.widen (k := 0) (n := 0) (Nat.le_of_ble_eq_true rfl) (Nat.le_of_ble_eq_true rfl) ?_
        refine lv_aload_n hx hb dX12_readTruth_19 rfl (lv_at hl 0 rfl) ?_
        refine lv_sipush (v := 3007) hx hb dX12_readTruth_20 (by decide) ?_
        have z9_3007 : (3007 : Int32).toInt = 3007 := by decide
        refine tk_v hH hS hA (tr_V (n := 1) (As := [.int 3007]) hx hb hml hown hts hkb hH (ox_map hOX rfl) hks hE hS hA (s_M_codesO l D cs kf T O X a0 hg mq (3007) o0 o1 o2 y3 y4 o5 n16_0_6 n16_0_7 y8 n16_0_9 n16_0_10 n16_0_11 n16_0_12 tl f3 F16_2 t tn t_a0 b_hg (by decide) (by decide) t_y3 t_y4 (by omega) (by omega) (by omega) (by omega) (by omega) (by omega) (by omega) (by omega) s_F16_2 (by omega) htm (by first | (intro q; constructor <;> omega) | (intro q; obtain ⟨c0, c1, c2⟩ := if5 q; constructor <;> omega) | (intro q; obtain ⟨c0, c1, c2⟩ := x_v167 q; constructor <;> omega) | (refine RD_cp k4 hd0 if5 ?_ x_v167 ?_ <;> omega) | (refine RD_cp k4 hd0 x_v167 ?_ if5 ?_ <;> omega)) (hO.sub (by decide))) kw_1418 kw_1420 ks_59 kw_13 kw_1421 (by decide +kernel) ⟨Nat.le_of_ble_eq_true rfl, Nat.le_of_ble_eq_true rfl⟩ (x_recv (ci := 12) hkb hH 0 rfl rfl) rfl rfl hl.1 (Nat.le_of_ble_eq_true rfl) dX12_readTruth_23 ⟨Nat.le_of_ble_eq_true rfl, Nat.le_of_ble_eq_true rfl⟩) (fun u H locs hz9 hH hS => ?_)
        obtain ⟨F23_2, rfl, x_v230, x_v231, x_v232⟩ := hz9
        have s_F23_2 := x_v230
        have hH : HT D cs A T (a0 :: y3 :: y4 :: O) ((a0, .inr (12, o0 :: o1 :: o2 :: (.ref y3) :: (.ref y4) :: o5 :: (.int n16_0_6) :: (.int n16_0_7) :: (.int y8) :: (.int n16_0_9) :: (.int n16_0_10) :: (.int n16_0_11) :: (.int n16_0_12) :: tl)) :: (y3, .inl (cs.2.1, 900, .inl f3)) :: (y4, .inl (cs.2.1, 1302, .inl F23_2)) :: X) H := hH
        refine W.widen (k := 0) (n := 0) (Nat.le_of_ble_eq_true rfl) (Nat.le_of_ble_eq_true rfl) ?_
        refine lv_goto (tgt := 5) hx hb dX12_readTruth_26 (by decide) ?_
        exact ih5 _ (by omega) n16_0_6 n16_0_7 n16_0_9 n16_0_10 n16_0_11 n16_0_12 F23_2 _ _ _ rfl s_F23_2 (by omega) (by omega) (by omega) (by omega) (by omega) (by omega) (by omega) (by omega) x_v164 (by omega) (by first | (refine RD_op if5 ?_ x_v167 x_v231; omega) | (refine RD_op x_v167 ?_ if5 x_v231; omega) | exact if5 | exact x_v167 | (refine RD_le if5 ?_; omega) | (refine RD_le x_v167 ?_; omega) | (intro q; obtain ⟨c1, c2⟩ := x_v231 q; refine ⟨?_, ?_, ?_⟩ <;> omega) | (intro q; obtain ⟨c0, c1, c2⟩ := x_v167 q; refine ⟨?_, ?_, ?_⟩ <;> omega) | (intro q; obtain ⟨c0, c1, c2⟩ := x_v167 q; obtain ⟨d1, d2⟩ := x_v231 q; refine ⟨?_, ?_, ?_⟩ <;> omega)) (by first | exact (RG.seq (F' := [(6, 0), (9, 0)]) (RG_id (fun q9 => ⟨hms q9, fun _ _ => st_r⟩)) (RG.cons x_v28)) | (refine RG.seq ig5 (RG.seq (F' := [(6, 0), (9, 0)]) (RG_nx ?_ x_v87.1 (fun _ _ => st_rY ?_) x_v87.2.1) (RG.cons x_v168)) <;> omega)) (FKP.tr (FKP.tr ik5 x_v169) x_v232) hH hS (lv_sub hl [0, 1] rfl)
  refine tk_v hH hS hA (tr_V (n := 1) (As := [.int x1]) hx hb hml hown hts hkb hH (ox_map hOX rfl) hks hE hS hA (s_M_readBoth0 l D cs kf T O X a0 hg mq x1 o0 o1 o2 y3 y4 o5 y6 y7 y8 y9 y10 y11 y12 tl f3 f4 t tn t_a0 b_hg (by omega) (by omega) t_y3 t_y4 (by omega) (by omega) (by omega) (by omega) (by omega) (by omega) (by omega) (by omega) s_f4 (by omega) htm (by omega) (by omega) k3 (by first | exact k4 | (intro _; omega)) hms (hO.sub (by decide))) kw_1406 kw_1408 ks_56 kw_13 kw_1409 (by decide +kernel) ⟨Nat.le_of_ble_eq_true rfl, Nat.le_of_ble_eq_true rfl⟩ (x_recv (ci := 12) hkb hH 0 rfl rfl) rfl rfl hl.1 (Nat.le_of_ble_eq_true rfl) dX12_readTruth_2 ⟨Nat.le_of_ble_eq_true rfl, Nat.le_of_ble_eq_true rfl⟩) (fun u H locs hz9 hH hS => ?_)
  obtain ⟨n2_0_6, n2_0_7, n2_0_9, n2_0_10, n2_0_11, n2_0_12, F2_2, rfl, x_v20, x_v21, x_v22, x_v23, x_v24, x_v25, x_v26, x_v27, x_v28, x_v29⟩ := hz9
  have s_F2_2 := x_v20
  have hH : HT D cs A T (a0 :: y3 :: y4 :: O) ((a0, .inr (12, o0 :: o1 :: o2 :: (.ref y3) :: (.ref y4) :: o5 :: (.int n2_0_6) :: (.int n2_0_7) :: (.int y8) :: (.int n2_0_9) :: (.int n2_0_10) :: (.int n2_0_11) :: (.int n2_0_12) :: tl)) :: (y3, .inl (cs.2.1, 900, .inl f3)) :: (y4, .inl (cs.2.1, 1302, .inl F2_2)) :: X) H := hH
  refine W.widen (k := 0) (n := 0) (Nat.le_of_ble_eq_true rfl) (Nat.le_of_ble_eq_true rfl) ?_
  exact J5 _ n2_0_6 n2_0_7 n2_0_9 n2_0_10 n2_0_11 n2_0_12 F2_2 _ _ _ rfl s_F2_2 (by omega) (by omega) (by omega) (by omega) (by omega) (by omega) (by omega) (by omega) x_v24 (by omega) (by first | exact x_v27 | (refine RD_le x_v27 ?_; omega) | (intro q; obtain ⟨c0, c1, c2⟩ := x_v27 q; refine ⟨?_, ?_, ?_⟩ <;> omega)) (by first | exact (RG.seq (F' := [(6, 0), (9, 0)]) (RG_id (fun q9 => ⟨hms q9, fun _ _ => st_r⟩)) (RG.cons x_v28)) | (refine RG.seq ig5 (RG.seq (F' := [(6, 0), (9, 0)]) (RG_nx ?_ x_v87.1 (fun _ _ => st_rY ?_) x_v87.2.1) (RG.cons x_v168)) <;> omega)) (FKP.tr FKP.rf x_v29) hH hS (lv_sub hl [0, 1] rfl)
/-! bits of sets, as the reference asks for them -/
/-- whether a set has a bit -/
def inF (x : Int64) (k : Int32) : Int32 := if (x >>> (k.toInt64 &&& 63)) &&& 1 = 1 then 1 else 0
theorem inF_1 {x v w : Int64} {k : Int32} (e2 : v = x >>> (k.toInt64 &&& 63)) (e4 : w = v &&& 1) (h : w.toInt = (1 : Int64).toInt) : (1 : Int32) = inF x k := by
  unfold inF
  rw [if_pos (by rw [← e2, ← e4]; exact Int64.toInt_inj.mp h)]
theorem inF_0 {x v w : Int64} {k : Int32} (e2 : v = x >>> (k.toInt64 &&& 63)) (e4 : w = v &&& 1) (h : ¬ w.toInt = (1 : Int64).toInt) : (0 : Int32) = inF x k := by
  unfold inF
  rw [if_neg (by rw [← e2, ← e4]; exact fun z => h (by rw [z]))]
theorem inF_01 (x : Int64) (k : Int32) : inF x k = 0 ∨ inF x k = 1 := by
  unfold inF
  split
  · exact Or.inr rfl
  · exact Or.inl rfl
theorem inF_nz {x : Int64} {k v : Int32} (h : v = inF x k) (h0 : v.toInt ≠ 0) : inF x k = 1 := (inF_01 x k).resolve_left (fun q => h0 (by rw [h, q]; decide))
theorem inF_z {x : Int64} {k v : Int32} (h : v = inF x k) (h0 : v.toInt = 0) : inF x k ≠ 1 := fun q => by
  rw [h, q] at h0
  exact absurd h0 (by decide)
theorem nn_l {x : Int64} (h : 0 ≤ x.toInt) : x.toInt = (x.toBitVec.toNat : Int) := by
  have e : x.toInt = x.toBitVec.toInt := rfl
  rw [e, BitVec.toInt_eq_toNat_cond] at h ⊢
  have hl := x.toBitVec.isLt
  split at h
  · rw [if_pos (by assumption)]
  · omega
theorem shl_tab : ∀ j, j < 32 → (((nI j).toInt64 &&& 63).toBitVec.smod 64).toNat = j := by decide +kernel
theorem inF_bit {s k : Int32} (hs : 0 ≤ s.toInt) (h0 : 0 ≤ k.toInt) (h1 : k.toInt ≤ 31) : inF s.toInt64 k = 1 ↔ s.toInt.toNat.testBit k.toInt.toNat = true := by
  have hx : s.toInt64.toInt = s.toInt := Int32.toInt_toInt64 s
  have ek := is_nI h0
  have hsh : (s.toInt64 >>> (k.toInt64 &&& 63)).toInt = s.toInt / 2 ^ k.toInt.toNat := by
    have e : (s.toInt64 >>> (k.toInt64 &&& 63)).toInt = s.toInt64.toInt >>> ((k.toInt64 &&& 63).toBitVec.smod 64).toNat := by
      show (s.toInt64 >>> (k.toInt64 &&& 63)).toBitVec.toInt = _
      rw [Int64.toBitVec_shiftRight, BitVec.toInt_sshiftRight']
      rfl
    have hs2 : ((k.toInt64 &&& 63).toBitVec.smod 64).toNat = k.toInt.toNat := by
      have := shl_tab k.toInt.toNat (by omega)
      rw [← ek] at this
      exact this
    rw [e, hs2, hx, Int.shiftRight_eq_div_pow]
    rfl
  unfold inF
  generalize s.toInt64 >>> (k.toInt64 &&& 63) = v at hsh
  have hp : (0 : Int) < 2 ^ k.toInt.toNat := Int.pow_pos (by decide)
  have hv0 : 0 ≤ v.toInt := by
    rw [hsh]
    exact Int.ediv_nonneg hs (by omega)
  have hvn := nn_l hv0
  have hand : (v &&& 1).toBitVec.toNat = v.toBitVec.toNat % 2 := by
    rw [Int64.toBitVec_and, BitVec.toNat_and]
    show v.toBitVec.toNat &&& 1 = _
    exact Nat.and_one_is_mod _
  have h1' : v &&& 1 = 1 ↔ v.toBitVec.toNat % 2 = 1 := ⟨fun q => by rw [← hand, q]; rfl, fun q => Int64.toBitVec_inj.mp (BitVec.eq_of_toNat_eq (by rw [hand, q]; rfl))⟩
  have hn : v.toBitVec.toNat = s.toInt.toNat / 2 ^ k.toInt.toNat := by
    have : (v.toBitVec.toNat : Int) = ((s.toInt.toNat / 2 ^ k.toInt.toNat : Nat) : Int) := by
      rw [← hvn, hsh, Int.natCast_ediv, Int.toNat_of_nonneg hs]
      norm_cast
    exact_mod_cast this
  rw [Nat.testBit_eq_decide_div_mod_eq, ← hn]
  by_cases q : v &&& 1 = 1
  · rw [if_pos q]
    exact ⟨fun _ => decide_eq_true (h1'.mp q), fun _ => rfl⟩
  · rw [if_neg q]
    exact ⟨fun z => absurd z (by decide), fun z => absurd (h1'.mpr (of_decide_eq_true z)) q⟩
theorem and_n {a b : Int32} (ha : 0 ≤ a.toInt) (hb : 0 ≤ b.toInt) : (a &&& b).toInt.toNat = a.toInt.toNat &&& b.toInt.toNat := by
  obtain ⟨h1, h2⟩ := nn_i ha
  obtain ⟨h3, h4⟩ := nn_i hb
  have e : (a &&& b).toBitVec.toNat = a.toBitVec.toNat &&& b.toBitVec.toNat := by rw [Int32.toBitVec_and, BitVec.toNat_and]
  have hle : a.toBitVec.toNat &&& b.toBitVec.toNat ≤ a.toBitVec.toNat := Nat.and_le_left
  have := nn_of (x := a &&& b) (by omega)
  rw [this, h1, h3, e]
  simp
theorem inF_and {a b k : Int32} (ha : 0 ≤ a.toInt) (hb : 0 ≤ b.toInt) (h0 : 0 ≤ k.toInt) (h1 : k.toInt ≤ 31) : inF (a &&& b).toInt64 k = 1 ↔ inF a.toInt64 k = 1 ∧ inF b.toInt64 k = 1 := by
  have := and_l (x := a) (y := b) ha
  rw [inF_bit this.1 h0 h1, inF_bit ha h0 h1, inF_bit hb h0 h1, and_n ha hb, Nat.testBit_and, Bool.and_eq_true]
theorem inF_gl {s k v : Int32} (hs : 0 ≤ s.toInt) (h0 : 0 ≤ k.toInt) (h1 : k.toInt ≤ 31) (hv : v = inF s.toInt64 k) : v.toInt ≠ 0 ↔ s.toBitVec.getLsbD k.toInt.toNat = true := by
  have e : s.toInt.toNat = s.toBitVec.toNat := by
    have := (nn_i hs).1
    omega
  have hb := inF_bit hs h0 h1
  rw [e] at hb
  constructor
  · intro q
    exact hb.mp (inF_nz hv q)
  · intro q z
    exact inF_z hv z (hb.mpr q)
/-! the reference's lines -/
def FR5 (f : Nat → Int32) : Rg := RZ (f 1) (f 2) (f 4) (f 5) (f 0)
def RGR (t : Tp) (n : Nat) (F F' : List (Nat × Nat)) (R R' : Rg) (w0 p0 a0 w p a b k v : Int32) : Prop := (w0.toInt ≠ 0 ∧ w = w0 ∧ p = p0) ∨ (w0.toInt = 0 ∧ w.toInt = 0 ∧ MSS t n a b k v ∧ GR t n F F' R R' a0 a) ∨ (w0.toInt = 0 ∧ BR t n F R a0 w p)
section RLines
variable {t : Tp} {n : Nat} {F F' F'' G : List (Nat × Nat)} {x : Nat × Nat} {R R' R'' : Rg} {f g : Nat → Int32} {w0 p0 a0 w1 p1 a1 b1 k1 v1 w p a b k v z : Int32}
theorem FR5_0 (e : g = upd f 0 z) : FR5 g = RZ (f 1) (f 2) (f 4) (f 5) z := by unfold FR5; rw [e, upd_eq, upd_ne (by decide), upd_ne (by decide), upd_ne (by decide), upd_ne (by decide)]
theorem FR5_1 (e : g = upd f 1 z) : FR5 g = RZ z (f 2) (f 4) (f 5) (f 0) := by unfold FR5; rw [e, upd_eq, upd_ne (by decide), upd_ne (by decide), upd_ne (by decide), upd_ne (by decide)]
theorem FR5_2 (e : g = upd f 2 z) : FR5 g = RZ (f 1) z (f 4) (f 5) (f 0) := by unfold FR5; rw [e, upd_eq, upd_ne (by decide), upd_ne (by decide), upd_ne (by decide), upd_ne (by decide)]
theorem FR5_4 (e : g = upd f 4 z) : FR5 g = RZ (f 1) (f 2) z (f 5) (f 0) := by unfold FR5; rw [e, upd_eq, upd_ne (by decide), upd_ne (by decide), upd_ne (by decide), upd_ne (by decide)]
theorem FR5_5 (e : g = upd f 5 z) : FR5 g = RZ (f 1) (f 2) (f 4) z (f 0) := by unfold FR5; rw [e, upd_eq, upd_ne (by decide), upd_ne (by decide), upd_ne (by decide), upd_ne (by decide)]
theorem FR5_o {j : Nat} (e : g = upd f j z) (hj : j = 3 ∨ 6 ≤ j) : FR5 g = FR5 f := by unfold FR5; rw [e, upd_ne (by omega), upd_ne (by omega), upd_ne (by omega), upd_ne (by omega), upd_ne (by omega)]
theorem FR5_k (h : FKP f g) : FR5 g = FR5 f := by unfold FR5; rw [h 1 (by decide), h 2 (by decide), h 4 (by decide), h 5 (by decide), h 0 (by decide)]
theorem RG.r (h : RG t n F F' w0 p0 a0 w p a b k v) : RGR t n F F' R R w0 p0 a0 w p a b k v := by
  rcases h with h | h | h
  · exact Or.inl h
  · exact Or.inr (Or.inl ⟨h.1, h.2.1, h.2.2.1, h.2.2.2.r⟩)
  · exact Or.inr (Or.inr ⟨h.1, h.2.r⟩)
theorem RGR.msw (h : RGR t n F F' R R' w0 p0 a0 w p a b k v) : MSW t n w a b k v := fun q => by
  rcases h with h | h | h
  · rw [h.2.1] at q; exact absurd q h.1
  · exact h.2.2.1
  · exact absurd q h.2.1
theorem RGR.seq (h1 : RGR t n F F' R R' w0 p0 a0 w1 p1 a1 b1 k1 v1) (h2 : RGR t n F' F'' R' R'' w1 p1 a1 w p a b k v) : RGR t n F F'' R R'' w0 p0 a0 w p a b k v := by
  rcases h1 with h1 | h1 | h1
  · rcases h2 with h2 | h2 | h2
    · exact Or.inl ⟨h1.1, h2.2.1.trans h1.2.1, h2.2.2.trans h1.2.2⟩
    · rw [h1.2.1] at h2; exact absurd h2.1 h1.1
    · rw [h1.2.1] at h2; exact absurd h2.1 h1.1
  · rcases h2 with h2 | h2 | h2
    · exact absurd h1.2.1 h2.1
    · exact Or.inr (Or.inl ⟨h1.1, h2.2.1, h2.2.2.1, h1.2.2.2.tr h2.2.2.2⟩)
    · exact Or.inr (Or.inr ⟨h1.1, h1.2.2.2.bd h2.2⟩)
  · rcases h2 with h2 | h2 | h2
    · refine Or.inr (Or.inr ⟨h1.1, ?_⟩)
      rw [h2.2.1, h2.2.2]
      exact h1.2
    · exact absurd h2.1 h1.2.1
    · exact absurd h2.1 h1.2.1
theorem RGR.cons (h : RGR t n [x] [] R R' w0 p0 a0 w p a b k v) : RGR t n (x :: F) F R R' w0 p0 a0 w p a b k v := by
  rcases h with h | h | h
  · exact Or.inl h
  · exact Or.inr (Or.inl ⟨h.1, h.2.1, h.2.2.1, h.2.2.2.cons⟩)
  · exact Or.inr (Or.inr ⟨h.1, h.2.cons⟩)
theorem RGR_id (h : w0.toInt = 0 → MSS t n a b k v ∧ GR t n F F' R R' a a) : RGR t n F F' R R' w0 p0 a w0 p0 a b k v := by
  by_cases q : w0.toInt = 0
  · exact Or.inr (Or.inl ⟨q, q, h q⟩)
  · exact Or.inl ⟨q, rfl, rfl⟩
theorem RGR_g (h0 : w0.toInt = 0) (hm : MSS t n a b k v) (hg : GR t n F F' R R' a0 a) : RGR t n F F' R R' w0 p0 a0 w0 p0 a b k v := Or.inr (Or.inl ⟨h0, h0, hm, hg⟩)
/-- the fault, once more: what lines told may be anything then -/
theorem RGR_f {y9 xx : Int32} {m : Int} {b' v' a2 : Int32} (hf : FLD y9 a xx w0 p0 w p) (hms : MSW t n w0 a b' y9 v') (hx : xx.toInt = m) (hm : m ≠ 0) (hs : w0.toInt = 0 → ∀ K : List (Nat × Nat), RT t n (F ++ K, a.toInt.toNat, 0, R) (G ++ K, a.toInt.toNat, fwf (kd t n a.toInt.toNat) m, R)) : RGR t n F F' R R' w0 p0 a w p a2 b k v := by
  rcases hf with h | h
  · exact Or.inl h
  · have q := hms h.1
    exact Or.inr (Or.inr ⟨h.1, BR_f (G := G) (hs h.1) (FLD_w q.2.2.2.1 hx h.2.1) hm (by rw [h.2.2]) q.1⟩)
/-- with a fault, what lines told may be anything -/
theorem RGR.any (h : RGR t n F F' R R' w0 p0 a0 w p a b k v) (hw : w.toInt ≠ 0) {F2 : List (Nat × Nat)} {R2 : Rg} {a2 b2 k2 v2 : Int32} : RGR t n F F2 R R2 w0 p0 a0 w p a2 b2 k2 v2 := by
  rcases h with h | h | h
  · exact Or.inl h
  · exact absurd h.2.1 hw
  · exact Or.inr (Or.inr h)
theorem TNK.rk {hi r : Int32} (h : TNK t n hi r w0 p0 a0 w p a b k v) (hd : hi.toInt = (R.1 : Int) - 1) : RGR t n [(37, 0)] [] R R w0 p0 a0 w p a b k v := by
  rcases h with h | ⟨h1, h2, h3, h4, h5, h6, h7⟩ | ⟨h1, h2, h3, h4, h5⟩
  · exact Or.inl h
  · exact Or.inr (Or.inl ⟨h1, h2, h3, GR_k (m := hi) hd h5 h6 h7 h4⟩)
  · exact Or.inr (Or.inr ⟨h1, BR_k (m := hi) hd h5 h2 h3 h4⟩)
theorem TNK.rg2 {hi r : Int32} (h : TNK t n hi r w0 p0 a0 w p a b k v) (hd : hi.toInt = (R.2.1 : Int) - 1) : RGR t n [(36, 0)] [] R R w0 p0 a0 w p a b k v := by
  rcases h with h | ⟨h1, h2, h3, h4, h5, h6, h7⟩ | ⟨h1, h2, h3, h4, h5⟩
  · exact Or.inl h
  · exact Or.inr (Or.inl ⟨h1, h2, h3, GR_g (m := hi) hd h5 h6 h7 h4⟩)
  · exact Or.inr (Or.inr ⟨h1, BR_g (m := hi) hd h5 h2 h3 h4⟩)
theorem TNK.rh {hi r h g s u l : Int32} (hh : TNK t n hi r w0 p0 a0 w p a b k v) (hd : hi.toInt = h.toInt - 1) (hp : 0 ≤ h.toInt) (hq : w.toInt = 0 → ¬ (s ||| u).toBitVec.getLsbD r.toInt.toNat = true) : RGR t n [(35, 0)] [] (RZ h g s u l) (RZ h g s u l) w0 p0 a0 w p a b k v := by
  rcases hh with h | ⟨h1, h2, h3, h4, h5, h6, h7⟩ | ⟨h1, h2, h3, h4, h5⟩
  · exact Or.inl h
  · exact Or.inr (Or.inl ⟨h1, h2, h3, GR_h (m := hi) hd h5 h6 h7 (by rw [h6]; exact nv_21 h5) (hq h2) h4⟩)
  · exact Or.inr (Or.inr ⟨h1, BR_h (m := hi) hd hp h5 h2 h3 h4⟩)
theorem TNK.keep {hi r : Int32} (h : TNK t n hi r w0 p0 a0 w p a b k v) (hw : w0.toInt ≠ 0) : RGR t n F F' R R' w0 p0 a0 w p a b k v := by
  rcases h with h | h | h
  · exact Or.inl h
  · exact absurd h.1 hw
  · exact absurd h.1 hw
theorem TNK.in {hi r : Int32} (h : TNK t n hi r w0 p0 a0 w p a b k v) (hw : w.toInt = 0) : kd t n a0.toInt.toNat = 21 ∧ r.toInt = nv t n a0.toInt.toNat ∧ r.toInt ≤ hi.toInt ∧ w0.toInt = 0 := by
  rcases h with h | h | h
  · rw [h.2.1] at hw; exact absurd hw h.1
  · exact ⟨h.2.2.2.2.1, h.2.2.2.2.2.1, h.2.2.2.2.2.2, h.1⟩
  · have := h.2.1
    rw [hw] at this
    exact absurd this.symm (fwf_ne (by split <;> decide))
theorem RF_S {x1 v15 v18 v19 : Int32} (h1 : f 1 = x1) (e : g = upd f 4 v19) (e19 : v19 = v15 ||| v18) (e15 : v15 = f 4) (e18 : v18 = (1 : Int32) <<< (x1 &&& 31)) (h0 : 0 ≤ x1.toInt) (hk : kd t n a.toInt.toNat = 9) (hb : b.toInt.toNat = nx t n a.toInt.toNat) : GR t n [(33, 0)] [(33, 0)] (FR5 f) (FR5 g) a b := by
  rw [FR5_4 e]
  exact GR_fS (v := v18) hk (by rw [h1]; exact h0) (by rw [h1]; exact e18) (by rw [e19, e15]) hb
theorem RF_T {x1 v15 v18 v19 : Int32} (h1 : f 1 = x1) (e : g = upd f 5 v19) (e19 : v19 = v15 ||| v18) (e15 : v15 = f 5) (e18 : v18 = (1 : Int32) <<< (x1 &&& 31)) (h0 : 0 ≤ x1.toInt) (hk : kd t n a.toInt.toNat = 10) (hb : b.toInt.toNat = nx t n a.toInt.toNat) : GR t n [(33, 0)] [(33, 0)] (FR5 f) (FR5 g) a b := by
  rw [FR5_5 e]
  exact GR_fT (v := v18) hk (by rw [h1]; exact h0) (by rw [h1]; exact e18) (by rw [e19, e15]) hb
theorem RF_W (e : g = upd f 6 z) (hk : kd t n a.toInt.toNat = 11) (hb : b.toInt.toNat = nx t n a.toInt.toNat) : GR t n [(33, 0)] [(33, 0)] (FR5 f) (FR5 g) a b := by
  rw [FR5_o e (Or.inr (by decide))]
  exact GR_nx (fun _ => st_fW hk) hb
theorem RF_E {y : Int32} (e : g = upd f 1 z) (ey : y = f 1) (hz : z.toInt = y.toInt + 1) (h0 : 0 ≤ y.toInt) (hk : ¬ (9 ≤ kd t n a.toInt.toNat ∧ kd t n a.toInt.toNat ≤ 12)) : GR t n [(33, 0)] [] (FR5 f) (FR5 g) a a := by
  rw [FR5_1 e]
  exact GR_fE hk (by rw [← ey]; exact h0) (by rw [← ey]; exact hz)
theorem RF_C {y : Int32} (e : g = upd f 2 z) (ey : y = f 2) (hz : z.toInt = y.toInt + 1) (h0 : 0 ≤ y.toInt) : GR t n [(38, 0)] [] (FR5 f) (FR5 g) a a := by
  rw [FR5_2 e]
  exact GR_gC (by rw [← ey]; exact h0) (by rw [← ey]; exact hz)
theorem RGR.to {R2 : Rg} (h : RGR t n F F' R R' w0 p0 a0 w p a b k v) (e : R2 = R') : RGR t n F F' R R2 w0 p0 a0 w p a b k v := e ▸ h
end RLines
theorem dX12_readFlag_0 : decode cX12_readFlag 0 = .ok (.aload_n 0, 1) := by decide +kernel
theorem dX12_readFlag_1 : decode cX12_readFlag 1 = .ok (.bipush 9, 2) := by decide +kernel
theorem dX12_readFlag_3 : decode cX12_readFlag 3 = .ok (.invokevirtual 155, 3) := by decide +kernel
theorem dX12_readFlag_6 : decode cX12_readFlag 6 = .ok (.ifCond .eq 18, 3) := by decide +kernel
theorem dX12_readFlag_9 : decode cX12_readFlag 9 = .ok (.aload_n 0, 1) := by decide +kernel
theorem dX12_readFlag_10 : decode cX12_readFlag 10 = .ok (.getfield 24, 3) := by decide +kernel
theorem dX12_readFlag_13 : decode cX12_readFlag 13 = .ok (.iconst 4, 1) := by decide +kernel
theorem dX12_readFlag_14 : decode cX12_readFlag 14 = .ok (.dup2, 1) := by decide +kernel
theorem dX12_readFlag_15 : decode cX12_readFlag 15 = .ok (.iaload, 1) := by decide +kernel
theorem dX12_readFlag_16 : decode cX12_readFlag 16 = .ok (.iconst 1, 1) := by decide +kernel
theorem dX12_readFlag_17 : decode cX12_readFlag 17 = .ok (.iload_n 1, 1) := by decide +kernel
theorem dX12_readFlag_18 : decode cX12_readFlag 18 = .ok (.ishl, 1) := by decide +kernel
theorem dX12_readFlag_19 : decode cX12_readFlag 19 = .ok (.ior, 1) := by decide +kernel
theorem dX12_readFlag_20 : decode cX12_readFlag 20 = .ok (.iastore, 1) := by decide +kernel
theorem dX12_readFlag_21 : decode cX12_readFlag 21 = .ok (.goto 92, 3) := by decide +kernel
theorem dX12_readFlag_24 : decode cX12_readFlag 24 = .ok (.aload_n 0, 1) := by decide +kernel
theorem dX12_readFlag_25 : decode cX12_readFlag 25 = .ok (.bipush 10, 2) := by decide +kernel
theorem dX12_readFlag_27 : decode cX12_readFlag 27 = .ok (.invokevirtual 155, 3) := by decide +kernel
theorem dX12_readFlag_30 : decode cX12_readFlag 30 = .ok (.ifCond .eq 18, 3) := by decide +kernel
theorem dX12_readFlag_33 : decode cX12_readFlag 33 = .ok (.aload_n 0, 1) := by decide +kernel
theorem dX12_readFlag_34 : decode cX12_readFlag 34 = .ok (.getfield 24, 3) := by decide +kernel
theorem dX12_readFlag_37 : decode cX12_readFlag 37 = .ok (.iconst 5, 1) := by decide +kernel
theorem dX12_readFlag_38 : decode cX12_readFlag 38 = .ok (.dup2, 1) := by decide +kernel
theorem dX12_readFlag_39 : decode cX12_readFlag 39 = .ok (.iaload, 1) := by decide +kernel
theorem dX12_readFlag_40 : decode cX12_readFlag 40 = .ok (.iconst 1, 1) := by decide +kernel
theorem dX12_readFlag_41 : decode cX12_readFlag 41 = .ok (.iload_n 1, 1) := by decide +kernel
theorem dX12_readFlag_42 : decode cX12_readFlag 42 = .ok (.ishl, 1) := by decide +kernel
theorem dX12_readFlag_43 : decode cX12_readFlag 43 = .ok (.ior, 1) := by decide +kernel
theorem dX12_readFlag_44 : decode cX12_readFlag 44 = .ok (.iastore, 1) := by decide +kernel
theorem dX12_readFlag_45 : decode cX12_readFlag 45 = .ok (.goto 68, 3) := by decide +kernel
theorem dX12_readFlag_48 : decode cX12_readFlag 48 = .ok (.aload_n 0, 1) := by decide +kernel
theorem dX12_readFlag_49 : decode cX12_readFlag 49 = .ok (.bipush 11, 2) := by decide +kernel
theorem dX12_readFlag_51 : decode cX12_readFlag 51 = .ok (.invokevirtual 155, 3) := by decide +kernel
theorem dX12_readFlag_54 : decode cX12_readFlag 54 = .ok (.ifCond .eq 19, 3) := by decide +kernel
theorem dX12_readFlag_57 : decode cX12_readFlag 57 = .ok (.aload_n 0, 1) := by decide +kernel
theorem dX12_readFlag_58 : decode cX12_readFlag 58 = .ok (.getfield 24, 3) := by decide +kernel
theorem dX12_readFlag_61 : decode cX12_readFlag 61 = .ok (.bipush 6, 2) := by decide +kernel
theorem dX12_readFlag_63 : decode cX12_readFlag 63 = .ok (.dup2, 1) := by decide +kernel
theorem dX12_readFlag_64 : decode cX12_readFlag 64 = .ok (.iaload, 1) := by decide +kernel
theorem dX12_readFlag_65 : decode cX12_readFlag 65 = .ok (.iconst 1, 1) := by decide +kernel
theorem dX12_readFlag_66 : decode cX12_readFlag 66 = .ok (.iload_n 1, 1) := by decide +kernel
theorem dX12_readFlag_67 : decode cX12_readFlag 67 = .ok (.ishl, 1) := by decide +kernel
theorem dX12_readFlag_68 : decode cX12_readFlag 68 = .ok (.ior, 1) := by decide +kernel
theorem dX12_readFlag_69 : decode cX12_readFlag 69 = .ok (.iastore, 1) := by decide +kernel
theorem dX12_readFlag_70 : decode cX12_readFlag 70 = .ok (.goto 43, 3) := by decide +kernel
theorem dX12_readFlag_73 : decode cX12_readFlag 73 = .ok (.aload_n 0, 1) := by decide +kernel
theorem dX12_readFlag_74 : decode cX12_readFlag 74 = .ok (.bipush 12, 2) := by decide +kernel
theorem dX12_readFlag_76 : decode cX12_readFlag 76 = .ok (.invokevirtual 155, 3) := by decide +kernel
theorem dX12_readFlag_79 : decode cX12_readFlag 79 = .ok (.ifCond .eq 32, 3) := by decide +kernel
theorem dX12_readFlag_82 : decode cX12_readFlag 82 = .ok (.aload_n 0, 1) := by decide +kernel
theorem dX12_readFlag_83 : decode cX12_readFlag 83 = .ok (.iconst 0, 1) := by decide +kernel
theorem dX12_readFlag_84 : decode cX12_readFlag 84 = .ok (.sipush 999, 3) := by decide +kernel
theorem dX12_readFlag_87 : decode cX12_readFlag 87 = .ok (.invokevirtual 179, 3) := by decide +kernel
theorem dX12_readFlag_90 : decode cX12_readFlag 90 = .ok (.istore_n 2, 1) := by decide +kernel
theorem dX12_readFlag_91 : decode cX12_readFlag 91 = .ok (.aload_n 0, 1) := by decide +kernel
theorem dX12_readFlag_92 : decode cX12_readFlag 92 = .ok (.getfield 128, 3) := by decide +kernel
theorem dX12_readFlag_95 : decode cX12_readFlag 95 = .ok (.ifCond .ne 13, 3) := by decide +kernel
theorem dX12_readFlag_98 : decode cX12_readFlag 98 = .ok (.aload_n 0, 1) := by decide +kernel
theorem dX12_readFlag_99 : decode cX12_readFlag 99 = .ok (.getfield 24, 3) := by decide +kernel
theorem dX12_readFlag_102 : decode cX12_readFlag 102 = .ok (.bipush 35, 2) := by decide +kernel
theorem dX12_readFlag_104 : decode cX12_readFlag 104 = .ok (.iload_n 1, 1) := by decide +kernel
theorem dX12_readFlag_105 : decode cX12_readFlag 105 = .ok (.iadd, 1) := by decide +kernel
theorem dX12_readFlag_106 : decode cX12_readFlag 106 = .ok (.iload_n 2, 1) := by decide +kernel
theorem dX12_readFlag_107 : decode cX12_readFlag 107 = .ok (.iastore, 1) := by decide +kernel
theorem dX12_readFlag_108 : decode cX12_readFlag 108 = .ok (.goto 5, 3) := by decide +kernel
theorem dX12_readFlag_111 : decode cX12_readFlag 111 = .ok (.iconst 0, 1) := by decide +kernel
theorem dX12_readFlag_112 : decode cX12_readFlag 112 = .ok (.ireturn, 1) := by decide +kernel
theorem dX12_readFlag_113 : decode cX12_readFlag 113 = .ok (.aload_n 0, 1) := by decide +kernel
theorem dX12_readFlag_114 : decode cX12_readFlag 114 = .ok (.getfield 128, 3) := by decide +kernel
theorem dX12_readFlag_117 : decode cX12_readFlag 117 = .ok (.ifCond .ne 7, 3) := by decide +kernel
theorem dX12_readFlag_120 : decode cX12_readFlag 120 = .ok (.iconst 1, 1) := by decide +kernel
theorem dX12_readFlag_121 : decode cX12_readFlag 121 = .ok (.goto 4, 3) := by decide +kernel
theorem dX12_readFlag_124 : decode cX12_readFlag 124 = .ok (.iconst 0, 1) := by decide +kernel
theorem dX12_readFlag_125 : decode cX12_readFlag 125 = .ok (.ireturn, 1) := by decide +kernel
theorem kw_1382 : Cond.methodLink "FootholdWallModel" 179 yX12_takes ∈ gw := gw_of (tb_of 1382 (by decide +kernel)) (by decide +kernel)
theorem kw_1384 : Cond.instanceMethod yX12_takes ∈ gw := gw_of (tb_of 1384 (by decide +kernel)) (by decide +kernel)
theorem kw_1385 : Cond.code yX12_takes cX12_takes 4 (some (.int)) ∈ gw := gw_of (tb_of 1385 (by decide +kernel)) (by decide +kernel)
theorem ks_50 : Cond.selects RX12 yX12_takes yX12_takes ∈ gw := gw_of (pv_of 50 (by decide +kernel)) (by decide +kernel)
set_option maxHeartbeats 4000000 in
set_option maxRecDepth 100000 in
theorem s_M_readFlag (l : Launch) (D : va_G) (cs : CS) (kf : KF) (T : TF) (O : List Nat) (X : va_W) (a0 hg mq : Nat) (x1 : Int32) (o0 : Value) (o1 : Value) (o2 : Value) (y3 : Nat) (y4 : Nat) (o5 : Value) (y6 : Int32) (y7 : Int32) (y8 : Int32) (y9 : Int32) (y10 : Int32) (y11 : Int32) (y12 : Int32) (tl : List Value) (f3 : Nat → Int32) (f4 : Nat → Int32) (t : Tp) (tn : Nat) (t_a0 : T a0 = some (22, hg, mq)) (b_hg : hg < 90) (l_x1 : 0 ≤ x1.toInt) (u_x1 : x1.toInt ≤ 13) (t_y3 : T y3 = some (9, 900, 0)) (t_y4 : T y4 = some (8, 1302, 0)) (l_y6 : 0 ≤ y6.toInt) (u_y6 : y6.toInt ≤ 900) (l_y7 : 0 ≤ y7.toInt) (u_y7 : y7.toInt ≤ 900) (l_y8 : 0 ≤ y8.toInt) (u_y8 : y8.toInt ≤ 900) (l_y10 : 0 ≤ y10.toInt) (u_y10 : y10.toInt ≤ 999) (s_f4 : S8 f4) (hn : y8.toInt = (tn : Int)) (htm : TM f3 t) (k1 : y6.toInt ≤ y7.toInt) (k2 : y7.toInt ≤ y8.toInt) (k3 : TK3 y9 y6 y7) (h1 : f4 1 = x1) (hms : MSW t tn y11 y6 y7 y9 y10) (hO : okO T (a0 :: y3 :: y4 :: O) []) : TK l D cs kf yX12_readFlag cX12_readFlag 3 (some (.boolean)) { frames := 7, cells := 0, slots := 0, locals := 152 } [.ref a0, .int x1] T (a0 :: y3 :: y4 :: O) ((a0, .inr (12, o0 :: o1 :: o2 :: (.ref y3) :: (.ref y4) :: o5 :: (.int y6) :: (.int y7) :: (.int y8) :: (.int y9) :: (.int y10) :: (.int y11) :: (.int y12) :: tl)) :: (y3, .inl (cs.2.1, 900, .inl f3)) :: (y4, .inl (cs.2.1, 1302, .inl f4)) :: X) (Ti D cs (fun r u => ∃ (n0_6 : Int32) (n0_7 : Int32) (n0_9 : Int32) (n0_10 : Int32) (n0_11 : Int32) (n0_12 : Int32) (G2 : Nat → Int32), u = (T, a0 :: y3 :: y4 :: O, (a0, .inr (12, o0 :: o1 :: o2 :: (.ref y3) :: (.ref y4) :: o5 :: (.int n0_6) :: (.int n0_7) :: (.int y8) :: (.int n0_9) :: (.int n0_10) :: (.int n0_11) :: (.int n0_12) :: tl)) :: (y3, .inl (cs.2.1, 900, .inl f3)) :: (y4, .inl (cs.2.1, 1302, .inl G2)) :: X) ∧ 0 ≤ r.toInt ∧ r.toInt ≤ 1 ∧ (S8 G2) ∧ (y6.toInt ≤ n0_6.toInt) ∧ (n0_6.toInt ≤ n0_7.toInt) ∧ (n0_7.toInt ≤ y8.toInt) ∧ (TK3 n0_9 n0_6 n0_7) ∧ (0 ≤ n0_10.toInt) ∧ (n0_10.toInt ≤ 999) ∧ (r.toInt = 0 ∨ (n0_11.toInt = 0 ∧ y6.toInt + 1 ≤ n0_6.toInt)) ∧ (G2 1 = f4 1) ∧ (RGR t tn [(33, 0)] [(33, 0)] (FR5 f4) (FR5 G2) y11 y12 y6 n0_11 n0_12 n0_6 n0_7 n0_9 n0_10) ∧ (r.toInt ≠ 0 ∨ n0_11.toInt ≠ 0 ∨ ¬ (9 ≤ kd t tn n0_6.toInt.toNat ∧ kd t tn n0_6.toInt.toNat ≤ 12)) ∧ (G2 0 = f4 0))) := by
  refine tk_of (by decide) (Nat.le_of_ble_eq_true rfl) (fun p e s m below meth c ls A H locs hx hb hr hml hown hts hlocks hnm hkb hH hS hA hOX hks hE hl => ?_)
  have hown : s.vm.findClass RX12 = some m.cls := hown
  have hl : lv_has ls 3 [(0, .ref a0), (1, .int x1)] := hl
  have hOXf := hOX
  refine lv_aload_n hx hb dX12_readFlag_0 rfl (lv_at hl 0 rfl) ?_
  refine lv_bipush (v := 9) hx hb dX12_readFlag_1 (by decide) ?_
  have z9_9 : (9 : Int32).toInt = 9 := by decide
  refine tk_i hH hS hA (tr_V (n := 1) (As := [.int 9]) hx hb hml hown hts hkb hH (ox_map hOX rfl) hks hE hS hA (s_M_eats l D cs kf T (y4 :: O) ((y4, .inl (cs.2.1, 1302, .inl f4)) :: X) a0 hg mq (9) o0 o1 o2 y3 y4 o5 y6 y7 y8 y9 y10 y11 y12 tl f3 t tn t_a0 b_hg t_y3 t_y4 (by omega) (by omega) (by omega) (by omega) (by omega) (by omega) (by omega) (by omega) (by omega) htm (by omega) (by omega) k3 (by omega) hms (hO.sub (by decide))) kw_1390 kw_1392 ks_52 kw_13 kw_1393 (by decide +kernel) ⟨Nat.le_of_ble_eq_true rfl, Nat.le_of_ble_eq_true rfl⟩ (x_recv (ci := 12) hkb hH 0 rfl rfl) rfl rfl hl.1 (Nat.le_of_ble_eq_true rfl) dX12_readFlag_3 ⟨Nat.le_of_ble_eq_true rfl, Nat.le_of_ble_eq_true rfl⟩) (fun v3 u H locs hz9 hH hS => ?_)
  obtain ⟨n3_0_6, n3_0_7, n3_0_9, n3_0_10, rfl, l_v3, u_v3, x_v30, x_v31, x_v32, x_v33, x_v34, x_v35, x_v36, x_v37, x_v38⟩ := hz9
  have hH : HT D cs A T (a0 :: y3 :: y4 :: O) ((a0, .inr (12, o0 :: o1 :: o2 :: (.ref y3) :: (.ref y4) :: o5 :: (.int n3_0_6) :: (.int n3_0_7) :: (.int y8) :: (.int n3_0_9) :: (.int n3_0_10) :: (.int y11) :: (.int y12) :: tl)) :: (y3, .inl (cs.2.1, 900, .inl f3)) :: (y4, .inl (cs.2.1, 1302, .inl f4)) :: X) H := hH
  refine W.widen (k := 0) (n := 0) (Nat.le_of_ble_eq_true rfl) (Nat.le_of_ble_eq_true rfl) ?_
  refine lv_if_eq (tgt := 24) hx hb dX12_readFlag_6 (by decide) (fun c6 => ?_) (fun c6 => ?_)
  · skip
    have tc6 := f_eq (k := 0) (by decide) c6
    clear x_v36
    clear x_v37
    replace x_v38 := x_v38.resolve_left (fun q9 => q9 tc6)
    obtain ⟨e6, e7, e9, e10, x_v38⟩ := x_v38
    subst e6 e7 e9 e10
    refine lv_aload_n hx hb dX12_readFlag_24 rfl (lv_at hl 0 rfl) ?_
    refine lv_bipush (v := 10) hx hb dX12_readFlag_25 (by decide) ?_
    have z9_10 : (10 : Int32).toInt = 10 := by decide
    refine tk_i hH hS hA (tr_V (n := 1) (As := [.int 10]) hx hb hml hown hts hkb hH (ox_map hOX rfl) hks hE hS hA (s_M_eats l D cs kf T (y4 :: O) ((y4, .inl (cs.2.1, 1302, .inl f4)) :: X) a0 hg mq (10) o0 o1 o2 y3 y4 o5 y6 y7 y8 y9 y10 y11 y12 tl f3 t tn t_a0 b_hg t_y3 t_y4 (by omega) (by omega) (by omega) (by omega) (by omega) (by omega) (by omega) (by omega) (by omega) htm (by omega) (by omega) x_v33 (by omega) hms (hO.sub (by decide))) kw_1390 kw_1392 ks_52 kw_13 kw_1393 (by decide +kernel) ⟨Nat.le_of_ble_eq_true rfl, Nat.le_of_ble_eq_true rfl⟩ (x_recv (ci := 12) hkb hH 0 rfl rfl) rfl rfl hl.1 (Nat.le_of_ble_eq_true rfl) dX12_readFlag_27 ⟨Nat.le_of_ble_eq_true rfl, Nat.le_of_ble_eq_true rfl⟩) (fun v27 u H locs hz9 hH hS => ?_)
    obtain ⟨n27_0_6, n27_0_7, n27_0_9, n27_0_10, rfl, l_v27, u_v27, x_v270, x_v271, x_v272, x_v273, x_v274, x_v275, x_v276, x_v277, x_v278⟩ := hz9
    have hH : HT D cs A T (a0 :: y3 :: y4 :: O) ((a0, .inr (12, o0 :: o1 :: o2 :: (.ref y3) :: (.ref y4) :: o5 :: (.int n27_0_6) :: (.int n27_0_7) :: (.int y8) :: (.int n27_0_9) :: (.int n27_0_10) :: (.int y11) :: (.int y12) :: tl)) :: (y3, .inl (cs.2.1, 900, .inl f3)) :: (y4, .inl (cs.2.1, 1302, .inl f4)) :: X) H := hH
    refine W.widen (k := 0) (n := 0) (Nat.le_of_ble_eq_true rfl) (Nat.le_of_ble_eq_true rfl) ?_
    refine lv_if_eq (tgt := 48) hx hb dX12_readFlag_30 (by decide) (fun c30 => ?_) (fun c30 => ?_)
    · skip
      have tc30 := f_eq (k := 0) (by decide) c30
      clear x_v276
      clear x_v277
      replace x_v278 := x_v278.resolve_left (fun q9 => q9 tc30)
      obtain ⟨e6, e7, e9, e10, x_v278⟩ := x_v278
      subst e6 e7 e9 e10
      refine lv_aload_n hx hb dX12_readFlag_48 rfl (lv_at hl 0 rfl) ?_
      refine lv_bipush (v := 11) hx hb dX12_readFlag_49 (by decide) ?_
      have z9_11 : (11 : Int32).toInt = 11 := by decide
      refine tk_i hH hS hA (tr_V (n := 1) (As := [.int 11]) hx hb hml hown hts hkb hH (ox_map hOX rfl) hks hE hS hA (s_M_eats l D cs kf T (y4 :: O) ((y4, .inl (cs.2.1, 1302, .inl f4)) :: X) a0 hg mq (11) o0 o1 o2 y3 y4 o5 y6 y7 y8 y9 y10 y11 y12 tl f3 t tn t_a0 b_hg t_y3 t_y4 (by omega) (by omega) (by omega) (by omega) (by omega) (by omega) (by omega) (by omega) (by omega) htm (by omega) (by omega) x_v273 (by omega) hms (hO.sub (by decide))) kw_1390 kw_1392 ks_52 kw_13 kw_1393 (by decide +kernel) ⟨Nat.le_of_ble_eq_true rfl, Nat.le_of_ble_eq_true rfl⟩ (x_recv (ci := 12) hkb hH 0 rfl rfl) rfl rfl hl.1 (Nat.le_of_ble_eq_true rfl) dX12_readFlag_51 ⟨Nat.le_of_ble_eq_true rfl, Nat.le_of_ble_eq_true rfl⟩) (fun v51 u H locs hz9 hH hS => ?_)
      obtain ⟨n51_0_6, n51_0_7, n51_0_9, n51_0_10, rfl, l_v51, u_v51, x_v510, x_v511, x_v512, x_v513, x_v514, x_v515, x_v516, x_v517, x_v518⟩ := hz9
      have hH : HT D cs A T (a0 :: y3 :: y4 :: O) ((a0, .inr (12, o0 :: o1 :: o2 :: (.ref y3) :: (.ref y4) :: o5 :: (.int n51_0_6) :: (.int n51_0_7) :: (.int y8) :: (.int n51_0_9) :: (.int n51_0_10) :: (.int y11) :: (.int y12) :: tl)) :: (y3, .inl (cs.2.1, 900, .inl f3)) :: (y4, .inl (cs.2.1, 1302, .inl f4)) :: X) H := hH
      refine W.widen (k := 0) (n := 0) (Nat.le_of_ble_eq_true rfl) (Nat.le_of_ble_eq_true rfl) ?_
      refine lv_if_eq (tgt := 73) hx hb dX12_readFlag_54 (by decide) (fun c54 => ?_) (fun c54 => ?_)
      · skip
        have tc54 := f_eq (k := 0) (by decide) c54
        clear x_v516
        clear x_v517
        replace x_v518 := x_v518.resolve_left (fun q9 => q9 tc54)
        obtain ⟨e6, e7, e9, e10, x_v518⟩ := x_v518
        subst e6 e7 e9 e10
        refine lv_aload_n hx hb dX12_readFlag_73 rfl (lv_at hl 0 rfl) ?_
        refine lv_bipush (v := 12) hx hb dX12_readFlag_74 (by decide) ?_
        have z9_12 : (12 : Int32).toInt = 12 := by decide
        refine tk_i hH hS hA (tr_V (n := 1) (As := [.int 12]) hx hb hml hown hts hkb hH (ox_map hOX rfl) hks hE hS hA (s_M_eats l D cs kf T (y4 :: O) ((y4, .inl (cs.2.1, 1302, .inl f4)) :: X) a0 hg mq (12) o0 o1 o2 y3 y4 o5 y6 y7 y8 y9 y10 y11 y12 tl f3 t tn t_a0 b_hg t_y3 t_y4 (by omega) (by omega) (by omega) (by omega) (by omega) (by omega) (by omega) (by omega) (by omega) htm (by omega) (by omega) x_v513 (by omega) hms (hO.sub (by decide))) kw_1390 kw_1392 ks_52 kw_13 kw_1393 (by decide +kernel) ⟨Nat.le_of_ble_eq_true rfl, Nat.le_of_ble_eq_true rfl⟩ (x_recv (ci := 12) hkb hH 0 rfl rfl) rfl rfl hl.1 (Nat.le_of_ble_eq_true rfl) dX12_readFlag_76 ⟨Nat.le_of_ble_eq_true rfl, Nat.le_of_ble_eq_true rfl⟩) (fun v76 u H locs hz9 hH hS => ?_)
        obtain ⟨n76_0_6, n76_0_7, n76_0_9, n76_0_10, rfl, l_v76, u_v76, x_v760, x_v761, x_v762, x_v763, x_v764, x_v765, x_v766, x_v767, x_v768⟩ := hz9
        have hH : HT D cs A T (a0 :: y3 :: y4 :: O) ((a0, .inr (12, o0 :: o1 :: o2 :: (.ref y3) :: (.ref y4) :: o5 :: (.int n76_0_6) :: (.int n76_0_7) :: (.int y8) :: (.int n76_0_9) :: (.int n76_0_10) :: (.int y11) :: (.int y12) :: tl)) :: (y3, .inl (cs.2.1, 900, .inl f3)) :: (y4, .inl (cs.2.1, 1302, .inl f4)) :: X) H := hH
        refine W.widen (k := 0) (n := 0) (Nat.le_of_ble_eq_true rfl) (Nat.le_of_ble_eq_true rfl) ?_
        refine lv_if_eq (tgt := 111) hx hb dX12_readFlag_79 (by decide) (fun c79 => ?_) (fun c79 => ?_)
        · skip
          have tc79 := f_eq (k := 0) (by decide) c79
          clear x_v766
          clear x_v767
          replace x_v768 := x_v768.resolve_left (fun q9 => q9 tc79)
          obtain ⟨e6, e7, e9, e10, x_v768⟩ := x_v768
          subst e6 e7 e9 e10
          refine lv_iconst (v := 0) hx hb dX12_readFlag_111 (by decide) ?_
          have z9_0 : (0 : Int32).toInt = 0 := by decide
          exact te_z hx hb hr hlocks (by rfl) hH hS (⟨y6, y7, y9, y10, y11, y12, f4, rfl, by decide, by decide, s_f4, by omega, by omega, by omega, x_v763, by omega, by omega, by omega, rfl, (by first | (refine RGR_g ?_ x_v37.1 (RF_S h1 eF20 ev19 tv15 ev18 ?_ ?_ x_v37.2.1) <;> omega) | (refine RGR_g ?_ x_v277.1 (RF_T h1 eF44 ev43 tv39 ev42 ?_ ?_ x_v277.2.1) <;> omega) | (refine RGR_g ?_ x_v517.1 (RF_W eF69 ?_ x_v517.2.1) <;> omega) | (refine RGR.to (RGR.seq (F' := [(22, 999), (33, 0)]) (RGR_g ?_ x_v767.1 (GR_nx (fun _ => st_fI ?_) x_v767.2.1)) (RGR.cons (RG.r (TNK.rg x_v877 (by decide))))) (FR5_o eF107 (Or.inr ?_)) <;> omega) | (refine RGR.seq (F' := [(22, 999), (33, 0)]) (RGR_g ?_ x_v767.1 (GR_nx (fun _ => st_fI ?_) x_v767.2.1)) (RGR.cons (RG.r (TNK.rg x_v877 (by decide)))) <;> omega) | (exact RGR_id (fun q9 => ⟨hms q9, GR.rf⟩))), (by first | (refine Or.inr (Or.inl ?_); omega) | (exfalso; omega) | (refine Or.inr ?_; by_cases q9 : y11.toInt = 0; exact Or.inr (by have q8 := (hms q9).2.2.2.1; omega); exact Or.inl q9)), rfl⟩) dX12_readFlag_112
        · skip
          have tc79 := f_ne (k := 0) (by decide) c79
          replace x_v766 := x_v766.resolve_left tc79
          replace x_v767 := x_v767.resolve_left tc79
          clear x_v768
          refine lv_aload_n hx hb dX12_readFlag_82 rfl (lv_at hl 0 rfl) ?_
          refine lv_iconst (v := 0) hx hb dX12_readFlag_83 (by decide) ?_
          refine lv_sipush (v := 999) hx hb dX12_readFlag_84 (by decide) ?_
          have z9_0 : (0 : Int32).toInt = 0 := by decide
          have z9_999 : (999 : Int32).toInt = 999 := by decide
          refine tk_i hH hS hA (tr_V (n := 2) (As := [.int 0, .int 999]) hx hb hml hown hts hkb hH (ox_map hOX rfl) hks hE hS hA (s_M_takes l D cs kf T (y4 :: O) ((y4, .inl (cs.2.1, 1302, .inl f4)) :: X) a0 hg mq (0) (999) o0 o1 o2 y3 y4 o5 n76_0_6 n76_0_7 y8 n76_0_9 n76_0_10 y11 y12 tl f3 t tn t_a0 b_hg (by decide) (by decide) t_y3 t_y4 (by omega) (by omega) (by omega) (by omega) (by omega) (by omega) (by omega) (by omega) (by omega) htm (by omega) (by omega) x_v763 (fun _ => x_v767.1) (hO.sub (by decide))) kw_1382 kw_1384 ks_50 kw_13 kw_1385 (by decide +kernel) ⟨Nat.le_of_ble_eq_true rfl, Nat.le_of_ble_eq_true rfl⟩ (x_recv (ci := 12) hkb hH 0 rfl rfl) rfl rfl hl.1 (Nat.le_of_ble_eq_true rfl) dX12_readFlag_87 ⟨Nat.le_of_ble_eq_true rfl, Nat.le_of_ble_eq_true rfl⟩) (fun v87 u H locs hz9 hH hS => ?_)
          obtain ⟨n87_0_6, n87_0_7, n87_0_9, n87_0_10, n87_0_11, n87_0_12, rfl, l_v87, u_v87, x_v870, x_v871, x_v872, x_v873, x_v874, x_v875, x_v876, x_v877⟩ := hz9
          have hH : HT D cs A T (a0 :: y3 :: y4 :: O) ((a0, .inr (12, o0 :: o1 :: o2 :: (.ref y3) :: (.ref y4) :: o5 :: (.int n87_0_6) :: (.int n87_0_7) :: (.int y8) :: (.int n87_0_9) :: (.int n87_0_10) :: (.int n87_0_11) :: (.int n87_0_12) :: tl)) :: (y3, .inl (cs.2.1, 900, .inl f3)) :: (y4, .inl (cs.2.1, 1302, .inl f4)) :: X) H := hH
          refine W.widen (k := 0) (n := 0) (Nat.le_of_ble_eq_true rfl) (Nat.le_of_ble_eq_true rfl) ?_
          refine lv_istore_n (lv' := [(2, .int v87), (0, .ref a0), (1, .int x1)]) hx hb dX12_readFlag_90 rfl hl (by decide) rfl (fun ls hl => ?_)
          refine lv_aload_n hx hb dX12_readFlag_91 rfl (lv_at hl 1 rfl) ?_
          refine x_getk (ci := 12) (C := RX12) (F := TX12) (N := 36) (v := .int n87_0_11) hx hb hts uX12 hown hkb hH 0 rfl rfl 11 (by decide) rfl kw_1234 (fun _ h9 => h9) dX12_readFlag_92 ?_
          refine lv_if_ne (tgt := 108) hx hb dX12_readFlag_95 (by decide) (fun c95 => ?_) (fun c95 => ?_)
          · skip
            have tc95 := f_ne (k := 0) (by decide) c95
            refine lv_goto (tgt := 113) hx hb dX12_readFlag_108 (by decide) ?_
            refine lv_aload_n hx hb dX12_readFlag_113 rfl (lv_at hl 1 rfl) ?_
            refine x_getk (ci := 12) (C := RX12) (F := TX12) (N := 36) (v := .int n87_0_11) hx hb hts uX12 hown hkb hH 0 rfl rfl 11 (by decide) rfl kw_1234 (fun _ h9 => h9) dX12_readFlag_114 ?_
            refine lv_if_ne (tgt := 124) hx hb dX12_readFlag_117 (by decide) (fun c117 => ?_) (fun c117 => ?_)
            · skip
              have tc117 := f_ne (k := 0) (by decide) c117
              refine lv_iconst (v := 0) hx hb dX12_readFlag_124 (by decide) ?_
              have z9_0 : (0 : Int32).toInt = 0 := by decide
              exact te_z hx hb hr hlocks (by rfl) hH hS (⟨n87_0_6, n87_0_7, n87_0_9, n87_0_10, n87_0_11, n87_0_12, f4, rfl, by decide, by decide, s_f4, by omega, by omega, by omega, x_v873, by omega, by omega, by omega, rfl, (by first | (refine RGR_g ?_ x_v37.1 (RF_S h1 eF20 ev19 tv15 ev18 ?_ ?_ x_v37.2.1) <;> omega) | (refine RGR_g ?_ x_v277.1 (RF_T h1 eF44 ev43 tv39 ev42 ?_ ?_ x_v277.2.1) <;> omega) | (refine RGR_g ?_ x_v517.1 (RF_W eF69 ?_ x_v517.2.1) <;> omega) | (refine RGR.to (RGR.seq (F' := [(22, 999), (33, 0)]) (RGR_g ?_ x_v767.1 (GR_nx (fun _ => st_fI ?_) x_v767.2.1)) (RGR.cons (RG.r (TNK.rg x_v877 (by decide))))) (FR5_o eF107 (Or.inr ?_)) <;> omega) | (refine RGR.seq (F' := [(22, 999), (33, 0)]) (RGR_g ?_ x_v767.1 (GR_nx (fun _ => st_fI ?_) x_v767.2.1)) (RGR.cons (RG.r (TNK.rg x_v877 (by decide)))) <;> omega) | (exact RGR_id (fun q9 => ⟨hms q9, GR.rf⟩))), (by first | (refine Or.inr (Or.inl ?_); omega) | (exfalso; omega) | (refine Or.inr ?_; by_cases q9 : y11.toInt = 0; exact Or.inr (by have q8 := (hms q9).2.2.2.1; omega); exact Or.inl q9)), rfl⟩) dX12_readFlag_125
            · skip
              have tc117 := f_eq (k := 0) (by decide) c117
              refine lv_iconst (v := 1) hx hb dX12_readFlag_120 (by decide) ?_
              refine lv_goto (tgt := 125) hx hb dX12_readFlag_121 (by decide) ?_
              have z9_1 : (1 : Int32).toInt = 1 := by decide
              exact te_z hx hb hr hlocks (by rfl) hH hS (⟨n87_0_6, n87_0_7, n87_0_9, n87_0_10, n87_0_11, n87_0_12, f4, rfl, by decide, by decide, s_f4, by omega, by omega, by omega, x_v873, by omega, by omega, by omega, rfl, (by first | (refine RGR_g ?_ x_v37.1 (RF_S h1 eF20 ev19 tv15 ev18 ?_ ?_ x_v37.2.1) <;> omega) | (refine RGR_g ?_ x_v277.1 (RF_T h1 eF44 ev43 tv39 ev42 ?_ ?_ x_v277.2.1) <;> omega) | (refine RGR_g ?_ x_v517.1 (RF_W eF69 ?_ x_v517.2.1) <;> omega) | (refine RGR.to (RGR.seq (F' := [(22, 999), (33, 0)]) (RGR_g ?_ x_v767.1 (GR_nx (fun _ => st_fI ?_) x_v767.2.1)) (RGR.cons (RG.r (TNK.rg x_v877 (by decide))))) (FR5_o eF107 (Or.inr ?_)) <;> omega) | (refine RGR.seq (F' := [(22, 999), (33, 0)]) (RGR_g ?_ x_v767.1 (GR_nx (fun _ => st_fI ?_) x_v767.2.1)) (RGR.cons (RG.r (TNK.rg x_v877 (by decide)))) <;> omega) | (exact RGR_id (fun q9 => ⟨hms q9, GR.rf⟩))), Or.inl (by decide), rfl⟩) dX12_readFlag_125
          · skip
            have tc95 := f_eq (k := 0) (by decide) c95
            refine lv_aload_n hx hb dX12_readFlag_98 rfl (lv_at hl 1 rfl) ?_
            refine x_getk (ci := 12) (C := RX12) (F := TX12) (N := 36) (v := .ref y4) hx hb hts uX12 hown hkb hH 0 rfl rfl 4 (by decide) rfl kw_1227 (fun _ h9 => h9) dX12_readFlag_99 ?_
            refine lv_bipush (v := 35) hx hb dX12_readFlag_102 (by decide) ?_
            refine lv_iload_n hx hb dX12_readFlag_104 rfl (lv_at hl 2 rfl) ?_
            refine lv_iadd hx hb dX12_readFlag_105 ?_
            refine lv_topi (fun v105 ev105 => ?_)
            have tv105 : v105.toInt = (35) + x1.toInt := by rw [ev105]; exact add_i (by decide : (35 : Int32).toInt = 35) rfl (by omega) (by omega)
            refine lv_iload_n hx hb dX12_readFlag_106 rfl (lv_at hl 0 rfl) ?_
            refine xa_ist hx hb hkb hH hS 2 rfl (by omega) (by omega) dX12_readFlag_107 (fun H locs hH hS => ?_)
            have hH : HT D cs A T (a0 :: y3 :: y4 :: O) ((a0, .inr (12, o0 :: o1 :: o2 :: (.ref y3) :: (.ref y4) :: o5 :: (.int n87_0_6) :: (.int n87_0_7) :: (.int y8) :: (.int n87_0_9) :: (.int n87_0_10) :: (.int n87_0_11) :: (.int n87_0_12) :: tl)) :: (y3, .inl (cs.2.1, 900, .inl f3)) :: (y4, .inl (cs.2.1, 1302, .inl (upd f4 (v105.toInt.toNat) v87))) :: X) H := hH
            obtain ⟨F107, eF107⟩ : ∃ f9, f9 = upd f4 (v105.toInt.toNat) v87 := ⟨_, rfl⟩
            have hH : HT D cs A T (a0 :: y3 :: y4 :: O) ((a0, .inr (12, o0 :: o1 :: o2 :: (.ref y3) :: (.ref y4) :: o5 :: (.int n87_0_6) :: (.int n87_0_7) :: (.int y8) :: (.int n87_0_9) :: (.int n87_0_10) :: (.int n87_0_11) :: (.int n87_0_12) :: tl)) :: (y3, .inl (cs.2.1, 900, .inl f3)) :: (y4, .inl (cs.2.1, 1302, .inl F107)) :: X) H := eF107 ▸ hH
            have s_F107 : S8 F107 := eF107 ▸ S8_put (i := v105) (x := v87) s_f4 (by omega) (by omega) (p8_far (by omega) (⟨by omega, by omega⟩))
            refine lv_goto (tgt := 113) hx hb dX12_readFlag_108 (by decide) ?_
            refine lv_aload_n hx hb dX12_readFlag_113 rfl (lv_at hl 1 rfl) ?_
            refine x_getk (ci := 12) (C := RX12) (F := TX12) (N := 36) (v := .int n87_0_11) hx hb hts uX12 hown hkb hH 0 rfl rfl 11 (by decide) rfl kw_1234 (fun _ h9 => h9) dX12_readFlag_114 ?_
            refine lv_if_ne (tgt := 124) hx hb dX12_readFlag_117 (by decide) (fun c117 => ?_) (fun c117 => ?_)
            · skip
              have tc117 := f_ne (k := 0) (by decide) c117
              exfalso; omega
            · skip
              have tc117 := f_eq (k := 0) (by decide) c117
              refine lv_iconst (v := 1) hx hb dX12_readFlag_120 (by decide) ?_
              refine lv_goto (tgt := 125) hx hb dX12_readFlag_121 (by decide) ?_
              have z9_1 : (1 : Int32).toInt = 1 := by decide
              exact te_z hx hb hr hlocks (by rfl) hH hS (⟨n87_0_6, n87_0_7, n87_0_9, n87_0_10, n87_0_11, n87_0_12, F107, rfl, by decide, by decide, s_F107, by omega, by omega, by omega, x_v873, by omega, by omega, by omega, (by rw [eF107]; exact upd_ne (by first | decide | omega)), (by first | (refine RGR_g ?_ x_v37.1 (RF_S h1 eF20 ev19 tv15 ev18 ?_ ?_ x_v37.2.1) <;> omega) | (refine RGR_g ?_ x_v277.1 (RF_T h1 eF44 ev43 tv39 ev42 ?_ ?_ x_v277.2.1) <;> omega) | (refine RGR_g ?_ x_v517.1 (RF_W eF69 ?_ x_v517.2.1) <;> omega) | (refine RGR.to (RGR.seq (F' := [(22, 999), (33, 0)]) (RGR_g ?_ x_v767.1 (GR_nx (fun _ => st_fI ?_) x_v767.2.1)) (RGR.cons (RG.r (TNK.rg x_v877 (by decide))))) (FR5_o eF107 (Or.inr ?_)) <;> omega) | (refine RGR.seq (F' := [(22, 999), (33, 0)]) (RGR_g ?_ x_v767.1 (GR_nx (fun _ => st_fI ?_) x_v767.2.1)) (RGR.cons (RG.r (TNK.rg x_v877 (by decide)))) <;> omega) | (exact RGR_id (fun q9 => ⟨hms q9, GR.rf⟩))), Or.inl (by decide), (by rw [eF107]; exact upd_ne (by first | decide | omega))⟩) dX12_readFlag_125
      · skip
        have tc54 := f_ne (k := 0) (by decide) c54
        replace x_v516 := x_v516.resolve_left tc54
        replace x_v517 := x_v517.resolve_left tc54
        clear x_v518
        refine lv_aload_n hx hb dX12_readFlag_57 rfl (lv_at hl 0 rfl) ?_
        refine x_getk (ci := 12) (C := RX12) (F := TX12) (N := 36) (v := .ref y4) hx hb hts uX12 hown hkb hH 0 rfl rfl 4 (by decide) rfl kw_1227 (fun _ h9 => h9) dX12_readFlag_58 ?_
        refine lv_bipush (v := 6) hx hb dX12_readFlag_61 (by decide) ?_
        refine lv_dup2_11 hx hb dX12_readFlag_63 rfl rfl ?_
        refine xa_ild hx hb hkb hH 2 rfl (by decide) (by decide) dX12_readFlag_64 ?_
        refine lv_topi (fun v64 ev64 => ?_)
        have tv64 : v64 = f4 6 := by rw [ev64]; rfl
        have bv64 : 0 ≤ v64.toInt ∧ v64.toInt ≤ 16383 := by rw [tv64]; exact s_f4.2.2.2.2.1
        refine lv_iconst (v := 1) hx hb dX12_readFlag_65 (by decide) ?_
        refine lv_iload_n hx hb dX12_readFlag_66 rfl (lv_at hl 1 rfl) ?_
        refine lv_ishl hx hb dX12_readFlag_67 ?_
        refine lv_topi (fun v67 ev67 => ?_)
        have tv67 : 1 ≤ v67.toInt ∧ v67.toInt ≤ 8192 := by rw [ev67]; exact shl_b 13 (by decide) (by omega) (by omega)
        refine lv_ior hx hb dX12_readFlag_68 ?_
        refine lv_topi (fun v68 ev68 => ?_)
        have tv68 : 0 ≤ v68.toInt ∧ v68.toInt < 16384 := by rw [ev68]; exact or_b 14 (by decide) (by omega) (by omega) (by omega) (by omega)
        refine xa_ist hx hb hkb hH hS 2 rfl (by decide) (by decide) dX12_readFlag_69 (fun H locs hH hS => ?_)
        have hH : HT D cs A T (a0 :: y3 :: y4 :: O) ((a0, .inr (12, o0 :: o1 :: o2 :: (.ref y3) :: (.ref y4) :: o5 :: (.int n51_0_6) :: (.int n51_0_7) :: (.int y8) :: (.int n51_0_9) :: (.int n51_0_10) :: (.int y11) :: (.int y12) :: tl)) :: (y3, .inl (cs.2.1, 900, .inl f3)) :: (y4, .inl (cs.2.1, 1302, .inl (upd f4 (6) v68))) :: X) H := hH
        obtain ⟨F69, eF69⟩ : ∃ f9, f9 = upd f4 (6) v68 := ⟨_, rfl⟩
        have hH : HT D cs A T (a0 :: y3 :: y4 :: O) ((a0, .inr (12, o0 :: o1 :: o2 :: (.ref y3) :: (.ref y4) :: o5 :: (.int n51_0_6) :: (.int n51_0_7) :: (.int y8) :: (.int n51_0_9) :: (.int n51_0_10) :: (.int y11) :: (.int y12) :: tl)) :: (y3, .inl (cs.2.1, 900, .inl f3)) :: (y4, .inl (cs.2.1, 1302, .inl F69)) :: X) H := eF69 ▸ hH
        have s_F69 : S8 F69 := eF69 ▸ S8_put (i := 6) (x := v68) s_f4 (by decide) (by decide) (⟨fun q9 => absurd q9 (by decide), fun q9 => absurd q9 (by decide), fun q9 => absurd q9 (by decide), fun q9 => absurd q9 (by decide), fun _ => ⟨by omega, by omega⟩, fun q9 => absurd q9 (by decide), fun q9 => absurd q9 (by decide)⟩)
        refine lv_goto (tgt := 113) hx hb dX12_readFlag_70 (by decide) ?_
        refine lv_aload_n hx hb dX12_readFlag_113 rfl (lv_at hl 0 rfl) ?_
        refine x_getk (ci := 12) (C := RX12) (F := TX12) (N := 36) (v := .int y11) hx hb hts uX12 hown hkb hH 0 rfl rfl 11 (by decide) rfl kw_1234 (fun _ h9 => h9) dX12_readFlag_114 ?_
        refine lv_if_ne (tgt := 124) hx hb dX12_readFlag_117 (by decide) (fun c117 => ?_) (fun c117 => ?_)
        · skip
          have tc117 := f_ne (k := 0) (by decide) c117
          refine lv_iconst (v := 0) hx hb dX12_readFlag_124 (by decide) ?_
          have z9_0 : (0 : Int32).toInt = 0 := by decide
          exact te_z hx hb hr hlocks (by rfl) hH hS (⟨n51_0_6, n51_0_7, n51_0_9, n51_0_10, y11, y12, F69, rfl, by decide, by decide, s_F69, by omega, by omega, by omega, x_v513, by omega, by omega, by omega, (by rw [eF69]; exact upd_ne (by first | decide | omega)), (by first | (refine RGR_g ?_ x_v37.1 (RF_S h1 eF20 ev19 tv15 ev18 ?_ ?_ x_v37.2.1) <;> omega) | (refine RGR_g ?_ x_v277.1 (RF_T h1 eF44 ev43 tv39 ev42 ?_ ?_ x_v277.2.1) <;> omega) | (refine RGR_g ?_ x_v517.1 (RF_W eF69 ?_ x_v517.2.1) <;> omega) | (refine RGR.to (RGR.seq (F' := [(22, 999), (33, 0)]) (RGR_g ?_ x_v767.1 (GR_nx (fun _ => st_fI ?_) x_v767.2.1)) (RGR.cons (RG.r (TNK.rg x_v877 (by decide))))) (FR5_o eF107 (Or.inr ?_)) <;> omega) | (refine RGR.seq (F' := [(22, 999), (33, 0)]) (RGR_g ?_ x_v767.1 (GR_nx (fun _ => st_fI ?_) x_v767.2.1)) (RGR.cons (RG.r (TNK.rg x_v877 (by decide)))) <;> omega) | (exact RGR_id (fun q9 => ⟨hms q9, GR.rf⟩))), (by first | (refine Or.inr (Or.inl ?_); omega) | (exfalso; omega) | (refine Or.inr ?_; by_cases q9 : y11.toInt = 0; exact Or.inr (by have q8 := (hms q9).2.2.2.1; omega); exact Or.inl q9)), (by rw [eF69]; exact upd_ne (by first | decide | omega))⟩) dX12_readFlag_125
        · skip
          have tc117 := f_eq (k := 0) (by decide) c117
          refine lv_iconst (v := 1) hx hb dX12_readFlag_120 (by decide) ?_
          refine lv_goto (tgt := 125) hx hb dX12_readFlag_121 (by decide) ?_
          have z9_1 : (1 : Int32).toInt = 1 := by decide
          exact te_z hx hb hr hlocks (by rfl) hH hS (⟨n51_0_6, n51_0_7, n51_0_9, n51_0_10, y11, y12, F69, rfl, by decide, by decide, s_F69, by omega, by omega, by omega, x_v513, by omega, by omega, by omega, (by rw [eF69]; exact upd_ne (by first | decide | omega)), (by first | (refine RGR_g ?_ x_v37.1 (RF_S h1 eF20 ev19 tv15 ev18 ?_ ?_ x_v37.2.1) <;> omega) | (refine RGR_g ?_ x_v277.1 (RF_T h1 eF44 ev43 tv39 ev42 ?_ ?_ x_v277.2.1) <;> omega) | (refine RGR_g ?_ x_v517.1 (RF_W eF69 ?_ x_v517.2.1) <;> omega) | (refine RGR.to (RGR.seq (F' := [(22, 999), (33, 0)]) (RGR_g ?_ x_v767.1 (GR_nx (fun _ => st_fI ?_) x_v767.2.1)) (RGR.cons (RG.r (TNK.rg x_v877 (by decide))))) (FR5_o eF107 (Or.inr ?_)) <;> omega) | (refine RGR.seq (F' := [(22, 999), (33, 0)]) (RGR_g ?_ x_v767.1 (GR_nx (fun _ => st_fI ?_) x_v767.2.1)) (RGR.cons (RG.r (TNK.rg x_v877 (by decide)))) <;> omega) | (exact RGR_id (fun q9 => ⟨hms q9, GR.rf⟩))), Or.inl (by decide), (by rw [eF69]; exact upd_ne (by first | decide | omega))⟩) dX12_readFlag_125
    · skip
      have tc30 := f_ne (k := 0) (by decide) c30
      replace x_v276 := x_v276.resolve_left tc30
      replace x_v277 := x_v277.resolve_left tc30
      clear x_v278
      refine lv_aload_n hx hb dX12_readFlag_33 rfl (lv_at hl 0 rfl) ?_
      refine x_getk (ci := 12) (C := RX12) (F := TX12) (N := 36) (v := .ref y4) hx hb hts uX12 hown hkb hH 0 rfl rfl 4 (by decide) rfl kw_1227 (fun _ h9 => h9) dX12_readFlag_34 ?_
      refine lv_iconst (v := 5) hx hb dX12_readFlag_37 (by decide) ?_
      refine lv_dup2_11 hx hb dX12_readFlag_38 rfl rfl ?_
      refine xa_ild hx hb hkb hH 2 rfl (by decide) (by decide) dX12_readFlag_39 ?_
      refine lv_topi (fun v39 ev39 => ?_)
      have tv39 : v39 = f4 5 := by rw [ev39]; rfl
      have bv39 : 0 ≤ v39.toInt ∧ v39.toInt ≤ 16383 := by rw [tv39]; exact s_f4.2.2.2.1
      refine lv_iconst (v := 1) hx hb dX12_readFlag_40 (by decide) ?_
      refine lv_iload_n hx hb dX12_readFlag_41 rfl (lv_at hl 1 rfl) ?_
      refine lv_ishl hx hb dX12_readFlag_42 ?_
      refine lv_topi (fun v42 ev42 => ?_)
      have tv42 : 1 ≤ v42.toInt ∧ v42.toInt ≤ 8192 := by rw [ev42]; exact shl_b 13 (by decide) (by omega) (by omega)
      refine lv_ior hx hb dX12_readFlag_43 ?_
      refine lv_topi (fun v43 ev43 => ?_)
      have tv43 : 0 ≤ v43.toInt ∧ v43.toInt < 16384 := by rw [ev43]; exact or_b 14 (by decide) (by omega) (by omega) (by omega) (by omega)
      refine xa_ist hx hb hkb hH hS 2 rfl (by decide) (by decide) dX12_readFlag_44 (fun H locs hH hS => ?_)
      have hH : HT D cs A T (a0 :: y3 :: y4 :: O) ((a0, .inr (12, o0 :: o1 :: o2 :: (.ref y3) :: (.ref y4) :: o5 :: (.int n27_0_6) :: (.int n27_0_7) :: (.int y8) :: (.int n27_0_9) :: (.int n27_0_10) :: (.int y11) :: (.int y12) :: tl)) :: (y3, .inl (cs.2.1, 900, .inl f3)) :: (y4, .inl (cs.2.1, 1302, .inl (upd f4 (5) v43))) :: X) H := hH
      obtain ⟨F44, eF44⟩ : ∃ f9, f9 = upd f4 (5) v43 := ⟨_, rfl⟩
      have hH : HT D cs A T (a0 :: y3 :: y4 :: O) ((a0, .inr (12, o0 :: o1 :: o2 :: (.ref y3) :: (.ref y4) :: o5 :: (.int n27_0_6) :: (.int n27_0_7) :: (.int y8) :: (.int n27_0_9) :: (.int n27_0_10) :: (.int y11) :: (.int y12) :: tl)) :: (y3, .inl (cs.2.1, 900, .inl f3)) :: (y4, .inl (cs.2.1, 1302, .inl F44)) :: X) H := eF44 ▸ hH
      have s_F44 : S8 F44 := eF44 ▸ S8_put (i := 5) (x := v43) s_f4 (by decide) (by decide) (⟨fun q9 => absurd q9 (by decide), fun q9 => absurd q9 (by decide), fun q9 => absurd q9 (by decide), fun _ => ⟨by omega, by omega⟩, fun q9 => absurd q9 (by decide), fun q9 => absurd q9 (by decide), fun q9 => absurd q9 (by decide)⟩)
      refine lv_goto (tgt := 113) hx hb dX12_readFlag_45 (by decide) ?_
      refine lv_aload_n hx hb dX12_readFlag_113 rfl (lv_at hl 0 rfl) ?_
      refine x_getk (ci := 12) (C := RX12) (F := TX12) (N := 36) (v := .int y11) hx hb hts uX12 hown hkb hH 0 rfl rfl 11 (by decide) rfl kw_1234 (fun _ h9 => h9) dX12_readFlag_114 ?_
      refine lv_if_ne (tgt := 124) hx hb dX12_readFlag_117 (by decide) (fun c117 => ?_) (fun c117 => ?_)
      · skip
        have tc117 := f_ne (k := 0) (by decide) c117
        refine lv_iconst (v := 0) hx hb dX12_readFlag_124 (by decide) ?_
        have z9_0 : (0 : Int32).toInt = 0 := by decide
        exact te_z hx hb hr hlocks (by rfl) hH hS (⟨n27_0_6, n27_0_7, n27_0_9, n27_0_10, y11, y12, F44, rfl, by decide, by decide, s_F44, by omega, by omega, by omega, x_v273, by omega, by omega, by omega, (by rw [eF44]; exact upd_ne (by first | decide | omega)), (by first | (refine RGR_g ?_ x_v37.1 (RF_S h1 eF20 ev19 tv15 ev18 ?_ ?_ x_v37.2.1) <;> omega) | (refine RGR_g ?_ x_v277.1 (RF_T h1 eF44 ev43 tv39 ev42 ?_ ?_ x_v277.2.1) <;> omega) | (refine RGR_g ?_ x_v517.1 (RF_W eF69 ?_ x_v517.2.1) <;> omega) | (refine RGR.to (RGR.seq (F' := [(22, 999), (33, 0)]) (RGR_g ?_ x_v767.1 (GR_nx (fun _ => st_fI ?_) x_v767.2.1)) (RGR.cons (RG.r (TNK.rg x_v877 (by decide))))) (FR5_o eF107 (Or.inr ?_)) <;> omega) | (refine RGR.seq (F' := [(22, 999), (33, 0)]) (RGR_g ?_ x_v767.1 (GR_nx (fun _ => st_fI ?_) x_v767.2.1)) (RGR.cons (RG.r (TNK.rg x_v877 (by decide)))) <;> omega) | (exact RGR_id (fun q9 => ⟨hms q9, GR.rf⟩))), (by first | (refine Or.inr (Or.inl ?_); omega) | (exfalso; omega) | (refine Or.inr ?_; by_cases q9 : y11.toInt = 0; exact Or.inr (by have q8 := (hms q9).2.2.2.1; omega); exact Or.inl q9)), (by rw [eF44]; exact upd_ne (by first | decide | omega))⟩) dX12_readFlag_125
      · skip
        have tc117 := f_eq (k := 0) (by decide) c117
        refine lv_iconst (v := 1) hx hb dX12_readFlag_120 (by decide) ?_
        refine lv_goto (tgt := 125) hx hb dX12_readFlag_121 (by decide) ?_
        have z9_1 : (1 : Int32).toInt = 1 := by decide
        exact te_z hx hb hr hlocks (by rfl) hH hS (⟨n27_0_6, n27_0_7, n27_0_9, n27_0_10, y11, y12, F44, rfl, by decide, by decide, s_F44, by omega, by omega, by omega, x_v273, by omega, by omega, by omega, (by rw [eF44]; exact upd_ne (by first | decide | omega)), (by first | (refine RGR_g ?_ x_v37.1 (RF_S h1 eF20 ev19 tv15 ev18 ?_ ?_ x_v37.2.1) <;> omega) | (refine RGR_g ?_ x_v277.1 (RF_T h1 eF44 ev43 tv39 ev42 ?_ ?_ x_v277.2.1) <;> omega) | (refine RGR_g ?_ x_v517.1 (RF_W eF69 ?_ x_v517.2.1) <;> omega) | (refine RGR.to (RGR.seq (F' := [(22, 999), (33, 0)]) (RGR_g ?_ x_v767.1 (GR_nx (fun _ => st_fI ?_) x_v767.2.1)) (RGR.cons (RG.r (TNK.rg x_v877 (by decide))))) (FR5_o eF107 (Or.inr ?_)) <;> omega) | (refine RGR.seq (F' := [(22, 999), (33, 0)]) (RGR_g ?_ x_v767.1 (GR_nx (fun _ => st_fI ?_) x_v767.2.1)) (RGR.cons (RG.r (TNK.rg x_v877 (by decide)))) <;> omega) | (exact RGR_id (fun q9 => ⟨hms q9, GR.rf⟩))), Or.inl (by decide), (by rw [eF44]; exact upd_ne (by first | decide | omega))⟩) dX12_readFlag_125
  · skip
    have tc6 := f_ne (k := 0) (by decide) c6
    replace x_v36 := x_v36.resolve_left tc6
    replace x_v37 := x_v37.resolve_left tc6
    clear x_v38
    refine lv_aload_n hx hb dX12_readFlag_9 rfl (lv_at hl 0 rfl) ?_
    refine x_getk (ci := 12) (C := RX12) (F := TX12) (N := 36) (v := .ref y4) hx hb hts uX12 hown hkb hH 0 rfl rfl 4 (by decide) rfl kw_1227 (fun _ h9 => h9) dX12_readFlag_10 ?_
    refine lv_iconst (v := 4) hx hb dX12_readFlag_13 (by decide) ?_
    refine lv_dup2_11 hx hb dX12_readFlag_14 rfl rfl ?_
    refine xa_ild hx hb hkb hH 2 rfl (by decide) (by decide) dX12_readFlag_15 ?_
    refine lv_topi (fun v15 ev15 => ?_)
    have tv15 : v15 = f4 4 := by rw [ev15]; rfl
    have bv15 : 0 ≤ v15.toInt ∧ v15.toInt ≤ 16383 := by rw [tv15]; exact s_f4.2.2.1
    refine lv_iconst (v := 1) hx hb dX12_readFlag_16 (by decide) ?_
    refine lv_iload_n hx hb dX12_readFlag_17 rfl (lv_at hl 1 rfl) ?_
    refine lv_ishl hx hb dX12_readFlag_18 ?_
    refine lv_topi (fun v18 ev18 => ?_)
    have tv18 : 1 ≤ v18.toInt ∧ v18.toInt ≤ 8192 := by rw [ev18]; exact shl_b 13 (by decide) (by omega) (by omega)
    refine lv_ior hx hb dX12_readFlag_19 ?_
    refine lv_topi (fun v19 ev19 => ?_)
    have tv19 : 0 ≤ v19.toInt ∧ v19.toInt < 16384 := by rw [ev19]; exact or_b 14 (by decide) (by omega) (by omega) (by omega) (by omega)
    refine xa_ist hx hb hkb hH hS 2 rfl (by decide) (by decide) dX12_readFlag_20 (fun H locs hH hS => ?_)
    have hH : HT D cs A T (a0 :: y3 :: y4 :: O) ((a0, .inr (12, o0 :: o1 :: o2 :: (.ref y3) :: (.ref y4) :: o5 :: (.int n3_0_6) :: (.int n3_0_7) :: (.int y8) :: (.int n3_0_9) :: (.int n3_0_10) :: (.int y11) :: (.int y12) :: tl)) :: (y3, .inl (cs.2.1, 900, .inl f3)) :: (y4, .inl (cs.2.1, 1302, .inl (upd f4 (4) v19))) :: X) H := hH
    obtain ⟨F20, eF20⟩ : ∃ f9, f9 = upd f4 (4) v19 := ⟨_, rfl⟩
    have hH : HT D cs A T (a0 :: y3 :: y4 :: O) ((a0, .inr (12, o0 :: o1 :: o2 :: (.ref y3) :: (.ref y4) :: o5 :: (.int n3_0_6) :: (.int n3_0_7) :: (.int y8) :: (.int n3_0_9) :: (.int n3_0_10) :: (.int y11) :: (.int y12) :: tl)) :: (y3, .inl (cs.2.1, 900, .inl f3)) :: (y4, .inl (cs.2.1, 1302, .inl F20)) :: X) H := eF20 ▸ hH
    have s_F20 : S8 F20 := eF20 ▸ S8_put (i := 4) (x := v19) s_f4 (by decide) (by decide) (⟨fun q9 => absurd q9 (by decide), fun q9 => absurd q9 (by decide), fun _ => ⟨by omega, by omega⟩, fun q9 => absurd q9 (by decide), fun q9 => absurd q9 (by decide), fun q9 => absurd q9 (by decide), fun q9 => absurd q9 (by decide)⟩)
    refine lv_goto (tgt := 113) hx hb dX12_readFlag_21 (by decide) ?_
    refine lv_aload_n hx hb dX12_readFlag_113 rfl (lv_at hl 0 rfl) ?_
    refine x_getk (ci := 12) (C := RX12) (F := TX12) (N := 36) (v := .int y11) hx hb hts uX12 hown hkb hH 0 rfl rfl 11 (by decide) rfl kw_1234 (fun _ h9 => h9) dX12_readFlag_114 ?_
    refine lv_if_ne (tgt := 124) hx hb dX12_readFlag_117 (by decide) (fun c117 => ?_) (fun c117 => ?_)
    · skip
      have tc117 := f_ne (k := 0) (by decide) c117
      refine lv_iconst (v := 0) hx hb dX12_readFlag_124 (by decide) ?_
      have z9_0 : (0 : Int32).toInt = 0 := by decide
      exact te_z hx hb hr hlocks (by rfl) hH hS (⟨n3_0_6, n3_0_7, n3_0_9, n3_0_10, y11, y12, F20, rfl, by decide, by decide, s_F20, by omega, by omega, by omega, x_v33, by omega, by omega, by omega, (by rw [eF20]; exact upd_ne (by first | decide | omega)), (by first | (refine RGR_g ?_ x_v37.1 (RF_S h1 eF20 ev19 tv15 ev18 ?_ ?_ x_v37.2.1) <;> omega) | (refine RGR_g ?_ x_v277.1 (RF_T h1 eF44 ev43 tv39 ev42 ?_ ?_ x_v277.2.1) <;> omega) | (refine RGR_g ?_ x_v517.1 (RF_W eF69 ?_ x_v517.2.1) <;> omega) | (refine RGR.to (RGR.seq (F' := [(22, 999), (33, 0)]) (RGR_g ?_ x_v767.1 (GR_nx (fun _ => st_fI ?_) x_v767.2.1)) (RGR.cons (RG.r (TNK.rg x_v877 (by decide))))) (FR5_o eF107 (Or.inr ?_)) <;> omega) | (refine RGR.seq (F' := [(22, 999), (33, 0)]) (RGR_g ?_ x_v767.1 (GR_nx (fun _ => st_fI ?_) x_v767.2.1)) (RGR.cons (RG.r (TNK.rg x_v877 (by decide)))) <;> omega) | (exact RGR_id (fun q9 => ⟨hms q9, GR.rf⟩))), (by first | (refine Or.inr (Or.inl ?_); omega) | (exfalso; omega) | (refine Or.inr ?_; by_cases q9 : y11.toInt = 0; exact Or.inr (by have q8 := (hms q9).2.2.2.1; omega); exact Or.inl q9)), (by rw [eF20]; exact upd_ne (by first | decide | omega))⟩) dX12_readFlag_125
    · skip
      have tc117 := f_eq (k := 0) (by decide) c117
      refine lv_iconst (v := 1) hx hb dX12_readFlag_120 (by decide) ?_
      refine lv_goto (tgt := 125) hx hb dX12_readFlag_121 (by decide) ?_
      have z9_1 : (1 : Int32).toInt = 1 := by decide
      exact te_z hx hb hr hlocks (by rfl) hH hS (⟨n3_0_6, n3_0_7, n3_0_9, n3_0_10, y11, y12, F20, rfl, by decide, by decide, s_F20, by omega, by omega, by omega, x_v33, by omega, by omega, by omega, (by rw [eF20]; exact upd_ne (by first | decide | omega)), (by first | (refine RGR_g ?_ x_v37.1 (RF_S h1 eF20 ev19 tv15 ev18 ?_ ?_ x_v37.2.1) <;> omega) | (refine RGR_g ?_ x_v277.1 (RF_T h1 eF44 ev43 tv39 ev42 ?_ ?_ x_v277.2.1) <;> omega) | (refine RGR_g ?_ x_v517.1 (RF_W eF69 ?_ x_v517.2.1) <;> omega) | (refine RGR.to (RGR.seq (F' := [(22, 999), (33, 0)]) (RGR_g ?_ x_v767.1 (GR_nx (fun _ => st_fI ?_) x_v767.2.1)) (RGR.cons (RG.r (TNK.rg x_v877 (by decide))))) (FR5_o eF107 (Or.inr ?_)) <;> omega) | (refine RGR.seq (F' := [(22, 999), (33, 0)]) (RGR_g ?_ x_v767.1 (GR_nx (fun _ => st_fI ?_) x_v767.2.1)) (RGR.cons (RG.r (TNK.rg x_v877 (by decide)))) <;> omega) | (exact RGR_id (fun q9 => ⟨hms q9, GR.rf⟩))), Or.inl (by decide), (by rw [eF20]; exact upd_ne (by first | decide | omega))⟩) dX12_readFlag_125
theorem dX12_readHold_0 : decode cX12_readHold 0 = .ok (.aload_n 0, 1) := by decide +kernel
theorem dX12_readHold_1 : decode cX12_readHold 1 = .ok (.getfield 24, 3) := by decide +kernel
theorem dX12_readHold_4 : decode cX12_readHold 4 = .ok (.iconst 1, 1) := by decide +kernel
theorem dX12_readHold_5 : decode cX12_readHold 5 = .ok (.iaload, 1) := by decide +kernel
theorem dX12_readHold_6 : decode cX12_readHold 6 = .ok (.istore_n 1, 1) := by decide +kernel
theorem dX12_readHold_7 : decode cX12_readHold 7 = .ok (.iload_n 1, 1) := by decide +kernel
theorem dX12_readHold_8 : decode cX12_readHold 8 = .ok (.bipush 14, 2) := by decide +kernel
theorem dX12_readHold_10 : decode cX12_readHold 10 = .ok (.if_icmp .ne 8, 3) := by decide +kernel
theorem dX12_readHold_13 : decode cX12_readHold 13 = .ok (.aload_n 0, 1) := by decide +kernel
theorem dX12_readHold_14 : decode cX12_readHold 14 = .ok (.iconst 4, 1) := by decide +kernel
theorem dX12_readHold_15 : decode cX12_readHold 15 = .ok (.invokevirtual 140, 3) := by decide +kernel
theorem dX12_readHold_18 : decode cX12_readHold 18 = .ok (.aload_n 0, 1) := by decide +kernel
theorem dX12_readHold_19 : decode cX12_readHold 19 = .ok (.getfield 128, 3) := by decide +kernel
theorem dX12_readHold_22 : decode cX12_readHold 22 = .ok (.ifCond .eq 4, 3) := by decide +kernel
theorem dX12_readHold_25 : decode cX12_readHold 25 = .ok (.return_, 1) := by decide +kernel
theorem dX12_readHold_26 : decode cX12_readHold 26 = .ok (.aload_n 0, 1) := by decide +kernel
theorem dX12_readHold_27 : decode cX12_readHold 27 = .ok (.invokevirtual 137, 3) := by decide +kernel
theorem dX12_readHold_30 : decode cX12_readHold 30 = .ok (.aload_n 0, 1) := by decide +kernel
theorem dX12_readHold_31 : decode cX12_readHold 31 = .ok (.iconst 0, 1) := by decide +kernel
theorem dX12_readHold_32 : decode cX12_readHold 32 = .ok (.bipush 99, 2) := by decide +kernel
theorem dX12_readHold_34 : decode cX12_readHold 34 = .ok (.invokevirtual 179, 3) := by decide +kernel
theorem dX12_readHold_37 : decode cX12_readHold 37 = .ok (.istore_n 2, 1) := by decide +kernel
theorem dX12_readHold_38 : decode cX12_readHold 38 = .ok (.aload_n 0, 1) := by decide +kernel
theorem dX12_readHold_39 : decode cX12_readHold 39 = .ok (.iconst 0, 1) := by decide +kernel
theorem dX12_readHold_40 : decode cX12_readHold 40 = .ok (.bipush 99, 2) := by decide +kernel
theorem dX12_readHold_42 : decode cX12_readHold 42 = .ok (.invokevirtual 179, 3) := by decide +kernel
theorem dX12_readHold_45 : decode cX12_readHold 45 = .ok (.istore_n 3, 1) := by decide +kernel
theorem dX12_readHold_46 : decode cX12_readHold 46 = .ok (.aload_n 0, 1) := by decide +kernel
theorem dX12_readHold_47 : decode cX12_readHold 47 = .ok (.getfield 128, 3) := by decide +kernel
theorem dX12_readHold_50 : decode cX12_readHold 50 = .ok (.ifCond .eq 4, 3) := by decide +kernel
theorem dX12_readHold_53 : decode cX12_readHold 53 = .ok (.return_, 1) := by decide +kernel
theorem dX12_readHold_54 : decode cX12_readHold 54 = .ok (.aload_n 0, 1) := by decide +kernel
theorem dX12_readHold_55 : decode cX12_readHold 55 = .ok (.getfield 24, 3) := by decide +kernel
theorem dX12_readHold_58 : decode cX12_readHold 58 = .ok (.bipush 7, 2) := by decide +kernel
theorem dX12_readHold_60 : decode cX12_readHold 60 = .ok (.iload_n 1, 1) := by decide +kernel
theorem dX12_readHold_61 : decode cX12_readHold 61 = .ok (.iadd, 1) := by decide +kernel
theorem dX12_readHold_62 : decode cX12_readHold 62 = .ok (.iload_n 2, 1) := by decide +kernel
theorem dX12_readHold_63 : decode cX12_readHold 63 = .ok (.iastore, 1) := by decide +kernel
theorem dX12_readHold_64 : decode cX12_readHold 64 = .ok (.aload_n 0, 1) := by decide +kernel
theorem dX12_readHold_65 : decode cX12_readHold 65 = .ok (.getfield 24, 3) := by decide +kernel
theorem dX12_readHold_68 : decode cX12_readHold 68 = .ok (.bipush 21, 2) := by decide +kernel
theorem dX12_readHold_70 : decode cX12_readHold 70 = .ok (.iload_n 1, 1) := by decide +kernel
theorem dX12_readHold_71 : decode cX12_readHold 71 = .ok (.iadd, 1) := by decide +kernel
theorem dX12_readHold_72 : decode cX12_readHold 72 = .ok (.iload_n 3, 1) := by decide +kernel
theorem dX12_readHold_73 : decode cX12_readHold 73 = .ok (.iastore, 1) := by decide +kernel
theorem dX12_readHold_74 : decode cX12_readHold 74 = .ok (.aload_n 0, 1) := by decide +kernel
theorem dX12_readHold_75 : decode cX12_readHold 75 = .ok (.iload_n 1, 1) := by decide +kernel
theorem dX12_readHold_76 : decode cX12_readHold 76 = .ok (.invokevirtual 183, 3) := by decide +kernel
theorem dX12_readHold_79 : decode cX12_readHold 79 = .ok (.ifCond .eq 6, 3) := by decide +kernel
theorem dX12_readHold_82 : decode cX12_readHold 82 = .ok (.goto (-8), 3) := by decide +kernel
theorem dX12_readHold_85 : decode cX12_readHold 85 = .ok (.aload_n 0, 1) := by decide +kernel
theorem dX12_readHold_86 : decode cX12_readHold 86 = .ok (.getfield 128, 3) := by decide +kernel
theorem dX12_readHold_89 : decode cX12_readHold 89 = .ok (.ifCond .ne 13, 3) := by decide +kernel
theorem dX12_readHold_92 : decode cX12_readHold 92 = .ok (.aload_n 0, 1) := by decide +kernel
theorem dX12_readHold_93 : decode cX12_readHold 93 = .ok (.getfield 24, 3) := by decide +kernel
theorem dX12_readHold_96 : decode cX12_readHold 96 = .ok (.iconst 1, 1) := by decide +kernel
theorem dX12_readHold_97 : decode cX12_readHold 97 = .ok (.dup2, 1) := by decide +kernel
theorem dX12_readHold_98 : decode cX12_readHold 98 = .ok (.iaload, 1) := by decide +kernel
theorem dX12_readHold_99 : decode cX12_readHold 99 = .ok (.iconst 1, 1) := by decide +kernel
theorem dX12_readHold_100 : decode cX12_readHold 100 = .ok (.iadd, 1) := by decide +kernel
theorem dX12_readHold_101 : decode cX12_readHold 101 = .ok (.iastore, 1) := by decide +kernel
theorem dX12_readHold_102 : decode cX12_readHold 102 = .ok (.return_, 1) := by decide +kernel
theorem kw_1386 : Cond.methodLink "FootholdWallModel" 183 yX12_readFlag ∈ gw := gw_of (tb_of 1386 (by decide +kernel)) (by decide +kernel)
theorem kw_1388 : Cond.instanceMethod yX12_readFlag ∈ gw := gw_of (tb_of 1388 (by decide +kernel)) (by decide +kernel)
theorem kw_1389 : Cond.code yX12_readFlag cX12_readFlag 3 (some (.boolean)) ∈ gw := gw_of (tb_of 1389 (by decide +kernel)) (by decide +kernel)
theorem ks_51 : Cond.selects RX12 yX12_readFlag yX12_readFlag ∈ gw := gw_of (pv_of 51 (by decide +kernel)) (by decide +kernel)
set_option maxHeartbeats 4000000 in
set_option maxRecDepth 100000 in
theorem s_M_readHold (l : Launch) (D : va_G) (cs : CS) (kf : KF) (T : TF) (O : List Nat) (X : va_W) (a0 hg mq : Nat) (o0 : Value) (o1 : Value) (o2 : Value) (y3 : Nat) (y4 : Nat) (o5 : Value) (y6 : Int32) (y7 : Int32) (y8 : Int32) (y9 : Int32) (y10 : Int32) (y11 : Int32) (y12 : Int32) (tl : List Value) (f3 : Nat → Int32) (f4 : Nat → Int32) (t : Tp) (tn : Nat) (t_a0 : T a0 = some (22, hg, mq)) (b_hg : hg < 90) (t_y3 : T y3 = some (9, 900, 0)) (t_y4 : T y4 = some (8, 1302, 0)) (l_y6 : 0 ≤ y6.toInt) (u_y6 : y6.toInt ≤ 900) (l_y7 : 0 ≤ y7.toInt) (u_y7 : y7.toInt ≤ 900) (l_y8 : 0 ≤ y8.toInt) (u_y8 : y8.toInt ≤ 900) (l_y10 : 0 ≤ y10.toInt) (u_y10 : y10.toInt ≤ 999) (s_f4 : S8 f4) (hn : y8.toInt = (tn : Int)) (htm : TM f3 t) (k1 : y6.toInt ≤ y7.toInt) (k2 : y7.toInt ≤ y8.toInt) (k3 : TK3 y9 y6 y7) (k5 : y11.toInt = 0) (k6 : y9.toInt ≠ 22) (hms : MSW t tn y11 y6 y7 y9 y10) (kk : y9.toInt = 0) (hO : okO T (a0 :: y3 :: y4 :: O) []) : TK l D cs kf yX12_readHold cX12_readHold 4 none { frames := 8, cells := 0, slots := 0, locals := 174 } [.ref a0] T (a0 :: y3 :: y4 :: O) ((a0, .inr (12, o0 :: o1 :: o2 :: (.ref y3) :: (.ref y4) :: o5 :: (.int y6) :: (.int y7) :: (.int y8) :: (.int y9) :: (.int y10) :: (.int y11) :: (.int y12) :: tl)) :: (y3, .inl (cs.2.1, 900, .inl f3)) :: (y4, .inl (cs.2.1, 1302, .inl f4)) :: X) (Tv D cs (fun u => ∃ (n0_6 : Int32) (n0_7 : Int32) (n0_9 : Int32) (n0_10 : Int32) (n0_11 : Int32) (n0_12 : Int32) (G2 : Nat → Int32), u = (T, a0 :: y3 :: y4 :: O, (a0, .inr (12, o0 :: o1 :: o2 :: (.ref y3) :: (.ref y4) :: o5 :: (.int n0_6) :: (.int n0_7) :: (.int y8) :: (.int n0_9) :: (.int n0_10) :: (.int n0_11) :: (.int n0_12) :: tl)) :: (y3, .inl (cs.2.1, 900, .inl f3)) :: (y4, .inl (cs.2.1, 1302, .inl G2)) :: X) ∧ (S8 G2) ∧ (y6.toInt ≤ n0_6.toInt) ∧ (n0_6.toInt ≤ n0_7.toInt) ∧ (n0_7.toInt ≤ y8.toInt) ∧ (TK3 n0_9 n0_6 n0_7) ∧ (0 ≤ n0_10.toInt) ∧ (n0_10.toInt ≤ 999) ∧ (RGR t tn [(31, 0)] [] (FR5 f4) (FR5 G2) y11 y12 y6 n0_11 n0_12 n0_6 n0_7 n0_9 n0_10) ∧ (G2 0 = f4 0))) := by
  refine tk_of (by decide) (Nat.le_of_ble_eq_true rfl) (fun p e s m below meth c ls A H locs hx hb hr hml hown hts hlocks hnm hkb hH hS hA hOX hks hE hl => ?_)
  have hown : s.vm.findClass RX12 = some m.cls := hown
  have hl : lv_has ls 4 [(0, .ref a0)] := hl
  have hOXf := hOX
  have hq1 := (hms k5).2.2.2.1
  refine lv_aload_n hx hb dX12_readHold_0 rfl (lv_at hl 0 rfl) ?_
  refine x_getk (ci := 12) (C := RX12) (F := TX12) (N := 36) (v := .ref y4) hx hb hts uX12 hown hkb hH 0 rfl rfl 4 (by decide) rfl kw_1227 (fun _ h9 => h9) dX12_readHold_1 ?_
  refine lv_iconst (v := 1) hx hb dX12_readHold_4 (by decide) ?_
  refine xa_ild hx hb hkb hH 2 rfl (by decide) (by decide) dX12_readHold_5 ?_
  refine lv_topi (fun v5 ev5 => ?_)
  have tv5 : v5 = f4 1 := by rw [ev5]; rfl
  have bv5 : 0 ≤ v5.toInt ∧ v5.toInt ≤ 14 := by rw [tv5]; exact s_f4.1
  refine lv_istore_n (lv' := [(1, .int v5), (0, .ref a0)]) hx hb dX12_readHold_6 rfl hl (by decide) rfl (fun ls hl => ?_)
  refine lv_iload_n hx hb dX12_readHold_7 rfl (lv_at hl 0 rfl) ?_
  refine lv_bipush (v := 14) hx hb dX12_readHold_8 (by decide) ?_
  have J74 : ∀ (n : Nat) (f74_106 : Int32) (f74_107 : Int32) (f74_109 : Int32) (f74_110 : Int32) (f74_111 : Int32) (f74_112 : Int32) (g74_2 : Nat → Int32) (H : Heap) (locs : List Loc) (ls : Array Slot), (900 - f74_106.toInt).toNat = n → (S8 g74_2) → (v5.toInt ≤ 13) → (0 ≤ f74_106.toInt) → (f74_106.toInt ≤ 900) → (0 ≤ f74_107.toInt) → (f74_107.toInt ≤ 900) → (0 ≤ f74_110.toInt) → (f74_110.toInt ≤ 999) → (f74_106.toInt ≤ f74_107.toInt) → (f74_107.toInt ≤ y8.toInt) → (TK3 f74_109 f74_106 f74_107) → (y6.toInt ≤ f74_106.toInt) → (g74_2 1 = f4 1) → (v5.toInt ≤ 13) → (g74_2 0 = f4 0) → (RGR t tn [(31, 0)] [(33, 0)] (FR5 f4) (FR5 g74_2) y11 y12 y6 f74_111 f74_112 f74_106 f74_107 f74_109 f74_110) → HT D cs A T (a0 :: y3 :: y4 :: O) ((a0, .inr (12, o0 :: o1 :: o2 :: (.ref y3) :: (.ref y4) :: o5 :: (.int f74_106) :: (.int f74_107) :: (.int y8) :: (.int f74_109) :: (.int f74_110) :: (.int f74_111) :: (.int f74_112) :: tl)) :: (y3, .inl (cs.2.1, 900, .inl f3)) :: (y4, .inl (cs.2.1, 1302, .inl g74_2)) :: X) H → va_S A s.heap H locs → lv_has ls 4 [(1, .int v5), (0, .ref a0)] → W p l e { frames := 8, cells := 0, slots := 0, locals := 174 } s m [.ref a0].toArray below meth c H locs 0 0 (MQ below (Tv D cs (fun u => ∃ (n0_6 : Int32) (n0_7 : Int32) (n0_9 : Int32) (n0_10 : Int32) (n0_11 : Int32) (n0_12 : Int32) (G2 : Nat → Int32), u = (T, a0 :: y3 :: y4 :: O, (a0, .inr (12, o0 :: o1 :: o2 :: (.ref y3) :: (.ref y4) :: o5 :: (.int n0_6) :: (.int n0_7) :: (.int y8) :: (.int n0_9) :: (.int n0_10) :: (.int n0_11) :: (.int n0_12) :: tl)) :: (y3, .inl (cs.2.1, 900, .inl f3)) :: (y4, .inl (cs.2.1, 1302, .inl G2)) :: X) ∧ (S8 G2) ∧ (y6.toInt ≤ n0_6.toInt) ∧ (n0_6.toInt ≤ n0_7.toInt) ∧ (n0_7.toInt ≤ y8.toInt) ∧ (TK3 n0_9 n0_6 n0_7) ∧ (0 ≤ n0_10.toInt) ∧ (n0_10.toInt ≤ 999) ∧ (RGR t tn [(31, 0)] [] (FR5 f4) (FR5 G2) y11 y12 y6 n0_11 n0_12 n0_6 n0_7 n0_9 n0_10) ∧ (G2 0 = f4 0)) A) [.ref a0].toArray s 0 0 A) (F0 m 74 ls []) := by
    intro n
    induction n using Nat.strongRecOn with
    | _ n ih74 =>
      intro f74_106 f74_107 f74_109 f74_110 f74_111 f74_112 g74_2 H locs ls hm74 s_g74_2 u_v5 l_f74_106 u_f74_106 l_f74_107 u_f74_107 l_f74_110 u_f74_110 ia74 ib74 ic74 id74 i74h i74v i74z ig74 hH hS hl
      refine lv_aload_n hx hb dX12_readHold_74 rfl (lv_at hl 1 rfl) ?_
      refine lv_iload_n hx hb dX12_readHold_75 rfl (lv_at hl 0 rfl) ?_
      refine tk_i hH hS hA (tr_V (n := 1) (As := [.int v5]) hx hb hml hown hts hkb hH (ox_map hOX rfl) hks hE hS hA (s_M_readFlag l D cs kf T O X a0 hg mq v5 o0 o1 o2 y3 y4 o5 f74_106 f74_107 y8 f74_109 f74_110 f74_111 f74_112 tl f3 g74_2 t tn t_a0 b_hg (by omega) (by omega) t_y3 t_y4 (by omega) (by omega) (by omega) (by omega) (by omega) (by omega) (by omega) (by omega) s_g74_2 (by omega) htm (by omega) (by omega) ic74 (i74h.trans tv5.symm) (RGR.msw ig74) (hO.sub (by decide))) kw_1386 kw_1388 ks_51 kw_13 kw_1389 (by decide +kernel) ⟨Nat.le_of_ble_eq_true rfl, Nat.le_of_ble_eq_true rfl⟩ (x_recv (ci := 12) hkb hH 0 rfl rfl) rfl rfl hl.1 (Nat.le_of_ble_eq_true rfl) dX12_readHold_76 ⟨Nat.le_of_ble_eq_true rfl, Nat.le_of_ble_eq_true rfl⟩) (fun v76 u H locs hz9 hH hS => ?_)
      obtain ⟨n76_0_6, n76_0_7, n76_0_9, n76_0_10, n76_0_11, n76_0_12, F76_2, rfl, l_v76, u_v76, x_v760, x_v761, x_v762, x_v763, x_v764, x_v765, x_v766, x_v767, x_v768, x_v769, x_v7610, x_v7611⟩ := hz9
      have s_F76_2 := x_v760
      have hH : HT D cs A T (a0 :: y3 :: y4 :: O) ((a0, .inr (12, o0 :: o1 :: o2 :: (.ref y3) :: (.ref y4) :: o5 :: (.int n76_0_6) :: (.int n76_0_7) :: (.int y8) :: (.int n76_0_9) :: (.int n76_0_10) :: (.int n76_0_11) :: (.int n76_0_12) :: tl)) :: (y3, .inl (cs.2.1, 900, .inl f3)) :: (y4, .inl (cs.2.1, 1302, .inl F76_2)) :: X) H := hH
      refine W.widen (k := 0) (n := 0) (Nat.le_of_ble_eq_true rfl) (Nat.le_of_ble_eq_true rfl) ?_
      refine lv_if_eq (tgt := 85) hx hb dX12_readHold_79 (by decide) (fun c79 => ?_) (fun c79 => ?_)
      · skip
        have tc79 := f_eq (k := 0) (by decide) c79
        clear x_v767
        replace x_v7610 := x_v7610.resolve_left (fun q9 => q9 tc79)
        refine lv_aload_n hx hb dX12_readHold_85 rfl (lv_at hl 1 rfl) ?_
        refine x_getk (ci := 12) (C := RX12) (F := TX12) (N := 36) (v := .int n76_0_11) hx hb hts uX12 hown hkb hH 0 rfl rfl 11 (by decide) rfl kw_1234 (fun _ h9 => h9) dX12_readHold_86 ?_
        refine lv_if_ne (tgt := 102) hx hb dX12_readHold_89 (by decide) (fun c89 => ?_) (fun c89 => ?_)
        · skip
          have tc89 := f_ne (k := 0) (by decide) c89
          exact te_v hx hb hr hlocks hH hS (⟨n76_0_6, n76_0_7, n76_0_9, n76_0_10, n76_0_11, n76_0_12, F76_2, rfl, s_F76_2, by omega, by omega, by omega, x_v764, by omega, by omega, (by first | (exact absurd k5 tc22) | (exact RGR_f (R := FR5 f4) (m := 4) (G := []) x_v151 hms (by decide) (by decide) (fun q9 _ => st_iHM (R := FR5 f4) (by omega) (by show 14 ≤ (f4 1).toInt.toNat; rw [← tv5]; omega))) | (exact RGR.any g46 tc50) | (exact RGR.any (ig74.seq x_v769) tc89) | (exact (ig74.seq x_v769).seq (RGR_id (fun q9 => ⟨RGR.msw x_v769 q9, RF_E eF101 tv98 tv100 (by omega) (x_v7610.resolve_left (fun z9 => z9 q9))⟩)))), (by first | rfl | exact x_v7611.trans i74z | (rw [eF101, upd_ne (by decide), x_v7611]; exact i74z))⟩) dX12_readHold_102
        · skip
          have tc89 := f_eq (k := 0) (by decide) c89
          refine lv_aload_n hx hb dX12_readHold_92 rfl (lv_at hl 1 rfl) ?_
          refine x_getk (ci := 12) (C := RX12) (F := TX12) (N := 36) (v := .ref y4) hx hb hts uX12 hown hkb hH 0 rfl rfl 4 (by decide) rfl kw_1227 (fun _ h9 => h9) dX12_readHold_93 ?_
          refine lv_iconst (v := 1) hx hb dX12_readHold_96 (by decide) ?_
          refine lv_dup2_11 hx hb dX12_readHold_97 rfl rfl ?_
          refine xa_ild hx hb hkb hH 2 rfl (by decide) (by decide) dX12_readHold_98 ?_
          refine lv_topi (fun v98 ev98 => ?_)
          have tv98 : v98 = F76_2 1 := by rw [ev98]; rfl
          have bv98 : 0 ≤ v98.toInt ∧ v98.toInt ≤ 14 := by rw [tv98]; exact s_F76_2.1
          have hh9 : v98 = v5 := by rw [tv98, x_v768, i74h, tv5]
          have hh8 : v98.toInt = v5.toInt := by rw [hh9]
          refine lv_iconst (v := 1) hx hb dX12_readHold_99 (by decide) ?_
          refine lv_iadd hx hb dX12_readHold_100 ?_
          refine lv_topi (fun v100 ev100 => ?_)
          have tv100 : v100.toInt = v98.toInt + (1) := by rw [ev100]; exact add_i rfl (by decide : (1 : Int32).toInt = 1) (by omega) (by omega)
          refine xa_ist hx hb hkb hH hS 2 rfl (by decide) (by decide) dX12_readHold_101 (fun H locs hH hS => ?_)
          have hH : HT D cs A T (a0 :: y3 :: y4 :: O) ((a0, .inr (12, o0 :: o1 :: o2 :: (.ref y3) :: (.ref y4) :: o5 :: (.int n76_0_6) :: (.int n76_0_7) :: (.int y8) :: (.int n76_0_9) :: (.int n76_0_10) :: (.int n76_0_11) :: (.int n76_0_12) :: tl)) :: (y3, .inl (cs.2.1, 900, .inl f3)) :: (y4, .inl (cs.2.1, 1302, .inl (upd F76_2 (1) v100))) :: X) H := hH
          obtain ⟨F101, eF101⟩ : ∃ f9, f9 = upd F76_2 (1) v100 := ⟨_, rfl⟩
          have hH : HT D cs A T (a0 :: y3 :: y4 :: O) ((a0, .inr (12, o0 :: o1 :: o2 :: (.ref y3) :: (.ref y4) :: o5 :: (.int n76_0_6) :: (.int n76_0_7) :: (.int y8) :: (.int n76_0_9) :: (.int n76_0_10) :: (.int n76_0_11) :: (.int n76_0_12) :: tl)) :: (y3, .inl (cs.2.1, 900, .inl f3)) :: (y4, .inl (cs.2.1, 1302, .inl F101)) :: X) H := eF101 ▸ hH
          have s_F101 : S8 F101 := eF101 ▸ S8_put (i := 1) (x := v100) s_F76_2 (by decide) (by decide) (⟨fun _ => ⟨by omega, by omega⟩, fun q9 => absurd q9 (by decide), fun q9 => absurd q9 (by decide), fun q9 => absurd q9 (by decide), fun q9 => absurd q9 (by decide), fun q9 => absurd q9 (by decide), fun q9 => absurd q9 (by decide)⟩)
          exact te_v hx hb hr hlocks hH hS (⟨n76_0_6, n76_0_7, n76_0_9, n76_0_10, n76_0_11, n76_0_12, F101, rfl, s_F101, by omega, by omega, by omega, x_v764, by omega, by omega, (by first | (exact absurd k5 tc22) | (exact RGR_f (R := FR5 f4) (m := 4) (G := []) x_v151 hms (by decide) (by decide) (fun q9 _ => st_iHM (R := FR5 f4) (by omega) (by show 14 ≤ (f4 1).toInt.toNat; rw [← tv5]; omega))) | (exact RGR.any g46 tc50) | (exact RGR.any (ig74.seq x_v769) tc89) | (exact (ig74.seq x_v769).seq (RGR_id (fun q9 => ⟨RGR.msw x_v769 q9, RF_E eF101 tv98 tv100 (by omega) (x_v7610.resolve_left (fun z9 => z9 q9))⟩)))), (by first | rfl | exact x_v7611.trans i74z | (rw [eF101, upd_ne (by decide), x_v7611]; exact i74z))⟩) dX12_readHold_102
      · skip
        have tc79 := f_ne (k := 0) (by decide) c79
        replace x_v767 := x_v767.resolve_left tc79
        clear x_v7610
        refine lv_goto (tgt := 74) hx hb dX12_readHold_82 (by decide) ?_
        exact ih74 _ (by omega) n76_0_6 n76_0_7 n76_0_9 n76_0_10 n76_0_11 n76_0_12 F76_2 _ _ _ rfl s_F76_2 (by omega) (by omega) (by omega) (by omega) (by omega) (by omega) (by omega) (by omega) (by omega) x_v764 (by omega) (by first | (rw [x_v768]; exact i74h) | (rw [eF73, upd_ne (by omega), eF63]; exact upd_ne (by omega))) (by omega) (by first | (rw [x_v7611]; exact i74z) | (rw [eF73, upd_ne (by omega), eF63]; exact upd_ne (by omega))) (by first | exact (ig74.seq x_v769) | (refine RGR.to g46 ((FR5_o eF73 (Or.inr ?_)).trans (FR5_o eF63 (Or.inr ?_))) <;> omega)) hH hS (lv_sub hl [0, 1] rfl)
  refine lv_icmp_ne (tgt := 18) hx hb dX12_readHold_10 (by decide) (fun c10 => ?_) (fun c10 => ?_)
  · skip
    have tc10 := f_ne (k := 14) (by decide) c10
    refine lv_aload_n hx hb dX12_readHold_18 rfl (lv_at hl 1 rfl) ?_
    refine x_getk (ci := 12) (C := RX12) (F := TX12) (N := 36) (v := .int y11) hx hb hts uX12 hown hkb hH 0 rfl rfl 11 (by decide) rfl kw_1234 (fun _ h9 => h9) dX12_readHold_19 ?_
    refine lv_if_eq (tgt := 26) hx hb dX12_readHold_22 (by decide) (fun c22 => ?_) (fun c22 => ?_)
    · skip
      have tc22 := f_eq (k := 0) (by decide) c22
      have hv5 : v5.toInt ≤ 13 := by first | omega | exact absurd tc22 x_v150
      refine lv_aload_n hx hb dX12_readHold_26 rfl (lv_at hl 1 rfl) ?_
      refine tk_v hH hS hA (tr_V (n := 0) (As := []) hx hb hml hown hts hkb hH (ox_map hOX rfl) hks hE hS hA (s_M_next l D cs kf T (y4 :: O) ((y4, .inl (cs.2.1, 1302, .inl f4)) :: X) a0 hg mq o0 o1 o2 y3 y4 o5 y6 y7 y8 y9 y10 y11 y12 tl f3 t tn t_a0 b_hg t_y3 t_y4 (by omega) (by omega) (by omega) (by omega) (by omega) (by omega) (by omega) (by omega) (by omega) htm (by omega) (hO.sub (by decide))) kw_1344 kw_1346 ks_43 kw_13 kw_1347 (by decide +kernel) ⟨Nat.le_of_ble_eq_true rfl, Nat.le_of_ble_eq_true rfl⟩ (x_recv (ci := 12) hkb hH 0 rfl rfl) rfl rfl hl.1 (Nat.le_of_ble_eq_true rfl) dX12_readHold_27 ⟨Nat.le_of_ble_eq_true rfl, Nat.le_of_ble_eq_true rfl⟩) (fun u H locs hz9 hH hS => ?_)
      obtain ⟨n27_0_6, n27_0_7, n27_0_9, n27_0_10, rfl, x_v270, x_v271, x_v272, x_v273, x_v274, x_v275, x_v276, x_v277⟩ := hz9
      have hH : HT D cs A T (a0 :: y3 :: y4 :: O) ((a0, .inr (12, o0 :: o1 :: o2 :: (.ref y3) :: (.ref y4) :: o5 :: (.int n27_0_6) :: (.int n27_0_7) :: (.int y8) :: (.int n27_0_9) :: (.int n27_0_10) :: (.int y11) :: (.int y12) :: tl)) :: (y3, .inl (cs.2.1, 900, .inl f3)) :: (y4, .inl (cs.2.1, 1302, .inl f4)) :: X) H := hH
      refine W.widen (k := 0) (n := 0) (Nat.le_of_ble_eq_true rfl) (Nat.le_of_ble_eq_true rfl) ?_
      have g30 : RGR t tn [(31, 0)] [(22, 99), (22, 99), (33, 0)] (FR5 f4) (FR5 f4) y11 y12 y6 y11 y12 n27_0_6 n27_0_7 n27_0_9 n27_0_10 := (by first | (exact absurd tc22 x_v150) | (exact RGR_g (by omega) x_v276 (GR_nx (fun _ => st_iH (R := FR5 f4) (by omega) (by show ¬ 14 ≤ (f4 1).toInt.toNat; rw [← tv5]; omega)) ((hms k5).nx x_v277))))
      refine lv_aload_n hx hb dX12_readHold_30 rfl (lv_at hl 1 rfl) ?_
      refine lv_iconst (v := 0) hx hb dX12_readHold_31 (by decide) ?_
      refine lv_bipush (v := 99) hx hb dX12_readHold_32 (by decide) ?_
      have z9_0 : (0 : Int32).toInt = 0 := by decide
      have z9_99 : (99 : Int32).toInt = 99 := by decide
      refine tk_i hH hS hA (tr_V (n := 2) (As := [.int 0, .int 99]) hx hb hml hown hts hkb hH (ox_map hOX rfl) hks hE hS hA (s_M_takes l D cs kf T (y4 :: O) ((y4, .inl (cs.2.1, 1302, .inl f4)) :: X) a0 hg mq (0) (99) o0 o1 o2 y3 y4 o5 n27_0_6 n27_0_7 y8 n27_0_9 n27_0_10 y11 y12 tl f3 t tn t_a0 b_hg (by decide) (by decide) t_y3 t_y4 (by omega) (by omega) (by omega) (by omega) (by omega) (by omega) (by omega) (by omega) (by omega) htm (by omega) (by omega) x_v273 (fun _ => x_v276) (hO.sub (by decide))) kw_1382 kw_1384 ks_50 kw_13 kw_1385 (by decide +kernel) ⟨Nat.le_of_ble_eq_true rfl, Nat.le_of_ble_eq_true rfl⟩ (x_recv (ci := 12) hkb hH 0 rfl rfl) rfl rfl hl.1 (Nat.le_of_ble_eq_true rfl) dX12_readHold_34 ⟨Nat.le_of_ble_eq_true rfl, Nat.le_of_ble_eq_true rfl⟩) (fun v34 u H locs hz9 hH hS => ?_)
      obtain ⟨n34_0_6, n34_0_7, n34_0_9, n34_0_10, n34_0_11, n34_0_12, rfl, l_v34, u_v34, x_v340, x_v341, x_v342, x_v343, x_v344, x_v345, x_v346, x_v347⟩ := hz9
      have hH : HT D cs A T (a0 :: y3 :: y4 :: O) ((a0, .inr (12, o0 :: o1 :: o2 :: (.ref y3) :: (.ref y4) :: o5 :: (.int n34_0_6) :: (.int n34_0_7) :: (.int y8) :: (.int n34_0_9) :: (.int n34_0_10) :: (.int n34_0_11) :: (.int n34_0_12) :: tl)) :: (y3, .inl (cs.2.1, 900, .inl f3)) :: (y4, .inl (cs.2.1, 1302, .inl f4)) :: X) H := hH
      refine W.widen (k := 0) (n := 0) (Nat.le_of_ble_eq_true rfl) (Nat.le_of_ble_eq_true rfl) ?_
      refine lv_istore_n (lv' := [(2, .int v34), (1, .int v5), (0, .ref a0)]) hx hb dX12_readHold_37 rfl hl (by decide) rfl (fun ls hl => ?_)
      have g38 : RGR t tn [(31, 0)] [(22, 99), (33, 0)] (FR5 f4) (FR5 f4) y11 y12 y6 n34_0_11 n34_0_12 n34_0_6 n34_0_7 n34_0_9 n34_0_10 := g30.seq (RGR.cons (RG.r (TNK.rg x_v347 (by decide))))
      refine lv_aload_n hx hb dX12_readHold_38 rfl (lv_at hl 2 rfl) ?_
      refine lv_iconst (v := 0) hx hb dX12_readHold_39 (by decide) ?_
      refine lv_bipush (v := 99) hx hb dX12_readHold_40 (by decide) ?_
      have z9_0 : (0 : Int32).toInt = 0 := by decide
      have z9_99 : (99 : Int32).toInt = 99 := by decide
      refine tk_i hH hS hA (tr_V (n := 2) (As := [.int 0, .int 99]) hx hb hml hown hts hkb hH (ox_map hOX rfl) hks hE hS hA (s_M_takes l D cs kf T (y4 :: O) ((y4, .inl (cs.2.1, 1302, .inl f4)) :: X) a0 hg mq (0) (99) o0 o1 o2 y3 y4 o5 n34_0_6 n34_0_7 y8 n34_0_9 n34_0_10 n34_0_11 n34_0_12 tl f3 t tn t_a0 b_hg (by decide) (by decide) t_y3 t_y4 (by omega) (by omega) (by omega) (by omega) (by omega) (by omega) (by omega) (by omega) (by omega) htm (by omega) (by omega) x_v343 (TNK.msw x_v347) (hO.sub (by decide))) kw_1382 kw_1384 ks_50 kw_13 kw_1385 (by decide +kernel) ⟨Nat.le_of_ble_eq_true rfl, Nat.le_of_ble_eq_true rfl⟩ (x_recv (ci := 12) hkb hH 0 rfl rfl) rfl rfl hl.1 (Nat.le_of_ble_eq_true rfl) dX12_readHold_42 ⟨Nat.le_of_ble_eq_true rfl, Nat.le_of_ble_eq_true rfl⟩) (fun v42 u H locs hz9 hH hS => ?_)
      obtain ⟨n42_0_6, n42_0_7, n42_0_9, n42_0_10, n42_0_11, n42_0_12, rfl, l_v42, u_v42, x_v420, x_v421, x_v422, x_v423, x_v424, x_v425, x_v426, x_v427⟩ := hz9
      have hH : HT D cs A T (a0 :: y3 :: y4 :: O) ((a0, .inr (12, o0 :: o1 :: o2 :: (.ref y3) :: (.ref y4) :: o5 :: (.int n42_0_6) :: (.int n42_0_7) :: (.int y8) :: (.int n42_0_9) :: (.int n42_0_10) :: (.int n42_0_11) :: (.int n42_0_12) :: tl)) :: (y3, .inl (cs.2.1, 900, .inl f3)) :: (y4, .inl (cs.2.1, 1302, .inl f4)) :: X) H := hH
      refine W.widen (k := 0) (n := 0) (Nat.le_of_ble_eq_true rfl) (Nat.le_of_ble_eq_true rfl) ?_
      refine lv_istore_n (lv' := [(3, .int v42), (2, .int v34), (1, .int v5), (0, .ref a0)]) hx hb dX12_readHold_45 rfl hl (by decide) rfl (fun ls hl => ?_)
      have g46 : RGR t tn [(31, 0)] [(33, 0)] (FR5 f4) (FR5 f4) y11 y12 y6 n42_0_11 n42_0_12 n42_0_6 n42_0_7 n42_0_9 n42_0_10 := g38.seq (RGR.cons (RG.r (TNK.rg x_v427 (by decide))))
      refine lv_aload_n hx hb dX12_readHold_46 rfl (lv_at hl 3 rfl) ?_
      refine x_getk (ci := 12) (C := RX12) (F := TX12) (N := 36) (v := .int n42_0_11) hx hb hts uX12 hown hkb hH 0 rfl rfl 11 (by decide) rfl kw_1234 (fun _ h9 => h9) dX12_readHold_47 ?_
      refine lv_if_eq (tgt := 54) hx hb dX12_readHold_50 (by decide) (fun c50 => ?_) (fun c50 => ?_)
      · skip
        have tc50 := f_eq (k := 0) (by decide) c50
        refine lv_aload_n hx hb dX12_readHold_54 rfl (lv_at hl 3 rfl) ?_
        refine x_getk (ci := 12) (C := RX12) (F := TX12) (N := 36) (v := .ref y4) hx hb hts uX12 hown hkb hH 0 rfl rfl 4 (by decide) rfl kw_1227 (fun _ h9 => h9) dX12_readHold_55 ?_
        refine lv_bipush (v := 7) hx hb dX12_readHold_58 (by decide) ?_
        refine lv_iload_n hx hb dX12_readHold_60 rfl (lv_at hl 2 rfl) ?_
        refine lv_iadd hx hb dX12_readHold_61 ?_
        refine lv_topi (fun v61 ev61 => ?_)
        have tv61 : v61.toInt = (7) + v5.toInt := by rw [ev61]; exact add_i (by decide : (7 : Int32).toInt = 7) rfl (by omega) (by omega)
        refine lv_iload_n hx hb dX12_readHold_62 rfl (lv_at hl 1 rfl) ?_
        refine xa_ist hx hb hkb hH hS 2 rfl (by omega) (by omega) dX12_readHold_63 (fun H locs hH hS => ?_)
        have hH : HT D cs A T (a0 :: y3 :: y4 :: O) ((a0, .inr (12, o0 :: o1 :: o2 :: (.ref y3) :: (.ref y4) :: o5 :: (.int n42_0_6) :: (.int n42_0_7) :: (.int y8) :: (.int n42_0_9) :: (.int n42_0_10) :: (.int n42_0_11) :: (.int n42_0_12) :: tl)) :: (y3, .inl (cs.2.1, 900, .inl f3)) :: (y4, .inl (cs.2.1, 1302, .inl (upd f4 (v61.toInt.toNat) v34))) :: X) H := hH
        obtain ⟨F63, eF63⟩ : ∃ f9, f9 = upd f4 (v61.toInt.toNat) v34 := ⟨_, rfl⟩
        have hH : HT D cs A T (a0 :: y3 :: y4 :: O) ((a0, .inr (12, o0 :: o1 :: o2 :: (.ref y3) :: (.ref y4) :: o5 :: (.int n42_0_6) :: (.int n42_0_7) :: (.int y8) :: (.int n42_0_9) :: (.int n42_0_10) :: (.int n42_0_11) :: (.int n42_0_12) :: tl)) :: (y3, .inl (cs.2.1, 900, .inl f3)) :: (y4, .inl (cs.2.1, 1302, .inl F63)) :: X) H := eF63 ▸ hH
        have s_F63 : S8 F63 := eF63 ▸ S8_put (i := v61) (x := v34) s_f4 (by omega) (by omega) (p8_far (by omega) (⟨by omega, by omega⟩))
        refine lv_aload_n hx hb dX12_readHold_64 rfl (lv_at hl 3 rfl) ?_
        refine x_getk (ci := 12) (C := RX12) (F := TX12) (N := 36) (v := .ref y4) hx hb hts uX12 hown hkb hH 0 rfl rfl 4 (by decide) rfl kw_1227 (fun _ h9 => h9) dX12_readHold_65 ?_
        refine lv_bipush (v := 21) hx hb dX12_readHold_68 (by decide) ?_
        refine lv_iload_n hx hb dX12_readHold_70 rfl (lv_at hl 2 rfl) ?_
        refine lv_iadd hx hb dX12_readHold_71 ?_
        refine lv_topi (fun v71 ev71 => ?_)
        have tv71 : v71.toInt = (21) + v5.toInt := by rw [ev71]; exact add_i (by decide : (21 : Int32).toInt = 21) rfl (by omega) (by omega)
        refine lv_iload_n hx hb dX12_readHold_72 rfl (lv_at hl 0 rfl) ?_
        refine xa_ist hx hb hkb hH hS 2 rfl (by omega) (by omega) dX12_readHold_73 (fun H locs hH hS => ?_)
        have hH : HT D cs A T (a0 :: y3 :: y4 :: O) ((a0, .inr (12, o0 :: o1 :: o2 :: (.ref y3) :: (.ref y4) :: o5 :: (.int n42_0_6) :: (.int n42_0_7) :: (.int y8) :: (.int n42_0_9) :: (.int n42_0_10) :: (.int n42_0_11) :: (.int n42_0_12) :: tl)) :: (y3, .inl (cs.2.1, 900, .inl f3)) :: (y4, .inl (cs.2.1, 1302, .inl (upd F63 (v71.toInt.toNat) v42))) :: X) H := hH
        obtain ⟨F73, eF73⟩ : ∃ f9, f9 = upd F63 (v71.toInt.toNat) v42 := ⟨_, rfl⟩
        have hH : HT D cs A T (a0 :: y3 :: y4 :: O) ((a0, .inr (12, o0 :: o1 :: o2 :: (.ref y3) :: (.ref y4) :: o5 :: (.int n42_0_6) :: (.int n42_0_7) :: (.int y8) :: (.int n42_0_9) :: (.int n42_0_10) :: (.int n42_0_11) :: (.int n42_0_12) :: tl)) :: (y3, .inl (cs.2.1, 900, .inl f3)) :: (y4, .inl (cs.2.1, 1302, .inl F73)) :: X) H := eF73 ▸ hH
        have s_F73 : S8 F73 := eF73 ▸ S8_put (i := v71) (x := v42) s_F63 (by omega) (by omega) (p8_far (by omega) (⟨by omega, by omega⟩))
        exact J74 _ n42_0_6 n42_0_7 n42_0_9 n42_0_10 n42_0_11 n42_0_12 F73 _ _ _ rfl s_F73 (by omega) (by omega) (by omega) (by omega) (by omega) (by omega) (by omega) (by omega) (by omega) x_v423 (by omega) (by first | (rw [x_v768]; exact i74h) | (rw [eF73, upd_ne (by omega), eF63]; exact upd_ne (by omega))) (by omega) (by first | (rw [x_v7611]; exact i74z) | (rw [eF73, upd_ne (by omega), eF63]; exact upd_ne (by omega))) (by first | exact (ig74.seq x_v769) | (refine RGR.to g46 ((FR5_o eF73 (Or.inr ?_)).trans (FR5_o eF63 (Or.inr ?_))) <;> omega)) hH hS (lv_sub hl [2, 3] rfl)
      · skip
        have tc50 := f_ne (k := 0) (by decide) c50
        exact te_v hx hb hr hlocks hH hS (⟨n42_0_6, n42_0_7, n42_0_9, n42_0_10, n42_0_11, n42_0_12, f4, rfl, s_f4, by omega, by omega, by omega, x_v423, by omega, by omega, (by first | (exact absurd k5 tc22) | (exact RGR_f (R := FR5 f4) (m := 4) (G := []) x_v151 hms (by decide) (by decide) (fun q9 _ => st_iHM (R := FR5 f4) (by omega) (by show 14 ≤ (f4 1).toInt.toNat; rw [← tv5]; omega))) | (exact RGR.any g46 tc50) | (exact RGR.any (ig74.seq x_v769) tc89) | (exact (ig74.seq x_v769).seq (RGR_id (fun q9 => ⟨RGR.msw x_v769 q9, RF_E eF101 tv98 tv100 (by omega) (x_v7610.resolve_left (fun z9 => z9 q9))⟩)))), (by first | rfl | exact x_v7611.trans i74z | (rw [eF101, upd_ne (by decide), x_v7611]; exact i74z))⟩) dX12_readHold_53
    · skip
      have tc22 := f_ne (k := 0) (by decide) c22
      exact te_v hx hb hr hlocks hH hS (⟨y6, y7, y9, y10, y11, y12, f4, rfl, s_f4, by omega, by omega, by omega, k3, by omega, by omega, (by first | (exact absurd k5 tc22) | (exact RGR_f (R := FR5 f4) (m := 4) (G := []) x_v151 hms (by decide) (by decide) (fun q9 _ => st_iHM (R := FR5 f4) (by omega) (by show 14 ≤ (f4 1).toInt.toNat; rw [← tv5]; omega))) | (exact RGR.any g46 tc50) | (exact RGR.any (ig74.seq x_v769) tc89) | (exact (ig74.seq x_v769).seq (RGR_id (fun q9 => ⟨RGR.msw x_v769 q9, RF_E eF101 tv98 tv100 (by omega) (x_v7610.resolve_left (fun z9 => z9 q9))⟩)))), (by first | rfl | exact x_v7611.trans i74z | (rw [eF101, upd_ne (by decide), x_v7611]; exact i74z))⟩) dX12_readHold_25
  · skip
    have tc10 := f_eq (k := 14) (by decide) c10
    refine lv_aload_n hx hb dX12_readHold_13 rfl (lv_at hl 1 rfl) ?_
    refine lv_iconst (v := 4) hx hb dX12_readHold_14 (by decide) ?_
    have z9_4 : (4 : Int32).toInt = 4 := by decide
    refine tk_v hH hS hA (tr_V (n := 1) (As := [.int 4]) hx hb hml hown hts hkb hH (ox_map hOX rfl) hks hE hS hA (s_M_fails l D cs kf T (y4 :: O) ((y4, .inl (cs.2.1, 1302, .inl f4)) :: X) a0 hg mq (4) o0 o1 o2 y3 y4 o5 y6 y7 y8 y9 y10 y11 y12 tl f3 t tn t_a0 b_hg (by decide) (by decide) t_y3 t_y4 (by omega) (by omega) (by omega) (by omega) (by omega) (by omega) (by omega) (by omega) (by omega) htm (hO.sub (by decide))) kw_1378 kw_1380 ks_49 kw_13 kw_1381 (by decide +kernel) ⟨Nat.le_of_ble_eq_true rfl, Nat.le_of_ble_eq_true rfl⟩ (x_recv (ci := 12) hkb hH 0 rfl rfl) rfl rfl hl.1 (Nat.le_of_ble_eq_true rfl) dX12_readHold_15 ⟨Nat.le_of_ble_eq_true rfl, Nat.le_of_ble_eq_true rfl⟩) (fun u H locs hz9 hH hS => ?_)
    obtain ⟨n15_0_11, n15_0_12, rfl, x_v150, x_v151⟩ := hz9
    have hH : HT D cs A T (a0 :: y3 :: y4 :: O) ((a0, .inr (12, o0 :: o1 :: o2 :: (.ref y3) :: (.ref y4) :: o5 :: (.int y6) :: (.int y7) :: (.int y8) :: (.int y9) :: (.int y10) :: (.int n15_0_11) :: (.int n15_0_12) :: tl)) :: (y3, .inl (cs.2.1, 900, .inl f3)) :: (y4, .inl (cs.2.1, 1302, .inl f4)) :: X) H := hH
    refine W.widen (k := 0) (n := 0) (Nat.le_of_ble_eq_true rfl) (Nat.le_of_ble_eq_true rfl) ?_
    refine lv_aload_n hx hb dX12_readHold_18 rfl (lv_at hl 1 rfl) ?_
    refine x_getk (ci := 12) (C := RX12) (F := TX12) (N := 36) (v := .int n15_0_11) hx hb hts uX12 hown hkb hH 0 rfl rfl 11 (by decide) rfl kw_1234 (fun _ h9 => h9) dX12_readHold_19 ?_
    refine lv_if_eq (tgt := 26) hx hb dX12_readHold_22 (by decide) (fun c22 => ?_) (fun c22 => ?_)
    · skip
      have tc22 := f_eq (k := 0) (by decide) c22
      have hv5 : v5.toInt ≤ 13 := by first | omega | exact absurd tc22 x_v150
      refine lv_aload_n hx hb dX12_readHold_26 rfl (lv_at hl 1 rfl) ?_
      refine tk_v hH hS hA (tr_V (n := 0) (As := []) hx hb hml hown hts hkb hH (ox_map hOX rfl) hks hE hS hA (s_M_next l D cs kf T (y4 :: O) ((y4, .inl (cs.2.1, 1302, .inl f4)) :: X) a0 hg mq o0 o1 o2 y3 y4 o5 y6 y7 y8 y9 y10 n15_0_11 n15_0_12 tl f3 t tn t_a0 b_hg t_y3 t_y4 (by omega) (by omega) (by omega) (by omega) (by omega) (by omega) (by omega) (by omega) (by omega) htm (by omega) (hO.sub (by decide))) kw_1344 kw_1346 ks_43 kw_13 kw_1347 (by decide +kernel) ⟨Nat.le_of_ble_eq_true rfl, Nat.le_of_ble_eq_true rfl⟩ (x_recv (ci := 12) hkb hH 0 rfl rfl) rfl rfl hl.1 (Nat.le_of_ble_eq_true rfl) dX12_readHold_27 ⟨Nat.le_of_ble_eq_true rfl, Nat.le_of_ble_eq_true rfl⟩) (fun u H locs hz9 hH hS => ?_)
      obtain ⟨n27_0_6, n27_0_7, n27_0_9, n27_0_10, rfl, x_v270, x_v271, x_v272, x_v273, x_v274, x_v275, x_v276, x_v277⟩ := hz9
      have hH : HT D cs A T (a0 :: y3 :: y4 :: O) ((a0, .inr (12, o0 :: o1 :: o2 :: (.ref y3) :: (.ref y4) :: o5 :: (.int n27_0_6) :: (.int n27_0_7) :: (.int y8) :: (.int n27_0_9) :: (.int n27_0_10) :: (.int n15_0_11) :: (.int n15_0_12) :: tl)) :: (y3, .inl (cs.2.1, 900, .inl f3)) :: (y4, .inl (cs.2.1, 1302, .inl f4)) :: X) H := hH
      refine W.widen (k := 0) (n := 0) (Nat.le_of_ble_eq_true rfl) (Nat.le_of_ble_eq_true rfl) ?_
      have g30 : RGR t tn [(31, 0)] [(22, 99), (22, 99), (33, 0)] (FR5 f4) (FR5 f4) y11 y12 y6 n15_0_11 n15_0_12 n27_0_6 n27_0_7 n27_0_9 n27_0_10 := (by first | (exact absurd tc22 x_v150) | (exact RGR_g (by omega) x_v276 (GR_nx (fun _ => st_iH (R := FR5 f4) (by omega) (by show ¬ 14 ≤ (f4 1).toInt.toNat; rw [← tv5]; omega)) ((hms k5).nx x_v277))))
      refine lv_aload_n hx hb dX12_readHold_30 rfl (lv_at hl 1 rfl) ?_
      refine lv_iconst (v := 0) hx hb dX12_readHold_31 (by decide) ?_
      refine lv_bipush (v := 99) hx hb dX12_readHold_32 (by decide) ?_
      have z9_0 : (0 : Int32).toInt = 0 := by decide
      have z9_99 : (99 : Int32).toInt = 99 := by decide
      refine tk_i hH hS hA (tr_V (n := 2) (As := [.int 0, .int 99]) hx hb hml hown hts hkb hH (ox_map hOX rfl) hks hE hS hA (s_M_takes l D cs kf T (y4 :: O) ((y4, .inl (cs.2.1, 1302, .inl f4)) :: X) a0 hg mq (0) (99) o0 o1 o2 y3 y4 o5 n27_0_6 n27_0_7 y8 n27_0_9 n27_0_10 n15_0_11 n15_0_12 tl f3 t tn t_a0 b_hg (by decide) (by decide) t_y3 t_y4 (by omega) (by omega) (by omega) (by omega) (by omega) (by omega) (by omega) (by omega) (by omega) htm (by omega) (by omega) x_v273 (fun _ => x_v276) (hO.sub (by decide))) kw_1382 kw_1384 ks_50 kw_13 kw_1385 (by decide +kernel) ⟨Nat.le_of_ble_eq_true rfl, Nat.le_of_ble_eq_true rfl⟩ (x_recv (ci := 12) hkb hH 0 rfl rfl) rfl rfl hl.1 (Nat.le_of_ble_eq_true rfl) dX12_readHold_34 ⟨Nat.le_of_ble_eq_true rfl, Nat.le_of_ble_eq_true rfl⟩) (fun v34 u H locs hz9 hH hS => ?_)
      obtain ⟨n34_0_6, n34_0_7, n34_0_9, n34_0_10, n34_0_11, n34_0_12, rfl, l_v34, u_v34, x_v340, x_v341, x_v342, x_v343, x_v344, x_v345, x_v346, x_v347⟩ := hz9
      have hH : HT D cs A T (a0 :: y3 :: y4 :: O) ((a0, .inr (12, o0 :: o1 :: o2 :: (.ref y3) :: (.ref y4) :: o5 :: (.int n34_0_6) :: (.int n34_0_7) :: (.int y8) :: (.int n34_0_9) :: (.int n34_0_10) :: (.int n34_0_11) :: (.int n34_0_12) :: tl)) :: (y3, .inl (cs.2.1, 900, .inl f3)) :: (y4, .inl (cs.2.1, 1302, .inl f4)) :: X) H := hH
      refine W.widen (k := 0) (n := 0) (Nat.le_of_ble_eq_true rfl) (Nat.le_of_ble_eq_true rfl) ?_
      refine lv_istore_n (lv' := [(2, .int v34), (1, .int v5), (0, .ref a0)]) hx hb dX12_readHold_37 rfl hl (by decide) rfl (fun ls hl => ?_)
      have g38 : RGR t tn [(31, 0)] [(22, 99), (33, 0)] (FR5 f4) (FR5 f4) y11 y12 y6 n34_0_11 n34_0_12 n34_0_6 n34_0_7 n34_0_9 n34_0_10 := g30.seq (RGR.cons (RG.r (TNK.rg x_v347 (by decide))))
      refine lv_aload_n hx hb dX12_readHold_38 rfl (lv_at hl 2 rfl) ?_
      refine lv_iconst (v := 0) hx hb dX12_readHold_39 (by decide) ?_
      refine lv_bipush (v := 99) hx hb dX12_readHold_40 (by decide) ?_
      have z9_0 : (0 : Int32).toInt = 0 := by decide
      have z9_99 : (99 : Int32).toInt = 99 := by decide
      refine tk_i hH hS hA (tr_V (n := 2) (As := [.int 0, .int 99]) hx hb hml hown hts hkb hH (ox_map hOX rfl) hks hE hS hA (s_M_takes l D cs kf T (y4 :: O) ((y4, .inl (cs.2.1, 1302, .inl f4)) :: X) a0 hg mq (0) (99) o0 o1 o2 y3 y4 o5 n34_0_6 n34_0_7 y8 n34_0_9 n34_0_10 n34_0_11 n34_0_12 tl f3 t tn t_a0 b_hg (by decide) (by decide) t_y3 t_y4 (by omega) (by omega) (by omega) (by omega) (by omega) (by omega) (by omega) (by omega) (by omega) htm (by omega) (by omega) x_v343 (TNK.msw x_v347) (hO.sub (by decide))) kw_1382 kw_1384 ks_50 kw_13 kw_1385 (by decide +kernel) ⟨Nat.le_of_ble_eq_true rfl, Nat.le_of_ble_eq_true rfl⟩ (x_recv (ci := 12) hkb hH 0 rfl rfl) rfl rfl hl.1 (Nat.le_of_ble_eq_true rfl) dX12_readHold_42 ⟨Nat.le_of_ble_eq_true rfl, Nat.le_of_ble_eq_true rfl⟩) (fun v42 u H locs hz9 hH hS => ?_)
      obtain ⟨n42_0_6, n42_0_7, n42_0_9, n42_0_10, n42_0_11, n42_0_12, rfl, l_v42, u_v42, x_v420, x_v421, x_v422, x_v423, x_v424, x_v425, x_v426, x_v427⟩ := hz9
      have hH : HT D cs A T (a0 :: y3 :: y4 :: O) ((a0, .inr (12, o0 :: o1 :: o2 :: (.ref y3) :: (.ref y4) :: o5 :: (.int n42_0_6) :: (.int n42_0_7) :: (.int y8) :: (.int n42_0_9) :: (.int n42_0_10) :: (.int n42_0_11) :: (.int n42_0_12) :: tl)) :: (y3, .inl (cs.2.1, 900, .inl f3)) :: (y4, .inl (cs.2.1, 1302, .inl f4)) :: X) H := hH
      refine W.widen (k := 0) (n := 0) (Nat.le_of_ble_eq_true rfl) (Nat.le_of_ble_eq_true rfl) ?_
      refine lv_istore_n (lv' := [(3, .int v42), (2, .int v34), (1, .int v5), (0, .ref a0)]) hx hb dX12_readHold_45 rfl hl (by decide) rfl (fun ls hl => ?_)
      have g46 : RGR t tn [(31, 0)] [(33, 0)] (FR5 f4) (FR5 f4) y11 y12 y6 n42_0_11 n42_0_12 n42_0_6 n42_0_7 n42_0_9 n42_0_10 := g38.seq (RGR.cons (RG.r (TNK.rg x_v427 (by decide))))
      refine lv_aload_n hx hb dX12_readHold_46 rfl (lv_at hl 3 rfl) ?_
      refine x_getk (ci := 12) (C := RX12) (F := TX12) (N := 36) (v := .int n42_0_11) hx hb hts uX12 hown hkb hH 0 rfl rfl 11 (by decide) rfl kw_1234 (fun _ h9 => h9) dX12_readHold_47 ?_
      refine lv_if_eq (tgt := 54) hx hb dX12_readHold_50 (by decide) (fun c50 => ?_) (fun c50 => ?_)
      · skip
        have tc50 := f_eq (k := 0) (by decide) c50
        refine lv_aload_n hx hb dX12_readHold_54 rfl (lv_at hl 3 rfl) ?_
        refine x_getk (ci := 12) (C := RX12) (F := TX12) (N := 36) (v := .ref y4) hx hb hts uX12 hown hkb hH 0 rfl rfl 4 (by decide) rfl kw_1227 (fun _ h9 => h9) dX12_readHold_55 ?_
        refine lv_bipush (v := 7) hx hb dX12_readHold_58 (by decide) ?_
        refine lv_iload_n hx hb dX12_readHold_60 rfl (lv_at hl 2 rfl) ?_
        refine lv_iadd hx hb dX12_readHold_61 ?_
        refine lv_topi (fun v61 ev61 => ?_)
        have tv61 : v61.toInt = (7) + v5.toInt := by rw [ev61]; exact add_i (by decide : (7 : Int32).toInt = 7) rfl (by omega) (by omega)
        refine lv_iload_n hx hb dX12_readHold_62 rfl (lv_at hl 1 rfl) ?_
        refine xa_ist hx hb hkb hH hS 2 rfl (by omega) (by omega) dX12_readHold_63 (fun H locs hH hS => ?_)
        have hH : HT D cs A T (a0 :: y3 :: y4 :: O) ((a0, .inr (12, o0 :: o1 :: o2 :: (.ref y3) :: (.ref y4) :: o5 :: (.int n42_0_6) :: (.int n42_0_7) :: (.int y8) :: (.int n42_0_9) :: (.int n42_0_10) :: (.int n42_0_11) :: (.int n42_0_12) :: tl)) :: (y3, .inl (cs.2.1, 900, .inl f3)) :: (y4, .inl (cs.2.1, 1302, .inl (upd f4 (v61.toInt.toNat) v34))) :: X) H := hH
        obtain ⟨F63, eF63⟩ : ∃ f9, f9 = upd f4 (v61.toInt.toNat) v34 := ⟨_, rfl⟩
        have hH : HT D cs A T (a0 :: y3 :: y4 :: O) ((a0, .inr (12, o0 :: o1 :: o2 :: (.ref y3) :: (.ref y4) :: o5 :: (.int n42_0_6) :: (.int n42_0_7) :: (.int y8) :: (.int n42_0_9) :: (.int n42_0_10) :: (.int n42_0_11) :: (.int n42_0_12) :: tl)) :: (y3, .inl (cs.2.1, 900, .inl f3)) :: (y4, .inl (cs.2.1, 1302, .inl F63)) :: X) H := eF63 ▸ hH
        have s_F63 : S8 F63 := eF63 ▸ S8_put (i := v61) (x := v34) s_f4 (by omega) (by omega) (p8_far (by omega) (⟨by omega, by omega⟩))
        refine lv_aload_n hx hb dX12_readHold_64 rfl (lv_at hl 3 rfl) ?_
        refine x_getk (ci := 12) (C := RX12) (F := TX12) (N := 36) (v := .ref y4) hx hb hts uX12 hown hkb hH 0 rfl rfl 4 (by decide) rfl kw_1227 (fun _ h9 => h9) dX12_readHold_65 ?_
        refine lv_bipush (v := 21) hx hb dX12_readHold_68 (by decide) ?_
        refine lv_iload_n hx hb dX12_readHold_70 rfl (lv_at hl 2 rfl) ?_
        refine lv_iadd hx hb dX12_readHold_71 ?_
        refine lv_topi (fun v71 ev71 => ?_)
        have tv71 : v71.toInt = (21) + v5.toInt := by rw [ev71]; exact add_i (by decide : (21 : Int32).toInt = 21) rfl (by omega) (by omega)
        refine lv_iload_n hx hb dX12_readHold_72 rfl (lv_at hl 0 rfl) ?_
        refine xa_ist hx hb hkb hH hS 2 rfl (by omega) (by omega) dX12_readHold_73 (fun H locs hH hS => ?_)
        have hH : HT D cs A T (a0 :: y3 :: y4 :: O) ((a0, .inr (12, o0 :: o1 :: o2 :: (.ref y3) :: (.ref y4) :: o5 :: (.int n42_0_6) :: (.int n42_0_7) :: (.int y8) :: (.int n42_0_9) :: (.int n42_0_10) :: (.int n42_0_11) :: (.int n42_0_12) :: tl)) :: (y3, .inl (cs.2.1, 900, .inl f3)) :: (y4, .inl (cs.2.1, 1302, .inl (upd F63 (v71.toInt.toNat) v42))) :: X) H := hH
        obtain ⟨F73, eF73⟩ : ∃ f9, f9 = upd F63 (v71.toInt.toNat) v42 := ⟨_, rfl⟩
        have hH : HT D cs A T (a0 :: y3 :: y4 :: O) ((a0, .inr (12, o0 :: o1 :: o2 :: (.ref y3) :: (.ref y4) :: o5 :: (.int n42_0_6) :: (.int n42_0_7) :: (.int y8) :: (.int n42_0_9) :: (.int n42_0_10) :: (.int n42_0_11) :: (.int n42_0_12) :: tl)) :: (y3, .inl (cs.2.1, 900, .inl f3)) :: (y4, .inl (cs.2.1, 1302, .inl F73)) :: X) H := eF73 ▸ hH
        have s_F73 : S8 F73 := eF73 ▸ S8_put (i := v71) (x := v42) s_F63 (by omega) (by omega) (p8_far (by omega) (⟨by omega, by omega⟩))
        exact J74 _ n42_0_6 n42_0_7 n42_0_9 n42_0_10 n42_0_11 n42_0_12 F73 _ _ _ rfl s_F73 (by omega) (by omega) (by omega) (by omega) (by omega) (by omega) (by omega) (by omega) (by omega) x_v423 (by omega) (by first | (rw [x_v768]; exact i74h) | (rw [eF73, upd_ne (by omega), eF63]; exact upd_ne (by omega))) (by omega) (by first | (rw [x_v7611]; exact i74z) | (rw [eF73, upd_ne (by omega), eF63]; exact upd_ne (by omega))) (by first | exact (ig74.seq x_v769) | (refine RGR.to g46 ((FR5_o eF73 (Or.inr ?_)).trans (FR5_o eF63 (Or.inr ?_))) <;> omega)) hH hS (lv_sub hl [2, 3] rfl)
      · skip
        have tc50 := f_ne (k := 0) (by decide) c50
        exact te_v hx hb hr hlocks hH hS (⟨n42_0_6, n42_0_7, n42_0_9, n42_0_10, n42_0_11, n42_0_12, f4, rfl, s_f4, by omega, by omega, by omega, x_v423, by omega, by omega, (by first | (exact absurd k5 tc22) | (exact RGR_f (R := FR5 f4) (m := 4) (G := []) x_v151 hms (by decide) (by decide) (fun q9 _ => st_iHM (R := FR5 f4) (by omega) (by show 14 ≤ (f4 1).toInt.toNat; rw [← tv5]; omega))) | (exact RGR.any g46 tc50) | (exact RGR.any (ig74.seq x_v769) tc89) | (exact (ig74.seq x_v769).seq (RGR_id (fun q9 => ⟨RGR.msw x_v769 q9, RF_E eF101 tv98 tv100 (by omega) (x_v7610.resolve_left (fun z9 => z9 q9))⟩)))), (by first | rfl | exact x_v7611.trans i74z | (rw [eF101, upd_ne (by decide), x_v7611]; exact i74z))⟩) dX12_readHold_53
    · skip
      have tc22 := f_ne (k := 0) (by decide) c22
      exact te_v hx hb hr hlocks hH hS (⟨y6, y7, y9, y10, n15_0_11, n15_0_12, f4, rfl, s_f4, by omega, by omega, by omega, k3, by omega, by omega, (by first | (exact absurd k5 tc22) | (exact RGR_f (R := FR5 f4) (m := 4) (G := []) x_v151 hms (by decide) (by decide) (fun q9 _ => st_iHM (R := FR5 f4) (by omega) (by show 14 ≤ (f4 1).toInt.toNat; rw [← tv5]; omega))) | (exact RGR.any g46 tc50) | (exact RGR.any (ig74.seq x_v769) tc89) | (exact (ig74.seq x_v769).seq (RGR_id (fun q9 => ⟨RGR.msw x_v769 q9, RF_E eF101 tv98 tv100 (by omega) (x_v7610.resolve_left (fun z9 => z9 q9))⟩)))), (by first | rfl | exact x_v7611.trans i74z | (rw [eF101, upd_ne (by decide), x_v7611]; exact i74z))⟩) dX12_readHold_25
theorem dX12_readGuide_0 : decode cX12_readGuide 0 = .ok (.aload_n 0, 1) := by decide +kernel
theorem dX12_readGuide_1 : decode cX12_readGuide 1 = .ok (.getfield 24, 3) := by decide +kernel
theorem dX12_readGuide_4 : decode cX12_readGuide 4 = .ok (.iconst 2, 1) := by decide +kernel
theorem dX12_readGuide_5 : decode cX12_readGuide 5 = .ok (.iaload, 1) := by decide +kernel
theorem dX12_readGuide_6 : decode cX12_readGuide 6 = .ok (.istore_n 1, 1) := by decide +kernel
theorem dX12_readGuide_7 : decode cX12_readGuide 7 = .ok (.iload_n 1, 1) := by decide +kernel
theorem dX12_readGuide_8 : decode cX12_readGuide 8 = .ok (.iconst 5, 1) := by decide +kernel
theorem dX12_readGuide_9 : decode cX12_readGuide 9 = .ok (.if_icmp .ne 8, 3) := by decide +kernel
theorem dX12_readGuide_12 : decode cX12_readGuide 12 = .ok (.aload_n 0, 1) := by decide +kernel
theorem dX12_readGuide_13 : decode cX12_readGuide 13 = .ok (.iconst 4, 1) := by decide +kernel
theorem dX12_readGuide_14 : decode cX12_readGuide 14 = .ok (.invokevirtual 140, 3) := by decide +kernel
theorem dX12_readGuide_17 : decode cX12_readGuide 17 = .ok (.aload_n 0, 1) := by decide +kernel
theorem dX12_readGuide_18 : decode cX12_readGuide 18 = .ok (.getfield 128, 3) := by decide +kernel
theorem dX12_readGuide_21 : decode cX12_readGuide 21 = .ok (.ifCond .eq 4, 3) := by decide +kernel
theorem dX12_readGuide_24 : decode cX12_readGuide 24 = .ok (.return_, 1) := by decide +kernel
theorem dX12_readGuide_25 : decode cX12_readGuide 25 = .ok (.aload_n 0, 1) := by decide +kernel
theorem dX12_readGuide_26 : decode cX12_readGuide 26 = .ok (.invokevirtual 137, 3) := by decide +kernel
theorem dX12_readGuide_29 : decode cX12_readGuide 29 = .ok (.aload_n 0, 1) := by decide +kernel
theorem dX12_readGuide_30 : decode cX12_readGuide 30 = .ok (.iconst 2, 1) := by decide +kernel
theorem dX12_readGuide_31 : decode cX12_readGuide 31 = .ok (.invokevirtual 155, 3) := by decide +kernel
theorem dX12_readGuide_34 : decode cX12_readGuide 34 = .ok (.ifCond .ne 8, 3) := by decide +kernel
theorem dX12_readGuide_37 : decode cX12_readGuide 37 = .ok (.aload_n 0, 1) := by decide +kernel
theorem dX12_readGuide_38 : decode cX12_readGuide 38 = .ok (.iconst 2, 1) := by decide +kernel
theorem dX12_readGuide_39 : decode cX12_readGuide 39 = .ok (.invokevirtual 140, 3) := by decide +kernel
theorem dX12_readGuide_42 : decode cX12_readGuide 42 = .ok (.aload_n 0, 1) := by decide +kernel
theorem dX12_readGuide_43 : decode cX12_readGuide 43 = .ok (.iconst 0, 1) := by decide +kernel
theorem dX12_readGuide_44 : decode cX12_readGuide 44 = .ok (.bipush 99, 2) := by decide +kernel
theorem dX12_readGuide_46 : decode cX12_readGuide 46 = .ok (.invokevirtual 179, 3) := by decide +kernel
theorem dX12_readGuide_49 : decode cX12_readGuide 49 = .ok (.istore_n 2, 1) := by decide +kernel
theorem dX12_readGuide_50 : decode cX12_readGuide 50 = .ok (.aload_n 0, 1) := by decide +kernel
theorem dX12_readGuide_51 : decode cX12_readGuide 51 = .ok (.iconst 3, 1) := by decide +kernel
theorem dX12_readGuide_52 : decode cX12_readGuide 52 = .ok (.invokevirtual 155, 3) := by decide +kernel
theorem dX12_readGuide_55 : decode cX12_readGuide 55 = .ok (.ifCond .eq 13, 3) := by decide +kernel
theorem dX12_readGuide_58 : decode cX12_readGuide 58 = .ok (.aload_n 0, 1) := by decide +kernel
theorem dX12_readGuide_59 : decode cX12_readGuide 59 = .ok (.iconst 0, 1) := by decide +kernel
theorem dX12_readGuide_60 : decode cX12_readGuide 60 = .ok (.bipush 99, 2) := by decide +kernel
theorem dX12_readGuide_62 : decode cX12_readGuide 62 = .ok (.invokevirtual 179, 3) := by decide +kernel
theorem dX12_readGuide_65 : decode cX12_readGuide 65 = .ok (.goto 4, 3) := by decide +kernel
theorem dX12_readGuide_68 : decode cX12_readGuide 68 = .ok (.iconst 0, 1) := by decide +kernel
theorem dX12_readGuide_69 : decode cX12_readGuide 69 = .ok (.istore_n 3, 1) := by decide +kernel
theorem dX12_readGuide_70 : decode cX12_readGuide 70 = .ok (.aload_n 0, 1) := by decide +kernel
theorem dX12_readGuide_71 : decode cX12_readGuide 71 = .ok (.getfield 128, 3) := by decide +kernel
theorem dX12_readGuide_74 : decode cX12_readGuide 74 = .ok (.ifCond .eq 4, 3) := by decide +kernel
theorem dX12_readGuide_77 : decode cX12_readGuide 77 = .ok (.return_, 1) := by decide +kernel
theorem dX12_readGuide_78 : decode cX12_readGuide 78 = .ok (.aload_n 0, 1) := by decide +kernel
theorem dX12_readGuide_79 : decode cX12_readGuide 79 = .ok (.getfield 24, 3) := by decide +kernel
theorem dX12_readGuide_82 : decode cX12_readGuide 82 = .ok (.bipush 49, 2) := by decide +kernel
theorem dX12_readGuide_84 : decode cX12_readGuide 84 = .ok (.iload_n 1, 1) := by decide +kernel
theorem dX12_readGuide_85 : decode cX12_readGuide 85 = .ok (.iadd, 1) := by decide +kernel
theorem dX12_readGuide_86 : decode cX12_readGuide 86 = .ok (.iload_n 2, 1) := by decide +kernel
theorem dX12_readGuide_87 : decode cX12_readGuide 87 = .ok (.iastore, 1) := by decide +kernel
theorem dX12_readGuide_88 : decode cX12_readGuide 88 = .ok (.aload_n 0, 1) := by decide +kernel
theorem dX12_readGuide_89 : decode cX12_readGuide 89 = .ok (.getfield 24, 3) := by decide +kernel
theorem dX12_readGuide_92 : decode cX12_readGuide 92 = .ok (.bipush 54, 2) := by decide +kernel
theorem dX12_readGuide_94 : decode cX12_readGuide 94 = .ok (.iload_n 1, 1) := by decide +kernel
theorem dX12_readGuide_95 : decode cX12_readGuide 95 = .ok (.iadd, 1) := by decide +kernel
theorem dX12_readGuide_96 : decode cX12_readGuide 96 = .ok (.iload_n 3, 1) := by decide +kernel
theorem dX12_readGuide_97 : decode cX12_readGuide 97 = .ok (.iastore, 1) := by decide +kernel
theorem dX12_readGuide_98 : decode cX12_readGuide 98 = .ok (.aload_n 0, 1) := by decide +kernel
theorem dX12_readGuide_99 : decode cX12_readGuide 99 = .ok (.getfield 24, 3) := by decide +kernel
theorem dX12_readGuide_102 : decode cX12_readGuide 102 = .ok (.iconst 2, 1) := by decide +kernel
theorem dX12_readGuide_103 : decode cX12_readGuide 103 = .ok (.dup2, 1) := by decide +kernel
theorem dX12_readGuide_104 : decode cX12_readGuide 104 = .ok (.iaload, 1) := by decide +kernel
theorem dX12_readGuide_105 : decode cX12_readGuide 105 = .ok (.iconst 1, 1) := by decide +kernel
theorem dX12_readGuide_106 : decode cX12_readGuide 106 = .ok (.iadd, 1) := by decide +kernel
theorem dX12_readGuide_107 : decode cX12_readGuide 107 = .ok (.iastore, 1) := by decide +kernel
theorem dX12_readGuide_108 : decode cX12_readGuide 108 = .ok (.return_, 1) := by decide +kernel
