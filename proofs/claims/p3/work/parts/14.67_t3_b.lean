set_option maxHeartbeats 4000000 in
set_option maxRecDepth 100000 in
theorem s_M_readAtom3 (l : Launch) (D : va_G) (cs : CS) (kf : KF) (T : TF) (O : List Nat) (X : va_W) (a0 hg mq : Nat) (x1 : Int32) (o0 : Value) (o1 : Value) (o2 : Value) (y3 : Nat) (y4 : Nat) (o5 : Value) (y6 : Int32) (y7 : Int32) (y8 : Int32) (y9 : Int32) (y10 : Int32) (y11 : Int32) (y12 : Int32) (tl : List Value) (f3 : Nat → Int32) (f4 : Nat → Int32) (t : Tp) (tn : Nat) (t_a0 : T a0 = some (22, hg, mq)) (b_hg : hg < 90) (l_x1 : 3 ≤ x1.toInt) (u_x1 : x1.toInt ≤ 3) (t_y3 : T y3 = some (9, 900, 0)) (t_y4 : T y4 = some (8, 1302, 0)) (l_y6 : 0 ≤ y6.toInt) (u_y6 : y6.toInt ≤ 900) (l_y7 : 0 ≤ y7.toInt) (u_y7 : y7.toInt ≤ 900) (l_y8 : 0 ≤ y8.toInt) (u_y8 : y8.toInt ≤ 900) (l_y10 : 0 ≤ y10.toInt) (u_y10 : y10.toInt ≤ 999) (s_f4 : S8 f4) (hn : y8.toInt = (tn : Int)) (htm : TM f3 t) (k1 : y6.toInt ≤ y7.toInt) (k2 : y7.toInt ≤ y8.toInt) (k3 : TK3 y9 y6 y7) (k4 : SL y11 f4 y6) (hms : MSW t tn y11 y6 y7 y9 y10) (hO : okO T (a0 :: y3 :: y4 :: O) []) : TK l D cs kf yX12_readAtom cX12_readAtom 2 none { frames := 16, cells := 0, slots := 0, locals := 342 } [.ref a0, .int x1] T (a0 :: y3 :: y4 :: O) ((a0, .inr (12, o0 :: o1 :: o2 :: (.ref y3) :: (.ref y4) :: o5 :: (.int y6) :: (.int y7) :: (.int y8) :: (.int y9) :: (.int y10) :: (.int y11) :: (.int y12) :: tl)) :: (y3, .inl (cs.2.1, 900, .inl f3)) :: (y4, .inl (cs.2.1, 1302, .inl f4)) :: X) (Tv D cs (fun u => ∃ (n0_6 : Int32) (n0_7 : Int32) (n0_9 : Int32) (n0_10 : Int32) (n0_11 : Int32) (n0_12 : Int32) (G2 : Nat → Int32), u = (T, a0 :: y3 :: y4 :: O, (a0, .inr (12, o0 :: o1 :: o2 :: (.ref y3) :: (.ref y4) :: o5 :: (.int n0_6) :: (.int n0_7) :: (.int y8) :: (.int n0_9) :: (.int n0_10) :: (.int n0_11) :: (.int n0_12) :: tl)) :: (y3, .inl (cs.2.1, 900, .inl f3)) :: (y4, .inl (cs.2.1, 1302, .inl G2)) :: X) ∧ (S8 G2) ∧ (y6.toInt ≤ n0_6.toInt) ∧ (n0_6.toInt ≤ n0_7.toInt) ∧ (n0_7.toInt ≤ y8.toInt) ∧ (TK3 n0_9 n0_6 n0_7) ∧ (0 ≤ n0_10.toInt) ∧ (n0_10.toInt ≤ 999) ∧ (RD f4 G2 y6 n0_6 y11 n0_11) ∧ (RG t tn [(0, 3)] [] y11 y12 y6 n0_11 n0_12 n0_6 n0_7 n0_9 n0_10) ∧ (FKP f4 G2))) := by
  refine tk_of (by decide) (Nat.le_of_ble_eq_true rfl) (fun p e s m below meth c ls A H locs hx hb hr hml hown hts hlocks hnm hkb hH hS hA hOX hks hE hl => ?_)
  have hown : s.vm.findClass RX12 = some m.cls := hown
  have hl : lv_has ls 2 [(0, .ref a0), (1, .int x1)] := hl
  have hOXf := hOX
  have hd0 := dpt_nn s_f4
  have hq0 := fun q9 => (hms q9).2.2.2.1
  refine lv_aload_n hx hb dX12_readAtom_0 rfl (lv_at hl 0 rfl) ?_
  refine lv_bipush (v := 21) hx hb dX12_readAtom_1 (by decide) ?_
  have z9_21 : (21 : Int32).toInt = 21 := by decide
  refine tk_i hH hS hA (tr_V (n := 1) (As := [.int 21]) hx hb hml hown hts hkb hH (ox_map hOX rfl) hks hE hS hA (s_M_is l D cs kf T (y4 :: O) ((y4, .inl (cs.2.1, 1302, .inl f4)) :: X) a0 hg mq (21) o0 o1 o2 y3 y4 o5 y6 y7 y8 y9 y10 y11 y12 tl f3 t tn t_a0 b_hg t_y3 t_y4 (by omega) (by omega) (by omega) (by omega) (by omega) (by omega) (by omega) (by omega) (by omega) htm (hO.sub (by decide))) kw_1370 kw_1372 ks_47 kw_13 kw_1373 (by decide +kernel) ⟨Nat.le_of_ble_eq_true rfl, Nat.le_of_ble_eq_true rfl⟩ (x_recv (ci := 12) hkb hH 0 rfl rfl) rfl rfl hl.1 (Nat.le_of_ble_eq_true rfl) dX12_readAtom_3 ⟨Nat.le_of_ble_eq_true rfl, Nat.le_of_ble_eq_true rfl⟩) (fun v3 u H locs hz9 hH hS => ?_)
  obtain ⟨rfl, l_v3, u_v3, x_v30, x_v31⟩ := hz9
  have hH : HT D cs A T (a0 :: y3 :: y4 :: O) ((a0, .inr (12, o0 :: o1 :: o2 :: (.ref y3) :: (.ref y4) :: o5 :: (.int y6) :: (.int y7) :: (.int y8) :: (.int y9) :: (.int y10) :: (.int y11) :: (.int y12) :: tl)) :: (y3, .inl (cs.2.1, 900, .inl f3)) :: (y4, .inl (cs.2.1, 1302, .inl f4)) :: X) H := hH
  refine W.widen (k := 0) (n := 0) (Nat.le_of_ble_eq_true rfl) (Nat.le_of_ble_eq_true rfl) ?_
  refine lv_if_eq (tgt := 24) hx hb dX12_readAtom_6 (by decide) (fun c6 => ?_) (fun c6 => ?_)
  · skip
    have tc6 := f_eq (k := 0) (by decide) c6
    clear x_v30
    replace x_v31 := x_v31.resolve_left (fun q9 => q9 tc6)
    refine lv_aload_n hx hb dX12_readAtom_24 rfl (lv_at hl 0 rfl) ?_
    refine x_getk (ci := 12) (C := RX12) (F := TX12) (N := 36) (v := .int y11) hx hb hts uX12 hown hkb hH 0 rfl rfl 11 (by decide) rfl kw_1234 (fun _ h9 => h9) dX12_readAtom_25 ?_
    refine lv_if_ne (tgt := 70) hx hb dX12_readAtom_28 (by decide) (fun c28 => ?_) (fun c28 => ?_)
    · skip
      have tc28 := f_ne (k := 0) (by decide) c28
      refine lv_aload_n hx hb dX12_readAtom_70 rfl (lv_at hl 0 rfl) ?_
      refine lv_iconst (v := 2) hx hb dX12_readAtom_71 (by decide) ?_
      have z9_2 : (2 : Int32).toInt = 2 := by decide
      refine tk_i hH hS hA (tr_V (n := 1) (As := [.int 2]) hx hb hml hown hts hkb hH (ox_map hOX rfl) hks hE hS hA (s_M_eats l D cs kf T (y4 :: O) ((y4, .inl (cs.2.1, 1302, .inl f4)) :: X) a0 hg mq (2) o0 o1 o2 y3 y4 o5 y6 y7 y8 y9 y10 y11 y12 tl f3 t tn t_a0 b_hg t_y3 t_y4 (by omega) (by omega) (by omega) (by omega) (by omega) (by omega) (by omega) (by omega) (by omega) htm (by omega) (by omega) k3 (by omega) hms (hO.sub (by decide))) kw_1390 kw_1392 ks_52 kw_13 kw_1393 (by decide +kernel) ⟨Nat.le_of_ble_eq_true rfl, Nat.le_of_ble_eq_true rfl⟩ (x_recv (ci := 12) hkb hH 0 rfl rfl) rfl rfl hl.1 (Nat.le_of_ble_eq_true rfl) dX12_readAtom_72 ⟨Nat.le_of_ble_eq_true rfl, Nat.le_of_ble_eq_true rfl⟩) (fun v72 u H locs hz9 hH hS => ?_)
      obtain ⟨n72_0_6, n72_0_7, n72_0_9, n72_0_10, rfl, l_v72, u_v72, x_v720, x_v721, x_v722, x_v723, x_v724, x_v725, x_v726, x_v727, x_v728⟩ := hz9
      have hH : HT D cs A T (a0 :: y3 :: y4 :: O) ((a0, .inr (12, o0 :: o1 :: o2 :: (.ref y3) :: (.ref y4) :: o5 :: (.int n72_0_6) :: (.int n72_0_7) :: (.int y8) :: (.int n72_0_9) :: (.int n72_0_10) :: (.int y11) :: (.int y12) :: tl)) :: (y3, .inl (cs.2.1, 900, .inl f3)) :: (y4, .inl (cs.2.1, 1302, .inl f4)) :: X) H := hH
      refine W.widen (k := 0) (n := 0) (Nat.le_of_ble_eq_true rfl) (Nat.le_of_ble_eq_true rfl) ?_
      refine lv_if_eq (tgt := 88) hx hb dX12_readAtom_75 (by decide) (fun c75 => ?_) (fun c75 => ?_)
      · skip
        have tc75 := f_eq (k := 0) (by decide) c75
        clear x_v726
        clear x_v727
        replace x_v728 := x_v728.resolve_left (fun q9 => q9 tc75)
        obtain ⟨e6, e7, e9, e10, x_v728⟩ := x_v728
        subst e6 e7 e9 e10
        refine lv_aload_n hx hb dX12_readAtom_88 rfl (lv_at hl 0 rfl) ?_
        refine lv_iconst (v := 3) hx hb dX12_readAtom_89 (by decide) ?_
        have z9_3 : (3 : Int32).toInt = 3 := by decide
        refine tk_i hH hS hA (tr_V (n := 1) (As := [.int 3]) hx hb hml hown hts hkb hH (ox_map hOX rfl) hks hE hS hA (s_M_eats l D cs kf T (y4 :: O) ((y4, .inl (cs.2.1, 1302, .inl f4)) :: X) a0 hg mq (3) o0 o1 o2 y3 y4 o5 y6 y7 y8 y9 y10 y11 y12 tl f3 t tn t_a0 b_hg t_y3 t_y4 (by omega) (by omega) (by omega) (by omega) (by omega) (by omega) (by omega) (by omega) (by omega) htm (by omega) (by omega) x_v723 (by omega) hms (hO.sub (by decide))) kw_1390 kw_1392 ks_52 kw_13 kw_1393 (by decide +kernel) ⟨Nat.le_of_ble_eq_true rfl, Nat.le_of_ble_eq_true rfl⟩ (x_recv (ci := 12) hkb hH 0 rfl rfl) rfl rfl hl.1 (Nat.le_of_ble_eq_true rfl) dX12_readAtom_90 ⟨Nat.le_of_ble_eq_true rfl, Nat.le_of_ble_eq_true rfl⟩) (fun v90 u H locs hz9 hH hS => ?_)
        obtain ⟨n90_0_6, n90_0_7, n90_0_9, n90_0_10, rfl, l_v90, u_v90, x_v900, x_v901, x_v902, x_v903, x_v904, x_v905, x_v906, x_v907, x_v908⟩ := hz9
        have hH : HT D cs A T (a0 :: y3 :: y4 :: O) ((a0, .inr (12, o0 :: o1 :: o2 :: (.ref y3) :: (.ref y4) :: o5 :: (.int n90_0_6) :: (.int n90_0_7) :: (.int y8) :: (.int n90_0_9) :: (.int n90_0_10) :: (.int y11) :: (.int y12) :: tl)) :: (y3, .inl (cs.2.1, 900, .inl f3)) :: (y4, .inl (cs.2.1, 1302, .inl f4)) :: X) H := hH
        refine W.widen (k := 0) (n := 0) (Nat.le_of_ble_eq_true rfl) (Nat.le_of_ble_eq_true rfl) ?_
        refine lv_if_eq (tgt := 106) hx hb dX12_readAtom_93 (by decide) (fun c93 => ?_) (fun c93 => ?_)
        · skip
          have tc93 := f_eq (k := 0) (by decide) c93
          clear x_v906
          clear x_v907
          replace x_v908 := x_v908.resolve_left (fun q9 => q9 tc93)
          obtain ⟨e6, e7, e9, e10, x_v908⟩ := x_v908
          subst e6 e7 e9 e10
          refine lv_aload_n hx hb dX12_readAtom_106 rfl (lv_at hl 0 rfl) ?_
          refine lv_bipush (v := 11) hx hb dX12_readAtom_107 (by decide) ?_
          have z9_11 : (11 : Int32).toInt = 11 := by decide
          refine tk_i hH hS hA (tr_V (n := 1) (As := [.int 11]) hx hb hml hown hts hkb hH (ox_map hOX rfl) hks hE hS hA (s_M_eats l D cs kf T (y4 :: O) ((y4, .inl (cs.2.1, 1302, .inl f4)) :: X) a0 hg mq (11) o0 o1 o2 y3 y4 o5 y6 y7 y8 y9 y10 y11 y12 tl f3 t tn t_a0 b_hg t_y3 t_y4 (by omega) (by omega) (by omega) (by omega) (by omega) (by omega) (by omega) (by omega) (by omega) htm (by omega) (by omega) x_v903 (by omega) hms (hO.sub (by decide))) kw_1390 kw_1392 ks_52 kw_13 kw_1393 (by decide +kernel) ⟨Nat.le_of_ble_eq_true rfl, Nat.le_of_ble_eq_true rfl⟩ (x_recv (ci := 12) hkb hH 0 rfl rfl) rfl rfl hl.1 (Nat.le_of_ble_eq_true rfl) dX12_readAtom_109 ⟨Nat.le_of_ble_eq_true rfl, Nat.le_of_ble_eq_true rfl⟩) (fun v109 u H locs hz9 hH hS => ?_)
          obtain ⟨n109_0_6, n109_0_7, n109_0_9, n109_0_10, rfl, l_v109, u_v109, x_v1090, x_v1091, x_v1092, x_v1093, x_v1094, x_v1095, x_v1096, x_v1097, x_v1098⟩ := hz9
          have hH : HT D cs A T (a0 :: y3 :: y4 :: O) ((a0, .inr (12, o0 :: o1 :: o2 :: (.ref y3) :: (.ref y4) :: o5 :: (.int n109_0_6) :: (.int n109_0_7) :: (.int y8) :: (.int n109_0_9) :: (.int n109_0_10) :: (.int y11) :: (.int y12) :: tl)) :: (y3, .inl (cs.2.1, 900, .inl f3)) :: (y4, .inl (cs.2.1, 1302, .inl f4)) :: X) H := hH
          refine W.widen (k := 0) (n := 0) (Nat.le_of_ble_eq_true rfl) (Nat.le_of_ble_eq_true rfl) ?_
          refine lv_if_eq (tgt := 125) hx hb dX12_readAtom_112 (by decide) (fun c112 => ?_) (fun c112 => ?_)
          · skip
            have tc112 := f_eq (k := 0) (by decide) c112
            clear x_v1096
            clear x_v1097
            replace x_v1098 := x_v1098.resolve_left (fun q9 => q9 tc112)
            obtain ⟨e6, e7, e9, e10, x_v1098⟩ := x_v1098
            subst e6 e7 e9 e10
            refine lv_aload_n hx hb dX12_readAtom_125 rfl (lv_at hl 0 rfl) ?_
            refine lv_bipush (v := 8) hx hb dX12_readAtom_126 (by decide) ?_
            have z9_8 : (8 : Int32).toInt = 8 := by decide
            refine tk_i hH hS hA (tr_V (n := 1) (As := [.int 8]) hx hb hml hown hts hkb hH (ox_map hOX rfl) hks hE hS hA (s_M_eats l D cs kf T (y4 :: O) ((y4, .inl (cs.2.1, 1302, .inl f4)) :: X) a0 hg mq (8) o0 o1 o2 y3 y4 o5 y6 y7 y8 y9 y10 y11 y12 tl f3 t tn t_a0 b_hg t_y3 t_y4 (by omega) (by omega) (by omega) (by omega) (by omega) (by omega) (by omega) (by omega) (by omega) htm (by omega) (by omega) x_v1093 (by omega) hms (hO.sub (by decide))) kw_1390 kw_1392 ks_52 kw_13 kw_1393 (by decide +kernel) ⟨Nat.le_of_ble_eq_true rfl, Nat.le_of_ble_eq_true rfl⟩ (x_recv (ci := 12) hkb hH 0 rfl rfl) rfl rfl hl.1 (Nat.le_of_ble_eq_true rfl) dX12_readAtom_128 ⟨Nat.le_of_ble_eq_true rfl, Nat.le_of_ble_eq_true rfl⟩) (fun v128 u H locs hz9 hH hS => ?_)
            obtain ⟨n128_0_6, n128_0_7, n128_0_9, n128_0_10, rfl, l_v128, u_v128, x_v1280, x_v1281, x_v1282, x_v1283, x_v1284, x_v1285, x_v1286, x_v1287, x_v1288⟩ := hz9
            have hH : HT D cs A T (a0 :: y3 :: y4 :: O) ((a0, .inr (12, o0 :: o1 :: o2 :: (.ref y3) :: (.ref y4) :: o5 :: (.int n128_0_6) :: (.int n128_0_7) :: (.int y8) :: (.int n128_0_9) :: (.int n128_0_10) :: (.int y11) :: (.int y12) :: tl)) :: (y3, .inl (cs.2.1, 900, .inl f3)) :: (y4, .inl (cs.2.1, 1302, .inl f4)) :: X) H := hH
            refine W.widen (k := 0) (n := 0) (Nat.le_of_ble_eq_true rfl) (Nat.le_of_ble_eq_true rfl) ?_
            refine lv_if_eq (tgt := 144) hx hb dX12_readAtom_131 (by decide) (fun c131 => ?_) (fun c131 => ?_)
            · skip
              have tc131 := f_eq (k := 0) (by decide) c131
              clear x_v1286
              clear x_v1287
              replace x_v1288 := x_v1288.resolve_left (fun q9 => q9 tc131)
              obtain ⟨e6, e7, e9, e10, x_v1288⟩ := x_v1288
              subst e6 e7 e9 e10
              refine lv_aload_n hx hb dX12_readAtom_144 rfl (lv_at hl 0 rfl) ?_
              refine lv_bipush (v := 35) hx hb dX12_readAtom_145 (by decide) ?_
              have z9_35 : (35 : Int32).toInt = 35 := by decide
              refine tk_i hH hS hA (tr_V (n := 1) (As := [.int 35]) hx hb hml hown hts hkb hH (ox_map hOX rfl) hks hE hS hA (s_M_is l D cs kf T (y4 :: O) ((y4, .inl (cs.2.1, 1302, .inl f4)) :: X) a0 hg mq (35) o0 o1 o2 y3 y4 o5 y6 y7 y8 y9 y10 y11 y12 tl f3 t tn t_a0 b_hg t_y3 t_y4 (by omega) (by omega) (by omega) (by omega) (by omega) (by omega) (by omega) (by omega) (by omega) htm (hO.sub (by decide))) kw_1370 kw_1372 ks_47 kw_13 kw_1373 (by decide +kernel) ⟨Nat.le_of_ble_eq_true rfl, Nat.le_of_ble_eq_true rfl⟩ (x_recv (ci := 12) hkb hH 0 rfl rfl) rfl rfl hl.1 (Nat.le_of_ble_eq_true rfl) dX12_readAtom_147 ⟨Nat.le_of_ble_eq_true rfl, Nat.le_of_ble_eq_true rfl⟩) (fun v147 u H locs hz9 hH hS => ?_)
              obtain ⟨rfl, l_v147, u_v147, x_v1470, x_v1471⟩ := hz9
              have hH : HT D cs A T (a0 :: y3 :: y4 :: O) ((a0, .inr (12, o0 :: o1 :: o2 :: (.ref y3) :: (.ref y4) :: o5 :: (.int y6) :: (.int y7) :: (.int y8) :: (.int y9) :: (.int y10) :: (.int y11) :: (.int y12) :: tl)) :: (y3, .inl (cs.2.1, 900, .inl f3)) :: (y4, .inl (cs.2.1, 1302, .inl f4)) :: X) H := hH
              refine W.widen (k := 0) (n := 0) (Nat.le_of_ble_eq_true rfl) (Nat.le_of_ble_eq_true rfl) ?_
              refine lv_if_eq (tgt := 186) hx hb dX12_readAtom_150 (by decide) (fun c150 => ?_) (fun c150 => ?_)
              · skip
                have tc150 := f_eq (k := 0) (by decide) c150
                clear x_v1470
                replace x_v1471 := x_v1471.resolve_left (fun q9 => q9 tc150)
                refine lv_aload_n hx hb dX12_readAtom_186 rfl (lv_at hl 0 rfl) ?_
                refine lv_iconst (v := 2) hx hb dX12_readAtom_187 (by decide) ?_
                have z9_2 : (2 : Int32).toInt = 2 := by decide
                refine tk_v hH hS hA (tr_V (n := 1) (As := [.int 2]) hx hb hml hown hts hkb hH (ox_map hOX rfl) hks hE hS hA (s_M_fails l D cs kf T (y4 :: O) ((y4, .inl (cs.2.1, 1302, .inl f4)) :: X) a0 hg mq (2) o0 o1 o2 y3 y4 o5 y6 y7 y8 y9 y10 y11 y12 tl f3 t tn t_a0 b_hg (by decide) (by decide) t_y3 t_y4 (by omega) (by omega) (by omega) (by omega) (by omega) (by omega) (by omega) (by omega) (by omega) htm (hO.sub (by decide))) kw_1378 kw_1380 ks_49 kw_13 kw_1381 (by decide +kernel) ⟨Nat.le_of_ble_eq_true rfl, Nat.le_of_ble_eq_true rfl⟩ (x_recv (ci := 12) hkb hH 0 rfl rfl) rfl rfl hl.1 (Nat.le_of_ble_eq_true rfl) dX12_readAtom_188 ⟨Nat.le_of_ble_eq_true rfl, Nat.le_of_ble_eq_true rfl⟩) (fun u H locs hz9 hH hS => ?_)
                obtain ⟨n188_0_11, n188_0_12, rfl, x_v1880, x_v1881⟩ := hz9
                have hH : HT D cs A T (a0 :: y3 :: y4 :: O) ((a0, .inr (12, o0 :: o1 :: o2 :: (.ref y3) :: (.ref y4) :: o5 :: (.int y6) :: (.int y7) :: (.int y8) :: (.int y9) :: (.int y10) :: (.int n188_0_11) :: (.int n188_0_12) :: tl)) :: (y3, .inl (cs.2.1, 900, .inl f3)) :: (y4, .inl (cs.2.1, 1302, .inl f4)) :: X) H := hH
                refine W.widen (k := 0) (n := 0) (Nat.le_of_ble_eq_true rfl) (Nat.le_of_ble_eq_true rfl) ?_
                exact te_v hx hb hr hlocks hH hS (⟨y6, y7, y9, y10, n188_0_11, n188_0_12, f4, rfl, s_f4, by omega, by omega, by omega, x_v1283, by omega, by omega, (by first | exact (fun q => absurd q x_v1880)), (by first | (refine RG_nx ?_ x_v186 (fun _ _ => st_aV ?_) ((hms ?_).nx x_v187) <;> omega) | (refine RG_nx ?_ x_v646 (fun _ _ => st_aV ?_) ((hms ?_).nx x_v647) <;> omega) | (refine (RG_nx ?_ x_v727.1 (fun _ _ => st_aV ?_) x_v727.2.1) <;> omega) | (refine (RG_nx ?_ x_v907.1 (fun _ _ => st_aV ?_) x_v907.2.1) <;> omega) | (refine (RG_nx ?_ x_v1097.1 (fun _ _ => st_aV ?_) x_v1097.2.1) <;> omega) | (refine (RG_nx ?_ x_v1287.1 (fun _ _ => st_aV ?_) x_v1287.2.1) <;> omega) | (refine g169.seq (RG_nx ?_ x_v1727.1 (fun _ _ => st_xY ?_) x_v1727.2.1) <;> omega) | (exact g169.seq (RG_f (m := 2) (G := []) x_v1801 (RG.msw x_v1668) (by decide) (by decide) (fun q9 _ _ => st_xN (by have q8 := (RG.msw x_v1668 q9).2.2.2.1; omega)))) | (exact RG_f (m := 4) (G := []) x_v1559 hms (by decide) (by decide) (fun q9 _ _ => st_aD (by omega))) | (exact (RG_f (m := 2) (G := []) x_v1881 hms (by decide) (by decide) (fun q9 _ _ => st_aN (by have q8 := hq0 q9; omega) (by have q8 := hq0 q9; omega))))), FKP.rf⟩) dX12_readAtom_191
              · skip
                have tc150 := f_ne (k := 0) (by decide) c150
                replace x_v1470 := x_v1470.resolve_left tc150
                clear x_v1471
                refine lv_aload_n hx hb dX12_readAtom_153 rfl (lv_at hl 0 rfl) ?_
                refine lv_iload_n hx hb dX12_readAtom_154 rfl (lv_at hl 1 rfl) ?_
                refine tk_i hH hS hA (tr_V (n := 1) (As := [.int x1]) hx hb hml hown hts hkb hH (ox_map hOX rfl) hks hE hS hA (s_M_goesIn3 l D cs kf T (y4 :: O) ((y4, .inl (cs.2.1, 1302, .inl f4)) :: X) a0 hg mq x1 o0 o1 o2 y3 y4 o5 y6 y7 y8 y9 y10 y11 y12 tl f3 t tn t_a0 b_hg (by omega) (by omega) t_y3 t_y4 (by omega) (by omega) (by omega) (by omega) (by omega) (by omega) (by omega) (by omega) (by omega) htm (by omega) (by omega) x_v1283 (by omega) (by omega) hms (hO.sub (by decide))) kw_1414 kw_1416 ks_58 kw_13 kw_1417 (by decide +kernel) ⟨Nat.le_of_ble_eq_true rfl, Nat.le_of_ble_eq_true rfl⟩ (x_recv (ci := 12) hkb hH 0 rfl rfl) rfl rfl hl.1 (Nat.le_of_ble_eq_true rfl) dX12_readAtom_155 ⟨Nat.le_of_ble_eq_true rfl, Nat.le_of_ble_eq_true rfl⟩) (fun v155 u H locs hz9 hH hS => ?_)
                obtain ⟨n155_0_6, n155_0_7, n155_0_9, n155_0_10, n155_0_11, n155_0_12, rfl, l_v155, u_v155, x_v1550, x_v1551, x_v1552, x_v1553, x_v1554, x_v1555, x_v1556, x_v1557, x_v1558, x_v1559⟩ := hz9
                have hH : HT D cs A T (a0 :: y3 :: y4 :: O) ((a0, .inr (12, o0 :: o1 :: o2 :: (.ref y3) :: (.ref y4) :: o5 :: (.int n155_0_6) :: (.int n155_0_7) :: (.int y8) :: (.int n155_0_9) :: (.int n155_0_10) :: (.int n155_0_11) :: (.int n155_0_12) :: tl)) :: (y3, .inl (cs.2.1, 900, .inl f3)) :: (y4, .inl (cs.2.1, 1302, .inl f4)) :: X) H := hH
                refine W.widen (k := 0) (n := 0) (Nat.le_of_ble_eq_true rfl) (Nat.le_of_ble_eq_true rfl) ?_
                refine lv_if_ne (tgt := 162) hx hb dX12_readAtom_158 (by decide) (fun c158 => ?_) (fun c158 => ?_)
                · skip
                  have tc158 := f_ne (k := 0) (by decide) c158
                  replace x_v1556 := x_v1556.resolve_left tc158
                  replace x_v1558 := x_v1558.resolve_left tc158
                  clear x_v1557
                  clear x_v1559
                  have hsl := k4 (by omega)
                  have hq1 := hq0 (by omega)
                  have g162 : RG t tn [(0, 3)] [(3, 4), (20, 36)] y11 y12 y6 n155_0_11 n155_0_12 n155_0_6 n155_0_7 n155_0_9 n155_0_10 := Or.inr (Or.inl ⟨by omega, by omega, x_v1558.1, GL_nx (fun _ _ => st_aP (by omega) (by decide)) x_v1558.2.1⟩)
                  refine lv_aload_n hx hb dX12_readAtom_162 rfl (lv_at hl 0 rfl) ?_
                  refine lv_iload_n hx hb dX12_readAtom_163 rfl (lv_at hl 1 rfl) ?_
                  refine lv_iconst (v := 1) hx hb dX12_readAtom_164 (by decide) ?_
                  refine lv_iadd hx hb dX12_readAtom_165 ?_
                  refine lv_topi (fun v165 ev165 => ?_)
                  have tv165 : v165.toInt = x1.toInt + (1) := by rw [ev165]; exact add_i rfl (by decide : (1 : Int32).toInt = 1) (by omega) (by omega)
                  refine tk_v hH hS hA (tr_V (n := 1) (As := [.int v165]) hx hb hml hown hts hkb hH (ox_map hOX rfl) hks hE hS hA (s_M_readSum4 l D cs kf T O X a0 hg mq v165 o0 o1 o2 y3 y4 o5 n155_0_6 n155_0_7 y8 n155_0_9 n155_0_10 n155_0_11 n155_0_12 tl f3 f4 t tn t_a0 b_hg (by omega) (by omega) t_y3 t_y4 (by omega) (by omega) (by omega) (by omega) (by omega) (by omega) (by omega) (by omega) s_f4 (by omega) htm (by omega) (by omega) x_v1553 (by first | exact k4 | exact (fun q => absurd q x_v1557) | (intro _; omega)) (fun _ => x_v1558.1) (hO.sub (by decide))) kw_1422 kw_1424 ks_60 kw_13 kw_1425 (by decide +kernel) ⟨Nat.le_of_ble_eq_true rfl, Nat.le_of_ble_eq_true rfl⟩ (x_recv (ci := 12) hkb hH 0 rfl rfl) rfl rfl hl.1 (Nat.le_of_ble_eq_true rfl) dX12_readAtom_166 ⟨Nat.le_of_ble_eq_true rfl, Nat.le_of_ble_eq_true rfl⟩) (fun u H locs hz9 hH hS => ?_)
                  obtain ⟨n166_0_6, n166_0_7, n166_0_9, n166_0_10, n166_0_11, n166_0_12, F166_2, rfl, x_v1660, x_v1661, x_v1662, x_v1663, x_v1664, x_v1665, x_v1666, x_v1667, x_v1668, x_v1669⟩ := hz9
                  have s_F166_2 := x_v1660
                  have hH : HT D cs A T (a0 :: y3 :: y4 :: O) ((a0, .inr (12, o0 :: o1 :: o2 :: (.ref y3) :: (.ref y4) :: o5 :: (.int n166_0_6) :: (.int n166_0_7) :: (.int y8) :: (.int n166_0_9) :: (.int n166_0_10) :: (.int n166_0_11) :: (.int n166_0_12) :: tl)) :: (y3, .inl (cs.2.1, 900, .inl f3)) :: (y4, .inl (cs.2.1, 1302, .inl F166_2)) :: X) H := hH
                  refine W.widen (k := 0) (n := 0) (Nat.le_of_ble_eq_true rfl) (Nat.le_of_ble_eq_true rfl) ?_
                  have g169 : RG t tn [(0, 3)] [(20, 36)] y11 y12 y6 n166_0_11 n166_0_12 n166_0_6 n166_0_7 n166_0_9 n166_0_10 := g162.seq (RG.cons x_v1668)
                  refine lv_aload_n hx hb dX12_readAtom_169 rfl (lv_at hl 0 rfl) ?_
                  refine lv_bipush (v := 36) hx hb dX12_readAtom_170 (by decide) ?_
                  have z9_36 : (36 : Int32).toInt = 36 := by decide
                  refine tk_i hH hS hA (tr_V (n := 1) (As := [.int 36]) hx hb hml hown hts hkb hH (ox_map hOX rfl) hks hE hS hA (s_M_eats l D cs kf T (y4 :: O) ((y4, .inl (cs.2.1, 1302, .inl F166_2)) :: X) a0 hg mq (36) o0 o1 o2 y3 y4 o5 n166_0_6 n166_0_7 y8 n166_0_9 n166_0_10 n166_0_11 n166_0_12 tl f3 t tn t_a0 b_hg t_y3 t_y4 (by omega) (by omega) (by omega) (by omega) (by omega) (by omega) (by omega) (by omega) (by omega) htm (by omega) (by omega) x_v1664 (by omega) (RG.msw x_v1668) (hO.sub (by decide))) kw_1390 kw_1392 ks_52 kw_13 kw_1393 (by decide +kernel) ⟨Nat.le_of_ble_eq_true rfl, Nat.le_of_ble_eq_true rfl⟩ (x_recv (ci := 12) hkb hH 0 rfl rfl) rfl rfl hl.1 (Nat.le_of_ble_eq_true rfl) dX12_readAtom_172 ⟨Nat.le_of_ble_eq_true rfl, Nat.le_of_ble_eq_true rfl⟩) (fun v172 u H locs hz9 hH hS => ?_)
                  obtain ⟨n172_0_6, n172_0_7, n172_0_9, n172_0_10, rfl, l_v172, u_v172, x_v1720, x_v1721, x_v1722, x_v1723, x_v1724, x_v1725, x_v1726, x_v1727, x_v1728⟩ := hz9
                  have hH : HT D cs A T (a0 :: y3 :: y4 :: O) ((a0, .inr (12, o0 :: o1 :: o2 :: (.ref y3) :: (.ref y4) :: o5 :: (.int n172_0_6) :: (.int n172_0_7) :: (.int y8) :: (.int n172_0_9) :: (.int n172_0_10) :: (.int n166_0_11) :: (.int n166_0_12) :: tl)) :: (y3, .inl (cs.2.1, 900, .inl f3)) :: (y4, .inl (cs.2.1, 1302, .inl F166_2)) :: X) H := hH
                  refine W.widen (k := 0) (n := 0) (Nat.le_of_ble_eq_true rfl) (Nat.le_of_ble_eq_true rfl) ?_
                  refine lv_if_ne (tgt := 191) hx hb dX12_readAtom_175 (by decide) (fun c175 => ?_) (fun c175 => ?_)
                  · skip
                    have tc175 := f_ne (k := 0) (by decide) c175
                    replace x_v1726 := x_v1726.resolve_left tc175
                    replace x_v1727 := x_v1727.resolve_left tc175
                    clear x_v1728
                    exact te_v hx hb hr hlocks hH hS (⟨n172_0_6, n172_0_7, n172_0_9, n172_0_10, n166_0_11, n166_0_12, F166_2, rfl, s_F166_2, by omega, by omega, by omega, x_v1723, by omega, by omega, (by first | exact (fun q => absurd q x_v1557) | exact (fun q => absurd (x_v1667 q).1 x_v1557) | exact x_v1667 | (refine RD_le x_v1667 ?_; omega) | (intro q; obtain ⟨c0, c1, c2⟩ := x_v1667 q; refine ⟨?_, ?_, ?_⟩ <;> omega)), (by first | (refine RG_nx ?_ x_v186 (fun _ _ => st_aV ?_) ((hms ?_).nx x_v187) <;> omega) | (refine RG_nx ?_ x_v646 (fun _ _ => st_aV ?_) ((hms ?_).nx x_v647) <;> omega) | (refine (RG_nx ?_ x_v727.1 (fun _ _ => st_aV ?_) x_v727.2.1) <;> omega) | (refine (RG_nx ?_ x_v907.1 (fun _ _ => st_aV ?_) x_v907.2.1) <;> omega) | (refine (RG_nx ?_ x_v1097.1 (fun _ _ => st_aV ?_) x_v1097.2.1) <;> omega) | (refine (RG_nx ?_ x_v1287.1 (fun _ _ => st_aV ?_) x_v1287.2.1) <;> omega) | (refine g169.seq (RG_nx ?_ x_v1727.1 (fun _ _ => st_xY ?_) x_v1727.2.1) <;> omega) | (exact g169.seq (RG_f (m := 2) (G := []) x_v1801 (RG.msw x_v1668) (by decide) (by decide) (fun q9 _ _ => st_xN (by have q8 := (RG.msw x_v1668 q9).2.2.2.1; omega)))) | (exact RG_f (m := 4) (G := []) x_v1559 hms (by decide) (by decide) (fun q9 _ _ => st_aD (by omega))) | (exact (RG_f (m := 2) (G := []) x_v1881 hms (by decide) (by decide) (fun q9 _ _ => st_aN (by have q8 := hq0 q9; omega) (by have q8 := hq0 q9; omega))))), (FKP.tr FKP.rf x_v1669)⟩) dX12_readAtom_191
                  · skip
                    have tc175 := f_eq (k := 0) (by decide) c175
                    clear x_v1726
                    clear x_v1727
                    replace x_v1728 := x_v1728.resolve_left (fun q9 => q9 tc175)
                    obtain ⟨e6, e7, e9, e10, x_v1728⟩ := x_v1728
                    subst e6 e7 e9 e10
                    refine lv_aload_n hx hb dX12_readAtom_178 rfl (lv_at hl 0 rfl) ?_
                    refine lv_iconst (v := 2) hx hb dX12_readAtom_179 (by decide) ?_
                    have z9_2 : (2 : Int32).toInt = 2 := by decide
                    refine tk_v hH hS hA (tr_V (n := 1) (As := [.int 2]) hx hb hml hown hts hkb hH (ox_map hOX rfl) hks hE hS hA (s_M_fails l D cs kf T (y4 :: O) ((y4, .inl (cs.2.1, 1302, .inl F166_2)) :: X) a0 hg mq (2) o0 o1 o2 y3 y4 o5 n166_0_6 n166_0_7 y8 n166_0_9 n166_0_10 n166_0_11 n166_0_12 tl f3 t tn t_a0 b_hg (by decide) (by decide) t_y3 t_y4 (by omega) (by omega) (by omega) (by omega) (by omega) (by omega) (by omega) (by omega) (by omega) htm (hO.sub (by decide))) kw_1378 kw_1380 ks_49 kw_13 kw_1381 (by decide +kernel) ⟨Nat.le_of_ble_eq_true rfl, Nat.le_of_ble_eq_true rfl⟩ (x_recv (ci := 12) hkb hH 0 rfl rfl) rfl rfl hl.1 (Nat.le_of_ble_eq_true rfl) dX12_readAtom_180 ⟨Nat.le_of_ble_eq_true rfl, Nat.le_of_ble_eq_true rfl⟩) (fun u H locs hz9 hH hS => ?_)
                    obtain ⟨n180_0_11, n180_0_12, rfl, x_v1800, x_v1801⟩ := hz9
                    have hH : HT D cs A T (a0 :: y3 :: y4 :: O) ((a0, .inr (12, o0 :: o1 :: o2 :: (.ref y3) :: (.ref y4) :: o5 :: (.int n166_0_6) :: (.int n166_0_7) :: (.int y8) :: (.int n166_0_9) :: (.int n166_0_10) :: (.int n180_0_11) :: (.int n180_0_12) :: tl)) :: (y3, .inl (cs.2.1, 900, .inl f3)) :: (y4, .inl (cs.2.1, 1302, .inl F166_2)) :: X) H := hH
                    refine W.widen (k := 0) (n := 0) (Nat.le_of_ble_eq_true rfl) (Nat.le_of_ble_eq_true rfl) ?_
                    refine lv_goto (tgt := 191) hx hb dX12_readAtom_183 (by decide) ?_
                    exact te_v hx hb hr hlocks hH hS (⟨n166_0_6, n166_0_7, n166_0_9, n166_0_10, n180_0_11, n180_0_12, F166_2, rfl, s_F166_2, by omega, by omega, by omega, x_v1723, by omega, by omega, (by first | exact (fun q => absurd q x_v1557) | exact (fun q => absurd q x_v1800) | exact (fun q => absurd (x_v1667 q).1 x_v1557) | exact (fun q => absurd (x_v1667 q).1 x_v1800) | exact x_v1667 | (refine RD_le x_v1667 ?_; omega) | (intro q; obtain ⟨c0, c1, c2⟩ := x_v1667 q; refine ⟨?_, ?_, ?_⟩ <;> omega)), (by first | (refine RG_nx ?_ x_v186 (fun _ _ => st_aV ?_) ((hms ?_).nx x_v187) <;> omega) | (refine RG_nx ?_ x_v646 (fun _ _ => st_aV ?_) ((hms ?_).nx x_v647) <;> omega) | (refine (RG_nx ?_ x_v727.1 (fun _ _ => st_aV ?_) x_v727.2.1) <;> omega) | (refine (RG_nx ?_ x_v907.1 (fun _ _ => st_aV ?_) x_v907.2.1) <;> omega) | (refine (RG_nx ?_ x_v1097.1 (fun _ _ => st_aV ?_) x_v1097.2.1) <;> omega) | (refine (RG_nx ?_ x_v1287.1 (fun _ _ => st_aV ?_) x_v1287.2.1) <;> omega) | (refine g169.seq (RG_nx ?_ x_v1727.1 (fun _ _ => st_xY ?_) x_v1727.2.1) <;> omega) | (exact g169.seq (RG_f (m := 2) (G := []) x_v1801 (RG.msw x_v1668) (by decide) (by decide) (fun q9 _ _ => st_xN (by have q8 := (RG.msw x_v1668 q9).2.2.2.1; omega)))) | (exact RG_f (m := 4) (G := []) x_v1559 hms (by decide) (by decide) (fun q9 _ _ => st_aD (by omega))) | (exact (RG_f (m := 2) (G := []) x_v1881 hms (by decide) (by decide) (fun q9 _ _ => st_aN (by have q8 := hq0 q9; omega) (by have q8 := hq0 q9; omega))))), (FKP.tr FKP.rf x_v1669)⟩) dX12_readAtom_191
                · skip
                  have tc158 := f_eq (k := 0) (by decide) c158
                  clear x_v1556
                  clear x_v1558
                  replace x_v1557 := x_v1557.resolve_left (fun q9 => q9 tc158)
                  replace x_v1559 := x_v1559.resolve_left (fun q9 => q9 tc158)
                  exfalso; omega
            · skip
              have tc131 := f_ne (k := 0) (by decide) c131
              replace x_v1286 := x_v1286.resolve_left tc131
              replace x_v1287 := x_v1287.resolve_left tc131
              clear x_v1288
              have hsl := k4 (by omega)
              refine lv_aload_n hx hb dX12_readAtom_134 rfl (lv_at hl 0 rfl) ?_
              refine lv_sipush (v := 1006) hx hb dX12_readAtom_135 (by decide) ?_
              have z9_1006 : (1006 : Int32).toInt = 1006 := by decide
              refine tk_v hH hS hA (tr_V (n := 1) (As := [.int 1006]) hx hb hml hown hts hkb hH (ox_map hOX rfl) hks hE hS hA (s_M_codesA l D cs kf T O X a0 hg mq (1006) o0 o1 o2 y3 y4 o5 n128_0_6 n128_0_7 y8 n128_0_9 n128_0_10 y11 y12 tl f3 f4 t tn t_a0 b_hg (by decide) t_y3 t_y4 (by omega) (by omega) (by omega) (by omega) (by omega) (by omega) (by omega) (by omega) s_f4 (by omega) htm (by first | (intro q; constructor <;> omega)) (hO.sub (by decide))) kw_1418 kw_1420 ks_59 kw_13 kw_1421 (by decide +kernel) ⟨Nat.le_of_ble_eq_true rfl, Nat.le_of_ble_eq_true rfl⟩ (x_recv (ci := 12) hkb hH 0 rfl rfl) rfl rfl hl.1 (Nat.le_of_ble_eq_true rfl) dX12_readAtom_138 ⟨Nat.le_of_ble_eq_true rfl, Nat.le_of_ble_eq_true rfl⟩) (fun u H locs hz9 hH hS => ?_)
              obtain ⟨F138_2, rfl, x_v1380, x_v1381, x_v1382⟩ := hz9
              have s_F138_2 := x_v1380
              have hH : HT D cs A T (a0 :: y3 :: y4 :: O) ((a0, .inr (12, o0 :: o1 :: o2 :: (.ref y3) :: (.ref y4) :: o5 :: (.int n128_0_6) :: (.int n128_0_7) :: (.int y8) :: (.int n128_0_9) :: (.int n128_0_10) :: (.int y11) :: (.int y12) :: tl)) :: (y3, .inl (cs.2.1, 900, .inl f3)) :: (y4, .inl (cs.2.1, 1302, .inl F138_2)) :: X) H := hH
              refine W.widen (k := 0) (n := 0) (Nat.le_of_ble_eq_true rfl) (Nat.le_of_ble_eq_true rfl) ?_
              refine lv_goto (tgt := 191) hx hb dX12_readAtom_141 (by decide) ?_
              exact te_v hx hb hr hlocks hH hS (⟨n128_0_6, n128_0_7, n128_0_9, n128_0_10, y11, y12, F138_2, rfl, s_F138_2, by omega, by omega, by omega, x_v1283, by omega, by omega, (by first | (intro q; obtain ⟨c1, c2⟩ := x_v1381 q; refine ⟨?_, ?_, ?_⟩ <;> omega)), (by first | (refine RG_nx ?_ x_v186 (fun _ _ => st_aV ?_) ((hms ?_).nx x_v187) <;> omega) | (refine RG_nx ?_ x_v646 (fun _ _ => st_aV ?_) ((hms ?_).nx x_v647) <;> omega) | (refine (RG_nx ?_ x_v727.1 (fun _ _ => st_aV ?_) x_v727.2.1) <;> omega) | (refine (RG_nx ?_ x_v907.1 (fun _ _ => st_aV ?_) x_v907.2.1) <;> omega) | (refine (RG_nx ?_ x_v1097.1 (fun _ _ => st_aV ?_) x_v1097.2.1) <;> omega) | (refine (RG_nx ?_ x_v1287.1 (fun _ _ => st_aV ?_) x_v1287.2.1) <;> omega) | (refine g169.seq (RG_nx ?_ x_v1727.1 (fun _ _ => st_xY ?_) x_v1727.2.1) <;> omega) | (exact g169.seq (RG_f (m := 2) (G := []) x_v1801 (RG.msw x_v1668) (by decide) (by decide) (fun q9 _ _ => st_xN (by have q8 := (RG.msw x_v1668 q9).2.2.2.1; omega)))) | (exact RG_f (m := 4) (G := []) x_v1559 hms (by decide) (by decide) (fun q9 _ _ => st_aD (by omega))) | (exact (RG_f (m := 2) (G := []) x_v1881 hms (by decide) (by decide) (fun q9 _ _ => st_aN (by have q8 := hq0 q9; omega) (by have q8 := hq0 q9; omega))))), (FKP.tr FKP.rf x_v1382)⟩) dX12_readAtom_191
          · skip
            have tc112 := f_ne (k := 0) (by decide) c112
            replace x_v1096 := x_v1096.resolve_left tc112
            replace x_v1097 := x_v1097.resolve_left tc112
            clear x_v1098
            have hsl := k4 (by omega)
            refine lv_aload_n hx hb dX12_readAtom_115 rfl (lv_at hl 0 rfl) ?_
            refine lv_sipush (v := 1005) hx hb dX12_readAtom_116 (by decide) ?_
            have z9_1005 : (1005 : Int32).toInt = 1005 := by decide
            refine tk_v hH hS hA (tr_V (n := 1) (As := [.int 1005]) hx hb hml hown hts hkb hH (ox_map hOX rfl) hks hE hS hA (s_M_codesA l D cs kf T O X a0 hg mq (1005) o0 o1 o2 y3 y4 o5 n109_0_6 n109_0_7 y8 n109_0_9 n109_0_10 y11 y12 tl f3 f4 t tn t_a0 b_hg (by decide) t_y3 t_y4 (by omega) (by omega) (by omega) (by omega) (by omega) (by omega) (by omega) (by omega) s_f4 (by omega) htm (by first | (intro q; constructor <;> omega)) (hO.sub (by decide))) kw_1418 kw_1420 ks_59 kw_13 kw_1421 (by decide +kernel) ⟨Nat.le_of_ble_eq_true rfl, Nat.le_of_ble_eq_true rfl⟩ (x_recv (ci := 12) hkb hH 0 rfl rfl) rfl rfl hl.1 (Nat.le_of_ble_eq_true rfl) dX12_readAtom_119 ⟨Nat.le_of_ble_eq_true rfl, Nat.le_of_ble_eq_true rfl⟩) (fun u H locs hz9 hH hS => ?_)
            obtain ⟨F119_2, rfl, x_v1190, x_v1191, x_v1192⟩ := hz9
            have s_F119_2 := x_v1190
            have hH : HT D cs A T (a0 :: y3 :: y4 :: O) ((a0, .inr (12, o0 :: o1 :: o2 :: (.ref y3) :: (.ref y4) :: o5 :: (.int n109_0_6) :: (.int n109_0_7) :: (.int y8) :: (.int n109_0_9) :: (.int n109_0_10) :: (.int y11) :: (.int y12) :: tl)) :: (y3, .inl (cs.2.1, 900, .inl f3)) :: (y4, .inl (cs.2.1, 1302, .inl F119_2)) :: X) H := hH
            refine W.widen (k := 0) (n := 0) (Nat.le_of_ble_eq_true rfl) (Nat.le_of_ble_eq_true rfl) ?_
            refine lv_goto (tgt := 191) hx hb dX12_readAtom_122 (by decide) ?_
            exact te_v hx hb hr hlocks hH hS (⟨n109_0_6, n109_0_7, n109_0_9, n109_0_10, y11, y12, F119_2, rfl, s_F119_2, by omega, by omega, by omega, x_v1093, by omega, by omega, (by first | (intro q; obtain ⟨c1, c2⟩ := x_v1191 q; refine ⟨?_, ?_, ?_⟩ <;> omega)), (by first | (refine RG_nx ?_ x_v186 (fun _ _ => st_aV ?_) ((hms ?_).nx x_v187) <;> omega) | (refine RG_nx ?_ x_v646 (fun _ _ => st_aV ?_) ((hms ?_).nx x_v647) <;> omega) | (refine (RG_nx ?_ x_v727.1 (fun _ _ => st_aV ?_) x_v727.2.1) <;> omega) | (refine (RG_nx ?_ x_v907.1 (fun _ _ => st_aV ?_) x_v907.2.1) <;> omega) | (refine (RG_nx ?_ x_v1097.1 (fun _ _ => st_aV ?_) x_v1097.2.1) <;> omega) | (refine (RG_nx ?_ x_v1287.1 (fun _ _ => st_aV ?_) x_v1287.2.1) <;> omega) | (refine g169.seq (RG_nx ?_ x_v1727.1 (fun _ _ => st_xY ?_) x_v1727.2.1) <;> omega) | (exact g169.seq (RG_f (m := 2) (G := []) x_v1801 (RG.msw x_v1668) (by decide) (by decide) (fun q9 _ _ => st_xN (by have q8 := (RG.msw x_v1668 q9).2.2.2.1; omega)))) | (exact RG_f (m := 4) (G := []) x_v1559 hms (by decide) (by decide) (fun q9 _ _ => st_aD (by omega))) | (exact (RG_f (m := 2) (G := []) x_v1881 hms (by decide) (by decide) (fun q9 _ _ => st_aN (by have q8 := hq0 q9; omega) (by have q8 := hq0 q9; omega))))), (FKP.tr FKP.rf x_v1192)⟩) dX12_readAtom_191
        · skip
          have tc93 := f_ne (k := 0) (by decide) c93
          replace x_v906 := x_v906.resolve_left tc93
          replace x_v907 := x_v907.resolve_left tc93
          clear x_v908
          have hsl := k4 (by omega)
          refine lv_aload_n hx hb dX12_readAtom_96 rfl (lv_at hl 0 rfl) ?_
          refine lv_sipush (v := 1004) hx hb dX12_readAtom_97 (by decide) ?_
          have z9_1004 : (1004 : Int32).toInt = 1004 := by decide
          refine tk_v hH hS hA (tr_V (n := 1) (As := [.int 1004]) hx hb hml hown hts hkb hH (ox_map hOX rfl) hks hE hS hA (s_M_codesA l D cs kf T O X a0 hg mq (1004) o0 o1 o2 y3 y4 o5 n90_0_6 n90_0_7 y8 n90_0_9 n90_0_10 y11 y12 tl f3 f4 t tn t_a0 b_hg (by decide) t_y3 t_y4 (by omega) (by omega) (by omega) (by omega) (by omega) (by omega) (by omega) (by omega) s_f4 (by omega) htm (by first | (intro q; constructor <;> omega)) (hO.sub (by decide))) kw_1418 kw_1420 ks_59 kw_13 kw_1421 (by decide +kernel) ⟨Nat.le_of_ble_eq_true rfl, Nat.le_of_ble_eq_true rfl⟩ (x_recv (ci := 12) hkb hH 0 rfl rfl) rfl rfl hl.1 (Nat.le_of_ble_eq_true rfl) dX12_readAtom_100 ⟨Nat.le_of_ble_eq_true rfl, Nat.le_of_ble_eq_true rfl⟩) (fun u H locs hz9 hH hS => ?_)
          obtain ⟨F100_2, rfl, x_v1000, x_v1001, x_v1002⟩ := hz9
          have s_F100_2 := x_v1000
          have hH : HT D cs A T (a0 :: y3 :: y4 :: O) ((a0, .inr (12, o0 :: o1 :: o2 :: (.ref y3) :: (.ref y4) :: o5 :: (.int n90_0_6) :: (.int n90_0_7) :: (.int y8) :: (.int n90_0_9) :: (.int n90_0_10) :: (.int y11) :: (.int y12) :: tl)) :: (y3, .inl (cs.2.1, 900, .inl f3)) :: (y4, .inl (cs.2.1, 1302, .inl F100_2)) :: X) H := hH
          refine W.widen (k := 0) (n := 0) (Nat.le_of_ble_eq_true rfl) (Nat.le_of_ble_eq_true rfl) ?_
          refine lv_goto (tgt := 191) hx hb dX12_readAtom_103 (by decide) ?_
          exact te_v hx hb hr hlocks hH hS (⟨n90_0_6, n90_0_7, n90_0_9, n90_0_10, y11, y12, F100_2, rfl, s_F100_2, by omega, by omega, by omega, x_v903, by omega, by omega, (by first | (intro q; obtain ⟨c1, c2⟩ := x_v1001 q; refine ⟨?_, ?_, ?_⟩ <;> omega)), (by first | (refine RG_nx ?_ x_v186 (fun _ _ => st_aV ?_) ((hms ?_).nx x_v187) <;> omega) | (refine RG_nx ?_ x_v646 (fun _ _ => st_aV ?_) ((hms ?_).nx x_v647) <;> omega) | (refine (RG_nx ?_ x_v727.1 (fun _ _ => st_aV ?_) x_v727.2.1) <;> omega) | (refine (RG_nx ?_ x_v907.1 (fun _ _ => st_aV ?_) x_v907.2.1) <;> omega) | (refine (RG_nx ?_ x_v1097.1 (fun _ _ => st_aV ?_) x_v1097.2.1) <;> omega) | (refine (RG_nx ?_ x_v1287.1 (fun _ _ => st_aV ?_) x_v1287.2.1) <;> omega) | (refine g169.seq (RG_nx ?_ x_v1727.1 (fun _ _ => st_xY ?_) x_v1727.2.1) <;> omega) | (exact g169.seq (RG_f (m := 2) (G := []) x_v1801 (RG.msw x_v1668) (by decide) (by decide) (fun q9 _ _ => st_xN (by have q8 := (RG.msw x_v1668 q9).2.2.2.1; omega)))) | (exact RG_f (m := 4) (G := []) x_v1559 hms (by decide) (by decide) (fun q9 _ _ => st_aD (by omega))) | (exact (RG_f (m := 2) (G := []) x_v1881 hms (by decide) (by decide) (fun q9 _ _ => st_aN (by have q8 := hq0 q9; omega) (by have q8 := hq0 q9; omega))))), (FKP.tr FKP.rf x_v1002)⟩) dX12_readAtom_191
      · skip
        have tc75 := f_ne (k := 0) (by decide) c75
        replace x_v726 := x_v726.resolve_left tc75
        replace x_v727 := x_v727.resolve_left tc75
        clear x_v728
        have hsl := k4 (by omega)
        refine lv_aload_n hx hb dX12_readAtom_78 rfl (lv_at hl 0 rfl) ?_
        refine lv_sipush (v := 1003) hx hb dX12_readAtom_79 (by decide) ?_
        have z9_1003 : (1003 : Int32).toInt = 1003 := by decide
        refine tk_v hH hS hA (tr_V (n := 1) (As := [.int 1003]) hx hb hml hown hts hkb hH (ox_map hOX rfl) hks hE hS hA (s_M_codesA l D cs kf T O X a0 hg mq (1003) o0 o1 o2 y3 y4 o5 n72_0_6 n72_0_7 y8 n72_0_9 n72_0_10 y11 y12 tl f3 f4 t tn t_a0 b_hg (by decide) t_y3 t_y4 (by omega) (by omega) (by omega) (by omega) (by omega) (by omega) (by omega) (by omega) s_f4 (by omega) htm (by first | (intro q; constructor <;> omega)) (hO.sub (by decide))) kw_1418 kw_1420 ks_59 kw_13 kw_1421 (by decide +kernel) ⟨Nat.le_of_ble_eq_true rfl, Nat.le_of_ble_eq_true rfl⟩ (x_recv (ci := 12) hkb hH 0 rfl rfl) rfl rfl hl.1 (Nat.le_of_ble_eq_true rfl) dX12_readAtom_82 ⟨Nat.le_of_ble_eq_true rfl, Nat.le_of_ble_eq_true rfl⟩) (fun u H locs hz9 hH hS => ?_)
        obtain ⟨F82_2, rfl, x_v820, x_v821, x_v822⟩ := hz9
        have s_F82_2 := x_v820
        have hH : HT D cs A T (a0 :: y3 :: y4 :: O) ((a0, .inr (12, o0 :: o1 :: o2 :: (.ref y3) :: (.ref y4) :: o5 :: (.int n72_0_6) :: (.int n72_0_7) :: (.int y8) :: (.int n72_0_9) :: (.int n72_0_10) :: (.int y11) :: (.int y12) :: tl)) :: (y3, .inl (cs.2.1, 900, .inl f3)) :: (y4, .inl (cs.2.1, 1302, .inl F82_2)) :: X) H := hH
        refine W.widen (k := 0) (n := 0) (Nat.le_of_ble_eq_true rfl) (Nat.le_of_ble_eq_true rfl) ?_
        refine lv_goto (tgt := 191) hx hb dX12_readAtom_85 (by decide) ?_
        exact te_v hx hb hr hlocks hH hS (⟨n72_0_6, n72_0_7, n72_0_9, n72_0_10, y11, y12, F82_2, rfl, s_F82_2, by omega, by omega, by omega, x_v723, by omega, by omega, (by first | (intro q; obtain ⟨c1, c2⟩ := x_v821 q; refine ⟨?_, ?_, ?_⟩ <;> omega)), (by first | (refine RG_nx ?_ x_v186 (fun _ _ => st_aV ?_) ((hms ?_).nx x_v187) <;> omega) | (refine RG_nx ?_ x_v646 (fun _ _ => st_aV ?_) ((hms ?_).nx x_v647) <;> omega) | (refine (RG_nx ?_ x_v727.1 (fun _ _ => st_aV ?_) x_v727.2.1) <;> omega) | (refine (RG_nx ?_ x_v907.1 (fun _ _ => st_aV ?_) x_v907.2.1) <;> omega) | (refine (RG_nx ?_ x_v1097.1 (fun _ _ => st_aV ?_) x_v1097.2.1) <;> omega) | (refine (RG_nx ?_ x_v1287.1 (fun _ _ => st_aV ?_) x_v1287.2.1) <;> omega) | (refine g169.seq (RG_nx ?_ x_v1727.1 (fun _ _ => st_xY ?_) x_v1727.2.1) <;> omega) | (exact g169.seq (RG_f (m := 2) (G := []) x_v1801 (RG.msw x_v1668) (by decide) (by decide) (fun q9 _ _ => st_xN (by have q8 := (RG.msw x_v1668 q9).2.2.2.1; omega)))) | (exact RG_f (m := 4) (G := []) x_v1559 hms (by decide) (by decide) (fun q9 _ _ => st_aD (by omega))) | (exact (RG_f (m := 2) (G := []) x_v1881 hms (by decide) (by decide) (fun q9 _ _ => st_aN (by have q8 := hq0 q9; omega) (by have q8 := hq0 q9; omega))))), (FKP.tr FKP.rf x_v822)⟩) dX12_readAtom_191
    · skip
      have tc28 := f_eq (k := 0) (by decide) c28
      refine lv_aload_n hx hb dX12_readAtom_31 rfl (lv_at hl 0 rfl) ?_
      refine x_getk (ci := 12) (C := RX12) (F := TX12) (N := 36) (v := .int y9) hx hb hts uX12 hown hkb hH 0 rfl rfl 9 (by decide) rfl kw_1232 (fun _ h9 => h9) dX12_readAtom_32 ?_
      refine lv_i2l hx hb dX12_readAtom_35 rfl ?_
      refine lv_ldc2 hx hb hown (hts _ kw_1434) dX12_readAtom_36 ?_
      refine lv_ldc2 hx hb hown (hts _ kw_1435) dX12_readAtom_39 ?_
      refine tk_i hH hS hA (tr_S (n := 3) (As := [.long y9.toInt64, .long 16, .long 18]) hx hb hml hown hts hkb hH (ox_map hOX rfl) hks hE hS hA (s_M_within l D cs kf T (a0 :: y3 :: y4 :: O) ((a0, .inr (12, o0 :: o1 :: o2 :: (.ref y3) :: (.ref y4) :: o5 :: (.int y6) :: (.int y7) :: (.int y8) :: (.int y9) :: (.int y10) :: (.int y11) :: (.int y12) :: tl)) :: (y3, .inl (cs.2.1, 900, .inl f3)) :: (y4, .inl (cs.2.1, 1302, .inl f4)) :: X) y9.toInt64 16 18  (hO.sub (by decide))) kw_1341 kw_1342 kw_13 kw_1343 (by decide +kernel) ⟨Nat.le_of_ble_eq_true rfl, Nat.le_of_ble_eq_true rfl⟩ rfl rfl hl.1 (Nat.le_of_ble_eq_true rfl) dX12_readAtom_42 ⟨Nat.le_of_ble_eq_true rfl, Nat.le_of_ble_eq_true rfl⟩) (fun v42 u H locs hz9 hH hS => ?_)
      obtain ⟨rfl, l_v42, u_v42, x_v420, x_v421⟩ := hz9
      simp only [Int32.toInt_toInt64] at x_v420 x_v421
      have k9_16 : (16 : Int64).toInt = 16 := by decide
      have k9_18 : (18 : Int64).toInt = 18 := by decide
      have hH : HT D cs A T (a0 :: y3 :: y4 :: O) ((a0, .inr (12, o0 :: o1 :: o2 :: (.ref y3) :: (.ref y4) :: o5 :: (.int y6) :: (.int y7) :: (.int y8) :: (.int y9) :: (.int y10) :: (.int y11) :: (.int y12) :: tl)) :: (y3, .inl (cs.2.1, 900, .inl f3)) :: (y4, .inl (cs.2.1, 1302, .inl f4)) :: X) H := hH
      refine W.widen (k := 0) (n := 0) (Nat.le_of_ble_eq_true rfl) (Nat.le_of_ble_eq_true rfl) ?_
      refine lv_if_eq (tgt := 70) hx hb dX12_readAtom_45 (by decide) (fun c45 => ?_) (fun c45 => ?_)
      · skip
        have tc45 := f_eq (k := 0) (by decide) c45
        clear x_v420
        replace x_v421 := x_v421.resolve_left (fun q9 => q9 tc45)
        refine lv_aload_n hx hb dX12_readAtom_70 rfl (lv_at hl 0 rfl) ?_
        refine lv_iconst (v := 2) hx hb dX12_readAtom_71 (by decide) ?_
        have z9_2 : (2 : Int32).toInt = 2 := by decide
        refine tk_i hH hS hA (tr_V (n := 1) (As := [.int 2]) hx hb hml hown hts hkb hH (ox_map hOX rfl) hks hE hS hA (s_M_eats l D cs kf T (y4 :: O) ((y4, .inl (cs.2.1, 1302, .inl f4)) :: X) a0 hg mq (2) o0 o1 o2 y3 y4 o5 y6 y7 y8 y9 y10 y11 y12 tl f3 t tn t_a0 b_hg t_y3 t_y4 (by omega) (by omega) (by omega) (by omega) (by omega) (by omega) (by omega) (by omega) (by omega) htm (by omega) (by omega) k3 (by omega) hms (hO.sub (by decide))) kw_1390 kw_1392 ks_52 kw_13 kw_1393 (by decide +kernel) ⟨Nat.le_of_ble_eq_true rfl, Nat.le_of_ble_eq_true rfl⟩ (x_recv (ci := 12) hkb hH 0 rfl rfl) rfl rfl hl.1 (Nat.le_of_ble_eq_true rfl) dX12_readAtom_72 ⟨Nat.le_of_ble_eq_true rfl, Nat.le_of_ble_eq_true rfl⟩) (fun v72 u H locs hz9 hH hS => ?_)
        obtain ⟨n72_0_6, n72_0_7, n72_0_9, n72_0_10, rfl, l_v72, u_v72, x_v720, x_v721, x_v722, x_v723, x_v724, x_v725, x_v726, x_v727, x_v728⟩ := hz9
        have hH : HT D cs A T (a0 :: y3 :: y4 :: O) ((a0, .inr (12, o0 :: o1 :: o2 :: (.ref y3) :: (.ref y4) :: o5 :: (.int n72_0_6) :: (.int n72_0_7) :: (.int y8) :: (.int n72_0_9) :: (.int n72_0_10) :: (.int y11) :: (.int y12) :: tl)) :: (y3, .inl (cs.2.1, 900, .inl f3)) :: (y4, .inl (cs.2.1, 1302, .inl f4)) :: X) H := hH
        refine W.widen (k := 0) (n := 0) (Nat.le_of_ble_eq_true rfl) (Nat.le_of_ble_eq_true rfl) ?_
        refine lv_if_eq (tgt := 88) hx hb dX12_readAtom_75 (by decide) (fun c75 => ?_) (fun c75 => ?_)
        · skip
          have tc75 := f_eq (k := 0) (by decide) c75
          clear x_v726
          clear x_v727
          replace x_v728 := x_v728.resolve_left (fun q9 => q9 tc75)
          obtain ⟨e6, e7, e9, e10, x_v728⟩ := x_v728
          subst e6 e7 e9 e10
          refine lv_aload_n hx hb dX12_readAtom_88 rfl (lv_at hl 0 rfl) ?_
          refine lv_iconst (v := 3) hx hb dX12_readAtom_89 (by decide) ?_
          have z9_3 : (3 : Int32).toInt = 3 := by decide
          refine tk_i hH hS hA (tr_V (n := 1) (As := [.int 3]) hx hb hml hown hts hkb hH (ox_map hOX rfl) hks hE hS hA (s_M_eats l D cs kf T (y4 :: O) ((y4, .inl (cs.2.1, 1302, .inl f4)) :: X) a0 hg mq (3) o0 o1 o2 y3 y4 o5 y6 y7 y8 y9 y10 y11 y12 tl f3 t tn t_a0 b_hg t_y3 t_y4 (by omega) (by omega) (by omega) (by omega) (by omega) (by omega) (by omega) (by omega) (by omega) htm (by omega) (by omega) x_v723 (by omega) hms (hO.sub (by decide))) kw_1390 kw_1392 ks_52 kw_13 kw_1393 (by decide +kernel) ⟨Nat.le_of_ble_eq_true rfl, Nat.le_of_ble_eq_true rfl⟩ (x_recv (ci := 12) hkb hH 0 rfl rfl) rfl rfl hl.1 (Nat.le_of_ble_eq_true rfl) dX12_readAtom_90 ⟨Nat.le_of_ble_eq_true rfl, Nat.le_of_ble_eq_true rfl⟩) (fun v90 u H locs hz9 hH hS => ?_)
          obtain ⟨n90_0_6, n90_0_7, n90_0_9, n90_0_10, rfl, l_v90, u_v90, x_v900, x_v901, x_v902, x_v903, x_v904, x_v905, x_v906, x_v907, x_v908⟩ := hz9
          have hH : HT D cs A T (a0 :: y3 :: y4 :: O) ((a0, .inr (12, o0 :: o1 :: o2 :: (.ref y3) :: (.ref y4) :: o5 :: (.int n90_0_6) :: (.int n90_0_7) :: (.int y8) :: (.int n90_0_9) :: (.int n90_0_10) :: (.int y11) :: (.int y12) :: tl)) :: (y3, .inl (cs.2.1, 900, .inl f3)) :: (y4, .inl (cs.2.1, 1302, .inl f4)) :: X) H := hH
          refine W.widen (k := 0) (n := 0) (Nat.le_of_ble_eq_true rfl) (Nat.le_of_ble_eq_true rfl) ?_
          refine lv_if_eq (tgt := 106) hx hb dX12_readAtom_93 (by decide) (fun c93 => ?_) (fun c93 => ?_)
          · skip
            have tc93 := f_eq (k := 0) (by decide) c93
            clear x_v906
            clear x_v907
            replace x_v908 := x_v908.resolve_left (fun q9 => q9 tc93)
            obtain ⟨e6, e7, e9, e10, x_v908⟩ := x_v908
            subst e6 e7 e9 e10
            refine lv_aload_n hx hb dX12_readAtom_106 rfl (lv_at hl 0 rfl) ?_
            refine lv_bipush (v := 11) hx hb dX12_readAtom_107 (by decide) ?_
            have z9_11 : (11 : Int32).toInt = 11 := by decide
            refine tk_i hH hS hA (tr_V (n := 1) (As := [.int 11]) hx hb hml hown hts hkb hH (ox_map hOX rfl) hks hE hS hA (s_M_eats l D cs kf T (y4 :: O) ((y4, .inl (cs.2.1, 1302, .inl f4)) :: X) a0 hg mq (11) o0 o1 o2 y3 y4 o5 y6 y7 y8 y9 y10 y11 y12 tl f3 t tn t_a0 b_hg t_y3 t_y4 (by omega) (by omega) (by omega) (by omega) (by omega) (by omega) (by omega) (by omega) (by omega) htm (by omega) (by omega) x_v903 (by omega) hms (hO.sub (by decide))) kw_1390 kw_1392 ks_52 kw_13 kw_1393 (by decide +kernel) ⟨Nat.le_of_ble_eq_true rfl, Nat.le_of_ble_eq_true rfl⟩ (x_recv (ci := 12) hkb hH 0 rfl rfl) rfl rfl hl.1 (Nat.le_of_ble_eq_true rfl) dX12_readAtom_109 ⟨Nat.le_of_ble_eq_true rfl, Nat.le_of_ble_eq_true rfl⟩) (fun v109 u H locs hz9 hH hS => ?_)
            obtain ⟨n109_0_6, n109_0_7, n109_0_9, n109_0_10, rfl, l_v109, u_v109, x_v1090, x_v1091, x_v1092, x_v1093, x_v1094, x_v1095, x_v1096, x_v1097, x_v1098⟩ := hz9
            have hH : HT D cs A T (a0 :: y3 :: y4 :: O) ((a0, .inr (12, o0 :: o1 :: o2 :: (.ref y3) :: (.ref y4) :: o5 :: (.int n109_0_6) :: (.int n109_0_7) :: (.int y8) :: (.int n109_0_9) :: (.int n109_0_10) :: (.int y11) :: (.int y12) :: tl)) :: (y3, .inl (cs.2.1, 900, .inl f3)) :: (y4, .inl (cs.2.1, 1302, .inl f4)) :: X) H := hH
            refine W.widen (k := 0) (n := 0) (Nat.le_of_ble_eq_true rfl) (Nat.le_of_ble_eq_true rfl) ?_
            refine lv_if_eq (tgt := 125) hx hb dX12_readAtom_112 (by decide) (fun c112 => ?_) (fun c112 => ?_)
            · skip
              have tc112 := f_eq (k := 0) (by decide) c112
              clear x_v1096
              clear x_v1097
              replace x_v1098 := x_v1098.resolve_left (fun q9 => q9 tc112)
              obtain ⟨e6, e7, e9, e10, x_v1098⟩ := x_v1098
              subst e6 e7 e9 e10
              refine lv_aload_n hx hb dX12_readAtom_125 rfl (lv_at hl 0 rfl) ?_
              refine lv_bipush (v := 8) hx hb dX12_readAtom_126 (by decide) ?_
              have z9_8 : (8 : Int32).toInt = 8 := by decide
              refine tk_i hH hS hA (tr_V (n := 1) (As := [.int 8]) hx hb hml hown hts hkb hH (ox_map hOX rfl) hks hE hS hA (s_M_eats l D cs kf T (y4 :: O) ((y4, .inl (cs.2.1, 1302, .inl f4)) :: X) a0 hg mq (8) o0 o1 o2 y3 y4 o5 y6 y7 y8 y9 y10 y11 y12 tl f3 t tn t_a0 b_hg t_y3 t_y4 (by omega) (by omega) (by omega) (by omega) (by omega) (by omega) (by omega) (by omega) (by omega) htm (by omega) (by omega) x_v1093 (by omega) hms (hO.sub (by decide))) kw_1390 kw_1392 ks_52 kw_13 kw_1393 (by decide +kernel) ⟨Nat.le_of_ble_eq_true rfl, Nat.le_of_ble_eq_true rfl⟩ (x_recv (ci := 12) hkb hH 0 rfl rfl) rfl rfl hl.1 (Nat.le_of_ble_eq_true rfl) dX12_readAtom_128 ⟨Nat.le_of_ble_eq_true rfl, Nat.le_of_ble_eq_true rfl⟩) (fun v128 u H locs hz9 hH hS => ?_)
              obtain ⟨n128_0_6, n128_0_7, n128_0_9, n128_0_10, rfl, l_v128, u_v128, x_v1280, x_v1281, x_v1282, x_v1283, x_v1284, x_v1285, x_v1286, x_v1287, x_v1288⟩ := hz9
              have hH : HT D cs A T (a0 :: y3 :: y4 :: O) ((a0, .inr (12, o0 :: o1 :: o2 :: (.ref y3) :: (.ref y4) :: o5 :: (.int n128_0_6) :: (.int n128_0_7) :: (.int y8) :: (.int n128_0_9) :: (.int n128_0_10) :: (.int y11) :: (.int y12) :: tl)) :: (y3, .inl (cs.2.1, 900, .inl f3)) :: (y4, .inl (cs.2.1, 1302, .inl f4)) :: X) H := hH
              refine W.widen (k := 0) (n := 0) (Nat.le_of_ble_eq_true rfl) (Nat.le_of_ble_eq_true rfl) ?_
              refine lv_if_eq (tgt := 144) hx hb dX12_readAtom_131 (by decide) (fun c131 => ?_) (fun c131 => ?_)
              · skip
                have tc131 := f_eq (k := 0) (by decide) c131
                clear x_v1286
                clear x_v1287
                replace x_v1288 := x_v1288.resolve_left (fun q9 => q9 tc131)
                obtain ⟨e6, e7, e9, e10, x_v1288⟩ := x_v1288
                subst e6 e7 e9 e10
                refine lv_aload_n hx hb dX12_readAtom_144 rfl (lv_at hl 0 rfl) ?_
                refine lv_bipush (v := 35) hx hb dX12_readAtom_145 (by decide) ?_
                have z9_35 : (35 : Int32).toInt = 35 := by decide
                refine tk_i hH hS hA (tr_V (n := 1) (As := [.int 35]) hx hb hml hown hts hkb hH (ox_map hOX rfl) hks hE hS hA (s_M_is l D cs kf T (y4 :: O) ((y4, .inl (cs.2.1, 1302, .inl f4)) :: X) a0 hg mq (35) o0 o1 o2 y3 y4 o5 y6 y7 y8 y9 y10 y11 y12 tl f3 t tn t_a0 b_hg t_y3 t_y4 (by omega) (by omega) (by omega) (by omega) (by omega) (by omega) (by omega) (by omega) (by omega) htm (hO.sub (by decide))) kw_1370 kw_1372 ks_47 kw_13 kw_1373 (by decide +kernel) ⟨Nat.le_of_ble_eq_true rfl, Nat.le_of_ble_eq_true rfl⟩ (x_recv (ci := 12) hkb hH 0 rfl rfl) rfl rfl hl.1 (Nat.le_of_ble_eq_true rfl) dX12_readAtom_147 ⟨Nat.le_of_ble_eq_true rfl, Nat.le_of_ble_eq_true rfl⟩) (fun v147 u H locs hz9 hH hS => ?_)
                obtain ⟨rfl, l_v147, u_v147, x_v1470, x_v1471⟩ := hz9
                have hH : HT D cs A T (a0 :: y3 :: y4 :: O) ((a0, .inr (12, o0 :: o1 :: o2 :: (.ref y3) :: (.ref y4) :: o5 :: (.int y6) :: (.int y7) :: (.int y8) :: (.int y9) :: (.int y10) :: (.int y11) :: (.int y12) :: tl)) :: (y3, .inl (cs.2.1, 900, .inl f3)) :: (y4, .inl (cs.2.1, 1302, .inl f4)) :: X) H := hH
                refine W.widen (k := 0) (n := 0) (Nat.le_of_ble_eq_true rfl) (Nat.le_of_ble_eq_true rfl) ?_
                refine lv_if_eq (tgt := 186) hx hb dX12_readAtom_150 (by decide) (fun c150 => ?_) (fun c150 => ?_)
                · skip
                  have tc150 := f_eq (k := 0) (by decide) c150
                  clear x_v1470
                  replace x_v1471 := x_v1471.resolve_left (fun q9 => q9 tc150)
                  refine lv_aload_n hx hb dX12_readAtom_186 rfl (lv_at hl 0 rfl) ?_
                  refine lv_iconst (v := 2) hx hb dX12_readAtom_187 (by decide) ?_
                  have z9_2 : (2 : Int32).toInt = 2 := by decide
                  refine tk_v hH hS hA (tr_V (n := 1) (As := [.int 2]) hx hb hml hown hts hkb hH (ox_map hOX rfl) hks hE hS hA (s_M_fails l D cs kf T (y4 :: O) ((y4, .inl (cs.2.1, 1302, .inl f4)) :: X) a0 hg mq (2) o0 o1 o2 y3 y4 o5 y6 y7 y8 y9 y10 y11 y12 tl f3 t tn t_a0 b_hg (by decide) (by decide) t_y3 t_y4 (by omega) (by omega) (by omega) (by omega) (by omega) (by omega) (by omega) (by omega) (by omega) htm (hO.sub (by decide))) kw_1378 kw_1380 ks_49 kw_13 kw_1381 (by decide +kernel) ⟨Nat.le_of_ble_eq_true rfl, Nat.le_of_ble_eq_true rfl⟩ (x_recv (ci := 12) hkb hH 0 rfl rfl) rfl rfl hl.1 (Nat.le_of_ble_eq_true rfl) dX12_readAtom_188 ⟨Nat.le_of_ble_eq_true rfl, Nat.le_of_ble_eq_true rfl⟩) (fun u H locs hz9 hH hS => ?_)
                  obtain ⟨n188_0_11, n188_0_12, rfl, x_v1880, x_v1881⟩ := hz9
                  have hH : HT D cs A T (a0 :: y3 :: y4 :: O) ((a0, .inr (12, o0 :: o1 :: o2 :: (.ref y3) :: (.ref y4) :: o5 :: (.int y6) :: (.int y7) :: (.int y8) :: (.int y9) :: (.int y10) :: (.int n188_0_11) :: (.int n188_0_12) :: tl)) :: (y3, .inl (cs.2.1, 900, .inl f3)) :: (y4, .inl (cs.2.1, 1302, .inl f4)) :: X) H := hH
                  refine W.widen (k := 0) (n := 0) (Nat.le_of_ble_eq_true rfl) (Nat.le_of_ble_eq_true rfl) ?_
                  exact te_v hx hb hr hlocks hH hS (⟨y6, y7, y9, y10, n188_0_11, n188_0_12, f4, rfl, s_f4, by omega, by omega, by omega, x_v1283, by omega, by omega, (by first | exact (fun q => absurd q x_v1880)), (by first | (refine RG_nx ?_ x_v186 (fun _ _ => st_aV ?_) ((hms ?_).nx x_v187) <;> omega) | (refine RG_nx ?_ x_v646 (fun _ _ => st_aV ?_) ((hms ?_).nx x_v647) <;> omega) | (refine (RG_nx ?_ x_v727.1 (fun _ _ => st_aV ?_) x_v727.2.1) <;> omega) | (refine (RG_nx ?_ x_v907.1 (fun _ _ => st_aV ?_) x_v907.2.1) <;> omega) | (refine (RG_nx ?_ x_v1097.1 (fun _ _ => st_aV ?_) x_v1097.2.1) <;> omega) | (refine (RG_nx ?_ x_v1287.1 (fun _ _ => st_aV ?_) x_v1287.2.1) <;> omega) | (refine g169.seq (RG_nx ?_ x_v1727.1 (fun _ _ => st_xY ?_) x_v1727.2.1) <;> omega) | (exact g169.seq (RG_f (m := 2) (G := []) x_v1801 (RG.msw x_v1668) (by decide) (by decide) (fun q9 _ _ => st_xN (by have q8 := (RG.msw x_v1668 q9).2.2.2.1; omega)))) | (exact RG_f (m := 4) (G := []) x_v1559 hms (by decide) (by decide) (fun q9 _ _ => st_aD (by omega))) | (exact (RG_f (m := 2) (G := []) x_v1881 hms (by decide) (by decide) (fun q9 _ _ => st_aN (by have q8 := hq0 q9; omega) (by have q8 := hq0 q9; omega))))), FKP.rf⟩) dX12_readAtom_191
                · skip
                  have tc150 := f_ne (k := 0) (by decide) c150
                  replace x_v1470 := x_v1470.resolve_left tc150
                  clear x_v1471
                  refine lv_aload_n hx hb dX12_readAtom_153 rfl (lv_at hl 0 rfl) ?_
                  refine lv_iload_n hx hb dX12_readAtom_154 rfl (lv_at hl 1 rfl) ?_
                  refine tk_i hH hS hA (tr_V (n := 1) (As := [.int x1]) hx hb hml hown hts hkb hH (ox_map hOX rfl) hks hE hS hA (s_M_goesIn3 l D cs kf T (y4 :: O) ((y4, .inl (cs.2.1, 1302, .inl f4)) :: X) a0 hg mq x1 o0 o1 o2 y3 y4 o5 y6 y7 y8 y9 y10 y11 y12 tl f3 t tn t_a0 b_hg (by omega) (by omega) t_y3 t_y4 (by omega) (by omega) (by omega) (by omega) (by omega) (by omega) (by omega) (by omega) (by omega) htm (by omega) (by omega) x_v1283 (by omega) (by omega) hms (hO.sub (by decide))) kw_1414 kw_1416 ks_58 kw_13 kw_1417 (by decide +kernel) ⟨Nat.le_of_ble_eq_true rfl, Nat.le_of_ble_eq_true rfl⟩ (x_recv (ci := 12) hkb hH 0 rfl rfl) rfl rfl hl.1 (Nat.le_of_ble_eq_true rfl) dX12_readAtom_155 ⟨Nat.le_of_ble_eq_true rfl, Nat.le_of_ble_eq_true rfl⟩) (fun v155 u H locs hz9 hH hS => ?_)
                  obtain ⟨n155_0_6, n155_0_7, n155_0_9, n155_0_10, n155_0_11, n155_0_12, rfl, l_v155, u_v155, x_v1550, x_v1551, x_v1552, x_v1553, x_v1554, x_v1555, x_v1556, x_v1557, x_v1558, x_v1559⟩ := hz9
                  have hH : HT D cs A T (a0 :: y3 :: y4 :: O) ((a0, .inr (12, o0 :: o1 :: o2 :: (.ref y3) :: (.ref y4) :: o5 :: (.int n155_0_6) :: (.int n155_0_7) :: (.int y8) :: (.int n155_0_9) :: (.int n155_0_10) :: (.int n155_0_11) :: (.int n155_0_12) :: tl)) :: (y3, .inl (cs.2.1, 900, .inl f3)) :: (y4, .inl (cs.2.1, 1302, .inl f4)) :: X) H := hH
                  refine W.widen (k := 0) (n := 0) (Nat.le_of_ble_eq_true rfl) (Nat.le_of_ble_eq_true rfl) ?_
                  refine lv_if_ne (tgt := 162) hx hb dX12_readAtom_158 (by decide) (fun c158 => ?_) (fun c158 => ?_)
                  · skip
                    have tc158 := f_ne (k := 0) (by decide) c158
                    replace x_v1556 := x_v1556.resolve_left tc158
                    replace x_v1558 := x_v1558.resolve_left tc158
                    clear x_v1557
                    clear x_v1559
                    have hsl := k4 (by omega)
                    have hq1 := hq0 (by omega)
                    have g162 : RG t tn [(0, 3)] [(3, 4), (20, 36)] y11 y12 y6 n155_0_11 n155_0_12 n155_0_6 n155_0_7 n155_0_9 n155_0_10 := Or.inr (Or.inl ⟨by omega, by omega, x_v1558.1, GL_nx (fun _ _ => st_aP (by omega) (by decide)) x_v1558.2.1⟩)
                    refine lv_aload_n hx hb dX12_readAtom_162 rfl (lv_at hl 0 rfl) ?_
                    refine lv_iload_n hx hb dX12_readAtom_163 rfl (lv_at hl 1 rfl) ?_
                    refine lv_iconst (v := 1) hx hb dX12_readAtom_164 (by decide) ?_
                    refine lv_iadd hx hb dX12_readAtom_165 ?_
                    refine lv_topi (fun v165 ev165 => ?_)
                    have tv165 : v165.toInt = x1.toInt + (1) := by rw [ev165]; exact add_i rfl (by decide : (1 : Int32).toInt = 1) (by omega) (by omega)
                    refine tk_v hH hS hA (tr_V (n := 1) (As := [.int v165]) hx hb hml hown hts hkb hH (ox_map hOX rfl) hks hE hS hA (s_M_readSum4 l D cs kf T O X a0 hg mq v165 o0 o1 o2 y3 y4 o5 n155_0_6 n155_0_7 y8 n155_0_9 n155_0_10 n155_0_11 n155_0_12 tl f3 f4 t tn t_a0 b_hg (by omega) (by omega) t_y3 t_y4 (by omega) (by omega) (by omega) (by omega) (by omega) (by omega) (by omega) (by omega) s_f4 (by omega) htm (by omega) (by omega) x_v1553 (by first | exact k4 | exact (fun q => absurd q x_v1557) | (intro _; omega)) (fun _ => x_v1558.1) (hO.sub (by decide))) kw_1422 kw_1424 ks_60 kw_13 kw_1425 (by decide +kernel) ⟨Nat.le_of_ble_eq_true rfl, Nat.le_of_ble_eq_true rfl⟩ (x_recv (ci := 12) hkb hH 0 rfl rfl) rfl rfl hl.1 (Nat.le_of_ble_eq_true rfl) dX12_readAtom_166 ⟨Nat.le_of_ble_eq_true rfl, Nat.le_of_ble_eq_true rfl⟩) (fun u H locs hz9 hH hS => ?_)
                    obtain ⟨n166_0_6, n166_0_7, n166_0_9, n166_0_10, n166_0_11, n166_0_12, F166_2, rfl, x_v1660, x_v1661, x_v1662, x_v1663, x_v1664, x_v1665, x_v1666, x_v1667, x_v1668, x_v1669⟩ := hz9
                    have s_F166_2 := x_v1660
                    have hH : HT D cs A T (a0 :: y3 :: y4 :: O) ((a0, .inr (12, o0 :: o1 :: o2 :: (.ref y3) :: (.ref y4) :: o5 :: (.int n166_0_6) :: (.int n166_0_7) :: (.int y8) :: (.int n166_0_9) :: (.int n166_0_10) :: (.int n166_0_11) :: (.int n166_0_12) :: tl)) :: (y3, .inl (cs.2.1, 900, .inl f3)) :: (y4, .inl (cs.2.1, 1302, .inl F166_2)) :: X) H := hH
                    refine W.widen (k := 0) (n := 0) (Nat.le_of_ble_eq_true rfl) (Nat.le_of_ble_eq_true rfl) ?_
                    have g169 : RG t tn [(0, 3)] [(20, 36)] y11 y12 y6 n166_0_11 n166_0_12 n166_0_6 n166_0_7 n166_0_9 n166_0_10 := g162.seq (RG.cons x_v1668)
                    refine lv_aload_n hx hb dX12_readAtom_169 rfl (lv_at hl 0 rfl) ?_
                    refine lv_bipush (v := 36) hx hb dX12_readAtom_170 (by decide) ?_
                    have z9_36 : (36 : Int32).toInt = 36 := by decide
                    refine tk_i hH hS hA (tr_V (n := 1) (As := [.int 36]) hx hb hml hown hts hkb hH (ox_map hOX rfl) hks hE hS hA (s_M_eats l D cs kf T (y4 :: O) ((y4, .inl (cs.2.1, 1302, .inl F166_2)) :: X) a0 hg mq (36) o0 o1 o2 y3 y4 o5 n166_0_6 n166_0_7 y8 n166_0_9 n166_0_10 n166_0_11 n166_0_12 tl f3 t tn t_a0 b_hg t_y3 t_y4 (by omega) (by omega) (by omega) (by omega) (by omega) (by omega) (by omega) (by omega) (by omega) htm (by omega) (by omega) x_v1664 (by omega) (RG.msw x_v1668) (hO.sub (by decide))) kw_1390 kw_1392 ks_52 kw_13 kw_1393 (by decide +kernel) ⟨Nat.le_of_ble_eq_true rfl, Nat.le_of_ble_eq_true rfl⟩ (x_recv (ci := 12) hkb hH 0 rfl rfl) rfl rfl hl.1 (Nat.le_of_ble_eq_true rfl) dX12_readAtom_172 ⟨Nat.le_of_ble_eq_true rfl, Nat.le_of_ble_eq_true rfl⟩) (fun v172 u H locs hz9 hH hS => ?_)
                    obtain ⟨n172_0_6, n172_0_7, n172_0_9, n172_0_10, rfl, l_v172, u_v172, x_v1720, x_v1721, x_v1722, x_v1723, x_v1724, x_v1725, x_v1726, x_v1727, x_v1728⟩ := hz9
                    have hH : HT D cs A T (a0 :: y3 :: y4 :: O) ((a0, .inr (12, o0 :: o1 :: o2 :: (.ref y3) :: (.ref y4) :: o5 :: (.int n172_0_6) :: (.int n172_0_7) :: (.int y8) :: (.int n172_0_9) :: (.int n172_0_10) :: (.int n166_0_11) :: (.int n166_0_12) :: tl)) :: (y3, .inl (cs.2.1, 900, .inl f3)) :: (y4, .inl (cs.2.1, 1302, .inl F166_2)) :: X) H := hH
                    refine W.widen (k := 0) (n := 0) (Nat.le_of_ble_eq_true rfl) (Nat.le_of_ble_eq_true rfl) ?_
                    refine lv_if_ne (tgt := 191) hx hb dX12_readAtom_175 (by decide) (fun c175 => ?_) (fun c175 => ?_)
                    · skip
                      have tc175 := f_ne (k := 0) (by decide) c175
                      replace x_v1726 := x_v1726.resolve_left tc175
                      replace x_v1727 := x_v1727.resolve_left tc175
                      clear x_v1728
                      exact te_v hx hb hr hlocks hH hS (⟨n172_0_6, n172_0_7, n172_0_9, n172_0_10, n166_0_11, n166_0_12, F166_2, rfl, s_F166_2, by omega, by omega, by omega, x_v1723, by omega, by omega, (by first | exact (fun q => absurd q x_v1557) | exact (fun q => absurd (x_v1667 q).1 x_v1557) | exact x_v1667 | (refine RD_le x_v1667 ?_; omega) | (intro q; obtain ⟨c0, c1, c2⟩ := x_v1667 q; refine ⟨?_, ?_, ?_⟩ <;> omega)), (by first | (refine RG_nx ?_ x_v186 (fun _ _ => st_aV ?_) ((hms ?_).nx x_v187) <;> omega) | (refine RG_nx ?_ x_v646 (fun _ _ => st_aV ?_) ((hms ?_).nx x_v647) <;> omega) | (refine (RG_nx ?_ x_v727.1 (fun _ _ => st_aV ?_) x_v727.2.1) <;> omega) | (refine (RG_nx ?_ x_v907.1 (fun _ _ => st_aV ?_) x_v907.2.1) <;> omega) | (refine (RG_nx ?_ x_v1097.1 (fun _ _ => st_aV ?_) x_v1097.2.1) <;> omega) | (refine (RG_nx ?_ x_v1287.1 (fun _ _ => st_aV ?_) x_v1287.2.1) <;> omega) | (refine g169.seq (RG_nx ?_ x_v1727.1 (fun _ _ => st_xY ?_) x_v1727.2.1) <;> omega) | (exact g169.seq (RG_f (m := 2) (G := []) x_v1801 (RG.msw x_v1668) (by decide) (by decide) (fun q9 _ _ => st_xN (by have q8 := (RG.msw x_v1668 q9).2.2.2.1; omega)))) | (exact RG_f (m := 4) (G := []) x_v1559 hms (by decide) (by decide) (fun q9 _ _ => st_aD (by omega))) | (exact (RG_f (m := 2) (G := []) x_v1881 hms (by decide) (by decide) (fun q9 _ _ => st_aN (by have q8 := hq0 q9; omega) (by have q8 := hq0 q9; omega))))), (FKP.tr FKP.rf x_v1669)⟩) dX12_readAtom_191
                    · skip
                      have tc175 := f_eq (k := 0) (by decide) c175
                      clear x_v1726
                      clear x_v1727
                      replace x_v1728 := x_v1728.resolve_left (fun q9 => q9 tc175)
                      obtain ⟨e6, e7, e9, e10, x_v1728⟩ := x_v1728
                      subst e6 e7 e9 e10
                      refine lv_aload_n hx hb dX12_readAtom_178 rfl (lv_at hl 0 rfl) ?_
                      refine lv_iconst (v := 2) hx hb dX12_readAtom_179 (by decide) ?_
                      have z9_2 : (2 : Int32).toInt = 2 := by decide
                      refine tk_v hH hS hA (tr_V (n := 1) (As := [.int 2]) hx hb hml hown hts hkb hH (ox_map hOX rfl) hks hE hS hA (s_M_fails l D cs kf T (y4 :: O) ((y4, .inl (cs.2.1, 1302, .inl F166_2)) :: X) a0 hg mq (2) o0 o1 o2 y3 y4 o5 n166_0_6 n166_0_7 y8 n166_0_9 n166_0_10 n166_0_11 n166_0_12 tl f3 t tn t_a0 b_hg (by decide) (by decide) t_y3 t_y4 (by omega) (by omega) (by omega) (by omega) (by omega) (by omega) (by omega) (by omega) (by omega) htm (hO.sub (by decide))) kw_1378 kw_1380 ks_49 kw_13 kw_1381 (by decide +kernel) ⟨Nat.le_of_ble_eq_true rfl, Nat.le_of_ble_eq_true rfl⟩ (x_recv (ci := 12) hkb hH 0 rfl rfl) rfl rfl hl.1 (Nat.le_of_ble_eq_true rfl) dX12_readAtom_180 ⟨Nat.le_of_ble_eq_true rfl, Nat.le_of_ble_eq_true rfl⟩) (fun u H locs hz9 hH hS => ?_)
                      obtain ⟨n180_0_11, n180_0_12, rfl, x_v1800, x_v1801⟩ := hz9
                      have hH : HT D cs A T (a0 :: y3 :: y4 :: O) ((a0, .inr (12, o0 :: o1 :: o2 :: (.ref y3) :: (.ref y4) :: o5 :: (.int n166_0_6) :: (.int n166_0_7) :: (.int y8) :: (.int n166_0_9) :: (.int n166_0_10) :: (.int n180_0_11) :: (.int n180_0_12) :: tl)) :: (y3, .inl (cs.2.1, 900, .inl f3)) :: (y4, .inl (cs.2.1, 1302, .inl F166_2)) :: X) H := hH
                      refine W.widen (k := 0) (n := 0) (Nat.le_of_ble_eq_true rfl) (Nat.le_of_ble_eq_true rfl) ?_
                      refine lv_goto (tgt := 191) hx hb dX12_readAtom_183 (by decide) ?_
                      exact te_v hx hb hr hlocks hH hS (⟨n166_0_6, n166_0_7, n166_0_9, n166_0_10, n180_0_11, n180_0_12, F166_2, rfl, s_F166_2, by omega, by omega, by omega, x_v1723, by omega, by omega, (by first | exact (fun q => absurd q x_v1557) | exact (fun q => absurd q x_v1800) | exact (fun q => absurd (x_v1667 q).1 x_v1557) | exact (fun q => absurd (x_v1667 q).1 x_v1800) | exact x_v1667 | (refine RD_le x_v1667 ?_; omega) | (intro q; obtain ⟨c0, c1, c2⟩ := x_v1667 q; refine ⟨?_, ?_, ?_⟩ <;> omega)), (by first | (refine RG_nx ?_ x_v186 (fun _ _ => st_aV ?_) ((hms ?_).nx x_v187) <;> omega) | (refine RG_nx ?_ x_v646 (fun _ _ => st_aV ?_) ((hms ?_).nx x_v647) <;> omega) | (refine (RG_nx ?_ x_v727.1 (fun _ _ => st_aV ?_) x_v727.2.1) <;> omega) | (refine (RG_nx ?_ x_v907.1 (fun _ _ => st_aV ?_) x_v907.2.1) <;> omega) | (refine (RG_nx ?_ x_v1097.1 (fun _ _ => st_aV ?_) x_v1097.2.1) <;> omega) | (refine (RG_nx ?_ x_v1287.1 (fun _ _ => st_aV ?_) x_v1287.2.1) <;> omega) | (refine g169.seq (RG_nx ?_ x_v1727.1 (fun _ _ => st_xY ?_) x_v1727.2.1) <;> omega) | (exact g169.seq (RG_f (m := 2) (G := []) x_v1801 (RG.msw x_v1668) (by decide) (by decide) (fun q9 _ _ => st_xN (by have q8 := (RG.msw x_v1668 q9).2.2.2.1; omega)))) | (exact RG_f (m := 4) (G := []) x_v1559 hms (by decide) (by decide) (fun q9 _ _ => st_aD (by omega))) | (exact (RG_f (m := 2) (G := []) x_v1881 hms (by decide) (by decide) (fun q9 _ _ => st_aN (by have q8 := hq0 q9; omega) (by have q8 := hq0 q9; omega))))), (FKP.tr FKP.rf x_v1669)⟩) dX12_readAtom_191
                  · skip
                    have tc158 := f_eq (k := 0) (by decide) c158
                    clear x_v1556
                    clear x_v1558
                    replace x_v1557 := x_v1557.resolve_left (fun q9 => q9 tc158)
                    replace x_v1559 := x_v1559.resolve_left (fun q9 => q9 tc158)
                    exfalso; omega
              · skip
                have tc131 := f_ne (k := 0) (by decide) c131
                replace x_v1286 := x_v1286.resolve_left tc131
                replace x_v1287 := x_v1287.resolve_left tc131
                clear x_v1288
                have hsl := k4 (by omega)
                refine lv_aload_n hx hb dX12_readAtom_134 rfl (lv_at hl 0 rfl) ?_
                refine lv_sipush (v := 1006) hx hb dX12_readAtom_135 (by decide) ?_
                have z9_1006 : (1006 : Int32).toInt = 1006 := by decide
                refine tk_v hH hS hA (tr_V (n := 1) (As := [.int 1006]) hx hb hml hown hts hkb hH (ox_map hOX rfl) hks hE hS hA (s_M_codesA l D cs kf T O X a0 hg mq (1006) o0 o1 o2 y3 y4 o5 n128_0_6 n128_0_7 y8 n128_0_9 n128_0_10 y11 y12 tl f3 f4 t tn t_a0 b_hg (by decide) t_y3 t_y4 (by omega) (by omega) (by omega) (by omega) (by omega) (by omega) (by omega) (by omega) s_f4 (by omega) htm (by first | (intro q; constructor <;> omega)) (hO.sub (by decide))) kw_1418 kw_1420 ks_59 kw_13 kw_1421 (by decide +kernel) ⟨Nat.le_of_ble_eq_true rfl, Nat.le_of_ble_eq_true rfl⟩ (x_recv (ci := 12) hkb hH 0 rfl rfl) rfl rfl hl.1 (Nat.le_of_ble_eq_true rfl) dX12_readAtom_138 ⟨Nat.le_of_ble_eq_true rfl, Nat.le_of_ble_eq_true rfl⟩) (fun u H locs hz9 hH hS => ?_)
                obtain ⟨F138_2, rfl, x_v1380, x_v1381, x_v1382⟩ := hz9
                have s_F138_2 := x_v1380
                have hH : HT D cs A T (a0 :: y3 :: y4 :: O) ((a0, .inr (12, o0 :: o1 :: o2 :: (.ref y3) :: (.ref y4) :: o5 :: (.int n128_0_6) :: (.int n128_0_7) :: (.int y8) :: (.int n128_0_9) :: (.int n128_0_10) :: (.int y11) :: (.int y12) :: tl)) :: (y3, .inl (cs.2.1, 900, .inl f3)) :: (y4, .inl (cs.2.1, 1302, .inl F138_2)) :: X) H := hH
                refine W.widen (k := 0) (n := 0) (Nat.le_of_ble_eq_true rfl) (Nat.le_of_ble_eq_true rfl) ?_
                refine lv_goto (tgt := 191) hx hb dX12_readAtom_141 (by decide) ?_
                exact te_v hx hb hr hlocks hH hS (⟨n128_0_6, n128_0_7, n128_0_9, n128_0_10, y11, y12, F138_2, rfl, s_F138_2, by omega, by omega, by omega, x_v1283, by omega, by omega, (by first | (intro q; obtain ⟨c1, c2⟩ := x_v1381 q; refine ⟨?_, ?_, ?_⟩ <;> omega)), (by first | (refine RG_nx ?_ x_v186 (fun _ _ => st_aV ?_) ((hms ?_).nx x_v187) <;> omega) | (refine RG_nx ?_ x_v646 (fun _ _ => st_aV ?_) ((hms ?_).nx x_v647) <;> omega) | (refine (RG_nx ?_ x_v727.1 (fun _ _ => st_aV ?_) x_v727.2.1) <;> omega) | (refine (RG_nx ?_ x_v907.1 (fun _ _ => st_aV ?_) x_v907.2.1) <;> omega) | (refine (RG_nx ?_ x_v1097.1 (fun _ _ => st_aV ?_) x_v1097.2.1) <;> omega) | (refine (RG_nx ?_ x_v1287.1 (fun _ _ => st_aV ?_) x_v1287.2.1) <;> omega) | (refine g169.seq (RG_nx ?_ x_v1727.1 (fun _ _ => st_xY ?_) x_v1727.2.1) <;> omega) | (exact g169.seq (RG_f (m := 2) (G := []) x_v1801 (RG.msw x_v1668) (by decide) (by decide) (fun q9 _ _ => st_xN (by have q8 := (RG.msw x_v1668 q9).2.2.2.1; omega)))) | (exact RG_f (m := 4) (G := []) x_v1559 hms (by decide) (by decide) (fun q9 _ _ => st_aD (by omega))) | (exact (RG_f (m := 2) (G := []) x_v1881 hms (by decide) (by decide) (fun q9 _ _ => st_aN (by have q8 := hq0 q9; omega) (by have q8 := hq0 q9; omega))))), (FKP.tr FKP.rf x_v1382)⟩) dX12_readAtom_191
            · skip
              have tc112 := f_ne (k := 0) (by decide) c112
              replace x_v1096 := x_v1096.resolve_left tc112
              replace x_v1097 := x_v1097.resolve_left tc112
              clear x_v1098
              have hsl := k4 (by omega)
              refine lv_aload_n hx hb dX12_readAtom_115 rfl (lv_at hl 0 rfl) ?_
              refine lv_sipush (v := 1005) hx hb dX12_readAtom_116 (by decide) ?_
              have z9_1005 : (1005 : Int32).toInt = 1005 := by decide
              refine tk_v hH hS hA (tr_V (n := 1) (As := [.int 1005]) hx hb hml hown hts hkb hH (ox_map hOX rfl) hks hE hS hA (s_M_codesA l D cs kf T O X a0 hg mq (1005) o0 o1 o2 y3 y4 o5 n109_0_6 n109_0_7 y8 n109_0_9 n109_0_10 y11 y12 tl f3 f4 t tn t_a0 b_hg (by decide) t_y3 t_y4 (by omega) (by omega) (by omega) (by omega) (by omega) (by omega) (by omega) (by omega) s_f4 (by omega) htm (by first | (intro q; constructor <;> omega)) (hO.sub (by decide))) kw_1418 kw_1420 ks_59 kw_13 kw_1421 (by decide +kernel) ⟨Nat.le_of_ble_eq_true rfl, Nat.le_of_ble_eq_true rfl⟩ (x_recv (ci := 12) hkb hH 0 rfl rfl) rfl rfl hl.1 (Nat.le_of_ble_eq_true rfl) dX12_readAtom_119 ⟨Nat.le_of_ble_eq_true rfl, Nat.le_of_ble_eq_true rfl⟩) (fun u H locs hz9 hH hS => ?_)
              obtain ⟨F119_2, rfl, x_v1190, x_v1191, x_v1192⟩ := hz9
              have s_F119_2 := x_v1190
              have hH : HT D cs A T (a0 :: y3 :: y4 :: O) ((a0, .inr (12, o0 :: o1 :: o2 :: (.ref y3) :: (.ref y4) :: o5 :: (.int n109_0_6) :: (.int n109_0_7) :: (.int y8) :: (.int n109_0_9) :: (.int n109_0_10) :: (.int y11) :: (.int y12) :: tl)) :: (y3, .inl (cs.2.1, 900, .inl f3)) :: (y4, .inl (cs.2.1, 1302, .inl F119_2)) :: X) H := hH
              refine W.widen (k := 0) (n := 0) (Nat.le_of_ble_eq_true rfl) (Nat.le_of_ble_eq_true rfl) ?_
              refine lv_goto (tgt := 191) hx hb dX12_readAtom_122 (by decide) ?_
              exact te_v hx hb hr hlocks hH hS (⟨n109_0_6, n109_0_7, n109_0_9, n109_0_10, y11, y12, F119_2, rfl, s_F119_2, by omega, by omega, by omega, x_v1093, by omega, by omega, (by first | (intro q; obtain ⟨c1, c2⟩ := x_v1191 q; refine ⟨?_, ?_, ?_⟩ <;> omega)), (by first | (refine RG_nx ?_ x_v186 (fun _ _ => st_aV ?_) ((hms ?_).nx x_v187) <;> omega) | (refine RG_nx ?_ x_v646 (fun _ _ => st_aV ?_) ((hms ?_).nx x_v647) <;> omega) | (refine (RG_nx ?_ x_v727.1 (fun _ _ => st_aV ?_) x_v727.2.1) <;> omega) | (refine (RG_nx ?_ x_v907.1 (fun _ _ => st_aV ?_) x_v907.2.1) <;> omega) | (refine (RG_nx ?_ x_v1097.1 (fun _ _ => st_aV ?_) x_v1097.2.1) <;> omega) | (refine (RG_nx ?_ x_v1287.1 (fun _ _ => st_aV ?_) x_v1287.2.1) <;> omega) | (refine g169.seq (RG_nx ?_ x_v1727.1 (fun _ _ => st_xY ?_) x_v1727.2.1) <;> omega) | (exact g169.seq (RG_f (m := 2) (G := []) x_v1801 (RG.msw x_v1668) (by decide) (by decide) (fun q9 _ _ => st_xN (by have q8 := (RG.msw x_v1668 q9).2.2.2.1; omega)))) | (exact RG_f (m := 4) (G := []) x_v1559 hms (by decide) (by decide) (fun q9 _ _ => st_aD (by omega))) | (exact (RG_f (m := 2) (G := []) x_v1881 hms (by decide) (by decide) (fun q9 _ _ => st_aN (by have q8 := hq0 q9; omega) (by have q8 := hq0 q9; omega))))), (FKP.tr FKP.rf x_v1192)⟩) dX12_readAtom_191
          · skip
            have tc93 := f_ne (k := 0) (by decide) c93
            replace x_v906 := x_v906.resolve_left tc93
            replace x_v907 := x_v907.resolve_left tc93
            clear x_v908
            have hsl := k4 (by omega)
            refine lv_aload_n hx hb dX12_readAtom_96 rfl (lv_at hl 0 rfl) ?_
            refine lv_sipush (v := 1004) hx hb dX12_readAtom_97 (by decide) ?_
            have z9_1004 : (1004 : Int32).toInt = 1004 := by decide
            refine tk_v hH hS hA (tr_V (n := 1) (As := [.int 1004]) hx hb hml hown hts hkb hH (ox_map hOX rfl) hks hE hS hA (s_M_codesA l D cs kf T O X a0 hg mq (1004) o0 o1 o2 y3 y4 o5 n90_0_6 n90_0_7 y8 n90_0_9 n90_0_10 y11 y12 tl f3 f4 t tn t_a0 b_hg (by decide) t_y3 t_y4 (by omega) (by omega) (by omega) (by omega) (by omega) (by omega) (by omega) (by omega) s_f4 (by omega) htm (by first | (intro q; constructor <;> omega)) (hO.sub (by decide))) kw_1418 kw_1420 ks_59 kw_13 kw_1421 (by decide +kernel) ⟨Nat.le_of_ble_eq_true rfl, Nat.le_of_ble_eq_true rfl⟩ (x_recv (ci := 12) hkb hH 0 rfl rfl) rfl rfl hl.1 (Nat.le_of_ble_eq_true rfl) dX12_readAtom_100 ⟨Nat.le_of_ble_eq_true rfl, Nat.le_of_ble_eq_true rfl⟩) (fun u H locs hz9 hH hS => ?_)
            obtain ⟨F100_2, rfl, x_v1000, x_v1001, x_v1002⟩ := hz9
            have s_F100_2 := x_v1000
            have hH : HT D cs A T (a0 :: y3 :: y4 :: O) ((a0, .inr (12, o0 :: o1 :: o2 :: (.ref y3) :: (.ref y4) :: o5 :: (.int n90_0_6) :: (.int n90_0_7) :: (.int y8) :: (.int n90_0_9) :: (.int n90_0_10) :: (.int y11) :: (.int y12) :: tl)) :: (y3, .inl (cs.2.1, 900, .inl f3)) :: (y4, .inl (cs.2.1, 1302, .inl F100_2)) :: X) H := hH
            refine W.widen (k := 0) (n := 0) (Nat.le_of_ble_eq_true rfl) (Nat.le_of_ble_eq_true rfl) ?_
            refine lv_goto (tgt := 191) hx hb dX12_readAtom_103 (by decide) ?_
            exact te_v hx hb hr hlocks hH hS (⟨n90_0_6, n90_0_7, n90_0_9, n90_0_10, y11, y12, F100_2, rfl, s_F100_2, by omega, by omega, by omega, x_v903, by omega, by omega, (by first | (intro q; obtain ⟨c1, c2⟩ := x_v1001 q; refine ⟨?_, ?_, ?_⟩ <;> omega)), (by first | (refine RG_nx ?_ x_v186 (fun _ _ => st_aV ?_) ((hms ?_).nx x_v187) <;> omega) | (refine RG_nx ?_ x_v646 (fun _ _ => st_aV ?_) ((hms ?_).nx x_v647) <;> omega) | (refine (RG_nx ?_ x_v727.1 (fun _ _ => st_aV ?_) x_v727.2.1) <;> omega) | (refine (RG_nx ?_ x_v907.1 (fun _ _ => st_aV ?_) x_v907.2.1) <;> omega) | (refine (RG_nx ?_ x_v1097.1 (fun _ _ => st_aV ?_) x_v1097.2.1) <;> omega) | (refine (RG_nx ?_ x_v1287.1 (fun _ _ => st_aV ?_) x_v1287.2.1) <;> omega) | (refine g169.seq (RG_nx ?_ x_v1727.1 (fun _ _ => st_xY ?_) x_v1727.2.1) <;> omega) | (exact g169.seq (RG_f (m := 2) (G := []) x_v1801 (RG.msw x_v1668) (by decide) (by decide) (fun q9 _ _ => st_xN (by have q8 := (RG.msw x_v1668 q9).2.2.2.1; omega)))) | (exact RG_f (m := 4) (G := []) x_v1559 hms (by decide) (by decide) (fun q9 _ _ => st_aD (by omega))) | (exact (RG_f (m := 2) (G := []) x_v1881 hms (by decide) (by decide) (fun q9 _ _ => st_aN (by have q8 := hq0 q9; omega) (by have q8 := hq0 q9; omega))))), (FKP.tr FKP.rf x_v1002)⟩) dX12_readAtom_191
        · skip
          have tc75 := f_ne (k := 0) (by decide) c75
          replace x_v726 := x_v726.resolve_left tc75
          replace x_v727 := x_v727.resolve_left tc75
          clear x_v728
          have hsl := k4 (by omega)
          refine lv_aload_n hx hb dX12_readAtom_78 rfl (lv_at hl 0 rfl) ?_
          refine lv_sipush (v := 1003) hx hb dX12_readAtom_79 (by decide) ?_
          have z9_1003 : (1003 : Int32).toInt = 1003 := by decide
          refine tk_v hH hS hA (tr_V (n := 1) (As := [.int 1003]) hx hb hml hown hts hkb hH (ox_map hOX rfl) hks hE hS hA (s_M_codesA l D cs kf T O X a0 hg mq (1003) o0 o1 o2 y3 y4 o5 n72_0_6 n72_0_7 y8 n72_0_9 n72_0_10 y11 y12 tl f3 f4 t tn t_a0 b_hg (by decide) t_y3 t_y4 (by omega) (by omega) (by omega) (by omega) (by omega) (by omega) (by omega) (by omega) s_f4 (by omega) htm (by first | (intro q; constructor <;> omega)) (hO.sub (by decide))) kw_1418 kw_1420 ks_59 kw_13 kw_1421 (by decide +kernel) ⟨Nat.le_of_ble_eq_true rfl, Nat.le_of_ble_eq_true rfl⟩ (x_recv (ci := 12) hkb hH 0 rfl rfl) rfl rfl hl.1 (Nat.le_of_ble_eq_true rfl) dX12_readAtom_82 ⟨Nat.le_of_ble_eq_true rfl, Nat.le_of_ble_eq_true rfl⟩) (fun u H locs hz9 hH hS => ?_)
          obtain ⟨F82_2, rfl, x_v820, x_v821, x_v822⟩ := hz9
          have s_F82_2 := x_v820
          have hH : HT D cs A T (a0 :: y3 :: y4 :: O) ((a0, .inr (12, o0 :: o1 :: o2 :: (.ref y3) :: (.ref y4) :: o5 :: (.int n72_0_6) :: (.int n72_0_7) :: (.int y8) :: (.int n72_0_9) :: (.int n72_0_10) :: (.int y11) :: (.int y12) :: tl)) :: (y3, .inl (cs.2.1, 900, .inl f3)) :: (y4, .inl (cs.2.1, 1302, .inl F82_2)) :: X) H := hH
          refine W.widen (k := 0) (n := 0) (Nat.le_of_ble_eq_true rfl) (Nat.le_of_ble_eq_true rfl) ?_
          refine lv_goto (tgt := 191) hx hb dX12_readAtom_85 (by decide) ?_
          exact te_v hx hb hr hlocks hH hS (⟨n72_0_6, n72_0_7, n72_0_9, n72_0_10, y11, y12, F82_2, rfl, s_F82_2, by omega, by omega, by omega, x_v723, by omega, by omega, (by first | (intro q; obtain ⟨c1, c2⟩ := x_v821 q; refine ⟨?_, ?_, ?_⟩ <;> omega)), (by first | (refine RG_nx ?_ x_v186 (fun _ _ => st_aV ?_) ((hms ?_).nx x_v187) <;> omega) | (refine RG_nx ?_ x_v646 (fun _ _ => st_aV ?_) ((hms ?_).nx x_v647) <;> omega) | (refine (RG_nx ?_ x_v727.1 (fun _ _ => st_aV ?_) x_v727.2.1) <;> omega) | (refine (RG_nx ?_ x_v907.1 (fun _ _ => st_aV ?_) x_v907.2.1) <;> omega) | (refine (RG_nx ?_ x_v1097.1 (fun _ _ => st_aV ?_) x_v1097.2.1) <;> omega) | (refine (RG_nx ?_ x_v1287.1 (fun _ _ => st_aV ?_) x_v1287.2.1) <;> omega) | (refine g169.seq (RG_nx ?_ x_v1727.1 (fun _ _ => st_xY ?_) x_v1727.2.1) <;> omega) | (exact g169.seq (RG_f (m := 2) (G := []) x_v1801 (RG.msw x_v1668) (by decide) (by decide) (fun q9 _ _ => st_xN (by have q8 := (RG.msw x_v1668 q9).2.2.2.1; omega)))) | (exact RG_f (m := 4) (G := []) x_v1559 hms (by decide) (by decide) (fun q9 _ _ => st_aD (by omega))) | (exact (RG_f (m := 2) (G := []) x_v1881 hms (by decide) (by decide) (fun q9 _ _ => st_aN (by have q8 := hq0 q9; omega) (by have q8 := hq0 q9; omega))))), (FKP.tr FKP.rf x_v822)⟩) dX12_readAtom_191
      · skip
        have tc45 := f_ne (k := 0) (by decide) c45
        replace x_v420 := x_v420.resolve_left tc45
        clear x_v421
        have hk3 := k3 (by omega)
        have hsl := k4 (by omega)
        have hq1 := hq0 (by omega)
        refine lv_aload_n hx hb dX12_readAtom_48 rfl (lv_at hl 0 rfl) ?_
        have hk9 : 16 ≤ y9.toInt ∧ y9.toInt ≤ 18 := by omega
        refine lv_sipush (v := 1000) hx hb dX12_readAtom_49 (by decide) ?_
        refine lv_aload_n hx hb dX12_readAtom_52 rfl (lv_at hl 0 rfl) ?_
        refine x_getk (ci := 12) (C := RX12) (F := TX12) (N := 36) (v := .int y9) hx hb hts uX12 hown hkb hH 0 rfl rfl 9 (by decide) rfl kw_1232 (fun _ h9 => h9) dX12_readAtom_53 ?_
        refine lv_iadd hx hb dX12_readAtom_56 ?_
        refine lv_topi (fun v56 ev56 => ?_)
        have tv56 : v56.toInt = (1000) + y9.toInt := by rw [ev56]; exact add_i (by decide : (1000 : Int32).toInt = 1000) rfl (by omega) (by omega)
        refine lv_bipush (v := 16) hx hb dX12_readAtom_57 (by decide) ?_
        refine lv_isub hx hb dX12_readAtom_59 ?_
        refine lv_topi (fun v59 ev59 => ?_)
        have tv59 : v59.toInt = v56.toInt - (16) := by rw [ev59]; exact sub_i rfl (by decide : (16 : Int32).toInt = 16) (by omega) (by omega)
        refine tk_v hH hS hA (tr_V (n := 1) (As := [.int v59]) hx hb hml hown hts hkb hH (ox_map hOX rfl) hks hE hS hA (s_M_codesA l D cs kf T O X a0 hg mq v59 o0 o1 o2 y3 y4 o5 y6 y7 y8 y9 y10 y11 y12 tl f3 f4 t tn t_a0 b_hg (by omega) t_y3 t_y4 (by omega) (by omega) (by omega) (by omega) (by omega) (by omega) (by omega) (by omega) s_f4 (by omega) htm (by first | (intro q; constructor <;> omega)) (hO.sub (by decide))) kw_1418 kw_1420 ks_59 kw_13 kw_1421 (by decide +kernel) ⟨Nat.le_of_ble_eq_true rfl, Nat.le_of_ble_eq_true rfl⟩ (x_recv (ci := 12) hkb hH 0 rfl rfl) rfl rfl hl.1 (Nat.le_of_ble_eq_true rfl) dX12_readAtom_60 ⟨Nat.le_of_ble_eq_true rfl, Nat.le_of_ble_eq_true rfl⟩) (fun u H locs hz9 hH hS => ?_)
        obtain ⟨F60_2, rfl, x_v600, x_v601, x_v602⟩ := hz9
        have s_F60_2 := x_v600
        have hH : HT D cs A T (a0 :: y3 :: y4 :: O) ((a0, .inr (12, o0 :: o1 :: o2 :: (.ref y3) :: (.ref y4) :: o5 :: (.int y6) :: (.int y7) :: (.int y8) :: (.int y9) :: (.int y10) :: (.int y11) :: (.int y12) :: tl)) :: (y3, .inl (cs.2.1, 900, .inl f3)) :: (y4, .inl (cs.2.1, 1302, .inl F60_2)) :: X) H := hH
        refine W.widen (k := 0) (n := 0) (Nat.le_of_ble_eq_true rfl) (Nat.le_of_ble_eq_true rfl) ?_
        refine lv_aload_n hx hb dX12_readAtom_63 rfl (lv_at hl 0 rfl) ?_
        refine tk_v hH hS hA (tr_V (n := 0) (As := []) hx hb hml hown hts hkb hH (ox_map hOX rfl) hks hE hS hA (s_M_next l D cs kf T (y4 :: O) ((y4, .inl (cs.2.1, 1302, .inl F60_2)) :: X) a0 hg mq o0 o1 o2 y3 y4 o5 y6 y7 y8 y9 y10 y11 y12 tl f3 t tn t_a0 b_hg t_y3 t_y4 (by omega) (by omega) (by omega) (by omega) (by omega) (by omega) (by omega) (by omega) (by omega) htm (by omega) (hO.sub (by decide))) kw_1344 kw_1346 ks_43 kw_13 kw_1347 (by decide +kernel) ⟨Nat.le_of_ble_eq_true rfl, Nat.le_of_ble_eq_true rfl⟩ (x_recv (ci := 12) hkb hH 0 rfl rfl) rfl rfl hl.1 (Nat.le_of_ble_eq_true rfl) dX12_readAtom_64 ⟨Nat.le_of_ble_eq_true rfl, Nat.le_of_ble_eq_true rfl⟩) (fun u H locs hz9 hH hS => ?_)
        obtain ⟨n64_0_6, n64_0_7, n64_0_9, n64_0_10, rfl, x_v640, x_v641, x_v642, x_v643, x_v644, x_v645, x_v646, x_v647⟩ := hz9
        have hH : HT D cs A T (a0 :: y3 :: y4 :: O) ((a0, .inr (12, o0 :: o1 :: o2 :: (.ref y3) :: (.ref y4) :: o5 :: (.int n64_0_6) :: (.int n64_0_7) :: (.int y8) :: (.int n64_0_9) :: (.int n64_0_10) :: (.int y11) :: (.int y12) :: tl)) :: (y3, .inl (cs.2.1, 900, .inl f3)) :: (y4, .inl (cs.2.1, 1302, .inl F60_2)) :: X) H := hH
        refine W.widen (k := 0) (n := 0) (Nat.le_of_ble_eq_true rfl) (Nat.le_of_ble_eq_true rfl) ?_
        refine lv_goto (tgt := 191) hx hb dX12_readAtom_67 (by decide) ?_
        exact te_v hx hb hr hlocks hH hS (⟨n64_0_6, n64_0_7, n64_0_9, n64_0_10, y11, y12, F60_2, rfl, s_F60_2, by omega, by omega, by omega, x_v643, by omega, by omega, (by first | (intro q; obtain ⟨c1, c2⟩ := x_v601 q; refine ⟨?_, ?_, ?_⟩ <;> omega)), (by first | (refine RG_nx ?_ x_v186 (fun _ _ => st_aV ?_) ((hms ?_).nx x_v187) <;> omega) | (refine RG_nx ?_ x_v646 (fun _ _ => st_aV ?_) ((hms ?_).nx x_v647) <;> omega) | (refine (RG_nx ?_ x_v727.1 (fun _ _ => st_aV ?_) x_v727.2.1) <;> omega) | (refine (RG_nx ?_ x_v907.1 (fun _ _ => st_aV ?_) x_v907.2.1) <;> omega) | (refine (RG_nx ?_ x_v1097.1 (fun _ _ => st_aV ?_) x_v1097.2.1) <;> omega) | (refine (RG_nx ?_ x_v1287.1 (fun _ _ => st_aV ?_) x_v1287.2.1) <;> omega) | (refine g169.seq (RG_nx ?_ x_v1727.1 (fun _ _ => st_xY ?_) x_v1727.2.1) <;> omega) | (exact g169.seq (RG_f (m := 2) (G := []) x_v1801 (RG.msw x_v1668) (by decide) (by decide) (fun q9 _ _ => st_xN (by have q8 := (RG.msw x_v1668 q9).2.2.2.1; omega)))) | (exact RG_f (m := 4) (G := []) x_v1559 hms (by decide) (by decide) (fun q9 _ _ => st_aD (by omega))) | (exact (RG_f (m := 2) (G := []) x_v1881 hms (by decide) (by decide) (fun q9 _ _ => st_aN (by have q8 := hq0 q9; omega) (by have q8 := hq0 q9; omega))))), (FKP.tr FKP.rf x_v602)⟩) dX12_readAtom_191
  · skip
    have tc6 := f_ne (k := 0) (by decide) c6
    replace x_v30 := x_v30.resolve_left tc6
    clear x_v31
    have hk3 := k3 (by omega)
    have hsl := k4 (by omega)
    have hq1 := hq0 (by omega)
    refine lv_aload_n hx hb dX12_readAtom_9 rfl (lv_at hl 0 rfl) ?_
    refine lv_aload_n hx hb dX12_readAtom_10 rfl (lv_at hl 0 rfl) ?_
    refine x_getk (ci := 12) (C := RX12) (F := TX12) (N := 36) (v := .int y10) hx hb hts uX12 hown hkb hH 0 rfl rfl 10 (by decide) rfl kw_1233 (fun _ h9 => h9) dX12_readAtom_11 ?_
    refine tk_v hH hS hA (tr_V (n := 1) (As := [.int y10]) hx hb hml hown hts hkb hH (ox_map hOX rfl) hks hE hS hA (s_M_codesA l D cs kf T O X a0 hg mq y10 o0 o1 o2 y3 y4 o5 y6 y7 y8 y9 y10 y11 y12 tl f3 f4 t tn t_a0 b_hg (by omega) t_y3 t_y4 (by omega) (by omega) (by omega) (by omega) (by omega) (by omega) (by omega) (by omega) s_f4 (by omega) htm (by first | (intro q; constructor <;> omega)) (hO.sub (by decide))) kw_1418 kw_1420 ks_59 kw_13 kw_1421 (by decide +kernel) ⟨Nat.le_of_ble_eq_true rfl, Nat.le_of_ble_eq_true rfl⟩ (x_recv (ci := 12) hkb hH 0 rfl rfl) rfl rfl hl.1 (Nat.le_of_ble_eq_true rfl) dX12_readAtom_14 ⟨Nat.le_of_ble_eq_true rfl, Nat.le_of_ble_eq_true rfl⟩) (fun u H locs hz9 hH hS => ?_)
    obtain ⟨F14_2, rfl, x_v140, x_v141, x_v142⟩ := hz9
    have s_F14_2 := x_v140
    have hH : HT D cs A T (a0 :: y3 :: y4 :: O) ((a0, .inr (12, o0 :: o1 :: o2 :: (.ref y3) :: (.ref y4) :: o5 :: (.int y6) :: (.int y7) :: (.int y8) :: (.int y9) :: (.int y10) :: (.int y11) :: (.int y12) :: tl)) :: (y3, .inl (cs.2.1, 900, .inl f3)) :: (y4, .inl (cs.2.1, 1302, .inl F14_2)) :: X) H := hH
    refine W.widen (k := 0) (n := 0) (Nat.le_of_ble_eq_true rfl) (Nat.le_of_ble_eq_true rfl) ?_
    refine lv_aload_n hx hb dX12_readAtom_17 rfl (lv_at hl 0 rfl) ?_
    refine tk_v hH hS hA (tr_V (n := 0) (As := []) hx hb hml hown hts hkb hH (ox_map hOX rfl) hks hE hS hA (s_M_next l D cs kf T (y4 :: O) ((y4, .inl (cs.2.1, 1302, .inl F14_2)) :: X) a0 hg mq o0 o1 o2 y3 y4 o5 y6 y7 y8 y9 y10 y11 y12 tl f3 t tn t_a0 b_hg t_y3 t_y4 (by omega) (by omega) (by omega) (by omega) (by omega) (by omega) (by omega) (by omega) (by omega) htm (by omega) (hO.sub (by decide))) kw_1344 kw_1346 ks_43 kw_13 kw_1347 (by decide +kernel) ⟨Nat.le_of_ble_eq_true rfl, Nat.le_of_ble_eq_true rfl⟩ (x_recv (ci := 12) hkb hH 0 rfl rfl) rfl rfl hl.1 (Nat.le_of_ble_eq_true rfl) dX12_readAtom_18 ⟨Nat.le_of_ble_eq_true rfl, Nat.le_of_ble_eq_true rfl⟩) (fun u H locs hz9 hH hS => ?_)
    obtain ⟨n18_0_6, n18_0_7, n18_0_9, n18_0_10, rfl, x_v180, x_v181, x_v182, x_v183, x_v184, x_v185, x_v186, x_v187⟩ := hz9
    have hH : HT D cs A T (a0 :: y3 :: y4 :: O) ((a0, .inr (12, o0 :: o1 :: o2 :: (.ref y3) :: (.ref y4) :: o5 :: (.int n18_0_6) :: (.int n18_0_7) :: (.int y8) :: (.int n18_0_9) :: (.int n18_0_10) :: (.int y11) :: (.int y12) :: tl)) :: (y3, .inl (cs.2.1, 900, .inl f3)) :: (y4, .inl (cs.2.1, 1302, .inl F14_2)) :: X) H := hH
    refine W.widen (k := 0) (n := 0) (Nat.le_of_ble_eq_true rfl) (Nat.le_of_ble_eq_true rfl) ?_
    refine lv_goto (tgt := 191) hx hb dX12_readAtom_21 (by decide) ?_
    exact te_v hx hb hr hlocks hH hS (⟨n18_0_6, n18_0_7, n18_0_9, n18_0_10, y11, y12, F14_2, rfl, s_F14_2, by omega, by omega, by omega, x_v183, by omega, by omega, (by first | (intro q; obtain ⟨c1, c2⟩ := x_v141 q; refine ⟨?_, ?_, ?_⟩ <;> omega)), (by first | (refine RG_nx ?_ x_v186 (fun _ _ => st_aV ?_) ((hms ?_).nx x_v187) <;> omega) | (refine RG_nx ?_ x_v646 (fun _ _ => st_aV ?_) ((hms ?_).nx x_v647) <;> omega) | (refine (RG_nx ?_ x_v727.1 (fun _ _ => st_aV ?_) x_v727.2.1) <;> omega) | (refine (RG_nx ?_ x_v907.1 (fun _ _ => st_aV ?_) x_v907.2.1) <;> omega) | (refine (RG_nx ?_ x_v1097.1 (fun _ _ => st_aV ?_) x_v1097.2.1) <;> omega) | (refine (RG_nx ?_ x_v1287.1 (fun _ _ => st_aV ?_) x_v1287.2.1) <;> omega) | (refine g169.seq (RG_nx ?_ x_v1727.1 (fun _ _ => st_xY ?_) x_v1727.2.1) <;> omega) | (exact g169.seq (RG_f (m := 2) (G := []) x_v1801 (RG.msw x_v1668) (by decide) (by decide) (fun q9 _ _ => st_xN (by have q8 := (RG.msw x_v1668 q9).2.2.2.1; omega)))) | (exact RG_f (m := 4) (G := []) x_v1559 hms (by decide) (by decide) (fun q9 _ _ => st_aD (by omega))) | (exact (RG_f (m := 2) (G := []) x_v1881 hms (by decide) (by decide) (fun q9 _ _ => st_aN (by have q8 := hq0 q9; omega) (by have q8 := hq0 q9; omega))))), (FKP.tr FKP.rf x_v142)⟩) dX12_readAtom_191
set_option maxHeartbeats 4000000 in
set_option maxRecDepth 100000 in
theorem s_M_readTerm3 (l : Launch) (D : va_G) (cs : CS) (kf : KF) (T : TF) (O : List Nat) (X : va_W) (a0 hg mq : Nat) (x1 : Int32) (o0 : Value) (o1 : Value) (o2 : Value) (y3 : Nat) (y4 : Nat) (o5 : Value) (y6 : Int32) (y7 : Int32) (y8 : Int32) (y9 : Int32) (y10 : Int32) (y11 : Int32) (y12 : Int32) (tl : List Value) (f3 : Nat → Int32) (f4 : Nat → Int32) (t : Tp) (tn : Nat) (t_a0 : T a0 = some (22, hg, mq)) (b_hg : hg < 90) (l_x1 : 3 ≤ x1.toInt) (u_x1 : x1.toInt ≤ 3) (t_y3 : T y3 = some (9, 900, 0)) (t_y4 : T y4 = some (8, 1302, 0)) (l_y6 : 0 ≤ y6.toInt) (u_y6 : y6.toInt ≤ 900) (l_y7 : 0 ≤ y7.toInt) (u_y7 : y7.toInt ≤ 900) (l_y8 : 0 ≤ y8.toInt) (u_y8 : y8.toInt ≤ 900) (l_y10 : 0 ≤ y10.toInt) (u_y10 : y10.toInt ≤ 999) (s_f4 : S8 f4) (hn : y8.toInt = (tn : Int)) (htm : TM f3 t) (k1 : y6.toInt ≤ y7.toInt) (k2 : y7.toInt ≤ y8.toInt) (k3 : TK3 y9 y6 y7) (k4 : SL y11 f4 y6) (hms : MSW t tn y11 y6 y7 y9 y10) (hO : okO T (a0 :: y3 :: y4 :: O) []) : TK l D cs kf yX12_readTerm cX12_readTerm 2 none { frames := 17, cells := 0, slots := 0, locals := 363 } [.ref a0, .int x1] T (a0 :: y3 :: y4 :: O) ((a0, .inr (12, o0 :: o1 :: o2 :: (.ref y3) :: (.ref y4) :: o5 :: (.int y6) :: (.int y7) :: (.int y8) :: (.int y9) :: (.int y10) :: (.int y11) :: (.int y12) :: tl)) :: (y3, .inl (cs.2.1, 900, .inl f3)) :: (y4, .inl (cs.2.1, 1302, .inl f4)) :: X) (Tv D cs (fun u => ∃ (n0_6 : Int32) (n0_7 : Int32) (n0_9 : Int32) (n0_10 : Int32) (n0_11 : Int32) (n0_12 : Int32) (G2 : Nat → Int32), u = (T, a0 :: y3 :: y4 :: O, (a0, .inr (12, o0 :: o1 :: o2 :: (.ref y3) :: (.ref y4) :: o5 :: (.int n0_6) :: (.int n0_7) :: (.int y8) :: (.int n0_9) :: (.int n0_10) :: (.int n0_11) :: (.int n0_12) :: tl)) :: (y3, .inl (cs.2.1, 900, .inl f3)) :: (y4, .inl (cs.2.1, 1302, .inl G2)) :: X) ∧ (S8 G2) ∧ (y6.toInt ≤ n0_6.toInt) ∧ (n0_6.toInt ≤ n0_7.toInt) ∧ (n0_7.toInt ≤ y8.toInt) ∧ (TK3 n0_9 n0_6 n0_7) ∧ (0 ≤ n0_10.toInt) ∧ (n0_10.toInt ≤ 999) ∧ (RD f4 G2 y6 n0_6 y11 n0_11) ∧ (RG t tn [(1, 3)] [] y11 y12 y6 n0_11 n0_12 n0_6 n0_7 n0_9 n0_10) ∧ (FKP f4 G2))) := by
  refine tk_of (by decide) (Nat.le_of_ble_eq_true rfl) (fun p e s m below meth c ls A H locs hx hb hr hml hown hts hlocks hnm hkb hH hS hA hOX hks hE hl => ?_)
  have hown : s.vm.findClass RX12 = some m.cls := hown
  have hl : lv_has ls 2 [(0, .ref a0), (1, .int x1)] := hl
  have hOXf := hOX
  have hd0 := dpt_nn s_f4
  have hq0 := fun q9 => (hms q9).2.2.2.1
  refine lv_aload_n hx hb dX12_readTerm_0 rfl (lv_at hl 0 rfl) ?_
  refine lv_iload_n hx hb dX12_readTerm_1 rfl (lv_at hl 1 rfl) ?_
  have J5 : ∀ (n : Nat) (f5_106 : Int32) (f5_107 : Int32) (f5_109 : Int32) (f5_110 : Int32) (f5_111 : Int32) (f5_112 : Int32) (g5_2 : Nat → Int32) (H : Heap) (locs : List Loc) (ls : Array Slot), (900 - f5_106.toInt).toNat = n → (S8 g5_2) → (0 ≤ f5_106.toInt) → (f5_106.toInt ≤ 900) → (0 ≤ f5_107.toInt) → (f5_107.toInt ≤ 900) → (0 ≤ f5_110.toInt) → (f5_110.toInt ≤ 999) → (f5_106.toInt ≤ f5_107.toInt) → (f5_107.toInt ≤ y8.toInt) → (TK3 f5_109 f5_106 f5_107) → (y6.toInt ≤ f5_106.toInt) → (RD f4 g5_2 y6 f5_106 y11 f5_111) → (RG t tn [(1, 3)] [(2, 3)] y11 y12 y6 f5_111 f5_112 f5_106 f5_107 f5_109 f5_110) → (FKP f4 g5_2) → HT D cs A T (a0 :: y3 :: y4 :: O) ((a0, .inr (12, o0 :: o1 :: o2 :: (.ref y3) :: (.ref y4) :: o5 :: (.int f5_106) :: (.int f5_107) :: (.int y8) :: (.int f5_109) :: (.int f5_110) :: (.int f5_111) :: (.int f5_112) :: tl)) :: (y3, .inl (cs.2.1, 900, .inl f3)) :: (y4, .inl (cs.2.1, 1302, .inl g5_2)) :: X) H → va_S A s.heap H locs → lv_has ls 2 [(0, .ref a0), (1, .int x1)] → W p l e { frames := 17, cells := 0, slots := 0, locals := 363 } s m [.ref a0, .int x1].toArray below meth c H locs 0 0 (MQ below (Tv D cs (fun u => ∃ (n0_6 : Int32) (n0_7 : Int32) (n0_9 : Int32) (n0_10 : Int32) (n0_11 : Int32) (n0_12 : Int32) (G2 : Nat → Int32), u = (T, a0 :: y3 :: y4 :: O, (a0, .inr (12, o0 :: o1 :: o2 :: (.ref y3) :: (.ref y4) :: o5 :: (.int n0_6) :: (.int n0_7) :: (.int y8) :: (.int n0_9) :: (.int n0_10) :: (.int n0_11) :: (.int n0_12) :: tl)) :: (y3, .inl (cs.2.1, 900, .inl f3)) :: (y4, .inl (cs.2.1, 1302, .inl G2)) :: X) ∧ (S8 G2) ∧ (y6.toInt ≤ n0_6.toInt) ∧ (n0_6.toInt ≤ n0_7.toInt) ∧ (n0_7.toInt ≤ y8.toInt) ∧ (TK3 n0_9 n0_6 n0_7) ∧ (0 ≤ n0_10.toInt) ∧ (n0_10.toInt ≤ 999) ∧ (RD f4 G2 y6 n0_6 y11 n0_11) ∧ (RG t tn [(1, 3)] [] y11 y12 y6 n0_11 n0_12 n0_6 n0_7 n0_9 n0_10) ∧ (FKP f4 G2)) A) [.ref a0, .int x1].toArray s 0 0 A) (F0 m 5 ls []) := by
    intro n
    induction n using Nat.strongRecOn with
    | _ n ih5 =>
      intro f5_106 f5_107 f5_109 f5_110 f5_111 f5_112 g5_2 H locs ls hm5 s_g5_2 l_f5_106 u_f5_106 l_f5_107 u_f5_107 l_f5_110 u_f5_110 ia5 ib5 ic5 id5 if5 ig5 ik5 hH hS hl
      refine lv_aload_n hx hb dX12_readTerm_5 rfl (lv_at hl 0 rfl) ?_
      refine lv_bipush (v := 34) hx hb dX12_readTerm_6 (by decide) ?_
      have z9_34 : (34 : Int32).toInt = 34 := by decide
      refine tk_i hH hS hA (tr_V (n := 1) (As := [.int 34]) hx hb hml hown hts hkb hH (ox_map hOX rfl) hks hE hS hA (s_M_eats l D cs kf T (y4 :: O) ((y4, .inl (cs.2.1, 1302, .inl g5_2)) :: X) a0 hg mq (34) o0 o1 o2 y3 y4 o5 f5_106 f5_107 y8 f5_109 f5_110 f5_111 f5_112 tl f3 t tn t_a0 b_hg t_y3 t_y4 (by omega) (by omega) (by omega) (by omega) (by omega) (by omega) (by omega) (by omega) (by omega) htm (by omega) (by omega) ic5 (by omega) (RG.msw ig5) (hO.sub (by decide))) kw_1390 kw_1392 ks_52 kw_13 kw_1393 (by decide +kernel) ⟨Nat.le_of_ble_eq_true rfl, Nat.le_of_ble_eq_true rfl⟩ (x_recv (ci := 12) hkb hH 0 rfl rfl) rfl rfl hl.1 (Nat.le_of_ble_eq_true rfl) dX12_readTerm_8 ⟨Nat.le_of_ble_eq_true rfl, Nat.le_of_ble_eq_true rfl⟩) (fun v8 u H locs hz9 hH hS => ?_)
      obtain ⟨n8_0_6, n8_0_7, n8_0_9, n8_0_10, rfl, l_v8, u_v8, x_v80, x_v81, x_v82, x_v83, x_v84, x_v85, x_v86, x_v87, x_v88⟩ := hz9
      have hH : HT D cs A T (a0 :: y3 :: y4 :: O) ((a0, .inr (12, o0 :: o1 :: o2 :: (.ref y3) :: (.ref y4) :: o5 :: (.int n8_0_6) :: (.int n8_0_7) :: (.int y8) :: (.int n8_0_9) :: (.int n8_0_10) :: (.int f5_111) :: (.int f5_112) :: tl)) :: (y3, .inl (cs.2.1, 900, .inl f3)) :: (y4, .inl (cs.2.1, 1302, .inl g5_2)) :: X) H := hH
      refine W.widen (k := 0) (n := 0) (Nat.le_of_ble_eq_true rfl) (Nat.le_of_ble_eq_true rfl) ?_
      refine lv_if_eq (tgt := 29) hx hb dX12_readTerm_11 (by decide) (fun c11 => ?_) (fun c11 => ?_)
      · skip
        have tc11 := f_eq (k := 0) (by decide) c11
        clear x_v86
        clear x_v87
        replace x_v88 := x_v88.resolve_left (fun q9 => q9 tc11)
        obtain ⟨e6, e7, e9, e10, x_v88⟩ := x_v88
        subst e6 e7 e9 e10
        exact te_v hx hb hr hlocks hH hS (⟨f5_106, f5_107, f5_109, f5_110, f5_111, f5_112, g5_2, rfl, s_g5_2, by omega, by omega, by omega, x_v83, by omega, by omega, (by first | exact if5 | (refine RD_le if5 ?_; omega) | (intro q; obtain ⟨c0, c1, c2⟩ := if5 q; refine ⟨?_, ?_, ?_⟩ <;> omega)), (by first | (exact ig5.seq (RG_id (fun q9 => ⟨RG.msw ig5 q9, fun _ _ => st_tN (by have q8 := (RG.msw ig5 q9).2.2.2.1; omega)⟩)))), ik5⟩) dX12_readTerm_29
      · skip
        have tc11 := f_ne (k := 0) (by decide) c11
        replace x_v86 := x_v86.resolve_left tc11
        replace x_v87 := x_v87.resolve_left tc11
        clear x_v88
        refine lv_aload_n hx hb dX12_readTerm_14 rfl (lv_at hl 0 rfl) ?_
        refine lv_iload_n hx hb dX12_readTerm_15 rfl (lv_at hl 1 rfl) ?_
        refine tk_v hH hS hA (tr_V (n := 1) (As := [.int x1]) hx hb hml hown hts hkb hH (ox_map hOX rfl) hks hE hS hA (s_M_readAtom3 l D cs kf T O X a0 hg mq x1 o0 o1 o2 y3 y4 o5 n8_0_6 n8_0_7 y8 n8_0_9 n8_0_10 f5_111 f5_112 tl f3 g5_2 t tn t_a0 b_hg (by omega) (by omega) t_y3 t_y4 (by omega) (by omega) (by omega) (by omega) (by omega) (by omega) (by omega) (by omega) s_g5_2 (by omega) htm (by omega) (by omega) x_v83 (by first | exact k4 | (refine RD_sl k4 if5 ?_; omega) | (intro _; omega)) (fun _ => x_v87.1) (hO.sub (by decide))) kw_1430 kw_1432 ks_62 kw_13 kw_1433 (by decide +kernel) ⟨Nat.le_of_ble_eq_true rfl, Nat.le_of_ble_eq_true rfl⟩ (x_recv (ci := 12) hkb hH 0 rfl rfl) rfl rfl hl.1 (Nat.le_of_ble_eq_true rfl) dX12_readTerm_16 ⟨Nat.le_of_ble_eq_true rfl, Nat.le_of_ble_eq_true rfl⟩) (fun u H locs hz9 hH hS => ?_)
        obtain ⟨n16_0_6, n16_0_7, n16_0_9, n16_0_10, n16_0_11, n16_0_12, F16_2, rfl, x_v160, x_v161, x_v162, x_v163, x_v164, x_v165, x_v166, x_v167, x_v168, x_v169⟩ := hz9
        have s_F16_2 := x_v160
        have hH : HT D cs A T (a0 :: y3 :: y4 :: O) ((a0, .inr (12, o0 :: o1 :: o2 :: (.ref y3) :: (.ref y4) :: o5 :: (.int n16_0_6) :: (.int n16_0_7) :: (.int y8) :: (.int n16_0_9) :: (.int n16_0_10) :: (.int n16_0_11) :: (.int n16_0_12) :: tl)) :: (y3, .inl (cs.2.1, 900, .inl f3)) :: (y4, .inl (cs.2.1, 1302, .inl F16_2)) :: X) H := hH
        refine W.widen (k := 0) (n := 0) (Nat.le_of_ble_eq_true rfl) (Nat.le_of_ble_eq_true rfl) ?_
        refine lv_aload_n hx hb dX12_readTerm_19 rfl (lv_at hl 0 rfl) ?_
        refine lv_sipush (v := 3002) hx hb dX12_readTerm_20 (by decide) ?_
        have z9_3002 : (3002 : Int32).toInt = 3002 := by decide
        refine tk_v hH hS hA (tr_V (n := 1) (As := [.int 3002]) hx hb hml hown hts hkb hH (ox_map hOX rfl) hks hE hS hA (s_M_codesO l D cs kf T O X a0 hg mq (3002) o0 o1 o2 y3 y4 o5 n16_0_6 n16_0_7 y8 n16_0_9 n16_0_10 n16_0_11 n16_0_12 tl f3 F16_2 t tn t_a0 b_hg (by decide) (by decide) t_y3 t_y4 (by omega) (by omega) (by omega) (by omega) (by omega) (by omega) (by omega) (by omega) s_F16_2 (by omega) htm (by first | (intro q; constructor <;> omega) | (intro q; obtain ⟨c0, c1, c2⟩ := if5 q; constructor <;> omega) | (intro q; obtain ⟨c0, c1, c2⟩ := x_v167 q; constructor <;> omega) | (refine RD_cp k4 hd0 if5 ?_ x_v167 ?_ <;> omega) | (refine RD_cp k4 hd0 x_v167 ?_ if5 ?_ <;> omega)) (hO.sub (by decide))) kw_1418 kw_1420 ks_59 kw_13 kw_1421 (by decide +kernel) ⟨Nat.le_of_ble_eq_true rfl, Nat.le_of_ble_eq_true rfl⟩ (x_recv (ci := 12) hkb hH 0 rfl rfl) rfl rfl hl.1 (Nat.le_of_ble_eq_true rfl) dX12_readTerm_23 ⟨Nat.le_of_ble_eq_true rfl, Nat.le_of_ble_eq_true rfl⟩) (fun u H locs hz9 hH hS => ?_)
        obtain ⟨F23_2, rfl, x_v230, x_v231, x_v232⟩ := hz9
        have s_F23_2 := x_v230
        have hH : HT D cs A T (a0 :: y3 :: y4 :: O) ((a0, .inr (12, o0 :: o1 :: o2 :: (.ref y3) :: (.ref y4) :: o5 :: (.int n16_0_6) :: (.int n16_0_7) :: (.int y8) :: (.int n16_0_9) :: (.int n16_0_10) :: (.int n16_0_11) :: (.int n16_0_12) :: tl)) :: (y3, .inl (cs.2.1, 900, .inl f3)) :: (y4, .inl (cs.2.1, 1302, .inl F23_2)) :: X) H := hH
        refine W.widen (k := 0) (n := 0) (Nat.le_of_ble_eq_true rfl) (Nat.le_of_ble_eq_true rfl) ?_
        refine lv_goto (tgt := 5) hx hb dX12_readTerm_26 (by decide) ?_
        exact ih5 _ (by omega) n16_0_6 n16_0_7 n16_0_9 n16_0_10 n16_0_11 n16_0_12 F23_2 _ _ _ rfl s_F23_2 (by omega) (by omega) (by omega) (by omega) (by omega) (by omega) (by omega) (by omega) x_v164 (by omega) (by first | (refine RD_op if5 ?_ x_v167 x_v231; omega) | (refine RD_op x_v167 ?_ if5 x_v231; omega) | exact if5 | exact x_v167 | (refine RD_le if5 ?_; omega) | (refine RD_le x_v167 ?_; omega) | (intro q; obtain ⟨c1, c2⟩ := x_v231 q; refine ⟨?_, ?_, ?_⟩ <;> omega) | (intro q; obtain ⟨c0, c1, c2⟩ := x_v167 q; refine ⟨?_, ?_, ?_⟩ <;> omega) | (intro q; obtain ⟨c0, c1, c2⟩ := x_v167 q; obtain ⟨d1, d2⟩ := x_v231 q; refine ⟨?_, ?_, ?_⟩ <;> omega)) (by first | exact (RG.seq (F' := [(0, 3), (2, 3)]) (RG_id (fun q9 => ⟨hms q9, fun _ _ => st_t⟩)) (RG.cons x_v28)) | (refine RG.seq ig5 (RG.seq (F' := [(0, 3), (2, 3)]) (RG_nx ?_ x_v87.1 (fun _ _ => st_tY ?_) x_v87.2.1) (RG.cons x_v168)) <;> omega)) (FKP.tr (FKP.tr ik5 x_v169) x_v232) hH hS (lv_sub hl [0, 1] rfl)
  refine tk_v hH hS hA (tr_V (n := 1) (As := [.int x1]) hx hb hml hown hts hkb hH (ox_map hOX rfl) hks hE hS hA (s_M_readAtom3 l D cs kf T O X a0 hg mq x1 o0 o1 o2 y3 y4 o5 y6 y7 y8 y9 y10 y11 y12 tl f3 f4 t tn t_a0 b_hg (by omega) (by omega) t_y3 t_y4 (by omega) (by omega) (by omega) (by omega) (by omega) (by omega) (by omega) (by omega) s_f4 (by omega) htm (by omega) (by omega) k3 (by first | exact k4 | (intro _; omega)) hms (hO.sub (by decide))) kw_1430 kw_1432 ks_62 kw_13 kw_1433 (by decide +kernel) ⟨Nat.le_of_ble_eq_true rfl, Nat.le_of_ble_eq_true rfl⟩ (x_recv (ci := 12) hkb hH 0 rfl rfl) rfl rfl hl.1 (Nat.le_of_ble_eq_true rfl) dX12_readTerm_2 ⟨Nat.le_of_ble_eq_true rfl, Nat.le_of_ble_eq_true rfl⟩) (fun u H locs hz9 hH hS => ?_)
  obtain ⟨n2_0_6, n2_0_7, n2_0_9, n2_0_10, n2_0_11, n2_0_12, F2_2, rfl, x_v20, x_v21, x_v22, x_v23, x_v24, x_v25, x_v26, x_v27, x_v28, x_v29⟩ := hz9
  have s_F2_2 := x_v20
  have hH : HT D cs A T (a0 :: y3 :: y4 :: O) ((a0, .inr (12, o0 :: o1 :: o2 :: (.ref y3) :: (.ref y4) :: o5 :: (.int n2_0_6) :: (.int n2_0_7) :: (.int y8) :: (.int n2_0_9) :: (.int n2_0_10) :: (.int n2_0_11) :: (.int n2_0_12) :: tl)) :: (y3, .inl (cs.2.1, 900, .inl f3)) :: (y4, .inl (cs.2.1, 1302, .inl F2_2)) :: X) H := hH
  refine W.widen (k := 0) (n := 0) (Nat.le_of_ble_eq_true rfl) (Nat.le_of_ble_eq_true rfl) ?_
  exact J5 _ n2_0_6 n2_0_7 n2_0_9 n2_0_10 n2_0_11 n2_0_12 F2_2 _ _ _ rfl s_F2_2 (by omega) (by omega) (by omega) (by omega) (by omega) (by omega) (by omega) (by omega) x_v24 (by omega) (by first | exact x_v27 | (refine RD_le x_v27 ?_; omega) | (intro q; obtain ⟨c0, c1, c2⟩ := x_v27 q; refine ⟨?_, ?_, ?_⟩ <;> omega)) (by first | exact (RG.seq (F' := [(0, 3), (2, 3)]) (RG_id (fun q9 => ⟨hms q9, fun _ _ => st_t⟩)) (RG.cons x_v28)) | (refine RG.seq ig5 (RG.seq (F' := [(0, 3), (2, 3)]) (RG_nx ?_ x_v87.1 (fun _ _ => st_tY ?_) x_v87.2.1) (RG.cons x_v168)) <;> omega)) (FKP.tr FKP.rf x_v29) hH hS (lv_sub hl [0, 1] rfl)
set_option maxHeartbeats 4000000 in
set_option maxRecDepth 100000 in
theorem s_M_readSum3 (l : Launch) (D : va_G) (cs : CS) (kf : KF) (T : TF) (O : List Nat) (X : va_W) (a0 hg mq : Nat) (x1 : Int32) (o0 : Value) (o1 : Value) (o2 : Value) (y3 : Nat) (y4 : Nat) (o5 : Value) (y6 : Int32) (y7 : Int32) (y8 : Int32) (y9 : Int32) (y10 : Int32) (y11 : Int32) (y12 : Int32) (tl : List Value) (f3 : Nat → Int32) (f4 : Nat → Int32) (t : Tp) (tn : Nat) (t_a0 : T a0 = some (22, hg, mq)) (b_hg : hg < 90) (l_x1 : 3 ≤ x1.toInt) (u_x1 : x1.toInt ≤ 3) (t_y3 : T y3 = some (9, 900, 0)) (t_y4 : T y4 = some (8, 1302, 0)) (l_y6 : 0 ≤ y6.toInt) (u_y6 : y6.toInt ≤ 900) (l_y7 : 0 ≤ y7.toInt) (u_y7 : y7.toInt ≤ 900) (l_y8 : 0 ≤ y8.toInt) (u_y8 : y8.toInt ≤ 900) (l_y10 : 0 ≤ y10.toInt) (u_y10 : y10.toInt ≤ 999) (s_f4 : S8 f4) (hn : y8.toInt = (tn : Int)) (htm : TM f3 t) (k1 : y6.toInt ≤ y7.toInt) (k2 : y7.toInt ≤ y8.toInt) (k3 : TK3 y9 y6 y7) (k4 : SL y11 f4 y6) (hms : MSW t tn y11 y6 y7 y9 y10) (hO : okO T (a0 :: y3 :: y4 :: O) []) : TK l D cs kf yX12_readSum cX12_readSum 3 none { frames := 18, cells := 0, slots := 0, locals := 384 } [.ref a0, .int x1] T (a0 :: y3 :: y4 :: O) ((a0, .inr (12, o0 :: o1 :: o2 :: (.ref y3) :: (.ref y4) :: o5 :: (.int y6) :: (.int y7) :: (.int y8) :: (.int y9) :: (.int y10) :: (.int y11) :: (.int y12) :: tl)) :: (y3, .inl (cs.2.1, 900, .inl f3)) :: (y4, .inl (cs.2.1, 1302, .inl f4)) :: X) (Tv D cs (fun u => ∃ (n0_6 : Int32) (n0_7 : Int32) (n0_9 : Int32) (n0_10 : Int32) (n0_11 : Int32) (n0_12 : Int32) (G2 : Nat → Int32), u = (T, a0 :: y3 :: y4 :: O, (a0, .inr (12, o0 :: o1 :: o2 :: (.ref y3) :: (.ref y4) :: o5 :: (.int n0_6) :: (.int n0_7) :: (.int y8) :: (.int n0_9) :: (.int n0_10) :: (.int n0_11) :: (.int n0_12) :: tl)) :: (y3, .inl (cs.2.1, 900, .inl f3)) :: (y4, .inl (cs.2.1, 1302, .inl G2)) :: X) ∧ (S8 G2) ∧ (y6.toInt ≤ n0_6.toInt) ∧ (n0_6.toInt ≤ n0_7.toInt) ∧ (n0_7.toInt ≤ y8.toInt) ∧ (TK3 n0_9 n0_6 n0_7) ∧ (0 ≤ n0_10.toInt) ∧ (n0_10.toInt ≤ 999) ∧ (RD f4 G2 y6 n0_6 y11 n0_11) ∧ (RG t tn [(3, 3)] [] y11 y12 y6 n0_11 n0_12 n0_6 n0_7 n0_9 n0_10) ∧ (FKP f4 G2))) := by
  refine tk_of (by decide) (Nat.le_of_ble_eq_true rfl) (fun p e s m below meth c ls A H locs hx hb hr hml hown hts hlocks hnm hkb hH hS hA hOX hks hE hl => ?_)
  have hown : s.vm.findClass RX12 = some m.cls := hown
  have hl : lv_has ls 3 [(0, .ref a0), (1, .int x1)] := hl
  have hOXf := hOX
  have hd0 := dpt_nn s_f4
  have hq0 := fun q9 => (hms q9).2.2.2.1
  refine lv_aload_n hx hb dX12_readSum_0 rfl (lv_at hl 0 rfl) ?_
  refine lv_iload_n hx hb dX12_readSum_1 rfl (lv_at hl 1 rfl) ?_
  have J5 : ∀ (n : Nat) (f5_106 : Int32) (f5_107 : Int32) (f5_109 : Int32) (f5_110 : Int32) (f5_111 : Int32) (f5_112 : Int32) (g5_2 : Nat → Int32) (H : Heap) (locs : List Loc) (ls : Array Slot), (900 - f5_106.toInt).toNat = n → (S8 g5_2) → (0 ≤ f5_106.toInt) → (f5_106.toInt ≤ 900) → (0 ≤ f5_107.toInt) → (f5_107.toInt ≤ 900) → (0 ≤ f5_110.toInt) → (f5_110.toInt ≤ 999) → (f5_106.toInt ≤ f5_107.toInt) → (f5_107.toInt ≤ y8.toInt) → (TK3 f5_109 f5_106 f5_107) → (y6.toInt ≤ f5_106.toInt) → (RD f4 g5_2 y6 f5_106 y11 f5_111) → (RG t tn [(3, 3)] [(4, 3)] y11 y12 y6 f5_111 f5_112 f5_106 f5_107 f5_109 f5_110) → (FKP f4 g5_2) → HT D cs A T (a0 :: y3 :: y4 :: O) ((a0, .inr (12, o0 :: o1 :: o2 :: (.ref y3) :: (.ref y4) :: o5 :: (.int f5_106) :: (.int f5_107) :: (.int y8) :: (.int f5_109) :: (.int f5_110) :: (.int f5_111) :: (.int f5_112) :: tl)) :: (y3, .inl (cs.2.1, 900, .inl f3)) :: (y4, .inl (cs.2.1, 1302, .inl g5_2)) :: X) H → va_S A s.heap H locs → lv_has ls 3 [(0, .ref a0), (1, .int x1)] → W p l e { frames := 18, cells := 0, slots := 0, locals := 384 } s m [.ref a0, .int x1].toArray below meth c H locs 0 0 (MQ below (Tv D cs (fun u => ∃ (n0_6 : Int32) (n0_7 : Int32) (n0_9 : Int32) (n0_10 : Int32) (n0_11 : Int32) (n0_12 : Int32) (G2 : Nat → Int32), u = (T, a0 :: y3 :: y4 :: O, (a0, .inr (12, o0 :: o1 :: o2 :: (.ref y3) :: (.ref y4) :: o5 :: (.int n0_6) :: (.int n0_7) :: (.int y8) :: (.int n0_9) :: (.int n0_10) :: (.int n0_11) :: (.int n0_12) :: tl)) :: (y3, .inl (cs.2.1, 900, .inl f3)) :: (y4, .inl (cs.2.1, 1302, .inl G2)) :: X) ∧ (S8 G2) ∧ (y6.toInt ≤ n0_6.toInt) ∧ (n0_6.toInt ≤ n0_7.toInt) ∧ (n0_7.toInt ≤ y8.toInt) ∧ (TK3 n0_9 n0_6 n0_7) ∧ (0 ≤ n0_10.toInt) ∧ (n0_10.toInt ≤ 999) ∧ (RD f4 G2 y6 n0_6 y11 n0_11) ∧ (RG t tn [(3, 3)] [] y11 y12 y6 n0_11 n0_12 n0_6 n0_7 n0_9 n0_10) ∧ (FKP f4 G2)) A) [.ref a0, .int x1].toArray s 0 0 A) (F0 m 5 ls []) := by
    intro n
    induction n using Nat.strongRecOn with
    | _ n ih5 =>
      intro f5_106 f5_107 f5_109 f5_110 f5_111 f5_112 g5_2 H locs ls hm5 s_g5_2 l_f5_106 u_f5_106 l_f5_107 u_f5_107 l_f5_110 u_f5_110 ia5 ib5 ic5 id5 if5 ig5 ik5 hH hS hl
      refine lv_aload_n hx hb dX12_readSum_5 rfl (lv_at hl 0 rfl) ?_
      refine lv_bipush (v := 32) hx hb dX12_readSum_6 (by decide) ?_
      have z9_32 : (32 : Int32).toInt = 32 := by decide
      refine tk_i hH hS hA (tr_V (n := 1) (As := [.int 32]) hx hb hml hown hts hkb hH (ox_map hOX rfl) hks hE hS hA (s_M_is l D cs kf T (y4 :: O) ((y4, .inl (cs.2.1, 1302, .inl g5_2)) :: X) a0 hg mq (32) o0 o1 o2 y3 y4 o5 f5_106 f5_107 y8 f5_109 f5_110 f5_111 f5_112 tl f3 t tn t_a0 b_hg t_y3 t_y4 (by omega) (by omega) (by omega) (by omega) (by omega) (by omega) (by omega) (by omega) (by omega) htm (hO.sub (by decide))) kw_1370 kw_1372 ks_47 kw_13 kw_1373 (by decide +kernel) ⟨Nat.le_of_ble_eq_true rfl, Nat.le_of_ble_eq_true rfl⟩ (x_recv (ci := 12) hkb hH 0 rfl rfl) rfl rfl hl.1 (Nat.le_of_ble_eq_true rfl) dX12_readSum_8 ⟨Nat.le_of_ble_eq_true rfl, Nat.le_of_ble_eq_true rfl⟩) (fun v8 u H locs hz9 hH hS => ?_)
      obtain ⟨rfl, l_v8, u_v8, x_v80, x_v81⟩ := hz9
      have hH : HT D cs A T (a0 :: y3 :: y4 :: O) ((a0, .inr (12, o0 :: o1 :: o2 :: (.ref y3) :: (.ref y4) :: o5 :: (.int f5_106) :: (.int f5_107) :: (.int y8) :: (.int f5_109) :: (.int f5_110) :: (.int f5_111) :: (.int f5_112) :: tl)) :: (y3, .inl (cs.2.1, 900, .inl f3)) :: (y4, .inl (cs.2.1, 1302, .inl g5_2)) :: X) H := hH
      refine W.widen (k := 0) (n := 0) (Nat.le_of_ble_eq_true rfl) (Nat.le_of_ble_eq_true rfl) ?_
      refine lv_if_ne (tgt := 23) hx hb dX12_readSum_11 (by decide) (fun c11 => ?_) (fun c11 => ?_)
      · skip
        have tc11 := f_ne (k := 0) (by decide) c11
        replace x_v80 := x_v80.resolve_left tc11
        clear x_v81
        refine lv_aload_n hx hb dX12_readSum_23 rfl (lv_at hl 0 rfl) ?_
        refine x_getk (ci := 12) (C := RX12) (F := TX12) (N := 36) (v := .int f5_109) hx hb hts uX12 hown hkb hH 0 rfl rfl 9 (by decide) rfl kw_1232 (fun _ h9 => h9) dX12_readSum_24 ?_
        refine lv_bipush (v := 32) hx hb dX12_readSum_27 (by decide) ?_
        refine lv_icmp_ne (tgt := 38) hx hb dX12_readSum_29 (by decide) (fun c29 => ?_) (fun c29 => ?_)
        · skip
          have tc29 := f_ne (k := 32) (by decide) c29
          refine lv_sipush (v := 3001) hx hb dX12_readSum_38 (by decide) ?_
          refine lv_istore_n (lv' := [(2, .int 3001), (0, .ref a0), (1, .int x1)]) hx hb dX12_readSum_41 rfl hl (by decide) rfl (fun ls hl => ?_)
          have hk5 := ic5 (by omega)
          refine lv_aload_n hx hb dX12_readSum_42 rfl (lv_at hl 1 rfl) ?_
          refine tk_v hH hS hA (tr_V (n := 0) (As := []) hx hb hml hown hts hkb hH (ox_map hOX rfl) hks hE hS hA (s_M_next l D cs kf T (y4 :: O) ((y4, .inl (cs.2.1, 1302, .inl g5_2)) :: X) a0 hg mq o0 o1 o2 y3 y4 o5 f5_106 f5_107 y8 f5_109 f5_110 f5_111 f5_112 tl f3 t tn t_a0 b_hg t_y3 t_y4 (by omega) (by omega) (by omega) (by omega) (by omega) (by omega) (by omega) (by omega) (by omega) htm (by omega) (hO.sub (by decide))) kw_1344 kw_1346 ks_43 kw_13 kw_1347 (by decide +kernel) ⟨Nat.le_of_ble_eq_true rfl, Nat.le_of_ble_eq_true rfl⟩ (x_recv (ci := 12) hkb hH 0 rfl rfl) rfl rfl hl.1 (Nat.le_of_ble_eq_true rfl) dX12_readSum_43 ⟨Nat.le_of_ble_eq_true rfl, Nat.le_of_ble_eq_true rfl⟩) (fun u H locs hz9 hH hS => ?_)
          obtain ⟨n43_0_6, n43_0_7, n43_0_9, n43_0_10, rfl, x_v430, x_v431, x_v432, x_v433, x_v434, x_v435, x_v436, x_v437⟩ := hz9
          have hH : HT D cs A T (a0 :: y3 :: y4 :: O) ((a0, .inr (12, o0 :: o1 :: o2 :: (.ref y3) :: (.ref y4) :: o5 :: (.int n43_0_6) :: (.int n43_0_7) :: (.int y8) :: (.int n43_0_9) :: (.int n43_0_10) :: (.int f5_111) :: (.int f5_112) :: tl)) :: (y3, .inl (cs.2.1, 900, .inl f3)) :: (y4, .inl (cs.2.1, 1302, .inl g5_2)) :: X) H := hH
          refine W.widen (k := 0) (n := 0) (Nat.le_of_ble_eq_true rfl) (Nat.le_of_ble_eq_true rfl) ?_
          refine lv_aload_n hx hb dX12_readSum_46 rfl (lv_at hl 1 rfl) ?_
          refine lv_iload_n hx hb dX12_readSum_47 rfl (lv_at hl 2 rfl) ?_
          refine tk_v hH hS hA (tr_V (n := 1) (As := [.int x1]) hx hb hml hown hts hkb hH (ox_map hOX rfl) hks hE hS hA (s_M_readTerm3 l D cs kf T O X a0 hg mq x1 o0 o1 o2 y3 y4 o5 n43_0_6 n43_0_7 y8 n43_0_9 n43_0_10 f5_111 f5_112 tl f3 g5_2 t tn t_a0 b_hg (by omega) (by omega) t_y3 t_y4 (by omega) (by omega) (by omega) (by omega) (by omega) (by omega) (by omega) (by omega) s_g5_2 (by omega) htm (by omega) (by omega) x_v433 (by first | exact k4 | (refine RD_sl k4 if5 ?_; omega) | (intro _; omega)) (fun _ => x_v436) (hO.sub (by decide))) kw_1426 kw_1428 ks_61 kw_13 kw_1429 (by decide +kernel) ⟨Nat.le_of_ble_eq_true rfl, Nat.le_of_ble_eq_true rfl⟩ (x_recv (ci := 12) hkb hH 0 rfl rfl) rfl rfl hl.1 (Nat.le_of_ble_eq_true rfl) dX12_readSum_48 ⟨Nat.le_of_ble_eq_true rfl, Nat.le_of_ble_eq_true rfl⟩) (fun u H locs hz9 hH hS => ?_)
          obtain ⟨n48_0_6, n48_0_7, n48_0_9, n48_0_10, n48_0_11, n48_0_12, F48_2, rfl, x_v480, x_v481, x_v482, x_v483, x_v484, x_v485, x_v486, x_v487, x_v488, x_v489⟩ := hz9
          have s_F48_2 := x_v480
          have hH : HT D cs A T (a0 :: y3 :: y4 :: O) ((a0, .inr (12, o0 :: o1 :: o2 :: (.ref y3) :: (.ref y4) :: o5 :: (.int n48_0_6) :: (.int n48_0_7) :: (.int y8) :: (.int n48_0_9) :: (.int n48_0_10) :: (.int n48_0_11) :: (.int n48_0_12) :: tl)) :: (y3, .inl (cs.2.1, 900, .inl f3)) :: (y4, .inl (cs.2.1, 1302, .inl F48_2)) :: X) H := hH
          refine W.widen (k := 0) (n := 0) (Nat.le_of_ble_eq_true rfl) (Nat.le_of_ble_eq_true rfl) ?_
          refine lv_aload_n hx hb dX12_readSum_51 rfl (lv_at hl 1 rfl) ?_
          refine lv_iload_n hx hb dX12_readSum_52 rfl (lv_at hl 0 rfl) ?_
          have z9_3001 : (3001 : Int32).toInt = 3001 := by decide
          refine tk_v hH hS hA (tr_V (n := 1) (As := [.int 3001]) hx hb hml hown hts hkb hH (ox_map hOX rfl) hks hE hS hA (s_M_codesO l D cs kf T O X a0 hg mq (3001) o0 o1 o2 y3 y4 o5 n48_0_6 n48_0_7 y8 n48_0_9 n48_0_10 n48_0_11 n48_0_12 tl f3 F48_2 t tn t_a0 b_hg (by decide) (by decide) t_y3 t_y4 (by omega) (by omega) (by omega) (by omega) (by omega) (by omega) (by omega) (by omega) s_F48_2 (by omega) htm (by first | (intro q; constructor <;> omega) | (intro q; obtain ⟨c0, c1, c2⟩ := if5 q; constructor <;> omega) | (intro q; obtain ⟨c0, c1, c2⟩ := x_v487 q; constructor <;> omega) | (refine RD_cp k4 hd0 if5 ?_ x_v487 ?_ <;> omega) | (refine RD_cp k4 hd0 x_v487 ?_ if5 ?_ <;> omega)) (hO.sub (by decide))) kw_1418 kw_1420 ks_59 kw_13 kw_1421 (by decide +kernel) ⟨Nat.le_of_ble_eq_true rfl, Nat.le_of_ble_eq_true rfl⟩ (x_recv (ci := 12) hkb hH 0 rfl rfl) rfl rfl hl.1 (Nat.le_of_ble_eq_true rfl) dX12_readSum_53 ⟨Nat.le_of_ble_eq_true rfl, Nat.le_of_ble_eq_true rfl⟩) (fun u H locs hz9 hH hS => ?_)
          obtain ⟨F53_2, rfl, x_v530, x_v531, x_v532⟩ := hz9
          have s_F53_2 := x_v530
          have hH : HT D cs A T (a0 :: y3 :: y4 :: O) ((a0, .inr (12, o0 :: o1 :: o2 :: (.ref y3) :: (.ref y4) :: o5 :: (.int n48_0_6) :: (.int n48_0_7) :: (.int y8) :: (.int n48_0_9) :: (.int n48_0_10) :: (.int n48_0_11) :: (.int n48_0_12) :: tl)) :: (y3, .inl (cs.2.1, 900, .inl f3)) :: (y4, .inl (cs.2.1, 1302, .inl F53_2)) :: X) H := hH
          refine W.widen (k := 0) (n := 0) (Nat.le_of_ble_eq_true rfl) (Nat.le_of_ble_eq_true rfl) ?_
          refine lv_goto (tgt := 5) hx hb dX12_readSum_56 (by decide) ?_
          exact ih5 _ (by omega) n48_0_6 n48_0_7 n48_0_9 n48_0_10 n48_0_11 n48_0_12 F53_2 _ _ _ rfl s_F53_2 (by omega) (by omega) (by omega) (by omega) (by omega) (by omega) (by omega) (by omega) x_v484 (by omega) (by first | (refine RD_op if5 ?_ x_v487 x_v531; omega) | (refine RD_op x_v487 ?_ if5 x_v531; omega) | exact if5 | exact x_v487 | (refine RD_le if5 ?_; omega) | (refine RD_le x_v487 ?_; omega) | (intro q; obtain ⟨c1, c2⟩ := x_v531 q; refine ⟨?_, ?_, ?_⟩ <;> omega) | (intro q; obtain ⟨c0, c1, c2⟩ := x_v487 q; refine ⟨?_, ?_, ?_⟩ <;> omega) | (intro q; obtain ⟨c0, c1, c2⟩ := x_v487 q; obtain ⟨d1, d2⟩ := x_v531 q; refine ⟨?_, ?_, ?_⟩ <;> omega)) (by first | exact (RG.seq (F' := [(1, 3), (4, 3)]) (RG_id (fun q9 => ⟨hms q9, fun _ _ => st_s⟩)) (RG.cons x_v28)) | (refine RG.seq ig5 (RG.seq (F' := [(1, 3), (4, 3)]) (RG_nx ?_ x_v436 (fun _ _ => st_sY ?_) ((RG.msw ig5 ?_).nx x_v437)) (RG.cons x_v488)); omega; (have q8 := (RG.msw ig5 (by omega)).2.2.2.1; omega); omega)) (FKP.tr (FKP.tr ik5 x_v489) x_v532) hH hS (lv_sub hl [1, 2] rfl)
        · skip
          have tc29 := f_eq (k := 32) (by decide) c29
          refine lv_sipush (v := 3000) hx hb dX12_readSum_32 (by decide) ?_
          refine lv_goto (tgt := 41) hx hb dX12_readSum_35 (by decide) ?_
          refine lv_istore_n (lv' := [(2, .int 3000), (0, .ref a0), (1, .int x1)]) hx hb dX12_readSum_41 rfl hl (by decide) rfl (fun ls hl => ?_)
          have hk5 := ic5 (by omega)
          refine lv_aload_n hx hb dX12_readSum_42 rfl (lv_at hl 1 rfl) ?_
          refine tk_v hH hS hA (tr_V (n := 0) (As := []) hx hb hml hown hts hkb hH (ox_map hOX rfl) hks hE hS hA (s_M_next l D cs kf T (y4 :: O) ((y4, .inl (cs.2.1, 1302, .inl g5_2)) :: X) a0 hg mq o0 o1 o2 y3 y4 o5 f5_106 f5_107 y8 f5_109 f5_110 f5_111 f5_112 tl f3 t tn t_a0 b_hg t_y3 t_y4 (by omega) (by omega) (by omega) (by omega) (by omega) (by omega) (by omega) (by omega) (by omega) htm (by omega) (hO.sub (by decide))) kw_1344 kw_1346 ks_43 kw_13 kw_1347 (by decide +kernel) ⟨Nat.le_of_ble_eq_true rfl, Nat.le_of_ble_eq_true rfl⟩ (x_recv (ci := 12) hkb hH 0 rfl rfl) rfl rfl hl.1 (Nat.le_of_ble_eq_true rfl) dX12_readSum_43 ⟨Nat.le_of_ble_eq_true rfl, Nat.le_of_ble_eq_true rfl⟩) (fun u H locs hz9 hH hS => ?_)
          obtain ⟨n43_0_6, n43_0_7, n43_0_9, n43_0_10, rfl, x_v430, x_v431, x_v432, x_v433, x_v434, x_v435, x_v436, x_v437⟩ := hz9
          have hH : HT D cs A T (a0 :: y3 :: y4 :: O) ((a0, .inr (12, o0 :: o1 :: o2 :: (.ref y3) :: (.ref y4) :: o5 :: (.int n43_0_6) :: (.int n43_0_7) :: (.int y8) :: (.int n43_0_9) :: (.int n43_0_10) :: (.int f5_111) :: (.int f5_112) :: tl)) :: (y3, .inl (cs.2.1, 900, .inl f3)) :: (y4, .inl (cs.2.1, 1302, .inl g5_2)) :: X) H := hH
          refine W.widen (k := 0) (n := 0) (Nat.le_of_ble_eq_true rfl) (Nat.le_of_ble_eq_true rfl) ?_
          refine lv_aload_n hx hb dX12_readSum_46 rfl (lv_at hl 1 rfl) ?_
          refine lv_iload_n hx hb dX12_readSum_47 rfl (lv_at hl 2 rfl) ?_
          refine tk_v hH hS hA (tr_V (n := 1) (As := [.int x1]) hx hb hml hown hts hkb hH (ox_map hOX rfl) hks hE hS hA (s_M_readTerm3 l D cs kf T O X a0 hg mq x1 o0 o1 o2 y3 y4 o5 n43_0_6 n43_0_7 y8 n43_0_9 n43_0_10 f5_111 f5_112 tl f3 g5_2 t tn t_a0 b_hg (by omega) (by omega) t_y3 t_y4 (by omega) (by omega) (by omega) (by omega) (by omega) (by omega) (by omega) (by omega) s_g5_2 (by omega) htm (by omega) (by omega) x_v433 (by first | exact k4 | (refine RD_sl k4 if5 ?_; omega) | (intro _; omega)) (fun _ => x_v436) (hO.sub (by decide))) kw_1426 kw_1428 ks_61 kw_13 kw_1429 (by decide +kernel) ⟨Nat.le_of_ble_eq_true rfl, Nat.le_of_ble_eq_true rfl⟩ (x_recv (ci := 12) hkb hH 0 rfl rfl) rfl rfl hl.1 (Nat.le_of_ble_eq_true rfl) dX12_readSum_48 ⟨Nat.le_of_ble_eq_true rfl, Nat.le_of_ble_eq_true rfl⟩) (fun u H locs hz9 hH hS => ?_)
          obtain ⟨n48_0_6, n48_0_7, n48_0_9, n48_0_10, n48_0_11, n48_0_12, F48_2, rfl, x_v480, x_v481, x_v482, x_v483, x_v484, x_v485, x_v486, x_v487, x_v488, x_v489⟩ := hz9
          have s_F48_2 := x_v480
          have hH : HT D cs A T (a0 :: y3 :: y4 :: O) ((a0, .inr (12, o0 :: o1 :: o2 :: (.ref y3) :: (.ref y4) :: o5 :: (.int n48_0_6) :: (.int n48_0_7) :: (.int y8) :: (.int n48_0_9) :: (.int n48_0_10) :: (.int n48_0_11) :: (.int n48_0_12) :: tl)) :: (y3, .inl (cs.2.1, 900, .inl f3)) :: (y4, .inl (cs.2.1, 1302, .inl F48_2)) :: X) H := hH
          refine W.widen (k := 0) (n := 0) (Nat.le_of_ble_eq_true rfl) (Nat.le_of_ble_eq_true rfl) ?_
          refine lv_aload_n hx hb dX12_readSum_51 rfl (lv_at hl 1 rfl) ?_
          refine lv_iload_n hx hb dX12_readSum_52 rfl (lv_at hl 0 rfl) ?_
          have z9_3000 : (3000 : Int32).toInt = 3000 := by decide
          refine tk_v hH hS hA (tr_V (n := 1) (As := [.int 3000]) hx hb hml hown hts hkb hH (ox_map hOX rfl) hks hE hS hA (s_M_codesO l D cs kf T O X a0 hg mq (3000) o0 o1 o2 y3 y4 o5 n48_0_6 n48_0_7 y8 n48_0_9 n48_0_10 n48_0_11 n48_0_12 tl f3 F48_2 t tn t_a0 b_hg (by decide) (by decide) t_y3 t_y4 (by omega) (by omega) (by omega) (by omega) (by omega) (by omega) (by omega) (by omega) s_F48_2 (by omega) htm (by first | (intro q; constructor <;> omega) | (intro q; obtain ⟨c0, c1, c2⟩ := if5 q; constructor <;> omega) | (intro q; obtain ⟨c0, c1, c2⟩ := x_v487 q; constructor <;> omega) | (refine RD_cp k4 hd0 if5 ?_ x_v487 ?_ <;> omega) | (refine RD_cp k4 hd0 x_v487 ?_ if5 ?_ <;> omega)) (hO.sub (by decide))) kw_1418 kw_1420 ks_59 kw_13 kw_1421 (by decide +kernel) ⟨Nat.le_of_ble_eq_true rfl, Nat.le_of_ble_eq_true rfl⟩ (x_recv (ci := 12) hkb hH 0 rfl rfl) rfl rfl hl.1 (Nat.le_of_ble_eq_true rfl) dX12_readSum_53 ⟨Nat.le_of_ble_eq_true rfl, Nat.le_of_ble_eq_true rfl⟩) (fun u H locs hz9 hH hS => ?_)
          obtain ⟨F53_2, rfl, x_v530, x_v531, x_v532⟩ := hz9
          have s_F53_2 := x_v530
          have hH : HT D cs A T (a0 :: y3 :: y4 :: O) ((a0, .inr (12, o0 :: o1 :: o2 :: (.ref y3) :: (.ref y4) :: o5 :: (.int n48_0_6) :: (.int n48_0_7) :: (.int y8) :: (.int n48_0_9) :: (.int n48_0_10) :: (.int n48_0_11) :: (.int n48_0_12) :: tl)) :: (y3, .inl (cs.2.1, 900, .inl f3)) :: (y4, .inl (cs.2.1, 1302, .inl F53_2)) :: X) H := hH
          refine W.widen (k := 0) (n := 0) (Nat.le_of_ble_eq_true rfl) (Nat.le_of_ble_eq_true rfl) ?_
          refine lv_goto (tgt := 5) hx hb dX12_readSum_56 (by decide) ?_
          exact ih5 _ (by omega) n48_0_6 n48_0_7 n48_0_9 n48_0_10 n48_0_11 n48_0_12 F53_2 _ _ _ rfl s_F53_2 (by omega) (by omega) (by omega) (by omega) (by omega) (by omega) (by omega) (by omega) x_v484 (by omega) (by first | (refine RD_op if5 ?_ x_v487 x_v531; omega) | (refine RD_op x_v487 ?_ if5 x_v531; omega) | exact if5 | exact x_v487 | (refine RD_le if5 ?_; omega) | (refine RD_le x_v487 ?_; omega) | (intro q; obtain ⟨c1, c2⟩ := x_v531 q; refine ⟨?_, ?_, ?_⟩ <;> omega) | (intro q; obtain ⟨c0, c1, c2⟩ := x_v487 q; refine ⟨?_, ?_, ?_⟩ <;> omega) | (intro q; obtain ⟨c0, c1, c2⟩ := x_v487 q; obtain ⟨d1, d2⟩ := x_v531 q; refine ⟨?_, ?_, ?_⟩ <;> omega)) (by first | exact (RG.seq (F' := [(1, 3), (4, 3)]) (RG_id (fun q9 => ⟨hms q9, fun _ _ => st_s⟩)) (RG.cons x_v28)) | (refine RG.seq ig5 (RG.seq (F' := [(1, 3), (4, 3)]) (RG_nx ?_ x_v436 (fun _ _ => st_sY ?_) ((RG.msw ig5 ?_).nx x_v437)) (RG.cons x_v488)); omega; (have q8 := (RG.msw ig5 (by omega)).2.2.2.1; omega); omega)) (FKP.tr (FKP.tr ik5 x_v489) x_v532) hH hS (lv_sub hl [1, 2] rfl)
      · skip
        have tc11 := f_eq (k := 0) (by decide) c11
        clear x_v80
        replace x_v81 := x_v81.resolve_left (fun q9 => q9 tc11)
        refine lv_aload_n hx hb dX12_readSum_14 rfl (lv_at hl 0 rfl) ?_
        refine lv_bipush (v := 33) hx hb dX12_readSum_15 (by decide) ?_
        have z9_33 : (33 : Int32).toInt = 33 := by decide
        refine tk_i hH hS hA (tr_V (n := 1) (As := [.int 33]) hx hb hml hown hts hkb hH (ox_map hOX rfl) hks hE hS hA (s_M_is l D cs kf T (y4 :: O) ((y4, .inl (cs.2.1, 1302, .inl g5_2)) :: X) a0 hg mq (33) o0 o1 o2 y3 y4 o5 f5_106 f5_107 y8 f5_109 f5_110 f5_111 f5_112 tl f3 t tn t_a0 b_hg t_y3 t_y4 (by omega) (by omega) (by omega) (by omega) (by omega) (by omega) (by omega) (by omega) (by omega) htm (hO.sub (by decide))) kw_1370 kw_1372 ks_47 kw_13 kw_1373 (by decide +kernel) ⟨Nat.le_of_ble_eq_true rfl, Nat.le_of_ble_eq_true rfl⟩ (x_recv (ci := 12) hkb hH 0 rfl rfl) rfl rfl hl.1 (Nat.le_of_ble_eq_true rfl) dX12_readSum_17 ⟨Nat.le_of_ble_eq_true rfl, Nat.le_of_ble_eq_true rfl⟩) (fun v17 u H locs hz9 hH hS => ?_)
        obtain ⟨rfl, l_v17, u_v17, x_v170, x_v171⟩ := hz9
        have hH : HT D cs A T (a0 :: y3 :: y4 :: O) ((a0, .inr (12, o0 :: o1 :: o2 :: (.ref y3) :: (.ref y4) :: o5 :: (.int f5_106) :: (.int f5_107) :: (.int y8) :: (.int f5_109) :: (.int f5_110) :: (.int f5_111) :: (.int f5_112) :: tl)) :: (y3, .inl (cs.2.1, 900, .inl f3)) :: (y4, .inl (cs.2.1, 1302, .inl g5_2)) :: X) H := hH
        refine W.widen (k := 0) (n := 0) (Nat.le_of_ble_eq_true rfl) (Nat.le_of_ble_eq_true rfl) ?_
        refine lv_if_eq (tgt := 59) hx hb dX12_readSum_20 (by decide) (fun c20 => ?_) (fun c20 => ?_)
        · skip
          have tc20 := f_eq (k := 0) (by decide) c20
          clear x_v170
          replace x_v171 := x_v171.resolve_left (fun q9 => q9 tc20)
          exact te_v hx hb hr hlocks hH hS (⟨f5_106, f5_107, f5_109, f5_110, f5_111, f5_112, g5_2, rfl, s_g5_2, by omega, by omega, by omega, ic5, by omega, by omega, (by first | exact if5 | (refine RD_le if5 ?_; omega) | (intro q; obtain ⟨c0, c1, c2⟩ := if5 q; refine ⟨?_, ?_, ?_⟩ <;> omega)), (by first | (exact ig5.seq (RG_id (fun q9 => ⟨RG.msw ig5 q9, fun _ _ => st_sN (by have q8 := (RG.msw ig5 q9).2.2.2.1; omega)⟩)))), ik5⟩) dX12_readSum_59
        · skip
          have tc20 := f_ne (k := 0) (by decide) c20
          replace x_v170 := x_v170.resolve_left tc20
          clear x_v171
          refine lv_aload_n hx hb dX12_readSum_23 rfl (lv_at hl 0 rfl) ?_
          refine x_getk (ci := 12) (C := RX12) (F := TX12) (N := 36) (v := .int f5_109) hx hb hts uX12 hown hkb hH 0 rfl rfl 9 (by decide) rfl kw_1232 (fun _ h9 => h9) dX12_readSum_24 ?_
          refine lv_bipush (v := 32) hx hb dX12_readSum_27 (by decide) ?_
          refine lv_icmp_ne (tgt := 38) hx hb dX12_readSum_29 (by decide) (fun c29 => ?_) (fun c29 => ?_)
          · skip
            have tc29 := f_ne (k := 32) (by decide) c29
            refine lv_sipush (v := 3001) hx hb dX12_readSum_38 (by decide) ?_
            refine lv_istore_n (lv' := [(2, .int 3001), (0, .ref a0), (1, .int x1)]) hx hb dX12_readSum_41 rfl hl (by decide) rfl (fun ls hl => ?_)
            have hk5 := ic5 (by omega)
            refine lv_aload_n hx hb dX12_readSum_42 rfl (lv_at hl 1 rfl) ?_
            refine tk_v hH hS hA (tr_V (n := 0) (As := []) hx hb hml hown hts hkb hH (ox_map hOX rfl) hks hE hS hA (s_M_next l D cs kf T (y4 :: O) ((y4, .inl (cs.2.1, 1302, .inl g5_2)) :: X) a0 hg mq o0 o1 o2 y3 y4 o5 f5_106 f5_107 y8 f5_109 f5_110 f5_111 f5_112 tl f3 t tn t_a0 b_hg t_y3 t_y4 (by omega) (by omega) (by omega) (by omega) (by omega) (by omega) (by omega) (by omega) (by omega) htm (by omega) (hO.sub (by decide))) kw_1344 kw_1346 ks_43 kw_13 kw_1347 (by decide +kernel) ⟨Nat.le_of_ble_eq_true rfl, Nat.le_of_ble_eq_true rfl⟩ (x_recv (ci := 12) hkb hH 0 rfl rfl) rfl rfl hl.1 (Nat.le_of_ble_eq_true rfl) dX12_readSum_43 ⟨Nat.le_of_ble_eq_true rfl, Nat.le_of_ble_eq_true rfl⟩) (fun u H locs hz9 hH hS => ?_)
            obtain ⟨n43_0_6, n43_0_7, n43_0_9, n43_0_10, rfl, x_v430, x_v431, x_v432, x_v433, x_v434, x_v435, x_v436, x_v437⟩ := hz9
            have hH : HT D cs A T (a0 :: y3 :: y4 :: O) ((a0, .inr (12, o0 :: o1 :: o2 :: (.ref y3) :: (.ref y4) :: o5 :: (.int n43_0_6) :: (.int n43_0_7) :: (.int y8) :: (.int n43_0_9) :: (.int n43_0_10) :: (.int f5_111) :: (.int f5_112) :: tl)) :: (y3, .inl (cs.2.1, 900, .inl f3)) :: (y4, .inl (cs.2.1, 1302, .inl g5_2)) :: X) H := hH
            refine W.widen (k := 0) (n := 0) (Nat.le_of_ble_eq_true rfl) (Nat.le_of_ble_eq_true rfl) ?_
            refine lv_aload_n hx hb dX12_readSum_46 rfl (lv_at hl 1 rfl) ?_
            refine lv_iload_n hx hb dX12_readSum_47 rfl (lv_at hl 2 rfl) ?_
            refine tk_v hH hS hA (tr_V (n := 1) (As := [.int x1]) hx hb hml hown hts hkb hH (ox_map hOX rfl) hks hE hS hA (s_M_readTerm3 l D cs kf T O X a0 hg mq x1 o0 o1 o2 y3 y4 o5 n43_0_6 n43_0_7 y8 n43_0_9 n43_0_10 f5_111 f5_112 tl f3 g5_2 t tn t_a0 b_hg (by omega) (by omega) t_y3 t_y4 (by omega) (by omega) (by omega) (by omega) (by omega) (by omega) (by omega) (by omega) s_g5_2 (by omega) htm (by omega) (by omega) x_v433 (by first | exact k4 | (refine RD_sl k4 if5 ?_; omega) | (intro _; omega)) (fun _ => x_v436) (hO.sub (by decide))) kw_1426 kw_1428 ks_61 kw_13 kw_1429 (by decide +kernel) ⟨Nat.le_of_ble_eq_true rfl, Nat.le_of_ble_eq_true rfl⟩ (x_recv (ci := 12) hkb hH 0 rfl rfl) rfl rfl hl.1 (Nat.le_of_ble_eq_true rfl) dX12_readSum_48 ⟨Nat.le_of_ble_eq_true rfl, Nat.le_of_ble_eq_true rfl⟩) (fun u H locs hz9 hH hS => ?_)
            obtain ⟨n48_0_6, n48_0_7, n48_0_9, n48_0_10, n48_0_11, n48_0_12, F48_2, rfl, x_v480, x_v481, x_v482, x_v483, x_v484, x_v485, x_v486, x_v487, x_v488, x_v489⟩ := hz9
            have s_F48_2 := x_v480
            have hH : HT D cs A T (a0 :: y3 :: y4 :: O) ((a0, .inr (12, o0 :: o1 :: o2 :: (.ref y3) :: (.ref y4) :: o5 :: (.int n48_0_6) :: (.int n48_0_7) :: (.int y8) :: (.int n48_0_9) :: (.int n48_0_10) :: (.int n48_0_11) :: (.int n48_0_12) :: tl)) :: (y3, .inl (cs.2.1, 900, .inl f3)) :: (y4, .inl (cs.2.1, 1302, .inl F48_2)) :: X) H := hH
            refine W.widen (k := 0) (n := 0) (Nat.le_of_ble_eq_true rfl) (Nat.le_of_ble_eq_true rfl) ?_
            refine lv_aload_n hx hb dX12_readSum_51 rfl (lv_at hl 1 rfl) ?_
            refine lv_iload_n hx hb dX12_readSum_52 rfl (lv_at hl 0 rfl) ?_
            have z9_3001 : (3001 : Int32).toInt = 3001 := by decide
            refine tk_v hH hS hA (tr_V (n := 1) (As := [.int 3001]) hx hb hml hown hts hkb hH (ox_map hOX rfl) hks hE hS hA (s_M_codesO l D cs kf T O X a0 hg mq (3001) o0 o1 o2 y3 y4 o5 n48_0_6 n48_0_7 y8 n48_0_9 n48_0_10 n48_0_11 n48_0_12 tl f3 F48_2 t tn t_a0 b_hg (by decide) (by decide) t_y3 t_y4 (by omega) (by omega) (by omega) (by omega) (by omega) (by omega) (by omega) (by omega) s_F48_2 (by omega) htm (by first | (intro q; constructor <;> omega) | (intro q; obtain ⟨c0, c1, c2⟩ := if5 q; constructor <;> omega) | (intro q; obtain ⟨c0, c1, c2⟩ := x_v487 q; constructor <;> omega) | (refine RD_cp k4 hd0 if5 ?_ x_v487 ?_ <;> omega) | (refine RD_cp k4 hd0 x_v487 ?_ if5 ?_ <;> omega)) (hO.sub (by decide))) kw_1418 kw_1420 ks_59 kw_13 kw_1421 (by decide +kernel) ⟨Nat.le_of_ble_eq_true rfl, Nat.le_of_ble_eq_true rfl⟩ (x_recv (ci := 12) hkb hH 0 rfl rfl) rfl rfl hl.1 (Nat.le_of_ble_eq_true rfl) dX12_readSum_53 ⟨Nat.le_of_ble_eq_true rfl, Nat.le_of_ble_eq_true rfl⟩) (fun u H locs hz9 hH hS => ?_)
            obtain ⟨F53_2, rfl, x_v530, x_v531, x_v532⟩ := hz9
            have s_F53_2 := x_v530
            have hH : HT D cs A T (a0 :: y3 :: y4 :: O) ((a0, .inr (12, o0 :: o1 :: o2 :: (.ref y3) :: (.ref y4) :: o5 :: (.int n48_0_6) :: (.int n48_0_7) :: (.int y8) :: (.int n48_0_9) :: (.int n48_0_10) :: (.int n48_0_11) :: (.int n48_0_12) :: tl)) :: (y3, .inl (cs.2.1, 900, .inl f3)) :: (y4, .inl (cs.2.1, 1302, .inl F53_2)) :: X) H := hH
            refine W.widen (k := 0) (n := 0) (Nat.le_of_ble_eq_true rfl) (Nat.le_of_ble_eq_true rfl) ?_
            refine lv_goto (tgt := 5) hx hb dX12_readSum_56 (by decide) ?_
            exact ih5 _ (by omega) n48_0_6 n48_0_7 n48_0_9 n48_0_10 n48_0_11 n48_0_12 F53_2 _ _ _ rfl s_F53_2 (by omega) (by omega) (by omega) (by omega) (by omega) (by omega) (by omega) (by omega) x_v484 (by omega) (by first | (refine RD_op if5 ?_ x_v487 x_v531; omega) | (refine RD_op x_v487 ?_ if5 x_v531; omega) | exact if5 | exact x_v487 | (refine RD_le if5 ?_; omega) | (refine RD_le x_v487 ?_; omega) | (intro q; obtain ⟨c1, c2⟩ := x_v531 q; refine ⟨?_, ?_, ?_⟩ <;> omega) | (intro q; obtain ⟨c0, c1, c2⟩ := x_v487 q; refine ⟨?_, ?_, ?_⟩ <;> omega) | (intro q; obtain ⟨c0, c1, c2⟩ := x_v487 q; obtain ⟨d1, d2⟩ := x_v531 q; refine ⟨?_, ?_, ?_⟩ <;> omega)) (by first | exact (RG.seq (F' := [(1, 3), (4, 3)]) (RG_id (fun q9 => ⟨hms q9, fun _ _ => st_s⟩)) (RG.cons x_v28)) | (refine RG.seq ig5 (RG.seq (F' := [(1, 3), (4, 3)]) (RG_nx ?_ x_v436 (fun _ _ => st_sY ?_) ((RG.msw ig5 ?_).nx x_v437)) (RG.cons x_v488)); omega; (have q8 := (RG.msw ig5 (by omega)).2.2.2.1; omega); omega)) (FKP.tr (FKP.tr ik5 x_v489) x_v532) hH hS (lv_sub hl [1, 2] rfl)
          · skip
            have tc29 := f_eq (k := 32) (by decide) c29
            refine lv_sipush (v := 3000) hx hb dX12_readSum_32 (by decide) ?_
            refine lv_goto (tgt := 41) hx hb dX12_readSum_35 (by decide) ?_
            refine lv_istore_n (lv' := [(2, .int 3000), (0, .ref a0), (1, .int x1)]) hx hb dX12_readSum_41 rfl hl (by decide) rfl (fun ls hl => ?_)
            have hk5 := ic5 (by omega)
            refine lv_aload_n hx hb dX12_readSum_42 rfl (lv_at hl 1 rfl) ?_
            refine tk_v hH hS hA (tr_V (n := 0) (As := []) hx hb hml hown hts hkb hH (ox_map hOX rfl) hks hE hS hA (s_M_next l D cs kf T (y4 :: O) ((y4, .inl (cs.2.1, 1302, .inl g5_2)) :: X) a0 hg mq o0 o1 o2 y3 y4 o5 f5_106 f5_107 y8 f5_109 f5_110 f5_111 f5_112 tl f3 t tn t_a0 b_hg t_y3 t_y4 (by omega) (by omega) (by omega) (by omega) (by omega) (by omega) (by omega) (by omega) (by omega) htm (by omega) (hO.sub (by decide))) kw_1344 kw_1346 ks_43 kw_13 kw_1347 (by decide +kernel) ⟨Nat.le_of_ble_eq_true rfl, Nat.le_of_ble_eq_true rfl⟩ (x_recv (ci := 12) hkb hH 0 rfl rfl) rfl rfl hl.1 (Nat.le_of_ble_eq_true rfl) dX12_readSum_43 ⟨Nat.le_of_ble_eq_true rfl, Nat.le_of_ble_eq_true rfl⟩) (fun u H locs hz9 hH hS => ?_)
            obtain ⟨n43_0_6, n43_0_7, n43_0_9, n43_0_10, rfl, x_v430, x_v431, x_v432, x_v433, x_v434, x_v435, x_v436, x_v437⟩ := hz9
            have hH : HT D cs A T (a0 :: y3 :: y4 :: O) ((a0, .inr (12, o0 :: o1 :: o2 :: (.ref y3) :: (.ref y4) :: o5 :: (.int n43_0_6) :: (.int n43_0_7) :: (.int y8) :: (.int n43_0_9) :: (.int n43_0_10) :: (.int f5_111) :: (.int f5_112) :: tl)) :: (y3, .inl (cs.2.1, 900, .inl f3)) :: (y4, .inl (cs.2.1, 1302, .inl g5_2)) :: X) H := hH
            refine W.widen (k := 0) (n := 0) (Nat.le_of_ble_eq_true rfl) (Nat.le_of_ble_eq_true rfl) ?_
            refine lv_aload_n hx hb dX12_readSum_46 rfl (lv_at hl 1 rfl) ?_
            refine lv_iload_n hx hb dX12_readSum_47 rfl (lv_at hl 2 rfl) ?_
            refine tk_v hH hS hA (tr_V (n := 1) (As := [.int x1]) hx hb hml hown hts hkb hH (ox_map hOX rfl) hks hE hS hA (s_M_readTerm3 l D cs kf T O X a0 hg mq x1 o0 o1 o2 y3 y4 o5 n43_0_6 n43_0_7 y8 n43_0_9 n43_0_10 f5_111 f5_112 tl f3 g5_2 t tn t_a0 b_hg (by omega) (by omega) t_y3 t_y4 (by omega) (by omega) (by omega) (by omega) (by omega) (by omega) (by omega) (by omega) s_g5_2 (by omega) htm (by omega) (by omega) x_v433 (by first | exact k4 | (refine RD_sl k4 if5 ?_; omega) | (intro _; omega)) (fun _ => x_v436) (hO.sub (by decide))) kw_1426 kw_1428 ks_61 kw_13 kw_1429 (by decide +kernel) ⟨Nat.le_of_ble_eq_true rfl, Nat.le_of_ble_eq_true rfl⟩ (x_recv (ci := 12) hkb hH 0 rfl rfl) rfl rfl hl.1 (Nat.le_of_ble_eq_true rfl) dX12_readSum_48 ⟨Nat.le_of_ble_eq_true rfl, Nat.le_of_ble_eq_true rfl⟩) (fun u H locs hz9 hH hS => ?_)
            obtain ⟨n48_0_6, n48_0_7, n48_0_9, n48_0_10, n48_0_11, n48_0_12, F48_2, rfl, x_v480, x_v481, x_v482, x_v483, x_v484, x_v485, x_v486, x_v487, x_v488, x_v489⟩ := hz9
            have s_F48_2 := x_v480
            have hH : HT D cs A T (a0 :: y3 :: y4 :: O) ((a0, .inr (12, o0 :: o1 :: o2 :: (.ref y3) :: (.ref y4) :: o5 :: (.int n48_0_6) :: (.int n48_0_7) :: (.int y8) :: (.int n48_0_9) :: (.int n48_0_10) :: (.int n48_0_11) :: (.int n48_0_12) :: tl)) :: (y3, .inl (cs.2.1, 900, .inl f3)) :: (y4, .inl (cs.2.1, 1302, .inl F48_2)) :: X) H := hH
            refine W.widen (k := 0) (n := 0) (Nat.le_of_ble_eq_true rfl) (Nat.le_of_ble_eq_true rfl) ?_
            refine lv_aload_n hx hb dX12_readSum_51 rfl (lv_at hl 1 rfl) ?_
            refine lv_iload_n hx hb dX12_readSum_52 rfl (lv_at hl 0 rfl) ?_
            have z9_3000 : (3000 : Int32).toInt = 3000 := by decide
            refine tk_v hH hS hA (tr_V (n := 1) (As := [.int 3000]) hx hb hml hown hts hkb hH (ox_map hOX rfl) hks hE hS hA (s_M_codesO l D cs kf T O X a0 hg mq (3000) o0 o1 o2 y3 y4 o5 n48_0_6 n48_0_7 y8 n48_0_9 n48_0_10 n48_0_11 n48_0_12 tl f3 F48_2 t tn t_a0 b_hg (by decide) (by decide) t_y3 t_y4 (by omega) (by omega) (by omega) (by omega) (by omega) (by omega) (by omega) (by omega) s_F48_2 (by omega) htm (by first | (intro q; constructor <;> omega) | (intro q; obtain ⟨c0, c1, c2⟩ := if5 q; constructor <;> omega) | (intro q; obtain ⟨c0, c1, c2⟩ := x_v487 q; constructor <;> omega) | (refine RD_cp k4 hd0 if5 ?_ x_v487 ?_ <;> omega) | (refine RD_cp k4 hd0 x_v487 ?_ if5 ?_ <;> omega)) (hO.sub (by decide))) kw_1418 kw_1420 ks_59 kw_13 kw_1421 (by decide +kernel) ⟨Nat.le_of_ble_eq_true rfl, Nat.le_of_ble_eq_true rfl⟩ (x_recv (ci := 12) hkb hH 0 rfl rfl) rfl rfl hl.1 (Nat.le_of_ble_eq_true rfl) dX12_readSum_53 ⟨Nat.le_of_ble_eq_true rfl, Nat.le_of_ble_eq_true rfl⟩) (fun u H locs hz9 hH hS => ?_)
            obtain ⟨F53_2, rfl, x_v530, x_v531, x_v532⟩ := hz9
            have s_F53_2 := x_v530
            have hH : HT D cs A T (a0 :: y3 :: y4 :: O) ((a0, .inr (12, o0 :: o1 :: o2 :: (.ref y3) :: (.ref y4) :: o5 :: (.int n48_0_6) :: (.int n48_0_7) :: (.int y8) :: (.int n48_0_9) :: (.int n48_0_10) :: (.int n48_0_11) :: (.int n48_0_12) :: tl)) :: (y3, .inl (cs.2.1, 900, .inl f3)) :: (y4, .inl (cs.2.1, 1302, .inl F53_2)) :: X) H := hH
            refine W.widen (k := 0) (n := 0) (Nat.le_of_ble_eq_true rfl) (Nat.le_of_ble_eq_true rfl) ?_
            refine lv_goto (tgt := 5) hx hb dX12_readSum_56 (by decide) ?_
            exact ih5 _ (by omega) n48_0_6 n48_0_7 n48_0_9 n48_0_10 n48_0_11 n48_0_12 F53_2 _ _ _ rfl s_F53_2 (by omega) (by omega) (by omega) (by omega) (by omega) (by omega) (by omega) (by omega) x_v484 (by omega) (by first | (refine RD_op if5 ?_ x_v487 x_v531; omega) | (refine RD_op x_v487 ?_ if5 x_v531; omega) | exact if5 | exact x_v487 | (refine RD_le if5 ?_; omega) | (refine RD_le x_v487 ?_; omega) | (intro q; obtain ⟨c1, c2⟩ := x_v531 q; refine ⟨?_, ?_, ?_⟩ <;> omega) | (intro q; obtain ⟨c0, c1, c2⟩ := x_v487 q; refine ⟨?_, ?_, ?_⟩ <;> omega) | (intro q; obtain ⟨c0, c1, c2⟩ := x_v487 q; obtain ⟨d1, d2⟩ := x_v531 q; refine ⟨?_, ?_, ?_⟩ <;> omega)) (by first | exact (RG.seq (F' := [(1, 3), (4, 3)]) (RG_id (fun q9 => ⟨hms q9, fun _ _ => st_s⟩)) (RG.cons x_v28)) | (refine RG.seq ig5 (RG.seq (F' := [(1, 3), (4, 3)]) (RG_nx ?_ x_v436 (fun _ _ => st_sY ?_) ((RG.msw ig5 ?_).nx x_v437)) (RG.cons x_v488)); omega; (have q8 := (RG.msw ig5 (by omega)).2.2.2.1; omega); omega)) (FKP.tr (FKP.tr ik5 x_v489) x_v532) hH hS (lv_sub hl [1, 2] rfl)
  refine tk_v hH hS hA (tr_V (n := 1) (As := [.int x1]) hx hb hml hown hts hkb hH (ox_map hOX rfl) hks hE hS hA (s_M_readTerm3 l D cs kf T O X a0 hg mq x1 o0 o1 o2 y3 y4 o5 y6 y7 y8 y9 y10 y11 y12 tl f3 f4 t tn t_a0 b_hg (by omega) (by omega) t_y3 t_y4 (by omega) (by omega) (by omega) (by omega) (by omega) (by omega) (by omega) (by omega) s_f4 (by omega) htm (by omega) (by omega) k3 (by first | exact k4 | (intro _; omega)) hms (hO.sub (by decide))) kw_1426 kw_1428 ks_61 kw_13 kw_1429 (by decide +kernel) ⟨Nat.le_of_ble_eq_true rfl, Nat.le_of_ble_eq_true rfl⟩ (x_recv (ci := 12) hkb hH 0 rfl rfl) rfl rfl hl.1 (Nat.le_of_ble_eq_true rfl) dX12_readSum_2 ⟨Nat.le_of_ble_eq_true rfl, Nat.le_of_ble_eq_true rfl⟩) (fun u H locs hz9 hH hS => ?_)
  obtain ⟨n2_0_6, n2_0_7, n2_0_9, n2_0_10, n2_0_11, n2_0_12, F2_2, rfl, x_v20, x_v21, x_v22, x_v23, x_v24, x_v25, x_v26, x_v27, x_v28, x_v29⟩ := hz9
  have s_F2_2 := x_v20
  have hH : HT D cs A T (a0 :: y3 :: y4 :: O) ((a0, .inr (12, o0 :: o1 :: o2 :: (.ref y3) :: (.ref y4) :: o5 :: (.int n2_0_6) :: (.int n2_0_7) :: (.int y8) :: (.int n2_0_9) :: (.int n2_0_10) :: (.int n2_0_11) :: (.int n2_0_12) :: tl)) :: (y3, .inl (cs.2.1, 900, .inl f3)) :: (y4, .inl (cs.2.1, 1302, .inl F2_2)) :: X) H := hH
  refine W.widen (k := 0) (n := 0) (Nat.le_of_ble_eq_true rfl) (Nat.le_of_ble_eq_true rfl) ?_
  exact J5 _ n2_0_6 n2_0_7 n2_0_9 n2_0_10 n2_0_11 n2_0_12 F2_2 _ _ _ rfl s_F2_2 (by omega) (by omega) (by omega) (by omega) (by omega) (by omega) (by omega) (by omega) x_v24 (by omega) (by first | exact x_v27 | (refine RD_le x_v27 ?_; omega) | (intro q; obtain ⟨c0, c1, c2⟩ := x_v27 q; refine ⟨?_, ?_, ?_⟩ <;> omega)) (by first | exact (RG.seq (F' := [(1, 3), (4, 3)]) (RG_id (fun q9 => ⟨hms q9, fun _ _ => st_s⟩)) (RG.cons x_v28)) | (refine RG.seq ig5 (RG.seq (F' := [(1, 3), (4, 3)]) (RG_nx ?_ x_v436 (fun _ _ => st_sY ?_) ((RG.msw ig5 ?_).nx x_v437)) (RG.cons x_v488)); omega; (have q8 := (RG.msw ig5 (by omega)).2.2.2.1; omega); omega)) (FKP.tr FKP.rf x_v29) hH hS (lv_sub hl [0, 1] rfl)
set_option maxHeartbeats 4000000 in
set_option maxRecDepth 100000 in
theorem s_M_readUnit3 (l : Launch) (D : va_G) (cs : CS) (kf : KF) (T : TF) (O : List Nat) (X : va_W) (a0 hg mq : Nat) (x1 : Int32) (o0 : Value) (o1 : Value) (o2 : Value) (y3 : Nat) (y4 : Nat) (o5 : Value) (y6 : Int32) (y7 : Int32) (y8 : Int32) (y9 : Int32) (y10 : Int32) (y11 : Int32) (y12 : Int32) (tl : List Value) (f3 : Nat → Int32) (f4 : Nat → Int32) (t : Tp) (tn : Nat) (t_a0 : T a0 = some (22, hg, mq)) (b_hg : hg < 90) (l_x1 : 3 ≤ x1.toInt) (u_x1 : x1.toInt ≤ 3) (t_y3 : T y3 = some (9, 900, 0)) (t_y4 : T y4 = some (8, 1302, 0)) (l_y6 : 0 ≤ y6.toInt) (u_y6 : y6.toInt ≤ 900) (l_y7 : 0 ≤ y7.toInt) (u_y7 : y7.toInt ≤ 900) (l_y8 : 0 ≤ y8.toInt) (u_y8 : y8.toInt ≤ 900) (l_y10 : 0 ≤ y10.toInt) (u_y10 : y10.toInt ≤ 999) (s_f4 : S8 f4) (hn : y8.toInt = (tn : Int)) (htm : TM f3 t) (k1 : y6.toInt ≤ y7.toInt) (k2 : y7.toInt ≤ y8.toInt) (k3 : TK3 y9 y6 y7) (k4 : SL y11 f4 y6) (hms : MSW t tn y11 y6 y7 y9 y10) (hO : okO T (a0 :: y3 :: y4 :: O) []) : TK l D cs kf yX12_readUnit cX12_readUnit 3 none { frames := 19, cells := 0, slots := 0, locals := 406 } [.ref a0, .int x1] T (a0 :: y3 :: y4 :: O) ((a0, .inr (12, o0 :: o1 :: o2 :: (.ref y3) :: (.ref y4) :: o5 :: (.int y6) :: (.int y7) :: (.int y8) :: (.int y9) :: (.int y10) :: (.int y11) :: (.int y12) :: tl)) :: (y3, .inl (cs.2.1, 900, .inl f3)) :: (y4, .inl (cs.2.1, 1302, .inl f4)) :: X) (Tv D cs (fun u => ∃ (n0_6 : Int32) (n0_7 : Int32) (n0_9 : Int32) (n0_10 : Int32) (n0_11 : Int32) (n0_12 : Int32) (G2 : Nat → Int32), u = (T, a0 :: y3 :: y4 :: O, (a0, .inr (12, o0 :: o1 :: o2 :: (.ref y3) :: (.ref y4) :: o5 :: (.int n0_6) :: (.int n0_7) :: (.int y8) :: (.int n0_9) :: (.int n0_10) :: (.int n0_11) :: (.int n0_12) :: tl)) :: (y3, .inl (cs.2.1, 900, .inl f3)) :: (y4, .inl (cs.2.1, 1302, .inl G2)) :: X) ∧ (S8 G2) ∧ (y6.toInt ≤ n0_6.toInt) ∧ (n0_6.toInt ≤ n0_7.toInt) ∧ (n0_7.toInt ≤ y8.toInt) ∧ (TK3 n0_9 n0_6 n0_7) ∧ (0 ≤ n0_10.toInt) ∧ (n0_10.toInt ≤ 999) ∧ (RD f4 G2 y6 n0_6 y11 n0_11) ∧ (RG t tn [(5, 3)] [] y11 y12 y6 n0_11 n0_12 n0_6 n0_7 n0_9 n0_10) ∧ (FKP f4 G2))) := by
  refine tk_of (by decide) (Nat.le_of_ble_eq_true rfl) (fun p e s m below meth c ls A H locs hx hb hr hml hown hts hlocks hnm hkb hH hS hA hOX hks hE hl => ?_)
  have hown : s.vm.findClass RX12 = some m.cls := hown
  have hl : lv_has ls 3 [(0, .ref a0), (1, .int x1)] := hl
  have hOXf := hOX
  have hd0 := dpt_nn s_f4
  have hq0 := fun q9 => (hms q9).2.2.2.1
  refine lv_aload_n hx hb dX12_readUnit_0 rfl (lv_at hl 0 rfl) ?_
  refine lv_bipush (v := 15) hx hb dX12_readUnit_1 (by decide) ?_
  have z9_15 : (15 : Int32).toInt = 15 := by decide
  refine tk_i hH hS hA (tr_V (n := 1) (As := [.int 15]) hx hb hml hown hts hkb hH (ox_map hOX rfl) hks hE hS hA (s_M_is l D cs kf T (y4 :: O) ((y4, .inl (cs.2.1, 1302, .inl f4)) :: X) a0 hg mq (15) o0 o1 o2 y3 y4 o5 y6 y7 y8 y9 y10 y11 y12 tl f3 t tn t_a0 b_hg t_y3 t_y4 (by omega) (by omega) (by omega) (by omega) (by omega) (by omega) (by omega) (by omega) (by omega) htm (hO.sub (by decide))) kw_1370 kw_1372 ks_47 kw_13 kw_1373 (by decide +kernel) ⟨Nat.le_of_ble_eq_true rfl, Nat.le_of_ble_eq_true rfl⟩ (x_recv (ci := 12) hkb hH 0 rfl rfl) rfl rfl hl.1 (Nat.le_of_ble_eq_true rfl) dX12_readUnit_3 ⟨Nat.le_of_ble_eq_true rfl, Nat.le_of_ble_eq_true rfl⟩) (fun v3 u H locs hz9 hH hS => ?_)
  obtain ⟨rfl, l_v3, u_v3, x_v30, x_v31⟩ := hz9
  have hH : HT D cs A T (a0 :: y3 :: y4 :: O) ((a0, .inr (12, o0 :: o1 :: o2 :: (.ref y3) :: (.ref y4) :: o5 :: (.int y6) :: (.int y7) :: (.int y8) :: (.int y9) :: (.int y10) :: (.int y11) :: (.int y12) :: tl)) :: (y3, .inl (cs.2.1, 900, .inl f3)) :: (y4, .inl (cs.2.1, 1302, .inl f4)) :: X) H := hH
  refine W.widen (k := 0) (n := 0) (Nat.le_of_ble_eq_true rfl) (Nat.le_of_ble_eq_true rfl) ?_
  refine lv_if_eq (tgt := 33) hx hb dX12_readUnit_6 (by decide) (fun c6 => ?_) (fun c6 => ?_)
  · skip
    have tc6 := f_eq (k := 0) (by decide) c6
    clear x_v30
    replace x_v31 := x_v31.resolve_left (fun q9 => q9 tc6)
    refine lv_aload_n hx hb dX12_readUnit_33 rfl (lv_at hl 0 rfl) ?_
    refine lv_bipush (v := 37) hx hb dX12_readUnit_34 (by decide) ?_
    have z9_37 : (37 : Int32).toInt = 37 := by decide
    refine tk_i hH hS hA (tr_V (n := 1) (As := [.int 37]) hx hb hml hown hts hkb hH (ox_map hOX rfl) hks hE hS hA (s_M_is l D cs kf T (y4 :: O) ((y4, .inl (cs.2.1, 1302, .inl f4)) :: X) a0 hg mq (37) o0 o1 o2 y3 y4 o5 y6 y7 y8 y9 y10 y11 y12 tl f3 t tn t_a0 b_hg t_y3 t_y4 (by omega) (by omega) (by omega) (by omega) (by omega) (by omega) (by omega) (by omega) (by omega) htm (hO.sub (by decide))) kw_1370 kw_1372 ks_47 kw_13 kw_1373 (by decide +kernel) ⟨Nat.le_of_ble_eq_true rfl, Nat.le_of_ble_eq_true rfl⟩ (x_recv (ci := 12) hkb hH 0 rfl rfl) rfl rfl hl.1 (Nat.le_of_ble_eq_true rfl) dX12_readUnit_36 ⟨Nat.le_of_ble_eq_true rfl, Nat.le_of_ble_eq_true rfl⟩) (fun v36 u H locs hz9 hH hS => ?_)
    obtain ⟨rfl, l_v36, u_v36, x_v360, x_v361⟩ := hz9
    have hH : HT D cs A T (a0 :: y3 :: y4 :: O) ((a0, .inr (12, o0 :: o1 :: o2 :: (.ref y3) :: (.ref y4) :: o5 :: (.int y6) :: (.int y7) :: (.int y8) :: (.int y9) :: (.int y10) :: (.int y11) :: (.int y12) :: tl)) :: (y3, .inl (cs.2.1, 900, .inl f3)) :: (y4, .inl (cs.2.1, 1302, .inl f4)) :: X) H := hH
    refine W.widen (k := 0) (n := 0) (Nat.le_of_ble_eq_true rfl) (Nat.le_of_ble_eq_true rfl) ?_
    refine lv_if_eq (tgt := 73) hx hb dX12_readUnit_39 (by decide) (fun c39 => ?_) (fun c39 => ?_)
    · skip
      have tc39 := f_eq (k := 0) (by decide) c39
      clear x_v360
      replace x_v361 := x_v361.resolve_left (fun q9 => q9 tc39)
      refine lv_aload_n hx hb dX12_readUnit_73 rfl (lv_at hl 0 rfl) ?_
      refine lv_iload_n hx hb dX12_readUnit_74 rfl (lv_at hl 1 rfl) ?_
      refine tk_v hH hS hA (tr_V (n := 1) (As := [.int x1]) hx hb hml hown hts hkb hH (ox_map hOX rfl) hks hE hS hA (s_M_readSum3 l D cs kf T O X a0 hg mq x1 o0 o1 o2 y3 y4 o5 y6 y7 y8 y9 y10 y11 y12 tl f3 f4 t tn t_a0 b_hg (by omega) (by omega) t_y3 t_y4 (by omega) (by omega) (by omega) (by omega) (by omega) (by omega) (by omega) (by omega) s_f4 (by omega) htm (by omega) (by omega) k3 (by first | exact k4 | (intro _; omega)) hms (hO.sub (by decide))) kw_1422 kw_1424 ks_60 kw_13 kw_1425 (by decide +kernel) ⟨Nat.le_of_ble_eq_true rfl, Nat.le_of_ble_eq_true rfl⟩ (x_recv (ci := 12) hkb hH 0 rfl rfl) rfl rfl hl.1 (Nat.le_of_ble_eq_true rfl) dX12_readUnit_75 ⟨Nat.le_of_ble_eq_true rfl, Nat.le_of_ble_eq_true rfl⟩) (fun u H locs hz9 hH hS => ?_)
      obtain ⟨n75_0_6, n75_0_7, n75_0_9, n75_0_10, n75_0_11, n75_0_12, F75_2, rfl, x_v750, x_v751, x_v752, x_v753, x_v754, x_v755, x_v756, x_v757, x_v758, x_v759⟩ := hz9
      have s_F75_2 := x_v750
      have hH : HT D cs A T (a0 :: y3 :: y4 :: O) ((a0, .inr (12, o0 :: o1 :: o2 :: (.ref y3) :: (.ref y4) :: o5 :: (.int n75_0_6) :: (.int n75_0_7) :: (.int y8) :: (.int n75_0_9) :: (.int n75_0_10) :: (.int n75_0_11) :: (.int n75_0_12) :: tl)) :: (y3, .inl (cs.2.1, 900, .inl f3)) :: (y4, .inl (cs.2.1, 1302, .inl F75_2)) :: X) H := hH
      refine W.widen (k := 0) (n := 0) (Nat.le_of_ble_eq_true rfl) (Nat.le_of_ble_eq_true rfl) ?_
      have g78 : RG t tn [(5, 3)] [(21, 3)] y11 y12 y6 n75_0_11 n75_0_12 n75_0_6 n75_0_7 n75_0_9 n75_0_10 := RG.seq (F' := [(3, 3), (21, 3)]) (RG_id (fun q9 => ⟨hms q9, fun _ _ => st_uS (by have q8 := hq0 q9; omega) (by have q8 := hq0 q9; omega)⟩)) (RG.cons x_v758)
      refine lv_aload_n hx hb dX12_readUnit_78 rfl (lv_at hl 0 rfl) ?_
      refine lv_bipush (v := 39) hx hb dX12_readUnit_79 (by decide) ?_
      have z9_39 : (39 : Int32).toInt = 39 := by decide
      refine tk_i hH hS hA (tr_V (n := 1) (As := [.int 39]) hx hb hml hown hts hkb hH (ox_map hOX rfl) hks hE hS hA (s_M_is l D cs kf T (y4 :: O) ((y4, .inl (cs.2.1, 1302, .inl F75_2)) :: X) a0 hg mq (39) o0 o1 o2 y3 y4 o5 n75_0_6 n75_0_7 y8 n75_0_9 n75_0_10 n75_0_11 n75_0_12 tl f3 t tn t_a0 b_hg t_y3 t_y4 (by omega) (by omega) (by omega) (by omega) (by omega) (by omega) (by omega) (by omega) (by omega) htm (hO.sub (by decide))) kw_1370 kw_1372 ks_47 kw_13 kw_1373 (by decide +kernel) ⟨Nat.le_of_ble_eq_true rfl, Nat.le_of_ble_eq_true rfl⟩ (x_recv (ci := 12) hkb hH 0 rfl rfl) rfl rfl hl.1 (Nat.le_of_ble_eq_true rfl) dX12_readUnit_81 ⟨Nat.le_of_ble_eq_true rfl, Nat.le_of_ble_eq_true rfl⟩) (fun v81 u H locs hz9 hH hS => ?_)
      obtain ⟨rfl, l_v81, u_v81, x_v810, x_v811⟩ := hz9
      have hH : HT D cs A T (a0 :: y3 :: y4 :: O) ((a0, .inr (12, o0 :: o1 :: o2 :: (.ref y3) :: (.ref y4) :: o5 :: (.int n75_0_6) :: (.int n75_0_7) :: (.int y8) :: (.int n75_0_9) :: (.int n75_0_10) :: (.int n75_0_11) :: (.int n75_0_12) :: tl)) :: (y3, .inl (cs.2.1, 900, .inl f3)) :: (y4, .inl (cs.2.1, 1302, .inl F75_2)) :: X) H := hH
      refine W.widen (k := 0) (n := 0) (Nat.le_of_ble_eq_true rfl) (Nat.le_of_ble_eq_true rfl) ?_
      refine lv_if_eq (tgt := 93) hx hb dX12_readUnit_84 (by decide) (fun c84 => ?_) (fun c84 => ?_)
      · skip
        have tc84 := f_eq (k := 0) (by decide) c84
        clear x_v810
        replace x_v811 := x_v811.resolve_left (fun q9 => q9 tc84)
        refine lv_aload_n hx hb dX12_readUnit_93 rfl (lv_at hl 0 rfl) ?_
        refine lv_bipush (v := 40) hx hb dX12_readUnit_94 (by decide) ?_
        have z9_40 : (40 : Int32).toInt = 40 := by decide
        refine tk_i hH hS hA (tr_V (n := 1) (As := [.int 40]) hx hb hml hown hts hkb hH (ox_map hOX rfl) hks hE hS hA (s_M_is l D cs kf T (y4 :: O) ((y4, .inl (cs.2.1, 1302, .inl F75_2)) :: X) a0 hg mq (40) o0 o1 o2 y3 y4 o5 n75_0_6 n75_0_7 y8 n75_0_9 n75_0_10 n75_0_11 n75_0_12 tl f3 t tn t_a0 b_hg t_y3 t_y4 (by omega) (by omega) (by omega) (by omega) (by omega) (by omega) (by omega) (by omega) (by omega) htm (hO.sub (by decide))) kw_1370 kw_1372 ks_47 kw_13 kw_1373 (by decide +kernel) ⟨Nat.le_of_ble_eq_true rfl, Nat.le_of_ble_eq_true rfl⟩ (x_recv (ci := 12) hkb hH 0 rfl rfl) rfl rfl hl.1 (Nat.le_of_ble_eq_true rfl) dX12_readUnit_96 ⟨Nat.le_of_ble_eq_true rfl, Nat.le_of_ble_eq_true rfl⟩) (fun v96 u H locs hz9 hH hS => ?_)
        obtain ⟨rfl, l_v96, u_v96, x_v960, x_v961⟩ := hz9
        have hH : HT D cs A T (a0 :: y3 :: y4 :: O) ((a0, .inr (12, o0 :: o1 :: o2 :: (.ref y3) :: (.ref y4) :: o5 :: (.int n75_0_6) :: (.int n75_0_7) :: (.int y8) :: (.int n75_0_9) :: (.int n75_0_10) :: (.int n75_0_11) :: (.int n75_0_12) :: tl)) :: (y3, .inl (cs.2.1, 900, .inl f3)) :: (y4, .inl (cs.2.1, 1302, .inl F75_2)) :: X) H := hH
        refine W.widen (k := 0) (n := 0) (Nat.le_of_ble_eq_true rfl) (Nat.le_of_ble_eq_true rfl) ?_
        refine lv_if_eq (tgt := 108) hx hb dX12_readUnit_99 (by decide) (fun c99 => ?_) (fun c99 => ?_)
        · skip
          have tc99 := f_eq (k := 0) (by decide) c99
          clear x_v960
          replace x_v961 := x_v961.resolve_left (fun q9 => q9 tc99)
          refine lv_sipush (v := 3005) hx hb dX12_readUnit_108 (by decide) ?_
          refine lv_istore_n (lv' := [(2, .int 3005), (0, .ref a0), (1, .int x1)]) hx hb dX12_readUnit_111 rfl hl (by decide) rfl (fun ls hl => ?_)
          refine lv_aload_n hx hb dX12_readUnit_112 rfl (lv_at hl 1 rfl) ?_
          refine lv_bipush (v := 39) hx hb dX12_readUnit_113 (by decide) ?_
          have z9_39 : (39 : Int32).toInt = 39 := by decide
          refine tk_i hH hS hA (tr_V (n := 1) (As := [.int 39]) hx hb hml hown hts hkb hH (ox_map hOX rfl) hks hE hS hA (s_M_is l D cs kf T (y4 :: O) ((y4, .inl (cs.2.1, 1302, .inl F75_2)) :: X) a0 hg mq (39) o0 o1 o2 y3 y4 o5 n75_0_6 n75_0_7 y8 n75_0_9 n75_0_10 n75_0_11 n75_0_12 tl f3 t tn t_a0 b_hg t_y3 t_y4 (by omega) (by omega) (by omega) (by omega) (by omega) (by omega) (by omega) (by omega) (by omega) htm (hO.sub (by decide))) kw_1370 kw_1372 ks_47 kw_13 kw_1373 (by decide +kernel) ⟨Nat.le_of_ble_eq_true rfl, Nat.le_of_ble_eq_true rfl⟩ (x_recv (ci := 12) hkb hH 0 rfl rfl) rfl rfl hl.1 (Nat.le_of_ble_eq_true rfl) dX12_readUnit_115 ⟨Nat.le_of_ble_eq_true rfl, Nat.le_of_ble_eq_true rfl⟩) (fun v115 u H locs hz9 hH hS => ?_)
          obtain ⟨rfl, l_v115, u_v115, x_v1150, x_v1151⟩ := hz9
          have hH : HT D cs A T (a0 :: y3 :: y4 :: O) ((a0, .inr (12, o0 :: o1 :: o2 :: (.ref y3) :: (.ref y4) :: o5 :: (.int n75_0_6) :: (.int n75_0_7) :: (.int y8) :: (.int n75_0_9) :: (.int n75_0_10) :: (.int n75_0_11) :: (.int n75_0_12) :: tl)) :: (y3, .inl (cs.2.1, 900, .inl f3)) :: (y4, .inl (cs.2.1, 1302, .inl F75_2)) :: X) H := hH
          refine W.widen (k := 0) (n := 0) (Nat.le_of_ble_eq_true rfl) (Nat.le_of_ble_eq_true rfl) ?_
          refine lv_if_ne (tgt := 139) hx hb dX12_readUnit_118 (by decide) (fun c118 => ?_) (fun c118 => ?_)
          · skip
            have tc118 := f_ne (k := 0) (by decide) c118
            replace x_v1150 := x_v1150.resolve_left tc118
            clear x_v1151
            have hk5 := x_v754 (by omega)
            have hq5 := (RG.msw x_v758 (by omega)).2.2.2.1
            refine lv_aload_n hx hb dX12_readUnit_139 rfl (lv_at hl 1 rfl) ?_
            refine tk_v hH hS hA (tr_V (n := 0) (As := []) hx hb hml hown hts hkb hH (ox_map hOX rfl) hks hE hS hA (s_M_next l D cs kf T (y4 :: O) ((y4, .inl (cs.2.1, 1302, .inl F75_2)) :: X) a0 hg mq o0 o1 o2 y3 y4 o5 n75_0_6 n75_0_7 y8 n75_0_9 n75_0_10 n75_0_11 n75_0_12 tl f3 t tn t_a0 b_hg t_y3 t_y4 (by omega) (by omega) (by omega) (by omega) (by omega) (by omega) (by omega) (by omega) (by omega) htm (by omega) (hO.sub (by decide))) kw_1344 kw_1346 ks_43 kw_13 kw_1347 (by decide +kernel) ⟨Nat.le_of_ble_eq_true rfl, Nat.le_of_ble_eq_true rfl⟩ (x_recv (ci := 12) hkb hH 0 rfl rfl) rfl rfl hl.1 (Nat.le_of_ble_eq_true rfl) dX12_readUnit_140 ⟨Nat.le_of_ble_eq_true rfl, Nat.le_of_ble_eq_true rfl⟩) (fun u H locs hz9 hH hS => ?_)
            obtain ⟨n140_0_6, n140_0_7, n140_0_9, n140_0_10, rfl, x_v1400, x_v1401, x_v1402, x_v1403, x_v1404, x_v1405, x_v1406, x_v1407⟩ := hz9
            have hH : HT D cs A T (a0 :: y3 :: y4 :: O) ((a0, .inr (12, o0 :: o1 :: o2 :: (.ref y3) :: (.ref y4) :: o5 :: (.int n140_0_6) :: (.int n140_0_7) :: (.int y8) :: (.int n140_0_9) :: (.int n140_0_10) :: (.int n75_0_11) :: (.int n75_0_12) :: tl)) :: (y3, .inl (cs.2.1, 900, .inl f3)) :: (y4, .inl (cs.2.1, 1302, .inl F75_2)) :: X) H := hH
            refine W.widen (k := 0) (n := 0) (Nat.le_of_ble_eq_true rfl) (Nat.le_of_ble_eq_true rfl) ?_
            refine lv_goto (tgt := 151) hx hb dX12_readUnit_143 (by decide) ?_
            have g151 : RG t tn [(5, 3)] [(3, 3)] y11 y12 y6 n75_0_11 n75_0_12 n140_0_6 n140_0_7 n140_0_9 n140_0_10 := (by first | (refine g78.seq (RG_nx ?_ x_v1406 (fun _ _ => st_cY ?_) ((RG.msw x_v758 ?_).nx x_v1407)) <;> omega) | (exact g78.seq (RG_f (m := 2) (G := []) x_v1481 (RG.msw x_v758) (by decide) (by decide) (fun q9 _ _ => st_cN (by have q8 := (RG.msw x_v758 q9).2.2.2.1; omega)))))
            refine lv_aload_n hx hb dX12_readUnit_151 rfl (lv_at hl 1 rfl) ?_
            refine lv_iload_n hx hb dX12_readUnit_152 rfl (lv_at hl 2 rfl) ?_
            refine tk_v hH hS hA (tr_V (n := 1) (As := [.int x1]) hx hb hml hown hts hkb hH (ox_map hOX rfl) hks hE hS hA (s_M_readSum3 l D cs kf T O X a0 hg mq x1 o0 o1 o2 y3 y4 o5 n140_0_6 n140_0_7 y8 n140_0_9 n140_0_10 n75_0_11 n75_0_12 tl f3 F75_2 t tn t_a0 b_hg (by omega) (by omega) t_y3 t_y4 (by omega) (by omega) (by omega) (by omega) (by omega) (by omega) (by omega) (by omega) s_F75_2 (by omega) htm (by omega) (by omega) x_v1403 (by first | exact k4 | (refine RD_sl k4 x_v757 ?_; omega) | (intro _; omega)) (fun _ => x_v1406) (hO.sub (by decide))) kw_1422 kw_1424 ks_60 kw_13 kw_1425 (by decide +kernel) ⟨Nat.le_of_ble_eq_true rfl, Nat.le_of_ble_eq_true rfl⟩ (x_recv (ci := 12) hkb hH 0 rfl rfl) rfl rfl hl.1 (Nat.le_of_ble_eq_true rfl) dX12_readUnit_153 ⟨Nat.le_of_ble_eq_true rfl, Nat.le_of_ble_eq_true rfl⟩) (fun u H locs hz9 hH hS => ?_)
            obtain ⟨n153_0_6, n153_0_7, n153_0_9, n153_0_10, n153_0_11, n153_0_12, F153_2, rfl, x_v1530, x_v1531, x_v1532, x_v1533, x_v1534, x_v1535, x_v1536, x_v1537, x_v1538, x_v1539⟩ := hz9
            have s_F153_2 := x_v1530
            have hH : HT D cs A T (a0 :: y3 :: y4 :: O) ((a0, .inr (12, o0 :: o1 :: o2 :: (.ref y3) :: (.ref y4) :: o5 :: (.int n153_0_6) :: (.int n153_0_7) :: (.int y8) :: (.int n153_0_9) :: (.int n153_0_10) :: (.int n153_0_11) :: (.int n153_0_12) :: tl)) :: (y3, .inl (cs.2.1, 900, .inl f3)) :: (y4, .inl (cs.2.1, 1302, .inl F153_2)) :: X) H := hH
            refine W.widen (k := 0) (n := 0) (Nat.le_of_ble_eq_true rfl) (Nat.le_of_ble_eq_true rfl) ?_
            refine lv_aload_n hx hb dX12_readUnit_156 rfl (lv_at hl 1 rfl) ?_
            refine lv_iload_n hx hb dX12_readUnit_157 rfl (lv_at hl 0 rfl) ?_
            have z9_3005 : (3005 : Int32).toInt = 3005 := by decide
            refine tk_v hH hS hA (tr_V (n := 1) (As := [.int 3005]) hx hb hml hown hts hkb hH (ox_map hOX rfl) hks hE hS hA (s_M_codesO l D cs kf T O X a0 hg mq (3005) o0 o1 o2 y3 y4 o5 n153_0_6 n153_0_7 y8 n153_0_9 n153_0_10 n153_0_11 n153_0_12 tl f3 F153_2 t tn t_a0 b_hg (by decide) (by decide) t_y3 t_y4 (by omega) (by omega) (by omega) (by omega) (by omega) (by omega) (by omega) (by omega) s_F153_2 (by omega) htm (by first | (intro q; constructor <;> omega) | (intro q; obtain ⟨c0, c1, c2⟩ := x_v757 q; constructor <;> omega) | (intro q; obtain ⟨c0, c1, c2⟩ := x_v1537 q; constructor <;> omega) | (refine RD_cp k4 hd0 x_v757 ?_ x_v1537 ?_ <;> omega) | (refine RD_cp k4 hd0 x_v1537 ?_ x_v757 ?_ <;> omega)) (hO.sub (by decide))) kw_1418 kw_1420 ks_59 kw_13 kw_1421 (by decide +kernel) ⟨Nat.le_of_ble_eq_true rfl, Nat.le_of_ble_eq_true rfl⟩ (x_recv (ci := 12) hkb hH 0 rfl rfl) rfl rfl hl.1 (Nat.le_of_ble_eq_true rfl) dX12_readUnit_158 ⟨Nat.le_of_ble_eq_true rfl, Nat.le_of_ble_eq_true rfl⟩) (fun u H locs hz9 hH hS => ?_)
            obtain ⟨F158_2, rfl, x_v1580, x_v1581, x_v1582⟩ := hz9
            have s_F158_2 := x_v1580
            have hH : HT D cs A T (a0 :: y3 :: y4 :: O) ((a0, .inr (12, o0 :: o1 :: o2 :: (.ref y3) :: (.ref y4) :: o5 :: (.int n153_0_6) :: (.int n153_0_7) :: (.int y8) :: (.int n153_0_9) :: (.int n153_0_10) :: (.int n153_0_11) :: (.int n153_0_12) :: tl)) :: (y3, .inl (cs.2.1, 900, .inl f3)) :: (y4, .inl (cs.2.1, 1302, .inl F158_2)) :: X) H := hH
            refine W.widen (k := 0) (n := 0) (Nat.le_of_ble_eq_true rfl) (Nat.le_of_ble_eq_true rfl) ?_
            exact te_v hx hb hr hlocks hH hS (⟨n153_0_6, n153_0_7, n153_0_9, n153_0_10, n153_0_11, n153_0_12, F158_2, rfl, s_F158_2, by omega, by omega, by omega, x_v1534, by omega, by omega, (by first | (refine RD_op x_v757 ?_ x_v1537 x_v1581; omega) | (refine RD_op x_v1537 ?_ x_v757 x_v1581; omega) | exact x_v757 | exact x_v1537 | (refine RD_le x_v757 ?_; omega) | (refine RD_le x_v1537 ?_; omega) | (intro q; obtain ⟨c1, c2⟩ := x_v1581 q; refine ⟨?_, ?_, ?_⟩ <;> omega) | (intro q; obtain ⟨c0, c1, c2⟩ := x_v1537 q; refine ⟨?_, ?_, ?_⟩ <;> omega) | (intro q; obtain ⟨c0, c1, c2⟩ := x_v1537 q; obtain ⟨d1, d2⟩ := x_v1581 q; refine ⟨?_, ?_, ?_⟩ <;> omega)), (by first | (exact g18.seq x_v228) | (refine g58.seq (RG_nx ?_ x_v617.1 (fun _ _ => st_xY ?_) x_v617.2.1) <;> omega) | (exact g58.seq (RG_f (m := 2) (G := []) x_v691 (RG.msw x_v558) (by decide) (by decide) (fun q9 _ _ => st_xN (by have q8 := (RG.msw x_v558 q9).2.2.2.1; omega)))) | (exact g151.seq x_v1538) | (exact RG_f (m := 4) (G := []) x_v119 hms (by decide) (by decide) (fun q9 _ _ => st_uND (by omega))) | (exact RG_f (m := 4) (G := []) x_v449 hms (by decide) (by decide) (fun q9 _ _ => st_uBD (by omega)))), (FKP.tr (FKP.tr (FKP.tr FKP.rf x_v759) x_v1539) x_v1582)⟩) dX12_readUnit_161
          · skip
            have tc118 := f_eq (k := 0) (by decide) c118
            clear x_v1150
            replace x_v1151 := x_v1151.resolve_left (fun q9 => q9 tc118)
            refine lv_aload_n hx hb dX12_readUnit_121 rfl (lv_at hl 1 rfl) ?_
            refine lv_bipush (v := 40) hx hb dX12_readUnit_122 (by decide) ?_
            have z9_40 : (40 : Int32).toInt = 40 := by decide
            refine tk_i hH hS hA (tr_V (n := 1) (As := [.int 40]) hx hb hml hown hts hkb hH (ox_map hOX rfl) hks hE hS hA (s_M_is l D cs kf T (y4 :: O) ((y4, .inl (cs.2.1, 1302, .inl F75_2)) :: X) a0 hg mq (40) o0 o1 o2 y3 y4 o5 n75_0_6 n75_0_7 y8 n75_0_9 n75_0_10 n75_0_11 n75_0_12 tl f3 t tn t_a0 b_hg t_y3 t_y4 (by omega) (by omega) (by omega) (by omega) (by omega) (by omega) (by omega) (by omega) (by omega) htm (hO.sub (by decide))) kw_1370 kw_1372 ks_47 kw_13 kw_1373 (by decide +kernel) ⟨Nat.le_of_ble_eq_true rfl, Nat.le_of_ble_eq_true rfl⟩ (x_recv (ci := 12) hkb hH 0 rfl rfl) rfl rfl hl.1 (Nat.le_of_ble_eq_true rfl) dX12_readUnit_124 ⟨Nat.le_of_ble_eq_true rfl, Nat.le_of_ble_eq_true rfl⟩) (fun v124 u H locs hz9 hH hS => ?_)
            obtain ⟨rfl, l_v124, u_v124, x_v1240, x_v1241⟩ := hz9
            have hH : HT D cs A T (a0 :: y3 :: y4 :: O) ((a0, .inr (12, o0 :: o1 :: o2 :: (.ref y3) :: (.ref y4) :: o5 :: (.int n75_0_6) :: (.int n75_0_7) :: (.int y8) :: (.int n75_0_9) :: (.int n75_0_10) :: (.int n75_0_11) :: (.int n75_0_12) :: tl)) :: (y3, .inl (cs.2.1, 900, .inl f3)) :: (y4, .inl (cs.2.1, 1302, .inl F75_2)) :: X) H := hH
            refine W.widen (k := 0) (n := 0) (Nat.le_of_ble_eq_true rfl) (Nat.le_of_ble_eq_true rfl) ?_
            refine lv_if_ne (tgt := 139) hx hb dX12_readUnit_127 (by decide) (fun c127 => ?_) (fun c127 => ?_)
            · skip
              have tc127 := f_ne (k := 0) (by decide) c127
              replace x_v1240 := x_v1240.resolve_left tc127
              clear x_v1241
              have hk5 := x_v754 (by omega)
              have hq5 := (RG.msw x_v758 (by omega)).2.2.2.1
              refine lv_aload_n hx hb dX12_readUnit_139 rfl (lv_at hl 1 rfl) ?_
              refine tk_v hH hS hA (tr_V (n := 0) (As := []) hx hb hml hown hts hkb hH (ox_map hOX rfl) hks hE hS hA (s_M_next l D cs kf T (y4 :: O) ((y4, .inl (cs.2.1, 1302, .inl F75_2)) :: X) a0 hg mq o0 o1 o2 y3 y4 o5 n75_0_6 n75_0_7 y8 n75_0_9 n75_0_10 n75_0_11 n75_0_12 tl f3 t tn t_a0 b_hg t_y3 t_y4 (by omega) (by omega) (by omega) (by omega) (by omega) (by omega) (by omega) (by omega) (by omega) htm (by omega) (hO.sub (by decide))) kw_1344 kw_1346 ks_43 kw_13 kw_1347 (by decide +kernel) ⟨Nat.le_of_ble_eq_true rfl, Nat.le_of_ble_eq_true rfl⟩ (x_recv (ci := 12) hkb hH 0 rfl rfl) rfl rfl hl.1 (Nat.le_of_ble_eq_true rfl) dX12_readUnit_140 ⟨Nat.le_of_ble_eq_true rfl, Nat.le_of_ble_eq_true rfl⟩) (fun u H locs hz9 hH hS => ?_)
              obtain ⟨n140_0_6, n140_0_7, n140_0_9, n140_0_10, rfl, x_v1400, x_v1401, x_v1402, x_v1403, x_v1404, x_v1405, x_v1406, x_v1407⟩ := hz9
              have hH : HT D cs A T (a0 :: y3 :: y4 :: O) ((a0, .inr (12, o0 :: o1 :: o2 :: (.ref y3) :: (.ref y4) :: o5 :: (.int n140_0_6) :: (.int n140_0_7) :: (.int y8) :: (.int n140_0_9) :: (.int n140_0_10) :: (.int n75_0_11) :: (.int n75_0_12) :: tl)) :: (y3, .inl (cs.2.1, 900, .inl f3)) :: (y4, .inl (cs.2.1, 1302, .inl F75_2)) :: X) H := hH
              refine W.widen (k := 0) (n := 0) (Nat.le_of_ble_eq_true rfl) (Nat.le_of_ble_eq_true rfl) ?_
              refine lv_goto (tgt := 151) hx hb dX12_readUnit_143 (by decide) ?_
              have g151 : RG t tn [(5, 3)] [(3, 3)] y11 y12 y6 n75_0_11 n75_0_12 n140_0_6 n140_0_7 n140_0_9 n140_0_10 := (by first | (refine g78.seq (RG_nx ?_ x_v1406 (fun _ _ => st_cY ?_) ((RG.msw x_v758 ?_).nx x_v1407)) <;> omega) | (exact g78.seq (RG_f (m := 2) (G := []) x_v1481 (RG.msw x_v758) (by decide) (by decide) (fun q9 _ _ => st_cN (by have q8 := (RG.msw x_v758 q9).2.2.2.1; omega)))))
              refine lv_aload_n hx hb dX12_readUnit_151 rfl (lv_at hl 1 rfl) ?_
              refine lv_iload_n hx hb dX12_readUnit_152 rfl (lv_at hl 2 rfl) ?_
              refine tk_v hH hS hA (tr_V (n := 1) (As := [.int x1]) hx hb hml hown hts hkb hH (ox_map hOX rfl) hks hE hS hA (s_M_readSum3 l D cs kf T O X a0 hg mq x1 o0 o1 o2 y3 y4 o5 n140_0_6 n140_0_7 y8 n140_0_9 n140_0_10 n75_0_11 n75_0_12 tl f3 F75_2 t tn t_a0 b_hg (by omega) (by omega) t_y3 t_y4 (by omega) (by omega) (by omega) (by omega) (by omega) (by omega) (by omega) (by omega) s_F75_2 (by omega) htm (by omega) (by omega) x_v1403 (by first | exact k4 | (refine RD_sl k4 x_v757 ?_; omega) | (intro _; omega)) (fun _ => x_v1406) (hO.sub (by decide))) kw_1422 kw_1424 ks_60 kw_13 kw_1425 (by decide +kernel) ⟨Nat.le_of_ble_eq_true rfl, Nat.le_of_ble_eq_true rfl⟩ (x_recv (ci := 12) hkb hH 0 rfl rfl) rfl rfl hl.1 (Nat.le_of_ble_eq_true rfl) dX12_readUnit_153 ⟨Nat.le_of_ble_eq_true rfl, Nat.le_of_ble_eq_true rfl⟩) (fun u H locs hz9 hH hS => ?_)
              obtain ⟨n153_0_6, n153_0_7, n153_0_9, n153_0_10, n153_0_11, n153_0_12, F153_2, rfl, x_v1530, x_v1531, x_v1532, x_v1533, x_v1534, x_v1535, x_v1536, x_v1537, x_v1538, x_v1539⟩ := hz9
              have s_F153_2 := x_v1530
              have hH : HT D cs A T (a0 :: y3 :: y4 :: O) ((a0, .inr (12, o0 :: o1 :: o2 :: (.ref y3) :: (.ref y4) :: o5 :: (.int n153_0_6) :: (.int n153_0_7) :: (.int y8) :: (.int n153_0_9) :: (.int n153_0_10) :: (.int n153_0_11) :: (.int n153_0_12) :: tl)) :: (y3, .inl (cs.2.1, 900, .inl f3)) :: (y4, .inl (cs.2.1, 1302, .inl F153_2)) :: X) H := hH
              refine W.widen (k := 0) (n := 0) (Nat.le_of_ble_eq_true rfl) (Nat.le_of_ble_eq_true rfl) ?_
              refine lv_aload_n hx hb dX12_readUnit_156 rfl (lv_at hl 1 rfl) ?_
              refine lv_iload_n hx hb dX12_readUnit_157 rfl (lv_at hl 0 rfl) ?_
              have z9_3005 : (3005 : Int32).toInt = 3005 := by decide
              refine tk_v hH hS hA (tr_V (n := 1) (As := [.int 3005]) hx hb hml hown hts hkb hH (ox_map hOX rfl) hks hE hS hA (s_M_codesO l D cs kf T O X a0 hg mq (3005) o0 o1 o2 y3 y4 o5 n153_0_6 n153_0_7 y8 n153_0_9 n153_0_10 n153_0_11 n153_0_12 tl f3 F153_2 t tn t_a0 b_hg (by decide) (by decide) t_y3 t_y4 (by omega) (by omega) (by omega) (by omega) (by omega) (by omega) (by omega) (by omega) s_F153_2 (by omega) htm (by first | (intro q; constructor <;> omega) | (intro q; obtain ⟨c0, c1, c2⟩ := x_v757 q; constructor <;> omega) | (intro q; obtain ⟨c0, c1, c2⟩ := x_v1537 q; constructor <;> omega) | (refine RD_cp k4 hd0 x_v757 ?_ x_v1537 ?_ <;> omega) | (refine RD_cp k4 hd0 x_v1537 ?_ x_v757 ?_ <;> omega)) (hO.sub (by decide))) kw_1418 kw_1420 ks_59 kw_13 kw_1421 (by decide +kernel) ⟨Nat.le_of_ble_eq_true rfl, Nat.le_of_ble_eq_true rfl⟩ (x_recv (ci := 12) hkb hH 0 rfl rfl) rfl rfl hl.1 (Nat.le_of_ble_eq_true rfl) dX12_readUnit_158 ⟨Nat.le_of_ble_eq_true rfl, Nat.le_of_ble_eq_true rfl⟩) (fun u H locs hz9 hH hS => ?_)
              obtain ⟨F158_2, rfl, x_v1580, x_v1581, x_v1582⟩ := hz9
              have s_F158_2 := x_v1580
              have hH : HT D cs A T (a0 :: y3 :: y4 :: O) ((a0, .inr (12, o0 :: o1 :: o2 :: (.ref y3) :: (.ref y4) :: o5 :: (.int n153_0_6) :: (.int n153_0_7) :: (.int y8) :: (.int n153_0_9) :: (.int n153_0_10) :: (.int n153_0_11) :: (.int n153_0_12) :: tl)) :: (y3, .inl (cs.2.1, 900, .inl f3)) :: (y4, .inl (cs.2.1, 1302, .inl F158_2)) :: X) H := hH
              refine W.widen (k := 0) (n := 0) (Nat.le_of_ble_eq_true rfl) (Nat.le_of_ble_eq_true rfl) ?_
              exact te_v hx hb hr hlocks hH hS (⟨n153_0_6, n153_0_7, n153_0_9, n153_0_10, n153_0_11, n153_0_12, F158_2, rfl, s_F158_2, by omega, by omega, by omega, x_v1534, by omega, by omega, (by first | (refine RD_op x_v757 ?_ x_v1537 x_v1581; omega) | (refine RD_op x_v1537 ?_ x_v757 x_v1581; omega) | exact x_v757 | exact x_v1537 | (refine RD_le x_v757 ?_; omega) | (refine RD_le x_v1537 ?_; omega) | (intro q; obtain ⟨c1, c2⟩ := x_v1581 q; refine ⟨?_, ?_, ?_⟩ <;> omega) | (intro q; obtain ⟨c0, c1, c2⟩ := x_v1537 q; refine ⟨?_, ?_, ?_⟩ <;> omega) | (intro q; obtain ⟨c0, c1, c2⟩ := x_v1537 q; obtain ⟨d1, d2⟩ := x_v1581 q; refine ⟨?_, ?_, ?_⟩ <;> omega)), (by first | (exact g18.seq x_v228) | (refine g58.seq (RG_nx ?_ x_v617.1 (fun _ _ => st_xY ?_) x_v617.2.1) <;> omega) | (exact g58.seq (RG_f (m := 2) (G := []) x_v691 (RG.msw x_v558) (by decide) (by decide) (fun q9 _ _ => st_xN (by have q8 := (RG.msw x_v558 q9).2.2.2.1; omega)))) | (exact g151.seq x_v1538) | (exact RG_f (m := 4) (G := []) x_v119 hms (by decide) (by decide) (fun q9 _ _ => st_uND (by omega))) | (exact RG_f (m := 4) (G := []) x_v449 hms (by decide) (by decide) (fun q9 _ _ => st_uBD (by omega)))), (FKP.tr (FKP.tr (FKP.tr FKP.rf x_v759) x_v1539) x_v1582)⟩) dX12_readUnit_161
            · skip
              have tc127 := f_eq (k := 0) (by decide) c127
              clear x_v1240
              replace x_v1241 := x_v1241.resolve_left (fun q9 => q9 tc127)
              refine lv_aload_n hx hb dX12_readUnit_130 rfl (lv_at hl 1 rfl) ?_
              refine lv_bipush (v := 41) hx hb dX12_readUnit_131 (by decide) ?_
              have z9_41 : (41 : Int32).toInt = 41 := by decide
              refine tk_i hH hS hA (tr_V (n := 1) (As := [.int 41]) hx hb hml hown hts hkb hH (ox_map hOX rfl) hks hE hS hA (s_M_is l D cs kf T (y4 :: O) ((y4, .inl (cs.2.1, 1302, .inl F75_2)) :: X) a0 hg mq (41) o0 o1 o2 y3 y4 o5 n75_0_6 n75_0_7 y8 n75_0_9 n75_0_10 n75_0_11 n75_0_12 tl f3 t tn t_a0 b_hg t_y3 t_y4 (by omega) (by omega) (by omega) (by omega) (by omega) (by omega) (by omega) (by omega) (by omega) htm (hO.sub (by decide))) kw_1370 kw_1372 ks_47 kw_13 kw_1373 (by decide +kernel) ⟨Nat.le_of_ble_eq_true rfl, Nat.le_of_ble_eq_true rfl⟩ (x_recv (ci := 12) hkb hH 0 rfl rfl) rfl rfl hl.1 (Nat.le_of_ble_eq_true rfl) dX12_readUnit_133 ⟨Nat.le_of_ble_eq_true rfl, Nat.le_of_ble_eq_true rfl⟩) (fun v133 u H locs hz9 hH hS => ?_)
              obtain ⟨rfl, l_v133, u_v133, x_v1330, x_v1331⟩ := hz9
              have hH : HT D cs A T (a0 :: y3 :: y4 :: O) ((a0, .inr (12, o0 :: o1 :: o2 :: (.ref y3) :: (.ref y4) :: o5 :: (.int n75_0_6) :: (.int n75_0_7) :: (.int y8) :: (.int n75_0_9) :: (.int n75_0_10) :: (.int n75_0_11) :: (.int n75_0_12) :: tl)) :: (y3, .inl (cs.2.1, 900, .inl f3)) :: (y4, .inl (cs.2.1, 1302, .inl F75_2)) :: X) H := hH
              refine W.widen (k := 0) (n := 0) (Nat.le_of_ble_eq_true rfl) (Nat.le_of_ble_eq_true rfl) ?_
              refine lv_if_eq (tgt := 146) hx hb dX12_readUnit_136 (by decide) (fun c136 => ?_) (fun c136 => ?_)
              · skip
                have tc136 := f_eq (k := 0) (by decide) c136
                clear x_v1330
                replace x_v1331 := x_v1331.resolve_left (fun q9 => q9 tc136)
                refine lv_aload_n hx hb dX12_readUnit_146 rfl (lv_at hl 1 rfl) ?_
                refine lv_iconst (v := 2) hx hb dX12_readUnit_147 (by decide) ?_
                have z9_2 : (2 : Int32).toInt = 2 := by decide
                refine tk_v hH hS hA (tr_V (n := 1) (As := [.int 2]) hx hb hml hown hts hkb hH (ox_map hOX rfl) hks hE hS hA (s_M_fails l D cs kf T (y4 :: O) ((y4, .inl (cs.2.1, 1302, .inl F75_2)) :: X) a0 hg mq (2) o0 o1 o2 y3 y4 o5 n75_0_6 n75_0_7 y8 n75_0_9 n75_0_10 n75_0_11 n75_0_12 tl f3 t tn t_a0 b_hg (by decide) (by decide) t_y3 t_y4 (by omega) (by omega) (by omega) (by omega) (by omega) (by omega) (by omega) (by omega) (by omega) htm (hO.sub (by decide))) kw_1378 kw_1380 ks_49 kw_13 kw_1381 (by decide +kernel) ⟨Nat.le_of_ble_eq_true rfl, Nat.le_of_ble_eq_true rfl⟩ (x_recv (ci := 12) hkb hH 0 rfl rfl) rfl rfl hl.1 (Nat.le_of_ble_eq_true rfl) dX12_readUnit_148 ⟨Nat.le_of_ble_eq_true rfl, Nat.le_of_ble_eq_true rfl⟩) (fun u H locs hz9 hH hS => ?_)
                obtain ⟨n148_0_11, n148_0_12, rfl, x_v1480, x_v1481⟩ := hz9
                have hH : HT D cs A T (a0 :: y3 :: y4 :: O) ((a0, .inr (12, o0 :: o1 :: o2 :: (.ref y3) :: (.ref y4) :: o5 :: (.int n75_0_6) :: (.int n75_0_7) :: (.int y8) :: (.int n75_0_9) :: (.int n75_0_10) :: (.int n148_0_11) :: (.int n148_0_12) :: tl)) :: (y3, .inl (cs.2.1, 900, .inl f3)) :: (y4, .inl (cs.2.1, 1302, .inl F75_2)) :: X) H := hH
                refine W.widen (k := 0) (n := 0) (Nat.le_of_ble_eq_true rfl) (Nat.le_of_ble_eq_true rfl) ?_
                have g151 : RG t tn [(5, 3)] [(3, 3)] y11 y12 y6 n148_0_11 n148_0_12 n75_0_6 n75_0_7 n75_0_9 n75_0_10 := (by first | (refine g78.seq (RG_nx ?_ x_v1406 (fun _ _ => st_cY ?_) ((RG.msw x_v758 ?_).nx x_v1407)) <;> omega) | (exact g78.seq (RG_f (m := 2) (G := []) x_v1481 (RG.msw x_v758) (by decide) (by decide) (fun q9 _ _ => st_cN (by have q8 := (RG.msw x_v758 q9).2.2.2.1; omega)))))
                refine lv_aload_n hx hb dX12_readUnit_151 rfl (lv_at hl 1 rfl) ?_
                refine lv_iload_n hx hb dX12_readUnit_152 rfl (lv_at hl 2 rfl) ?_
                refine tk_v hH hS hA (tr_V (n := 1) (As := [.int x1]) hx hb hml hown hts hkb hH (ox_map hOX rfl) hks hE hS hA (s_M_readSum3 l D cs kf T O X a0 hg mq x1 o0 o1 o2 y3 y4 o5 n75_0_6 n75_0_7 y8 n75_0_9 n75_0_10 n148_0_11 n148_0_12 tl f3 F75_2 t tn t_a0 b_hg (by omega) (by omega) t_y3 t_y4 (by omega) (by omega) (by omega) (by omega) (by omega) (by omega) (by omega) (by omega) s_F75_2 (by omega) htm (by omega) (by omega) x_v754 (by first | exact k4 | exact (fun q => absurd q x_v1480) | (refine RD_sl k4 x_v757 ?_; omega) | (intro _; omega)) (fun q9 => absurd q9 x_v1480) (hO.sub (by decide))) kw_1422 kw_1424 ks_60 kw_13 kw_1425 (by decide +kernel) ⟨Nat.le_of_ble_eq_true rfl, Nat.le_of_ble_eq_true rfl⟩ (x_recv (ci := 12) hkb hH 0 rfl rfl) rfl rfl hl.1 (Nat.le_of_ble_eq_true rfl) dX12_readUnit_153 ⟨Nat.le_of_ble_eq_true rfl, Nat.le_of_ble_eq_true rfl⟩) (fun u H locs hz9 hH hS => ?_)
                obtain ⟨n153_0_6, n153_0_7, n153_0_9, n153_0_10, n153_0_11, n153_0_12, F153_2, rfl, x_v1530, x_v1531, x_v1532, x_v1533, x_v1534, x_v1535, x_v1536, x_v1537, x_v1538, x_v1539⟩ := hz9
                have s_F153_2 := x_v1530
                have hH : HT D cs A T (a0 :: y3 :: y4 :: O) ((a0, .inr (12, o0 :: o1 :: o2 :: (.ref y3) :: (.ref y4) :: o5 :: (.int n153_0_6) :: (.int n153_0_7) :: (.int y8) :: (.int n153_0_9) :: (.int n153_0_10) :: (.int n153_0_11) :: (.int n153_0_12) :: tl)) :: (y3, .inl (cs.2.1, 900, .inl f3)) :: (y4, .inl (cs.2.1, 1302, .inl F153_2)) :: X) H := hH
                refine W.widen (k := 0) (n := 0) (Nat.le_of_ble_eq_true rfl) (Nat.le_of_ble_eq_true rfl) ?_
                refine lv_aload_n hx hb dX12_readUnit_156 rfl (lv_at hl 1 rfl) ?_
                refine lv_iload_n hx hb dX12_readUnit_157 rfl (lv_at hl 0 rfl) ?_
                have z9_3005 : (3005 : Int32).toInt = 3005 := by decide
                refine tk_v hH hS hA (tr_V (n := 1) (As := [.int 3005]) hx hb hml hown hts hkb hH (ox_map hOX rfl) hks hE hS hA (s_M_codesO l D cs kf T O X a0 hg mq (3005) o0 o1 o2 y3 y4 o5 n153_0_6 n153_0_7 y8 n153_0_9 n153_0_10 n153_0_11 n153_0_12 tl f3 F153_2 t tn t_a0 b_hg (by decide) (by decide) t_y3 t_y4 (by omega) (by omega) (by omega) (by omega) (by omega) (by omega) (by omega) (by omega) s_F153_2 (by omega) htm (by first | exact (fun q => absurd q x_v1480) | exact (fun q => absurd (x_v757 q).1 x_v1480) | exact (fun q => absurd (x_v1537 q).1 x_v1480) | (intro q; constructor <;> omega) | (intro q; obtain ⟨c0, c1, c2⟩ := x_v757 q; constructor <;> omega) | (intro q; obtain ⟨c0, c1, c2⟩ := x_v1537 q; constructor <;> omega) | (refine RD_cp k4 hd0 x_v757 ?_ x_v1537 ?_ <;> omega) | (refine RD_cp k4 hd0 x_v1537 ?_ x_v757 ?_ <;> omega)) (hO.sub (by decide))) kw_1418 kw_1420 ks_59 kw_13 kw_1421 (by decide +kernel) ⟨Nat.le_of_ble_eq_true rfl, Nat.le_of_ble_eq_true rfl⟩ (x_recv (ci := 12) hkb hH 0 rfl rfl) rfl rfl hl.1 (Nat.le_of_ble_eq_true rfl) dX12_readUnit_158 ⟨Nat.le_of_ble_eq_true rfl, Nat.le_of_ble_eq_true rfl⟩) (fun u H locs hz9 hH hS => ?_)
                obtain ⟨F158_2, rfl, x_v1580, x_v1581, x_v1582⟩ := hz9
                have s_F158_2 := x_v1580
                have hH : HT D cs A T (a0 :: y3 :: y4 :: O) ((a0, .inr (12, o0 :: o1 :: o2 :: (.ref y3) :: (.ref y4) :: o5 :: (.int n153_0_6) :: (.int n153_0_7) :: (.int y8) :: (.int n153_0_9) :: (.int n153_0_10) :: (.int n153_0_11) :: (.int n153_0_12) :: tl)) :: (y3, .inl (cs.2.1, 900, .inl f3)) :: (y4, .inl (cs.2.1, 1302, .inl F158_2)) :: X) H := hH
                refine W.widen (k := 0) (n := 0) (Nat.le_of_ble_eq_true rfl) (Nat.le_of_ble_eq_true rfl) ?_
                exact te_v hx hb hr hlocks hH hS (⟨n153_0_6, n153_0_7, n153_0_9, n153_0_10, n153_0_11, n153_0_12, F158_2, rfl, s_F158_2, by omega, by omega, by omega, x_v1534, by omega, by omega, (by first | exact (fun q => absurd q x_v1480) | exact (fun q => absurd (x_v757 q).1 x_v1480) | exact (fun q => absurd (x_v1537 q).1 x_v1480) | (refine RD_op x_v757 ?_ x_v1537 x_v1581; omega) | (refine RD_op x_v1537 ?_ x_v757 x_v1581; omega) | exact x_v757 | exact x_v1537 | (refine RD_le x_v757 ?_; omega) | (refine RD_le x_v1537 ?_; omega) | (intro q; obtain ⟨c1, c2⟩ := x_v1581 q; refine ⟨?_, ?_, ?_⟩ <;> omega) | (intro q; obtain ⟨c0, c1, c2⟩ := x_v1537 q; refine ⟨?_, ?_, ?_⟩ <;> omega) | (intro q; obtain ⟨c0, c1, c2⟩ := x_v1537 q; obtain ⟨d1, d2⟩ := x_v1581 q; refine ⟨?_, ?_, ?_⟩ <;> omega)), (by first | (exact g18.seq x_v228) | (refine g58.seq (RG_nx ?_ x_v617.1 (fun _ _ => st_xY ?_) x_v617.2.1) <;> omega) | (exact g58.seq (RG_f (m := 2) (G := []) x_v691 (RG.msw x_v558) (by decide) (by decide) (fun q9 _ _ => st_xN (by have q8 := (RG.msw x_v558 q9).2.2.2.1; omega)))) | (exact g151.seq x_v1538) | (exact RG_f (m := 4) (G := []) x_v119 hms (by decide) (by decide) (fun q9 _ _ => st_uND (by omega))) | (exact RG_f (m := 4) (G := []) x_v449 hms (by decide) (by decide) (fun q9 _ _ => st_uBD (by omega)))), (FKP.tr (FKP.tr (FKP.tr FKP.rf x_v759) x_v1539) x_v1582)⟩) dX12_readUnit_161
              · skip
                have tc136 := f_ne (k := 0) (by decide) c136
                replace x_v1330 := x_v1330.resolve_left tc136
                clear x_v1331
                have hk5 := x_v754 (by omega)
                have hq5 := (RG.msw x_v758 (by omega)).2.2.2.1
                refine lv_aload_n hx hb dX12_readUnit_139 rfl (lv_at hl 1 rfl) ?_
                refine tk_v hH hS hA (tr_V (n := 0) (As := []) hx hb hml hown hts hkb hH (ox_map hOX rfl) hks hE hS hA (s_M_next l D cs kf T (y4 :: O) ((y4, .inl (cs.2.1, 1302, .inl F75_2)) :: X) a0 hg mq o0 o1 o2 y3 y4 o5 n75_0_6 n75_0_7 y8 n75_0_9 n75_0_10 n75_0_11 n75_0_12 tl f3 t tn t_a0 b_hg t_y3 t_y4 (by omega) (by omega) (by omega) (by omega) (by omega) (by omega) (by omega) (by omega) (by omega) htm (by omega) (hO.sub (by decide))) kw_1344 kw_1346 ks_43 kw_13 kw_1347 (by decide +kernel) ⟨Nat.le_of_ble_eq_true rfl, Nat.le_of_ble_eq_true rfl⟩ (x_recv (ci := 12) hkb hH 0 rfl rfl) rfl rfl hl.1 (Nat.le_of_ble_eq_true rfl) dX12_readUnit_140 ⟨Nat.le_of_ble_eq_true rfl, Nat.le_of_ble_eq_true rfl⟩) (fun u H locs hz9 hH hS => ?_)
                obtain ⟨n140_0_6, n140_0_7, n140_0_9, n140_0_10, rfl, x_v1400, x_v1401, x_v1402, x_v1403, x_v1404, x_v1405, x_v1406, x_v1407⟩ := hz9
                have hH : HT D cs A T (a0 :: y3 :: y4 :: O) ((a0, .inr (12, o0 :: o1 :: o2 :: (.ref y3) :: (.ref y4) :: o5 :: (.int n140_0_6) :: (.int n140_0_7) :: (.int y8) :: (.int n140_0_9) :: (.int n140_0_10) :: (.int n75_0_11) :: (.int n75_0_12) :: tl)) :: (y3, .inl (cs.2.1, 900, .inl f3)) :: (y4, .inl (cs.2.1, 1302, .inl F75_2)) :: X) H := hH
                refine W.widen (k := 0) (n := 0) (Nat.le_of_ble_eq_true rfl) (Nat.le_of_ble_eq_true rfl) ?_
                refine lv_goto (tgt := 151) hx hb dX12_readUnit_143 (by decide) ?_
                have g151 : RG t tn [(5, 3)] [(3, 3)] y11 y12 y6 n75_0_11 n75_0_12 n140_0_6 n140_0_7 n140_0_9 n140_0_10 := (by first | (refine g78.seq (RG_nx ?_ x_v1406 (fun _ _ => st_cY ?_) ((RG.msw x_v758 ?_).nx x_v1407)) <;> omega) | (exact g78.seq (RG_f (m := 2) (G := []) x_v1481 (RG.msw x_v758) (by decide) (by decide) (fun q9 _ _ => st_cN (by have q8 := (RG.msw x_v758 q9).2.2.2.1; omega)))))
                refine lv_aload_n hx hb dX12_readUnit_151 rfl (lv_at hl 1 rfl) ?_
                refine lv_iload_n hx hb dX12_readUnit_152 rfl (lv_at hl 2 rfl) ?_
                refine tk_v hH hS hA (tr_V (n := 1) (As := [.int x1]) hx hb hml hown hts hkb hH (ox_map hOX rfl) hks hE hS hA (s_M_readSum3 l D cs kf T O X a0 hg mq x1 o0 o1 o2 y3 y4 o5 n140_0_6 n140_0_7 y8 n140_0_9 n140_0_10 n75_0_11 n75_0_12 tl f3 F75_2 t tn t_a0 b_hg (by omega) (by omega) t_y3 t_y4 (by omega) (by omega) (by omega) (by omega) (by omega) (by omega) (by omega) (by omega) s_F75_2 (by omega) htm (by omega) (by omega) x_v1403 (by first | exact k4 | (refine RD_sl k4 x_v757 ?_; omega) | (intro _; omega)) (fun _ => x_v1406) (hO.sub (by decide))) kw_1422 kw_1424 ks_60 kw_13 kw_1425 (by decide +kernel) ⟨Nat.le_of_ble_eq_true rfl, Nat.le_of_ble_eq_true rfl⟩ (x_recv (ci := 12) hkb hH 0 rfl rfl) rfl rfl hl.1 (Nat.le_of_ble_eq_true rfl) dX12_readUnit_153 ⟨Nat.le_of_ble_eq_true rfl, Nat.le_of_ble_eq_true rfl⟩) (fun u H locs hz9 hH hS => ?_)
                obtain ⟨n153_0_6, n153_0_7, n153_0_9, n153_0_10, n153_0_11, n153_0_12, F153_2, rfl, x_v1530, x_v1531, x_v1532, x_v1533, x_v1534, x_v1535, x_v1536, x_v1537, x_v1538, x_v1539⟩ := hz9
                have s_F153_2 := x_v1530
                have hH : HT D cs A T (a0 :: y3 :: y4 :: O) ((a0, .inr (12, o0 :: o1 :: o2 :: (.ref y3) :: (.ref y4) :: o5 :: (.int n153_0_6) :: (.int n153_0_7) :: (.int y8) :: (.int n153_0_9) :: (.int n153_0_10) :: (.int n153_0_11) :: (.int n153_0_12) :: tl)) :: (y3, .inl (cs.2.1, 900, .inl f3)) :: (y4, .inl (cs.2.1, 1302, .inl F153_2)) :: X) H := hH
                refine W.widen (k := 0) (n := 0) (Nat.le_of_ble_eq_true rfl) (Nat.le_of_ble_eq_true rfl) ?_
                refine lv_aload_n hx hb dX12_readUnit_156 rfl (lv_at hl 1 rfl) ?_
                refine lv_iload_n hx hb dX12_readUnit_157 rfl (lv_at hl 0 rfl) ?_
                have z9_3005 : (3005 : Int32).toInt = 3005 := by decide
                refine tk_v hH hS hA (tr_V (n := 1) (As := [.int 3005]) hx hb hml hown hts hkb hH (ox_map hOX rfl) hks hE hS hA (s_M_codesO l D cs kf T O X a0 hg mq (3005) o0 o1 o2 y3 y4 o5 n153_0_6 n153_0_7 y8 n153_0_9 n153_0_10 n153_0_11 n153_0_12 tl f3 F153_2 t tn t_a0 b_hg (by decide) (by decide) t_y3 t_y4 (by omega) (by omega) (by omega) (by omega) (by omega) (by omega) (by omega) (by omega) s_F153_2 (by omega) htm (by first | (intro q; constructor <;> omega) | (intro q; obtain ⟨c0, c1, c2⟩ := x_v757 q; constructor <;> omega) | (intro q; obtain ⟨c0, c1, c2⟩ := x_v1537 q; constructor <;> omega) | (refine RD_cp k4 hd0 x_v757 ?_ x_v1537 ?_ <;> omega) | (refine RD_cp k4 hd0 x_v1537 ?_ x_v757 ?_ <;> omega)) (hO.sub (by decide))) kw_1418 kw_1420 ks_59 kw_13 kw_1421 (by decide +kernel) ⟨Nat.le_of_ble_eq_true rfl, Nat.le_of_ble_eq_true rfl⟩ (x_recv (ci := 12) hkb hH 0 rfl rfl) rfl rfl hl.1 (Nat.le_of_ble_eq_true rfl) dX12_readUnit_158 ⟨Nat.le_of_ble_eq_true rfl, Nat.le_of_ble_eq_true rfl⟩) (fun u H locs hz9 hH hS => ?_)
                obtain ⟨F158_2, rfl, x_v1580, x_v1581, x_v1582⟩ := hz9
                have s_F158_2 := x_v1580
                have hH : HT D cs A T (a0 :: y3 :: y4 :: O) ((a0, .inr (12, o0 :: o1 :: o2 :: (.ref y3) :: (.ref y4) :: o5 :: (.int n153_0_6) :: (.int n153_0_7) :: (.int y8) :: (.int n153_0_9) :: (.int n153_0_10) :: (.int n153_0_11) :: (.int n153_0_12) :: tl)) :: (y3, .inl (cs.2.1, 900, .inl f3)) :: (y4, .inl (cs.2.1, 1302, .inl F158_2)) :: X) H := hH
                refine W.widen (k := 0) (n := 0) (Nat.le_of_ble_eq_true rfl) (Nat.le_of_ble_eq_true rfl) ?_
                exact te_v hx hb hr hlocks hH hS (⟨n153_0_6, n153_0_7, n153_0_9, n153_0_10, n153_0_11, n153_0_12, F158_2, rfl, s_F158_2, by omega, by omega, by omega, x_v1534, by omega, by omega, (by first | (refine RD_op x_v757 ?_ x_v1537 x_v1581; omega) | (refine RD_op x_v1537 ?_ x_v757 x_v1581; omega) | exact x_v757 | exact x_v1537 | (refine RD_le x_v757 ?_; omega) | (refine RD_le x_v1537 ?_; omega) | (intro q; obtain ⟨c1, c2⟩ := x_v1581 q; refine ⟨?_, ?_, ?_⟩ <;> omega) | (intro q; obtain ⟨c0, c1, c2⟩ := x_v1537 q; refine ⟨?_, ?_, ?_⟩ <;> omega) | (intro q; obtain ⟨c0, c1, c2⟩ := x_v1537 q; obtain ⟨d1, d2⟩ := x_v1581 q; refine ⟨?_, ?_, ?_⟩ <;> omega)), (by first | (exact g18.seq x_v228) | (refine g58.seq (RG_nx ?_ x_v617.1 (fun _ _ => st_xY ?_) x_v617.2.1) <;> omega) | (exact g58.seq (RG_f (m := 2) (G := []) x_v691 (RG.msw x_v558) (by decide) (by decide) (fun q9 _ _ => st_xN (by have q8 := (RG.msw x_v558 q9).2.2.2.1; omega)))) | (exact g151.seq x_v1538) | (exact RG_f (m := 4) (G := []) x_v119 hms (by decide) (by decide) (fun q9 _ _ => st_uND (by omega))) | (exact RG_f (m := 4) (G := []) x_v449 hms (by decide) (by decide) (fun q9 _ _ => st_uBD (by omega)))), (FKP.tr (FKP.tr (FKP.tr FKP.rf x_v759) x_v1539) x_v1582)⟩) dX12_readUnit_161
        · skip
          have tc99 := f_ne (k := 0) (by decide) c99
          replace x_v960 := x_v960.resolve_left tc99
          clear x_v961
          refine lv_sipush (v := 3004) hx hb dX12_readUnit_102 (by decide) ?_
          refine lv_goto (tgt := 111) hx hb dX12_readUnit_105 (by decide) ?_
          refine lv_istore_n (lv' := [(2, .int 3004), (0, .ref a0), (1, .int x1)]) hx hb dX12_readUnit_111 rfl hl (by decide) rfl (fun ls hl => ?_)
          refine lv_aload_n hx hb dX12_readUnit_112 rfl (lv_at hl 1 rfl) ?_
          refine lv_bipush (v := 39) hx hb dX12_readUnit_113 (by decide) ?_
          have z9_39 : (39 : Int32).toInt = 39 := by decide
          refine tk_i hH hS hA (tr_V (n := 1) (As := [.int 39]) hx hb hml hown hts hkb hH (ox_map hOX rfl) hks hE hS hA (s_M_is l D cs kf T (y4 :: O) ((y4, .inl (cs.2.1, 1302, .inl F75_2)) :: X) a0 hg mq (39) o0 o1 o2 y3 y4 o5 n75_0_6 n75_0_7 y8 n75_0_9 n75_0_10 n75_0_11 n75_0_12 tl f3 t tn t_a0 b_hg t_y3 t_y4 (by omega) (by omega) (by omega) (by omega) (by omega) (by omega) (by omega) (by omega) (by omega) htm (hO.sub (by decide))) kw_1370 kw_1372 ks_47 kw_13 kw_1373 (by decide +kernel) ⟨Nat.le_of_ble_eq_true rfl, Nat.le_of_ble_eq_true rfl⟩ (x_recv (ci := 12) hkb hH 0 rfl rfl) rfl rfl hl.1 (Nat.le_of_ble_eq_true rfl) dX12_readUnit_115 ⟨Nat.le_of_ble_eq_true rfl, Nat.le_of_ble_eq_true rfl⟩) (fun v115 u H locs hz9 hH hS => ?_)
          obtain ⟨rfl, l_v115, u_v115, x_v1150, x_v1151⟩ := hz9
          have hH : HT D cs A T (a0 :: y3 :: y4 :: O) ((a0, .inr (12, o0 :: o1 :: o2 :: (.ref y3) :: (.ref y4) :: o5 :: (.int n75_0_6) :: (.int n75_0_7) :: (.int y8) :: (.int n75_0_9) :: (.int n75_0_10) :: (.int n75_0_11) :: (.int n75_0_12) :: tl)) :: (y3, .inl (cs.2.1, 900, .inl f3)) :: (y4, .inl (cs.2.1, 1302, .inl F75_2)) :: X) H := hH
          refine W.widen (k := 0) (n := 0) (Nat.le_of_ble_eq_true rfl) (Nat.le_of_ble_eq_true rfl) ?_
          refine lv_if_ne (tgt := 139) hx hb dX12_readUnit_118 (by decide) (fun c118 => ?_) (fun c118 => ?_)
          · skip
            have tc118 := f_ne (k := 0) (by decide) c118
            replace x_v1150 := x_v1150.resolve_left tc118
            clear x_v1151
            have hk5 := x_v754 (by omega)
            have hq5 := (RG.msw x_v758 (by omega)).2.2.2.1
            refine lv_aload_n hx hb dX12_readUnit_139 rfl (lv_at hl 1 rfl) ?_
            refine tk_v hH hS hA (tr_V (n := 0) (As := []) hx hb hml hown hts hkb hH (ox_map hOX rfl) hks hE hS hA (s_M_next l D cs kf T (y4 :: O) ((y4, .inl (cs.2.1, 1302, .inl F75_2)) :: X) a0 hg mq o0 o1 o2 y3 y4 o5 n75_0_6 n75_0_7 y8 n75_0_9 n75_0_10 n75_0_11 n75_0_12 tl f3 t tn t_a0 b_hg t_y3 t_y4 (by omega) (by omega) (by omega) (by omega) (by omega) (by omega) (by omega) (by omega) (by omega) htm (by omega) (hO.sub (by decide))) kw_1344 kw_1346 ks_43 kw_13 kw_1347 (by decide +kernel) ⟨Nat.le_of_ble_eq_true rfl, Nat.le_of_ble_eq_true rfl⟩ (x_recv (ci := 12) hkb hH 0 rfl rfl) rfl rfl hl.1 (Nat.le_of_ble_eq_true rfl) dX12_readUnit_140 ⟨Nat.le_of_ble_eq_true rfl, Nat.le_of_ble_eq_true rfl⟩) (fun u H locs hz9 hH hS => ?_)
            obtain ⟨n140_0_6, n140_0_7, n140_0_9, n140_0_10, rfl, x_v1400, x_v1401, x_v1402, x_v1403, x_v1404, x_v1405, x_v1406, x_v1407⟩ := hz9
            have hH : HT D cs A T (a0 :: y3 :: y4 :: O) ((a0, .inr (12, o0 :: o1 :: o2 :: (.ref y3) :: (.ref y4) :: o5 :: (.int n140_0_6) :: (.int n140_0_7) :: (.int y8) :: (.int n140_0_9) :: (.int n140_0_10) :: (.int n75_0_11) :: (.int n75_0_12) :: tl)) :: (y3, .inl (cs.2.1, 900, .inl f3)) :: (y4, .inl (cs.2.1, 1302, .inl F75_2)) :: X) H := hH
            refine W.widen (k := 0) (n := 0) (Nat.le_of_ble_eq_true rfl) (Nat.le_of_ble_eq_true rfl) ?_
            refine lv_goto (tgt := 151) hx hb dX12_readUnit_143 (by decide) ?_
            have g151 : RG t tn [(5, 3)] [(3, 3)] y11 y12 y6 n75_0_11 n75_0_12 n140_0_6 n140_0_7 n140_0_9 n140_0_10 := (by first | (refine g78.seq (RG_nx ?_ x_v1406 (fun _ _ => st_cY ?_) ((RG.msw x_v758 ?_).nx x_v1407)) <;> omega) | (exact g78.seq (RG_f (m := 2) (G := []) x_v1481 (RG.msw x_v758) (by decide) (by decide) (fun q9 _ _ => st_cN (by have q8 := (RG.msw x_v758 q9).2.2.2.1; omega)))))
            refine lv_aload_n hx hb dX12_readUnit_151 rfl (lv_at hl 1 rfl) ?_
            refine lv_iload_n hx hb dX12_readUnit_152 rfl (lv_at hl 2 rfl) ?_
            refine tk_v hH hS hA (tr_V (n := 1) (As := [.int x1]) hx hb hml hown hts hkb hH (ox_map hOX rfl) hks hE hS hA (s_M_readSum3 l D cs kf T O X a0 hg mq x1 o0 o1 o2 y3 y4 o5 n140_0_6 n140_0_7 y8 n140_0_9 n140_0_10 n75_0_11 n75_0_12 tl f3 F75_2 t tn t_a0 b_hg (by omega) (by omega) t_y3 t_y4 (by omega) (by omega) (by omega) (by omega) (by omega) (by omega) (by omega) (by omega) s_F75_2 (by omega) htm (by omega) (by omega) x_v1403 (by first | exact k4 | (refine RD_sl k4 x_v757 ?_; omega) | (intro _; omega)) (fun _ => x_v1406) (hO.sub (by decide))) kw_1422 kw_1424 ks_60 kw_13 kw_1425 (by decide +kernel) ⟨Nat.le_of_ble_eq_true rfl, Nat.le_of_ble_eq_true rfl⟩ (x_recv (ci := 12) hkb hH 0 rfl rfl) rfl rfl hl.1 (Nat.le_of_ble_eq_true rfl) dX12_readUnit_153 ⟨Nat.le_of_ble_eq_true rfl, Nat.le_of_ble_eq_true rfl⟩) (fun u H locs hz9 hH hS => ?_)
            obtain ⟨n153_0_6, n153_0_7, n153_0_9, n153_0_10, n153_0_11, n153_0_12, F153_2, rfl, x_v1530, x_v1531, x_v1532, x_v1533, x_v1534, x_v1535, x_v1536, x_v1537, x_v1538, x_v1539⟩ := hz9
            have s_F153_2 := x_v1530
            have hH : HT D cs A T (a0 :: y3 :: y4 :: O) ((a0, .inr (12, o0 :: o1 :: o2 :: (.ref y3) :: (.ref y4) :: o5 :: (.int n153_0_6) :: (.int n153_0_7) :: (.int y8) :: (.int n153_0_9) :: (.int n153_0_10) :: (.int n153_0_11) :: (.int n153_0_12) :: tl)) :: (y3, .inl (cs.2.1, 900, .inl f3)) :: (y4, .inl (cs.2.1, 1302, .inl F153_2)) :: X) H := hH
            refine W.widen (k := 0) (n := 0) (Nat.le_of_ble_eq_true rfl) (Nat.le_of_ble_eq_true rfl) ?_
            refine lv_aload_n hx hb dX12_readUnit_156 rfl (lv_at hl 1 rfl) ?_
            refine lv_iload_n hx hb dX12_readUnit_157 rfl (lv_at hl 0 rfl) ?_
            have z9_3004 : (3004 : Int32).toInt = 3004 := by decide
            refine tk_v hH hS hA (tr_V (n := 1) (As := [.int 3004]) hx hb hml hown hts hkb hH (ox_map hOX rfl) hks hE hS hA (s_M_codesO l D cs kf T O X a0 hg mq (3004) o0 o1 o2 y3 y4 o5 n153_0_6 n153_0_7 y8 n153_0_9 n153_0_10 n153_0_11 n153_0_12 tl f3 F153_2 t tn t_a0 b_hg (by decide) (by decide) t_y3 t_y4 (by omega) (by omega) (by omega) (by omega) (by omega) (by omega) (by omega) (by omega) s_F153_2 (by omega) htm (by first | (intro q; constructor <;> omega) | (intro q; obtain ⟨c0, c1, c2⟩ := x_v757 q; constructor <;> omega) | (intro q; obtain ⟨c0, c1, c2⟩ := x_v1537 q; constructor <;> omega) | (refine RD_cp k4 hd0 x_v757 ?_ x_v1537 ?_ <;> omega) | (refine RD_cp k4 hd0 x_v1537 ?_ x_v757 ?_ <;> omega)) (hO.sub (by decide))) kw_1418 kw_1420 ks_59 kw_13 kw_1421 (by decide +kernel) ⟨Nat.le_of_ble_eq_true rfl, Nat.le_of_ble_eq_true rfl⟩ (x_recv (ci := 12) hkb hH 0 rfl rfl) rfl rfl hl.1 (Nat.le_of_ble_eq_true rfl) dX12_readUnit_158 ⟨Nat.le_of_ble_eq_true rfl, Nat.le_of_ble_eq_true rfl⟩) (fun u H locs hz9 hH hS => ?_)
            obtain ⟨F158_2, rfl, x_v1580, x_v1581, x_v1582⟩ := hz9
            have s_F158_2 := x_v1580
            have hH : HT D cs A T (a0 :: y3 :: y4 :: O) ((a0, .inr (12, o0 :: o1 :: o2 :: (.ref y3) :: (.ref y4) :: o5 :: (.int n153_0_6) :: (.int n153_0_7) :: (.int y8) :: (.int n153_0_9) :: (.int n153_0_10) :: (.int n153_0_11) :: (.int n153_0_12) :: tl)) :: (y3, .inl (cs.2.1, 900, .inl f3)) :: (y4, .inl (cs.2.1, 1302, .inl F158_2)) :: X) H := hH
            refine W.widen (k := 0) (n := 0) (Nat.le_of_ble_eq_true rfl) (Nat.le_of_ble_eq_true rfl) ?_
            exact te_v hx hb hr hlocks hH hS (⟨n153_0_6, n153_0_7, n153_0_9, n153_0_10, n153_0_11, n153_0_12, F158_2, rfl, s_F158_2, by omega, by omega, by omega, x_v1534, by omega, by omega, (by first | (refine RD_op x_v757 ?_ x_v1537 x_v1581; omega) | (refine RD_op x_v1537 ?_ x_v757 x_v1581; omega) | exact x_v757 | exact x_v1537 | (refine RD_le x_v757 ?_; omega) | (refine RD_le x_v1537 ?_; omega) | (intro q; obtain ⟨c1, c2⟩ := x_v1581 q; refine ⟨?_, ?_, ?_⟩ <;> omega) | (intro q; obtain ⟨c0, c1, c2⟩ := x_v1537 q; refine ⟨?_, ?_, ?_⟩ <;> omega) | (intro q; obtain ⟨c0, c1, c2⟩ := x_v1537 q; obtain ⟨d1, d2⟩ := x_v1581 q; refine ⟨?_, ?_, ?_⟩ <;> omega)), (by first | (exact g18.seq x_v228) | (refine g58.seq (RG_nx ?_ x_v617.1 (fun _ _ => st_xY ?_) x_v617.2.1) <;> omega) | (exact g58.seq (RG_f (m := 2) (G := []) x_v691 (RG.msw x_v558) (by decide) (by decide) (fun q9 _ _ => st_xN (by have q8 := (RG.msw x_v558 q9).2.2.2.1; omega)))) | (exact g151.seq x_v1538) | (exact RG_f (m := 4) (G := []) x_v119 hms (by decide) (by decide) (fun q9 _ _ => st_uND (by omega))) | (exact RG_f (m := 4) (G := []) x_v449 hms (by decide) (by decide) (fun q9 _ _ => st_uBD (by omega)))), (FKP.tr (FKP.tr (FKP.tr FKP.rf x_v759) x_v1539) x_v1582)⟩) dX12_readUnit_161
          · skip
            have tc118 := f_eq (k := 0) (by decide) c118
            clear x_v1150
            replace x_v1151 := x_v1151.resolve_left (fun q9 => q9 tc118)
            refine lv_aload_n hx hb dX12_readUnit_121 rfl (lv_at hl 1 rfl) ?_
            refine lv_bipush (v := 40) hx hb dX12_readUnit_122 (by decide) ?_
            have z9_40 : (40 : Int32).toInt = 40 := by decide
            refine tk_i hH hS hA (tr_V (n := 1) (As := [.int 40]) hx hb hml hown hts hkb hH (ox_map hOX rfl) hks hE hS hA (s_M_is l D cs kf T (y4 :: O) ((y4, .inl (cs.2.1, 1302, .inl F75_2)) :: X) a0 hg mq (40) o0 o1 o2 y3 y4 o5 n75_0_6 n75_0_7 y8 n75_0_9 n75_0_10 n75_0_11 n75_0_12 tl f3 t tn t_a0 b_hg t_y3 t_y4 (by omega) (by omega) (by omega) (by omega) (by omega) (by omega) (by omega) (by omega) (by omega) htm (hO.sub (by decide))) kw_1370 kw_1372 ks_47 kw_13 kw_1373 (by decide +kernel) ⟨Nat.le_of_ble_eq_true rfl, Nat.le_of_ble_eq_true rfl⟩ (x_recv (ci := 12) hkb hH 0 rfl rfl) rfl rfl hl.1 (Nat.le_of_ble_eq_true rfl) dX12_readUnit_124 ⟨Nat.le_of_ble_eq_true rfl, Nat.le_of_ble_eq_true rfl⟩) (fun v124 u H locs hz9 hH hS => ?_)
            obtain ⟨rfl, l_v124, u_v124, x_v1240, x_v1241⟩ := hz9
            have hH : HT D cs A T (a0 :: y3 :: y4 :: O) ((a0, .inr (12, o0 :: o1 :: o2 :: (.ref y3) :: (.ref y4) :: o5 :: (.int n75_0_6) :: (.int n75_0_7) :: (.int y8) :: (.int n75_0_9) :: (.int n75_0_10) :: (.int n75_0_11) :: (.int n75_0_12) :: tl)) :: (y3, .inl (cs.2.1, 900, .inl f3)) :: (y4, .inl (cs.2.1, 1302, .inl F75_2)) :: X) H := hH
            refine W.widen (k := 0) (n := 0) (Nat.le_of_ble_eq_true rfl) (Nat.le_of_ble_eq_true rfl) ?_
            refine lv_if_ne (tgt := 139) hx hb dX12_readUnit_127 (by decide) (fun c127 => ?_) (fun c127 => ?_)
            · skip
              have tc127 := f_ne (k := 0) (by decide) c127
              replace x_v1240 := x_v1240.resolve_left tc127
              clear x_v1241
              have hk5 := x_v754 (by omega)
              have hq5 := (RG.msw x_v758 (by omega)).2.2.2.1
              refine lv_aload_n hx hb dX12_readUnit_139 rfl (lv_at hl 1 rfl) ?_
              refine tk_v hH hS hA (tr_V (n := 0) (As := []) hx hb hml hown hts hkb hH (ox_map hOX rfl) hks hE hS hA (s_M_next l D cs kf T (y4 :: O) ((y4, .inl (cs.2.1, 1302, .inl F75_2)) :: X) a0 hg mq o0 o1 o2 y3 y4 o5 n75_0_6 n75_0_7 y8 n75_0_9 n75_0_10 n75_0_11 n75_0_12 tl f3 t tn t_a0 b_hg t_y3 t_y4 (by omega) (by omega) (by omega) (by omega) (by omega) (by omega) (by omega) (by omega) (by omega) htm (by omega) (hO.sub (by decide))) kw_1344 kw_1346 ks_43 kw_13 kw_1347 (by decide +kernel) ⟨Nat.le_of_ble_eq_true rfl, Nat.le_of_ble_eq_true rfl⟩ (x_recv (ci := 12) hkb hH 0 rfl rfl) rfl rfl hl.1 (Nat.le_of_ble_eq_true rfl) dX12_readUnit_140 ⟨Nat.le_of_ble_eq_true rfl, Nat.le_of_ble_eq_true rfl⟩) (fun u H locs hz9 hH hS => ?_)
              obtain ⟨n140_0_6, n140_0_7, n140_0_9, n140_0_10, rfl, x_v1400, x_v1401, x_v1402, x_v1403, x_v1404, x_v1405, x_v1406, x_v1407⟩ := hz9
              have hH : HT D cs A T (a0 :: y3 :: y4 :: O) ((a0, .inr (12, o0 :: o1 :: o2 :: (.ref y3) :: (.ref y4) :: o5 :: (.int n140_0_6) :: (.int n140_0_7) :: (.int y8) :: (.int n140_0_9) :: (.int n140_0_10) :: (.int n75_0_11) :: (.int n75_0_12) :: tl)) :: (y3, .inl (cs.2.1, 900, .inl f3)) :: (y4, .inl (cs.2.1, 1302, .inl F75_2)) :: X) H := hH
              refine W.widen (k := 0) (n := 0) (Nat.le_of_ble_eq_true rfl) (Nat.le_of_ble_eq_true rfl) ?_
              refine lv_goto (tgt := 151) hx hb dX12_readUnit_143 (by decide) ?_
              have g151 : RG t tn [(5, 3)] [(3, 3)] y11 y12 y6 n75_0_11 n75_0_12 n140_0_6 n140_0_7 n140_0_9 n140_0_10 := (by first | (refine g78.seq (RG_nx ?_ x_v1406 (fun _ _ => st_cY ?_) ((RG.msw x_v758 ?_).nx x_v1407)) <;> omega) | (exact g78.seq (RG_f (m := 2) (G := []) x_v1481 (RG.msw x_v758) (by decide) (by decide) (fun q9 _ _ => st_cN (by have q8 := (RG.msw x_v758 q9).2.2.2.1; omega)))))
              refine lv_aload_n hx hb dX12_readUnit_151 rfl (lv_at hl 1 rfl) ?_
              refine lv_iload_n hx hb dX12_readUnit_152 rfl (lv_at hl 2 rfl) ?_
              refine tk_v hH hS hA (tr_V (n := 1) (As := [.int x1]) hx hb hml hown hts hkb hH (ox_map hOX rfl) hks hE hS hA (s_M_readSum3 l D cs kf T O X a0 hg mq x1 o0 o1 o2 y3 y4 o5 n140_0_6 n140_0_7 y8 n140_0_9 n140_0_10 n75_0_11 n75_0_12 tl f3 F75_2 t tn t_a0 b_hg (by omega) (by omega) t_y3 t_y4 (by omega) (by omega) (by omega) (by omega) (by omega) (by omega) (by omega) (by omega) s_F75_2 (by omega) htm (by omega) (by omega) x_v1403 (by first | exact k4 | (refine RD_sl k4 x_v757 ?_; omega) | (intro _; omega)) (fun _ => x_v1406) (hO.sub (by decide))) kw_1422 kw_1424 ks_60 kw_13 kw_1425 (by decide +kernel) ⟨Nat.le_of_ble_eq_true rfl, Nat.le_of_ble_eq_true rfl⟩ (x_recv (ci := 12) hkb hH 0 rfl rfl) rfl rfl hl.1 (Nat.le_of_ble_eq_true rfl) dX12_readUnit_153 ⟨Nat.le_of_ble_eq_true rfl, Nat.le_of_ble_eq_true rfl⟩) (fun u H locs hz9 hH hS => ?_)
              obtain ⟨n153_0_6, n153_0_7, n153_0_9, n153_0_10, n153_0_11, n153_0_12, F153_2, rfl, x_v1530, x_v1531, x_v1532, x_v1533, x_v1534, x_v1535, x_v1536, x_v1537, x_v1538, x_v1539⟩ := hz9
              have s_F153_2 := x_v1530
              have hH : HT D cs A T (a0 :: y3 :: y4 :: O) ((a0, .inr (12, o0 :: o1 :: o2 :: (.ref y3) :: (.ref y4) :: o5 :: (.int n153_0_6) :: (.int n153_0_7) :: (.int y8) :: (.int n153_0_9) :: (.int n153_0_10) :: (.int n153_0_11) :: (.int n153_0_12) :: tl)) :: (y3, .inl (cs.2.1, 900, .inl f3)) :: (y4, .inl (cs.2.1, 1302, .inl F153_2)) :: X) H := hH
              refine W.widen (k := 0) (n := 0) (Nat.le_of_ble_eq_true rfl) (Nat.le_of_ble_eq_true rfl) ?_
              refine lv_aload_n hx hb dX12_readUnit_156 rfl (lv_at hl 1 rfl) ?_
              refine lv_iload_n hx hb dX12_readUnit_157 rfl (lv_at hl 0 rfl) ?_
              have z9_3004 : (3004 : Int32).toInt = 3004 := by decide
              refine tk_v hH hS hA (tr_V (n := 1) (As := [.int 3004]) hx hb hml hown hts hkb hH (ox_map hOX rfl) hks hE hS hA (s_M_codesO l D cs kf T O X a0 hg mq (3004) o0 o1 o2 y3 y4 o5 n153_0_6 n153_0_7 y8 n153_0_9 n153_0_10 n153_0_11 n153_0_12 tl f3 F153_2 t tn t_a0 b_hg (by decide) (by decide) t_y3 t_y4 (by omega) (by omega) (by omega) (by omega) (by omega) (by omega) (by omega) (by omega) s_F153_2 (by omega) htm (by first | (intro q; constructor <;> omega) | (intro q; obtain ⟨c0, c1, c2⟩ := x_v757 q; constructor <;> omega) | (intro q; obtain ⟨c0, c1, c2⟩ := x_v1537 q; constructor <;> omega) | (refine RD_cp k4 hd0 x_v757 ?_ x_v1537 ?_ <;> omega) | (refine RD_cp k4 hd0 x_v1537 ?_ x_v757 ?_ <;> omega)) (hO.sub (by decide))) kw_1418 kw_1420 ks_59 kw_13 kw_1421 (by decide +kernel) ⟨Nat.le_of_ble_eq_true rfl, Nat.le_of_ble_eq_true rfl⟩ (x_recv (ci := 12) hkb hH 0 rfl rfl) rfl rfl hl.1 (Nat.le_of_ble_eq_true rfl) dX12_readUnit_158 ⟨Nat.le_of_ble_eq_true rfl, Nat.le_of_ble_eq_true rfl⟩) (fun u H locs hz9 hH hS => ?_)
              obtain ⟨F158_2, rfl, x_v1580, x_v1581, x_v1582⟩ := hz9
              have s_F158_2 := x_v1580
              have hH : HT D cs A T (a0 :: y3 :: y4 :: O) ((a0, .inr (12, o0 :: o1 :: o2 :: (.ref y3) :: (.ref y4) :: o5 :: (.int n153_0_6) :: (.int n153_0_7) :: (.int y8) :: (.int n153_0_9) :: (.int n153_0_10) :: (.int n153_0_11) :: (.int n153_0_12) :: tl)) :: (y3, .inl (cs.2.1, 900, .inl f3)) :: (y4, .inl (cs.2.1, 1302, .inl F158_2)) :: X) H := hH
              refine W.widen (k := 0) (n := 0) (Nat.le_of_ble_eq_true rfl) (Nat.le_of_ble_eq_true rfl) ?_
              exact te_v hx hb hr hlocks hH hS (⟨n153_0_6, n153_0_7, n153_0_9, n153_0_10, n153_0_11, n153_0_12, F158_2, rfl, s_F158_2, by omega, by omega, by omega, x_v1534, by omega, by omega, (by first | (refine RD_op x_v757 ?_ x_v1537 x_v1581; omega) | (refine RD_op x_v1537 ?_ x_v757 x_v1581; omega) | exact x_v757 | exact x_v1537 | (refine RD_le x_v757 ?_; omega) | (refine RD_le x_v1537 ?_; omega) | (intro q; obtain ⟨c1, c2⟩ := x_v1581 q; refine ⟨?_, ?_, ?_⟩ <;> omega) | (intro q; obtain ⟨c0, c1, c2⟩ := x_v1537 q; refine ⟨?_, ?_, ?_⟩ <;> omega) | (intro q; obtain ⟨c0, c1, c2⟩ := x_v1537 q; obtain ⟨d1, d2⟩ := x_v1581 q; refine ⟨?_, ?_, ?_⟩ <;> omega)), (by first | (exact g18.seq x_v228) | (refine g58.seq (RG_nx ?_ x_v617.1 (fun _ _ => st_xY ?_) x_v617.2.1) <;> omega) | (exact g58.seq (RG_f (m := 2) (G := []) x_v691 (RG.msw x_v558) (by decide) (by decide) (fun q9 _ _ => st_xN (by have q8 := (RG.msw x_v558 q9).2.2.2.1; omega)))) | (exact g151.seq x_v1538) | (exact RG_f (m := 4) (G := []) x_v119 hms (by decide) (by decide) (fun q9 _ _ => st_uND (by omega))) | (exact RG_f (m := 4) (G := []) x_v449 hms (by decide) (by decide) (fun q9 _ _ => st_uBD (by omega)))), (FKP.tr (FKP.tr (FKP.tr FKP.rf x_v759) x_v1539) x_v1582)⟩) dX12_readUnit_161
            · skip
              have tc127 := f_eq (k := 0) (by decide) c127
              clear x_v1240
              replace x_v1241 := x_v1241.resolve_left (fun q9 => q9 tc127)
              refine lv_aload_n hx hb dX12_readUnit_130 rfl (lv_at hl 1 rfl) ?_
              refine lv_bipush (v := 41) hx hb dX12_readUnit_131 (by decide) ?_
              have z9_41 : (41 : Int32).toInt = 41 := by decide
              refine tk_i hH hS hA (tr_V (n := 1) (As := [.int 41]) hx hb hml hown hts hkb hH (ox_map hOX rfl) hks hE hS hA (s_M_is l D cs kf T (y4 :: O) ((y4, .inl (cs.2.1, 1302, .inl F75_2)) :: X) a0 hg mq (41) o0 o1 o2 y3 y4 o5 n75_0_6 n75_0_7 y8 n75_0_9 n75_0_10 n75_0_11 n75_0_12 tl f3 t tn t_a0 b_hg t_y3 t_y4 (by omega) (by omega) (by omega) (by omega) (by omega) (by omega) (by omega) (by omega) (by omega) htm (hO.sub (by decide))) kw_1370 kw_1372 ks_47 kw_13 kw_1373 (by decide +kernel) ⟨Nat.le_of_ble_eq_true rfl, Nat.le_of_ble_eq_true rfl⟩ (x_recv (ci := 12) hkb hH 0 rfl rfl) rfl rfl hl.1 (Nat.le_of_ble_eq_true rfl) dX12_readUnit_133 ⟨Nat.le_of_ble_eq_true rfl, Nat.le_of_ble_eq_true rfl⟩) (fun v133 u H locs hz9 hH hS => ?_)
              obtain ⟨rfl, l_v133, u_v133, x_v1330, x_v1331⟩ := hz9
              have hH : HT D cs A T (a0 :: y3 :: y4 :: O) ((a0, .inr (12, o0 :: o1 :: o2 :: (.ref y3) :: (.ref y4) :: o5 :: (.int n75_0_6) :: (.int n75_0_7) :: (.int y8) :: (.int n75_0_9) :: (.int n75_0_10) :: (.int n75_0_11) :: (.int n75_0_12) :: tl)) :: (y3, .inl (cs.2.1, 900, .inl f3)) :: (y4, .inl (cs.2.1, 1302, .inl F75_2)) :: X) H := hH
              refine W.widen (k := 0) (n := 0) (Nat.le_of_ble_eq_true rfl) (Nat.le_of_ble_eq_true rfl) ?_
              refine lv_if_eq (tgt := 146) hx hb dX12_readUnit_136 (by decide) (fun c136 => ?_) (fun c136 => ?_)
              · skip
                have tc136 := f_eq (k := 0) (by decide) c136
                clear x_v1330
                replace x_v1331 := x_v1331.resolve_left (fun q9 => q9 tc136)
                refine lv_aload_n hx hb dX12_readUnit_146 rfl (lv_at hl 1 rfl) ?_
                refine lv_iconst (v := 2) hx hb dX12_readUnit_147 (by decide) ?_
                have z9_2 : (2 : Int32).toInt = 2 := by decide
                refine tk_v hH hS hA (tr_V (n := 1) (As := [.int 2]) hx hb hml hown hts hkb hH (ox_map hOX rfl) hks hE hS hA (s_M_fails l D cs kf T (y4 :: O) ((y4, .inl (cs.2.1, 1302, .inl F75_2)) :: X) a0 hg mq (2) o0 o1 o2 y3 y4 o5 n75_0_6 n75_0_7 y8 n75_0_9 n75_0_10 n75_0_11 n75_0_12 tl f3 t tn t_a0 b_hg (by decide) (by decide) t_y3 t_y4 (by omega) (by omega) (by omega) (by omega) (by omega) (by omega) (by omega) (by omega) (by omega) htm (hO.sub (by decide))) kw_1378 kw_1380 ks_49 kw_13 kw_1381 (by decide +kernel) ⟨Nat.le_of_ble_eq_true rfl, Nat.le_of_ble_eq_true rfl⟩ (x_recv (ci := 12) hkb hH 0 rfl rfl) rfl rfl hl.1 (Nat.le_of_ble_eq_true rfl) dX12_readUnit_148 ⟨Nat.le_of_ble_eq_true rfl, Nat.le_of_ble_eq_true rfl⟩) (fun u H locs hz9 hH hS => ?_)
                obtain ⟨n148_0_11, n148_0_12, rfl, x_v1480, x_v1481⟩ := hz9
                have hH : HT D cs A T (a0 :: y3 :: y4 :: O) ((a0, .inr (12, o0 :: o1 :: o2 :: (.ref y3) :: (.ref y4) :: o5 :: (.int n75_0_6) :: (.int n75_0_7) :: (.int y8) :: (.int n75_0_9) :: (.int n75_0_10) :: (.int n148_0_11) :: (.int n148_0_12) :: tl)) :: (y3, .inl (cs.2.1, 900, .inl f3)) :: (y4, .inl (cs.2.1, 1302, .inl F75_2)) :: X) H := hH
                refine W.widen (k := 0) (n := 0) (Nat.le_of_ble_eq_true rfl) (Nat.le_of_ble_eq_true rfl) ?_
                have g151 : RG t tn [(5, 3)] [(3, 3)] y11 y12 y6 n148_0_11 n148_0_12 n75_0_6 n75_0_7 n75_0_9 n75_0_10 := (by first | (refine g78.seq (RG_nx ?_ x_v1406 (fun _ _ => st_cY ?_) ((RG.msw x_v758 ?_).nx x_v1407)) <;> omega) | (exact g78.seq (RG_f (m := 2) (G := []) x_v1481 (RG.msw x_v758) (by decide) (by decide) (fun q9 _ _ => st_cN (by have q8 := (RG.msw x_v758 q9).2.2.2.1; omega)))))
                refine lv_aload_n hx hb dX12_readUnit_151 rfl (lv_at hl 1 rfl) ?_
                refine lv_iload_n hx hb dX12_readUnit_152 rfl (lv_at hl 2 rfl) ?_
                refine tk_v hH hS hA (tr_V (n := 1) (As := [.int x1]) hx hb hml hown hts hkb hH (ox_map hOX rfl) hks hE hS hA (s_M_readSum3 l D cs kf T O X a0 hg mq x1 o0 o1 o2 y3 y4 o5 n75_0_6 n75_0_7 y8 n75_0_9 n75_0_10 n148_0_11 n148_0_12 tl f3 F75_2 t tn t_a0 b_hg (by omega) (by omega) t_y3 t_y4 (by omega) (by omega) (by omega) (by omega) (by omega) (by omega) (by omega) (by omega) s_F75_2 (by omega) htm (by omega) (by omega) x_v754 (by first | exact k4 | exact (fun q => absurd q x_v1480) | (refine RD_sl k4 x_v757 ?_; omega) | (intro _; omega)) (fun q9 => absurd q9 x_v1480) (hO.sub (by decide))) kw_1422 kw_1424 ks_60 kw_13 kw_1425 (by decide +kernel) ⟨Nat.le_of_ble_eq_true rfl, Nat.le_of_ble_eq_true rfl⟩ (x_recv (ci := 12) hkb hH 0 rfl rfl) rfl rfl hl.1 (Nat.le_of_ble_eq_true rfl) dX12_readUnit_153 ⟨Nat.le_of_ble_eq_true rfl, Nat.le_of_ble_eq_true rfl⟩) (fun u H locs hz9 hH hS => ?_)
                obtain ⟨n153_0_6, n153_0_7, n153_0_9, n153_0_10, n153_0_11, n153_0_12, F153_2, rfl, x_v1530, x_v1531, x_v1532, x_v1533, x_v1534, x_v1535, x_v1536, x_v1537, x_v1538, x_v1539⟩ := hz9
                have s_F153_2 := x_v1530
                have hH : HT D cs A T (a0 :: y3 :: y4 :: O) ((a0, .inr (12, o0 :: o1 :: o2 :: (.ref y3) :: (.ref y4) :: o5 :: (.int n153_0_6) :: (.int n153_0_7) :: (.int y8) :: (.int n153_0_9) :: (.int n153_0_10) :: (.int n153_0_11) :: (.int n153_0_12) :: tl)) :: (y3, .inl (cs.2.1, 900, .inl f3)) :: (y4, .inl (cs.2.1, 1302, .inl F153_2)) :: X) H := hH
                refine W.widen (k := 0) (n := 0) (Nat.le_of_ble_eq_true rfl) (Nat.le_of_ble_eq_true rfl) ?_
                refine lv_aload_n hx hb dX12_readUnit_156 rfl (lv_at hl 1 rfl) ?_
                refine lv_iload_n hx hb dX12_readUnit_157 rfl (lv_at hl 0 rfl) ?_
                have z9_3004 : (3004 : Int32).toInt = 3004 := by decide
                refine tk_v hH hS hA (tr_V (n := 1) (As := [.int 3004]) hx hb hml hown hts hkb hH (ox_map hOX rfl) hks hE hS hA (s_M_codesO l D cs kf T O X a0 hg mq (3004) o0 o1 o2 y3 y4 o5 n153_0_6 n153_0_7 y8 n153_0_9 n153_0_10 n153_0_11 n153_0_12 tl f3 F153_2 t tn t_a0 b_hg (by decide) (by decide) t_y3 t_y4 (by omega) (by omega) (by omega) (by omega) (by omega) (by omega) (by omega) (by omega) s_F153_2 (by omega) htm (by first | exact (fun q => absurd q x_v1480) | exact (fun q => absurd (x_v757 q).1 x_v1480) | exact (fun q => absurd (x_v1537 q).1 x_v1480) | (intro q; constructor <;> omega) | (intro q; obtain ⟨c0, c1, c2⟩ := x_v757 q; constructor <;> omega) | (intro q; obtain ⟨c0, c1, c2⟩ := x_v1537 q; constructor <;> omega) | (refine RD_cp k4 hd0 x_v757 ?_ x_v1537 ?_ <;> omega) | (refine RD_cp k4 hd0 x_v1537 ?_ x_v757 ?_ <;> omega)) (hO.sub (by decide))) kw_1418 kw_1420 ks_59 kw_13 kw_1421 (by decide +kernel) ⟨Nat.le_of_ble_eq_true rfl, Nat.le_of_ble_eq_true rfl⟩ (x_recv (ci := 12) hkb hH 0 rfl rfl) rfl rfl hl.1 (Nat.le_of_ble_eq_true rfl) dX12_readUnit_158 ⟨Nat.le_of_ble_eq_true rfl, Nat.le_of_ble_eq_true rfl⟩) (fun u H locs hz9 hH hS => ?_)
                obtain ⟨F158_2, rfl, x_v1580, x_v1581, x_v1582⟩ := hz9
                have s_F158_2 := x_v1580
                have hH : HT D cs A T (a0 :: y3 :: y4 :: O) ((a0, .inr (12, o0 :: o1 :: o2 :: (.ref y3) :: (.ref y4) :: o5 :: (.int n153_0_6) :: (.int n153_0_7) :: (.int y8) :: (.int n153_0_9) :: (.int n153_0_10) :: (.int n153_0_11) :: (.int n153_0_12) :: tl)) :: (y3, .inl (cs.2.1, 900, .inl f3)) :: (y4, .inl (cs.2.1, 1302, .inl F158_2)) :: X) H := hH
                refine W.widen (k := 0) (n := 0) (Nat.le_of_ble_eq_true rfl) (Nat.le_of_ble_eq_true rfl) ?_
                exact te_v hx hb hr hlocks hH hS (⟨n153_0_6, n153_0_7, n153_0_9, n153_0_10, n153_0_11, n153_0_12, F158_2, rfl, s_F158_2, by omega, by omega, by omega, x_v1534, by omega, by omega, (by first | exact (fun q => absurd q x_v1480) | exact (fun q => absurd (x_v757 q).1 x_v1480) | exact (fun q => absurd (x_v1537 q).1 x_v1480) | (refine RD_op x_v757 ?_ x_v1537 x_v1581; omega) | (refine RD_op x_v1537 ?_ x_v757 x_v1581; omega) | exact x_v757 | exact x_v1537 | (refine RD_le x_v757 ?_; omega) | (refine RD_le x_v1537 ?_; omega) | (intro q; obtain ⟨c1, c2⟩ := x_v1581 q; refine ⟨?_, ?_, ?_⟩ <;> omega) | (intro q; obtain ⟨c0, c1, c2⟩ := x_v1537 q; refine ⟨?_, ?_, ?_⟩ <;> omega) | (intro q; obtain ⟨c0, c1, c2⟩ := x_v1537 q; obtain ⟨d1, d2⟩ := x_v1581 q; refine ⟨?_, ?_, ?_⟩ <;> omega)), (by first | (exact g18.seq x_v228) | (refine g58.seq (RG_nx ?_ x_v617.1 (fun _ _ => st_xY ?_) x_v617.2.1) <;> omega) | (exact g58.seq (RG_f (m := 2) (G := []) x_v691 (RG.msw x_v558) (by decide) (by decide) (fun q9 _ _ => st_xN (by have q8 := (RG.msw x_v558 q9).2.2.2.1; omega)))) | (exact g151.seq x_v1538) | (exact RG_f (m := 4) (G := []) x_v119 hms (by decide) (by decide) (fun q9 _ _ => st_uND (by omega))) | (exact RG_f (m := 4) (G := []) x_v449 hms (by decide) (by decide) (fun q9 _ _ => st_uBD (by omega)))), (FKP.tr (FKP.tr (FKP.tr FKP.rf x_v759) x_v1539) x_v1582)⟩) dX12_readUnit_161
              · skip
                have tc136 := f_ne (k := 0) (by decide) c136
                replace x_v1330 := x_v1330.resolve_left tc136
                clear x_v1331
                have hk5 := x_v754 (by omega)
                have hq5 := (RG.msw x_v758 (by omega)).2.2.2.1
                refine lv_aload_n hx hb dX12_readUnit_139 rfl (lv_at hl 1 rfl) ?_
                refine tk_v hH hS hA (tr_V (n := 0) (As := []) hx hb hml hown hts hkb hH (ox_map hOX rfl) hks hE hS hA (s_M_next l D cs kf T (y4 :: O) ((y4, .inl (cs.2.1, 1302, .inl F75_2)) :: X) a0 hg mq o0 o1 o2 y3 y4 o5 n75_0_6 n75_0_7 y8 n75_0_9 n75_0_10 n75_0_11 n75_0_12 tl f3 t tn t_a0 b_hg t_y3 t_y4 (by omega) (by omega) (by omega) (by omega) (by omega) (by omega) (by omega) (by omega) (by omega) htm (by omega) (hO.sub (by decide))) kw_1344 kw_1346 ks_43 kw_13 kw_1347 (by decide +kernel) ⟨Nat.le_of_ble_eq_true rfl, Nat.le_of_ble_eq_true rfl⟩ (x_recv (ci := 12) hkb hH 0 rfl rfl) rfl rfl hl.1 (Nat.le_of_ble_eq_true rfl) dX12_readUnit_140 ⟨Nat.le_of_ble_eq_true rfl, Nat.le_of_ble_eq_true rfl⟩) (fun u H locs hz9 hH hS => ?_)
                obtain ⟨n140_0_6, n140_0_7, n140_0_9, n140_0_10, rfl, x_v1400, x_v1401, x_v1402, x_v1403, x_v1404, x_v1405, x_v1406, x_v1407⟩ := hz9
                have hH : HT D cs A T (a0 :: y3 :: y4 :: O) ((a0, .inr (12, o0 :: o1 :: o2 :: (.ref y3) :: (.ref y4) :: o5 :: (.int n140_0_6) :: (.int n140_0_7) :: (.int y8) :: (.int n140_0_9) :: (.int n140_0_10) :: (.int n75_0_11) :: (.int n75_0_12) :: tl)) :: (y3, .inl (cs.2.1, 900, .inl f3)) :: (y4, .inl (cs.2.1, 1302, .inl F75_2)) :: X) H := hH
                refine W.widen (k := 0) (n := 0) (Nat.le_of_ble_eq_true rfl) (Nat.le_of_ble_eq_true rfl) ?_
                refine lv_goto (tgt := 151) hx hb dX12_readUnit_143 (by decide) ?_
                have g151 : RG t tn [(5, 3)] [(3, 3)] y11 y12 y6 n75_0_11 n75_0_12 n140_0_6 n140_0_7 n140_0_9 n140_0_10 := (by first | (refine g78.seq (RG_nx ?_ x_v1406 (fun _ _ => st_cY ?_) ((RG.msw x_v758 ?_).nx x_v1407)) <;> omega) | (exact g78.seq (RG_f (m := 2) (G := []) x_v1481 (RG.msw x_v758) (by decide) (by decide) (fun q9 _ _ => st_cN (by have q8 := (RG.msw x_v758 q9).2.2.2.1; omega)))))
                refine lv_aload_n hx hb dX12_readUnit_151 rfl (lv_at hl 1 rfl) ?_
                refine lv_iload_n hx hb dX12_readUnit_152 rfl (lv_at hl 2 rfl) ?_
                refine tk_v hH hS hA (tr_V (n := 1) (As := [.int x1]) hx hb hml hown hts hkb hH (ox_map hOX rfl) hks hE hS hA (s_M_readSum3 l D cs kf T O X a0 hg mq x1 o0 o1 o2 y3 y4 o5 n140_0_6 n140_0_7 y8 n140_0_9 n140_0_10 n75_0_11 n75_0_12 tl f3 F75_2 t tn t_a0 b_hg (by omega) (by omega) t_y3 t_y4 (by omega) (by omega) (by omega) (by omega) (by omega) (by omega) (by omega) (by omega) s_F75_2 (by omega) htm (by omega) (by omega) x_v1403 (by first | exact k4 | (refine RD_sl k4 x_v757 ?_; omega) | (intro _; omega)) (fun _ => x_v1406) (hO.sub (by decide))) kw_1422 kw_1424 ks_60 kw_13 kw_1425 (by decide +kernel) ⟨Nat.le_of_ble_eq_true rfl, Nat.le_of_ble_eq_true rfl⟩ (x_recv (ci := 12) hkb hH 0 rfl rfl) rfl rfl hl.1 (Nat.le_of_ble_eq_true rfl) dX12_readUnit_153 ⟨Nat.le_of_ble_eq_true rfl, Nat.le_of_ble_eq_true rfl⟩) (fun u H locs hz9 hH hS => ?_)
                obtain ⟨n153_0_6, n153_0_7, n153_0_9, n153_0_10, n153_0_11, n153_0_12, F153_2, rfl, x_v1530, x_v1531, x_v1532, x_v1533, x_v1534, x_v1535, x_v1536, x_v1537, x_v1538, x_v1539⟩ := hz9
                have s_F153_2 := x_v1530
                have hH : HT D cs A T (a0 :: y3 :: y4 :: O) ((a0, .inr (12, o0 :: o1 :: o2 :: (.ref y3) :: (.ref y4) :: o5 :: (.int n153_0_6) :: (.int n153_0_7) :: (.int y8) :: (.int n153_0_9) :: (.int n153_0_10) :: (.int n153_0_11) :: (.int n153_0_12) :: tl)) :: (y3, .inl (cs.2.1, 900, .inl f3)) :: (y4, .inl (cs.2.1, 1302, .inl F153_2)) :: X) H := hH
                refine W.widen (k := 0) (n := 0) (Nat.le_of_ble_eq_true rfl) (Nat.le_of_ble_eq_true rfl) ?_
                refine lv_aload_n hx hb dX12_readUnit_156 rfl (lv_at hl 1 rfl) ?_
                refine lv_iload_n hx hb dX12_readUnit_157 rfl (lv_at hl 0 rfl) ?_
                have z9_3004 : (3004 : Int32).toInt = 3004 := by decide
                refine tk_v hH hS hA (tr_V (n := 1) (As := [.int 3004]) hx hb hml hown hts hkb hH (ox_map hOX rfl) hks hE hS hA (s_M_codesO l D cs kf T O X a0 hg mq (3004) o0 o1 o2 y3 y4 o5 n153_0_6 n153_0_7 y8 n153_0_9 n153_0_10 n153_0_11 n153_0_12 tl f3 F153_2 t tn t_a0 b_hg (by decide) (by decide) t_y3 t_y4 (by omega) (by omega) (by omega) (by omega) (by omega) (by omega) (by omega) (by omega) s_F153_2 (by omega) htm (by first | (intro q; constructor <;> omega) | (intro q; obtain ⟨c0, c1, c2⟩ := x_v757 q; constructor <;> omega) | (intro q; obtain ⟨c0, c1, c2⟩ := x_v1537 q; constructor <;> omega) | (refine RD_cp k4 hd0 x_v757 ?_ x_v1537 ?_ <;> omega) | (refine RD_cp k4 hd0 x_v1537 ?_ x_v757 ?_ <;> omega)) (hO.sub (by decide))) kw_1418 kw_1420 ks_59 kw_13 kw_1421 (by decide +kernel) ⟨Nat.le_of_ble_eq_true rfl, Nat.le_of_ble_eq_true rfl⟩ (x_recv (ci := 12) hkb hH 0 rfl rfl) rfl rfl hl.1 (Nat.le_of_ble_eq_true rfl) dX12_readUnit_158 ⟨Nat.le_of_ble_eq_true rfl, Nat.le_of_ble_eq_true rfl⟩) (fun u H locs hz9 hH hS => ?_)
                obtain ⟨F158_2, rfl, x_v1580, x_v1581, x_v1582⟩ := hz9
                have s_F158_2 := x_v1580
                have hH : HT D cs A T (a0 :: y3 :: y4 :: O) ((a0, .inr (12, o0 :: o1 :: o2 :: (.ref y3) :: (.ref y4) :: o5 :: (.int n153_0_6) :: (.int n153_0_7) :: (.int y8) :: (.int n153_0_9) :: (.int n153_0_10) :: (.int n153_0_11) :: (.int n153_0_12) :: tl)) :: (y3, .inl (cs.2.1, 900, .inl f3)) :: (y4, .inl (cs.2.1, 1302, .inl F158_2)) :: X) H := hH
                refine W.widen (k := 0) (n := 0) (Nat.le_of_ble_eq_true rfl) (Nat.le_of_ble_eq_true rfl) ?_
                exact te_v hx hb hr hlocks hH hS (⟨n153_0_6, n153_0_7, n153_0_9, n153_0_10, n153_0_11, n153_0_12, F158_2, rfl, s_F158_2, by omega, by omega, by omega, x_v1534, by omega, by omega, (by first | (refine RD_op x_v757 ?_ x_v1537 x_v1581; omega) | (refine RD_op x_v1537 ?_ x_v757 x_v1581; omega) | exact x_v757 | exact x_v1537 | (refine RD_le x_v757 ?_; omega) | (refine RD_le x_v1537 ?_; omega) | (intro q; obtain ⟨c1, c2⟩ := x_v1581 q; refine ⟨?_, ?_, ?_⟩ <;> omega) | (intro q; obtain ⟨c0, c1, c2⟩ := x_v1537 q; refine ⟨?_, ?_, ?_⟩ <;> omega) | (intro q; obtain ⟨c0, c1, c2⟩ := x_v1537 q; obtain ⟨d1, d2⟩ := x_v1581 q; refine ⟨?_, ?_, ?_⟩ <;> omega)), (by first | (exact g18.seq x_v228) | (refine g58.seq (RG_nx ?_ x_v617.1 (fun _ _ => st_xY ?_) x_v617.2.1) <;> omega) | (exact g58.seq (RG_f (m := 2) (G := []) x_v691 (RG.msw x_v558) (by decide) (by decide) (fun q9 _ _ => st_xN (by have q8 := (RG.msw x_v558 q9).2.2.2.1; omega)))) | (exact g151.seq x_v1538) | (exact RG_f (m := 4) (G := []) x_v119 hms (by decide) (by decide) (fun q9 _ _ => st_uND (by omega))) | (exact RG_f (m := 4) (G := []) x_v449 hms (by decide) (by decide) (fun q9 _ _ => st_uBD (by omega)))), (FKP.tr (FKP.tr (FKP.tr FKP.rf x_v759) x_v1539) x_v1582)⟩) dX12_readUnit_161
      · skip
        have tc84 := f_ne (k := 0) (by decide) c84
        replace x_v810 := x_v810.resolve_left tc84
        clear x_v811
        refine lv_sipush (v := 3003) hx hb dX12_readUnit_87 (by decide) ?_
        refine lv_goto (tgt := 111) hx hb dX12_readUnit_90 (by decide) ?_
        refine lv_istore_n (lv' := [(2, .int 3003), (0, .ref a0), (1, .int x1)]) hx hb dX12_readUnit_111 rfl hl (by decide) rfl (fun ls hl => ?_)
        refine lv_aload_n hx hb dX12_readUnit_112 rfl (lv_at hl 1 rfl) ?_
        refine lv_bipush (v := 39) hx hb dX12_readUnit_113 (by decide) ?_
        have z9_39 : (39 : Int32).toInt = 39 := by decide
        refine tk_i hH hS hA (tr_V (n := 1) (As := [.int 39]) hx hb hml hown hts hkb hH (ox_map hOX rfl) hks hE hS hA (s_M_is l D cs kf T (y4 :: O) ((y4, .inl (cs.2.1, 1302, .inl F75_2)) :: X) a0 hg mq (39) o0 o1 o2 y3 y4 o5 n75_0_6 n75_0_7 y8 n75_0_9 n75_0_10 n75_0_11 n75_0_12 tl f3 t tn t_a0 b_hg t_y3 t_y4 (by omega) (by omega) (by omega) (by omega) (by omega) (by omega) (by omega) (by omega) (by omega) htm (hO.sub (by decide))) kw_1370 kw_1372 ks_47 kw_13 kw_1373 (by decide +kernel) ⟨Nat.le_of_ble_eq_true rfl, Nat.le_of_ble_eq_true rfl⟩ (x_recv (ci := 12) hkb hH 0 rfl rfl) rfl rfl hl.1 (Nat.le_of_ble_eq_true rfl) dX12_readUnit_115 ⟨Nat.le_of_ble_eq_true rfl, Nat.le_of_ble_eq_true rfl⟩) (fun v115 u H locs hz9 hH hS => ?_)
        obtain ⟨rfl, l_v115, u_v115, x_v1150, x_v1151⟩ := hz9
        have hH : HT D cs A T (a0 :: y3 :: y4 :: O) ((a0, .inr (12, o0 :: o1 :: o2 :: (.ref y3) :: (.ref y4) :: o5 :: (.int n75_0_6) :: (.int n75_0_7) :: (.int y8) :: (.int n75_0_9) :: (.int n75_0_10) :: (.int n75_0_11) :: (.int n75_0_12) :: tl)) :: (y3, .inl (cs.2.1, 900, .inl f3)) :: (y4, .inl (cs.2.1, 1302, .inl F75_2)) :: X) H := hH
        refine W.widen (k := 0) (n := 0) (Nat.le_of_ble_eq_true rfl) (Nat.le_of_ble_eq_true rfl) ?_
        refine lv_if_ne (tgt := 139) hx hb dX12_readUnit_118 (by decide) (fun c118 => ?_) (fun c118 => ?_)
        · skip
          have tc118 := f_ne (k := 0) (by decide) c118
          replace x_v1150 := x_v1150.resolve_left tc118
          clear x_v1151
          have hk5 := x_v754 (by omega)
          have hq5 := (RG.msw x_v758 (by omega)).2.2.2.1
          refine lv_aload_n hx hb dX12_readUnit_139 rfl (lv_at hl 1 rfl) ?_
          refine tk_v hH hS hA (tr_V (n := 0) (As := []) hx hb hml hown hts hkb hH (ox_map hOX rfl) hks hE hS hA (s_M_next l D cs kf T (y4 :: O) ((y4, .inl (cs.2.1, 1302, .inl F75_2)) :: X) a0 hg mq o0 o1 o2 y3 y4 o5 n75_0_6 n75_0_7 y8 n75_0_9 n75_0_10 n75_0_11 n75_0_12 tl f3 t tn t_a0 b_hg t_y3 t_y4 (by omega) (by omega) (by omega) (by omega) (by omega) (by omega) (by omega) (by omega) (by omega) htm (by omega) (hO.sub (by decide))) kw_1344 kw_1346 ks_43 kw_13 kw_1347 (by decide +kernel) ⟨Nat.le_of_ble_eq_true rfl, Nat.le_of_ble_eq_true rfl⟩ (x_recv (ci := 12) hkb hH 0 rfl rfl) rfl rfl hl.1 (Nat.le_of_ble_eq_true rfl) dX12_readUnit_140 ⟨Nat.le_of_ble_eq_true rfl, Nat.le_of_ble_eq_true rfl⟩) (fun u H locs hz9 hH hS => ?_)
          obtain ⟨n140_0_6, n140_0_7, n140_0_9, n140_0_10, rfl, x_v1400, x_v1401, x_v1402, x_v1403, x_v1404, x_v1405, x_v1406, x_v1407⟩ := hz9
          have hH : HT D cs A T (a0 :: y3 :: y4 :: O) ((a0, .inr (12, o0 :: o1 :: o2 :: (.ref y3) :: (.ref y4) :: o5 :: (.int n140_0_6) :: (.int n140_0_7) :: (.int y8) :: (.int n140_0_9) :: (.int n140_0_10) :: (.int n75_0_11) :: (.int n75_0_12) :: tl)) :: (y3, .inl (cs.2.1, 900, .inl f3)) :: (y4, .inl (cs.2.1, 1302, .inl F75_2)) :: X) H := hH
          refine W.widen (k := 0) (n := 0) (Nat.le_of_ble_eq_true rfl) (Nat.le_of_ble_eq_true rfl) ?_
          refine lv_goto (tgt := 151) hx hb dX12_readUnit_143 (by decide) ?_
          have g151 : RG t tn [(5, 3)] [(3, 3)] y11 y12 y6 n75_0_11 n75_0_12 n140_0_6 n140_0_7 n140_0_9 n140_0_10 := (by first | (refine g78.seq (RG_nx ?_ x_v1406 (fun _ _ => st_cY ?_) ((RG.msw x_v758 ?_).nx x_v1407)) <;> omega) | (exact g78.seq (RG_f (m := 2) (G := []) x_v1481 (RG.msw x_v758) (by decide) (by decide) (fun q9 _ _ => st_cN (by have q8 := (RG.msw x_v758 q9).2.2.2.1; omega)))))
          refine lv_aload_n hx hb dX12_readUnit_151 rfl (lv_at hl 1 rfl) ?_
          refine lv_iload_n hx hb dX12_readUnit_152 rfl (lv_at hl 2 rfl) ?_
          refine tk_v hH hS hA (tr_V (n := 1) (As := [.int x1]) hx hb hml hown hts hkb hH (ox_map hOX rfl) hks hE hS hA (s_M_readSum3 l D cs kf T O X a0 hg mq x1 o0 o1 o2 y3 y4 o5 n140_0_6 n140_0_7 y8 n140_0_9 n140_0_10 n75_0_11 n75_0_12 tl f3 F75_2 t tn t_a0 b_hg (by omega) (by omega) t_y3 t_y4 (by omega) (by omega) (by omega) (by omega) (by omega) (by omega) (by omega) (by omega) s_F75_2 (by omega) htm (by omega) (by omega) x_v1403 (by first | exact k4 | (refine RD_sl k4 x_v757 ?_; omega) | (intro _; omega)) (fun _ => x_v1406) (hO.sub (by decide))) kw_1422 kw_1424 ks_60 kw_13 kw_1425 (by decide +kernel) ⟨Nat.le_of_ble_eq_true rfl, Nat.le_of_ble_eq_true rfl⟩ (x_recv (ci := 12) hkb hH 0 rfl rfl) rfl rfl hl.1 (Nat.le_of_ble_eq_true rfl) dX12_readUnit_153 ⟨Nat.le_of_ble_eq_true rfl, Nat.le_of_ble_eq_true rfl⟩) (fun u H locs hz9 hH hS => ?_)
          obtain ⟨n153_0_6, n153_0_7, n153_0_9, n153_0_10, n153_0_11, n153_0_12, F153_2, rfl, x_v1530, x_v1531, x_v1532, x_v1533, x_v1534, x_v1535, x_v1536, x_v1537, x_v1538, x_v1539⟩ := hz9
          have s_F153_2 := x_v1530
          have hH : HT D cs A T (a0 :: y3 :: y4 :: O) ((a0, .inr (12, o0 :: o1 :: o2 :: (.ref y3) :: (.ref y4) :: o5 :: (.int n153_0_6) :: (.int n153_0_7) :: (.int y8) :: (.int n153_0_9) :: (.int n153_0_10) :: (.int n153_0_11) :: (.int n153_0_12) :: tl)) :: (y3, .inl (cs.2.1, 900, .inl f3)) :: (y4, .inl (cs.2.1, 1302, .inl F153_2)) :: X) H := hH
          refine W.widen (k := 0) (n := 0) (Nat.le_of_ble_eq_true rfl) (Nat.le_of_ble_eq_true rfl) ?_
          refine lv_aload_n hx hb dX12_readUnit_156 rfl (lv_at hl 1 rfl) ?_
          refine lv_iload_n hx hb dX12_readUnit_157 rfl (lv_at hl 0 rfl) ?_
          have z9_3003 : (3003 : Int32).toInt = 3003 := by decide
          refine tk_v hH hS hA (tr_V (n := 1) (As := [.int 3003]) hx hb hml hown hts hkb hH (ox_map hOX rfl) hks hE hS hA (s_M_codesO l D cs kf T O X a0 hg mq (3003) o0 o1 o2 y3 y4 o5 n153_0_6 n153_0_7 y8 n153_0_9 n153_0_10 n153_0_11 n153_0_12 tl f3 F153_2 t tn t_a0 b_hg (by decide) (by decide) t_y3 t_y4 (by omega) (by omega) (by omega) (by omega) (by omega) (by omega) (by omega) (by omega) s_F153_2 (by omega) htm (by first | (intro q; constructor <;> omega) | (intro q; obtain ⟨c0, c1, c2⟩ := x_v757 q; constructor <;> omega) | (intro q; obtain ⟨c0, c1, c2⟩ := x_v1537 q; constructor <;> omega) | (refine RD_cp k4 hd0 x_v757 ?_ x_v1537 ?_ <;> omega) | (refine RD_cp k4 hd0 x_v1537 ?_ x_v757 ?_ <;> omega)) (hO.sub (by decide))) kw_1418 kw_1420 ks_59 kw_13 kw_1421 (by decide +kernel) ⟨Nat.le_of_ble_eq_true rfl, Nat.le_of_ble_eq_true rfl⟩ (x_recv (ci := 12) hkb hH 0 rfl rfl) rfl rfl hl.1 (Nat.le_of_ble_eq_true rfl) dX12_readUnit_158 ⟨Nat.le_of_ble_eq_true rfl, Nat.le_of_ble_eq_true rfl⟩) (fun u H locs hz9 hH hS => ?_)
          obtain ⟨F158_2, rfl, x_v1580, x_v1581, x_v1582⟩ := hz9
          have s_F158_2 := x_v1580
          have hH : HT D cs A T (a0 :: y3 :: y4 :: O) ((a0, .inr (12, o0 :: o1 :: o2 :: (.ref y3) :: (.ref y4) :: o5 :: (.int n153_0_6) :: (.int n153_0_7) :: (.int y8) :: (.int n153_0_9) :: (.int n153_0_10) :: (.int n153_0_11) :: (.int n153_0_12) :: tl)) :: (y3, .inl (cs.2.1, 900, .inl f3)) :: (y4, .inl (cs.2.1, 1302, .inl F158_2)) :: X) H := hH
          refine W.widen (k := 0) (n := 0) (Nat.le_of_ble_eq_true rfl) (Nat.le_of_ble_eq_true rfl) ?_
          exact te_v hx hb hr hlocks hH hS (⟨n153_0_6, n153_0_7, n153_0_9, n153_0_10, n153_0_11, n153_0_12, F158_2, rfl, s_F158_2, by omega, by omega, by omega, x_v1534, by omega, by omega, (by first | (refine RD_op x_v757 ?_ x_v1537 x_v1581; omega) | (refine RD_op x_v1537 ?_ x_v757 x_v1581; omega) | exact x_v757 | exact x_v1537 | (refine RD_le x_v757 ?_; omega) | (refine RD_le x_v1537 ?_; omega) | (intro q; obtain ⟨c1, c2⟩ := x_v1581 q; refine ⟨?_, ?_, ?_⟩ <;> omega) | (intro q; obtain ⟨c0, c1, c2⟩ := x_v1537 q; refine ⟨?_, ?_, ?_⟩ <;> omega) | (intro q; obtain ⟨c0, c1, c2⟩ := x_v1537 q; obtain ⟨d1, d2⟩ := x_v1581 q; refine ⟨?_, ?_, ?_⟩ <;> omega)), (by first | (exact g18.seq x_v228) | (refine g58.seq (RG_nx ?_ x_v617.1 (fun _ _ => st_xY ?_) x_v617.2.1) <;> omega) | (exact g58.seq (RG_f (m := 2) (G := []) x_v691 (RG.msw x_v558) (by decide) (by decide) (fun q9 _ _ => st_xN (by have q8 := (RG.msw x_v558 q9).2.2.2.1; omega)))) | (exact g151.seq x_v1538) | (exact RG_f (m := 4) (G := []) x_v119 hms (by decide) (by decide) (fun q9 _ _ => st_uND (by omega))) | (exact RG_f (m := 4) (G := []) x_v449 hms (by decide) (by decide) (fun q9 _ _ => st_uBD (by omega)))), (FKP.tr (FKP.tr (FKP.tr FKP.rf x_v759) x_v1539) x_v1582)⟩) dX12_readUnit_161
        · skip
          have tc118 := f_eq (k := 0) (by decide) c118
          clear x_v1150
          replace x_v1151 := x_v1151.resolve_left (fun q9 => q9 tc118)
          refine lv_aload_n hx hb dX12_readUnit_121 rfl (lv_at hl 1 rfl) ?_
          refine lv_bipush (v := 40) hx hb dX12_readUnit_122 (by decide) ?_
          have z9_40 : (40 : Int32).toInt = 40 := by decide
          refine tk_i hH hS hA (tr_V (n := 1) (As := [.int 40]) hx hb hml hown hts hkb hH (ox_map hOX rfl) hks hE hS hA (s_M_is l D cs kf T (y4 :: O) ((y4, .inl (cs.2.1, 1302, .inl F75_2)) :: X) a0 hg mq (40) o0 o1 o2 y3 y4 o5 n75_0_6 n75_0_7 y8 n75_0_9 n75_0_10 n75_0_11 n75_0_12 tl f3 t tn t_a0 b_hg t_y3 t_y4 (by omega) (by omega) (by omega) (by omega) (by omega) (by omega) (by omega) (by omega) (by omega) htm (hO.sub (by decide))) kw_1370 kw_1372 ks_47 kw_13 kw_1373 (by decide +kernel) ⟨Nat.le_of_ble_eq_true rfl, Nat.le_of_ble_eq_true rfl⟩ (x_recv (ci := 12) hkb hH 0 rfl rfl) rfl rfl hl.1 (Nat.le_of_ble_eq_true rfl) dX12_readUnit_124 ⟨Nat.le_of_ble_eq_true rfl, Nat.le_of_ble_eq_true rfl⟩) (fun v124 u H locs hz9 hH hS => ?_)
          obtain ⟨rfl, l_v124, u_v124, x_v1240, x_v1241⟩ := hz9
          have hH : HT D cs A T (a0 :: y3 :: y4 :: O) ((a0, .inr (12, o0 :: o1 :: o2 :: (.ref y3) :: (.ref y4) :: o5 :: (.int n75_0_6) :: (.int n75_0_7) :: (.int y8) :: (.int n75_0_9) :: (.int n75_0_10) :: (.int n75_0_11) :: (.int n75_0_12) :: tl)) :: (y3, .inl (cs.2.1, 900, .inl f3)) :: (y4, .inl (cs.2.1, 1302, .inl F75_2)) :: X) H := hH
          refine W.widen (k := 0) (n := 0) (Nat.le_of_ble_eq_true rfl) (Nat.le_of_ble_eq_true rfl) ?_
          refine lv_if_ne (tgt := 139) hx hb dX12_readUnit_127 (by decide) (fun c127 => ?_) (fun c127 => ?_)
          · skip
            have tc127 := f_ne (k := 0) (by decide) c127
            replace x_v1240 := x_v1240.resolve_left tc127
            clear x_v1241
            have hk5 := x_v754 (by omega)
            have hq5 := (RG.msw x_v758 (by omega)).2.2.2.1
            refine lv_aload_n hx hb dX12_readUnit_139 rfl (lv_at hl 1 rfl) ?_
            refine tk_v hH hS hA (tr_V (n := 0) (As := []) hx hb hml hown hts hkb hH (ox_map hOX rfl) hks hE hS hA (s_M_next l D cs kf T (y4 :: O) ((y4, .inl (cs.2.1, 1302, .inl F75_2)) :: X) a0 hg mq o0 o1 o2 y3 y4 o5 n75_0_6 n75_0_7 y8 n75_0_9 n75_0_10 n75_0_11 n75_0_12 tl f3 t tn t_a0 b_hg t_y3 t_y4 (by omega) (by omega) (by omega) (by omega) (by omega) (by omega) (by omega) (by omega) (by omega) htm (by omega) (hO.sub (by decide))) kw_1344 kw_1346 ks_43 kw_13 kw_1347 (by decide +kernel) ⟨Nat.le_of_ble_eq_true rfl, Nat.le_of_ble_eq_true rfl⟩ (x_recv (ci := 12) hkb hH 0 rfl rfl) rfl rfl hl.1 (Nat.le_of_ble_eq_true rfl) dX12_readUnit_140 ⟨Nat.le_of_ble_eq_true rfl, Nat.le_of_ble_eq_true rfl⟩) (fun u H locs hz9 hH hS => ?_)
            obtain ⟨n140_0_6, n140_0_7, n140_0_9, n140_0_10, rfl, x_v1400, x_v1401, x_v1402, x_v1403, x_v1404, x_v1405, x_v1406, x_v1407⟩ := hz9
            have hH : HT D cs A T (a0 :: y3 :: y4 :: O) ((a0, .inr (12, o0 :: o1 :: o2 :: (.ref y3) :: (.ref y4) :: o5 :: (.int n140_0_6) :: (.int n140_0_7) :: (.int y8) :: (.int n140_0_9) :: (.int n140_0_10) :: (.int n75_0_11) :: (.int n75_0_12) :: tl)) :: (y3, .inl (cs.2.1, 900, .inl f3)) :: (y4, .inl (cs.2.1, 1302, .inl F75_2)) :: X) H := hH
            refine W.widen (k := 0) (n := 0) (Nat.le_of_ble_eq_true rfl) (Nat.le_of_ble_eq_true rfl) ?_
            refine lv_goto (tgt := 151) hx hb dX12_readUnit_143 (by decide) ?_
            have g151 : RG t tn [(5, 3)] [(3, 3)] y11 y12 y6 n75_0_11 n75_0_12 n140_0_6 n140_0_7 n140_0_9 n140_0_10 := (by first | (refine g78.seq (RG_nx ?_ x_v1406 (fun _ _ => st_cY ?_) ((RG.msw x_v758 ?_).nx x_v1407)) <;> omega) | (exact g78.seq (RG_f (m := 2) (G := []) x_v1481 (RG.msw x_v758) (by decide) (by decide) (fun q9 _ _ => st_cN (by have q8 := (RG.msw x_v758 q9).2.2.2.1; omega)))))
            refine lv_aload_n hx hb dX12_readUnit_151 rfl (lv_at hl 1 rfl) ?_
            refine lv_iload_n hx hb dX12_readUnit_152 rfl (lv_at hl 2 rfl) ?_
            refine tk_v hH hS hA (tr_V (n := 1) (As := [.int x1]) hx hb hml hown hts hkb hH (ox_map hOX rfl) hks hE hS hA (s_M_readSum3 l D cs kf T O X a0 hg mq x1 o0 o1 o2 y3 y4 o5 n140_0_6 n140_0_7 y8 n140_0_9 n140_0_10 n75_0_11 n75_0_12 tl f3 F75_2 t tn t_a0 b_hg (by omega) (by omega) t_y3 t_y4 (by omega) (by omega) (by omega) (by omega) (by omega) (by omega) (by omega) (by omega) s_F75_2 (by omega) htm (by omega) (by omega) x_v1403 (by first | exact k4 | (refine RD_sl k4 x_v757 ?_; omega) | (intro _; omega)) (fun _ => x_v1406) (hO.sub (by decide))) kw_1422 kw_1424 ks_60 kw_13 kw_1425 (by decide +kernel) ⟨Nat.le_of_ble_eq_true rfl, Nat.le_of_ble_eq_true rfl⟩ (x_recv (ci := 12) hkb hH 0 rfl rfl) rfl rfl hl.1 (Nat.le_of_ble_eq_true rfl) dX12_readUnit_153 ⟨Nat.le_of_ble_eq_true rfl, Nat.le_of_ble_eq_true rfl⟩) (fun u H locs hz9 hH hS => ?_)
            obtain ⟨n153_0_6, n153_0_7, n153_0_9, n153_0_10, n153_0_11, n153_0_12, F153_2, rfl, x_v1530, x_v1531, x_v1532, x_v1533, x_v1534, x_v1535, x_v1536, x_v1537, x_v1538, x_v1539⟩ := hz9
            have s_F153_2 := x_v1530
            have hH : HT D cs A T (a0 :: y3 :: y4 :: O) ((a0, .inr (12, o0 :: o1 :: o2 :: (.ref y3) :: (.ref y4) :: o5 :: (.int n153_0_6) :: (.int n153_0_7) :: (.int y8) :: (.int n153_0_9) :: (.int n153_0_10) :: (.int n153_0_11) :: (.int n153_0_12) :: tl)) :: (y3, .inl (cs.2.1, 900, .inl f3)) :: (y4, .inl (cs.2.1, 1302, .inl F153_2)) :: X) H := hH
            refine W.widen (k := 0) (n := 0) (Nat.le_of_ble_eq_true rfl) (Nat.le_of_ble_eq_true rfl) ?_
            refine lv_aload_n hx hb dX12_readUnit_156 rfl (lv_at hl 1 rfl) ?_
            refine lv_iload_n hx hb dX12_readUnit_157 rfl (lv_at hl 0 rfl) ?_
            have z9_3003 : (3003 : Int32).toInt = 3003 := by decide
            refine tk_v hH hS hA (tr_V (n := 1) (As := [.int 3003]) hx hb hml hown hts hkb hH (ox_map hOX rfl) hks hE hS hA (s_M_codesO l D cs kf T O X a0 hg mq (3003) o0 o1 o2 y3 y4 o5 n153_0_6 n153_0_7 y8 n153_0_9 n153_0_10 n153_0_11 n153_0_12 tl f3 F153_2 t tn t_a0 b_hg (by decide) (by decide) t_y3 t_y4 (by omega) (by omega) (by omega) (by omega) (by omega) (by omega) (by omega) (by omega) s_F153_2 (by omega) htm (by first | (intro q; constructor <;> omega) | (intro q; obtain ⟨c0, c1, c2⟩ := x_v757 q; constructor <;> omega) | (intro q; obtain ⟨c0, c1, c2⟩ := x_v1537 q; constructor <;> omega) | (refine RD_cp k4 hd0 x_v757 ?_ x_v1537 ?_ <;> omega) | (refine RD_cp k4 hd0 x_v1537 ?_ x_v757 ?_ <;> omega)) (hO.sub (by decide))) kw_1418 kw_1420 ks_59 kw_13 kw_1421 (by decide +kernel) ⟨Nat.le_of_ble_eq_true rfl, Nat.le_of_ble_eq_true rfl⟩ (x_recv (ci := 12) hkb hH 0 rfl rfl) rfl rfl hl.1 (Nat.le_of_ble_eq_true rfl) dX12_readUnit_158 ⟨Nat.le_of_ble_eq_true rfl, Nat.le_of_ble_eq_true rfl⟩) (fun u H locs hz9 hH hS => ?_)
            obtain ⟨F158_2, rfl, x_v1580, x_v1581, x_v1582⟩ := hz9
            have s_F158_2 := x_v1580
            have hH : HT D cs A T (a0 :: y3 :: y4 :: O) ((a0, .inr (12, o0 :: o1 :: o2 :: (.ref y3) :: (.ref y4) :: o5 :: (.int n153_0_6) :: (.int n153_0_7) :: (.int y8) :: (.int n153_0_9) :: (.int n153_0_10) :: (.int n153_0_11) :: (.int n153_0_12) :: tl)) :: (y3, .inl (cs.2.1, 900, .inl f3)) :: (y4, .inl (cs.2.1, 1302, .inl F158_2)) :: X) H := hH
            refine W.widen (k := 0) (n := 0) (Nat.le_of_ble_eq_true rfl) (Nat.le_of_ble_eq_true rfl) ?_
            exact te_v hx hb hr hlocks hH hS (⟨n153_0_6, n153_0_7, n153_0_9, n153_0_10, n153_0_11, n153_0_12, F158_2, rfl, s_F158_2, by omega, by omega, by omega, x_v1534, by omega, by omega, (by first | (refine RD_op x_v757 ?_ x_v1537 x_v1581; omega) | (refine RD_op x_v1537 ?_ x_v757 x_v1581; omega) | exact x_v757 | exact x_v1537 | (refine RD_le x_v757 ?_; omega) | (refine RD_le x_v1537 ?_; omega) | (intro q; obtain ⟨c1, c2⟩ := x_v1581 q; refine ⟨?_, ?_, ?_⟩ <;> omega) | (intro q; obtain ⟨c0, c1, c2⟩ := x_v1537 q; refine ⟨?_, ?_, ?_⟩ <;> omega) | (intro q; obtain ⟨c0, c1, c2⟩ := x_v1537 q; obtain ⟨d1, d2⟩ := x_v1581 q; refine ⟨?_, ?_, ?_⟩ <;> omega)), (by first | (exact g18.seq x_v228) | (refine g58.seq (RG_nx ?_ x_v617.1 (fun _ _ => st_xY ?_) x_v617.2.1) <;> omega) | (exact g58.seq (RG_f (m := 2) (G := []) x_v691 (RG.msw x_v558) (by decide) (by decide) (fun q9 _ _ => st_xN (by have q8 := (RG.msw x_v558 q9).2.2.2.1; omega)))) | (exact g151.seq x_v1538) | (exact RG_f (m := 4) (G := []) x_v119 hms (by decide) (by decide) (fun q9 _ _ => st_uND (by omega))) | (exact RG_f (m := 4) (G := []) x_v449 hms (by decide) (by decide) (fun q9 _ _ => st_uBD (by omega)))), (FKP.tr (FKP.tr (FKP.tr FKP.rf x_v759) x_v1539) x_v1582)⟩) dX12_readUnit_161
          · skip
            have tc127 := f_eq (k := 0) (by decide) c127
            clear x_v1240
            replace x_v1241 := x_v1241.resolve_left (fun q9 => q9 tc127)
            refine lv_aload_n hx hb dX12_readUnit_130 rfl (lv_at hl 1 rfl) ?_
            refine lv_bipush (v := 41) hx hb dX12_readUnit_131 (by decide) ?_
            have z9_41 : (41 : Int32).toInt = 41 := by decide
            refine tk_i hH hS hA (tr_V (n := 1) (As := [.int 41]) hx hb hml hown hts hkb hH (ox_map hOX rfl) hks hE hS hA (s_M_is l D cs kf T (y4 :: O) ((y4, .inl (cs.2.1, 1302, .inl F75_2)) :: X) a0 hg mq (41) o0 o1 o2 y3 y4 o5 n75_0_6 n75_0_7 y8 n75_0_9 n75_0_10 n75_0_11 n75_0_12 tl f3 t tn t_a0 b_hg t_y3 t_y4 (by omega) (by omega) (by omega) (by omega) (by omega) (by omega) (by omega) (by omega) (by omega) htm (hO.sub (by decide))) kw_1370 kw_1372 ks_47 kw_13 kw_1373 (by decide +kernel) ⟨Nat.le_of_ble_eq_true rfl, Nat.le_of_ble_eq_true rfl⟩ (x_recv (ci := 12) hkb hH 0 rfl rfl) rfl rfl hl.1 (Nat.le_of_ble_eq_true rfl) dX12_readUnit_133 ⟨Nat.le_of_ble_eq_true rfl, Nat.le_of_ble_eq_true rfl⟩) (fun v133 u H locs hz9 hH hS => ?_)
            obtain ⟨rfl, l_v133, u_v133, x_v1330, x_v1331⟩ := hz9
            have hH : HT D cs A T (a0 :: y3 :: y4 :: O) ((a0, .inr (12, o0 :: o1 :: o2 :: (.ref y3) :: (.ref y4) :: o5 :: (.int n75_0_6) :: (.int n75_0_7) :: (.int y8) :: (.int n75_0_9) :: (.int n75_0_10) :: (.int n75_0_11) :: (.int n75_0_12) :: tl)) :: (y3, .inl (cs.2.1, 900, .inl f3)) :: (y4, .inl (cs.2.1, 1302, .inl F75_2)) :: X) H := hH
            refine W.widen (k := 0) (n := 0) (Nat.le_of_ble_eq_true rfl) (Nat.le_of_ble_eq_true rfl) ?_
            refine lv_if_eq (tgt := 146) hx hb dX12_readUnit_136 (by decide) (fun c136 => ?_) (fun c136 => ?_)
            · skip
              have tc136 := f_eq (k := 0) (by decide) c136
              clear x_v1330
              replace x_v1331 := x_v1331.resolve_left (fun q9 => q9 tc136)
              refine lv_aload_n hx hb dX12_readUnit_146 rfl (lv_at hl 1 rfl) ?_
              refine lv_iconst (v := 2) hx hb dX12_readUnit_147 (by decide) ?_
              have z9_2 : (2 : Int32).toInt = 2 := by decide
              refine tk_v hH hS hA (tr_V (n := 1) (As := [.int 2]) hx hb hml hown hts hkb hH (ox_map hOX rfl) hks hE hS hA (s_M_fails l D cs kf T (y4 :: O) ((y4, .inl (cs.2.1, 1302, .inl F75_2)) :: X) a0 hg mq (2) o0 o1 o2 y3 y4 o5 n75_0_6 n75_0_7 y8 n75_0_9 n75_0_10 n75_0_11 n75_0_12 tl f3 t tn t_a0 b_hg (by decide) (by decide) t_y3 t_y4 (by omega) (by omega) (by omega) (by omega) (by omega) (by omega) (by omega) (by omega) (by omega) htm (hO.sub (by decide))) kw_1378 kw_1380 ks_49 kw_13 kw_1381 (by decide +kernel) ⟨Nat.le_of_ble_eq_true rfl, Nat.le_of_ble_eq_true rfl⟩ (x_recv (ci := 12) hkb hH 0 rfl rfl) rfl rfl hl.1 (Nat.le_of_ble_eq_true rfl) dX12_readUnit_148 ⟨Nat.le_of_ble_eq_true rfl, Nat.le_of_ble_eq_true rfl⟩) (fun u H locs hz9 hH hS => ?_)
              obtain ⟨n148_0_11, n148_0_12, rfl, x_v1480, x_v1481⟩ := hz9
              have hH : HT D cs A T (a0 :: y3 :: y4 :: O) ((a0, .inr (12, o0 :: o1 :: o2 :: (.ref y3) :: (.ref y4) :: o5 :: (.int n75_0_6) :: (.int n75_0_7) :: (.int y8) :: (.int n75_0_9) :: (.int n75_0_10) :: (.int n148_0_11) :: (.int n148_0_12) :: tl)) :: (y3, .inl (cs.2.1, 900, .inl f3)) :: (y4, .inl (cs.2.1, 1302, .inl F75_2)) :: X) H := hH
              refine W.widen (k := 0) (n := 0) (Nat.le_of_ble_eq_true rfl) (Nat.le_of_ble_eq_true rfl) ?_
              have g151 : RG t tn [(5, 3)] [(3, 3)] y11 y12 y6 n148_0_11 n148_0_12 n75_0_6 n75_0_7 n75_0_9 n75_0_10 := (by first | (refine g78.seq (RG_nx ?_ x_v1406 (fun _ _ => st_cY ?_) ((RG.msw x_v758 ?_).nx x_v1407)) <;> omega) | (exact g78.seq (RG_f (m := 2) (G := []) x_v1481 (RG.msw x_v758) (by decide) (by decide) (fun q9 _ _ => st_cN (by have q8 := (RG.msw x_v758 q9).2.2.2.1; omega)))))
              refine lv_aload_n hx hb dX12_readUnit_151 rfl (lv_at hl 1 rfl) ?_
              refine lv_iload_n hx hb dX12_readUnit_152 rfl (lv_at hl 2 rfl) ?_
              refine tk_v hH hS hA (tr_V (n := 1) (As := [.int x1]) hx hb hml hown hts hkb hH (ox_map hOX rfl) hks hE hS hA (s_M_readSum3 l D cs kf T O X a0 hg mq x1 o0 o1 o2 y3 y4 o5 n75_0_6 n75_0_7 y8 n75_0_9 n75_0_10 n148_0_11 n148_0_12 tl f3 F75_2 t tn t_a0 b_hg (by omega) (by omega) t_y3 t_y4 (by omega) (by omega) (by omega) (by omega) (by omega) (by omega) (by omega) (by omega) s_F75_2 (by omega) htm (by omega) (by omega) x_v754 (by first | exact k4 | exact (fun q => absurd q x_v1480) | (refine RD_sl k4 x_v757 ?_; omega) | (intro _; omega)) (fun q9 => absurd q9 x_v1480) (hO.sub (by decide))) kw_1422 kw_1424 ks_60 kw_13 kw_1425 (by decide +kernel) ⟨Nat.le_of_ble_eq_true rfl, Nat.le_of_ble_eq_true rfl⟩ (x_recv (ci := 12) hkb hH 0 rfl rfl) rfl rfl hl.1 (Nat.le_of_ble_eq_true rfl) dX12_readUnit_153 ⟨Nat.le_of_ble_eq_true rfl, Nat.le_of_ble_eq_true rfl⟩) (fun u H locs hz9 hH hS => ?_)
              obtain ⟨n153_0_6, n153_0_7, n153_0_9, n153_0_10, n153_0_11, n153_0_12, F153_2, rfl, x_v1530, x_v1531, x_v1532, x_v1533, x_v1534, x_v1535, x_v1536, x_v1537, x_v1538, x_v1539⟩ := hz9
              have s_F153_2 := x_v1530
              have hH : HT D cs A T (a0 :: y3 :: y4 :: O) ((a0, .inr (12, o0 :: o1 :: o2 :: (.ref y3) :: (.ref y4) :: o5 :: (.int n153_0_6) :: (.int n153_0_7) :: (.int y8) :: (.int n153_0_9) :: (.int n153_0_10) :: (.int n153_0_11) :: (.int n153_0_12) :: tl)) :: (y3, .inl (cs.2.1, 900, .inl f3)) :: (y4, .inl (cs.2.1, 1302, .inl F153_2)) :: X) H := hH
              refine W.widen (k := 0) (n := 0) (Nat.le_of_ble_eq_true rfl) (Nat.le_of_ble_eq_true rfl) ?_
              refine lv_aload_n hx hb dX12_readUnit_156 rfl (lv_at hl 1 rfl) ?_
              refine lv_iload_n hx hb dX12_readUnit_157 rfl (lv_at hl 0 rfl) ?_
              have z9_3003 : (3003 : Int32).toInt = 3003 := by decide
              refine tk_v hH hS hA (tr_V (n := 1) (As := [.int 3003]) hx hb hml hown hts hkb hH (ox_map hOX rfl) hks hE hS hA (s_M_codesO l D cs kf T O X a0 hg mq (3003) o0 o1 o2 y3 y4 o5 n153_0_6 n153_0_7 y8 n153_0_9 n153_0_10 n153_0_11 n153_0_12 tl f3 F153_2 t tn t_a0 b_hg (by decide) (by decide) t_y3 t_y4 (by omega) (by omega) (by omega) (by omega) (by omega) (by omega) (by omega) (by omega) s_F153_2 (by omega) htm (by first | exact (fun q => absurd q x_v1480) | exact (fun q => absurd (x_v757 q).1 x_v1480) | exact (fun q => absurd (x_v1537 q).1 x_v1480) | (intro q; constructor <;> omega) | (intro q; obtain ⟨c0, c1, c2⟩ := x_v757 q; constructor <;> omega) | (intro q; obtain ⟨c0, c1, c2⟩ := x_v1537 q; constructor <;> omega) | (refine RD_cp k4 hd0 x_v757 ?_ x_v1537 ?_ <;> omega) | (refine RD_cp k4 hd0 x_v1537 ?_ x_v757 ?_ <;> omega)) (hO.sub (by decide))) kw_1418 kw_1420 ks_59 kw_13 kw_1421 (by decide +kernel) ⟨Nat.le_of_ble_eq_true rfl, Nat.le_of_ble_eq_true rfl⟩ (x_recv (ci := 12) hkb hH 0 rfl rfl) rfl rfl hl.1 (Nat.le_of_ble_eq_true rfl) dX12_readUnit_158 ⟨Nat.le_of_ble_eq_true rfl, Nat.le_of_ble_eq_true rfl⟩) (fun u H locs hz9 hH hS => ?_)
              obtain ⟨F158_2, rfl, x_v1580, x_v1581, x_v1582⟩ := hz9
              have s_F158_2 := x_v1580
              have hH : HT D cs A T (a0 :: y3 :: y4 :: O) ((a0, .inr (12, o0 :: o1 :: o2 :: (.ref y3) :: (.ref y4) :: o5 :: (.int n153_0_6) :: (.int n153_0_7) :: (.int y8) :: (.int n153_0_9) :: (.int n153_0_10) :: (.int n153_0_11) :: (.int n153_0_12) :: tl)) :: (y3, .inl (cs.2.1, 900, .inl f3)) :: (y4, .inl (cs.2.1, 1302, .inl F158_2)) :: X) H := hH
              refine W.widen (k := 0) (n := 0) (Nat.le_of_ble_eq_true rfl) (Nat.le_of_ble_eq_true rfl) ?_
              exact te_v hx hb hr hlocks hH hS (⟨n153_0_6, n153_0_7, n153_0_9, n153_0_10, n153_0_11, n153_0_12, F158_2, rfl, s_F158_2, by omega, by omega, by omega, x_v1534, by omega, by omega, (by first | exact (fun q => absurd q x_v1480) | exact (fun q => absurd (x_v757 q).1 x_v1480) | exact (fun q => absurd (x_v1537 q).1 x_v1480) | (refine RD_op x_v757 ?_ x_v1537 x_v1581; omega) | (refine RD_op x_v1537 ?_ x_v757 x_v1581; omega) | exact x_v757 | exact x_v1537 | (refine RD_le x_v757 ?_; omega) | (refine RD_le x_v1537 ?_; omega) | (intro q; obtain ⟨c1, c2⟩ := x_v1581 q; refine ⟨?_, ?_, ?_⟩ <;> omega) | (intro q; obtain ⟨c0, c1, c2⟩ := x_v1537 q; refine ⟨?_, ?_, ?_⟩ <;> omega) | (intro q; obtain ⟨c0, c1, c2⟩ := x_v1537 q; obtain ⟨d1, d2⟩ := x_v1581 q; refine ⟨?_, ?_, ?_⟩ <;> omega)), (by first | (exact g18.seq x_v228) | (refine g58.seq (RG_nx ?_ x_v617.1 (fun _ _ => st_xY ?_) x_v617.2.1) <;> omega) | (exact g58.seq (RG_f (m := 2) (G := []) x_v691 (RG.msw x_v558) (by decide) (by decide) (fun q9 _ _ => st_xN (by have q8 := (RG.msw x_v558 q9).2.2.2.1; omega)))) | (exact g151.seq x_v1538) | (exact RG_f (m := 4) (G := []) x_v119 hms (by decide) (by decide) (fun q9 _ _ => st_uND (by omega))) | (exact RG_f (m := 4) (G := []) x_v449 hms (by decide) (by decide) (fun q9 _ _ => st_uBD (by omega)))), (FKP.tr (FKP.tr (FKP.tr FKP.rf x_v759) x_v1539) x_v1582)⟩) dX12_readUnit_161
            · skip
              have tc136 := f_ne (k := 0) (by decide) c136
              replace x_v1330 := x_v1330.resolve_left tc136
              clear x_v1331
              have hk5 := x_v754 (by omega)
              have hq5 := (RG.msw x_v758 (by omega)).2.2.2.1
              refine lv_aload_n hx hb dX12_readUnit_139 rfl (lv_at hl 1 rfl) ?_
              refine tk_v hH hS hA (tr_V (n := 0) (As := []) hx hb hml hown hts hkb hH (ox_map hOX rfl) hks hE hS hA (s_M_next l D cs kf T (y4 :: O) ((y4, .inl (cs.2.1, 1302, .inl F75_2)) :: X) a0 hg mq o0 o1 o2 y3 y4 o5 n75_0_6 n75_0_7 y8 n75_0_9 n75_0_10 n75_0_11 n75_0_12 tl f3 t tn t_a0 b_hg t_y3 t_y4 (by omega) (by omega) (by omega) (by omega) (by omega) (by omega) (by omega) (by omega) (by omega) htm (by omega) (hO.sub (by decide))) kw_1344 kw_1346 ks_43 kw_13 kw_1347 (by decide +kernel) ⟨Nat.le_of_ble_eq_true rfl, Nat.le_of_ble_eq_true rfl⟩ (x_recv (ci := 12) hkb hH 0 rfl rfl) rfl rfl hl.1 (Nat.le_of_ble_eq_true rfl) dX12_readUnit_140 ⟨Nat.le_of_ble_eq_true rfl, Nat.le_of_ble_eq_true rfl⟩) (fun u H locs hz9 hH hS => ?_)
              obtain ⟨n140_0_6, n140_0_7, n140_0_9, n140_0_10, rfl, x_v1400, x_v1401, x_v1402, x_v1403, x_v1404, x_v1405, x_v1406, x_v1407⟩ := hz9
              have hH : HT D cs A T (a0 :: y3 :: y4 :: O) ((a0, .inr (12, o0 :: o1 :: o2 :: (.ref y3) :: (.ref y4) :: o5 :: (.int n140_0_6) :: (.int n140_0_7) :: (.int y8) :: (.int n140_0_9) :: (.int n140_0_10) :: (.int n75_0_11) :: (.int n75_0_12) :: tl)) :: (y3, .inl (cs.2.1, 900, .inl f3)) :: (y4, .inl (cs.2.1, 1302, .inl F75_2)) :: X) H := hH
              refine W.widen (k := 0) (n := 0) (Nat.le_of_ble_eq_true rfl) (Nat.le_of_ble_eq_true rfl) ?_
              refine lv_goto (tgt := 151) hx hb dX12_readUnit_143 (by decide) ?_
              have g151 : RG t tn [(5, 3)] [(3, 3)] y11 y12 y6 n75_0_11 n75_0_12 n140_0_6 n140_0_7 n140_0_9 n140_0_10 := (by first | (refine g78.seq (RG_nx ?_ x_v1406 (fun _ _ => st_cY ?_) ((RG.msw x_v758 ?_).nx x_v1407)) <;> omega) | (exact g78.seq (RG_f (m := 2) (G := []) x_v1481 (RG.msw x_v758) (by decide) (by decide) (fun q9 _ _ => st_cN (by have q8 := (RG.msw x_v758 q9).2.2.2.1; omega)))))
              refine lv_aload_n hx hb dX12_readUnit_151 rfl (lv_at hl 1 rfl) ?_
              refine lv_iload_n hx hb dX12_readUnit_152 rfl (lv_at hl 2 rfl) ?_
              refine tk_v hH hS hA (tr_V (n := 1) (As := [.int x1]) hx hb hml hown hts hkb hH (ox_map hOX rfl) hks hE hS hA (s_M_readSum3 l D cs kf T O X a0 hg mq x1 o0 o1 o2 y3 y4 o5 n140_0_6 n140_0_7 y8 n140_0_9 n140_0_10 n75_0_11 n75_0_12 tl f3 F75_2 t tn t_a0 b_hg (by omega) (by omega) t_y3 t_y4 (by omega) (by omega) (by omega) (by omega) (by omega) (by omega) (by omega) (by omega) s_F75_2 (by omega) htm (by omega) (by omega) x_v1403 (by first | exact k4 | (refine RD_sl k4 x_v757 ?_; omega) | (intro _; omega)) (fun _ => x_v1406) (hO.sub (by decide))) kw_1422 kw_1424 ks_60 kw_13 kw_1425 (by decide +kernel) ⟨Nat.le_of_ble_eq_true rfl, Nat.le_of_ble_eq_true rfl⟩ (x_recv (ci := 12) hkb hH 0 rfl rfl) rfl rfl hl.1 (Nat.le_of_ble_eq_true rfl) dX12_readUnit_153 ⟨Nat.le_of_ble_eq_true rfl, Nat.le_of_ble_eq_true rfl⟩) (fun u H locs hz9 hH hS => ?_)
              obtain ⟨n153_0_6, n153_0_7, n153_0_9, n153_0_10, n153_0_11, n153_0_12, F153_2, rfl, x_v1530, x_v1531, x_v1532, x_v1533, x_v1534, x_v1535, x_v1536, x_v1537, x_v1538, x_v1539⟩ := hz9
              have s_F153_2 := x_v1530
              have hH : HT D cs A T (a0 :: y3 :: y4 :: O) ((a0, .inr (12, o0 :: o1 :: o2 :: (.ref y3) :: (.ref y4) :: o5 :: (.int n153_0_6) :: (.int n153_0_7) :: (.int y8) :: (.int n153_0_9) :: (.int n153_0_10) :: (.int n153_0_11) :: (.int n153_0_12) :: tl)) :: (y3, .inl (cs.2.1, 900, .inl f3)) :: (y4, .inl (cs.2.1, 1302, .inl F153_2)) :: X) H := hH
              refine W.widen (k := 0) (n := 0) (Nat.le_of_ble_eq_true rfl) (Nat.le_of_ble_eq_true rfl) ?_
              refine lv_aload_n hx hb dX12_readUnit_156 rfl (lv_at hl 1 rfl) ?_
              refine lv_iload_n hx hb dX12_readUnit_157 rfl (lv_at hl 0 rfl) ?_
              have z9_3003 : (3003 : Int32).toInt = 3003 := by decide
              refine tk_v hH hS hA (tr_V (n := 1) (As := [.int 3003]) hx hb hml hown hts hkb hH (ox_map hOX rfl) hks hE hS hA (s_M_codesO l D cs kf T O X a0 hg mq (3003) o0 o1 o2 y3 y4 o5 n153_0_6 n153_0_7 y8 n153_0_9 n153_0_10 n153_0_11 n153_0_12 tl f3 F153_2 t tn t_a0 b_hg (by decide) (by decide) t_y3 t_y4 (by omega) (by omega) (by omega) (by omega) (by omega) (by omega) (by omega) (by omega) s_F153_2 (by omega) htm (by first | (intro q; constructor <;> omega) | (intro q; obtain ⟨c0, c1, c2⟩ := x_v757 q; constructor <;> omega) | (intro q; obtain ⟨c0, c1, c2⟩ := x_v1537 q; constructor <;> omega) | (refine RD_cp k4 hd0 x_v757 ?_ x_v1537 ?_ <;> omega) | (refine RD_cp k4 hd0 x_v1537 ?_ x_v757 ?_ <;> omega)) (hO.sub (by decide))) kw_1418 kw_1420 ks_59 kw_13 kw_1421 (by decide +kernel) ⟨Nat.le_of_ble_eq_true rfl, Nat.le_of_ble_eq_true rfl⟩ (x_recv (ci := 12) hkb hH 0 rfl rfl) rfl rfl hl.1 (Nat.le_of_ble_eq_true rfl) dX12_readUnit_158 ⟨Nat.le_of_ble_eq_true rfl, Nat.le_of_ble_eq_true rfl⟩) (fun u H locs hz9 hH hS => ?_)
              obtain ⟨F158_2, rfl, x_v1580, x_v1581, x_v1582⟩ := hz9
              have s_F158_2 := x_v1580
              have hH : HT D cs A T (a0 :: y3 :: y4 :: O) ((a0, .inr (12, o0 :: o1 :: o2 :: (.ref y3) :: (.ref y4) :: o5 :: (.int n153_0_6) :: (.int n153_0_7) :: (.int y8) :: (.int n153_0_9) :: (.int n153_0_10) :: (.int n153_0_11) :: (.int n153_0_12) :: tl)) :: (y3, .inl (cs.2.1, 900, .inl f3)) :: (y4, .inl (cs.2.1, 1302, .inl F158_2)) :: X) H := hH
              refine W.widen (k := 0) (n := 0) (Nat.le_of_ble_eq_true rfl) (Nat.le_of_ble_eq_true rfl) ?_
              exact te_v hx hb hr hlocks hH hS (⟨n153_0_6, n153_0_7, n153_0_9, n153_0_10, n153_0_11, n153_0_12, F158_2, rfl, s_F158_2, by omega, by omega, by omega, x_v1534, by omega, by omega, (by first | (refine RD_op x_v757 ?_ x_v1537 x_v1581; omega) | (refine RD_op x_v1537 ?_ x_v757 x_v1581; omega) | exact x_v757 | exact x_v1537 | (refine RD_le x_v757 ?_; omega) | (refine RD_le x_v1537 ?_; omega) | (intro q; obtain ⟨c1, c2⟩ := x_v1581 q; refine ⟨?_, ?_, ?_⟩ <;> omega) | (intro q; obtain ⟨c0, c1, c2⟩ := x_v1537 q; refine ⟨?_, ?_, ?_⟩ <;> omega) | (intro q; obtain ⟨c0, c1, c2⟩ := x_v1537 q; obtain ⟨d1, d2⟩ := x_v1581 q; refine ⟨?_, ?_, ?_⟩ <;> omega)), (by first | (exact g18.seq x_v228) | (refine g58.seq (RG_nx ?_ x_v617.1 (fun _ _ => st_xY ?_) x_v617.2.1) <;> omega) | (exact g58.seq (RG_f (m := 2) (G := []) x_v691 (RG.msw x_v558) (by decide) (by decide) (fun q9 _ _ => st_xN (by have q8 := (RG.msw x_v558 q9).2.2.2.1; omega)))) | (exact g151.seq x_v1538) | (exact RG_f (m := 4) (G := []) x_v119 hms (by decide) (by decide) (fun q9 _ _ => st_uND (by omega))) | (exact RG_f (m := 4) (G := []) x_v449 hms (by decide) (by decide) (fun q9 _ _ => st_uBD (by omega)))), (FKP.tr (FKP.tr (FKP.tr FKP.rf x_v759) x_v1539) x_v1582)⟩) dX12_readUnit_161
    · skip
      have tc39 := f_ne (k := 0) (by decide) c39
      replace x_v360 := x_v360.resolve_left tc39
      clear x_v361
      refine lv_aload_n hx hb dX12_readUnit_42 rfl (lv_at hl 0 rfl) ?_
      refine lv_iload_n hx hb dX12_readUnit_43 rfl (lv_at hl 1 rfl) ?_
      refine tk_i hH hS hA (tr_V (n := 1) (As := [.int x1]) hx hb hml hown hts hkb hH (ox_map hOX rfl) hks hE hS hA (s_M_goesIn3 l D cs kf T (y4 :: O) ((y4, .inl (cs.2.1, 1302, .inl f4)) :: X) a0 hg mq x1 o0 o1 o2 y3 y4 o5 y6 y7 y8 y9 y10 y11 y12 tl f3 t tn t_a0 b_hg (by omega) (by omega) t_y3 t_y4 (by omega) (by omega) (by omega) (by omega) (by omega) (by omega) (by omega) (by omega) (by omega) htm (by omega) (by omega) k3 (by omega) (by omega) hms (hO.sub (by decide))) kw_1414 kw_1416 ks_58 kw_13 kw_1417 (by decide +kernel) ⟨Nat.le_of_ble_eq_true rfl, Nat.le_of_ble_eq_true rfl⟩ (x_recv (ci := 12) hkb hH 0 rfl rfl) rfl rfl hl.1 (Nat.le_of_ble_eq_true rfl) dX12_readUnit_44 ⟨Nat.le_of_ble_eq_true rfl, Nat.le_of_ble_eq_true rfl⟩) (fun v44 u H locs hz9 hH hS => ?_)
      obtain ⟨n44_0_6, n44_0_7, n44_0_9, n44_0_10, n44_0_11, n44_0_12, rfl, l_v44, u_v44, x_v440, x_v441, x_v442, x_v443, x_v444, x_v445, x_v446, x_v447, x_v448, x_v449⟩ := hz9
      have hH : HT D cs A T (a0 :: y3 :: y4 :: O) ((a0, .inr (12, o0 :: o1 :: o2 :: (.ref y3) :: (.ref y4) :: o5 :: (.int n44_0_6) :: (.int n44_0_7) :: (.int y8) :: (.int n44_0_9) :: (.int n44_0_10) :: (.int n44_0_11) :: (.int n44_0_12) :: tl)) :: (y3, .inl (cs.2.1, 900, .inl f3)) :: (y4, .inl (cs.2.1, 1302, .inl f4)) :: X) H := hH
      refine W.widen (k := 0) (n := 0) (Nat.le_of_ble_eq_true rfl) (Nat.le_of_ble_eq_true rfl) ?_
      refine lv_if_ne (tgt := 51) hx hb dX12_readUnit_47 (by decide) (fun c47 => ?_) (fun c47 => ?_)
      · skip
        have tc47 := f_ne (k := 0) (by decide) c47
        replace x_v446 := x_v446.resolve_left tc47
        replace x_v448 := x_v448.resolve_left tc47
        clear x_v447
        clear x_v449
        have hsl := k4 (by omega)
        have hq1 := hq0 (by omega)
        have g51 : RG t tn [(5, 3)] [(8, 4), (20, 38)] y11 y12 y6 n44_0_11 n44_0_12 n44_0_6 n44_0_7 n44_0_9 n44_0_10 := Or.inr (Or.inl ⟨by omega, by omega, x_v448.1, GL_nx (fun _ _ => st_uB (by omega) (by decide)) x_v448.2.1⟩)
        refine lv_aload_n hx hb dX12_readUnit_51 rfl (lv_at hl 0 rfl) ?_
        refine lv_iload_n hx hb dX12_readUnit_52 rfl (lv_at hl 1 rfl) ?_
        refine lv_iconst (v := 1) hx hb dX12_readUnit_53 (by decide) ?_
        refine lv_iadd hx hb dX12_readUnit_54 ?_
        refine lv_topi (fun v54 ev54 => ?_)
        have tv54 : v54.toInt = x1.toInt + (1) := by rw [ev54]; exact add_i rfl (by decide : (1 : Int32).toInt = 1) (by omega) (by omega)
        refine tk_v hH hS hA (tr_V (n := 1) (As := [.int v54]) hx hb hml hown hts hkb hH (ox_map hOX rfl) hks hE hS hA (s_M_readTruth4 l D cs kf T O X a0 hg mq v54 o0 o1 o2 y3 y4 o5 n44_0_6 n44_0_7 y8 n44_0_9 n44_0_10 n44_0_11 n44_0_12 tl f3 f4 t tn t_a0 b_hg (by omega) (by omega) t_y3 t_y4 (by omega) (by omega) (by omega) (by omega) (by omega) (by omega) (by omega) (by omega) s_f4 (by omega) htm (by omega) (by omega) x_v443 (by first | exact k4 | exact (fun q => absurd q x_v447) | (intro _; omega)) (fun _ => x_v448.1) (hO.sub (by decide))) kw_1402 kw_1404 ks_55 kw_13 kw_1405 (by decide +kernel) ⟨Nat.le_of_ble_eq_true rfl, Nat.le_of_ble_eq_true rfl⟩ (x_recv (ci := 12) hkb hH 0 rfl rfl) rfl rfl hl.1 (Nat.le_of_ble_eq_true rfl) dX12_readUnit_55 ⟨Nat.le_of_ble_eq_true rfl, Nat.le_of_ble_eq_true rfl⟩) (fun u H locs hz9 hH hS => ?_)
        obtain ⟨n55_0_6, n55_0_7, n55_0_9, n55_0_10, n55_0_11, n55_0_12, F55_2, rfl, x_v550, x_v551, x_v552, x_v553, x_v554, x_v555, x_v556, x_v557, x_v558, x_v559⟩ := hz9
        have s_F55_2 := x_v550
        have hH : HT D cs A T (a0 :: y3 :: y4 :: O) ((a0, .inr (12, o0 :: o1 :: o2 :: (.ref y3) :: (.ref y4) :: o5 :: (.int n55_0_6) :: (.int n55_0_7) :: (.int y8) :: (.int n55_0_9) :: (.int n55_0_10) :: (.int n55_0_11) :: (.int n55_0_12) :: tl)) :: (y3, .inl (cs.2.1, 900, .inl f3)) :: (y4, .inl (cs.2.1, 1302, .inl F55_2)) :: X) H := hH
        refine W.widen (k := 0) (n := 0) (Nat.le_of_ble_eq_true rfl) (Nat.le_of_ble_eq_true rfl) ?_
        have g58 : RG t tn [(5, 3)] [(20, 38)] y11 y12 y6 n55_0_11 n55_0_12 n55_0_6 n55_0_7 n55_0_9 n55_0_10 := g51.seq (RG.cons x_v558)
        refine lv_aload_n hx hb dX12_readUnit_58 rfl (lv_at hl 0 rfl) ?_
        refine lv_bipush (v := 38) hx hb dX12_readUnit_59 (by decide) ?_
        have z9_38 : (38 : Int32).toInt = 38 := by decide
        refine tk_i hH hS hA (tr_V (n := 1) (As := [.int 38]) hx hb hml hown hts hkb hH (ox_map hOX rfl) hks hE hS hA (s_M_eats l D cs kf T (y4 :: O) ((y4, .inl (cs.2.1, 1302, .inl F55_2)) :: X) a0 hg mq (38) o0 o1 o2 y3 y4 o5 n55_0_6 n55_0_7 y8 n55_0_9 n55_0_10 n55_0_11 n55_0_12 tl f3 t tn t_a0 b_hg t_y3 t_y4 (by omega) (by omega) (by omega) (by omega) (by omega) (by omega) (by omega) (by omega) (by omega) htm (by omega) (by omega) x_v554 (by omega) (RG.msw x_v558) (hO.sub (by decide))) kw_1390 kw_1392 ks_52 kw_13 kw_1393 (by decide +kernel) ⟨Nat.le_of_ble_eq_true rfl, Nat.le_of_ble_eq_true rfl⟩ (x_recv (ci := 12) hkb hH 0 rfl rfl) rfl rfl hl.1 (Nat.le_of_ble_eq_true rfl) dX12_readUnit_61 ⟨Nat.le_of_ble_eq_true rfl, Nat.le_of_ble_eq_true rfl⟩) (fun v61 u H locs hz9 hH hS => ?_)
        obtain ⟨n61_0_6, n61_0_7, n61_0_9, n61_0_10, rfl, l_v61, u_v61, x_v610, x_v611, x_v612, x_v613, x_v614, x_v615, x_v616, x_v617, x_v618⟩ := hz9
        have hH : HT D cs A T (a0 :: y3 :: y4 :: O) ((a0, .inr (12, o0 :: o1 :: o2 :: (.ref y3) :: (.ref y4) :: o5 :: (.int n61_0_6) :: (.int n61_0_7) :: (.int y8) :: (.int n61_0_9) :: (.int n61_0_10) :: (.int n55_0_11) :: (.int n55_0_12) :: tl)) :: (y3, .inl (cs.2.1, 900, .inl f3)) :: (y4, .inl (cs.2.1, 1302, .inl F55_2)) :: X) H := hH
        refine W.widen (k := 0) (n := 0) (Nat.le_of_ble_eq_true rfl) (Nat.le_of_ble_eq_true rfl) ?_
        refine lv_if_ne (tgt := 72) hx hb dX12_readUnit_64 (by decide) (fun c64 => ?_) (fun c64 => ?_)
        · skip
          have tc64 := f_ne (k := 0) (by decide) c64
          replace x_v616 := x_v616.resolve_left tc64
          replace x_v617 := x_v617.resolve_left tc64
          clear x_v618
          exact te_v hx hb hr hlocks hH hS (⟨n61_0_6, n61_0_7, n61_0_9, n61_0_10, n55_0_11, n55_0_12, F55_2, rfl, s_F55_2, by omega, by omega, by omega, x_v613, by omega, by omega, (by first | exact (fun q => absurd q x_v447) | exact (fun q => absurd (x_v557 q).1 x_v447) | exact x_v557 | (refine RD_le x_v557 ?_; omega) | (intro q; obtain ⟨c0, c1, c2⟩ := x_v557 q; refine ⟨?_, ?_, ?_⟩ <;> omega)), (by first | (exact g18.seq x_v228) | (refine g58.seq (RG_nx ?_ x_v617.1 (fun _ _ => st_xY ?_) x_v617.2.1) <;> omega) | (exact g58.seq (RG_f (m := 2) (G := []) x_v691 (RG.msw x_v558) (by decide) (by decide) (fun q9 _ _ => st_xN (by have q8 := (RG.msw x_v558 q9).2.2.2.1; omega)))) | (exact g151.seq x_v1538) | (exact RG_f (m := 4) (G := []) x_v119 hms (by decide) (by decide) (fun q9 _ _ => st_uND (by omega))) | (exact RG_f (m := 4) (G := []) x_v449 hms (by decide) (by decide) (fun q9 _ _ => st_uBD (by omega)))), (FKP.tr FKP.rf x_v559)⟩) dX12_readUnit_72
        · skip
          have tc64 := f_eq (k := 0) (by decide) c64
          clear x_v616
          clear x_v617
          replace x_v618 := x_v618.resolve_left (fun q9 => q9 tc64)
          obtain ⟨e6, e7, e9, e10, x_v618⟩ := x_v618
          subst e6 e7 e9 e10
          refine lv_aload_n hx hb dX12_readUnit_67 rfl (lv_at hl 0 rfl) ?_
          refine lv_iconst (v := 2) hx hb dX12_readUnit_68 (by decide) ?_
          have z9_2 : (2 : Int32).toInt = 2 := by decide
          refine tk_v hH hS hA (tr_V (n := 1) (As := [.int 2]) hx hb hml hown hts hkb hH (ox_map hOX rfl) hks hE hS hA (s_M_fails l D cs kf T (y4 :: O) ((y4, .inl (cs.2.1, 1302, .inl F55_2)) :: X) a0 hg mq (2) o0 o1 o2 y3 y4 o5 n55_0_6 n55_0_7 y8 n55_0_9 n55_0_10 n55_0_11 n55_0_12 tl f3 t tn t_a0 b_hg (by decide) (by decide) t_y3 t_y4 (by omega) (by omega) (by omega) (by omega) (by omega) (by omega) (by omega) (by omega) (by omega) htm (hO.sub (by decide))) kw_1378 kw_1380 ks_49 kw_13 kw_1381 (by decide +kernel) ⟨Nat.le_of_ble_eq_true rfl, Nat.le_of_ble_eq_true rfl⟩ (x_recv (ci := 12) hkb hH 0 rfl rfl) rfl rfl hl.1 (Nat.le_of_ble_eq_true rfl) dX12_readUnit_69 ⟨Nat.le_of_ble_eq_true rfl, Nat.le_of_ble_eq_true rfl⟩) (fun u H locs hz9 hH hS => ?_)
          obtain ⟨n69_0_11, n69_0_12, rfl, x_v690, x_v691⟩ := hz9
          have hH : HT D cs A T (a0 :: y3 :: y4 :: O) ((a0, .inr (12, o0 :: o1 :: o2 :: (.ref y3) :: (.ref y4) :: o5 :: (.int n55_0_6) :: (.int n55_0_7) :: (.int y8) :: (.int n55_0_9) :: (.int n55_0_10) :: (.int n69_0_11) :: (.int n69_0_12) :: tl)) :: (y3, .inl (cs.2.1, 900, .inl f3)) :: (y4, .inl (cs.2.1, 1302, .inl F55_2)) :: X) H := hH
          refine W.widen (k := 0) (n := 0) (Nat.le_of_ble_eq_true rfl) (Nat.le_of_ble_eq_true rfl) ?_
          exact te_v hx hb hr hlocks hH hS (⟨n55_0_6, n55_0_7, n55_0_9, n55_0_10, n69_0_11, n69_0_12, F55_2, rfl, s_F55_2, by omega, by omega, by omega, x_v613, by omega, by omega, (by first | exact (fun q => absurd q x_v447) | exact (fun q => absurd q x_v690) | exact (fun q => absurd (x_v557 q).1 x_v447) | exact (fun q => absurd (x_v557 q).1 x_v690) | exact x_v557 | (refine RD_le x_v557 ?_; omega) | (intro q; obtain ⟨c0, c1, c2⟩ := x_v557 q; refine ⟨?_, ?_, ?_⟩ <;> omega)), (by first | (exact g18.seq x_v228) | (refine g58.seq (RG_nx ?_ x_v617.1 (fun _ _ => st_xY ?_) x_v617.2.1) <;> omega) | (exact g58.seq (RG_f (m := 2) (G := []) x_v691 (RG.msw x_v558) (by decide) (by decide) (fun q9 _ _ => st_xN (by have q8 := (RG.msw x_v558 q9).2.2.2.1; omega)))) | (exact g151.seq x_v1538) | (exact RG_f (m := 4) (G := []) x_v119 hms (by decide) (by decide) (fun q9 _ _ => st_uND (by omega))) | (exact RG_f (m := 4) (G := []) x_v449 hms (by decide) (by decide) (fun q9 _ _ => st_uBD (by omega)))), (FKP.tr FKP.rf x_v559)⟩) dX12_readUnit_72
      · skip
        have tc47 := f_eq (k := 0) (by decide) c47
        clear x_v446
        clear x_v448
        replace x_v447 := x_v447.resolve_left (fun q9 => q9 tc47)
        replace x_v449 := x_v449.resolve_left (fun q9 => q9 tc47)
        exfalso; omega
  · skip
    have tc6 := f_ne (k := 0) (by decide) c6
    replace x_v30 := x_v30.resolve_left tc6
    clear x_v31
    refine lv_aload_n hx hb dX12_readUnit_9 rfl (lv_at hl 0 rfl) ?_
    refine lv_iload_n hx hb dX12_readUnit_10 rfl (lv_at hl 1 rfl) ?_
    refine tk_i hH hS hA (tr_V (n := 1) (As := [.int x1]) hx hb hml hown hts hkb hH (ox_map hOX rfl) hks hE hS hA (s_M_goesIn3 l D cs kf T (y4 :: O) ((y4, .inl (cs.2.1, 1302, .inl f4)) :: X) a0 hg mq x1 o0 o1 o2 y3 y4 o5 y6 y7 y8 y9 y10 y11 y12 tl f3 t tn t_a0 b_hg (by omega) (by omega) t_y3 t_y4 (by omega) (by omega) (by omega) (by omega) (by omega) (by omega) (by omega) (by omega) (by omega) htm (by omega) (by omega) k3 (by omega) (by omega) hms (hO.sub (by decide))) kw_1414 kw_1416 ks_58 kw_13 kw_1417 (by decide +kernel) ⟨Nat.le_of_ble_eq_true rfl, Nat.le_of_ble_eq_true rfl⟩ (x_recv (ci := 12) hkb hH 0 rfl rfl) rfl rfl hl.1 (Nat.le_of_ble_eq_true rfl) dX12_readUnit_11 ⟨Nat.le_of_ble_eq_true rfl, Nat.le_of_ble_eq_true rfl⟩) (fun v11 u H locs hz9 hH hS => ?_)
    obtain ⟨n11_0_6, n11_0_7, n11_0_9, n11_0_10, n11_0_11, n11_0_12, rfl, l_v11, u_v11, x_v110, x_v111, x_v112, x_v113, x_v114, x_v115, x_v116, x_v117, x_v118, x_v119⟩ := hz9
    have hH : HT D cs A T (a0 :: y3 :: y4 :: O) ((a0, .inr (12, o0 :: o1 :: o2 :: (.ref y3) :: (.ref y4) :: o5 :: (.int n11_0_6) :: (.int n11_0_7) :: (.int y8) :: (.int n11_0_9) :: (.int n11_0_10) :: (.int n11_0_11) :: (.int n11_0_12) :: tl)) :: (y3, .inl (cs.2.1, 900, .inl f3)) :: (y4, .inl (cs.2.1, 1302, .inl f4)) :: X) H := hH
    refine W.widen (k := 0) (n := 0) (Nat.le_of_ble_eq_true rfl) (Nat.le_of_ble_eq_true rfl) ?_
    refine lv_if_ne (tgt := 18) hx hb dX12_readUnit_14 (by decide) (fun c14 => ?_) (fun c14 => ?_)
    · skip
      have tc14 := f_ne (k := 0) (by decide) c14
      replace x_v116 := x_v116.resolve_left tc14
      replace x_v118 := x_v118.resolve_left tc14
      clear x_v117
      clear x_v119
      have hsl := k4 (by omega)
      have hq1 := hq0 (by omega)
      have g18 : RG t tn [(5, 3)] [(5, 4)] y11 y12 y6 n11_0_11 n11_0_12 n11_0_6 n11_0_7 n11_0_9 n11_0_10 := Or.inr (Or.inl ⟨by omega, by omega, x_v118.1, GL_nx (fun _ _ => st_uN (by omega) (by decide)) x_v118.2.1⟩)
      refine lv_aload_n hx hb dX12_readUnit_18 rfl (lv_at hl 0 rfl) ?_
      refine lv_iload_n hx hb dX12_readUnit_19 rfl (lv_at hl 1 rfl) ?_
      refine lv_iconst (v := 1) hx hb dX12_readUnit_20 (by decide) ?_
      refine lv_iadd hx hb dX12_readUnit_21 ?_
      refine lv_topi (fun v21 ev21 => ?_)
      have tv21 : v21.toInt = x1.toInt + (1) := by rw [ev21]; exact add_i rfl (by decide : (1 : Int32).toInt = 1) (by omega) (by omega)
      refine tk_v hH hS hA (tr_V (n := 1) (As := [.int v21]) hx hb hml hown hts hkb hH (ox_map hOX rfl) hks hE hS hA (s_M_readUnit4 l D cs kf T O X a0 hg mq v21 o0 o1 o2 y3 y4 o5 n11_0_6 n11_0_7 y8 n11_0_9 n11_0_10 n11_0_11 n11_0_12 tl f3 f4 t tn t_a0 b_hg (by omega) (by omega) t_y3 t_y4 (by omega) (by omega) (by omega) (by omega) (by omega) (by omega) (by omega) (by omega) s_f4 (by omega) htm (by omega) (by omega) x_v113 (by first | exact k4 | exact (fun q => absurd q x_v117) | (intro _; omega)) (fun _ => x_v118.1) (hO.sub (by decide))) kw_1410 kw_1412 ks_57 kw_13 kw_1413 (by decide +kernel) ⟨Nat.le_of_ble_eq_true rfl, Nat.le_of_ble_eq_true rfl⟩ (x_recv (ci := 12) hkb hH 0 rfl rfl) rfl rfl hl.1 (Nat.le_of_ble_eq_true rfl) dX12_readUnit_22 ⟨Nat.le_of_ble_eq_true rfl, Nat.le_of_ble_eq_true rfl⟩) (fun u H locs hz9 hH hS => ?_)
      obtain ⟨n22_0_6, n22_0_7, n22_0_9, n22_0_10, n22_0_11, n22_0_12, F22_2, rfl, x_v220, x_v221, x_v222, x_v223, x_v224, x_v225, x_v226, x_v227, x_v228, x_v229⟩ := hz9
      have s_F22_2 := x_v220
      have hH : HT D cs A T (a0 :: y3 :: y4 :: O) ((a0, .inr (12, o0 :: o1 :: o2 :: (.ref y3) :: (.ref y4) :: o5 :: (.int n22_0_6) :: (.int n22_0_7) :: (.int y8) :: (.int n22_0_9) :: (.int n22_0_10) :: (.int n22_0_11) :: (.int n22_0_12) :: tl)) :: (y3, .inl (cs.2.1, 900, .inl f3)) :: (y4, .inl (cs.2.1, 1302, .inl F22_2)) :: X) H := hH
      refine W.widen (k := 0) (n := 0) (Nat.le_of_ble_eq_true rfl) (Nat.le_of_ble_eq_true rfl) ?_
      refine lv_aload_n hx hb dX12_readUnit_25 rfl (lv_at hl 0 rfl) ?_
      refine lv_sipush (v := 3008) hx hb dX12_readUnit_26 (by decide) ?_
      have z9_3008 : (3008 : Int32).toInt = 3008 := by decide
      refine tk_v hH hS hA (tr_V (n := 1) (As := [.int 3008]) hx hb hml hown hts hkb hH (ox_map hOX rfl) hks hE hS hA (s_M_codesN l D cs kf T O X a0 hg mq (3008) o0 o1 o2 y3 y4 o5 n22_0_6 n22_0_7 y8 n22_0_9 n22_0_10 n22_0_11 n22_0_12 tl f3 F22_2 t tn t_a0 b_hg (by decide) (by decide) t_y3 t_y4 (by omega) (by omega) (by omega) (by omega) (by omega) (by omega) (by omega) (by omega) s_F22_2 (by omega) htm (by first | exact (fun q => absurd q x_v117) | exact (fun q => absurd (x_v227 q).1 x_v117) | (intro q; constructor <;> omega) | (intro q; obtain ⟨c0, c1, c2⟩ := x_v227 q; constructor <;> omega)) (hO.sub (by decide))) kw_1418 kw_1420 ks_59 kw_13 kw_1421 (by decide +kernel) ⟨Nat.le_of_ble_eq_true rfl, Nat.le_of_ble_eq_true rfl⟩ (x_recv (ci := 12) hkb hH 0 rfl rfl) rfl rfl hl.1 (Nat.le_of_ble_eq_true rfl) dX12_readUnit_29 ⟨Nat.le_of_ble_eq_true rfl, Nat.le_of_ble_eq_true rfl⟩) (fun u H locs hz9 hH hS => ?_)
      obtain ⟨F29_2, rfl, x_v290, x_v291, x_v292⟩ := hz9
      have s_F29_2 := x_v290
      have hH : HT D cs A T (a0 :: y3 :: y4 :: O) ((a0, .inr (12, o0 :: o1 :: o2 :: (.ref y3) :: (.ref y4) :: o5 :: (.int n22_0_6) :: (.int n22_0_7) :: (.int y8) :: (.int n22_0_9) :: (.int n22_0_10) :: (.int n22_0_11) :: (.int n22_0_12) :: tl)) :: (y3, .inl (cs.2.1, 900, .inl f3)) :: (y4, .inl (cs.2.1, 1302, .inl F29_2)) :: X) H := hH
      refine W.widen (k := 0) (n := 0) (Nat.le_of_ble_eq_true rfl) (Nat.le_of_ble_eq_true rfl) ?_
      exact te_v hx hb hr hlocks hH hS (⟨n22_0_6, n22_0_7, n22_0_9, n22_0_10, n22_0_11, n22_0_12, F29_2, rfl, s_F29_2, by omega, by omega, by omega, x_v224, by omega, by omega, (by first | exact (fun q => absurd q x_v117) | exact (fun q => absurd (x_v227 q).1 x_v117) | exact x_v227 | (refine RD_le x_v227 ?_; omega) | (intro q; obtain ⟨c1, c2⟩ := x_v291 q; refine ⟨?_, ?_, ?_⟩ <;> omega) | (intro q; obtain ⟨c0, c1, c2⟩ := x_v227 q; refine ⟨?_, ?_, ?_⟩ <;> omega) | (intro q; obtain ⟨c0, c1, c2⟩ := x_v227 q; obtain ⟨d1, d2⟩ := x_v291 q; refine ⟨?_, ?_, ?_⟩ <;> omega)), (by first | (exact g18.seq x_v228) | (refine g58.seq (RG_nx ?_ x_v617.1 (fun _ _ => st_xY ?_) x_v617.2.1) <;> omega) | (exact g58.seq (RG_f (m := 2) (G := []) x_v691 (RG.msw x_v558) (by decide) (by decide) (fun q9 _ _ => st_xN (by have q8 := (RG.msw x_v558 q9).2.2.2.1; omega)))) | (exact g151.seq x_v1538) | (exact RG_f (m := 4) (G := []) x_v119 hms (by decide) (by decide) (fun q9 _ _ => st_uND (by omega))) | (exact RG_f (m := 4) (G := []) x_v449 hms (by decide) (by decide) (fun q9 _ _ => st_uBD (by omega)))), (FKP.tr (FKP.tr FKP.rf x_v229) x_v292)⟩) dX12_readUnit_32
    · skip
      have tc14 := f_eq (k := 0) (by decide) c14
      clear x_v116
      clear x_v118
      replace x_v117 := x_v117.resolve_left (fun q9 => q9 tc14)
      replace x_v119 := x_v119.resolve_left (fun q9 => q9 tc14)
      exfalso; omega
set_option maxHeartbeats 4000000 in
set_option maxRecDepth 100000 in
theorem s_M_readBoth3 (l : Launch) (D : va_G) (cs : CS) (kf : KF) (T : TF) (O : List Nat) (X : va_W) (a0 hg mq : Nat) (x1 : Int32) (o0 : Value) (o1 : Value) (o2 : Value) (y3 : Nat) (y4 : Nat) (o5 : Value) (y6 : Int32) (y7 : Int32) (y8 : Int32) (y9 : Int32) (y10 : Int32) (y11 : Int32) (y12 : Int32) (tl : List Value) (f3 : Nat → Int32) (f4 : Nat → Int32) (t : Tp) (tn : Nat) (t_a0 : T a0 = some (22, hg, mq)) (b_hg : hg < 90) (l_x1 : 3 ≤ x1.toInt) (u_x1 : x1.toInt ≤ 3) (t_y3 : T y3 = some (9, 900, 0)) (t_y4 : T y4 = some (8, 1302, 0)) (l_y6 : 0 ≤ y6.toInt) (u_y6 : y6.toInt ≤ 900) (l_y7 : 0 ≤ y7.toInt) (u_y7 : y7.toInt ≤ 900) (l_y8 : 0 ≤ y8.toInt) (u_y8 : y8.toInt ≤ 900) (l_y10 : 0 ≤ y10.toInt) (u_y10 : y10.toInt ≤ 999) (s_f4 : S8 f4) (hn : y8.toInt = (tn : Int)) (htm : TM f3 t) (k1 : y6.toInt ≤ y7.toInt) (k2 : y7.toInt ≤ y8.toInt) (k3 : TK3 y9 y6 y7) (k4 : SL y11 f4 y6) (hms : MSW t tn y11 y6 y7 y9 y10) (hO : okO T (a0 :: y3 :: y4 :: O) []) : TK l D cs kf yX12_readBoth cX12_readBoth 2 none { frames := 20, cells := 0, slots := 0, locals := 428 } [.ref a0, .int x1] T (a0 :: y3 :: y4 :: O) ((a0, .inr (12, o0 :: o1 :: o2 :: (.ref y3) :: (.ref y4) :: o5 :: (.int y6) :: (.int y7) :: (.int y8) :: (.int y9) :: (.int y10) :: (.int y11) :: (.int y12) :: tl)) :: (y3, .inl (cs.2.1, 900, .inl f3)) :: (y4, .inl (cs.2.1, 1302, .inl f4)) :: X) (Tv D cs (fun u => ∃ (n0_6 : Int32) (n0_7 : Int32) (n0_9 : Int32) (n0_10 : Int32) (n0_11 : Int32) (n0_12 : Int32) (G2 : Nat → Int32), u = (T, a0 :: y3 :: y4 :: O, (a0, .inr (12, o0 :: o1 :: o2 :: (.ref y3) :: (.ref y4) :: o5 :: (.int n0_6) :: (.int n0_7) :: (.int y8) :: (.int n0_9) :: (.int n0_10) :: (.int n0_11) :: (.int n0_12) :: tl)) :: (y3, .inl (cs.2.1, 900, .inl f3)) :: (y4, .inl (cs.2.1, 1302, .inl G2)) :: X) ∧ (S8 G2) ∧ (y6.toInt ≤ n0_6.toInt) ∧ (n0_6.toInt ≤ n0_7.toInt) ∧ (n0_7.toInt ≤ y8.toInt) ∧ (TK3 n0_9 n0_6 n0_7) ∧ (0 ≤ n0_10.toInt) ∧ (n0_10.toInt ≤ 999) ∧ (RD f4 G2 y6 n0_6 y11 n0_11) ∧ (RG t tn [(6, 3)] [] y11 y12 y6 n0_11 n0_12 n0_6 n0_7 n0_9 n0_10) ∧ (FKP f4 G2))) := by
  refine tk_of (by decide) (Nat.le_of_ble_eq_true rfl) (fun p e s m below meth c ls A H locs hx hb hr hml hown hts hlocks hnm hkb hH hS hA hOX hks hE hl => ?_)
  have hown : s.vm.findClass RX12 = some m.cls := hown
  have hl : lv_has ls 2 [(0, .ref a0), (1, .int x1)] := hl
  have hOXf := hOX
  have hd0 := dpt_nn s_f4
  have hq0 := fun q9 => (hms q9).2.2.2.1
  refine lv_aload_n hx hb dX12_readBoth_0 rfl (lv_at hl 0 rfl) ?_
  refine lv_iload_n hx hb dX12_readBoth_1 rfl (lv_at hl 1 rfl) ?_
  have J5 : ∀ (n : Nat) (f5_106 : Int32) (f5_107 : Int32) (f5_109 : Int32) (f5_110 : Int32) (f5_111 : Int32) (f5_112 : Int32) (g5_2 : Nat → Int32) (H : Heap) (locs : List Loc) (ls : Array Slot), (900 - f5_106.toInt).toNat = n → (S8 g5_2) → (0 ≤ f5_106.toInt) → (f5_106.toInt ≤ 900) → (0 ≤ f5_107.toInt) → (f5_107.toInt ≤ 900) → (0 ≤ f5_110.toInt) → (f5_110.toInt ≤ 999) → (f5_106.toInt ≤ f5_107.toInt) → (f5_107.toInt ≤ y8.toInt) → (TK3 f5_109 f5_106 f5_107) → (y6.toInt ≤ f5_106.toInt) → (RD f4 g5_2 y6 f5_106 y11 f5_111) → (RG t tn [(6, 3)] [(7, 3)] y11 y12 y6 f5_111 f5_112 f5_106 f5_107 f5_109 f5_110) → (FKP f4 g5_2) → HT D cs A T (a0 :: y3 :: y4 :: O) ((a0, .inr (12, o0 :: o1 :: o2 :: (.ref y3) :: (.ref y4) :: o5 :: (.int f5_106) :: (.int f5_107) :: (.int y8) :: (.int f5_109) :: (.int f5_110) :: (.int f5_111) :: (.int f5_112) :: tl)) :: (y3, .inl (cs.2.1, 900, .inl f3)) :: (y4, .inl (cs.2.1, 1302, .inl g5_2)) :: X) H → va_S A s.heap H locs → lv_has ls 2 [(0, .ref a0), (1, .int x1)] → W p l e { frames := 20, cells := 0, slots := 0, locals := 428 } s m [.ref a0, .int x1].toArray below meth c H locs 0 0 (MQ below (Tv D cs (fun u => ∃ (n0_6 : Int32) (n0_7 : Int32) (n0_9 : Int32) (n0_10 : Int32) (n0_11 : Int32) (n0_12 : Int32) (G2 : Nat → Int32), u = (T, a0 :: y3 :: y4 :: O, (a0, .inr (12, o0 :: o1 :: o2 :: (.ref y3) :: (.ref y4) :: o5 :: (.int n0_6) :: (.int n0_7) :: (.int y8) :: (.int n0_9) :: (.int n0_10) :: (.int n0_11) :: (.int n0_12) :: tl)) :: (y3, .inl (cs.2.1, 900, .inl f3)) :: (y4, .inl (cs.2.1, 1302, .inl G2)) :: X) ∧ (S8 G2) ∧ (y6.toInt ≤ n0_6.toInt) ∧ (n0_6.toInt ≤ n0_7.toInt) ∧ (n0_7.toInt ≤ y8.toInt) ∧ (TK3 n0_9 n0_6 n0_7) ∧ (0 ≤ n0_10.toInt) ∧ (n0_10.toInt ≤ 999) ∧ (RD f4 G2 y6 n0_6 y11 n0_11) ∧ (RG t tn [(6, 3)] [] y11 y12 y6 n0_11 n0_12 n0_6 n0_7 n0_9 n0_10) ∧ (FKP f4 G2)) A) [.ref a0, .int x1].toArray s 0 0 A) (F0 m 5 ls []) := by
    intro n
    induction n using Nat.strongRecOn with
    | _ n ih5 =>
      intro f5_106 f5_107 f5_109 f5_110 f5_111 f5_112 g5_2 H locs ls hm5 s_g5_2 l_f5_106 u_f5_106 l_f5_107 u_f5_107 l_f5_110 u_f5_110 ia5 ib5 ic5 id5 if5 ig5 ik5 hH hS hl
      refine lv_aload_n hx hb dX12_readBoth_5 rfl (lv_at hl 0 rfl) ?_
      refine lv_bipush (v := 14) hx hb dX12_readBoth_6 (by decide) ?_
      have z9_14 : (14 : Int32).toInt = 14 := by decide
      refine tk_i hH hS hA (tr_V (n := 1) (As := [.int 14]) hx hb hml hown hts hkb hH (ox_map hOX rfl) hks hE hS hA (s_M_eats l D cs kf T (y4 :: O) ((y4, .inl (cs.2.1, 1302, .inl g5_2)) :: X) a0 hg mq (14) o0 o1 o2 y3 y4 o5 f5_106 f5_107 y8 f5_109 f5_110 f5_111 f5_112 tl f3 t tn t_a0 b_hg t_y3 t_y4 (by omega) (by omega) (by omega) (by omega) (by omega) (by omega) (by omega) (by omega) (by omega) htm (by omega) (by omega) ic5 (by omega) (RG.msw ig5) (hO.sub (by decide))) kw_1390 kw_1392 ks_52 kw_13 kw_1393 (by decide +kernel) ⟨Nat.le_of_ble_eq_true rfl, Nat.le_of_ble_eq_true rfl⟩ (x_recv (ci := 12) hkb hH 0 rfl rfl) rfl rfl hl.1 (Nat.le_of_ble_eq_true rfl) dX12_readBoth_8 ⟨Nat.le_of_ble_eq_true rfl, Nat.le_of_ble_eq_true rfl⟩) (fun v8 u H locs hz9 hH hS => ?_)
      obtain ⟨n8_0_6, n8_0_7, n8_0_9, n8_0_10, rfl, l_v8, u_v8, x_v80, x_v81, x_v82, x_v83, x_v84, x_v85, x_v86, x_v87, x_v88⟩ := hz9
      have hH : HT D cs A T (a0 :: y3 :: y4 :: O) ((a0, .inr (12, o0 :: o1 :: o2 :: (.ref y3) :: (.ref y4) :: o5 :: (.int n8_0_6) :: (.int n8_0_7) :: (.int y8) :: (.int n8_0_9) :: (.int n8_0_10) :: (.int f5_111) :: (.int f5_112) :: tl)) :: (y3, .inl (cs.2.1, 900, .inl f3)) :: (y4, .inl (cs.2.1, 1302, .inl g5_2)) :: X) H := hH
      refine W.widen (k := 0) (n := 0) (Nat.le_of_ble_eq_true rfl) (Nat.le_of_ble_eq_true rfl) ?_
      refine lv_if_eq (tgt := 29) hx hb dX12_readBoth_11 (by decide) (fun c11 => ?_) (fun c11 => ?_)
      · skip
        have tc11 := f_eq (k := 0) (by decide) c11
        clear x_v86
        clear x_v87
        replace x_v88 := x_v88.resolve_left (fun q9 => q9 tc11)
        obtain ⟨e6, e7, e9, e10, x_v88⟩ := x_v88
        subst e6 e7 e9 e10
        exact te_v hx hb hr hlocks hH hS (⟨f5_106, f5_107, f5_109, f5_110, f5_111, f5_112, g5_2, rfl, s_g5_2, by omega, by omega, by omega, x_v83, by omega, by omega, (by first | exact if5 | (refine RD_le if5 ?_; omega) | (intro q; obtain ⟨c0, c1, c2⟩ := if5 q; refine ⟨?_, ?_, ?_⟩ <;> omega)), (by first | (exact ig5.seq (RG_id (fun q9 => ⟨RG.msw ig5 q9, fun _ _ => st_bN (by have q8 := (RG.msw ig5 q9).2.2.2.1; omega)⟩)))), ik5⟩) dX12_readBoth_29
      · skip
        have tc11 := f_ne (k := 0) (by decide) c11
        replace x_v86 := x_v86.resolve_left tc11
        replace x_v87 := x_v87.resolve_left tc11
        clear x_v88
        refine lv_aload_n hx hb dX12_readBoth_14 rfl (lv_at hl 0 rfl) ?_
        refine lv_iload_n hx hb dX12_readBoth_15 rfl (lv_at hl 1 rfl) ?_
        refine tk_v hH hS hA (tr_V (n := 1) (As := [.int x1]) hx hb hml hown hts hkb hH (ox_map hOX rfl) hks hE hS hA (s_M_readUnit3 l D cs kf T O X a0 hg mq x1 o0 o1 o2 y3 y4 o5 n8_0_6 n8_0_7 y8 n8_0_9 n8_0_10 f5_111 f5_112 tl f3 g5_2 t tn t_a0 b_hg (by omega) (by omega) t_y3 t_y4 (by omega) (by omega) (by omega) (by omega) (by omega) (by omega) (by omega) (by omega) s_g5_2 (by omega) htm (by omega) (by omega) x_v83 (by first | exact k4 | (refine RD_sl k4 if5 ?_; omega) | (intro _; omega)) (fun _ => x_v87.1) (hO.sub (by decide))) kw_1410 kw_1412 ks_57 kw_13 kw_1413 (by decide +kernel) ⟨Nat.le_of_ble_eq_true rfl, Nat.le_of_ble_eq_true rfl⟩ (x_recv (ci := 12) hkb hH 0 rfl rfl) rfl rfl hl.1 (Nat.le_of_ble_eq_true rfl) dX12_readBoth_16 ⟨Nat.le_of_ble_eq_true rfl, Nat.le_of_ble_eq_true rfl⟩) (fun u H locs hz9 hH hS => ?_)
        obtain ⟨n16_0_6, n16_0_7, n16_0_9, n16_0_10, n16_0_11, n16_0_12, F16_2, rfl, x_v160, x_v161, x_v162, x_v163, x_v164, x_v165, x_v166, x_v167, x_v168, x_v169⟩ := hz9
        have s_F16_2 := x_v160
        have hH : HT D cs A T (a0 :: y3 :: y4 :: O) ((a0, .inr (12, o0 :: o1 :: o2 :: (.ref y3) :: (.ref y4) :: o5 :: (.int n16_0_6) :: (.int n16_0_7) :: (.int y8) :: (.int n16_0_9) :: (.int n16_0_10) :: (.int n16_0_11) :: (.int n16_0_12) :: tl)) :: (y3, .inl (cs.2.1, 900, .inl f3)) :: (y4, .inl (cs.2.1, 1302, .inl F16_2)) :: X) H := hH
        refine W.widen (k := 0) (n := 0) (Nat.le_of_ble_eq_true rfl) (Nat.le_of_ble_eq_true rfl) ?_
        refine lv_aload_n hx hb dX12_readBoth_19 rfl (lv_at hl 0 rfl) ?_
        refine lv_sipush (v := 3006) hx hb dX12_readBoth_20 (by decide) ?_
        have z9_3006 : (3006 : Int32).toInt = 3006 := by decide
        refine tk_v hH hS hA (tr_V (n := 1) (As := [.int 3006]) hx hb hml hown hts hkb hH (ox_map hOX rfl) hks hE hS hA (s_M_codesO l D cs kf T O X a0 hg mq (3006) o0 o1 o2 y3 y4 o5 n16_0_6 n16_0_7 y8 n16_0_9 n16_0_10 n16_0_11 n16_0_12 tl f3 F16_2 t tn t_a0 b_hg (by decide) (by decide) t_y3 t_y4 (by omega) (by omega) (by omega) (by omega) (by omega) (by omega) (by omega) (by omega) s_F16_2 (by omega) htm (by first | (intro q; constructor <;> omega) | (intro q; obtain ⟨c0, c1, c2⟩ := if5 q; constructor <;> omega) | (intro q; obtain ⟨c0, c1, c2⟩ := x_v167 q; constructor <;> omega) | (refine RD_cp k4 hd0 if5 ?_ x_v167 ?_ <;> omega) | (refine RD_cp k4 hd0 x_v167 ?_ if5 ?_ <;> omega)) (hO.sub (by decide))) kw_1418 kw_1420 ks_59 kw_13 kw_1421 (by decide +kernel) ⟨Nat.le_of_ble_eq_true rfl, Nat.le_of_ble_eq_true rfl⟩ (x_recv (ci := 12) hkb hH 0 rfl rfl) rfl rfl hl.1 (Nat.le_of_ble_eq_true rfl) dX12_readBoth_23 ⟨Nat.le_of_ble_eq_true rfl, Nat.le_of_ble_eq_true rfl⟩) (fun u H locs hz9 hH hS => ?_)
        obtain ⟨F23_2, rfl, x_v230, x_v231, x_v232⟩ := hz9
        have s_F23_2 := x_v230
        have hH : HT D cs A T (a0 :: y3 :: y4 :: O) ((a0, .inr (12, o0 :: o1 :: o2 :: (.ref y3) :: (.ref y4) :: o5 :: (.int n16_0_6) :: (.int n16_0_7) :: (.int y8) :: (.int n16_0_9) :: (.int n16_0_10) :: (.int n16_0_11) :: (.int n16_0_12) :: tl)) :: (y3, .inl (cs.2.1, 900, .inl f3)) :: (y4, .inl (cs.2.1, 1302, .inl F23_2)) :: X) H := hH
        refine W.widen (k := 0) (n := 0) (Nat.le_of_ble_eq_true rfl) (Nat.le_of_ble_eq_true rfl) ?_
        refine lv_goto (tgt := 5) hx hb dX12_readBoth_26 (by decide) ?_
        exact ih5 _ (by omega) n16_0_6 n16_0_7 n16_0_9 n16_0_10 n16_0_11 n16_0_12 F23_2 _ _ _ rfl s_F23_2 (by omega) (by omega) (by omega) (by omega) (by omega) (by omega) (by omega) (by omega) x_v164 (by omega) (by first | (refine RD_op if5 ?_ x_v167 x_v231; omega) | (refine RD_op x_v167 ?_ if5 x_v231; omega) | exact if5 | exact x_v167 | (refine RD_le if5 ?_; omega) | (refine RD_le x_v167 ?_; omega) | (intro q; obtain ⟨c1, c2⟩ := x_v231 q; refine ⟨?_, ?_, ?_⟩ <;> omega) | (intro q; obtain ⟨c0, c1, c2⟩ := x_v167 q; refine ⟨?_, ?_, ?_⟩ <;> omega) | (intro q; obtain ⟨c0, c1, c2⟩ := x_v167 q; obtain ⟨d1, d2⟩ := x_v231 q; refine ⟨?_, ?_, ?_⟩ <;> omega)) (by first | exact (RG.seq (F' := [(5, 3), (7, 3)]) (RG_id (fun q9 => ⟨hms q9, fun _ _ => st_b⟩)) (RG.cons x_v28)) | (refine RG.seq ig5 (RG.seq (F' := [(5, 3), (7, 3)]) (RG_nx ?_ x_v87.1 (fun _ _ => st_bY ?_) x_v87.2.1) (RG.cons x_v168)) <;> omega)) (FKP.tr (FKP.tr ik5 x_v169) x_v232) hH hS (lv_sub hl [0, 1] rfl)
  refine tk_v hH hS hA (tr_V (n := 1) (As := [.int x1]) hx hb hml hown hts hkb hH (ox_map hOX rfl) hks hE hS hA (s_M_readUnit3 l D cs kf T O X a0 hg mq x1 o0 o1 o2 y3 y4 o5 y6 y7 y8 y9 y10 y11 y12 tl f3 f4 t tn t_a0 b_hg (by omega) (by omega) t_y3 t_y4 (by omega) (by omega) (by omega) (by omega) (by omega) (by omega) (by omega) (by omega) s_f4 (by omega) htm (by omega) (by omega) k3 (by first | exact k4 | (intro _; omega)) hms (hO.sub (by decide))) kw_1410 kw_1412 ks_57 kw_13 kw_1413 (by decide +kernel) ⟨Nat.le_of_ble_eq_true rfl, Nat.le_of_ble_eq_true rfl⟩ (x_recv (ci := 12) hkb hH 0 rfl rfl) rfl rfl hl.1 (Nat.le_of_ble_eq_true rfl) dX12_readBoth_2 ⟨Nat.le_of_ble_eq_true rfl, Nat.le_of_ble_eq_true rfl⟩) (fun u H locs hz9 hH hS => ?_)
  obtain ⟨n2_0_6, n2_0_7, n2_0_9, n2_0_10, n2_0_11, n2_0_12, F2_2, rfl, x_v20, x_v21, x_v22, x_v23, x_v24, x_v25, x_v26, x_v27, x_v28, x_v29⟩ := hz9
  have s_F2_2 := x_v20
  have hH : HT D cs A T (a0 :: y3 :: y4 :: O) ((a0, .inr (12, o0 :: o1 :: o2 :: (.ref y3) :: (.ref y4) :: o5 :: (.int n2_0_6) :: (.int n2_0_7) :: (.int y8) :: (.int n2_0_9) :: (.int n2_0_10) :: (.int n2_0_11) :: (.int n2_0_12) :: tl)) :: (y3, .inl (cs.2.1, 900, .inl f3)) :: (y4, .inl (cs.2.1, 1302, .inl F2_2)) :: X) H := hH
  refine W.widen (k := 0) (n := 0) (Nat.le_of_ble_eq_true rfl) (Nat.le_of_ble_eq_true rfl) ?_
  exact J5 _ n2_0_6 n2_0_7 n2_0_9 n2_0_10 n2_0_11 n2_0_12 F2_2 _ _ _ rfl s_F2_2 (by omega) (by omega) (by omega) (by omega) (by omega) (by omega) (by omega) (by omega) x_v24 (by omega) (by first | exact x_v27 | (refine RD_le x_v27 ?_; omega) | (intro q; obtain ⟨c0, c1, c2⟩ := x_v27 q; refine ⟨?_, ?_, ?_⟩ <;> omega)) (by first | exact (RG.seq (F' := [(5, 3), (7, 3)]) (RG_id (fun q9 => ⟨hms q9, fun _ _ => st_b⟩)) (RG.cons x_v28)) | (refine RG.seq ig5 (RG.seq (F' := [(5, 3), (7, 3)]) (RG_nx ?_ x_v87.1 (fun _ _ => st_bY ?_) x_v87.2.1) (RG.cons x_v168)) <;> omega)) (FKP.tr FKP.rf x_v29) hH hS (lv_sub hl [0, 1] rfl)
set_option maxHeartbeats 4000000 in
set_option maxRecDepth 100000 in
theorem s_M_readTruth3 (l : Launch) (D : va_G) (cs : CS) (kf : KF) (T : TF) (O : List Nat) (X : va_W) (a0 hg mq : Nat) (x1 : Int32) (o0 : Value) (o1 : Value) (o2 : Value) (y3 : Nat) (y4 : Nat) (o5 : Value) (y6 : Int32) (y7 : Int32) (y8 : Int32) (y9 : Int32) (y10 : Int32) (y11 : Int32) (y12 : Int32) (tl : List Value) (f3 : Nat → Int32) (f4 : Nat → Int32) (t : Tp) (tn : Nat) (t_a0 : T a0 = some (22, hg, mq)) (b_hg : hg < 90) (l_x1 : 3 ≤ x1.toInt) (u_x1 : x1.toInt ≤ 3) (t_y3 : T y3 = some (9, 900, 0)) (t_y4 : T y4 = some (8, 1302, 0)) (l_y6 : 0 ≤ y6.toInt) (u_y6 : y6.toInt ≤ 900) (l_y7 : 0 ≤ y7.toInt) (u_y7 : y7.toInt ≤ 900) (l_y8 : 0 ≤ y8.toInt) (u_y8 : y8.toInt ≤ 900) (l_y10 : 0 ≤ y10.toInt) (u_y10 : y10.toInt ≤ 999) (s_f4 : S8 f4) (hn : y8.toInt = (tn : Int)) (htm : TM f3 t) (k1 : y6.toInt ≤ y7.toInt) (k2 : y7.toInt ≤ y8.toInt) (k3 : TK3 y9 y6 y7) (k4 : SL y11 f4 y6) (hms : MSW t tn y11 y6 y7 y9 y10) (hO : okO T (a0 :: y3 :: y4 :: O) []) : TK l D cs kf yX12_readTruth cX12_readTruth 2 none { frames := 21, cells := 0, slots := 0, locals := 449 } [.ref a0, .int x1] T (a0 :: y3 :: y4 :: O) ((a0, .inr (12, o0 :: o1 :: o2 :: (.ref y3) :: (.ref y4) :: o5 :: (.int y6) :: (.int y7) :: (.int y8) :: (.int y9) :: (.int y10) :: (.int y11) :: (.int y12) :: tl)) :: (y3, .inl (cs.2.1, 900, .inl f3)) :: (y4, .inl (cs.2.1, 1302, .inl f4)) :: X) (Tv D cs (fun u => ∃ (n0_6 : Int32) (n0_7 : Int32) (n0_9 : Int32) (n0_10 : Int32) (n0_11 : Int32) (n0_12 : Int32) (G2 : Nat → Int32), u = (T, a0 :: y3 :: y4 :: O, (a0, .inr (12, o0 :: o1 :: o2 :: (.ref y3) :: (.ref y4) :: o5 :: (.int n0_6) :: (.int n0_7) :: (.int y8) :: (.int n0_9) :: (.int n0_10) :: (.int n0_11) :: (.int n0_12) :: tl)) :: (y3, .inl (cs.2.1, 900, .inl f3)) :: (y4, .inl (cs.2.1, 1302, .inl G2)) :: X) ∧ (S8 G2) ∧ (y6.toInt ≤ n0_6.toInt) ∧ (n0_6.toInt ≤ n0_7.toInt) ∧ (n0_7.toInt ≤ y8.toInt) ∧ (TK3 n0_9 n0_6 n0_7) ∧ (0 ≤ n0_10.toInt) ∧ (n0_10.toInt ≤ 999) ∧ (RD f4 G2 y6 n0_6 y11 n0_11) ∧ (RG t tn [(8, 3)] [] y11 y12 y6 n0_11 n0_12 n0_6 n0_7 n0_9 n0_10) ∧ (FKP f4 G2))) := by
  refine tk_of (by decide) (Nat.le_of_ble_eq_true rfl) (fun p e s m below meth c ls A H locs hx hb hr hml hown hts hlocks hnm hkb hH hS hA hOX hks hE hl => ?_)
  have hown : s.vm.findClass RX12 = some m.cls := hown
  have hl : lv_has ls 2 [(0, .ref a0), (1, .int x1)] := hl
  have hOXf := hOX
  have hd0 := dpt_nn s_f4
  have hq0 := fun q9 => (hms q9).2.2.2.1
  refine lv_aload_n hx hb dX12_readTruth_0 rfl (lv_at hl 0 rfl) ?_
  refine lv_iload_n hx hb dX12_readTruth_1 rfl (lv_at hl 1 rfl) ?_
  have J5 : ∀ (n : Nat) (f5_106 : Int32) (f5_107 : Int32) (f5_109 : Int32) (f5_110 : Int32) (f5_111 : Int32) (f5_112 : Int32) (g5_2 : Nat → Int32) (H : Heap) (locs : List Loc) (ls : Array Slot), (900 - f5_106.toInt).toNat = n → (S8 g5_2) → (0 ≤ f5_106.toInt) → (f5_106.toInt ≤ 900) → (0 ≤ f5_107.toInt) → (f5_107.toInt ≤ 900) → (0 ≤ f5_110.toInt) → (f5_110.toInt ≤ 999) → (f5_106.toInt ≤ f5_107.toInt) → (f5_107.toInt ≤ y8.toInt) → (TK3 f5_109 f5_106 f5_107) → (y6.toInt ≤ f5_106.toInt) → (RD f4 g5_2 y6 f5_106 y11 f5_111) → (RG t tn [(8, 3)] [(9, 3)] y11 y12 y6 f5_111 f5_112 f5_106 f5_107 f5_109 f5_110) → (FKP f4 g5_2) → HT D cs A T (a0 :: y3 :: y4 :: O) ((a0, .inr (12, o0 :: o1 :: o2 :: (.ref y3) :: (.ref y4) :: o5 :: (.int f5_106) :: (.int f5_107) :: (.int y8) :: (.int f5_109) :: (.int f5_110) :: (.int f5_111) :: (.int f5_112) :: tl)) :: (y3, .inl (cs.2.1, 900, .inl f3)) :: (y4, .inl (cs.2.1, 1302, .inl g5_2)) :: X) H → va_S A s.heap H locs → lv_has ls 2 [(0, .ref a0), (1, .int x1)] → W p l e { frames := 21, cells := 0, slots := 0, locals := 449 } s m [.ref a0, .int x1].toArray below meth c H locs 0 0 (MQ below (Tv D cs (fun u => ∃ (n0_6 : Int32) (n0_7 : Int32) (n0_9 : Int32) (n0_10 : Int32) (n0_11 : Int32) (n0_12 : Int32) (G2 : Nat → Int32), u = (T, a0 :: y3 :: y4 :: O, (a0, .inr (12, o0 :: o1 :: o2 :: (.ref y3) :: (.ref y4) :: o5 :: (.int n0_6) :: (.int n0_7) :: (.int y8) :: (.int n0_9) :: (.int n0_10) :: (.int n0_11) :: (.int n0_12) :: tl)) :: (y3, .inl (cs.2.1, 900, .inl f3)) :: (y4, .inl (cs.2.1, 1302, .inl G2)) :: X) ∧ (S8 G2) ∧ (y6.toInt ≤ n0_6.toInt) ∧ (n0_6.toInt ≤ n0_7.toInt) ∧ (n0_7.toInt ≤ y8.toInt) ∧ (TK3 n0_9 n0_6 n0_7) ∧ (0 ≤ n0_10.toInt) ∧ (n0_10.toInt ≤ 999) ∧ (RD f4 G2 y6 n0_6 y11 n0_11) ∧ (RG t tn [(8, 3)] [] y11 y12 y6 n0_11 n0_12 n0_6 n0_7 n0_9 n0_10) ∧ (FKP f4 G2)) A) [.ref a0, .int x1].toArray s 0 0 A) (F0 m 5 ls []) := by
    intro n
    induction n using Nat.strongRecOn with
    | _ n ih5 =>
      intro f5_106 f5_107 f5_109 f5_110 f5_111 f5_112 g5_2 H locs ls hm5 s_g5_2 l_f5_106 u_f5_106 l_f5_107 u_f5_107 l_f5_110 u_f5_110 ia5 ib5 ic5 id5 if5 ig5 ik5 hH hS hl
      refine lv_aload_n hx hb dX12_readTruth_5 rfl (lv_at hl 0 rfl) ?_
      refine lv_bipush (v := 13) hx hb dX12_readTruth_6 (by decide) ?_
      have z9_13 : (13 : Int32).toInt = 13 := by decide
      refine tk_i hH hS hA (tr_V (n := 1) (As := [.int 13]) hx hb hml hown hts hkb hH (ox_map hOX rfl) hks hE hS hA (s_M_eats l D cs kf T (y4 :: O) ((y4, .inl (cs.2.1, 1302, .inl g5_2)) :: X) a0 hg mq (13) o0 o1 o2 y3 y4 o5 f5_106 f5_107 y8 f5_109 f5_110 f5_111 f5_112 tl f3 t tn t_a0 b_hg t_y3 t_y4 (by omega) (by omega) (by omega) (by omega) (by omega) (by omega) (by omega) (by omega) (by omega) htm (by omega) (by omega) ic5 (by omega) (RG.msw ig5) (hO.sub (by decide))) kw_1390 kw_1392 ks_52 kw_13 kw_1393 (by decide +kernel) ⟨Nat.le_of_ble_eq_true rfl, Nat.le_of_ble_eq_true rfl⟩ (x_recv (ci := 12) hkb hH 0 rfl rfl) rfl rfl hl.1 (Nat.le_of_ble_eq_true rfl) dX12_readTruth_8 ⟨Nat.le_of_ble_eq_true rfl, Nat.le_of_ble_eq_true rfl⟩) (fun v8 u H locs hz9 hH hS => ?_)
      obtain ⟨n8_0_6, n8_0_7, n8_0_9, n8_0_10, rfl, l_v8, u_v8, x_v80, x_v81, x_v82, x_v83, x_v84, x_v85, x_v86, x_v87, x_v88⟩ := hz9
      have hH : HT D cs A T (a0 :: y3 :: y4 :: O) ((a0, .inr (12, o0 :: o1 :: o2 :: (.ref y3) :: (.ref y4) :: o5 :: (.int n8_0_6) :: (.int n8_0_7) :: (.int y8) :: (.int n8_0_9) :: (.int n8_0_10) :: (.int f5_111) :: (.int f5_112) :: tl)) :: (y3, .inl (cs.2.1, 900, .inl f3)) :: (y4, .inl (cs.2.1, 1302, .inl g5_2)) :: X) H := hH
      refine W.widen (k := 0) (n := 0) (Nat.le_of_ble_eq_true rfl) (Nat.le_of_ble_eq_true rfl) ?_
      refine lv_if_eq (tgt := 29) hx hb dX12_readTruth_11 (by decide) (fun c11 => ?_) (fun c11 => ?_)
      · skip
        have tc11 := f_eq (k := 0) (by decide) c11
        clear x_v86
        clear x_v87
        replace x_v88 := x_v88.resolve_left (fun q9 => q9 tc11)
        obtain ⟨e6, e7, e9, e10, x_v88⟩ := x_v88
        subst e6 e7 e9 e10
        exact te_v hx hb hr hlocks hH hS (⟨f5_106, f5_107, f5_109, f5_110, f5_111, f5_112, g5_2, rfl, s_g5_2, by omega, by omega, by omega, x_v83, by omega, by omega, (by first | exact if5 | (refine RD_le if5 ?_; omega) | (intro q; obtain ⟨c0, c1, c2⟩ := if5 q; refine ⟨?_, ?_, ?_⟩ <;> omega)), (by first | (exact ig5.seq (RG_id (fun q9 => ⟨RG.msw ig5 q9, fun _ _ => st_rN (by have q8 := (RG.msw ig5 q9).2.2.2.1; omega)⟩)))), ik5⟩) dX12_readTruth_29
      · skip
        have tc11 := f_ne (k := 0) (by decide) c11
        replace x_v86 := x_v86.resolve_left tc11
        replace x_v87 := x_v87.resolve_left tc11
        clear x_v88
        refine lv_aload_n hx hb dX12_readTruth_14 rfl (lv_at hl 0 rfl) ?_
        refine lv_iload_n hx hb dX12_readTruth_15 rfl (lv_at hl 1 rfl) ?_
        refine tk_v hH hS hA (tr_V (n := 1) (As := [.int x1]) hx hb hml hown hts hkb hH (ox_map hOX rfl) hks hE hS hA (s_M_readBoth3 l D cs kf T O X a0 hg mq x1 o0 o1 o2 y3 y4 o5 n8_0_6 n8_0_7 y8 n8_0_9 n8_0_10 f5_111 f5_112 tl f3 g5_2 t tn t_a0 b_hg (by omega) (by omega) t_y3 t_y4 (by omega) (by omega) (by omega) (by omega) (by omega) (by omega) (by omega) (by omega) s_g5_2 (by omega) htm (by omega) (by omega) x_v83 (by first | exact k4 | (refine RD_sl k4 if5 ?_; omega) | (intro _; omega)) (fun _ => x_v87.1) (hO.sub (by decide))) kw_1406 kw_1408 ks_56 kw_13 kw_1409 (by decide +kernel) ⟨Nat.le_of_ble_eq_true rfl, Nat.le_of_ble_eq_true rfl⟩ (x_recv (ci := 12) hkb hH 0 rfl rfl) rfl rfl hl.1 (Nat.le_of_ble_eq_true rfl) dX12_readTruth_16 ⟨Nat.le_of_ble_eq_true rfl, Nat.le_of_ble_eq_true rfl⟩) (fun u H locs hz9 hH hS => ?_)
        obtain ⟨n16_0_6, n16_0_7, n16_0_9, n16_0_10, n16_0_11, n16_0_12, F16_2, rfl, x_v160, x_v161, x_v162, x_v163, x_v164, x_v165, x_v166, x_v167, x_v168, x_v169⟩ := hz9
        have s_F16_2 := x_v160
        have hH : HT D cs A T (a0 :: y3 :: y4 :: O) ((a0, .inr (12, o0 :: o1 :: o2 :: (.ref y3) :: (.ref y4) :: o5 :: (.int n16_0_6) :: (.int n16_0_7) :: (.int y8) :: (.int n16_0_9) :: (.int n16_0_10) :: (.int n16_0_11) :: (.int n16_0_12) :: tl)) :: (y3, .inl (cs.2.1, 900, .inl f3)) :: (y4, .inl (cs.2.1, 1302, .inl F16_2)) :: X) H := hH
        refine W.widen (k := 0) (n := 0) (Nat.le_of_ble_eq_true rfl) (Nat.le_of_ble_eq_true rfl) ?_
        refine lv_aload_n hx hb dX12_readTruth_19 rfl (lv_at hl 0 rfl) ?_
        refine lv_sipush (v := 3007) hx hb dX12_readTruth_20 (by decide) ?_
        have z9_3007 : (3007 : Int32).toInt = 3007 := by decide
        refine tk_v hH hS hA (tr_V (n := 1) (As := [.int 3007]) hx hb hml hown hts hkb hH (ox_map hOX rfl) hks hE hS hA (s_M_codesO l D cs kf T O X a0 hg mq (3007) o0 o1 o2 y3 y4 o5 n16_0_6 n16_0_7 y8 n16_0_9 n16_0_10 n16_0_11 n16_0_12 tl f3 F16_2 t tn t_a0 b_hg (by decide) (by decide) t_y3 t_y4 (by omega) (by omega) (by omega) (by omega) (by omega) (by omega) (by omega) (by omega) s_F16_2 (by omega) htm (by first | (intro q; constructor <;> omega) | (intro q; obtain ⟨c0, c1, c2⟩ := if5 q; constructor <;> omega) | (intro q; obtain ⟨c0, c1, c2⟩ := x_v167 q; constructor <;> omega) | (refine RD_cp k4 hd0 if5 ?_ x_v167 ?_ <;> omega) | (refine RD_cp k4 hd0 x_v167 ?_ if5 ?_ <;> omega)) (hO.sub (by decide))) kw_1418 kw_1420 ks_59 kw_13 kw_1421 (by decide +kernel) ⟨Nat.le_of_ble_eq_true rfl, Nat.le_of_ble_eq_true rfl⟩ (x_recv (ci := 12) hkb hH 0 rfl rfl) rfl rfl hl.1 (Nat.le_of_ble_eq_true rfl) dX12_readTruth_23 ⟨Nat.le_of_ble_eq_true rfl, Nat.le_of_ble_eq_true rfl⟩) (fun u H locs hz9 hH hS => ?_)
        obtain ⟨F23_2, rfl, x_v230, x_v231, x_v232⟩ := hz9
        have s_F23_2 := x_v230
        have hH : HT D cs A T (a0 :: y3 :: y4 :: O) ((a0, .inr (12, o0 :: o1 :: o2 :: (.ref y3) :: (.ref y4) :: o5 :: (.int n16_0_6) :: (.int n16_0_7) :: (.int y8) :: (.int n16_0_9) :: (.int n16_0_10) :: (.int n16_0_11) :: (.int n16_0_12) :: tl)) :: (y3, .inl (cs.2.1, 900, .inl f3)) :: (y4, .inl (cs.2.1, 1302, .inl F23_2)) :: X) H := hH
        refine W.widen (k := 0) (n := 0) (Nat.le_of_ble_eq_true rfl) (Nat.le_of_ble_eq_true rfl) ?_
        refine lv_goto (tgt := 5) hx hb dX12_readTruth_26 (by decide) ?_
        exact ih5 _ (by omega) n16_0_6 n16_0_7 n16_0_9 n16_0_10 n16_0_11 n16_0_12 F23_2 _ _ _ rfl s_F23_2 (by omega) (by omega) (by omega) (by omega) (by omega) (by omega) (by omega) (by omega) x_v164 (by omega) (by first | (refine RD_op if5 ?_ x_v167 x_v231; omega) | (refine RD_op x_v167 ?_ if5 x_v231; omega) | exact if5 | exact x_v167 | (refine RD_le if5 ?_; omega) | (refine RD_le x_v167 ?_; omega) | (intro q; obtain ⟨c1, c2⟩ := x_v231 q; refine ⟨?_, ?_, ?_⟩ <;> omega) | (intro q; obtain ⟨c0, c1, c2⟩ := x_v167 q; refine ⟨?_, ?_, ?_⟩ <;> omega) | (intro q; obtain ⟨c0, c1, c2⟩ := x_v167 q; obtain ⟨d1, d2⟩ := x_v231 q; refine ⟨?_, ?_, ?_⟩ <;> omega)) (by first | exact (RG.seq (F' := [(6, 3), (9, 3)]) (RG_id (fun q9 => ⟨hms q9, fun _ _ => st_r⟩)) (RG.cons x_v28)) | (refine RG.seq ig5 (RG.seq (F' := [(6, 3), (9, 3)]) (RG_nx ?_ x_v87.1 (fun _ _ => st_rY ?_) x_v87.2.1) (RG.cons x_v168)) <;> omega)) (FKP.tr (FKP.tr ik5 x_v169) x_v232) hH hS (lv_sub hl [0, 1] rfl)
  refine tk_v hH hS hA (tr_V (n := 1) (As := [.int x1]) hx hb hml hown hts hkb hH (ox_map hOX rfl) hks hE hS hA (s_M_readBoth3 l D cs kf T O X a0 hg mq x1 o0 o1 o2 y3 y4 o5 y6 y7 y8 y9 y10 y11 y12 tl f3 f4 t tn t_a0 b_hg (by omega) (by omega) t_y3 t_y4 (by omega) (by omega) (by omega) (by omega) (by omega) (by omega) (by omega) (by omega) s_f4 (by omega) htm (by omega) (by omega) k3 (by first | exact k4 | (intro _; omega)) hms (hO.sub (by decide))) kw_1406 kw_1408 ks_56 kw_13 kw_1409 (by decide +kernel) ⟨Nat.le_of_ble_eq_true rfl, Nat.le_of_ble_eq_true rfl⟩ (x_recv (ci := 12) hkb hH 0 rfl rfl) rfl rfl hl.1 (Nat.le_of_ble_eq_true rfl) dX12_readTruth_2 ⟨Nat.le_of_ble_eq_true rfl, Nat.le_of_ble_eq_true rfl⟩) (fun u H locs hz9 hH hS => ?_)
  obtain ⟨n2_0_6, n2_0_7, n2_0_9, n2_0_10, n2_0_11, n2_0_12, F2_2, rfl, x_v20, x_v21, x_v22, x_v23, x_v24, x_v25, x_v26, x_v27, x_v28, x_v29⟩ := hz9
  have s_F2_2 := x_v20
  have hH : HT D cs A T (a0 :: y3 :: y4 :: O) ((a0, .inr (12, o0 :: o1 :: o2 :: (.ref y3) :: (.ref y4) :: o5 :: (.int n2_0_6) :: (.int n2_0_7) :: (.int y8) :: (.int n2_0_9) :: (.int n2_0_10) :: (.int n2_0_11) :: (.int n2_0_12) :: tl)) :: (y3, .inl (cs.2.1, 900, .inl f3)) :: (y4, .inl (cs.2.1, 1302, .inl F2_2)) :: X) H := hH
  refine W.widen (k := 0) (n := 0) (Nat.le_of_ble_eq_true rfl) (Nat.le_of_ble_eq_true rfl) ?_
  exact J5 _ n2_0_6 n2_0_7 n2_0_9 n2_0_10 n2_0_11 n2_0_12 F2_2 _ _ _ rfl s_F2_2 (by omega) (by omega) (by omega) (by omega) (by omega) (by omega) (by omega) (by omega) x_v24 (by omega) (by first | exact x_v27 | (refine RD_le x_v27 ?_; omega) | (intro q; obtain ⟨c0, c1, c2⟩ := x_v27 q; refine ⟨?_, ?_, ?_⟩ <;> omega)) (by first | exact (RG.seq (F' := [(6, 3), (9, 3)]) (RG_id (fun q9 => ⟨hms q9, fun _ _ => st_r⟩)) (RG.cons x_v28)) | (refine RG.seq ig5 (RG.seq (F' := [(6, 3), (9, 3)]) (RG_nx ?_ x_v87.1 (fun _ _ => st_rY ?_) x_v87.2.1) (RG.cons x_v168)) <;> omega)) (FKP.tr FKP.rf x_v29) hH hS (lv_sub hl [0, 1] rfl)
