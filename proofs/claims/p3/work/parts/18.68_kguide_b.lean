set_option maxHeartbeats 4000000 in
set_option maxRecDepth 100000 in
theorem s_M_readGuide (l : Launch) (D : va_G) (cs : CS) (kf : KF) (T : TF) (O : List Nat) (X : va_W) (a0 hg mq : Nat) (o0 : Value) (o1 : Value) (o2 : Value) (y3 : Nat) (y4 : Nat) (o5 : Value) (y6 : Int32) (y7 : Int32) (y8 : Int32) (y9 : Int32) (y10 : Int32) (y11 : Int32) (y12 : Int32) (tl : List Value) (f3 : Nat → Int32) (f4 : Nat → Int32) (t : Tp) (tn : Nat) (t_a0 : T a0 = some (22, hg, mq)) (b_hg : hg < 90) (t_y3 : T y3 = some (9, 900, 0)) (t_y4 : T y4 = some (8, 1302, 0)) (l_y6 : 0 ≤ y6.toInt) (u_y6 : y6.toInt ≤ 900) (l_y7 : 0 ≤ y7.toInt) (u_y7 : y7.toInt ≤ 900) (l_y8 : 0 ≤ y8.toInt) (u_y8 : y8.toInt ≤ 900) (l_y10 : 0 ≤ y10.toInt) (u_y10 : y10.toInt ≤ 999) (s_f4 : S8 f4) (hn : y8.toInt = (tn : Int)) (htm : TM f3 t) (k1 : y6.toInt ≤ y7.toInt) (k2 : y7.toInt ≤ y8.toInt) (k3 : TK3 y9 y6 y7) (k5 : y11.toInt = 0) (k6 : y9.toInt ≠ 22) (hms : MSW t tn y11 y6 y7 y9 y10) (kk : y9.toInt = 1) (hO : okO T (a0 :: y3 :: y4 :: O) []) : TK l D cs kf yX12_readGuide cX12_readGuide 4 none { frames := 7, cells := 0, slots := 0, locals := 152 } [.ref a0] T (a0 :: y3 :: y4 :: O) ((a0, .inr (12, o0 :: o1 :: o2 :: (.ref y3) :: (.ref y4) :: o5 :: (.int y6) :: (.int y7) :: (.int y8) :: (.int y9) :: (.int y10) :: (.int y11) :: (.int y12) :: tl)) :: (y3, .inl (cs.2.1, 900, .inl f3)) :: (y4, .inl (cs.2.1, 1302, .inl f4)) :: X) (Tv D cs (fun u => ∃ (n0_6 : Int32) (n0_7 : Int32) (n0_9 : Int32) (n0_10 : Int32) (n0_11 : Int32) (n0_12 : Int32) (G2 : Nat → Int32), u = (T, a0 :: y3 :: y4 :: O, (a0, .inr (12, o0 :: o1 :: o2 :: (.ref y3) :: (.ref y4) :: o5 :: (.int n0_6) :: (.int n0_7) :: (.int y8) :: (.int n0_9) :: (.int n0_10) :: (.int n0_11) :: (.int n0_12) :: tl)) :: (y3, .inl (cs.2.1, 900, .inl f3)) :: (y4, .inl (cs.2.1, 1302, .inl G2)) :: X) ∧ (S8 G2) ∧ (y6.toInt ≤ n0_6.toInt) ∧ (n0_6.toInt ≤ n0_7.toInt) ∧ (n0_7.toInt ≤ y8.toInt) ∧ (TK3 n0_9 n0_6 n0_7) ∧ (0 ≤ n0_10.toInt) ∧ (n0_10.toInt ≤ 999) ∧ (RGR t tn [(31, 0)] [] (FR5 f4) (FR5 G2) y11 y12 y6 n0_11 n0_12 n0_6 n0_7 n0_9 n0_10) ∧ (G2 0 = f4 0))) := by
  refine tk_of (by decide) (Nat.le_of_ble_eq_true rfl) (fun p e s m below meth c ls A H locs hx hb hr hml hown hts hlocks hnm hkb hH hS hA hOX hks hE hl => ?_)
  have hown : s.vm.findClass RX12 = some m.cls := hown
  have hl : lv_has ls 4 [(0, .ref a0)] := hl
  have hOXf := hOX
  have hq1 := (hms k5).2.2.2.1
  refine lv_aload_n hx hb dX12_readGuide_0 rfl (lv_at hl 0 rfl) ?_
  refine x_getk (ci := 12) (C := RX12) (F := TX12) (N := 36) (v := .ref y4) hx hb hts uX12 hown hkb hH 0 rfl rfl 4 (by decide) rfl kw_1227 (fun _ h9 => h9) dX12_readGuide_1 ?_
  refine lv_iconst (v := 2) hx hb dX12_readGuide_4 (by decide) ?_
  refine xa_ild hx hb hkb hH 2 rfl (by decide) (by decide) dX12_readGuide_5 ?_
  refine lv_topi (fun v5 ev5 => ?_)
  have tv5 : v5 = f4 2 := by rw [ev5]; rfl
  have bv5 : 0 ≤ v5.toInt ∧ v5.toInt ≤ 5 := by rw [tv5]; exact s_f4.2.1
  refine lv_istore_n (lv' := [(1, .int v5), (0, .ref a0)]) hx hb dX12_readGuide_6 rfl hl (by decide) rfl (fun ls hl => ?_)
  refine lv_iload_n hx hb dX12_readGuide_7 rfl (lv_at hl 0 rfl) ?_
  refine lv_iconst (v := 5) hx hb dX12_readGuide_8 (by decide) ?_
  refine lv_icmp_ne (tgt := 17) hx hb dX12_readGuide_9 (by decide) (fun c9 => ?_) (fun c9 => ?_)
  · skip
    have tc9 := f_ne (k := 5) (by decide) c9
    refine lv_aload_n hx hb dX12_readGuide_17 rfl (lv_at hl 1 rfl) ?_
    refine x_getk (ci := 12) (C := RX12) (F := TX12) (N := 36) (v := .int y11) hx hb hts uX12 hown hkb hH 0 rfl rfl 11 (by decide) rfl kw_1234 (fun _ h9 => h9) dX12_readGuide_18 ?_
    refine lv_if_eq (tgt := 25) hx hb dX12_readGuide_21 (by decide) (fun c21 => ?_) (fun c21 => ?_)
    · skip
      have tc21 := f_eq (k := 0) (by decide) c21
      have hv5 : v5.toInt ≤ 4 := by first | omega | exact absurd tc21 x_v140
      refine lv_aload_n hx hb dX12_readGuide_25 rfl (lv_at hl 1 rfl) ?_
      refine tk_v hH hS hA (tr_V (n := 0) (As := []) hx hb hml hown hts hkb hH (ox_map hOX rfl) hks hE hS hA (s_M_next l D cs kf T (y4 :: O) ((y4, .inl (cs.2.1, 1302, .inl f4)) :: X) a0 hg mq o0 o1 o2 y3 y4 o5 y6 y7 y8 y9 y10 y11 y12 tl f3 t tn t_a0 b_hg t_y3 t_y4 (by omega) (by omega) (by omega) (by omega) (by omega) (by omega) (by omega) (by omega) (by omega) htm (by omega) (hO.sub (by decide))) kw_1344 kw_1346 ks_43 kw_13 kw_1347 (by decide +kernel) ⟨Nat.le_of_ble_eq_true rfl, Nat.le_of_ble_eq_true rfl⟩ (x_recv (ci := 12) hkb hH 0 rfl rfl) rfl rfl hl.1 (Nat.le_of_ble_eq_true rfl) dX12_readGuide_26 ⟨Nat.le_of_ble_eq_true rfl, Nat.le_of_ble_eq_true rfl⟩) (fun u H locs hz9 hH hS => ?_)
      obtain ⟨n26_0_6, n26_0_7, n26_0_9, n26_0_10, rfl, x_v260, x_v261, x_v262, x_v263, x_v264, x_v265, x_v266, x_v267⟩ := hz9
      have hH : HT D cs A T (a0 :: y3 :: y4 :: O) ((a0, .inr (12, o0 :: o1 :: o2 :: (.ref y3) :: (.ref y4) :: o5 :: (.int n26_0_6) :: (.int n26_0_7) :: (.int y8) :: (.int n26_0_9) :: (.int n26_0_10) :: (.int y11) :: (.int y12) :: tl)) :: (y3, .inl (cs.2.1, 900, .inl f3)) :: (y4, .inl (cs.2.1, 1302, .inl f4)) :: X) H := hH
      refine W.widen (k := 0) (n := 0) (Nat.le_of_ble_eq_true rfl) (Nat.le_of_ble_eq_true rfl) ?_
      have g29 : RGR t tn [(31, 0)] [(20, 2), (22, 99), (34, 0)] (FR5 f4) (FR5 f4) y11 y12 y6 y11 y12 n26_0_6 n26_0_7 n26_0_9 n26_0_10 := (by first | (exact absurd tc21 x_v140) | (exact RGR_g (by omega) x_v266 (GR_nx (fun _ => st_iG (R := FR5 f4) (by omega) (by show ¬ 5 ≤ (f4 2).toInt.toNat; rw [← tv5]; omega)) ((hms k5).nx x_v267))))
      refine lv_aload_n hx hb dX12_readGuide_29 rfl (lv_at hl 1 rfl) ?_
      refine lv_iconst (v := 2) hx hb dX12_readGuide_30 (by decide) ?_
      have z9_2 : (2 : Int32).toInt = 2 := by decide
      refine tk_i hH hS hA (tr_V (n := 1) (As := [.int 2]) hx hb hml hown hts hkb hH (ox_map hOX rfl) hks hE hS hA (s_M_eats l D cs kf T (y4 :: O) ((y4, .inl (cs.2.1, 1302, .inl f4)) :: X) a0 hg mq (2) o0 o1 o2 y3 y4 o5 n26_0_6 n26_0_7 y8 n26_0_9 n26_0_10 y11 y12 tl f3 t tn t_a0 b_hg t_y3 t_y4 (by omega) (by omega) (by omega) (by omega) (by omega) (by omega) (by omega) (by omega) (by omega) htm (by omega) (by omega) x_v263 (by omega) (fun _ => x_v266) (hO.sub (by decide))) kw_1390 kw_1392 ks_52 kw_13 kw_1393 (by decide +kernel) ⟨Nat.le_of_ble_eq_true rfl, Nat.le_of_ble_eq_true rfl⟩ (x_recv (ci := 12) hkb hH 0 rfl rfl) rfl rfl hl.1 (Nat.le_of_ble_eq_true rfl) dX12_readGuide_31 ⟨Nat.le_of_ble_eq_true rfl, Nat.le_of_ble_eq_true rfl⟩) (fun v31 u H locs hz9 hH hS => ?_)
      obtain ⟨n31_0_6, n31_0_7, n31_0_9, n31_0_10, rfl, l_v31, u_v31, x_v310, x_v311, x_v312, x_v313, x_v314, x_v315, x_v316, x_v317, x_v318⟩ := hz9
      have hH : HT D cs A T (a0 :: y3 :: y4 :: O) ((a0, .inr (12, o0 :: o1 :: o2 :: (.ref y3) :: (.ref y4) :: o5 :: (.int n31_0_6) :: (.int n31_0_7) :: (.int y8) :: (.int n31_0_9) :: (.int n31_0_10) :: (.int y11) :: (.int y12) :: tl)) :: (y3, .inl (cs.2.1, 900, .inl f3)) :: (y4, .inl (cs.2.1, 1302, .inl f4)) :: X) H := hH
      refine W.widen (k := 0) (n := 0) (Nat.le_of_ble_eq_true rfl) (Nat.le_of_ble_eq_true rfl) ?_
      refine lv_if_ne (tgt := 42) hx hb dX12_readGuide_34 (by decide) (fun c34 => ?_) (fun c34 => ?_)
      · skip
        have tc34 := f_ne (k := 0) (by decide) c34
        replace x_v316 := x_v316.resolve_left tc34
        replace x_v317 := x_v317.resolve_left tc34
        clear x_v318
        have g42 : RGR t tn [(31, 0)] [(22, 99), (34, 0)] (FR5 f4) (FR5 f4) y11 y12 y6 y11 y12 n31_0_6 n31_0_7 n31_0_9 n31_0_10 := (by first | (refine RGR.seq g29 (RGR.cons (RGR_g ?_ x_v317.1 (GR_nx (fun _ => st_xY ?_) x_v317.2.1))) <;> omega) | (exact RGR.seq g29 (RGR.cons (RGR_f (R := FR5 f4) (m := 2) (G := []) x_v391 (fun _ => x_v266) (by decide) (by decide) (fun q9 _ => st_xN (by have q8 := x_v266.2.2.2.1; omega))))))
        refine lv_aload_n hx hb dX12_readGuide_42 rfl (lv_at hl 1 rfl) ?_
        refine lv_iconst (v := 0) hx hb dX12_readGuide_43 (by decide) ?_
        refine lv_bipush (v := 99) hx hb dX12_readGuide_44 (by decide) ?_
        have z9_0 : (0 : Int32).toInt = 0 := by decide
        have z9_99 : (99 : Int32).toInt = 99 := by decide
        refine tk_i hH hS hA (tr_V (n := 2) (As := [.int 0, .int 99]) hx hb hml hown hts hkb hH (ox_map hOX rfl) hks hE hS hA (s_M_takes l D cs kf T (y4 :: O) ((y4, .inl (cs.2.1, 1302, .inl f4)) :: X) a0 hg mq (0) (99) o0 o1 o2 y3 y4 o5 n31_0_6 n31_0_7 y8 n31_0_9 n31_0_10 y11 y12 tl f3 t tn t_a0 b_hg (by decide) (by decide) t_y3 t_y4 (by omega) (by omega) (by omega) (by omega) (by omega) (by omega) (by omega) (by omega) (by omega) htm (by omega) (by omega) x_v313 (fun _ => x_v317.1) (hO.sub (by decide))) kw_1382 kw_1384 ks_50 kw_13 kw_1385 (by decide +kernel) ⟨Nat.le_of_ble_eq_true rfl, Nat.le_of_ble_eq_true rfl⟩ (x_recv (ci := 12) hkb hH 0 rfl rfl) rfl rfl hl.1 (Nat.le_of_ble_eq_true rfl) dX12_readGuide_46 ⟨Nat.le_of_ble_eq_true rfl, Nat.le_of_ble_eq_true rfl⟩) (fun v46 u H locs hz9 hH hS => ?_)
        obtain ⟨n46_0_6, n46_0_7, n46_0_9, n46_0_10, n46_0_11, n46_0_12, rfl, l_v46, u_v46, x_v460, x_v461, x_v462, x_v463, x_v464, x_v465, x_v466, x_v467⟩ := hz9
        have hH : HT D cs A T (a0 :: y3 :: y4 :: O) ((a0, .inr (12, o0 :: o1 :: o2 :: (.ref y3) :: (.ref y4) :: o5 :: (.int n46_0_6) :: (.int n46_0_7) :: (.int y8) :: (.int n46_0_9) :: (.int n46_0_10) :: (.int n46_0_11) :: (.int n46_0_12) :: tl)) :: (y3, .inl (cs.2.1, 900, .inl f3)) :: (y4, .inl (cs.2.1, 1302, .inl f4)) :: X) H := hH
        refine W.widen (k := 0) (n := 0) (Nat.le_of_ble_eq_true rfl) (Nat.le_of_ble_eq_true rfl) ?_
        refine lv_istore_n (lv' := [(2, .int v46), (1, .int v5), (0, .ref a0)]) hx hb dX12_readGuide_49 rfl hl (by decide) rfl (fun ls hl => ?_)
        have g50 : RGR t tn [(31, 0)] [(34, 0)] (FR5 f4) (FR5 f4) y11 y12 y6 n46_0_11 n46_0_12 n46_0_6 n46_0_7 n46_0_9 n46_0_10 := g42.seq (RGR.cons (RG.r (TNK.rg x_v467 (by decide))))
        refine lv_aload_n hx hb dX12_readGuide_50 rfl (lv_at hl 2 rfl) ?_
        refine lv_iconst (v := 3) hx hb dX12_readGuide_51 (by decide) ?_
        have z9_3 : (3 : Int32).toInt = 3 := by decide
        refine tk_i hH hS hA (tr_V (n := 1) (As := [.int 3]) hx hb hml hown hts hkb hH (ox_map hOX rfl) hks hE hS hA (s_M_eats l D cs kf T (y4 :: O) ((y4, .inl (cs.2.1, 1302, .inl f4)) :: X) a0 hg mq (3) o0 o1 o2 y3 y4 o5 n46_0_6 n46_0_7 y8 n46_0_9 n46_0_10 n46_0_11 n46_0_12 tl f3 t tn t_a0 b_hg t_y3 t_y4 (by omega) (by omega) (by omega) (by omega) (by omega) (by omega) (by omega) (by omega) (by omega) htm (by omega) (by omega) x_v463 (by omega) (TNK.msw x_v467) (hO.sub (by decide))) kw_1390 kw_1392 ks_52 kw_13 kw_1393 (by decide +kernel) ⟨Nat.le_of_ble_eq_true rfl, Nat.le_of_ble_eq_true rfl⟩ (x_recv (ci := 12) hkb hH 0 rfl rfl) rfl rfl hl.1 (Nat.le_of_ble_eq_true rfl) dX12_readGuide_52 ⟨Nat.le_of_ble_eq_true rfl, Nat.le_of_ble_eq_true rfl⟩) (fun v52 u H locs hz9 hH hS => ?_)
        obtain ⟨n52_0_6, n52_0_7, n52_0_9, n52_0_10, rfl, l_v52, u_v52, x_v520, x_v521, x_v522, x_v523, x_v524, x_v525, x_v526, x_v527, x_v528⟩ := hz9
        have hH : HT D cs A T (a0 :: y3 :: y4 :: O) ((a0, .inr (12, o0 :: o1 :: o2 :: (.ref y3) :: (.ref y4) :: o5 :: (.int n52_0_6) :: (.int n52_0_7) :: (.int y8) :: (.int n52_0_9) :: (.int n52_0_10) :: (.int n46_0_11) :: (.int n46_0_12) :: tl)) :: (y3, .inl (cs.2.1, 900, .inl f3)) :: (y4, .inl (cs.2.1, 1302, .inl f4)) :: X) H := hH
        refine W.widen (k := 0) (n := 0) (Nat.le_of_ble_eq_true rfl) (Nat.le_of_ble_eq_true rfl) ?_
        refine lv_if_eq (tgt := 68) hx hb dX12_readGuide_55 (by decide) (fun c55 => ?_) (fun c55 => ?_)
        · skip
          have tc55 := f_eq (k := 0) (by decide) c55
          clear x_v526
          clear x_v527
          replace x_v528 := x_v528.resolve_left (fun q9 => q9 tc55)
          obtain ⟨e6, e7, e9, e10, x_v528⟩ := x_v528
          subst e6 e7 e9 e10
          refine lv_iconst (v := 0) hx hb dX12_readGuide_68 (by decide) ?_
          refine lv_istore_n (lv' := [(3, .int 0), (2, .int v46), (1, .int v5), (0, .ref a0)]) hx hb dX12_readGuide_69 rfl hl (by decide) rfl (fun ls hl => ?_)
          have g70 : RGR t tn [(31, 0)] [(38, 0)] (FR5 f4) (FR5 f4) y11 y12 y6 n46_0_11 n46_0_12 n46_0_6 n46_0_7 n46_0_9 n46_0_10 := (by first | (exact g58.seq (RGR.cons (RG.r (TNK.rg x_v627 (by decide))))) | (exact g50.seq (RGR_id (fun q9 => ⟨TNK.msw x_v467 q9, (show GR t tn [(34, 0)] [(38, 0)] (FR5 f4) (FR5 f4) _ _ from fun _ => st_gN (by have q8 := (TNK.msw x_v467 q9).2.2.2.1; omega))⟩))))
          refine lv_aload_n hx hb dX12_readGuide_70 rfl (lv_at hl 3 rfl) ?_
          refine x_getk (ci := 12) (C := RX12) (F := TX12) (N := 36) (v := .int n46_0_11) hx hb hts uX12 hown hkb hH 0 rfl rfl 11 (by decide) rfl kw_1234 (fun _ h9 => h9) dX12_readGuide_71 ?_
          refine lv_if_eq (tgt := 78) hx hb dX12_readGuide_74 (by decide) (fun c74 => ?_) (fun c74 => ?_)
          · skip
            have tc74 := f_eq (k := 0) (by decide) c74
            refine lv_aload_n hx hb dX12_readGuide_78 rfl (lv_at hl 3 rfl) ?_
            refine x_getk (ci := 12) (C := RX12) (F := TX12) (N := 36) (v := .ref y4) hx hb hts uX12 hown hkb hH 0 rfl rfl 4 (by decide) rfl kw_1227 (fun _ h9 => h9) dX12_readGuide_79 ?_
            refine lv_bipush (v := 49) hx hb dX12_readGuide_82 (by decide) ?_
            refine lv_iload_n hx hb dX12_readGuide_84 rfl (lv_at hl 2 rfl) ?_
            refine lv_iadd hx hb dX12_readGuide_85 ?_
            refine lv_topi (fun v85 ev85 => ?_)
            have tv85 : v85.toInt = (49) + v5.toInt := by rw [ev85]; exact add_i (by decide : (49 : Int32).toInt = 49) rfl (by omega) (by omega)
            refine lv_iload_n hx hb dX12_readGuide_86 rfl (lv_at hl 1 rfl) ?_
            refine xa_ist hx hb hkb hH hS 2 rfl (by omega) (by omega) dX12_readGuide_87 (fun H locs hH hS => ?_)
            have hH : HT D cs A T (a0 :: y3 :: y4 :: O) ((a0, .inr (12, o0 :: o1 :: o2 :: (.ref y3) :: (.ref y4) :: o5 :: (.int n46_0_6) :: (.int n46_0_7) :: (.int y8) :: (.int n46_0_9) :: (.int n46_0_10) :: (.int n46_0_11) :: (.int n46_0_12) :: tl)) :: (y3, .inl (cs.2.1, 900, .inl f3)) :: (y4, .inl (cs.2.1, 1302, .inl (upd f4 (v85.toInt.toNat) v46))) :: X) H := hH
            obtain ⟨F87, eF87⟩ : ∃ f9, f9 = upd f4 (v85.toInt.toNat) v46 := ⟨_, rfl⟩
            have hH : HT D cs A T (a0 :: y3 :: y4 :: O) ((a0, .inr (12, o0 :: o1 :: o2 :: (.ref y3) :: (.ref y4) :: o5 :: (.int n46_0_6) :: (.int n46_0_7) :: (.int y8) :: (.int n46_0_9) :: (.int n46_0_10) :: (.int n46_0_11) :: (.int n46_0_12) :: tl)) :: (y3, .inl (cs.2.1, 900, .inl f3)) :: (y4, .inl (cs.2.1, 1302, .inl F87)) :: X) H := eF87 ▸ hH
            have s_F87 : S8 F87 := eF87 ▸ S8_put (i := v85) (x := v46) s_f4 (by omega) (by omega) (p8_far (by omega) (⟨by omega, by omega⟩))
            refine lv_aload_n hx hb dX12_readGuide_88 rfl (lv_at hl 3 rfl) ?_
            refine x_getk (ci := 12) (C := RX12) (F := TX12) (N := 36) (v := .ref y4) hx hb hts uX12 hown hkb hH 0 rfl rfl 4 (by decide) rfl kw_1227 (fun _ h9 => h9) dX12_readGuide_89 ?_
            refine lv_bipush (v := 54) hx hb dX12_readGuide_92 (by decide) ?_
            refine lv_iload_n hx hb dX12_readGuide_94 rfl (lv_at hl 2 rfl) ?_
            refine lv_iadd hx hb dX12_readGuide_95 ?_
            refine lv_topi (fun v95 ev95 => ?_)
            have tv95 : v95.toInt = (54) + v5.toInt := by rw [ev95]; exact add_i (by decide : (54 : Int32).toInt = 54) rfl (by omega) (by omega)
            refine lv_iload_n hx hb dX12_readGuide_96 rfl (lv_at hl 0 rfl) ?_
            refine xa_ist hx hb hkb hH hS 2 rfl (by omega) (by omega) dX12_readGuide_97 (fun H locs hH hS => ?_)
            have hH : HT D cs A T (a0 :: y3 :: y4 :: O) ((a0, .inr (12, o0 :: o1 :: o2 :: (.ref y3) :: (.ref y4) :: o5 :: (.int n46_0_6) :: (.int n46_0_7) :: (.int y8) :: (.int n46_0_9) :: (.int n46_0_10) :: (.int n46_0_11) :: (.int n46_0_12) :: tl)) :: (y3, .inl (cs.2.1, 900, .inl f3)) :: (y4, .inl (cs.2.1, 1302, .inl (upd F87 (v95.toInt.toNat) (0 : Int32)))) :: X) H := hH
            obtain ⟨F97, eF97⟩ : ∃ f9, f9 = upd F87 (v95.toInt.toNat) (0 : Int32) := ⟨_, rfl⟩
            have hH : HT D cs A T (a0 :: y3 :: y4 :: O) ((a0, .inr (12, o0 :: o1 :: o2 :: (.ref y3) :: (.ref y4) :: o5 :: (.int n46_0_6) :: (.int n46_0_7) :: (.int y8) :: (.int n46_0_9) :: (.int n46_0_10) :: (.int n46_0_11) :: (.int n46_0_12) :: tl)) :: (y3, .inl (cs.2.1, 900, .inl f3)) :: (y4, .inl (cs.2.1, 1302, .inl F97)) :: X) H := eF97 ▸ hH
            have s_F97 : S8 F97 := eF97 ▸ S8_put (i := v95) (x := (0 : Int32)) s_F87 (by omega) (by omega) (p8_far (by omega) (⟨by omega, by omega⟩))
            refine lv_aload_n hx hb dX12_readGuide_98 rfl (lv_at hl 3 rfl) ?_
            refine x_getk (ci := 12) (C := RX12) (F := TX12) (N := 36) (v := .ref y4) hx hb hts uX12 hown hkb hH 0 rfl rfl 4 (by decide) rfl kw_1227 (fun _ h9 => h9) dX12_readGuide_99 ?_
            refine lv_iconst (v := 2) hx hb dX12_readGuide_102 (by decide) ?_
            refine lv_dup2_11 hx hb dX12_readGuide_103 rfl rfl ?_
            refine xa_ild hx hb hkb hH 2 rfl (by decide) (by decide) dX12_readGuide_104 ?_
            refine lv_topi (fun v104 ev104 => ?_)
            have tv104 : v104 = F97 2 := by rw [ev104]; rfl
            have bv104 : 0 ≤ v104.toInt ∧ v104.toInt ≤ 5 := by rw [tv104]; exact s_F97.2.1
            have hh9 : v104 = v5 := by rw [tv104, eF97, upd_ne (by omega), eF87, upd_ne (by omega), tv5]
            have hh8 : v104.toInt = v5.toInt := by rw [hh9]
            refine lv_iconst (v := 1) hx hb dX12_readGuide_105 (by decide) ?_
            refine lv_iadd hx hb dX12_readGuide_106 ?_
            refine lv_topi (fun v106 ev106 => ?_)
            have tv106 : v106.toInt = v104.toInt + (1) := by rw [ev106]; exact add_i rfl (by decide : (1 : Int32).toInt = 1) (by omega) (by omega)
            refine xa_ist hx hb hkb hH hS 2 rfl (by decide) (by decide) dX12_readGuide_107 (fun H locs hH hS => ?_)
            have hH : HT D cs A T (a0 :: y3 :: y4 :: O) ((a0, .inr (12, o0 :: o1 :: o2 :: (.ref y3) :: (.ref y4) :: o5 :: (.int n46_0_6) :: (.int n46_0_7) :: (.int y8) :: (.int n46_0_9) :: (.int n46_0_10) :: (.int n46_0_11) :: (.int n46_0_12) :: tl)) :: (y3, .inl (cs.2.1, 900, .inl f3)) :: (y4, .inl (cs.2.1, 1302, .inl (upd F97 (2) v106))) :: X) H := hH
            obtain ⟨F107, eF107⟩ : ∃ f9, f9 = upd F97 (2) v106 := ⟨_, rfl⟩
            have hH : HT D cs A T (a0 :: y3 :: y4 :: O) ((a0, .inr (12, o0 :: o1 :: o2 :: (.ref y3) :: (.ref y4) :: o5 :: (.int n46_0_6) :: (.int n46_0_7) :: (.int y8) :: (.int n46_0_9) :: (.int n46_0_10) :: (.int n46_0_11) :: (.int n46_0_12) :: tl)) :: (y3, .inl (cs.2.1, 900, .inl f3)) :: (y4, .inl (cs.2.1, 1302, .inl F107)) :: X) H := eF107 ▸ hH
            have s_F107 : S8 F107 := eF107 ▸ S8_put (i := 2) (x := v106) s_F97 (by decide) (by decide) (⟨fun q9 => absurd q9 (by decide), fun _ => ⟨by omega, by omega⟩, fun q9 => absurd q9 (by decide), fun q9 => absurd q9 (by decide), fun q9 => absurd q9 (by decide), fun q9 => absurd q9 (by decide), fun q9 => absurd q9 (by decide)⟩)
            exact te_v hx hb hr hlocks hH hS (⟨n46_0_6, n46_0_7, n46_0_9, n46_0_10, n46_0_11, n46_0_12, F107, rfl, s_F107, by omega, by omega, by omega, x_v523, by omega, by omega, (by first | (exact absurd k5 tc21) | (exact RGR_f (R := FR5 f4) (m := 4) (G := []) x_v141 hms (by decide) (by decide) (fun q9 _ => st_iGM (R := FR5 f4) (by omega) (by show 5 ≤ (f4 2).toInt.toNat; rw [← tv5]; omega))) | (exact RGR.any g70 tc74) | (refine RGR.seq (RGR.to g70 ((FR5_o eF97 (Or.inr ?_)).trans (FR5_o eF87 (Or.inr ?_)))) (RGR_id (fun q9 => ⟨(TNK.msw x_v467) q9, RF_C eF107 tv104 tv106 ?_⟩)) <;> omega)), (by first | rfl | (rw [eF107, upd_ne (by decide), eF97, upd_ne (by omega), eF87]; exact upd_ne (by omega)))⟩) dX12_readGuide_108
          · skip
            have tc74 := f_ne (k := 0) (by decide) c74
            exact te_v hx hb hr hlocks hH hS (⟨n46_0_6, n46_0_7, n46_0_9, n46_0_10, n46_0_11, n46_0_12, f4, rfl, s_f4, by omega, by omega, by omega, x_v523, by omega, by omega, (by first | (exact absurd k5 tc21) | (exact RGR_f (R := FR5 f4) (m := 4) (G := []) x_v141 hms (by decide) (by decide) (fun q9 _ => st_iGM (R := FR5 f4) (by omega) (by show 5 ≤ (f4 2).toInt.toNat; rw [← tv5]; omega))) | (exact RGR.any g70 tc74) | (refine RGR.seq (RGR.to g70 ((FR5_o eF97 (Or.inr ?_)).trans (FR5_o eF87 (Or.inr ?_)))) (RGR_id (fun q9 => ⟨(TNK.msw x_v467) q9, RF_C eF107 tv104 tv106 ?_⟩)) <;> omega)), (by first | rfl | (rw [eF107, upd_ne (by decide), eF97, upd_ne (by omega), eF87]; exact upd_ne (by omega)))⟩) dX12_readGuide_77
        · skip
          have tc55 := f_ne (k := 0) (by decide) c55
          replace x_v526 := x_v526.resolve_left tc55
          replace x_v527 := x_v527.resolve_left tc55
          clear x_v528
          have g58 : RGR t tn [(31, 0)] [(22, 99), (38, 0)] (FR5 f4) (FR5 f4) y11 y12 y6 n46_0_11 n46_0_12 n52_0_6 n52_0_7 n52_0_9 n52_0_10 := (by refine RGR.seq g50 (RGR_g ?_ x_v527.1 (GR_nx (fun _ => st_gW ?_) x_v527.2.1)) <;> omega)
          refine lv_aload_n hx hb dX12_readGuide_58 rfl (lv_at hl 2 rfl) ?_
          refine lv_iconst (v := 0) hx hb dX12_readGuide_59 (by decide) ?_
          refine lv_bipush (v := 99) hx hb dX12_readGuide_60 (by decide) ?_
          have z9_0 : (0 : Int32).toInt = 0 := by decide
          have z9_99 : (99 : Int32).toInt = 99 := by decide
          refine tk_i hH hS hA (tr_V (n := 2) (As := [.int 0, .int 99]) hx hb hml hown hts hkb hH (ox_map hOX rfl) hks hE hS hA (s_M_takes l D cs kf T (y4 :: O) ((y4, .inl (cs.2.1, 1302, .inl f4)) :: X) a0 hg mq (0) (99) o0 o1 o2 y3 y4 o5 n52_0_6 n52_0_7 y8 n52_0_9 n52_0_10 n46_0_11 n46_0_12 tl f3 t tn t_a0 b_hg (by decide) (by decide) t_y3 t_y4 (by omega) (by omega) (by omega) (by omega) (by omega) (by omega) (by omega) (by omega) (by omega) htm (by omega) (by omega) x_v523 (fun _ => x_v527.1) (hO.sub (by decide))) kw_1382 kw_1384 ks_50 kw_13 kw_1385 (by decide +kernel) ⟨Nat.le_of_ble_eq_true rfl, Nat.le_of_ble_eq_true rfl⟩ (x_recv (ci := 12) hkb hH 0 rfl rfl) rfl rfl hl.1 (Nat.le_of_ble_eq_true rfl) dX12_readGuide_62 ⟨Nat.le_of_ble_eq_true rfl, Nat.le_of_ble_eq_true rfl⟩) (fun v62 u H locs hz9 hH hS => ?_)
          obtain ⟨n62_0_6, n62_0_7, n62_0_9, n62_0_10, n62_0_11, n62_0_12, rfl, l_v62, u_v62, x_v620, x_v621, x_v622, x_v623, x_v624, x_v625, x_v626, x_v627⟩ := hz9
          have hH : HT D cs A T (a0 :: y3 :: y4 :: O) ((a0, .inr (12, o0 :: o1 :: o2 :: (.ref y3) :: (.ref y4) :: o5 :: (.int n62_0_6) :: (.int n62_0_7) :: (.int y8) :: (.int n62_0_9) :: (.int n62_0_10) :: (.int n62_0_11) :: (.int n62_0_12) :: tl)) :: (y3, .inl (cs.2.1, 900, .inl f3)) :: (y4, .inl (cs.2.1, 1302, .inl f4)) :: X) H := hH
          refine W.widen (k := 0) (n := 0) (Nat.le_of_ble_eq_true rfl) (Nat.le_of_ble_eq_true rfl) ?_
          refine lv_goto (tgt := 69) hx hb dX12_readGuide_65 (by decide) ?_
          refine lv_istore_n (lv' := [(3, .int v62), (2, .int v46), (1, .int v5), (0, .ref a0)]) hx hb dX12_readGuide_69 rfl hl (by decide) rfl (fun ls hl => ?_)
          have g70 : RGR t tn [(31, 0)] [(38, 0)] (FR5 f4) (FR5 f4) y11 y12 y6 n62_0_11 n62_0_12 n62_0_6 n62_0_7 n62_0_9 n62_0_10 := (by first | (exact g58.seq (RGR.cons (RG.r (TNK.rg x_v627 (by decide))))) | (exact g50.seq (RGR_id (fun q9 => ⟨TNK.msw x_v467 q9, (show GR t tn [(34, 0)] [(38, 0)] (FR5 f4) (FR5 f4) _ _ from fun _ => st_gN (by have q8 := (TNK.msw x_v467 q9).2.2.2.1; omega))⟩))))
          refine lv_aload_n hx hb dX12_readGuide_70 rfl (lv_at hl 3 rfl) ?_
          refine x_getk (ci := 12) (C := RX12) (F := TX12) (N := 36) (v := .int n62_0_11) hx hb hts uX12 hown hkb hH 0 rfl rfl 11 (by decide) rfl kw_1234 (fun _ h9 => h9) dX12_readGuide_71 ?_
          refine lv_if_eq (tgt := 78) hx hb dX12_readGuide_74 (by decide) (fun c74 => ?_) (fun c74 => ?_)
          · skip
            have tc74 := f_eq (k := 0) (by decide) c74
            refine lv_aload_n hx hb dX12_readGuide_78 rfl (lv_at hl 3 rfl) ?_
            refine x_getk (ci := 12) (C := RX12) (F := TX12) (N := 36) (v := .ref y4) hx hb hts uX12 hown hkb hH 0 rfl rfl 4 (by decide) rfl kw_1227 (fun _ h9 => h9) dX12_readGuide_79 ?_
            refine lv_bipush (v := 49) hx hb dX12_readGuide_82 (by decide) ?_
            refine lv_iload_n hx hb dX12_readGuide_84 rfl (lv_at hl 2 rfl) ?_
            refine lv_iadd hx hb dX12_readGuide_85 ?_
            refine lv_topi (fun v85 ev85 => ?_)
            have tv85 : v85.toInt = (49) + v5.toInt := by rw [ev85]; exact add_i (by decide : (49 : Int32).toInt = 49) rfl (by omega) (by omega)
            refine lv_iload_n hx hb dX12_readGuide_86 rfl (lv_at hl 1 rfl) ?_
            refine xa_ist hx hb hkb hH hS 2 rfl (by omega) (by omega) dX12_readGuide_87 (fun H locs hH hS => ?_)
            have hH : HT D cs A T (a0 :: y3 :: y4 :: O) ((a0, .inr (12, o0 :: o1 :: o2 :: (.ref y3) :: (.ref y4) :: o5 :: (.int n62_0_6) :: (.int n62_0_7) :: (.int y8) :: (.int n62_0_9) :: (.int n62_0_10) :: (.int n62_0_11) :: (.int n62_0_12) :: tl)) :: (y3, .inl (cs.2.1, 900, .inl f3)) :: (y4, .inl (cs.2.1, 1302, .inl (upd f4 (v85.toInt.toNat) v46))) :: X) H := hH
            obtain ⟨F87, eF87⟩ : ∃ f9, f9 = upd f4 (v85.toInt.toNat) v46 := ⟨_, rfl⟩
            have hH : HT D cs A T (a0 :: y3 :: y4 :: O) ((a0, .inr (12, o0 :: o1 :: o2 :: (.ref y3) :: (.ref y4) :: o5 :: (.int n62_0_6) :: (.int n62_0_7) :: (.int y8) :: (.int n62_0_9) :: (.int n62_0_10) :: (.int n62_0_11) :: (.int n62_0_12) :: tl)) :: (y3, .inl (cs.2.1, 900, .inl f3)) :: (y4, .inl (cs.2.1, 1302, .inl F87)) :: X) H := eF87 ▸ hH
            have s_F87 : S8 F87 := eF87 ▸ S8_put (i := v85) (x := v46) s_f4 (by omega) (by omega) (p8_far (by omega) (⟨by omega, by omega⟩))
            refine lv_aload_n hx hb dX12_readGuide_88 rfl (lv_at hl 3 rfl) ?_
            refine x_getk (ci := 12) (C := RX12) (F := TX12) (N := 36) (v := .ref y4) hx hb hts uX12 hown hkb hH 0 rfl rfl 4 (by decide) rfl kw_1227 (fun _ h9 => h9) dX12_readGuide_89 ?_
            refine lv_bipush (v := 54) hx hb dX12_readGuide_92 (by decide) ?_
            refine lv_iload_n hx hb dX12_readGuide_94 rfl (lv_at hl 2 rfl) ?_
            refine lv_iadd hx hb dX12_readGuide_95 ?_
            refine lv_topi (fun v95 ev95 => ?_)
            have tv95 : v95.toInt = (54) + v5.toInt := by rw [ev95]; exact add_i (by decide : (54 : Int32).toInt = 54) rfl (by omega) (by omega)
            refine lv_iload_n hx hb dX12_readGuide_96 rfl (lv_at hl 0 rfl) ?_
            refine xa_ist hx hb hkb hH hS 2 rfl (by omega) (by omega) dX12_readGuide_97 (fun H locs hH hS => ?_)
            have hH : HT D cs A T (a0 :: y3 :: y4 :: O) ((a0, .inr (12, o0 :: o1 :: o2 :: (.ref y3) :: (.ref y4) :: o5 :: (.int n62_0_6) :: (.int n62_0_7) :: (.int y8) :: (.int n62_0_9) :: (.int n62_0_10) :: (.int n62_0_11) :: (.int n62_0_12) :: tl)) :: (y3, .inl (cs.2.1, 900, .inl f3)) :: (y4, .inl (cs.2.1, 1302, .inl (upd F87 (v95.toInt.toNat) v62))) :: X) H := hH
            obtain ⟨F97, eF97⟩ : ∃ f9, f9 = upd F87 (v95.toInt.toNat) v62 := ⟨_, rfl⟩
            have hH : HT D cs A T (a0 :: y3 :: y4 :: O) ((a0, .inr (12, o0 :: o1 :: o2 :: (.ref y3) :: (.ref y4) :: o5 :: (.int n62_0_6) :: (.int n62_0_7) :: (.int y8) :: (.int n62_0_9) :: (.int n62_0_10) :: (.int n62_0_11) :: (.int n62_0_12) :: tl)) :: (y3, .inl (cs.2.1, 900, .inl f3)) :: (y4, .inl (cs.2.1, 1302, .inl F97)) :: X) H := eF97 ▸ hH
            have s_F97 : S8 F97 := eF97 ▸ S8_put (i := v95) (x := v62) s_F87 (by omega) (by omega) (p8_far (by omega) (⟨by omega, by omega⟩))
            refine lv_aload_n hx hb dX12_readGuide_98 rfl (lv_at hl 3 rfl) ?_
            refine x_getk (ci := 12) (C := RX12) (F := TX12) (N := 36) (v := .ref y4) hx hb hts uX12 hown hkb hH 0 rfl rfl 4 (by decide) rfl kw_1227 (fun _ h9 => h9) dX12_readGuide_99 ?_
            refine lv_iconst (v := 2) hx hb dX12_readGuide_102 (by decide) ?_
            refine lv_dup2_11 hx hb dX12_readGuide_103 rfl rfl ?_
            refine xa_ild hx hb hkb hH 2 rfl (by decide) (by decide) dX12_readGuide_104 ?_
            refine lv_topi (fun v104 ev104 => ?_)
            have tv104 : v104 = F97 2 := by rw [ev104]; rfl
            have bv104 : 0 ≤ v104.toInt ∧ v104.toInt ≤ 5 := by rw [tv104]; exact s_F97.2.1
            have hh9 : v104 = v5 := by rw [tv104, eF97, upd_ne (by omega), eF87, upd_ne (by omega), tv5]
            have hh8 : v104.toInt = v5.toInt := by rw [hh9]
            refine lv_iconst (v := 1) hx hb dX12_readGuide_105 (by decide) ?_
            refine lv_iadd hx hb dX12_readGuide_106 ?_
            refine lv_topi (fun v106 ev106 => ?_)
            have tv106 : v106.toInt = v104.toInt + (1) := by rw [ev106]; exact add_i rfl (by decide : (1 : Int32).toInt = 1) (by omega) (by omega)
            refine xa_ist hx hb hkb hH hS 2 rfl (by decide) (by decide) dX12_readGuide_107 (fun H locs hH hS => ?_)
            have hH : HT D cs A T (a0 :: y3 :: y4 :: O) ((a0, .inr (12, o0 :: o1 :: o2 :: (.ref y3) :: (.ref y4) :: o5 :: (.int n62_0_6) :: (.int n62_0_7) :: (.int y8) :: (.int n62_0_9) :: (.int n62_0_10) :: (.int n62_0_11) :: (.int n62_0_12) :: tl)) :: (y3, .inl (cs.2.1, 900, .inl f3)) :: (y4, .inl (cs.2.1, 1302, .inl (upd F97 (2) v106))) :: X) H := hH
            obtain ⟨F107, eF107⟩ : ∃ f9, f9 = upd F97 (2) v106 := ⟨_, rfl⟩
            have hH : HT D cs A T (a0 :: y3 :: y4 :: O) ((a0, .inr (12, o0 :: o1 :: o2 :: (.ref y3) :: (.ref y4) :: o5 :: (.int n62_0_6) :: (.int n62_0_7) :: (.int y8) :: (.int n62_0_9) :: (.int n62_0_10) :: (.int n62_0_11) :: (.int n62_0_12) :: tl)) :: (y3, .inl (cs.2.1, 900, .inl f3)) :: (y4, .inl (cs.2.1, 1302, .inl F107)) :: X) H := eF107 ▸ hH
            have s_F107 : S8 F107 := eF107 ▸ S8_put (i := 2) (x := v106) s_F97 (by decide) (by decide) (⟨fun q9 => absurd q9 (by decide), fun _ => ⟨by omega, by omega⟩, fun q9 => absurd q9 (by decide), fun q9 => absurd q9 (by decide), fun q9 => absurd q9 (by decide), fun q9 => absurd q9 (by decide), fun q9 => absurd q9 (by decide)⟩)
            exact te_v hx hb hr hlocks hH hS (⟨n62_0_6, n62_0_7, n62_0_9, n62_0_10, n62_0_11, n62_0_12, F107, rfl, s_F107, by omega, by omega, by omega, x_v623, by omega, by omega, (by first | (exact absurd k5 tc21) | (exact RGR_f (R := FR5 f4) (m := 4) (G := []) x_v141 hms (by decide) (by decide) (fun q9 _ => st_iGM (R := FR5 f4) (by omega) (by show 5 ≤ (f4 2).toInt.toNat; rw [← tv5]; omega))) | (exact RGR.any g70 tc74) | (refine RGR.seq (RGR.to g70 ((FR5_o eF97 (Or.inr ?_)).trans (FR5_o eF87 (Or.inr ?_)))) (RGR_id (fun q9 => ⟨(TNK.msw x_v627) q9, RF_C eF107 tv104 tv106 ?_⟩)) <;> omega)), (by first | rfl | (rw [eF107, upd_ne (by decide), eF97, upd_ne (by omega), eF87]; exact upd_ne (by omega)))⟩) dX12_readGuide_108
          · skip
            have tc74 := f_ne (k := 0) (by decide) c74
            exact te_v hx hb hr hlocks hH hS (⟨n62_0_6, n62_0_7, n62_0_9, n62_0_10, n62_0_11, n62_0_12, f4, rfl, s_f4, by omega, by omega, by omega, x_v623, by omega, by omega, (by first | (exact absurd k5 tc21) | (exact RGR_f (R := FR5 f4) (m := 4) (G := []) x_v141 hms (by decide) (by decide) (fun q9 _ => st_iGM (R := FR5 f4) (by omega) (by show 5 ≤ (f4 2).toInt.toNat; rw [← tv5]; omega))) | (exact RGR.any g70 tc74) | (refine RGR.seq (RGR.to g70 ((FR5_o eF97 (Or.inr ?_)).trans (FR5_o eF87 (Or.inr ?_)))) (RGR_id (fun q9 => ⟨(TNK.msw x_v627) q9, RF_C eF107 tv104 tv106 ?_⟩)) <;> omega)), (by first | rfl | (rw [eF107, upd_ne (by decide), eF97, upd_ne (by omega), eF87]; exact upd_ne (by omega)))⟩) dX12_readGuide_77
      · skip
        have tc34 := f_eq (k := 0) (by decide) c34
        clear x_v316
        clear x_v317
        replace x_v318 := x_v318.resolve_left (fun q9 => q9 tc34)
        obtain ⟨e6, e7, e9, e10, x_v318⟩ := x_v318
        subst e6 e7 e9 e10
        refine lv_aload_n hx hb dX12_readGuide_37 rfl (lv_at hl 1 rfl) ?_
        refine lv_iconst (v := 2) hx hb dX12_readGuide_38 (by decide) ?_
        have z9_2 : (2 : Int32).toInt = 2 := by decide
        refine tk_v hH hS hA (tr_V (n := 1) (As := [.int 2]) hx hb hml hown hts hkb hH (ox_map hOX rfl) hks hE hS hA (s_M_fails l D cs kf T (y4 :: O) ((y4, .inl (cs.2.1, 1302, .inl f4)) :: X) a0 hg mq (2) o0 o1 o2 y3 y4 o5 n26_0_6 n26_0_7 y8 n26_0_9 n26_0_10 y11 y12 tl f3 t tn t_a0 b_hg (by decide) (by decide) t_y3 t_y4 (by omega) (by omega) (by omega) (by omega) (by omega) (by omega) (by omega) (by omega) (by omega) htm (hO.sub (by decide))) kw_1378 kw_1380 ks_49 kw_13 kw_1381 (by decide +kernel) ⟨Nat.le_of_ble_eq_true rfl, Nat.le_of_ble_eq_true rfl⟩ (x_recv (ci := 12) hkb hH 0 rfl rfl) rfl rfl hl.1 (Nat.le_of_ble_eq_true rfl) dX12_readGuide_39 ⟨Nat.le_of_ble_eq_true rfl, Nat.le_of_ble_eq_true rfl⟩) (fun u H locs hz9 hH hS => ?_)
        obtain ⟨n39_0_11, n39_0_12, rfl, x_v390, x_v391⟩ := hz9
        have hH : HT D cs A T (a0 :: y3 :: y4 :: O) ((a0, .inr (12, o0 :: o1 :: o2 :: (.ref y3) :: (.ref y4) :: o5 :: (.int n26_0_6) :: (.int n26_0_7) :: (.int y8) :: (.int n26_0_9) :: (.int n26_0_10) :: (.int n39_0_11) :: (.int n39_0_12) :: tl)) :: (y3, .inl (cs.2.1, 900, .inl f3)) :: (y4, .inl (cs.2.1, 1302, .inl f4)) :: X) H := hH
        refine W.widen (k := 0) (n := 0) (Nat.le_of_ble_eq_true rfl) (Nat.le_of_ble_eq_true rfl) ?_
        have g42 : RGR t tn [(31, 0)] [(22, 99), (34, 0)] (FR5 f4) (FR5 f4) y11 y12 y6 n39_0_11 n39_0_12 n26_0_6 n26_0_7 n26_0_9 n26_0_10 := (by first | (refine RGR.seq g29 (RGR.cons (RGR_g ?_ x_v317.1 (GR_nx (fun _ => st_xY ?_) x_v317.2.1))) <;> omega) | (exact RGR.seq g29 (RGR.cons (RGR_f (R := FR5 f4) (m := 2) (G := []) x_v391 (fun _ => x_v266) (by decide) (by decide) (fun q9 _ => st_xN (by have q8 := x_v266.2.2.2.1; omega))))))
        refine lv_aload_n hx hb dX12_readGuide_42 rfl (lv_at hl 1 rfl) ?_
        refine lv_iconst (v := 0) hx hb dX12_readGuide_43 (by decide) ?_
        refine lv_bipush (v := 99) hx hb dX12_readGuide_44 (by decide) ?_
        have z9_0 : (0 : Int32).toInt = 0 := by decide
        have z9_99 : (99 : Int32).toInt = 99 := by decide
        refine tk_i hH hS hA (tr_V (n := 2) (As := [.int 0, .int 99]) hx hb hml hown hts hkb hH (ox_map hOX rfl) hks hE hS hA (s_M_takes l D cs kf T (y4 :: O) ((y4, .inl (cs.2.1, 1302, .inl f4)) :: X) a0 hg mq (0) (99) o0 o1 o2 y3 y4 o5 n26_0_6 n26_0_7 y8 n26_0_9 n26_0_10 n39_0_11 n39_0_12 tl f3 t tn t_a0 b_hg (by decide) (by decide) t_y3 t_y4 (by omega) (by omega) (by omega) (by omega) (by omega) (by omega) (by omega) (by omega) (by omega) htm (by omega) (by omega) x_v313 (fun q9 => absurd q9 x_v390) (hO.sub (by decide))) kw_1382 kw_1384 ks_50 kw_13 kw_1385 (by decide +kernel) ⟨Nat.le_of_ble_eq_true rfl, Nat.le_of_ble_eq_true rfl⟩ (x_recv (ci := 12) hkb hH 0 rfl rfl) rfl rfl hl.1 (Nat.le_of_ble_eq_true rfl) dX12_readGuide_46 ⟨Nat.le_of_ble_eq_true rfl, Nat.le_of_ble_eq_true rfl⟩) (fun v46 u H locs hz9 hH hS => ?_)
        obtain ⟨n46_0_6, n46_0_7, n46_0_9, n46_0_10, n46_0_11, n46_0_12, rfl, l_v46, u_v46, x_v460, x_v461, x_v462, x_v463, x_v464, x_v465, x_v466, x_v467⟩ := hz9
        have hH : HT D cs A T (a0 :: y3 :: y4 :: O) ((a0, .inr (12, o0 :: o1 :: o2 :: (.ref y3) :: (.ref y4) :: o5 :: (.int n46_0_6) :: (.int n46_0_7) :: (.int y8) :: (.int n46_0_9) :: (.int n46_0_10) :: (.int n46_0_11) :: (.int n46_0_12) :: tl)) :: (y3, .inl (cs.2.1, 900, .inl f3)) :: (y4, .inl (cs.2.1, 1302, .inl f4)) :: X) H := hH
        refine W.widen (k := 0) (n := 0) (Nat.le_of_ble_eq_true rfl) (Nat.le_of_ble_eq_true rfl) ?_
        refine lv_istore_n (lv' := [(2, .int v46), (1, .int v5), (0, .ref a0)]) hx hb dX12_readGuide_49 rfl hl (by decide) rfl (fun ls hl => ?_)
        have g50 : RGR t tn [(31, 0)] [(34, 0)] (FR5 f4) (FR5 f4) y11 y12 y6 n46_0_11 n46_0_12 n46_0_6 n46_0_7 n46_0_9 n46_0_10 := g42.seq (RGR.cons (RG.r (TNK.rg x_v467 (by decide))))
        refine lv_aload_n hx hb dX12_readGuide_50 rfl (lv_at hl 2 rfl) ?_
        refine lv_iconst (v := 3) hx hb dX12_readGuide_51 (by decide) ?_
        have z9_3 : (3 : Int32).toInt = 3 := by decide
        refine tk_i hH hS hA (tr_V (n := 1) (As := [.int 3]) hx hb hml hown hts hkb hH (ox_map hOX rfl) hks hE hS hA (s_M_eats l D cs kf T (y4 :: O) ((y4, .inl (cs.2.1, 1302, .inl f4)) :: X) a0 hg mq (3) o0 o1 o2 y3 y4 o5 n46_0_6 n46_0_7 y8 n46_0_9 n46_0_10 n46_0_11 n46_0_12 tl f3 t tn t_a0 b_hg t_y3 t_y4 (by omega) (by omega) (by omega) (by omega) (by omega) (by omega) (by omega) (by omega) (by omega) htm (by omega) (by omega) x_v463 (by omega) (TNK.msw x_v467) (hO.sub (by decide))) kw_1390 kw_1392 ks_52 kw_13 kw_1393 (by decide +kernel) ⟨Nat.le_of_ble_eq_true rfl, Nat.le_of_ble_eq_true rfl⟩ (x_recv (ci := 12) hkb hH 0 rfl rfl) rfl rfl hl.1 (Nat.le_of_ble_eq_true rfl) dX12_readGuide_52 ⟨Nat.le_of_ble_eq_true rfl, Nat.le_of_ble_eq_true rfl⟩) (fun v52 u H locs hz9 hH hS => ?_)
        obtain ⟨n52_0_6, n52_0_7, n52_0_9, n52_0_10, rfl, l_v52, u_v52, x_v520, x_v521, x_v522, x_v523, x_v524, x_v525, x_v526, x_v527, x_v528⟩ := hz9
        have hH : HT D cs A T (a0 :: y3 :: y4 :: O) ((a0, .inr (12, o0 :: o1 :: o2 :: (.ref y3) :: (.ref y4) :: o5 :: (.int n52_0_6) :: (.int n52_0_7) :: (.int y8) :: (.int n52_0_9) :: (.int n52_0_10) :: (.int n46_0_11) :: (.int n46_0_12) :: tl)) :: (y3, .inl (cs.2.1, 900, .inl f3)) :: (y4, .inl (cs.2.1, 1302, .inl f4)) :: X) H := hH
        refine W.widen (k := 0) (n := 0) (Nat.le_of_ble_eq_true rfl) (Nat.le_of_ble_eq_true rfl) ?_
        refine lv_if_eq (tgt := 68) hx hb dX12_readGuide_55 (by decide) (fun c55 => ?_) (fun c55 => ?_)
        · skip
          have tc55 := f_eq (k := 0) (by decide) c55
          clear x_v526
          clear x_v527
          replace x_v528 := x_v528.resolve_left (fun q9 => q9 tc55)
          obtain ⟨e6, e7, e9, e10, x_v528⟩ := x_v528
          subst e6 e7 e9 e10
          refine lv_iconst (v := 0) hx hb dX12_readGuide_68 (by decide) ?_
          refine lv_istore_n (lv' := [(3, .int 0), (2, .int v46), (1, .int v5), (0, .ref a0)]) hx hb dX12_readGuide_69 rfl hl (by decide) rfl (fun ls hl => ?_)
          have g70 : RGR t tn [(31, 0)] [(38, 0)] (FR5 f4) (FR5 f4) y11 y12 y6 n46_0_11 n46_0_12 n46_0_6 n46_0_7 n46_0_9 n46_0_10 := (by first | (exact g58.seq (RGR.cons (RG.r (TNK.rg x_v627 (by decide))))) | (exact g50.seq (RGR_id (fun q9 => ⟨TNK.msw x_v467 q9, (show GR t tn [(34, 0)] [(38, 0)] (FR5 f4) (FR5 f4) _ _ from fun _ => st_gN (by have q8 := (TNK.msw x_v467 q9).2.2.2.1; omega))⟩))))
          refine lv_aload_n hx hb dX12_readGuide_70 rfl (lv_at hl 3 rfl) ?_
          refine x_getk (ci := 12) (C := RX12) (F := TX12) (N := 36) (v := .int n46_0_11) hx hb hts uX12 hown hkb hH 0 rfl rfl 11 (by decide) rfl kw_1234 (fun _ h9 => h9) dX12_readGuide_71 ?_
          refine lv_if_eq (tgt := 78) hx hb dX12_readGuide_74 (by decide) (fun c74 => ?_) (fun c74 => ?_)
          · skip
            have tc74 := f_eq (k := 0) (by decide) c74
            refine lv_aload_n hx hb dX12_readGuide_78 rfl (lv_at hl 3 rfl) ?_
            refine x_getk (ci := 12) (C := RX12) (F := TX12) (N := 36) (v := .ref y4) hx hb hts uX12 hown hkb hH 0 rfl rfl 4 (by decide) rfl kw_1227 (fun _ h9 => h9) dX12_readGuide_79 ?_
            refine lv_bipush (v := 49) hx hb dX12_readGuide_82 (by decide) ?_
            refine lv_iload_n hx hb dX12_readGuide_84 rfl (lv_at hl 2 rfl) ?_
            refine lv_iadd hx hb dX12_readGuide_85 ?_
            refine lv_topi (fun v85 ev85 => ?_)
            have tv85 : v85.toInt = (49) + v5.toInt := by rw [ev85]; exact add_i (by decide : (49 : Int32).toInt = 49) rfl (by omega) (by omega)
            refine lv_iload_n hx hb dX12_readGuide_86 rfl (lv_at hl 1 rfl) ?_
            refine xa_ist hx hb hkb hH hS 2 rfl (by omega) (by omega) dX12_readGuide_87 (fun H locs hH hS => ?_)
            have hH : HT D cs A T (a0 :: y3 :: y4 :: O) ((a0, .inr (12, o0 :: o1 :: o2 :: (.ref y3) :: (.ref y4) :: o5 :: (.int n46_0_6) :: (.int n46_0_7) :: (.int y8) :: (.int n46_0_9) :: (.int n46_0_10) :: (.int n46_0_11) :: (.int n46_0_12) :: tl)) :: (y3, .inl (cs.2.1, 900, .inl f3)) :: (y4, .inl (cs.2.1, 1302, .inl (upd f4 (v85.toInt.toNat) v46))) :: X) H := hH
            obtain ⟨F87, eF87⟩ : ∃ f9, f9 = upd f4 (v85.toInt.toNat) v46 := ⟨_, rfl⟩
            have hH : HT D cs A T (a0 :: y3 :: y4 :: O) ((a0, .inr (12, o0 :: o1 :: o2 :: (.ref y3) :: (.ref y4) :: o5 :: (.int n46_0_6) :: (.int n46_0_7) :: (.int y8) :: (.int n46_0_9) :: (.int n46_0_10) :: (.int n46_0_11) :: (.int n46_0_12) :: tl)) :: (y3, .inl (cs.2.1, 900, .inl f3)) :: (y4, .inl (cs.2.1, 1302, .inl F87)) :: X) H := eF87 ▸ hH
            have s_F87 : S8 F87 := eF87 ▸ S8_put (i := v85) (x := v46) s_f4 (by omega) (by omega) (p8_far (by omega) (⟨by omega, by omega⟩))
            refine lv_aload_n hx hb dX12_readGuide_88 rfl (lv_at hl 3 rfl) ?_
            refine x_getk (ci := 12) (C := RX12) (F := TX12) (N := 36) (v := .ref y4) hx hb hts uX12 hown hkb hH 0 rfl rfl 4 (by decide) rfl kw_1227 (fun _ h9 => h9) dX12_readGuide_89 ?_
            refine lv_bipush (v := 54) hx hb dX12_readGuide_92 (by decide) ?_
            refine lv_iload_n hx hb dX12_readGuide_94 rfl (lv_at hl 2 rfl) ?_
            refine lv_iadd hx hb dX12_readGuide_95 ?_
            refine lv_topi (fun v95 ev95 => ?_)
            have tv95 : v95.toInt = (54) + v5.toInt := by rw [ev95]; exact add_i (by decide : (54 : Int32).toInt = 54) rfl (by omega) (by omega)
            refine lv_iload_n hx hb dX12_readGuide_96 rfl (lv_at hl 0 rfl) ?_
            refine xa_ist hx hb hkb hH hS 2 rfl (by omega) (by omega) dX12_readGuide_97 (fun H locs hH hS => ?_)
            have hH : HT D cs A T (a0 :: y3 :: y4 :: O) ((a0, .inr (12, o0 :: o1 :: o2 :: (.ref y3) :: (.ref y4) :: o5 :: (.int n46_0_6) :: (.int n46_0_7) :: (.int y8) :: (.int n46_0_9) :: (.int n46_0_10) :: (.int n46_0_11) :: (.int n46_0_12) :: tl)) :: (y3, .inl (cs.2.1, 900, .inl f3)) :: (y4, .inl (cs.2.1, 1302, .inl (upd F87 (v95.toInt.toNat) (0 : Int32)))) :: X) H := hH
            obtain ⟨F97, eF97⟩ : ∃ f9, f9 = upd F87 (v95.toInt.toNat) (0 : Int32) := ⟨_, rfl⟩
            have hH : HT D cs A T (a0 :: y3 :: y4 :: O) ((a0, .inr (12, o0 :: o1 :: o2 :: (.ref y3) :: (.ref y4) :: o5 :: (.int n46_0_6) :: (.int n46_0_7) :: (.int y8) :: (.int n46_0_9) :: (.int n46_0_10) :: (.int n46_0_11) :: (.int n46_0_12) :: tl)) :: (y3, .inl (cs.2.1, 900, .inl f3)) :: (y4, .inl (cs.2.1, 1302, .inl F97)) :: X) H := eF97 ▸ hH
            have s_F97 : S8 F97 := eF97 ▸ S8_put (i := v95) (x := (0 : Int32)) s_F87 (by omega) (by omega) (p8_far (by omega) (⟨by omega, by omega⟩))
            refine lv_aload_n hx hb dX12_readGuide_98 rfl (lv_at hl 3 rfl) ?_
            refine x_getk (ci := 12) (C := RX12) (F := TX12) (N := 36) (v := .ref y4) hx hb hts uX12 hown hkb hH 0 rfl rfl 4 (by decide) rfl kw_1227 (fun _ h9 => h9) dX12_readGuide_99 ?_
            refine lv_iconst (v := 2) hx hb dX12_readGuide_102 (by decide) ?_
            refine lv_dup2_11 hx hb dX12_readGuide_103 rfl rfl ?_
            refine xa_ild hx hb hkb hH 2 rfl (by decide) (by decide) dX12_readGuide_104 ?_
            refine lv_topi (fun v104 ev104 => ?_)
            have tv104 : v104 = F97 2 := by rw [ev104]; rfl
            have bv104 : 0 ≤ v104.toInt ∧ v104.toInt ≤ 5 := by rw [tv104]; exact s_F97.2.1
            have hh9 : v104 = v5 := by rw [tv104, eF97, upd_ne (by omega), eF87, upd_ne (by omega), tv5]
            have hh8 : v104.toInt = v5.toInt := by rw [hh9]
            refine lv_iconst (v := 1) hx hb dX12_readGuide_105 (by decide) ?_
            refine lv_iadd hx hb dX12_readGuide_106 ?_
            refine lv_topi (fun v106 ev106 => ?_)
            have tv106 : v106.toInt = v104.toInt + (1) := by rw [ev106]; exact add_i rfl (by decide : (1 : Int32).toInt = 1) (by omega) (by omega)
            refine xa_ist hx hb hkb hH hS 2 rfl (by decide) (by decide) dX12_readGuide_107 (fun H locs hH hS => ?_)
            have hH : HT D cs A T (a0 :: y3 :: y4 :: O) ((a0, .inr (12, o0 :: o1 :: o2 :: (.ref y3) :: (.ref y4) :: o5 :: (.int n46_0_6) :: (.int n46_0_7) :: (.int y8) :: (.int n46_0_9) :: (.int n46_0_10) :: (.int n46_0_11) :: (.int n46_0_12) :: tl)) :: (y3, .inl (cs.2.1, 900, .inl f3)) :: (y4, .inl (cs.2.1, 1302, .inl (upd F97 (2) v106))) :: X) H := hH
            obtain ⟨F107, eF107⟩ : ∃ f9, f9 = upd F97 (2) v106 := ⟨_, rfl⟩
            have hH : HT D cs A T (a0 :: y3 :: y4 :: O) ((a0, .inr (12, o0 :: o1 :: o2 :: (.ref y3) :: (.ref y4) :: o5 :: (.int n46_0_6) :: (.int n46_0_7) :: (.int y8) :: (.int n46_0_9) :: (.int n46_0_10) :: (.int n46_0_11) :: (.int n46_0_12) :: tl)) :: (y3, .inl (cs.2.1, 900, .inl f3)) :: (y4, .inl (cs.2.1, 1302, .inl F107)) :: X) H := eF107 ▸ hH
            have s_F107 : S8 F107 := eF107 ▸ S8_put (i := 2) (x := v106) s_F97 (by decide) (by decide) (⟨fun q9 => absurd q9 (by decide), fun _ => ⟨by omega, by omega⟩, fun q9 => absurd q9 (by decide), fun q9 => absurd q9 (by decide), fun q9 => absurd q9 (by decide), fun q9 => absurd q9 (by decide), fun q9 => absurd q9 (by decide)⟩)
            exact te_v hx hb hr hlocks hH hS (⟨n46_0_6, n46_0_7, n46_0_9, n46_0_10, n46_0_11, n46_0_12, F107, rfl, s_F107, by omega, by omega, by omega, x_v523, by omega, by omega, (by first | (exact absurd k5 tc21) | (exact RGR_f (R := FR5 f4) (m := 4) (G := []) x_v141 hms (by decide) (by decide) (fun q9 _ => st_iGM (R := FR5 f4) (by omega) (by show 5 ≤ (f4 2).toInt.toNat; rw [← tv5]; omega))) | (exact RGR.any g70 tc74) | (refine RGR.seq (RGR.to g70 ((FR5_o eF97 (Or.inr ?_)).trans (FR5_o eF87 (Or.inr ?_)))) (RGR_id (fun q9 => ⟨(TNK.msw x_v467) q9, RF_C eF107 tv104 tv106 ?_⟩)) <;> omega)), (by first | rfl | (rw [eF107, upd_ne (by decide), eF97, upd_ne (by omega), eF87]; exact upd_ne (by omega)))⟩) dX12_readGuide_108
          · skip
            have tc74 := f_ne (k := 0) (by decide) c74
            exact te_v hx hb hr hlocks hH hS (⟨n46_0_6, n46_0_7, n46_0_9, n46_0_10, n46_0_11, n46_0_12, f4, rfl, s_f4, by omega, by omega, by omega, x_v523, by omega, by omega, (by first | (exact absurd k5 tc21) | (exact RGR_f (R := FR5 f4) (m := 4) (G := []) x_v141 hms (by decide) (by decide) (fun q9 _ => st_iGM (R := FR5 f4) (by omega) (by show 5 ≤ (f4 2).toInt.toNat; rw [← tv5]; omega))) | (exact RGR.any g70 tc74) | (refine RGR.seq (RGR.to g70 ((FR5_o eF97 (Or.inr ?_)).trans (FR5_o eF87 (Or.inr ?_)))) (RGR_id (fun q9 => ⟨(TNK.msw x_v467) q9, RF_C eF107 tv104 tv106 ?_⟩)) <;> omega)), (by first | rfl | (rw [eF107, upd_ne (by decide), eF97, upd_ne (by omega), eF87]; exact upd_ne (by omega)))⟩) dX12_readGuide_77
        · skip
          have tc55 := f_ne (k := 0) (by decide) c55
          replace x_v526 := x_v526.resolve_left tc55
          replace x_v527 := x_v527.resolve_left tc55
          clear x_v528
          have g58 : RGR t tn [(31, 0)] [(22, 99), (38, 0)] (FR5 f4) (FR5 f4) y11 y12 y6 n46_0_11 n46_0_12 n52_0_6 n52_0_7 n52_0_9 n52_0_10 := (by refine RGR.seq g50 (RGR_g ?_ x_v527.1 (GR_nx (fun _ => st_gW ?_) x_v527.2.1)) <;> omega)
          refine lv_aload_n hx hb dX12_readGuide_58 rfl (lv_at hl 2 rfl) ?_
          refine lv_iconst (v := 0) hx hb dX12_readGuide_59 (by decide) ?_
          refine lv_bipush (v := 99) hx hb dX12_readGuide_60 (by decide) ?_
          have z9_0 : (0 : Int32).toInt = 0 := by decide
          have z9_99 : (99 : Int32).toInt = 99 := by decide
          refine tk_i hH hS hA (tr_V (n := 2) (As := [.int 0, .int 99]) hx hb hml hown hts hkb hH (ox_map hOX rfl) hks hE hS hA (s_M_takes l D cs kf T (y4 :: O) ((y4, .inl (cs.2.1, 1302, .inl f4)) :: X) a0 hg mq (0) (99) o0 o1 o2 y3 y4 o5 n52_0_6 n52_0_7 y8 n52_0_9 n52_0_10 n46_0_11 n46_0_12 tl f3 t tn t_a0 b_hg (by decide) (by decide) t_y3 t_y4 (by omega) (by omega) (by omega) (by omega) (by omega) (by omega) (by omega) (by omega) (by omega) htm (by omega) (by omega) x_v523 (fun _ => x_v527.1) (hO.sub (by decide))) kw_1382 kw_1384 ks_50 kw_13 kw_1385 (by decide +kernel) ⟨Nat.le_of_ble_eq_true rfl, Nat.le_of_ble_eq_true rfl⟩ (x_recv (ci := 12) hkb hH 0 rfl rfl) rfl rfl hl.1 (Nat.le_of_ble_eq_true rfl) dX12_readGuide_62 ⟨Nat.le_of_ble_eq_true rfl, Nat.le_of_ble_eq_true rfl⟩) (fun v62 u H locs hz9 hH hS => ?_)
          obtain ⟨n62_0_6, n62_0_7, n62_0_9, n62_0_10, n62_0_11, n62_0_12, rfl, l_v62, u_v62, x_v620, x_v621, x_v622, x_v623, x_v624, x_v625, x_v626, x_v627⟩ := hz9
          have hH : HT D cs A T (a0 :: y3 :: y4 :: O) ((a0, .inr (12, o0 :: o1 :: o2 :: (.ref y3) :: (.ref y4) :: o5 :: (.int n62_0_6) :: (.int n62_0_7) :: (.int y8) :: (.int n62_0_9) :: (.int n62_0_10) :: (.int n62_0_11) :: (.int n62_0_12) :: tl)) :: (y3, .inl (cs.2.1, 900, .inl f3)) :: (y4, .inl (cs.2.1, 1302, .inl f4)) :: X) H := hH
          refine W.widen (k := 0) (n := 0) (Nat.le_of_ble_eq_true rfl) (Nat.le_of_ble_eq_true rfl) ?_
          refine lv_goto (tgt := 69) hx hb dX12_readGuide_65 (by decide) ?_
          refine lv_istore_n (lv' := [(3, .int v62), (2, .int v46), (1, .int v5), (0, .ref a0)]) hx hb dX12_readGuide_69 rfl hl (by decide) rfl (fun ls hl => ?_)
          have g70 : RGR t tn [(31, 0)] [(38, 0)] (FR5 f4) (FR5 f4) y11 y12 y6 n62_0_11 n62_0_12 n62_0_6 n62_0_7 n62_0_9 n62_0_10 := (by first | (exact g58.seq (RGR.cons (RG.r (TNK.rg x_v627 (by decide))))) | (exact g50.seq (RGR_id (fun q9 => ⟨TNK.msw x_v467 q9, (show GR t tn [(34, 0)] [(38, 0)] (FR5 f4) (FR5 f4) _ _ from fun _ => st_gN (by have q8 := (TNK.msw x_v467 q9).2.2.2.1; omega))⟩))))
          refine lv_aload_n hx hb dX12_readGuide_70 rfl (lv_at hl 3 rfl) ?_
          refine x_getk (ci := 12) (C := RX12) (F := TX12) (N := 36) (v := .int n62_0_11) hx hb hts uX12 hown hkb hH 0 rfl rfl 11 (by decide) rfl kw_1234 (fun _ h9 => h9) dX12_readGuide_71 ?_
          refine lv_if_eq (tgt := 78) hx hb dX12_readGuide_74 (by decide) (fun c74 => ?_) (fun c74 => ?_)
          · skip
            have tc74 := f_eq (k := 0) (by decide) c74
            refine lv_aload_n hx hb dX12_readGuide_78 rfl (lv_at hl 3 rfl) ?_
            refine x_getk (ci := 12) (C := RX12) (F := TX12) (N := 36) (v := .ref y4) hx hb hts uX12 hown hkb hH 0 rfl rfl 4 (by decide) rfl kw_1227 (fun _ h9 => h9) dX12_readGuide_79 ?_
            refine lv_bipush (v := 49) hx hb dX12_readGuide_82 (by decide) ?_
            refine lv_iload_n hx hb dX12_readGuide_84 rfl (lv_at hl 2 rfl) ?_
            refine lv_iadd hx hb dX12_readGuide_85 ?_
            refine lv_topi (fun v85 ev85 => ?_)
            have tv85 : v85.toInt = (49) + v5.toInt := by rw [ev85]; exact add_i (by decide : (49 : Int32).toInt = 49) rfl (by omega) (by omega)
            refine lv_iload_n hx hb dX12_readGuide_86 rfl (lv_at hl 1 rfl) ?_
            refine xa_ist hx hb hkb hH hS 2 rfl (by omega) (by omega) dX12_readGuide_87 (fun H locs hH hS => ?_)
            have hH : HT D cs A T (a0 :: y3 :: y4 :: O) ((a0, .inr (12, o0 :: o1 :: o2 :: (.ref y3) :: (.ref y4) :: o5 :: (.int n62_0_6) :: (.int n62_0_7) :: (.int y8) :: (.int n62_0_9) :: (.int n62_0_10) :: (.int n62_0_11) :: (.int n62_0_12) :: tl)) :: (y3, .inl (cs.2.1, 900, .inl f3)) :: (y4, .inl (cs.2.1, 1302, .inl (upd f4 (v85.toInt.toNat) v46))) :: X) H := hH
            obtain ⟨F87, eF87⟩ : ∃ f9, f9 = upd f4 (v85.toInt.toNat) v46 := ⟨_, rfl⟩
            have hH : HT D cs A T (a0 :: y3 :: y4 :: O) ((a0, .inr (12, o0 :: o1 :: o2 :: (.ref y3) :: (.ref y4) :: o5 :: (.int n62_0_6) :: (.int n62_0_7) :: (.int y8) :: (.int n62_0_9) :: (.int n62_0_10) :: (.int n62_0_11) :: (.int n62_0_12) :: tl)) :: (y3, .inl (cs.2.1, 900, .inl f3)) :: (y4, .inl (cs.2.1, 1302, .inl F87)) :: X) H := eF87 ▸ hH
            have s_F87 : S8 F87 := eF87 ▸ S8_put (i := v85) (x := v46) s_f4 (by omega) (by omega) (p8_far (by omega) (⟨by omega, by omega⟩))
            refine lv_aload_n hx hb dX12_readGuide_88 rfl (lv_at hl 3 rfl) ?_
            refine x_getk (ci := 12) (C := RX12) (F := TX12) (N := 36) (v := .ref y4) hx hb hts uX12 hown hkb hH 0 rfl rfl 4 (by decide) rfl kw_1227 (fun _ h9 => h9) dX12_readGuide_89 ?_
            refine lv_bipush (v := 54) hx hb dX12_readGuide_92 (by decide) ?_
            refine lv_iload_n hx hb dX12_readGuide_94 rfl (lv_at hl 2 rfl) ?_
            refine lv_iadd hx hb dX12_readGuide_95 ?_
            refine lv_topi (fun v95 ev95 => ?_)
            have tv95 : v95.toInt = (54) + v5.toInt := by rw [ev95]; exact add_i (by decide : (54 : Int32).toInt = 54) rfl (by omega) (by omega)
            refine lv_iload_n hx hb dX12_readGuide_96 rfl (lv_at hl 0 rfl) ?_
            refine xa_ist hx hb hkb hH hS 2 rfl (by omega) (by omega) dX12_readGuide_97 (fun H locs hH hS => ?_)
            have hH : HT D cs A T (a0 :: y3 :: y4 :: O) ((a0, .inr (12, o0 :: o1 :: o2 :: (.ref y3) :: (.ref y4) :: o5 :: (.int n62_0_6) :: (.int n62_0_7) :: (.int y8) :: (.int n62_0_9) :: (.int n62_0_10) :: (.int n62_0_11) :: (.int n62_0_12) :: tl)) :: (y3, .inl (cs.2.1, 900, .inl f3)) :: (y4, .inl (cs.2.1, 1302, .inl (upd F87 (v95.toInt.toNat) v62))) :: X) H := hH
            obtain ⟨F97, eF97⟩ : ∃ f9, f9 = upd F87 (v95.toInt.toNat) v62 := ⟨_, rfl⟩
            have hH : HT D cs A T (a0 :: y3 :: y4 :: O) ((a0, .inr (12, o0 :: o1 :: o2 :: (.ref y3) :: (.ref y4) :: o5 :: (.int n62_0_6) :: (.int n62_0_7) :: (.int y8) :: (.int n62_0_9) :: (.int n62_0_10) :: (.int n62_0_11) :: (.int n62_0_12) :: tl)) :: (y3, .inl (cs.2.1, 900, .inl f3)) :: (y4, .inl (cs.2.1, 1302, .inl F97)) :: X) H := eF97 ▸ hH
            have s_F97 : S8 F97 := eF97 ▸ S8_put (i := v95) (x := v62) s_F87 (by omega) (by omega) (p8_far (by omega) (⟨by omega, by omega⟩))
            refine lv_aload_n hx hb dX12_readGuide_98 rfl (lv_at hl 3 rfl) ?_
            refine x_getk (ci := 12) (C := RX12) (F := TX12) (N := 36) (v := .ref y4) hx hb hts uX12 hown hkb hH 0 rfl rfl 4 (by decide) rfl kw_1227 (fun _ h9 => h9) dX12_readGuide_99 ?_
            refine lv_iconst (v := 2) hx hb dX12_readGuide_102 (by decide) ?_
            refine lv_dup2_11 hx hb dX12_readGuide_103 rfl rfl ?_
            refine xa_ild hx hb hkb hH 2 rfl (by decide) (by decide) dX12_readGuide_104 ?_
            refine lv_topi (fun v104 ev104 => ?_)
            have tv104 : v104 = F97 2 := by rw [ev104]; rfl
            have bv104 : 0 ≤ v104.toInt ∧ v104.toInt ≤ 5 := by rw [tv104]; exact s_F97.2.1
            have hh9 : v104 = v5 := by rw [tv104, eF97, upd_ne (by omega), eF87, upd_ne (by omega), tv5]
            have hh8 : v104.toInt = v5.toInt := by rw [hh9]
            refine lv_iconst (v := 1) hx hb dX12_readGuide_105 (by decide) ?_
            refine lv_iadd hx hb dX12_readGuide_106 ?_
            refine lv_topi (fun v106 ev106 => ?_)
            have tv106 : v106.toInt = v104.toInt + (1) := by rw [ev106]; exact add_i rfl (by decide : (1 : Int32).toInt = 1) (by omega) (by omega)
            refine xa_ist hx hb hkb hH hS 2 rfl (by decide) (by decide) dX12_readGuide_107 (fun H locs hH hS => ?_)
            have hH : HT D cs A T (a0 :: y3 :: y4 :: O) ((a0, .inr (12, o0 :: o1 :: o2 :: (.ref y3) :: (.ref y4) :: o5 :: (.int n62_0_6) :: (.int n62_0_7) :: (.int y8) :: (.int n62_0_9) :: (.int n62_0_10) :: (.int n62_0_11) :: (.int n62_0_12) :: tl)) :: (y3, .inl (cs.2.1, 900, .inl f3)) :: (y4, .inl (cs.2.1, 1302, .inl (upd F97 (2) v106))) :: X) H := hH
            obtain ⟨F107, eF107⟩ : ∃ f9, f9 = upd F97 (2) v106 := ⟨_, rfl⟩
            have hH : HT D cs A T (a0 :: y3 :: y4 :: O) ((a0, .inr (12, o0 :: o1 :: o2 :: (.ref y3) :: (.ref y4) :: o5 :: (.int n62_0_6) :: (.int n62_0_7) :: (.int y8) :: (.int n62_0_9) :: (.int n62_0_10) :: (.int n62_0_11) :: (.int n62_0_12) :: tl)) :: (y3, .inl (cs.2.1, 900, .inl f3)) :: (y4, .inl (cs.2.1, 1302, .inl F107)) :: X) H := eF107 ▸ hH
            have s_F107 : S8 F107 := eF107 ▸ S8_put (i := 2) (x := v106) s_F97 (by decide) (by decide) (⟨fun q9 => absurd q9 (by decide), fun _ => ⟨by omega, by omega⟩, fun q9 => absurd q9 (by decide), fun q9 => absurd q9 (by decide), fun q9 => absurd q9 (by decide), fun q9 => absurd q9 (by decide), fun q9 => absurd q9 (by decide)⟩)
            exact te_v hx hb hr hlocks hH hS (⟨n62_0_6, n62_0_7, n62_0_9, n62_0_10, n62_0_11, n62_0_12, F107, rfl, s_F107, by omega, by omega, by omega, x_v623, by omega, by omega, (by first | (exact absurd k5 tc21) | (exact RGR_f (R := FR5 f4) (m := 4) (G := []) x_v141 hms (by decide) (by decide) (fun q9 _ => st_iGM (R := FR5 f4) (by omega) (by show 5 ≤ (f4 2).toInt.toNat; rw [← tv5]; omega))) | (exact RGR.any g70 tc74) | (refine RGR.seq (RGR.to g70 ((FR5_o eF97 (Or.inr ?_)).trans (FR5_o eF87 (Or.inr ?_)))) (RGR_id (fun q9 => ⟨(TNK.msw x_v627) q9, RF_C eF107 tv104 tv106 ?_⟩)) <;> omega)), (by first | rfl | (rw [eF107, upd_ne (by decide), eF97, upd_ne (by omega), eF87]; exact upd_ne (by omega)))⟩) dX12_readGuide_108
          · skip
            have tc74 := f_ne (k := 0) (by decide) c74
            exact te_v hx hb hr hlocks hH hS (⟨n62_0_6, n62_0_7, n62_0_9, n62_0_10, n62_0_11, n62_0_12, f4, rfl, s_f4, by omega, by omega, by omega, x_v623, by omega, by omega, (by first | (exact absurd k5 tc21) | (exact RGR_f (R := FR5 f4) (m := 4) (G := []) x_v141 hms (by decide) (by decide) (fun q9 _ => st_iGM (R := FR5 f4) (by omega) (by show 5 ≤ (f4 2).toInt.toNat; rw [← tv5]; omega))) | (exact RGR.any g70 tc74) | (refine RGR.seq (RGR.to g70 ((FR5_o eF97 (Or.inr ?_)).trans (FR5_o eF87 (Or.inr ?_)))) (RGR_id (fun q9 => ⟨(TNK.msw x_v627) q9, RF_C eF107 tv104 tv106 ?_⟩)) <;> omega)), (by first | rfl | (rw [eF107, upd_ne (by decide), eF97, upd_ne (by omega), eF87]; exact upd_ne (by omega)))⟩) dX12_readGuide_77
    · skip
      have tc21 := f_ne (k := 0) (by decide) c21
      exact te_v hx hb hr hlocks hH hS (⟨y6, y7, y9, y10, y11, y12, f4, rfl, s_f4, by omega, by omega, by omega, k3, by omega, by omega, (by first | (exact absurd k5 tc21) | (exact RGR_f (R := FR5 f4) (m := 4) (G := []) x_v141 hms (by decide) (by decide) (fun q9 _ => st_iGM (R := FR5 f4) (by omega) (by show 5 ≤ (f4 2).toInt.toNat; rw [← tv5]; omega))) | (exact RGR.any g70 tc74) | (refine RGR.seq (RGR.to g70 ((FR5_o eF97 (Or.inr ?_)).trans (FR5_o eF87 (Or.inr ?_)))) (RGR_id (fun q9 => ⟨hms q9, RF_C eF107 tv104 tv106 ?_⟩)) <;> omega)), (by first | rfl | (rw [eF107, upd_ne (by decide), eF97, upd_ne (by omega), eF87]; exact upd_ne (by omega)))⟩) dX12_readGuide_24
  · skip
    have tc9 := f_eq (k := 5) (by decide) c9
    refine lv_aload_n hx hb dX12_readGuide_12 rfl (lv_at hl 1 rfl) ?_
    refine lv_iconst (v := 4) hx hb dX12_readGuide_13 (by decide) ?_
    have z9_4 : (4 : Int32).toInt = 4 := by decide
    refine tk_v hH hS hA (tr_V (n := 1) (As := [.int 4]) hx hb hml hown hts hkb hH (ox_map hOX rfl) hks hE hS hA (s_M_fails l D cs kf T (y4 :: O) ((y4, .inl (cs.2.1, 1302, .inl f4)) :: X) a0 hg mq (4) o0 o1 o2 y3 y4 o5 y6 y7 y8 y9 y10 y11 y12 tl f3 t tn t_a0 b_hg (by decide) (by decide) t_y3 t_y4 (by omega) (by omega) (by omega) (by omega) (by omega) (by omega) (by omega) (by omega) (by omega) htm (hO.sub (by decide))) kw_1378 kw_1380 ks_49 kw_13 kw_1381 (by decide +kernel) ⟨Nat.le_of_ble_eq_true rfl, Nat.le_of_ble_eq_true rfl⟩ (x_recv (ci := 12) hkb hH 0 rfl rfl) rfl rfl hl.1 (Nat.le_of_ble_eq_true rfl) dX12_readGuide_14 ⟨Nat.le_of_ble_eq_true rfl, Nat.le_of_ble_eq_true rfl⟩) (fun u H locs hz9 hH hS => ?_)
    obtain ⟨n14_0_11, n14_0_12, rfl, x_v140, x_v141⟩ := hz9
    have hH : HT D cs A T (a0 :: y3 :: y4 :: O) ((a0, .inr (12, o0 :: o1 :: o2 :: (.ref y3) :: (.ref y4) :: o5 :: (.int y6) :: (.int y7) :: (.int y8) :: (.int y9) :: (.int y10) :: (.int n14_0_11) :: (.int n14_0_12) :: tl)) :: (y3, .inl (cs.2.1, 900, .inl f3)) :: (y4, .inl (cs.2.1, 1302, .inl f4)) :: X) H := hH
    refine W.widen (k := 0) (n := 0) (Nat.le_of_ble_eq_true rfl) (Nat.le_of_ble_eq_true rfl) ?_
    refine lv_aload_n hx hb dX12_readGuide_17 rfl (lv_at hl 1 rfl) ?_
    refine x_getk (ci := 12) (C := RX12) (F := TX12) (N := 36) (v := .int n14_0_11) hx hb hts uX12 hown hkb hH 0 rfl rfl 11 (by decide) rfl kw_1234 (fun _ h9 => h9) dX12_readGuide_18 ?_
    refine lv_if_eq (tgt := 25) hx hb dX12_readGuide_21 (by decide) (fun c21 => ?_) (fun c21 => ?_)
    · skip
      have tc21 := f_eq (k := 0) (by decide) c21
      have hv5 : v5.toInt ≤ 4 := by first | omega | exact absurd tc21 x_v140
      refine lv_aload_n hx hb dX12_readGuide_25 rfl (lv_at hl 1 rfl) ?_
      refine tk_v hH hS hA (tr_V (n := 0) (As := []) hx hb hml hown hts hkb hH (ox_map hOX rfl) hks hE hS hA (s_M_next l D cs kf T (y4 :: O) ((y4, .inl (cs.2.1, 1302, .inl f4)) :: X) a0 hg mq o0 o1 o2 y3 y4 o5 y6 y7 y8 y9 y10 n14_0_11 n14_0_12 tl f3 t tn t_a0 b_hg t_y3 t_y4 (by omega) (by omega) (by omega) (by omega) (by omega) (by omega) (by omega) (by omega) (by omega) htm (by omega) (hO.sub (by decide))) kw_1344 kw_1346 ks_43 kw_13 kw_1347 (by decide +kernel) ⟨Nat.le_of_ble_eq_true rfl, Nat.le_of_ble_eq_true rfl⟩ (x_recv (ci := 12) hkb hH 0 rfl rfl) rfl rfl hl.1 (Nat.le_of_ble_eq_true rfl) dX12_readGuide_26 ⟨Nat.le_of_ble_eq_true rfl, Nat.le_of_ble_eq_true rfl⟩) (fun u H locs hz9 hH hS => ?_)
      obtain ⟨n26_0_6, n26_0_7, n26_0_9, n26_0_10, rfl, x_v260, x_v261, x_v262, x_v263, x_v264, x_v265, x_v266, x_v267⟩ := hz9
      have hH : HT D cs A T (a0 :: y3 :: y4 :: O) ((a0, .inr (12, o0 :: o1 :: o2 :: (.ref y3) :: (.ref y4) :: o5 :: (.int n26_0_6) :: (.int n26_0_7) :: (.int y8) :: (.int n26_0_9) :: (.int n26_0_10) :: (.int n14_0_11) :: (.int n14_0_12) :: tl)) :: (y3, .inl (cs.2.1, 900, .inl f3)) :: (y4, .inl (cs.2.1, 1302, .inl f4)) :: X) H := hH
      refine W.widen (k := 0) (n := 0) (Nat.le_of_ble_eq_true rfl) (Nat.le_of_ble_eq_true rfl) ?_
      have g29 : RGR t tn [(31, 0)] [(20, 2), (22, 99), (34, 0)] (FR5 f4) (FR5 f4) y11 y12 y6 n14_0_11 n14_0_12 n26_0_6 n26_0_7 n26_0_9 n26_0_10 := (by first | (exact absurd tc21 x_v140) | (exact RGR_g (by omega) x_v266 (GR_nx (fun _ => st_iG (R := FR5 f4) (by omega) (by show ¬ 5 ≤ (f4 2).toInt.toNat; rw [← tv5]; omega)) ((hms k5).nx x_v267))))
      refine lv_aload_n hx hb dX12_readGuide_29 rfl (lv_at hl 1 rfl) ?_
      refine lv_iconst (v := 2) hx hb dX12_readGuide_30 (by decide) ?_
      have z9_2 : (2 : Int32).toInt = 2 := by decide
      refine tk_i hH hS hA (tr_V (n := 1) (As := [.int 2]) hx hb hml hown hts hkb hH (ox_map hOX rfl) hks hE hS hA (s_M_eats l D cs kf T (y4 :: O) ((y4, .inl (cs.2.1, 1302, .inl f4)) :: X) a0 hg mq (2) o0 o1 o2 y3 y4 o5 n26_0_6 n26_0_7 y8 n26_0_9 n26_0_10 n14_0_11 n14_0_12 tl f3 t tn t_a0 b_hg t_y3 t_y4 (by omega) (by omega) (by omega) (by omega) (by omega) (by omega) (by omega) (by omega) (by omega) htm (by omega) (by omega) x_v263 (by omega) (fun _ => x_v266) (hO.sub (by decide))) kw_1390 kw_1392 ks_52 kw_13 kw_1393 (by decide +kernel) ⟨Nat.le_of_ble_eq_true rfl, Nat.le_of_ble_eq_true rfl⟩ (x_recv (ci := 12) hkb hH 0 rfl rfl) rfl rfl hl.1 (Nat.le_of_ble_eq_true rfl) dX12_readGuide_31 ⟨Nat.le_of_ble_eq_true rfl, Nat.le_of_ble_eq_true rfl⟩) (fun v31 u H locs hz9 hH hS => ?_)
      obtain ⟨n31_0_6, n31_0_7, n31_0_9, n31_0_10, rfl, l_v31, u_v31, x_v310, x_v311, x_v312, x_v313, x_v314, x_v315, x_v316, x_v317, x_v318⟩ := hz9
      have hH : HT D cs A T (a0 :: y3 :: y4 :: O) ((a0, .inr (12, o0 :: o1 :: o2 :: (.ref y3) :: (.ref y4) :: o5 :: (.int n31_0_6) :: (.int n31_0_7) :: (.int y8) :: (.int n31_0_9) :: (.int n31_0_10) :: (.int n14_0_11) :: (.int n14_0_12) :: tl)) :: (y3, .inl (cs.2.1, 900, .inl f3)) :: (y4, .inl (cs.2.1, 1302, .inl f4)) :: X) H := hH
      refine W.widen (k := 0) (n := 0) (Nat.le_of_ble_eq_true rfl) (Nat.le_of_ble_eq_true rfl) ?_
      refine lv_if_ne (tgt := 42) hx hb dX12_readGuide_34 (by decide) (fun c34 => ?_) (fun c34 => ?_)
      · skip
        have tc34 := f_ne (k := 0) (by decide) c34
        replace x_v316 := x_v316.resolve_left tc34
        replace x_v317 := x_v317.resolve_left tc34
        clear x_v318
        have g42 : RGR t tn [(31, 0)] [(22, 99), (34, 0)] (FR5 f4) (FR5 f4) y11 y12 y6 n14_0_11 n14_0_12 n31_0_6 n31_0_7 n31_0_9 n31_0_10 := (by first | (refine RGR.seq g29 (RGR.cons (RGR_g ?_ x_v317.1 (GR_nx (fun _ => st_xY ?_) x_v317.2.1))) <;> omega) | (exact RGR.seq g29 (RGR.cons (RGR_f (R := FR5 f4) (m := 2) (G := []) x_v391 (fun _ => x_v266) (by decide) (by decide) (fun q9 _ => st_xN (by have q8 := x_v266.2.2.2.1; omega))))))
        refine lv_aload_n hx hb dX12_readGuide_42 rfl (lv_at hl 1 rfl) ?_
        refine lv_iconst (v := 0) hx hb dX12_readGuide_43 (by decide) ?_
        refine lv_bipush (v := 99) hx hb dX12_readGuide_44 (by decide) ?_
        have z9_0 : (0 : Int32).toInt = 0 := by decide
        have z9_99 : (99 : Int32).toInt = 99 := by decide
        refine tk_i hH hS hA (tr_V (n := 2) (As := [.int 0, .int 99]) hx hb hml hown hts hkb hH (ox_map hOX rfl) hks hE hS hA (s_M_takes l D cs kf T (y4 :: O) ((y4, .inl (cs.2.1, 1302, .inl f4)) :: X) a0 hg mq (0) (99) o0 o1 o2 y3 y4 o5 n31_0_6 n31_0_7 y8 n31_0_9 n31_0_10 n14_0_11 n14_0_12 tl f3 t tn t_a0 b_hg (by decide) (by decide) t_y3 t_y4 (by omega) (by omega) (by omega) (by omega) (by omega) (by omega) (by omega) (by omega) (by omega) htm (by omega) (by omega) x_v313 (fun _ => x_v317.1) (hO.sub (by decide))) kw_1382 kw_1384 ks_50 kw_13 kw_1385 (by decide +kernel) ⟨Nat.le_of_ble_eq_true rfl, Nat.le_of_ble_eq_true rfl⟩ (x_recv (ci := 12) hkb hH 0 rfl rfl) rfl rfl hl.1 (Nat.le_of_ble_eq_true rfl) dX12_readGuide_46 ⟨Nat.le_of_ble_eq_true rfl, Nat.le_of_ble_eq_true rfl⟩) (fun v46 u H locs hz9 hH hS => ?_)
        obtain ⟨n46_0_6, n46_0_7, n46_0_9, n46_0_10, n46_0_11, n46_0_12, rfl, l_v46, u_v46, x_v460, x_v461, x_v462, x_v463, x_v464, x_v465, x_v466, x_v467⟩ := hz9
        have hH : HT D cs A T (a0 :: y3 :: y4 :: O) ((a0, .inr (12, o0 :: o1 :: o2 :: (.ref y3) :: (.ref y4) :: o5 :: (.int n46_0_6) :: (.int n46_0_7) :: (.int y8) :: (.int n46_0_9) :: (.int n46_0_10) :: (.int n46_0_11) :: (.int n46_0_12) :: tl)) :: (y3, .inl (cs.2.1, 900, .inl f3)) :: (y4, .inl (cs.2.1, 1302, .inl f4)) :: X) H := hH
        refine W.widen (k := 0) (n := 0) (Nat.le_of_ble_eq_true rfl) (Nat.le_of_ble_eq_true rfl) ?_
        refine lv_istore_n (lv' := [(2, .int v46), (1, .int v5), (0, .ref a0)]) hx hb dX12_readGuide_49 rfl hl (by decide) rfl (fun ls hl => ?_)
        have g50 : RGR t tn [(31, 0)] [(34, 0)] (FR5 f4) (FR5 f4) y11 y12 y6 n46_0_11 n46_0_12 n46_0_6 n46_0_7 n46_0_9 n46_0_10 := g42.seq (RGR.cons (RG.r (TNK.rg x_v467 (by decide))))
        refine lv_aload_n hx hb dX12_readGuide_50 rfl (lv_at hl 2 rfl) ?_
        refine lv_iconst (v := 3) hx hb dX12_readGuide_51 (by decide) ?_
        have z9_3 : (3 : Int32).toInt = 3 := by decide
        refine tk_i hH hS hA (tr_V (n := 1) (As := [.int 3]) hx hb hml hown hts hkb hH (ox_map hOX rfl) hks hE hS hA (s_M_eats l D cs kf T (y4 :: O) ((y4, .inl (cs.2.1, 1302, .inl f4)) :: X) a0 hg mq (3) o0 o1 o2 y3 y4 o5 n46_0_6 n46_0_7 y8 n46_0_9 n46_0_10 n46_0_11 n46_0_12 tl f3 t tn t_a0 b_hg t_y3 t_y4 (by omega) (by omega) (by omega) (by omega) (by omega) (by omega) (by omega) (by omega) (by omega) htm (by omega) (by omega) x_v463 (by omega) (TNK.msw x_v467) (hO.sub (by decide))) kw_1390 kw_1392 ks_52 kw_13 kw_1393 (by decide +kernel) ⟨Nat.le_of_ble_eq_true rfl, Nat.le_of_ble_eq_true rfl⟩ (x_recv (ci := 12) hkb hH 0 rfl rfl) rfl rfl hl.1 (Nat.le_of_ble_eq_true rfl) dX12_readGuide_52 ⟨Nat.le_of_ble_eq_true rfl, Nat.le_of_ble_eq_true rfl⟩) (fun v52 u H locs hz9 hH hS => ?_)
        obtain ⟨n52_0_6, n52_0_7, n52_0_9, n52_0_10, rfl, l_v52, u_v52, x_v520, x_v521, x_v522, x_v523, x_v524, x_v525, x_v526, x_v527, x_v528⟩ := hz9
        have hH : HT D cs A T (a0 :: y3 :: y4 :: O) ((a0, .inr (12, o0 :: o1 :: o2 :: (.ref y3) :: (.ref y4) :: o5 :: (.int n52_0_6) :: (.int n52_0_7) :: (.int y8) :: (.int n52_0_9) :: (.int n52_0_10) :: (.int n46_0_11) :: (.int n46_0_12) :: tl)) :: (y3, .inl (cs.2.1, 900, .inl f3)) :: (y4, .inl (cs.2.1, 1302, .inl f4)) :: X) H := hH
        refine W.widen (k := 0) (n := 0) (Nat.le_of_ble_eq_true rfl) (Nat.le_of_ble_eq_true rfl) ?_
        refine lv_if_eq (tgt := 68) hx hb dX12_readGuide_55 (by decide) (fun c55 => ?_) (fun c55 => ?_)
        · skip
          have tc55 := f_eq (k := 0) (by decide) c55
          clear x_v526
          clear x_v527
          replace x_v528 := x_v528.resolve_left (fun q9 => q9 tc55)
          obtain ⟨e6, e7, e9, e10, x_v528⟩ := x_v528
          subst e6 e7 e9 e10
          refine lv_iconst (v := 0) hx hb dX12_readGuide_68 (by decide) ?_
          refine lv_istore_n (lv' := [(3, .int 0), (2, .int v46), (1, .int v5), (0, .ref a0)]) hx hb dX12_readGuide_69 rfl hl (by decide) rfl (fun ls hl => ?_)
          have g70 : RGR t tn [(31, 0)] [(38, 0)] (FR5 f4) (FR5 f4) y11 y12 y6 n46_0_11 n46_0_12 n46_0_6 n46_0_7 n46_0_9 n46_0_10 := (by first | (exact g58.seq (RGR.cons (RG.r (TNK.rg x_v627 (by decide))))) | (exact g50.seq (RGR_id (fun q9 => ⟨TNK.msw x_v467 q9, (show GR t tn [(34, 0)] [(38, 0)] (FR5 f4) (FR5 f4) _ _ from fun _ => st_gN (by have q8 := (TNK.msw x_v467 q9).2.2.2.1; omega))⟩))))
          refine lv_aload_n hx hb dX12_readGuide_70 rfl (lv_at hl 3 rfl) ?_
          refine x_getk (ci := 12) (C := RX12) (F := TX12) (N := 36) (v := .int n46_0_11) hx hb hts uX12 hown hkb hH 0 rfl rfl 11 (by decide) rfl kw_1234 (fun _ h9 => h9) dX12_readGuide_71 ?_
          refine lv_if_eq (tgt := 78) hx hb dX12_readGuide_74 (by decide) (fun c74 => ?_) (fun c74 => ?_)
          · skip
            have tc74 := f_eq (k := 0) (by decide) c74
            refine lv_aload_n hx hb dX12_readGuide_78 rfl (lv_at hl 3 rfl) ?_
            refine x_getk (ci := 12) (C := RX12) (F := TX12) (N := 36) (v := .ref y4) hx hb hts uX12 hown hkb hH 0 rfl rfl 4 (by decide) rfl kw_1227 (fun _ h9 => h9) dX12_readGuide_79 ?_
            refine lv_bipush (v := 49) hx hb dX12_readGuide_82 (by decide) ?_
            refine lv_iload_n hx hb dX12_readGuide_84 rfl (lv_at hl 2 rfl) ?_
            refine lv_iadd hx hb dX12_readGuide_85 ?_
            refine lv_topi (fun v85 ev85 => ?_)
            have tv85 : v85.toInt = (49) + v5.toInt := by rw [ev85]; exact add_i (by decide : (49 : Int32).toInt = 49) rfl (by omega) (by omega)
            refine lv_iload_n hx hb dX12_readGuide_86 rfl (lv_at hl 1 rfl) ?_
            refine xa_ist hx hb hkb hH hS 2 rfl (by omega) (by omega) dX12_readGuide_87 (fun H locs hH hS => ?_)
            have hH : HT D cs A T (a0 :: y3 :: y4 :: O) ((a0, .inr (12, o0 :: o1 :: o2 :: (.ref y3) :: (.ref y4) :: o5 :: (.int n46_0_6) :: (.int n46_0_7) :: (.int y8) :: (.int n46_0_9) :: (.int n46_0_10) :: (.int n46_0_11) :: (.int n46_0_12) :: tl)) :: (y3, .inl (cs.2.1, 900, .inl f3)) :: (y4, .inl (cs.2.1, 1302, .inl (upd f4 (v85.toInt.toNat) v46))) :: X) H := hH
            obtain ⟨F87, eF87⟩ : ∃ f9, f9 = upd f4 (v85.toInt.toNat) v46 := ⟨_, rfl⟩
            have hH : HT D cs A T (a0 :: y3 :: y4 :: O) ((a0, .inr (12, o0 :: o1 :: o2 :: (.ref y3) :: (.ref y4) :: o5 :: (.int n46_0_6) :: (.int n46_0_7) :: (.int y8) :: (.int n46_0_9) :: (.int n46_0_10) :: (.int n46_0_11) :: (.int n46_0_12) :: tl)) :: (y3, .inl (cs.2.1, 900, .inl f3)) :: (y4, .inl (cs.2.1, 1302, .inl F87)) :: X) H := eF87 ▸ hH
            have s_F87 : S8 F87 := eF87 ▸ S8_put (i := v85) (x := v46) s_f4 (by omega) (by omega) (p8_far (by omega) (⟨by omega, by omega⟩))
            refine lv_aload_n hx hb dX12_readGuide_88 rfl (lv_at hl 3 rfl) ?_
            refine x_getk (ci := 12) (C := RX12) (F := TX12) (N := 36) (v := .ref y4) hx hb hts uX12 hown hkb hH 0 rfl rfl 4 (by decide) rfl kw_1227 (fun _ h9 => h9) dX12_readGuide_89 ?_
            refine lv_bipush (v := 54) hx hb dX12_readGuide_92 (by decide) ?_
            refine lv_iload_n hx hb dX12_readGuide_94 rfl (lv_at hl 2 rfl) ?_
            refine lv_iadd hx hb dX12_readGuide_95 ?_
            refine lv_topi (fun v95 ev95 => ?_)
            have tv95 : v95.toInt = (54) + v5.toInt := by rw [ev95]; exact add_i (by decide : (54 : Int32).toInt = 54) rfl (by omega) (by omega)
            refine lv_iload_n hx hb dX12_readGuide_96 rfl (lv_at hl 0 rfl) ?_
            refine xa_ist hx hb hkb hH hS 2 rfl (by omega) (by omega) dX12_readGuide_97 (fun H locs hH hS => ?_)
            have hH : HT D cs A T (a0 :: y3 :: y4 :: O) ((a0, .inr (12, o0 :: o1 :: o2 :: (.ref y3) :: (.ref y4) :: o5 :: (.int n46_0_6) :: (.int n46_0_7) :: (.int y8) :: (.int n46_0_9) :: (.int n46_0_10) :: (.int n46_0_11) :: (.int n46_0_12) :: tl)) :: (y3, .inl (cs.2.1, 900, .inl f3)) :: (y4, .inl (cs.2.1, 1302, .inl (upd F87 (v95.toInt.toNat) (0 : Int32)))) :: X) H := hH
            obtain ⟨F97, eF97⟩ : ∃ f9, f9 = upd F87 (v95.toInt.toNat) (0 : Int32) := ⟨_, rfl⟩
            have hH : HT D cs A T (a0 :: y3 :: y4 :: O) ((a0, .inr (12, o0 :: o1 :: o2 :: (.ref y3) :: (.ref y4) :: o5 :: (.int n46_0_6) :: (.int n46_0_7) :: (.int y8) :: (.int n46_0_9) :: (.int n46_0_10) :: (.int n46_0_11) :: (.int n46_0_12) :: tl)) :: (y3, .inl (cs.2.1, 900, .inl f3)) :: (y4, .inl (cs.2.1, 1302, .inl F97)) :: X) H := eF97 ▸ hH
            have s_F97 : S8 F97 := eF97 ▸ S8_put (i := v95) (x := (0 : Int32)) s_F87 (by omega) (by omega) (p8_far (by omega) (⟨by omega, by omega⟩))
            refine lv_aload_n hx hb dX12_readGuide_98 rfl (lv_at hl 3 rfl) ?_
            refine x_getk (ci := 12) (C := RX12) (F := TX12) (N := 36) (v := .ref y4) hx hb hts uX12 hown hkb hH 0 rfl rfl 4 (by decide) rfl kw_1227 (fun _ h9 => h9) dX12_readGuide_99 ?_
            refine lv_iconst (v := 2) hx hb dX12_readGuide_102 (by decide) ?_
            refine lv_dup2_11 hx hb dX12_readGuide_103 rfl rfl ?_
            refine xa_ild hx hb hkb hH 2 rfl (by decide) (by decide) dX12_readGuide_104 ?_
            refine lv_topi (fun v104 ev104 => ?_)
            have tv104 : v104 = F97 2 := by rw [ev104]; rfl
            have bv104 : 0 ≤ v104.toInt ∧ v104.toInt ≤ 5 := by rw [tv104]; exact s_F97.2.1
            have hh9 : v104 = v5 := by rw [tv104, eF97, upd_ne (by omega), eF87, upd_ne (by omega), tv5]
            have hh8 : v104.toInt = v5.toInt := by rw [hh9]
            refine lv_iconst (v := 1) hx hb dX12_readGuide_105 (by decide) ?_
            refine lv_iadd hx hb dX12_readGuide_106 ?_
            refine lv_topi (fun v106 ev106 => ?_)
            have tv106 : v106.toInt = v104.toInt + (1) := by rw [ev106]; exact add_i rfl (by decide : (1 : Int32).toInt = 1) (by omega) (by omega)
            refine xa_ist hx hb hkb hH hS 2 rfl (by decide) (by decide) dX12_readGuide_107 (fun H locs hH hS => ?_)
            have hH : HT D cs A T (a0 :: y3 :: y4 :: O) ((a0, .inr (12, o0 :: o1 :: o2 :: (.ref y3) :: (.ref y4) :: o5 :: (.int n46_0_6) :: (.int n46_0_7) :: (.int y8) :: (.int n46_0_9) :: (.int n46_0_10) :: (.int n46_0_11) :: (.int n46_0_12) :: tl)) :: (y3, .inl (cs.2.1, 900, .inl f3)) :: (y4, .inl (cs.2.1, 1302, .inl (upd F97 (2) v106))) :: X) H := hH
            obtain ⟨F107, eF107⟩ : ∃ f9, f9 = upd F97 (2) v106 := ⟨_, rfl⟩
            have hH : HT D cs A T (a0 :: y3 :: y4 :: O) ((a0, .inr (12, o0 :: o1 :: o2 :: (.ref y3) :: (.ref y4) :: o5 :: (.int n46_0_6) :: (.int n46_0_7) :: (.int y8) :: (.int n46_0_9) :: (.int n46_0_10) :: (.int n46_0_11) :: (.int n46_0_12) :: tl)) :: (y3, .inl (cs.2.1, 900, .inl f3)) :: (y4, .inl (cs.2.1, 1302, .inl F107)) :: X) H := eF107 ▸ hH
            have s_F107 : S8 F107 := eF107 ▸ S8_put (i := 2) (x := v106) s_F97 (by decide) (by decide) (⟨fun q9 => absurd q9 (by decide), fun _ => ⟨by omega, by omega⟩, fun q9 => absurd q9 (by decide), fun q9 => absurd q9 (by decide), fun q9 => absurd q9 (by decide), fun q9 => absurd q9 (by decide), fun q9 => absurd q9 (by decide)⟩)
            exact te_v hx hb hr hlocks hH hS (⟨n46_0_6, n46_0_7, n46_0_9, n46_0_10, n46_0_11, n46_0_12, F107, rfl, s_F107, by omega, by omega, by omega, x_v523, by omega, by omega, (by first | (exact absurd k5 tc21) | (exact RGR_f (R := FR5 f4) (m := 4) (G := []) x_v141 hms (by decide) (by decide) (fun q9 _ => st_iGM (R := FR5 f4) (by omega) (by show 5 ≤ (f4 2).toInt.toNat; rw [← tv5]; omega))) | (exact RGR.any g70 tc74) | (refine RGR.seq (RGR.to g70 ((FR5_o eF97 (Or.inr ?_)).trans (FR5_o eF87 (Or.inr ?_)))) (RGR_id (fun q9 => ⟨(TNK.msw x_v467) q9, RF_C eF107 tv104 tv106 ?_⟩)) <;> omega)), (by first | rfl | (rw [eF107, upd_ne (by decide), eF97, upd_ne (by omega), eF87]; exact upd_ne (by omega)))⟩) dX12_readGuide_108
          · skip
            have tc74 := f_ne (k := 0) (by decide) c74
            exact te_v hx hb hr hlocks hH hS (⟨n46_0_6, n46_0_7, n46_0_9, n46_0_10, n46_0_11, n46_0_12, f4, rfl, s_f4, by omega, by omega, by omega, x_v523, by omega, by omega, (by first | (exact absurd k5 tc21) | (exact RGR_f (R := FR5 f4) (m := 4) (G := []) x_v141 hms (by decide) (by decide) (fun q9 _ => st_iGM (R := FR5 f4) (by omega) (by show 5 ≤ (f4 2).toInt.toNat; rw [← tv5]; omega))) | (exact RGR.any g70 tc74) | (refine RGR.seq (RGR.to g70 ((FR5_o eF97 (Or.inr ?_)).trans (FR5_o eF87 (Or.inr ?_)))) (RGR_id (fun q9 => ⟨(TNK.msw x_v467) q9, RF_C eF107 tv104 tv106 ?_⟩)) <;> omega)), (by first | rfl | (rw [eF107, upd_ne (by decide), eF97, upd_ne (by omega), eF87]; exact upd_ne (by omega)))⟩) dX12_readGuide_77
        · skip
          have tc55 := f_ne (k := 0) (by decide) c55
          replace x_v526 := x_v526.resolve_left tc55
          replace x_v527 := x_v527.resolve_left tc55
          clear x_v528
          have g58 : RGR t tn [(31, 0)] [(22, 99), (38, 0)] (FR5 f4) (FR5 f4) y11 y12 y6 n46_0_11 n46_0_12 n52_0_6 n52_0_7 n52_0_9 n52_0_10 := (by refine RGR.seq g50 (RGR_g ?_ x_v527.1 (GR_nx (fun _ => st_gW ?_) x_v527.2.1)) <;> omega)
          refine lv_aload_n hx hb dX12_readGuide_58 rfl (lv_at hl 2 rfl) ?_
          refine lv_iconst (v := 0) hx hb dX12_readGuide_59 (by decide) ?_
          refine lv_bipush (v := 99) hx hb dX12_readGuide_60 (by decide) ?_
          have z9_0 : (0 : Int32).toInt = 0 := by decide
          have z9_99 : (99 : Int32).toInt = 99 := by decide
          refine tk_i hH hS hA (tr_V (n := 2) (As := [.int 0, .int 99]) hx hb hml hown hts hkb hH (ox_map hOX rfl) hks hE hS hA (s_M_takes l D cs kf T (y4 :: O) ((y4, .inl (cs.2.1, 1302, .inl f4)) :: X) a0 hg mq (0) (99) o0 o1 o2 y3 y4 o5 n52_0_6 n52_0_7 y8 n52_0_9 n52_0_10 n46_0_11 n46_0_12 tl f3 t tn t_a0 b_hg (by decide) (by decide) t_y3 t_y4 (by omega) (by omega) (by omega) (by omega) (by omega) (by omega) (by omega) (by omega) (by omega) htm (by omega) (by omega) x_v523 (fun _ => x_v527.1) (hO.sub (by decide))) kw_1382 kw_1384 ks_50 kw_13 kw_1385 (by decide +kernel) ⟨Nat.le_of_ble_eq_true rfl, Nat.le_of_ble_eq_true rfl⟩ (x_recv (ci := 12) hkb hH 0 rfl rfl) rfl rfl hl.1 (Nat.le_of_ble_eq_true rfl) dX12_readGuide_62 ⟨Nat.le_of_ble_eq_true rfl, Nat.le_of_ble_eq_true rfl⟩) (fun v62 u H locs hz9 hH hS => ?_)
          obtain ⟨n62_0_6, n62_0_7, n62_0_9, n62_0_10, n62_0_11, n62_0_12, rfl, l_v62, u_v62, x_v620, x_v621, x_v622, x_v623, x_v624, x_v625, x_v626, x_v627⟩ := hz9
          have hH : HT D cs A T (a0 :: y3 :: y4 :: O) ((a0, .inr (12, o0 :: o1 :: o2 :: (.ref y3) :: (.ref y4) :: o5 :: (.int n62_0_6) :: (.int n62_0_7) :: (.int y8) :: (.int n62_0_9) :: (.int n62_0_10) :: (.int n62_0_11) :: (.int n62_0_12) :: tl)) :: (y3, .inl (cs.2.1, 900, .inl f3)) :: (y4, .inl (cs.2.1, 1302, .inl f4)) :: X) H := hH
          refine W.widen (k := 0) (n := 0) (Nat.le_of_ble_eq_true rfl) (Nat.le_of_ble_eq_true rfl) ?_
          refine lv_goto (tgt := 69) hx hb dX12_readGuide_65 (by decide) ?_
          refine lv_istore_n (lv' := [(3, .int v62), (2, .int v46), (1, .int v5), (0, .ref a0)]) hx hb dX12_readGuide_69 rfl hl (by decide) rfl (fun ls hl => ?_)
          have g70 : RGR t tn [(31, 0)] [(38, 0)] (FR5 f4) (FR5 f4) y11 y12 y6 n62_0_11 n62_0_12 n62_0_6 n62_0_7 n62_0_9 n62_0_10 := (by first | (exact g58.seq (RGR.cons (RG.r (TNK.rg x_v627 (by decide))))) | (exact g50.seq (RGR_id (fun q9 => ⟨TNK.msw x_v467 q9, (show GR t tn [(34, 0)] [(38, 0)] (FR5 f4) (FR5 f4) _ _ from fun _ => st_gN (by have q8 := (TNK.msw x_v467 q9).2.2.2.1; omega))⟩))))
          refine lv_aload_n hx hb dX12_readGuide_70 rfl (lv_at hl 3 rfl) ?_
          refine x_getk (ci := 12) (C := RX12) (F := TX12) (N := 36) (v := .int n62_0_11) hx hb hts uX12 hown hkb hH 0 rfl rfl 11 (by decide) rfl kw_1234 (fun _ h9 => h9) dX12_readGuide_71 ?_
          refine lv_if_eq (tgt := 78) hx hb dX12_readGuide_74 (by decide) (fun c74 => ?_) (fun c74 => ?_)
          · skip
            have tc74 := f_eq (k := 0) (by decide) c74
            refine lv_aload_n hx hb dX12_readGuide_78 rfl (lv_at hl 3 rfl) ?_
            refine x_getk (ci := 12) (C := RX12) (F := TX12) (N := 36) (v := .ref y4) hx hb hts uX12 hown hkb hH 0 rfl rfl 4 (by decide) rfl kw_1227 (fun _ h9 => h9) dX12_readGuide_79 ?_
            refine lv_bipush (v := 49) hx hb dX12_readGuide_82 (by decide) ?_
            refine lv_iload_n hx hb dX12_readGuide_84 rfl (lv_at hl 2 rfl) ?_
            refine lv_iadd hx hb dX12_readGuide_85 ?_
            refine lv_topi (fun v85 ev85 => ?_)
            have tv85 : v85.toInt = (49) + v5.toInt := by rw [ev85]; exact add_i (by decide : (49 : Int32).toInt = 49) rfl (by omega) (by omega)
            refine lv_iload_n hx hb dX12_readGuide_86 rfl (lv_at hl 1 rfl) ?_
            refine xa_ist hx hb hkb hH hS 2 rfl (by omega) (by omega) dX12_readGuide_87 (fun H locs hH hS => ?_)
            have hH : HT D cs A T (a0 :: y3 :: y4 :: O) ((a0, .inr (12, o0 :: o1 :: o2 :: (.ref y3) :: (.ref y4) :: o5 :: (.int n62_0_6) :: (.int n62_0_7) :: (.int y8) :: (.int n62_0_9) :: (.int n62_0_10) :: (.int n62_0_11) :: (.int n62_0_12) :: tl)) :: (y3, .inl (cs.2.1, 900, .inl f3)) :: (y4, .inl (cs.2.1, 1302, .inl (upd f4 (v85.toInt.toNat) v46))) :: X) H := hH
            obtain ⟨F87, eF87⟩ : ∃ f9, f9 = upd f4 (v85.toInt.toNat) v46 := ⟨_, rfl⟩
            have hH : HT D cs A T (a0 :: y3 :: y4 :: O) ((a0, .inr (12, o0 :: o1 :: o2 :: (.ref y3) :: (.ref y4) :: o5 :: (.int n62_0_6) :: (.int n62_0_7) :: (.int y8) :: (.int n62_0_9) :: (.int n62_0_10) :: (.int n62_0_11) :: (.int n62_0_12) :: tl)) :: (y3, .inl (cs.2.1, 900, .inl f3)) :: (y4, .inl (cs.2.1, 1302, .inl F87)) :: X) H := eF87 ▸ hH
            have s_F87 : S8 F87 := eF87 ▸ S8_put (i := v85) (x := v46) s_f4 (by omega) (by omega) (p8_far (by omega) (⟨by omega, by omega⟩))
            refine lv_aload_n hx hb dX12_readGuide_88 rfl (lv_at hl 3 rfl) ?_
            refine x_getk (ci := 12) (C := RX12) (F := TX12) (N := 36) (v := .ref y4) hx hb hts uX12 hown hkb hH 0 rfl rfl 4 (by decide) rfl kw_1227 (fun _ h9 => h9) dX12_readGuide_89 ?_
            refine lv_bipush (v := 54) hx hb dX12_readGuide_92 (by decide) ?_
            refine lv_iload_n hx hb dX12_readGuide_94 rfl (lv_at hl 2 rfl) ?_
            refine lv_iadd hx hb dX12_readGuide_95 ?_
            refine lv_topi (fun v95 ev95 => ?_)
            have tv95 : v95.toInt = (54) + v5.toInt := by rw [ev95]; exact add_i (by decide : (54 : Int32).toInt = 54) rfl (by omega) (by omega)
            refine lv_iload_n hx hb dX12_readGuide_96 rfl (lv_at hl 0 rfl) ?_
            refine xa_ist hx hb hkb hH hS 2 rfl (by omega) (by omega) dX12_readGuide_97 (fun H locs hH hS => ?_)
            have hH : HT D cs A T (a0 :: y3 :: y4 :: O) ((a0, .inr (12, o0 :: o1 :: o2 :: (.ref y3) :: (.ref y4) :: o5 :: (.int n62_0_6) :: (.int n62_0_7) :: (.int y8) :: (.int n62_0_9) :: (.int n62_0_10) :: (.int n62_0_11) :: (.int n62_0_12) :: tl)) :: (y3, .inl (cs.2.1, 900, .inl f3)) :: (y4, .inl (cs.2.1, 1302, .inl (upd F87 (v95.toInt.toNat) v62))) :: X) H := hH
            obtain ⟨F97, eF97⟩ : ∃ f9, f9 = upd F87 (v95.toInt.toNat) v62 := ⟨_, rfl⟩
            have hH : HT D cs A T (a0 :: y3 :: y4 :: O) ((a0, .inr (12, o0 :: o1 :: o2 :: (.ref y3) :: (.ref y4) :: o5 :: (.int n62_0_6) :: (.int n62_0_7) :: (.int y8) :: (.int n62_0_9) :: (.int n62_0_10) :: (.int n62_0_11) :: (.int n62_0_12) :: tl)) :: (y3, .inl (cs.2.1, 900, .inl f3)) :: (y4, .inl (cs.2.1, 1302, .inl F97)) :: X) H := eF97 ▸ hH
            have s_F97 : S8 F97 := eF97 ▸ S8_put (i := v95) (x := v62) s_F87 (by omega) (by omega) (p8_far (by omega) (⟨by omega, by omega⟩))
            refine lv_aload_n hx hb dX12_readGuide_98 rfl (lv_at hl 3 rfl) ?_
            refine x_getk (ci := 12) (C := RX12) (F := TX12) (N := 36) (v := .ref y4) hx hb hts uX12 hown hkb hH 0 rfl rfl 4 (by decide) rfl kw_1227 (fun _ h9 => h9) dX12_readGuide_99 ?_
            refine lv_iconst (v := 2) hx hb dX12_readGuide_102 (by decide) ?_
            refine lv_dup2_11 hx hb dX12_readGuide_103 rfl rfl ?_
            refine xa_ild hx hb hkb hH 2 rfl (by decide) (by decide) dX12_readGuide_104 ?_
            refine lv_topi (fun v104 ev104 => ?_)
            have tv104 : v104 = F97 2 := by rw [ev104]; rfl
            have bv104 : 0 ≤ v104.toInt ∧ v104.toInt ≤ 5 := by rw [tv104]; exact s_F97.2.1
            have hh9 : v104 = v5 := by rw [tv104, eF97, upd_ne (by omega), eF87, upd_ne (by omega), tv5]
            have hh8 : v104.toInt = v5.toInt := by rw [hh9]
            refine lv_iconst (v := 1) hx hb dX12_readGuide_105 (by decide) ?_
            refine lv_iadd hx hb dX12_readGuide_106 ?_
            refine lv_topi (fun v106 ev106 => ?_)
            have tv106 : v106.toInt = v104.toInt + (1) := by rw [ev106]; exact add_i rfl (by decide : (1 : Int32).toInt = 1) (by omega) (by omega)
            refine xa_ist hx hb hkb hH hS 2 rfl (by decide) (by decide) dX12_readGuide_107 (fun H locs hH hS => ?_)
            have hH : HT D cs A T (a0 :: y3 :: y4 :: O) ((a0, .inr (12, o0 :: o1 :: o2 :: (.ref y3) :: (.ref y4) :: o5 :: (.int n62_0_6) :: (.int n62_0_7) :: (.int y8) :: (.int n62_0_9) :: (.int n62_0_10) :: (.int n62_0_11) :: (.int n62_0_12) :: tl)) :: (y3, .inl (cs.2.1, 900, .inl f3)) :: (y4, .inl (cs.2.1, 1302, .inl (upd F97 (2) v106))) :: X) H := hH
            obtain ⟨F107, eF107⟩ : ∃ f9, f9 = upd F97 (2) v106 := ⟨_, rfl⟩
            have hH : HT D cs A T (a0 :: y3 :: y4 :: O) ((a0, .inr (12, o0 :: o1 :: o2 :: (.ref y3) :: (.ref y4) :: o5 :: (.int n62_0_6) :: (.int n62_0_7) :: (.int y8) :: (.int n62_0_9) :: (.int n62_0_10) :: (.int n62_0_11) :: (.int n62_0_12) :: tl)) :: (y3, .inl (cs.2.1, 900, .inl f3)) :: (y4, .inl (cs.2.1, 1302, .inl F107)) :: X) H := eF107 ▸ hH
            have s_F107 : S8 F107 := eF107 ▸ S8_put (i := 2) (x := v106) s_F97 (by decide) (by decide) (⟨fun q9 => absurd q9 (by decide), fun _ => ⟨by omega, by omega⟩, fun q9 => absurd q9 (by decide), fun q9 => absurd q9 (by decide), fun q9 => absurd q9 (by decide), fun q9 => absurd q9 (by decide), fun q9 => absurd q9 (by decide)⟩)
            exact te_v hx hb hr hlocks hH hS (⟨n62_0_6, n62_0_7, n62_0_9, n62_0_10, n62_0_11, n62_0_12, F107, rfl, s_F107, by omega, by omega, by omega, x_v623, by omega, by omega, (by first | (exact absurd k5 tc21) | (exact RGR_f (R := FR5 f4) (m := 4) (G := []) x_v141 hms (by decide) (by decide) (fun q9 _ => st_iGM (R := FR5 f4) (by omega) (by show 5 ≤ (f4 2).toInt.toNat; rw [← tv5]; omega))) | (exact RGR.any g70 tc74) | (refine RGR.seq (RGR.to g70 ((FR5_o eF97 (Or.inr ?_)).trans (FR5_o eF87 (Or.inr ?_)))) (RGR_id (fun q9 => ⟨(TNK.msw x_v627) q9, RF_C eF107 tv104 tv106 ?_⟩)) <;> omega)), (by first | rfl | (rw [eF107, upd_ne (by decide), eF97, upd_ne (by omega), eF87]; exact upd_ne (by omega)))⟩) dX12_readGuide_108
          · skip
            have tc74 := f_ne (k := 0) (by decide) c74
            exact te_v hx hb hr hlocks hH hS (⟨n62_0_6, n62_0_7, n62_0_9, n62_0_10, n62_0_11, n62_0_12, f4, rfl, s_f4, by omega, by omega, by omega, x_v623, by omega, by omega, (by first | (exact absurd k5 tc21) | (exact RGR_f (R := FR5 f4) (m := 4) (G := []) x_v141 hms (by decide) (by decide) (fun q9 _ => st_iGM (R := FR5 f4) (by omega) (by show 5 ≤ (f4 2).toInt.toNat; rw [← tv5]; omega))) | (exact RGR.any g70 tc74) | (refine RGR.seq (RGR.to g70 ((FR5_o eF97 (Or.inr ?_)).trans (FR5_o eF87 (Or.inr ?_)))) (RGR_id (fun q9 => ⟨(TNK.msw x_v627) q9, RF_C eF107 tv104 tv106 ?_⟩)) <;> omega)), (by first | rfl | (rw [eF107, upd_ne (by decide), eF97, upd_ne (by omega), eF87]; exact upd_ne (by omega)))⟩) dX12_readGuide_77
      · skip
        have tc34 := f_eq (k := 0) (by decide) c34
        clear x_v316
        clear x_v317
        replace x_v318 := x_v318.resolve_left (fun q9 => q9 tc34)
        obtain ⟨e6, e7, e9, e10, x_v318⟩ := x_v318
        subst e6 e7 e9 e10
        refine lv_aload_n hx hb dX12_readGuide_37 rfl (lv_at hl 1 rfl) ?_
        refine lv_iconst (v := 2) hx hb dX12_readGuide_38 (by decide) ?_
        have z9_2 : (2 : Int32).toInt = 2 := by decide
        refine tk_v hH hS hA (tr_V (n := 1) (As := [.int 2]) hx hb hml hown hts hkb hH (ox_map hOX rfl) hks hE hS hA (s_M_fails l D cs kf T (y4 :: O) ((y4, .inl (cs.2.1, 1302, .inl f4)) :: X) a0 hg mq (2) o0 o1 o2 y3 y4 o5 n26_0_6 n26_0_7 y8 n26_0_9 n26_0_10 n14_0_11 n14_0_12 tl f3 t tn t_a0 b_hg (by decide) (by decide) t_y3 t_y4 (by omega) (by omega) (by omega) (by omega) (by omega) (by omega) (by omega) (by omega) (by omega) htm (hO.sub (by decide))) kw_1378 kw_1380 ks_49 kw_13 kw_1381 (by decide +kernel) ⟨Nat.le_of_ble_eq_true rfl, Nat.le_of_ble_eq_true rfl⟩ (x_recv (ci := 12) hkb hH 0 rfl rfl) rfl rfl hl.1 (Nat.le_of_ble_eq_true rfl) dX12_readGuide_39 ⟨Nat.le_of_ble_eq_true rfl, Nat.le_of_ble_eq_true rfl⟩) (fun u H locs hz9 hH hS => ?_)
        obtain ⟨n39_0_11, n39_0_12, rfl, x_v390, x_v391⟩ := hz9
        have hH : HT D cs A T (a0 :: y3 :: y4 :: O) ((a0, .inr (12, o0 :: o1 :: o2 :: (.ref y3) :: (.ref y4) :: o5 :: (.int n26_0_6) :: (.int n26_0_7) :: (.int y8) :: (.int n26_0_9) :: (.int n26_0_10) :: (.int n39_0_11) :: (.int n39_0_12) :: tl)) :: (y3, .inl (cs.2.1, 900, .inl f3)) :: (y4, .inl (cs.2.1, 1302, .inl f4)) :: X) H := hH
        refine W.widen (k := 0) (n := 0) (Nat.le_of_ble_eq_true rfl) (Nat.le_of_ble_eq_true rfl) ?_
        have g42 : RGR t tn [(31, 0)] [(22, 99), (34, 0)] (FR5 f4) (FR5 f4) y11 y12 y6 n39_0_11 n39_0_12 n26_0_6 n26_0_7 n26_0_9 n26_0_10 := (by first | (refine RGR.seq g29 (RGR.cons (RGR_g ?_ x_v317.1 (GR_nx (fun _ => st_xY ?_) x_v317.2.1))) <;> omega) | (exact RGR.seq g29 (RGR.cons (RGR_f (R := FR5 f4) (m := 2) (G := []) x_v391 (fun _ => x_v266) (by decide) (by decide) (fun q9 _ => st_xN (by have q8 := x_v266.2.2.2.1; omega))))))
        refine lv_aload_n hx hb dX12_readGuide_42 rfl (lv_at hl 1 rfl) ?_
        refine lv_iconst (v := 0) hx hb dX12_readGuide_43 (by decide) ?_
        refine lv_bipush (v := 99) hx hb dX12_readGuide_44 (by decide) ?_
        have z9_0 : (0 : Int32).toInt = 0 := by decide
        have z9_99 : (99 : Int32).toInt = 99 := by decide
        refine tk_i hH hS hA (tr_V (n := 2) (As := [.int 0, .int 99]) hx hb hml hown hts hkb hH (ox_map hOX rfl) hks hE hS hA (s_M_takes l D cs kf T (y4 :: O) ((y4, .inl (cs.2.1, 1302, .inl f4)) :: X) a0 hg mq (0) (99) o0 o1 o2 y3 y4 o5 n26_0_6 n26_0_7 y8 n26_0_9 n26_0_10 n39_0_11 n39_0_12 tl f3 t tn t_a0 b_hg (by decide) (by decide) t_y3 t_y4 (by omega) (by omega) (by omega) (by omega) (by omega) (by omega) (by omega) (by omega) (by omega) htm (by omega) (by omega) x_v313 (fun q9 => absurd q9 x_v390) (hO.sub (by decide))) kw_1382 kw_1384 ks_50 kw_13 kw_1385 (by decide +kernel) ⟨Nat.le_of_ble_eq_true rfl, Nat.le_of_ble_eq_true rfl⟩ (x_recv (ci := 12) hkb hH 0 rfl rfl) rfl rfl hl.1 (Nat.le_of_ble_eq_true rfl) dX12_readGuide_46 ⟨Nat.le_of_ble_eq_true rfl, Nat.le_of_ble_eq_true rfl⟩) (fun v46 u H locs hz9 hH hS => ?_)
        obtain ⟨n46_0_6, n46_0_7, n46_0_9, n46_0_10, n46_0_11, n46_0_12, rfl, l_v46, u_v46, x_v460, x_v461, x_v462, x_v463, x_v464, x_v465, x_v466, x_v467⟩ := hz9
        have hH : HT D cs A T (a0 :: y3 :: y4 :: O) ((a0, .inr (12, o0 :: o1 :: o2 :: (.ref y3) :: (.ref y4) :: o5 :: (.int n46_0_6) :: (.int n46_0_7) :: (.int y8) :: (.int n46_0_9) :: (.int n46_0_10) :: (.int n46_0_11) :: (.int n46_0_12) :: tl)) :: (y3, .inl (cs.2.1, 900, .inl f3)) :: (y4, .inl (cs.2.1, 1302, .inl f4)) :: X) H := hH
        refine W.widen (k := 0) (n := 0) (Nat.le_of_ble_eq_true rfl) (Nat.le_of_ble_eq_true rfl) ?_
        refine lv_istore_n (lv' := [(2, .int v46), (1, .int v5), (0, .ref a0)]) hx hb dX12_readGuide_49 rfl hl (by decide) rfl (fun ls hl => ?_)
        have g50 : RGR t tn [(31, 0)] [(34, 0)] (FR5 f4) (FR5 f4) y11 y12 y6 n46_0_11 n46_0_12 n46_0_6 n46_0_7 n46_0_9 n46_0_10 := g42.seq (RGR.cons (RG.r (TNK.rg x_v467 (by decide))))
        refine lv_aload_n hx hb dX12_readGuide_50 rfl (lv_at hl 2 rfl) ?_
        refine lv_iconst (v := 3) hx hb dX12_readGuide_51 (by decide) ?_
        have z9_3 : (3 : Int32).toInt = 3 := by decide
        refine tk_i hH hS hA (tr_V (n := 1) (As := [.int 3]) hx hb hml hown hts hkb hH (ox_map hOX rfl) hks hE hS hA (s_M_eats l D cs kf T (y4 :: O) ((y4, .inl (cs.2.1, 1302, .inl f4)) :: X) a0 hg mq (3) o0 o1 o2 y3 y4 o5 n46_0_6 n46_0_7 y8 n46_0_9 n46_0_10 n46_0_11 n46_0_12 tl f3 t tn t_a0 b_hg t_y3 t_y4 (by omega) (by omega) (by omega) (by omega) (by omega) (by omega) (by omega) (by omega) (by omega) htm (by omega) (by omega) x_v463 (by omega) (TNK.msw x_v467) (hO.sub (by decide))) kw_1390 kw_1392 ks_52 kw_13 kw_1393 (by decide +kernel) ⟨Nat.le_of_ble_eq_true rfl, Nat.le_of_ble_eq_true rfl⟩ (x_recv (ci := 12) hkb hH 0 rfl rfl) rfl rfl hl.1 (Nat.le_of_ble_eq_true rfl) dX12_readGuide_52 ⟨Nat.le_of_ble_eq_true rfl, Nat.le_of_ble_eq_true rfl⟩) (fun v52 u H locs hz9 hH hS => ?_)
        obtain ⟨n52_0_6, n52_0_7, n52_0_9, n52_0_10, rfl, l_v52, u_v52, x_v520, x_v521, x_v522, x_v523, x_v524, x_v525, x_v526, x_v527, x_v528⟩ := hz9
        have hH : HT D cs A T (a0 :: y3 :: y4 :: O) ((a0, .inr (12, o0 :: o1 :: o2 :: (.ref y3) :: (.ref y4) :: o5 :: (.int n52_0_6) :: (.int n52_0_7) :: (.int y8) :: (.int n52_0_9) :: (.int n52_0_10) :: (.int n46_0_11) :: (.int n46_0_12) :: tl)) :: (y3, .inl (cs.2.1, 900, .inl f3)) :: (y4, .inl (cs.2.1, 1302, .inl f4)) :: X) H := hH
        refine W.widen (k := 0) (n := 0) (Nat.le_of_ble_eq_true rfl) (Nat.le_of_ble_eq_true rfl) ?_
        refine lv_if_eq (tgt := 68) hx hb dX12_readGuide_55 (by decide) (fun c55 => ?_) (fun c55 => ?_)
        · skip
          have tc55 := f_eq (k := 0) (by decide) c55
          clear x_v526
          clear x_v527
          replace x_v528 := x_v528.resolve_left (fun q9 => q9 tc55)
          obtain ⟨e6, e7, e9, e10, x_v528⟩ := x_v528
          subst e6 e7 e9 e10
          refine lv_iconst (v := 0) hx hb dX12_readGuide_68 (by decide) ?_
          refine lv_istore_n (lv' := [(3, .int 0), (2, .int v46), (1, .int v5), (0, .ref a0)]) hx hb dX12_readGuide_69 rfl hl (by decide) rfl (fun ls hl => ?_)
          have g70 : RGR t tn [(31, 0)] [(38, 0)] (FR5 f4) (FR5 f4) y11 y12 y6 n46_0_11 n46_0_12 n46_0_6 n46_0_7 n46_0_9 n46_0_10 := (by first | (exact g58.seq (RGR.cons (RG.r (TNK.rg x_v627 (by decide))))) | (exact g50.seq (RGR_id (fun q9 => ⟨TNK.msw x_v467 q9, (show GR t tn [(34, 0)] [(38, 0)] (FR5 f4) (FR5 f4) _ _ from fun _ => st_gN (by have q8 := (TNK.msw x_v467 q9).2.2.2.1; omega))⟩))))
          refine lv_aload_n hx hb dX12_readGuide_70 rfl (lv_at hl 3 rfl) ?_
          refine x_getk (ci := 12) (C := RX12) (F := TX12) (N := 36) (v := .int n46_0_11) hx hb hts uX12 hown hkb hH 0 rfl rfl 11 (by decide) rfl kw_1234 (fun _ h9 => h9) dX12_readGuide_71 ?_
          refine lv_if_eq (tgt := 78) hx hb dX12_readGuide_74 (by decide) (fun c74 => ?_) (fun c74 => ?_)
          · skip
            have tc74 := f_eq (k := 0) (by decide) c74
            refine lv_aload_n hx hb dX12_readGuide_78 rfl (lv_at hl 3 rfl) ?_
            refine x_getk (ci := 12) (C := RX12) (F := TX12) (N := 36) (v := .ref y4) hx hb hts uX12 hown hkb hH 0 rfl rfl 4 (by decide) rfl kw_1227 (fun _ h9 => h9) dX12_readGuide_79 ?_
            refine lv_bipush (v := 49) hx hb dX12_readGuide_82 (by decide) ?_
            refine lv_iload_n hx hb dX12_readGuide_84 rfl (lv_at hl 2 rfl) ?_
            refine lv_iadd hx hb dX12_readGuide_85 ?_
            refine lv_topi (fun v85 ev85 => ?_)
            have tv85 : v85.toInt = (49) + v5.toInt := by rw [ev85]; exact add_i (by decide : (49 : Int32).toInt = 49) rfl (by omega) (by omega)
            refine lv_iload_n hx hb dX12_readGuide_86 rfl (lv_at hl 1 rfl) ?_
            refine xa_ist hx hb hkb hH hS 2 rfl (by omega) (by omega) dX12_readGuide_87 (fun H locs hH hS => ?_)
            have hH : HT D cs A T (a0 :: y3 :: y4 :: O) ((a0, .inr (12, o0 :: o1 :: o2 :: (.ref y3) :: (.ref y4) :: o5 :: (.int n46_0_6) :: (.int n46_0_7) :: (.int y8) :: (.int n46_0_9) :: (.int n46_0_10) :: (.int n46_0_11) :: (.int n46_0_12) :: tl)) :: (y3, .inl (cs.2.1, 900, .inl f3)) :: (y4, .inl (cs.2.1, 1302, .inl (upd f4 (v85.toInt.toNat) v46))) :: X) H := hH
            obtain ⟨F87, eF87⟩ : ∃ f9, f9 = upd f4 (v85.toInt.toNat) v46 := ⟨_, rfl⟩
            have hH : HT D cs A T (a0 :: y3 :: y4 :: O) ((a0, .inr (12, o0 :: o1 :: o2 :: (.ref y3) :: (.ref y4) :: o5 :: (.int n46_0_6) :: (.int n46_0_7) :: (.int y8) :: (.int n46_0_9) :: (.int n46_0_10) :: (.int n46_0_11) :: (.int n46_0_12) :: tl)) :: (y3, .inl (cs.2.1, 900, .inl f3)) :: (y4, .inl (cs.2.1, 1302, .inl F87)) :: X) H := eF87 ▸ hH
            have s_F87 : S8 F87 := eF87 ▸ S8_put (i := v85) (x := v46) s_f4 (by omega) (by omega) (p8_far (by omega) (⟨by omega, by omega⟩))
            refine lv_aload_n hx hb dX12_readGuide_88 rfl (lv_at hl 3 rfl) ?_
            refine x_getk (ci := 12) (C := RX12) (F := TX12) (N := 36) (v := .ref y4) hx hb hts uX12 hown hkb hH 0 rfl rfl 4 (by decide) rfl kw_1227 (fun _ h9 => h9) dX12_readGuide_89 ?_
            refine lv_bipush (v := 54) hx hb dX12_readGuide_92 (by decide) ?_
            refine lv_iload_n hx hb dX12_readGuide_94 rfl (lv_at hl 2 rfl) ?_
            refine lv_iadd hx hb dX12_readGuide_95 ?_
            refine lv_topi (fun v95 ev95 => ?_)
            have tv95 : v95.toInt = (54) + v5.toInt := by rw [ev95]; exact add_i (by decide : (54 : Int32).toInt = 54) rfl (by omega) (by omega)
            refine lv_iload_n hx hb dX12_readGuide_96 rfl (lv_at hl 0 rfl) ?_
            refine xa_ist hx hb hkb hH hS 2 rfl (by omega) (by omega) dX12_readGuide_97 (fun H locs hH hS => ?_)
            have hH : HT D cs A T (a0 :: y3 :: y4 :: O) ((a0, .inr (12, o0 :: o1 :: o2 :: (.ref y3) :: (.ref y4) :: o5 :: (.int n46_0_6) :: (.int n46_0_7) :: (.int y8) :: (.int n46_0_9) :: (.int n46_0_10) :: (.int n46_0_11) :: (.int n46_0_12) :: tl)) :: (y3, .inl (cs.2.1, 900, .inl f3)) :: (y4, .inl (cs.2.1, 1302, .inl (upd F87 (v95.toInt.toNat) (0 : Int32)))) :: X) H := hH
            obtain ⟨F97, eF97⟩ : ∃ f9, f9 = upd F87 (v95.toInt.toNat) (0 : Int32) := ⟨_, rfl⟩
            have hH : HT D cs A T (a0 :: y3 :: y4 :: O) ((a0, .inr (12, o0 :: o1 :: o2 :: (.ref y3) :: (.ref y4) :: o5 :: (.int n46_0_6) :: (.int n46_0_7) :: (.int y8) :: (.int n46_0_9) :: (.int n46_0_10) :: (.int n46_0_11) :: (.int n46_0_12) :: tl)) :: (y3, .inl (cs.2.1, 900, .inl f3)) :: (y4, .inl (cs.2.1, 1302, .inl F97)) :: X) H := eF97 ▸ hH
            have s_F97 : S8 F97 := eF97 ▸ S8_put (i := v95) (x := (0 : Int32)) s_F87 (by omega) (by omega) (p8_far (by omega) (⟨by omega, by omega⟩))
            refine lv_aload_n hx hb dX12_readGuide_98 rfl (lv_at hl 3 rfl) ?_
            refine x_getk (ci := 12) (C := RX12) (F := TX12) (N := 36) (v := .ref y4) hx hb hts uX12 hown hkb hH 0 rfl rfl 4 (by decide) rfl kw_1227 (fun _ h9 => h9) dX12_readGuide_99 ?_
            refine lv_iconst (v := 2) hx hb dX12_readGuide_102 (by decide) ?_
            refine lv_dup2_11 hx hb dX12_readGuide_103 rfl rfl ?_
            refine xa_ild hx hb hkb hH 2 rfl (by decide) (by decide) dX12_readGuide_104 ?_
            refine lv_topi (fun v104 ev104 => ?_)
            have tv104 : v104 = F97 2 := by rw [ev104]; rfl
            have bv104 : 0 ≤ v104.toInt ∧ v104.toInt ≤ 5 := by rw [tv104]; exact s_F97.2.1
            have hh9 : v104 = v5 := by rw [tv104, eF97, upd_ne (by omega), eF87, upd_ne (by omega), tv5]
            have hh8 : v104.toInt = v5.toInt := by rw [hh9]
            refine lv_iconst (v := 1) hx hb dX12_readGuide_105 (by decide) ?_
            refine lv_iadd hx hb dX12_readGuide_106 ?_
            refine lv_topi (fun v106 ev106 => ?_)
            have tv106 : v106.toInt = v104.toInt + (1) := by rw [ev106]; exact add_i rfl (by decide : (1 : Int32).toInt = 1) (by omega) (by omega)
            refine xa_ist hx hb hkb hH hS 2 rfl (by decide) (by decide) dX12_readGuide_107 (fun H locs hH hS => ?_)
            have hH : HT D cs A T (a0 :: y3 :: y4 :: O) ((a0, .inr (12, o0 :: o1 :: o2 :: (.ref y3) :: (.ref y4) :: o5 :: (.int n46_0_6) :: (.int n46_0_7) :: (.int y8) :: (.int n46_0_9) :: (.int n46_0_10) :: (.int n46_0_11) :: (.int n46_0_12) :: tl)) :: (y3, .inl (cs.2.1, 900, .inl f3)) :: (y4, .inl (cs.2.1, 1302, .inl (upd F97 (2) v106))) :: X) H := hH
            obtain ⟨F107, eF107⟩ : ∃ f9, f9 = upd F97 (2) v106 := ⟨_, rfl⟩
            have hH : HT D cs A T (a0 :: y3 :: y4 :: O) ((a0, .inr (12, o0 :: o1 :: o2 :: (.ref y3) :: (.ref y4) :: o5 :: (.int n46_0_6) :: (.int n46_0_7) :: (.int y8) :: (.int n46_0_9) :: (.int n46_0_10) :: (.int n46_0_11) :: (.int n46_0_12) :: tl)) :: (y3, .inl (cs.2.1, 900, .inl f3)) :: (y4, .inl (cs.2.1, 1302, .inl F107)) :: X) H := eF107 ▸ hH
            have s_F107 : S8 F107 := eF107 ▸ S8_put (i := 2) (x := v106) s_F97 (by decide) (by decide) (⟨fun q9 => absurd q9 (by decide), fun _ => ⟨by omega, by omega⟩, fun q9 => absurd q9 (by decide), fun q9 => absurd q9 (by decide), fun q9 => absurd q9 (by decide), fun q9 => absurd q9 (by decide), fun q9 => absurd q9 (by decide)⟩)
            exact te_v hx hb hr hlocks hH hS (⟨n46_0_6, n46_0_7, n46_0_9, n46_0_10, n46_0_11, n46_0_12, F107, rfl, s_F107, by omega, by omega, by omega, x_v523, by omega, by omega, (by first | (exact absurd k5 tc21) | (exact RGR_f (R := FR5 f4) (m := 4) (G := []) x_v141 hms (by decide) (by decide) (fun q9 _ => st_iGM (R := FR5 f4) (by omega) (by show 5 ≤ (f4 2).toInt.toNat; rw [← tv5]; omega))) | (exact RGR.any g70 tc74) | (refine RGR.seq (RGR.to g70 ((FR5_o eF97 (Or.inr ?_)).trans (FR5_o eF87 (Or.inr ?_)))) (RGR_id (fun q9 => ⟨(TNK.msw x_v467) q9, RF_C eF107 tv104 tv106 ?_⟩)) <;> omega)), (by first | rfl | (rw [eF107, upd_ne (by decide), eF97, upd_ne (by omega), eF87]; exact upd_ne (by omega)))⟩) dX12_readGuide_108
          · skip
            have tc74 := f_ne (k := 0) (by decide) c74
            exact te_v hx hb hr hlocks hH hS (⟨n46_0_6, n46_0_7, n46_0_9, n46_0_10, n46_0_11, n46_0_12, f4, rfl, s_f4, by omega, by omega, by omega, x_v523, by omega, by omega, (by first | (exact absurd k5 tc21) | (exact RGR_f (R := FR5 f4) (m := 4) (G := []) x_v141 hms (by decide) (by decide) (fun q9 _ => st_iGM (R := FR5 f4) (by omega) (by show 5 ≤ (f4 2).toInt.toNat; rw [← tv5]; omega))) | (exact RGR.any g70 tc74) | (refine RGR.seq (RGR.to g70 ((FR5_o eF97 (Or.inr ?_)).trans (FR5_o eF87 (Or.inr ?_)))) (RGR_id (fun q9 => ⟨(TNK.msw x_v467) q9, RF_C eF107 tv104 tv106 ?_⟩)) <;> omega)), (by first | rfl | (rw [eF107, upd_ne (by decide), eF97, upd_ne (by omega), eF87]; exact upd_ne (by omega)))⟩) dX12_readGuide_77
        · skip
          have tc55 := f_ne (k := 0) (by decide) c55
          replace x_v526 := x_v526.resolve_left tc55
          replace x_v527 := x_v527.resolve_left tc55
          clear x_v528
          have g58 : RGR t tn [(31, 0)] [(22, 99), (38, 0)] (FR5 f4) (FR5 f4) y11 y12 y6 n46_0_11 n46_0_12 n52_0_6 n52_0_7 n52_0_9 n52_0_10 := (by refine RGR.seq g50 (RGR_g ?_ x_v527.1 (GR_nx (fun _ => st_gW ?_) x_v527.2.1)) <;> omega)
          refine lv_aload_n hx hb dX12_readGuide_58 rfl (lv_at hl 2 rfl) ?_
          refine lv_iconst (v := 0) hx hb dX12_readGuide_59 (by decide) ?_
          refine lv_bipush (v := 99) hx hb dX12_readGuide_60 (by decide) ?_
          have z9_0 : (0 : Int32).toInt = 0 := by decide
          have z9_99 : (99 : Int32).toInt = 99 := by decide
          refine tk_i hH hS hA (tr_V (n := 2) (As := [.int 0, .int 99]) hx hb hml hown hts hkb hH (ox_map hOX rfl) hks hE hS hA (s_M_takes l D cs kf T (y4 :: O) ((y4, .inl (cs.2.1, 1302, .inl f4)) :: X) a0 hg mq (0) (99) o0 o1 o2 y3 y4 o5 n52_0_6 n52_0_7 y8 n52_0_9 n52_0_10 n46_0_11 n46_0_12 tl f3 t tn t_a0 b_hg (by decide) (by decide) t_y3 t_y4 (by omega) (by omega) (by omega) (by omega) (by omega) (by omega) (by omega) (by omega) (by omega) htm (by omega) (by omega) x_v523 (fun _ => x_v527.1) (hO.sub (by decide))) kw_1382 kw_1384 ks_50 kw_13 kw_1385 (by decide +kernel) ⟨Nat.le_of_ble_eq_true rfl, Nat.le_of_ble_eq_true rfl⟩ (x_recv (ci := 12) hkb hH 0 rfl rfl) rfl rfl hl.1 (Nat.le_of_ble_eq_true rfl) dX12_readGuide_62 ⟨Nat.le_of_ble_eq_true rfl, Nat.le_of_ble_eq_true rfl⟩) (fun v62 u H locs hz9 hH hS => ?_)
          obtain ⟨n62_0_6, n62_0_7, n62_0_9, n62_0_10, n62_0_11, n62_0_12, rfl, l_v62, u_v62, x_v620, x_v621, x_v622, x_v623, x_v624, x_v625, x_v626, x_v627⟩ := hz9
          have hH : HT D cs A T (a0 :: y3 :: y4 :: O) ((a0, .inr (12, o0 :: o1 :: o2 :: (.ref y3) :: (.ref y4) :: o5 :: (.int n62_0_6) :: (.int n62_0_7) :: (.int y8) :: (.int n62_0_9) :: (.int n62_0_10) :: (.int n62_0_11) :: (.int n62_0_12) :: tl)) :: (y3, .inl (cs.2.1, 900, .inl f3)) :: (y4, .inl (cs.2.1, 1302, .inl f4)) :: X) H := hH
          refine W.widen (k := 0) (n := 0) (Nat.le_of_ble_eq_true rfl) (Nat.le_of_ble_eq_true rfl) ?_
          refine lv_goto (tgt := 69) hx hb dX12_readGuide_65 (by decide) ?_
          refine lv_istore_n (lv' := [(3, .int v62), (2, .int v46), (1, .int v5), (0, .ref a0)]) hx hb dX12_readGuide_69 rfl hl (by decide) rfl (fun ls hl => ?_)
          have g70 : RGR t tn [(31, 0)] [(38, 0)] (FR5 f4) (FR5 f4) y11 y12 y6 n62_0_11 n62_0_12 n62_0_6 n62_0_7 n62_0_9 n62_0_10 := (by first | (exact g58.seq (RGR.cons (RG.r (TNK.rg x_v627 (by decide))))) | (exact g50.seq (RGR_id (fun q9 => ⟨TNK.msw x_v467 q9, (show GR t tn [(34, 0)] [(38, 0)] (FR5 f4) (FR5 f4) _ _ from fun _ => st_gN (by have q8 := (TNK.msw x_v467 q9).2.2.2.1; omega))⟩))))
          refine lv_aload_n hx hb dX12_readGuide_70 rfl (lv_at hl 3 rfl) ?_
          refine x_getk (ci := 12) (C := RX12) (F := TX12) (N := 36) (v := .int n62_0_11) hx hb hts uX12 hown hkb hH 0 rfl rfl 11 (by decide) rfl kw_1234 (fun _ h9 => h9) dX12_readGuide_71 ?_
          refine lv_if_eq (tgt := 78) hx hb dX12_readGuide_74 (by decide) (fun c74 => ?_) (fun c74 => ?_)
          · skip
            have tc74 := f_eq (k := 0) (by decide) c74
            refine lv_aload_n hx hb dX12_readGuide_78 rfl (lv_at hl 3 rfl) ?_
            refine x_getk (ci := 12) (C := RX12) (F := TX12) (N := 36) (v := .ref y4) hx hb hts uX12 hown hkb hH 0 rfl rfl 4 (by decide) rfl kw_1227 (fun _ h9 => h9) dX12_readGuide_79 ?_
            refine lv_bipush (v := 49) hx hb dX12_readGuide_82 (by decide) ?_
            refine lv_iload_n hx hb dX12_readGuide_84 rfl (lv_at hl 2 rfl) ?_
            refine lv_iadd hx hb dX12_readGuide_85 ?_
            refine lv_topi (fun v85 ev85 => ?_)
            have tv85 : v85.toInt = (49) + v5.toInt := by rw [ev85]; exact add_i (by decide : (49 : Int32).toInt = 49) rfl (by omega) (by omega)
            refine lv_iload_n hx hb dX12_readGuide_86 rfl (lv_at hl 1 rfl) ?_
            refine xa_ist hx hb hkb hH hS 2 rfl (by omega) (by omega) dX12_readGuide_87 (fun H locs hH hS => ?_)
            have hH : HT D cs A T (a0 :: y3 :: y4 :: O) ((a0, .inr (12, o0 :: o1 :: o2 :: (.ref y3) :: (.ref y4) :: o5 :: (.int n62_0_6) :: (.int n62_0_7) :: (.int y8) :: (.int n62_0_9) :: (.int n62_0_10) :: (.int n62_0_11) :: (.int n62_0_12) :: tl)) :: (y3, .inl (cs.2.1, 900, .inl f3)) :: (y4, .inl (cs.2.1, 1302, .inl (upd f4 (v85.toInt.toNat) v46))) :: X) H := hH
            obtain ⟨F87, eF87⟩ : ∃ f9, f9 = upd f4 (v85.toInt.toNat) v46 := ⟨_, rfl⟩
            have hH : HT D cs A T (a0 :: y3 :: y4 :: O) ((a0, .inr (12, o0 :: o1 :: o2 :: (.ref y3) :: (.ref y4) :: o5 :: (.int n62_0_6) :: (.int n62_0_7) :: (.int y8) :: (.int n62_0_9) :: (.int n62_0_10) :: (.int n62_0_11) :: (.int n62_0_12) :: tl)) :: (y3, .inl (cs.2.1, 900, .inl f3)) :: (y4, .inl (cs.2.1, 1302, .inl F87)) :: X) H := eF87 ▸ hH
            have s_F87 : S8 F87 := eF87 ▸ S8_put (i := v85) (x := v46) s_f4 (by omega) (by omega) (p8_far (by omega) (⟨by omega, by omega⟩))
            refine lv_aload_n hx hb dX12_readGuide_88 rfl (lv_at hl 3 rfl) ?_
            refine x_getk (ci := 12) (C := RX12) (F := TX12) (N := 36) (v := .ref y4) hx hb hts uX12 hown hkb hH 0 rfl rfl 4 (by decide) rfl kw_1227 (fun _ h9 => h9) dX12_readGuide_89 ?_
            refine lv_bipush (v := 54) hx hb dX12_readGuide_92 (by decide) ?_
            refine lv_iload_n hx hb dX12_readGuide_94 rfl (lv_at hl 2 rfl) ?_
            refine lv_iadd hx hb dX12_readGuide_95 ?_
            refine lv_topi (fun v95 ev95 => ?_)
            have tv95 : v95.toInt = (54) + v5.toInt := by rw [ev95]; exact add_i (by decide : (54 : Int32).toInt = 54) rfl (by omega) (by omega)
            refine lv_iload_n hx hb dX12_readGuide_96 rfl (lv_at hl 0 rfl) ?_
            refine xa_ist hx hb hkb hH hS 2 rfl (by omega) (by omega) dX12_readGuide_97 (fun H locs hH hS => ?_)
            have hH : HT D cs A T (a0 :: y3 :: y4 :: O) ((a0, .inr (12, o0 :: o1 :: o2 :: (.ref y3) :: (.ref y4) :: o5 :: (.int n62_0_6) :: (.int n62_0_7) :: (.int y8) :: (.int n62_0_9) :: (.int n62_0_10) :: (.int n62_0_11) :: (.int n62_0_12) :: tl)) :: (y3, .inl (cs.2.1, 900, .inl f3)) :: (y4, .inl (cs.2.1, 1302, .inl (upd F87 (v95.toInt.toNat) v62))) :: X) H := hH
            obtain ⟨F97, eF97⟩ : ∃ f9, f9 = upd F87 (v95.toInt.toNat) v62 := ⟨_, rfl⟩
            have hH : HT D cs A T (a0 :: y3 :: y4 :: O) ((a0, .inr (12, o0 :: o1 :: o2 :: (.ref y3) :: (.ref y4) :: o5 :: (.int n62_0_6) :: (.int n62_0_7) :: (.int y8) :: (.int n62_0_9) :: (.int n62_0_10) :: (.int n62_0_11) :: (.int n62_0_12) :: tl)) :: (y3, .inl (cs.2.1, 900, .inl f3)) :: (y4, .inl (cs.2.1, 1302, .inl F97)) :: X) H := eF97 ▸ hH
            have s_F97 : S8 F97 := eF97 ▸ S8_put (i := v95) (x := v62) s_F87 (by omega) (by omega) (p8_far (by omega) (⟨by omega, by omega⟩))
            refine lv_aload_n hx hb dX12_readGuide_98 rfl (lv_at hl 3 rfl) ?_
            refine x_getk (ci := 12) (C := RX12) (F := TX12) (N := 36) (v := .ref y4) hx hb hts uX12 hown hkb hH 0 rfl rfl 4 (by decide) rfl kw_1227 (fun _ h9 => h9) dX12_readGuide_99 ?_
            refine lv_iconst (v := 2) hx hb dX12_readGuide_102 (by decide) ?_
            refine lv_dup2_11 hx hb dX12_readGuide_103 rfl rfl ?_
            refine xa_ild hx hb hkb hH 2 rfl (by decide) (by decide) dX12_readGuide_104 ?_
            refine lv_topi (fun v104 ev104 => ?_)
            have tv104 : v104 = F97 2 := by rw [ev104]; rfl
            have bv104 : 0 ≤ v104.toInt ∧ v104.toInt ≤ 5 := by rw [tv104]; exact s_F97.2.1
            have hh9 : v104 = v5 := by rw [tv104, eF97, upd_ne (by omega), eF87, upd_ne (by omega), tv5]
            have hh8 : v104.toInt = v5.toInt := by rw [hh9]
            refine lv_iconst (v := 1) hx hb dX12_readGuide_105 (by decide) ?_
            refine lv_iadd hx hb dX12_readGuide_106 ?_
            refine lv_topi (fun v106 ev106 => ?_)
            have tv106 : v106.toInt = v104.toInt + (1) := by rw [ev106]; exact add_i rfl (by decide : (1 : Int32).toInt = 1) (by omega) (by omega)
            refine xa_ist hx hb hkb hH hS 2 rfl (by decide) (by decide) dX12_readGuide_107 (fun H locs hH hS => ?_)
            have hH : HT D cs A T (a0 :: y3 :: y4 :: O) ((a0, .inr (12, o0 :: o1 :: o2 :: (.ref y3) :: (.ref y4) :: o5 :: (.int n62_0_6) :: (.int n62_0_7) :: (.int y8) :: (.int n62_0_9) :: (.int n62_0_10) :: (.int n62_0_11) :: (.int n62_0_12) :: tl)) :: (y3, .inl (cs.2.1, 900, .inl f3)) :: (y4, .inl (cs.2.1, 1302, .inl (upd F97 (2) v106))) :: X) H := hH
            obtain ⟨F107, eF107⟩ : ∃ f9, f9 = upd F97 (2) v106 := ⟨_, rfl⟩
            have hH : HT D cs A T (a0 :: y3 :: y4 :: O) ((a0, .inr (12, o0 :: o1 :: o2 :: (.ref y3) :: (.ref y4) :: o5 :: (.int n62_0_6) :: (.int n62_0_7) :: (.int y8) :: (.int n62_0_9) :: (.int n62_0_10) :: (.int n62_0_11) :: (.int n62_0_12) :: tl)) :: (y3, .inl (cs.2.1, 900, .inl f3)) :: (y4, .inl (cs.2.1, 1302, .inl F107)) :: X) H := eF107 ▸ hH
            have s_F107 : S8 F107 := eF107 ▸ S8_put (i := 2) (x := v106) s_F97 (by decide) (by decide) (⟨fun q9 => absurd q9 (by decide), fun _ => ⟨by omega, by omega⟩, fun q9 => absurd q9 (by decide), fun q9 => absurd q9 (by decide), fun q9 => absurd q9 (by decide), fun q9 => absurd q9 (by decide), fun q9 => absurd q9 (by decide)⟩)
            exact te_v hx hb hr hlocks hH hS (⟨n62_0_6, n62_0_7, n62_0_9, n62_0_10, n62_0_11, n62_0_12, F107, rfl, s_F107, by omega, by omega, by omega, x_v623, by omega, by omega, (by first | (exact absurd k5 tc21) | (exact RGR_f (R := FR5 f4) (m := 4) (G := []) x_v141 hms (by decide) (by decide) (fun q9 _ => st_iGM (R := FR5 f4) (by omega) (by show 5 ≤ (f4 2).toInt.toNat; rw [← tv5]; omega))) | (exact RGR.any g70 tc74) | (refine RGR.seq (RGR.to g70 ((FR5_o eF97 (Or.inr ?_)).trans (FR5_o eF87 (Or.inr ?_)))) (RGR_id (fun q9 => ⟨(TNK.msw x_v627) q9, RF_C eF107 tv104 tv106 ?_⟩)) <;> omega)), (by first | rfl | (rw [eF107, upd_ne (by decide), eF97, upd_ne (by omega), eF87]; exact upd_ne (by omega)))⟩) dX12_readGuide_108
          · skip
            have tc74 := f_ne (k := 0) (by decide) c74
            exact te_v hx hb hr hlocks hH hS (⟨n62_0_6, n62_0_7, n62_0_9, n62_0_10, n62_0_11, n62_0_12, f4, rfl, s_f4, by omega, by omega, by omega, x_v623, by omega, by omega, (by first | (exact absurd k5 tc21) | (exact RGR_f (R := FR5 f4) (m := 4) (G := []) x_v141 hms (by decide) (by decide) (fun q9 _ => st_iGM (R := FR5 f4) (by omega) (by show 5 ≤ (f4 2).toInt.toNat; rw [← tv5]; omega))) | (exact RGR.any g70 tc74) | (refine RGR.seq (RGR.to g70 ((FR5_o eF97 (Or.inr ?_)).trans (FR5_o eF87 (Or.inr ?_)))) (RGR_id (fun q9 => ⟨(TNK.msw x_v627) q9, RF_C eF107 tv104 tv106 ?_⟩)) <;> omega)), (by first | rfl | (rw [eF107, upd_ne (by decide), eF97, upd_ne (by omega), eF87]; exact upd_ne (by omega)))⟩) dX12_readGuide_77
    · skip
      have tc21 := f_ne (k := 0) (by decide) c21
      exact te_v hx hb hr hlocks hH hS (⟨y6, y7, y9, y10, n14_0_11, n14_0_12, f4, rfl, s_f4, by omega, by omega, by omega, k3, by omega, by omega, (by first | (exact absurd k5 tc21) | (exact RGR_f (R := FR5 f4) (m := 4) (G := []) x_v141 hms (by decide) (by decide) (fun q9 _ => st_iGM (R := FR5 f4) (by omega) (by show 5 ≤ (f4 2).toInt.toNat; rw [← tv5]; omega))) | (exact RGR.any g70 tc74) | (refine RGR.seq (RGR.to g70 ((FR5_o eF97 (Or.inr ?_)).trans (FR5_o eF87 (Or.inr ?_)))) (RGR_id (fun q9 => ⟨(fun q9 => absurd q9 x_v140) q9, RF_C eF107 tv104 tv106 ?_⟩)) <;> omega)), (by first | rfl | (rw [eF107, upd_ne (by decide), eF97, upd_ne (by omega), eF87]; exact upd_ne (by omega)))⟩) dX12_readGuide_24
theorem dX12_readStep_0 : decode cX12_readStep 0 = .ok (.aload_n 0, 1) := by decide +kernel
theorem dX12_readStep_1 : decode cX12_readStep 1 = .ok (.invokevirtual 137, 3) := by decide +kernel
theorem dX12_readStep_4 : decode cX12_readStep 4 = .ok (.aload_n 0, 1) := by decide +kernel
theorem dX12_readStep_5 : decode cX12_readStep 5 = .ok (.bipush 31, 2) := by decide +kernel
theorem dX12_readStep_7 : decode cX12_readStep 7 = .ok (.invokevirtual 155, 3) := by decide +kernel
theorem dX12_readStep_10 : decode cX12_readStep 10 = .ok (.ifCond .ne 8, 3) := by decide +kernel
theorem dX12_readStep_13 : decode cX12_readStep 13 = .ok (.aload_n 0, 1) := by decide +kernel
theorem dX12_readStep_14 : decode cX12_readStep 14 = .ok (.iconst 2, 1) := by decide +kernel
theorem dX12_readStep_15 : decode cX12_readStep 15 = .ok (.invokevirtual 140, 3) := by decide +kernel
theorem dX12_readStep_18 : decode cX12_readStep 18 = .ok (.aload_n 0, 1) := by decide +kernel
theorem dX12_readStep_19 : decode cX12_readStep 19 = .ok (.getfield 24, 3) := by decide +kernel
theorem dX12_readStep_22 : decode cX12_readStep 22 = .ok (.sipush 401, 3) := by decide +kernel
theorem dX12_readStep_25 : decode cX12_readStep 25 = .ok (.iconst 0, 1) := by decide +kernel
theorem dX12_readStep_26 : decode cX12_readStep 26 = .ok (.iastore, 1) := by decide +kernel
theorem dX12_readStep_27 : decode cX12_readStep 27 = .ok (.aload_n 0, 1) := by decide +kernel
theorem dX12_readStep_28 : decode cX12_readStep 28 = .ok (.iconst 0, 1) := by decide +kernel
theorem dX12_readStep_29 : decode cX12_readStep 29 = .ok (.invokevirtual 173, 3) := by decide +kernel
theorem dX12_readStep_32 : decode cX12_readStep 32 = .ok (.aload_n 0, 1) := by decide +kernel
theorem dX12_readStep_33 : decode cX12_readStep 33 = .ok (.getfield 128, 3) := by decide +kernel
theorem dX12_readStep_36 : decode cX12_readStep 36 = .ok (.ifCond .ne 10, 3) := by decide +kernel
theorem dX12_readStep_39 : decode cX12_readStep 39 = .ok (.aload_n 0, 1) := by decide +kernel
theorem dX12_readStep_40 : decode cX12_readStep 40 = .ok (.getfield 24, 3) := by decide +kernel
theorem dX12_readStep_43 : decode cX12_readStep 43 = .ok (.iconst 3, 1) := by decide +kernel
theorem dX12_readStep_44 : decode cX12_readStep 44 = .ok (.iconst 1, 1) := by decide +kernel
theorem dX12_readStep_45 : decode cX12_readStep 45 = .ok (.iastore, 1) := by decide +kernel
theorem dX12_readStep_46 : decode cX12_readStep 46 = .ok (.return_, 1) := by decide +kernel
set_option maxHeartbeats 4000000 in
set_option maxRecDepth 100000 in
theorem s_M_readStep (l : Launch) (D : va_G) (cs : CS) (kf : KF) (T : TF) (O : List Nat) (X : va_W) (a0 hg mq : Nat) (o0 : Value) (o1 : Value) (o2 : Value) (y3 : Nat) (y4 : Nat) (o5 : Value) (y6 : Int32) (y7 : Int32) (y8 : Int32) (y9 : Int32) (y10 : Int32) (y11 : Int32) (y12 : Int32) (tl : List Value) (f3 : Nat → Int32) (f4 : Nat → Int32) (t : Tp) (tn : Nat) (t_a0 : T a0 = some (22, hg, mq)) (b_hg : hg < 90) (t_y3 : T y3 = some (9, 900, 0)) (t_y4 : T y4 = some (8, 1302, 0)) (l_y6 : 0 ≤ y6.toInt) (u_y6 : y6.toInt ≤ 900) (l_y7 : 0 ≤ y7.toInt) (u_y7 : y7.toInt ≤ 900) (l_y8 : 0 ≤ y8.toInt) (u_y8 : y8.toInt ≤ 900) (l_y10 : 0 ≤ y10.toInt) (u_y10 : y10.toInt ≤ 999) (s_f4 : S8 f4) (hn : y8.toInt = (tn : Int)) (htm : TM f3 t) (k1 : y6.toInt ≤ y7.toInt) (k2 : y7.toInt ≤ y8.toInt) (k3 : TK3 y9 y6 y7) (k5 : y11.toInt = 0) (k6 : y9.toInt ≠ 22) (hms : MSW t tn y11 y6 y7 y9 y10) (kk : y9.toInt = 4) (hO : okO T (a0 :: y3 :: y4 :: O) []) : TK l D cs kf yX12_readStep cX12_readStep 1 none { frames := 31, cells := 0, slots := 0, locals := 662 } [.ref a0] T (a0 :: y3 :: y4 :: O) ((a0, .inr (12, o0 :: o1 :: o2 :: (.ref y3) :: (.ref y4) :: o5 :: (.int y6) :: (.int y7) :: (.int y8) :: (.int y9) :: (.int y10) :: (.int y11) :: (.int y12) :: tl)) :: (y3, .inl (cs.2.1, 900, .inl f3)) :: (y4, .inl (cs.2.1, 1302, .inl f4)) :: X) (Tv D cs (fun u => ∃ (n0_6 : Int32) (n0_7 : Int32) (n0_9 : Int32) (n0_10 : Int32) (n0_11 : Int32) (n0_12 : Int32) (G2 : Nat → Int32), u = (T, a0 :: y3 :: y4 :: O, (a0, .inr (12, o0 :: o1 :: o2 :: (.ref y3) :: (.ref y4) :: o5 :: (.int n0_6) :: (.int n0_7) :: (.int y8) :: (.int n0_9) :: (.int n0_10) :: (.int n0_11) :: (.int n0_12) :: tl)) :: (y3, .inl (cs.2.1, 900, .inl f3)) :: (y4, .inl (cs.2.1, 1302, .inl G2)) :: X) ∧ (S8 G2) ∧ (y6.toInt ≤ n0_6.toInt) ∧ (n0_6.toInt ≤ n0_7.toInt) ∧ (n0_7.toInt ≤ y8.toInt) ∧ (TK3 n0_9 n0_6 n0_7) ∧ (0 ≤ n0_10.toInt) ∧ (n0_10.toInt ≤ 999) ∧ (RGR t tn [(31, 0)] [] (FR5 f4) (FR5 G2) y11 y12 y6 n0_11 n0_12 n0_6 n0_7 n0_9 n0_10) ∧ (G2 0 = f4 0))) := by
  refine tk_of (by decide) (Nat.le_of_ble_eq_true rfl) (fun p e s m below meth c ls A H locs hx hb hr hml hown hts hlocks hnm hkb hH hS hA hOX hks hE hl => ?_)
  have hown : s.vm.findClass RX12 = some m.cls := hown
  have hl : lv_has ls 1 [(0, .ref a0)] := hl
  have hOXf := hOX
  have hq1 := (hms k5).2.2.2.1
  refine lv_aload_n hx hb dX12_readStep_0 rfl (lv_at hl 0 rfl) ?_
  refine tk_v hH hS hA (tr_V (n := 0) (As := []) hx hb hml hown hts hkb hH (ox_map hOX rfl) hks hE hS hA (s_M_next l D cs kf T (y4 :: O) ((y4, .inl (cs.2.1, 1302, .inl f4)) :: X) a0 hg mq o0 o1 o2 y3 y4 o5 y6 y7 y8 y9 y10 y11 y12 tl f3 t tn t_a0 b_hg t_y3 t_y4 (by omega) (by omega) (by omega) (by omega) (by omega) (by omega) (by omega) (by omega) (by omega) htm (by omega) (hO.sub (by decide))) kw_1344 kw_1346 ks_43 kw_13 kw_1347 (by decide +kernel) ⟨Nat.le_of_ble_eq_true rfl, Nat.le_of_ble_eq_true rfl⟩ (x_recv (ci := 12) hkb hH 0 rfl rfl) rfl rfl hl.1 (Nat.le_of_ble_eq_true rfl) dX12_readStep_1 ⟨Nat.le_of_ble_eq_true rfl, Nat.le_of_ble_eq_true rfl⟩) (fun u H locs hz9 hH hS => ?_)
  obtain ⟨n1_0_6, n1_0_7, n1_0_9, n1_0_10, rfl, x_v10, x_v11, x_v12, x_v13, x_v14, x_v15, x_v16, x_v17⟩ := hz9
  have hH : HT D cs A T (a0 :: y3 :: y4 :: O) ((a0, .inr (12, o0 :: o1 :: o2 :: (.ref y3) :: (.ref y4) :: o5 :: (.int n1_0_6) :: (.int n1_0_7) :: (.int y8) :: (.int n1_0_9) :: (.int n1_0_10) :: (.int y11) :: (.int y12) :: tl)) :: (y3, .inl (cs.2.1, 900, .inl f3)) :: (y4, .inl (cs.2.1, 1302, .inl f4)) :: X) H := hH
  refine W.widen (k := 0) (n := 0) (Nat.le_of_ble_eq_true rfl) (Nat.le_of_ble_eq_true rfl) ?_
  have g4 : RGR t tn [(31, 0)] [(20, 31), (8, 0)] (FR5 f4) (FR5 f4) y11 y12 y6 y11 y12 n1_0_6 n1_0_7 n1_0_9 n1_0_10 := RGR_g k5 x_v16 (GR_nx (fun _ => st_iS (R := FR5 f4) (by omega)) ((hms k5).nx x_v17))
  refine lv_aload_n hx hb dX12_readStep_4 rfl (lv_at hl 0 rfl) ?_
  refine lv_bipush (v := 31) hx hb dX12_readStep_5 (by decide) ?_
  have z9_31 : (31 : Int32).toInt = 31 := by decide
  refine tk_i hH hS hA (tr_V (n := 1) (As := [.int 31]) hx hb hml hown hts hkb hH (ox_map hOX rfl) hks hE hS hA (s_M_eats l D cs kf T (y4 :: O) ((y4, .inl (cs.2.1, 1302, .inl f4)) :: X) a0 hg mq (31) o0 o1 o2 y3 y4 o5 n1_0_6 n1_0_7 y8 n1_0_9 n1_0_10 y11 y12 tl f3 t tn t_a0 b_hg t_y3 t_y4 (by omega) (by omega) (by omega) (by omega) (by omega) (by omega) (by omega) (by omega) (by omega) htm (by omega) (by omega) x_v13 (by omega) (fun _ => x_v16) (hO.sub (by decide))) kw_1390 kw_1392 ks_52 kw_13 kw_1393 (by decide +kernel) ⟨Nat.le_of_ble_eq_true rfl, Nat.le_of_ble_eq_true rfl⟩ (x_recv (ci := 12) hkb hH 0 rfl rfl) rfl rfl hl.1 (Nat.le_of_ble_eq_true rfl) dX12_readStep_7 ⟨Nat.le_of_ble_eq_true rfl, Nat.le_of_ble_eq_true rfl⟩) (fun v7 u H locs hz9 hH hS => ?_)
  obtain ⟨n7_0_6, n7_0_7, n7_0_9, n7_0_10, rfl, l_v7, u_v7, x_v70, x_v71, x_v72, x_v73, x_v74, x_v75, x_v76, x_v77, x_v78⟩ := hz9
  have hH : HT D cs A T (a0 :: y3 :: y4 :: O) ((a0, .inr (12, o0 :: o1 :: o2 :: (.ref y3) :: (.ref y4) :: o5 :: (.int n7_0_6) :: (.int n7_0_7) :: (.int y8) :: (.int n7_0_9) :: (.int n7_0_10) :: (.int y11) :: (.int y12) :: tl)) :: (y3, .inl (cs.2.1, 900, .inl f3)) :: (y4, .inl (cs.2.1, 1302, .inl f4)) :: X) H := hH
  refine W.widen (k := 0) (n := 0) (Nat.le_of_ble_eq_true rfl) (Nat.le_of_ble_eq_true rfl) ?_
  refine lv_if_ne (tgt := 18) hx hb dX12_readStep_10 (by decide) (fun c10 => ?_) (fun c10 => ?_)
  · skip
    have tc10 := f_ne (k := 0) (by decide) c10
    replace x_v76 := x_v76.resolve_left tc10
    replace x_v77 := x_v77.resolve_left tc10
    clear x_v78
    have g18 : RGR t tn [(31, 0)] [(8, 0)] (FR5 f4) (FR5 f4) y11 y12 y6 y11 y12 n7_0_6 n7_0_7 n7_0_9 n7_0_10 := (by first | (refine RGR.seq g4 (RGR.cons (RGR_g ?_ x_v77.1 (GR_nx (fun _ => st_xY ?_) x_v77.2.1))) <;> omega) | (exact RGR.seq g4 (RGR.cons (RGR_f (R := FR5 f4) (m := 2) (G := []) x_v151 (fun _ => x_v16) (by decide) (by decide) (fun q9 _ => st_xN (by have q8 := x_v16.2.2.2.1; omega))))))
    refine lv_aload_n hx hb dX12_readStep_18 rfl (lv_at hl 0 rfl) ?_
    refine x_getk (ci := 12) (C := RX12) (F := TX12) (N := 36) (v := .ref y4) hx hb hts uX12 hown hkb hH 0 rfl rfl 4 (by decide) rfl kw_1227 (fun _ h9 => h9) dX12_readStep_19 ?_
    refine lv_sipush (v := 401) hx hb dX12_readStep_22 (by decide) ?_
    refine lv_iconst (v := 0) hx hb dX12_readStep_25 (by decide) ?_
    refine xa_ist hx hb hkb hH hS 2 rfl (by decide) (by decide) dX12_readStep_26 (fun H locs hH hS => ?_)
    have hH : HT D cs A T (a0 :: y3 :: y4 :: O) ((a0, .inr (12, o0 :: o1 :: o2 :: (.ref y3) :: (.ref y4) :: o5 :: (.int n7_0_6) :: (.int n7_0_7) :: (.int y8) :: (.int n7_0_9) :: (.int n7_0_10) :: (.int y11) :: (.int y12) :: tl)) :: (y3, .inl (cs.2.1, 900, .inl f3)) :: (y4, .inl (cs.2.1, 1302, .inl (upd f4 (401) (0 : Int32)))) :: X) H := hH
    obtain ⟨F26, eF26⟩ : ∃ f9, f9 = upd f4 (401) (0 : Int32) := ⟨_, rfl⟩
    have hH : HT D cs A T (a0 :: y3 :: y4 :: O) ((a0, .inr (12, o0 :: o1 :: o2 :: (.ref y3) :: (.ref y4) :: o5 :: (.int n7_0_6) :: (.int n7_0_7) :: (.int y8) :: (.int n7_0_9) :: (.int n7_0_10) :: (.int y11) :: (.int y12) :: tl)) :: (y3, .inl (cs.2.1, 900, .inl f3)) :: (y4, .inl (cs.2.1, 1302, .inl F26)) :: X) H := eF26 ▸ hH
    have hz9 := S8_zero s_f4
    rw [← eF26] at hz9
    have s_F26 := hz9.1
    have hz8 := hz9.2.1
    refine lv_aload_n hx hb dX12_readStep_27 rfl (lv_at hl 0 rfl) ?_
    refine lv_iconst (v := 0) hx hb dX12_readStep_28 (by decide) ?_
    have z9_0 : (0 : Int32).toInt = 0 := by decide
    refine tk_v hH hS hA (tr_V (n := 1) (As := [.int 0]) hx hb hml hown hts hkb hH (ox_map hOX rfl) hks hE hS hA (s_M_readTruth0 l D cs kf T O X a0 hg mq (0) o0 o1 o2 y3 y4 o5 n7_0_6 n7_0_7 y8 n7_0_9 n7_0_10 y11 y12 tl f3 F26 t tn t_a0 b_hg (by decide) (by decide) t_y3 t_y4 (by omega) (by omega) (by omega) (by omega) (by omega) (by omega) (by omega) (by omega) s_F26 (by omega) htm (by omega) (by omega) x_v73 (by first | exact k4 | (intro _; omega)) (fun _ => x_v77.1) (hO.sub (by decide))) kw_1402 kw_1404 ks_55 kw_13 kw_1405 (by decide +kernel) ⟨Nat.le_of_ble_eq_true rfl, Nat.le_of_ble_eq_true rfl⟩ (x_recv (ci := 12) hkb hH 0 rfl rfl) rfl rfl hl.1 (Nat.le_of_ble_eq_true rfl) dX12_readStep_29 ⟨Nat.le_of_ble_eq_true rfl, Nat.le_of_ble_eq_true rfl⟩) (fun u H locs hz9 hH hS => ?_)
    obtain ⟨n29_0_6, n29_0_7, n29_0_9, n29_0_10, n29_0_11, n29_0_12, F29_2, rfl, x_v290, x_v291, x_v292, x_v293, x_v294, x_v295, x_v296, x_v297, x_v298, x_v299⟩ := hz9
    have s_F29_2 := x_v290
    have hH : HT D cs A T (a0 :: y3 :: y4 :: O) ((a0, .inr (12, o0 :: o1 :: o2 :: (.ref y3) :: (.ref y4) :: o5 :: (.int n29_0_6) :: (.int n29_0_7) :: (.int y8) :: (.int n29_0_9) :: (.int n29_0_10) :: (.int n29_0_11) :: (.int n29_0_12) :: tl)) :: (y3, .inl (cs.2.1, 900, .inl f3)) :: (y4, .inl (cs.2.1, 1302, .inl F29_2)) :: X) H := hH
    refine W.widen (k := 0) (n := 0) (Nat.le_of_ble_eq_true rfl) (Nat.le_of_ble_eq_true rfl) ?_
    refine lv_aload_n hx hb dX12_readStep_32 rfl (lv_at hl 0 rfl) ?_
    refine x_getk (ci := 12) (C := RX12) (F := TX12) (N := 36) (v := .int n29_0_11) hx hb hts uX12 hown hkb hH 0 rfl rfl 11 (by decide) rfl kw_1234 (fun _ h9 => h9) dX12_readStep_33 ?_
    refine lv_if_ne (tgt := 46) hx hb dX12_readStep_36 (by decide) (fun c36 => ?_) (fun c36 => ?_)
    · skip
      have tc36 := f_ne (k := 0) (by decide) c36
      exact te_v hx hb hr hlocks hH hS (⟨n29_0_6, n29_0_7, n29_0_9, n29_0_10, n29_0_11, n29_0_12, F29_2, rfl, s_F29_2, by omega, by omega, by omega, x_v294, by omega, by omega, (by first | (exact RGR.to (g18.seq (RG.r x_v298)) ((FR5_k x_v299).trans (FR5_o eF26 (Or.inr (by decide))))) | (exact RGR.to (g18.seq (RG.r x_v298)) ((FR5_o eF45 (Or.inl rfl)).trans ((FR5_k x_v299).trans (FR5_o eF26 (Or.inr (by decide))))))), (by first | (rw [x_v299 0 (by decide), eF26]; exact upd_ne (by decide)) | (rw [eF45, upd_ne (by decide), x_v299 0 (by decide), eF26]; exact upd_ne (by decide)))⟩) dX12_readStep_46
    · skip
      have tc36 := f_eq (k := 0) (by decide) c36
      refine lv_aload_n hx hb dX12_readStep_39 rfl (lv_at hl 0 rfl) ?_
      refine x_getk (ci := 12) (C := RX12) (F := TX12) (N := 36) (v := .ref y4) hx hb hts uX12 hown hkb hH 0 rfl rfl 4 (by decide) rfl kw_1227 (fun _ h9 => h9) dX12_readStep_40 ?_
      refine lv_iconst (v := 3) hx hb dX12_readStep_43 (by decide) ?_
      refine lv_iconst (v := 1) hx hb dX12_readStep_44 (by decide) ?_
      refine xa_ist hx hb hkb hH hS 2 rfl (by decide) (by decide) dX12_readStep_45 (fun H locs hH hS => ?_)
      have hH : HT D cs A T (a0 :: y3 :: y4 :: O) ((a0, .inr (12, o0 :: o1 :: o2 :: (.ref y3) :: (.ref y4) :: o5 :: (.int n29_0_6) :: (.int n29_0_7) :: (.int y8) :: (.int n29_0_9) :: (.int n29_0_10) :: (.int n29_0_11) :: (.int n29_0_12) :: tl)) :: (y3, .inl (cs.2.1, 900, .inl f3)) :: (y4, .inl (cs.2.1, 1302, .inl (upd F29_2 (3) (1 : Int32)))) :: X) H := hH
      obtain ⟨F45, eF45⟩ : ∃ f9, f9 = upd F29_2 (3) (1 : Int32) := ⟨_, rfl⟩
      have hH : HT D cs A T (a0 :: y3 :: y4 :: O) ((a0, .inr (12, o0 :: o1 :: o2 :: (.ref y3) :: (.ref y4) :: o5 :: (.int n29_0_6) :: (.int n29_0_7) :: (.int y8) :: (.int n29_0_9) :: (.int n29_0_10) :: (.int n29_0_11) :: (.int n29_0_12) :: tl)) :: (y3, .inl (cs.2.1, 900, .inl f3)) :: (y4, .inl (cs.2.1, 1302, .inl F45)) :: X) H := eF45 ▸ hH
      have s_F45 : S8 F45 := eF45 ▸ S8_put (i := 3) (x := (1 : Int32)) s_F29_2 (by decide) (by decide) (⟨fun q9 => absurd q9 (by decide), fun q9 => absurd q9 (by decide), fun q9 => absurd q9 (by decide), fun q9 => absurd q9 (by decide), fun q9 => absurd q9 (by decide), fun q9 => absurd q9 (by decide), fun q9 => absurd q9 (by decide)⟩)
      exact te_v hx hb hr hlocks hH hS (⟨n29_0_6, n29_0_7, n29_0_9, n29_0_10, n29_0_11, n29_0_12, F45, rfl, s_F45, by omega, by omega, by omega, x_v294, by omega, by omega, (by first | (exact RGR.to (g18.seq (RG.r x_v298)) ((FR5_k x_v299).trans (FR5_o eF26 (Or.inr (by decide))))) | (exact RGR.to (g18.seq (RG.r x_v298)) ((FR5_o eF45 (Or.inl rfl)).trans ((FR5_k x_v299).trans (FR5_o eF26 (Or.inr (by decide))))))), (by first | (rw [x_v299 0 (by decide), eF26]; exact upd_ne (by decide)) | (rw [eF45, upd_ne (by decide), x_v299 0 (by decide), eF26]; exact upd_ne (by decide)))⟩) dX12_readStep_46
  · skip
    have tc10 := f_eq (k := 0) (by decide) c10
    clear x_v76
    clear x_v77
    replace x_v78 := x_v78.resolve_left (fun q9 => q9 tc10)
    obtain ⟨e6, e7, e9, e10, x_v78⟩ := x_v78
    subst e6 e7 e9 e10
    refine lv_aload_n hx hb dX12_readStep_13 rfl (lv_at hl 0 rfl) ?_
    refine lv_iconst (v := 2) hx hb dX12_readStep_14 (by decide) ?_
    have z9_2 : (2 : Int32).toInt = 2 := by decide
    refine tk_v hH hS hA (tr_V (n := 1) (As := [.int 2]) hx hb hml hown hts hkb hH (ox_map hOX rfl) hks hE hS hA (s_M_fails l D cs kf T (y4 :: O) ((y4, .inl (cs.2.1, 1302, .inl f4)) :: X) a0 hg mq (2) o0 o1 o2 y3 y4 o5 n1_0_6 n1_0_7 y8 n1_0_9 n1_0_10 y11 y12 tl f3 t tn t_a0 b_hg (by decide) (by decide) t_y3 t_y4 (by omega) (by omega) (by omega) (by omega) (by omega) (by omega) (by omega) (by omega) (by omega) htm (hO.sub (by decide))) kw_1378 kw_1380 ks_49 kw_13 kw_1381 (by decide +kernel) ⟨Nat.le_of_ble_eq_true rfl, Nat.le_of_ble_eq_true rfl⟩ (x_recv (ci := 12) hkb hH 0 rfl rfl) rfl rfl hl.1 (Nat.le_of_ble_eq_true rfl) dX12_readStep_15 ⟨Nat.le_of_ble_eq_true rfl, Nat.le_of_ble_eq_true rfl⟩) (fun u H locs hz9 hH hS => ?_)
    obtain ⟨n15_0_11, n15_0_12, rfl, x_v150, x_v151⟩ := hz9
    have hH : HT D cs A T (a0 :: y3 :: y4 :: O) ((a0, .inr (12, o0 :: o1 :: o2 :: (.ref y3) :: (.ref y4) :: o5 :: (.int n1_0_6) :: (.int n1_0_7) :: (.int y8) :: (.int n1_0_9) :: (.int n1_0_10) :: (.int n15_0_11) :: (.int n15_0_12) :: tl)) :: (y3, .inl (cs.2.1, 900, .inl f3)) :: (y4, .inl (cs.2.1, 1302, .inl f4)) :: X) H := hH
    refine W.widen (k := 0) (n := 0) (Nat.le_of_ble_eq_true rfl) (Nat.le_of_ble_eq_true rfl) ?_
    have g18 : RGR t tn [(31, 0)] [(8, 0)] (FR5 f4) (FR5 f4) y11 y12 y6 n15_0_11 n15_0_12 n1_0_6 n1_0_7 n1_0_9 n1_0_10 := (by first | (refine RGR.seq g4 (RGR.cons (RGR_g ?_ x_v77.1 (GR_nx (fun _ => st_xY ?_) x_v77.2.1))) <;> omega) | (exact RGR.seq g4 (RGR.cons (RGR_f (R := FR5 f4) (m := 2) (G := []) x_v151 (fun _ => x_v16) (by decide) (by decide) (fun q9 _ => st_xN (by have q8 := x_v16.2.2.2.1; omega))))))
    refine lv_aload_n hx hb dX12_readStep_18 rfl (lv_at hl 0 rfl) ?_
    refine x_getk (ci := 12) (C := RX12) (F := TX12) (N := 36) (v := .ref y4) hx hb hts uX12 hown hkb hH 0 rfl rfl 4 (by decide) rfl kw_1227 (fun _ h9 => h9) dX12_readStep_19 ?_
    refine lv_sipush (v := 401) hx hb dX12_readStep_22 (by decide) ?_
    refine lv_iconst (v := 0) hx hb dX12_readStep_25 (by decide) ?_
    refine xa_ist hx hb hkb hH hS 2 rfl (by decide) (by decide) dX12_readStep_26 (fun H locs hH hS => ?_)
    have hH : HT D cs A T (a0 :: y3 :: y4 :: O) ((a0, .inr (12, o0 :: o1 :: o2 :: (.ref y3) :: (.ref y4) :: o5 :: (.int n1_0_6) :: (.int n1_0_7) :: (.int y8) :: (.int n1_0_9) :: (.int n1_0_10) :: (.int n15_0_11) :: (.int n15_0_12) :: tl)) :: (y3, .inl (cs.2.1, 900, .inl f3)) :: (y4, .inl (cs.2.1, 1302, .inl (upd f4 (401) (0 : Int32)))) :: X) H := hH
    obtain ⟨F26, eF26⟩ : ∃ f9, f9 = upd f4 (401) (0 : Int32) := ⟨_, rfl⟩
    have hH : HT D cs A T (a0 :: y3 :: y4 :: O) ((a0, .inr (12, o0 :: o1 :: o2 :: (.ref y3) :: (.ref y4) :: o5 :: (.int n1_0_6) :: (.int n1_0_7) :: (.int y8) :: (.int n1_0_9) :: (.int n1_0_10) :: (.int n15_0_11) :: (.int n15_0_12) :: tl)) :: (y3, .inl (cs.2.1, 900, .inl f3)) :: (y4, .inl (cs.2.1, 1302, .inl F26)) :: X) H := eF26 ▸ hH
    have hz9 := S8_zero s_f4
    rw [← eF26] at hz9
    have s_F26 := hz9.1
    have hz8 := hz9.2.1
    refine lv_aload_n hx hb dX12_readStep_27 rfl (lv_at hl 0 rfl) ?_
    refine lv_iconst (v := 0) hx hb dX12_readStep_28 (by decide) ?_
    have z9_0 : (0 : Int32).toInt = 0 := by decide
    refine tk_v hH hS hA (tr_V (n := 1) (As := [.int 0]) hx hb hml hown hts hkb hH (ox_map hOX rfl) hks hE hS hA (s_M_readTruth0 l D cs kf T O X a0 hg mq (0) o0 o1 o2 y3 y4 o5 n1_0_6 n1_0_7 y8 n1_0_9 n1_0_10 n15_0_11 n15_0_12 tl f3 F26 t tn t_a0 b_hg (by decide) (by decide) t_y3 t_y4 (by omega) (by omega) (by omega) (by omega) (by omega) (by omega) (by omega) (by omega) s_F26 (by omega) htm (by omega) (by omega) x_v73 (by first | exact k4 | exact (fun q => absurd q x_v150) | (intro _; omega)) (fun q9 => absurd q9 x_v150) (hO.sub (by decide))) kw_1402 kw_1404 ks_55 kw_13 kw_1405 (by decide +kernel) ⟨Nat.le_of_ble_eq_true rfl, Nat.le_of_ble_eq_true rfl⟩ (x_recv (ci := 12) hkb hH 0 rfl rfl) rfl rfl hl.1 (Nat.le_of_ble_eq_true rfl) dX12_readStep_29 ⟨Nat.le_of_ble_eq_true rfl, Nat.le_of_ble_eq_true rfl⟩) (fun u H locs hz9 hH hS => ?_)
    obtain ⟨n29_0_6, n29_0_7, n29_0_9, n29_0_10, n29_0_11, n29_0_12, F29_2, rfl, x_v290, x_v291, x_v292, x_v293, x_v294, x_v295, x_v296, x_v297, x_v298, x_v299⟩ := hz9
    have s_F29_2 := x_v290
    have hH : HT D cs A T (a0 :: y3 :: y4 :: O) ((a0, .inr (12, o0 :: o1 :: o2 :: (.ref y3) :: (.ref y4) :: o5 :: (.int n29_0_6) :: (.int n29_0_7) :: (.int y8) :: (.int n29_0_9) :: (.int n29_0_10) :: (.int n29_0_11) :: (.int n29_0_12) :: tl)) :: (y3, .inl (cs.2.1, 900, .inl f3)) :: (y4, .inl (cs.2.1, 1302, .inl F29_2)) :: X) H := hH
    refine W.widen (k := 0) (n := 0) (Nat.le_of_ble_eq_true rfl) (Nat.le_of_ble_eq_true rfl) ?_
    refine lv_aload_n hx hb dX12_readStep_32 rfl (lv_at hl 0 rfl) ?_
    refine x_getk (ci := 12) (C := RX12) (F := TX12) (N := 36) (v := .int n29_0_11) hx hb hts uX12 hown hkb hH 0 rfl rfl 11 (by decide) rfl kw_1234 (fun _ h9 => h9) dX12_readStep_33 ?_
    refine lv_if_ne (tgt := 46) hx hb dX12_readStep_36 (by decide) (fun c36 => ?_) (fun c36 => ?_)
    · skip
      have tc36 := f_ne (k := 0) (by decide) c36
      exact te_v hx hb hr hlocks hH hS (⟨n29_0_6, n29_0_7, n29_0_9, n29_0_10, n29_0_11, n29_0_12, F29_2, rfl, s_F29_2, by omega, by omega, by omega, x_v294, by omega, by omega, (by first | (exact RGR.to (g18.seq (RG.r x_v298)) ((FR5_k x_v299).trans (FR5_o eF26 (Or.inr (by decide))))) | (exact RGR.to (g18.seq (RG.r x_v298)) ((FR5_o eF45 (Or.inl rfl)).trans ((FR5_k x_v299).trans (FR5_o eF26 (Or.inr (by decide))))))), (by first | (rw [x_v299 0 (by decide), eF26]; exact upd_ne (by decide)) | (rw [eF45, upd_ne (by decide), x_v299 0 (by decide), eF26]; exact upd_ne (by decide)))⟩) dX12_readStep_46
    · skip
      have tc36 := f_eq (k := 0) (by decide) c36
      refine lv_aload_n hx hb dX12_readStep_39 rfl (lv_at hl 0 rfl) ?_
      refine x_getk (ci := 12) (C := RX12) (F := TX12) (N := 36) (v := .ref y4) hx hb hts uX12 hown hkb hH 0 rfl rfl 4 (by decide) rfl kw_1227 (fun _ h9 => h9) dX12_readStep_40 ?_
      refine lv_iconst (v := 3) hx hb dX12_readStep_43 (by decide) ?_
      refine lv_iconst (v := 1) hx hb dX12_readStep_44 (by decide) ?_
      refine xa_ist hx hb hkb hH hS 2 rfl (by decide) (by decide) dX12_readStep_45 (fun H locs hH hS => ?_)
      have hH : HT D cs A T (a0 :: y3 :: y4 :: O) ((a0, .inr (12, o0 :: o1 :: o2 :: (.ref y3) :: (.ref y4) :: o5 :: (.int n29_0_6) :: (.int n29_0_7) :: (.int y8) :: (.int n29_0_9) :: (.int n29_0_10) :: (.int n29_0_11) :: (.int n29_0_12) :: tl)) :: (y3, .inl (cs.2.1, 900, .inl f3)) :: (y4, .inl (cs.2.1, 1302, .inl (upd F29_2 (3) (1 : Int32)))) :: X) H := hH
      obtain ⟨F45, eF45⟩ : ∃ f9, f9 = upd F29_2 (3) (1 : Int32) := ⟨_, rfl⟩
      have hH : HT D cs A T (a0 :: y3 :: y4 :: O) ((a0, .inr (12, o0 :: o1 :: o2 :: (.ref y3) :: (.ref y4) :: o5 :: (.int n29_0_6) :: (.int n29_0_7) :: (.int y8) :: (.int n29_0_9) :: (.int n29_0_10) :: (.int n29_0_11) :: (.int n29_0_12) :: tl)) :: (y3, .inl (cs.2.1, 900, .inl f3)) :: (y4, .inl (cs.2.1, 1302, .inl F45)) :: X) H := eF45 ▸ hH
      have s_F45 : S8 F45 := eF45 ▸ S8_put (i := 3) (x := (1 : Int32)) s_F29_2 (by decide) (by decide) (⟨fun q9 => absurd q9 (by decide), fun q9 => absurd q9 (by decide), fun q9 => absurd q9 (by decide), fun q9 => absurd q9 (by decide), fun q9 => absurd q9 (by decide), fun q9 => absurd q9 (by decide), fun q9 => absurd q9 (by decide)⟩)
      exact te_v hx hb hr hlocks hH hS (⟨n29_0_6, n29_0_7, n29_0_9, n29_0_10, n29_0_11, n29_0_12, F45, rfl, s_F45, by omega, by omega, by omega, x_v294, by omega, by omega, (by first | (exact RGR.to (g18.seq (RG.r x_v298)) ((FR5_k x_v299).trans (FR5_o eF26 (Or.inr (by decide))))) | (exact RGR.to (g18.seq (RG.r x_v298)) ((FR5_o eF45 (Or.inl rfl)).trans ((FR5_k x_v299).trans (FR5_o eF26 (Or.inr (by decide))))))), (by first | (rw [x_v299 0 (by decide), eF26]; exact upd_ne (by decide)) | (rw [eF45, upd_ne (by decide), x_v299 0 (by decide), eF26]; exact upd_ne (by decide)))⟩) dX12_readStep_46
theorem dX12_readUsed_0 : decode cX12_readUsed 0 = .ok (.aload_n 0, 1) := by decide +kernel
theorem dX12_readUsed_1 : decode cX12_readUsed 1 = .ok (.invokevirtual 137, 3) := by decide +kernel
theorem dX12_readUsed_4 : decode cX12_readUsed 4 = .ok (.aload_n 0, 1) := by decide +kernel
theorem dX12_readUsed_5 : decode cX12_readUsed 5 = .ok (.bipush 21, 2) := by decide +kernel
theorem dX12_readUsed_7 : decode cX12_readUsed 7 = .ok (.invokevirtual 134, 3) := by decide +kernel
theorem dX12_readUsed_10 : decode cX12_readUsed 10 = .ok (.ifCond .eq 53, 3) := by decide +kernel
theorem dX12_readUsed_13 : decode cX12_readUsed 13 = .ok (.aload_n 0, 1) := by decide +kernel
theorem dX12_readUsed_14 : decode cX12_readUsed 14 = .ok (.getfield 123, 3) := by decide +kernel
theorem dX12_readUsed_17 : decode cX12_readUsed 17 = .ok (.i2l, 1) := by decide +kernel
theorem dX12_readUsed_18 : decode cX12_readUsed 18 = .ok (.lconst 0, 1) := by decide +kernel
theorem dX12_readUsed_19 : decode cX12_readUsed 19 = .ok (.aload_n 0, 1) := by decide +kernel
theorem dX12_readUsed_20 : decode cX12_readUsed 20 = .ok (.getfield 24, 3) := by decide +kernel
theorem dX12_readUsed_23 : decode cX12_readUsed 23 = .ok (.iconst 1, 1) := by decide +kernel
theorem dX12_readUsed_24 : decode cX12_readUsed 24 = .ok (.iaload, 1) := by decide +kernel
theorem dX12_readUsed_25 : decode cX12_readUsed 25 = .ok (.iconst 1, 1) := by decide +kernel
theorem dX12_readUsed_26 : decode cX12_readUsed 26 = .ok (.isub, 1) := by decide +kernel
theorem dX12_readUsed_27 : decode cX12_readUsed 27 = .ok (.i2l, 1) := by decide +kernel
theorem dX12_readUsed_28 : decode cX12_readUsed 28 = .ok (.invokestatic 144, 3) := by decide +kernel
theorem dX12_readUsed_31 : decode cX12_readUsed 31 = .ok (.ifCond .eq 32, 3) := by decide +kernel
theorem dX12_readUsed_34 : decode cX12_readUsed 34 = .ok (.aload_n 0, 1) := by decide +kernel
theorem dX12_readUsed_35 : decode cX12_readUsed 35 = .ok (.getfield 24, 3) := by decide +kernel
theorem dX12_readUsed_38 : decode cX12_readUsed 38 = .ok (.iconst 4, 1) := by decide +kernel
theorem dX12_readUsed_39 : decode cX12_readUsed 39 = .ok (.iaload, 1) := by decide +kernel
theorem dX12_readUsed_40 : decode cX12_readUsed 40 = .ok (.aload_n 0, 1) := by decide +kernel
theorem dX12_readUsed_41 : decode cX12_readUsed 41 = .ok (.getfield 24, 3) := by decide +kernel
theorem dX12_readUsed_44 : decode cX12_readUsed 44 = .ok (.iconst 5, 1) := by decide +kernel
theorem dX12_readUsed_45 : decode cX12_readUsed 45 = .ok (.iaload, 1) := by decide +kernel
theorem dX12_readUsed_46 : decode cX12_readUsed 46 = .ok (.ior, 1) := by decide +kernel
theorem dX12_readUsed_47 : decode cX12_readUsed 47 = .ok (.i2l, 1) := by decide +kernel
theorem dX12_readUsed_48 : decode cX12_readUsed 48 = .ok (.aload_n 0, 1) := by decide +kernel
theorem dX12_readUsed_49 : decode cX12_readUsed 49 = .ok (.getfield 123, 3) := by decide +kernel
theorem dX12_readUsed_52 : decode cX12_readUsed 52 = .ok (.invokestatic 186, 3) := by decide +kernel
theorem dX12_readUsed_55 : decode cX12_readUsed 55 = .ok (.ifCond .eq 8, 3) := by decide +kernel
theorem dX12_readUsed_58 : decode cX12_readUsed 58 = .ok (.aload_n 0, 1) := by decide +kernel
theorem dX12_readUsed_59 : decode cX12_readUsed 59 = .ok (.iconst 3, 1) := by decide +kernel
theorem dX12_readUsed_60 : decode cX12_readUsed 60 = .ok (.invokevirtual 140, 3) := by decide +kernel
theorem dX12_readUsed_63 : decode cX12_readUsed 63 = .ok (.aload_n 0, 1) := by decide +kernel
theorem dX12_readUsed_64 : decode cX12_readUsed 64 = .ok (.iconst 0, 1) := by decide +kernel
theorem dX12_readUsed_65 : decode cX12_readUsed 65 = .ok (.aload_n 0, 1) := by decide +kernel
theorem dX12_readUsed_66 : decode cX12_readUsed 66 = .ok (.getfield 24, 3) := by decide +kernel
theorem dX12_readUsed_69 : decode cX12_readUsed 69 = .ok (.iconst 1, 1) := by decide +kernel
theorem dX12_readUsed_70 : decode cX12_readUsed 70 = .ok (.iaload, 1) := by decide +kernel
theorem dX12_readUsed_71 : decode cX12_readUsed 71 = .ok (.iconst 1, 1) := by decide +kernel
theorem dX12_readUsed_72 : decode cX12_readUsed 72 = .ok (.isub, 1) := by decide +kernel
theorem dX12_readUsed_73 : decode cX12_readUsed 73 = .ok (.invokevirtual 179, 3) := by decide +kernel
theorem dX12_readUsed_76 : decode cX12_readUsed 76 = .ok (.istore_n 1, 1) := by decide +kernel
theorem dX12_readUsed_77 : decode cX12_readUsed 77 = .ok (.aload_n 0, 1) := by decide +kernel
theorem dX12_readUsed_78 : decode cX12_readUsed 78 = .ok (.bipush 6, 2) := by decide +kernel
theorem dX12_readUsed_80 : decode cX12_readUsed 80 = .ok (.invokevirtual 155, 3) := by decide +kernel
theorem dX12_readUsed_83 : decode cX12_readUsed 83 = .ok (.ifCond .ne 8, 3) := by decide +kernel
theorem dX12_readUsed_86 : decode cX12_readUsed 86 = .ok (.aload_n 0, 1) := by decide +kernel
theorem dX12_readUsed_87 : decode cX12_readUsed 87 = .ok (.iconst 2, 1) := by decide +kernel
theorem dX12_readUsed_88 : decode cX12_readUsed 88 = .ok (.invokevirtual 140, 3) := by decide +kernel
theorem dX12_readUsed_91 : decode cX12_readUsed 91 = .ok (.aload_n 0, 1) := by decide +kernel
theorem dX12_readUsed_92 : decode cX12_readUsed 92 = .ok (.iconst 0, 1) := by decide +kernel
theorem dX12_readUsed_93 : decode cX12_readUsed 93 = .ok (.aload_n 0, 1) := by decide +kernel
theorem dX12_readUsed_94 : decode cX12_readUsed 94 = .ok (.getfield 24, 3) := by decide +kernel
theorem dX12_readUsed_97 : decode cX12_readUsed 97 = .ok (.iconst 2, 1) := by decide +kernel
theorem dX12_readUsed_98 : decode cX12_readUsed 98 = .ok (.iaload, 1) := by decide +kernel
theorem dX12_readUsed_99 : decode cX12_readUsed 99 = .ok (.iconst 1, 1) := by decide +kernel
theorem dX12_readUsed_100 : decode cX12_readUsed 100 = .ok (.isub, 1) := by decide +kernel
theorem dX12_readUsed_101 : decode cX12_readUsed 101 = .ok (.invokevirtual 179, 3) := by decide +kernel
theorem dX12_readUsed_104 : decode cX12_readUsed 104 = .ok (.istore_n 2, 1) := by decide +kernel
theorem dX12_readUsed_105 : decode cX12_readUsed 105 = .ok (.aload_n 0, 1) := by decide +kernel
theorem dX12_readUsed_106 : decode cX12_readUsed 106 = .ok (.getfield 128, 3) := by decide +kernel
theorem dX12_readUsed_109 : decode cX12_readUsed 109 = .ok (.ifCond .ne 28, 3) := by decide +kernel
theorem dX12_readUsed_112 : decode cX12_readUsed 112 = .ok (.aload_n 0, 1) := by decide +kernel
theorem dX12_readUsed_113 : decode cX12_readUsed 113 = .ok (.getfield 24, 3) := by decide +kernel
theorem dX12_readUsed_116 : decode cX12_readUsed 116 = .ok (.bipush 87, 2) := by decide +kernel
theorem dX12_readUsed_118 : decode cX12_readUsed 118 = .ok (.iaload, 1) := by decide +kernel
theorem dX12_readUsed_119 : decode cX12_readUsed 119 = .ok (.i2l, 1) := by decide +kernel
theorem dX12_readUsed_120 : decode cX12_readUsed 120 = .ok (.iload_n 1, 1) := by decide +kernel
theorem dX12_readUsed_121 : decode cX12_readUsed 121 = .ok (.invokestatic 186, 3) := by decide +kernel
theorem dX12_readUsed_124 : decode cX12_readUsed 124 = .ok (.ifCond .ne 13, 3) := by decide +kernel
theorem dX12_readUsed_127 : decode cX12_readUsed 127 = .ok (.aload_n 0, 1) := by decide +kernel
theorem dX12_readUsed_128 : decode cX12_readUsed 128 = .ok (.getfield 24, 3) := by decide +kernel
theorem dX12_readUsed_131 : decode cX12_readUsed 131 = .ok (.bipush 59, 2) := by decide +kernel
theorem dX12_readUsed_133 : decode cX12_readUsed 133 = .ok (.iload_n 1, 1) := by decide +kernel
theorem dX12_readUsed_134 : decode cX12_readUsed 134 = .ok (.iadd, 1) := by decide +kernel
theorem dX12_readUsed_135 : decode cX12_readUsed 135 = .ok (.iload_n 2, 1) := by decide +kernel
theorem dX12_readUsed_136 : decode cX12_readUsed 136 = .ok (.iastore, 1) := by decide +kernel
theorem dX12_readUsed_137 : decode cX12_readUsed 137 = .ok (.return_, 1) := by decide +kernel
theorem kw_1440 : Cond.methodLink "FootholdWallModel" 186 yX12_isIn ∈ gw := gw_of (tb_of 1440 (by decide +kernel)) (by decide +kernel)
theorem kw_1441 : Cond.static yX12_isIn ∈ gw := gw_of (tb_of 1441 (by decide +kernel)) (by decide +kernel)
theorem kw_1442 : Cond.code yX12_isIn cX12_isIn 3 (some (.boolean)) ∈ gw := gw_of (tb_of 1442 (by decide +kernel)) (by decide +kernel)
set_option maxHeartbeats 4000000 in
set_option maxRecDepth 100000 in
theorem s_M_isIn2 (l : Launch) (D : va_G) (cs : CS) (kf : KF) (T : TF) (O : List Nat) (X : va_W) (x0 : Int64) (x1 : Int32)  (hO : okO T O []) : TK l D cs kf yX12_isIn cX12_isIn 3 (some (.boolean)) { frames := 0, cells := 0, slots := 0, locals := 0 } [.long x0, .int x1] T O X (Ti D cs (fun r u => u = (T, O, X) ∧ 0 ≤ r.toInt ∧ r.toInt ≤ 1 ∧ (r = inF x0 x1))) := by
  refine tk_of (by decide) (Nat.le_of_ble_eq_true rfl) (fun p e s m below meth c ls A H locs hx hb hr hml hown hts hlocks hnm hkb hH hS hA hOX hks hE hl => ?_)
  have hown : s.vm.findClass RX12 = some m.cls := hown
  have hl : lv_has ls 3 [(0, .long x0), (2, .int x1)] := hl
  refine lv_lload_n hx hb dX12_isIn_0 rfl (lv_at hl 0 rfl) ?_
  refine lv_iload_n hx hb dX12_isIn_1 rfl (lv_at hl 1 rfl) ?_
  refine lv_lshr hx hb dX12_isIn_2 rfl ?_
  refine lv_topl (fun v2 ev2 => ?_)
  refine lv_lconst (v := 1) hx hb dX12_isIn_3 (by decide) ?_
  refine lv_land hx hb dX12_isIn_4 ?_
  refine lv_topl (fun v4 ev4 => ?_)
  refine lv_lconst (v := 1) hx hb dX12_isIn_5 (by decide) ?_
  refine W.lcmp hx hb dX12_isIn_6 ?_
  refine lv_if_ne (tgt := 14) hx hb dX12_isIn_7 (by decide) (fun c7 => ?_) (fun c7 => ?_)
  · skip
    have tc7 := ne_l c7
    have kc7_1 : (1 : Int64).toInt = 1 := by decide
    refine lv_iconst (v := 0) hx hb dX12_isIn_14 (by decide) ?_
    have z9_0 : (0 : Int32).toInt = 0 := by decide
    exact te_z hx hb hr hlocks (by rfl) hH hS (⟨rfl, by decide, by decide, inF_0 ev2 ev4 tc7⟩) dX12_isIn_15
  · skip
    have tc7 := eq_l c7
    have kc7_1 : (1 : Int64).toInt = 1 := by decide
    refine lv_iconst (v := 1) hx hb dX12_isIn_10 (by decide) ?_
    refine lv_goto (tgt := 15) hx hb dX12_isIn_11 (by decide) ?_
    have z9_1 : (1 : Int32).toInt = 1 := by decide
    exact te_z hx hb hr hlocks (by rfl) hH hS (⟨rfl, by decide, by decide, inF_1 ev2 ev4 tc7⟩) dX12_isIn_15
set_option maxHeartbeats 4000000 in
set_option maxRecDepth 100000 in
theorem s_M_readUsed (l : Launch) (D : va_G) (cs : CS) (kf : KF) (T : TF) (O : List Nat) (X : va_W) (a0 hg mq : Nat) (o0 : Value) (o1 : Value) (o2 : Value) (y3 : Nat) (y4 : Nat) (o5 : Value) (y6 : Int32) (y7 : Int32) (y8 : Int32) (y9 : Int32) (y10 : Int32) (y11 : Int32) (y12 : Int32) (tl : List Value) (f3 : Nat → Int32) (f4 : Nat → Int32) (t : Tp) (tn : Nat) (t_a0 : T a0 = some (22, hg, mq)) (b_hg : hg < 90) (t_y3 : T y3 = some (9, 900, 0)) (t_y4 : T y4 = some (8, 1302, 0)) (l_y6 : 0 ≤ y6.toInt) (u_y6 : y6.toInt ≤ 900) (l_y7 : 0 ≤ y7.toInt) (u_y7 : y7.toInt ≤ 900) (l_y8 : 0 ≤ y8.toInt) (u_y8 : y8.toInt ≤ 900) (l_y10 : 0 ≤ y10.toInt) (u_y10 : y10.toInt ≤ 999) (s_f4 : S8 f4) (hn : y8.toInt = (tn : Int)) (htm : TM f3 t) (k1 : y6.toInt ≤ y7.toInt) (k2 : y7.toInt ≤ y8.toInt) (k3 : TK3 y9 y6 y7) (k5 : y11.toInt = 0) (k6 : y9.toInt ≠ 22) (hms : MSW t tn y11 y6 y7 y9 y10) (kk : y9.toInt = 5) (hO : okO T (a0 :: y3 :: y4 :: O) []) : TK l D cs kf yX12_readUsed cX12_readUsed 3 none { frames := 7, cells := 0, slots := 0, locals := 152 } [.ref a0] T (a0 :: y3 :: y4 :: O) ((a0, .inr (12, o0 :: o1 :: o2 :: (.ref y3) :: (.ref y4) :: o5 :: (.int y6) :: (.int y7) :: (.int y8) :: (.int y9) :: (.int y10) :: (.int y11) :: (.int y12) :: tl)) :: (y3, .inl (cs.2.1, 900, .inl f3)) :: (y4, .inl (cs.2.1, 1302, .inl f4)) :: X) (Tv D cs (fun u => ∃ (n0_6 : Int32) (n0_7 : Int32) (n0_9 : Int32) (n0_10 : Int32) (n0_11 : Int32) (n0_12 : Int32) (G2 : Nat → Int32), u = (T, a0 :: y3 :: y4 :: O, (a0, .inr (12, o0 :: o1 :: o2 :: (.ref y3) :: (.ref y4) :: o5 :: (.int n0_6) :: (.int n0_7) :: (.int y8) :: (.int n0_9) :: (.int n0_10) :: (.int n0_11) :: (.int n0_12) :: tl)) :: (y3, .inl (cs.2.1, 900, .inl f3)) :: (y4, .inl (cs.2.1, 1302, .inl G2)) :: X) ∧ (S8 G2) ∧ (y6.toInt ≤ n0_6.toInt) ∧ (n0_6.toInt ≤ n0_7.toInt) ∧ (n0_7.toInt ≤ y8.toInt) ∧ (TK3 n0_9 n0_6 n0_7) ∧ (0 ≤ n0_10.toInt) ∧ (n0_10.toInt ≤ 999) ∧ (RGR t tn [(31, 0)] [] (FR5 f4) (FR5 G2) y11 y12 y6 n0_11 n0_12 n0_6 n0_7 n0_9 n0_10) ∧ (G2 0 = f4 0))) := by
  refine tk_of (by decide) (Nat.le_of_ble_eq_true rfl) (fun p e s m below meth c ls A H locs hx hb hr hml hown hts hlocks hnm hkb hH hS hA hOX hks hE hl => ?_)
  have hown : s.vm.findClass RX12 = some m.cls := hown
  have hl : lv_has ls 3 [(0, .ref a0)] := hl
  have hOXf := hOX
  have hq1 := (hms k5).2.2.2.1
  refine lv_aload_n hx hb dX12_readUsed_0 rfl (lv_at hl 0 rfl) ?_
  refine tk_v hH hS hA (tr_V (n := 0) (As := []) hx hb hml hown hts hkb hH (ox_map hOX rfl) hks hE hS hA (s_M_next l D cs kf T (y4 :: O) ((y4, .inl (cs.2.1, 1302, .inl f4)) :: X) a0 hg mq o0 o1 o2 y3 y4 o5 y6 y7 y8 y9 y10 y11 y12 tl f3 t tn t_a0 b_hg t_y3 t_y4 (by omega) (by omega) (by omega) (by omega) (by omega) (by omega) (by omega) (by omega) (by omega) htm (by omega) (hO.sub (by decide))) kw_1344 kw_1346 ks_43 kw_13 kw_1347 (by decide +kernel) ⟨Nat.le_of_ble_eq_true rfl, Nat.le_of_ble_eq_true rfl⟩ (x_recv (ci := 12) hkb hH 0 rfl rfl) rfl rfl hl.1 (Nat.le_of_ble_eq_true rfl) dX12_readUsed_1 ⟨Nat.le_of_ble_eq_true rfl, Nat.le_of_ble_eq_true rfl⟩) (fun u H locs hz9 hH hS => ?_)
  obtain ⟨n1_0_6, n1_0_7, n1_0_9, n1_0_10, rfl, x_v10, x_v11, x_v12, x_v13, x_v14, x_v15, x_v16, x_v17⟩ := hz9
  have hH : HT D cs A T (a0 :: y3 :: y4 :: O) ((a0, .inr (12, o0 :: o1 :: o2 :: (.ref y3) :: (.ref y4) :: o5 :: (.int n1_0_6) :: (.int n1_0_7) :: (.int y8) :: (.int n1_0_9) :: (.int n1_0_10) :: (.int y11) :: (.int y12) :: tl)) :: (y3, .inl (cs.2.1, 900, .inl f3)) :: (y4, .inl (cs.2.1, 1302, .inl f4)) :: X) H := hH
  refine W.widen (k := 0) (n := 0) (Nat.le_of_ble_eq_true rfl) (Nat.le_of_ble_eq_true rfl) ?_
  have g4 : RGR t tn [(31, 0)] [(35, 0), (20, 6), (36, 0)] (FR5 f4) (FR5 f4) y11 y12 y6 y11 y12 n1_0_6 n1_0_7 n1_0_9 n1_0_10 := RGR_g k5 x_v16 (GR_nx (fun _ => st_iU (R := FR5 f4) (by omega)) ((hms k5).nx x_v17))
  have hq4 := x_v16.2.2.2.1
  refine lv_aload_n hx hb dX12_readUsed_4 rfl (lv_at hl 0 rfl) ?_
  refine lv_bipush (v := 21) hx hb dX12_readUsed_5 (by decide) ?_
  have z9_21 : (21 : Int32).toInt = 21 := by decide
  refine tk_i hH hS hA (tr_V (n := 1) (As := [.int 21]) hx hb hml hown hts hkb hH (ox_map hOX rfl) hks hE hS hA (s_M_is l D cs kf T (y4 :: O) ((y4, .inl (cs.2.1, 1302, .inl f4)) :: X) a0 hg mq (21) o0 o1 o2 y3 y4 o5 n1_0_6 n1_0_7 y8 n1_0_9 n1_0_10 y11 y12 tl f3 t tn t_a0 b_hg t_y3 t_y4 (by omega) (by omega) (by omega) (by omega) (by omega) (by omega) (by omega) (by omega) (by omega) htm (hO.sub (by decide))) kw_1370 kw_1372 ks_47 kw_13 kw_1373 (by decide +kernel) ⟨Nat.le_of_ble_eq_true rfl, Nat.le_of_ble_eq_true rfl⟩ (x_recv (ci := 12) hkb hH 0 rfl rfl) rfl rfl hl.1 (Nat.le_of_ble_eq_true rfl) dX12_readUsed_7 ⟨Nat.le_of_ble_eq_true rfl, Nat.le_of_ble_eq_true rfl⟩) (fun v7 u H locs hz9 hH hS => ?_)
  obtain ⟨rfl, l_v7, u_v7, x_v70, x_v71⟩ := hz9
  have hH : HT D cs A T (a0 :: y3 :: y4 :: O) ((a0, .inr (12, o0 :: o1 :: o2 :: (.ref y3) :: (.ref y4) :: o5 :: (.int n1_0_6) :: (.int n1_0_7) :: (.int y8) :: (.int n1_0_9) :: (.int n1_0_10) :: (.int y11) :: (.int y12) :: tl)) :: (y3, .inl (cs.2.1, 900, .inl f3)) :: (y4, .inl (cs.2.1, 1302, .inl f4)) :: X) H := hH
  refine W.widen (k := 0) (n := 0) (Nat.le_of_ble_eq_true rfl) (Nat.le_of_ble_eq_true rfl) ?_
  refine lv_if_eq (tgt := 63) hx hb dX12_readUsed_10 (by decide) (fun c10 => ?_) (fun c10 => ?_)
  · skip
    have tc10 := f_eq (k := 0) (by decide) c10
    clear x_v70
    replace x_v71 := x_v71.resolve_left (fun q9 => q9 tc10)
    refine lv_aload_n hx hb dX12_readUsed_63 rfl (lv_at hl 0 rfl) ?_
    refine lv_iconst (v := 0) hx hb dX12_readUsed_64 (by decide) ?_
    refine lv_aload_n hx hb dX12_readUsed_65 rfl (lv_at hl 0 rfl) ?_
    refine x_getk (ci := 12) (C := RX12) (F := TX12) (N := 36) (v := .ref y4) hx hb hts uX12 hown hkb hH 0 rfl rfl 4 (by decide) rfl kw_1227 (fun _ h9 => h9) dX12_readUsed_66 ?_
    refine lv_iconst (v := 1) hx hb dX12_readUsed_69 (by decide) ?_
    refine xa_ild hx hb hkb hH 2 rfl (by decide) (by decide) dX12_readUsed_70 ?_
    refine lv_topi (fun v70 ev70 => ?_)
    have tv70 : v70 = f4 1 := by rw [ev70]; rfl
    have bv70 : 0 ≤ v70.toInt ∧ v70.toInt ≤ 14 := by rw [tv70]; exact s_f4.1
    refine lv_iconst (v := 1) hx hb dX12_readUsed_71 (by decide) ?_
    refine lv_isub hx hb dX12_readUsed_72 ?_
    refine lv_topi (fun v72 ev72 => ?_)
    have tv72 : v72.toInt = v70.toInt - (1) := by rw [ev72]; exact sub_i rfl (by decide : (1 : Int32).toInt = 1) (by omega) (by omega)
    have z9_0 : (0 : Int32).toInt = 0 := by decide
    refine tk_i hH hS hA (tr_V (n := 2) (As := [.int 0, .int v72]) hx hb hml hown hts hkb hH (ox_map hOX rfl) hks hE hS hA (s_M_takes l D cs kf T (y4 :: O) ((y4, .inl (cs.2.1, 1302, .inl f4)) :: X) a0 hg mq (0) v72 o0 o1 o2 y3 y4 o5 n1_0_6 n1_0_7 y8 n1_0_9 n1_0_10 y11 y12 tl f3 t tn t_a0 b_hg (by decide) (by decide) t_y3 t_y4 (by omega) (by omega) (by omega) (by omega) (by omega) (by omega) (by omega) (by omega) (by omega) htm (by omega) (by omega) x_v13 (fun _ => x_v16) (hO.sub (by decide))) kw_1382 kw_1384 ks_50 kw_13 kw_1385 (by decide +kernel) ⟨Nat.le_of_ble_eq_true rfl, Nat.le_of_ble_eq_true rfl⟩ (x_recv (ci := 12) hkb hH 0 rfl rfl) rfl rfl hl.1 (Nat.le_of_ble_eq_true rfl) dX12_readUsed_73 ⟨Nat.le_of_ble_eq_true rfl, Nat.le_of_ble_eq_true rfl⟩) (fun v73 u H locs hz9 hH hS => ?_)
    obtain ⟨n73_0_6, n73_0_7, n73_0_9, n73_0_10, n73_0_11, n73_0_12, rfl, l_v73, u_v73, x_v730, x_v731, x_v732, x_v733, x_v734, x_v735, x_v736, x_v737⟩ := hz9
    have hH : HT D cs A T (a0 :: y3 :: y4 :: O) ((a0, .inr (12, o0 :: o1 :: o2 :: (.ref y3) :: (.ref y4) :: o5 :: (.int n73_0_6) :: (.int n73_0_7) :: (.int y8) :: (.int n73_0_9) :: (.int n73_0_10) :: (.int n73_0_11) :: (.int n73_0_12) :: tl)) :: (y3, .inl (cs.2.1, 900, .inl f3)) :: (y4, .inl (cs.2.1, 1302, .inl f4)) :: X) H := hH
    refine W.widen (k := 0) (n := 0) (Nat.le_of_ble_eq_true rfl) (Nat.le_of_ble_eq_true rfl) ?_
    refine lv_istore_n (lv' := [(1, .int v73), (0, .ref a0)]) hx hb dX12_readUsed_76 rfl hl (by decide) rfl (fun ls hl => ?_)
    have hhi : v72.toInt = (f4 1).toInt - 1 := by rw [← tv70]; omega
    have hh0 : 0 ≤ (f4 1).toInt := by rw [← tv70]; omega
    have hno : n73_0_11.toInt = 0 → ¬ (f4 4 ||| f4 5).toBitVec.getLsbD v73.toInt.toNat = true := by
      intro q9; have hi9 := TNK.in x_v737 q9
      first | (exfalso; have q7 := hi9.2.2.2; exact x_v600 q7) | (exfalso; omega) | (exfalso; have q6 := x_v16.2.2.2.2 hi9.1; have q5 := nv_21 hi9.1; have q4 : v24.toInt = v70.toInt := (by rw [tv24, tv70]); omega) | (intro q8; have q7 : v73.toInt.toNat = n1_0_10.toInt.toNat := (by have q6 := x_v16.2.2.2.2 hi9.1; omega); rw [q7] at q8; exact hbt.mpr q8 tc55)
    have g77 : RGR t tn [(31, 0)] [(20, 6), (36, 0)] (FR5 f4) (FR5 f4) y11 y12 y6 n73_0_11 n73_0_12 n73_0_6 n73_0_7 n73_0_9 n73_0_10 := (by first | (exact (g4.seq (RGR.cons (RGR_f (R := FR5 f4) (R' := FR5 f4) (F' := []) (m := 3) (G := []) (a2 := n1_0_6) (b := n1_0_7) (k := n1_0_9) (v := n1_0_10) x_v601 (fun _ => x_v16) (by decide) (by decide) (fun q9 _ => st_hB (R := FR5 f4) (by omega) (fun q8 => by have q7 := hbt.mp tc55; rw [hnv] at q7; rw [show (f4 4 ||| f4 5).toBitVec.getLsbD (nv t tn n1_0_6.toInt.toNat).toNat = false from q8.2] at q7; exact absurd q7 (by decide)))))).seq (TNK.keep x_v737 x_v600)) | (exact g4.seq (RGR.cons (TNK.rh x_v737 hhi hh0 (fun q9 => hno q9)))))
    refine lv_aload_n hx hb dX12_readUsed_77 rfl (lv_at hl 1 rfl) ?_
    refine lv_bipush (v := 6) hx hb dX12_readUsed_78 (by decide) ?_
    have z9_6 : (6 : Int32).toInt = 6 := by decide
    refine tk_i hH hS hA (tr_V (n := 1) (As := [.int 6]) hx hb hml hown hts hkb hH (ox_map hOX rfl) hks hE hS hA (s_M_eats l D cs kf T (y4 :: O) ((y4, .inl (cs.2.1, 1302, .inl f4)) :: X) a0 hg mq (6) o0 o1 o2 y3 y4 o5 n73_0_6 n73_0_7 y8 n73_0_9 n73_0_10 n73_0_11 n73_0_12 tl f3 t tn t_a0 b_hg t_y3 t_y4 (by omega) (by omega) (by omega) (by omega) (by omega) (by omega) (by omega) (by omega) (by omega) htm (by omega) (by omega) x_v733 (by omega) (TNK.msw x_v737) (hO.sub (by decide))) kw_1390 kw_1392 ks_52 kw_13 kw_1393 (by decide +kernel) ⟨Nat.le_of_ble_eq_true rfl, Nat.le_of_ble_eq_true rfl⟩ (x_recv (ci := 12) hkb hH 0 rfl rfl) rfl rfl hl.1 (Nat.le_of_ble_eq_true rfl) dX12_readUsed_80 ⟨Nat.le_of_ble_eq_true rfl, Nat.le_of_ble_eq_true rfl⟩) (fun v80 u H locs hz9 hH hS => ?_)
    obtain ⟨n80_0_6, n80_0_7, n80_0_9, n80_0_10, rfl, l_v80, u_v80, x_v800, x_v801, x_v802, x_v803, x_v804, x_v805, x_v806, x_v807, x_v808⟩ := hz9
    have hH : HT D cs A T (a0 :: y3 :: y4 :: O) ((a0, .inr (12, o0 :: o1 :: o2 :: (.ref y3) :: (.ref y4) :: o5 :: (.int n80_0_6) :: (.int n80_0_7) :: (.int y8) :: (.int n80_0_9) :: (.int n80_0_10) :: (.int n73_0_11) :: (.int n73_0_12) :: tl)) :: (y3, .inl (cs.2.1, 900, .inl f3)) :: (y4, .inl (cs.2.1, 1302, .inl f4)) :: X) H := hH
    refine W.widen (k := 0) (n := 0) (Nat.le_of_ble_eq_true rfl) (Nat.le_of_ble_eq_true rfl) ?_
    refine lv_if_ne (tgt := 91) hx hb dX12_readUsed_83 (by decide) (fun c83 => ?_) (fun c83 => ?_)
    · skip
      have tc83 := f_ne (k := 0) (by decide) c83
      replace x_v806 := x_v806.resolve_left tc83
      replace x_v807 := x_v807.resolve_left tc83
      clear x_v808
      have g91 : RGR t tn [(31, 0)] [(36, 0)] (FR5 f4) (FR5 f4) y11 y12 y6 n73_0_11 n73_0_12 n80_0_6 n80_0_7 n80_0_9 n80_0_10 := (by first | (refine RGR.seq g77 (RGR.cons (RGR_g ?_ x_v807.1 (GR_nx (fun _ => st_xY ?_) x_v807.2.1))) <;> omega) | (exact RGR.seq g77 (RGR.cons (RGR_f (R := FR5 f4) (m := 2) (G := []) x_v881 (TNK.msw x_v737) (by decide) (by decide) (fun q9 _ => st_xN (by have q8 := (TNK.msw x_v737 q9).2.2.2.1; omega))))))
      refine lv_aload_n hx hb dX12_readUsed_91 rfl (lv_at hl 1 rfl) ?_
      refine lv_iconst (v := 0) hx hb dX12_readUsed_92 (by decide) ?_
      refine lv_aload_n hx hb dX12_readUsed_93 rfl (lv_at hl 1 rfl) ?_
      refine x_getk (ci := 12) (C := RX12) (F := TX12) (N := 36) (v := .ref y4) hx hb hts uX12 hown hkb hH 0 rfl rfl 4 (by decide) rfl kw_1227 (fun _ h9 => h9) dX12_readUsed_94 ?_
      refine lv_iconst (v := 2) hx hb dX12_readUsed_97 (by decide) ?_
      refine xa_ild hx hb hkb hH 2 rfl (by decide) (by decide) dX12_readUsed_98 ?_
      refine lv_topi (fun v98 ev98 => ?_)
      have tv98 : v98 = f4 2 := by rw [ev98]; rfl
      have bv98 : 0 ≤ v98.toInt ∧ v98.toInt ≤ 5 := by rw [tv98]; exact s_f4.2.1
      refine lv_iconst (v := 1) hx hb dX12_readUsed_99 (by decide) ?_
      refine lv_isub hx hb dX12_readUsed_100 ?_
      refine lv_topi (fun v100 ev100 => ?_)
      have tv100 : v100.toInt = v98.toInt - (1) := by rw [ev100]; exact sub_i rfl (by decide : (1 : Int32).toInt = 1) (by omega) (by omega)
      have z9_0 : (0 : Int32).toInt = 0 := by decide
      refine tk_i hH hS hA (tr_V (n := 2) (As := [.int 0, .int v100]) hx hb hml hown hts hkb hH (ox_map hOX rfl) hks hE hS hA (s_M_takes l D cs kf T (y4 :: O) ((y4, .inl (cs.2.1, 1302, .inl f4)) :: X) a0 hg mq (0) v100 o0 o1 o2 y3 y4 o5 n80_0_6 n80_0_7 y8 n80_0_9 n80_0_10 n73_0_11 n73_0_12 tl f3 t tn t_a0 b_hg (by decide) (by decide) t_y3 t_y4 (by omega) (by omega) (by omega) (by omega) (by omega) (by omega) (by omega) (by omega) (by omega) htm (by omega) (by omega) x_v803 (fun _ => x_v807.1) (hO.sub (by decide))) kw_1382 kw_1384 ks_50 kw_13 kw_1385 (by decide +kernel) ⟨Nat.le_of_ble_eq_true rfl, Nat.le_of_ble_eq_true rfl⟩ (x_recv (ci := 12) hkb hH 0 rfl rfl) rfl rfl hl.1 (Nat.le_of_ble_eq_true rfl) dX12_readUsed_101 ⟨Nat.le_of_ble_eq_true rfl, Nat.le_of_ble_eq_true rfl⟩) (fun v101 u H locs hz9 hH hS => ?_)
      obtain ⟨n101_0_6, n101_0_7, n101_0_9, n101_0_10, n101_0_11, n101_0_12, rfl, l_v101, u_v101, x_v1010, x_v1011, x_v1012, x_v1013, x_v1014, x_v1015, x_v1016, x_v1017⟩ := hz9
      have hH : HT D cs A T (a0 :: y3 :: y4 :: O) ((a0, .inr (12, o0 :: o1 :: o2 :: (.ref y3) :: (.ref y4) :: o5 :: (.int n101_0_6) :: (.int n101_0_7) :: (.int y8) :: (.int n101_0_9) :: (.int n101_0_10) :: (.int n101_0_11) :: (.int n101_0_12) :: tl)) :: (y3, .inl (cs.2.1, 900, .inl f3)) :: (y4, .inl (cs.2.1, 1302, .inl f4)) :: X) H := hH
      refine W.widen (k := 0) (n := 0) (Nat.le_of_ble_eq_true rfl) (Nat.le_of_ble_eq_true rfl) ?_
      refine lv_istore_n (lv' := [(2, .int v101), (1, .int v73), (0, .ref a0)]) hx hb dX12_readUsed_104 rfl hl (by decide) rfl (fun ls hl => ?_)
      have hgi : v100.toInt = (((FR5 f4).2.1 : Nat) : Int) - 1 := by show v100.toInt = (((f4 2).toInt.toNat : Nat) : Int) - 1; rw [← tv98]; omega
      have g105 : RGR t tn [(31, 0)] [] (FR5 f4) (FR5 f4) y11 y12 y6 n101_0_11 n101_0_12 n101_0_6 n101_0_7 n101_0_9 n101_0_10 := g91.seq (TNK.rg2 x_v1017 hgi)
      refine lv_aload_n hx hb dX12_readUsed_105 rfl (lv_at hl 2 rfl) ?_
      refine x_getk (ci := 12) (C := RX12) (F := TX12) (N := 36) (v := .int n101_0_11) hx hb hts uX12 hown hkb hH 0 rfl rfl 11 (by decide) rfl kw_1234 (fun _ h9 => h9) dX12_readUsed_106 ?_
      refine lv_if_ne (tgt := 137) hx hb dX12_readUsed_109 (by decide) (fun c109 => ?_) (fun c109 => ?_)
      · skip
        have tc109 := f_ne (k := 0) (by decide) c109
        exact te_v hx hb hr hlocks hH hS (⟨n101_0_6, n101_0_7, n101_0_9, n101_0_10, n101_0_11, n101_0_12, f4, rfl, s_f4, by omega, by omega, by omega, x_v1013, by omega, by omega, (by first | (exact g105) | (refine RGR.to g105 (FR5_o eF136 (Or.inr ?_)); omega)), (by first | rfl | (rw [eF136]; exact upd_ne (by omega)))⟩) dX12_readUsed_137
      · skip
        have tc109 := f_eq (k := 0) (by decide) c109
        have t2 := x_v1016 tc109
        have t1 : 0 ≤ v73.toInt ∧ v73.toInt ≤ v72.toInt := by first | exact absurd t2.1 x_v880 | (have q9 := x_v736 t2.1; have z8 : (0 : Int32).toInt = 0 := (by decide); omega)
        refine lv_aload_n hx hb dX12_readUsed_112 rfl (lv_at hl 2 rfl) ?_
        refine x_getk (ci := 12) (C := RX12) (F := TX12) (N := 36) (v := .ref y4) hx hb hts uX12 hown hkb hH 0 rfl rfl 4 (by decide) rfl kw_1227 (fun _ h9 => h9) dX12_readUsed_113 ?_
        refine lv_bipush (v := 87) hx hb dX12_readUsed_116 (by decide) ?_
        refine xa_ild hx hb hkb hH 2 rfl (by decide) (by decide) dX12_readUsed_118 ?_
        refine lv_topi (fun v118 ev118 => ?_)
        have tv118 : v118 = f4 87 := by rw [ev118]; rfl
        refine lv_i2l hx hb dX12_readUsed_119 rfl ?_
        refine lv_iload_n hx hb dX12_readUsed_120 rfl (lv_at hl 1 rfl) ?_
        refine tk_i hH hS hA (tr_S (n := 2) (As := [.long v118.toInt64, .int v73]) hx hb hml hown hts hkb hH (ox_map hOX rfl) hks hE hS hA (s_M_isIn2 l D cs kf T (a0 :: y3 :: y4 :: O) ((a0, .inr (12, o0 :: o1 :: o2 :: (.ref y3) :: (.ref y4) :: o5 :: (.int n101_0_6) :: (.int n101_0_7) :: (.int y8) :: (.int n101_0_9) :: (.int n101_0_10) :: (.int n101_0_11) :: (.int n101_0_12) :: tl)) :: (y3, .inl (cs.2.1, 900, .inl f3)) :: (y4, .inl (cs.2.1, 1302, .inl f4)) :: X) v118.toInt64 v73  (hO.sub (by decide))) kw_1440 kw_1441 kw_13 kw_1442 (by decide +kernel) ⟨Nat.le_of_ble_eq_true rfl, Nat.le_of_ble_eq_true rfl⟩ rfl rfl hl.1 (Nat.le_of_ble_eq_true rfl) dX12_readUsed_121 ⟨Nat.le_of_ble_eq_true rfl, Nat.le_of_ble_eq_true rfl⟩) (fun v121 u H locs hz9 hH hS => ?_)
        obtain ⟨rfl, l_v121, u_v121, x_v1210⟩ := hz9
        have hH : HT D cs A T (a0 :: y3 :: y4 :: O) ((a0, .inr (12, o0 :: o1 :: o2 :: (.ref y3) :: (.ref y4) :: o5 :: (.int n101_0_6) :: (.int n101_0_7) :: (.int y8) :: (.int n101_0_9) :: (.int n101_0_10) :: (.int n101_0_11) :: (.int n101_0_12) :: tl)) :: (y3, .inl (cs.2.1, 900, .inl f3)) :: (y4, .inl (cs.2.1, 1302, .inl f4)) :: X) H := hH
        refine W.widen (k := 0) (n := 0) (Nat.le_of_ble_eq_true rfl) (Nat.le_of_ble_eq_true rfl) ?_
        refine lv_if_ne (tgt := 137) hx hb dX12_readUsed_124 (by decide) (fun c124 => ?_) (fun c124 => ?_)
        · skip
          have tc124 := f_ne (k := 0) (by decide) c124
          exact te_v hx hb hr hlocks hH hS (⟨n101_0_6, n101_0_7, n101_0_9, n101_0_10, n101_0_11, n101_0_12, f4, rfl, s_f4, by omega, by omega, by omega, x_v1013, by omega, by omega, (by first | (exact g105) | (refine RGR.to g105 (FR5_o eF136 (Or.inr ?_)); omega)), (by first | rfl | (rw [eF136]; exact upd_ne (by omega)))⟩) dX12_readUsed_137
        · skip
          have tc124 := f_eq (k := 0) (by decide) c124
          refine lv_aload_n hx hb dX12_readUsed_127 rfl (lv_at hl 2 rfl) ?_
          refine x_getk (ci := 12) (C := RX12) (F := TX12) (N := 36) (v := .ref y4) hx hb hts uX12 hown hkb hH 0 rfl rfl 4 (by decide) rfl kw_1227 (fun _ h9 => h9) dX12_readUsed_128 ?_
          refine lv_bipush (v := 59) hx hb dX12_readUsed_131 (by decide) ?_
          refine lv_iload_n hx hb dX12_readUsed_133 rfl (lv_at hl 1 rfl) ?_
          refine lv_iadd hx hb dX12_readUsed_134 ?_
          refine lv_topi (fun v134 ev134 => ?_)
          have tv134 : v134.toInt = (59) + v73.toInt := by rw [ev134]; exact add_i (by decide : (59 : Int32).toInt = 59) rfl (by omega) (by omega)
          refine lv_iload_n hx hb dX12_readUsed_135 rfl (lv_at hl 0 rfl) ?_
          refine xa_ist hx hb hkb hH hS 2 rfl (by omega) (by omega) dX12_readUsed_136 (fun H locs hH hS => ?_)
          have hH : HT D cs A T (a0 :: y3 :: y4 :: O) ((a0, .inr (12, o0 :: o1 :: o2 :: (.ref y3) :: (.ref y4) :: o5 :: (.int n101_0_6) :: (.int n101_0_7) :: (.int y8) :: (.int n101_0_9) :: (.int n101_0_10) :: (.int n101_0_11) :: (.int n101_0_12) :: tl)) :: (y3, .inl (cs.2.1, 900, .inl f3)) :: (y4, .inl (cs.2.1, 1302, .inl (upd f4 (v134.toInt.toNat) v101))) :: X) H := hH
          obtain ⟨F136, eF136⟩ : ∃ f9, f9 = upd f4 (v134.toInt.toNat) v101 := ⟨_, rfl⟩
          have hH : HT D cs A T (a0 :: y3 :: y4 :: O) ((a0, .inr (12, o0 :: o1 :: o2 :: (.ref y3) :: (.ref y4) :: o5 :: (.int n101_0_6) :: (.int n101_0_7) :: (.int y8) :: (.int n101_0_9) :: (.int n101_0_10) :: (.int n101_0_11) :: (.int n101_0_12) :: tl)) :: (y3, .inl (cs.2.1, 900, .inl f3)) :: (y4, .inl (cs.2.1, 1302, .inl F136)) :: X) H := eF136 ▸ hH
          have s_F136 : S8 F136 := eF136 ▸ S8_put (i := v134) (x := v101) s_f4 (by omega) (by omega) (p8_far (by omega) (⟨by omega, by omega⟩))
          exact te_v hx hb hr hlocks hH hS (⟨n101_0_6, n101_0_7, n101_0_9, n101_0_10, n101_0_11, n101_0_12, F136, rfl, s_F136, by omega, by omega, by omega, x_v1013, by omega, by omega, (by first | (exact g105) | (refine RGR.to g105 (FR5_o eF136 (Or.inr ?_)); omega)), (by first | rfl | (rw [eF136]; exact upd_ne (by omega)))⟩) dX12_readUsed_137
    · skip
      have tc83 := f_eq (k := 0) (by decide) c83
      clear x_v806
      clear x_v807
      replace x_v808 := x_v808.resolve_left (fun q9 => q9 tc83)
      obtain ⟨e6, e7, e9, e10, x_v808⟩ := x_v808
      subst e6 e7 e9 e10
      refine lv_aload_n hx hb dX12_readUsed_86 rfl (lv_at hl 1 rfl) ?_
      refine lv_iconst (v := 2) hx hb dX12_readUsed_87 (by decide) ?_
      have z9_2 : (2 : Int32).toInt = 2 := by decide
      refine tk_v hH hS hA (tr_V (n := 1) (As := [.int 2]) hx hb hml hown hts hkb hH (ox_map hOX rfl) hks hE hS hA (s_M_fails l D cs kf T (y4 :: O) ((y4, .inl (cs.2.1, 1302, .inl f4)) :: X) a0 hg mq (2) o0 o1 o2 y3 y4 o5 n73_0_6 n73_0_7 y8 n73_0_9 n73_0_10 n73_0_11 n73_0_12 tl f3 t tn t_a0 b_hg (by decide) (by decide) t_y3 t_y4 (by omega) (by omega) (by omega) (by omega) (by omega) (by omega) (by omega) (by omega) (by omega) htm (hO.sub (by decide))) kw_1378 kw_1380 ks_49 kw_13 kw_1381 (by decide +kernel) ⟨Nat.le_of_ble_eq_true rfl, Nat.le_of_ble_eq_true rfl⟩ (x_recv (ci := 12) hkb hH 0 rfl rfl) rfl rfl hl.1 (Nat.le_of_ble_eq_true rfl) dX12_readUsed_88 ⟨Nat.le_of_ble_eq_true rfl, Nat.le_of_ble_eq_true rfl⟩) (fun u H locs hz9 hH hS => ?_)
      obtain ⟨n88_0_11, n88_0_12, rfl, x_v880, x_v881⟩ := hz9
      have hH : HT D cs A T (a0 :: y3 :: y4 :: O) ((a0, .inr (12, o0 :: o1 :: o2 :: (.ref y3) :: (.ref y4) :: o5 :: (.int n73_0_6) :: (.int n73_0_7) :: (.int y8) :: (.int n73_0_9) :: (.int n73_0_10) :: (.int n88_0_11) :: (.int n88_0_12) :: tl)) :: (y3, .inl (cs.2.1, 900, .inl f3)) :: (y4, .inl (cs.2.1, 1302, .inl f4)) :: X) H := hH
      refine W.widen (k := 0) (n := 0) (Nat.le_of_ble_eq_true rfl) (Nat.le_of_ble_eq_true rfl) ?_
      have g91 : RGR t tn [(31, 0)] [(36, 0)] (FR5 f4) (FR5 f4) y11 y12 y6 n88_0_11 n88_0_12 n73_0_6 n73_0_7 n73_0_9 n73_0_10 := (by first | (refine RGR.seq g77 (RGR.cons (RGR_g ?_ x_v807.1 (GR_nx (fun _ => st_xY ?_) x_v807.2.1))) <;> omega) | (exact RGR.seq g77 (RGR.cons (RGR_f (R := FR5 f4) (m := 2) (G := []) x_v881 (TNK.msw x_v737) (by decide) (by decide) (fun q9 _ => st_xN (by have q8 := (TNK.msw x_v737 q9).2.2.2.1; omega))))))
      refine lv_aload_n hx hb dX12_readUsed_91 rfl (lv_at hl 1 rfl) ?_
      refine lv_iconst (v := 0) hx hb dX12_readUsed_92 (by decide) ?_
      refine lv_aload_n hx hb dX12_readUsed_93 rfl (lv_at hl 1 rfl) ?_
      refine x_getk (ci := 12) (C := RX12) (F := TX12) (N := 36) (v := .ref y4) hx hb hts uX12 hown hkb hH 0 rfl rfl 4 (by decide) rfl kw_1227 (fun _ h9 => h9) dX12_readUsed_94 ?_
      refine lv_iconst (v := 2) hx hb dX12_readUsed_97 (by decide) ?_
      refine xa_ild hx hb hkb hH 2 rfl (by decide) (by decide) dX12_readUsed_98 ?_
      refine lv_topi (fun v98 ev98 => ?_)
      have tv98 : v98 = f4 2 := by rw [ev98]; rfl
      have bv98 : 0 ≤ v98.toInt ∧ v98.toInt ≤ 5 := by rw [tv98]; exact s_f4.2.1
      refine lv_iconst (v := 1) hx hb dX12_readUsed_99 (by decide) ?_
      refine lv_isub hx hb dX12_readUsed_100 ?_
      refine lv_topi (fun v100 ev100 => ?_)
      have tv100 : v100.toInt = v98.toInt - (1) := by rw [ev100]; exact sub_i rfl (by decide : (1 : Int32).toInt = 1) (by omega) (by omega)
      have z9_0 : (0 : Int32).toInt = 0 := by decide
      refine tk_i hH hS hA (tr_V (n := 2) (As := [.int 0, .int v100]) hx hb hml hown hts hkb hH (ox_map hOX rfl) hks hE hS hA (s_M_takes l D cs kf T (y4 :: O) ((y4, .inl (cs.2.1, 1302, .inl f4)) :: X) a0 hg mq (0) v100 o0 o1 o2 y3 y4 o5 n73_0_6 n73_0_7 y8 n73_0_9 n73_0_10 n88_0_11 n88_0_12 tl f3 t tn t_a0 b_hg (by decide) (by decide) t_y3 t_y4 (by omega) (by omega) (by omega) (by omega) (by omega) (by omega) (by omega) (by omega) (by omega) htm (by omega) (by omega) x_v803 (fun q9 => absurd q9 x_v880) (hO.sub (by decide))) kw_1382 kw_1384 ks_50 kw_13 kw_1385 (by decide +kernel) ⟨Nat.le_of_ble_eq_true rfl, Nat.le_of_ble_eq_true rfl⟩ (x_recv (ci := 12) hkb hH 0 rfl rfl) rfl rfl hl.1 (Nat.le_of_ble_eq_true rfl) dX12_readUsed_101 ⟨Nat.le_of_ble_eq_true rfl, Nat.le_of_ble_eq_true rfl⟩) (fun v101 u H locs hz9 hH hS => ?_)
      obtain ⟨n101_0_6, n101_0_7, n101_0_9, n101_0_10, n101_0_11, n101_0_12, rfl, l_v101, u_v101, x_v1010, x_v1011, x_v1012, x_v1013, x_v1014, x_v1015, x_v1016, x_v1017⟩ := hz9
      have hH : HT D cs A T (a0 :: y3 :: y4 :: O) ((a0, .inr (12, o0 :: o1 :: o2 :: (.ref y3) :: (.ref y4) :: o5 :: (.int n101_0_6) :: (.int n101_0_7) :: (.int y8) :: (.int n101_0_9) :: (.int n101_0_10) :: (.int n101_0_11) :: (.int n101_0_12) :: tl)) :: (y3, .inl (cs.2.1, 900, .inl f3)) :: (y4, .inl (cs.2.1, 1302, .inl f4)) :: X) H := hH
      refine W.widen (k := 0) (n := 0) (Nat.le_of_ble_eq_true rfl) (Nat.le_of_ble_eq_true rfl) ?_
      refine lv_istore_n (lv' := [(2, .int v101), (1, .int v73), (0, .ref a0)]) hx hb dX12_readUsed_104 rfl hl (by decide) rfl (fun ls hl => ?_)
      have hgi : v100.toInt = (((FR5 f4).2.1 : Nat) : Int) - 1 := by show v100.toInt = (((f4 2).toInt.toNat : Nat) : Int) - 1; rw [← tv98]; omega
      have g105 : RGR t tn [(31, 0)] [] (FR5 f4) (FR5 f4) y11 y12 y6 n101_0_11 n101_0_12 n101_0_6 n101_0_7 n101_0_9 n101_0_10 := g91.seq (TNK.rg2 x_v1017 hgi)
      refine lv_aload_n hx hb dX12_readUsed_105 rfl (lv_at hl 2 rfl) ?_
      refine x_getk (ci := 12) (C := RX12) (F := TX12) (N := 36) (v := .int n101_0_11) hx hb hts uX12 hown hkb hH 0 rfl rfl 11 (by decide) rfl kw_1234 (fun _ h9 => h9) dX12_readUsed_106 ?_
      refine lv_if_ne (tgt := 137) hx hb dX12_readUsed_109 (by decide) (fun c109 => ?_) (fun c109 => ?_)
      · skip
        have tc109 := f_ne (k := 0) (by decide) c109
        exact te_v hx hb hr hlocks hH hS (⟨n101_0_6, n101_0_7, n101_0_9, n101_0_10, n101_0_11, n101_0_12, f4, rfl, s_f4, by omega, by omega, by omega, x_v1013, by omega, by omega, (by first | (exact g105) | (refine RGR.to g105 (FR5_o eF136 (Or.inr ?_)); omega)), (by first | rfl | (rw [eF136]; exact upd_ne (by omega)))⟩) dX12_readUsed_137
      · skip
        have tc109 := f_eq (k := 0) (by decide) c109
        have t2 := x_v1016 tc109
        have t1 : 0 ≤ v73.toInt ∧ v73.toInt ≤ v72.toInt := by first | exact absurd t2.1 x_v880 | (have q9 := x_v736 t2.1; have z8 : (0 : Int32).toInt = 0 := (by decide); omega)
        refine lv_aload_n hx hb dX12_readUsed_112 rfl (lv_at hl 2 rfl) ?_
        refine x_getk (ci := 12) (C := RX12) (F := TX12) (N := 36) (v := .ref y4) hx hb hts uX12 hown hkb hH 0 rfl rfl 4 (by decide) rfl kw_1227 (fun _ h9 => h9) dX12_readUsed_113 ?_
        refine lv_bipush (v := 87) hx hb dX12_readUsed_116 (by decide) ?_
        refine xa_ild hx hb hkb hH 2 rfl (by decide) (by decide) dX12_readUsed_118 ?_
        refine lv_topi (fun v118 ev118 => ?_)
        have tv118 : v118 = f4 87 := by rw [ev118]; rfl
        refine lv_i2l hx hb dX12_readUsed_119 rfl ?_
        refine lv_iload_n hx hb dX12_readUsed_120 rfl (lv_at hl 1 rfl) ?_
        refine tk_i hH hS hA (tr_S (n := 2) (As := [.long v118.toInt64, .int v73]) hx hb hml hown hts hkb hH (ox_map hOX rfl) hks hE hS hA (s_M_isIn2 l D cs kf T (a0 :: y3 :: y4 :: O) ((a0, .inr (12, o0 :: o1 :: o2 :: (.ref y3) :: (.ref y4) :: o5 :: (.int n101_0_6) :: (.int n101_0_7) :: (.int y8) :: (.int n101_0_9) :: (.int n101_0_10) :: (.int n101_0_11) :: (.int n101_0_12) :: tl)) :: (y3, .inl (cs.2.1, 900, .inl f3)) :: (y4, .inl (cs.2.1, 1302, .inl f4)) :: X) v118.toInt64 v73  (hO.sub (by decide))) kw_1440 kw_1441 kw_13 kw_1442 (by decide +kernel) ⟨Nat.le_of_ble_eq_true rfl, Nat.le_of_ble_eq_true rfl⟩ rfl rfl hl.1 (Nat.le_of_ble_eq_true rfl) dX12_readUsed_121 ⟨Nat.le_of_ble_eq_true rfl, Nat.le_of_ble_eq_true rfl⟩) (fun v121 u H locs hz9 hH hS => ?_)
        obtain ⟨rfl, l_v121, u_v121, x_v1210⟩ := hz9
        have hH : HT D cs A T (a0 :: y3 :: y4 :: O) ((a0, .inr (12, o0 :: o1 :: o2 :: (.ref y3) :: (.ref y4) :: o5 :: (.int n101_0_6) :: (.int n101_0_7) :: (.int y8) :: (.int n101_0_9) :: (.int n101_0_10) :: (.int n101_0_11) :: (.int n101_0_12) :: tl)) :: (y3, .inl (cs.2.1, 900, .inl f3)) :: (y4, .inl (cs.2.1, 1302, .inl f4)) :: X) H := hH
        refine W.widen (k := 0) (n := 0) (Nat.le_of_ble_eq_true rfl) (Nat.le_of_ble_eq_true rfl) ?_
        refine lv_if_ne (tgt := 137) hx hb dX12_readUsed_124 (by decide) (fun c124 => ?_) (fun c124 => ?_)
        · skip
          have tc124 := f_ne (k := 0) (by decide) c124
          exact te_v hx hb hr hlocks hH hS (⟨n101_0_6, n101_0_7, n101_0_9, n101_0_10, n101_0_11, n101_0_12, f4, rfl, s_f4, by omega, by omega, by omega, x_v1013, by omega, by omega, (by first | (exact g105) | (refine RGR.to g105 (FR5_o eF136 (Or.inr ?_)); omega)), (by first | rfl | (rw [eF136]; exact upd_ne (by omega)))⟩) dX12_readUsed_137
        · skip
          have tc124 := f_eq (k := 0) (by decide) c124
          refine lv_aload_n hx hb dX12_readUsed_127 rfl (lv_at hl 2 rfl) ?_
          refine x_getk (ci := 12) (C := RX12) (F := TX12) (N := 36) (v := .ref y4) hx hb hts uX12 hown hkb hH 0 rfl rfl 4 (by decide) rfl kw_1227 (fun _ h9 => h9) dX12_readUsed_128 ?_
          refine lv_bipush (v := 59) hx hb dX12_readUsed_131 (by decide) ?_
          refine lv_iload_n hx hb dX12_readUsed_133 rfl (lv_at hl 1 rfl) ?_
          refine lv_iadd hx hb dX12_readUsed_134 ?_
          refine lv_topi (fun v134 ev134 => ?_)
          have tv134 : v134.toInt = (59) + v73.toInt := by rw [ev134]; exact add_i (by decide : (59 : Int32).toInt = 59) rfl (by omega) (by omega)
          refine lv_iload_n hx hb dX12_readUsed_135 rfl (lv_at hl 0 rfl) ?_
          refine xa_ist hx hb hkb hH hS 2 rfl (by omega) (by omega) dX12_readUsed_136 (fun H locs hH hS => ?_)
          have hH : HT D cs A T (a0 :: y3 :: y4 :: O) ((a0, .inr (12, o0 :: o1 :: o2 :: (.ref y3) :: (.ref y4) :: o5 :: (.int n101_0_6) :: (.int n101_0_7) :: (.int y8) :: (.int n101_0_9) :: (.int n101_0_10) :: (.int n101_0_11) :: (.int n101_0_12) :: tl)) :: (y3, .inl (cs.2.1, 900, .inl f3)) :: (y4, .inl (cs.2.1, 1302, .inl (upd f4 (v134.toInt.toNat) v101))) :: X) H := hH
          obtain ⟨F136, eF136⟩ : ∃ f9, f9 = upd f4 (v134.toInt.toNat) v101 := ⟨_, rfl⟩
          have hH : HT D cs A T (a0 :: y3 :: y4 :: O) ((a0, .inr (12, o0 :: o1 :: o2 :: (.ref y3) :: (.ref y4) :: o5 :: (.int n101_0_6) :: (.int n101_0_7) :: (.int y8) :: (.int n101_0_9) :: (.int n101_0_10) :: (.int n101_0_11) :: (.int n101_0_12) :: tl)) :: (y3, .inl (cs.2.1, 900, .inl f3)) :: (y4, .inl (cs.2.1, 1302, .inl F136)) :: X) H := eF136 ▸ hH
          have s_F136 : S8 F136 := eF136 ▸ S8_put (i := v134) (x := v101) s_f4 (by omega) (by omega) (p8_far (by omega) (⟨by omega, by omega⟩))
          exact te_v hx hb hr hlocks hH hS (⟨n101_0_6, n101_0_7, n101_0_9, n101_0_10, n101_0_11, n101_0_12, F136, rfl, s_F136, by omega, by omega, by omega, x_v1013, by omega, by omega, (by first | (exact g105) | (refine RGR.to g105 (FR5_o eF136 (Or.inr ?_)); omega)), (by first | rfl | (rw [eF136]; exact upd_ne (by omega)))⟩) dX12_readUsed_137
  · skip
    have tc10 := f_ne (k := 0) (by decide) c10
    replace x_v70 := x_v70.resolve_left tc10
    clear x_v71
    refine lv_aload_n hx hb dX12_readUsed_13 rfl (lv_at hl 0 rfl) ?_
    refine x_getk (ci := 12) (C := RX12) (F := TX12) (N := 36) (v := .int n1_0_10) hx hb hts uX12 hown hkb hH 0 rfl rfl 10 (by decide) rfl kw_1233 (fun _ h9 => h9) dX12_readUsed_14 ?_
    refine lv_i2l hx hb dX12_readUsed_17 rfl ?_
    refine lv_lconst (v := 0) hx hb dX12_readUsed_18 (by decide) ?_
    refine lv_aload_n hx hb dX12_readUsed_19 rfl (lv_at hl 0 rfl) ?_
    refine x_getk (ci := 12) (C := RX12) (F := TX12) (N := 36) (v := .ref y4) hx hb hts uX12 hown hkb hH 0 rfl rfl 4 (by decide) rfl kw_1227 (fun _ h9 => h9) dX12_readUsed_20 ?_
    refine lv_iconst (v := 1) hx hb dX12_readUsed_23 (by decide) ?_
    refine xa_ild hx hb hkb hH 2 rfl (by decide) (by decide) dX12_readUsed_24 ?_
    refine lv_topi (fun v24 ev24 => ?_)
    have tv24 : v24 = f4 1 := by rw [ev24]; rfl
    have bv24 : 0 ≤ v24.toInt ∧ v24.toInt ≤ 14 := by rw [tv24]; exact s_f4.1
    refine lv_iconst (v := 1) hx hb dX12_readUsed_25 (by decide) ?_
    refine lv_isub hx hb dX12_readUsed_26 ?_
    refine lv_topi (fun v26 ev26 => ?_)
    have tv26 : v26.toInt = v24.toInt - (1) := by rw [ev26]; exact sub_i rfl (by decide : (1 : Int32).toInt = 1) (by omega) (by omega)
    refine lv_i2l hx hb dX12_readUsed_27 rfl ?_
    refine tk_i hH hS hA (tr_S (n := 3) (As := [.long n1_0_10.toInt64, .long 0, .long v26.toInt64]) hx hb hml hown hts hkb hH (ox_map hOX rfl) hks hE hS hA (s_M_within l D cs kf T (a0 :: y3 :: y4 :: O) ((a0, .inr (12, o0 :: o1 :: o2 :: (.ref y3) :: (.ref y4) :: o5 :: (.int n1_0_6) :: (.int n1_0_7) :: (.int y8) :: (.int n1_0_9) :: (.int n1_0_10) :: (.int y11) :: (.int y12) :: tl)) :: (y3, .inl (cs.2.1, 900, .inl f3)) :: (y4, .inl (cs.2.1, 1302, .inl f4)) :: X) n1_0_10.toInt64 0 v26.toInt64  (hO.sub (by decide))) kw_1341 kw_1342 kw_13 kw_1343 (by decide +kernel) ⟨Nat.le_of_ble_eq_true rfl, Nat.le_of_ble_eq_true rfl⟩ rfl rfl hl.1 (Nat.le_of_ble_eq_true rfl) dX12_readUsed_28 ⟨Nat.le_of_ble_eq_true rfl, Nat.le_of_ble_eq_true rfl⟩) (fun v28 u H locs hz9 hH hS => ?_)
    obtain ⟨rfl, l_v28, u_v28, x_v280, x_v281⟩ := hz9
    simp only [Int32.toInt_toInt64] at x_v280 x_v281
    have k9_0 : (0 : Int64).toInt = 0 := by decide
    have hH : HT D cs A T (a0 :: y3 :: y4 :: O) ((a0, .inr (12, o0 :: o1 :: o2 :: (.ref y3) :: (.ref y4) :: o5 :: (.int n1_0_6) :: (.int n1_0_7) :: (.int y8) :: (.int n1_0_9) :: (.int n1_0_10) :: (.int y11) :: (.int y12) :: tl)) :: (y3, .inl (cs.2.1, 900, .inl f3)) :: (y4, .inl (cs.2.1, 1302, .inl f4)) :: X) H := hH
    refine W.widen (k := 0) (n := 0) (Nat.le_of_ble_eq_true rfl) (Nat.le_of_ble_eq_true rfl) ?_
    refine lv_if_eq (tgt := 63) hx hb dX12_readUsed_31 (by decide) (fun c31 => ?_) (fun c31 => ?_)
    · skip
      have tc31 := f_eq (k := 0) (by decide) c31
      clear x_v280
      replace x_v281 := x_v281.resolve_left (fun q9 => q9 tc31)
      refine lv_aload_n hx hb dX12_readUsed_63 rfl (lv_at hl 0 rfl) ?_
      refine lv_iconst (v := 0) hx hb dX12_readUsed_64 (by decide) ?_
      refine lv_aload_n hx hb dX12_readUsed_65 rfl (lv_at hl 0 rfl) ?_
      refine x_getk (ci := 12) (C := RX12) (F := TX12) (N := 36) (v := .ref y4) hx hb hts uX12 hown hkb hH 0 rfl rfl 4 (by decide) rfl kw_1227 (fun _ h9 => h9) dX12_readUsed_66 ?_
      refine lv_iconst (v := 1) hx hb dX12_readUsed_69 (by decide) ?_
      refine xa_ild hx hb hkb hH 2 rfl (by decide) (by decide) dX12_readUsed_70 ?_
      refine lv_topi (fun v70 ev70 => ?_)
      have tv70 : v70 = f4 1 := by rw [ev70]; rfl
      have bv70 : 0 ≤ v70.toInt ∧ v70.toInt ≤ 14 := by rw [tv70]; exact s_f4.1
      refine lv_iconst (v := 1) hx hb dX12_readUsed_71 (by decide) ?_
      refine lv_isub hx hb dX12_readUsed_72 ?_
      refine lv_topi (fun v72 ev72 => ?_)
      have tv72 : v72.toInt = v70.toInt - (1) := by rw [ev72]; exact sub_i rfl (by decide : (1 : Int32).toInt = 1) (by omega) (by omega)
      have z9_0 : (0 : Int32).toInt = 0 := by decide
      refine tk_i hH hS hA (tr_V (n := 2) (As := [.int 0, .int v72]) hx hb hml hown hts hkb hH (ox_map hOX rfl) hks hE hS hA (s_M_takes l D cs kf T (y4 :: O) ((y4, .inl (cs.2.1, 1302, .inl f4)) :: X) a0 hg mq (0) v72 o0 o1 o2 y3 y4 o5 n1_0_6 n1_0_7 y8 n1_0_9 n1_0_10 y11 y12 tl f3 t tn t_a0 b_hg (by decide) (by decide) t_y3 t_y4 (by omega) (by omega) (by omega) (by omega) (by omega) (by omega) (by omega) (by omega) (by omega) htm (by omega) (by omega) x_v13 (fun _ => x_v16) (hO.sub (by decide))) kw_1382 kw_1384 ks_50 kw_13 kw_1385 (by decide +kernel) ⟨Nat.le_of_ble_eq_true rfl, Nat.le_of_ble_eq_true rfl⟩ (x_recv (ci := 12) hkb hH 0 rfl rfl) rfl rfl hl.1 (Nat.le_of_ble_eq_true rfl) dX12_readUsed_73 ⟨Nat.le_of_ble_eq_true rfl, Nat.le_of_ble_eq_true rfl⟩) (fun v73 u H locs hz9 hH hS => ?_)
      obtain ⟨n73_0_6, n73_0_7, n73_0_9, n73_0_10, n73_0_11, n73_0_12, rfl, l_v73, u_v73, x_v730, x_v731, x_v732, x_v733, x_v734, x_v735, x_v736, x_v737⟩ := hz9
      have hH : HT D cs A T (a0 :: y3 :: y4 :: O) ((a0, .inr (12, o0 :: o1 :: o2 :: (.ref y3) :: (.ref y4) :: o5 :: (.int n73_0_6) :: (.int n73_0_7) :: (.int y8) :: (.int n73_0_9) :: (.int n73_0_10) :: (.int n73_0_11) :: (.int n73_0_12) :: tl)) :: (y3, .inl (cs.2.1, 900, .inl f3)) :: (y4, .inl (cs.2.1, 1302, .inl f4)) :: X) H := hH
      refine W.widen (k := 0) (n := 0) (Nat.le_of_ble_eq_true rfl) (Nat.le_of_ble_eq_true rfl) ?_
      refine lv_istore_n (lv' := [(1, .int v73), (0, .ref a0)]) hx hb dX12_readUsed_76 rfl hl (by decide) rfl (fun ls hl => ?_)
      have hhi : v72.toInt = (f4 1).toInt - 1 := by rw [← tv70]; omega
      have hh0 : 0 ≤ (f4 1).toInt := by rw [← tv70]; omega
      have hno : n73_0_11.toInt = 0 → ¬ (f4 4 ||| f4 5).toBitVec.getLsbD v73.toInt.toNat = true := by
        intro q9; have hi9 := TNK.in x_v737 q9
        first | (exfalso; have q7 := hi9.2.2.2; exact x_v600 q7) | (exfalso; omega) | (exfalso; have q6 := x_v16.2.2.2.2 hi9.1; have q5 := nv_21 hi9.1; have q4 : v24.toInt = v70.toInt := (by rw [tv24, tv70]); omega) | (intro q8; have q7 : v73.toInt.toNat = n1_0_10.toInt.toNat := (by have q6 := x_v16.2.2.2.2 hi9.1; omega); rw [q7] at q8; exact hbt.mpr q8 tc55)
      have g77 : RGR t tn [(31, 0)] [(20, 6), (36, 0)] (FR5 f4) (FR5 f4) y11 y12 y6 n73_0_11 n73_0_12 n73_0_6 n73_0_7 n73_0_9 n73_0_10 := (by first | (exact (g4.seq (RGR.cons (RGR_f (R := FR5 f4) (R' := FR5 f4) (F' := []) (m := 3) (G := []) (a2 := n1_0_6) (b := n1_0_7) (k := n1_0_9) (v := n1_0_10) x_v601 (fun _ => x_v16) (by decide) (by decide) (fun q9 _ => st_hB (R := FR5 f4) (by omega) (fun q8 => by have q7 := hbt.mp tc55; rw [hnv] at q7; rw [show (f4 4 ||| f4 5).toBitVec.getLsbD (nv t tn n1_0_6.toInt.toNat).toNat = false from q8.2] at q7; exact absurd q7 (by decide)))))).seq (TNK.keep x_v737 x_v600)) | (exact g4.seq (RGR.cons (TNK.rh x_v737 hhi hh0 (fun q9 => hno q9)))))
      refine lv_aload_n hx hb dX12_readUsed_77 rfl (lv_at hl 1 rfl) ?_
      refine lv_bipush (v := 6) hx hb dX12_readUsed_78 (by decide) ?_
      have z9_6 : (6 : Int32).toInt = 6 := by decide
      refine tk_i hH hS hA (tr_V (n := 1) (As := [.int 6]) hx hb hml hown hts hkb hH (ox_map hOX rfl) hks hE hS hA (s_M_eats l D cs kf T (y4 :: O) ((y4, .inl (cs.2.1, 1302, .inl f4)) :: X) a0 hg mq (6) o0 o1 o2 y3 y4 o5 n73_0_6 n73_0_7 y8 n73_0_9 n73_0_10 n73_0_11 n73_0_12 tl f3 t tn t_a0 b_hg t_y3 t_y4 (by omega) (by omega) (by omega) (by omega) (by omega) (by omega) (by omega) (by omega) (by omega) htm (by omega) (by omega) x_v733 (by omega) (TNK.msw x_v737) (hO.sub (by decide))) kw_1390 kw_1392 ks_52 kw_13 kw_1393 (by decide +kernel) ⟨Nat.le_of_ble_eq_true rfl, Nat.le_of_ble_eq_true rfl⟩ (x_recv (ci := 12) hkb hH 0 rfl rfl) rfl rfl hl.1 (Nat.le_of_ble_eq_true rfl) dX12_readUsed_80 ⟨Nat.le_of_ble_eq_true rfl, Nat.le_of_ble_eq_true rfl⟩) (fun v80 u H locs hz9 hH hS => ?_)
      obtain ⟨n80_0_6, n80_0_7, n80_0_9, n80_0_10, rfl, l_v80, u_v80, x_v800, x_v801, x_v802, x_v803, x_v804, x_v805, x_v806, x_v807, x_v808⟩ := hz9
      have hH : HT D cs A T (a0 :: y3 :: y4 :: O) ((a0, .inr (12, o0 :: o1 :: o2 :: (.ref y3) :: (.ref y4) :: o5 :: (.int n80_0_6) :: (.int n80_0_7) :: (.int y8) :: (.int n80_0_9) :: (.int n80_0_10) :: (.int n73_0_11) :: (.int n73_0_12) :: tl)) :: (y3, .inl (cs.2.1, 900, .inl f3)) :: (y4, .inl (cs.2.1, 1302, .inl f4)) :: X) H := hH
      refine W.widen (k := 0) (n := 0) (Nat.le_of_ble_eq_true rfl) (Nat.le_of_ble_eq_true rfl) ?_
      refine lv_if_ne (tgt := 91) hx hb dX12_readUsed_83 (by decide) (fun c83 => ?_) (fun c83 => ?_)
      · skip
        have tc83 := f_ne (k := 0) (by decide) c83
        replace x_v806 := x_v806.resolve_left tc83
        replace x_v807 := x_v807.resolve_left tc83
        clear x_v808
        have g91 : RGR t tn [(31, 0)] [(36, 0)] (FR5 f4) (FR5 f4) y11 y12 y6 n73_0_11 n73_0_12 n80_0_6 n80_0_7 n80_0_9 n80_0_10 := (by first | (refine RGR.seq g77 (RGR.cons (RGR_g ?_ x_v807.1 (GR_nx (fun _ => st_xY ?_) x_v807.2.1))) <;> omega) | (exact RGR.seq g77 (RGR.cons (RGR_f (R := FR5 f4) (m := 2) (G := []) x_v881 (TNK.msw x_v737) (by decide) (by decide) (fun q9 _ => st_xN (by have q8 := (TNK.msw x_v737 q9).2.2.2.1; omega))))))
        refine lv_aload_n hx hb dX12_readUsed_91 rfl (lv_at hl 1 rfl) ?_
        refine lv_iconst (v := 0) hx hb dX12_readUsed_92 (by decide) ?_
        refine lv_aload_n hx hb dX12_readUsed_93 rfl (lv_at hl 1 rfl) ?_
        refine x_getk (ci := 12) (C := RX12) (F := TX12) (N := 36) (v := .ref y4) hx hb hts uX12 hown hkb hH 0 rfl rfl 4 (by decide) rfl kw_1227 (fun _ h9 => h9) dX12_readUsed_94 ?_
        refine lv_iconst (v := 2) hx hb dX12_readUsed_97 (by decide) ?_
        refine xa_ild hx hb hkb hH 2 rfl (by decide) (by decide) dX12_readUsed_98 ?_
        refine lv_topi (fun v98 ev98 => ?_)
        have tv98 : v98 = f4 2 := by rw [ev98]; rfl
        have bv98 : 0 ≤ v98.toInt ∧ v98.toInt ≤ 5 := by rw [tv98]; exact s_f4.2.1
        refine lv_iconst (v := 1) hx hb dX12_readUsed_99 (by decide) ?_
        refine lv_isub hx hb dX12_readUsed_100 ?_
        refine lv_topi (fun v100 ev100 => ?_)
        have tv100 : v100.toInt = v98.toInt - (1) := by rw [ev100]; exact sub_i rfl (by decide : (1 : Int32).toInt = 1) (by omega) (by omega)
        have z9_0 : (0 : Int32).toInt = 0 := by decide
        refine tk_i hH hS hA (tr_V (n := 2) (As := [.int 0, .int v100]) hx hb hml hown hts hkb hH (ox_map hOX rfl) hks hE hS hA (s_M_takes l D cs kf T (y4 :: O) ((y4, .inl (cs.2.1, 1302, .inl f4)) :: X) a0 hg mq (0) v100 o0 o1 o2 y3 y4 o5 n80_0_6 n80_0_7 y8 n80_0_9 n80_0_10 n73_0_11 n73_0_12 tl f3 t tn t_a0 b_hg (by decide) (by decide) t_y3 t_y4 (by omega) (by omega) (by omega) (by omega) (by omega) (by omega) (by omega) (by omega) (by omega) htm (by omega) (by omega) x_v803 (fun _ => x_v807.1) (hO.sub (by decide))) kw_1382 kw_1384 ks_50 kw_13 kw_1385 (by decide +kernel) ⟨Nat.le_of_ble_eq_true rfl, Nat.le_of_ble_eq_true rfl⟩ (x_recv (ci := 12) hkb hH 0 rfl rfl) rfl rfl hl.1 (Nat.le_of_ble_eq_true rfl) dX12_readUsed_101 ⟨Nat.le_of_ble_eq_true rfl, Nat.le_of_ble_eq_true rfl⟩) (fun v101 u H locs hz9 hH hS => ?_)
        obtain ⟨n101_0_6, n101_0_7, n101_0_9, n101_0_10, n101_0_11, n101_0_12, rfl, l_v101, u_v101, x_v1010, x_v1011, x_v1012, x_v1013, x_v1014, x_v1015, x_v1016, x_v1017⟩ := hz9
        have hH : HT D cs A T (a0 :: y3 :: y4 :: O) ((a0, .inr (12, o0 :: o1 :: o2 :: (.ref y3) :: (.ref y4) :: o5 :: (.int n101_0_6) :: (.int n101_0_7) :: (.int y8) :: (.int n101_0_9) :: (.int n101_0_10) :: (.int n101_0_11) :: (.int n101_0_12) :: tl)) :: (y3, .inl (cs.2.1, 900, .inl f3)) :: (y4, .inl (cs.2.1, 1302, .inl f4)) :: X) H := hH
        refine W.widen (k := 0) (n := 0) (Nat.le_of_ble_eq_true rfl) (Nat.le_of_ble_eq_true rfl) ?_
        refine lv_istore_n (lv' := [(2, .int v101), (1, .int v73), (0, .ref a0)]) hx hb dX12_readUsed_104 rfl hl (by decide) rfl (fun ls hl => ?_)
        have hgi : v100.toInt = (((FR5 f4).2.1 : Nat) : Int) - 1 := by show v100.toInt = (((f4 2).toInt.toNat : Nat) : Int) - 1; rw [← tv98]; omega
        have g105 : RGR t tn [(31, 0)] [] (FR5 f4) (FR5 f4) y11 y12 y6 n101_0_11 n101_0_12 n101_0_6 n101_0_7 n101_0_9 n101_0_10 := g91.seq (TNK.rg2 x_v1017 hgi)
        refine lv_aload_n hx hb dX12_readUsed_105 rfl (lv_at hl 2 rfl) ?_
        refine x_getk (ci := 12) (C := RX12) (F := TX12) (N := 36) (v := .int n101_0_11) hx hb hts uX12 hown hkb hH 0 rfl rfl 11 (by decide) rfl kw_1234 (fun _ h9 => h9) dX12_readUsed_106 ?_
        refine lv_if_ne (tgt := 137) hx hb dX12_readUsed_109 (by decide) (fun c109 => ?_) (fun c109 => ?_)
        · skip
          have tc109 := f_ne (k := 0) (by decide) c109
          exact te_v hx hb hr hlocks hH hS (⟨n101_0_6, n101_0_7, n101_0_9, n101_0_10, n101_0_11, n101_0_12, f4, rfl, s_f4, by omega, by omega, by omega, x_v1013, by omega, by omega, (by first | (exact g105) | (refine RGR.to g105 (FR5_o eF136 (Or.inr ?_)); omega)), (by first | rfl | (rw [eF136]; exact upd_ne (by omega)))⟩) dX12_readUsed_137
        · skip
          have tc109 := f_eq (k := 0) (by decide) c109
          have t2 := x_v1016 tc109
          have t1 : 0 ≤ v73.toInt ∧ v73.toInt ≤ v72.toInt := by first | exact absurd t2.1 x_v880 | (have q9 := x_v736 t2.1; have z8 : (0 : Int32).toInt = 0 := (by decide); omega)
          refine lv_aload_n hx hb dX12_readUsed_112 rfl (lv_at hl 2 rfl) ?_
          refine x_getk (ci := 12) (C := RX12) (F := TX12) (N := 36) (v := .ref y4) hx hb hts uX12 hown hkb hH 0 rfl rfl 4 (by decide) rfl kw_1227 (fun _ h9 => h9) dX12_readUsed_113 ?_
          refine lv_bipush (v := 87) hx hb dX12_readUsed_116 (by decide) ?_
          refine xa_ild hx hb hkb hH 2 rfl (by decide) (by decide) dX12_readUsed_118 ?_
          refine lv_topi (fun v118 ev118 => ?_)
          have tv118 : v118 = f4 87 := by rw [ev118]; rfl
          refine lv_i2l hx hb dX12_readUsed_119 rfl ?_
          refine lv_iload_n hx hb dX12_readUsed_120 rfl (lv_at hl 1 rfl) ?_
          refine tk_i hH hS hA (tr_S (n := 2) (As := [.long v118.toInt64, .int v73]) hx hb hml hown hts hkb hH (ox_map hOX rfl) hks hE hS hA (s_M_isIn2 l D cs kf T (a0 :: y3 :: y4 :: O) ((a0, .inr (12, o0 :: o1 :: o2 :: (.ref y3) :: (.ref y4) :: o5 :: (.int n101_0_6) :: (.int n101_0_7) :: (.int y8) :: (.int n101_0_9) :: (.int n101_0_10) :: (.int n101_0_11) :: (.int n101_0_12) :: tl)) :: (y3, .inl (cs.2.1, 900, .inl f3)) :: (y4, .inl (cs.2.1, 1302, .inl f4)) :: X) v118.toInt64 v73  (hO.sub (by decide))) kw_1440 kw_1441 kw_13 kw_1442 (by decide +kernel) ⟨Nat.le_of_ble_eq_true rfl, Nat.le_of_ble_eq_true rfl⟩ rfl rfl hl.1 (Nat.le_of_ble_eq_true rfl) dX12_readUsed_121 ⟨Nat.le_of_ble_eq_true rfl, Nat.le_of_ble_eq_true rfl⟩) (fun v121 u H locs hz9 hH hS => ?_)
          obtain ⟨rfl, l_v121, u_v121, x_v1210⟩ := hz9
          have hH : HT D cs A T (a0 :: y3 :: y4 :: O) ((a0, .inr (12, o0 :: o1 :: o2 :: (.ref y3) :: (.ref y4) :: o5 :: (.int n101_0_6) :: (.int n101_0_7) :: (.int y8) :: (.int n101_0_9) :: (.int n101_0_10) :: (.int n101_0_11) :: (.int n101_0_12) :: tl)) :: (y3, .inl (cs.2.1, 900, .inl f3)) :: (y4, .inl (cs.2.1, 1302, .inl f4)) :: X) H := hH
          refine W.widen (k := 0) (n := 0) (Nat.le_of_ble_eq_true rfl) (Nat.le_of_ble_eq_true rfl) ?_
          refine lv_if_ne (tgt := 137) hx hb dX12_readUsed_124 (by decide) (fun c124 => ?_) (fun c124 => ?_)
          · skip
            have tc124 := f_ne (k := 0) (by decide) c124
            exact te_v hx hb hr hlocks hH hS (⟨n101_0_6, n101_0_7, n101_0_9, n101_0_10, n101_0_11, n101_0_12, f4, rfl, s_f4, by omega, by omega, by omega, x_v1013, by omega, by omega, (by first | (exact g105) | (refine RGR.to g105 (FR5_o eF136 (Or.inr ?_)); omega)), (by first | rfl | (rw [eF136]; exact upd_ne (by omega)))⟩) dX12_readUsed_137
          · skip
            have tc124 := f_eq (k := 0) (by decide) c124
            refine lv_aload_n hx hb dX12_readUsed_127 rfl (lv_at hl 2 rfl) ?_
            refine x_getk (ci := 12) (C := RX12) (F := TX12) (N := 36) (v := .ref y4) hx hb hts uX12 hown hkb hH 0 rfl rfl 4 (by decide) rfl kw_1227 (fun _ h9 => h9) dX12_readUsed_128 ?_
            refine lv_bipush (v := 59) hx hb dX12_readUsed_131 (by decide) ?_
            refine lv_iload_n hx hb dX12_readUsed_133 rfl (lv_at hl 1 rfl) ?_
            refine lv_iadd hx hb dX12_readUsed_134 ?_
            refine lv_topi (fun v134 ev134 => ?_)
            have tv134 : v134.toInt = (59) + v73.toInt := by rw [ev134]; exact add_i (by decide : (59 : Int32).toInt = 59) rfl (by omega) (by omega)
            refine lv_iload_n hx hb dX12_readUsed_135 rfl (lv_at hl 0 rfl) ?_
            refine xa_ist hx hb hkb hH hS 2 rfl (by omega) (by omega) dX12_readUsed_136 (fun H locs hH hS => ?_)
            have hH : HT D cs A T (a0 :: y3 :: y4 :: O) ((a0, .inr (12, o0 :: o1 :: o2 :: (.ref y3) :: (.ref y4) :: o5 :: (.int n101_0_6) :: (.int n101_0_7) :: (.int y8) :: (.int n101_0_9) :: (.int n101_0_10) :: (.int n101_0_11) :: (.int n101_0_12) :: tl)) :: (y3, .inl (cs.2.1, 900, .inl f3)) :: (y4, .inl (cs.2.1, 1302, .inl (upd f4 (v134.toInt.toNat) v101))) :: X) H := hH
            obtain ⟨F136, eF136⟩ : ∃ f9, f9 = upd f4 (v134.toInt.toNat) v101 := ⟨_, rfl⟩
            have hH : HT D cs A T (a0 :: y3 :: y4 :: O) ((a0, .inr (12, o0 :: o1 :: o2 :: (.ref y3) :: (.ref y4) :: o5 :: (.int n101_0_6) :: (.int n101_0_7) :: (.int y8) :: (.int n101_0_9) :: (.int n101_0_10) :: (.int n101_0_11) :: (.int n101_0_12) :: tl)) :: (y3, .inl (cs.2.1, 900, .inl f3)) :: (y4, .inl (cs.2.1, 1302, .inl F136)) :: X) H := eF136 ▸ hH
            have s_F136 : S8 F136 := eF136 ▸ S8_put (i := v134) (x := v101) s_f4 (by omega) (by omega) (p8_far (by omega) (⟨by omega, by omega⟩))
            exact te_v hx hb hr hlocks hH hS (⟨n101_0_6, n101_0_7, n101_0_9, n101_0_10, n101_0_11, n101_0_12, F136, rfl, s_F136, by omega, by omega, by omega, x_v1013, by omega, by omega, (by first | (exact g105) | (refine RGR.to g105 (FR5_o eF136 (Or.inr ?_)); omega)), (by first | rfl | (rw [eF136]; exact upd_ne (by omega)))⟩) dX12_readUsed_137
      · skip
        have tc83 := f_eq (k := 0) (by decide) c83
        clear x_v806
        clear x_v807
        replace x_v808 := x_v808.resolve_left (fun q9 => q9 tc83)
        obtain ⟨e6, e7, e9, e10, x_v808⟩ := x_v808
        subst e6 e7 e9 e10
        refine lv_aload_n hx hb dX12_readUsed_86 rfl (lv_at hl 1 rfl) ?_
        refine lv_iconst (v := 2) hx hb dX12_readUsed_87 (by decide) ?_
        have z9_2 : (2 : Int32).toInt = 2 := by decide
        refine tk_v hH hS hA (tr_V (n := 1) (As := [.int 2]) hx hb hml hown hts hkb hH (ox_map hOX rfl) hks hE hS hA (s_M_fails l D cs kf T (y4 :: O) ((y4, .inl (cs.2.1, 1302, .inl f4)) :: X) a0 hg mq (2) o0 o1 o2 y3 y4 o5 n73_0_6 n73_0_7 y8 n73_0_9 n73_0_10 n73_0_11 n73_0_12 tl f3 t tn t_a0 b_hg (by decide) (by decide) t_y3 t_y4 (by omega) (by omega) (by omega) (by omega) (by omega) (by omega) (by omega) (by omega) (by omega) htm (hO.sub (by decide))) kw_1378 kw_1380 ks_49 kw_13 kw_1381 (by decide +kernel) ⟨Nat.le_of_ble_eq_true rfl, Nat.le_of_ble_eq_true rfl⟩ (x_recv (ci := 12) hkb hH 0 rfl rfl) rfl rfl hl.1 (Nat.le_of_ble_eq_true rfl) dX12_readUsed_88 ⟨Nat.le_of_ble_eq_true rfl, Nat.le_of_ble_eq_true rfl⟩) (fun u H locs hz9 hH hS => ?_)
        obtain ⟨n88_0_11, n88_0_12, rfl, x_v880, x_v881⟩ := hz9
        have hH : HT D cs A T (a0 :: y3 :: y4 :: O) ((a0, .inr (12, o0 :: o1 :: o2 :: (.ref y3) :: (.ref y4) :: o5 :: (.int n73_0_6) :: (.int n73_0_7) :: (.int y8) :: (.int n73_0_9) :: (.int n73_0_10) :: (.int n88_0_11) :: (.int n88_0_12) :: tl)) :: (y3, .inl (cs.2.1, 900, .inl f3)) :: (y4, .inl (cs.2.1, 1302, .inl f4)) :: X) H := hH
        refine W.widen (k := 0) (n := 0) (Nat.le_of_ble_eq_true rfl) (Nat.le_of_ble_eq_true rfl) ?_
        have g91 : RGR t tn [(31, 0)] [(36, 0)] (FR5 f4) (FR5 f4) y11 y12 y6 n88_0_11 n88_0_12 n73_0_6 n73_0_7 n73_0_9 n73_0_10 := (by first | (refine RGR.seq g77 (RGR.cons (RGR_g ?_ x_v807.1 (GR_nx (fun _ => st_xY ?_) x_v807.2.1))) <;> omega) | (exact RGR.seq g77 (RGR.cons (RGR_f (R := FR5 f4) (m := 2) (G := []) x_v881 (TNK.msw x_v737) (by decide) (by decide) (fun q9 _ => st_xN (by have q8 := (TNK.msw x_v737 q9).2.2.2.1; omega))))))
        refine lv_aload_n hx hb dX12_readUsed_91 rfl (lv_at hl 1 rfl) ?_
        refine lv_iconst (v := 0) hx hb dX12_readUsed_92 (by decide) ?_
        refine lv_aload_n hx hb dX12_readUsed_93 rfl (lv_at hl 1 rfl) ?_
        refine x_getk (ci := 12) (C := RX12) (F := TX12) (N := 36) (v := .ref y4) hx hb hts uX12 hown hkb hH 0 rfl rfl 4 (by decide) rfl kw_1227 (fun _ h9 => h9) dX12_readUsed_94 ?_
        refine lv_iconst (v := 2) hx hb dX12_readUsed_97 (by decide) ?_
        refine xa_ild hx hb hkb hH 2 rfl (by decide) (by decide) dX12_readUsed_98 ?_
        refine lv_topi (fun v98 ev98 => ?_)
        have tv98 : v98 = f4 2 := by rw [ev98]; rfl
        have bv98 : 0 ≤ v98.toInt ∧ v98.toInt ≤ 5 := by rw [tv98]; exact s_f4.2.1
        refine lv_iconst (v := 1) hx hb dX12_readUsed_99 (by decide) ?_
        refine lv_isub hx hb dX12_readUsed_100 ?_
        refine lv_topi (fun v100 ev100 => ?_)
        have tv100 : v100.toInt = v98.toInt - (1) := by rw [ev100]; exact sub_i rfl (by decide : (1 : Int32).toInt = 1) (by omega) (by omega)
        have z9_0 : (0 : Int32).toInt = 0 := by decide
        refine tk_i hH hS hA (tr_V (n := 2) (As := [.int 0, .int v100]) hx hb hml hown hts hkb hH (ox_map hOX rfl) hks hE hS hA (s_M_takes l D cs kf T (y4 :: O) ((y4, .inl (cs.2.1, 1302, .inl f4)) :: X) a0 hg mq (0) v100 o0 o1 o2 y3 y4 o5 n73_0_6 n73_0_7 y8 n73_0_9 n73_0_10 n88_0_11 n88_0_12 tl f3 t tn t_a0 b_hg (by decide) (by decide) t_y3 t_y4 (by omega) (by omega) (by omega) (by omega) (by omega) (by omega) (by omega) (by omega) (by omega) htm (by omega) (by omega) x_v803 (fun q9 => absurd q9 x_v880) (hO.sub (by decide))) kw_1382 kw_1384 ks_50 kw_13 kw_1385 (by decide +kernel) ⟨Nat.le_of_ble_eq_true rfl, Nat.le_of_ble_eq_true rfl⟩ (x_recv (ci := 12) hkb hH 0 rfl rfl) rfl rfl hl.1 (Nat.le_of_ble_eq_true rfl) dX12_readUsed_101 ⟨Nat.le_of_ble_eq_true rfl, Nat.le_of_ble_eq_true rfl⟩) (fun v101 u H locs hz9 hH hS => ?_)
        obtain ⟨n101_0_6, n101_0_7, n101_0_9, n101_0_10, n101_0_11, n101_0_12, rfl, l_v101, u_v101, x_v1010, x_v1011, x_v1012, x_v1013, x_v1014, x_v1015, x_v1016, x_v1017⟩ := hz9
        have hH : HT D cs A T (a0 :: y3 :: y4 :: O) ((a0, .inr (12, o0 :: o1 :: o2 :: (.ref y3) :: (.ref y4) :: o5 :: (.int n101_0_6) :: (.int n101_0_7) :: (.int y8) :: (.int n101_0_9) :: (.int n101_0_10) :: (.int n101_0_11) :: (.int n101_0_12) :: tl)) :: (y3, .inl (cs.2.1, 900, .inl f3)) :: (y4, .inl (cs.2.1, 1302, .inl f4)) :: X) H := hH
        refine W.widen (k := 0) (n := 0) (Nat.le_of_ble_eq_true rfl) (Nat.le_of_ble_eq_true rfl) ?_
        refine lv_istore_n (lv' := [(2, .int v101), (1, .int v73), (0, .ref a0)]) hx hb dX12_readUsed_104 rfl hl (by decide) rfl (fun ls hl => ?_)
        have hgi : v100.toInt = (((FR5 f4).2.1 : Nat) : Int) - 1 := by show v100.toInt = (((f4 2).toInt.toNat : Nat) : Int) - 1; rw [← tv98]; omega
        have g105 : RGR t tn [(31, 0)] [] (FR5 f4) (FR5 f4) y11 y12 y6 n101_0_11 n101_0_12 n101_0_6 n101_0_7 n101_0_9 n101_0_10 := g91.seq (TNK.rg2 x_v1017 hgi)
        refine lv_aload_n hx hb dX12_readUsed_105 rfl (lv_at hl 2 rfl) ?_
        refine x_getk (ci := 12) (C := RX12) (F := TX12) (N := 36) (v := .int n101_0_11) hx hb hts uX12 hown hkb hH 0 rfl rfl 11 (by decide) rfl kw_1234 (fun _ h9 => h9) dX12_readUsed_106 ?_
        refine lv_if_ne (tgt := 137) hx hb dX12_readUsed_109 (by decide) (fun c109 => ?_) (fun c109 => ?_)
        · skip
          have tc109 := f_ne (k := 0) (by decide) c109
          exact te_v hx hb hr hlocks hH hS (⟨n101_0_6, n101_0_7, n101_0_9, n101_0_10, n101_0_11, n101_0_12, f4, rfl, s_f4, by omega, by omega, by omega, x_v1013, by omega, by omega, (by first | (exact g105) | (refine RGR.to g105 (FR5_o eF136 (Or.inr ?_)); omega)), (by first | rfl | (rw [eF136]; exact upd_ne (by omega)))⟩) dX12_readUsed_137
        · skip
          have tc109 := f_eq (k := 0) (by decide) c109
          have t2 := x_v1016 tc109
          have t1 : 0 ≤ v73.toInt ∧ v73.toInt ≤ v72.toInt := by first | exact absurd t2.1 x_v880 | (have q9 := x_v736 t2.1; have z8 : (0 : Int32).toInt = 0 := (by decide); omega)
          refine lv_aload_n hx hb dX12_readUsed_112 rfl (lv_at hl 2 rfl) ?_
          refine x_getk (ci := 12) (C := RX12) (F := TX12) (N := 36) (v := .ref y4) hx hb hts uX12 hown hkb hH 0 rfl rfl 4 (by decide) rfl kw_1227 (fun _ h9 => h9) dX12_readUsed_113 ?_
          refine lv_bipush (v := 87) hx hb dX12_readUsed_116 (by decide) ?_
          refine xa_ild hx hb hkb hH 2 rfl (by decide) (by decide) dX12_readUsed_118 ?_
          refine lv_topi (fun v118 ev118 => ?_)
          have tv118 : v118 = f4 87 := by rw [ev118]; rfl
          refine lv_i2l hx hb dX12_readUsed_119 rfl ?_
          refine lv_iload_n hx hb dX12_readUsed_120 rfl (lv_at hl 1 rfl) ?_
          refine tk_i hH hS hA (tr_S (n := 2) (As := [.long v118.toInt64, .int v73]) hx hb hml hown hts hkb hH (ox_map hOX rfl) hks hE hS hA (s_M_isIn2 l D cs kf T (a0 :: y3 :: y4 :: O) ((a0, .inr (12, o0 :: o1 :: o2 :: (.ref y3) :: (.ref y4) :: o5 :: (.int n101_0_6) :: (.int n101_0_7) :: (.int y8) :: (.int n101_0_9) :: (.int n101_0_10) :: (.int n101_0_11) :: (.int n101_0_12) :: tl)) :: (y3, .inl (cs.2.1, 900, .inl f3)) :: (y4, .inl (cs.2.1, 1302, .inl f4)) :: X) v118.toInt64 v73  (hO.sub (by decide))) kw_1440 kw_1441 kw_13 kw_1442 (by decide +kernel) ⟨Nat.le_of_ble_eq_true rfl, Nat.le_of_ble_eq_true rfl⟩ rfl rfl hl.1 (Nat.le_of_ble_eq_true rfl) dX12_readUsed_121 ⟨Nat.le_of_ble_eq_true rfl, Nat.le_of_ble_eq_true rfl⟩) (fun v121 u H locs hz9 hH hS => ?_)
          obtain ⟨rfl, l_v121, u_v121, x_v1210⟩ := hz9
          have hH : HT D cs A T (a0 :: y3 :: y4 :: O) ((a0, .inr (12, o0 :: o1 :: o2 :: (.ref y3) :: (.ref y4) :: o5 :: (.int n101_0_6) :: (.int n101_0_7) :: (.int y8) :: (.int n101_0_9) :: (.int n101_0_10) :: (.int n101_0_11) :: (.int n101_0_12) :: tl)) :: (y3, .inl (cs.2.1, 900, .inl f3)) :: (y4, .inl (cs.2.1, 1302, .inl f4)) :: X) H := hH
          refine W.widen (k := 0) (n := 0) (Nat.le_of_ble_eq_true rfl) (Nat.le_of_ble_eq_true rfl) ?_
          refine lv_if_ne (tgt := 137) hx hb dX12_readUsed_124 (by decide) (fun c124 => ?_) (fun c124 => ?_)
          · skip
            have tc124 := f_ne (k := 0) (by decide) c124
            exact te_v hx hb hr hlocks hH hS (⟨n101_0_6, n101_0_7, n101_0_9, n101_0_10, n101_0_11, n101_0_12, f4, rfl, s_f4, by omega, by omega, by omega, x_v1013, by omega, by omega, (by first | (exact g105) | (refine RGR.to g105 (FR5_o eF136 (Or.inr ?_)); omega)), (by first | rfl | (rw [eF136]; exact upd_ne (by omega)))⟩) dX12_readUsed_137
          · skip
            have tc124 := f_eq (k := 0) (by decide) c124
            refine lv_aload_n hx hb dX12_readUsed_127 rfl (lv_at hl 2 rfl) ?_
            refine x_getk (ci := 12) (C := RX12) (F := TX12) (N := 36) (v := .ref y4) hx hb hts uX12 hown hkb hH 0 rfl rfl 4 (by decide) rfl kw_1227 (fun _ h9 => h9) dX12_readUsed_128 ?_
            refine lv_bipush (v := 59) hx hb dX12_readUsed_131 (by decide) ?_
            refine lv_iload_n hx hb dX12_readUsed_133 rfl (lv_at hl 1 rfl) ?_
            refine lv_iadd hx hb dX12_readUsed_134 ?_
            refine lv_topi (fun v134 ev134 => ?_)
            have tv134 : v134.toInt = (59) + v73.toInt := by rw [ev134]; exact add_i (by decide : (59 : Int32).toInt = 59) rfl (by omega) (by omega)
            refine lv_iload_n hx hb dX12_readUsed_135 rfl (lv_at hl 0 rfl) ?_
            refine xa_ist hx hb hkb hH hS 2 rfl (by omega) (by omega) dX12_readUsed_136 (fun H locs hH hS => ?_)
            have hH : HT D cs A T (a0 :: y3 :: y4 :: O) ((a0, .inr (12, o0 :: o1 :: o2 :: (.ref y3) :: (.ref y4) :: o5 :: (.int n101_0_6) :: (.int n101_0_7) :: (.int y8) :: (.int n101_0_9) :: (.int n101_0_10) :: (.int n101_0_11) :: (.int n101_0_12) :: tl)) :: (y3, .inl (cs.2.1, 900, .inl f3)) :: (y4, .inl (cs.2.1, 1302, .inl (upd f4 (v134.toInt.toNat) v101))) :: X) H := hH
            obtain ⟨F136, eF136⟩ : ∃ f9, f9 = upd f4 (v134.toInt.toNat) v101 := ⟨_, rfl⟩
            have hH : HT D cs A T (a0 :: y3 :: y4 :: O) ((a0, .inr (12, o0 :: o1 :: o2 :: (.ref y3) :: (.ref y4) :: o5 :: (.int n101_0_6) :: (.int n101_0_7) :: (.int y8) :: (.int n101_0_9) :: (.int n101_0_10) :: (.int n101_0_11) :: (.int n101_0_12) :: tl)) :: (y3, .inl (cs.2.1, 900, .inl f3)) :: (y4, .inl (cs.2.1, 1302, .inl F136)) :: X) H := eF136 ▸ hH
            have s_F136 : S8 F136 := eF136 ▸ S8_put (i := v134) (x := v101) s_f4 (by omega) (by omega) (p8_far (by omega) (⟨by omega, by omega⟩))
            exact te_v hx hb hr hlocks hH hS (⟨n101_0_6, n101_0_7, n101_0_9, n101_0_10, n101_0_11, n101_0_12, F136, rfl, s_F136, by omega, by omega, by omega, x_v1013, by omega, by omega, (by first | (exact g105) | (refine RGR.to g105 (FR5_o eF136 (Or.inr ?_)); omega)), (by first | rfl | (rw [eF136]; exact upd_ne (by omega)))⟩) dX12_readUsed_137
    · skip
      have tc31 := f_ne (k := 0) (by decide) c31
      replace x_v280 := x_v280.resolve_left tc31
      clear x_v281
      have hnv := x_v16.2.2.2.2 (by omega)
      refine lv_aload_n hx hb dX12_readUsed_34 rfl (lv_at hl 0 rfl) ?_
      refine x_getk (ci := 12) (C := RX12) (F := TX12) (N := 36) (v := .ref y4) hx hb hts uX12 hown hkb hH 0 rfl rfl 4 (by decide) rfl kw_1227 (fun _ h9 => h9) dX12_readUsed_35 ?_
      refine lv_iconst (v := 4) hx hb dX12_readUsed_38 (by decide) ?_
      refine xa_ild hx hb hkb hH 2 rfl (by decide) (by decide) dX12_readUsed_39 ?_
      refine lv_topi (fun v39 ev39 => ?_)
      have tv39 : v39 = f4 4 := by rw [ev39]; rfl
      have bv39 : 0 ≤ v39.toInt ∧ v39.toInt ≤ 16383 := by rw [tv39]; exact s_f4.2.2.1
      refine lv_aload_n hx hb dX12_readUsed_40 rfl (lv_at hl 0 rfl) ?_
      refine x_getk (ci := 12) (C := RX12) (F := TX12) (N := 36) (v := .ref y4) hx hb hts uX12 hown hkb hH 0 rfl rfl 4 (by decide) rfl kw_1227 (fun _ h9 => h9) dX12_readUsed_41 ?_
      refine lv_iconst (v := 5) hx hb dX12_readUsed_44 (by decide) ?_
      refine xa_ild hx hb hkb hH 2 rfl (by decide) (by decide) dX12_readUsed_45 ?_
      refine lv_topi (fun v45 ev45 => ?_)
      have tv45 : v45 = f4 5 := by rw [ev45]; rfl
      have bv45 : 0 ≤ v45.toInt ∧ v45.toInt ≤ 16383 := by rw [tv45]; exact s_f4.2.2.2.1
      refine lv_ior hx hb dX12_readUsed_46 ?_
      refine lv_topi (fun v46 ev46 => ?_)
      have tv46 : 0 ≤ v46.toInt ∧ v46.toInt < 16384 := by rw [ev46]; exact or_b 14 (by decide) (by omega) (by omega) (by omega) (by omega)
      refine lv_i2l hx hb dX12_readUsed_47 rfl ?_
      refine lv_aload_n hx hb dX12_readUsed_48 rfl (lv_at hl 0 rfl) ?_
      refine x_getk (ci := 12) (C := RX12) (F := TX12) (N := 36) (v := .int n1_0_10) hx hb hts uX12 hown hkb hH 0 rfl rfl 10 (by decide) rfl kw_1233 (fun _ h9 => h9) dX12_readUsed_49 ?_
      refine tk_i hH hS hA (tr_S (n := 2) (As := [.long v46.toInt64, .int n1_0_10]) hx hb hml hown hts hkb hH (ox_map hOX rfl) hks hE hS hA (s_M_isIn2 l D cs kf T (a0 :: y3 :: y4 :: O) ((a0, .inr (12, o0 :: o1 :: o2 :: (.ref y3) :: (.ref y4) :: o5 :: (.int n1_0_6) :: (.int n1_0_7) :: (.int y8) :: (.int n1_0_9) :: (.int n1_0_10) :: (.int y11) :: (.int y12) :: tl)) :: (y3, .inl (cs.2.1, 900, .inl f3)) :: (y4, .inl (cs.2.1, 1302, .inl f4)) :: X) v46.toInt64 n1_0_10  (hO.sub (by decide))) kw_1440 kw_1441 kw_13 kw_1442 (by decide +kernel) ⟨Nat.le_of_ble_eq_true rfl, Nat.le_of_ble_eq_true rfl⟩ rfl rfl hl.1 (Nat.le_of_ble_eq_true rfl) dX12_readUsed_52 ⟨Nat.le_of_ble_eq_true rfl, Nat.le_of_ble_eq_true rfl⟩) (fun v52 u H locs hz9 hH hS => ?_)
      obtain ⟨rfl, l_v52, u_v52, x_v520⟩ := hz9
      have hH : HT D cs A T (a0 :: y3 :: y4 :: O) ((a0, .inr (12, o0 :: o1 :: o2 :: (.ref y3) :: (.ref y4) :: o5 :: (.int n1_0_6) :: (.int n1_0_7) :: (.int y8) :: (.int n1_0_9) :: (.int n1_0_10) :: (.int y11) :: (.int y12) :: tl)) :: (y3, .inl (cs.2.1, 900, .inl f3)) :: (y4, .inl (cs.2.1, 1302, .inl f4)) :: X) H := hH
      refine W.widen (k := 0) (n := 0) (Nat.le_of_ble_eq_true rfl) (Nat.le_of_ble_eq_true rfl) ?_
      have hs5 : 0 ≤ (v46 : Int32).toInt := by omega
      have hbt := inF_gl (s := v46) (k := n1_0_10) hs5 (by omega) (by omega) x_v520
      rw [ev46, tv39, tv45] at hbt
      refine lv_if_eq (tgt := 63) hx hb dX12_readUsed_55 (by decide) (fun c55 => ?_) (fun c55 => ?_)
      · skip
        have tc55 := f_eq (k := 0) (by decide) c55
        refine lv_aload_n hx hb dX12_readUsed_63 rfl (lv_at hl 0 rfl) ?_
        refine lv_iconst (v := 0) hx hb dX12_readUsed_64 (by decide) ?_
        refine lv_aload_n hx hb dX12_readUsed_65 rfl (lv_at hl 0 rfl) ?_
        refine x_getk (ci := 12) (C := RX12) (F := TX12) (N := 36) (v := .ref y4) hx hb hts uX12 hown hkb hH 0 rfl rfl 4 (by decide) rfl kw_1227 (fun _ h9 => h9) dX12_readUsed_66 ?_
        refine lv_iconst (v := 1) hx hb dX12_readUsed_69 (by decide) ?_
        refine xa_ild hx hb hkb hH 2 rfl (by decide) (by decide) dX12_readUsed_70 ?_
        refine lv_topi (fun v70 ev70 => ?_)
        have tv70 : v70 = f4 1 := by rw [ev70]; rfl
        have bv70 : 0 ≤ v70.toInt ∧ v70.toInt ≤ 14 := by rw [tv70]; exact s_f4.1
        refine lv_iconst (v := 1) hx hb dX12_readUsed_71 (by decide) ?_
        refine lv_isub hx hb dX12_readUsed_72 ?_
        refine lv_topi (fun v72 ev72 => ?_)
        have tv72 : v72.toInt = v70.toInt - (1) := by rw [ev72]; exact sub_i rfl (by decide : (1 : Int32).toInt = 1) (by omega) (by omega)
        have z9_0 : (0 : Int32).toInt = 0 := by decide
        refine tk_i hH hS hA (tr_V (n := 2) (As := [.int 0, .int v72]) hx hb hml hown hts hkb hH (ox_map hOX rfl) hks hE hS hA (s_M_takes l D cs kf T (y4 :: O) ((y4, .inl (cs.2.1, 1302, .inl f4)) :: X) a0 hg mq (0) v72 o0 o1 o2 y3 y4 o5 n1_0_6 n1_0_7 y8 n1_0_9 n1_0_10 y11 y12 tl f3 t tn t_a0 b_hg (by decide) (by decide) t_y3 t_y4 (by omega) (by omega) (by omega) (by omega) (by omega) (by omega) (by omega) (by omega) (by omega) htm (by omega) (by omega) x_v13 (fun _ => x_v16) (hO.sub (by decide))) kw_1382 kw_1384 ks_50 kw_13 kw_1385 (by decide +kernel) ⟨Nat.le_of_ble_eq_true rfl, Nat.le_of_ble_eq_true rfl⟩ (x_recv (ci := 12) hkb hH 0 rfl rfl) rfl rfl hl.1 (Nat.le_of_ble_eq_true rfl) dX12_readUsed_73 ⟨Nat.le_of_ble_eq_true rfl, Nat.le_of_ble_eq_true rfl⟩) (fun v73 u H locs hz9 hH hS => ?_)
        obtain ⟨n73_0_6, n73_0_7, n73_0_9, n73_0_10, n73_0_11, n73_0_12, rfl, l_v73, u_v73, x_v730, x_v731, x_v732, x_v733, x_v734, x_v735, x_v736, x_v737⟩ := hz9
        have hH : HT D cs A T (a0 :: y3 :: y4 :: O) ((a0, .inr (12, o0 :: o1 :: o2 :: (.ref y3) :: (.ref y4) :: o5 :: (.int n73_0_6) :: (.int n73_0_7) :: (.int y8) :: (.int n73_0_9) :: (.int n73_0_10) :: (.int n73_0_11) :: (.int n73_0_12) :: tl)) :: (y3, .inl (cs.2.1, 900, .inl f3)) :: (y4, .inl (cs.2.1, 1302, .inl f4)) :: X) H := hH
        refine W.widen (k := 0) (n := 0) (Nat.le_of_ble_eq_true rfl) (Nat.le_of_ble_eq_true rfl) ?_
        refine lv_istore_n (lv' := [(1, .int v73), (0, .ref a0)]) hx hb dX12_readUsed_76 rfl hl (by decide) rfl (fun ls hl => ?_)
        have hhi : v72.toInt = (f4 1).toInt - 1 := by rw [← tv70]; omega
        have hh0 : 0 ≤ (f4 1).toInt := by rw [← tv70]; omega
        have hno : n73_0_11.toInt = 0 → ¬ (f4 4 ||| f4 5).toBitVec.getLsbD v73.toInt.toNat = true := by
          intro q9; have hi9 := TNK.in x_v737 q9
          first | (exfalso; have q7 := hi9.2.2.2; exact x_v600 q7) | (exfalso; omega) | (exfalso; have q6 := x_v16.2.2.2.2 hi9.1; have q5 := nv_21 hi9.1; have q4 : v24.toInt = v70.toInt := (by rw [tv24, tv70]); omega) | (intro q8; have q7 : v73.toInt.toNat = n1_0_10.toInt.toNat := (by have q6 := x_v16.2.2.2.2 hi9.1; omega); rw [q7] at q8; exact hbt.mpr q8 tc55)
        have g77 : RGR t tn [(31, 0)] [(20, 6), (36, 0)] (FR5 f4) (FR5 f4) y11 y12 y6 n73_0_11 n73_0_12 n73_0_6 n73_0_7 n73_0_9 n73_0_10 := (by first | (exact (g4.seq (RGR.cons (RGR_f (R := FR5 f4) (R' := FR5 f4) (F' := []) (m := 3) (G := []) (a2 := n1_0_6) (b := n1_0_7) (k := n1_0_9) (v := n1_0_10) x_v601 (fun _ => x_v16) (by decide) (by decide) (fun q9 _ => st_hB (R := FR5 f4) (by omega) (fun q8 => by have q7 := hbt.mp tc55; rw [hnv] at q7; rw [show (f4 4 ||| f4 5).toBitVec.getLsbD (nv t tn n1_0_6.toInt.toNat).toNat = false from q8.2] at q7; exact absurd q7 (by decide)))))).seq (TNK.keep x_v737 x_v600)) | (exact g4.seq (RGR.cons (TNK.rh x_v737 hhi hh0 (fun q9 => hno q9)))))
        refine lv_aload_n hx hb dX12_readUsed_77 rfl (lv_at hl 1 rfl) ?_
        refine lv_bipush (v := 6) hx hb dX12_readUsed_78 (by decide) ?_
        have z9_6 : (6 : Int32).toInt = 6 := by decide
        refine tk_i hH hS hA (tr_V (n := 1) (As := [.int 6]) hx hb hml hown hts hkb hH (ox_map hOX rfl) hks hE hS hA (s_M_eats l D cs kf T (y4 :: O) ((y4, .inl (cs.2.1, 1302, .inl f4)) :: X) a0 hg mq (6) o0 o1 o2 y3 y4 o5 n73_0_6 n73_0_7 y8 n73_0_9 n73_0_10 n73_0_11 n73_0_12 tl f3 t tn t_a0 b_hg t_y3 t_y4 (by omega) (by omega) (by omega) (by omega) (by omega) (by omega) (by omega) (by omega) (by omega) htm (by omega) (by omega) x_v733 (by omega) (TNK.msw x_v737) (hO.sub (by decide))) kw_1390 kw_1392 ks_52 kw_13 kw_1393 (by decide +kernel) ⟨Nat.le_of_ble_eq_true rfl, Nat.le_of_ble_eq_true rfl⟩ (x_recv (ci := 12) hkb hH 0 rfl rfl) rfl rfl hl.1 (Nat.le_of_ble_eq_true rfl) dX12_readUsed_80 ⟨Nat.le_of_ble_eq_true rfl, Nat.le_of_ble_eq_true rfl⟩) (fun v80 u H locs hz9 hH hS => ?_)
        obtain ⟨n80_0_6, n80_0_7, n80_0_9, n80_0_10, rfl, l_v80, u_v80, x_v800, x_v801, x_v802, x_v803, x_v804, x_v805, x_v806, x_v807, x_v808⟩ := hz9
        have hH : HT D cs A T (a0 :: y3 :: y4 :: O) ((a0, .inr (12, o0 :: o1 :: o2 :: (.ref y3) :: (.ref y4) :: o5 :: (.int n80_0_6) :: (.int n80_0_7) :: (.int y8) :: (.int n80_0_9) :: (.int n80_0_10) :: (.int n73_0_11) :: (.int n73_0_12) :: tl)) :: (y3, .inl (cs.2.1, 900, .inl f3)) :: (y4, .inl (cs.2.1, 1302, .inl f4)) :: X) H := hH
        refine W.widen (k := 0) (n := 0) (Nat.le_of_ble_eq_true rfl) (Nat.le_of_ble_eq_true rfl) ?_
        refine lv_if_ne (tgt := 91) hx hb dX12_readUsed_83 (by decide) (fun c83 => ?_) (fun c83 => ?_)
        · skip
          have tc83 := f_ne (k := 0) (by decide) c83
          replace x_v806 := x_v806.resolve_left tc83
          replace x_v807 := x_v807.resolve_left tc83
          clear x_v808
          have g91 : RGR t tn [(31, 0)] [(36, 0)] (FR5 f4) (FR5 f4) y11 y12 y6 n73_0_11 n73_0_12 n80_0_6 n80_0_7 n80_0_9 n80_0_10 := (by first | (refine RGR.seq g77 (RGR.cons (RGR_g ?_ x_v807.1 (GR_nx (fun _ => st_xY ?_) x_v807.2.1))) <;> omega) | (exact RGR.seq g77 (RGR.cons (RGR_f (R := FR5 f4) (m := 2) (G := []) x_v881 (TNK.msw x_v737) (by decide) (by decide) (fun q9 _ => st_xN (by have q8 := (TNK.msw x_v737 q9).2.2.2.1; omega))))))
          refine lv_aload_n hx hb dX12_readUsed_91 rfl (lv_at hl 1 rfl) ?_
          refine lv_iconst (v := 0) hx hb dX12_readUsed_92 (by decide) ?_
          refine lv_aload_n hx hb dX12_readUsed_93 rfl (lv_at hl 1 rfl) ?_
          refine x_getk (ci := 12) (C := RX12) (F := TX12) (N := 36) (v := .ref y4) hx hb hts uX12 hown hkb hH 0 rfl rfl 4 (by decide) rfl kw_1227 (fun _ h9 => h9) dX12_readUsed_94 ?_
          refine lv_iconst (v := 2) hx hb dX12_readUsed_97 (by decide) ?_
          refine xa_ild hx hb hkb hH 2 rfl (by decide) (by decide) dX12_readUsed_98 ?_
          refine lv_topi (fun v98 ev98 => ?_)
          have tv98 : v98 = f4 2 := by rw [ev98]; rfl
          have bv98 : 0 ≤ v98.toInt ∧ v98.toInt ≤ 5 := by rw [tv98]; exact s_f4.2.1
          refine lv_iconst (v := 1) hx hb dX12_readUsed_99 (by decide) ?_
          refine lv_isub hx hb dX12_readUsed_100 ?_
          refine lv_topi (fun v100 ev100 => ?_)
          have tv100 : v100.toInt = v98.toInt - (1) := by rw [ev100]; exact sub_i rfl (by decide : (1 : Int32).toInt = 1) (by omega) (by omega)
          have z9_0 : (0 : Int32).toInt = 0 := by decide
          refine tk_i hH hS hA (tr_V (n := 2) (As := [.int 0, .int v100]) hx hb hml hown hts hkb hH (ox_map hOX rfl) hks hE hS hA (s_M_takes l D cs kf T (y4 :: O) ((y4, .inl (cs.2.1, 1302, .inl f4)) :: X) a0 hg mq (0) v100 o0 o1 o2 y3 y4 o5 n80_0_6 n80_0_7 y8 n80_0_9 n80_0_10 n73_0_11 n73_0_12 tl f3 t tn t_a0 b_hg (by decide) (by decide) t_y3 t_y4 (by omega) (by omega) (by omega) (by omega) (by omega) (by omega) (by omega) (by omega) (by omega) htm (by omega) (by omega) x_v803 (fun _ => x_v807.1) (hO.sub (by decide))) kw_1382 kw_1384 ks_50 kw_13 kw_1385 (by decide +kernel) ⟨Nat.le_of_ble_eq_true rfl, Nat.le_of_ble_eq_true rfl⟩ (x_recv (ci := 12) hkb hH 0 rfl rfl) rfl rfl hl.1 (Nat.le_of_ble_eq_true rfl) dX12_readUsed_101 ⟨Nat.le_of_ble_eq_true rfl, Nat.le_of_ble_eq_true rfl⟩) (fun v101 u H locs hz9 hH hS => ?_)
          obtain ⟨n101_0_6, n101_0_7, n101_0_9, n101_0_10, n101_0_11, n101_0_12, rfl, l_v101, u_v101, x_v1010, x_v1011, x_v1012, x_v1013, x_v1014, x_v1015, x_v1016, x_v1017⟩ := hz9
          have hH : HT D cs A T (a0 :: y3 :: y4 :: O) ((a0, .inr (12, o0 :: o1 :: o2 :: (.ref y3) :: (.ref y4) :: o5 :: (.int n101_0_6) :: (.int n101_0_7) :: (.int y8) :: (.int n101_0_9) :: (.int n101_0_10) :: (.int n101_0_11) :: (.int n101_0_12) :: tl)) :: (y3, .inl (cs.2.1, 900, .inl f3)) :: (y4, .inl (cs.2.1, 1302, .inl f4)) :: X) H := hH
          refine W.widen (k := 0) (n := 0) (Nat.le_of_ble_eq_true rfl) (Nat.le_of_ble_eq_true rfl) ?_
          refine lv_istore_n (lv' := [(2, .int v101), (1, .int v73), (0, .ref a0)]) hx hb dX12_readUsed_104 rfl hl (by decide) rfl (fun ls hl => ?_)
          have hgi : v100.toInt = (((FR5 f4).2.1 : Nat) : Int) - 1 := by show v100.toInt = (((f4 2).toInt.toNat : Nat) : Int) - 1; rw [← tv98]; omega
          have g105 : RGR t tn [(31, 0)] [] (FR5 f4) (FR5 f4) y11 y12 y6 n101_0_11 n101_0_12 n101_0_6 n101_0_7 n101_0_9 n101_0_10 := g91.seq (TNK.rg2 x_v1017 hgi)
          refine lv_aload_n hx hb dX12_readUsed_105 rfl (lv_at hl 2 rfl) ?_
          refine x_getk (ci := 12) (C := RX12) (F := TX12) (N := 36) (v := .int n101_0_11) hx hb hts uX12 hown hkb hH 0 rfl rfl 11 (by decide) rfl kw_1234 (fun _ h9 => h9) dX12_readUsed_106 ?_
          refine lv_if_ne (tgt := 137) hx hb dX12_readUsed_109 (by decide) (fun c109 => ?_) (fun c109 => ?_)
          · skip
            have tc109 := f_ne (k := 0) (by decide) c109
            exact te_v hx hb hr hlocks hH hS (⟨n101_0_6, n101_0_7, n101_0_9, n101_0_10, n101_0_11, n101_0_12, f4, rfl, s_f4, by omega, by omega, by omega, x_v1013, by omega, by omega, (by first | (exact g105) | (refine RGR.to g105 (FR5_o eF136 (Or.inr ?_)); omega)), (by first | rfl | (rw [eF136]; exact upd_ne (by omega)))⟩) dX12_readUsed_137
          · skip
            have tc109 := f_eq (k := 0) (by decide) c109
            have t2 := x_v1016 tc109
            have t1 : 0 ≤ v73.toInt ∧ v73.toInt ≤ v72.toInt := by first | exact absurd t2.1 x_v880 | (have q9 := x_v736 t2.1; have z8 : (0 : Int32).toInt = 0 := (by decide); omega)
            refine lv_aload_n hx hb dX12_readUsed_112 rfl (lv_at hl 2 rfl) ?_
            refine x_getk (ci := 12) (C := RX12) (F := TX12) (N := 36) (v := .ref y4) hx hb hts uX12 hown hkb hH 0 rfl rfl 4 (by decide) rfl kw_1227 (fun _ h9 => h9) dX12_readUsed_113 ?_
            refine lv_bipush (v := 87) hx hb dX12_readUsed_116 (by decide) ?_
            refine xa_ild hx hb hkb hH 2 rfl (by decide) (by decide) dX12_readUsed_118 ?_
            refine lv_topi (fun v118 ev118 => ?_)
            have tv118 : v118 = f4 87 := by rw [ev118]; rfl
            refine lv_i2l hx hb dX12_readUsed_119 rfl ?_
            refine lv_iload_n hx hb dX12_readUsed_120 rfl (lv_at hl 1 rfl) ?_
            refine tk_i hH hS hA (tr_S (n := 2) (As := [.long v118.toInt64, .int v73]) hx hb hml hown hts hkb hH (ox_map hOX rfl) hks hE hS hA (s_M_isIn2 l D cs kf T (a0 :: y3 :: y4 :: O) ((a0, .inr (12, o0 :: o1 :: o2 :: (.ref y3) :: (.ref y4) :: o5 :: (.int n101_0_6) :: (.int n101_0_7) :: (.int y8) :: (.int n101_0_9) :: (.int n101_0_10) :: (.int n101_0_11) :: (.int n101_0_12) :: tl)) :: (y3, .inl (cs.2.1, 900, .inl f3)) :: (y4, .inl (cs.2.1, 1302, .inl f4)) :: X) v118.toInt64 v73  (hO.sub (by decide))) kw_1440 kw_1441 kw_13 kw_1442 (by decide +kernel) ⟨Nat.le_of_ble_eq_true rfl, Nat.le_of_ble_eq_true rfl⟩ rfl rfl hl.1 (Nat.le_of_ble_eq_true rfl) dX12_readUsed_121 ⟨Nat.le_of_ble_eq_true rfl, Nat.le_of_ble_eq_true rfl⟩) (fun v121 u H locs hz9 hH hS => ?_)
            obtain ⟨rfl, l_v121, u_v121, x_v1210⟩ := hz9
            have hH : HT D cs A T (a0 :: y3 :: y4 :: O) ((a0, .inr (12, o0 :: o1 :: o2 :: (.ref y3) :: (.ref y4) :: o5 :: (.int n101_0_6) :: (.int n101_0_7) :: (.int y8) :: (.int n101_0_9) :: (.int n101_0_10) :: (.int n101_0_11) :: (.int n101_0_12) :: tl)) :: (y3, .inl (cs.2.1, 900, .inl f3)) :: (y4, .inl (cs.2.1, 1302, .inl f4)) :: X) H := hH
            refine W.widen (k := 0) (n := 0) (Nat.le_of_ble_eq_true rfl) (Nat.le_of_ble_eq_true rfl) ?_
            refine lv_if_ne (tgt := 137) hx hb dX12_readUsed_124 (by decide) (fun c124 => ?_) (fun c124 => ?_)
            · skip
              have tc124 := f_ne (k := 0) (by decide) c124
              exact te_v hx hb hr hlocks hH hS (⟨n101_0_6, n101_0_7, n101_0_9, n101_0_10, n101_0_11, n101_0_12, f4, rfl, s_f4, by omega, by omega, by omega, x_v1013, by omega, by omega, (by first | (exact g105) | (refine RGR.to g105 (FR5_o eF136 (Or.inr ?_)); omega)), (by first | rfl | (rw [eF136]; exact upd_ne (by omega)))⟩) dX12_readUsed_137
            · skip
              have tc124 := f_eq (k := 0) (by decide) c124
              refine lv_aload_n hx hb dX12_readUsed_127 rfl (lv_at hl 2 rfl) ?_
              refine x_getk (ci := 12) (C := RX12) (F := TX12) (N := 36) (v := .ref y4) hx hb hts uX12 hown hkb hH 0 rfl rfl 4 (by decide) rfl kw_1227 (fun _ h9 => h9) dX12_readUsed_128 ?_
              refine lv_bipush (v := 59) hx hb dX12_readUsed_131 (by decide) ?_
              refine lv_iload_n hx hb dX12_readUsed_133 rfl (lv_at hl 1 rfl) ?_
              refine lv_iadd hx hb dX12_readUsed_134 ?_
              refine lv_topi (fun v134 ev134 => ?_)
              have tv134 : v134.toInt = (59) + v73.toInt := by rw [ev134]; exact add_i (by decide : (59 : Int32).toInt = 59) rfl (by omega) (by omega)
              refine lv_iload_n hx hb dX12_readUsed_135 rfl (lv_at hl 0 rfl) ?_
              refine xa_ist hx hb hkb hH hS 2 rfl (by omega) (by omega) dX12_readUsed_136 (fun H locs hH hS => ?_)
              have hH : HT D cs A T (a0 :: y3 :: y4 :: O) ((a0, .inr (12, o0 :: o1 :: o2 :: (.ref y3) :: (.ref y4) :: o5 :: (.int n101_0_6) :: (.int n101_0_7) :: (.int y8) :: (.int n101_0_9) :: (.int n101_0_10) :: (.int n101_0_11) :: (.int n101_0_12) :: tl)) :: (y3, .inl (cs.2.1, 900, .inl f3)) :: (y4, .inl (cs.2.1, 1302, .inl (upd f4 (v134.toInt.toNat) v101))) :: X) H := hH
              obtain ⟨F136, eF136⟩ : ∃ f9, f9 = upd f4 (v134.toInt.toNat) v101 := ⟨_, rfl⟩
              have hH : HT D cs A T (a0 :: y3 :: y4 :: O) ((a0, .inr (12, o0 :: o1 :: o2 :: (.ref y3) :: (.ref y4) :: o5 :: (.int n101_0_6) :: (.int n101_0_7) :: (.int y8) :: (.int n101_0_9) :: (.int n101_0_10) :: (.int n101_0_11) :: (.int n101_0_12) :: tl)) :: (y3, .inl (cs.2.1, 900, .inl f3)) :: (y4, .inl (cs.2.1, 1302, .inl F136)) :: X) H := eF136 ▸ hH
              have s_F136 : S8 F136 := eF136 ▸ S8_put (i := v134) (x := v101) s_f4 (by omega) (by omega) (p8_far (by omega) (⟨by omega, by omega⟩))
              exact te_v hx hb hr hlocks hH hS (⟨n101_0_6, n101_0_7, n101_0_9, n101_0_10, n101_0_11, n101_0_12, F136, rfl, s_F136, by omega, by omega, by omega, x_v1013, by omega, by omega, (by first | (exact g105) | (refine RGR.to g105 (FR5_o eF136 (Or.inr ?_)); omega)), (by first | rfl | (rw [eF136]; exact upd_ne (by omega)))⟩) dX12_readUsed_137
        · skip
          have tc83 := f_eq (k := 0) (by decide) c83
          clear x_v806
          clear x_v807
          replace x_v808 := x_v808.resolve_left (fun q9 => q9 tc83)
          obtain ⟨e6, e7, e9, e10, x_v808⟩ := x_v808
          subst e6 e7 e9 e10
          refine lv_aload_n hx hb dX12_readUsed_86 rfl (lv_at hl 1 rfl) ?_
          refine lv_iconst (v := 2) hx hb dX12_readUsed_87 (by decide) ?_
          have z9_2 : (2 : Int32).toInt = 2 := by decide
          refine tk_v hH hS hA (tr_V (n := 1) (As := [.int 2]) hx hb hml hown hts hkb hH (ox_map hOX rfl) hks hE hS hA (s_M_fails l D cs kf T (y4 :: O) ((y4, .inl (cs.2.1, 1302, .inl f4)) :: X) a0 hg mq (2) o0 o1 o2 y3 y4 o5 n73_0_6 n73_0_7 y8 n73_0_9 n73_0_10 n73_0_11 n73_0_12 tl f3 t tn t_a0 b_hg (by decide) (by decide) t_y3 t_y4 (by omega) (by omega) (by omega) (by omega) (by omega) (by omega) (by omega) (by omega) (by omega) htm (hO.sub (by decide))) kw_1378 kw_1380 ks_49 kw_13 kw_1381 (by decide +kernel) ⟨Nat.le_of_ble_eq_true rfl, Nat.le_of_ble_eq_true rfl⟩ (x_recv (ci := 12) hkb hH 0 rfl rfl) rfl rfl hl.1 (Nat.le_of_ble_eq_true rfl) dX12_readUsed_88 ⟨Nat.le_of_ble_eq_true rfl, Nat.le_of_ble_eq_true rfl⟩) (fun u H locs hz9 hH hS => ?_)
          obtain ⟨n88_0_11, n88_0_12, rfl, x_v880, x_v881⟩ := hz9
          have hH : HT D cs A T (a0 :: y3 :: y4 :: O) ((a0, .inr (12, o0 :: o1 :: o2 :: (.ref y3) :: (.ref y4) :: o5 :: (.int n73_0_6) :: (.int n73_0_7) :: (.int y8) :: (.int n73_0_9) :: (.int n73_0_10) :: (.int n88_0_11) :: (.int n88_0_12) :: tl)) :: (y3, .inl (cs.2.1, 900, .inl f3)) :: (y4, .inl (cs.2.1, 1302, .inl f4)) :: X) H := hH
          refine W.widen (k := 0) (n := 0) (Nat.le_of_ble_eq_true rfl) (Nat.le_of_ble_eq_true rfl) ?_
          have g91 : RGR t tn [(31, 0)] [(36, 0)] (FR5 f4) (FR5 f4) y11 y12 y6 n88_0_11 n88_0_12 n73_0_6 n73_0_7 n73_0_9 n73_0_10 := (by first | (refine RGR.seq g77 (RGR.cons (RGR_g ?_ x_v807.1 (GR_nx (fun _ => st_xY ?_) x_v807.2.1))) <;> omega) | (exact RGR.seq g77 (RGR.cons (RGR_f (R := FR5 f4) (m := 2) (G := []) x_v881 (TNK.msw x_v737) (by decide) (by decide) (fun q9 _ => st_xN (by have q8 := (TNK.msw x_v737 q9).2.2.2.1; omega))))))
          refine lv_aload_n hx hb dX12_readUsed_91 rfl (lv_at hl 1 rfl) ?_
          refine lv_iconst (v := 0) hx hb dX12_readUsed_92 (by decide) ?_
          refine lv_aload_n hx hb dX12_readUsed_93 rfl (lv_at hl 1 rfl) ?_
          refine x_getk (ci := 12) (C := RX12) (F := TX12) (N := 36) (v := .ref y4) hx hb hts uX12 hown hkb hH 0 rfl rfl 4 (by decide) rfl kw_1227 (fun _ h9 => h9) dX12_readUsed_94 ?_
          refine lv_iconst (v := 2) hx hb dX12_readUsed_97 (by decide) ?_
          refine xa_ild hx hb hkb hH 2 rfl (by decide) (by decide) dX12_readUsed_98 ?_
          refine lv_topi (fun v98 ev98 => ?_)
          have tv98 : v98 = f4 2 := by rw [ev98]; rfl
          have bv98 : 0 ≤ v98.toInt ∧ v98.toInt ≤ 5 := by rw [tv98]; exact s_f4.2.1
          refine lv_iconst (v := 1) hx hb dX12_readUsed_99 (by decide) ?_
          refine lv_isub hx hb dX12_readUsed_100 ?_
          refine lv_topi (fun v100 ev100 => ?_)
          have tv100 : v100.toInt = v98.toInt - (1) := by rw [ev100]; exact sub_i rfl (by decide : (1 : Int32).toInt = 1) (by omega) (by omega)
          have z9_0 : (0 : Int32).toInt = 0 := by decide
          refine tk_i hH hS hA (tr_V (n := 2) (As := [.int 0, .int v100]) hx hb hml hown hts hkb hH (ox_map hOX rfl) hks hE hS hA (s_M_takes l D cs kf T (y4 :: O) ((y4, .inl (cs.2.1, 1302, .inl f4)) :: X) a0 hg mq (0) v100 o0 o1 o2 y3 y4 o5 n73_0_6 n73_0_7 y8 n73_0_9 n73_0_10 n88_0_11 n88_0_12 tl f3 t tn t_a0 b_hg (by decide) (by decide) t_y3 t_y4 (by omega) (by omega) (by omega) (by omega) (by omega) (by omega) (by omega) (by omega) (by omega) htm (by omega) (by omega) x_v803 (fun q9 => absurd q9 x_v880) (hO.sub (by decide))) kw_1382 kw_1384 ks_50 kw_13 kw_1385 (by decide +kernel) ⟨Nat.le_of_ble_eq_true rfl, Nat.le_of_ble_eq_true rfl⟩ (x_recv (ci := 12) hkb hH 0 rfl rfl) rfl rfl hl.1 (Nat.le_of_ble_eq_true rfl) dX12_readUsed_101 ⟨Nat.le_of_ble_eq_true rfl, Nat.le_of_ble_eq_true rfl⟩) (fun v101 u H locs hz9 hH hS => ?_)
          obtain ⟨n101_0_6, n101_0_7, n101_0_9, n101_0_10, n101_0_11, n101_0_12, rfl, l_v101, u_v101, x_v1010, x_v1011, x_v1012, x_v1013, x_v1014, x_v1015, x_v1016, x_v1017⟩ := hz9
          have hH : HT D cs A T (a0 :: y3 :: y4 :: O) ((a0, .inr (12, o0 :: o1 :: o2 :: (.ref y3) :: (.ref y4) :: o5 :: (.int n101_0_6) :: (.int n101_0_7) :: (.int y8) :: (.int n101_0_9) :: (.int n101_0_10) :: (.int n101_0_11) :: (.int n101_0_12) :: tl)) :: (y3, .inl (cs.2.1, 900, .inl f3)) :: (y4, .inl (cs.2.1, 1302, .inl f4)) :: X) H := hH
          refine W.widen (k := 0) (n := 0) (Nat.le_of_ble_eq_true rfl) (Nat.le_of_ble_eq_true rfl) ?_
          refine lv_istore_n (lv' := [(2, .int v101), (1, .int v73), (0, .ref a0)]) hx hb dX12_readUsed_104 rfl hl (by decide) rfl (fun ls hl => ?_)
          have hgi : v100.toInt = (((FR5 f4).2.1 : Nat) : Int) - 1 := by show v100.toInt = (((f4 2).toInt.toNat : Nat) : Int) - 1; rw [← tv98]; omega
          have g105 : RGR t tn [(31, 0)] [] (FR5 f4) (FR5 f4) y11 y12 y6 n101_0_11 n101_0_12 n101_0_6 n101_0_7 n101_0_9 n101_0_10 := g91.seq (TNK.rg2 x_v1017 hgi)
          refine lv_aload_n hx hb dX12_readUsed_105 rfl (lv_at hl 2 rfl) ?_
          refine x_getk (ci := 12) (C := RX12) (F := TX12) (N := 36) (v := .int n101_0_11) hx hb hts uX12 hown hkb hH 0 rfl rfl 11 (by decide) rfl kw_1234 (fun _ h9 => h9) dX12_readUsed_106 ?_
          refine lv_if_ne (tgt := 137) hx hb dX12_readUsed_109 (by decide) (fun c109 => ?_) (fun c109 => ?_)
          · skip
            have tc109 := f_ne (k := 0) (by decide) c109
            exact te_v hx hb hr hlocks hH hS (⟨n101_0_6, n101_0_7, n101_0_9, n101_0_10, n101_0_11, n101_0_12, f4, rfl, s_f4, by omega, by omega, by omega, x_v1013, by omega, by omega, (by first | (exact g105) | (refine RGR.to g105 (FR5_o eF136 (Or.inr ?_)); omega)), (by first | rfl | (rw [eF136]; exact upd_ne (by omega)))⟩) dX12_readUsed_137
          · skip
            have tc109 := f_eq (k := 0) (by decide) c109
            have t2 := x_v1016 tc109
            have t1 : 0 ≤ v73.toInt ∧ v73.toInt ≤ v72.toInt := by first | exact absurd t2.1 x_v880 | (have q9 := x_v736 t2.1; have z8 : (0 : Int32).toInt = 0 := (by decide); omega)
            refine lv_aload_n hx hb dX12_readUsed_112 rfl (lv_at hl 2 rfl) ?_
            refine x_getk (ci := 12) (C := RX12) (F := TX12) (N := 36) (v := .ref y4) hx hb hts uX12 hown hkb hH 0 rfl rfl 4 (by decide) rfl kw_1227 (fun _ h9 => h9) dX12_readUsed_113 ?_
            refine lv_bipush (v := 87) hx hb dX12_readUsed_116 (by decide) ?_
            refine xa_ild hx hb hkb hH 2 rfl (by decide) (by decide) dX12_readUsed_118 ?_
            refine lv_topi (fun v118 ev118 => ?_)
            have tv118 : v118 = f4 87 := by rw [ev118]; rfl
            refine lv_i2l hx hb dX12_readUsed_119 rfl ?_
            refine lv_iload_n hx hb dX12_readUsed_120 rfl (lv_at hl 1 rfl) ?_
            refine tk_i hH hS hA (tr_S (n := 2) (As := [.long v118.toInt64, .int v73]) hx hb hml hown hts hkb hH (ox_map hOX rfl) hks hE hS hA (s_M_isIn2 l D cs kf T (a0 :: y3 :: y4 :: O) ((a0, .inr (12, o0 :: o1 :: o2 :: (.ref y3) :: (.ref y4) :: o5 :: (.int n101_0_6) :: (.int n101_0_7) :: (.int y8) :: (.int n101_0_9) :: (.int n101_0_10) :: (.int n101_0_11) :: (.int n101_0_12) :: tl)) :: (y3, .inl (cs.2.1, 900, .inl f3)) :: (y4, .inl (cs.2.1, 1302, .inl f4)) :: X) v118.toInt64 v73  (hO.sub (by decide))) kw_1440 kw_1441 kw_13 kw_1442 (by decide +kernel) ⟨Nat.le_of_ble_eq_true rfl, Nat.le_of_ble_eq_true rfl⟩ rfl rfl hl.1 (Nat.le_of_ble_eq_true rfl) dX12_readUsed_121 ⟨Nat.le_of_ble_eq_true rfl, Nat.le_of_ble_eq_true rfl⟩) (fun v121 u H locs hz9 hH hS => ?_)
            obtain ⟨rfl, l_v121, u_v121, x_v1210⟩ := hz9
            have hH : HT D cs A T (a0 :: y3 :: y4 :: O) ((a0, .inr (12, o0 :: o1 :: o2 :: (.ref y3) :: (.ref y4) :: o5 :: (.int n101_0_6) :: (.int n101_0_7) :: (.int y8) :: (.int n101_0_9) :: (.int n101_0_10) :: (.int n101_0_11) :: (.int n101_0_12) :: tl)) :: (y3, .inl (cs.2.1, 900, .inl f3)) :: (y4, .inl (cs.2.1, 1302, .inl f4)) :: X) H := hH
            refine W.widen (k := 0) (n := 0) (Nat.le_of_ble_eq_true rfl) (Nat.le_of_ble_eq_true rfl) ?_
            refine lv_if_ne (tgt := 137) hx hb dX12_readUsed_124 (by decide) (fun c124 => ?_) (fun c124 => ?_)
            · skip
              have tc124 := f_ne (k := 0) (by decide) c124
              exact te_v hx hb hr hlocks hH hS (⟨n101_0_6, n101_0_7, n101_0_9, n101_0_10, n101_0_11, n101_0_12, f4, rfl, s_f4, by omega, by omega, by omega, x_v1013, by omega, by omega, (by first | (exact g105) | (refine RGR.to g105 (FR5_o eF136 (Or.inr ?_)); omega)), (by first | rfl | (rw [eF136]; exact upd_ne (by omega)))⟩) dX12_readUsed_137
            · skip
              have tc124 := f_eq (k := 0) (by decide) c124
              refine lv_aload_n hx hb dX12_readUsed_127 rfl (lv_at hl 2 rfl) ?_
              refine x_getk (ci := 12) (C := RX12) (F := TX12) (N := 36) (v := .ref y4) hx hb hts uX12 hown hkb hH 0 rfl rfl 4 (by decide) rfl kw_1227 (fun _ h9 => h9) dX12_readUsed_128 ?_
              refine lv_bipush (v := 59) hx hb dX12_readUsed_131 (by decide) ?_
              refine lv_iload_n hx hb dX12_readUsed_133 rfl (lv_at hl 1 rfl) ?_
              refine lv_iadd hx hb dX12_readUsed_134 ?_
              refine lv_topi (fun v134 ev134 => ?_)
              have tv134 : v134.toInt = (59) + v73.toInt := by rw [ev134]; exact add_i (by decide : (59 : Int32).toInt = 59) rfl (by omega) (by omega)
              refine lv_iload_n hx hb dX12_readUsed_135 rfl (lv_at hl 0 rfl) ?_
              refine xa_ist hx hb hkb hH hS 2 rfl (by omega) (by omega) dX12_readUsed_136 (fun H locs hH hS => ?_)
              have hH : HT D cs A T (a0 :: y3 :: y4 :: O) ((a0, .inr (12, o0 :: o1 :: o2 :: (.ref y3) :: (.ref y4) :: o5 :: (.int n101_0_6) :: (.int n101_0_7) :: (.int y8) :: (.int n101_0_9) :: (.int n101_0_10) :: (.int n101_0_11) :: (.int n101_0_12) :: tl)) :: (y3, .inl (cs.2.1, 900, .inl f3)) :: (y4, .inl (cs.2.1, 1302, .inl (upd f4 (v134.toInt.toNat) v101))) :: X) H := hH
              obtain ⟨F136, eF136⟩ : ∃ f9, f9 = upd f4 (v134.toInt.toNat) v101 := ⟨_, rfl⟩
              have hH : HT D cs A T (a0 :: y3 :: y4 :: O) ((a0, .inr (12, o0 :: o1 :: o2 :: (.ref y3) :: (.ref y4) :: o5 :: (.int n101_0_6) :: (.int n101_0_7) :: (.int y8) :: (.int n101_0_9) :: (.int n101_0_10) :: (.int n101_0_11) :: (.int n101_0_12) :: tl)) :: (y3, .inl (cs.2.1, 900, .inl f3)) :: (y4, .inl (cs.2.1, 1302, .inl F136)) :: X) H := eF136 ▸ hH
              have s_F136 : S8 F136 := eF136 ▸ S8_put (i := v134) (x := v101) s_f4 (by omega) (by omega) (p8_far (by omega) (⟨by omega, by omega⟩))
              exact te_v hx hb hr hlocks hH hS (⟨n101_0_6, n101_0_7, n101_0_9, n101_0_10, n101_0_11, n101_0_12, F136, rfl, s_F136, by omega, by omega, by omega, x_v1013, by omega, by omega, (by first | (exact g105) | (refine RGR.to g105 (FR5_o eF136 (Or.inr ?_)); omega)), (by first | rfl | (rw [eF136]; exact upd_ne (by omega)))⟩) dX12_readUsed_137
      · skip
        have tc55 := f_ne (k := 0) (by decide) c55
        refine lv_aload_n hx hb dX12_readUsed_58 rfl (lv_at hl 0 rfl) ?_
        refine lv_iconst (v := 3) hx hb dX12_readUsed_59 (by decide) ?_
        have z9_3 : (3 : Int32).toInt = 3 := by decide
        refine tk_v hH hS hA (tr_V (n := 1) (As := [.int 3]) hx hb hml hown hts hkb hH (ox_map hOX rfl) hks hE hS hA (s_M_fails l D cs kf T (y4 :: O) ((y4, .inl (cs.2.1, 1302, .inl f4)) :: X) a0 hg mq (3) o0 o1 o2 y3 y4 o5 n1_0_6 n1_0_7 y8 n1_0_9 n1_0_10 y11 y12 tl f3 t tn t_a0 b_hg (by decide) (by decide) t_y3 t_y4 (by omega) (by omega) (by omega) (by omega) (by omega) (by omega) (by omega) (by omega) (by omega) htm (hO.sub (by decide))) kw_1378 kw_1380 ks_49 kw_13 kw_1381 (by decide +kernel) ⟨Nat.le_of_ble_eq_true rfl, Nat.le_of_ble_eq_true rfl⟩ (x_recv (ci := 12) hkb hH 0 rfl rfl) rfl rfl hl.1 (Nat.le_of_ble_eq_true rfl) dX12_readUsed_60 ⟨Nat.le_of_ble_eq_true rfl, Nat.le_of_ble_eq_true rfl⟩) (fun u H locs hz9 hH hS => ?_)
        obtain ⟨n60_0_11, n60_0_12, rfl, x_v600, x_v601⟩ := hz9
        have hH : HT D cs A T (a0 :: y3 :: y4 :: O) ((a0, .inr (12, o0 :: o1 :: o2 :: (.ref y3) :: (.ref y4) :: o5 :: (.int n1_0_6) :: (.int n1_0_7) :: (.int y8) :: (.int n1_0_9) :: (.int n1_0_10) :: (.int n60_0_11) :: (.int n60_0_12) :: tl)) :: (y3, .inl (cs.2.1, 900, .inl f3)) :: (y4, .inl (cs.2.1, 1302, .inl f4)) :: X) H := hH
        refine W.widen (k := 0) (n := 0) (Nat.le_of_ble_eq_true rfl) (Nat.le_of_ble_eq_true rfl) ?_
        refine lv_aload_n hx hb dX12_readUsed_63 rfl (lv_at hl 0 rfl) ?_
        refine lv_iconst (v := 0) hx hb dX12_readUsed_64 (by decide) ?_
        refine lv_aload_n hx hb dX12_readUsed_65 rfl (lv_at hl 0 rfl) ?_
        refine x_getk (ci := 12) (C := RX12) (F := TX12) (N := 36) (v := .ref y4) hx hb hts uX12 hown hkb hH 0 rfl rfl 4 (by decide) rfl kw_1227 (fun _ h9 => h9) dX12_readUsed_66 ?_
        refine lv_iconst (v := 1) hx hb dX12_readUsed_69 (by decide) ?_
        refine xa_ild hx hb hkb hH 2 rfl (by decide) (by decide) dX12_readUsed_70 ?_
        refine lv_topi (fun v70 ev70 => ?_)
        have tv70 : v70 = f4 1 := by rw [ev70]; rfl
        have bv70 : 0 ≤ v70.toInt ∧ v70.toInt ≤ 14 := by rw [tv70]; exact s_f4.1
        refine lv_iconst (v := 1) hx hb dX12_readUsed_71 (by decide) ?_
        refine lv_isub hx hb dX12_readUsed_72 ?_
        refine lv_topi (fun v72 ev72 => ?_)
        have tv72 : v72.toInt = v70.toInt - (1) := by rw [ev72]; exact sub_i rfl (by decide : (1 : Int32).toInt = 1) (by omega) (by omega)
        have z9_0 : (0 : Int32).toInt = 0 := by decide
        refine tk_i hH hS hA (tr_V (n := 2) (As := [.int 0, .int v72]) hx hb hml hown hts hkb hH (ox_map hOX rfl) hks hE hS hA (s_M_takes l D cs kf T (y4 :: O) ((y4, .inl (cs.2.1, 1302, .inl f4)) :: X) a0 hg mq (0) v72 o0 o1 o2 y3 y4 o5 n1_0_6 n1_0_7 y8 n1_0_9 n1_0_10 n60_0_11 n60_0_12 tl f3 t tn t_a0 b_hg (by decide) (by decide) t_y3 t_y4 (by omega) (by omega) (by omega) (by omega) (by omega) (by omega) (by omega) (by omega) (by omega) htm (by omega) (by omega) x_v13 (fun q9 => absurd q9 x_v600) (hO.sub (by decide))) kw_1382 kw_1384 ks_50 kw_13 kw_1385 (by decide +kernel) ⟨Nat.le_of_ble_eq_true rfl, Nat.le_of_ble_eq_true rfl⟩ (x_recv (ci := 12) hkb hH 0 rfl rfl) rfl rfl hl.1 (Nat.le_of_ble_eq_true rfl) dX12_readUsed_73 ⟨Nat.le_of_ble_eq_true rfl, Nat.le_of_ble_eq_true rfl⟩) (fun v73 u H locs hz9 hH hS => ?_)
        obtain ⟨n73_0_6, n73_0_7, n73_0_9, n73_0_10, n73_0_11, n73_0_12, rfl, l_v73, u_v73, x_v730, x_v731, x_v732, x_v733, x_v734, x_v735, x_v736, x_v737⟩ := hz9
        have hH : HT D cs A T (a0 :: y3 :: y4 :: O) ((a0, .inr (12, o0 :: o1 :: o2 :: (.ref y3) :: (.ref y4) :: o5 :: (.int n73_0_6) :: (.int n73_0_7) :: (.int y8) :: (.int n73_0_9) :: (.int n73_0_10) :: (.int n73_0_11) :: (.int n73_0_12) :: tl)) :: (y3, .inl (cs.2.1, 900, .inl f3)) :: (y4, .inl (cs.2.1, 1302, .inl f4)) :: X) H := hH
        refine W.widen (k := 0) (n := 0) (Nat.le_of_ble_eq_true rfl) (Nat.le_of_ble_eq_true rfl) ?_
        refine lv_istore_n (lv' := [(1, .int v73), (0, .ref a0)]) hx hb dX12_readUsed_76 rfl hl (by decide) rfl (fun ls hl => ?_)
        have hhi : v72.toInt = (f4 1).toInt - 1 := by rw [← tv70]; omega
        have hh0 : 0 ≤ (f4 1).toInt := by rw [← tv70]; omega
        have hno : n73_0_11.toInt = 0 → ¬ (f4 4 ||| f4 5).toBitVec.getLsbD v73.toInt.toNat = true := by
          intro q9; have hi9 := TNK.in x_v737 q9
          first | (exfalso; have q7 := hi9.2.2.2; exact x_v600 q7) | (exfalso; omega) | (exfalso; have q6 := x_v16.2.2.2.2 hi9.1; have q5 := nv_21 hi9.1; have q4 : v24.toInt = v70.toInt := (by rw [tv24, tv70]); omega) | (intro q8; have q7 : v73.toInt.toNat = n1_0_10.toInt.toNat := (by have q6 := x_v16.2.2.2.2 hi9.1; omega); rw [q7] at q8; exact hbt.mpr q8 tc55)
        have g77 : RGR t tn [(31, 0)] [(20, 6), (36, 0)] (FR5 f4) (FR5 f4) y11 y12 y6 n73_0_11 n73_0_12 n73_0_6 n73_0_7 n73_0_9 n73_0_10 := (by first | (exact (g4.seq (RGR.cons (RGR_f (R := FR5 f4) (R' := FR5 f4) (F' := []) (m := 3) (G := []) (a2 := n1_0_6) (b := n1_0_7) (k := n1_0_9) (v := n1_0_10) x_v601 (fun _ => x_v16) (by decide) (by decide) (fun q9 _ => st_hB (R := FR5 f4) (by omega) (fun q8 => by have q7 := hbt.mp tc55; rw [hnv] at q7; rw [show (f4 4 ||| f4 5).toBitVec.getLsbD (nv t tn n1_0_6.toInt.toNat).toNat = false from q8.2] at q7; exact absurd q7 (by decide)))))).seq (TNK.keep x_v737 x_v600)) | (exact g4.seq (RGR.cons (TNK.rh x_v737 hhi hh0 (fun q9 => hno q9)))))
        refine lv_aload_n hx hb dX12_readUsed_77 rfl (lv_at hl 1 rfl) ?_
        refine lv_bipush (v := 6) hx hb dX12_readUsed_78 (by decide) ?_
        have z9_6 : (6 : Int32).toInt = 6 := by decide
        refine tk_i hH hS hA (tr_V (n := 1) (As := [.int 6]) hx hb hml hown hts hkb hH (ox_map hOX rfl) hks hE hS hA (s_M_eats l D cs kf T (y4 :: O) ((y4, .inl (cs.2.1, 1302, .inl f4)) :: X) a0 hg mq (6) o0 o1 o2 y3 y4 o5 n73_0_6 n73_0_7 y8 n73_0_9 n73_0_10 n73_0_11 n73_0_12 tl f3 t tn t_a0 b_hg t_y3 t_y4 (by omega) (by omega) (by omega) (by omega) (by omega) (by omega) (by omega) (by omega) (by omega) htm (by omega) (by omega) x_v733 (by omega) (TNK.msw x_v737) (hO.sub (by decide))) kw_1390 kw_1392 ks_52 kw_13 kw_1393 (by decide +kernel) ⟨Nat.le_of_ble_eq_true rfl, Nat.le_of_ble_eq_true rfl⟩ (x_recv (ci := 12) hkb hH 0 rfl rfl) rfl rfl hl.1 (Nat.le_of_ble_eq_true rfl) dX12_readUsed_80 ⟨Nat.le_of_ble_eq_true rfl, Nat.le_of_ble_eq_true rfl⟩) (fun v80 u H locs hz9 hH hS => ?_)
        obtain ⟨n80_0_6, n80_0_7, n80_0_9, n80_0_10, rfl, l_v80, u_v80, x_v800, x_v801, x_v802, x_v803, x_v804, x_v805, x_v806, x_v807, x_v808⟩ := hz9
        have hH : HT D cs A T (a0 :: y3 :: y4 :: O) ((a0, .inr (12, o0 :: o1 :: o2 :: (.ref y3) :: (.ref y4) :: o5 :: (.int n80_0_6) :: (.int n80_0_7) :: (.int y8) :: (.int n80_0_9) :: (.int n80_0_10) :: (.int n73_0_11) :: (.int n73_0_12) :: tl)) :: (y3, .inl (cs.2.1, 900, .inl f3)) :: (y4, .inl (cs.2.1, 1302, .inl f4)) :: X) H := hH
        refine W.widen (k := 0) (n := 0) (Nat.le_of_ble_eq_true rfl) (Nat.le_of_ble_eq_true rfl) ?_
        refine lv_if_ne (tgt := 91) hx hb dX12_readUsed_83 (by decide) (fun c83 => ?_) (fun c83 => ?_)
        · skip
          have tc83 := f_ne (k := 0) (by decide) c83
          replace x_v806 := x_v806.resolve_left tc83
          replace x_v807 := x_v807.resolve_left tc83
          clear x_v808
          have g91 : RGR t tn [(31, 0)] [(36, 0)] (FR5 f4) (FR5 f4) y11 y12 y6 n73_0_11 n73_0_12 n80_0_6 n80_0_7 n80_0_9 n80_0_10 := (by first | (refine RGR.seq g77 (RGR.cons (RGR_g ?_ x_v807.1 (GR_nx (fun _ => st_xY ?_) x_v807.2.1))) <;> omega) | (exact RGR.seq g77 (RGR.cons (RGR_f (R := FR5 f4) (m := 2) (G := []) x_v881 (TNK.msw x_v737) (by decide) (by decide) (fun q9 _ => st_xN (by have q8 := (TNK.msw x_v737 q9).2.2.2.1; omega))))))
          refine lv_aload_n hx hb dX12_readUsed_91 rfl (lv_at hl 1 rfl) ?_
          refine lv_iconst (v := 0) hx hb dX12_readUsed_92 (by decide) ?_
          refine lv_aload_n hx hb dX12_readUsed_93 rfl (lv_at hl 1 rfl) ?_
          refine x_getk (ci := 12) (C := RX12) (F := TX12) (N := 36) (v := .ref y4) hx hb hts uX12 hown hkb hH 0 rfl rfl 4 (by decide) rfl kw_1227 (fun _ h9 => h9) dX12_readUsed_94 ?_
          refine lv_iconst (v := 2) hx hb dX12_readUsed_97 (by decide) ?_
          refine xa_ild hx hb hkb hH 2 rfl (by decide) (by decide) dX12_readUsed_98 ?_
          refine lv_topi (fun v98 ev98 => ?_)
          have tv98 : v98 = f4 2 := by rw [ev98]; rfl
          have bv98 : 0 ≤ v98.toInt ∧ v98.toInt ≤ 5 := by rw [tv98]; exact s_f4.2.1
          refine lv_iconst (v := 1) hx hb dX12_readUsed_99 (by decide) ?_
          refine lv_isub hx hb dX12_readUsed_100 ?_
          refine lv_topi (fun v100 ev100 => ?_)
          have tv100 : v100.toInt = v98.toInt - (1) := by rw [ev100]; exact sub_i rfl (by decide : (1 : Int32).toInt = 1) (by omega) (by omega)
          have z9_0 : (0 : Int32).toInt = 0 := by decide
          refine tk_i hH hS hA (tr_V (n := 2) (As := [.int 0, .int v100]) hx hb hml hown hts hkb hH (ox_map hOX rfl) hks hE hS hA (s_M_takes l D cs kf T (y4 :: O) ((y4, .inl (cs.2.1, 1302, .inl f4)) :: X) a0 hg mq (0) v100 o0 o1 o2 y3 y4 o5 n80_0_6 n80_0_7 y8 n80_0_9 n80_0_10 n73_0_11 n73_0_12 tl f3 t tn t_a0 b_hg (by decide) (by decide) t_y3 t_y4 (by omega) (by omega) (by omega) (by omega) (by omega) (by omega) (by omega) (by omega) (by omega) htm (by omega) (by omega) x_v803 (fun _ => x_v807.1) (hO.sub (by decide))) kw_1382 kw_1384 ks_50 kw_13 kw_1385 (by decide +kernel) ⟨Nat.le_of_ble_eq_true rfl, Nat.le_of_ble_eq_true rfl⟩ (x_recv (ci := 12) hkb hH 0 rfl rfl) rfl rfl hl.1 (Nat.le_of_ble_eq_true rfl) dX12_readUsed_101 ⟨Nat.le_of_ble_eq_true rfl, Nat.le_of_ble_eq_true rfl⟩) (fun v101 u H locs hz9 hH hS => ?_)
          obtain ⟨n101_0_6, n101_0_7, n101_0_9, n101_0_10, n101_0_11, n101_0_12, rfl, l_v101, u_v101, x_v1010, x_v1011, x_v1012, x_v1013, x_v1014, x_v1015, x_v1016, x_v1017⟩ := hz9
          have hH : HT D cs A T (a0 :: y3 :: y4 :: O) ((a0, .inr (12, o0 :: o1 :: o2 :: (.ref y3) :: (.ref y4) :: o5 :: (.int n101_0_6) :: (.int n101_0_7) :: (.int y8) :: (.int n101_0_9) :: (.int n101_0_10) :: (.int n101_0_11) :: (.int n101_0_12) :: tl)) :: (y3, .inl (cs.2.1, 900, .inl f3)) :: (y4, .inl (cs.2.1, 1302, .inl f4)) :: X) H := hH
          refine W.widen (k := 0) (n := 0) (Nat.le_of_ble_eq_true rfl) (Nat.le_of_ble_eq_true rfl) ?_
          refine lv_istore_n (lv' := [(2, .int v101), (1, .int v73), (0, .ref a0)]) hx hb dX12_readUsed_104 rfl hl (by decide) rfl (fun ls hl => ?_)
          have hgi : v100.toInt = (((FR5 f4).2.1 : Nat) : Int) - 1 := by show v100.toInt = (((f4 2).toInt.toNat : Nat) : Int) - 1; rw [← tv98]; omega
          have g105 : RGR t tn [(31, 0)] [] (FR5 f4) (FR5 f4) y11 y12 y6 n101_0_11 n101_0_12 n101_0_6 n101_0_7 n101_0_9 n101_0_10 := g91.seq (TNK.rg2 x_v1017 hgi)
          refine lv_aload_n hx hb dX12_readUsed_105 rfl (lv_at hl 2 rfl) ?_
          refine x_getk (ci := 12) (C := RX12) (F := TX12) (N := 36) (v := .int n101_0_11) hx hb hts uX12 hown hkb hH 0 rfl rfl 11 (by decide) rfl kw_1234 (fun _ h9 => h9) dX12_readUsed_106 ?_
          refine lv_if_ne (tgt := 137) hx hb dX12_readUsed_109 (by decide) (fun c109 => ?_) (fun c109 => ?_)
          · skip
            have tc109 := f_ne (k := 0) (by decide) c109
            exact te_v hx hb hr hlocks hH hS (⟨n101_0_6, n101_0_7, n101_0_9, n101_0_10, n101_0_11, n101_0_12, f4, rfl, s_f4, by omega, by omega, by omega, x_v1013, by omega, by omega, (by first | (exact g105) | (refine RGR.to g105 (FR5_o eF136 (Or.inr ?_)); omega)), (by first | rfl | (rw [eF136]; exact upd_ne (by omega)))⟩) dX12_readUsed_137
          · skip
            have tc109 := f_eq (k := 0) (by decide) c109
            have t2 := x_v1016 tc109
            have t1 : 0 ≤ v73.toInt ∧ v73.toInt ≤ v72.toInt := by first | exact absurd t2.1 x_v880 | (have q9 := x_v736 t2.1; have z8 : (0 : Int32).toInt = 0 := (by decide); omega)
            refine lv_aload_n hx hb dX12_readUsed_112 rfl (lv_at hl 2 rfl) ?_
            refine x_getk (ci := 12) (C := RX12) (F := TX12) (N := 36) (v := .ref y4) hx hb hts uX12 hown hkb hH 0 rfl rfl 4 (by decide) rfl kw_1227 (fun _ h9 => h9) dX12_readUsed_113 ?_
            refine lv_bipush (v := 87) hx hb dX12_readUsed_116 (by decide) ?_
            refine xa_ild hx hb hkb hH 2 rfl (by decide) (by decide) dX12_readUsed_118 ?_
            refine lv_topi (fun v118 ev118 => ?_)
            have tv118 : v118 = f4 87 := by rw [ev118]; rfl
            refine lv_i2l hx hb dX12_readUsed_119 rfl ?_
            refine lv_iload_n hx hb dX12_readUsed_120 rfl (lv_at hl 1 rfl) ?_
            refine tk_i hH hS hA (tr_S (n := 2) (As := [.long v118.toInt64, .int v73]) hx hb hml hown hts hkb hH (ox_map hOX rfl) hks hE hS hA (s_M_isIn2 l D cs kf T (a0 :: y3 :: y4 :: O) ((a0, .inr (12, o0 :: o1 :: o2 :: (.ref y3) :: (.ref y4) :: o5 :: (.int n101_0_6) :: (.int n101_0_7) :: (.int y8) :: (.int n101_0_9) :: (.int n101_0_10) :: (.int n101_0_11) :: (.int n101_0_12) :: tl)) :: (y3, .inl (cs.2.1, 900, .inl f3)) :: (y4, .inl (cs.2.1, 1302, .inl f4)) :: X) v118.toInt64 v73  (hO.sub (by decide))) kw_1440 kw_1441 kw_13 kw_1442 (by decide +kernel) ⟨Nat.le_of_ble_eq_true rfl, Nat.le_of_ble_eq_true rfl⟩ rfl rfl hl.1 (Nat.le_of_ble_eq_true rfl) dX12_readUsed_121 ⟨Nat.le_of_ble_eq_true rfl, Nat.le_of_ble_eq_true rfl⟩) (fun v121 u H locs hz9 hH hS => ?_)
            obtain ⟨rfl, l_v121, u_v121, x_v1210⟩ := hz9
            have hH : HT D cs A T (a0 :: y3 :: y4 :: O) ((a0, .inr (12, o0 :: o1 :: o2 :: (.ref y3) :: (.ref y4) :: o5 :: (.int n101_0_6) :: (.int n101_0_7) :: (.int y8) :: (.int n101_0_9) :: (.int n101_0_10) :: (.int n101_0_11) :: (.int n101_0_12) :: tl)) :: (y3, .inl (cs.2.1, 900, .inl f3)) :: (y4, .inl (cs.2.1, 1302, .inl f4)) :: X) H := hH
            refine W.widen (k := 0) (n := 0) (Nat.le_of_ble_eq_true rfl) (Nat.le_of_ble_eq_true rfl) ?_
            refine lv_if_ne (tgt := 137) hx hb dX12_readUsed_124 (by decide) (fun c124 => ?_) (fun c124 => ?_)
            · skip
              have tc124 := f_ne (k := 0) (by decide) c124
              exact te_v hx hb hr hlocks hH hS (⟨n101_0_6, n101_0_7, n101_0_9, n101_0_10, n101_0_11, n101_0_12, f4, rfl, s_f4, by omega, by omega, by omega, x_v1013, by omega, by omega, (by first | (exact g105) | (refine RGR.to g105 (FR5_o eF136 (Or.inr ?_)); omega)), (by first | rfl | (rw [eF136]; exact upd_ne (by omega)))⟩) dX12_readUsed_137
            · skip
              have tc124 := f_eq (k := 0) (by decide) c124
              refine lv_aload_n hx hb dX12_readUsed_127 rfl (lv_at hl 2 rfl) ?_
              refine x_getk (ci := 12) (C := RX12) (F := TX12) (N := 36) (v := .ref y4) hx hb hts uX12 hown hkb hH 0 rfl rfl 4 (by decide) rfl kw_1227 (fun _ h9 => h9) dX12_readUsed_128 ?_
              refine lv_bipush (v := 59) hx hb dX12_readUsed_131 (by decide) ?_
              refine lv_iload_n hx hb dX12_readUsed_133 rfl (lv_at hl 1 rfl) ?_
              refine lv_iadd hx hb dX12_readUsed_134 ?_
              refine lv_topi (fun v134 ev134 => ?_)
              have tv134 : v134.toInt = (59) + v73.toInt := by rw [ev134]; exact add_i (by decide : (59 : Int32).toInt = 59) rfl (by omega) (by omega)
              refine lv_iload_n hx hb dX12_readUsed_135 rfl (lv_at hl 0 rfl) ?_
              refine xa_ist hx hb hkb hH hS 2 rfl (by omega) (by omega) dX12_readUsed_136 (fun H locs hH hS => ?_)
              have hH : HT D cs A T (a0 :: y3 :: y4 :: O) ((a0, .inr (12, o0 :: o1 :: o2 :: (.ref y3) :: (.ref y4) :: o5 :: (.int n101_0_6) :: (.int n101_0_7) :: (.int y8) :: (.int n101_0_9) :: (.int n101_0_10) :: (.int n101_0_11) :: (.int n101_0_12) :: tl)) :: (y3, .inl (cs.2.1, 900, .inl f3)) :: (y4, .inl (cs.2.1, 1302, .inl (upd f4 (v134.toInt.toNat) v101))) :: X) H := hH
              obtain ⟨F136, eF136⟩ : ∃ f9, f9 = upd f4 (v134.toInt.toNat) v101 := ⟨_, rfl⟩
              have hH : HT D cs A T (a0 :: y3 :: y4 :: O) ((a0, .inr (12, o0 :: o1 :: o2 :: (.ref y3) :: (.ref y4) :: o5 :: (.int n101_0_6) :: (.int n101_0_7) :: (.int y8) :: (.int n101_0_9) :: (.int n101_0_10) :: (.int n101_0_11) :: (.int n101_0_12) :: tl)) :: (y3, .inl (cs.2.1, 900, .inl f3)) :: (y4, .inl (cs.2.1, 1302, .inl F136)) :: X) H := eF136 ▸ hH
              have s_F136 : S8 F136 := eF136 ▸ S8_put (i := v134) (x := v101) s_f4 (by omega) (by omega) (p8_far (by omega) (⟨by omega, by omega⟩))
              exact te_v hx hb hr hlocks hH hS (⟨n101_0_6, n101_0_7, n101_0_9, n101_0_10, n101_0_11, n101_0_12, F136, rfl, s_F136, by omega, by omega, by omega, x_v1013, by omega, by omega, (by first | (exact g105) | (refine RGR.to g105 (FR5_o eF136 (Or.inr ?_)); omega)), (by first | rfl | (rw [eF136]; exact upd_ne (by omega)))⟩) dX12_readUsed_137
        · skip
          have tc83 := f_eq (k := 0) (by decide) c83
          clear x_v806
          clear x_v807
          replace x_v808 := x_v808.resolve_left (fun q9 => q9 tc83)
          obtain ⟨e6, e7, e9, e10, x_v808⟩ := x_v808
          subst e6 e7 e9 e10
          refine lv_aload_n hx hb dX12_readUsed_86 rfl (lv_at hl 1 rfl) ?_
          refine lv_iconst (v := 2) hx hb dX12_readUsed_87 (by decide) ?_
          have z9_2 : (2 : Int32).toInt = 2 := by decide
          refine tk_v hH hS hA (tr_V (n := 1) (As := [.int 2]) hx hb hml hown hts hkb hH (ox_map hOX rfl) hks hE hS hA (s_M_fails l D cs kf T (y4 :: O) ((y4, .inl (cs.2.1, 1302, .inl f4)) :: X) a0 hg mq (2) o0 o1 o2 y3 y4 o5 n73_0_6 n73_0_7 y8 n73_0_9 n73_0_10 n73_0_11 n73_0_12 tl f3 t tn t_a0 b_hg (by decide) (by decide) t_y3 t_y4 (by omega) (by omega) (by omega) (by omega) (by omega) (by omega) (by omega) (by omega) (by omega) htm (hO.sub (by decide))) kw_1378 kw_1380 ks_49 kw_13 kw_1381 (by decide +kernel) ⟨Nat.le_of_ble_eq_true rfl, Nat.le_of_ble_eq_true rfl⟩ (x_recv (ci := 12) hkb hH 0 rfl rfl) rfl rfl hl.1 (Nat.le_of_ble_eq_true rfl) dX12_readUsed_88 ⟨Nat.le_of_ble_eq_true rfl, Nat.le_of_ble_eq_true rfl⟩) (fun u H locs hz9 hH hS => ?_)
          obtain ⟨n88_0_11, n88_0_12, rfl, x_v880, x_v881⟩ := hz9
          have hH : HT D cs A T (a0 :: y3 :: y4 :: O) ((a0, .inr (12, o0 :: o1 :: o2 :: (.ref y3) :: (.ref y4) :: o5 :: (.int n73_0_6) :: (.int n73_0_7) :: (.int y8) :: (.int n73_0_9) :: (.int n73_0_10) :: (.int n88_0_11) :: (.int n88_0_12) :: tl)) :: (y3, .inl (cs.2.1, 900, .inl f3)) :: (y4, .inl (cs.2.1, 1302, .inl f4)) :: X) H := hH
          refine W.widen (k := 0) (n := 0) (Nat.le_of_ble_eq_true rfl) (Nat.le_of_ble_eq_true rfl) ?_
          have g91 : RGR t tn [(31, 0)] [(36, 0)] (FR5 f4) (FR5 f4) y11 y12 y6 n88_0_11 n88_0_12 n73_0_6 n73_0_7 n73_0_9 n73_0_10 := (by first | (refine RGR.seq g77 (RGR.cons (RGR_g ?_ x_v807.1 (GR_nx (fun _ => st_xY ?_) x_v807.2.1))) <;> omega) | (exact RGR.seq g77 (RGR.cons (RGR_f (R := FR5 f4) (m := 2) (G := []) x_v881 (TNK.msw x_v737) (by decide) (by decide) (fun q9 _ => st_xN (by have q8 := (TNK.msw x_v737 q9).2.2.2.1; omega))))))
          refine lv_aload_n hx hb dX12_readUsed_91 rfl (lv_at hl 1 rfl) ?_
          refine lv_iconst (v := 0) hx hb dX12_readUsed_92 (by decide) ?_
          refine lv_aload_n hx hb dX12_readUsed_93 rfl (lv_at hl 1 rfl) ?_
          refine x_getk (ci := 12) (C := RX12) (F := TX12) (N := 36) (v := .ref y4) hx hb hts uX12 hown hkb hH 0 rfl rfl 4 (by decide) rfl kw_1227 (fun _ h9 => h9) dX12_readUsed_94 ?_
          refine lv_iconst (v := 2) hx hb dX12_readUsed_97 (by decide) ?_
          refine xa_ild hx hb hkb hH 2 rfl (by decide) (by decide) dX12_readUsed_98 ?_
          refine lv_topi (fun v98 ev98 => ?_)
          have tv98 : v98 = f4 2 := by rw [ev98]; rfl
          have bv98 : 0 ≤ v98.toInt ∧ v98.toInt ≤ 5 := by rw [tv98]; exact s_f4.2.1
          refine lv_iconst (v := 1) hx hb dX12_readUsed_99 (by decide) ?_
          refine lv_isub hx hb dX12_readUsed_100 ?_
          refine lv_topi (fun v100 ev100 => ?_)
          have tv100 : v100.toInt = v98.toInt - (1) := by rw [ev100]; exact sub_i rfl (by decide : (1 : Int32).toInt = 1) (by omega) (by omega)
          have z9_0 : (0 : Int32).toInt = 0 := by decide
          refine tk_i hH hS hA (tr_V (n := 2) (As := [.int 0, .int v100]) hx hb hml hown hts hkb hH (ox_map hOX rfl) hks hE hS hA (s_M_takes l D cs kf T (y4 :: O) ((y4, .inl (cs.2.1, 1302, .inl f4)) :: X) a0 hg mq (0) v100 o0 o1 o2 y3 y4 o5 n73_0_6 n73_0_7 y8 n73_0_9 n73_0_10 n88_0_11 n88_0_12 tl f3 t tn t_a0 b_hg (by decide) (by decide) t_y3 t_y4 (by omega) (by omega) (by omega) (by omega) (by omega) (by omega) (by omega) (by omega) (by omega) htm (by omega) (by omega) x_v803 (fun q9 => absurd q9 x_v880) (hO.sub (by decide))) kw_1382 kw_1384 ks_50 kw_13 kw_1385 (by decide +kernel) ⟨Nat.le_of_ble_eq_true rfl, Nat.le_of_ble_eq_true rfl⟩ (x_recv (ci := 12) hkb hH 0 rfl rfl) rfl rfl hl.1 (Nat.le_of_ble_eq_true rfl) dX12_readUsed_101 ⟨Nat.le_of_ble_eq_true rfl, Nat.le_of_ble_eq_true rfl⟩) (fun v101 u H locs hz9 hH hS => ?_)
          obtain ⟨n101_0_6, n101_0_7, n101_0_9, n101_0_10, n101_0_11, n101_0_12, rfl, l_v101, u_v101, x_v1010, x_v1011, x_v1012, x_v1013, x_v1014, x_v1015, x_v1016, x_v1017⟩ := hz9
          have hH : HT D cs A T (a0 :: y3 :: y4 :: O) ((a0, .inr (12, o0 :: o1 :: o2 :: (.ref y3) :: (.ref y4) :: o5 :: (.int n101_0_6) :: (.int n101_0_7) :: (.int y8) :: (.int n101_0_9) :: (.int n101_0_10) :: (.int n101_0_11) :: (.int n101_0_12) :: tl)) :: (y3, .inl (cs.2.1, 900, .inl f3)) :: (y4, .inl (cs.2.1, 1302, .inl f4)) :: X) H := hH
          refine W.widen (k := 0) (n := 0) (Nat.le_of_ble_eq_true rfl) (Nat.le_of_ble_eq_true rfl) ?_
          refine lv_istore_n (lv' := [(2, .int v101), (1, .int v73), (0, .ref a0)]) hx hb dX12_readUsed_104 rfl hl (by decide) rfl (fun ls hl => ?_)
          have hgi : v100.toInt = (((FR5 f4).2.1 : Nat) : Int) - 1 := by show v100.toInt = (((f4 2).toInt.toNat : Nat) : Int) - 1; rw [← tv98]; omega
          have g105 : RGR t tn [(31, 0)] [] (FR5 f4) (FR5 f4) y11 y12 y6 n101_0_11 n101_0_12 n101_0_6 n101_0_7 n101_0_9 n101_0_10 := g91.seq (TNK.rg2 x_v1017 hgi)
          refine lv_aload_n hx hb dX12_readUsed_105 rfl (lv_at hl 2 rfl) ?_
          refine x_getk (ci := 12) (C := RX12) (F := TX12) (N := 36) (v := .int n101_0_11) hx hb hts uX12 hown hkb hH 0 rfl rfl 11 (by decide) rfl kw_1234 (fun _ h9 => h9) dX12_readUsed_106 ?_
          refine lv_if_ne (tgt := 137) hx hb dX12_readUsed_109 (by decide) (fun c109 => ?_) (fun c109 => ?_)
          · skip
            have tc109 := f_ne (k := 0) (by decide) c109
            exact te_v hx hb hr hlocks hH hS (⟨n101_0_6, n101_0_7, n101_0_9, n101_0_10, n101_0_11, n101_0_12, f4, rfl, s_f4, by omega, by omega, by omega, x_v1013, by omega, by omega, (by first | (exact g105) | (refine RGR.to g105 (FR5_o eF136 (Or.inr ?_)); omega)), (by first | rfl | (rw [eF136]; exact upd_ne (by omega)))⟩) dX12_readUsed_137
          · skip
            have tc109 := f_eq (k := 0) (by decide) c109
            have t2 := x_v1016 tc109
            have t1 : 0 ≤ v73.toInt ∧ v73.toInt ≤ v72.toInt := by first | exact absurd t2.1 x_v880 | (have q9 := x_v736 t2.1; have z8 : (0 : Int32).toInt = 0 := (by decide); omega)
            refine lv_aload_n hx hb dX12_readUsed_112 rfl (lv_at hl 2 rfl) ?_
            refine x_getk (ci := 12) (C := RX12) (F := TX12) (N := 36) (v := .ref y4) hx hb hts uX12 hown hkb hH 0 rfl rfl 4 (by decide) rfl kw_1227 (fun _ h9 => h9) dX12_readUsed_113 ?_
            refine lv_bipush (v := 87) hx hb dX12_readUsed_116 (by decide) ?_
            refine xa_ild hx hb hkb hH 2 rfl (by decide) (by decide) dX12_readUsed_118 ?_
            refine lv_topi (fun v118 ev118 => ?_)
            have tv118 : v118 = f4 87 := by rw [ev118]; rfl
            refine lv_i2l hx hb dX12_readUsed_119 rfl ?_
            refine lv_iload_n hx hb dX12_readUsed_120 rfl (lv_at hl 1 rfl) ?_
            refine tk_i hH hS hA (tr_S (n := 2) (As := [.long v118.toInt64, .int v73]) hx hb hml hown hts hkb hH (ox_map hOX rfl) hks hE hS hA (s_M_isIn2 l D cs kf T (a0 :: y3 :: y4 :: O) ((a0, .inr (12, o0 :: o1 :: o2 :: (.ref y3) :: (.ref y4) :: o5 :: (.int n101_0_6) :: (.int n101_0_7) :: (.int y8) :: (.int n101_0_9) :: (.int n101_0_10) :: (.int n101_0_11) :: (.int n101_0_12) :: tl)) :: (y3, .inl (cs.2.1, 900, .inl f3)) :: (y4, .inl (cs.2.1, 1302, .inl f4)) :: X) v118.toInt64 v73  (hO.sub (by decide))) kw_1440 kw_1441 kw_13 kw_1442 (by decide +kernel) ⟨Nat.le_of_ble_eq_true rfl, Nat.le_of_ble_eq_true rfl⟩ rfl rfl hl.1 (Nat.le_of_ble_eq_true rfl) dX12_readUsed_121 ⟨Nat.le_of_ble_eq_true rfl, Nat.le_of_ble_eq_true rfl⟩) (fun v121 u H locs hz9 hH hS => ?_)
            obtain ⟨rfl, l_v121, u_v121, x_v1210⟩ := hz9
            have hH : HT D cs A T (a0 :: y3 :: y4 :: O) ((a0, .inr (12, o0 :: o1 :: o2 :: (.ref y3) :: (.ref y4) :: o5 :: (.int n101_0_6) :: (.int n101_0_7) :: (.int y8) :: (.int n101_0_9) :: (.int n101_0_10) :: (.int n101_0_11) :: (.int n101_0_12) :: tl)) :: (y3, .inl (cs.2.1, 900, .inl f3)) :: (y4, .inl (cs.2.1, 1302, .inl f4)) :: X) H := hH
            refine W.widen (k := 0) (n := 0) (Nat.le_of_ble_eq_true rfl) (Nat.le_of_ble_eq_true rfl) ?_
            refine lv_if_ne (tgt := 137) hx hb dX12_readUsed_124 (by decide) (fun c124 => ?_) (fun c124 => ?_)
            · skip
              have tc124 := f_ne (k := 0) (by decide) c124
              exact te_v hx hb hr hlocks hH hS (⟨n101_0_6, n101_0_7, n101_0_9, n101_0_10, n101_0_11, n101_0_12, f4, rfl, s_f4, by omega, by omega, by omega, x_v1013, by omega, by omega, (by first | (exact g105) | (refine RGR.to g105 (FR5_o eF136 (Or.inr ?_)); omega)), (by first | rfl | (rw [eF136]; exact upd_ne (by omega)))⟩) dX12_readUsed_137
            · skip
              have tc124 := f_eq (k := 0) (by decide) c124
              refine lv_aload_n hx hb dX12_readUsed_127 rfl (lv_at hl 2 rfl) ?_
              refine x_getk (ci := 12) (C := RX12) (F := TX12) (N := 36) (v := .ref y4) hx hb hts uX12 hown hkb hH 0 rfl rfl 4 (by decide) rfl kw_1227 (fun _ h9 => h9) dX12_readUsed_128 ?_
              refine lv_bipush (v := 59) hx hb dX12_readUsed_131 (by decide) ?_
              refine lv_iload_n hx hb dX12_readUsed_133 rfl (lv_at hl 1 rfl) ?_
              refine lv_iadd hx hb dX12_readUsed_134 ?_
              refine lv_topi (fun v134 ev134 => ?_)
              have tv134 : v134.toInt = (59) + v73.toInt := by rw [ev134]; exact add_i (by decide : (59 : Int32).toInt = 59) rfl (by omega) (by omega)
              refine lv_iload_n hx hb dX12_readUsed_135 rfl (lv_at hl 0 rfl) ?_
              refine xa_ist hx hb hkb hH hS 2 rfl (by omega) (by omega) dX12_readUsed_136 (fun H locs hH hS => ?_)
              have hH : HT D cs A T (a0 :: y3 :: y4 :: O) ((a0, .inr (12, o0 :: o1 :: o2 :: (.ref y3) :: (.ref y4) :: o5 :: (.int n101_0_6) :: (.int n101_0_7) :: (.int y8) :: (.int n101_0_9) :: (.int n101_0_10) :: (.int n101_0_11) :: (.int n101_0_12) :: tl)) :: (y3, .inl (cs.2.1, 900, .inl f3)) :: (y4, .inl (cs.2.1, 1302, .inl (upd f4 (v134.toInt.toNat) v101))) :: X) H := hH
              obtain ⟨F136, eF136⟩ : ∃ f9, f9 = upd f4 (v134.toInt.toNat) v101 := ⟨_, rfl⟩
              have hH : HT D cs A T (a0 :: y3 :: y4 :: O) ((a0, .inr (12, o0 :: o1 :: o2 :: (.ref y3) :: (.ref y4) :: o5 :: (.int n101_0_6) :: (.int n101_0_7) :: (.int y8) :: (.int n101_0_9) :: (.int n101_0_10) :: (.int n101_0_11) :: (.int n101_0_12) :: tl)) :: (y3, .inl (cs.2.1, 900, .inl f3)) :: (y4, .inl (cs.2.1, 1302, .inl F136)) :: X) H := eF136 ▸ hH
              have s_F136 : S8 F136 := eF136 ▸ S8_put (i := v134) (x := v101) s_f4 (by omega) (by omega) (p8_far (by omega) (⟨by omega, by omega⟩))
              exact te_v hx hb hr hlocks hH hS (⟨n101_0_6, n101_0_7, n101_0_9, n101_0_10, n101_0_11, n101_0_12, F136, rfl, s_F136, by omega, by omega, by omega, x_v1013, by omega, by omega, (by first | (exact g105) | (refine RGR.to g105 (FR5_o eF136 (Or.inr ?_)); omega)), (by first | rfl | (rw [eF136]; exact upd_ne (by omega)))⟩) dX12_readUsed_137
theorem dX12_breaksOf_0 : decode cX12_breaksOf 0 = .ok (.aload_n 0, 1) := by decide +kernel
theorem dX12_breaksOf_1 : decode cX12_breaksOf 1 = .ok (.bipush 87, 2) := by decide +kernel
theorem dX12_breaksOf_3 : decode cX12_breaksOf 3 = .ok (.dup2, 1) := by decide +kernel
theorem dX12_breaksOf_4 : decode cX12_breaksOf 4 = .ok (.iaload, 1) := by decide +kernel
theorem dX12_breaksOf_5 : decode cX12_breaksOf 5 = .ok (.iconst 1, 1) := by decide +kernel
theorem dX12_breaksOf_6 : decode cX12_breaksOf 6 = .ok (.iload_n 1, 1) := by decide +kernel
theorem dX12_breaksOf_7 : decode cX12_breaksOf 7 = .ok (.ishl, 1) := by decide +kernel
theorem dX12_breaksOf_8 : decode cX12_breaksOf 8 = .ok (.ior, 1) := by decide +kernel
theorem dX12_breaksOf_9 : decode cX12_breaksOf 9 = .ok (.iastore, 1) := by decide +kernel
theorem dX12_breaksOf_10 : decode cX12_breaksOf 10 = .ok (.aload_n 0, 1) := by decide +kernel
theorem dX12_breaksOf_11 : decode cX12_breaksOf 11 = .ok (.bipush 59, 2) := by decide +kernel
theorem dX12_breaksOf_13 : decode cX12_breaksOf 13 = .ok (.iload_n 1, 1) := by decide +kernel
theorem dX12_breaksOf_14 : decode cX12_breaksOf 14 = .ok (.iadd, 1) := by decide +kernel
theorem dX12_breaksOf_15 : decode cX12_breaksOf 15 = .ok (.iconst (-1), 1) := by decide +kernel
theorem dX12_breaksOf_16 : decode cX12_breaksOf 16 = .ok (.iastore, 1) := by decide +kernel
theorem dX12_breaksOf_17 : decode cX12_breaksOf 17 = .ok (.aload_n 0, 1) := by decide +kernel
theorem dX12_breaksOf_18 : decode cX12_breaksOf 18 = .ok (.bipush 73, 2) := by decide +kernel
theorem dX12_breaksOf_20 : decode cX12_breaksOf 20 = .ok (.iload_n 1, 1) := by decide +kernel
theorem dX12_breaksOf_21 : decode cX12_breaksOf 21 = .ok (.iadd, 1) := by decide +kernel
theorem dX12_breaksOf_22 : decode cX12_breaksOf 22 = .ok (.iconst (-1), 1) := by decide +kernel
theorem dX12_breaksOf_23 : decode cX12_breaksOf 23 = .ok (.iastore, 1) := by decide +kernel
theorem dX12_breaksOf_24 : decode cX12_breaksOf 24 = .ok (.return_, 1) := by decide +kernel
theorem dX12_readLine_0 : decode cX12_readLine 0 = .ok (.aload_n 0, 1) := by decide +kernel
theorem dX12_readLine_1 : decode cX12_readLine 1 = .ok (.iconst 0, 1) := by decide +kernel
theorem dX12_readLine_2 : decode cX12_readLine 2 = .ok (.invokevirtual 134, 3) := by decide +kernel
theorem dX12_readLine_5 : decode cX12_readLine 5 = .ok (.ifCond .eq 10, 3) := by decide +kernel
theorem dX12_readLine_8 : decode cX12_readLine 8 = .ok (.aload_n 0, 1) := by decide +kernel
theorem dX12_readLine_9 : decode cX12_readLine 9 = .ok (.invokevirtual 190, 3) := by decide +kernel
theorem dX12_readLine_12 : decode cX12_readLine 12 = .ok (.goto 130, 3) := by decide +kernel
theorem dX12_readLine_15 : decode cX12_readLine 15 = .ok (.aload_n 0, 1) := by decide +kernel
theorem dX12_readLine_16 : decode cX12_readLine 16 = .ok (.iconst 1, 1) := by decide +kernel
theorem dX12_readLine_17 : decode cX12_readLine 17 = .ok (.invokevirtual 134, 3) := by decide +kernel
theorem dX12_readLine_20 : decode cX12_readLine 20 = .ok (.ifCond .eq 10, 3) := by decide +kernel
theorem dX12_readLine_23 : decode cX12_readLine 23 = .ok (.aload_n 0, 1) := by decide +kernel
theorem dX12_readLine_24 : decode cX12_readLine 24 = .ok (.invokevirtual 193, 3) := by decide +kernel
theorem dX12_readLine_27 : decode cX12_readLine 27 = .ok (.goto 115, 3) := by decide +kernel
theorem dX12_readLine_30 : decode cX12_readLine 30 = .ok (.aload_n 0, 1) := by decide +kernel
theorem dX12_readLine_31 : decode cX12_readLine 31 = .ok (.iconst 4, 1) := by decide +kernel
theorem dX12_readLine_32 : decode cX12_readLine 32 = .ok (.invokevirtual 134, 3) := by decide +kernel
theorem dX12_readLine_35 : decode cX12_readLine 35 = .ok (.ifCond .eq 10, 3) := by decide +kernel
theorem dX12_readLine_38 : decode cX12_readLine 38 = .ok (.aload_n 0, 1) := by decide +kernel
theorem dX12_readLine_39 : decode cX12_readLine 39 = .ok (.invokevirtual 196, 3) := by decide +kernel
theorem dX12_readLine_42 : decode cX12_readLine 42 = .ok (.goto 100, 3) := by decide +kernel
theorem dX12_readLine_45 : decode cX12_readLine 45 = .ok (.aload_n 0, 1) := by decide +kernel
theorem dX12_readLine_46 : decode cX12_readLine 46 = .ok (.iconst 5, 1) := by decide +kernel
theorem dX12_readLine_47 : decode cX12_readLine 47 = .ok (.invokevirtual 134, 3) := by decide +kernel
theorem dX12_readLine_50 : decode cX12_readLine 50 = .ok (.ifCond .eq 10, 3) := by decide +kernel
theorem dX12_readLine_53 : decode cX12_readLine 53 = .ok (.aload_n 0, 1) := by decide +kernel
theorem dX12_readLine_54 : decode cX12_readLine 54 = .ok (.invokevirtual 199, 3) := by decide +kernel
theorem dX12_readLine_57 : decode cX12_readLine 57 = .ok (.goto 85, 3) := by decide +kernel
theorem dX12_readLine_60 : decode cX12_readLine 60 = .ok (.aload_n 0, 1) := by decide +kernel
theorem dX12_readLine_61 : decode cX12_readLine 61 = .ok (.bipush 7, 2) := by decide +kernel
theorem dX12_readLine_63 : decode cX12_readLine 63 = .ok (.invokevirtual 155, 3) := by decide +kernel
theorem dX12_readLine_66 : decode cX12_readLine 66 = .ok (.ifCond .eq 35, 3) := by decide +kernel
theorem dX12_readLine_69 : decode cX12_readLine 69 = .ok (.aload_n 0, 1) := by decide +kernel
theorem dX12_readLine_70 : decode cX12_readLine 70 = .ok (.iconst 0, 1) := by decide +kernel
theorem dX12_readLine_71 : decode cX12_readLine 71 = .ok (.aload_n 0, 1) := by decide +kernel
theorem dX12_readLine_72 : decode cX12_readLine 72 = .ok (.getfield 24, 3) := by decide +kernel
theorem dX12_readLine_75 : decode cX12_readLine 75 = .ok (.iconst 1, 1) := by decide +kernel
theorem dX12_readLine_76 : decode cX12_readLine 76 = .ok (.iaload, 1) := by decide +kernel
theorem dX12_readLine_77 : decode cX12_readLine 77 = .ok (.iconst 1, 1) := by decide +kernel
theorem dX12_readLine_78 : decode cX12_readLine 78 = .ok (.isub, 1) := by decide +kernel
theorem dX12_readLine_79 : decode cX12_readLine 79 = .ok (.invokevirtual 179, 3) := by decide +kernel
theorem dX12_readLine_82 : decode cX12_readLine 82 = .ok (.istore_n 1, 1) := by decide +kernel
theorem dX12_readLine_83 : decode cX12_readLine 83 = .ok (.aload_n 0, 1) := by decide +kernel
theorem dX12_readLine_84 : decode cX12_readLine 84 = .ok (.getfield 128, 3) := by decide +kernel
theorem dX12_readLine_87 : decode cX12_readLine 87 = .ok (.ifCond .ne 11, 3) := by decide +kernel
theorem dX12_readLine_90 : decode cX12_readLine 90 = .ok (.aload_n 0, 1) := by decide +kernel
theorem dX12_readLine_91 : decode cX12_readLine 91 = .ok (.getfield 24, 3) := by decide +kernel
theorem dX12_readLine_94 : decode cX12_readLine 94 = .ok (.iload_n 1, 1) := by decide +kernel
theorem dX12_readLine_95 : decode cX12_readLine 95 = .ok (.invokestatic 202, 3) := by decide +kernel
theorem dX12_readLine_98 : decode cX12_readLine 98 = .ok (.goto 44, 3) := by decide +kernel
theorem dX12_readLine_101 : decode cX12_readLine 101 = .ok (.aload_n 0, 1) := by decide +kernel
theorem dX12_readLine_102 : decode cX12_readLine 102 = .ok (.bipush 8, 2) := by decide +kernel
theorem dX12_readLine_104 : decode cX12_readLine 104 = .ok (.invokevirtual 155, 3) := by decide +kernel
theorem dX12_readLine_107 : decode cX12_readLine 107 = .ok (.ifCond .eq 30, 3) := by decide +kernel
theorem dX12_readLine_110 : decode cX12_readLine 110 = .ok (.aload_n 0, 1) := by decide +kernel
theorem dX12_readLine_111 : decode cX12_readLine 111 = .ok (.iconst 0, 1) := by decide +kernel
theorem dX12_readLine_112 : decode cX12_readLine 112 = .ok (.sipush 999, 3) := by decide +kernel
theorem dX12_readLine_115 : decode cX12_readLine 115 = .ok (.invokevirtual 179, 3) := by decide +kernel
theorem dX12_readLine_118 : decode cX12_readLine 118 = .ok (.istore_n 1, 1) := by decide +kernel
theorem dX12_readLine_119 : decode cX12_readLine 119 = .ok (.aload_n 0, 1) := by decide +kernel
theorem dX12_readLine_120 : decode cX12_readLine 120 = .ok (.getfield 128, 3) := by decide +kernel
theorem dX12_readLine_123 : decode cX12_readLine 123 = .ok (.ifCond .ne 11, 3) := by decide +kernel
theorem dX12_readLine_126 : decode cX12_readLine 126 = .ok (.aload_n 0, 1) := by decide +kernel
theorem dX12_readLine_127 : decode cX12_readLine 127 = .ok (.getfield 24, 3) := by decide +kernel
theorem dX12_readLine_130 : decode cX12_readLine 130 = .ok (.bipush 88, 2) := by decide +kernel
theorem dX12_readLine_132 : decode cX12_readLine 132 = .ok (.iload_n 1, 1) := by decide +kernel
theorem dX12_readLine_133 : decode cX12_readLine 133 = .ok (.iastore, 1) := by decide +kernel
theorem dX12_readLine_134 : decode cX12_readLine 134 = .ok (.goto 8, 3) := by decide +kernel
theorem dX12_readLine_137 : decode cX12_readLine 137 = .ok (.aload_n 0, 1) := by decide +kernel
theorem dX12_readLine_138 : decode cX12_readLine 138 = .ok (.iconst 2, 1) := by decide +kernel
theorem dX12_readLine_139 : decode cX12_readLine 139 = .ok (.invokevirtual 140, 3) := by decide +kernel
theorem dX12_readLine_142 : decode cX12_readLine 142 = .ok (.return_, 1) := by decide +kernel
theorem kw_1374 : Cond.methodLink "FootholdWallModel" 190 yX12_readHold ∈ gw := gw_of (tb_of 1374 (by decide +kernel)) (by decide +kernel)
theorem kw_1376 : Cond.instanceMethod yX12_readHold ∈ gw := gw_of (tb_of 1376 (by decide +kernel)) (by decide +kernel)
theorem kw_1377 : Cond.code yX12_readHold cX12_readHold 4 none ∈ gw := gw_of (tb_of 1377 (by decide +kernel)) (by decide +kernel)
theorem kw_1394 : Cond.methodLink "FootholdWallModel" 193 yX12_readGuide ∈ gw := gw_of (tb_of 1394 (by decide +kernel)) (by decide +kernel)
theorem kw_1396 : Cond.instanceMethod yX12_readGuide ∈ gw := gw_of (tb_of 1396 (by decide +kernel)) (by decide +kernel)
theorem kw_1397 : Cond.code yX12_readGuide cX12_readGuide 4 none ∈ gw := gw_of (tb_of 1397 (by decide +kernel)) (by decide +kernel)
theorem kw_1398 : Cond.methodLink "FootholdWallModel" 196 yX12_readStep ∈ gw := gw_of (tb_of 1398 (by decide +kernel)) (by decide +kernel)
theorem kw_1400 : Cond.instanceMethod yX12_readStep ∈ gw := gw_of (tb_of 1400 (by decide +kernel)) (by decide +kernel)
theorem kw_1401 : Cond.code yX12_readStep cX12_readStep 1 none ∈ gw := gw_of (tb_of 1401 (by decide +kernel)) (by decide +kernel)
theorem kw_1436 : Cond.methodLink "FootholdWallModel" 199 yX12_readUsed ∈ gw := gw_of (tb_of 1436 (by decide +kernel)) (by decide +kernel)
theorem kw_1438 : Cond.instanceMethod yX12_readUsed ∈ gw := gw_of (tb_of 1438 (by decide +kernel)) (by decide +kernel)
theorem kw_1439 : Cond.code yX12_readUsed cX12_readUsed 3 none ∈ gw := gw_of (tb_of 1439 (by decide +kernel)) (by decide +kernel)
theorem kw_1443 : Cond.methodLink "FootholdWallModel" 202 yX12_breaksOf ∈ gw := gw_of (tb_of 1443 (by decide +kernel)) (by decide +kernel)
theorem kw_1444 : Cond.static yX12_breaksOf ∈ gw := gw_of (tb_of 1444 (by decide +kernel)) (by decide +kernel)
theorem kw_1445 : Cond.code yX12_breaksOf cX12_breaksOf 2 none ∈ gw := gw_of (tb_of 1445 (by decide +kernel)) (by decide +kernel)
theorem ks_48 : Cond.selects RX12 yX12_readHold yX12_readHold ∈ gw := gw_of (pv_of 48 (by decide +kernel)) (by decide +kernel)
theorem ks_53 : Cond.selects RX12 yX12_readGuide yX12_readGuide ∈ gw := gw_of (pv_of 53 (by decide +kernel)) (by decide +kernel)
theorem ks_54 : Cond.selects RX12 yX12_readStep yX12_readStep ∈ gw := gw_of (pv_of 54 (by decide +kernel)) (by decide +kernel)
theorem ks_63 : Cond.selects RX12 yX12_readUsed yX12_readUsed ∈ gw := gw_of (pv_of 63 (by decide +kernel)) (by decide +kernel)
set_option maxHeartbeats 4000000 in
set_option maxRecDepth 100000 in
theorem s_M_breaksOfF (l : Launch) (D : va_G) (cs : CS) (kf : KF) (T : TF) (O : List Nat) (X : va_W) (x1 : Int32) (o0 : Value) (o1 : Value) (o2 : Value) (y3 : Nat) (y4 : Nat) (o5 : Value) (y6 : Int32) (y7 : Int32) (y8 : Int32) (y9 : Int32) (y10 : Int32) (y11 : Int32) (y12 : Int32) (tl : List Value) (f3 : Nat → Int32) (f4 : Nat → Int32) (mm hg mq : Nat) (l_x1 : 0 ≤ x1.toInt) (u_x1 : x1.toInt ≤ 13) (t_y3 : T y3 = some (9, 900, 0)) (t_y4 : T y4 = some (8, 1302, 0)) (l_y6 : 0 ≤ y6.toInt) (u_y6 : y6.toInt ≤ 900) (l_y7 : 0 ≤ y7.toInt) (u_y7 : y7.toInt ≤ 900) (l_y8 : 0 ≤ y8.toInt) (u_y8 : y8.toInt ≤ 900) (l_y10 : 0 ≤ y10.toInt) (u_y10 : y10.toInt ≤ 999) (s_f4 : S8 f4) (t_mm : T mm = some (22, hg, mq)) (b_hg : hg < 90) (hO : okO T (mm :: y3 :: y4 :: O) []) : TK l D cs kf yX12_breaksOf cX12_breaksOf 2 none { frames := 0, cells := 0, slots := 0, locals := 0 } [.ref y4, .int x1] T (mm :: y3 :: y4 :: O) ((mm, .inr (12, o0 :: o1 :: o2 :: (.ref y3) :: (.ref y4) :: o5 :: (.int y6) :: (.int y7) :: (.int y8) :: (.int y9) :: (.int y10) :: (.int y11) :: (.int y12) :: tl)) :: (y3, .inl (cs.2.1, 900, .inl f3)) :: (y4, .inl (cs.2.1, 1302, .inl f4)) :: X) (Tv D cs (fun u => ∃ (G2 : Nat → Int32), u = (T, mm :: y3 :: y4 :: O, (mm, .inr (12, o0 :: o1 :: o2 :: (.ref y3) :: (.ref y4) :: o5 :: (.int y6) :: (.int y7) :: (.int y8) :: (.int y9) :: (.int y10) :: (.int y11) :: (.int y12) :: tl)) :: (y3, .inl (cs.2.1, 900, .inl f3)) :: (y4, .inl (cs.2.1, 1302, .inl G2)) :: X) ∧ (S8 G2) ∧ (FR5 G2 = FR5 f4) ∧ (G2 0 = f4 0))) := by
  refine tk_of (by decide) (Nat.le_of_ble_eq_true rfl) (fun p e s m below meth c ls A H locs hx hb hr hml hown hts hlocks hnm hkb hH hS hA hOX hks hE hl => ?_)
  have hown : s.vm.findClass RX12 = some m.cls := hown
  have hl : lv_has ls 2 [(0, .ref y4), (1, .int x1)] := hl
  have hOXf := hOX
  refine lv_aload_n hx hb dX12_breaksOf_0 rfl (lv_at hl 0 rfl) ?_
  refine lv_bipush (v := 87) hx hb dX12_breaksOf_1 (by decide) ?_
  refine lv_dup2_11 hx hb dX12_breaksOf_3 rfl rfl ?_
  refine xa_ild hx hb hkb hH 2 rfl (by decide) (by decide) dX12_breaksOf_4 ?_
  refine lv_topi (fun v4 ev4 => ?_)
  have tv4 : v4 = f4 87 := by rw [ev4]; rfl
  refine lv_iconst (v := 1) hx hb dX12_breaksOf_5 (by decide) ?_
  refine lv_iload_n hx hb dX12_breaksOf_6 rfl (lv_at hl 1 rfl) ?_
  refine lv_ishl hx hb dX12_breaksOf_7 ?_
  refine lv_topi (fun v7 ev7 => ?_)
  have tv7 : 1 ≤ v7.toInt ∧ v7.toInt ≤ 8192 := by rw [ev7]; exact shl_b 13 (by decide) (by omega) (by omega)
  refine lv_ior hx hb dX12_breaksOf_8 ?_
  refine lv_topi (fun v8 ev8 => ?_)
  refine xa_ist hx hb hkb hH hS 2 rfl (by decide) (by decide) dX12_breaksOf_9 (fun H locs hH hS => ?_)
  have hH : HT D cs A T (mm :: y3 :: y4 :: O) ((mm, .inr (12, o0 :: o1 :: o2 :: (.ref y3) :: (.ref y4) :: o5 :: (.int y6) :: (.int y7) :: (.int y8) :: (.int y9) :: (.int y10) :: (.int y11) :: (.int y12) :: tl)) :: (y3, .inl (cs.2.1, 900, .inl f3)) :: (y4, .inl (cs.2.1, 1302, .inl (upd f4 (87) v8))) :: X) H := hH
  obtain ⟨F9, eF9⟩ : ∃ f9, f9 = upd f4 (87) v8 := ⟨_, rfl⟩
  have hH : HT D cs A T (mm :: y3 :: y4 :: O) ((mm, .inr (12, o0 :: o1 :: o2 :: (.ref y3) :: (.ref y4) :: o5 :: (.int y6) :: (.int y7) :: (.int y8) :: (.int y9) :: (.int y10) :: (.int y11) :: (.int y12) :: tl)) :: (y3, .inl (cs.2.1, 900, .inl f3)) :: (y4, .inl (cs.2.1, 1302, .inl F9)) :: X) H := eF9 ▸ hH
  have s_F9 : S8 F9 := eF9 ▸ S8_put (i := 87) (x := v8) s_f4 (by decide) (by decide) (p8_far (by decide) (by decide))
  refine lv_aload_n hx hb dX12_breaksOf_10 rfl (lv_at hl 0 rfl) ?_
  refine lv_bipush (v := 59) hx hb dX12_breaksOf_11 (by decide) ?_
  refine lv_iload_n hx hb dX12_breaksOf_13 rfl (lv_at hl 1 rfl) ?_
  refine lv_iadd hx hb dX12_breaksOf_14 ?_
  refine lv_topi (fun v14 ev14 => ?_)
  have tv14 : v14.toInt = (59) + x1.toInt := by rw [ev14]; exact add_i (by decide : (59 : Int32).toInt = 59) rfl (by omega) (by omega)
  refine lv_iconst (v := (-1)) hx hb dX12_breaksOf_15 (by decide) ?_
  refine xa_ist hx hb hkb hH hS 2 rfl (by omega) (by omega) dX12_breaksOf_16 (fun H locs hH hS => ?_)
  have hH : HT D cs A T (mm :: y3 :: y4 :: O) ((mm, .inr (12, o0 :: o1 :: o2 :: (.ref y3) :: (.ref y4) :: o5 :: (.int y6) :: (.int y7) :: (.int y8) :: (.int y9) :: (.int y10) :: (.int y11) :: (.int y12) :: tl)) :: (y3, .inl (cs.2.1, 900, .inl f3)) :: (y4, .inl (cs.2.1, 1302, .inl (upd F9 (v14.toInt.toNat) ((-1) : Int32)))) :: X) H := hH
  obtain ⟨F16, eF16⟩ : ∃ f9, f9 = upd F9 (v14.toInt.toNat) ((-1) : Int32) := ⟨_, rfl⟩
  have hH : HT D cs A T (mm :: y3 :: y4 :: O) ((mm, .inr (12, o0 :: o1 :: o2 :: (.ref y3) :: (.ref y4) :: o5 :: (.int y6) :: (.int y7) :: (.int y8) :: (.int y9) :: (.int y10) :: (.int y11) :: (.int y12) :: tl)) :: (y3, .inl (cs.2.1, 900, .inl f3)) :: (y4, .inl (cs.2.1, 1302, .inl F16)) :: X) H := eF16 ▸ hH
  have s_F16 : S8 F16 := eF16 ▸ S8_put (i := v14) (x := ((-1) : Int32)) s_F9 (by omega) (by omega) (p8_far (by omega) (⟨by omega, by omega⟩))
  refine lv_aload_n hx hb dX12_breaksOf_17 rfl (lv_at hl 0 rfl) ?_
  refine lv_bipush (v := 73) hx hb dX12_breaksOf_18 (by decide) ?_
  refine lv_iload_n hx hb dX12_breaksOf_20 rfl (lv_at hl 1 rfl) ?_
  refine lv_iadd hx hb dX12_breaksOf_21 ?_
  refine lv_topi (fun v21 ev21 => ?_)
  have tv21 : v21.toInt = (73) + x1.toInt := by rw [ev21]; exact add_i (by decide : (73 : Int32).toInt = 73) rfl (by omega) (by omega)
  refine lv_iconst (v := (-1)) hx hb dX12_breaksOf_22 (by decide) ?_
  refine xa_ist hx hb hkb hH hS 2 rfl (by omega) (by omega) dX12_breaksOf_23 (fun H locs hH hS => ?_)
  have hH : HT D cs A T (mm :: y3 :: y4 :: O) ((mm, .inr (12, o0 :: o1 :: o2 :: (.ref y3) :: (.ref y4) :: o5 :: (.int y6) :: (.int y7) :: (.int y8) :: (.int y9) :: (.int y10) :: (.int y11) :: (.int y12) :: tl)) :: (y3, .inl (cs.2.1, 900, .inl f3)) :: (y4, .inl (cs.2.1, 1302, .inl (upd F16 (v21.toInt.toNat) ((-1) : Int32)))) :: X) H := hH
  obtain ⟨F23, eF23⟩ : ∃ f9, f9 = upd F16 (v21.toInt.toNat) ((-1) : Int32) := ⟨_, rfl⟩
  have hH : HT D cs A T (mm :: y3 :: y4 :: O) ((mm, .inr (12, o0 :: o1 :: o2 :: (.ref y3) :: (.ref y4) :: o5 :: (.int y6) :: (.int y7) :: (.int y8) :: (.int y9) :: (.int y10) :: (.int y11) :: (.int y12) :: tl)) :: (y3, .inl (cs.2.1, 900, .inl f3)) :: (y4, .inl (cs.2.1, 1302, .inl F23)) :: X) H := eF23 ▸ hH
  have s_F23 : S8 F23 := eF23 ▸ S8_put (i := v21) (x := ((-1) : Int32)) s_F16 (by omega) (by omega) (p8_far (by omega) (⟨by omega, by omega⟩))
  exact te_v hx hb hr hlocks hH hS (⟨F23, rfl, s_F23, ((FR5_o eF23 (Or.inr (by omega))).trans ((FR5_o eF16 (Or.inr (by omega))).trans (FR5_o eF9 (Or.inr (by decide))))), (by rw [eF23, upd_ne (by omega), eF16, upd_ne (by omega), eF9]; exact upd_ne (by decide))⟩) dX12_breaksOf_24
set_option maxHeartbeats 4000000 in
set_option maxRecDepth 100000 in
theorem s_M_breaksOf (l : Launch) (D : va_G) (cs : CS) (kf : KF) (T : TF) (O : List Nat) (X : va_W) (a0 hg : Nat) (x1 : Int32) (t_a0 : T a0 = some (8, 3906, hg)) (l_x1 : 0 ≤ x1.toInt) (u_x1 : x1.toInt ≤ 13) (hO : okO T O [8]) : TK l D cs kf yX12_breaksOf cX12_breaksOf 2 none { frames := 0, cells := 0, slots := 0, locals := 0 } [.ref a0, .int x1] T O X (Tv D cs (fun u => u = (T, O, X))) := by
  refine tk_of (by decide) (Nat.le_of_ble_eq_true rfl) (fun p e s m below meth c ls A H locs hx hb hr hml hown hts hlocks hnm hkb hH hS hA hOX hks hE hl => ?_)
  have hown : s.vm.findClass RX12 = some m.cls := hown
  have hl : lv_has ls 2 [(0, .ref a0), (1, .int x1)] := hl
  refine lv_aload_n hx hb dX12_breaksOf_0 rfl (lv_at hl 0 rfl) ?_
  refine lv_bipush (v := 87) hx hb dX12_breaksOf_1 (by decide) ?_
  refine lv_dup2_11 hx hb dX12_breaksOf_3 rfl rfl ?_
  refine t_ild8 hx hb hkb hH t_a0 (hO.no t_a0 (by decide)) (by decide) (by decide) (by decide) dX12_breaksOf_4 (fun v4 h9 h8 => ?_)
  refine lv_iconst (v := 1) hx hb dX12_breaksOf_5 (by decide) ?_
  refine lv_iload_n hx hb dX12_breaksOf_6 rfl (lv_at hl 1 rfl) ?_
  refine lv_ishl hx hb dX12_breaksOf_7 ?_
  refine lv_topi (fun v7 ev7 => ?_)
  have tv7 : 1 ≤ v7.toInt ∧ v7.toInt ≤ 8192 := by rw [ev7]; exact shl_b 13 (by decide) (by omega) (by omega)
  refine lv_ior hx hb dX12_breaksOf_8 ?_
  refine lv_topi (fun v8 ev8 => ?_)
  refine t_ist8 hx hb hkb hH hS t_a0 (hO.no t_a0 (by decide)) (by decide) (by decide) (by decide) (by decide) (by decide) (p8_far (by decide) (by decide)) dX12_breaksOf_9 (fun H locs hH hS => ?_)
  refine lv_aload_n hx hb dX12_breaksOf_10 rfl (lv_at hl 0 rfl) ?_
  refine lv_bipush (v := 59) hx hb dX12_breaksOf_11 (by decide) ?_
  refine lv_iload_n hx hb dX12_breaksOf_13 rfl (lv_at hl 1 rfl) ?_
  refine lv_iadd hx hb dX12_breaksOf_14 ?_
  refine lv_topi (fun v14 ev14 => ?_)
  have tv14 : v14.toInt = (59) + x1.toInt := by rw [ev14]; exact add_i (by decide : (59 : Int32).toInt = 59) rfl (by omega) (by omega)
  refine lv_iconst (v := (-1)) hx hb dX12_breaksOf_15 (by decide) ?_
  refine t_ist8 hx hb hkb hH hS t_a0 (hO.no t_a0 (by decide)) (by decide) (by omega) (by omega) (by omega) (by omega) (p8_far (by omega) (by omega)) dX12_breaksOf_16 (fun H locs hH hS => ?_)
  refine lv_aload_n hx hb dX12_breaksOf_17 rfl (lv_at hl 0 rfl) ?_
  refine lv_bipush (v := 73) hx hb dX12_breaksOf_18 (by decide) ?_
  refine lv_iload_n hx hb dX12_breaksOf_20 rfl (lv_at hl 1 rfl) ?_
  refine lv_iadd hx hb dX12_breaksOf_21 ?_
  refine lv_topi (fun v21 ev21 => ?_)
  have tv21 : v21.toInt = (73) + x1.toInt := by rw [ev21]; exact add_i (by decide : (73 : Int32).toInt = 73) rfl (by omega) (by omega)
  refine lv_iconst (v := (-1)) hx hb dX12_breaksOf_22 (by decide) ?_
  refine t_ist8 hx hb hkb hH hS t_a0 (hO.no t_a0 (by decide)) (by decide) (by omega) (by omega) (by omega) (by omega) (p8_far (by omega) (by omega)) dX12_breaksOf_23 (fun H locs hH hS => ?_)
  exact te_v hx hb hr hlocks hH hS rfl dX12_breaksOf_24
set_option maxHeartbeats 4000000 in
set_option maxRecDepth 100000 in
theorem s_M_readLine (l : Launch) (D : va_G) (cs : CS) (kf : KF) (T : TF) (O : List Nat) (X : va_W) (a0 hg mq : Nat) (o0 : Value) (o1 : Value) (o2 : Value) (y3 : Nat) (y4 : Nat) (o5 : Value) (y6 : Int32) (y7 : Int32) (y8 : Int32) (y9 : Int32) (y10 : Int32) (y11 : Int32) (y12 : Int32) (tl : List Value) (f3 : Nat → Int32) (f4 : Nat → Int32) (t : Tp) (tn : Nat) (t_a0 : T a0 = some (22, hg, mq)) (b_hg : hg < 90) (t_y3 : T y3 = some (9, 900, 0)) (t_y4 : T y4 = some (8, 1302, 0)) (l_y6 : 0 ≤ y6.toInt) (u_y6 : y6.toInt ≤ 900) (l_y7 : 0 ≤ y7.toInt) (u_y7 : y7.toInt ≤ 900) (l_y8 : 0 ≤ y8.toInt) (u_y8 : y8.toInt ≤ 900) (l_y10 : 0 ≤ y10.toInt) (u_y10 : y10.toInt ≤ 999) (s_f4 : S8 f4) (hn : y8.toInt = (tn : Int)) (htm : TM f3 t) (k1 : y6.toInt ≤ y7.toInt) (k2 : y7.toInt ≤ y8.toInt) (k3 : TK3 y9 y6 y7) (k5 : y11.toInt = 0) (k6 : y9.toInt ≠ 22) (hms : MSW t tn y11 y6 y7 y9 y10) (hO : okO T (a0 :: y3 :: y4 :: O) []) : TK l D cs kf yX12_readLine cX12_readLine 2 none { frames := 32, cells := 0, slots := 0, locals := 682 } [.ref a0] T (a0 :: y3 :: y4 :: O) ((a0, .inr (12, o0 :: o1 :: o2 :: (.ref y3) :: (.ref y4) :: o5 :: (.int y6) :: (.int y7) :: (.int y8) :: (.int y9) :: (.int y10) :: (.int y11) :: (.int y12) :: tl)) :: (y3, .inl (cs.2.1, 900, .inl f3)) :: (y4, .inl (cs.2.1, 1302, .inl f4)) :: X) (Tv D cs (fun u => ∃ (n0_6 : Int32) (n0_7 : Int32) (n0_9 : Int32) (n0_10 : Int32) (n0_11 : Int32) (n0_12 : Int32) (G2 : Nat → Int32), u = (T, a0 :: y3 :: y4 :: O, (a0, .inr (12, o0 :: o1 :: o2 :: (.ref y3) :: (.ref y4) :: o5 :: (.int n0_6) :: (.int n0_7) :: (.int y8) :: (.int n0_9) :: (.int n0_10) :: (.int n0_11) :: (.int n0_12) :: tl)) :: (y3, .inl (cs.2.1, 900, .inl f3)) :: (y4, .inl (cs.2.1, 1302, .inl G2)) :: X) ∧ (S8 G2) ∧ (y6.toInt ≤ n0_6.toInt) ∧ (n0_6.toInt ≤ n0_7.toInt) ∧ (n0_7.toInt ≤ y8.toInt) ∧ (TK3 n0_9 n0_6 n0_7) ∧ (0 ≤ n0_10.toInt) ∧ (n0_10.toInt ≤ 999) ∧ (RGR t tn [(31, 0)] [] (FR5 f4) (FR5 G2) y11 y12 y6 n0_11 n0_12 n0_6 n0_7 n0_9 n0_10) ∧ (G2 0 = f4 0))) := by
  refine tk_of (by decide) (Nat.le_of_ble_eq_true rfl) (fun p e s m below meth c ls A H locs hx hb hr hml hown hts hlocks hnm hkb hH hS hA hOX hks hE hl => ?_)
  have hown : s.vm.findClass RX12 = some m.cls := hown
  have hl : lv_has ls 2 [(0, .ref a0)] := hl
  have hOXf := hOX
  have hq1 := (hms k5).2.2.2.1
  refine lv_aload_n hx hb dX12_readLine_0 rfl (lv_at hl 0 rfl) ?_
  refine lv_iconst (v := 0) hx hb dX12_readLine_1 (by decide) ?_
  have z9_0 : (0 : Int32).toInt = 0 := by decide
  refine tk_i hH hS hA (tr_V (n := 1) (As := [.int 0]) hx hb hml hown hts hkb hH (ox_map hOX rfl) hks hE hS hA (s_M_is l D cs kf T (y4 :: O) ((y4, .inl (cs.2.1, 1302, .inl f4)) :: X) a0 hg mq (0) o0 o1 o2 y3 y4 o5 y6 y7 y8 y9 y10 y11 y12 tl f3 t tn t_a0 b_hg t_y3 t_y4 (by omega) (by omega) (by omega) (by omega) (by omega) (by omega) (by omega) (by omega) (by omega) htm (hO.sub (by decide))) kw_1370 kw_1372 ks_47 kw_13 kw_1373 (by decide +kernel) ⟨Nat.le_of_ble_eq_true rfl, Nat.le_of_ble_eq_true rfl⟩ (x_recv (ci := 12) hkb hH 0 rfl rfl) rfl rfl hl.1 (Nat.le_of_ble_eq_true rfl) dX12_readLine_2 ⟨Nat.le_of_ble_eq_true rfl, Nat.le_of_ble_eq_true rfl⟩) (fun v2 u H locs hz9 hH hS => ?_)
  obtain ⟨rfl, l_v2, u_v2, x_v20, x_v21⟩ := hz9
  have hH : HT D cs A T (a0 :: y3 :: y4 :: O) ((a0, .inr (12, o0 :: o1 :: o2 :: (.ref y3) :: (.ref y4) :: o5 :: (.int y6) :: (.int y7) :: (.int y8) :: (.int y9) :: (.int y10) :: (.int y11) :: (.int y12) :: tl)) :: (y3, .inl (cs.2.1, 900, .inl f3)) :: (y4, .inl (cs.2.1, 1302, .inl f4)) :: X) H := hH
  refine W.widen (k := 0) (n := 0) (Nat.le_of_ble_eq_true rfl) (Nat.le_of_ble_eq_true rfl) ?_
  refine lv_if_eq (tgt := 15) hx hb dX12_readLine_5 (by decide) (fun c5 => ?_) (fun c5 => ?_)
  · skip
    have tc5 := f_eq (k := 0) (by decide) c5
    clear x_v20
    replace x_v21 := x_v21.resolve_left (fun q9 => q9 tc5)
    refine lv_aload_n hx hb dX12_readLine_15 rfl (lv_at hl 0 rfl) ?_
    refine lv_iconst (v := 1) hx hb dX12_readLine_16 (by decide) ?_
    have z9_1 : (1 : Int32).toInt = 1 := by decide
    refine tk_i hH hS hA (tr_V (n := 1) (As := [.int 1]) hx hb hml hown hts hkb hH (ox_map hOX rfl) hks hE hS hA (s_M_is l D cs kf T (y4 :: O) ((y4, .inl (cs.2.1, 1302, .inl f4)) :: X) a0 hg mq (1) o0 o1 o2 y3 y4 o5 y6 y7 y8 y9 y10 y11 y12 tl f3 t tn t_a0 b_hg t_y3 t_y4 (by omega) (by omega) (by omega) (by omega) (by omega) (by omega) (by omega) (by omega) (by omega) htm (hO.sub (by decide))) kw_1370 kw_1372 ks_47 kw_13 kw_1373 (by decide +kernel) ⟨Nat.le_of_ble_eq_true rfl, Nat.le_of_ble_eq_true rfl⟩ (x_recv (ci := 12) hkb hH 0 rfl rfl) rfl rfl hl.1 (Nat.le_of_ble_eq_true rfl) dX12_readLine_17 ⟨Nat.le_of_ble_eq_true rfl, Nat.le_of_ble_eq_true rfl⟩) (fun v17 u H locs hz9 hH hS => ?_)
    obtain ⟨rfl, l_v17, u_v17, x_v170, x_v171⟩ := hz9
    have hH : HT D cs A T (a0 :: y3 :: y4 :: O) ((a0, .inr (12, o0 :: o1 :: o2 :: (.ref y3) :: (.ref y4) :: o5 :: (.int y6) :: (.int y7) :: (.int y8) :: (.int y9) :: (.int y10) :: (.int y11) :: (.int y12) :: tl)) :: (y3, .inl (cs.2.1, 900, .inl f3)) :: (y4, .inl (cs.2.1, 1302, .inl f4)) :: X) H := hH
    refine W.widen (k := 0) (n := 0) (Nat.le_of_ble_eq_true rfl) (Nat.le_of_ble_eq_true rfl) ?_
    refine lv_if_eq (tgt := 30) hx hb dX12_readLine_20 (by decide) (fun c20 => ?_) (fun c20 => ?_)
    · skip
      have tc20 := f_eq (k := 0) (by decide) c20
      clear x_v170
      replace x_v171 := x_v171.resolve_left (fun q9 => q9 tc20)
      refine lv_aload_n hx hb dX12_readLine_30 rfl (lv_at hl 0 rfl) ?_
      refine lv_iconst (v := 4) hx hb dX12_readLine_31 (by decide) ?_
      have z9_4 : (4 : Int32).toInt = 4 := by decide
      refine tk_i hH hS hA (tr_V (n := 1) (As := [.int 4]) hx hb hml hown hts hkb hH (ox_map hOX rfl) hks hE hS hA (s_M_is l D cs kf T (y4 :: O) ((y4, .inl (cs.2.1, 1302, .inl f4)) :: X) a0 hg mq (4) o0 o1 o2 y3 y4 o5 y6 y7 y8 y9 y10 y11 y12 tl f3 t tn t_a0 b_hg t_y3 t_y4 (by omega) (by omega) (by omega) (by omega) (by omega) (by omega) (by omega) (by omega) (by omega) htm (hO.sub (by decide))) kw_1370 kw_1372 ks_47 kw_13 kw_1373 (by decide +kernel) ⟨Nat.le_of_ble_eq_true rfl, Nat.le_of_ble_eq_true rfl⟩ (x_recv (ci := 12) hkb hH 0 rfl rfl) rfl rfl hl.1 (Nat.le_of_ble_eq_true rfl) dX12_readLine_32 ⟨Nat.le_of_ble_eq_true rfl, Nat.le_of_ble_eq_true rfl⟩) (fun v32 u H locs hz9 hH hS => ?_)
      obtain ⟨rfl, l_v32, u_v32, x_v320, x_v321⟩ := hz9
      have hH : HT D cs A T (a0 :: y3 :: y4 :: O) ((a0, .inr (12, o0 :: o1 :: o2 :: (.ref y3) :: (.ref y4) :: o5 :: (.int y6) :: (.int y7) :: (.int y8) :: (.int y9) :: (.int y10) :: (.int y11) :: (.int y12) :: tl)) :: (y3, .inl (cs.2.1, 900, .inl f3)) :: (y4, .inl (cs.2.1, 1302, .inl f4)) :: X) H := hH
      refine W.widen (k := 0) (n := 0) (Nat.le_of_ble_eq_true rfl) (Nat.le_of_ble_eq_true rfl) ?_
      refine lv_if_eq (tgt := 45) hx hb dX12_readLine_35 (by decide) (fun c35 => ?_) (fun c35 => ?_)
      · skip
        have tc35 := f_eq (k := 0) (by decide) c35
        clear x_v320
        replace x_v321 := x_v321.resolve_left (fun q9 => q9 tc35)
        refine lv_aload_n hx hb dX12_readLine_45 rfl (lv_at hl 0 rfl) ?_
        refine lv_iconst (v := 5) hx hb dX12_readLine_46 (by decide) ?_
        have z9_5 : (5 : Int32).toInt = 5 := by decide
        refine tk_i hH hS hA (tr_V (n := 1) (As := [.int 5]) hx hb hml hown hts hkb hH (ox_map hOX rfl) hks hE hS hA (s_M_is l D cs kf T (y4 :: O) ((y4, .inl (cs.2.1, 1302, .inl f4)) :: X) a0 hg mq (5) o0 o1 o2 y3 y4 o5 y6 y7 y8 y9 y10 y11 y12 tl f3 t tn t_a0 b_hg t_y3 t_y4 (by omega) (by omega) (by omega) (by omega) (by omega) (by omega) (by omega) (by omega) (by omega) htm (hO.sub (by decide))) kw_1370 kw_1372 ks_47 kw_13 kw_1373 (by decide +kernel) ⟨Nat.le_of_ble_eq_true rfl, Nat.le_of_ble_eq_true rfl⟩ (x_recv (ci := 12) hkb hH 0 rfl rfl) rfl rfl hl.1 (Nat.le_of_ble_eq_true rfl) dX12_readLine_47 ⟨Nat.le_of_ble_eq_true rfl, Nat.le_of_ble_eq_true rfl⟩) (fun v47 u H locs hz9 hH hS => ?_)
        obtain ⟨rfl, l_v47, u_v47, x_v470, x_v471⟩ := hz9
        have hH : HT D cs A T (a0 :: y3 :: y4 :: O) ((a0, .inr (12, o0 :: o1 :: o2 :: (.ref y3) :: (.ref y4) :: o5 :: (.int y6) :: (.int y7) :: (.int y8) :: (.int y9) :: (.int y10) :: (.int y11) :: (.int y12) :: tl)) :: (y3, .inl (cs.2.1, 900, .inl f3)) :: (y4, .inl (cs.2.1, 1302, .inl f4)) :: X) H := hH
        refine W.widen (k := 0) (n := 0) (Nat.le_of_ble_eq_true rfl) (Nat.le_of_ble_eq_true rfl) ?_
        refine lv_if_eq (tgt := 60) hx hb dX12_readLine_50 (by decide) (fun c50 => ?_) (fun c50 => ?_)
        · skip
          have tc50 := f_eq (k := 0) (by decide) c50
          clear x_v470
          replace x_v471 := x_v471.resolve_left (fun q9 => q9 tc50)
          refine lv_aload_n hx hb dX12_readLine_60 rfl (lv_at hl 0 rfl) ?_
          refine lv_bipush (v := 7) hx hb dX12_readLine_61 (by decide) ?_
          have z9_7 : (7 : Int32).toInt = 7 := by decide
          refine tk_i hH hS hA (tr_V (n := 1) (As := [.int 7]) hx hb hml hown hts hkb hH (ox_map hOX rfl) hks hE hS hA (s_M_eats l D cs kf T (y4 :: O) ((y4, .inl (cs.2.1, 1302, .inl f4)) :: X) a0 hg mq (7) o0 o1 o2 y3 y4 o5 y6 y7 y8 y9 y10 y11 y12 tl f3 t tn t_a0 b_hg t_y3 t_y4 (by omega) (by omega) (by omega) (by omega) (by omega) (by omega) (by omega) (by omega) (by omega) htm (by omega) (by omega) k3 (by omega) hms (hO.sub (by decide))) kw_1390 kw_1392 ks_52 kw_13 kw_1393 (by decide +kernel) ⟨Nat.le_of_ble_eq_true rfl, Nat.le_of_ble_eq_true rfl⟩ (x_recv (ci := 12) hkb hH 0 rfl rfl) rfl rfl hl.1 (Nat.le_of_ble_eq_true rfl) dX12_readLine_63 ⟨Nat.le_of_ble_eq_true rfl, Nat.le_of_ble_eq_true rfl⟩) (fun v63 u H locs hz9 hH hS => ?_)
          obtain ⟨n63_0_6, n63_0_7, n63_0_9, n63_0_10, rfl, l_v63, u_v63, x_v630, x_v631, x_v632, x_v633, x_v634, x_v635, x_v636, x_v637, x_v638⟩ := hz9
          have hH : HT D cs A T (a0 :: y3 :: y4 :: O) ((a0, .inr (12, o0 :: o1 :: o2 :: (.ref y3) :: (.ref y4) :: o5 :: (.int n63_0_6) :: (.int n63_0_7) :: (.int y8) :: (.int n63_0_9) :: (.int n63_0_10) :: (.int y11) :: (.int y12) :: tl)) :: (y3, .inl (cs.2.1, 900, .inl f3)) :: (y4, .inl (cs.2.1, 1302, .inl f4)) :: X) H := hH
          refine W.widen (k := 0) (n := 0) (Nat.le_of_ble_eq_true rfl) (Nat.le_of_ble_eq_true rfl) ?_
          refine lv_if_eq (tgt := 101) hx hb dX12_readLine_66 (by decide) (fun c66 => ?_) (fun c66 => ?_)
          · skip
            have tc66 := f_eq (k := 0) (by decide) c66
            clear x_v636
            clear x_v637
            replace x_v638 := x_v638.resolve_left (fun q9 => q9 tc66)
            obtain ⟨e6, e7, e9, e10, x_v638⟩ := x_v638
            subst e6 e7 e9 e10
            refine lv_aload_n hx hb dX12_readLine_101 rfl (lv_at hl 0 rfl) ?_
            refine lv_bipush (v := 8) hx hb dX12_readLine_102 (by decide) ?_
            have z9_8 : (8 : Int32).toInt = 8 := by decide
            refine tk_i hH hS hA (tr_V (n := 1) (As := [.int 8]) hx hb hml hown hts hkb hH (ox_map hOX rfl) hks hE hS hA (s_M_eats l D cs kf T (y4 :: O) ((y4, .inl (cs.2.1, 1302, .inl f4)) :: X) a0 hg mq (8) o0 o1 o2 y3 y4 o5 y6 y7 y8 y9 y10 y11 y12 tl f3 t tn t_a0 b_hg t_y3 t_y4 (by omega) (by omega) (by omega) (by omega) (by omega) (by omega) (by omega) (by omega) (by omega) htm (by omega) (by omega) x_v633 (by omega) hms (hO.sub (by decide))) kw_1390 kw_1392 ks_52 kw_13 kw_1393 (by decide +kernel) ⟨Nat.le_of_ble_eq_true rfl, Nat.le_of_ble_eq_true rfl⟩ (x_recv (ci := 12) hkb hH 0 rfl rfl) rfl rfl hl.1 (Nat.le_of_ble_eq_true rfl) dX12_readLine_104 ⟨Nat.le_of_ble_eq_true rfl, Nat.le_of_ble_eq_true rfl⟩) (fun v104 u H locs hz9 hH hS => ?_)
            obtain ⟨n104_0_6, n104_0_7, n104_0_9, n104_0_10, rfl, l_v104, u_v104, x_v1040, x_v1041, x_v1042, x_v1043, x_v1044, x_v1045, x_v1046, x_v1047, x_v1048⟩ := hz9
            have hH : HT D cs A T (a0 :: y3 :: y4 :: O) ((a0, .inr (12, o0 :: o1 :: o2 :: (.ref y3) :: (.ref y4) :: o5 :: (.int n104_0_6) :: (.int n104_0_7) :: (.int y8) :: (.int n104_0_9) :: (.int n104_0_10) :: (.int y11) :: (.int y12) :: tl)) :: (y3, .inl (cs.2.1, 900, .inl f3)) :: (y4, .inl (cs.2.1, 1302, .inl f4)) :: X) H := hH
            refine W.widen (k := 0) (n := 0) (Nat.le_of_ble_eq_true rfl) (Nat.le_of_ble_eq_true rfl) ?_
            refine lv_if_eq (tgt := 137) hx hb dX12_readLine_107 (by decide) (fun c107 => ?_) (fun c107 => ?_)
            · skip
              have tc107 := f_eq (k := 0) (by decide) c107
              clear x_v1046
              clear x_v1047
              replace x_v1048 := x_v1048.resolve_left (fun q9 => q9 tc107)
              obtain ⟨e6, e7, e9, e10, x_v1048⟩ := x_v1048
              subst e6 e7 e9 e10
              refine lv_aload_n hx hb dX12_readLine_137 rfl (lv_at hl 0 rfl) ?_
              refine lv_iconst (v := 2) hx hb dX12_readLine_138 (by decide) ?_
              have z9_2 : (2 : Int32).toInt = 2 := by decide
              refine tk_v hH hS hA (tr_V (n := 1) (As := [.int 2]) hx hb hml hown hts hkb hH (ox_map hOX rfl) hks hE hS hA (s_M_fails l D cs kf T (y4 :: O) ((y4, .inl (cs.2.1, 1302, .inl f4)) :: X) a0 hg mq (2) o0 o1 o2 y3 y4 o5 y6 y7 y8 y9 y10 y11 y12 tl f3 t tn t_a0 b_hg (by decide) (by decide) t_y3 t_y4 (by omega) (by omega) (by omega) (by omega) (by omega) (by omega) (by omega) (by omega) (by omega) htm (hO.sub (by decide))) kw_1378 kw_1380 ks_49 kw_13 kw_1381 (by decide +kernel) ⟨Nat.le_of_ble_eq_true rfl, Nat.le_of_ble_eq_true rfl⟩ (x_recv (ci := 12) hkb hH 0 rfl rfl) rfl rfl hl.1 (Nat.le_of_ble_eq_true rfl) dX12_readLine_139 ⟨Nat.le_of_ble_eq_true rfl, Nat.le_of_ble_eq_true rfl⟩) (fun u H locs hz9 hH hS => ?_)
              obtain ⟨n139_0_11, n139_0_12, rfl, x_v1390, x_v1391⟩ := hz9
              have hH : HT D cs A T (a0 :: y3 :: y4 :: O) ((a0, .inr (12, o0 :: o1 :: o2 :: (.ref y3) :: (.ref y4) :: o5 :: (.int y6) :: (.int y7) :: (.int y8) :: (.int y9) :: (.int y10) :: (.int n139_0_11) :: (.int n139_0_12) :: tl)) :: (y3, .inl (cs.2.1, 900, .inl f3)) :: (y4, .inl (cs.2.1, 1302, .inl f4)) :: X) H := hH
              refine W.widen (k := 0) (n := 0) (Nat.le_of_ble_eq_true rfl) (Nat.le_of_ble_eq_true rfl) ?_
              exact te_v hx hb hr hlocks hH hS (⟨y6, y7, y9, y10, n139_0_11, n139_0_12, f4, rfl, s_f4, by omega, by omega, by omega, x_v1043, by omega, by omega, (by first | (exact x_v97) | (exact x_v247) | (exact x_v397) | (exact x_v547) | (refine RGR.to (RGR.seq (F' := [(37, 0)]) (RGR_g ?_ x_v637.1 (GR_nx (fun _ => st_iB (R := FR5 f4) ?_) x_v637.2.1)) (TNK.rk x_v797 hki)) x_v951 <;> omega) | (refine RGR.seq (F' := [(37, 0)]) (RGR_g ?_ x_v637.1 (GR_nx (fun _ => st_iB (R := FR5 f4) ?_) x_v637.2.1)) (TNK.rk x_v797 hki) <;> omega) | (refine RGR.to (RGR.seq (F' := [(22, 999)]) (RGR_g ?_ x_v1047.1 (GR_nx (fun _ => st_iD (R := FR5 f4) ?_) x_v1047.2.1)) (RG.r (TNK.rg x_v1157 (by decide)))) (FR5_o eF133 (Or.inr (by decide))) <;> omega) | (refine RGR.seq (F' := [(22, 999)]) (RGR_g ?_ x_v1047.1 (GR_nx (fun _ => st_iD (R := FR5 f4) ?_) x_v1047.2.1)) (RG.r (TNK.rg x_v1157 (by decide))) <;> omega) | (exact RGR_f (R := FR5 f4) (m := 2) (G := []) x_v1391 hms (by decide) (by decide) (fun q9 _ => st_iN (by omega)))), (by first | exact x_v98 | exact x_v248 | exact x_v398 | exact x_v548 | exact x_v952 | (rw [eF133]; exact upd_ne (by decide)) | rfl)⟩) dX12_readLine_142
            · skip
              have tc107 := f_ne (k := 0) (by decide) c107
              replace x_v1046 := x_v1046.resolve_left tc107
              replace x_v1047 := x_v1047.resolve_left tc107
              clear x_v1048
              refine lv_aload_n hx hb dX12_readLine_110 rfl (lv_at hl 0 rfl) ?_
              refine lv_iconst (v := 0) hx hb dX12_readLine_111 (by decide) ?_
              refine lv_sipush (v := 999) hx hb dX12_readLine_112 (by decide) ?_
              have z9_0 : (0 : Int32).toInt = 0 := by decide
              have z9_999 : (999 : Int32).toInt = 999 := by decide
              refine tk_i hH hS hA (tr_V (n := 2) (As := [.int 0, .int 999]) hx hb hml hown hts hkb hH (ox_map hOX rfl) hks hE hS hA (s_M_takes l D cs kf T (y4 :: O) ((y4, .inl (cs.2.1, 1302, .inl f4)) :: X) a0 hg mq (0) (999) o0 o1 o2 y3 y4 o5 n104_0_6 n104_0_7 y8 n104_0_9 n104_0_10 y11 y12 tl f3 t tn t_a0 b_hg (by decide) (by decide) t_y3 t_y4 (by omega) (by omega) (by omega) (by omega) (by omega) (by omega) (by omega) (by omega) (by omega) htm (by omega) (by omega) x_v1043 (fun _ => x_v1047.1) (hO.sub (by decide))) kw_1382 kw_1384 ks_50 kw_13 kw_1385 (by decide +kernel) ⟨Nat.le_of_ble_eq_true rfl, Nat.le_of_ble_eq_true rfl⟩ (x_recv (ci := 12) hkb hH 0 rfl rfl) rfl rfl hl.1 (Nat.le_of_ble_eq_true rfl) dX12_readLine_115 ⟨Nat.le_of_ble_eq_true rfl, Nat.le_of_ble_eq_true rfl⟩) (fun v115 u H locs hz9 hH hS => ?_)
              obtain ⟨n115_0_6, n115_0_7, n115_0_9, n115_0_10, n115_0_11, n115_0_12, rfl, l_v115, u_v115, x_v1150, x_v1151, x_v1152, x_v1153, x_v1154, x_v1155, x_v1156, x_v1157⟩ := hz9
              have hH : HT D cs A T (a0 :: y3 :: y4 :: O) ((a0, .inr (12, o0 :: o1 :: o2 :: (.ref y3) :: (.ref y4) :: o5 :: (.int n115_0_6) :: (.int n115_0_7) :: (.int y8) :: (.int n115_0_9) :: (.int n115_0_10) :: (.int n115_0_11) :: (.int n115_0_12) :: tl)) :: (y3, .inl (cs.2.1, 900, .inl f3)) :: (y4, .inl (cs.2.1, 1302, .inl f4)) :: X) H := hH
              refine W.widen (k := 0) (n := 0) (Nat.le_of_ble_eq_true rfl) (Nat.le_of_ble_eq_true rfl) ?_
              refine lv_istore_n (lv' := [(1, .int v115), (0, .ref a0)]) hx hb dX12_readLine_118 rfl hl (by decide) rfl (fun ls hl => ?_)
              refine lv_aload_n hx hb dX12_readLine_119 rfl (lv_at hl 1 rfl) ?_
              refine x_getk (ci := 12) (C := RX12) (F := TX12) (N := 36) (v := .int n115_0_11) hx hb hts uX12 hown hkb hH 0 rfl rfl 11 (by decide) rfl kw_1234 (fun _ h9 => h9) dX12_readLine_120 ?_
              refine lv_if_ne (tgt := 134) hx hb dX12_readLine_123 (by decide) (fun c123 => ?_) (fun c123 => ?_)
              · skip
                have tc123 := f_ne (k := 0) (by decide) c123
                refine lv_goto (tgt := 142) hx hb dX12_readLine_134 (by decide) ?_
                exact te_v hx hb hr hlocks hH hS (⟨n115_0_6, n115_0_7, n115_0_9, n115_0_10, n115_0_11, n115_0_12, f4, rfl, s_f4, by omega, by omega, by omega, x_v1153, by omega, by omega, (by first | (exact x_v97) | (exact x_v247) | (exact x_v397) | (exact x_v547) | (refine RGR.to (RGR.seq (F' := [(37, 0)]) (RGR_g ?_ x_v637.1 (GR_nx (fun _ => st_iB (R := FR5 f4) ?_) x_v637.2.1)) (TNK.rk x_v797 hki)) x_v951 <;> omega) | (refine RGR.seq (F' := [(37, 0)]) (RGR_g ?_ x_v637.1 (GR_nx (fun _ => st_iB (R := FR5 f4) ?_) x_v637.2.1)) (TNK.rk x_v797 hki) <;> omega) | (refine RGR.to (RGR.seq (F' := [(22, 999)]) (RGR_g ?_ x_v1047.1 (GR_nx (fun _ => st_iD (R := FR5 f4) ?_) x_v1047.2.1)) (RG.r (TNK.rg x_v1157 (by decide)))) (FR5_o eF133 (Or.inr (by decide))) <;> omega) | (refine RGR.seq (F' := [(22, 999)]) (RGR_g ?_ x_v1047.1 (GR_nx (fun _ => st_iD (R := FR5 f4) ?_) x_v1047.2.1)) (RG.r (TNK.rg x_v1157 (by decide))) <;> omega) | (exact RGR_f (R := FR5 f4) (m := 2) (G := []) x_v1391 hms (by decide) (by decide) (fun q9 _ => st_iN (by omega)))), (by first | exact x_v98 | exact x_v248 | exact x_v398 | exact x_v548 | exact x_v952 | (rw [eF133]; exact upd_ne (by decide)) | rfl)⟩) dX12_readLine_142
              · skip
                have tc123 := f_eq (k := 0) (by decide) c123
                refine lv_aload_n hx hb dX12_readLine_126 rfl (lv_at hl 1 rfl) ?_
                refine x_getk (ci := 12) (C := RX12) (F := TX12) (N := 36) (v := .ref y4) hx hb hts uX12 hown hkb hH 0 rfl rfl 4 (by decide) rfl kw_1227 (fun _ h9 => h9) dX12_readLine_127 ?_
                refine lv_bipush (v := 88) hx hb dX12_readLine_130 (by decide) ?_
                refine lv_iload_n hx hb dX12_readLine_132 rfl (lv_at hl 0 rfl) ?_
                refine xa_ist hx hb hkb hH hS 2 rfl (by decide) (by decide) dX12_readLine_133 (fun H locs hH hS => ?_)
                have hH : HT D cs A T (a0 :: y3 :: y4 :: O) ((a0, .inr (12, o0 :: o1 :: o2 :: (.ref y3) :: (.ref y4) :: o5 :: (.int n115_0_6) :: (.int n115_0_7) :: (.int y8) :: (.int n115_0_9) :: (.int n115_0_10) :: (.int n115_0_11) :: (.int n115_0_12) :: tl)) :: (y3, .inl (cs.2.1, 900, .inl f3)) :: (y4, .inl (cs.2.1, 1302, .inl (upd f4 (88) v115))) :: X) H := hH
                obtain ⟨F133, eF133⟩ : ∃ f9, f9 = upd f4 (88) v115 := ⟨_, rfl⟩
                have hH : HT D cs A T (a0 :: y3 :: y4 :: O) ((a0, .inr (12, o0 :: o1 :: o2 :: (.ref y3) :: (.ref y4) :: o5 :: (.int n115_0_6) :: (.int n115_0_7) :: (.int y8) :: (.int n115_0_9) :: (.int n115_0_10) :: (.int n115_0_11) :: (.int n115_0_12) :: tl)) :: (y3, .inl (cs.2.1, 900, .inl f3)) :: (y4, .inl (cs.2.1, 1302, .inl F133)) :: X) H := eF133 ▸ hH
                have s_F133 : S8 F133 := eF133 ▸ S8_put (i := 88) (x := v115) s_f4 (by decide) (by decide) (p8_far (by decide) (by decide))
                refine lv_goto (tgt := 142) hx hb dX12_readLine_134 (by decide) ?_
                exact te_v hx hb hr hlocks hH hS (⟨n115_0_6, n115_0_7, n115_0_9, n115_0_10, n115_0_11, n115_0_12, F133, rfl, s_F133, by omega, by omega, by omega, x_v1153, by omega, by omega, (by first | (exact x_v97) | (exact x_v247) | (exact x_v397) | (exact x_v547) | (refine RGR.to (RGR.seq (F' := [(37, 0)]) (RGR_g ?_ x_v637.1 (GR_nx (fun _ => st_iB (R := FR5 f4) ?_) x_v637.2.1)) (TNK.rk x_v797 hki)) x_v951 <;> omega) | (refine RGR.seq (F' := [(37, 0)]) (RGR_g ?_ x_v637.1 (GR_nx (fun _ => st_iB (R := FR5 f4) ?_) x_v637.2.1)) (TNK.rk x_v797 hki) <;> omega) | (refine RGR.to (RGR.seq (F' := [(22, 999)]) (RGR_g ?_ x_v1047.1 (GR_nx (fun _ => st_iD (R := FR5 f4) ?_) x_v1047.2.1)) (RG.r (TNK.rg x_v1157 (by decide)))) (FR5_o eF133 (Or.inr (by decide))) <;> omega) | (refine RGR.seq (F' := [(22, 999)]) (RGR_g ?_ x_v1047.1 (GR_nx (fun _ => st_iD (R := FR5 f4) ?_) x_v1047.2.1)) (RG.r (TNK.rg x_v1157 (by decide))) <;> omega) | (exact RGR_f (R := FR5 f4) (m := 2) (G := []) x_v1391 hms (by decide) (by decide) (fun q9 _ => st_iN (by omega)))), (by first | exact x_v98 | exact x_v248 | exact x_v398 | exact x_v548 | exact x_v952 | (rw [eF133]; exact upd_ne (by decide)) | rfl)⟩) dX12_readLine_142
          · skip
            have tc66 := f_ne (k := 0) (by decide) c66
            replace x_v636 := x_v636.resolve_left tc66
            replace x_v637 := x_v637.resolve_left tc66
            clear x_v638
            refine lv_aload_n hx hb dX12_readLine_69 rfl (lv_at hl 0 rfl) ?_
            refine lv_iconst (v := 0) hx hb dX12_readLine_70 (by decide) ?_
            refine lv_aload_n hx hb dX12_readLine_71 rfl (lv_at hl 0 rfl) ?_
            refine x_getk (ci := 12) (C := RX12) (F := TX12) (N := 36) (v := .ref y4) hx hb hts uX12 hown hkb hH 0 rfl rfl 4 (by decide) rfl kw_1227 (fun _ h9 => h9) dX12_readLine_72 ?_
            refine lv_iconst (v := 1) hx hb dX12_readLine_75 (by decide) ?_
            refine xa_ild hx hb hkb hH 2 rfl (by decide) (by decide) dX12_readLine_76 ?_
            refine lv_topi (fun v76 ev76 => ?_)
            have tv76 : v76 = f4 1 := by rw [ev76]; rfl
            have bv76 : 0 ≤ v76.toInt ∧ v76.toInt ≤ 14 := by rw [tv76]; exact s_f4.1
            refine lv_iconst (v := 1) hx hb dX12_readLine_77 (by decide) ?_
            refine lv_isub hx hb dX12_readLine_78 ?_
            refine lv_topi (fun v78 ev78 => ?_)
            have tv78 : v78.toInt = v76.toInt - (1) := by rw [ev78]; exact sub_i rfl (by decide : (1 : Int32).toInt = 1) (by omega) (by omega)
            have z9_0 : (0 : Int32).toInt = 0 := by decide
            refine tk_i hH hS hA (tr_V (n := 2) (As := [.int 0, .int v78]) hx hb hml hown hts hkb hH (ox_map hOX rfl) hks hE hS hA (s_M_takes l D cs kf T (y4 :: O) ((y4, .inl (cs.2.1, 1302, .inl f4)) :: X) a0 hg mq (0) v78 o0 o1 o2 y3 y4 o5 n63_0_6 n63_0_7 y8 n63_0_9 n63_0_10 y11 y12 tl f3 t tn t_a0 b_hg (by decide) (by decide) t_y3 t_y4 (by omega) (by omega) (by omega) (by omega) (by omega) (by omega) (by omega) (by omega) (by omega) htm (by omega) (by omega) x_v633 (fun _ => x_v637.1) (hO.sub (by decide))) kw_1382 kw_1384 ks_50 kw_13 kw_1385 (by decide +kernel) ⟨Nat.le_of_ble_eq_true rfl, Nat.le_of_ble_eq_true rfl⟩ (x_recv (ci := 12) hkb hH 0 rfl rfl) rfl rfl hl.1 (Nat.le_of_ble_eq_true rfl) dX12_readLine_79 ⟨Nat.le_of_ble_eq_true rfl, Nat.le_of_ble_eq_true rfl⟩) (fun v79 u H locs hz9 hH hS => ?_)
            obtain ⟨n79_0_6, n79_0_7, n79_0_9, n79_0_10, n79_0_11, n79_0_12, rfl, l_v79, u_v79, x_v790, x_v791, x_v792, x_v793, x_v794, x_v795, x_v796, x_v797⟩ := hz9
            have hH : HT D cs A T (a0 :: y3 :: y4 :: O) ((a0, .inr (12, o0 :: o1 :: o2 :: (.ref y3) :: (.ref y4) :: o5 :: (.int n79_0_6) :: (.int n79_0_7) :: (.int y8) :: (.int n79_0_9) :: (.int n79_0_10) :: (.int n79_0_11) :: (.int n79_0_12) :: tl)) :: (y3, .inl (cs.2.1, 900, .inl f3)) :: (y4, .inl (cs.2.1, 1302, .inl f4)) :: X) H := hH
            refine W.widen (k := 0) (n := 0) (Nat.le_of_ble_eq_true rfl) (Nat.le_of_ble_eq_true rfl) ?_
            refine lv_istore_n (lv' := [(1, .int v79), (0, .ref a0)]) hx hb dX12_readLine_82 rfl hl (by decide) rfl (fun ls hl => ?_)
            have hki : v78.toInt = (((FR5 f4).1 : Nat) : Int) - 1 := by show v78.toInt = (((f4 1).toInt.toNat : Nat) : Int) - 1; rw [← tv76]; omega
            refine lv_aload_n hx hb dX12_readLine_83 rfl (lv_at hl 1 rfl) ?_
            refine x_getk (ci := 12) (C := RX12) (F := TX12) (N := 36) (v := .int n79_0_11) hx hb hts uX12 hown hkb hH 0 rfl rfl 11 (by decide) rfl kw_1234 (fun _ h9 => h9) dX12_readLine_84 ?_
            refine lv_if_ne (tgt := 98) hx hb dX12_readLine_87 (by decide) (fun c87 => ?_) (fun c87 => ?_)
            · skip
              have tc87 := f_ne (k := 0) (by decide) c87
              refine lv_goto (tgt := 142) hx hb dX12_readLine_98 (by decide) ?_
              exact te_v hx hb hr hlocks hH hS (⟨n79_0_6, n79_0_7, n79_0_9, n79_0_10, n79_0_11, n79_0_12, f4, rfl, s_f4, by omega, by omega, by omega, x_v793, by omega, by omega, (by first | (exact x_v97) | (exact x_v247) | (exact x_v397) | (exact x_v547) | (refine RGR.to (RGR.seq (F' := [(37, 0)]) (RGR_g ?_ x_v637.1 (GR_nx (fun _ => st_iB (R := FR5 f4) ?_) x_v637.2.1)) (TNK.rk x_v797 hki)) x_v951 <;> omega) | (refine RGR.seq (F' := [(37, 0)]) (RGR_g ?_ x_v637.1 (GR_nx (fun _ => st_iB (R := FR5 f4) ?_) x_v637.2.1)) (TNK.rk x_v797 hki) <;> omega) | (refine RGR.to (RGR.seq (F' := [(22, 999)]) (RGR_g ?_ x_v1047.1 (GR_nx (fun _ => st_iD (R := FR5 f4) ?_) x_v1047.2.1)) (RG.r (TNK.rg x_v1157 (by decide)))) (FR5_o eF133 (Or.inr (by decide))) <;> omega) | (refine RGR.seq (F' := [(22, 999)]) (RGR_g ?_ x_v1047.1 (GR_nx (fun _ => st_iD (R := FR5 f4) ?_) x_v1047.2.1)) (RG.r (TNK.rg x_v1157 (by decide))) <;> omega) | (exact RGR_f (R := FR5 f4) (m := 2) (G := []) x_v1391 hms (by decide) (by decide) (fun q9 _ => st_iN (by omega)))), (by first | exact x_v98 | exact x_v248 | exact x_v398 | exact x_v548 | exact x_v952 | (rw [eF133]; exact upd_ne (by decide)) | rfl)⟩) dX12_readLine_142
            · skip
              have tc87 := f_eq (k := 0) (by decide) c87
              have t1 := x_v796 tc87
              refine lv_aload_n hx hb dX12_readLine_90 rfl (lv_at hl 1 rfl) ?_
              refine x_getk (ci := 12) (C := RX12) (F := TX12) (N := 36) (v := .ref y4) hx hb hts uX12 hown hkb hH 0 rfl rfl 4 (by decide) rfl kw_1227 (fun _ h9 => h9) dX12_readLine_91 ?_
              refine lv_iload_n hx hb dX12_readLine_94 rfl (lv_at hl 0 rfl) ?_
              refine tk_v hH hS hA (tr_S (n := 2) (As := [.ref y4, .int v79]) hx hb hml hown hts hkb hH (ox_map hOX rfl) hks hE hS hA (s_M_breaksOfF l D cs kf T O X v79 o0 o1 o2 y3 y4 o5 n79_0_6 n79_0_7 y8 n79_0_9 n79_0_10 n79_0_11 n79_0_12 tl f3 f4 a0 hg mq (by omega) (by omega) t_y3 t_y4 (by omega) (by omega) (by omega) (by omega) (by omega) (by omega) (by omega) (by omega) s_f4 t_a0 b_hg (hO.sub (by decide))) kw_1443 kw_1444 kw_13 kw_1445 (by decide +kernel) ⟨Nat.le_of_ble_eq_true rfl, Nat.le_of_ble_eq_true rfl⟩ rfl rfl hl.1 (Nat.le_of_ble_eq_true rfl) dX12_readLine_95 ⟨Nat.le_of_ble_eq_true rfl, Nat.le_of_ble_eq_true rfl⟩) (fun u H locs hz9 hH hS => ?_)
              obtain ⟨F95_2, rfl, x_v950, x_v951, x_v952⟩ := hz9
              have s_F95_2 := x_v950
              have hH : HT D cs A T (a0 :: y3 :: y4 :: O) ((a0, .inr (12, o0 :: o1 :: o2 :: (.ref y3) :: (.ref y4) :: o5 :: (.int n79_0_6) :: (.int n79_0_7) :: (.int y8) :: (.int n79_0_9) :: (.int n79_0_10) :: (.int n79_0_11) :: (.int n79_0_12) :: tl)) :: (y3, .inl (cs.2.1, 900, .inl f3)) :: (y4, .inl (cs.2.1, 1302, .inl F95_2)) :: X) H := hH
              refine W.widen (k := 0) (n := 0) (Nat.le_of_ble_eq_true rfl) (Nat.le_of_ble_eq_true rfl) ?_
              refine lv_goto (tgt := 142) hx hb dX12_readLine_98 (by decide) ?_
              exact te_v hx hb hr hlocks hH hS (⟨n79_0_6, n79_0_7, n79_0_9, n79_0_10, n79_0_11, n79_0_12, F95_2, rfl, s_F95_2, by omega, by omega, by omega, x_v793, by omega, by omega, (by first | (exact x_v97) | (exact x_v247) | (exact x_v397) | (exact x_v547) | (refine RGR.to (RGR.seq (F' := [(37, 0)]) (RGR_g ?_ x_v637.1 (GR_nx (fun _ => st_iB (R := FR5 f4) ?_) x_v637.2.1)) (TNK.rk x_v797 hki)) x_v951 <;> omega) | (refine RGR.seq (F' := [(37, 0)]) (RGR_g ?_ x_v637.1 (GR_nx (fun _ => st_iB (R := FR5 f4) ?_) x_v637.2.1)) (TNK.rk x_v797 hki) <;> omega) | (refine RGR.to (RGR.seq (F' := [(22, 999)]) (RGR_g ?_ x_v1047.1 (GR_nx (fun _ => st_iD (R := FR5 f4) ?_) x_v1047.2.1)) (RG.r (TNK.rg x_v1157 (by decide)))) (FR5_o eF133 (Or.inr (by decide))) <;> omega) | (refine RGR.seq (F' := [(22, 999)]) (RGR_g ?_ x_v1047.1 (GR_nx (fun _ => st_iD (R := FR5 f4) ?_) x_v1047.2.1)) (RG.r (TNK.rg x_v1157 (by decide))) <;> omega) | (exact RGR_f (R := FR5 f4) (m := 2) (G := []) x_v1391 hms (by decide) (by decide) (fun q9 _ => st_iN (by omega)))), (by first | exact x_v98 | exact x_v248 | exact x_v398 | exact x_v548 | exact x_v952 | (rw [eF133]; exact upd_ne (by decide)) | rfl)⟩) dX12_readLine_142
        · skip
          have tc50 := f_ne (k := 0) (by decide) c50
          replace x_v470 := x_v470.resolve_left tc50
          clear x_v471
          refine lv_aload_n hx hb dX12_readLine_53 rfl (lv_at hl 0 rfl) ?_
          refine tk_v hH hS hA (tr_V (n := 0) (As := []) hx hb hml hown hts hkb hH (ox_map hOX rfl) hks hE hS hA (s_M_readUsed l D cs kf T O X a0 hg mq o0 o1 o2 y3 y4 o5 y6 y7 y8 y9 y10 y11 y12 tl f3 f4 t tn t_a0 b_hg t_y3 t_y4 (by omega) (by omega) (by omega) (by omega) (by omega) (by omega) (by omega) (by omega) s_f4 (by omega) htm (by omega) (by omega) k3 (by omega) (by omega) hms (by omega) (hO.sub (by decide))) kw_1436 kw_1438 ks_63 kw_13 kw_1439 (by decide +kernel) ⟨Nat.le_of_ble_eq_true rfl, Nat.le_of_ble_eq_true rfl⟩ (x_recv (ci := 12) hkb hH 0 rfl rfl) rfl rfl hl.1 (Nat.le_of_ble_eq_true rfl) dX12_readLine_54 ⟨Nat.le_of_ble_eq_true rfl, Nat.le_of_ble_eq_true rfl⟩) (fun u H locs hz9 hH hS => ?_)
          obtain ⟨n54_0_6, n54_0_7, n54_0_9, n54_0_10, n54_0_11, n54_0_12, F54_2, rfl, x_v540, x_v541, x_v542, x_v543, x_v544, x_v545, x_v546, x_v547, x_v548⟩ := hz9
          have s_F54_2 := x_v540
          have hH : HT D cs A T (a0 :: y3 :: y4 :: O) ((a0, .inr (12, o0 :: o1 :: o2 :: (.ref y3) :: (.ref y4) :: o5 :: (.int n54_0_6) :: (.int n54_0_7) :: (.int y8) :: (.int n54_0_9) :: (.int n54_0_10) :: (.int n54_0_11) :: (.int n54_0_12) :: tl)) :: (y3, .inl (cs.2.1, 900, .inl f3)) :: (y4, .inl (cs.2.1, 1302, .inl F54_2)) :: X) H := hH
          refine W.widen (k := 0) (n := 0) (Nat.le_of_ble_eq_true rfl) (Nat.le_of_ble_eq_true rfl) ?_
          refine lv_goto (tgt := 142) hx hb dX12_readLine_57 (by decide) ?_
          exact te_v hx hb hr hlocks hH hS (⟨n54_0_6, n54_0_7, n54_0_9, n54_0_10, n54_0_11, n54_0_12, F54_2, rfl, s_F54_2, by omega, by omega, by omega, x_v544, by omega, by omega, (by first | (exact x_v97) | (exact x_v247) | (exact x_v397) | (exact x_v547) | (refine RGR.to (RGR.seq (F' := [(37, 0)]) (RGR_g ?_ x_v637.1 (GR_nx (fun _ => st_iB (R := FR5 f4) ?_) x_v637.2.1)) (TNK.rk x_v797 hki)) x_v951 <;> omega) | (refine RGR.seq (F' := [(37, 0)]) (RGR_g ?_ x_v637.1 (GR_nx (fun _ => st_iB (R := FR5 f4) ?_) x_v637.2.1)) (TNK.rk x_v797 hki) <;> omega) | (refine RGR.to (RGR.seq (F' := [(22, 999)]) (RGR_g ?_ x_v1047.1 (GR_nx (fun _ => st_iD (R := FR5 f4) ?_) x_v1047.2.1)) (RG.r (TNK.rg x_v1157 (by decide)))) (FR5_o eF133 (Or.inr (by decide))) <;> omega) | (refine RGR.seq (F' := [(22, 999)]) (RGR_g ?_ x_v1047.1 (GR_nx (fun _ => st_iD (R := FR5 f4) ?_) x_v1047.2.1)) (RG.r (TNK.rg x_v1157 (by decide))) <;> omega) | (exact RGR_f (R := FR5 f4) (m := 2) (G := []) x_v1391 hms (by decide) (by decide) (fun q9 _ => st_iN (by omega)))), (by first | exact x_v98 | exact x_v248 | exact x_v398 | exact x_v548 | exact x_v952 | (rw [eF133]; exact upd_ne (by decide)) | rfl)⟩) dX12_readLine_142
      · skip
        have tc35 := f_ne (k := 0) (by decide) c35
        replace x_v320 := x_v320.resolve_left tc35
        clear x_v321
        refine lv_aload_n hx hb dX12_readLine_38 rfl (lv_at hl 0 rfl) ?_
        refine tk_v hH hS hA (tr_V (n := 0) (As := []) hx hb hml hown hts hkb hH (ox_map hOX rfl) hks hE hS hA (s_M_readStep l D cs kf T O X a0 hg mq o0 o1 o2 y3 y4 o5 y6 y7 y8 y9 y10 y11 y12 tl f3 f4 t tn t_a0 b_hg t_y3 t_y4 (by omega) (by omega) (by omega) (by omega) (by omega) (by omega) (by omega) (by omega) s_f4 (by omega) htm (by omega) (by omega) k3 (by omega) (by omega) hms (by omega) (hO.sub (by decide))) kw_1398 kw_1400 ks_54 kw_13 kw_1401 (by decide +kernel) ⟨Nat.le_of_ble_eq_true rfl, Nat.le_of_ble_eq_true rfl⟩ (x_recv (ci := 12) hkb hH 0 rfl rfl) rfl rfl hl.1 (Nat.le_of_ble_eq_true rfl) dX12_readLine_39 ⟨Nat.le_of_ble_eq_true rfl, Nat.le_of_ble_eq_true rfl⟩) (fun u H locs hz9 hH hS => ?_)
        obtain ⟨n39_0_6, n39_0_7, n39_0_9, n39_0_10, n39_0_11, n39_0_12, F39_2, rfl, x_v390, x_v391, x_v392, x_v393, x_v394, x_v395, x_v396, x_v397, x_v398⟩ := hz9
        have s_F39_2 := x_v390
        have hH : HT D cs A T (a0 :: y3 :: y4 :: O) ((a0, .inr (12, o0 :: o1 :: o2 :: (.ref y3) :: (.ref y4) :: o5 :: (.int n39_0_6) :: (.int n39_0_7) :: (.int y8) :: (.int n39_0_9) :: (.int n39_0_10) :: (.int n39_0_11) :: (.int n39_0_12) :: tl)) :: (y3, .inl (cs.2.1, 900, .inl f3)) :: (y4, .inl (cs.2.1, 1302, .inl F39_2)) :: X) H := hH
        refine W.widen (k := 0) (n := 0) (Nat.le_of_ble_eq_true rfl) (Nat.le_of_ble_eq_true rfl) ?_
        refine lv_goto (tgt := 142) hx hb dX12_readLine_42 (by decide) ?_
        exact te_v hx hb hr hlocks hH hS (⟨n39_0_6, n39_0_7, n39_0_9, n39_0_10, n39_0_11, n39_0_12, F39_2, rfl, s_F39_2, by omega, by omega, by omega, x_v394, by omega, by omega, (by first | (exact x_v97) | (exact x_v247) | (exact x_v397) | (exact x_v547) | (refine RGR.to (RGR.seq (F' := [(37, 0)]) (RGR_g ?_ x_v637.1 (GR_nx (fun _ => st_iB (R := FR5 f4) ?_) x_v637.2.1)) (TNK.rk x_v797 hki)) x_v951 <;> omega) | (refine RGR.seq (F' := [(37, 0)]) (RGR_g ?_ x_v637.1 (GR_nx (fun _ => st_iB (R := FR5 f4) ?_) x_v637.2.1)) (TNK.rk x_v797 hki) <;> omega) | (refine RGR.to (RGR.seq (F' := [(22, 999)]) (RGR_g ?_ x_v1047.1 (GR_nx (fun _ => st_iD (R := FR5 f4) ?_) x_v1047.2.1)) (RG.r (TNK.rg x_v1157 (by decide)))) (FR5_o eF133 (Or.inr (by decide))) <;> omega) | (refine RGR.seq (F' := [(22, 999)]) (RGR_g ?_ x_v1047.1 (GR_nx (fun _ => st_iD (R := FR5 f4) ?_) x_v1047.2.1)) (RG.r (TNK.rg x_v1157 (by decide))) <;> omega) | (exact RGR_f (R := FR5 f4) (m := 2) (G := []) x_v1391 hms (by decide) (by decide) (fun q9 _ => st_iN (by omega)))), (by first | exact x_v98 | exact x_v248 | exact x_v398 | exact x_v548 | exact x_v952 | (rw [eF133]; exact upd_ne (by decide)) | rfl)⟩) dX12_readLine_142
    · skip
      have tc20 := f_ne (k := 0) (by decide) c20
      replace x_v170 := x_v170.resolve_left tc20
      clear x_v171
      refine lv_aload_n hx hb dX12_readLine_23 rfl (lv_at hl 0 rfl) ?_
      refine tk_v hH hS hA (tr_V (n := 0) (As := []) hx hb hml hown hts hkb hH (ox_map hOX rfl) hks hE hS hA (s_M_readGuide l D cs kf T O X a0 hg mq o0 o1 o2 y3 y4 o5 y6 y7 y8 y9 y10 y11 y12 tl f3 f4 t tn t_a0 b_hg t_y3 t_y4 (by omega) (by omega) (by omega) (by omega) (by omega) (by omega) (by omega) (by omega) s_f4 (by omega) htm (by omega) (by omega) k3 (by omega) (by omega) hms (by omega) (hO.sub (by decide))) kw_1394 kw_1396 ks_53 kw_13 kw_1397 (by decide +kernel) ⟨Nat.le_of_ble_eq_true rfl, Nat.le_of_ble_eq_true rfl⟩ (x_recv (ci := 12) hkb hH 0 rfl rfl) rfl rfl hl.1 (Nat.le_of_ble_eq_true rfl) dX12_readLine_24 ⟨Nat.le_of_ble_eq_true rfl, Nat.le_of_ble_eq_true rfl⟩) (fun u H locs hz9 hH hS => ?_)
      obtain ⟨n24_0_6, n24_0_7, n24_0_9, n24_0_10, n24_0_11, n24_0_12, F24_2, rfl, x_v240, x_v241, x_v242, x_v243, x_v244, x_v245, x_v246, x_v247, x_v248⟩ := hz9
      have s_F24_2 := x_v240
      have hH : HT D cs A T (a0 :: y3 :: y4 :: O) ((a0, .inr (12, o0 :: o1 :: o2 :: (.ref y3) :: (.ref y4) :: o5 :: (.int n24_0_6) :: (.int n24_0_7) :: (.int y8) :: (.int n24_0_9) :: (.int n24_0_10) :: (.int n24_0_11) :: (.int n24_0_12) :: tl)) :: (y3, .inl (cs.2.1, 900, .inl f3)) :: (y4, .inl (cs.2.1, 1302, .inl F24_2)) :: X) H := hH
      refine W.widen (k := 0) (n := 0) (Nat.le_of_ble_eq_true rfl) (Nat.le_of_ble_eq_true rfl) ?_
      refine lv_goto (tgt := 142) hx hb dX12_readLine_27 (by decide) ?_
      exact te_v hx hb hr hlocks hH hS (⟨n24_0_6, n24_0_7, n24_0_9, n24_0_10, n24_0_11, n24_0_12, F24_2, rfl, s_F24_2, by omega, by omega, by omega, x_v244, by omega, by omega, (by first | (exact x_v97) | (exact x_v247) | (exact x_v397) | (exact x_v547) | (refine RGR.to (RGR.seq (F' := [(37, 0)]) (RGR_g ?_ x_v637.1 (GR_nx (fun _ => st_iB (R := FR5 f4) ?_) x_v637.2.1)) (TNK.rk x_v797 hki)) x_v951 <;> omega) | (refine RGR.seq (F' := [(37, 0)]) (RGR_g ?_ x_v637.1 (GR_nx (fun _ => st_iB (R := FR5 f4) ?_) x_v637.2.1)) (TNK.rk x_v797 hki) <;> omega) | (refine RGR.to (RGR.seq (F' := [(22, 999)]) (RGR_g ?_ x_v1047.1 (GR_nx (fun _ => st_iD (R := FR5 f4) ?_) x_v1047.2.1)) (RG.r (TNK.rg x_v1157 (by decide)))) (FR5_o eF133 (Or.inr (by decide))) <;> omega) | (refine RGR.seq (F' := [(22, 999)]) (RGR_g ?_ x_v1047.1 (GR_nx (fun _ => st_iD (R := FR5 f4) ?_) x_v1047.2.1)) (RG.r (TNK.rg x_v1157 (by decide))) <;> omega) | (exact RGR_f (R := FR5 f4) (m := 2) (G := []) x_v1391 hms (by decide) (by decide) (fun q9 _ => st_iN (by omega)))), (by first | exact x_v98 | exact x_v248 | exact x_v398 | exact x_v548 | exact x_v952 | (rw [eF133]; exact upd_ne (by decide)) | rfl)⟩) dX12_readLine_142
  · skip
    have tc5 := f_ne (k := 0) (by decide) c5
    replace x_v20 := x_v20.resolve_left tc5
    clear x_v21
    refine lv_aload_n hx hb dX12_readLine_8 rfl (lv_at hl 0 rfl) ?_
    refine tk_v hH hS hA (tr_V (n := 0) (As := []) hx hb hml hown hts hkb hH (ox_map hOX rfl) hks hE hS hA (s_M_readHold l D cs kf T O X a0 hg mq o0 o1 o2 y3 y4 o5 y6 y7 y8 y9 y10 y11 y12 tl f3 f4 t tn t_a0 b_hg t_y3 t_y4 (by omega) (by omega) (by omega) (by omega) (by omega) (by omega) (by omega) (by omega) s_f4 (by omega) htm (by omega) (by omega) k3 (by omega) (by omega) hms (by omega) (hO.sub (by decide))) kw_1374 kw_1376 ks_48 kw_13 kw_1377 (by decide +kernel) ⟨Nat.le_of_ble_eq_true rfl, Nat.le_of_ble_eq_true rfl⟩ (x_recv (ci := 12) hkb hH 0 rfl rfl) rfl rfl hl.1 (Nat.le_of_ble_eq_true rfl) dX12_readLine_9 ⟨Nat.le_of_ble_eq_true rfl, Nat.le_of_ble_eq_true rfl⟩) (fun u H locs hz9 hH hS => ?_)
    obtain ⟨n9_0_6, n9_0_7, n9_0_9, n9_0_10, n9_0_11, n9_0_12, F9_2, rfl, x_v90, x_v91, x_v92, x_v93, x_v94, x_v95, x_v96, x_v97, x_v98⟩ := hz9
    have s_F9_2 := x_v90
    have hH : HT D cs A T (a0 :: y3 :: y4 :: O) ((a0, .inr (12, o0 :: o1 :: o2 :: (.ref y3) :: (.ref y4) :: o5 :: (.int n9_0_6) :: (.int n9_0_7) :: (.int y8) :: (.int n9_0_9) :: (.int n9_0_10) :: (.int n9_0_11) :: (.int n9_0_12) :: tl)) :: (y3, .inl (cs.2.1, 900, .inl f3)) :: (y4, .inl (cs.2.1, 1302, .inl F9_2)) :: X) H := hH
    refine W.widen (k := 0) (n := 0) (Nat.le_of_ble_eq_true rfl) (Nat.le_of_ble_eq_true rfl) ?_
    refine lv_goto (tgt := 142) hx hb dX12_readLine_12 (by decide) ?_
    exact te_v hx hb hr hlocks hH hS (⟨n9_0_6, n9_0_7, n9_0_9, n9_0_10, n9_0_11, n9_0_12, F9_2, rfl, s_F9_2, by omega, by omega, by omega, x_v94, by omega, by omega, (by first | (exact x_v97) | (exact x_v247) | (exact x_v397) | (exact x_v547) | (refine RGR.to (RGR.seq (F' := [(37, 0)]) (RGR_g ?_ x_v637.1 (GR_nx (fun _ => st_iB (R := FR5 f4) ?_) x_v637.2.1)) (TNK.rk x_v797 hki)) x_v951 <;> omega) | (refine RGR.seq (F' := [(37, 0)]) (RGR_g ?_ x_v637.1 (GR_nx (fun _ => st_iB (R := FR5 f4) ?_) x_v637.2.1)) (TNK.rk x_v797 hki) <;> omega) | (refine RGR.to (RGR.seq (F' := [(22, 999)]) (RGR_g ?_ x_v1047.1 (GR_nx (fun _ => st_iD (R := FR5 f4) ?_) x_v1047.2.1)) (RG.r (TNK.rg x_v1157 (by decide)))) (FR5_o eF133 (Or.inr (by decide))) <;> omega) | (refine RGR.seq (F' := [(22, 999)]) (RGR_g ?_ x_v1047.1 (GR_nx (fun _ => st_iD (R := FR5 f4) ?_) x_v1047.2.1)) (RG.r (TNK.rg x_v1157 (by decide))) <;> omega) | (exact RGR_f (R := FR5 f4) (m := 2) (G := []) x_v1391 hms (by decide) (by decide) (fun q9 _ => st_iN (by omega)))), (by first | exact x_v98 | exact x_v248 | exact x_v398 | exact x_v548 | exact x_v952 | (rw [eF133]; exact upd_ne (by decide)) | rfl)⟩) dX12_readLine_142
/-! the reference's bits, its law's code -/
theorem or_ge {x y : Int32} (hx : 0 ≤ x.toInt) (hy : 0 ≤ y.toInt) : x.toInt ≤ (x ||| y).toInt := by
  obtain ⟨h1, h2⟩ := nn_i hx
  obtain ⟨h3, h4⟩ := nn_i hy
  have e : (x ||| y).toBitVec.toNat = x.toBitVec.toNat ||| y.toBitVec.toNat := by rw [Int32.toBitVec_or, BitVec.toNat_or]
  have g : x.toBitVec.toNat ||| y.toBitVec.toNat < 2 ^ 31 := Nat.or_lt_two_pow (by omega) (by omega)
  have hle : x.toBitVec.toNat ≤ x.toBitVec.toNat ||| y.toBitVec.toNat := Nat.left_le_or
  have := nn_of (x := x ||| y) (by omega)
  omega
/-- one number of the code further -/
theorem dpn_step {f : Nat → Int32} {p v c : Int32} (h0 : 0 ≤ p.toInt) (hv : v.toInt = p.toInt + 1) (hc : c = f (402 + p.toInt.toNat)) :
    (c.toInt < 3000 ∧ dpn f v.toInt.toNat = dpn f p.toInt.toNat + 1) ∨ (c.toInt = 3008 ∧ dpn f v.toInt.toNat = dpn f p.toInt.toNat) ∨ (3000 ≤ c.toInt ∧ c.toInt ≠ 3008 ∧ dpn f v.toInt.toNat = dpn f p.toInt.toNat - 1) := by
  have e : v.toInt.toNat = p.toInt.toNat + 1 := by omega
  have h : dpn f v.toInt.toNat = dpn f p.toInt.toNat + (if c.toInt < 3000 then 1 else if c.toInt = 3008 then 0 else -1) := by
    rw [e, hc]
    rfl
  rw [h]
  split
  · omega
  · split <;> omega
theorem dpn_at {f : Nat → Int32} {p c n : Int32} (hS : S8 f) (h0 : 0 ≤ p.toInt) (hn : n = f 401) (hlt : p.toInt < n.toInt) (hc : c = f (402 + p.toInt.toNat)) :
    (c.toInt < 3000 ∨ (1 ≤ dpn f p.toInt.toNat ∧ (c.toInt = 3008 ∨ 2 ≤ dpn f p.toInt.toNat))) ∧ 0 ≤ dpn f p.toInt.toNat ∧ dpn f p.toInt.toNat ≤ p.toInt := by
  have w := hS.2.2.2.2.2.2.2 p.toInt.toNat (by rw [← hn]; omega)
  have hnn := dpn_nn hS p.toInt.toNat (by unfold ncd; rw [← hn]; omega)
  have hle : ∀ k : Nat, dpn f k ≤ k := fun k => by
    induction k with
    | zero => exact Int.le_refl _
    | succ k ih =>
      unfold dpn
      split
      · omega
      · split <;> omega
  have := hle p.toInt.toNat
  rw [← hc] at w
  refine ⟨?_, hnn, by omega⟩
  by_cases q : c.toInt < 3000
  · exact Or.inl q
  · have := w (by omega)
    by_cases q2 : c.toInt = 3008
    · exact Or.inr ⟨this.1, Or.inl q2⟩
    · exact Or.inr ⟨this.1, Or.inr (this.2 q2)⟩
theorem B8.first {f : Nat → Int32} (h : B8 3906 f) : S8 f := by
  have := h 0 (by omega)
  simp only [Nat.zero_mul, Nat.zero_add] at this
  exact this
theorem dX12_count_0 : decode cX12_count 0 = .ok (.aload_n 0, 1) := by decide +kernel
theorem dX12_count_1 : decode cX12_count 1 = .ok (.iconst 0, 1) := by decide +kernel
theorem dX12_count_2 : decode cX12_count 2 = .ok (.putfield 1, 3) := by decide +kernel
theorem dX12_count_5 : decode cX12_count 5 = .ok (.iload_n 1, 1) := by decide +kernel
theorem dX12_count_6 : decode cX12_count 6 = .ok (.tableswitch 128 0 9 #[54, 61, 68, 76, 84, 89, 97, 105, 110, 117], 54) := by decide +kernel
theorem dX12_count_60 : decode cX12_count 60 = .ok (.aload_n 0, 1) := by decide +kernel
theorem dX12_count_61 : decode cX12_count 61 = .ok (.getfield 13, 3) := by decide +kernel
theorem dX12_count_64 : decode cX12_count 64 = .ok (.iconst 1, 1) := by decide +kernel
theorem dX12_count_65 : decode cX12_count 65 = .ok (.iaload, 1) := by decide +kernel
theorem dX12_count_66 : decode cX12_count 66 = .ok (.ireturn, 1) := by decide +kernel
theorem dX12_count_67 : decode cX12_count 67 = .ok (.aload_n 0, 1) := by decide +kernel
theorem dX12_count_68 : decode cX12_count 68 = .ok (.getfield 13, 3) := by decide +kernel
theorem dX12_count_71 : decode cX12_count 71 = .ok (.iconst 2, 1) := by decide +kernel
theorem dX12_count_72 : decode cX12_count 72 = .ok (.iaload, 1) := by decide +kernel
theorem dX12_count_73 : decode cX12_count 73 = .ok (.ireturn, 1) := by decide +kernel
theorem dX12_count_74 : decode cX12_count 74 = .ok (.aload_n 0, 1) := by decide +kernel
theorem dX12_count_75 : decode cX12_count 75 = .ok (.getfield 13, 3) := by decide +kernel
theorem dX12_count_78 : decode cX12_count 78 = .ok (.bipush 88, 2) := by decide +kernel
theorem dX12_count_80 : decode cX12_count 80 = .ok (.iaload, 1) := by decide +kernel
theorem dX12_count_81 : decode cX12_count 81 = .ok (.ireturn, 1) := by decide +kernel
theorem dX12_count_82 : decode cX12_count 82 = .ok (.aload_n 0, 1) := by decide +kernel
theorem dX12_count_83 : decode cX12_count 83 = .ok (.getfield 13, 3) := by decide +kernel
theorem dX12_count_86 : decode cX12_count 86 = .ok (.bipush 89, 2) := by decide +kernel
theorem dX12_count_88 : decode cX12_count 88 = .ok (.iaload, 1) := by decide +kernel
theorem dX12_count_89 : decode cX12_count 89 = .ok (.ireturn, 1) := by decide +kernel
theorem dX12_count_90 : decode cX12_count 90 = .ok (.aload_n 0, 1) := by decide +kernel
theorem dX12_count_91 : decode cX12_count 91 = .ok (.invokevirtual 315, 3) := by decide +kernel
theorem dX12_count_94 : decode cX12_count 94 = .ok (.ireturn, 1) := by decide +kernel
theorem dX12_count_95 : decode cX12_count 95 = .ok (.aload_n 0, 1) := by decide +kernel
theorem dX12_count_96 : decode cX12_count 96 = .ok (.invokevirtual 260, 3) := by decide +kernel
theorem dX12_count_99 : decode cX12_count 99 = .ok (.invokestatic 334, 3) := by decide +kernel
theorem dX12_count_102 : decode cX12_count 102 = .ok (.ireturn, 1) := by decide +kernel
theorem dX12_count_103 : decode cX12_count 103 = .ok (.aload_n 0, 1) := by decide +kernel
theorem dX12_count_104 : decode cX12_count 104 = .ok (.getfield 13, 3) := by decide +kernel
theorem dX12_count_107 : decode cX12_count 107 = .ok (.bipush 90, 2) := by decide +kernel
theorem dX12_count_109 : decode cX12_count 109 = .ok (.iaload, 1) := by decide +kernel
theorem dX12_count_110 : decode cX12_count 110 = .ok (.ireturn, 1) := by decide +kernel
theorem dX12_count_111 : decode cX12_count 111 = .ok (.aload_n 0, 1) := by decide +kernel
theorem dX12_count_112 : decode cX12_count 112 = .ok (.getfield 82, 3) := by decide +kernel
theorem dX12_count_115 : decode cX12_count 115 = .ok (.ireturn, 1) := by decide +kernel
theorem dX12_count_116 : decode cX12_count 116 = .ok (.aload_n 0, 1) := by decide +kernel
theorem dX12_count_117 : decode cX12_count 117 = .ok (.getfield 13, 3) := by decide +kernel
theorem dX12_count_120 : decode cX12_count 120 = .ok (.iconst 0, 1) := by decide +kernel
theorem dX12_count_121 : decode cX12_count 121 = .ok (.iaload, 1) := by decide +kernel
theorem dX12_count_122 : decode cX12_count 122 = .ok (.ireturn, 1) := by decide +kernel
theorem dX12_count_123 : decode cX12_count 123 = .ok (.aload_n 0, 1) := by decide +kernel
theorem dX12_count_124 : decode cX12_count 124 = .ok (.getfield 13, 3) := by decide +kernel
theorem dX12_count_127 : decode cX12_count 127 = .ok (.bipush 87, 2) := by decide +kernel
theorem dX12_count_129 : decode cX12_count 129 = .ok (.iaload, 1) := by decide +kernel
theorem dX12_count_130 : decode cX12_count 130 = .ok (.invokestatic 334, 3) := by decide +kernel
theorem dX12_count_133 : decode cX12_count 133 = .ok (.ireturn, 1) := by decide +kernel
theorem dX12_count_134 : decode cX12_count 134 = .ok (.iconst (-1), 1) := by decide +kernel
theorem dX12_count_135 : decode cX12_count 135 = .ok (.ireturn, 1) := by decide +kernel
theorem dX12_ends_0 : decode cX12_ends 0 = .ok (.aload_n 0, 1) := by decide +kernel
theorem dX12_ends_1 : decode cX12_ends 1 = .ok (.getfield 13, 3) := by decide +kernel
theorem dX12_ends_4 : decode cX12_ends 4 = .ok (.iconst 4, 1) := by decide +kernel
theorem dX12_ends_5 : decode cX12_ends 5 = .ok (.iaload, 1) := by decide +kernel
theorem dX12_ends_6 : decode cX12_ends 6 = .ok (.aload_n 0, 1) := by decide +kernel
theorem dX12_ends_7 : decode cX12_ends 7 = .ok (.getfield 13, 3) := by decide +kernel
theorem dX12_ends_10 : decode cX12_ends 10 = .ok (.iconst 5, 1) := by decide +kernel
theorem dX12_ends_11 : decode cX12_ends 11 = .ok (.iaload, 1) := by decide +kernel
theorem dX12_ends_12 : decode cX12_ends 12 = .ok (.ior, 1) := by decide +kernel
theorem dX12_ends_13 : decode cX12_ends 13 = .ok (.ireturn, 1) := by decide +kernel
theorem dX12_fault_0 : decode cX12_fault 0 = .ok (.aload_n 0, 1) := by decide +kernel
theorem dX12_fault_1 : decode cX12_fault 1 = .ok (.iconst 0, 1) := by decide +kernel
theorem dX12_fault_2 : decode cX12_fault 2 = .ok (.putfield 1, 3) := by decide +kernel
theorem dX12_fault_5 : decode cX12_fault 5 = .ok (.iload_n 1, 1) := by decide +kernel
theorem dX12_fault_6 : decode cX12_fault 6 = .ok (.ifCond .ne 10, 3) := by decide +kernel
theorem dX12_fault_9 : decode cX12_fault 9 = .ok (.aload_n 0, 1) := by decide +kernel
theorem dX12_fault_10 : decode cX12_fault 10 = .ok (.getfield 209, 3) := by decide +kernel
theorem dX12_fault_13 : decode cX12_fault 13 = .ok (.goto 16, 3) := by decide +kernel
theorem dX12_fault_16 : decode cX12_fault 16 = .ok (.iload_n 1, 1) := by decide +kernel
theorem dX12_fault_17 : decode cX12_fault 17 = .ok (.iconst 1, 1) := by decide +kernel
theorem dX12_fault_18 : decode cX12_fault 18 = .ok (.if_icmp .ne 10, 3) := by decide +kernel
theorem dX12_fault_21 : decode cX12_fault 21 = .ok (.aload_n 0, 1) := by decide +kernel
theorem dX12_fault_22 : decode cX12_fault 22 = .ok (.getfield 27, 3) := by decide +kernel
theorem dX12_fault_25 : decode cX12_fault 25 = .ok (.goto 4, 3) := by decide +kernel
theorem dX12_fault_28 : decode cX12_fault 28 = .ok (.iconst (-1), 1) := by decide +kernel
theorem dX12_fault_29 : decode cX12_fault 29 = .ok (.ireturn, 1) := by decide +kernel
theorem dX12_guide_0 : decode cX12_guide 0 = .ok (.aload_n 0, 1) := by decide +kernel
theorem dX12_guide_1 : decode cX12_guide 1 = .ok (.iconst 0, 1) := by decide +kernel
theorem dX12_guide_2 : decode cX12_guide 2 = .ok (.putfield 1, 3) := by decide +kernel
theorem dX12_guide_5 : decode cX12_guide 5 = .ok (.aload_n 0, 1) := by decide +kernel
theorem dX12_guide_6 : decode cX12_guide 6 = .ok (.iload_n 1, 1) := by decide +kernel
theorem dX12_guide_7 : decode cX12_guide 7 = .ok (.i2l, 1) := by decide +kernel
theorem dX12_guide_8 : decode cX12_guide 8 = .ok (.invokevirtual 222, 3) := by decide +kernel
theorem dX12_guide_11 : decode cX12_guide 11 = .ok (.ifCond .ne 6, 3) := by decide +kernel
theorem dX12_guide_14 : decode cX12_guide 14 = .ok (.bipush (-2), 2) := by decide +kernel
theorem dX12_guide_16 : decode cX12_guide 16 = .ok (.ireturn, 1) := by decide +kernel
theorem dX12_guide_17 : decode cX12_guide 17 = .ok (.iload_n 2, 1) := by decide +kernel
theorem dX12_guide_18 : decode cX12_guide 18 = .ok (.ifCond .ne 15, 3) := by decide +kernel
theorem dX12_guide_21 : decode cX12_guide 21 = .ok (.aload_n 0, 1) := by decide +kernel
theorem dX12_guide_22 : decode cX12_guide 22 = .ok (.getfield 13, 3) := by decide +kernel
theorem dX12_guide_25 : decode cX12_guide 25 = .ok (.bipush 49, 2) := by decide +kernel
theorem dX12_guide_27 : decode cX12_guide 27 = .ok (.iload_n 1, 1) := by decide +kernel
theorem dX12_guide_28 : decode cX12_guide 28 = .ok (.iadd, 1) := by decide +kernel
theorem dX12_guide_29 : decode cX12_guide 29 = .ok (.iaload, 1) := by decide +kernel
theorem dX12_guide_30 : decode cX12_guide 30 = .ok (.goto 35, 3) := by decide +kernel
theorem dX12_guide_33 : decode cX12_guide 33 = .ok (.iload_n 2, 1) := by decide +kernel
theorem dX12_guide_34 : decode cX12_guide 34 = .ok (.iconst 1, 1) := by decide +kernel
theorem dX12_guide_35 : decode cX12_guide 35 = .ok (.if_icmp .ne 15, 3) := by decide +kernel
theorem dX12_guide_38 : decode cX12_guide 38 = .ok (.aload_n 0, 1) := by decide +kernel
theorem dX12_guide_39 : decode cX12_guide 39 = .ok (.getfield 13, 3) := by decide +kernel
theorem dX12_guide_42 : decode cX12_guide 42 = .ok (.bipush 54, 2) := by decide +kernel
theorem dX12_guide_44 : decode cX12_guide 44 = .ok (.iload_n 1, 1) := by decide +kernel
theorem dX12_guide_45 : decode cX12_guide 45 = .ok (.iadd, 1) := by decide +kernel
theorem dX12_guide_46 : decode cX12_guide 46 = .ok (.iaload, 1) := by decide +kernel
theorem dX12_guide_47 : decode cX12_guide 47 = .ok (.goto 18, 3) := by decide +kernel
theorem dX12_guide_50 : decode cX12_guide 50 = .ok (.iload_n 2, 1) := by decide +kernel
theorem dX12_guide_51 : decode cX12_guide 51 = .ok (.iconst 2, 1) := by decide +kernel
theorem dX12_guide_52 : decode cX12_guide 52 = .ok (.if_icmp .ne 11, 3) := by decide +kernel
theorem dX12_guide_55 : decode cX12_guide 55 = .ok (.aload_n 0, 1) := by decide +kernel
theorem dX12_guide_56 : decode cX12_guide 56 = .ok (.iload_n 1, 1) := by decide +kernel
theorem dX12_guide_57 : decode cX12_guide 57 = .ok (.invokevirtual 225, 3) := by decide +kernel
theorem dX12_guide_60 : decode cX12_guide 60 = .ok (.goto 5, 3) := by decide +kernel
theorem dX12_guide_63 : decode cX12_guide 63 = .ok (.bipush (-2), 2) := by decide +kernel
theorem dX12_guide_65 : decode cX12_guide 65 = .ok (.ireturn, 1) := by decide +kernel
theorem dX12_hold_0 : decode cX12_hold 0 = .ok (.aload_n 0, 1) := by decide +kernel
theorem dX12_hold_1 : decode cX12_hold 1 = .ok (.iconst 0, 1) := by decide +kernel
theorem dX12_hold_2 : decode cX12_hold 2 = .ok (.putfield 1, 3) := by decide +kernel
theorem dX12_hold_5 : decode cX12_hold 5 = .ok (.aload_n 0, 1) := by decide +kernel
theorem dX12_hold_6 : decode cX12_hold 6 = .ok (.iload_n 1, 1) := by decide +kernel
theorem dX12_hold_7 : decode cX12_hold 7 = .ok (.i2l, 1) := by decide +kernel
theorem dX12_hold_8 : decode cX12_hold 8 = .ok (.invokevirtual 218, 3) := by decide +kernel
theorem dX12_hold_11 : decode cX12_hold 11 = .ok (.ifCond .ne 6, 3) := by decide +kernel
theorem dX12_hold_14 : decode cX12_hold 14 = .ok (.bipush (-8), 2) := by decide +kernel
theorem dX12_hold_16 : decode cX12_hold 16 = .ok (.ireturn, 1) := by decide +kernel
theorem dX12_hold_17 : decode cX12_hold 17 = .ok (.iload_n 2, 1) := by decide +kernel
theorem dX12_hold_18 : decode cX12_hold 18 = .ok (.tableswitch 193 0 9 #[54, 64, 74, 94, 114, 128, 142, 152, 162, 183], 54) := by decide +kernel
theorem dX12_hold_72 : decode cX12_hold 72 = .ok (.aload_n 0, 1) := by decide +kernel
theorem dX12_hold_73 : decode cX12_hold 73 = .ok (.getfield 13, 3) := by decide +kernel
theorem dX12_hold_76 : decode cX12_hold 76 = .ok (.bipush 7, 2) := by decide +kernel
theorem dX12_hold_78 : decode cX12_hold 78 = .ok (.iload_n 1, 1) := by decide +kernel
theorem dX12_hold_79 : decode cX12_hold 79 = .ok (.iadd, 1) := by decide +kernel
theorem dX12_hold_80 : decode cX12_hold 80 = .ok (.iaload, 1) := by decide +kernel
theorem dX12_hold_81 : decode cX12_hold 81 = .ok (.ireturn, 1) := by decide +kernel
theorem dX12_hold_82 : decode cX12_hold 82 = .ok (.aload_n 0, 1) := by decide +kernel
theorem dX12_hold_83 : decode cX12_hold 83 = .ok (.getfield 13, 3) := by decide +kernel
theorem dX12_hold_86 : decode cX12_hold 86 = .ok (.bipush 21, 2) := by decide +kernel
theorem dX12_hold_88 : decode cX12_hold 88 = .ok (.iload_n 1, 1) := by decide +kernel
theorem dX12_hold_89 : decode cX12_hold 89 = .ok (.iadd, 1) := by decide +kernel
theorem dX12_hold_90 : decode cX12_hold 90 = .ok (.iaload, 1) := by decide +kernel
theorem dX12_hold_91 : decode cX12_hold 91 = .ok (.ireturn, 1) := by decide +kernel
theorem dX12_hold_92 : decode cX12_hold 92 = .ok (.aload_n 0, 1) := by decide +kernel
theorem dX12_hold_93 : decode cX12_hold 93 = .ok (.getfield 13, 3) := by decide +kernel
theorem dX12_hold_96 : decode cX12_hold 96 = .ok (.iconst 4, 1) := by decide +kernel
theorem dX12_hold_97 : decode cX12_hold 97 = .ok (.iaload, 1) := by decide +kernel
theorem dX12_hold_98 : decode cX12_hold 98 = .ok (.i2l, 1) := by decide +kernel
theorem dX12_hold_99 : decode cX12_hold 99 = .ok (.iload_n 1, 1) := by decide +kernel
theorem dX12_hold_100 : decode cX12_hold 100 = .ok (.invokestatic 186, 3) := by decide +kernel
theorem dX12_hold_103 : decode cX12_hold 103 = .ok (.ifCond .eq 7, 3) := by decide +kernel
theorem dX12_hold_106 : decode cX12_hold 106 = .ok (.iconst 1, 1) := by decide +kernel
theorem dX12_hold_107 : decode cX12_hold 107 = .ok (.goto 4, 3) := by decide +kernel
theorem dX12_hold_110 : decode cX12_hold 110 = .ok (.iconst 0, 1) := by decide +kernel
theorem dX12_hold_111 : decode cX12_hold 111 = .ok (.ireturn, 1) := by decide +kernel
theorem dX12_hold_112 : decode cX12_hold 112 = .ok (.aload_n 0, 1) := by decide +kernel
theorem dX12_hold_113 : decode cX12_hold 113 = .ok (.getfield 13, 3) := by decide +kernel
theorem dX12_hold_116 : decode cX12_hold 116 = .ok (.iconst 5, 1) := by decide +kernel
theorem dX12_hold_117 : decode cX12_hold 117 = .ok (.iaload, 1) := by decide +kernel
theorem dX12_hold_118 : decode cX12_hold 118 = .ok (.i2l, 1) := by decide +kernel
theorem dX12_hold_119 : decode cX12_hold 119 = .ok (.iload_n 1, 1) := by decide +kernel
theorem dX12_hold_120 : decode cX12_hold 120 = .ok (.invokestatic 186, 3) := by decide +kernel
theorem dX12_hold_123 : decode cX12_hold 123 = .ok (.ifCond .eq 7, 3) := by decide +kernel
theorem dX12_hold_126 : decode cX12_hold 126 = .ok (.iconst 1, 1) := by decide +kernel
theorem dX12_hold_127 : decode cX12_hold 127 = .ok (.goto 4, 3) := by decide +kernel
theorem dX12_hold_130 : decode cX12_hold 130 = .ok (.iconst 0, 1) := by decide +kernel
theorem dX12_hold_131 : decode cX12_hold 131 = .ok (.ireturn, 1) := by decide +kernel
theorem dX12_hold_132 : decode cX12_hold 132 = .ok (.aload_n 0, 1) := by decide +kernel
theorem dX12_hold_133 : decode cX12_hold 133 = .ok (.iload_n 1, 1) := by decide +kernel
theorem dX12_hold_134 : decode cX12_hold 134 = .ok (.invokevirtual 212, 3) := by decide +kernel
theorem dX12_hold_137 : decode cX12_hold 137 = .ok (.ifCond .eq 7, 3) := by decide +kernel
theorem dX12_hold_140 : decode cX12_hold 140 = .ok (.iconst 1, 1) := by decide +kernel
theorem dX12_hold_141 : decode cX12_hold 141 = .ok (.goto 4, 3) := by decide +kernel
theorem dX12_hold_144 : decode cX12_hold 144 = .ok (.iconst 0, 1) := by decide +kernel
theorem dX12_hold_145 : decode cX12_hold 145 = .ok (.ireturn, 1) := by decide +kernel
theorem dX12_hold_146 : decode cX12_hold 146 = .ok (.aload_n 0, 1) := by decide +kernel
theorem dX12_hold_147 : decode cX12_hold 147 = .ok (.iload_n 1, 1) := by decide +kernel
theorem dX12_hold_148 : decode cX12_hold 148 = .ok (.invokevirtual 215, 3) := by decide +kernel
theorem dX12_hold_151 : decode cX12_hold 151 = .ok (.ifCond .eq 7, 3) := by decide +kernel
theorem dX12_hold_154 : decode cX12_hold 154 = .ok (.iconst 1, 1) := by decide +kernel
theorem dX12_hold_155 : decode cX12_hold 155 = .ok (.goto 4, 3) := by decide +kernel
theorem dX12_hold_158 : decode cX12_hold 158 = .ok (.iconst 0, 1) := by decide +kernel
theorem dX12_hold_159 : decode cX12_hold 159 = .ok (.ireturn, 1) := by decide +kernel
theorem dX12_hold_160 : decode cX12_hold 160 = .ok (.aload_n 0, 1) := by decide +kernel
theorem dX12_hold_161 : decode cX12_hold 161 = .ok (.getfield 13, 3) := by decide +kernel
theorem dX12_hold_164 : decode cX12_hold 164 = .ok (.bipush 59, 2) := by decide +kernel
theorem dX12_hold_166 : decode cX12_hold 166 = .ok (.iload_n 1, 1) := by decide +kernel
theorem dX12_hold_167 : decode cX12_hold 167 = .ok (.iadd, 1) := by decide +kernel
theorem dX12_hold_168 : decode cX12_hold 168 = .ok (.iaload, 1) := by decide +kernel
theorem dX12_hold_169 : decode cX12_hold 169 = .ok (.ireturn, 1) := by decide +kernel
theorem dX12_hold_170 : decode cX12_hold 170 = .ok (.aload_n 0, 1) := by decide +kernel
theorem dX12_hold_171 : decode cX12_hold 171 = .ok (.getfield 13, 3) := by decide +kernel
theorem dX12_hold_174 : decode cX12_hold 174 = .ok (.bipush 73, 2) := by decide +kernel
theorem dX12_hold_176 : decode cX12_hold 176 = .ok (.iload_n 1, 1) := by decide +kernel
theorem dX12_hold_177 : decode cX12_hold 177 = .ok (.iadd, 1) := by decide +kernel
theorem dX12_hold_178 : decode cX12_hold 178 = .ok (.iaload, 1) := by decide +kernel
theorem dX12_hold_179 : decode cX12_hold 179 = .ok (.ireturn, 1) := by decide +kernel
theorem dX12_hold_180 : decode cX12_hold 180 = .ok (.aload_n 0, 1) := by decide +kernel
theorem dX12_hold_181 : decode cX12_hold 181 = .ok (.getfield 13, 3) := by decide +kernel
theorem dX12_hold_184 : decode cX12_hold 184 = .ok (.bipush 87, 2) := by decide +kernel
theorem dX12_hold_186 : decode cX12_hold 186 = .ok (.iaload, 1) := by decide +kernel
theorem dX12_hold_187 : decode cX12_hold 187 = .ok (.i2l, 1) := by decide +kernel
theorem dX12_hold_188 : decode cX12_hold 188 = .ok (.iload_n 1, 1) := by decide +kernel
theorem dX12_hold_189 : decode cX12_hold 189 = .ok (.invokestatic 186, 3) := by decide +kernel
theorem dX12_hold_192 : decode cX12_hold 192 = .ok (.ifCond .eq 7, 3) := by decide +kernel
theorem dX12_hold_195 : decode cX12_hold 195 = .ok (.iconst 1, 1) := by decide +kernel
theorem dX12_hold_196 : decode cX12_hold 196 = .ok (.goto 4, 3) := by decide +kernel
theorem dX12_hold_199 : decode cX12_hold 199 = .ok (.iconst 0, 1) := by decide +kernel
theorem dX12_hold_200 : decode cX12_hold 200 = .ok (.ireturn, 1) := by decide +kernel
theorem dX12_hold_201 : decode cX12_hold 201 = .ok (.aload_n 0, 1) := by decide +kernel
theorem dX12_hold_202 : decode cX12_hold 202 = .ok (.getfield 13, 3) := by decide +kernel
theorem dX12_hold_205 : decode cX12_hold 205 = .ok (.bipush 35, 2) := by decide +kernel
theorem dX12_hold_207 : decode cX12_hold 207 = .ok (.iload_n 1, 1) := by decide +kernel
theorem dX12_hold_208 : decode cX12_hold 208 = .ok (.iadd, 1) := by decide +kernel
theorem dX12_hold_209 : decode cX12_hold 209 = .ok (.iaload, 1) := by decide +kernel
theorem dX12_hold_210 : decode cX12_hold 210 = .ok (.ireturn, 1) := by decide +kernel
theorem dX12_hold_211 : decode cX12_hold 211 = .ok (.bipush (-8), 2) := by decide +kernel
theorem dX12_hold_213 : decode cX12_hold 213 = .ok (.ireturn, 1) := by decide +kernel
theorem dX12_isGuide_0 : decode cX12_isGuide 0 = .ok (.lload_n 1, 1) := by decide +kernel
theorem dX12_isGuide_1 : decode cX12_isGuide 1 = .ok (.lconst 0, 1) := by decide +kernel
theorem dX12_isGuide_2 : decode cX12_isGuide 2 = .ok (.aload_n 0, 1) := by decide +kernel
theorem dX12_isGuide_3 : decode cX12_isGuide 3 = .ok (.getfield 13, 3) := by decide +kernel
theorem dX12_isGuide_6 : decode cX12_isGuide 6 = .ok (.iconst 2, 1) := by decide +kernel
theorem dX12_isGuide_7 : decode cX12_isGuide 7 = .ok (.iaload, 1) := by decide +kernel
theorem dX12_isGuide_8 : decode cX12_isGuide 8 = .ok (.iconst 1, 1) := by decide +kernel
theorem dX12_isGuide_9 : decode cX12_isGuide 9 = .ok (.isub, 1) := by decide +kernel
theorem dX12_isGuide_10 : decode cX12_isGuide 10 = .ok (.i2l, 1) := by decide +kernel
theorem dX12_isGuide_11 : decode cX12_isGuide 11 = .ok (.invokestatic 144, 3) := by decide +kernel
theorem dX12_isGuide_14 : decode cX12_isGuide 14 = .ok (.ireturn, 1) := by decide +kernel
theorem dX12_isHold_0 : decode cX12_isHold 0 = .ok (.lload_n 1, 1) := by decide +kernel
theorem dX12_isHold_1 : decode cX12_isHold 1 = .ok (.lconst 0, 1) := by decide +kernel
theorem dX12_isHold_2 : decode cX12_isHold 2 = .ok (.aload_n 0, 1) := by decide +kernel
theorem dX12_isHold_3 : decode cX12_isHold 3 = .ok (.getfield 13, 3) := by decide +kernel
theorem dX12_isHold_6 : decode cX12_isHold 6 = .ok (.iconst 1, 1) := by decide +kernel
theorem dX12_isHold_7 : decode cX12_isHold 7 = .ok (.iaload, 1) := by decide +kernel
theorem dX12_isHold_8 : decode cX12_isHold 8 = .ok (.iconst 1, 1) := by decide +kernel
theorem dX12_isHold_9 : decode cX12_isHold 9 = .ok (.isub, 1) := by decide +kernel
theorem dX12_isHold_10 : decode cX12_isHold 10 = .ok (.i2l, 1) := by decide +kernel
theorem dX12_isHold_11 : decode cX12_isHold 11 = .ok (.invokestatic 144, 3) := by decide +kernel
theorem dX12_isHold_14 : decode cX12_isHold 14 = .ok (.ireturn, 1) := by decide +kernel
theorem dX12_isOpen_0 : decode cX12_isOpen 0 = .ok (.aload_n 0, 1) := by decide +kernel
theorem dX12_isOpen_1 : decode cX12_isOpen 1 = .ok (.iload_n 1, 1) := by decide +kernel
theorem dX12_isOpen_2 : decode cX12_isOpen 2 = .ok (.invokevirtual 212, 3) := by decide +kernel
theorem dX12_isOpen_5 : decode cX12_isOpen 5 = .ok (.ifCond .eq 20, 3) := by decide +kernel
theorem dX12_isOpen_8 : decode cX12_isOpen 8 = .ok (.aload_n 0, 1) := by decide +kernel
theorem dX12_isOpen_9 : decode cX12_isOpen 9 = .ok (.getfield 13, 3) := by decide +kernel
theorem dX12_isOpen_12 : decode cX12_isOpen 12 = .ok (.bipush 59, 2) := by decide +kernel
theorem dX12_isOpen_14 : decode cX12_isOpen 14 = .ok (.iload_n 1, 1) := by decide +kernel
theorem dX12_isOpen_15 : decode cX12_isOpen 15 = .ok (.iadd, 1) := by decide +kernel
theorem dX12_isOpen_16 : decode cX12_isOpen 16 = .ok (.iaload, 1) := by decide +kernel
theorem dX12_isOpen_17 : decode cX12_isOpen 17 = .ok (.iconst (-1), 1) := by decide +kernel
theorem dX12_isOpen_18 : decode cX12_isOpen 18 = .ok (.if_icmp .ne 7, 3) := by decide +kernel
theorem dX12_isOpen_21 : decode cX12_isOpen 21 = .ok (.iconst 1, 1) := by decide +kernel
theorem dX12_isOpen_22 : decode cX12_isOpen 22 = .ok (.goto 4, 3) := by decide +kernel
theorem dX12_isOpen_25 : decode cX12_isOpen 25 = .ok (.iconst 0, 1) := by decide +kernel
theorem dX12_isOpen_26 : decode cX12_isOpen 26 = .ok (.ireturn, 1) := by decide +kernel
theorem dX12_isThere_0 : decode cX12_isThere 0 = .ok (.aload_n 0, 1) := by decide +kernel
theorem dX12_isThere_1 : decode cX12_isThere 1 = .ok (.getfield 13, 3) := by decide +kernel
theorem dX12_isThere_4 : decode cX12_isThere 4 = .ok (.bipush 87, 2) := by decide +kernel
theorem dX12_isThere_6 : decode cX12_isThere 6 = .ok (.iaload, 1) := by decide +kernel
theorem dX12_isThere_7 : decode cX12_isThere 7 = .ok (.i2l, 1) := by decide +kernel
theorem dX12_isThere_8 : decode cX12_isThere 8 = .ok (.iload_n 1, 1) := by decide +kernel
theorem dX12_isThere_9 : decode cX12_isThere 9 = .ok (.invokestatic 186, 3) := by decide +kernel
theorem dX12_isThere_12 : decode cX12_isThere 12 = .ok (.ifCond .ne 26, 3) := by decide +kernel
theorem dX12_isThere_15 : decode cX12_isThere 15 = .ok (.aload_n 0, 1) := by decide +kernel
theorem dX12_isThere_16 : decode cX12_isThere 16 = .ok (.getfield 13, 3) := by decide +kernel
theorem dX12_isThere_19 : decode cX12_isThere 19 = .ok (.bipush 88, 2) := by decide +kernel
theorem dX12_isThere_21 : decode cX12_isThere 21 = .ok (.iaload, 1) := by decide +kernel
theorem dX12_isThere_22 : decode cX12_isThere 22 = .ok (.aload_n 0, 1) := by decide +kernel
theorem dX12_isThere_23 : decode cX12_isThere 23 = .ok (.getfield 13, 3) := by decide +kernel
theorem dX12_isThere_26 : decode cX12_isThere 26 = .ok (.bipush 35, 2) := by decide +kernel
theorem dX12_isThere_28 : decode cX12_isThere 28 = .ok (.iload_n 1, 1) := by decide +kernel
theorem dX12_isThere_29 : decode cX12_isThere 29 = .ok (.iadd, 1) := by decide +kernel
theorem dX12_isThere_30 : decode cX12_isThere 30 = .ok (.iaload, 1) := by decide +kernel
theorem dX12_isThere_31 : decode cX12_isThere 31 = .ok (.if_icmp .lt 7, 3) := by decide +kernel
theorem dX12_isThere_34 : decode cX12_isThere 34 = .ok (.iconst 1, 1) := by decide +kernel
theorem dX12_isThere_35 : decode cX12_isThere 35 = .ok (.goto 4, 3) := by decide +kernel
theorem dX12_isThere_38 : decode cX12_isThere 38 = .ok (.iconst 0, 1) := by decide +kernel
theorem dX12_isThere_39 : decode cX12_isThere 39 = .ok (.ireturn, 1) := by decide +kernel
theorem dX12_openSet_0 : decode cX12_openSet 0 = .ok (.iconst 0, 1) := by decide +kernel
theorem dX12_openSet_1 : decode cX12_openSet 1 = .ok (.istore_n 1, 1) := by decide +kernel
theorem dX12_openSet_2 : decode cX12_openSet 2 = .ok (.iconst 0, 1) := by decide +kernel
theorem dX12_openSet_3 : decode cX12_openSet 3 = .ok (.istore_n 2, 1) := by decide +kernel
theorem dX12_openSet_4 : decode cX12_openSet 4 = .ok (.iload_n 2, 1) := by decide +kernel
theorem dX12_openSet_5 : decode cX12_openSet 5 = .ok (.aload_n 0, 1) := by decide +kernel
theorem dX12_openSet_6 : decode cX12_openSet 6 = .ok (.getfield 13, 3) := by decide +kernel
theorem dX12_openSet_9 : decode cX12_openSet 9 = .ok (.iconst 1, 1) := by decide +kernel
theorem dX12_openSet_10 : decode cX12_openSet 10 = .ok (.iaload, 1) := by decide +kernel
theorem dX12_openSet_11 : decode cX12_openSet 11 = .ok (.if_icmp .ge 27, 3) := by decide +kernel
theorem dX12_openSet_14 : decode cX12_openSet 14 = .ok (.iload_n 1, 1) := by decide +kernel
theorem dX12_openSet_15 : decode cX12_openSet 15 = .ok (.aload_n 0, 1) := by decide +kernel
theorem dX12_openSet_16 : decode cX12_openSet 16 = .ok (.iload_n 2, 1) := by decide +kernel
theorem dX12_openSet_17 : decode cX12_openSet 17 = .ok (.invokevirtual 215, 3) := by decide +kernel
theorem dX12_openSet_20 : decode cX12_openSet 20 = .ok (.ifCond .eq 9, 3) := by decide +kernel
theorem dX12_openSet_23 : decode cX12_openSet 23 = .ok (.iconst 1, 1) := by decide +kernel
theorem dX12_openSet_24 : decode cX12_openSet 24 = .ok (.iload_n 2, 1) := by decide +kernel
theorem dX12_openSet_25 : decode cX12_openSet 25 = .ok (.ishl, 1) := by decide +kernel
theorem dX12_openSet_26 : decode cX12_openSet 26 = .ok (.goto 4, 3) := by decide +kernel
theorem dX12_openSet_29 : decode cX12_openSet 29 = .ok (.iconst 0, 1) := by decide +kernel
theorem dX12_openSet_30 : decode cX12_openSet 30 = .ok (.ior, 1) := by decide +kernel
theorem dX12_openSet_31 : decode cX12_openSet 31 = .ok (.istore_n 1, 1) := by decide +kernel
theorem dX12_openSet_32 : decode cX12_openSet 32 = .ok (.iinc 2 1, 3) := by decide +kernel
theorem dX12_openSet_35 : decode cX12_openSet 35 = .ok (.goto (-31), 3) := by decide +kernel
theorem dX12_openSet_38 : decode cX12_openSet 38 = .ok (.iload_n 1, 1) := by decide +kernel
theorem dX12_openSet_39 : decode cX12_openSet 39 = .ok (.ireturn, 1) := by decide +kernel
theorem dX12_thereSet_0 : decode cX12_thereSet 0 = .ok (.iconst 0, 1) := by decide +kernel
theorem dX12_thereSet_1 : decode cX12_thereSet 1 = .ok (.istore_n 1, 1) := by decide +kernel
theorem dX12_thereSet_2 : decode cX12_thereSet 2 = .ok (.iconst 0, 1) := by decide +kernel
theorem dX12_thereSet_3 : decode cX12_thereSet 3 = .ok (.istore_n 2, 1) := by decide +kernel
theorem dX12_thereSet_4 : decode cX12_thereSet 4 = .ok (.iload_n 2, 1) := by decide +kernel
theorem dX12_thereSet_5 : decode cX12_thereSet 5 = .ok (.aload_n 0, 1) := by decide +kernel
theorem dX12_thereSet_6 : decode cX12_thereSet 6 = .ok (.getfield 13, 3) := by decide +kernel
theorem dX12_thereSet_9 : decode cX12_thereSet 9 = .ok (.iconst 1, 1) := by decide +kernel
theorem dX12_thereSet_10 : decode cX12_thereSet 10 = .ok (.iaload, 1) := by decide +kernel
theorem dX12_thereSet_11 : decode cX12_thereSet 11 = .ok (.if_icmp .ge 27, 3) := by decide +kernel
theorem dX12_thereSet_14 : decode cX12_thereSet 14 = .ok (.iload_n 1, 1) := by decide +kernel
theorem dX12_thereSet_15 : decode cX12_thereSet 15 = .ok (.aload_n 0, 1) := by decide +kernel
theorem dX12_thereSet_16 : decode cX12_thereSet 16 = .ok (.iload_n 2, 1) := by decide +kernel
theorem dX12_thereSet_17 : decode cX12_thereSet 17 = .ok (.invokevirtual 212, 3) := by decide +kernel
theorem dX12_thereSet_20 : decode cX12_thereSet 20 = .ok (.ifCond .eq 9, 3) := by decide +kernel
theorem dX12_thereSet_23 : decode cX12_thereSet 23 = .ok (.iconst 1, 1) := by decide +kernel
theorem dX12_thereSet_24 : decode cX12_thereSet 24 = .ok (.iload_n 2, 1) := by decide +kernel
theorem dX12_thereSet_25 : decode cX12_thereSet 25 = .ok (.ishl, 1) := by decide +kernel
theorem dX12_thereSet_26 : decode cX12_thereSet 26 = .ok (.goto 4, 3) := by decide +kernel
theorem dX12_thereSet_29 : decode cX12_thereSet 29 = .ok (.iconst 0, 1) := by decide +kernel
theorem dX12_thereSet_30 : decode cX12_thereSet 30 = .ok (.ior, 1) := by decide +kernel
theorem dX12_thereSet_31 : decode cX12_thereSet 31 = .ok (.istore_n 1, 1) := by decide +kernel
theorem dX12_thereSet_32 : decode cX12_thereSet 32 = .ok (.iinc 2 1, 3) := by decide +kernel
theorem dX12_thereSet_35 : decode cX12_thereSet 35 = .ok (.goto (-31), 3) := by decide +kernel
theorem dX12_thereSet_38 : decode cX12_thereSet 38 = .ok (.iload_n 1, 1) := by decide +kernel
theorem dX12_thereSet_39 : decode cX12_thereSet 39 = .ok (.ireturn, 1) := by decide +kernel
theorem dX12_usedBy_0 : decode cX12_usedBy 0 = .ok (.iconst 0, 1) := by decide +kernel
theorem dX12_usedBy_1 : decode cX12_usedBy 1 = .ok (.istore_n 2, 1) := by decide +kernel
theorem dX12_usedBy_2 : decode cX12_usedBy 2 = .ok (.iconst 0, 1) := by decide +kernel
theorem dX12_usedBy_3 : decode cX12_usedBy 3 = .ok (.istore_n 3, 1) := by decide +kernel
theorem dX12_usedBy_4 : decode cX12_usedBy 4 = .ok (.iload_n 3, 1) := by decide +kernel
theorem dX12_usedBy_5 : decode cX12_usedBy 5 = .ok (.aload_n 0, 1) := by decide +kernel
theorem dX12_usedBy_6 : decode cX12_usedBy 6 = .ok (.getfield 13, 3) := by decide +kernel
theorem dX12_usedBy_9 : decode cX12_usedBy 9 = .ok (.iconst 1, 1) := by decide +kernel
theorem dX12_usedBy_10 : decode cX12_usedBy 10 = .ok (.iaload, 1) := by decide +kernel
theorem dX12_usedBy_11 : decode cX12_usedBy 11 = .ok (.if_icmp .ge 32, 3) := by decide +kernel
theorem dX12_usedBy_14 : decode cX12_usedBy 14 = .ok (.iload_n 2, 1) := by decide +kernel
theorem dX12_usedBy_15 : decode cX12_usedBy 15 = .ok (.aload_n 0, 1) := by decide +kernel
theorem dX12_usedBy_16 : decode cX12_usedBy 16 = .ok (.getfield 13, 3) := by decide +kernel
theorem dX12_usedBy_19 : decode cX12_usedBy 19 = .ok (.bipush 59, 2) := by decide +kernel
theorem dX12_usedBy_21 : decode cX12_usedBy 21 = .ok (.iload_n 3, 1) := by decide +kernel
theorem dX12_usedBy_22 : decode cX12_usedBy 22 = .ok (.iadd, 1) := by decide +kernel
theorem dX12_usedBy_23 : decode cX12_usedBy 23 = .ok (.iaload, 1) := by decide +kernel
theorem dX12_usedBy_24 : decode cX12_usedBy 24 = .ok (.iload_n 1, 1) := by decide +kernel
theorem dX12_usedBy_25 : decode cX12_usedBy 25 = .ok (.if_icmp .ne 9, 3) := by decide +kernel
theorem dX12_usedBy_28 : decode cX12_usedBy 28 = .ok (.iconst 1, 1) := by decide +kernel
theorem dX12_usedBy_29 : decode cX12_usedBy 29 = .ok (.iload_n 3, 1) := by decide +kernel
theorem dX12_usedBy_30 : decode cX12_usedBy 30 = .ok (.ishl, 1) := by decide +kernel
theorem dX12_usedBy_31 : decode cX12_usedBy 31 = .ok (.goto 4, 3) := by decide +kernel
theorem dX12_usedBy_34 : decode cX12_usedBy 34 = .ok (.iconst 0, 1) := by decide +kernel
theorem dX12_usedBy_35 : decode cX12_usedBy 35 = .ok (.ior, 1) := by decide +kernel
theorem dX12_usedBy_36 : decode cX12_usedBy 36 = .ok (.istore_n 2, 1) := by decide +kernel
theorem dX12_usedBy_37 : decode cX12_usedBy 37 = .ok (.iinc 3 1, 3) := by decide +kernel
theorem dX12_usedBy_40 : decode cX12_usedBy 40 = .ok (.goto (-36), 3) := by decide +kernel
theorem dX12_usedBy_43 : decode cX12_usedBy 43 = .ok (.iload_n 2, 1) := by decide +kernel
theorem dX12_usedBy_44 : decode cX12_usedBy 44 = .ok (.ireturn, 1) := by decide +kernel
theorem dX12_usedMany_0 : decode cX12_usedMany 0 = .ok (.iconst 0, 1) := by decide +kernel
theorem dX12_usedMany_1 : decode cX12_usedMany 1 = .ok (.istore_n 1, 1) := by decide +kernel
theorem dX12_usedMany_2 : decode cX12_usedMany 2 = .ok (.iconst 0, 1) := by decide +kernel
theorem dX12_usedMany_3 : decode cX12_usedMany 3 = .ok (.istore_n 2, 1) := by decide +kernel
theorem dX12_usedMany_4 : decode cX12_usedMany 4 = .ok (.iload_n 2, 1) := by decide +kernel
theorem dX12_usedMany_5 : decode cX12_usedMany 5 = .ok (.aload_n 0, 1) := by decide +kernel
theorem dX12_usedMany_6 : decode cX12_usedMany 6 = .ok (.getfield 13, 3) := by decide +kernel
theorem dX12_usedMany_9 : decode cX12_usedMany 9 = .ok (.iconst 1, 1) := by decide +kernel
theorem dX12_usedMany_10 : decode cX12_usedMany 10 = .ok (.iaload, 1) := by decide +kernel
theorem dX12_usedMany_11 : decode cX12_usedMany 11 = .ok (.if_icmp .ge 30, 3) := by decide +kernel
theorem dX12_usedMany_14 : decode cX12_usedMany 14 = .ok (.iload_n 1, 1) := by decide +kernel
theorem dX12_usedMany_15 : decode cX12_usedMany 15 = .ok (.aload_n 0, 1) := by decide +kernel
theorem dX12_usedMany_16 : decode cX12_usedMany 16 = .ok (.getfield 13, 3) := by decide +kernel
theorem dX12_usedMany_19 : decode cX12_usedMany 19 = .ok (.bipush 59, 2) := by decide +kernel
theorem dX12_usedMany_21 : decode cX12_usedMany 21 = .ok (.iload_n 2, 1) := by decide +kernel
theorem dX12_usedMany_22 : decode cX12_usedMany 22 = .ok (.iadd, 1) := by decide +kernel
theorem dX12_usedMany_23 : decode cX12_usedMany 23 = .ok (.iaload, 1) := by decide +kernel
theorem dX12_usedMany_24 : decode cX12_usedMany 24 = .ok (.iconst (-1), 1) := by decide +kernel
theorem dX12_usedMany_25 : decode cX12_usedMany 25 = .ok (.if_icmp .ne 7, 3) := by decide +kernel
theorem dX12_usedMany_28 : decode cX12_usedMany 28 = .ok (.iconst 0, 1) := by decide +kernel
theorem dX12_usedMany_29 : decode cX12_usedMany 29 = .ok (.goto 4, 3) := by decide +kernel
theorem dX12_usedMany_32 : decode cX12_usedMany 32 = .ok (.iconst 1, 1) := by decide +kernel
theorem dX12_usedMany_33 : decode cX12_usedMany 33 = .ok (.iadd, 1) := by decide +kernel
theorem dX12_usedMany_34 : decode cX12_usedMany 34 = .ok (.istore_n 1, 1) := by decide +kernel
theorem dX12_usedMany_35 : decode cX12_usedMany 35 = .ok (.iinc 2 1, 3) := by decide +kernel
theorem dX12_usedMany_38 : decode cX12_usedMany 38 = .ok (.goto (-34), 3) := by decide +kernel
theorem dX12_usedMany_41 : decode cX12_usedMany 41 = .ok (.iload_n 1, 1) := by decide +kernel
theorem dX12_usedMany_42 : decode cX12_usedMany 42 = .ok (.ireturn, 1) := by decide +kernel
theorem kw_1223 : Cond.fieldLink "FootholdWallModel" 1 "FootholdWallModel" "thrown" "I" ∈ gw := gw_of (tb_of 1223 (by decide +kernel)) (by decide +kernel)
theorem kw_1224 : Cond.fieldLink "FootholdWallModel" 13 "FootholdWallModel" "all" "[I" ∈ gw := gw_of (tb_of 1224 (by decide +kernel)) (by decide +kernel)
theorem kw_1228 : Cond.fieldLink "FootholdWallModel" 82 "FootholdWallModel" "taped" "I" ∈ gw := gw_of (tb_of 1228 (by decide +kernel)) (by decide +kernel)
theorem kw_1236 : Cond.fieldLink "FootholdWallModel" 209 "FootholdWallModel" "faultKind" "I" ∈ gw := gw_of (tb_of 1236 (by decide +kernel)) (by decide +kernel)
theorem kw_1237 : Cond.fieldLink "FootholdWallModel" 27 "FootholdWallModel" "faultPlace" "I" ∈ gw := gw_of (tb_of 1237 (by decide +kernel)) (by decide +kernel)
theorem kw_1454 : Cond.methodLink "FootholdWallModel" 218 yX12_isHold ∈ gw := gw_of (tb_of 1454 (by decide +kernel)) (by decide +kernel)
theorem kw_1456 : Cond.instanceMethod yX12_isHold ∈ gw := gw_of (tb_of 1456 (by decide +kernel)) (by decide +kernel)
theorem kw_1457 : Cond.code yX12_isHold cX12_isHold 3 (some (.boolean)) ∈ gw := gw_of (tb_of 1457 (by decide +kernel)) (by decide +kernel)
theorem kw_1458 : Cond.methodLink "FootholdWallModel" 212 yX12_isThere ∈ gw := gw_of (tb_of 1458 (by decide +kernel)) (by decide +kernel)
theorem kw_1460 : Cond.instanceMethod yX12_isThere ∈ gw := gw_of (tb_of 1460 (by decide +kernel)) (by decide +kernel)
theorem kw_1461 : Cond.code yX12_isThere cX12_isThere 2 (some (.boolean)) ∈ gw := gw_of (tb_of 1461 (by decide +kernel)) (by decide +kernel)
theorem kw_1462 : Cond.methodLink "FootholdWallModel" 215 yX12_isOpen ∈ gw := gw_of (tb_of 1462 (by decide +kernel)) (by decide +kernel)
theorem kw_1464 : Cond.instanceMethod yX12_isOpen ∈ gw := gw_of (tb_of 1464 (by decide +kernel)) (by decide +kernel)
theorem kw_1465 : Cond.code yX12_isOpen cX12_isOpen 2 (some (.boolean)) ∈ gw := gw_of (tb_of 1465 (by decide +kernel)) (by decide +kernel)
theorem kw_1470 : Cond.methodLink "FootholdWallModel" 222 yX12_isGuide ∈ gw := gw_of (tb_of 1470 (by decide +kernel)) (by decide +kernel)
theorem kw_1472 : Cond.instanceMethod yX12_isGuide ∈ gw := gw_of (tb_of 1472 (by decide +kernel)) (by decide +kernel)
theorem kw_1473 : Cond.code yX12_isGuide cX12_isGuide 3 (some (.boolean)) ∈ gw := gw_of (tb_of 1473 (by decide +kernel)) (by decide +kernel)
theorem kw_1474 : Cond.methodLink "FootholdWallModel" 225 yX12_usedBy ∈ gw := gw_of (tb_of 1474 (by decide +kernel)) (by decide +kernel)
theorem kw_1476 : Cond.instanceMethod yX12_usedBy ∈ gw := gw_of (tb_of 1476 (by decide +kernel)) (by decide +kernel)
theorem kw_1477 : Cond.code yX12_usedBy cX12_usedBy 4 (some (.int)) ∈ gw := gw_of (tb_of 1477 (by decide +kernel)) (by decide +kernel)
theorem kw_1510 : Cond.methodLink "FootholdWallModel" 260 yX12_openSet ∈ gw := gw_of (tb_of 1510 (by decide +kernel)) (by decide +kernel)
theorem kw_1512 : Cond.instanceMethod yX12_openSet ∈ gw := gw_of (tb_of 1512 (by decide +kernel)) (by decide +kernel)
theorem kw_1513 : Cond.code yX12_openSet cX12_openSet 3 (some (.int)) ∈ gw := gw_of (tb_of 1513 (by decide +kernel)) (by decide +kernel)
theorem kw_1594 : Cond.methodLink "FootholdWallModel" 315 yX12_usedMany ∈ gw := gw_of (tb_of 1594 (by decide +kernel)) (by decide +kernel)
theorem kw_1596 : Cond.instanceMethod yX12_usedMany ∈ gw := gw_of (tb_of 1596 (by decide +kernel)) (by decide +kernel)
theorem kw_1597 : Cond.code yX12_usedMany cX12_usedMany 3 (some (.int)) ∈ gw := gw_of (tb_of 1597 (by decide +kernel)) (by decide +kernel)
theorem kw_1631 : Cond.methodLink "FootholdWallModel" 334 yX12_bitsOf ∈ gw := gw_of (tb_of 1631 (by decide +kernel)) (by decide +kernel)
theorem kw_1632 : Cond.static yX12_bitsOf ∈ gw := gw_of (tb_of 1632 (by decide +kernel)) (by decide +kernel)
theorem kw_1633 : Cond.code yX12_bitsOf cX12_bitsOf 3 (some (.int)) ∈ gw := gw_of (tb_of 1633 (by decide +kernel)) (by decide +kernel)
theorem ks_64 : Cond.selects RX12 yX12_isHold yX12_isHold ∈ gw := gw_of (pv_of 64 (by decide +kernel)) (by decide +kernel)
theorem ks_65 : Cond.selects RX12 yX12_isThere yX12_isThere ∈ gw := gw_of (pv_of 65 (by decide +kernel)) (by decide +kernel)
theorem ks_66 : Cond.selects RX12 yX12_isOpen yX12_isOpen ∈ gw := gw_of (pv_of 66 (by decide +kernel)) (by decide +kernel)
theorem ks_67 : Cond.selects RX12 yX12_isGuide yX12_isGuide ∈ gw := gw_of (pv_of 67 (by decide +kernel)) (by decide +kernel)
theorem ks_68 : Cond.selects RX12 yX12_usedBy yX12_usedBy ∈ gw := gw_of (pv_of 68 (by decide +kernel)) (by decide +kernel)
theorem ks_73 : Cond.selects RX12 yX12_openSet yX12_openSet ∈ gw := gw_of (pv_of 73 (by decide +kernel)) (by decide +kernel)
theorem ks_86 : Cond.selects RX12 yX12_usedMany yX12_usedMany ∈ gw := gw_of (pv_of 86 (by decide +kernel)) (by decide +kernel)
set_option maxHeartbeats 4000000 in
set_option maxRecDepth 100000 in
theorem s_M_isHold (l : Launch) (D : va_G) (cs : CS) (kf : KF) (T : TF) (O : List Nat) (X : va_W) (a0 hg mq : Nat) (x1 : Int64) (t_a0 : T a0 = some (22, hg, mq)) (b_hg : hg < 90) (hO : okO T O [8, 22]) : TK l D cs kf yX12_isHold cX12_isHold 3 (some (.boolean)) { frames := 1, cells := 0, slots := 0, locals := 25 } [.ref a0, .long x1] T O X (Ti D cs (fun r u => u = (T, O, X) ∧ 0 ≤ r.toInt ∧ r.toInt ≤ 1 ∧ (r.toInt = 0 ∨ (0 ≤ x1.toInt ∧ x1.toInt ≤ 13)))) := by
  refine tk_of (by decide) (Nat.le_of_ble_eq_true rfl) (fun p e s m below meth c ls A H locs hx hb hr hml hown hts hlocks hnm hkb hH hS hA hOX hks hE hl => ?_)
  have hown : s.vm.findClass RX12 = some m.cls := hown
  have hl : lv_has ls 3 [(0, .ref a0), (1, .long x1)] := hl
  refine lv_lload_n hx hb dX12_isHold_0 rfl (lv_at hl 1 rfl) ?_
  refine lv_lconst (v := 0) hx hb dX12_isHold_1 (by decide) ?_
  refine lv_aload_n hx hb dX12_isHold_2 rfl (lv_at hl 0 rfl) ?_
  refine t_get (ci := 12) (lst := ft12 hg mq) (C := RX12) (F := TX12) (N := 36) hx hb hts uX12 hown hkb hH t_a0 (hO.no t_a0 (by decide)) (fun _ h9 => h9) rfl rfl 1 (by decide) rfl kw_1224 (fun _ h9 => h9) dX12_isHold_3 (fun v9 h9 => ?_)
  obtain ⟨v3, rfl, t_v3⟩ := h9
  refine lv_iconst (v := 1) hx hb dX12_isHold_6 (by decide) ?_
  refine t_ild8 hx hb hkb hH t_v3 (hO.no t_v3 (by decide)) (by decide) (by decide) (by decide) dX12_isHold_7 (fun v7 h9 h8 => ?_)
  have q9 := (h8 rfl).1 rfl
  subst q9
  have eH9 : (nI (hg / 6)).toInt = (((hg / 6) : Nat) : Int) := nI_toInt (by omega)
  refine lv_iconst (v := 1) hx hb dX12_isHold_8 (by decide) ?_
  refine lv_isub hx hb dX12_isHold_9 ?_
  refine lv_topi (fun v9 ev9 => ?_)
  have tv9 : v9.toInt = (nI (hg / 6)).toInt - (1) := by rw [ev9]; exact sub_i rfl (by decide : (1 : Int32).toInt = 1) (by omega) (by omega)
  refine lv_i2l hx hb dX12_isHold_10 rfl ?_
  refine tk_i hH hS hA (tr_S (n := 3) (As := [.long x1, .long 0, .long v9.toInt64]) hx hb hml hown hts hkb hH hOX hks hE hS hA (s_M_within l D cs kf T O X x1 0 v9.toInt64  (hO.sub (by decide))) kw_1341 kw_1342 kw_13 kw_1343 (by decide +kernel) ⟨Nat.le_of_ble_eq_true rfl, Nat.le_of_ble_eq_true rfl⟩ rfl rfl hl.1 (Nat.le_of_ble_eq_true rfl) dX12_isHold_11 ⟨Nat.le_of_ble_eq_true rfl, Nat.le_of_ble_eq_true rfl⟩) (fun v11 u H locs hz9 hH hS => ?_)
  obtain ⟨rfl, l_v11, u_v11, x_v110, x_v111⟩ := hz9
  simp only [Int32.toInt_toInt64] at x_v110 x_v111
  have k9_0 : (0 : Int64).toInt = 0 := by decide
  have hH : HT D cs A T O X H := hH
  refine W.widen (k := 0) (n := 0) (Nat.le_of_ble_eq_true rfl) (Nat.le_of_ble_eq_true rfl) ?_
  exact te_z hx hb hr hlocks (nar01 (by omega) (by omega)) hH hS (⟨rfl, by omega, by omega, by omega⟩) dX12_isHold_14
set_option maxHeartbeats 4000000 in
set_option maxRecDepth 100000 in
theorem s_M_isGuide (l : Launch) (D : va_G) (cs : CS) (kf : KF) (T : TF) (O : List Nat) (X : va_W) (a0 hg mq : Nat) (x1 : Int64) (t_a0 : T a0 = some (22, hg, mq)) (b_hg : hg < 90) (hO : okO T O [8, 22]) : TK l D cs kf yX12_isGuide cX12_isGuide 3 (some (.boolean)) { frames := 1, cells := 0, slots := 0, locals := 25 } [.ref a0, .long x1] T O X (Ti D cs (fun r u => u = (T, O, X) ∧ 0 ≤ r.toInt ∧ r.toInt ≤ 1 ∧ (r.toInt = 0 ∨ (0 ≤ x1.toInt ∧ x1.toInt ≤ 4)))) := by
  refine tk_of (by decide) (Nat.le_of_ble_eq_true rfl) (fun p e s m below meth c ls A H locs hx hb hr hml hown hts hlocks hnm hkb hH hS hA hOX hks hE hl => ?_)
  have hown : s.vm.findClass RX12 = some m.cls := hown
  have hl : lv_has ls 3 [(0, .ref a0), (1, .long x1)] := hl
  refine lv_lload_n hx hb dX12_isGuide_0 rfl (lv_at hl 1 rfl) ?_
  refine lv_lconst (v := 0) hx hb dX12_isGuide_1 (by decide) ?_
  refine lv_aload_n hx hb dX12_isGuide_2 rfl (lv_at hl 0 rfl) ?_
  refine t_get (ci := 12) (lst := ft12 hg mq) (C := RX12) (F := TX12) (N := 36) hx hb hts uX12 hown hkb hH t_a0 (hO.no t_a0 (by decide)) (fun _ h9 => h9) rfl rfl 1 (by decide) rfl kw_1224 (fun _ h9 => h9) dX12_isGuide_3 (fun v9 h9 => ?_)
  obtain ⟨v3, rfl, t_v3⟩ := h9
  refine lv_iconst (v := 2) hx hb dX12_isGuide_6 (by decide) ?_
  refine t_ild8 hx hb hkb hH t_v3 (hO.no t_v3 (by decide)) (by decide) (by decide) (by decide) dX12_isGuide_7 (fun v7 h9 h8 => ?_)
  have q9 := (h8 rfl).2 rfl
  subst q9
  have eG9 : (nI (hg % 6)).toInt = (((hg % 6) : Nat) : Int) := nI_toInt (by omega)
  refine lv_iconst (v := 1) hx hb dX12_isGuide_8 (by decide) ?_
  refine lv_isub hx hb dX12_isGuide_9 ?_
  refine lv_topi (fun v9 ev9 => ?_)
  have tv9 : v9.toInt = (nI (hg % 6)).toInt - (1) := by rw [ev9]; exact sub_i rfl (by decide : (1 : Int32).toInt = 1) (by omega) (by omega)
  refine lv_i2l hx hb dX12_isGuide_10 rfl ?_
  refine tk_i hH hS hA (tr_S (n := 3) (As := [.long x1, .long 0, .long v9.toInt64]) hx hb hml hown hts hkb hH hOX hks hE hS hA (s_M_within l D cs kf T O X x1 0 v9.toInt64  (hO.sub (by decide))) kw_1341 kw_1342 kw_13 kw_1343 (by decide +kernel) ⟨Nat.le_of_ble_eq_true rfl, Nat.le_of_ble_eq_true rfl⟩ rfl rfl hl.1 (Nat.le_of_ble_eq_true rfl) dX12_isGuide_11 ⟨Nat.le_of_ble_eq_true rfl, Nat.le_of_ble_eq_true rfl⟩) (fun v11 u H locs hz9 hH hS => ?_)
  obtain ⟨rfl, l_v11, u_v11, x_v110, x_v111⟩ := hz9
  simp only [Int32.toInt_toInt64] at x_v110 x_v111
  have k9_0 : (0 : Int64).toInt = 0 := by decide
  have hH : HT D cs A T O X H := hH
  refine W.widen (k := 0) (n := 0) (Nat.le_of_ble_eq_true rfl) (Nat.le_of_ble_eq_true rfl) ?_
  exact te_z hx hb hr hlocks (nar01 (by omega) (by omega)) hH hS (⟨rfl, by omega, by omega, by omega⟩) dX12_isGuide_14
set_option maxHeartbeats 4000000 in
set_option maxRecDepth 100000 in
theorem s_M_isThere (l : Launch) (D : va_G) (cs : CS) (kf : KF) (T : TF) (O : List Nat) (X : va_W) (a0 hg mq : Nat) (x1 : Int32) (t_a0 : T a0 = some (22, hg, mq)) (b_hg : hg < 90) (l_x1 : 0 ≤ x1.toInt) (u_x1 : x1.toInt ≤ 13) (hO : okO T O [8, 22]) : TK l D cs kf yX12_isThere cX12_isThere 2 (some (.boolean)) { frames := 1, cells := 0, slots := 0, locals := 22 } [.ref a0, .int x1] T O X (Ti D cs (fun r u => u = (T, O, X) ∧ 0 ≤ r.toInt ∧ r.toInt ≤ 1)) := by
  refine tk_of (by decide) (Nat.le_of_ble_eq_true rfl) (fun p e s m below meth c ls A H locs hx hb hr hml hown hts hlocks hnm hkb hH hS hA hOX hks hE hl => ?_)
  have hown : s.vm.findClass RX12 = some m.cls := hown
  have hl : lv_has ls 2 [(0, .ref a0), (1, .int x1)] := hl
  refine lv_aload_n hx hb dX12_isThere_0 rfl (lv_at hl 0 rfl) ?_
  refine t_get (ci := 12) (lst := ft12 hg mq) (C := RX12) (F := TX12) (N := 36) hx hb hts uX12 hown hkb hH t_a0 (hO.no t_a0 (by decide)) (fun _ h9 => h9) rfl rfl 1 (by decide) rfl kw_1224 (fun _ h9 => h9) dX12_isThere_1 (fun v9 h9 => ?_)
  obtain ⟨v1, rfl, t_v1⟩ := h9
  refine lv_bipush (v := 87) hx hb dX12_isThere_4 (by decide) ?_
  refine t_ild8 hx hb hkb hH t_v1 (hO.no t_v1 (by decide)) (by decide) (by decide) (by decide) dX12_isThere_6 (fun v6 h9 h8 => ?_)
  refine lv_i2l hx hb dX12_isThere_7 rfl ?_
  refine lv_iload_n hx hb dX12_isThere_8 rfl (lv_at hl 1 rfl) ?_
  refine tk_i hH hS hA (tr_S (n := 2) (As := [.long v6.toInt64, .int x1]) hx hb hml hown hts hkb hH hOX hks hE hS hA (s_M_isIn2 l D cs kf T O X v6.toInt64 x1  (hO.sub (by decide))) kw_1440 kw_1441 kw_13 kw_1442 (by decide +kernel) ⟨Nat.le_of_ble_eq_true rfl, Nat.le_of_ble_eq_true rfl⟩ rfl rfl hl.1 (Nat.le_of_ble_eq_true rfl) dX12_isThere_9 ⟨Nat.le_of_ble_eq_true rfl, Nat.le_of_ble_eq_true rfl⟩) (fun v9 u H locs hz9 hH hS => ?_)
  obtain ⟨rfl, l_v9, u_v9, x_v90⟩ := hz9
  have hH : HT D cs A T O X H := hH
  refine W.widen (k := 0) (n := 0) (Nat.le_of_ble_eq_true rfl) (Nat.le_of_ble_eq_true rfl) ?_
  have J39 : ∀ (k39_0 : Int32) (H : Heap) (locs : List Loc) (ls : Array Slot), (0 ≤ k39_0.toInt) → (k39_0.toInt ≤ 1) → HT D cs A T O X H → va_S A s.heap H locs → lv_has ls 2 [] → W p l e { frames := 1, cells := 0, slots := 0, locals := 22 } s m [.ref a0, .int x1].toArray below meth c H locs 0 0 (MQ below (Ti D cs (fun r u => u = (T, O, X) ∧ 0 ≤ r.toInt ∧ r.toInt ≤ 1) A) [.ref a0, .int x1].toArray s 0 0 A) (F0 m 39 ls [.int k39_0]) := by
    intro k39_0 H locs ls l_k39_0 u_k39_0 hH hS hl
    exact te_z hx hb hr hlocks (nar01 (by omega) (by omega)) hH hS (⟨rfl, by omega, by omega⟩) dX12_isThere_39
  have J38 : ∀  (H : Heap) (locs : List Loc) (ls : Array Slot), HT D cs A T O X H → va_S A s.heap H locs → lv_has ls 2 [] → W p l e { frames := 1, cells := 0, slots := 0, locals := 22 } s m [.ref a0, .int x1].toArray below meth c H locs 0 0 (MQ below (Ti D cs (fun r u => u = (T, O, X) ∧ 0 ≤ r.toInt ∧ r.toInt ≤ 1) A) [.ref a0, .int x1].toArray s 0 0 A) (F0 m 38 ls []) := by
    intro  H locs ls  hH hS hl
    refine lv_iconst (v := 0) hx hb dX12_isThere_38 (by decide) ?_
    exact J39 0 _ _ _ (by decide) (by decide) hH hS (lv_sub hl [] rfl)
  refine lv_if_ne (tgt := 38) hx hb dX12_isThere_12 (by decide) (fun c12 => ?_) (fun c12 => ?_)
  · skip
    have tc12 := f_ne (k := 0) (by decide) c12
    exact J38  _ _ _  hH hS (lv_sub hl [] rfl)
  · skip
    have tc12 := f_eq (k := 0) (by decide) c12
    refine lv_aload_n hx hb dX12_isThere_15 rfl (lv_at hl 0 rfl) ?_
    refine t_get (ci := 12) (lst := ft12 hg mq) (C := RX12) (F := TX12) (N := 36) hx hb hts uX12 hown hkb hH t_a0 (hO.no t_a0 (by decide)) (fun _ h9 => h9) rfl rfl 1 (by decide) rfl kw_1224 (fun _ h9 => h9) dX12_isThere_16 (fun v9 h9 => ?_)
    obtain ⟨v16, rfl, t_v16⟩ := h9
    refine lv_bipush (v := 88) hx hb dX12_isThere_19 (by decide) ?_
    refine t_ild8 hx hb hkb hH t_v16 (hO.no t_v16 (by decide)) (by decide) (by decide) (by decide) dX12_isThere_21 (fun v21 h9 h8 => ?_)
    refine lv_aload_n hx hb dX12_isThere_22 rfl (lv_at hl 0 rfl) ?_
    refine t_get (ci := 12) (lst := ft12 hg mq) (C := RX12) (F := TX12) (N := 36) hx hb hts uX12 hown hkb hH t_a0 (hO.no t_a0 (by decide)) (fun _ h9 => h9) rfl rfl 1 (by decide) rfl kw_1224 (fun _ h9 => h9) dX12_isThere_23 (fun v9 h9 => ?_)
    obtain ⟨v23, rfl, t_v23⟩ := h9
    refine lv_bipush (v := 35) hx hb dX12_isThere_26 (by decide) ?_
    refine lv_iload_n hx hb dX12_isThere_28 rfl (lv_at hl 1 rfl) ?_
    refine lv_iadd hx hb dX12_isThere_29 ?_
    refine lv_topi (fun v29 ev29 => ?_)
    have tv29 : v29.toInt = (35) + x1.toInt := by rw [ev29]; exact add_i (by decide : (35 : Int32).toInt = 35) rfl (by omega) (by omega)
    refine t_ild8 hx hb hkb hH t_v23 (hO.no t_v23 (by decide)) (by decide) (by omega) (by omega) dX12_isThere_30 (fun v30 h9 h8 => ?_)
    refine lv_icmp_lt (tgt := 38) hx hb dX12_isThere_31 (by decide) (fun c31 => ?_) (fun c31 => ?_)
    · skip
      have fuc31 := full_i v21
      have fvc31 := full_i v30
      have tc31 := g_lt c31
      exact J38  _ _ _  hH hS (lv_sub hl [] rfl)
    · skip
      have fuc31 := full_i v21
      have fvc31 := full_i v30
      have tc31 := g_nlt c31
      refine lv_iconst (v := 1) hx hb dX12_isThere_34 (by decide) ?_
      refine lv_goto (tgt := 39) hx hb dX12_isThere_35 (by decide) ?_
      exact J39 1 _ _ _ (by decide) (by decide) hH hS (lv_sub hl [] rfl)
set_option maxHeartbeats 4000000 in
set_option maxRecDepth 100000 in
theorem s_M_isOpen (l : Launch) (D : va_G) (cs : CS) (kf : KF) (T : TF) (O : List Nat) (X : va_W) (a0 hg mq : Nat) (x1 : Int32) (t_a0 : T a0 = some (22, hg, mq)) (b_hg : hg < 90) (l_x1 : 0 ≤ x1.toInt) (u_x1 : x1.toInt ≤ 13) (hO : okO T O [8, 22]) : TK l D cs kf yX12_isOpen cX12_isOpen 2 (some (.boolean)) { frames := 2, cells := 0, slots := 0, locals := 43 } [.ref a0, .int x1] T O X (Ti D cs (fun r u => u = (T, O, X) ∧ 0 ≤ r.toInt ∧ r.toInt ≤ 1)) := by
  refine tk_of (by decide) (Nat.le_of_ble_eq_true rfl) (fun p e s m below meth c ls A H locs hx hb hr hml hown hts hlocks hnm hkb hH hS hA hOX hks hE hl => ?_)
  have hown : s.vm.findClass RX12 = some m.cls := hown
  have hl : lv_has ls 2 [(0, .ref a0), (1, .int x1)] := hl
  refine lv_aload_n hx hb dX12_isOpen_0 rfl (lv_at hl 0 rfl) ?_
  refine lv_iload_n hx hb dX12_isOpen_1 rfl (lv_at hl 1 rfl) ?_
  refine tk_i hH hS hA (tr_V (n := 1) (As := [.int x1]) hx hb hml hown hts hkb hH hOX hks hE hS hA (s_M_isThere l D cs kf T O X a0 hg mq x1 t_a0 b_hg (by omega) (by omega) (hO.sub (by decide))) kw_1458 kw_1460 ks_65 kw_13 kw_1461 (by decide +kernel) ⟨Nat.le_of_ble_eq_true rfl, Nat.le_of_ble_eq_true rfl⟩ (HT.recv (ci := 12) hkb hH t_a0 (hO.no t_a0 (by decide)) rfl) rfl rfl hl.1 (Nat.le_of_ble_eq_true rfl) dX12_isOpen_2 ⟨Nat.le_of_ble_eq_true rfl, Nat.le_of_ble_eq_true rfl⟩) (fun v2 u H locs hz9 hH hS => ?_)
  obtain ⟨rfl, l_v2, u_v2⟩ := hz9
  have hH : HT D cs A T O X H := hH
  refine W.widen (k := 0) (n := 0) (Nat.le_of_ble_eq_true rfl) (Nat.le_of_ble_eq_true rfl) ?_
  have J26 : ∀ (k26_0 : Int32) (H : Heap) (locs : List Loc) (ls : Array Slot), (0 ≤ k26_0.toInt) → (k26_0.toInt ≤ 1) → HT D cs A T O X H → va_S A s.heap H locs → lv_has ls 2 [] → W p l e { frames := 2, cells := 0, slots := 0, locals := 43 } s m [.ref a0, .int x1].toArray below meth c H locs 0 0 (MQ below (Ti D cs (fun r u => u = (T, O, X) ∧ 0 ≤ r.toInt ∧ r.toInt ≤ 1) A) [.ref a0, .int x1].toArray s 0 0 A) (F0 m 26 ls [.int k26_0]) := by
    intro k26_0 H locs ls l_k26_0 u_k26_0 hH hS hl
    exact te_z hx hb hr hlocks (nar01 (by omega) (by omega)) hH hS (⟨rfl, by omega, by omega⟩) dX12_isOpen_26
  have J25 : ∀  (H : Heap) (locs : List Loc) (ls : Array Slot), HT D cs A T O X H → va_S A s.heap H locs → lv_has ls 2 [] → W p l e { frames := 2, cells := 0, slots := 0, locals := 43 } s m [.ref a0, .int x1].toArray below meth c H locs 0 0 (MQ below (Ti D cs (fun r u => u = (T, O, X) ∧ 0 ≤ r.toInt ∧ r.toInt ≤ 1) A) [.ref a0, .int x1].toArray s 0 0 A) (F0 m 25 ls []) := by
    intro  H locs ls  hH hS hl
    refine lv_iconst (v := 0) hx hb dX12_isOpen_25 (by decide) ?_
    exact J26 0 _ _ _ (by decide) (by decide) hH hS (lv_sub hl [] rfl)
  refine lv_if_eq (tgt := 25) hx hb dX12_isOpen_5 (by decide) (fun c5 => ?_) (fun c5 => ?_)
  · skip
    have tc5 := f_eq (k := 0) (by decide) c5
    exact J25  _ _ _  hH hS (lv_sub hl [] rfl)
  · skip
    have tc5 := f_ne (k := 0) (by decide) c5
    refine lv_aload_n hx hb dX12_isOpen_8 rfl (lv_at hl 0 rfl) ?_
    refine t_get (ci := 12) (lst := ft12 hg mq) (C := RX12) (F := TX12) (N := 36) hx hb hts uX12 hown hkb hH t_a0 (hO.no t_a0 (by decide)) (fun _ h9 => h9) rfl rfl 1 (by decide) rfl kw_1224 (fun _ h9 => h9) dX12_isOpen_9 (fun v9 h9 => ?_)
    obtain ⟨v9, rfl, t_v9⟩ := h9
    refine lv_bipush (v := 59) hx hb dX12_isOpen_12 (by decide) ?_
    refine lv_iload_n hx hb dX12_isOpen_14 rfl (lv_at hl 1 rfl) ?_
    refine lv_iadd hx hb dX12_isOpen_15 ?_
    refine lv_topi (fun v15 ev15 => ?_)
    have tv15 : v15.toInt = (59) + x1.toInt := by rw [ev15]; exact add_i (by decide : (59 : Int32).toInt = 59) rfl (by omega) (by omega)
    refine t_ild8 hx hb hkb hH t_v9 (hO.no t_v9 (by decide)) (by decide) (by omega) (by omega) dX12_isOpen_16 (fun v16 h9 h8 => ?_)
    refine lv_iconst (v := (-1)) hx hb dX12_isOpen_17 (by decide) ?_
    refine lv_icmp_ne (tgt := 25) hx hb dX12_isOpen_18 (by decide) (fun c18 => ?_) (fun c18 => ?_)
    · skip
      have tc18 := f_ne (k := -1) (by decide) c18
      exact J25  _ _ _  hH hS (lv_sub hl [] rfl)
    · skip
      have tc18 := f_eq (k := -1) (by decide) c18
      refine lv_iconst (v := 1) hx hb dX12_isOpen_21 (by decide) ?_
      refine lv_goto (tgt := 26) hx hb dX12_isOpen_22 (by decide) ?_
      exact J26 1 _ _ _ (by decide) (by decide) hH hS (lv_sub hl [] rfl)
set_option maxHeartbeats 4000000 in
set_option maxRecDepth 100000 in
theorem s_M_openSet (l : Launch) (D : va_G) (cs : CS) (kf : KF) (T : TF) (O : List Nat) (X : va_W) (a0 hg mq : Nat) (t_a0 : T a0 = some (22, hg, mq)) (b_hg : hg < 90) (hO : okO T O [8, 22]) : TK l D cs kf yX12_openSet cX12_openSet 3 (some (.int)) { frames := 3, cells := 0, slots := 0, locals := 64 } [.ref a0] T O X (Ti D cs (fun r u => u = (T, O, X) ∧ 0 ≤ r.toInt ∧ r.toInt ≤ 16383)) := by
  refine tk_of (by decide) (Nat.le_of_ble_eq_true rfl) (fun p e s m below meth c ls A H locs hx hb hr hml hown hts hlocks hnm hkb hH hS hA hOX hks hE hl => ?_)
  have hown : s.vm.findClass RX12 = some m.cls := hown
  have hl : lv_has ls 3 [(0, .ref a0)] := hl
  refine lv_iconst (v := 0) hx hb dX12_openSet_0 (by decide) ?_
  refine lv_istore_n (lv' := [(1, .int 0), (0, .ref a0)]) hx hb dX12_openSet_1 rfl hl (by decide) rfl (fun ls hl => ?_)
  refine lv_iconst (v := 0) hx hb dX12_openSet_2 (by decide) ?_
  have J4 : ∀ (n : Nat) (p4_2 : Int32) (p4_1 : Int32) (H : Heap) (locs : List Loc) (ls : Array Slot), (14 - p4_2.toInt).toNat = n → (0 ≤ p4_2.toInt) → (p4_2.toInt ≤ 14) → (0 ≤ p4_1.toInt) → (p4_1.toInt ≤ 16383) → HT D cs A T O X H → va_S A s.heap H locs → lv_has ls 3 [(2, .int p4_2), (1, .int p4_1), (0, .ref a0)] → W p l e { frames := 3, cells := 0, slots := 0, locals := 64 } s m [.ref a0].toArray below meth c H locs 0 0 (MQ below (Ti D cs (fun r u => u = (T, O, X) ∧ 0 ≤ r.toInt ∧ r.toInt ≤ 16383) A) [.ref a0].toArray s 0 0 A) (F0 m 4 ls []) := by
    intro n
    induction n using Nat.strongRecOn with
    | _ n ih4 =>
      intro p4_2 p4_1 H locs ls hm4 l_p4_2 u_p4_2 l_p4_1 u_p4_1 hH hS hl
      refine lv_iload_n hx hb dX12_openSet_4 rfl (lv_at hl 0 rfl) ?_
      refine lv_aload_n hx hb dX12_openSet_5 rfl (lv_at hl 2 rfl) ?_
      refine t_get (ci := 12) (lst := ft12 hg mq) (C := RX12) (F := TX12) (N := 36) hx hb hts uX12 hown hkb hH t_a0 (hO.no t_a0 (by decide)) (fun _ h9 => h9) rfl rfl 1 (by decide) rfl kw_1224 (fun _ h9 => h9) dX12_openSet_6 (fun v9 h9 => ?_)
      obtain ⟨v6, rfl, t_v6⟩ := h9
      refine lv_iconst (v := 1) hx hb dX12_openSet_9 (by decide) ?_
      refine t_ild8 hx hb hkb hH t_v6 (hO.no t_v6 (by decide)) (by decide) (by decide) (by decide) dX12_openSet_10 (fun v10 h9 h8 => ?_)
      have q9 := (h8 rfl).1 rfl
      subst q9
      have eH9 : (nI (hg / 6)).toInt = (((hg / 6) : Nat) : Int) := nI_toInt (by omega)
      refine lv_icmp_ge (tgt := 38) hx hb dX12_openSet_11 (by decide) (fun c11 => ?_) (fun c11 => ?_)
      · skip
        have fuc11 := full_i p4_2
        have fvc11 := full_i (nI (hg / 6))
        have tc11 := g_le c11
        refine lv_iload_n hx hb dX12_openSet_38 rfl (lv_at hl 1 rfl) ?_
        exact te_i hx hb hr hlocks hH hS (⟨rfl, by omega, by omega⟩) dX12_openSet_39
      · skip
        have fuc11 := full_i p4_2
        have fvc11 := full_i (nI (hg / 6))
        have tc11 := g_nle c11
        refine lv_iload_n hx hb dX12_openSet_14 rfl (lv_at hl 1 rfl) ?_
        refine lv_aload_n hx hb dX12_openSet_15 rfl (lv_at hl 2 rfl) ?_
        refine lv_iload_n hx hb dX12_openSet_16 rfl (lv_at hl 0 rfl) ?_
        refine tk_i hH hS hA (tr_V (n := 1) (As := [.int p4_2]) hx hb hml hown hts hkb hH hOX hks hE hS hA (s_M_isOpen l D cs kf T O X a0 hg mq p4_2 t_a0 b_hg (by omega) (by omega) (hO.sub (by decide))) kw_1462 kw_1464 ks_66 kw_13 kw_1465 (by decide +kernel) ⟨Nat.le_of_ble_eq_true rfl, Nat.le_of_ble_eq_true rfl⟩ (HT.recv (ci := 12) hkb hH t_a0 (hO.no t_a0 (by decide)) rfl) rfl rfl hl.1 (Nat.le_of_ble_eq_true rfl) dX12_openSet_17 ⟨Nat.le_of_ble_eq_true rfl, Nat.le_of_ble_eq_true rfl⟩) (fun v17 u H locs hz9 hH hS => ?_)
        obtain ⟨rfl, l_v17, u_v17⟩ := hz9
        have hH : HT D cs A T O X H := hH
        refine W.widen (k := 0) (n := 0) (Nat.le_of_ble_eq_true rfl) (Nat.le_of_ble_eq_true rfl) ?_
        have J30 : ∀ (k30_0 : Int32) (H : Heap) (locs : List Loc) (ls : Array Slot), (0 ≤ k30_0.toInt) → (k30_0.toInt ≤ 8192) → HT D cs A T O X H → va_S A s.heap H locs → lv_has ls 3 [(2, .int p4_2), (0, .ref a0)] → W p l e { frames := 3, cells := 0, slots := 0, locals := 64 } s m [.ref a0].toArray below meth c H locs 0 0 (MQ below (Ti D cs (fun r u => u = (T, O, X) ∧ 0 ≤ r.toInt ∧ r.toInt ≤ 16383) A) [.ref a0].toArray s 0 0 A) (F0 m 30 ls [.int k30_0, .int p4_1]) := by
          intro k30_0 H locs ls l_k30_0 u_k30_0 hH hS hl
          refine lv_ior hx hb dX12_openSet_30 ?_
          refine lv_topi (fun v30 ev30 => ?_)
          have tv30 : 0 ≤ v30.toInt ∧ v30.toInt < 16384 := by rw [ev30]; exact or_b 14 (by decide) (by omega) (by omega) (by omega) (by omega)
          refine lv_istore_n (lv' := [(1, .int v30), (2, .int p4_2), (0, .ref a0)]) hx hb dX12_openSet_31 rfl hl (by decide) rfl (fun ls hl => ?_)
          obtain ⟨v32, ev32⟩ : ∃ y : Int32, y = p4_2 + 1 := ⟨_, rfl⟩
          have tv32 : v32.toInt = p4_2.toInt + (1) := by rw [ev32]; exact add_i rfl (by decide) (by omega) (by omega)
          refine lv_iinc (v := v32) (lv' := [(2, .int v32), (1, .int v30), (0, .ref a0)]) hx hb dX12_openSet_32 hl (k := 1) rfl (by rw [ev32]; rfl) (by decide) rfl (fun ls hl => ?_)
          refine lv_goto (tgt := 4) hx hb dX12_openSet_35 (by decide) ?_
          exact ih4 _ (by omega) v32 v30 _ _ _ rfl (by omega) (by omega) (by omega) (by omega) hH hS (lv_sub hl [0, 1, 2] rfl)
        refine lv_if_eq (tgt := 29) hx hb dX12_openSet_20 (by decide) (fun c20 => ?_) (fun c20 => ?_)
        · skip
          have tc20 := f_eq (k := 0) (by decide) c20
          refine lv_iconst (v := 0) hx hb dX12_openSet_29 (by decide) ?_
          exact J30 0 _ _ _ (by decide) (by decide) hH hS (lv_sub hl [0, 2] rfl)
        · skip
          have tc20 := f_ne (k := 0) (by decide) c20
          refine lv_iconst (v := 1) hx hb dX12_openSet_23 (by decide) ?_
          refine lv_iload_n hx hb dX12_openSet_24 rfl (lv_at hl 0 rfl) ?_
          refine lv_ishl hx hb dX12_openSet_25 ?_
          refine lv_topi (fun v25 ev25 => ?_)
          have tv25 : 1 ≤ v25.toInt ∧ v25.toInt ≤ 8192 := by rw [ev25]; exact shl_b 13 (by decide) (by omega) (by omega)
          refine lv_goto (tgt := 30) hx hb dX12_openSet_26 (by decide) ?_
          exact J30 v25 _ _ _ (by omega) (by omega) hH hS (lv_sub hl [0, 2] rfl)
  refine lv_istore_n (lv' := [(2, .int 0), (1, .int 0), (0, .ref a0)]) hx hb dX12_openSet_3 rfl hl (by decide) rfl (fun ls hl => ?_)
  exact J4 _ 0 0 _ _ _ rfl (by decide) (by decide) (by decide) (by decide) hH hS (lv_sub hl [0, 1, 2] rfl)
set_option maxHeartbeats 4000000 in
set_option maxRecDepth 100000 in
theorem s_M_thereSet (l : Launch) (D : va_G) (cs : CS) (kf : KF) (T : TF) (O : List Nat) (X : va_W) (a0 hg mq : Nat) (t_a0 : T a0 = some (22, hg, mq)) (b_hg : hg < 90) (hO : okO T O [8, 22]) : TK l D cs kf yX12_thereSet cX12_thereSet 3 (some (.int)) { frames := 2, cells := 0, slots := 0, locals := 43 } [.ref a0] T O X (Ti D cs (fun r u => u = (T, O, X) ∧ 0 ≤ r.toInt ∧ r.toInt ≤ 16383)) := by
  refine tk_of (by decide) (Nat.le_of_ble_eq_true rfl) (fun p e s m below meth c ls A H locs hx hb hr hml hown hts hlocks hnm hkb hH hS hA hOX hks hE hl => ?_)
  have hown : s.vm.findClass RX12 = some m.cls := hown
  have hl : lv_has ls 3 [(0, .ref a0)] := hl
  refine lv_iconst (v := 0) hx hb dX12_thereSet_0 (by decide) ?_
  refine lv_istore_n (lv' := [(1, .int 0), (0, .ref a0)]) hx hb dX12_thereSet_1 rfl hl (by decide) rfl (fun ls hl => ?_)
  refine lv_iconst (v := 0) hx hb dX12_thereSet_2 (by decide) ?_
  have J4 : ∀ (n : Nat) (p4_2 : Int32) (p4_1 : Int32) (H : Heap) (locs : List Loc) (ls : Array Slot), (14 - p4_2.toInt).toNat = n → (0 ≤ p4_2.toInt) → (p4_2.toInt ≤ 14) → (0 ≤ p4_1.toInt) → (p4_1.toInt ≤ 16383) → HT D cs A T O X H → va_S A s.heap H locs → lv_has ls 3 [(2, .int p4_2), (1, .int p4_1), (0, .ref a0)] → W p l e { frames := 2, cells := 0, slots := 0, locals := 43 } s m [.ref a0].toArray below meth c H locs 0 0 (MQ below (Ti D cs (fun r u => u = (T, O, X) ∧ 0 ≤ r.toInt ∧ r.toInt ≤ 16383) A) [.ref a0].toArray s 0 0 A) (F0 m 4 ls []) := by
    intro n
    induction n using Nat.strongRecOn with
    | _ n ih4 =>
      intro p4_2 p4_1 H locs ls hm4 l_p4_2 u_p4_2 l_p4_1 u_p4_1 hH hS hl
      refine lv_iload_n hx hb dX12_thereSet_4 rfl (lv_at hl 0 rfl) ?_
      refine lv_aload_n hx hb dX12_thereSet_5 rfl (lv_at hl 2 rfl) ?_
      refine t_get (ci := 12) (lst := ft12 hg mq) (C := RX12) (F := TX12) (N := 36) hx hb hts uX12 hown hkb hH t_a0 (hO.no t_a0 (by decide)) (fun _ h9 => h9) rfl rfl 1 (by decide) rfl kw_1224 (fun _ h9 => h9) dX12_thereSet_6 (fun v9 h9 => ?_)
      obtain ⟨v6, rfl, t_v6⟩ := h9
      refine lv_iconst (v := 1) hx hb dX12_thereSet_9 (by decide) ?_
      refine t_ild8 hx hb hkb hH t_v6 (hO.no t_v6 (by decide)) (by decide) (by decide) (by decide) dX12_thereSet_10 (fun v10 h9 h8 => ?_)
      have q9 := (h8 rfl).1 rfl
      subst q9
      have eH9 : (nI (hg / 6)).toInt = (((hg / 6) : Nat) : Int) := nI_toInt (by omega)
      refine lv_icmp_ge (tgt := 38) hx hb dX12_thereSet_11 (by decide) (fun c11 => ?_) (fun c11 => ?_)
      · skip
        have fuc11 := full_i p4_2
        have fvc11 := full_i (nI (hg / 6))
        have tc11 := g_le c11
        refine lv_iload_n hx hb dX12_thereSet_38 rfl (lv_at hl 1 rfl) ?_
        exact te_i hx hb hr hlocks hH hS (⟨rfl, by omega, by omega⟩) dX12_thereSet_39
      · skip
        have fuc11 := full_i p4_2
        have fvc11 := full_i (nI (hg / 6))
        have tc11 := g_nle c11
        refine lv_iload_n hx hb dX12_thereSet_14 rfl (lv_at hl 1 rfl) ?_
        refine lv_aload_n hx hb dX12_thereSet_15 rfl (lv_at hl 2 rfl) ?_
        refine lv_iload_n hx hb dX12_thereSet_16 rfl (lv_at hl 0 rfl) ?_
        refine tk_i hH hS hA (tr_V (n := 1) (As := [.int p4_2]) hx hb hml hown hts hkb hH hOX hks hE hS hA (s_M_isThere l D cs kf T O X a0 hg mq p4_2 t_a0 b_hg (by omega) (by omega) (hO.sub (by decide))) kw_1458 kw_1460 ks_65 kw_13 kw_1461 (by decide +kernel) ⟨Nat.le_of_ble_eq_true rfl, Nat.le_of_ble_eq_true rfl⟩ (HT.recv (ci := 12) hkb hH t_a0 (hO.no t_a0 (by decide)) rfl) rfl rfl hl.1 (Nat.le_of_ble_eq_true rfl) dX12_thereSet_17 ⟨Nat.le_of_ble_eq_true rfl, Nat.le_of_ble_eq_true rfl⟩) (fun v17 u H locs hz9 hH hS => ?_)
        obtain ⟨rfl, l_v17, u_v17⟩ := hz9
        have hH : HT D cs A T O X H := hH
        refine W.widen (k := 0) (n := 0) (Nat.le_of_ble_eq_true rfl) (Nat.le_of_ble_eq_true rfl) ?_
        have J30 : ∀ (k30_0 : Int32) (H : Heap) (locs : List Loc) (ls : Array Slot), (0 ≤ k30_0.toInt) → (k30_0.toInt ≤ 8192) → HT D cs A T O X H → va_S A s.heap H locs → lv_has ls 3 [(2, .int p4_2), (0, .ref a0)] → W p l e { frames := 2, cells := 0, slots := 0, locals := 43 } s m [.ref a0].toArray below meth c H locs 0 0 (MQ below (Ti D cs (fun r u => u = (T, O, X) ∧ 0 ≤ r.toInt ∧ r.toInt ≤ 16383) A) [.ref a0].toArray s 0 0 A) (F0 m 30 ls [.int k30_0, .int p4_1]) := by
          intro k30_0 H locs ls l_k30_0 u_k30_0 hH hS hl
          refine lv_ior hx hb dX12_thereSet_30 ?_
          refine lv_topi (fun v30 ev30 => ?_)
          have tv30 : 0 ≤ v30.toInt ∧ v30.toInt < 16384 := by rw [ev30]; exact or_b 14 (by decide) (by omega) (by omega) (by omega) (by omega)
          refine lv_istore_n (lv' := [(1, .int v30), (2, .int p4_2), (0, .ref a0)]) hx hb dX12_thereSet_31 rfl hl (by decide) rfl (fun ls hl => ?_)
          obtain ⟨v32, ev32⟩ : ∃ y : Int32, y = p4_2 + 1 := ⟨_, rfl⟩
          have tv32 : v32.toInt = p4_2.toInt + (1) := by rw [ev32]; exact add_i rfl (by decide) (by omega) (by omega)
          refine lv_iinc (v := v32) (lv' := [(2, .int v32), (1, .int v30), (0, .ref a0)]) hx hb dX12_thereSet_32 hl (k := 1) rfl (by rw [ev32]; rfl) (by decide) rfl (fun ls hl => ?_)
          refine lv_goto (tgt := 4) hx hb dX12_thereSet_35 (by decide) ?_
          exact ih4 _ (by omega) v32 v30 _ _ _ rfl (by omega) (by omega) (by omega) (by omega) hH hS (lv_sub hl [0, 1, 2] rfl)
        refine lv_if_eq (tgt := 29) hx hb dX12_thereSet_20 (by decide) (fun c20 => ?_) (fun c20 => ?_)
        · skip
          have tc20 := f_eq (k := 0) (by decide) c20
          refine lv_iconst (v := 0) hx hb dX12_thereSet_29 (by decide) ?_
          exact J30 0 _ _ _ (by decide) (by decide) hH hS (lv_sub hl [0, 2] rfl)
        · skip
          have tc20 := f_ne (k := 0) (by decide) c20
          refine lv_iconst (v := 1) hx hb dX12_thereSet_23 (by decide) ?_
          refine lv_iload_n hx hb dX12_thereSet_24 rfl (lv_at hl 0 rfl) ?_
          refine lv_ishl hx hb dX12_thereSet_25 ?_
          refine lv_topi (fun v25 ev25 => ?_)
          have tv25 : 1 ≤ v25.toInt ∧ v25.toInt ≤ 8192 := by rw [ev25]; exact shl_b 13 (by decide) (by omega) (by omega)
          refine lv_goto (tgt := 30) hx hb dX12_thereSet_26 (by decide) ?_
          exact J30 v25 _ _ _ (by omega) (by omega) hH hS (lv_sub hl [0, 2] rfl)
  refine lv_istore_n (lv' := [(2, .int 0), (1, .int 0), (0, .ref a0)]) hx hb dX12_thereSet_3 rfl hl (by decide) rfl (fun ls hl => ?_)
  exact J4 _ 0 0 _ _ _ rfl (by decide) (by decide) (by decide) (by decide) hH hS (lv_sub hl [0, 1, 2] rfl)
set_option maxHeartbeats 4000000 in
set_option maxRecDepth 100000 in
theorem s_M_ends (l : Launch) (D : va_G) (cs : CS) (kf : KF) (T : TF) (O : List Nat) (X : va_W) (a0 hg mq : Nat) (t_a0 : T a0 = some (22, hg, mq)) (b_hg : hg < 90) (hO : okO T O [8, 22]) : TK l D cs kf yX12_ends cX12_ends 1 (some (.int)) { frames := 0, cells := 0, slots := 0, locals := 0 } [.ref a0] T O X (Ti D cs (fun r u => u = (T, O, X) ∧ 0 ≤ r.toInt ∧ r.toInt ≤ 16383)) := by
  refine tk_of (by decide) (Nat.le_of_ble_eq_true rfl) (fun p e s m below meth c ls A H locs hx hb hr hml hown hts hlocks hnm hkb hH hS hA hOX hks hE hl => ?_)
  have hown : s.vm.findClass RX12 = some m.cls := hown
  have hl : lv_has ls 1 [(0, .ref a0)] := hl
  refine lv_aload_n hx hb dX12_ends_0 rfl (lv_at hl 0 rfl) ?_
  refine t_get (ci := 12) (lst := ft12 hg mq) (C := RX12) (F := TX12) (N := 36) hx hb hts uX12 hown hkb hH t_a0 (hO.no t_a0 (by decide)) (fun _ h9 => h9) rfl rfl 1 (by decide) rfl kw_1224 (fun _ h9 => h9) dX12_ends_1 (fun v9 h9 => ?_)
  obtain ⟨v1, rfl, t_v1⟩ := h9
  refine lv_iconst (v := 4) hx hb dX12_ends_4 (by decide) ?_
  refine t_ild8 hx hb hkb hH t_v1 (hO.no t_v1 (by decide)) (by decide) (by decide) (by decide) dX12_ends_5 (fun v5 h9 h8 => ?_)
  have tv5 : 0 ≤ v5.toInt ∧ v5.toInt ≤ 16383 := h9.2.2.1 (by decide)
  refine lv_aload_n hx hb dX12_ends_6 rfl (lv_at hl 0 rfl) ?_
  refine t_get (ci := 12) (lst := ft12 hg mq) (C := RX12) (F := TX12) (N := 36) hx hb hts uX12 hown hkb hH t_a0 (hO.no t_a0 (by decide)) (fun _ h9 => h9) rfl rfl 1 (by decide) rfl kw_1224 (fun _ h9 => h9) dX12_ends_7 (fun v9 h9 => ?_)
  obtain ⟨v7, rfl, t_v7⟩ := h9
  refine lv_iconst (v := 5) hx hb dX12_ends_10 (by decide) ?_
  refine t_ild8 hx hb hkb hH t_v7 (hO.no t_v7 (by decide)) (by decide) (by decide) (by decide) dX12_ends_11 (fun v11 h9 h8 => ?_)
  have tv11 : 0 ≤ v11.toInt ∧ v11.toInt ≤ 16383 := h9.2.2.2.1 (by decide)
  refine lv_ior hx hb dX12_ends_12 ?_
  refine lv_topi (fun v12 ev12 => ?_)
  have tv12 : 0 ≤ v12.toInt ∧ v12.toInt < 16384 := by rw [ev12]; exact or_b 14 (by decide) (by omega) (by omega) (by omega) (by omega)
  exact te_i hx hb hr hlocks hH hS (⟨rfl, by omega, by omega⟩) dX12_ends_13
set_option maxHeartbeats 4000000 in
set_option maxRecDepth 100000 in
theorem s_M_usedMany (l : Launch) (D : va_G) (cs : CS) (kf : KF) (T : TF) (O : List Nat) (X : va_W) (a0 hg mq : Nat) (t_a0 : T a0 = some (22, hg, mq)) (b_hg : hg < 90) (hO : okO T O [8, 22]) : TK l D cs kf yX12_usedMany cX12_usedMany 3 (some (.int)) { frames := 0, cells := 0, slots := 0, locals := 0 } [.ref a0] T O X (Ti D cs (fun r u => u = (T, O, X))) := by
  refine tk_of (by decide) (Nat.le_of_ble_eq_true rfl) (fun p e s m below meth c ls A H locs hx hb hr hml hown hts hlocks hnm hkb hH hS hA hOX hks hE hl => ?_)
  have hown : s.vm.findClass RX12 = some m.cls := hown
  have hl : lv_has ls 3 [(0, .ref a0)] := hl
  refine lv_iconst (v := 0) hx hb dX12_usedMany_0 (by decide) ?_
  refine lv_istore_n (lv' := [(1, .int 0), (0, .ref a0)]) hx hb dX12_usedMany_1 rfl hl (by decide) rfl (fun ls hl => ?_)
  refine lv_iconst (v := 0) hx hb dX12_usedMany_2 (by decide) ?_
  have J4 : ∀ (n : Nat) (p4_2 : Int32) (p4_1 : Int32) (H : Heap) (locs : List Loc) (ls : Array Slot), (14 - p4_2.toInt).toNat = n → (0 ≤ p4_2.toInt) → (p4_2.toInt ≤ 14) → HT D cs A T O X H → va_S A s.heap H locs → lv_has ls 3 [(2, .int p4_2), (1, .int p4_1), (0, .ref a0)] → W p l e { frames := 0, cells := 0, slots := 0, locals := 0 } s m [.ref a0].toArray below meth c H locs 0 0 (MQ below (Ti D cs (fun r u => u = (T, O, X)) A) [.ref a0].toArray s 0 0 A) (F0 m 4 ls []) := by
    intro n
    induction n using Nat.strongRecOn with
    | _ n ih4 =>
      intro p4_2 p4_1 H locs ls hm4 l_p4_2 u_p4_2 hH hS hl
      refine lv_iload_n hx hb dX12_usedMany_4 rfl (lv_at hl 0 rfl) ?_
      refine lv_aload_n hx hb dX12_usedMany_5 rfl (lv_at hl 2 rfl) ?_
      refine t_get (ci := 12) (lst := ft12 hg mq) (C := RX12) (F := TX12) (N := 36) hx hb hts uX12 hown hkb hH t_a0 (hO.no t_a0 (by decide)) (fun _ h9 => h9) rfl rfl 1 (by decide) rfl kw_1224 (fun _ h9 => h9) dX12_usedMany_6 (fun v9 h9 => ?_)
      obtain ⟨v6, rfl, t_v6⟩ := h9
      refine lv_iconst (v := 1) hx hb dX12_usedMany_9 (by decide) ?_
      refine t_ild8 hx hb hkb hH t_v6 (hO.no t_v6 (by decide)) (by decide) (by decide) (by decide) dX12_usedMany_10 (fun v10 h9 h8 => ?_)
      have q9 := (h8 rfl).1 rfl
      subst q9
      have eH9 : (nI (hg / 6)).toInt = (((hg / 6) : Nat) : Int) := nI_toInt (by omega)
      refine lv_icmp_ge (tgt := 41) hx hb dX12_usedMany_11 (by decide) (fun c11 => ?_) (fun c11 => ?_)
      · skip
        have fuc11 := full_i p4_2
        have fvc11 := full_i (nI (hg / 6))
        have tc11 := g_le c11
        refine lv_iload_n hx hb dX12_usedMany_41 rfl (lv_at hl 1 rfl) ?_
        exact te_i hx hb hr hlocks hH hS (rfl) dX12_usedMany_42
      · skip
        have fuc11 := full_i p4_2
        have fvc11 := full_i (nI (hg / 6))
        have tc11 := g_nle c11
        refine lv_iload_n hx hb dX12_usedMany_14 rfl (lv_at hl 1 rfl) ?_
        refine lv_aload_n hx hb dX12_usedMany_15 rfl (lv_at hl 2 rfl) ?_
        refine t_get (ci := 12) (lst := ft12 hg mq) (C := RX12) (F := TX12) (N := 36) hx hb hts uX12 hown hkb hH t_a0 (hO.no t_a0 (by decide)) (fun _ h9 => h9) rfl rfl 1 (by decide) rfl kw_1224 (fun _ h9 => h9) dX12_usedMany_16 (fun v9 h9 => ?_)
        obtain ⟨v16, rfl, t_v16⟩ := h9
        refine lv_bipush (v := 59) hx hb dX12_usedMany_19 (by decide) ?_
        refine lv_iload_n hx hb dX12_usedMany_21 rfl (lv_at hl 0 rfl) ?_
        refine lv_iadd hx hb dX12_usedMany_22 ?_
        refine lv_topi (fun v22 ev22 => ?_)
        have tv22 : v22.toInt = (59) + p4_2.toInt := by rw [ev22]; exact add_i (by decide : (59 : Int32).toInt = 59) rfl (by omega) (by omega)
        refine t_ild8 hx hb hkb hH t_v16 (hO.no t_v16 (by decide)) (by decide) (by omega) (by omega) dX12_usedMany_23 (fun v23 h9 h8 => ?_)
        refine lv_iconst (v := (-1)) hx hb dX12_usedMany_24 (by decide) ?_
        have J33 : ∀ (k33_0 : Int32) (H : Heap) (locs : List Loc) (ls : Array Slot), (0 ≤ k33_0.toInt) → (k33_0.toInt ≤ 1) → HT D cs A T O X H → va_S A s.heap H locs → lv_has ls 3 [(2, .int p4_2), (0, .ref a0)] → W p l e { frames := 0, cells := 0, slots := 0, locals := 0 } s m [.ref a0].toArray below meth c H locs 0 0 (MQ below (Ti D cs (fun r u => u = (T, O, X)) A) [.ref a0].toArray s 0 0 A) (F0 m 33 ls [.int k33_0, .int p4_1]) := by
          intro k33_0 H locs ls l_k33_0 u_k33_0 hH hS hl
          refine lv_iadd hx hb dX12_usedMany_33 ?_
          refine lv_topi (fun v33 ev33 => ?_)
          refine lv_istore_n (lv' := [(1, .int v33), (2, .int p4_2), (0, .ref a0)]) hx hb dX12_usedMany_34 rfl hl (by decide) rfl (fun ls hl => ?_)
          obtain ⟨v35, ev35⟩ : ∃ y : Int32, y = p4_2 + 1 := ⟨_, rfl⟩
          have tv35 : v35.toInt = p4_2.toInt + (1) := by rw [ev35]; exact add_i rfl (by decide) (by omega) (by omega)
          refine lv_iinc (v := v35) (lv' := [(2, .int v35), (1, .int v33), (0, .ref a0)]) hx hb dX12_usedMany_35 hl (k := 1) rfl (by rw [ev35]; rfl) (by decide) rfl (fun ls hl => ?_)
          refine lv_goto (tgt := 4) hx hb dX12_usedMany_38 (by decide) ?_
          exact ih4 _ (by omega) v35 v33 _ _ _ rfl (by omega) (by omega) hH hS (lv_sub hl [0, 1, 2] rfl)
        refine lv_icmp_ne (tgt := 32) hx hb dX12_usedMany_25 (by decide) (fun c25 => ?_) (fun c25 => ?_)
        · skip
          have tc25 := f_ne (k := -1) (by decide) c25
          refine lv_iconst (v := 1) hx hb dX12_usedMany_32 (by decide) ?_
          exact J33 1 _ _ _ (by decide) (by decide) hH hS (lv_sub hl [0, 2] rfl)
        · skip
          have tc25 := f_eq (k := -1) (by decide) c25
          refine lv_iconst (v := 0) hx hb dX12_usedMany_28 (by decide) ?_
          refine lv_goto (tgt := 33) hx hb dX12_usedMany_29 (by decide) ?_
          exact J33 0 _ _ _ (by decide) (by decide) hH hS (lv_sub hl [0, 2] rfl)
  refine lv_istore_n (lv' := [(2, .int 0), (1, .int 0), (0, .ref a0)]) hx hb dX12_usedMany_3 rfl hl (by decide) rfl (fun ls hl => ?_)
  exact J4 _ 0 0 _ _ _ rfl (by decide) (by decide) hH hS (lv_sub hl [0, 1, 2] rfl)
set_option maxHeartbeats 4000000 in
set_option maxRecDepth 100000 in
theorem s_M_usedBy (l : Launch) (D : va_G) (cs : CS) (kf : KF) (T : TF) (O : List Nat) (X : va_W) (a0 hg mq : Nat) (x1 : Int32) (t_a0 : T a0 = some (22, hg, mq)) (b_hg : hg < 90) (hO : okO T O [8, 22]) : TK l D cs kf yX12_usedBy cX12_usedBy 4 (some (.int)) { frames := 0, cells := 0, slots := 0, locals := 0 } [.ref a0, .int x1] T O X (Ti D cs (fun r u => u = (T, O, X) ∧ 0 ≤ r.toInt ∧ r.toInt ≤ 16383)) := by
  refine tk_of (by decide) (Nat.le_of_ble_eq_true rfl) (fun p e s m below meth c ls A H locs hx hb hr hml hown hts hlocks hnm hkb hH hS hA hOX hks hE hl => ?_)
  have hown : s.vm.findClass RX12 = some m.cls := hown
  have hl : lv_has ls 4 [(0, .ref a0), (1, .int x1)] := hl
  refine lv_iconst (v := 0) hx hb dX12_usedBy_0 (by decide) ?_
  refine lv_istore_n (lv' := [(2, .int 0), (0, .ref a0), (1, .int x1)]) hx hb dX12_usedBy_1 rfl hl (by decide) rfl (fun ls hl => ?_)
  refine lv_iconst (v := 0) hx hb dX12_usedBy_2 (by decide) ?_
  have J4 : ∀ (n : Nat) (p4_3 : Int32) (p4_2 : Int32) (H : Heap) (locs : List Loc) (ls : Array Slot), (14 - p4_3.toInt).toNat = n → (0 ≤ p4_3.toInt) → (p4_3.toInt ≤ 14) → (0 ≤ p4_2.toInt) → (p4_2.toInt ≤ 16383) → HT D cs A T O X H → va_S A s.heap H locs → lv_has ls 4 [(3, .int p4_3), (2, .int p4_2), (0, .ref a0), (1, .int x1)] → W p l e { frames := 0, cells := 0, slots := 0, locals := 0 } s m [.ref a0, .int x1].toArray below meth c H locs 0 0 (MQ below (Ti D cs (fun r u => u = (T, O, X) ∧ 0 ≤ r.toInt ∧ r.toInt ≤ 16383) A) [.ref a0, .int x1].toArray s 0 0 A) (F0 m 4 ls []) := by
    intro n
    induction n using Nat.strongRecOn with
    | _ n ih4 =>
      intro p4_3 p4_2 H locs ls hm4 l_p4_3 u_p4_3 l_p4_2 u_p4_2 hH hS hl
      refine lv_iload_n hx hb dX12_usedBy_4 rfl (lv_at hl 0 rfl) ?_
      refine lv_aload_n hx hb dX12_usedBy_5 rfl (lv_at hl 2 rfl) ?_
      refine t_get (ci := 12) (lst := ft12 hg mq) (C := RX12) (F := TX12) (N := 36) hx hb hts uX12 hown hkb hH t_a0 (hO.no t_a0 (by decide)) (fun _ h9 => h9) rfl rfl 1 (by decide) rfl kw_1224 (fun _ h9 => h9) dX12_usedBy_6 (fun v9 h9 => ?_)
      obtain ⟨v6, rfl, t_v6⟩ := h9
      refine lv_iconst (v := 1) hx hb dX12_usedBy_9 (by decide) ?_
      refine t_ild8 hx hb hkb hH t_v6 (hO.no t_v6 (by decide)) (by decide) (by decide) (by decide) dX12_usedBy_10 (fun v10 h9 h8 => ?_)
      have q9 := (h8 rfl).1 rfl
      subst q9
      have eH9 : (nI (hg / 6)).toInt = (((hg / 6) : Nat) : Int) := nI_toInt (by omega)
      refine lv_icmp_ge (tgt := 43) hx hb dX12_usedBy_11 (by decide) (fun c11 => ?_) (fun c11 => ?_)
      · skip
        have fuc11 := full_i p4_3
        have fvc11 := full_i (nI (hg / 6))
        have tc11 := g_le c11
        refine lv_iload_n hx hb dX12_usedBy_43 rfl (lv_at hl 1 rfl) ?_
        exact te_i hx hb hr hlocks hH hS (⟨rfl, by omega, by omega⟩) dX12_usedBy_44
      · skip
        have fuc11 := full_i p4_3
        have fvc11 := full_i (nI (hg / 6))
        have tc11 := g_nle c11
        refine lv_iload_n hx hb dX12_usedBy_14 rfl (lv_at hl 1 rfl) ?_
        refine lv_aload_n hx hb dX12_usedBy_15 rfl (lv_at hl 2 rfl) ?_
        refine t_get (ci := 12) (lst := ft12 hg mq) (C := RX12) (F := TX12) (N := 36) hx hb hts uX12 hown hkb hH t_a0 (hO.no t_a0 (by decide)) (fun _ h9 => h9) rfl rfl 1 (by decide) rfl kw_1224 (fun _ h9 => h9) dX12_usedBy_16 (fun v9 h9 => ?_)
        obtain ⟨v16, rfl, t_v16⟩ := h9
        refine lv_bipush (v := 59) hx hb dX12_usedBy_19 (by decide) ?_
        refine lv_iload_n hx hb dX12_usedBy_21 rfl (lv_at hl 0 rfl) ?_
        refine lv_iadd hx hb dX12_usedBy_22 ?_
        refine lv_topi (fun v22 ev22 => ?_)
        have tv22 : v22.toInt = (59) + p4_3.toInt := by rw [ev22]; exact add_i (by decide : (59 : Int32).toInt = 59) rfl (by omega) (by omega)
        refine t_ild8 hx hb hkb hH t_v16 (hO.no t_v16 (by decide)) (by decide) (by omega) (by omega) dX12_usedBy_23 (fun v23 h9 h8 => ?_)
        refine lv_iload_n hx hb dX12_usedBy_24 rfl (lv_at hl 3 rfl) ?_
        have J35 : ∀ (k35_0 : Int32) (H : Heap) (locs : List Loc) (ls : Array Slot), (0 ≤ k35_0.toInt) → (k35_0.toInt ≤ 8192) → HT D cs A T O X H → va_S A s.heap H locs → lv_has ls 4 [(3, .int p4_3), (0, .ref a0), (1, .int x1)] → W p l e { frames := 0, cells := 0, slots := 0, locals := 0 } s m [.ref a0, .int x1].toArray below meth c H locs 0 0 (MQ below (Ti D cs (fun r u => u = (T, O, X) ∧ 0 ≤ r.toInt ∧ r.toInt ≤ 16383) A) [.ref a0, .int x1].toArray s 0 0 A) (F0 m 35 ls [.int k35_0, .int p4_2]) := by
          intro k35_0 H locs ls l_k35_0 u_k35_0 hH hS hl
          refine lv_ior hx hb dX12_usedBy_35 ?_
          refine lv_topi (fun v35 ev35 => ?_)
          have tv35 : 0 ≤ v35.toInt ∧ v35.toInt < 16384 := by rw [ev35]; exact or_b 14 (by decide) (by omega) (by omega) (by omega) (by omega)
          refine lv_istore_n (lv' := [(2, .int v35), (3, .int p4_3), (0, .ref a0), (1, .int x1)]) hx hb dX12_usedBy_36 rfl hl (by decide) rfl (fun ls hl => ?_)
          obtain ⟨v37, ev37⟩ : ∃ y : Int32, y = p4_3 + 1 := ⟨_, rfl⟩
          have tv37 : v37.toInt = p4_3.toInt + (1) := by rw [ev37]; exact add_i rfl (by decide) (by omega) (by omega)
          refine lv_iinc (v := v37) (lv' := [(3, .int v37), (2, .int v35), (0, .ref a0), (1, .int x1)]) hx hb dX12_usedBy_37 hl (k := 1) rfl (by rw [ev37]; rfl) (by decide) rfl (fun ls hl => ?_)
          refine lv_goto (tgt := 4) hx hb dX12_usedBy_40 (by decide) ?_
          exact ih4 _ (by omega) v37 v35 _ _ _ rfl (by omega) (by omega) (by omega) (by omega) hH hS (lv_sub hl [0, 1, 2, 3] rfl)
        refine lv_icmp_ne (tgt := 34) hx hb dX12_usedBy_25 (by decide) (fun c25 => ?_) (fun c25 => ?_)
        · skip
          have fuc25 := full_i v23
          have fvc25 := full_i x1
          have tc25 := g_ne c25
          refine lv_iconst (v := 0) hx hb dX12_usedBy_34 (by decide) ?_
          exact J35 0 _ _ _ (by decide) (by decide) hH hS (lv_sub hl [0, 2, 3] rfl)
        · skip
          have fuc25 := full_i v23
          have fvc25 := full_i x1
          have tc25 := g_eq c25
          refine lv_iconst (v := 1) hx hb dX12_usedBy_28 (by decide) ?_
          refine lv_iload_n hx hb dX12_usedBy_29 rfl (lv_at hl 0 rfl) ?_
          refine lv_ishl hx hb dX12_usedBy_30 ?_
          refine lv_topi (fun v30 ev30 => ?_)
          have tv30 : 1 ≤ v30.toInt ∧ v30.toInt ≤ 8192 := by rw [ev30]; exact shl_b 13 (by decide) (by omega) (by omega)
          refine lv_goto (tgt := 35) hx hb dX12_usedBy_31 (by decide) ?_
          exact J35 v30 _ _ _ (by omega) (by omega) hH hS (lv_sub hl [0, 2, 3] rfl)
  refine lv_istore_n (lv' := [(3, .int 0), (2, .int 0), (0, .ref a0), (1, .int x1)]) hx hb dX12_usedBy_3 rfl hl (by decide) rfl (fun ls hl => ?_)
  exact J4 _ 0 0 _ _ _ rfl (by decide) (by decide) (by decide) (by decide) hH hS (lv_sub hl [0, 1, 2, 3] rfl)
set_option maxHeartbeats 4000000 in
set_option maxRecDepth 100000 in
theorem s_M_fault (l : Launch) (D : va_G) (cs : CS) (kf : KF) (T : TF) (O : List Nat) (X : va_W) (a0 hg mq : Nat) (x1 : Int32) (t_a0 : T a0 = some (22, hg, mq)) (b_hg : hg < 90) (hO : okO T O [22]) : TK l D cs kf yX12_fault cX12_fault 2 (some (.int)) { frames := 0, cells := 0, slots := 0, locals := 0 } [.ref a0, .int x1] T O X (Ti D cs (fun r u => u = (T, O, X) ∧ -1 ≤ r.toInt ∧ (r.toInt = FTF ((mq / 1024 % 8 : Nat) : Int) (((mq / 8192 : Nat) : Int) - 1) x1.toInt))) := by
  refine tk_of (by decide) (Nat.le_of_ble_eq_true rfl) (fun p e s m below meth c ls A H locs hx hb hr hml hown hts hlocks hnm hkb hH hS hA hOX hks hE hl => ?_)
  have hown : s.vm.findClass RX12 = some m.cls := hown
  have hl : lv_has ls 2 [(0, .ref a0), (1, .int x1)] := hl
  refine lv_aload_n hx hb dX12_fault_0 rfl (lv_at hl 0 rfl) ?_
  refine lv_iconst (v := 0) hx hb dX12_fault_1 (by decide) ?_
  refine t_put (ci := 12) (lst := ft12 hg mq) (v := .int 0) (ty := tyX12 0) (C := RX12) (F := TX12) (N := 36) hx hb hts uX12 tyX12 tyX12_ok nmX12 hown hkb hH hS t_a0 (hO.no t_a0 (by decide)) (fun _ => Iff.rfl) rfl rfl 0 (by decide) rfl (⟨_, rfl⟩) kw_1223 (fun _ h9 => h9) rfl (tyX12_ok 0 (by decide)) rfl rfl dX12_fault_2 (fun H locs hH hS => ?_)
  refine lv_iload_n hx hb dX12_fault_5 rfl (lv_at hl 1 rfl) ?_
  refine lv_if_ne (tgt := 16) hx hb dX12_fault_6 (by decide) (fun c6 => ?_) (fun c6 => ?_)
  · skip
    have tc6 := f_ne (k := 0) (by decide) c6
    refine lv_iload_n hx hb dX12_fault_16 rfl (lv_at hl 1 rfl) ?_
    refine lv_iconst (v := 1) hx hb dX12_fault_17 (by decide) ?_
    refine lv_icmp_ne (tgt := 28) hx hb dX12_fault_18 (by decide) (fun c18 => ?_) (fun c18 => ?_)
    · skip
      have tc18 := f_ne (k := 1) (by decide) c18
      refine lv_iconst (v := (-1)) hx hb dX12_fault_28 (by decide) ?_
      have z9_m1 : ((-1) : Int32).toInt = -1 := by decide
      exact te_i hx hb hr hlocks hH hS (⟨rfl, by decide, (by first | (rw [FTF_0 (by omega)]; omega) | (rw [FTF_1 (by omega)]; omega) | (rw [FTF_2 (by omega) (by omega)]; decide))⟩) dX12_fault_29
    · skip
      have tc18 := f_eq (k := 1) (by decide) c18
      refine lv_aload_n hx hb dX12_fault_21 rfl (lv_at hl 0 rfl) ?_
      refine t_get (ci := 12) (lst := ft12 hg mq) (C := RX12) (F := TX12) (N := 36) hx hb hts uX12 hown hkb hH t_a0 (hO.no t_a0 (by decide)) (fun _ h9 => h9) rfl rfl 14 (by decide) rfl kw_1237 (fun _ h9 => h9) dX12_fault_22 (fun v9 h9 => ?_)
      obtain ⟨v22, rfl, eg_v22⟩ := h9
      refine lv_goto (tgt := 29) hx hb dX12_fault_25 (by decide) ?_
      exact te_i hx hb hr hlocks hH hS (⟨rfl, by omega, (by first | (rw [FTF_0 (by omega)]; omega) | (rw [FTF_1 (by omega)]; omega) | (rw [FTF_2 (by omega) (by omega)]; decide))⟩) dX12_fault_29
  · skip
    have tc6 := f_eq (k := 0) (by decide) c6
    refine lv_aload_n hx hb dX12_fault_9 rfl (lv_at hl 0 rfl) ?_
    refine t_get (ci := 12) (lst := ft12 hg mq) (C := RX12) (F := TX12) (N := 36) hx hb hts uX12 hown hkb hH t_a0 (hO.no t_a0 (by decide)) (fun _ h9 => h9) rfl rfl 13 (by decide) rfl kw_1236 (fun _ h9 => h9) dX12_fault_10 (fun v9 h9 => ?_)
    obtain ⟨v10, rfl, eg_v10⟩ := h9
    refine lv_goto (tgt := 29) hx hb dX12_fault_13 (by decide) ?_
    exact te_i hx hb hr hlocks hH hS (⟨rfl, by omega, (by first | (rw [FTF_0 (by omega)]; omega) | (rw [FTF_1 (by omega)]; omega) | (rw [FTF_2 (by omega) (by omega)]; decide))⟩) dX12_fault_29
set_option maxHeartbeats 4000000 in
set_option maxRecDepth 100000 in
theorem s_M_hold (l : Launch) (D : va_G) (cs : CS) (kf : KF) (T : TF) (O : List Nat) (X : va_W) (a0 hg mq : Nat) (x1 : Int32) (x2 : Int32) (t_a0 : T a0 = some (22, hg, mq)) (b_hg : hg < 90) (hO : okO T O [8, 22]) : TK l D cs kf yX12_hold cX12_hold 3 (some (.int)) { frames := 3, cells := 0, slots := 0, locals := 64 } [.ref a0, .int x1, .int x2] T O X (Ti D cs (fun r u => u = (T, O, X))) := by
  refine tk_of (by decide) (Nat.le_of_ble_eq_true rfl) (fun p e s m below meth c ls A H locs hx hb hr hml hown hts hlocks hnm hkb hH hS hA hOX hks hE hl => ?_)
  have hown : s.vm.findClass RX12 = some m.cls := hown
  have hl : lv_has ls 3 [(0, .ref a0), (1, .int x1), (2, .int x2)] := hl
  refine lv_aload_n hx hb dX12_hold_0 rfl (lv_at hl 0 rfl) ?_
  refine lv_iconst (v := 0) hx hb dX12_hold_1 (by decide) ?_
  refine t_put (ci := 12) (lst := ft12 hg mq) (v := .int 0) (ty := tyX12 0) (C := RX12) (F := TX12) (N := 36) hx hb hts uX12 tyX12 tyX12_ok nmX12 hown hkb hH hS t_a0 (hO.no t_a0 (by decide)) (fun _ => Iff.rfl) rfl rfl 0 (by decide) rfl (⟨_, rfl⟩) kw_1223 (fun _ h9 => h9) rfl (tyX12_ok 0 (by decide)) rfl rfl dX12_hold_2 (fun H locs hH hS => ?_)
  refine lv_aload_n hx hb dX12_hold_5 rfl (lv_at hl 0 rfl) ?_
  refine lv_iload_n hx hb dX12_hold_6 rfl (lv_at hl 1 rfl) ?_
  refine lv_i2l hx hb dX12_hold_7 rfl ?_
  refine tk_i hH hS hA (tr_V (n := 1) (As := [.long x1.toInt64]) hx hb hml hown hts hkb hH hOX hks hE hS hA (s_M_isHold l D cs kf T O X a0 hg mq x1.toInt64 t_a0 b_hg (hO.sub (by decide))) kw_1454 kw_1456 ks_64 kw_13 kw_1457 (by decide +kernel) ⟨Nat.le_of_ble_eq_true rfl, Nat.le_of_ble_eq_true rfl⟩ (HT.recv (ci := 12) hkb hH t_a0 (hO.no t_a0 (by decide)) rfl) rfl rfl hl.1 (Nat.le_of_ble_eq_true rfl) dX12_hold_8 ⟨Nat.le_of_ble_eq_true rfl, Nat.le_of_ble_eq_true rfl⟩) (fun v8 u H locs hz9 hH hS => ?_)
  obtain ⟨rfl, l_v8, u_v8, x_v80⟩ := hz9
  simp only [Int32.toInt_toInt64] at x_v80
  have hH : HT D cs A T O X H := hH
  refine W.widen (k := 0) (n := 0) (Nat.le_of_ble_eq_true rfl) (Nat.le_of_ble_eq_true rfl) ?_
  refine lv_if_ne (tgt := 17) hx hb dX12_hold_11 (by decide) (fun c11 => ?_) (fun c11 => ?_)
  · skip
    have tc11 := f_ne (k := 0) (by decide) c11
    replace x_v80 := x_v80.resolve_left tc11
    refine lv_iload_n hx hb dX12_hold_17 rfl (lv_at hl 2 rfl) ?_
    by_cases c18_0 : x2 = 0
    · skip
      refine lv_topc c18_0 ?_
      have tc18_0 := f_eq (k := 0) (by decide) c18_0
      refine lv_tableIn (off := 54) (tgt := 72) hx hb dX12_hold_18 (by decide) (by decide) (by decide) (by decide) ?_
      refine lv_aload_n hx hb dX12_hold_72 rfl (lv_at hl 0 rfl) ?_
      refine t_get (ci := 12) (lst := ft12 hg mq) (C := RX12) (F := TX12) (N := 36) hx hb hts uX12 hown hkb hH t_a0 (hO.no t_a0 (by decide)) (fun _ h9 => h9) rfl rfl 1 (by decide) rfl kw_1224 (fun _ h9 => h9) dX12_hold_73 (fun v9 h9 => ?_)
      obtain ⟨v73, rfl, t_v73⟩ := h9
      refine lv_bipush (v := 7) hx hb dX12_hold_76 (by decide) ?_
      refine lv_iload_n hx hb dX12_hold_78 rfl (lv_at hl 1 rfl) ?_
      refine lv_iadd hx hb dX12_hold_79 ?_
      refine lv_topi (fun v79 ev79 => ?_)
      have tv79 : v79.toInt = (7) + x1.toInt := by rw [ev79]; exact add_i (by decide : (7 : Int32).toInt = 7) rfl (by omega) (by omega)
      refine t_ild8 hx hb hkb hH t_v73 (hO.no t_v73 (by decide)) (by decide) (by omega) (by omega) dX12_hold_80 (fun v80 h9 h8 => ?_)
      exact te_i hx hb hr hlocks hH hS (rfl) dX12_hold_81
    have tc18_0 := f_ne (k := 0) (by decide) c18_0
    by_cases c18_1 : x2 = 1
    · skip
      refine lv_topc c18_1 ?_
      have tc18_1 := f_eq (k := 1) (by decide) c18_1
      refine lv_tableIn (off := 64) (tgt := 82) hx hb dX12_hold_18 (by decide) (by decide) (by decide) (by decide) ?_
      refine lv_aload_n hx hb dX12_hold_82 rfl (lv_at hl 0 rfl) ?_
      refine t_get (ci := 12) (lst := ft12 hg mq) (C := RX12) (F := TX12) (N := 36) hx hb hts uX12 hown hkb hH t_a0 (hO.no t_a0 (by decide)) (fun _ h9 => h9) rfl rfl 1 (by decide) rfl kw_1224 (fun _ h9 => h9) dX12_hold_83 (fun v9 h9 => ?_)
      obtain ⟨v83, rfl, t_v83⟩ := h9
      refine lv_bipush (v := 21) hx hb dX12_hold_86 (by decide) ?_
      refine lv_iload_n hx hb dX12_hold_88 rfl (lv_at hl 1 rfl) ?_
      refine lv_iadd hx hb dX12_hold_89 ?_
      refine lv_topi (fun v89 ev89 => ?_)
      have tv89 : v89.toInt = (21) + x1.toInt := by rw [ev89]; exact add_i (by decide : (21 : Int32).toInt = 21) rfl (by omega) (by omega)
      refine t_ild8 hx hb hkb hH t_v83 (hO.no t_v83 (by decide)) (by decide) (by omega) (by omega) dX12_hold_90 (fun v90 h9 h8 => ?_)
      exact te_i hx hb hr hlocks hH hS (rfl) dX12_hold_91
    have tc18_1 := f_ne (k := 1) (by decide) c18_1
    by_cases c18_2 : x2 = 2
    · skip
      refine lv_topc c18_2 ?_
      have tc18_2 := f_eq (k := 2) (by decide) c18_2
      refine lv_tableIn (off := 74) (tgt := 92) hx hb dX12_hold_18 (by decide) (by decide) (by decide) (by decide) ?_
      refine lv_aload_n hx hb dX12_hold_92 rfl (lv_at hl 0 rfl) ?_
      refine t_get (ci := 12) (lst := ft12 hg mq) (C := RX12) (F := TX12) (N := 36) hx hb hts uX12 hown hkb hH t_a0 (hO.no t_a0 (by decide)) (fun _ h9 => h9) rfl rfl 1 (by decide) rfl kw_1224 (fun _ h9 => h9) dX12_hold_93 (fun v9 h9 => ?_)
      obtain ⟨v93, rfl, t_v93⟩ := h9
      refine lv_iconst (v := 4) hx hb dX12_hold_96 (by decide) ?_
      refine t_ild8 hx hb hkb hH t_v93 (hO.no t_v93 (by decide)) (by decide) (by decide) (by decide) dX12_hold_97 (fun v97 h9 h8 => ?_)
      have tv97 : 0 ≤ v97.toInt ∧ v97.toInt ≤ 16383 := h9.2.2.1 (by decide)
      refine lv_i2l hx hb dX12_hold_98 rfl ?_
      refine lv_iload_n hx hb dX12_hold_99 rfl (lv_at hl 1 rfl) ?_
      refine tk_i hH hS hA (tr_S (n := 2) (As := [.long v97.toInt64, .int x1]) hx hb hml hown hts hkb hH hOX hks hE hS hA (s_M_isIn2 l D cs kf T O X v97.toInt64 x1  (hO.sub (by decide))) kw_1440 kw_1441 kw_13 kw_1442 (by decide +kernel) ⟨Nat.le_of_ble_eq_true rfl, Nat.le_of_ble_eq_true rfl⟩ rfl rfl hl.1 (Nat.le_of_ble_eq_true rfl) dX12_hold_100 ⟨Nat.le_of_ble_eq_true rfl, Nat.le_of_ble_eq_true rfl⟩) (fun v100 u H locs hz9 hH hS => ?_)
      obtain ⟨rfl, l_v100, u_v100, x_v1000⟩ := hz9
      have hH : HT D cs A T O X H := hH
      refine W.widen (k := 0) (n := 0) (Nat.le_of_ble_eq_true rfl) (Nat.le_of_ble_eq_true rfl) ?_
      have J111 : ∀ (k111_0 : Int32) (H : Heap) (locs : List Loc) (ls : Array Slot), (0 ≤ k111_0.toInt) → (k111_0.toInt ≤ 1) → HT D cs A T O X H → va_S A s.heap H locs → lv_has ls 3 [] → W p l e { frames := 3, cells := 0, slots := 0, locals := 64 } s m [.ref a0, .int x1, .int x2].toArray below meth c H locs 0 0 (MQ below (Ti D cs (fun r u => u = (T, O, X)) A) [.ref a0, .int x1, .int x2].toArray s 0 0 A) (F0 m 111 ls [.int k111_0]) := by
        intro k111_0 H locs ls l_k111_0 u_k111_0 hH hS hl
        exact te_i hx hb hr hlocks hH hS (rfl) dX12_hold_111
      refine lv_if_eq (tgt := 110) hx hb dX12_hold_103 (by decide) (fun c103 => ?_) (fun c103 => ?_)
      · skip
        have tc103 := f_eq (k := 0) (by decide) c103
        refine lv_iconst (v := 0) hx hb dX12_hold_110 (by decide) ?_
        exact J111 0 _ _ _ (by decide) (by decide) hH hS (lv_sub hl [] rfl)
      · skip
        have tc103 := f_ne (k := 0) (by decide) c103
        refine lv_iconst (v := 1) hx hb dX12_hold_106 (by decide) ?_
        refine lv_goto (tgt := 111) hx hb dX12_hold_107 (by decide) ?_
        exact J111 1 _ _ _ (by decide) (by decide) hH hS (lv_sub hl [] rfl)
    have tc18_2 := f_ne (k := 2) (by decide) c18_2
    by_cases c18_3 : x2 = 3
    · skip
      refine lv_topc c18_3 ?_
      have tc18_3 := f_eq (k := 3) (by decide) c18_3
      refine lv_tableIn (off := 94) (tgt := 112) hx hb dX12_hold_18 (by decide) (by decide) (by decide) (by decide) ?_
      refine lv_aload_n hx hb dX12_hold_112 rfl (lv_at hl 0 rfl) ?_
      refine t_get (ci := 12) (lst := ft12 hg mq) (C := RX12) (F := TX12) (N := 36) hx hb hts uX12 hown hkb hH t_a0 (hO.no t_a0 (by decide)) (fun _ h9 => h9) rfl rfl 1 (by decide) rfl kw_1224 (fun _ h9 => h9) dX12_hold_113 (fun v9 h9 => ?_)
      obtain ⟨v113, rfl, t_v113⟩ := h9
      refine lv_iconst (v := 5) hx hb dX12_hold_116 (by decide) ?_
      refine t_ild8 hx hb hkb hH t_v113 (hO.no t_v113 (by decide)) (by decide) (by decide) (by decide) dX12_hold_117 (fun v117 h9 h8 => ?_)
      have tv117 : 0 ≤ v117.toInt ∧ v117.toInt ≤ 16383 := h9.2.2.2.1 (by decide)
      refine lv_i2l hx hb dX12_hold_118 rfl ?_
      refine lv_iload_n hx hb dX12_hold_119 rfl (lv_at hl 1 rfl) ?_
      refine tk_i hH hS hA (tr_S (n := 2) (As := [.long v117.toInt64, .int x1]) hx hb hml hown hts hkb hH hOX hks hE hS hA (s_M_isIn2 l D cs kf T O X v117.toInt64 x1  (hO.sub (by decide))) kw_1440 kw_1441 kw_13 kw_1442 (by decide +kernel) ⟨Nat.le_of_ble_eq_true rfl, Nat.le_of_ble_eq_true rfl⟩ rfl rfl hl.1 (Nat.le_of_ble_eq_true rfl) dX12_hold_120 ⟨Nat.le_of_ble_eq_true rfl, Nat.le_of_ble_eq_true rfl⟩) (fun v120 u H locs hz9 hH hS => ?_)
      obtain ⟨rfl, l_v120, u_v120, x_v1200⟩ := hz9
      have hH : HT D cs A T O X H := hH
      refine W.widen (k := 0) (n := 0) (Nat.le_of_ble_eq_true rfl) (Nat.le_of_ble_eq_true rfl) ?_
      have J131 : ∀ (k131_0 : Int32) (H : Heap) (locs : List Loc) (ls : Array Slot), (0 ≤ k131_0.toInt) → (k131_0.toInt ≤ 1) → HT D cs A T O X H → va_S A s.heap H locs → lv_has ls 3 [] → W p l e { frames := 3, cells := 0, slots := 0, locals := 64 } s m [.ref a0, .int x1, .int x2].toArray below meth c H locs 0 0 (MQ below (Ti D cs (fun r u => u = (T, O, X)) A) [.ref a0, .int x1, .int x2].toArray s 0 0 A) (F0 m 131 ls [.int k131_0]) := by
        intro k131_0 H locs ls l_k131_0 u_k131_0 hH hS hl
        exact te_i hx hb hr hlocks hH hS (rfl) dX12_hold_131
      refine lv_if_eq (tgt := 130) hx hb dX12_hold_123 (by decide) (fun c123 => ?_) (fun c123 => ?_)
      · skip
        have tc123 := f_eq (k := 0) (by decide) c123
        refine lv_iconst (v := 0) hx hb dX12_hold_130 (by decide) ?_
        exact J131 0 _ _ _ (by decide) (by decide) hH hS (lv_sub hl [] rfl)
      · skip
        have tc123 := f_ne (k := 0) (by decide) c123
        refine lv_iconst (v := 1) hx hb dX12_hold_126 (by decide) ?_
        refine lv_goto (tgt := 131) hx hb dX12_hold_127 (by decide) ?_
        exact J131 1 _ _ _ (by decide) (by decide) hH hS (lv_sub hl [] rfl)
    have tc18_3 := f_ne (k := 3) (by decide) c18_3
    by_cases c18_4 : x2 = 4
    · skip
      refine lv_topc c18_4 ?_
      have tc18_4 := f_eq (k := 4) (by decide) c18_4
      refine lv_tableIn (off := 114) (tgt := 132) hx hb dX12_hold_18 (by decide) (by decide) (by decide) (by decide) ?_
      refine lv_aload_n hx hb dX12_hold_132 rfl (lv_at hl 0 rfl) ?_
      refine lv_iload_n hx hb dX12_hold_133 rfl (lv_at hl 1 rfl) ?_
      refine tk_i hH hS hA (tr_V (n := 1) (As := [.int x1]) hx hb hml hown hts hkb hH hOX hks hE hS hA (s_M_isThere l D cs kf T O X a0 hg mq x1 t_a0 b_hg (by omega) (by omega) (hO.sub (by decide))) kw_1458 kw_1460 ks_65 kw_13 kw_1461 (by decide +kernel) ⟨Nat.le_of_ble_eq_true rfl, Nat.le_of_ble_eq_true rfl⟩ (HT.recv (ci := 12) hkb hH t_a0 (hO.no t_a0 (by decide)) rfl) rfl rfl hl.1 (Nat.le_of_ble_eq_true rfl) dX12_hold_134 ⟨Nat.le_of_ble_eq_true rfl, Nat.le_of_ble_eq_true rfl⟩) (fun v134 u H locs hz9 hH hS => ?_)
      obtain ⟨rfl, l_v134, u_v134⟩ := hz9
      have hH : HT D cs A T O X H := hH
      refine W.widen (k := 0) (n := 0) (Nat.le_of_ble_eq_true rfl) (Nat.le_of_ble_eq_true rfl) ?_
      have J145 : ∀ (k145_0 : Int32) (H : Heap) (locs : List Loc) (ls : Array Slot), (0 ≤ k145_0.toInt) → (k145_0.toInt ≤ 1) → HT D cs A T O X H → va_S A s.heap H locs → lv_has ls 3 [] → W p l e { frames := 3, cells := 0, slots := 0, locals := 64 } s m [.ref a0, .int x1, .int x2].toArray below meth c H locs 0 0 (MQ below (Ti D cs (fun r u => u = (T, O, X)) A) [.ref a0, .int x1, .int x2].toArray s 0 0 A) (F0 m 145 ls [.int k145_0]) := by
        intro k145_0 H locs ls l_k145_0 u_k145_0 hH hS hl
        exact te_i hx hb hr hlocks hH hS (rfl) dX12_hold_145
      refine lv_if_eq (tgt := 144) hx hb dX12_hold_137 (by decide) (fun c137 => ?_) (fun c137 => ?_)
      · skip
        have tc137 := f_eq (k := 0) (by decide) c137
        refine lv_iconst (v := 0) hx hb dX12_hold_144 (by decide) ?_
        exact J145 0 _ _ _ (by decide) (by decide) hH hS (lv_sub hl [] rfl)
      · skip
        have tc137 := f_ne (k := 0) (by decide) c137
        refine lv_iconst (v := 1) hx hb dX12_hold_140 (by decide) ?_
        refine lv_goto (tgt := 145) hx hb dX12_hold_141 (by decide) ?_
        exact J145 1 _ _ _ (by decide) (by decide) hH hS (lv_sub hl [] rfl)
    have tc18_4 := f_ne (k := 4) (by decide) c18_4
    by_cases c18_5 : x2 = 5
    · skip
      refine lv_topc c18_5 ?_
      have tc18_5 := f_eq (k := 5) (by decide) c18_5
      refine lv_tableIn (off := 128) (tgt := 146) hx hb dX12_hold_18 (by decide) (by decide) (by decide) (by decide) ?_
      refine lv_aload_n hx hb dX12_hold_146 rfl (lv_at hl 0 rfl) ?_
      refine lv_iload_n hx hb dX12_hold_147 rfl (lv_at hl 1 rfl) ?_
      refine tk_i hH hS hA (tr_V (n := 1) (As := [.int x1]) hx hb hml hown hts hkb hH hOX hks hE hS hA (s_M_isOpen l D cs kf T O X a0 hg mq x1 t_a0 b_hg (by omega) (by omega) (hO.sub (by decide))) kw_1462 kw_1464 ks_66 kw_13 kw_1465 (by decide +kernel) ⟨Nat.le_of_ble_eq_true rfl, Nat.le_of_ble_eq_true rfl⟩ (HT.recv (ci := 12) hkb hH t_a0 (hO.no t_a0 (by decide)) rfl) rfl rfl hl.1 (Nat.le_of_ble_eq_true rfl) dX12_hold_148 ⟨Nat.le_of_ble_eq_true rfl, Nat.le_of_ble_eq_true rfl⟩) (fun v148 u H locs hz9 hH hS => ?_)
      obtain ⟨rfl, l_v148, u_v148⟩ := hz9
      have hH : HT D cs A T O X H := hH
      refine W.widen (k := 0) (n := 0) (Nat.le_of_ble_eq_true rfl) (Nat.le_of_ble_eq_true rfl) ?_
      have J159 : ∀ (k159_0 : Int32) (H : Heap) (locs : List Loc) (ls : Array Slot), (0 ≤ k159_0.toInt) → (k159_0.toInt ≤ 1) → HT D cs A T O X H → va_S A s.heap H locs → lv_has ls 3 [] → W p l e { frames := 3, cells := 0, slots := 0, locals := 64 } s m [.ref a0, .int x1, .int x2].toArray below meth c H locs 0 0 (MQ below (Ti D cs (fun r u => u = (T, O, X)) A) [.ref a0, .int x1, .int x2].toArray s 0 0 A) (F0 m 159 ls [.int k159_0]) := by
        intro k159_0 H locs ls l_k159_0 u_k159_0 hH hS hl
        exact te_i hx hb hr hlocks hH hS (rfl) dX12_hold_159
      refine lv_if_eq (tgt := 158) hx hb dX12_hold_151 (by decide) (fun c151 => ?_) (fun c151 => ?_)
      · skip
        have tc151 := f_eq (k := 0) (by decide) c151
        refine lv_iconst (v := 0) hx hb dX12_hold_158 (by decide) ?_
        exact J159 0 _ _ _ (by decide) (by decide) hH hS (lv_sub hl [] rfl)
      · skip
        have tc151 := f_ne (k := 0) (by decide) c151
        refine lv_iconst (v := 1) hx hb dX12_hold_154 (by decide) ?_
        refine lv_goto (tgt := 159) hx hb dX12_hold_155 (by decide) ?_
        exact J159 1 _ _ _ (by decide) (by decide) hH hS (lv_sub hl [] rfl)
    have tc18_5 := f_ne (k := 5) (by decide) c18_5
    by_cases c18_6 : x2 = 6
    · skip
      refine lv_topc c18_6 ?_
      have tc18_6 := f_eq (k := 6) (by decide) c18_6
      refine lv_tableIn (off := 142) (tgt := 160) hx hb dX12_hold_18 (by decide) (by decide) (by decide) (by decide) ?_
      refine lv_aload_n hx hb dX12_hold_160 rfl (lv_at hl 0 rfl) ?_
      refine t_get (ci := 12) (lst := ft12 hg mq) (C := RX12) (F := TX12) (N := 36) hx hb hts uX12 hown hkb hH t_a0 (hO.no t_a0 (by decide)) (fun _ h9 => h9) rfl rfl 1 (by decide) rfl kw_1224 (fun _ h9 => h9) dX12_hold_161 (fun v9 h9 => ?_)
      obtain ⟨v161, rfl, t_v161⟩ := h9
      refine lv_bipush (v := 59) hx hb dX12_hold_164 (by decide) ?_
      refine lv_iload_n hx hb dX12_hold_166 rfl (lv_at hl 1 rfl) ?_
      refine lv_iadd hx hb dX12_hold_167 ?_
      refine lv_topi (fun v167 ev167 => ?_)
      have tv167 : v167.toInt = (59) + x1.toInt := by rw [ev167]; exact add_i (by decide : (59 : Int32).toInt = 59) rfl (by omega) (by omega)
      refine t_ild8 hx hb hkb hH t_v161 (hO.no t_v161 (by decide)) (by decide) (by omega) (by omega) dX12_hold_168 (fun v168 h9 h8 => ?_)
      exact te_i hx hb hr hlocks hH hS (rfl) dX12_hold_169
    have tc18_6 := f_ne (k := 6) (by decide) c18_6
    by_cases c18_7 : x2 = 7
    · skip
      refine lv_topc c18_7 ?_
      have tc18_7 := f_eq (k := 7) (by decide) c18_7
      refine lv_tableIn (off := 152) (tgt := 170) hx hb dX12_hold_18 (by decide) (by decide) (by decide) (by decide) ?_
      refine lv_aload_n hx hb dX12_hold_170 rfl (lv_at hl 0 rfl) ?_
      refine t_get (ci := 12) (lst := ft12 hg mq) (C := RX12) (F := TX12) (N := 36) hx hb hts uX12 hown hkb hH t_a0 (hO.no t_a0 (by decide)) (fun _ h9 => h9) rfl rfl 1 (by decide) rfl kw_1224 (fun _ h9 => h9) dX12_hold_171 (fun v9 h9 => ?_)
      obtain ⟨v171, rfl, t_v171⟩ := h9
      refine lv_bipush (v := 73) hx hb dX12_hold_174 (by decide) ?_
      refine lv_iload_n hx hb dX12_hold_176 rfl (lv_at hl 1 rfl) ?_
      refine lv_iadd hx hb dX12_hold_177 ?_
      refine lv_topi (fun v177 ev177 => ?_)
      have tv177 : v177.toInt = (73) + x1.toInt := by rw [ev177]; exact add_i (by decide : (73 : Int32).toInt = 73) rfl (by omega) (by omega)
      refine t_ild8 hx hb hkb hH t_v171 (hO.no t_v171 (by decide)) (by decide) (by omega) (by omega) dX12_hold_178 (fun v178 h9 h8 => ?_)
      exact te_i hx hb hr hlocks hH hS (rfl) dX12_hold_179
    have tc18_7 := f_ne (k := 7) (by decide) c18_7
    by_cases c18_8 : x2 = 8
    · skip
      refine lv_topc c18_8 ?_
      have tc18_8 := f_eq (k := 8) (by decide) c18_8
      refine lv_tableIn (off := 162) (tgt := 180) hx hb dX12_hold_18 (by decide) (by decide) (by decide) (by decide) ?_
      refine lv_aload_n hx hb dX12_hold_180 rfl (lv_at hl 0 rfl) ?_
      refine t_get (ci := 12) (lst := ft12 hg mq) (C := RX12) (F := TX12) (N := 36) hx hb hts uX12 hown hkb hH t_a0 (hO.no t_a0 (by decide)) (fun _ h9 => h9) rfl rfl 1 (by decide) rfl kw_1224 (fun _ h9 => h9) dX12_hold_181 (fun v9 h9 => ?_)
      obtain ⟨v181, rfl, t_v181⟩ := h9
      refine lv_bipush (v := 87) hx hb dX12_hold_184 (by decide) ?_
      refine t_ild8 hx hb hkb hH t_v181 (hO.no t_v181 (by decide)) (by decide) (by decide) (by decide) dX12_hold_186 (fun v186 h9 h8 => ?_)
      refine lv_i2l hx hb dX12_hold_187 rfl ?_
      refine lv_iload_n hx hb dX12_hold_188 rfl (lv_at hl 1 rfl) ?_
      refine tk_i hH hS hA (tr_S (n := 2) (As := [.long v186.toInt64, .int x1]) hx hb hml hown hts hkb hH hOX hks hE hS hA (s_M_isIn2 l D cs kf T O X v186.toInt64 x1  (hO.sub (by decide))) kw_1440 kw_1441 kw_13 kw_1442 (by decide +kernel) ⟨Nat.le_of_ble_eq_true rfl, Nat.le_of_ble_eq_true rfl⟩ rfl rfl hl.1 (Nat.le_of_ble_eq_true rfl) dX12_hold_189 ⟨Nat.le_of_ble_eq_true rfl, Nat.le_of_ble_eq_true rfl⟩) (fun v189 u H locs hz9 hH hS => ?_)
      obtain ⟨rfl, l_v189, u_v189, x_v1890⟩ := hz9
      have hH : HT D cs A T O X H := hH
      refine W.widen (k := 0) (n := 0) (Nat.le_of_ble_eq_true rfl) (Nat.le_of_ble_eq_true rfl) ?_
      have J200 : ∀ (k200_0 : Int32) (H : Heap) (locs : List Loc) (ls : Array Slot), (0 ≤ k200_0.toInt) → (k200_0.toInt ≤ 1) → HT D cs A T O X H → va_S A s.heap H locs → lv_has ls 3 [] → W p l e { frames := 3, cells := 0, slots := 0, locals := 64 } s m [.ref a0, .int x1, .int x2].toArray below meth c H locs 0 0 (MQ below (Ti D cs (fun r u => u = (T, O, X)) A) [.ref a0, .int x1, .int x2].toArray s 0 0 A) (F0 m 200 ls [.int k200_0]) := by
        intro k200_0 H locs ls l_k200_0 u_k200_0 hH hS hl
        exact te_i hx hb hr hlocks hH hS (rfl) dX12_hold_200
      refine lv_if_eq (tgt := 199) hx hb dX12_hold_192 (by decide) (fun c192 => ?_) (fun c192 => ?_)
      · skip
        have tc192 := f_eq (k := 0) (by decide) c192
        refine lv_iconst (v := 0) hx hb dX12_hold_199 (by decide) ?_
        exact J200 0 _ _ _ (by decide) (by decide) hH hS (lv_sub hl [] rfl)
      · skip
        have tc192 := f_ne (k := 0) (by decide) c192
        refine lv_iconst (v := 1) hx hb dX12_hold_195 (by decide) ?_
        refine lv_goto (tgt := 200) hx hb dX12_hold_196 (by decide) ?_
        exact J200 1 _ _ _ (by decide) (by decide) hH hS (lv_sub hl [] rfl)
    have tc18_8 := f_ne (k := 8) (by decide) c18_8
    by_cases c18_9 : x2 = 9
    · skip
      refine lv_topc c18_9 ?_
      have tc18_9 := f_eq (k := 9) (by decide) c18_9
      refine lv_tableIn (off := 183) (tgt := 201) hx hb dX12_hold_18 (by decide) (by decide) (by decide) (by decide) ?_
      refine lv_aload_n hx hb dX12_hold_201 rfl (lv_at hl 0 rfl) ?_
      refine t_get (ci := 12) (lst := ft12 hg mq) (C := RX12) (F := TX12) (N := 36) hx hb hts uX12 hown hkb hH t_a0 (hO.no t_a0 (by decide)) (fun _ h9 => h9) rfl rfl 1 (by decide) rfl kw_1224 (fun _ h9 => h9) dX12_hold_202 (fun v9 h9 => ?_)
      obtain ⟨v202, rfl, t_v202⟩ := h9
      refine lv_bipush (v := 35) hx hb dX12_hold_205 (by decide) ?_
      refine lv_iload_n hx hb dX12_hold_207 rfl (lv_at hl 1 rfl) ?_
      refine lv_iadd hx hb dX12_hold_208 ?_
      refine lv_topi (fun v208 ev208 => ?_)
      have tv208 : v208.toInt = (35) + x1.toInt := by rw [ev208]; exact add_i (by decide : (35 : Int32).toInt = 35) rfl (by omega) (by omega)
      refine t_ild8 hx hb hkb hH t_v202 (hO.no t_v202 (by decide)) (by decide) (by omega) (by omega) dX12_hold_209 (fun v209 h9 h8 => ?_)
      exact te_i hx hb hr hlocks hH hS (rfl) dX12_hold_210
    have tc18_9 := f_ne (k := 9) (by decide) c18_9
    refine lv_tableOut (tgt := 211) hx hb dX12_hold_18 (by omega) (by decide) ?_
    refine lv_bipush (v := (-8)) hx hb dX12_hold_211 (by decide) ?_
    exact te_i hx hb hr hlocks hH hS (rfl) dX12_hold_213
  · skip
    have tc11 := f_eq (k := 0) (by decide) c11
    clear x_v80
    refine lv_bipush (v := (-8)) hx hb dX12_hold_14 (by decide) ?_
    exact te_i hx hb hr hlocks hH hS (rfl) dX12_hold_16
set_option maxHeartbeats 4000000 in
set_option maxRecDepth 100000 in
theorem s_M_guide (l : Launch) (D : va_G) (cs : CS) (kf : KF) (T : TF) (O : List Nat) (X : va_W) (a0 hg mq : Nat) (x1 : Int32) (x2 : Int32) (t_a0 : T a0 = some (22, hg, mq)) (b_hg : hg < 90) (hO : okO T O [8, 22]) : TK l D cs kf yX12_guide cX12_guide 3 (some (.int)) { frames := 2, cells := 0, slots := 0, locals := 47 } [.ref a0, .int x1, .int x2] T O X (Ti D cs (fun r u => u = (T, O, X))) := by
  refine tk_of (by decide) (Nat.le_of_ble_eq_true rfl) (fun p e s m below meth c ls A H locs hx hb hr hml hown hts hlocks hnm hkb hH hS hA hOX hks hE hl => ?_)
  have hown : s.vm.findClass RX12 = some m.cls := hown
  have hl : lv_has ls 3 [(0, .ref a0), (1, .int x1), (2, .int x2)] := hl
  refine lv_aload_n hx hb dX12_guide_0 rfl (lv_at hl 0 rfl) ?_
  refine lv_iconst (v := 0) hx hb dX12_guide_1 (by decide) ?_
  refine t_put (ci := 12) (lst := ft12 hg mq) (v := .int 0) (ty := tyX12 0) (C := RX12) (F := TX12) (N := 36) hx hb hts uX12 tyX12 tyX12_ok nmX12 hown hkb hH hS t_a0 (hO.no t_a0 (by decide)) (fun _ => Iff.rfl) rfl rfl 0 (by decide) rfl (⟨_, rfl⟩) kw_1223 (fun _ h9 => h9) rfl (tyX12_ok 0 (by decide)) rfl rfl dX12_guide_2 (fun H locs hH hS => ?_)
  refine lv_aload_n hx hb dX12_guide_5 rfl (lv_at hl 0 rfl) ?_
  refine lv_iload_n hx hb dX12_guide_6 rfl (lv_at hl 1 rfl) ?_
  refine lv_i2l hx hb dX12_guide_7 rfl ?_
  refine tk_i hH hS hA (tr_V (n := 1) (As := [.long x1.toInt64]) hx hb hml hown hts hkb hH hOX hks hE hS hA (s_M_isGuide l D cs kf T O X a0 hg mq x1.toInt64 t_a0 b_hg (hO.sub (by decide))) kw_1470 kw_1472 ks_67 kw_13 kw_1473 (by decide +kernel) ⟨Nat.le_of_ble_eq_true rfl, Nat.le_of_ble_eq_true rfl⟩ (HT.recv (ci := 12) hkb hH t_a0 (hO.no t_a0 (by decide)) rfl) rfl rfl hl.1 (Nat.le_of_ble_eq_true rfl) dX12_guide_8 ⟨Nat.le_of_ble_eq_true rfl, Nat.le_of_ble_eq_true rfl⟩) (fun v8 u H locs hz9 hH hS => ?_)
  obtain ⟨rfl, l_v8, u_v8, x_v80⟩ := hz9
  simp only [Int32.toInt_toInt64] at x_v80
  have hH : HT D cs A T O X H := hH
  refine W.widen (k := 0) (n := 0) (Nat.le_of_ble_eq_true rfl) (Nat.le_of_ble_eq_true rfl) ?_
  refine lv_if_ne (tgt := 17) hx hb dX12_guide_11 (by decide) (fun c11 => ?_) (fun c11 => ?_)
  · skip
    have tc11 := f_ne (k := 0) (by decide) c11
    replace x_v80 := x_v80.resolve_left tc11
    refine lv_iload_n hx hb dX12_guide_17 rfl (lv_at hl 2 rfl) ?_
    have J65 : ∀ (k65_0 : Int32) (H : Heap) (locs : List Loc) (ls : Array Slot), HT D cs A T O X H → va_S A s.heap H locs → lv_has ls 3 [] → W p l e { frames := 2, cells := 0, slots := 0, locals := 47 } s m [.ref a0, .int x1, .int x2].toArray below meth c H locs 0 0 (MQ below (Ti D cs (fun r u => u = (T, O, X)) A) [.ref a0, .int x1, .int x2].toArray s 0 0 A) (F0 m 65 ls [.int k65_0]) := by
      intro k65_0 H locs ls  hH hS hl
      exact te_i hx hb hr hlocks hH hS (rfl) dX12_guide_65
    refine lv_if_ne (tgt := 33) hx hb dX12_guide_18 (by decide) (fun c18 => ?_) (fun c18 => ?_)
    · skip
      have tc18 := f_ne (k := 0) (by decide) c18
      refine lv_iload_n hx hb dX12_guide_33 rfl (lv_at hl 2 rfl) ?_
      refine lv_iconst (v := 1) hx hb dX12_guide_34 (by decide) ?_
      refine lv_icmp_ne (tgt := 50) hx hb dX12_guide_35 (by decide) (fun c35 => ?_) (fun c35 => ?_)
      · skip
        have tc35 := f_ne (k := 1) (by decide) c35
        refine lv_iload_n hx hb dX12_guide_50 rfl (lv_at hl 2 rfl) ?_
        refine lv_iconst (v := 2) hx hb dX12_guide_51 (by decide) ?_
        refine lv_icmp_ne (tgt := 63) hx hb dX12_guide_52 (by decide) (fun c52 => ?_) (fun c52 => ?_)
        · skip
          have tc52 := f_ne (k := 2) (by decide) c52
          refine lv_bipush (v := (-2)) hx hb dX12_guide_63 (by decide) ?_
          exact J65 (-2) _ _ _  hH hS (lv_sub hl [] rfl)
        · skip
          have tc52 := f_eq (k := 2) (by decide) c52
          refine lv_aload_n hx hb dX12_guide_55 rfl (lv_at hl 0 rfl) ?_
          refine lv_iload_n hx hb dX12_guide_56 rfl (lv_at hl 1 rfl) ?_
          refine tk_i hH hS hA (tr_V (n := 1) (As := [.int x1]) hx hb hml hown hts hkb hH hOX hks hE hS hA (s_M_usedBy l D cs kf T O X a0 hg mq x1 t_a0 b_hg (hO.sub (by decide))) kw_1474 kw_1476 ks_68 kw_13 kw_1477 (by decide +kernel) ⟨Nat.le_of_ble_eq_true rfl, Nat.le_of_ble_eq_true rfl⟩ (HT.recv (ci := 12) hkb hH t_a0 (hO.no t_a0 (by decide)) rfl) rfl rfl hl.1 (Nat.le_of_ble_eq_true rfl) dX12_guide_57 ⟨Nat.le_of_ble_eq_true rfl, Nat.le_of_ble_eq_true rfl⟩) (fun v57 u H locs hz9 hH hS => ?_)
          obtain ⟨rfl, l_v57, u_v57⟩ := hz9
          have hH : HT D cs A T O X H := hH
          refine W.widen (k := 0) (n := 0) (Nat.le_of_ble_eq_true rfl) (Nat.le_of_ble_eq_true rfl) ?_
          refine lv_goto (tgt := 65) hx hb dX12_guide_60 (by decide) ?_
          exact J65 v57 _ _ _  hH hS (lv_sub hl [] rfl)
      · skip
        have tc35 := f_eq (k := 1) (by decide) c35
        refine lv_aload_n hx hb dX12_guide_38 rfl (lv_at hl 0 rfl) ?_
        refine t_get (ci := 12) (lst := ft12 hg mq) (C := RX12) (F := TX12) (N := 36) hx hb hts uX12 hown hkb hH t_a0 (hO.no t_a0 (by decide)) (fun _ h9 => h9) rfl rfl 1 (by decide) rfl kw_1224 (fun _ h9 => h9) dX12_guide_39 (fun v9 h9 => ?_)
        obtain ⟨v39, rfl, t_v39⟩ := h9
        refine lv_bipush (v := 54) hx hb dX12_guide_42 (by decide) ?_
        refine lv_iload_n hx hb dX12_guide_44 rfl (lv_at hl 1 rfl) ?_
        refine lv_iadd hx hb dX12_guide_45 ?_
        refine lv_topi (fun v45 ev45 => ?_)
        have tv45 : v45.toInt = (54) + x1.toInt := by rw [ev45]; exact add_i (by decide : (54 : Int32).toInt = 54) rfl (by omega) (by omega)
        refine t_ild8 hx hb hkb hH t_v39 (hO.no t_v39 (by decide)) (by decide) (by omega) (by omega) dX12_guide_46 (fun v46 h9 h8 => ?_)
        refine lv_goto (tgt := 65) hx hb dX12_guide_47 (by decide) ?_
        exact J65 v46 _ _ _  hH hS (lv_sub hl [] rfl)
    · skip
      have tc18 := f_eq (k := 0) (by decide) c18
      refine lv_aload_n hx hb dX12_guide_21 rfl (lv_at hl 0 rfl) ?_
      refine t_get (ci := 12) (lst := ft12 hg mq) (C := RX12) (F := TX12) (N := 36) hx hb hts uX12 hown hkb hH t_a0 (hO.no t_a0 (by decide)) (fun _ h9 => h9) rfl rfl 1 (by decide) rfl kw_1224 (fun _ h9 => h9) dX12_guide_22 (fun v9 h9 => ?_)
      obtain ⟨v22, rfl, t_v22⟩ := h9
      refine lv_bipush (v := 49) hx hb dX12_guide_25 (by decide) ?_
      refine lv_iload_n hx hb dX12_guide_27 rfl (lv_at hl 1 rfl) ?_
      refine lv_iadd hx hb dX12_guide_28 ?_
      refine lv_topi (fun v28 ev28 => ?_)
      have tv28 : v28.toInt = (49) + x1.toInt := by rw [ev28]; exact add_i (by decide : (49 : Int32).toInt = 49) rfl (by omega) (by omega)
      refine t_ild8 hx hb hkb hH t_v22 (hO.no t_v22 (by decide)) (by decide) (by omega) (by omega) dX12_guide_29 (fun v29 h9 h8 => ?_)
      refine lv_goto (tgt := 65) hx hb dX12_guide_30 (by decide) ?_
      exact J65 v29 _ _ _  hH hS (lv_sub hl [] rfl)
  · skip
    have tc11 := f_eq (k := 0) (by decide) c11
    clear x_v80
    refine lv_bipush (v := (-2)) hx hb dX12_guide_14 (by decide) ?_
    exact te_i hx hb hr hlocks hH hS (rfl) dX12_guide_16
set_option maxHeartbeats 4000000 in
set_option maxRecDepth 100000 in
theorem s_M_count (l : Launch) (D : va_G) (cs : CS) (kf : KF) (T : TF) (O : List Nat) (X : va_W) (a0 hg mq : Nat) (x1 : Int32) (t_a0 : T a0 = some (22, hg, mq)) (b_hg : hg < 90) (hO : okO T O [8, 22]) : TK l D cs kf yX12_count cX12_count 2 (some (.int)) { frames := 4, cells := 0, slots := 0, locals := 86 } [.ref a0, .int x1] T O X (Ti D cs (fun r u => u = (T, O, X))) := by
  refine tk_of (by decide) (Nat.le_of_ble_eq_true rfl) (fun p e s m below meth c ls A H locs hx hb hr hml hown hts hlocks hnm hkb hH hS hA hOX hks hE hl => ?_)
  have hown : s.vm.findClass RX12 = some m.cls := hown
  have hl : lv_has ls 2 [(0, .ref a0), (1, .int x1)] := hl
  refine lv_aload_n hx hb dX12_count_0 rfl (lv_at hl 0 rfl) ?_
  refine lv_iconst (v := 0) hx hb dX12_count_1 (by decide) ?_
  refine t_put (ci := 12) (lst := ft12 hg mq) (v := .int 0) (ty := tyX12 0) (C := RX12) (F := TX12) (N := 36) hx hb hts uX12 tyX12 tyX12_ok nmX12 hown hkb hH hS t_a0 (hO.no t_a0 (by decide)) (fun _ => Iff.rfl) rfl rfl 0 (by decide) rfl (⟨_, rfl⟩) kw_1223 (fun _ h9 => h9) rfl (tyX12_ok 0 (by decide)) rfl rfl dX12_count_2 (fun H locs hH hS => ?_)
  refine lv_iload_n hx hb dX12_count_5 rfl (lv_at hl 1 rfl) ?_
  by_cases c6_0 : x1 = 0
  · skip
    refine lv_topc c6_0 ?_
    have tc6_0 := f_eq (k := 0) (by decide) c6_0
    refine lv_tableIn (off := 54) (tgt := 60) hx hb dX12_count_6 (by decide) (by decide) (by decide) (by decide) ?_
    refine lv_aload_n hx hb dX12_count_60 rfl (lv_at hl 0 rfl) ?_
    refine t_get (ci := 12) (lst := ft12 hg mq) (C := RX12) (F := TX12) (N := 36) hx hb hts uX12 hown hkb hH t_a0 (hO.no t_a0 (by decide)) (fun _ h9 => h9) rfl rfl 1 (by decide) rfl kw_1224 (fun _ h9 => h9) dX12_count_61 (fun v9 h9 => ?_)
    obtain ⟨v61, rfl, t_v61⟩ := h9
    refine lv_iconst (v := 1) hx hb dX12_count_64 (by decide) ?_
    refine t_ild8 hx hb hkb hH t_v61 (hO.no t_v61 (by decide)) (by decide) (by decide) (by decide) dX12_count_65 (fun v65 h9 h8 => ?_)
    have q9 := (h8 rfl).1 rfl
    subst q9
    have eH9 : (nI (hg / 6)).toInt = (((hg / 6) : Nat) : Int) := nI_toInt (by omega)
    exact te_i hx hb hr hlocks hH hS (rfl) dX12_count_66
  have tc6_0 := f_ne (k := 0) (by decide) c6_0
  by_cases c6_1 : x1 = 1
  · skip
    refine lv_topc c6_1 ?_
    have tc6_1 := f_eq (k := 1) (by decide) c6_1
    refine lv_tableIn (off := 61) (tgt := 67) hx hb dX12_count_6 (by decide) (by decide) (by decide) (by decide) ?_
    refine lv_aload_n hx hb dX12_count_67 rfl (lv_at hl 0 rfl) ?_
    refine t_get (ci := 12) (lst := ft12 hg mq) (C := RX12) (F := TX12) (N := 36) hx hb hts uX12 hown hkb hH t_a0 (hO.no t_a0 (by decide)) (fun _ h9 => h9) rfl rfl 1 (by decide) rfl kw_1224 (fun _ h9 => h9) dX12_count_68 (fun v9 h9 => ?_)
    obtain ⟨v68, rfl, t_v68⟩ := h9
    refine lv_iconst (v := 2) hx hb dX12_count_71 (by decide) ?_
    refine t_ild8 hx hb hkb hH t_v68 (hO.no t_v68 (by decide)) (by decide) (by decide) (by decide) dX12_count_72 (fun v72 h9 h8 => ?_)
    have q9 := (h8 rfl).2 rfl
    subst q9
    have eG9 : (nI (hg % 6)).toInt = (((hg % 6) : Nat) : Int) := nI_toInt (by omega)
    exact te_i hx hb hr hlocks hH hS (rfl) dX12_count_73
  have tc6_1 := f_ne (k := 1) (by decide) c6_1
  by_cases c6_2 : x1 = 2
  · skip
    refine lv_topc c6_2 ?_
    have tc6_2 := f_eq (k := 2) (by decide) c6_2
    refine lv_tableIn (off := 68) (tgt := 74) hx hb dX12_count_6 (by decide) (by decide) (by decide) (by decide) ?_
    refine lv_aload_n hx hb dX12_count_74 rfl (lv_at hl 0 rfl) ?_
    refine t_get (ci := 12) (lst := ft12 hg mq) (C := RX12) (F := TX12) (N := 36) hx hb hts uX12 hown hkb hH t_a0 (hO.no t_a0 (by decide)) (fun _ h9 => h9) rfl rfl 1 (by decide) rfl kw_1224 (fun _ h9 => h9) dX12_count_75 (fun v9 h9 => ?_)
    obtain ⟨v75, rfl, t_v75⟩ := h9
    refine lv_bipush (v := 88) hx hb dX12_count_78 (by decide) ?_
    refine t_ild8 hx hb hkb hH t_v75 (hO.no t_v75 (by decide)) (by decide) (by decide) (by decide) dX12_count_80 (fun v80 h9 h8 => ?_)
    exact te_i hx hb hr hlocks hH hS (rfl) dX12_count_81
  have tc6_2 := f_ne (k := 2) (by decide) c6_2
  by_cases c6_3 : x1 = 3
  · skip
    refine lv_topc c6_3 ?_
    have tc6_3 := f_eq (k := 3) (by decide) c6_3
    refine lv_tableIn (off := 76) (tgt := 82) hx hb dX12_count_6 (by decide) (by decide) (by decide) (by decide) ?_
    refine lv_aload_n hx hb dX12_count_82 rfl (lv_at hl 0 rfl) ?_
    refine t_get (ci := 12) (lst := ft12 hg mq) (C := RX12) (F := TX12) (N := 36) hx hb hts uX12 hown hkb hH t_a0 (hO.no t_a0 (by decide)) (fun _ h9 => h9) rfl rfl 1 (by decide) rfl kw_1224 (fun _ h9 => h9) dX12_count_83 (fun v9 h9 => ?_)
    obtain ⟨v83, rfl, t_v83⟩ := h9
    refine lv_bipush (v := 89) hx hb dX12_count_86 (by decide) ?_
    refine t_ild8 hx hb hkb hH t_v83 (hO.no t_v83 (by decide)) (by decide) (by decide) (by decide) dX12_count_88 (fun v88 h9 h8 => ?_)
    exact te_i hx hb hr hlocks hH hS (rfl) dX12_count_89
  have tc6_3 := f_ne (k := 3) (by decide) c6_3
  by_cases c6_4 : x1 = 4
  · skip
    refine lv_topc c6_4 ?_
    have tc6_4 := f_eq (k := 4) (by decide) c6_4
    refine lv_tableIn (off := 84) (tgt := 90) hx hb dX12_count_6 (by decide) (by decide) (by decide) (by decide) ?_
    refine lv_aload_n hx hb dX12_count_90 rfl (lv_at hl 0 rfl) ?_
    refine tk_i hH hS hA (tr_V (n := 0) (As := []) hx hb hml hown hts hkb hH hOX hks hE hS hA (s_M_usedMany l D cs kf T O X a0 hg mq t_a0 b_hg (hO.sub (by decide))) kw_1594 kw_1596 ks_86 kw_13 kw_1597 (by decide +kernel) ⟨Nat.le_of_ble_eq_true rfl, Nat.le_of_ble_eq_true rfl⟩ (HT.recv (ci := 12) hkb hH t_a0 (hO.no t_a0 (by decide)) rfl) rfl rfl hl.1 (Nat.le_of_ble_eq_true rfl) dX12_count_91 ⟨Nat.le_of_ble_eq_true rfl, Nat.le_of_ble_eq_true rfl⟩) (fun v91 u H locs hz9 hH hS => ?_)
    have hz9 : u = (T, O, X) := hz9
    subst hz9
    have hH : HT D cs A T O X H := hH
    refine W.widen (k := 0) (n := 0) (Nat.le_of_ble_eq_true rfl) (Nat.le_of_ble_eq_true rfl) ?_
    exact te_i hx hb hr hlocks hH hS (rfl) dX12_count_94
  have tc6_4 := f_ne (k := 4) (by decide) c6_4
  by_cases c6_5 : x1 = 5
  · skip
    refine lv_topc c6_5 ?_
    have tc6_5 := f_eq (k := 5) (by decide) c6_5
    refine lv_tableIn (off := 89) (tgt := 95) hx hb dX12_count_6 (by decide) (by decide) (by decide) (by decide) ?_
    refine lv_aload_n hx hb dX12_count_95 rfl (lv_at hl 0 rfl) ?_
    refine tk_i hH hS hA (tr_V (n := 0) (As := []) hx hb hml hown hts hkb hH hOX hks hE hS hA (s_M_openSet l D cs kf T O X a0 hg mq t_a0 b_hg (hO.sub (by decide))) kw_1510 kw_1512 ks_73 kw_13 kw_1513 (by decide +kernel) ⟨Nat.le_of_ble_eq_true rfl, Nat.le_of_ble_eq_true rfl⟩ (HT.recv (ci := 12) hkb hH t_a0 (hO.no t_a0 (by decide)) rfl) rfl rfl hl.1 (Nat.le_of_ble_eq_true rfl) dX12_count_96 ⟨Nat.le_of_ble_eq_true rfl, Nat.le_of_ble_eq_true rfl⟩) (fun v96 u H locs hz9 hH hS => ?_)
    obtain ⟨rfl, l_v96, u_v96⟩ := hz9
    have hH : HT D cs A T O X H := hH
    refine W.widen (k := 0) (n := 0) (Nat.le_of_ble_eq_true rfl) (Nat.le_of_ble_eq_true rfl) ?_
    refine tk_i hH hS hA (tr_S (n := 1) (As := [.int v96]) hx hb hml hown hts hkb hH hOX hks hE hS hA (s_M_bitsOf l D cs kf T O X v96  (hO.sub (by decide))) kw_1631 kw_1632 kw_13 kw_1633 (by decide +kernel) ⟨Nat.le_of_ble_eq_true rfl, Nat.le_of_ble_eq_true rfl⟩ rfl rfl hl.1 (Nat.le_of_ble_eq_true rfl) dX12_count_99 ⟨Nat.le_of_ble_eq_true rfl, Nat.le_of_ble_eq_true rfl⟩) (fun v99 u H locs hz9 hH hS => ?_)
    have hz9 : u = (T, O, X) := hz9
    subst hz9
    have hH : HT D cs A T O X H := hH
    refine W.widen (k := 0) (n := 0) (Nat.le_of_ble_eq_true rfl) (Nat.le_of_ble_eq_true rfl) ?_
    exact te_i hx hb hr hlocks hH hS (rfl) dX12_count_102
  have tc6_5 := f_ne (k := 5) (by decide) c6_5
  by_cases c6_6 : x1 = 6
  · skip
    refine lv_topc c6_6 ?_
    have tc6_6 := f_eq (k := 6) (by decide) c6_6
    refine lv_tableIn (off := 97) (tgt := 103) hx hb dX12_count_6 (by decide) (by decide) (by decide) (by decide) ?_
    refine lv_aload_n hx hb dX12_count_103 rfl (lv_at hl 0 rfl) ?_
    refine t_get (ci := 12) (lst := ft12 hg mq) (C := RX12) (F := TX12) (N := 36) hx hb hts uX12 hown hkb hH t_a0 (hO.no t_a0 (by decide)) (fun _ h9 => h9) rfl rfl 1 (by decide) rfl kw_1224 (fun _ h9 => h9) dX12_count_104 (fun v9 h9 => ?_)
    obtain ⟨v104, rfl, t_v104⟩ := h9
    refine lv_bipush (v := 90) hx hb dX12_count_107 (by decide) ?_
    refine t_ild8 hx hb hkb hH t_v104 (hO.no t_v104 (by decide)) (by decide) (by decide) (by decide) dX12_count_109 (fun v109 h9 h8 => ?_)
    have tv109 : 0 ≤ v109.toInt ∧ v109.toInt ≤ 10 := h9.2.2.2.2.2.1 (by decide)
    exact te_i hx hb hr hlocks hH hS (rfl) dX12_count_110
  have tc6_6 := f_ne (k := 6) (by decide) c6_6
  by_cases c6_7 : x1 = 7
  · skip
    refine lv_topc c6_7 ?_
    have tc6_7 := f_eq (k := 7) (by decide) c6_7
    refine lv_tableIn (off := 105) (tgt := 111) hx hb dX12_count_6 (by decide) (by decide) (by decide) (by decide) ?_
    refine lv_aload_n hx hb dX12_count_111 rfl (lv_at hl 0 rfl) ?_
    refine t_get (ci := 12) (lst := ft12 hg mq) (C := RX12) (F := TX12) (N := 36) hx hb hts uX12 hown hkb hH t_a0 (hO.no t_a0 (by decide)) (fun _ h9 => h9) rfl rfl 5 (by decide) rfl kw_1228 (fun _ h9 => h9) dX12_count_112 (fun v9 h9 => ?_)
    obtain ⟨v112, rfl, l_v112, u_v112, eg_v112⟩ := h9
    exact te_i hx hb hr hlocks hH hS (rfl) dX12_count_115
  have tc6_7 := f_ne (k := 7) (by decide) c6_7
  by_cases c6_8 : x1 = 8
  · skip
    refine lv_topc c6_8 ?_
    have tc6_8 := f_eq (k := 8) (by decide) c6_8
    refine lv_tableIn (off := 110) (tgt := 116) hx hb dX12_count_6 (by decide) (by decide) (by decide) (by decide) ?_
    refine lv_aload_n hx hb dX12_count_116 rfl (lv_at hl 0 rfl) ?_
    refine t_get (ci := 12) (lst := ft12 hg mq) (C := RX12) (F := TX12) (N := 36) hx hb hts uX12 hown hkb hH t_a0 (hO.no t_a0 (by decide)) (fun _ h9 => h9) rfl rfl 1 (by decide) rfl kw_1224 (fun _ h9 => h9) dX12_count_117 (fun v9 h9 => ?_)
    obtain ⟨v117, rfl, t_v117⟩ := h9
    refine lv_iconst (v := 0) hx hb dX12_count_120 (by decide) ?_
    refine t_ild8 hx hb hkb hH t_v117 (hO.no t_v117 (by decide)) (by decide) (by decide) (by decide) dX12_count_121 (fun v121 h9 h8 => ?_)
    exact te_i hx hb hr hlocks hH hS (rfl) dX12_count_122
  have tc6_8 := f_ne (k := 8) (by decide) c6_8
  by_cases c6_9 : x1 = 9
  · skip
    refine lv_topc c6_9 ?_
    have tc6_9 := f_eq (k := 9) (by decide) c6_9
    refine lv_tableIn (off := 117) (tgt := 123) hx hb dX12_count_6 (by decide) (by decide) (by decide) (by decide) ?_
    refine lv_aload_n hx hb dX12_count_123 rfl (lv_at hl 0 rfl) ?_
    refine t_get (ci := 12) (lst := ft12 hg mq) (C := RX12) (F := TX12) (N := 36) hx hb hts uX12 hown hkb hH t_a0 (hO.no t_a0 (by decide)) (fun _ h9 => h9) rfl rfl 1 (by decide) rfl kw_1224 (fun _ h9 => h9) dX12_count_124 (fun v9 h9 => ?_)
    obtain ⟨v124, rfl, t_v124⟩ := h9
    refine lv_bipush (v := 87) hx hb dX12_count_127 (by decide) ?_
    refine t_ild8 hx hb hkb hH t_v124 (hO.no t_v124 (by decide)) (by decide) (by decide) (by decide) dX12_count_129 (fun v129 h9 h8 => ?_)
    refine tk_i hH hS hA (tr_S (n := 1) (As := [.int v129]) hx hb hml hown hts hkb hH hOX hks hE hS hA (s_M_bitsOf l D cs kf T O X v129  (hO.sub (by decide))) kw_1631 kw_1632 kw_13 kw_1633 (by decide +kernel) ⟨Nat.le_of_ble_eq_true rfl, Nat.le_of_ble_eq_true rfl⟩ rfl rfl hl.1 (Nat.le_of_ble_eq_true rfl) dX12_count_130 ⟨Nat.le_of_ble_eq_true rfl, Nat.le_of_ble_eq_true rfl⟩) (fun v130 u H locs hz9 hH hS => ?_)
    have hz9 : u = (T, O, X) := hz9
    subst hz9
    have hH : HT D cs A T O X H := hH
    refine W.widen (k := 0) (n := 0) (Nat.le_of_ble_eq_true rfl) (Nat.le_of_ble_eq_true rfl) ?_
    exact te_i hx hb hr hlocks hH hS (rfl) dX12_count_133
  have tc6_9 := f_ne (k := 9) (by decide) c6_9
  refine lv_tableOut (tgt := 134) hx hb dX12_count_6 (by omega) (by decide) ?_
  refine lv_iconst (v := (-1)) hx hb dX12_count_134 (by decide) ?_
  exact te_i hx hb hr hlocks hH hS (rfl) dX12_count_135
theorem dX12_mayStep_0 : decode cX12_mayStep 0 = .ok (.aload_n 0, 1) := by decide +kernel
theorem dX12_mayStep_1 : decode cX12_mayStep 1 = .ok (.getfield 13, 3) := by decide +kernel
theorem dX12_mayStep_4 : decode cX12_mayStep 4 = .ok (.iconst 3, 1) := by decide +kernel
theorem dX12_mayStep_5 : decode cX12_mayStep 5 = .ok (.iaload, 1) := by decide +kernel
theorem dX12_mayStep_6 : decode cX12_mayStep 6 = .ok (.ifCond .ne 24, 3) := by decide +kernel
theorem dX12_mayStep_9 : decode cX12_mayStep 9 = .ok (.aload_n 0, 1) := by decide +kernel
theorem dX12_mayStep_10 : decode cX12_mayStep 10 = .ok (.iconst 2, 1) := by decide +kernel
theorem dX12_mayStep_11 : decode cX12_mayStep 11 = .ok (.iload_n 1, 1) := by decide +kernel
theorem dX12_mayStep_12 : decode cX12_mayStep 12 = .ok (.iload_n 2, 1) := by decide +kernel
theorem dX12_mayStep_13 : decode cX12_mayStep 13 = .ok (.iload_n 3, 1) := by decide +kernel
theorem dX12_mayStep_14 : decode cX12_mayStep 14 = .ok (.invokevirtual 238, 3) := by decide +kernel
theorem dX12_mayStep_17 : decode cX12_mayStep 17 = .ok (.aload_n 0, 1) := by decide +kernel
theorem dX12_mayStep_18 : decode cX12_mayStep 18 = .ok (.getfield 231, 3) := by decide +kernel
theorem dX12_mayStep_21 : decode cX12_mayStep 21 = .ok (.if_icmp .gt 7, 3) := by decide +kernel
theorem dX12_mayStep_24 : decode cX12_mayStep 24 = .ok (.iconst 1, 1) := by decide +kernel
theorem dX12_mayStep_25 : decode cX12_mayStep 25 = .ok (.goto 4, 3) := by decide +kernel
theorem dX12_mayStep_28 : decode cX12_mayStep 28 = .ok (.iconst 0, 1) := by decide +kernel
theorem dX12_mayStep_29 : decode cX12_mayStep 29 = .ok (.ireturn, 1) := by decide +kernel
theorem dX12_mayStep_30 : decode cX12_mayStep 30 = .ok (.iconst 0, 1) := by decide +kernel
theorem dX12_mayStep_31 : decode cX12_mayStep 31 = .ok (.istore 4, 2) := by decide +kernel
theorem dX12_mayStep_33 : decode cX12_mayStep 33 = .ok (.iconst 0, 1) := by decide +kernel
theorem dX12_mayStep_34 : decode cX12_mayStep 34 = .ok (.istore 5, 2) := by decide +kernel
theorem dX12_mayStep_36 : decode cX12_mayStep 36 = .ok (.iload 5, 2) := by decide +kernel
theorem dX12_mayStep_38 : decode cX12_mayStep 38 = .ok (.aload_n 0, 1) := by decide +kernel
theorem dX12_mayStep_39 : decode cX12_mayStep 39 = .ok (.getfield 13, 3) := by decide +kernel
theorem dX12_mayStep_42 : decode cX12_mayStep 42 = .ok (.sipush 401, 3) := by decide +kernel
theorem dX12_mayStep_45 : decode cX12_mayStep 45 = .ok (.iaload, 1) := by decide +kernel
theorem dX12_mayStep_46 : decode cX12_mayStep 46 = .ok (.if_icmp .ge 133, 3) := by decide +kernel
theorem dX12_mayStep_49 : decode cX12_mayStep 49 = .ok (.aload_n 0, 1) := by decide +kernel
theorem dX12_mayStep_50 : decode cX12_mayStep 50 = .ok (.getfield 13, 3) := by decide +kernel
theorem dX12_mayStep_53 : decode cX12_mayStep 53 = .ok (.sipush 402, 3) := by decide +kernel
theorem dX12_mayStep_56 : decode cX12_mayStep 56 = .ok (.iload 5, 2) := by decide +kernel
theorem dX12_mayStep_58 : decode cX12_mayStep 58 = .ok (.iadd, 1) := by decide +kernel
theorem dX12_mayStep_59 : decode cX12_mayStep 59 = .ok (.iaload, 1) := by decide +kernel
theorem dX12_mayStep_60 : decode cX12_mayStep 60 = .ok (.istore 6, 2) := by decide +kernel
theorem dX12_mayStep_62 : decode cX12_mayStep 62 = .ok (.iload 6, 2) := by decide +kernel
theorem dX12_mayStep_64 : decode cX12_mayStep 64 = .ok (.sipush 3000, 3) := by decide +kernel
theorem dX12_mayStep_67 : decode cX12_mayStep 67 = .ok (.if_icmp .ge 42, 3) := by decide +kernel
theorem dX12_mayStep_70 : decode cX12_mayStep 70 = .ok (.aload_n 0, 1) := by decide +kernel
theorem dX12_mayStep_71 : decode cX12_mayStep 71 = .ok (.getfield 30, 3) := by decide +kernel
theorem dX12_mayStep_74 : decode cX12_mayStep 74 = .ok (.iload 4, 2) := by decide +kernel
theorem dX12_mayStep_76 : decode cX12_mayStep 76 = .ok (.iload 6, 2) := by decide +kernel
theorem dX12_mayStep_78 : decode cX12_mayStep 78 = .ok (.sipush 1000, 3) := by decide +kernel
theorem dX12_mayStep_81 : decode cX12_mayStep 81 = .ok (.if_icmp .ge 8, 3) := by decide +kernel
theorem dX12_mayStep_84 : decode cX12_mayStep 84 = .ok (.iload 6, 2) := by decide +kernel
theorem dX12_mayStep_86 : decode cX12_mayStep 86 = .ok (.goto 16, 3) := by decide +kernel
theorem dX12_mayStep_89 : decode cX12_mayStep 89 = .ok (.aload_n 0, 1) := by decide +kernel
theorem dX12_mayStep_90 : decode cX12_mayStep 90 = .ok (.iload 6, 2) := by decide +kernel
theorem dX12_mayStep_92 : decode cX12_mayStep 92 = .ok (.sipush 1000, 3) := by decide +kernel
theorem dX12_mayStep_95 : decode cX12_mayStep 95 = .ok (.isub, 1) := by decide +kernel
theorem dX12_mayStep_96 : decode cX12_mayStep 96 = .ok (.iload_n 1, 1) := by decide +kernel
theorem dX12_mayStep_97 : decode cX12_mayStep 97 = .ok (.iload_n 2, 1) := by decide +kernel
theorem dX12_mayStep_98 : decode cX12_mayStep 98 = .ok (.iload_n 3, 1) := by decide +kernel
theorem dX12_mayStep_99 : decode cX12_mayStep 99 = .ok (.invokevirtual 238, 3) := by decide +kernel
theorem dX12_mayStep_102 : decode cX12_mayStep 102 = .ok (.iastore, 1) := by decide +kernel
theorem dX12_mayStep_103 : decode cX12_mayStep 103 = .ok (.iinc 4 1, 3) := by decide +kernel
theorem dX12_mayStep_106 : decode cX12_mayStep 106 = .ok (.goto 67, 3) := by decide +kernel
theorem dX12_mayStep_109 : decode cX12_mayStep 109 = .ok (.iload 6, 2) := by decide +kernel
theorem dX12_mayStep_111 : decode cX12_mayStep 111 = .ok (.sipush 3008, 3) := by decide +kernel
theorem dX12_mayStep_114 : decode cX12_mayStep 114 = .ok (.if_icmp .ne 26, 3) := by decide +kernel
theorem dX12_mayStep_117 : decode cX12_mayStep 117 = .ok (.aload_n 0, 1) := by decide +kernel
theorem dX12_mayStep_118 : decode cX12_mayStep 118 = .ok (.getfield 30, 3) := by decide +kernel
theorem dX12_mayStep_121 : decode cX12_mayStep 121 = .ok (.iload 4, 2) := by decide +kernel
theorem dX12_mayStep_123 : decode cX12_mayStep 123 = .ok (.iconst 1, 1) := by decide +kernel
theorem dX12_mayStep_124 : decode cX12_mayStep 124 = .ok (.isub, 1) := by decide +kernel
theorem dX12_mayStep_125 : decode cX12_mayStep 125 = .ok (.iconst 1, 1) := by decide +kernel
theorem dX12_mayStep_126 : decode cX12_mayStep 126 = .ok (.aload_n 0, 1) := by decide +kernel
theorem dX12_mayStep_127 : decode cX12_mayStep 127 = .ok (.getfield 30, 3) := by decide +kernel
theorem dX12_mayStep_130 : decode cX12_mayStep 130 = .ok (.iload 4, 2) := by decide +kernel
theorem dX12_mayStep_132 : decode cX12_mayStep 132 = .ok (.iconst 1, 1) := by decide +kernel
theorem dX12_mayStep_133 : decode cX12_mayStep 133 = .ok (.isub, 1) := by decide +kernel
theorem dX12_mayStep_134 : decode cX12_mayStep 134 = .ok (.iaload, 1) := by decide +kernel
theorem dX12_mayStep_135 : decode cX12_mayStep 135 = .ok (.isub, 1) := by decide +kernel
theorem dX12_mayStep_136 : decode cX12_mayStep 136 = .ok (.iastore, 1) := by decide +kernel
theorem dX12_mayStep_137 : decode cX12_mayStep 137 = .ok (.goto 36, 3) := by decide +kernel
theorem dX12_mayStep_140 : decode cX12_mayStep 140 = .ok (.iinc 4 (-1), 3) := by decide +kernel
theorem dX12_mayStep_143 : decode cX12_mayStep 143 = .ok (.aload_n 0, 1) := by decide +kernel
theorem dX12_mayStep_144 : decode cX12_mayStep 144 = .ok (.getfield 30, 3) := by decide +kernel
theorem dX12_mayStep_147 : decode cX12_mayStep 147 = .ok (.iload 4, 2) := by decide +kernel
theorem dX12_mayStep_149 : decode cX12_mayStep 149 = .ok (.iconst 1, 1) := by decide +kernel
theorem dX12_mayStep_150 : decode cX12_mayStep 150 = .ok (.isub, 1) := by decide +kernel
theorem dX12_mayStep_151 : decode cX12_mayStep 151 = .ok (.iload 6, 2) := by decide +kernel
theorem dX12_mayStep_153 : decode cX12_mayStep 153 = .ok (.aload_n 0, 1) := by decide +kernel
theorem dX12_mayStep_154 : decode cX12_mayStep 154 = .ok (.getfield 30, 3) := by decide +kernel
theorem dX12_mayStep_157 : decode cX12_mayStep 157 = .ok (.iload 4, 2) := by decide +kernel
theorem dX12_mayStep_159 : decode cX12_mayStep 159 = .ok (.iconst 1, 1) := by decide +kernel
theorem dX12_mayStep_160 : decode cX12_mayStep 160 = .ok (.isub, 1) := by decide +kernel
theorem dX12_mayStep_161 : decode cX12_mayStep 161 = .ok (.iaload, 1) := by decide +kernel
theorem dX12_mayStep_162 : decode cX12_mayStep 162 = .ok (.aload_n 0, 1) := by decide +kernel
theorem dX12_mayStep_163 : decode cX12_mayStep 163 = .ok (.getfield 30, 3) := by decide +kernel
theorem dX12_mayStep_166 : decode cX12_mayStep 166 = .ok (.iload 4, 2) := by decide +kernel
theorem dX12_mayStep_168 : decode cX12_mayStep 168 = .ok (.iaload, 1) := by decide +kernel
theorem dX12_mayStep_169 : decode cX12_mayStep 169 = .ok (.invokestatic 242, 3) := by decide +kernel
theorem dX12_mayStep_172 : decode cX12_mayStep 172 = .ok (.iastore, 1) := by decide +kernel
theorem dX12_mayStep_173 : decode cX12_mayStep 173 = .ok (.iinc 5 1, 3) := by decide +kernel
theorem dX12_mayStep_176 : decode cX12_mayStep 176 = .ok (.goto (-140), 3) := by decide +kernel
theorem dX12_mayStep_179 : decode cX12_mayStep 179 = .ok (.aload_n 0, 1) := by decide +kernel
theorem dX12_mayStep_180 : decode cX12_mayStep 180 = .ok (.getfield 30, 3) := by decide +kernel
theorem dX12_mayStep_183 : decode cX12_mayStep 183 = .ok (.iconst 0, 1) := by decide +kernel
theorem dX12_mayStep_184 : decode cX12_mayStep 184 = .ok (.iaload, 1) := by decide +kernel
theorem dX12_mayStep_185 : decode cX12_mayStep 185 = .ok (.iconst 1, 1) := by decide +kernel
theorem dX12_mayStep_186 : decode cX12_mayStep 186 = .ok (.if_icmp .ne 7, 3) := by decide +kernel
theorem dX12_mayStep_189 : decode cX12_mayStep 189 = .ok (.iconst 1, 1) := by decide +kernel
theorem dX12_mayStep_190 : decode cX12_mayStep 190 = .ok (.goto 4, 3) := by decide +kernel
theorem dX12_mayStep_193 : decode cX12_mayStep 193 = .ok (.iconst 0, 1) := by decide +kernel
theorem dX12_mayStep_194 : decode cX12_mayStep 194 = .ok (.ireturn, 1) := by decide +kernel
theorem dX12_wordOf_0 : decode cX12_wordOf 0 = .ok (.aload_n 0, 1) := by decide +kernel
theorem dX12_wordOf_1 : decode cX12_wordOf 1 = .ok (.getfield 13, 3) := by decide +kernel
theorem dX12_wordOf_4 : decode cX12_wordOf 4 = .ok (.bipush 7, 2) := by decide +kernel
theorem dX12_wordOf_6 : decode cX12_wordOf 6 = .ok (.iload 4, 2) := by decide +kernel
theorem dX12_wordOf_8 : decode cX12_wordOf 8 = .ok (.iadd, 1) := by decide +kernel
theorem dX12_wordOf_9 : decode cX12_wordOf 9 = .ok (.iaload, 1) := by decide +kernel
theorem dX12_wordOf_10 : decode cX12_wordOf 10 = .ok (.aload_n 0, 1) := by decide +kernel
theorem dX12_wordOf_11 : decode cX12_wordOf 11 = .ok (.getfield 13, 3) := by decide +kernel
theorem dX12_wordOf_14 : decode cX12_wordOf 14 = .ok (.bipush 7, 2) := by decide +kernel
theorem dX12_wordOf_16 : decode cX12_wordOf 16 = .ok (.iload_n 3, 1) := by decide +kernel
theorem dX12_wordOf_17 : decode cX12_wordOf 17 = .ok (.iadd, 1) := by decide +kernel
theorem dX12_wordOf_18 : decode cX12_wordOf 18 = .ok (.iaload, 1) := by decide +kernel
theorem dX12_wordOf_19 : decode cX12_wordOf 19 = .ok (.isub, 1) := by decide +kernel
theorem dX12_wordOf_20 : decode cX12_wordOf 20 = .ok (.invokestatic 228, 3) := by decide +kernel
theorem dX12_wordOf_23 : decode cX12_wordOf 23 = .ok (.istore 5, 2) := by decide +kernel
theorem dX12_wordOf_25 : decode cX12_wordOf 25 = .ok (.aload_n 0, 1) := by decide +kernel
theorem dX12_wordOf_26 : decode cX12_wordOf 26 = .ok (.getfield 13, 3) := by decide +kernel
theorem dX12_wordOf_29 : decode cX12_wordOf 29 = .ok (.bipush 21, 2) := by decide +kernel
theorem dX12_wordOf_31 : decode cX12_wordOf 31 = .ok (.iload 4, 2) := by decide +kernel
theorem dX12_wordOf_33 : decode cX12_wordOf 33 = .ok (.iadd, 1) := by decide +kernel
theorem dX12_wordOf_34 : decode cX12_wordOf 34 = .ok (.iaload, 1) := by decide +kernel
theorem dX12_wordOf_35 : decode cX12_wordOf 35 = .ok (.aload_n 0, 1) := by decide +kernel
theorem dX12_wordOf_36 : decode cX12_wordOf 36 = .ok (.getfield 13, 3) := by decide +kernel
theorem dX12_wordOf_39 : decode cX12_wordOf 39 = .ok (.bipush 21, 2) := by decide +kernel
theorem dX12_wordOf_41 : decode cX12_wordOf 41 = .ok (.iload_n 3, 1) := by decide +kernel
theorem dX12_wordOf_42 : decode cX12_wordOf 42 = .ok (.iadd, 1) := by decide +kernel
theorem dX12_wordOf_43 : decode cX12_wordOf 43 = .ok (.iaload, 1) := by decide +kernel
theorem dX12_wordOf_44 : decode cX12_wordOf 44 = .ok (.isub, 1) := by decide +kernel
theorem dX12_wordOf_45 : decode cX12_wordOf 45 = .ok (.istore 6, 2) := by decide +kernel
theorem dX12_wordOf_47 : decode cX12_wordOf 47 = .ok (.iload_n 1, 1) := by decide +kernel
theorem dX12_wordOf_48 : decode cX12_wordOf 48 = .ok (.tableswitch 92 0 5 #[40, 43, 46, 55, 60, 70], 40) := by decide +kernel
theorem dX12_wordOf_88 : decode cX12_wordOf 88 = .ok (.iload 5, 2) := by decide +kernel
theorem dX12_wordOf_90 : decode cX12_wordOf 90 = .ok (.ireturn, 1) := by decide +kernel
theorem dX12_wordOf_91 : decode cX12_wordOf 91 = .ok (.iload 6, 2) := by decide +kernel
theorem dX12_wordOf_93 : decode cX12_wordOf 93 = .ok (.ireturn, 1) := by decide +kernel
theorem dX12_wordOf_94 : decode cX12_wordOf 94 = .ok (.iload 5, 2) := by decide +kernel
theorem dX12_wordOf_96 : decode cX12_wordOf 96 = .ok (.iload 6, 2) := by decide +kernel
theorem dX12_wordOf_98 : decode cX12_wordOf 98 = .ok (.invokestatic 228, 3) := by decide +kernel
theorem dX12_wordOf_101 : decode cX12_wordOf 101 = .ok (.iadd, 1) := by decide +kernel
theorem dX12_wordOf_102 : decode cX12_wordOf 102 = .ok (.ireturn, 1) := by decide +kernel
theorem dX12_wordOf_103 : decode cX12_wordOf 103 = .ok (.aload_n 0, 1) := by decide +kernel
theorem dX12_wordOf_104 : decode cX12_wordOf 104 = .ok (.getfield 231, 3) := by decide +kernel
theorem dX12_wordOf_107 : decode cX12_wordOf 107 = .ok (.ireturn, 1) := by decide +kernel
theorem dX12_wordOf_108 : decode cX12_wordOf 108 = .ok (.aload_n 0, 1) := by decide +kernel
theorem dX12_wordOf_109 : decode cX12_wordOf 109 = .ok (.getfield 13, 3) := by decide +kernel
theorem dX12_wordOf_112 : decode cX12_wordOf 112 = .ok (.bipush 54, 2) := by decide +kernel
theorem dX12_wordOf_114 : decode cX12_wordOf 114 = .ok (.iload_n 2, 1) := by decide +kernel
theorem dX12_wordOf_115 : decode cX12_wordOf 115 = .ok (.iadd, 1) := by decide +kernel
theorem dX12_wordOf_116 : decode cX12_wordOf 116 = .ok (.iaload, 1) := by decide +kernel
theorem dX12_wordOf_117 : decode cX12_wordOf 117 = .ok (.ireturn, 1) := by decide +kernel
theorem dX12_wordOf_118 : decode cX12_wordOf 118 = .ok (.aload_n 0, 1) := by decide +kernel
theorem dX12_wordOf_119 : decode cX12_wordOf 119 = .ok (.getfield 13, 3) := by decide +kernel
theorem dX12_wordOf_122 : decode cX12_wordOf 122 = .ok (.bipush 6, 2) := by decide +kernel
theorem dX12_wordOf_124 : decode cX12_wordOf 124 = .ok (.iaload, 1) := by decide +kernel
theorem dX12_wordOf_125 : decode cX12_wordOf 125 = .ok (.i2l, 1) := by decide +kernel
theorem dX12_wordOf_126 : decode cX12_wordOf 126 = .ok (.iload 4, 2) := by decide +kernel
theorem dX12_wordOf_128 : decode cX12_wordOf 128 = .ok (.invokestatic 186, 3) := by decide +kernel
theorem dX12_wordOf_131 : decode cX12_wordOf 131 = .ok (.ifCond .eq 7, 3) := by decide +kernel
theorem dX12_wordOf_134 : decode cX12_wordOf 134 = .ok (.iconst 1, 1) := by decide +kernel
theorem dX12_wordOf_135 : decode cX12_wordOf 135 = .ok (.goto 4, 3) := by decide +kernel
theorem dX12_wordOf_138 : decode cX12_wordOf 138 = .ok (.iconst 0, 1) := by decide +kernel
theorem dX12_wordOf_139 : decode cX12_wordOf 139 = .ok (.ireturn, 1) := by decide +kernel
theorem dX12_wordOf_140 : decode cX12_wordOf 140 = .ok (.aload_n 0, 1) := by decide +kernel
theorem dX12_wordOf_141 : decode cX12_wordOf 141 = .ok (.getfield 13, 3) := by decide +kernel
theorem dX12_wordOf_144 : decode cX12_wordOf 144 = .ok (.bipush 88, 2) := by decide +kernel
theorem dX12_wordOf_146 : decode cX12_wordOf 146 = .ok (.iaload, 1) := by decide +kernel
theorem dX12_wordOf_147 : decode cX12_wordOf 147 = .ok (.ireturn, 1) := by decide +kernel
theorem kw_1238 : Cond.fieldLink "FootholdWallModel" 30 "FootholdWallModel" "reckoned" "[I" ∈ gw := gw_of (tb_of 1238 (by decide +kernel)) (by decide +kernel)
theorem kw_1239 : Cond.fieldLink "FootholdWallModel" 231 "FootholdWallModel" "leg" "I" ∈ gw := gw_of (tb_of 1239 (by decide +kernel)) (by decide +kernel)
theorem kw_1486 : Cond.methodLink "FootholdWallModel" 238 yX12_wordOf ∈ gw := gw_of (tb_of 1486 (by decide +kernel)) (by decide +kernel)
theorem kw_1488 : Cond.instanceMethod yX12_wordOf ∈ gw := gw_of (tb_of 1488 (by decide +kernel)) (by decide +kernel)
theorem kw_1489 : Cond.code yX12_wordOf cX12_wordOf 7 (some (.int)) ∈ gw := gw_of (tb_of 1489 (by decide +kernel)) (by decide +kernel)
theorem kw_1490 : Cond.methodLink "FootholdWallModel" 228 yX12_far ∈ gw := gw_of (tb_of 1490 (by decide +kernel)) (by decide +kernel)
theorem kw_1491 : Cond.static yX12_far ∈ gw := gw_of (tb_of 1491 (by decide +kernel)) (by decide +kernel)
theorem kw_1492 : Cond.code yX12_far cX12_far 1 (some (.int)) ∈ gw := gw_of (tb_of 1492 (by decide +kernel)) (by decide +kernel)
theorem kw_1493 : Cond.methodLink "FootholdWallModel" 242 yX12_between ∈ gw := gw_of (tb_of 1493 (by decide +kernel)) (by decide +kernel)
theorem kw_1494 : Cond.static yX12_between ∈ gw := gw_of (tb_of 1494 (by decide +kernel)) (by decide +kernel)
theorem kw_1495 : Cond.code yX12_between cX12_between 5 (some (.int)) ∈ gw := gw_of (tb_of 1495 (by decide +kernel)) (by decide +kernel)
theorem ks_70 : Cond.selects RX12 yX12_wordOf yX12_wordOf ∈ gw := gw_of (pv_of 70 (by decide +kernel)) (by decide +kernel)
