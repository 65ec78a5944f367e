set_option maxHeartbeats 4000000 in
set_option maxRecDepth 100000 in
theorem s_Wall_initN (l : Launch) (D : va_G) (cs : CS) (kf : KF) (T : TF) (O : List Nat) (X : va_W) (a0 : Nat) (x1 : Int32) (x2 : Int32) (hOX9 : ∀ o ∈ O, ∃ (k : Nat) (e : va_E), X[k]? = some (o, e)) (l_x1 : 0 ≤ x1.toInt) (u_x1 : x1.toInt ≤ 14) (l_x2 : 0 ≤ x2.toInt) (u_x2 : x2.toInt ≤ 5) (hO : okO T O []) : TK l D cs kf yX9_init cX9_init 4 none { frames := 1, cells := 5, slots := 52, locals := 14 } [.ref a0, .int x1, .int x2, .null] T O ((a0, .inr (9, [.int 0, .int 0, .int 0, .int 0, .int 0, .int 0, .null, .null, .null, .null, .null, .null, .int 0, .int 0])) :: X) (Tv D cs (fun u => ∃ T2 : TF, Tgr T T2 ∧ ∃ (n0_0 : Int32) (n0_1 : Int32) (n0_6 : Nat) (n0_7 : Nat) (n0_8 : Nat) (n0_9 : Nat) (n0_10 : Nat) (n0_12 : Int32) (n0_13 : Int32), u = (T2, O, (a0, .inr (9, [.int n0_0, .int n0_1, .int 0, .int 0, .int 0, .int 0, .ref n0_6, .ref n0_7, .ref n0_8, .ref n0_9, .ref n0_10, .null, .int n0_12, .int n0_13])) :: X) ∧ (n0_0.toInt = x1.toInt) ∧ (n0_1.toInt = x2.toInt) ∧ (T2 n0_6 = some (1, n0_0.toInt.toNat, 0)) ∧ (T2 n0_7 = some (1, n0_0.toInt.toNat, 0)) ∧ (T2 n0_8 = some (1, n0_0.toInt.toNat, 0)) ∧ (T2 n0_9 = some (1, n0_1.toInt.toNat, 0)) ∧ (T2 n0_10 = some (1, n0_1.toInt.toNat, 0)) ∧ (0 ≤ n0_12.toInt) ∧ (n0_12.toInt ≤ 1) ∧ (0 ≤ n0_13.toInt) ∧ (n0_13.toInt ≤ 1))) := by
  refine tk_of (by decide) (Nat.le_of_ble_eq_true rfl) (fun p e s m below meth c ls A H locs hx hb hr hml hown hts hlocks hnm hkb hH hS hA hOX hks hE hl => ?_)
  have hown : s.vm.findClass RX9 = some m.cls := hown
  have hl : lv_has ls 4 [(0, .ref a0), (1, .int x1), (2, .int x2), (3, .null)] := hl
  have hOXf := hOX
  refine lv_aload_n hx hb dX9_init_0 rfl (lv_at hl 0 rfl) ?_
  refine W.objInit hx hb hown (hts _ kw_98) (hts _ kw_30) (hts _ kw_31) rfl (by rw [hml]; exact hl.1) rfl dX9_init_1 (Nat.le_of_ble_eq_true rfl) (Nat.le_of_ble_eq_true rfl) ?_
  refine W.eq (g2 := F0 m 4 ls []) rfl ?_
  refine lv_aload_n hx hb dX9_init_4 rfl (lv_at hl 0 rfl) ?_
  refine lv_iconst (v := 0) hx hb dX9_init_5 (by decide) ?_
  refine x_putk (ci := 9) (v := .int 0) (ty := tyX9 2) (C := RX9) (F := TX9) (N := 14) hx hb hts uX9 tyX9 tyX9_ok nmX9 hown hkb hH hS 0 rfl rfl 2 (by decide) kw_113 (fun _ h9 => h9) rfl (tyX9_ok 2 (by decide)) rfl rfl (Nat.le_of_ble_eq_true rfl) dX9_init_6 (fun H locs hH hS => ?_)
  have hH : HT D cs A T O ((a0, .inr (9, [.int 0, .int 0, .int 0, .int 0, .int 0, .int 0, .null, .null, .null, .null, .null, .null, .int 0, .int 0])) :: X) H := hH
  refine lv_aload_n hx hb dX9_init_9 rfl (lv_at hl 0 rfl) ?_
  refine lv_iconst (v := 0) hx hb dX9_init_10 (by decide) ?_
  refine x_putk (ci := 9) (v := .int 0) (ty := tyX9 3) (C := RX9) (F := TX9) (N := 14) hx hb hts uX9 tyX9 tyX9_ok nmX9 hown hkb hH hS 0 rfl rfl 3 (by decide) kw_116 (fun _ h9 => h9) rfl (tyX9_ok 3 (by decide)) rfl rfl (Nat.le_of_ble_eq_true rfl) dX9_init_11 (fun H locs hH hS => ?_)
  have hH : HT D cs A T O ((a0, .inr (9, [.int 0, .int 0, .int 0, .int 0, .int 0, .int 0, .null, .null, .null, .null, .null, .null, .int 0, .int 0])) :: X) H := hH
  refine lv_aload_n hx hb dX9_init_14 rfl (lv_at hl 0 rfl) ?_
  refine lv_iconst (v := 0) hx hb dX9_init_15 (by decide) ?_
  refine x_putk (ci := 9) (v := .int 0) (ty := tyX9 4) (C := RX9) (F := TX9) (N := 14) hx hb hts uX9 tyX9 tyX9_ok nmX9 hown hkb hH hS 0 rfl rfl 4 (by decide) kw_123 (fun _ h9 => h9) rfl (tyX9_ok 4 (by decide)) rfl rfl (Nat.le_of_ble_eq_true rfl) dX9_init_16 (fun H locs hH hS => ?_)
  have hH : HT D cs A T O ((a0, .inr (9, [.int 0, .int 0, .int 0, .int 0, .int 0, .int 0, .null, .null, .null, .null, .null, .null, .int 0, .int 0])) :: X) H := hH
  refine lv_aload_n hx hb dX9_init_19 rfl (lv_at hl 0 rfl) ?_
  refine lv_iconst (v := 0) hx hb dX9_init_20 (by decide) ?_
  refine x_putk (ci := 9) (v := .int 0) (ty := tyX9 5) (C := RX9) (F := TX9) (N := 14) hx hb hts uX9 tyX9 tyX9_ok nmX9 hown hkb hH hS 0 rfl rfl 5 (by decide) kw_130 (fun _ h9 => h9) rfl (tyX9_ok 5 (by decide)) rfl rfl (Nat.le_of_ble_eq_true rfl) dX9_init_21 (fun H locs hH hS => ?_)
  have hH : HT D cs A T O ((a0, .inr (9, [.int 0, .int 0, .int 0, .int 0, .int 0, .int 0, .null, .null, .null, .null, .null, .null, .int 0, .int 0])) :: X) H := hH
  refine lv_aload_n hx hb dX9_init_24 rfl (lv_at hl 0 rfl) ?_
  refine lv_iconst (v := 0) hx hb dX9_init_25 (by decide) ?_
  refine lv_iload_n hx hb dX9_init_26 rfl (lv_at hl 1 rfl) ?_
  refine va_mmax hx hb (by rw [hml]; exact hl.1.symm) hown (hts _ kw_99) (hts _ kw_100) (hts _ kw_6) (hts _ kw_101) (Nat.le_of_ble_eq_true rfl) (Nat.le_of_ble_eq_true rfl) (Nat.le_of_ble_eq_true rfl) (Nat.le_of_ble_eq_true rfl) dX9_init_27 ?_
  refine lv_topi (fun v27 ev27 => ?_)
  have tv27 : v27.toInt = max (0) x1.toInt := by rw [ev27]; exact max_i (by decide : (0 : Int32).toInt = 0) rfl
  refine x_putk (ci := 9) (v := .int v27) (ty := tyX9 0) (C := RX9) (F := TX9) (N := 14) hx hb hts uX9 tyX9 tyX9_ok nmX9 hown hkb hH hS 0 rfl rfl 0 (by decide) kw_106 (fun _ h9 => h9) rfl (tyX9_ok 0 (by decide)) rfl rfl (Nat.le_of_ble_eq_true rfl) dX9_init_30 (fun H locs hH hS => ?_)
  have hH : HT D cs A T O ((a0, .inr (9, [.int v27, .int 0, .int 0, .int 0, .int 0, .int 0, .null, .null, .null, .null, .null, .null, .int 0, .int 0])) :: X) H := hH
  refine lv_aload_n hx hb dX9_init_33 rfl (lv_at hl 0 rfl) ?_
  refine lv_iconst (v := 0) hx hb dX9_init_34 (by decide) ?_
  refine lv_iload_n hx hb dX9_init_35 rfl (lv_at hl 2 rfl) ?_
  refine va_mmax hx hb (by rw [hml]; exact hl.1.symm) hown (hts _ kw_99) (hts _ kw_100) (hts _ kw_6) (hts _ kw_101) (Nat.le_of_ble_eq_true rfl) (Nat.le_of_ble_eq_true rfl) (Nat.le_of_ble_eq_true rfl) (Nat.le_of_ble_eq_true rfl) dX9_init_36 ?_
  refine lv_topi (fun v36 ev36 => ?_)
  have tv36 : v36.toInt = max (0) x2.toInt := by rw [ev36]; exact max_i (by decide : (0 : Int32).toInt = 0) rfl
  refine x_putk (ci := 9) (v := .int v36) (ty := tyX9 1) (C := RX9) (F := TX9) (N := 14) hx hb hts uX9 tyX9 tyX9_ok nmX9 hown hkb hH hS 0 rfl rfl 1 (by decide) kw_110 (fun _ h9 => h9) rfl (tyX9_ok 1 (by decide)) rfl rfl (Nat.le_of_ble_eq_true rfl) dX9_init_39 (fun H locs hH hS => ?_)
  have hH : HT D cs A T O ((a0, .inr (9, [.int v27, .int v36, .int 0, .int 0, .int 0, .int 0, .null, .null, .null, .null, .null, .null, .int 0, .int 0])) :: X) H := hH
  refine lv_aload_n hx hb dX9_init_42 rfl (lv_at hl 0 rfl) ?_
  refine lv_aload_n hx hb dX9_init_43 rfl (lv_at hl 0 rfl) ?_
  refine x_getk (ci := 9) (C := RX9) (F := TX9) (N := 14) (v := .int v27) hx hb hts uX9 hown hkb hH 0 rfl rfl 0 (by decide) rfl kw_106 (fun _ h9 => h9) dX9_init_44 ?_
  refine t_newI (N' := (v27.toInt.toNat)) (k := 0) hx hb hts kw_92 hkb hH (ox_n hOX9) hS hA (by omega) (by omega) (cp_0 _) (Nat.le_of_ble_eq_true rfl) (by show 0 + (v27.toInt.toNat) ≤ 52; omega) dX9_init_47 (fun v47 T47 H le_T47 t_v47 hH hS => ?_)
  have hO := okO.le le_T47.1 hO
  refine W.widen (k := 1) (n := 14) (Nat.le_of_ble_eq_true rfl) (by omega) ?_
  refine x_putkF (ci := 9) (v := .ref v47) (ty := tyX9 6) (C := RX9) (F := TX9) (N := 14) hx hb hts uX9 tyX9 tyX9_ok nmX9 hown hkb hH hS 0 rfl rfl 6 (by decide) kw_132 (fun _ h9 => h9) rfl hnm rfl (tyX9_ok 6 (by decide)) rfl rfl (Nat.le_of_ble_eq_true rfl) dX9_init_49 (fun H locs hH hS => ?_)
  have hH : HT D cs A T47 O ((a0, .inr (9, [.int v27, .int v36, .int 0, .int 0, .int 0, .int 0, .ref v47, .null, .null, .null, .null, .null, .int 0, .int 0])) :: X) H := hH
  refine lv_aload_n hx hb dX9_init_52 rfl (lv_at hl 0 rfl) ?_
  refine lv_aload_n hx hb dX9_init_53 rfl (lv_at hl 0 rfl) ?_
  refine x_getk (ci := 9) (C := RX9) (F := TX9) (N := 14) (v := .int v27) hx hb hts uX9 hown hkb hH 0 rfl rfl 0 (by decide) rfl kw_106 (fun _ h9 => h9) dX9_init_54 ?_
  refine t_newI (N' := (v27.toInt.toNat)) (k := 0) hx hb hts kw_92 hkb hH (ox_n hOX9) hS hA (by omega) (by omega) (cp_0 _) (Nat.le_of_ble_eq_true rfl) (by show 14 + (v27.toInt.toNat) ≤ 52; omega) dX9_init_57 (fun v57 T57 H le_T57 t_v57 hH hS => ?_)
  have t_v47 := le_T57.1 _ _ t_v47
  have hO := okO.le le_T57.1 hO
  refine W.widen (k := 2) (n := 28) (Nat.le_of_ble_eq_true rfl) (by omega) ?_
  refine x_putkF (ci := 9) (v := .ref v57) (ty := tyX9 7) (C := RX9) (F := TX9) (N := 14) hx hb hts uX9 tyX9 tyX9_ok nmX9 hown hkb hH hS 0 rfl rfl 7 (by decide) kw_135 (fun _ h9 => h9) rfl hnm rfl (tyX9_ok 7 (by decide)) rfl rfl (Nat.le_of_ble_eq_true rfl) dX9_init_59 (fun H locs hH hS => ?_)
  have hH : HT D cs A T57 O ((a0, .inr (9, [.int v27, .int v36, .int 0, .int 0, .int 0, .int 0, .ref v47, .ref v57, .null, .null, .null, .null, .int 0, .int 0])) :: X) H := hH
  refine lv_aload_n hx hb dX9_init_62 rfl (lv_at hl 0 rfl) ?_
  refine lv_aload_n hx hb dX9_init_63 rfl (lv_at hl 0 rfl) ?_
  refine x_getk (ci := 9) (C := RX9) (F := TX9) (N := 14) (v := .int v27) hx hb hts uX9 hown hkb hH 0 rfl rfl 0 (by decide) rfl kw_106 (fun _ h9 => h9) dX9_init_64 ?_
  refine t_newI (N' := (v27.toInt.toNat)) (k := 0) hx hb hts kw_92 hkb hH (ox_n hOX9) hS hA (by omega) (by omega) (cp_0 _) (Nat.le_of_ble_eq_true rfl) (by show 28 + (v27.toInt.toNat) ≤ 52; omega) dX9_init_67 (fun v67 T67 H le_T67 t_v67 hH hS => ?_)
  have t_v47 := le_T67.1 _ _ t_v47
  have t_v57 := le_T67.1 _ _ t_v57
  have hO := okO.le le_T67.1 hO
  refine W.widen (k := 3) (n := 42) (Nat.le_of_ble_eq_true rfl) (by omega) ?_
  refine x_putkF (ci := 9) (v := .ref v67) (ty := tyX9 8) (C := RX9) (F := TX9) (N := 14) hx hb hts uX9 tyX9 tyX9_ok nmX9 hown hkb hH hS 0 rfl rfl 8 (by decide) kw_138 (fun _ h9 => h9) rfl hnm rfl (tyX9_ok 8 (by decide)) rfl rfl (Nat.le_of_ble_eq_true rfl) dX9_init_69 (fun H locs hH hS => ?_)
  have hH : HT D cs A T67 O ((a0, .inr (9, [.int v27, .int v36, .int 0, .int 0, .int 0, .int 0, .ref v47, .ref v57, .ref v67, .null, .null, .null, .int 0, .int 0])) :: X) H := hH
  refine lv_aload_n hx hb dX9_init_72 rfl (lv_at hl 0 rfl) ?_
  refine lv_aload_n hx hb dX9_init_73 rfl (lv_at hl 0 rfl) ?_
  refine x_getk (ci := 9) (C := RX9) (F := TX9) (N := 14) (v := .int v36) hx hb hts uX9 hown hkb hH 0 rfl rfl 1 (by decide) rfl kw_110 (fun _ h9 => h9) dX9_init_74 ?_
  refine t_newI (N' := (v36.toInt.toNat)) (k := 0) hx hb hts kw_92 hkb hH (ox_n hOX9) hS hA (by omega) (by omega) (cp_0 _) (Nat.le_of_ble_eq_true rfl) (by show 42 + (v36.toInt.toNat) ≤ 52; omega) dX9_init_77 (fun v77 T77 H le_T77 t_v77 hH hS => ?_)
  have t_v47 := le_T77.1 _ _ t_v47
  have t_v57 := le_T77.1 _ _ t_v57
  have t_v67 := le_T77.1 _ _ t_v67
  have hO := okO.le le_T77.1 hO
  refine W.widen (k := 4) (n := 47) (Nat.le_of_ble_eq_true rfl) (by omega) ?_
  refine x_putkF (ci := 9) (v := .ref v77) (ty := tyX9 9) (C := RX9) (F := TX9) (N := 14) hx hb hts uX9 tyX9 tyX9_ok nmX9 hown hkb hH hS 0 rfl rfl 9 (by decide) kw_141 (fun _ h9 => h9) rfl hnm rfl (tyX9_ok 9 (by decide)) rfl rfl (Nat.le_of_ble_eq_true rfl) dX9_init_79 (fun H locs hH hS => ?_)
  have hH : HT D cs A T77 O ((a0, .inr (9, [.int v27, .int v36, .int 0, .int 0, .int 0, .int 0, .ref v47, .ref v57, .ref v67, .ref v77, .null, .null, .int 0, .int 0])) :: X) H := hH
  refine lv_aload_n hx hb dX9_init_82 rfl (lv_at hl 0 rfl) ?_
  refine lv_aload_n hx hb dX9_init_83 rfl (lv_at hl 0 rfl) ?_
  refine x_getk (ci := 9) (C := RX9) (F := TX9) (N := 14) (v := .int v36) hx hb hts uX9 hown hkb hH 0 rfl rfl 1 (by decide) rfl kw_110 (fun _ h9 => h9) dX9_init_84 ?_
  refine t_newI (N' := (v36.toInt.toNat)) (k := 0) hx hb hts kw_92 hkb hH (ox_n hOX9) hS hA (by omega) (by omega) (cp_0 _) (Nat.le_of_ble_eq_true rfl) (by show 47 + (v36.toInt.toNat) ≤ 52; omega) dX9_init_87 (fun v87 T87 H le_T87 t_v87 hH hS => ?_)
  have t_v47 := le_T87.1 _ _ t_v47
  have t_v57 := le_T87.1 _ _ t_v57
  have t_v67 := le_T87.1 _ _ t_v67
  have t_v77 := le_T87.1 _ _ t_v77
  have hO := okO.le le_T87.1 hO
  refine W.widen (k := 5) (n := 52) (Nat.le_of_ble_eq_true rfl) (by omega) ?_
  refine x_putkF (ci := 9) (v := .ref v87) (ty := tyX9 10) (C := RX9) (F := TX9) (N := 14) hx hb hts uX9 tyX9 tyX9_ok nmX9 hown hkb hH hS 0 rfl rfl 10 (by decide) kw_144 (fun _ h9 => h9) rfl hnm rfl (tyX9_ok 10 (by decide)) rfl rfl (Nat.le_of_ble_eq_true rfl) dX9_init_89 (fun H locs hH hS => ?_)
  have hH : HT D cs A T87 O ((a0, .inr (9, [.int v27, .int v36, .int 0, .int 0, .int 0, .int 0, .ref v47, .ref v57, .ref v67, .ref v77, .ref v87, .null, .int 0, .int 0])) :: X) H := hH
  refine lv_aload_n hx hb dX9_init_92 rfl (lv_at hl 0 rfl) ?_
  refine lv_aload_nN hx hb dX9_init_93 rfl (lv_at hl 3 rfl) ?_
  refine x_putkF (ci := 9) (v := .null) (ty := tyX9 11) (C := RX9) (F := TX9) (N := 14) hx hb hts uX9 tyX9 tyX9_ok nmX9 hown hkb hH hS 0 rfl rfl 11 (by decide) kw_147 (fun _ h9 => h9) rfl hnm rfl (tyX9_ok 11 (by decide)) rfl rfl (Nat.le_of_ble_eq_true rfl) dX9_init_94 (fun H locs hH hS => ?_)
  have hH : HT D cs A T87 O ((a0, .inr (9, [.int v27, .int v36, .int 0, .int 0, .int 0, .int 0, .ref v47, .ref v57, .ref v67, .ref v77, .ref v87, .null, .int 0, .int 0])) :: X) H := hH
  refine lv_aload_n hx hb dX9_init_97 rfl (lv_at hl 0 rfl) ?_
  refine lv_aload_nN hx hb dX9_init_98 rfl (lv_at hl 3 rfl) ?_
  refine lv_ifnullN (tgt := 115) hx hb dX9_init_99 (by decide) ?_
  refine lv_iconst (v := 0) hx hb dX9_init_115 (by decide) ?_
  refine x_putkF (ci := 9) (v := .int 0) (ty := tyX9 12) (C := RX9) (F := TX9) (N := 14) hx hb hts uX9 tyX9 tyX9_ok nmX9 hown hkb hH hS 0 rfl rfl 12 (by decide) kw_148 (fun _ h9 => h9) rfl hnm rfl (tyX9_ok 12 (by decide)) rfl rfl (Nat.le_of_ble_eq_true rfl) dX9_init_116 (fun H locs hH hS => ?_)
  have hH : HT D cs A T87 O ((a0, .inr (9, [.int v27, .int v36, .int 0, .int 0, .int 0, .int 0, .ref v47, .ref v57, .ref v67, .ref v77, .ref v87, .null, .int 0, .int 0])) :: X) H := hH
  refine lv_aload_n hx hb dX9_init_119 rfl (lv_at hl 0 rfl) ?_
  refine lv_aload_nN hx hb dX9_init_120 rfl (lv_at hl 3 rfl) ?_
  refine lv_ifnullN (tgt := 132) hx hb dX9_init_121 (by decide) ?_
  refine lv_iconst (v := 1) hx hb dX9_init_132 (by decide) ?_
  refine lv_goto (tgt := 137) hx hb dX9_init_133 (by decide) ?_
  refine x_putkF (ci := 9) (v := .int 1) (ty := tyX9 13) (C := RX9) (F := TX9) (N := 14) hx hb hts uX9 tyX9 tyX9_ok nmX9 hown hkb hH hS 0 rfl rfl 13 (by decide) kw_149 (fun _ h9 => h9) rfl hnm rfl (tyX9_ok 13 (by decide)) rfl rfl (Nat.le_of_ble_eq_true rfl) dX9_init_137 (fun H locs hH hS => ?_)
  have hH : HT D cs A T87 O ((a0, .inr (9, [.int v27, .int v36, .int 0, .int 0, .int 0, .int 0, .ref v47, .ref v57, .ref v67, .ref v77, .ref v87, .null, .int 0, .int 1])) :: X) H := hH
  have z9_0 : (0 : Int32).toInt = 0 := by decide
  have z9_1 : (1 : Int32).toInt = 1 := by decide
  have z9_0 : (0 : Int32).toInt = 0 := by decide
  have z9_0 : (0 : Int32).toInt = 0 := by decide
  have z9_0 : (0 : Int32).toInt = 0 := by decide
  have z9_0 : (0 : Int32).toInt = 0 := by decide
  have z9_0 : (0 : Int32).toInt = 0 := by decide
  have z9_1 : (1 : Int32).toInt = 1 := by decide
  exact te_v hx hb hr hlocks hH hS (⟨T87, (Tgr.tr (Tgr.tr (Tgr.tr (Tgr.tr le_T47 le_T57) le_T67) le_T77) le_T87), v27, v36, v47, v57, v67, v77, v87, (0 : Int32), (1 : Int32), rfl, by omega, by omega, t_v47, t_v57, t_v67, t_v77, t_v87, by omega, by omega, by omega, by omega⟩) dX9_init_140
set_option maxHeartbeats 4000000 in
set_option maxRecDepth 100000 in
theorem s_Wall_initL (l : Launch) (D : va_G) (cs : CS) (kf : KF) (T : TF) (O : List Nat) (X : va_W) (a0 : Nat) (x1 : Int32) (x2 : Int32) (a3 na3 : Nat) (hOX9 : ∀ o ∈ O, ∃ (k : Nat) (e : va_E), X[k]? = some (o, e)) (l_x1 : 0 ≤ x1.toInt) (u_x1 : x1.toInt ≤ 14) (l_x2 : 0 ≤ x2.toInt) (u_x2 : x2.toInt ≤ 5) (t_a3 : T a3 = some (12, na3, 0)) (b_a3 : na3 ≤ 900) (hO : okO T O [1, 12]) : TK l D cs kf yX9_init cX9_init 4 none { frames := 1, cells := 5, slots := 52, locals := 23 } [.ref a0, .int x1, .int x2, .ref a3] T O ((a0, .inr (9, [.int 0, .int 0, .int 0, .int 0, .int 0, .int 0, .null, .null, .null, .null, .null, .null, .int 0, .int 0])) :: X) (Tv D cs (fun u => ∃ T2 : TF, Tgr T T2 ∧ ∃ (n0_0 : Int32) (n0_1 : Int32) (n0_6 : Nat) (n0_7 : Nat) (n0_8 : Nat) (n0_9 : Nat) (n0_10 : Nat) (n0_12 : Int32) (n0_13 : Int32), u = (T2, O, (a0, .inr (9, [.int n0_0, .int n0_1, .int 0, .int 0, .int 0, .int 0, .ref n0_6, .ref n0_7, .ref n0_8, .ref n0_9, .ref n0_10, .ref a3, .int n0_12, .int n0_13])) :: X) ∧ (n0_0.toInt = x1.toInt) ∧ (n0_1.toInt = x2.toInt) ∧ (T2 n0_6 = some (1, n0_0.toInt.toNat, 0)) ∧ (T2 n0_7 = some (1, n0_0.toInt.toNat, 0)) ∧ (T2 n0_8 = some (1, n0_0.toInt.toNat, 0)) ∧ (T2 n0_9 = some (1, n0_1.toInt.toNat, 0)) ∧ (T2 n0_10 = some (1, n0_1.toInt.toNat, 0)) ∧ (0 ≤ n0_12.toInt) ∧ (n0_12.toInt ≤ 1) ∧ (0 ≤ n0_13.toInt) ∧ (n0_13.toInt ≤ 1))) := by
  refine tk_of (by decide) (Nat.le_of_ble_eq_true rfl) (fun p e s m below meth c ls A H locs hx hb hr hml hown hts hlocks hnm hkb hH hS hA hOX hks hE hl => ?_)
  have hown : s.vm.findClass RX9 = some m.cls := hown
  have hl : lv_has ls 4 [(0, .ref a0), (1, .int x1), (2, .int x2), (3, .ref a3)] := hl
  have hOXf := hOX
  refine lv_aload_n hx hb dX9_init_0 rfl (lv_at hl 0 rfl) ?_
  refine W.objInit hx hb hown (hts _ kw_98) (hts _ kw_30) (hts _ kw_31) rfl (by rw [hml]; exact hl.1) rfl dX9_init_1 (Nat.le_of_ble_eq_true rfl) (Nat.le_of_ble_eq_true rfl) ?_
  refine W.eq (g2 := F0 m 4 ls []) rfl ?_
  refine lv_aload_n hx hb dX9_init_4 rfl (lv_at hl 0 rfl) ?_
  refine lv_iconst (v := 0) hx hb dX9_init_5 (by decide) ?_
  refine x_putk (ci := 9) (v := .int 0) (ty := tyX9 2) (C := RX9) (F := TX9) (N := 14) hx hb hts uX9 tyX9 tyX9_ok nmX9 hown hkb hH hS 0 rfl rfl 2 (by decide) kw_113 (fun _ h9 => h9) rfl (tyX9_ok 2 (by decide)) rfl rfl (Nat.le_of_ble_eq_true rfl) dX9_init_6 (fun H locs hH hS => ?_)
  have hH : HT D cs A T O ((a0, .inr (9, [.int 0, .int 0, .int 0, .int 0, .int 0, .int 0, .null, .null, .null, .null, .null, .null, .int 0, .int 0])) :: X) H := hH
  refine lv_aload_n hx hb dX9_init_9 rfl (lv_at hl 0 rfl) ?_
  refine lv_iconst (v := 0) hx hb dX9_init_10 (by decide) ?_
  refine x_putk (ci := 9) (v := .int 0) (ty := tyX9 3) (C := RX9) (F := TX9) (N := 14) hx hb hts uX9 tyX9 tyX9_ok nmX9 hown hkb hH hS 0 rfl rfl 3 (by decide) kw_116 (fun _ h9 => h9) rfl (tyX9_ok 3 (by decide)) rfl rfl (Nat.le_of_ble_eq_true rfl) dX9_init_11 (fun H locs hH hS => ?_)
  have hH : HT D cs A T O ((a0, .inr (9, [.int 0, .int 0, .int 0, .int 0, .int 0, .int 0, .null, .null, .null, .null, .null, .null, .int 0, .int 0])) :: X) H := hH
  refine lv_aload_n hx hb dX9_init_14 rfl (lv_at hl 0 rfl) ?_
  refine lv_iconst (v := 0) hx hb dX9_init_15 (by decide) ?_
  refine x_putk (ci := 9) (v := .int 0) (ty := tyX9 4) (C := RX9) (F := TX9) (N := 14) hx hb hts uX9 tyX9 tyX9_ok nmX9 hown hkb hH hS 0 rfl rfl 4 (by decide) kw_123 (fun _ h9 => h9) rfl (tyX9_ok 4 (by decide)) rfl rfl (Nat.le_of_ble_eq_true rfl) dX9_init_16 (fun H locs hH hS => ?_)
  have hH : HT D cs A T O ((a0, .inr (9, [.int 0, .int 0, .int 0, .int 0, .int 0, .int 0, .null, .null, .null, .null, .null, .null, .int 0, .int 0])) :: X) H := hH
  refine lv_aload_n hx hb dX9_init_19 rfl (lv_at hl 0 rfl) ?_
  refine lv_iconst (v := 0) hx hb dX9_init_20 (by decide) ?_
  refine x_putk (ci := 9) (v := .int 0) (ty := tyX9 5) (C := RX9) (F := TX9) (N := 14) hx hb hts uX9 tyX9 tyX9_ok nmX9 hown hkb hH hS 0 rfl rfl 5 (by decide) kw_130 (fun _ h9 => h9) rfl (tyX9_ok 5 (by decide)) rfl rfl (Nat.le_of_ble_eq_true rfl) dX9_init_21 (fun H locs hH hS => ?_)
  have hH : HT D cs A T O ((a0, .inr (9, [.int 0, .int 0, .int 0, .int 0, .int 0, .int 0, .null, .null, .null, .null, .null, .null, .int 0, .int 0])) :: X) H := hH
  refine lv_aload_n hx hb dX9_init_24 rfl (lv_at hl 0 rfl) ?_
  refine lv_iconst (v := 0) hx hb dX9_init_25 (by decide) ?_
  refine lv_iload_n hx hb dX9_init_26 rfl (lv_at hl 1 rfl) ?_
  refine va_mmax hx hb (by rw [hml]; exact hl.1.symm) hown (hts _ kw_99) (hts _ kw_100) (hts _ kw_6) (hts _ kw_101) (Nat.le_of_ble_eq_true rfl) (Nat.le_of_ble_eq_true rfl) (Nat.le_of_ble_eq_true rfl) (Nat.le_of_ble_eq_true rfl) dX9_init_27 ?_
  refine lv_topi (fun v27 ev27 => ?_)
  have tv27 : v27.toInt = max (0) x1.toInt := by rw [ev27]; exact max_i (by decide : (0 : Int32).toInt = 0) rfl
  refine x_putk (ci := 9) (v := .int v27) (ty := tyX9 0) (C := RX9) (F := TX9) (N := 14) hx hb hts uX9 tyX9 tyX9_ok nmX9 hown hkb hH hS 0 rfl rfl 0 (by decide) kw_106 (fun _ h9 => h9) rfl (tyX9_ok 0 (by decide)) rfl rfl (Nat.le_of_ble_eq_true rfl) dX9_init_30 (fun H locs hH hS => ?_)
  have hH : HT D cs A T O ((a0, .inr (9, [.int v27, .int 0, .int 0, .int 0, .int 0, .int 0, .null, .null, .null, .null, .null, .null, .int 0, .int 0])) :: X) H := hH
  refine lv_aload_n hx hb dX9_init_33 rfl (lv_at hl 0 rfl) ?_
  refine lv_iconst (v := 0) hx hb dX9_init_34 (by decide) ?_
  refine lv_iload_n hx hb dX9_init_35 rfl (lv_at hl 2 rfl) ?_
  refine va_mmax hx hb (by rw [hml]; exact hl.1.symm) hown (hts _ kw_99) (hts _ kw_100) (hts _ kw_6) (hts _ kw_101) (Nat.le_of_ble_eq_true rfl) (Nat.le_of_ble_eq_true rfl) (Nat.le_of_ble_eq_true rfl) (Nat.le_of_ble_eq_true rfl) dX9_init_36 ?_
  refine lv_topi (fun v36 ev36 => ?_)
  have tv36 : v36.toInt = max (0) x2.toInt := by rw [ev36]; exact max_i (by decide : (0 : Int32).toInt = 0) rfl
  refine x_putk (ci := 9) (v := .int v36) (ty := tyX9 1) (C := RX9) (F := TX9) (N := 14) hx hb hts uX9 tyX9 tyX9_ok nmX9 hown hkb hH hS 0 rfl rfl 1 (by decide) kw_110 (fun _ h9 => h9) rfl (tyX9_ok 1 (by decide)) rfl rfl (Nat.le_of_ble_eq_true rfl) dX9_init_39 (fun H locs hH hS => ?_)
  have hH : HT D cs A T O ((a0, .inr (9, [.int v27, .int v36, .int 0, .int 0, .int 0, .int 0, .null, .null, .null, .null, .null, .null, .int 0, .int 0])) :: X) H := hH
  refine lv_aload_n hx hb dX9_init_42 rfl (lv_at hl 0 rfl) ?_
  refine lv_aload_n hx hb dX9_init_43 rfl (lv_at hl 0 rfl) ?_
  refine x_getk (ci := 9) (C := RX9) (F := TX9) (N := 14) (v := .int v27) hx hb hts uX9 hown hkb hH 0 rfl rfl 0 (by decide) rfl kw_106 (fun _ h9 => h9) dX9_init_44 ?_
  refine t_newI (N' := (v27.toInt.toNat)) (k := 0) hx hb hts kw_92 hkb hH (ox_n hOX9) hS hA (by omega) (by omega) (cp_0 _) (Nat.le_of_ble_eq_true rfl) (by show 0 + (v27.toInt.toNat) ≤ 52; omega) dX9_init_47 (fun v47 T47 H le_T47 t_v47 hH hS => ?_)
  have t_a3 := le_T47.1 _ _ t_a3
  have hO := okO.le le_T47.1 hO
  refine W.widen (k := 1) (n := 14) (Nat.le_of_ble_eq_true rfl) (by omega) ?_
  refine x_putkF (ci := 9) (v := .ref v47) (ty := tyX9 6) (C := RX9) (F := TX9) (N := 14) hx hb hts uX9 tyX9 tyX9_ok nmX9 hown hkb hH hS 0 rfl rfl 6 (by decide) kw_132 (fun _ h9 => h9) rfl hnm rfl (tyX9_ok 6 (by decide)) rfl rfl (Nat.le_of_ble_eq_true rfl) dX9_init_49 (fun H locs hH hS => ?_)
  have hH : HT D cs A T47 O ((a0, .inr (9, [.int v27, .int v36, .int 0, .int 0, .int 0, .int 0, .ref v47, .null, .null, .null, .null, .null, .int 0, .int 0])) :: X) H := hH
  refine lv_aload_n hx hb dX9_init_52 rfl (lv_at hl 0 rfl) ?_
  refine lv_aload_n hx hb dX9_init_53 rfl (lv_at hl 0 rfl) ?_
  refine x_getk (ci := 9) (C := RX9) (F := TX9) (N := 14) (v := .int v27) hx hb hts uX9 hown hkb hH 0 rfl rfl 0 (by decide) rfl kw_106 (fun _ h9 => h9) dX9_init_54 ?_
  refine t_newI (N' := (v27.toInt.toNat)) (k := 0) hx hb hts kw_92 hkb hH (ox_n hOX9) hS hA (by omega) (by omega) (cp_0 _) (Nat.le_of_ble_eq_true rfl) (by show 14 + (v27.toInt.toNat) ≤ 52; omega) dX9_init_57 (fun v57 T57 H le_T57 t_v57 hH hS => ?_)
  have t_a3 := le_T57.1 _ _ t_a3
  have t_v47 := le_T57.1 _ _ t_v47
  have hO := okO.le le_T57.1 hO
  refine W.widen (k := 2) (n := 28) (Nat.le_of_ble_eq_true rfl) (by omega) ?_
  refine x_putkF (ci := 9) (v := .ref v57) (ty := tyX9 7) (C := RX9) (F := TX9) (N := 14) hx hb hts uX9 tyX9 tyX9_ok nmX9 hown hkb hH hS 0 rfl rfl 7 (by decide) kw_135 (fun _ h9 => h9) rfl hnm rfl (tyX9_ok 7 (by decide)) rfl rfl (Nat.le_of_ble_eq_true rfl) dX9_init_59 (fun H locs hH hS => ?_)
  have hH : HT D cs A T57 O ((a0, .inr (9, [.int v27, .int v36, .int 0, .int 0, .int 0, .int 0, .ref v47, .ref v57, .null, .null, .null, .null, .int 0, .int 0])) :: X) H := hH
  refine lv_aload_n hx hb dX9_init_62 rfl (lv_at hl 0 rfl) ?_
  refine lv_aload_n hx hb dX9_init_63 rfl (lv_at hl 0 rfl) ?_
  refine x_getk (ci := 9) (C := RX9) (F := TX9) (N := 14) (v := .int v27) hx hb hts uX9 hown hkb hH 0 rfl rfl 0 (by decide) rfl kw_106 (fun _ h9 => h9) dX9_init_64 ?_
  refine t_newI (N' := (v27.toInt.toNat)) (k := 0) hx hb hts kw_92 hkb hH (ox_n hOX9) hS hA (by omega) (by omega) (cp_0 _) (Nat.le_of_ble_eq_true rfl) (by show 28 + (v27.toInt.toNat) ≤ 52; omega) dX9_init_67 (fun v67 T67 H le_T67 t_v67 hH hS => ?_)
  have t_a3 := le_T67.1 _ _ t_a3
  have t_v47 := le_T67.1 _ _ t_v47
  have t_v57 := le_T67.1 _ _ t_v57
  have hO := okO.le le_T67.1 hO
  refine W.widen (k := 3) (n := 42) (Nat.le_of_ble_eq_true rfl) (by omega) ?_
  refine x_putkF (ci := 9) (v := .ref v67) (ty := tyX9 8) (C := RX9) (F := TX9) (N := 14) hx hb hts uX9 tyX9 tyX9_ok nmX9 hown hkb hH hS 0 rfl rfl 8 (by decide) kw_138 (fun _ h9 => h9) rfl hnm rfl (tyX9_ok 8 (by decide)) rfl rfl (Nat.le_of_ble_eq_true rfl) dX9_init_69 (fun H locs hH hS => ?_)
  have hH : HT D cs A T67 O ((a0, .inr (9, [.int v27, .int v36, .int 0, .int 0, .int 0, .int 0, .ref v47, .ref v57, .ref v67, .null, .null, .null, .int 0, .int 0])) :: X) H := hH
  refine lv_aload_n hx hb dX9_init_72 rfl (lv_at hl 0 rfl) ?_
  refine lv_aload_n hx hb dX9_init_73 rfl (lv_at hl 0 rfl) ?_
  refine x_getk (ci := 9) (C := RX9) (F := TX9) (N := 14) (v := .int v36) hx hb hts uX9 hown hkb hH 0 rfl rfl 1 (by decide) rfl kw_110 (fun _ h9 => h9) dX9_init_74 ?_
  refine t_newI (N' := (v36.toInt.toNat)) (k := 0) hx hb hts kw_92 hkb hH (ox_n hOX9) hS hA (by omega) (by omega) (cp_0 _) (Nat.le_of_ble_eq_true rfl) (by show 42 + (v36.toInt.toNat) ≤ 52; omega) dX9_init_77 (fun v77 T77 H le_T77 t_v77 hH hS => ?_)
  have t_a3 := le_T77.1 _ _ t_a3
  have t_v47 := le_T77.1 _ _ t_v47
  have t_v57 := le_T77.1 _ _ t_v57
  have t_v67 := le_T77.1 _ _ t_v67
  have hO := okO.le le_T77.1 hO
  refine W.widen (k := 4) (n := 47) (Nat.le_of_ble_eq_true rfl) (by omega) ?_
  refine x_putkF (ci := 9) (v := .ref v77) (ty := tyX9 9) (C := RX9) (F := TX9) (N := 14) hx hb hts uX9 tyX9 tyX9_ok nmX9 hown hkb hH hS 0 rfl rfl 9 (by decide) kw_141 (fun _ h9 => h9) rfl hnm rfl (tyX9_ok 9 (by decide)) rfl rfl (Nat.le_of_ble_eq_true rfl) dX9_init_79 (fun H locs hH hS => ?_)
  have hH : HT D cs A T77 O ((a0, .inr (9, [.int v27, .int v36, .int 0, .int 0, .int 0, .int 0, .ref v47, .ref v57, .ref v67, .ref v77, .null, .null, .int 0, .int 0])) :: X) H := hH
  refine lv_aload_n hx hb dX9_init_82 rfl (lv_at hl 0 rfl) ?_
  refine lv_aload_n hx hb dX9_init_83 rfl (lv_at hl 0 rfl) ?_
  refine x_getk (ci := 9) (C := RX9) (F := TX9) (N := 14) (v := .int v36) hx hb hts uX9 hown hkb hH 0 rfl rfl 1 (by decide) rfl kw_110 (fun _ h9 => h9) dX9_init_84 ?_
  refine t_newI (N' := (v36.toInt.toNat)) (k := 0) hx hb hts kw_92 hkb hH (ox_n hOX9) hS hA (by omega) (by omega) (cp_0 _) (Nat.le_of_ble_eq_true rfl) (by show 47 + (v36.toInt.toNat) ≤ 52; omega) dX9_init_87 (fun v87 T87 H le_T87 t_v87 hH hS => ?_)
  have t_a3 := le_T87.1 _ _ t_a3
  have t_v47 := le_T87.1 _ _ t_v47
  have t_v57 := le_T87.1 _ _ t_v57
  have t_v67 := le_T87.1 _ _ t_v67
  have t_v77 := le_T87.1 _ _ t_v77
  have hO := okO.le le_T87.1 hO
  refine W.widen (k := 5) (n := 52) (Nat.le_of_ble_eq_true rfl) (by omega) ?_
  refine x_putkF (ci := 9) (v := .ref v87) (ty := tyX9 10) (C := RX9) (F := TX9) (N := 14) hx hb hts uX9 tyX9 tyX9_ok nmX9 hown hkb hH hS 0 rfl rfl 10 (by decide) kw_144 (fun _ h9 => h9) rfl hnm rfl (tyX9_ok 10 (by decide)) rfl rfl (Nat.le_of_ble_eq_true rfl) dX9_init_89 (fun H locs hH hS => ?_)
  have hH : HT D cs A T87 O ((a0, .inr (9, [.int v27, .int v36, .int 0, .int 0, .int 0, .int 0, .ref v47, .ref v57, .ref v67, .ref v77, .ref v87, .null, .int 0, .int 0])) :: X) H := hH
  refine lv_aload_n hx hb dX9_init_92 rfl (lv_at hl 0 rfl) ?_
  refine lv_aload_n hx hb dX9_init_93 rfl (lv_at hl 3 rfl) ?_
  refine x_putkF (ci := 9) (v := .ref a3) (ty := tyX9 11) (C := RX9) (F := TX9) (N := 14) hx hb hts uX9 tyX9 tyX9_ok nmX9 hown hkb hH hS 0 rfl rfl 11 (by decide) kw_147 (fun _ h9 => h9) rfl hnm rfl (tyX9_ok 11 (by decide)) rfl rfl (Nat.le_of_ble_eq_true rfl) dX9_init_94 (fun H locs hH hS => ?_)
  have hH : HT D cs A T87 O ((a0, .inr (9, [.int v27, .int v36, .int 0, .int 0, .int 0, .int 0, .ref v47, .ref v57, .ref v67, .ref v77, .ref v87, .ref a3, .int 0, .int 0])) :: X) H := hH
  refine lv_aload_n hx hb dX9_init_97 rfl (lv_at hl 0 rfl) ?_
  refine lv_aload_n hx hb dX9_init_98 rfl (lv_at hl 3 rfl) ?_
  refine lv_ifnull hx hb dX9_init_99 ?_
  refine lv_aload_n hx hb dX9_init_102 rfl (lv_at hl 3 rfl) ?_
  refine lv_bipush (v := 6) hx hb dX9_init_103 (by decide) ?_
  refine tk_i hH hS hA (tr_V (n := 1) (As := [.int 6]) hx hb hml hown hts hkb hH (ox_n hOX9) hks hE hS hA (s_Law_asks l D cs kf T87 O ((a0, .inr (9, [.int v27, .int v36, .int 0, .int 0, .int 0, .int 0, .ref v47, .ref v57, .ref v67, .ref v77, .ref v87, .ref a3, .int 0, .int 0])) :: X) a3 na3 (6) t_a3 b_a3 (hO.sub (by decide))) kw_102 kw_103 kw_104 kw_21 kw_105 (by decide +kernel) ⟨Nat.le_of_ble_eq_true rfl, Nat.le_of_ble_eq_true rfl⟩ (HT.recv (ci := 2) hkb hH t_a3 (hO.no t_a3 (by decide)) rfl) rfl rfl hl.1 (Nat.le_of_ble_eq_true rfl) dX9_init_105 ⟨Nat.le_of_ble_eq_true rfl, Nat.le_of_ble_eq_true rfl⟩) (fun v105 u H locs hz9 hH hS => ?_)
  obtain ⟨rfl, l_v105, u_v105⟩ := hz9
  have hH : HT D cs A T87 O ((a0, .inr (9, [.int v27, .int v36, .int 0, .int 0, .int 0, .int 0, .ref v47, .ref v57, .ref v67, .ref v77, .ref v87, .ref a3, .int 0, .int 0])) :: X) H := hH
  refine W.widen (k := 5) (n := 52) (Nat.le_of_ble_eq_true rfl) (Nat.le_of_ble_eq_true rfl) ?_
  have J124 : ∀ (f124_112 : Int32) (H : Heap) (locs : List Loc) (ls : Array Slot), (0 ≤ f124_112.toInt) → (f124_112.toInt ≤ 1) → HT D cs A T87 O ((a0, .inr (9, [.int v27, .int v36, .int 0, .int 0, .int 0, .int 0, .ref v47, .ref v57, .ref v67, .ref v77, .ref v87, .ref a3, .int f124_112, .int 0])) :: X) H → va_S A s.heap H locs → lv_has ls 4 [(3, .ref a3)] → W p l e { frames := 1, cells := 5, slots := 52, locals := 23 } s m [.ref a0, .int x1, .int x2, .ref a3].toArray below meth c H locs 5 52 (MQ below (Tv D cs (fun u => ∃ T2 : TF, Tgr T T2 ∧ ∃ (n0_0 : Int32) (n0_1 : Int32) (n0_6 : Nat) (n0_7 : Nat) (n0_8 : Nat) (n0_9 : Nat) (n0_10 : Nat) (n0_12 : Int32) (n0_13 : Int32), u = (T2, O, (a0, .inr (9, [.int n0_0, .int n0_1, .int 0, .int 0, .int 0, .int 0, .ref n0_6, .ref n0_7, .ref n0_8, .ref n0_9, .ref n0_10, .ref a3, .int n0_12, .int n0_13])) :: X) ∧ (n0_0.toInt = x1.toInt) ∧ (n0_1.toInt = x2.toInt) ∧ (T2 n0_6 = some (1, n0_0.toInt.toNat, 0)) ∧ (T2 n0_7 = some (1, n0_0.toInt.toNat, 0)) ∧ (T2 n0_8 = some (1, n0_0.toInt.toNat, 0)) ∧ (T2 n0_9 = some (1, n0_1.toInt.toNat, 0)) ∧ (T2 n0_10 = some (1, n0_1.toInt.toNat, 0)) ∧ (0 ≤ n0_12.toInt) ∧ (n0_12.toInt ≤ 1) ∧ (0 ≤ n0_13.toInt) ∧ (n0_13.toInt ≤ 1)) A) [.ref a0, .int x1, .int x2, .ref a3].toArray s 5 52 A) (F0 m 124 ls [.ref a0]) := by
    intro f124_112 H locs ls l_f124_112 u_f124_112 hH hS hl
    refine lv_aload_n hx hb dX9_init_124 rfl (lv_at hl 0 rfl) ?_
    refine lv_iconst (v := 3) hx hb dX9_init_125 (by decide) ?_
    refine tk_i hH hS hA (tr_V (n := 1) (As := [.int 3]) hx hb hml hown hts hkb hH (ox_n hOX9) hks hE hS hA (s_Law_asks l D cs kf T87 O ((a0, .inr (9, [.int v27, .int v36, .int 0, .int 0, .int 0, .int 0, .ref v47, .ref v57, .ref v67, .ref v77, .ref v87, .ref a3, .int f124_112, .int 0])) :: X) a3 na3 (3) t_a3 b_a3 (hO.sub (by decide))) kw_102 kw_103 kw_104 kw_21 kw_105 (by decide +kernel) ⟨Nat.le_of_ble_eq_true rfl, Nat.le_of_ble_eq_true rfl⟩ (HT.recv (ci := 2) hkb hH t_a3 (hO.no t_a3 (by decide)) rfl) rfl rfl hl.1 (Nat.le_of_ble_eq_true rfl) dX9_init_126 ⟨Nat.le_of_ble_eq_true rfl, Nat.le_of_ble_eq_true rfl⟩) (fun v126 u H locs hz9 hH hS => ?_)
    obtain ⟨rfl, l_v126, u_v126⟩ := hz9
    have hH : HT D cs A T87 O ((a0, .inr (9, [.int v27, .int v36, .int 0, .int 0, .int 0, .int 0, .ref v47, .ref v57, .ref v67, .ref v77, .ref v87, .ref a3, .int f124_112, .int 0])) :: X) H := hH
    refine W.widen (k := 5) (n := 52) (Nat.le_of_ble_eq_true rfl) (Nat.le_of_ble_eq_true rfl) ?_
    refine lv_if_eq (tgt := 136) hx hb dX9_init_129 (by decide) (fun c129 => ?_) (fun c129 => ?_)
    · skip
      have tc129 := f_eq (k := 0) (by decide) c129
      refine lv_iconst (v := 0) hx hb dX9_init_136 (by decide) ?_
      refine x_putkF (ci := 9) (v := .int 0) (ty := tyX9 13) (C := RX9) (F := TX9) (N := 14) hx hb hts uX9 tyX9 tyX9_ok nmX9 hown hkb hH hS 0 rfl rfl 13 (by decide) kw_149 (fun _ h9 => h9) rfl hnm rfl (tyX9_ok 13 (by decide)) rfl rfl (Nat.le_of_ble_eq_true rfl) dX9_init_137 (fun H locs hH hS => ?_)
      have hH : HT D cs A T87 O ((a0, .inr (9, [.int v27, .int v36, .int 0, .int 0, .int 0, .int 0, .ref v47, .ref v57, .ref v67, .ref v77, .ref v87, .ref a3, .int f124_112, .int 0])) :: X) H := hH
      have z9_0 : (0 : Int32).toInt = 0 := by decide
      have z9_0 : (0 : Int32).toInt = 0 := by decide
      have z9_0 : (0 : Int32).toInt = 0 := by decide
      have z9_0 : (0 : Int32).toInt = 0 := by decide
      have z9_0 : (0 : Int32).toInt = 0 := by decide
      have z9_0 : (0 : Int32).toInt = 0 := by decide
      exact te_v hx hb hr hlocks hH hS (⟨T87, (Tgr.tr (Tgr.tr (Tgr.tr (Tgr.tr le_T47 le_T57) le_T67) le_T77) le_T87), v27, v36, v47, v57, v67, v77, v87, f124_112, (0 : Int32), rfl, by omega, by omega, t_v47, t_v57, t_v67, t_v77, t_v87, by omega, by omega, by omega, by omega⟩) dX9_init_140
    · skip
      have tc129 := f_ne (k := 0) (by decide) c129
      refine lv_iconst (v := 1) hx hb dX9_init_132 (by decide) ?_
      refine lv_goto (tgt := 137) hx hb dX9_init_133 (by decide) ?_
      refine x_putkF (ci := 9) (v := .int 1) (ty := tyX9 13) (C := RX9) (F := TX9) (N := 14) hx hb hts uX9 tyX9 tyX9_ok nmX9 hown hkb hH hS 0 rfl rfl 13 (by decide) kw_149 (fun _ h9 => h9) rfl hnm rfl (tyX9_ok 13 (by decide)) rfl rfl (Nat.le_of_ble_eq_true rfl) dX9_init_137 (fun H locs hH hS => ?_)
      have hH : HT D cs A T87 O ((a0, .inr (9, [.int v27, .int v36, .int 0, .int 0, .int 0, .int 0, .ref v47, .ref v57, .ref v67, .ref v77, .ref v87, .ref a3, .int f124_112, .int 1])) :: X) H := hH
      have z9_1 : (1 : Int32).toInt = 1 := by decide
      have z9_0 : (0 : Int32).toInt = 0 := by decide
      have z9_0 : (0 : Int32).toInt = 0 := by decide
      have z9_0 : (0 : Int32).toInt = 0 := by decide
      have z9_0 : (0 : Int32).toInt = 0 := by decide
      have z9_1 : (1 : Int32).toInt = 1 := by decide
      exact te_v hx hb hr hlocks hH hS (⟨T87, (Tgr.tr (Tgr.tr (Tgr.tr (Tgr.tr le_T47 le_T57) le_T67) le_T77) le_T87), v27, v36, v47, v57, v67, v77, v87, f124_112, (1 : Int32), rfl, by omega, by omega, t_v47, t_v57, t_v67, t_v77, t_v87, by omega, by omega, by omega, by omega⟩) dX9_init_140
  refine lv_if_eq (tgt := 115) hx hb dX9_init_108 (by decide) (fun c108 => ?_) (fun c108 => ?_)
  · skip
    have tc108 := f_eq (k := 0) (by decide) c108
    refine lv_iconst (v := 0) hx hb dX9_init_115 (by decide) ?_
    refine x_putkF (ci := 9) (v := .int 0) (ty := tyX9 12) (C := RX9) (F := TX9) (N := 14) hx hb hts uX9 tyX9 tyX9_ok nmX9 hown hkb hH hS 0 rfl rfl 12 (by decide) kw_148 (fun _ h9 => h9) rfl hnm rfl (tyX9_ok 12 (by decide)) rfl rfl (Nat.le_of_ble_eq_true rfl) dX9_init_116 (fun H locs hH hS => ?_)
    have hH : HT D cs A T87 O ((a0, .inr (9, [.int v27, .int v36, .int 0, .int 0, .int 0, .int 0, .ref v47, .ref v57, .ref v67, .ref v77, .ref v87, .ref a3, .int 0, .int 0])) :: X) H := hH
    refine lv_aload_n hx hb dX9_init_119 rfl (lv_at hl 0 rfl) ?_
    refine lv_aload_n hx hb dX9_init_120 rfl (lv_at hl 3 rfl) ?_
    refine lv_ifnull hx hb dX9_init_121 ?_
    exact J124 0 _ _ _ (by decide) (by decide) hH hS (lv_sub hl [3] rfl)
  · skip
    have tc108 := f_ne (k := 0) (by decide) c108
    refine lv_iconst (v := 1) hx hb dX9_init_111 (by decide) ?_
    refine lv_goto (tgt := 116) hx hb dX9_init_112 (by decide) ?_
    refine x_putkF (ci := 9) (v := .int 1) (ty := tyX9 12) (C := RX9) (F := TX9) (N := 14) hx hb hts uX9 tyX9 tyX9_ok nmX9 hown hkb hH hS 0 rfl rfl 12 (by decide) kw_148 (fun _ h9 => h9) rfl hnm rfl (tyX9_ok 12 (by decide)) rfl rfl (Nat.le_of_ble_eq_true rfl) dX9_init_116 (fun H locs hH hS => ?_)
    have hH : HT D cs A T87 O ((a0, .inr (9, [.int v27, .int v36, .int 0, .int 0, .int 0, .int 0, .ref v47, .ref v57, .ref v67, .ref v77, .ref v87, .ref a3, .int 1, .int 0])) :: X) H := hH
    refine lv_aload_n hx hb dX9_init_119 rfl (lv_at hl 0 rfl) ?_
    refine lv_aload_n hx hb dX9_init_120 rfl (lv_at hl 3 rfl) ?_
    refine lv_ifnull hx hb dX9_init_121 ?_
    exact J124 1 _ _ _ (by decide) (by decide) hH hS (lv_sub hl [3] rfl)
set_option maxHeartbeats 4000000 in
set_option maxRecDepth 100000 in
theorem s_Wall_cutN (l : Launch) (D : va_G) (cs : CS) (kf : KF) (T : TF) (O : List Nat) (X : va_W) (a0 : Nat) (t_a0 : T a0 = some (19, 100, 0)) (hO : okO T O [1, 19]) : TK l D cs kf yX9_cutToSize cX9_cutToSize 3 (some (.object "FootholdWall$Wall")) { frames := 2, cells := 6, slots := 66, locals := 60 } [.ref a0, .null] T O X (Tr D cs (fun u => ∃ T2 : TF, Tgr T T2 ∧ u.1 = (T2, O, X) ∧ (∃ h9 g9 : Nat, isW T2 u.2 h9 g9))) := by
  refine tk_of (by decide) (Nat.le_of_ble_eq_true rfl) (fun p e s m below meth c ls A H locs hx hb hr hml hown hts hlocks hnm hkb hH hS hA hOX hks hE hl => ?_)
  have hown : s.vm.findClass RX9 = some m.cls := hown
  have hl : lv_has ls 3 [(0, .ref a0), (1, .null)] := hl
  have hO0 := hO
  obtain ⟨fs9, ho9, hH⟩ := hH.take t_a0 (hO0.no t_a0 (by decide))
  have hp0 : okL T (ft9d 100 0) fs9 := (fun fs => (ob9d fs).mp) _ ho9
  clear ho9
  obtain ⟨v9, fs9, rfl, h9, hp1⟩ := okL_i hp0
  obtain ⟨q0_0, rfl, l_q0_0, u_q0_0⟩ := h9
  obtain ⟨v9, fs9, rfl, h9, hp2⟩ := okL_i hp1
  obtain ⟨q0_1, rfl, l_q0_1, u_q0_1⟩ := h9
  obtain ⟨v9, fs9, rfl, h9, hp3⟩ := okL_i hp2
  obtain ⟨q0_2, rfl⟩ := h9
  obtain ⟨v9, fs9, rfl, h9, hp4⟩ := okL_i hp3
  obtain ⟨q0_3, rfl, l_q0_3, u_q0_3⟩ := h9
  obtain ⟨v9, fs9, rfl, h9, hp5⟩ := okL_i hp4
  obtain ⟨q0_4, rfl, l_q0_4, u_q0_4⟩ := h9
  obtain ⟨v9, fs9, rfl, h9, hp6⟩ := okL_i hp5
  obtain ⟨q0_5, rfl, l_q0_5, u_q0_5⟩ := h9
  obtain ⟨v9, fs9, rfl, h9, hp7⟩ := okL_i hp6
  obtain ⟨q0_6, rfl, t_q0_6⟩ := h9
  obtain ⟨v9, fs9, rfl, h9, hp8⟩ := okL_i hp7
  obtain ⟨q0_7, rfl, t_q0_7⟩ := h9
  obtain ⟨v9, fs9, rfl, h9, hp9⟩ := okL_i hp8
  obtain ⟨q0_8, rfl, t_q0_8⟩ := h9
  obtain ⟨v9, fs9, rfl, h9, hp10⟩ := okL_i hp9
  obtain ⟨q0_9, rfl, t_q0_9⟩ := h9
  obtain ⟨v9, fs9, rfl, h9, hp11⟩ := okL_i hp10
  obtain ⟨q0_10, rfl, t_q0_10⟩ := h9
  obtain ⟨v9, fs9, rfl, h9, hp12⟩ := okL_i hp11
  have h9 : v9 = .null := h9
  subst h9
  obtain ⟨v9, fs9, rfl, h9, hp13⟩ := okL_i hp12
  obtain ⟨q0_12, rfl, l_q0_12, u_q0_12⟩ := h9
  obtain ⟨v9, fs9, rfl, h9, hp14⟩ := okL_i hp13
  obtain ⟨q0_13, rfl, l_q0_13, u_q0_13⟩ := h9
  have hpz := okL_z hp14
  subst hpz
  have hH : HT D cs A T (a0 :: O) ((a0, .inr (9, [.int q0_0, .int q0_1, .int q0_2, .int q0_3, .int q0_4, .int q0_5, .ref q0_6, .ref q0_7, .ref q0_8, .ref q0_9, .ref q0_10, .null, .int q0_12, .int q0_13])) :: X) H := hH
  have hO : okO T (a0 :: O) [1] := okO.cons (hO0.sub (by decide)) t_a0 (by decide)
  refine x_new (ci := 9) (C := RX9) (F := TX9) (N := 14) (fs := [.int 0, .int 0, .int 0, .int 0, .int 0, .int 0, .null, .null, .null, .null, .null, .null, .int 0, .int 0]) hx hb hts uX9 tyX9 tyX9_ok hown kw_754 kw_94 kw_5 hkb hH (ox_c hOX) hS hA rfl dfX9 (Nat.le_of_ble_eq_true rfl) (Nat.le_of_ble_eq_true rfl) dX9_cutToSize_0 (fun v0 H tn_v0 hH hS => ?_)
  have hH : HT D cs A T (a0 :: O) ((v0, .inr (9, [.int 0, .int 0, .int 0, .int 0, .int 0, .int 0, .null, .null, .null, .null, .null, .null, .int 0, .int 0])) :: (a0, .inr (9, [.int q0_0, .int q0_1, .int q0_2, .int q0_3, .int q0_4, .int q0_5, .ref q0_6, .ref q0_7, .ref q0_8, .ref q0_9, .ref q0_10, .null, .int q0_12, .int q0_13])) :: X) H := hH
  refine W.widen (k := 1) (n := 14) (Nat.le_of_ble_eq_true rfl) (Nat.le_of_ble_eq_true rfl) ?_
  refine lv_dup hx hb dX9_cutToSize_3 rfl ?_
  refine lv_aload_n hx hb dX9_cutToSize_4 rfl (lv_at hl 0 rfl) ?_
  refine x_getk (ci := 9) (C := RX9) (F := TX9) (N := 14) (v := .int q0_0) hx hb hts uX9 hown hkb hH 1 rfl rfl 0 (by decide) rfl kw_106 (fun _ h9 => h9) dX9_cutToSize_5 ?_
  refine lv_aload_n hx hb dX9_cutToSize_8 rfl (lv_at hl 0 rfl) ?_
  refine x_getk (ci := 9) (C := RX9) (F := TX9) (N := 14) (v := .int q0_1) hx hb hts uX9 hown hkb hH 1 rfl rfl 1 (by decide) rfl kw_110 (fun _ h9 => h9) dX9_cutToSize_9 ?_
  refine lv_aload_nN hx hb dX9_cutToSize_12 rfl (lv_at hl 1 rfl) ?_
  have z9_0 : (0 : Int32).toInt = 0 := by decide
  have z9_0 : (0 : Int32).toInt = 0 := by decide
  have z9_0 : (0 : Int32).toInt = 0 := by decide
  have z9_0 : (0 : Int32).toInt = 0 := by decide
  have z9_0 : (0 : Int32).toInt = 0 := by decide
  have z9_0 : (0 : Int32).toInt = 0 := by decide
  have z9_0 : (0 : Int32).toInt = 0 := by decide
  have z9_0 : (0 : Int32).toInt = 0 := by decide
  refine tk_v hH hS hA (tr_I (n := 3) (As := [.int q0_0, .int q0_1, .null]) hx hb hml hown hts hkb hH (ox_n (ox_c hOX)) hks hE hS hA (s_Wall_initN l D cs kf T (a0 :: O) ((a0, .inr (9, [.int q0_0, .int q0_1, .int q0_2, .int q0_3, .int q0_4, .int q0_5, .ref q0_6, .ref q0_7, .ref q0_8, .ref q0_9, .ref q0_10, .null, .int q0_12, .int q0_13])) :: X) v0 q0_0 q0_1 (ox_c hOX) (by omega) (by omega) (by omega) (by omega) (hO.sub (by decide))) kw_755 kw_96 kw_5 kw_97 rfl (by decide +kernel) ⟨Nat.le_of_ble_eq_true rfl, Nat.le_of_ble_eq_true rfl⟩ rfl rfl hl.1 (Nat.le_of_ble_eq_true rfl) dX9_cutToSize_13 ⟨Nat.le_of_ble_eq_true rfl, Nat.le_of_ble_eq_true rfl⟩) (fun u H locs hz9 hH hS => ?_)
  obtain ⟨T13, le_T13, n13_0_0, n13_0_1, n13_0_6, n13_0_7, n13_0_8, n13_0_9, n13_0_10, n13_0_12, n13_0_13, rfl, x_v130, x_v131, x_v132, x_v133, x_v134, x_v135, x_v136, x_v137, x_v138, x_v139, x_v1310⟩ := hz9
  have t_a0 := le_T13.1 _ _ t_a0
  have t_q0_6 := le_T13.1 _ _ t_q0_6
  have t_q0_7 := le_T13.1 _ _ t_q0_7
  have t_q0_8 := le_T13.1 _ _ t_q0_8
  have t_q0_9 := le_T13.1 _ _ t_q0_9
  have t_q0_10 := le_T13.1 _ _ t_q0_10
  have hO := okO.le le_T13.1 hO
  have hO0 := okO.le le_T13.1 hO0
  have t_n13_0_6 := x_v132
  have t_n13_0_7 := x_v133
  have t_n13_0_8 := x_v134
  have t_n13_0_9 := x_v135
  have t_n13_0_10 := x_v136
  have hH : HT D cs A T13 (a0 :: O) ((v0, .inr (9, [.int n13_0_0, .int n13_0_1, .int 0, .int 0, .int 0, .int 0, .ref n13_0_6, .ref n13_0_7, .ref n13_0_8, .ref n13_0_9, .ref n13_0_10, .null, .int n13_0_12, .int n13_0_13])) :: (a0, .inr (9, [.int q0_0, .int q0_1, .int q0_2, .int q0_3, .int q0_4, .int q0_5, .ref q0_6, .ref q0_7, .ref q0_8, .ref q0_9, .ref q0_10, .null, .int q0_12, .int q0_13])) :: X) H := hH
  refine W.widen (k := 6) (n := 66) (Nat.le_of_ble_eq_true rfl) (Nat.le_of_ble_eq_true rfl) ?_
  refine lv_astore_n (lv' := [(2, .ref v0), (0, .ref a0), (1, .null)]) hx hb dX9_cutToSize_16 rfl hl (by decide) rfl (fun ls hl => ?_)
  refine lv_aload_n hx hb dX9_cutToSize_17 rfl (lv_at hl 0 rfl) ?_
  refine lv_aload_n hx hb dX9_cutToSize_18 rfl (lv_at hl 1 rfl) ?_
  refine x_getk (ci := 9) (C := RX9) (F := TX9) (N := 14) (v := .int q0_2) hx hb hts uX9 hown hkb hH 1 rfl rfl 2 (by decide) rfl kw_113 (fun _ h9 => h9) dX9_cutToSize_19 ?_
  refine x_putk (ci := 9) (v := .int q0_2) (ty := tyX9 2) (C := RX9) (F := TX9) (N := 14) hx hb hts uX9 tyX9 tyX9_ok nmX9 hown hkb hH hS 0 rfl rfl 2 (by decide) kw_113 (fun _ h9 => h9) rfl (tyX9_ok 2 (by decide)) rfl rfl (Nat.le_of_ble_eq_true rfl) dX9_cutToSize_22 (fun H locs hH hS => ?_)
  have hH : HT D cs A T13 (a0 :: O) ((v0, .inr (9, [.int n13_0_0, .int n13_0_1, .int q0_2, .int 0, .int 0, .int 0, .ref n13_0_6, .ref n13_0_7, .ref n13_0_8, .ref n13_0_9, .ref n13_0_10, .null, .int n13_0_12, .int n13_0_13])) :: (a0, .inr (9, [.int q0_0, .int q0_1, .int q0_2, .int q0_3, .int q0_4, .int q0_5, .ref q0_6, .ref q0_7, .ref q0_8, .ref q0_9, .ref q0_10, .null, .int q0_12, .int q0_13])) :: X) H := hH
  refine lv_aload_n hx hb dX9_cutToSize_25 rfl (lv_at hl 0 rfl) ?_
  refine lv_aload_n hx hb dX9_cutToSize_26 rfl (lv_at hl 1 rfl) ?_
  refine x_getk (ci := 9) (C := RX9) (F := TX9) (N := 14) (v := .int q0_3) hx hb hts uX9 hown hkb hH 1 rfl rfl 3 (by decide) rfl kw_116 (fun _ h9 => h9) dX9_cutToSize_27 ?_
  refine x_putk (ci := 9) (v := .int q0_3) (ty := tyX9 3) (C := RX9) (F := TX9) (N := 14) hx hb hts uX9 tyX9 tyX9_ok nmX9 hown hkb hH hS 0 rfl rfl 3 (by decide) kw_116 (fun _ h9 => h9) rfl (tyX9_ok 3 (by decide)) rfl rfl (Nat.le_of_ble_eq_true rfl) dX9_cutToSize_30 (fun H locs hH hS => ?_)
  have hH : HT D cs A T13 (a0 :: O) ((v0, .inr (9, [.int n13_0_0, .int n13_0_1, .int q0_2, .int q0_3, .int 0, .int 0, .ref n13_0_6, .ref n13_0_7, .ref n13_0_8, .ref n13_0_9, .ref n13_0_10, .null, .int n13_0_12, .int n13_0_13])) :: (a0, .inr (9, [.int q0_0, .int q0_1, .int q0_2, .int q0_3, .int q0_4, .int q0_5, .ref q0_6, .ref q0_7, .ref q0_8, .ref q0_9, .ref q0_10, .null, .int q0_12, .int q0_13])) :: X) H := hH
  refine lv_aload_n hx hb dX9_cutToSize_33 rfl (lv_at hl 0 rfl) ?_
  refine lv_aload_n hx hb dX9_cutToSize_34 rfl (lv_at hl 1 rfl) ?_
  refine x_getk (ci := 9) (C := RX9) (F := TX9) (N := 14) (v := .int q0_4) hx hb hts uX9 hown hkb hH 1 rfl rfl 4 (by decide) rfl kw_123 (fun _ h9 => h9) dX9_cutToSize_35 ?_
  refine x_putk (ci := 9) (v := .int q0_4) (ty := tyX9 4) (C := RX9) (F := TX9) (N := 14) hx hb hts uX9 tyX9 tyX9_ok nmX9 hown hkb hH hS 0 rfl rfl 4 (by decide) kw_123 (fun _ h9 => h9) rfl (tyX9_ok 4 (by decide)) rfl rfl (Nat.le_of_ble_eq_true rfl) dX9_cutToSize_38 (fun H locs hH hS => ?_)
  have hH : HT D cs A T13 (a0 :: O) ((v0, .inr (9, [.int n13_0_0, .int n13_0_1, .int q0_2, .int q0_3, .int q0_4, .int 0, .ref n13_0_6, .ref n13_0_7, .ref n13_0_8, .ref n13_0_9, .ref n13_0_10, .null, .int n13_0_12, .int n13_0_13])) :: (a0, .inr (9, [.int q0_0, .int q0_1, .int q0_2, .int q0_3, .int q0_4, .int q0_5, .ref q0_6, .ref q0_7, .ref q0_8, .ref q0_9, .ref q0_10, .null, .int q0_12, .int q0_13])) :: X) H := hH
  refine lv_aload_n hx hb dX9_cutToSize_41 rfl (lv_at hl 0 rfl) ?_
  refine lv_aload_n hx hb dX9_cutToSize_42 rfl (lv_at hl 1 rfl) ?_
  refine x_getk (ci := 9) (C := RX9) (F := TX9) (N := 14) (v := .int q0_5) hx hb hts uX9 hown hkb hH 1 rfl rfl 5 (by decide) rfl kw_130 (fun _ h9 => h9) dX9_cutToSize_43 ?_
  refine x_putk (ci := 9) (v := .int q0_5) (ty := tyX9 5) (C := RX9) (F := TX9) (N := 14) hx hb hts uX9 tyX9 tyX9_ok nmX9 hown hkb hH hS 0 rfl rfl 5 (by decide) kw_130 (fun _ h9 => h9) rfl (tyX9_ok 5 (by decide)) rfl rfl (Nat.le_of_ble_eq_true rfl) dX9_cutToSize_46 (fun H locs hH hS => ?_)
  have hH : HT D cs A T13 (a0 :: O) ((v0, .inr (9, [.int n13_0_0, .int n13_0_1, .int q0_2, .int q0_3, .int q0_4, .int q0_5, .ref n13_0_6, .ref n13_0_7, .ref n13_0_8, .ref n13_0_9, .ref n13_0_10, .null, .int n13_0_12, .int n13_0_13])) :: (a0, .inr (9, [.int q0_0, .int q0_1, .int q0_2, .int q0_3, .int q0_4, .int q0_5, .ref q0_6, .ref q0_7, .ref q0_8, .ref q0_9, .ref q0_10, .null, .int q0_12, .int q0_13])) :: X) H := hH
  refine lv_aload_n hx hb dX9_cutToSize_49 rfl (lv_at hl 1 rfl) ?_
  refine x_getk (ci := 9) (C := RX9) (F := TX9) (N := 14) (v := .ref q0_6) hx hb hts uX9 hown hkb hH 1 rfl rfl 6 (by decide) rfl kw_132 (fun _ h9 => h9) dX9_cutToSize_50 ?_
  refine lv_iconst (v := 0) hx hb dX9_cutToSize_53 (by decide) ?_
  refine lv_aload_n hx hb dX9_cutToSize_54 rfl (lv_at hl 0 rfl) ?_
  refine x_getk (ci := 9) (C := RX9) (F := TX9) (N := 14) (v := .ref n13_0_6) hx hb hts uX9 hown hkb hH 0 rfl rfl 6 (by decide) rfl kw_132 (fun _ h9 => h9) dX9_cutToSize_55 ?_
  refine lv_iconst (v := 0) hx hb dX9_cutToSize_58 (by decide) ?_
  refine lv_aload_n hx hb dX9_cutToSize_59 rfl (lv_at hl 1 rfl) ?_
  refine x_getk (ci := 9) (C := RX9) (F := TX9) (N := 14) (v := .int q0_0) hx hb hts uX9 hown hkb hH 1 rfl rfl 0 (by decide) rfl kw_106 (fun _ h9 => h9) dX9_cutToSize_60 ?_
  refine t_copy hx hb (by rw [hml]; exact hl.1.symm) hown (hts _ kw_756) (hts _ kw_734) (hts _ kw_733) (hts _ kw_23) hkb hH hS t_q0_6 (hO.no t_q0_6 (by decide)) t_n13_0_6 (hO.no t_n13_0_6 (by decide)) (by decide) (by decide) (by omega) (by have k0 : (0 : Int32).toInt = 0 := (by decide); omega) (by have k0 : (0 : Int32).toInt = 0 := (by decide); omega) (Nat.le_of_ble_eq_true rfl) (Nat.le_of_ble_eq_true rfl) dX9_cutToSize_63 (fun H locs hH hS => ?_)
  refine lv_aload_n hx hb dX9_cutToSize_66 rfl (lv_at hl 1 rfl) ?_
  refine x_getk (ci := 9) (C := RX9) (F := TX9) (N := 14) (v := .ref q0_7) hx hb hts uX9 hown hkb hH 1 rfl rfl 7 (by decide) rfl kw_135 (fun _ h9 => h9) dX9_cutToSize_67 ?_
  refine lv_iconst (v := 0) hx hb dX9_cutToSize_70 (by decide) ?_
  refine lv_aload_n hx hb dX9_cutToSize_71 rfl (lv_at hl 0 rfl) ?_
  refine x_getk (ci := 9) (C := RX9) (F := TX9) (N := 14) (v := .ref n13_0_7) hx hb hts uX9 hown hkb hH 0 rfl rfl 7 (by decide) rfl kw_135 (fun _ h9 => h9) dX9_cutToSize_72 ?_
  refine lv_iconst (v := 0) hx hb dX9_cutToSize_75 (by decide) ?_
  refine lv_aload_n hx hb dX9_cutToSize_76 rfl (lv_at hl 1 rfl) ?_
  refine x_getk (ci := 9) (C := RX9) (F := TX9) (N := 14) (v := .int q0_0) hx hb hts uX9 hown hkb hH 1 rfl rfl 0 (by decide) rfl kw_106 (fun _ h9 => h9) dX9_cutToSize_77 ?_
  refine t_copy hx hb (by rw [hml]; exact hl.1.symm) hown (hts _ kw_756) (hts _ kw_734) (hts _ kw_733) (hts _ kw_23) hkb hH hS t_q0_7 (hO.no t_q0_7 (by decide)) t_n13_0_7 (hO.no t_n13_0_7 (by decide)) (by decide) (by decide) (by omega) (by have k0 : (0 : Int32).toInt = 0 := (by decide); omega) (by have k0 : (0 : Int32).toInt = 0 := (by decide); omega) (Nat.le_of_ble_eq_true rfl) (Nat.le_of_ble_eq_true rfl) dX9_cutToSize_80 (fun H locs hH hS => ?_)
  refine lv_aload_n hx hb dX9_cutToSize_83 rfl (lv_at hl 1 rfl) ?_
  refine x_getk (ci := 9) (C := RX9) (F := TX9) (N := 14) (v := .ref q0_8) hx hb hts uX9 hown hkb hH 1 rfl rfl 8 (by decide) rfl kw_138 (fun _ h9 => h9) dX9_cutToSize_84 ?_
  refine lv_iconst (v := 0) hx hb dX9_cutToSize_87 (by decide) ?_
  refine lv_aload_n hx hb dX9_cutToSize_88 rfl (lv_at hl 0 rfl) ?_
  refine x_getk (ci := 9) (C := RX9) (F := TX9) (N := 14) (v := .ref n13_0_8) hx hb hts uX9 hown hkb hH 0 rfl rfl 8 (by decide) rfl kw_138 (fun _ h9 => h9) dX9_cutToSize_89 ?_
  refine lv_iconst (v := 0) hx hb dX9_cutToSize_92 (by decide) ?_
  refine lv_aload_n hx hb dX9_cutToSize_93 rfl (lv_at hl 1 rfl) ?_
  refine x_getk (ci := 9) (C := RX9) (F := TX9) (N := 14) (v := .int q0_0) hx hb hts uX9 hown hkb hH 1 rfl rfl 0 (by decide) rfl kw_106 (fun _ h9 => h9) dX9_cutToSize_94 ?_
  refine t_copy hx hb (by rw [hml]; exact hl.1.symm) hown (hts _ kw_756) (hts _ kw_734) (hts _ kw_733) (hts _ kw_23) hkb hH hS t_q0_8 (hO.no t_q0_8 (by decide)) t_n13_0_8 (hO.no t_n13_0_8 (by decide)) (by decide) (by decide) (by omega) (by have k0 : (0 : Int32).toInt = 0 := (by decide); omega) (by have k0 : (0 : Int32).toInt = 0 := (by decide); omega) (Nat.le_of_ble_eq_true rfl) (Nat.le_of_ble_eq_true rfl) dX9_cutToSize_97 (fun H locs hH hS => ?_)
  refine lv_aload_n hx hb dX9_cutToSize_100 rfl (lv_at hl 1 rfl) ?_
  refine x_getk (ci := 9) (C := RX9) (F := TX9) (N := 14) (v := .ref q0_9) hx hb hts uX9 hown hkb hH 1 rfl rfl 9 (by decide) rfl kw_141 (fun _ h9 => h9) dX9_cutToSize_101 ?_
  refine lv_iconst (v := 0) hx hb dX9_cutToSize_104 (by decide) ?_
  refine lv_aload_n hx hb dX9_cutToSize_105 rfl (lv_at hl 0 rfl) ?_
  refine x_getk (ci := 9) (C := RX9) (F := TX9) (N := 14) (v := .ref n13_0_9) hx hb hts uX9 hown hkb hH 0 rfl rfl 9 (by decide) rfl kw_141 (fun _ h9 => h9) dX9_cutToSize_106 ?_
  refine lv_iconst (v := 0) hx hb dX9_cutToSize_109 (by decide) ?_
  refine lv_aload_n hx hb dX9_cutToSize_110 rfl (lv_at hl 1 rfl) ?_
  refine x_getk (ci := 9) (C := RX9) (F := TX9) (N := 14) (v := .int q0_1) hx hb hts uX9 hown hkb hH 1 rfl rfl 1 (by decide) rfl kw_110 (fun _ h9 => h9) dX9_cutToSize_111 ?_
  refine t_copy hx hb (by rw [hml]; exact hl.1.symm) hown (hts _ kw_756) (hts _ kw_734) (hts _ kw_733) (hts _ kw_23) hkb hH hS t_q0_9 (hO.no t_q0_9 (by decide)) t_n13_0_9 (hO.no t_n13_0_9 (by decide)) (by decide) (by decide) (by omega) (by have k0 : (0 : Int32).toInt = 0 := (by decide); omega) (by have k0 : (0 : Int32).toInt = 0 := (by decide); omega) (Nat.le_of_ble_eq_true rfl) (Nat.le_of_ble_eq_true rfl) dX9_cutToSize_114 (fun H locs hH hS => ?_)
  refine lv_aload_n hx hb dX9_cutToSize_117 rfl (lv_at hl 1 rfl) ?_
  refine x_getk (ci := 9) (C := RX9) (F := TX9) (N := 14) (v := .ref q0_10) hx hb hts uX9 hown hkb hH 1 rfl rfl 10 (by decide) rfl kw_144 (fun _ h9 => h9) dX9_cutToSize_118 ?_
  refine lv_iconst (v := 0) hx hb dX9_cutToSize_121 (by decide) ?_
  refine lv_aload_n hx hb dX9_cutToSize_122 rfl (lv_at hl 0 rfl) ?_
  refine x_getk (ci := 9) (C := RX9) (F := TX9) (N := 14) (v := .ref n13_0_10) hx hb hts uX9 hown hkb hH 0 rfl rfl 10 (by decide) rfl kw_144 (fun _ h9 => h9) dX9_cutToSize_123 ?_
  refine lv_iconst (v := 0) hx hb dX9_cutToSize_126 (by decide) ?_
  refine lv_aload_n hx hb dX9_cutToSize_127 rfl (lv_at hl 1 rfl) ?_
  refine x_getk (ci := 9) (C := RX9) (F := TX9) (N := 14) (v := .int q0_1) hx hb hts uX9 hown hkb hH 1 rfl rfl 1 (by decide) rfl kw_110 (fun _ h9 => h9) dX9_cutToSize_128 ?_
  refine t_copy hx hb (by rw [hml]; exact hl.1.symm) hown (hts _ kw_756) (hts _ kw_734) (hts _ kw_733) (hts _ kw_23) hkb hH hS t_q0_10 (hO.no t_q0_10 (by decide)) t_n13_0_10 (hO.no t_n13_0_10 (by decide)) (by decide) (by decide) (by omega) (by have k0 : (0 : Int32).toInt = 0 := (by decide); omega) (by have k0 : (0 : Int32).toInt = 0 := (by decide); omega) (Nat.le_of_ble_eq_true rfl) (Nat.le_of_ble_eq_true rfl) dX9_cutToSize_131 (fun H locs hH hS => ?_)
  refine lv_aload_n hx hb dX9_cutToSize_134 rfl (lv_at hl 0 rfl) ?_
  have hno := HT.none hH (ox_c hOX)
  have hwz : isW (Tadd T13 v0 (19, (n13_0_0.toInt.toNat), (n13_0_1.toInt.toNat))) v0 (n13_0_0.toInt.toNat) (n13_0_1.toInt.toNat) := ⟨Tadd_r, by omega, by omega⟩
  obtain ⟨Tz, le_Tz, t_v0, hH⟩ : ∃ Tz, Tgr T13 Tz ∧ isW Tz v0 (n13_0_0.toInt.toNat) (n13_0_1.toInt.toNat) ∧ HT D cs A Tz (a0 :: O) ((a0, .inr (9, [.int q0_0, .int q0_1, .int q0_2, .int q0_3, .int q0_4, .int q0_5, .ref q0_6, .ref q0_7, .ref q0_8, .ref q0_9, .ref q0_10, .null, .int q0_12, .int q0_13])) :: X) H := ⟨_, Tgr_add hno (Or.inr (Or.inr rfl)), hwz, HT.seal (ci := 9) (p0 := (n13_0_0.toInt.toNat)) (q0 := (n13_0_1.toInt.toNat)) hH hno ((ob9w hwz _).mpr (okL_c (show Value.int n13_0_0 = Value.int (nI n13_0_0.toInt.toNat) from congrArg Value.int (is_nI (by omega))) (okL_c (show Value.int n13_0_1 = Value.int (nI n13_0_1.toInt.toNat) from congrArg Value.int (is_nI (by omega))) (okL_c (⟨_, rfl⟩) (okL_c (⟨_, rfl, by omega, by omega⟩) (okL_c (⟨_, rfl, by omega, by omega⟩) (okL_c (⟨_, rfl, by omega, by omega⟩) (okL_c (⟨_, rfl, Tadd_le hno _ _ t_n13_0_6⟩) (okL_c (⟨_, rfl, Tadd_le hno _ _ t_n13_0_7⟩) (okL_c (⟨_, rfl, Tadd_le hno _ _ t_n13_0_8⟩) (okL_c (⟨_, rfl, Tadd_le hno _ _ t_n13_0_9⟩) (okL_c (⟨_, rfl, Tadd_le hno _ _ t_n13_0_10⟩) (okL_c (Or.inl rfl) (okL_c (⟨_, rfl, by omega, by omega⟩) (okL_c (⟨_, rfl, by omega, by omega⟩) (okL_n))))))))))))))))⟩
  have t_a0 := le_Tz.1 _ _ t_a0
  have t_q0_6 := le_Tz.1 _ _ t_q0_6
  have t_q0_7 := le_Tz.1 _ _ t_q0_7
  have t_q0_8 := le_Tz.1 _ _ t_q0_8
  have t_q0_9 := le_Tz.1 _ _ t_q0_9
  have t_q0_10 := le_Tz.1 _ _ t_q0_10
  have t_n13_0_6 := le_Tz.1 _ _ t_n13_0_6
  have t_n13_0_7 := le_Tz.1 _ _ t_n13_0_7
  have t_n13_0_8 := le_Tz.1 _ _ t_n13_0_8
  have t_n13_0_9 := le_Tz.1 _ _ t_n13_0_9
  have t_n13_0_10 := le_Tz.1 _ _ t_n13_0_10
  have hO := okO.le le_Tz.1 hO
  have hO0 := okO.le le_Tz.1 hO0
  have hH : HT D cs A Tz O X H := HT.lay (ci := 9) hH t_a0 ((ob9d _).mpr (okL_c (⟨_, rfl, by omega, by omega⟩) (okL_c (⟨_, rfl, by omega, by omega⟩) (okL_c (⟨_, rfl⟩) (okL_c (⟨_, rfl, by omega, by omega⟩) (okL_c (⟨_, rfl, by omega, by omega⟩) (okL_c (⟨_, rfl, by omega, by omega⟩) (okL_c (⟨_, rfl, t_q0_6⟩) (okL_c (⟨_, rfl, t_q0_7⟩) (okL_c (⟨_, rfl, t_q0_8⟩) (okL_c (⟨_, rfl, t_q0_9⟩) (okL_c (⟨_, rfl, t_q0_10⟩) (okL_c (rfl) (okL_c (⟨_, rfl, by omega, by omega⟩) (okL_c (⟨_, rfl, by omega, by omega⟩) (okL_n))))))))))))))))
  have hO := hO0
  exact te_r hx hb hr hlocks hH hS (⟨Tz, (Tgr.tr le_T13 le_Tz), rfl, ⟨_, _, t_v0⟩⟩) dX9_cutToSize_135
set_option maxHeartbeats 4000000 in
set_option maxRecDepth 100000 in
theorem s_Wall_cutL (l : Launch) (D : va_G) (cs : CS) (kf : KF) (T : TF) (O : List Nat) (X : va_W) (a0 : Nat) (a1 na1 : Nat) (t_a0 : T a0 = some (19, 100, 0)) (t_a1 : T a1 = some (12, na1, 0)) (b_a1 : na1 ≤ 900) (hO : okO T O [1, 12, 19]) : TK l D cs kf yX9_cutToSize cX9_cutToSize 3 (some (.object "FootholdWall$Wall")) { frames := 2, cells := 6, slots := 66, locals := 60 } [.ref a0, .ref a1] T O X (Tr D cs (fun u => ∃ T2 : TF, Tgr T T2 ∧ u.1 = (T2, O, X) ∧ (∃ h9 g9 : Nat, isW T2 u.2 h9 g9))) := by
  refine tk_of (by decide) (Nat.le_of_ble_eq_true rfl) (fun p e s m below meth c ls A H locs hx hb hr hml hown hts hlocks hnm hkb hH hS hA hOX hks hE hl => ?_)
  have hown : s.vm.findClass RX9 = some m.cls := hown
  have hl : lv_has ls 3 [(0, .ref a0), (1, .ref a1)] := hl
  have hO0 := hO
  obtain ⟨fs9, ho9, hH⟩ := hH.take t_a0 (hO0.no t_a0 (by decide))
  have hp0 : okL T (ft9d 100 0) fs9 := (fun fs => (ob9d fs).mp) _ ho9
  clear ho9
  obtain ⟨v9, fs9, rfl, h9, hp1⟩ := okL_i hp0
  obtain ⟨q0_0, rfl, l_q0_0, u_q0_0⟩ := h9
  obtain ⟨v9, fs9, rfl, h9, hp2⟩ := okL_i hp1
  obtain ⟨q0_1, rfl, l_q0_1, u_q0_1⟩ := h9
  obtain ⟨v9, fs9, rfl, h9, hp3⟩ := okL_i hp2
  obtain ⟨q0_2, rfl⟩ := h9
  obtain ⟨v9, fs9, rfl, h9, hp4⟩ := okL_i hp3
  obtain ⟨q0_3, rfl, l_q0_3, u_q0_3⟩ := h9
  obtain ⟨v9, fs9, rfl, h9, hp5⟩ := okL_i hp4
  obtain ⟨q0_4, rfl, l_q0_4, u_q0_4⟩ := h9
  obtain ⟨v9, fs9, rfl, h9, hp6⟩ := okL_i hp5
  obtain ⟨q0_5, rfl, l_q0_5, u_q0_5⟩ := h9
  obtain ⟨v9, fs9, rfl, h9, hp7⟩ := okL_i hp6
  obtain ⟨q0_6, rfl, t_q0_6⟩ := h9
  obtain ⟨v9, fs9, rfl, h9, hp8⟩ := okL_i hp7
  obtain ⟨q0_7, rfl, t_q0_7⟩ := h9
  obtain ⟨v9, fs9, rfl, h9, hp9⟩ := okL_i hp8
  obtain ⟨q0_8, rfl, t_q0_8⟩ := h9
  obtain ⟨v9, fs9, rfl, h9, hp10⟩ := okL_i hp9
  obtain ⟨q0_9, rfl, t_q0_9⟩ := h9
  obtain ⟨v9, fs9, rfl, h9, hp11⟩ := okL_i hp10
  obtain ⟨q0_10, rfl, t_q0_10⟩ := h9
  obtain ⟨v9, fs9, rfl, h9, hp12⟩ := okL_i hp11
  have h9 : v9 = .null := h9
  subst h9
  obtain ⟨v9, fs9, rfl, h9, hp13⟩ := okL_i hp12
  obtain ⟨q0_12, rfl, l_q0_12, u_q0_12⟩ := h9
  obtain ⟨v9, fs9, rfl, h9, hp14⟩ := okL_i hp13
  obtain ⟨q0_13, rfl, l_q0_13, u_q0_13⟩ := h9
  have hpz := okL_z hp14
  subst hpz
  have hH : HT D cs A T (a0 :: O) ((a0, .inr (9, [.int q0_0, .int q0_1, .int q0_2, .int q0_3, .int q0_4, .int q0_5, .ref q0_6, .ref q0_7, .ref q0_8, .ref q0_9, .ref q0_10, .null, .int q0_12, .int q0_13])) :: X) H := hH
  have hO : okO T (a0 :: O) [1, 12] := okO.cons (hO0.sub (by decide)) t_a0 (by decide)
  refine x_new (ci := 9) (C := RX9) (F := TX9) (N := 14) (fs := [.int 0, .int 0, .int 0, .int 0, .int 0, .int 0, .null, .null, .null, .null, .null, .null, .int 0, .int 0]) hx hb hts uX9 tyX9 tyX9_ok hown kw_754 kw_94 kw_5 hkb hH (ox_c hOX) hS hA rfl dfX9 (Nat.le_of_ble_eq_true rfl) (Nat.le_of_ble_eq_true rfl) dX9_cutToSize_0 (fun v0 H tn_v0 hH hS => ?_)
  have hH : HT D cs A T (a0 :: O) ((v0, .inr (9, [.int 0, .int 0, .int 0, .int 0, .int 0, .int 0, .null, .null, .null, .null, .null, .null, .int 0, .int 0])) :: (a0, .inr (9, [.int q0_0, .int q0_1, .int q0_2, .int q0_3, .int q0_4, .int q0_5, .ref q0_6, .ref q0_7, .ref q0_8, .ref q0_9, .ref q0_10, .null, .int q0_12, .int q0_13])) :: X) H := hH
  refine W.widen (k := 1) (n := 14) (Nat.le_of_ble_eq_true rfl) (Nat.le_of_ble_eq_true rfl) ?_
  refine lv_dup hx hb dX9_cutToSize_3 rfl ?_
  refine lv_aload_n hx hb dX9_cutToSize_4 rfl (lv_at hl 0 rfl) ?_
  refine x_getk (ci := 9) (C := RX9) (F := TX9) (N := 14) (v := .int q0_0) hx hb hts uX9 hown hkb hH 1 rfl rfl 0 (by decide) rfl kw_106 (fun _ h9 => h9) dX9_cutToSize_5 ?_
  refine lv_aload_n hx hb dX9_cutToSize_8 rfl (lv_at hl 0 rfl) ?_
  refine x_getk (ci := 9) (C := RX9) (F := TX9) (N := 14) (v := .int q0_1) hx hb hts uX9 hown hkb hH 1 rfl rfl 1 (by decide) rfl kw_110 (fun _ h9 => h9) dX9_cutToSize_9 ?_
  refine lv_aload_n hx hb dX9_cutToSize_12 rfl (lv_at hl 1 rfl) ?_
  have z9_0 : (0 : Int32).toInt = 0 := by decide
  have z9_0 : (0 : Int32).toInt = 0 := by decide
  have z9_0 : (0 : Int32).toInt = 0 := by decide
  have z9_0 : (0 : Int32).toInt = 0 := by decide
  have z9_0 : (0 : Int32).toInt = 0 := by decide
  have z9_0 : (0 : Int32).toInt = 0 := by decide
  have z9_0 : (0 : Int32).toInt = 0 := by decide
  have z9_0 : (0 : Int32).toInt = 0 := by decide
  refine tk_v hH hS hA (tr_I (n := 3) (As := [.int q0_0, .int q0_1, .ref a1]) hx hb hml hown hts hkb hH (ox_n (ox_c hOX)) hks hE hS hA (s_Wall_initL l D cs kf T (a0 :: O) ((a0, .inr (9, [.int q0_0, .int q0_1, .int q0_2, .int q0_3, .int q0_4, .int q0_5, .ref q0_6, .ref q0_7, .ref q0_8, .ref q0_9, .ref q0_10, .null, .int q0_12, .int q0_13])) :: X) v0 q0_0 q0_1 a1 na1 (ox_c hOX) (by omega) (by omega) (by omega) (by omega) t_a1 b_a1 (hO.sub (by decide))) kw_755 kw_96 kw_5 kw_97 rfl (by decide +kernel) ⟨Nat.le_of_ble_eq_true rfl, Nat.le_of_ble_eq_true rfl⟩ rfl rfl hl.1 (Nat.le_of_ble_eq_true rfl) dX9_cutToSize_13 ⟨Nat.le_of_ble_eq_true rfl, Nat.le_of_ble_eq_true rfl⟩) (fun u H locs hz9 hH hS => ?_)
  obtain ⟨T13, le_T13, n13_0_0, n13_0_1, n13_0_6, n13_0_7, n13_0_8, n13_0_9, n13_0_10, n13_0_12, n13_0_13, rfl, x_v130, x_v131, x_v132, x_v133, x_v134, x_v135, x_v136, x_v137, x_v138, x_v139, x_v1310⟩ := hz9
  have t_a0 := le_T13.1 _ _ t_a0
  have t_a1 := le_T13.1 _ _ t_a1
  have t_q0_6 := le_T13.1 _ _ t_q0_6
  have t_q0_7 := le_T13.1 _ _ t_q0_7
  have t_q0_8 := le_T13.1 _ _ t_q0_8
  have t_q0_9 := le_T13.1 _ _ t_q0_9
  have t_q0_10 := le_T13.1 _ _ t_q0_10
  have hO := okO.le le_T13.1 hO
  have hO0 := okO.le le_T13.1 hO0
  have t_n13_0_6 := x_v132
  have t_n13_0_7 := x_v133
  have t_n13_0_8 := x_v134
  have t_n13_0_9 := x_v135
  have t_n13_0_10 := x_v136
  have hH : HT D cs A T13 (a0 :: O) ((v0, .inr (9, [.int n13_0_0, .int n13_0_1, .int 0, .int 0, .int 0, .int 0, .ref n13_0_6, .ref n13_0_7, .ref n13_0_8, .ref n13_0_9, .ref n13_0_10, .ref a1, .int n13_0_12, .int n13_0_13])) :: (a0, .inr (9, [.int q0_0, .int q0_1, .int q0_2, .int q0_3, .int q0_4, .int q0_5, .ref q0_6, .ref q0_7, .ref q0_8, .ref q0_9, .ref q0_10, .null, .int q0_12, .int q0_13])) :: X) H := hH
  refine W.widen (k := 6) (n := 66) (Nat.le_of_ble_eq_true rfl) (Nat.le_of_ble_eq_true rfl) ?_
  refine lv_astore_n (lv' := [(2, .ref v0), (0, .ref a0), (1, .ref a1)]) hx hb dX9_cutToSize_16 rfl hl (by decide) rfl (fun ls hl => ?_)
  refine lv_aload_n hx hb dX9_cutToSize_17 rfl (lv_at hl 0 rfl) ?_
  refine lv_aload_n hx hb dX9_cutToSize_18 rfl (lv_at hl 1 rfl) ?_
  refine x_getk (ci := 9) (C := RX9) (F := TX9) (N := 14) (v := .int q0_2) hx hb hts uX9 hown hkb hH 1 rfl rfl 2 (by decide) rfl kw_113 (fun _ h9 => h9) dX9_cutToSize_19 ?_
  refine x_putk (ci := 9) (v := .int q0_2) (ty := tyX9 2) (C := RX9) (F := TX9) (N := 14) hx hb hts uX9 tyX9 tyX9_ok nmX9 hown hkb hH hS 0 rfl rfl 2 (by decide) kw_113 (fun _ h9 => h9) rfl (tyX9_ok 2 (by decide)) rfl rfl (Nat.le_of_ble_eq_true rfl) dX9_cutToSize_22 (fun H locs hH hS => ?_)
  have hH : HT D cs A T13 (a0 :: O) ((v0, .inr (9, [.int n13_0_0, .int n13_0_1, .int q0_2, .int 0, .int 0, .int 0, .ref n13_0_6, .ref n13_0_7, .ref n13_0_8, .ref n13_0_9, .ref n13_0_10, .ref a1, .int n13_0_12, .int n13_0_13])) :: (a0, .inr (9, [.int q0_0, .int q0_1, .int q0_2, .int q0_3, .int q0_4, .int q0_5, .ref q0_6, .ref q0_7, .ref q0_8, .ref q0_9, .ref q0_10, .null, .int q0_12, .int q0_13])) :: X) H := hH
  refine lv_aload_n hx hb dX9_cutToSize_25 rfl (lv_at hl 0 rfl) ?_
  refine lv_aload_n hx hb dX9_cutToSize_26 rfl (lv_at hl 1 rfl) ?_
  refine x_getk (ci := 9) (C := RX9) (F := TX9) (N := 14) (v := .int q0_3) hx hb hts uX9 hown hkb hH 1 rfl rfl 3 (by decide) rfl kw_116 (fun _ h9 => h9) dX9_cutToSize_27 ?_
  refine x_putk (ci := 9) (v := .int q0_3) (ty := tyX9 3) (C := RX9) (F := TX9) (N := 14) hx hb hts uX9 tyX9 tyX9_ok nmX9 hown hkb hH hS 0 rfl rfl 3 (by decide) kw_116 (fun _ h9 => h9) rfl (tyX9_ok 3 (by decide)) rfl rfl (Nat.le_of_ble_eq_true rfl) dX9_cutToSize_30 (fun H locs hH hS => ?_)
  have hH : HT D cs A T13 (a0 :: O) ((v0, .inr (9, [.int n13_0_0, .int n13_0_1, .int q0_2, .int q0_3, .int 0, .int 0, .ref n13_0_6, .ref n13_0_7, .ref n13_0_8, .ref n13_0_9, .ref n13_0_10, .ref a1, .int n13_0_12, .int n13_0_13])) :: (a0, .inr (9, [.int q0_0, .int q0_1, .int q0_2, .int q0_3, .int q0_4, .int q0_5, .ref q0_6, .ref q0_7, .ref q0_8, .ref q0_9, .ref q0_10, .null, .int q0_12, .int q0_13])) :: X) H := hH
  refine lv_aload_n hx hb dX9_cutToSize_33 rfl (lv_at hl 0 rfl) ?_
  refine lv_aload_n hx hb dX9_cutToSize_34 rfl (lv_at hl 1 rfl) ?_
  refine x_getk (ci := 9) (C := RX9) (F := TX9) (N := 14) (v := .int q0_4) hx hb hts uX9 hown hkb hH 1 rfl rfl 4 (by decide) rfl kw_123 (fun _ h9 => h9) dX9_cutToSize_35 ?_
  refine x_putk (ci := 9) (v := .int q0_4) (ty := tyX9 4) (C := RX9) (F := TX9) (N := 14) hx hb hts uX9 tyX9 tyX9_ok nmX9 hown hkb hH hS 0 rfl rfl 4 (by decide) kw_123 (fun _ h9 => h9) rfl (tyX9_ok 4 (by decide)) rfl rfl (Nat.le_of_ble_eq_true rfl) dX9_cutToSize_38 (fun H locs hH hS => ?_)
  have hH : HT D cs A T13 (a0 :: O) ((v0, .inr (9, [.int n13_0_0, .int n13_0_1, .int q0_2, .int q0_3, .int q0_4, .int 0, .ref n13_0_6, .ref n13_0_7, .ref n13_0_8, .ref n13_0_9, .ref n13_0_10, .ref a1, .int n13_0_12, .int n13_0_13])) :: (a0, .inr (9, [.int q0_0, .int q0_1, .int q0_2, .int q0_3, .int q0_4, .int q0_5, .ref q0_6, .ref q0_7, .ref q0_8, .ref q0_9, .ref q0_10, .null, .int q0_12, .int q0_13])) :: X) H := hH
  refine lv_aload_n hx hb dX9_cutToSize_41 rfl (lv_at hl 0 rfl) ?_
  refine lv_aload_n hx hb dX9_cutToSize_42 rfl (lv_at hl 1 rfl) ?_
  refine x_getk (ci := 9) (C := RX9) (F := TX9) (N := 14) (v := .int q0_5) hx hb hts uX9 hown hkb hH 1 rfl rfl 5 (by decide) rfl kw_130 (fun _ h9 => h9) dX9_cutToSize_43 ?_
  refine x_putk (ci := 9) (v := .int q0_5) (ty := tyX9 5) (C := RX9) (F := TX9) (N := 14) hx hb hts uX9 tyX9 tyX9_ok nmX9 hown hkb hH hS 0 rfl rfl 5 (by decide) kw_130 (fun _ h9 => h9) rfl (tyX9_ok 5 (by decide)) rfl rfl (Nat.le_of_ble_eq_true rfl) dX9_cutToSize_46 (fun H locs hH hS => ?_)
  have hH : HT D cs A T13 (a0 :: O) ((v0, .inr (9, [.int n13_0_0, .int n13_0_1, .int q0_2, .int q0_3, .int q0_4, .int q0_5, .ref n13_0_6, .ref n13_0_7, .ref n13_0_8, .ref n13_0_9, .ref n13_0_10, .ref a1, .int n13_0_12, .int n13_0_13])) :: (a0, .inr (9, [.int q0_0, .int q0_1, .int q0_2, .int q0_3, .int q0_4, .int q0_5, .ref q0_6, .ref q0_7, .ref q0_8, .ref q0_9, .ref q0_10, .null, .int q0_12, .int q0_13])) :: X) H := hH
  refine lv_aload_n hx hb dX9_cutToSize_49 rfl (lv_at hl 1 rfl) ?_
  refine x_getk (ci := 9) (C := RX9) (F := TX9) (N := 14) (v := .ref q0_6) hx hb hts uX9 hown hkb hH 1 rfl rfl 6 (by decide) rfl kw_132 (fun _ h9 => h9) dX9_cutToSize_50 ?_
  refine lv_iconst (v := 0) hx hb dX9_cutToSize_53 (by decide) ?_
  refine lv_aload_n hx hb dX9_cutToSize_54 rfl (lv_at hl 0 rfl) ?_
  refine x_getk (ci := 9) (C := RX9) (F := TX9) (N := 14) (v := .ref n13_0_6) hx hb hts uX9 hown hkb hH 0 rfl rfl 6 (by decide) rfl kw_132 (fun _ h9 => h9) dX9_cutToSize_55 ?_
  refine lv_iconst (v := 0) hx hb dX9_cutToSize_58 (by decide) ?_
  refine lv_aload_n hx hb dX9_cutToSize_59 rfl (lv_at hl 1 rfl) ?_
  refine x_getk (ci := 9) (C := RX9) (F := TX9) (N := 14) (v := .int q0_0) hx hb hts uX9 hown hkb hH 1 rfl rfl 0 (by decide) rfl kw_106 (fun _ h9 => h9) dX9_cutToSize_60 ?_
  refine t_copy hx hb (by rw [hml]; exact hl.1.symm) hown (hts _ kw_756) (hts _ kw_734) (hts _ kw_733) (hts _ kw_23) hkb hH hS t_q0_6 (hO.no t_q0_6 (by decide)) t_n13_0_6 (hO.no t_n13_0_6 (by decide)) (by decide) (by decide) (by omega) (by have k0 : (0 : Int32).toInt = 0 := (by decide); omega) (by have k0 : (0 : Int32).toInt = 0 := (by decide); omega) (Nat.le_of_ble_eq_true rfl) (Nat.le_of_ble_eq_true rfl) dX9_cutToSize_63 (fun H locs hH hS => ?_)
  refine lv_aload_n hx hb dX9_cutToSize_66 rfl (lv_at hl 1 rfl) ?_
  refine x_getk (ci := 9) (C := RX9) (F := TX9) (N := 14) (v := .ref q0_7) hx hb hts uX9 hown hkb hH 1 rfl rfl 7 (by decide) rfl kw_135 (fun _ h9 => h9) dX9_cutToSize_67 ?_
  refine lv_iconst (v := 0) hx hb dX9_cutToSize_70 (by decide) ?_
  refine lv_aload_n hx hb dX9_cutToSize_71 rfl (lv_at hl 0 rfl) ?_
  refine x_getk (ci := 9) (C := RX9) (F := TX9) (N := 14) (v := .ref n13_0_7) hx hb hts uX9 hown hkb hH 0 rfl rfl 7 (by decide) rfl kw_135 (fun _ h9 => h9) dX9_cutToSize_72 ?_
  refine lv_iconst (v := 0) hx hb dX9_cutToSize_75 (by decide) ?_
  refine lv_aload_n hx hb dX9_cutToSize_76 rfl (lv_at hl 1 rfl) ?_
  refine x_getk (ci := 9) (C := RX9) (F := TX9) (N := 14) (v := .int q0_0) hx hb hts uX9 hown hkb hH 1 rfl rfl 0 (by decide) rfl kw_106 (fun _ h9 => h9) dX9_cutToSize_77 ?_
  refine t_copy hx hb (by rw [hml]; exact hl.1.symm) hown (hts _ kw_756) (hts _ kw_734) (hts _ kw_733) (hts _ kw_23) hkb hH hS t_q0_7 (hO.no t_q0_7 (by decide)) t_n13_0_7 (hO.no t_n13_0_7 (by decide)) (by decide) (by decide) (by omega) (by have k0 : (0 : Int32).toInt = 0 := (by decide); omega) (by have k0 : (0 : Int32).toInt = 0 := (by decide); omega) (Nat.le_of_ble_eq_true rfl) (Nat.le_of_ble_eq_true rfl) dX9_cutToSize_80 (fun H locs hH hS => ?_)
  refine lv_aload_n hx hb dX9_cutToSize_83 rfl (lv_at hl 1 rfl) ?_
  refine x_getk (ci := 9) (C := RX9) (F := TX9) (N := 14) (v := .ref q0_8) hx hb hts uX9 hown hkb hH 1 rfl rfl 8 (by decide) rfl kw_138 (fun _ h9 => h9) dX9_cutToSize_84 ?_
  refine lv_iconst (v := 0) hx hb dX9_cutToSize_87 (by decide) ?_
  refine lv_aload_n hx hb dX9_cutToSize_88 rfl (lv_at hl 0 rfl) ?_
  refine x_getk (ci := 9) (C := RX9) (F := TX9) (N := 14) (v := .ref n13_0_8) hx hb hts uX9 hown hkb hH 0 rfl rfl 8 (by decide) rfl kw_138 (fun _ h9 => h9) dX9_cutToSize_89 ?_
  refine lv_iconst (v := 0) hx hb dX9_cutToSize_92 (by decide) ?_
  refine lv_aload_n hx hb dX9_cutToSize_93 rfl (lv_at hl 1 rfl) ?_
  refine x_getk (ci := 9) (C := RX9) (F := TX9) (N := 14) (v := .int q0_0) hx hb hts uX9 hown hkb hH 1 rfl rfl 0 (by decide) rfl kw_106 (fun _ h9 => h9) dX9_cutToSize_94 ?_
  refine t_copy hx hb (by rw [hml]; exact hl.1.symm) hown (hts _ kw_756) (hts _ kw_734) (hts _ kw_733) (hts _ kw_23) hkb hH hS t_q0_8 (hO.no t_q0_8 (by decide)) t_n13_0_8 (hO.no t_n13_0_8 (by decide)) (by decide) (by decide) (by omega) (by have k0 : (0 : Int32).toInt = 0 := (by decide); omega) (by have k0 : (0 : Int32).toInt = 0 := (by decide); omega) (Nat.le_of_ble_eq_true rfl) (Nat.le_of_ble_eq_true rfl) dX9_cutToSize_97 (fun H locs hH hS => ?_)
  refine lv_aload_n hx hb dX9_cutToSize_100 rfl (lv_at hl 1 rfl) ?_
  refine x_getk (ci := 9) (C := RX9) (F := TX9) (N := 14) (v := .ref q0_9) hx hb hts uX9 hown hkb hH 1 rfl rfl 9 (by decide) rfl kw_141 (fun _ h9 => h9) dX9_cutToSize_101 ?_
  refine lv_iconst (v := 0) hx hb dX9_cutToSize_104 (by decide) ?_
  refine lv_aload_n hx hb dX9_cutToSize_105 rfl (lv_at hl 0 rfl) ?_
  refine x_getk (ci := 9) (C := RX9) (F := TX9) (N := 14) (v := .ref n13_0_9) hx hb hts uX9 hown hkb hH 0 rfl rfl 9 (by decide) rfl kw_141 (fun _ h9 => h9) dX9_cutToSize_106 ?_
  refine lv_iconst (v := 0) hx hb dX9_cutToSize_109 (by decide) ?_
  refine lv_aload_n hx hb dX9_cutToSize_110 rfl (lv_at hl 1 rfl) ?_
  refine x_getk (ci := 9) (C := RX9) (F := TX9) (N := 14) (v := .int q0_1) hx hb hts uX9 hown hkb hH 1 rfl rfl 1 (by decide) rfl kw_110 (fun _ h9 => h9) dX9_cutToSize_111 ?_
  refine t_copy hx hb (by rw [hml]; exact hl.1.symm) hown (hts _ kw_756) (hts _ kw_734) (hts _ kw_733) (hts _ kw_23) hkb hH hS t_q0_9 (hO.no t_q0_9 (by decide)) t_n13_0_9 (hO.no t_n13_0_9 (by decide)) (by decide) (by decide) (by omega) (by have k0 : (0 : Int32).toInt = 0 := (by decide); omega) (by have k0 : (0 : Int32).toInt = 0 := (by decide); omega) (Nat.le_of_ble_eq_true rfl) (Nat.le_of_ble_eq_true rfl) dX9_cutToSize_114 (fun H locs hH hS => ?_)
  refine lv_aload_n hx hb dX9_cutToSize_117 rfl (lv_at hl 1 rfl) ?_
  refine x_getk (ci := 9) (C := RX9) (F := TX9) (N := 14) (v := .ref q0_10) hx hb hts uX9 hown hkb hH 1 rfl rfl 10 (by decide) rfl kw_144 (fun _ h9 => h9) dX9_cutToSize_118 ?_
  refine lv_iconst (v := 0) hx hb dX9_cutToSize_121 (by decide) ?_
  refine lv_aload_n hx hb dX9_cutToSize_122 rfl (lv_at hl 0 rfl) ?_
  refine x_getk (ci := 9) (C := RX9) (F := TX9) (N := 14) (v := .ref n13_0_10) hx hb hts uX9 hown hkb hH 0 rfl rfl 10 (by decide) rfl kw_144 (fun _ h9 => h9) dX9_cutToSize_123 ?_
  refine lv_iconst (v := 0) hx hb dX9_cutToSize_126 (by decide) ?_
  refine lv_aload_n hx hb dX9_cutToSize_127 rfl (lv_at hl 1 rfl) ?_
  refine x_getk (ci := 9) (C := RX9) (F := TX9) (N := 14) (v := .int q0_1) hx hb hts uX9 hown hkb hH 1 rfl rfl 1 (by decide) rfl kw_110 (fun _ h9 => h9) dX9_cutToSize_128 ?_
  refine t_copy hx hb (by rw [hml]; exact hl.1.symm) hown (hts _ kw_756) (hts _ kw_734) (hts _ kw_733) (hts _ kw_23) hkb hH hS t_q0_10 (hO.no t_q0_10 (by decide)) t_n13_0_10 (hO.no t_n13_0_10 (by decide)) (by decide) (by decide) (by omega) (by have k0 : (0 : Int32).toInt = 0 := (by decide); omega) (by have k0 : (0 : Int32).toInt = 0 := (by decide); omega) (Nat.le_of_ble_eq_true rfl) (Nat.le_of_ble_eq_true rfl) dX9_cutToSize_131 (fun H locs hH hS => ?_)
  refine lv_aload_n hx hb dX9_cutToSize_134 rfl (lv_at hl 0 rfl) ?_
  have hno := HT.none hH (ox_c hOX)
  have hwz : isW (Tadd T13 v0 (19, (n13_0_0.toInt.toNat), (n13_0_1.toInt.toNat))) v0 (n13_0_0.toInt.toNat) (n13_0_1.toInt.toNat) := ⟨Tadd_r, by omega, by omega⟩
  obtain ⟨Tz, le_Tz, t_v0, hH⟩ : ∃ Tz, Tgr T13 Tz ∧ isW Tz v0 (n13_0_0.toInt.toNat) (n13_0_1.toInt.toNat) ∧ HT D cs A Tz (a0 :: O) ((a0, .inr (9, [.int q0_0, .int q0_1, .int q0_2, .int q0_3, .int q0_4, .int q0_5, .ref q0_6, .ref q0_7, .ref q0_8, .ref q0_9, .ref q0_10, .null, .int q0_12, .int q0_13])) :: X) H := ⟨_, Tgr_add hno (Or.inr (Or.inr rfl)), hwz, HT.seal (ci := 9) (p0 := (n13_0_0.toInt.toNat)) (q0 := (n13_0_1.toInt.toNat)) hH hno ((ob9w hwz _).mpr (okL_c (show Value.int n13_0_0 = Value.int (nI n13_0_0.toInt.toNat) from congrArg Value.int (is_nI (by omega))) (okL_c (show Value.int n13_0_1 = Value.int (nI n13_0_1.toInt.toNat) from congrArg Value.int (is_nI (by omega))) (okL_c (⟨_, rfl⟩) (okL_c (⟨_, rfl, by omega, by omega⟩) (okL_c (⟨_, rfl, by omega, by omega⟩) (okL_c (⟨_, rfl, by omega, by omega⟩) (okL_c (⟨_, rfl, Tadd_le hno _ _ t_n13_0_6⟩) (okL_c (⟨_, rfl, Tadd_le hno _ _ t_n13_0_7⟩) (okL_c (⟨_, rfl, Tadd_le hno _ _ t_n13_0_8⟩) (okL_c (⟨_, rfl, Tadd_le hno _ _ t_n13_0_9⟩) (okL_c (⟨_, rfl, Tadd_le hno _ _ t_n13_0_10⟩) (okL_c (Or.inr ⟨_, _, rfl, Tadd_le hno _ _ t_a1, b_a1⟩) (okL_c (⟨_, rfl, by omega, by omega⟩) (okL_c (⟨_, rfl, by omega, by omega⟩) (okL_n))))))))))))))))⟩
  have t_a0 := le_Tz.1 _ _ t_a0
  have t_a1 := le_Tz.1 _ _ t_a1
  have t_q0_6 := le_Tz.1 _ _ t_q0_6
  have t_q0_7 := le_Tz.1 _ _ t_q0_7
  have t_q0_8 := le_Tz.1 _ _ t_q0_8
  have t_q0_9 := le_Tz.1 _ _ t_q0_9
  have t_q0_10 := le_Tz.1 _ _ t_q0_10
  have t_n13_0_6 := le_Tz.1 _ _ t_n13_0_6
  have t_n13_0_7 := le_Tz.1 _ _ t_n13_0_7
  have t_n13_0_8 := le_Tz.1 _ _ t_n13_0_8
  have t_n13_0_9 := le_Tz.1 _ _ t_n13_0_9
  have t_n13_0_10 := le_Tz.1 _ _ t_n13_0_10
  have hO := okO.le le_Tz.1 hO
  have hO0 := okO.le le_Tz.1 hO0
  have hH : HT D cs A Tz O X H := HT.lay (ci := 9) hH t_a0 ((ob9d _).mpr (okL_c (⟨_, rfl, by omega, by omega⟩) (okL_c (⟨_, rfl, by omega, by omega⟩) (okL_c (⟨_, rfl⟩) (okL_c (⟨_, rfl, by omega, by omega⟩) (okL_c (⟨_, rfl, by omega, by omega⟩) (okL_c (⟨_, rfl, by omega, by omega⟩) (okL_c (⟨_, rfl, t_q0_6⟩) (okL_c (⟨_, rfl, t_q0_7⟩) (okL_c (⟨_, rfl, t_q0_8⟩) (okL_c (⟨_, rfl, t_q0_9⟩) (okL_c (⟨_, rfl, t_q0_10⟩) (okL_c (rfl) (okL_c (⟨_, rfl, by omega, by omega⟩) (okL_c (⟨_, rfl, by omega, by omega⟩) (okL_n))))))))))))))))
  have hO := hO0
  exact te_r hx hb hr hlocks hH hS (⟨Tz, (Tgr.tr le_T13 le_Tz), rfl, ⟨_, _, t_v0⟩⟩) dX9_cutToSize_135
set_option maxHeartbeats 4000000 in
set_option maxRecDepth 100000 in
theorem s_RD_made (l : Launch) (D : va_G) (cs : CS) (kf : KF) (T : TF) (O : List Nat) (X : va_W) (a0 d : Nat) (t_a0 : T a0 = some (14, d, 0)) (t_d : T d = some (19, 100, 0)) (hO : okO T O [1, 12, 13, 14, 19]) : TK l D cs kf yX4_made cX4_made 1 (some (.object "FootholdWall$Wall")) { frames := 3, cells := 10, slots := 1001, locals := 102 } [.ref a0] T O X (Tr D cs (fun u => ∃ T2 : TF, Tgr T T2 ∧ u.1 = (T2, O, X) ∧ (∃ h9 g9 : Nat, isW T2 u.2 h9 g9))) := by
  refine tk_of (by decide) (Nat.le_of_ble_eq_true rfl) (fun p e s m below meth c ls A H locs hx hb hr hml hown hts hlocks hnm hkb hH hS hA hOX hks hE hl => ?_)
  have hown : s.vm.findClass RX4 = some m.cls := hown
  have hl : lv_has ls 1 [(0, .ref a0)] := hl
  refine lv_aload_n hx hb dX4_made_0 rfl (lv_at hl 0 rfl) ?_
  refine t_get (ci := 4) (lst := ft4 d 0) (C := RX4) (F := TX4) (N := 5) hx hb hts uX4 hown hkb hH t_a0 (hO.no t_a0 (by decide)) (fun _ h9 => h9) rfl rfl 2 (by decide) rfl kw_214 (fun _ h9 => h9) dX4_made_1 (fun v9 h9 => ?_)
  have h9 : v9 = .ref d := h9
  subst h9
  refine lv_aload_n hx hb dX4_made_4 rfl (lv_at hl 0 rfl) ?_
  refine t_get (ci := 4) (lst := ft4 d 0) (C := RX4) (F := TX4) (N := 5) hx hb hts uX4 hown hkb hH t_a0 (hO.no t_a0 (by decide)) (fun _ h9 => h9) rfl rfl 3 (by decide) rfl kw_215 (fun _ h9 => h9) dX4_made_5 (fun v9 h9 => ?_)
  obtain ⟨v5, rfl, l_v5, u_v5⟩ := h9
  refine lv_if_eq (tgt := 21) hx hb dX4_made_8 (by decide) (fun c8 => ?_) (fun c8 => ?_)
  · skip
    have tc8 := f_eq (k := 0) (by decide) c8
    refine lv_null hx hb dX4_made_21 ?_
    refine tk_r hH hS hA (tr_V (n := 1) (As := [.null]) hx hb hml hown hts hkb hH hOX hks hE hS hA (s_Wall_cutN l D cs kf T O X d t_d (hO.sub (by decide))) kw_750 kw_751 kw_752 kw_5 kw_753 (by decide +kernel) ⟨Nat.le_of_ble_eq_true rfl, Nat.le_of_ble_eq_true rfl⟩ (HT.recv (ci := 9) hkb hH t_d (hO.no t_d (by decide)) rfl) rfl rfl hl.1 (Nat.le_of_ble_eq_true rfl) dX4_made_22 ⟨Nat.le_of_ble_eq_true rfl, Nat.le_of_ble_eq_true rfl⟩) (fun v22 u H locs hz9 hH hS => ?_)
    obtain ⟨T22, le_T22, rfl, ⟨hv22, gv22, t_v22⟩⟩ := hz9
    have t_a0 := le_T22.1 _ _ t_a0
    have t_d := le_T22.1 _ _ t_d
    have hO := okO.le le_T22.1 hO
    have hH : HT D cs A T22 O X H := hH
    refine W.widen (k := 6) (n := 66) (Nat.le_of_ble_eq_true rfl) (Nat.le_of_ble_eq_true rfl) ?_
    refine W.widen (k := 10) (n := 1001) (Nat.le_of_ble_eq_true rfl) (Nat.le_of_ble_eq_true rfl) ?_
    exact te_r hx hb hr hlocks hH hS (⟨T22, le_T22, rfl, ⟨_, _, t_v22⟩⟩) dX4_made_25
  · skip
    have tc8 := f_ne (k := 0) (by decide) c8
    refine lv_aload_n hx hb dX4_made_11 rfl (lv_at hl 0 rfl) ?_
    refine t_get (ci := 4) (lst := ft4 d 0) (C := RX4) (F := TX4) (N := 5) hx hb hts uX4 hown hkb hH t_a0 (hO.no t_a0 (by decide)) (fun _ h9 => h9) rfl rfl 1 (by decide) rfl kw_213 (fun _ h9 => h9) dX4_made_12 (fun v9 h9 => ?_)
    obtain ⟨v12, rfl, t_v12⟩ := h9
    refine tk_r hH hS hA (tr_V (n := 0) (As := []) hx hb hml hown hts hkb hH hOX hks hE hS hA (s_LR_made l D cs kf T O X v12 t_v12 (hO.sub (by decide))) kw_715 kw_716 kw_717 kw_4 kw_718 (by decide +kernel) ⟨Nat.le_of_ble_eq_true rfl, Nat.le_of_ble_eq_true rfl⟩ (HT.recv (ci := 3) hkb hH t_v12 (hO.no t_v12 (by decide)) rfl) rfl rfl hl.1 (Nat.le_of_ble_eq_true rfl) dX4_made_15 ⟨Nat.le_of_ble_eq_true rfl, Nat.le_of_ble_eq_true rfl⟩) (fun v15 u H locs hz9 hH hS => ?_)
    obtain ⟨T15, le_T15, rfl, ⟨nv15, t_v15, b_v15⟩⟩ := hz9
    have t_a0 := le_T15.1 _ _ t_a0
    have t_d := le_T15.1 _ _ t_d
    have t_v12 := le_T15.1 _ _ t_v12
    have hO := okO.le le_T15.1 hO
    have hH : HT D cs A T15 O X H := hH
    refine W.widen (k := 4) (n := 935) (Nat.le_of_ble_eq_true rfl) (Nat.le_of_ble_eq_true rfl) ?_
    refine lv_goto (tgt := 22) hx hb dX4_made_18 (by decide) ?_
    refine tk_r hH hS hA (tr_V (n := 1) (As := [.ref v15]) hx hb hml hown hts hkb hH hOX hks hE hS hA (s_Wall_cutL l D cs kf T15 O X d v15 nv15 t_d t_v15 b_v15 (hO.sub (by decide))) kw_750 kw_751 kw_752 kw_5 kw_753 (by decide +kernel) ⟨Nat.le_of_ble_eq_true rfl, Nat.le_of_ble_eq_true rfl⟩ (HT.recv (ci := 9) hkb hH t_d (hO.no t_d (by decide)) rfl) rfl rfl hl.1 (Nat.le_of_ble_eq_true rfl) dX4_made_22 ⟨Nat.le_of_ble_eq_true rfl, Nat.le_of_ble_eq_true rfl⟩) (fun v22 u H locs hz9 hH hS => ?_)
    obtain ⟨T22, le_T22, rfl, ⟨hv22, gv22, t_v22⟩⟩ := hz9
    have t_a0 := le_T22.1 _ _ t_a0
    have t_d := le_T22.1 _ _ t_d
    have t_v12 := le_T22.1 _ _ t_v12
    have t_v15 := le_T22.1 _ _ t_v15
    have hO := okO.le le_T22.1 hO
    have hH : HT D cs A T22 O X H := hH
    refine W.widen (k := 10) (n := 1001) (Nat.le_of_ble_eq_true rfl) (Nat.le_of_ble_eq_true rfl) ?_
    exact te_r hx hb hr hlocks hH hS (⟨T22, (Tgr.tr le_T15 le_T22), rfl, ⟨_, _, t_v22⟩⟩) dX4_made_25
