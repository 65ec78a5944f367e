set_option maxHeartbeats 4000000 in
set_option maxRecDepth 100000 in
theorem s_copyOf (l : Launch) (D : va_G) (cs : CS) (kf : KF) (T : TF) (O : List Nat) (X : va_W) (a0 : Nat) (x1 : Int32) (t_a0 : T a0 = some (1, 900, 0)) (l_x1 : 0 ≤ x1.toInt) (u_x1 : x1.toInt ≤ 900) (hO : okO T O [1]) : TK l D cs kf yJ7_copyOf_59c91 cJ7_copyOf_59c91 3 (some (.array .int)) { frames := 1, cells := 1, slots := 900, locals := 60 } [.ref a0, .int x1] T O X (Tr D cs (fun u => ∃ T2 : TF, Tgr T T2 ∧ u.1 = (T2, O, X) ∧ (T2 u.2 = some (1, x1.toInt.toNat, 0)))) := by
  refine tk_of (by decide) (Nat.le_of_ble_eq_true rfl) (fun p e s m below meth c ls A H locs hx hb hr hml hown hts hlocks hnm hkb hH hS hA hOX hks hE hl => ?_)
  have hown : s.vm.findClass RJ7 = some m.cls := hown
  have hl : lv_has ls 3 [(0, .ref a0), (1, .int x1)] := hl
  refine lv_iload_n hx hb dJ7_copyOf_59c91_0 rfl (lv_at hl 1 rfl) ?_
  refine lv_aload_n hx hb dJ7_copyOf_59c91_1 rfl (lv_at hl 0 rfl) ?_
  refine t_len1 hx hb hkb hH t_a0 (hO.no t_a0 (by decide)) dJ7_copyOf_59c91_2 ?_
  refine lv_topc (y := 900) (by rfl) ?_
  refine lv_icmp_ne (tgt := 14) hx hb dJ7_copyOf_59c91_3 (by decide) (fun c3 => ?_) (fun c3 => ?_)
  · skip
    have tc3 := f_ne (k := 900) (by decide) c3
    refine lv_iload_n hx hb dJ7_copyOf_59c91_14 rfl (lv_at hl 1 rfl) ?_
    refine t_newI (N' := (x1.toInt.toNat)) (k := 0) hx hb hts kw_92 hkb hH hOX hS hA (by omega) (by omega) (cp_0 _) (Nat.le_of_ble_eq_true rfl) (by show 0 + (x1.toInt.toNat) ≤ 900; omega) dJ7_copyOf_59c91_15 (fun v15 T15 H le_T15 t_v15 hH hS => ?_)
    have t_a0 := le_T15.1 _ _ t_a0
    have hO := okO.le le_T15.1 hO
    refine W.widen (k := 1) (n := 899) (Nat.le_of_ble_eq_true rfl) (by omega) ?_
    refine lv_astore_n (lv' := [(2, .ref v15), (0, .ref a0), (1, .int x1)]) hx hb dJ7_copyOf_59c91_17 rfl hl (by decide) rfl (fun ls hl => ?_)
    refine lv_aload_n hx hb dJ7_copyOf_59c91_18 rfl (lv_at hl 1 rfl) ?_
    refine lv_iconst (v := 0) hx hb dJ7_copyOf_59c91_19 (by decide) ?_
    refine lv_aload_n hx hb dJ7_copyOf_59c91_20 rfl (lv_at hl 0 rfl) ?_
    refine lv_iconst (v := 0) hx hb dJ7_copyOf_59c91_21 (by decide) ?_
    refine lv_aload_n hx hb dJ7_copyOf_59c91_22 rfl (lv_at hl 1 rfl) ?_
    refine t_len1 hx hb hkb hH t_a0 (hO.no t_a0 (by decide)) dJ7_copyOf_59c91_23 ?_
    refine lv_topc (y := 900) (by rfl) ?_
    refine lv_iload_n hx hb dJ7_copyOf_59c91_24 rfl (lv_at hl 2 rfl) ?_
    refine va_mmin hx hb (by rw [hml]; exact hl.1.symm) hown (hts _ kw_731) (hts _ kw_450) (hts _ kw_6) (hts _ kw_451) (Nat.le_of_ble_eq_true rfl) (Nat.le_of_ble_eq_true rfl) (Nat.le_of_ble_eq_true rfl) (Nat.le_of_ble_eq_true rfl) dJ7_copyOf_59c91_25 ?_
    refine lv_topi (fun v25 ev25 => ?_)
    have tv25 : v25.toInt = min (900) x1.toInt := by rw [ev25]; exact min_i (by decide : (900 : Int32).toInt = 900) rfl
    refine t_copy hx hb (by rw [hml]; exact hl.1.symm) hown (hts _ kw_732) (hts _ kw_734) (hts _ kw_733) (hts _ kw_23) hkb hH hS t_a0 (hO.no t_a0 (by decide)) t_v15 (hO.no t_v15 (by decide)) (by decide) (by decide) (by omega) (by have k0 : (0 : Int32).toInt = 0 := (by decide); omega) (by have k0 : (0 : Int32).toInt = 0 := (by decide); omega) (Nat.le_of_ble_eq_true rfl) (Nat.le_of_ble_eq_true rfl) dJ7_copyOf_59c91_28 (fun H locs hH hS => ?_)
    refine lv_aload_n hx hb dJ7_copyOf_59c91_31 rfl (lv_at hl 0 rfl) ?_
    refine W.widen (k := 1) (n := 900) (Nat.le_of_ble_eq_true rfl) (Nat.le_of_ble_eq_true rfl) ?_
    exact te_ra hx hb hr hlocks hH hS (⟨T15, le_T15, rfl, t_v15⟩) dJ7_copyOf_59c91_32
  · skip
    have tc3 := f_eq (k := 900) (by decide) c3
    refine lv_aload_n hx hb dJ7_copyOf_59c91_6 rfl (lv_at hl 0 rfl) ?_
    refine t_cloneI hx hb (by rw [hml]; exact hl.1.symm) hown (hts _ kw_724) (hts _ kw_725) (hts _ kw_726) (hts _ kw_727) (hts _ kw_728) hkb hH hOX hS hA t_a0 (hO.no t_a0 (by decide)) (Nat.le_of_ble_eq_true rfl) (Nat.le_of_ble_eq_true rfl) (Nat.le_of_ble_eq_true rfl) (by show 0 + 900 ≤ 900; omega) dJ7_copyOf_59c91_7 (fun v7 T7 H le_T7 t_v7 hH hS => ?_)
    have t_a0 := le_T7.1 _ _ t_a0
    have hO := okO.le le_T7.1 hO
    refine W.widen (k := 1) (n := 900) (Nat.le_of_ble_eq_true rfl) (by omega) ?_
    refine t_castI hx hb hown (hts _ kw_730) hkb hH t_v7 (hO.no t_v7 (by decide)) dJ7_copyOf_59c91_10 ?_
    exact te_ra hx hb hr hlocks hH hS (⟨T7, le_T7, rfl, (by have q9 : x1.toInt.toNat = 900 := (by omega); rw [q9]; exact t_v7)⟩) dJ7_copyOf_59c91_13
set_option maxHeartbeats 4000000 in
set_option maxRecDepth 100000 in
theorem s_Law_init (l : Launch) (D : va_G) (cs : CS) (kf : KF) (T : TF) (O : List Nat) (X : va_W) (a0 : Nat) (a1 na1 : Nat) (hOX9 : ∀ o ∈ O, ∃ (k : Nat) (e : va_E), X[k]? = some (o, e)) (t_a1 : T a1 = some (1, na1, 0)) (hO : okO T O []) : TK l D cs kf yX2_init cX2_init 2 none { frames := 1, cells := 2, slots := 32, locals := 12 } [.ref a0, .ref a1] T O ((a0, .inr (2, [.null, .null, .null])) :: X) (Tv D cs (fun u => ∃ T2 : TF, Tgr T T2 ∧ ∃ (n0_1 : Nat) (n0_2 : Nat), u = (T2, O, (a0, .inr (2, [.ref a1, .ref n0_1, .ref n0_2])) :: X) ∧ (T2 n0_1 = some (1, 8, 0)) ∧ (T2 n0_2 = some (1, 24, 0)))) := by
  refine tk_of (by decide) (Nat.le_of_ble_eq_true rfl) (fun p e s m below meth c ls A H locs hx hb hr hml hown hts hlocks hnm hkb hH hS hA hOX hks hE hl => ?_)
  have hown : s.vm.findClass RX2 = some m.cls := hown
  have hl : lv_has ls 2 [(0, .ref a0), (1, .ref a1)] := hl
  have hOXf := hOX
  refine lv_aload_n hx hb dX2_init_0 rfl (lv_at hl 0 rfl) ?_
  refine W.objInit hx hb hown (hts _ kw_738) (hts _ kw_30) (hts _ kw_31) rfl (by rw [hml]; exact hl.1) rfl dX2_init_1 (Nat.le_of_ble_eq_true rfl) (Nat.le_of_ble_eq_true rfl) ?_
  refine W.eq (g2 := F0 m 4 ls []) rfl ?_
  refine lv_aload_n hx hb dX2_init_4 rfl (lv_at hl 0 rfl) ?_
  refine lv_bipush (v := 8) hx hb dX2_init_5 (by decide) ?_
  refine t_newI (N' := 8) (k := 0) hx hb hts kw_92 hkb hH (ox_n hOX9) hS hA (by decide) (by decide) (cp_0 _) (Nat.le_of_ble_eq_true rfl) (by show 0 + 8 ≤ 32; omega) dX2_init_7 (fun v7 T7 H le_T7 t_v7 hH hS => ?_)
  have t_a1 := le_T7.1 _ _ t_a1
  have hO := okO.le le_T7.1 hO
  refine W.widen (k := 1) (n := 8) (Nat.le_of_ble_eq_true rfl) (by omega) ?_
  refine x_putkF (ci := 2) (v := .ref v7) (ty := tyX2 1) (C := RX2) (F := TX2) (N := 3) hx hb hts uX2 tyX2 tyX2_ok nmX2 hown hkb hH hS 0 rfl rfl 1 (by decide) kw_740 (fun _ h9 => h9) rfl hnm rfl (tyX2_ok 1 (by decide)) rfl rfl (Nat.le_of_ble_eq_true rfl) dX2_init_9 (fun H locs hH hS => ?_)
  have hH : HT D cs A T7 O ((a0, .inr (2, [.null, .ref v7, .null])) :: X) H := hH
  refine lv_aload_n hx hb dX2_init_12 rfl (lv_at hl 0 rfl) ?_
  refine lv_bipush (v := 24) hx hb dX2_init_13 (by decide) ?_
  refine t_newI (N' := 24) (k := 0) hx hb hts kw_92 hkb hH (ox_n hOX9) hS hA (by decide) (by decide) (cp_0 _) (Nat.le_of_ble_eq_true rfl) (by show 8 + 24 ≤ 32; omega) dX2_init_15 (fun v15 T15 H le_T15 t_v15 hH hS => ?_)
  have t_a1 := le_T15.1 _ _ t_a1
  have t_v7 := le_T15.1 _ _ t_v7
  have hO := okO.le le_T15.1 hO
  refine W.widen (k := 2) (n := 32) (Nat.le_of_ble_eq_true rfl) (by omega) ?_
  refine x_putkF (ci := 2) (v := .ref v15) (ty := tyX2 2) (C := RX2) (F := TX2) (N := 3) hx hb hts uX2 tyX2 tyX2_ok nmX2 hown hkb hH hS 0 rfl rfl 2 (by decide) kw_742 (fun _ h9 => h9) rfl hnm rfl (tyX2_ok 2 (by decide)) rfl rfl (Nat.le_of_ble_eq_true rfl) dX2_init_17 (fun H locs hH hS => ?_)
  have hH : HT D cs A T15 O ((a0, .inr (2, [.null, .ref v7, .ref v15])) :: X) H := hH
  refine lv_aload_n hx hb dX2_init_20 rfl (lv_at hl 0 rfl) ?_
  refine lv_aload_n hx hb dX2_init_21 rfl (lv_at hl 1 rfl) ?_
  refine x_putkF (ci := 2) (v := .ref a1) (ty := tyX2 0) (C := RX2) (F := TX2) (N := 3) hx hb hts uX2 tyX2 tyX2_ok nmX2 hown hkb hH hS 0 rfl rfl 0 (by decide) kw_739 (fun _ h9 => h9) rfl hnm rfl (tyX2_ok 0 (by decide)) rfl rfl (Nat.le_of_ble_eq_true rfl) dX2_init_22 (fun H locs hH hS => ?_)
  have hH : HT D cs A T15 O ((a0, .inr (2, [.ref a1, .ref v7, .ref v15])) :: X) H := hH
  exact te_v hx hb hr hlocks hH hS (⟨T15, (Tgr.tr le_T7 le_T15), v7, v15, rfl, t_v7, t_v15⟩) dX2_init_25
set_option maxHeartbeats 4000000 in
set_option maxRecDepth 100000 in
theorem s_LR_made (l : Launch) (D : va_G) (cs : CS) (kf : KF) (T : TF) (O : List Nat) (X : va_W) (a0 : Nat) (t_a0 : T a0 = some (13, 0, 0)) (hO : okO T O [1, 13]) : TK l D cs kf yX3_made cX3_made 1 (some (.object "FootholdWall$Law")) { frames := 2, cells := 4, slots := 935, locals := 82 } [.ref a0] T O X (Tr D cs (fun u => ∃ T2 : TF, Tgr T T2 ∧ u.1 = (T2, O, X) ∧ (∃ n9 : Nat, T2 u.2 = some (12, n9, 0) ∧ n9 ≤ 900))) := by
  refine tk_of (by decide) (Nat.le_of_ble_eq_true rfl) (fun p e s m below meth c ls A H locs hx hb hr hml hown hts hlocks hnm hkb hH hS hA hOX hks hE hl => ?_)
  have hown : s.vm.findClass RX3 = some m.cls := hown
  have hl : lv_has ls 1 [(0, .ref a0)] := hl
  refine x_new (ci := 2) (C := RX2) (F := TX2) (N := 3) (fs := [.null, .null, .null]) hx hb hts uX2 tyX2 tyX2_ok hown kw_719 kw_720 kw_21 hkb hH hOX hS hA rfl dfX2 (Nat.le_of_ble_eq_true rfl) (Nat.le_of_ble_eq_true rfl) dX3_made_0 (fun v0 H tn_v0 hH hS => ?_)
  have hH : HT D cs A T O ((v0, .inr (2, [.null, .null, .null])) :: X) H := hH
  refine W.widen (k := 1) (n := 3) (Nat.le_of_ble_eq_true rfl) (Nat.le_of_ble_eq_true rfl) ?_
  refine lv_dup hx hb dX3_made_3 rfl ?_
  refine lv_aload_n hx hb dX3_made_4 rfl (lv_at hl 0 rfl) ?_
  refine t_get (ci := 3) (lst := ft3 0 0) (C := RX3) (F := TX3) (N := 3) hx hb hts uX3 hown hkb hH t_a0 (hO.no t_a0 (by decide)) (fun _ h9 => h9) rfl rfl 1 (by decide) rfl kw_83 (fun _ h9 => h9) dX3_made_5 (fun v9 h9 => ?_)
  obtain ⟨v5, rfl, t_v5⟩ := h9
  refine lv_aload_n hx hb dX3_made_8 rfl (lv_at hl 0 rfl) ?_
  refine t_get (ci := 3) (lst := ft3 0 0) (C := RX3) (F := TX3) (N := 3) hx hb hts uX3 hown hkb hH t_a0 (hO.no t_a0 (by decide)) (fun _ h9 => h9) rfl rfl 2 (by decide) rfl kw_84 (fun _ h9 => h9) dX3_made_9 (fun v9 h9 => ?_)
  obtain ⟨v9, rfl, l_v9, u_v9⟩ := h9
  refine tk_r hH hS hA (tr_S (n := 2) (As := [.ref v5, .int v9]) hx hb hml hown hts hkb hH (ox_n hOX) hks hE hS hA (s_copyOf l D cs kf T O ((v0, .inr (2, [.null, .null, .null])) :: X) v5 v9 t_v5 (by omega) (by omega) (hO.sub (by decide))) kw_721 kw_722 kw_22 kw_723 (by decide +kernel) ⟨Nat.le_of_ble_eq_true rfl, Nat.le_of_ble_eq_true rfl⟩ rfl rfl hl.1 (Nat.le_of_ble_eq_true rfl) dX3_made_12 ⟨Nat.le_of_ble_eq_true rfl, Nat.le_of_ble_eq_true rfl⟩) (fun v12 u H locs hz9 hH hS => ?_)
  obtain ⟨T12, le_T12, rfl, t_v12⟩ := hz9
  have t_a0 := le_T12.1 _ _ t_a0
  have t_v5 := le_T12.1 _ _ t_v5
  have hO := okO.le le_T12.1 hO
  have hH : HT D cs A T12 O ((v0, .inr (2, [.null, .null, .null])) :: X) H := hH
  refine W.widen (k := 2) (n := 903) (Nat.le_of_ble_eq_true rfl) (Nat.le_of_ble_eq_true rfl) ?_
  refine tk_v hH hS hA (tr_I (n := 1) (As := [.ref v12]) hx hb hml hown hts hkb hH (ox_n hOX) hks hE hS hA (s_Law_init l D cs kf T12 O X v0 v12 (v9.toInt.toNat) hOX t_v12 (hO.sub (by decide))) kw_735 kw_736 kw_21 kw_737 rfl (by decide +kernel) ⟨Nat.le_of_ble_eq_true rfl, Nat.le_of_ble_eq_true rfl⟩ rfl rfl hl.1 (Nat.le_of_ble_eq_true rfl) dX3_made_15 ⟨Nat.le_of_ble_eq_true rfl, Nat.le_of_ble_eq_true rfl⟩) (fun u H locs hz9 hH hS => ?_)
  obtain ⟨T15, le_T15, n15_0_1, n15_0_2, rfl, x_v150, x_v151⟩ := hz9
  have t_a0 := le_T15.1 _ _ t_a0
  have t_v5 := le_T15.1 _ _ t_v5
  have t_v12 := le_T15.1 _ _ t_v12
  have hO := okO.le le_T15.1 hO
  have t_n15_0_1 := x_v150
  have t_n15_0_2 := x_v151
  have hH : HT D cs A T15 O ((v0, .inr (2, [.ref v12, .ref n15_0_1, .ref n15_0_2])) :: X) H := hH
  refine W.widen (k := 4) (n := 935) (Nat.le_of_ble_eq_true rfl) (Nat.le_of_ble_eq_true rfl) ?_
  have hno := HT.none hH hOX
  obtain ⟨Tz, le_Tz, t_v0, hH⟩ : ∃ Tz, Tgr T15 Tz ∧ Tz v0 = some (12, (v9.toInt.toNat), 0) ∧ HT D cs A Tz O X H := ⟨_, Tgr_add hno (Or.inr (Or.inl rfl)), Tadd_r, HT.seal (ci := 2) (p0 := (v9.toInt.toNat)) (q0 := 0) hH hno (okL_c ⟨_, rfl, Tadd_le hno _ _ t_v12⟩ (okL_c ⟨_, rfl, Tadd_le hno _ _ t_n15_0_1⟩ (okL_c ⟨_, rfl, Tadd_le hno _ _ t_n15_0_2⟩ (okL_n))))⟩
  exact te_r hx hb hr hlocks hH hS (⟨Tz, (Tgr.tr (Tgr.tr le_T12 le_T15) le_Tz), rfl, ⟨(v9.toInt.toNat), t_v0, by omega⟩⟩) dX3_made_18
