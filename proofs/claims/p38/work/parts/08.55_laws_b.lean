set_option maxHeartbeats 4000000 in
set_option maxRecDepth 100000 in
theorem s_copyOf (l : Launch) (D : va_G) (cs : CS) (kf : KF) (T : TF) (O : List Nat) (X : va_W) (a0 : Nat) (x1 : Int32) (t_a0 : T a0 = some (1, 900, 0)) (l_x1 : 0 ≤ x1.toInt) (u_x1 : x1.toInt ≤ 900) (hO : okO T O [1]) : TK l D cs kf yJ7_copyOf_59c91 cJ7_copyOf_59c91 3 (some (.array .int)) { frames := 1, cells := 1, slots := 900, locals := 60 } [.ref a0, .int x1] T O X (Tr D cs (fun u => ∃ T2 : TF, Tgr T T2 ∧ u.1 = (T2, O, X) ∧ (T2 u.2 = some (1, x1.toInt.toNat, 0)))) := by
  refine tk_of (by decide) (Nat.le_of_ble_eq_true rfl) (fun p e s m below meth c ls A H locs hx hb hr hml hown hts hlocks hnm hkb hH hS hA hOX hks hE hl => ?_)
  have hown : s.vm.findClass RJ7 = some m.cls := hown
  have hl : lv_has ls 3 [(0, .ref a0), (1, .int x1)] := hl
  refine lv_iload_n hx hb dJ7_copyOf_59c91_0 rfl (lv_at hl 1 rfl) ?_
  refine lv_aload_n hx hb dJ7_copyOf_59c91_1 rfl (lv_at hl 0 rfl) ?_
  refine t_len1 hx hb hkb hH t_a0 (hO.no t_a0 (by decide)) dJ7_copyOf_59c91_2 ?_
  refine lv_topc (y := 900) (by rfl) ?_
  refine lv_icmp_ne (tgt := 14) hx hb dJ7_copyOf_59c91_3 (by decide) (fun c3 => ?_) (fun c3 => ?_)
  · skip
    have tc3 := f_ne (k := 900) (by decide) c3
    refine lv_iload_n hx hb dJ7_copyOf_59c91_14 rfl (lv_at hl 1 rfl) ?_
    refine t_newI (N' := (x1.toInt.toNat)) (k := 0) hx hb hts kw_92 hkb hH hOX hS hA (by omega) (by omega) (cp_0 _) (Nat.le_of_ble_eq_true rfl) (by show 0 + (x1.toInt.toNat) ≤ 900; omega) dJ7_copyOf_59c91_15 (fun v15 T15 H le_T15 t_v15 hH hS => ?_)
    have t_a0 := le_T15.1 _ _ t_a0
    have hO := okO.le le_T15.1 hO
    refine W.widen (k := 1) (n := 899) (Nat.le_of_ble_eq_true rfl) (by omega) ?_
    refine lv_astore_n (lv' := [(2, .ref v15), (0, .ref a0), (1, .int x1)]) hx hb dJ7_copyOf_59c91_17 rfl hl (by decide) rfl (fun ls hl => ?_)
    refine lv_aload_n hx hb dJ7_copyOf_59c91_18 rfl (lv_at hl 1 rfl) ?_
    refine lv_iconst (v := 0) hx hb dJ7_copyOf_59c91_19 (by decide) ?_
    refine lv_aload_n hx hb dJ7_copyOf_59c91_20 rfl (lv_at hl 0 rfl) ?_
    refine lv_iconst (v := 0) hx hb dJ7_copyOf_59c91_21 (by decide) ?_
    refine lv_aload_n hx hb dJ7_copyOf_59c91_22 rfl (lv_at hl 1 rfl) ?_
    refine t_len1 hx hb hkb hH t_a0 (hO.no t_a0 (by decide)) dJ7_copyOf_59c91_23 ?_
    refine lv_topc (y := 900) (by rfl) ?_
    refine lv_iload_n hx hb dJ7_copyOf_59c91_24 rfl (lv_at hl 2 rfl) ?_
    refine va_mmin hx hb (by rw [hml]; exact hl.1.symm) hown (hts _ kw_731) (hts _ kw_450) (hts _ kw_6) (hts _ kw_451) (Nat.le_of_ble_eq_true rfl) (Nat.le_of_ble_eq_true rfl) (Nat.le_of_ble_eq_true rfl) (Nat.le_of_ble_eq_true rfl) dJ7_copyOf_59c91_25 ?_
    refine lv_topi (fun v25 ev25 => ?_)
    have tv25 : v25.toInt = min (900) x1.toInt := by rw [ev25]; exact min_i (by decide : (900 : Int32).toInt = 900) rfl
    refine t_copy hx hb (by rw [hml]; exact hl.1.symm) hown (hts _ kw_732) (hts _ kw_734) (hts _ kw_733) (hts _ kw_23) hkb hH hS t_a0 (hO.no t_a0 (by decide)) t_v15 (hO.no t_v15 (by decide)) (by decide) (by decide) (by omega) (by have k0 : (0 : Int32).toInt = 0 := (by decide); omega) (by have k0 : (0 : Int32).toInt = 0 := (by decide); omega) (Nat.le_of_ble_eq_true rfl) (Nat.le_of_ble_eq_true rfl) dJ7_copyOf_59c91_28 (fun H locs hH hS => ?_)
    refine lv_aload_n hx hb dJ7_copyOf_59c91_31 rfl (lv_at hl 0 rfl) ?_
    refine W.widen (k := 1) (n := 900) (Nat.le_of_ble_eq_true rfl) (Nat.le_of_ble_eq_true rfl) ?_
    exact te_ra hx hb hr hlocks hH hS (⟨T15, le_T15, rfl, t_v15⟩) dJ7_copyOf_59c91_32
  · skip
    have tc3 := f_eq (k := 900) (by decide) c3
    refine lv_aload_n hx hb dJ7_copyOf_59c91_6 rfl (lv_at hl 0 rfl) ?_
    refine t_cloneI hx hb (by rw [hml]; exact hl.1.symm) hown (hts _ kw_724) (hts _ kw_725) (hts _ kw_726) (hts _ kw_727) (hts _ kw_728) hkb hH hOX hS hA t_a0 (hO.no t_a0 (by decide)) (Nat.le_of_ble_eq_true rfl) (Nat.le_of_ble_eq_true rfl) (Nat.le_of_ble_eq_true rfl) (by show 0 + 900 ≤ 900; omega) dJ7_copyOf_59c91_7 (fun v7 T7 H le_T7 t_v7 hH hS => ?_)
    have t_a0 := le_T7.1 _ _ t_a0
    have hO := okO.le le_T7.1 hO
    refine W.widen (k := 1) (n := 900) (Nat.le_of_ble_eq_true rfl) (by omega) ?_
    refine t_castI hx hb hown (hts _ kw_730) hkb hH t_v7 (hO.no t_v7 (by decide)) dJ7_copyOf_59c91_10 ?_
    exact te_ra hx hb hr hlocks hH hS (⟨T7, le_T7, rfl, (by have q9 : x1.toInt.toNat = 900 := (by omega); rw [q9]; exact t_v7)⟩) dJ7_copyOf_59c91_13
set_option maxHeartbeats 4000000 in
set_option maxRecDepth 100000 in
theorem s_Law_init (l : Launch) (D : va_G) (cs : CS) (kf : KF) (T : TF) (O : List Nat) (X : va_W) (a0 : Nat) (a1 na1 : Nat) (hOX9 : ∀ o ∈ O, ∃ (k : Nat) (e : va_E), X[k]? = some (o, e)) (t_a1 : T a1 = some (1, na1, 0)) (hO : okO T O []) : TK l D cs kf yX2_init cX2_init 2 none { frames := 1, cells := 2, slots := 32, locals := 12 } [.ref a0, .ref a1] T O ((a0, .inr (2, [.null, .null, .null])) :: X) (Tv D cs (fun u => ∃ T2 : TF, Tgr T T2 ∧ ∃ (n0_1 : Nat) (n0_2 : Nat), u = (T2, O, (a0, .inr (2, [.ref a1, .ref n0_1, .ref n0_2])) :: X) ∧ (T2 n0_1 = some (1, 8, 0)) ∧ (T2 n0_2 = some (1, 24, 0)))) := by
  refine tk_of (by decide) (Nat.le_of_ble_eq_true rfl) (fun p e s m below meth c ls A H locs hx hb hr hml hown hts hlocks hnm hkb hH hS hA hOX hks hE hl => ?_)
  have hown : s.vm.findClass RX2 = some m.cls := hown
  have hl : lv_has ls 2 [(0, .ref a0), (1, .ref a1)] := hl
  have hOXf := hOX
  refine lv_aload_n hx hb dX2_init_0 rfl (lv_at hl 0 rfl) ?_
  refine W.objInit hx hb hown (hts _ kw_738) (hts _ kw_30) (hts _ kw_31) rfl (by rw [hml]; exact hl.1) rfl dX2_init_1 (Nat.le_of_ble_eq_true rfl) (Nat.le_of_ble_eq_true rfl) ?_
  refine W.eq (g2 := F0 m 4 ls []) rfl ?_
  refine lv_aload_n hx hb dX2_init_4 rfl (lv_at hl 0 rfl) ?_
  refine lv_bipush (v := 8) hx hb dX2_init_5 (by decide) ?_
  refine t_newI (N' := 8) (k := 0) hx hb hts kw_92 hkb hH (ox_n hOX9) hS hA (by decide) (by decide) (cp_0 _) (Nat.le_of_ble_eq_true rfl) (by show 0 + 8 ≤ 32; omega) dX2_init_7 (fun v7 T7 H le_T7 t_v7 hH hS => ?_)
  have t_a1 := le_T7.1 _ _ t_a1
  have hO := okO.le le_T7.1 hO
  refine W.widen (k := 1) (n := 8) (Nat.le_of_ble_eq_true rfl) (by omega) ?_
  refine x_putkF (ci := 2) (v := .ref v7) (ty := tyX2 1) (C := RX2) (F := TX2) (N := 3) hx hb hts uX2 tyX2 tyX2_ok nmX2 hown hkb hH hS 0 rfl rfl 1 (by decide) kw_740 (fun _ h9 => h9) rfl hnm rfl (tyX2_ok 1 (by decide)) rfl rfl (Nat.le_of_ble_eq_true rfl) dX2_init_9 (fun H locs hH hS => ?_)
  have hH : HT D cs A T7 O ((a0, .inr (2, [.null, .ref v7, .null])) :: X) H := hH
  refine lv_aload_n hx hb dX2_init_12 rfl (lv_at hl 0 rfl) ?_
  refine lv_bipush (v := 24) hx hb dX2_init_13 (by decide) ?_
  refine t_newI (N' := 24) (k := 0) hx hb hts kw_92 hkb hH (ox_n hOX9) hS hA (by decide) (by decide) (cp_0 _) (Nat.le_of_ble_eq_true rfl) (by show 8 + 24 ≤ 32; omega) dX2_init_15 (fun v15 T15 H le_T15 t_v15 hH hS => ?_)
  have t_a1 := le_T15.1 _ _ t_a1
  have t_v7 := le_T15.1 _ _ t_v7
  have hO := okO.le le_T15.1 hO
  refine W.widen (k := 2) (n := 32) (Nat.le_of_ble_eq_true rfl) (by omega) ?_
  refine x_putkF (ci := 2) (v := .ref v15) (ty := tyX2 2) (C := RX2) (F := TX2) (N := 3) hx hb hts uX2 tyX2 tyX2_ok nmX2 hown hkb hH hS 0 rfl rfl 2 (by decide) kw_742 (fun _ h9 => h9) rfl hnm rfl (tyX2_ok 2 (by decide)) rfl rfl (Nat.le_of_ble_eq_true rfl) dX2_init_17 (fun H locs hH hS => ?_)
  have hH : HT D cs A T15 O ((a0, .inr (2, [.null, .ref v7, .ref v15])) :: X) H := hH
  refine lv_aload_n hx hb dX2_init_20 rfl (lv_at hl 0 rfl) ?_
  refine lv_aload_n hx hb dX2_init_21 rfl (lv_at hl 1 rfl) ?_
  refine x_putkF (ci := 2) (v := .ref a1) (ty := tyX2 0) (C := RX2) (F := TX2) (N := 3) hx hb hts uX2 tyX2 tyX2_ok nmX2 hown hkb hH hS 0 rfl rfl 0 (by decide) kw_739 (fun _ h9 => h9) rfl hnm rfl (tyX2_ok 0 (by decide)) rfl rfl (Nat.le_of_ble_eq_true rfl) dX2_init_22 (fun H locs hH hS => ?_)
  have hH : HT D cs A T15 O ((a0, .inr (2, [.ref a1, .ref v7, .ref v15])) :: X) H := hH
  exact te_v hx hb hr hlocks hH hS (⟨T15, (Tgr.tr le_T7 le_T15), v7, v15, rfl, t_v7, t_v15⟩) dX2_init_25
set_option maxHeartbeats 4000000 in
set_option maxRecDepth 100000 in
theorem s_LR_made (l : Launch) (D : va_G) (cs : CS) (kf : KF) (T : TF) (O : List Nat) (X : va_W) (a0 : Nat) (t_a0 : T a0 = some (13, 0, 0)) (hO : okO T O [1, 13]) : TK l D cs kf yX3_made cX3_made 1 (some (.object "FootholdWall$Law")) { frames := 2, cells := 4, slots := 935, locals := 82 } [.ref a0] T O X (Tr D cs (fun u => ∃ T2 : TF, Tgr T T2 ∧ u.1 = (T2, O, X) ∧ (∃ n9 : Nat, T2 u.2 = some (12, n9, 0) ∧ n9 ≤ 900))) := by
  refine tk_of (by decide) (Nat.le_of_ble_eq_true rfl) (fun p e s m below meth c ls A H locs hx hb hr hml hown hts hlocks hnm hkb hH hS hA hOX hks hE hl => ?_)
  have hown : s.vm.findClass RX3 = some m.cls := hown
  have hl : lv_has ls 1 [(0, .ref a0)] := hl
  refine x_new (ci := 2) (C := RX2) (F := TX2) (N := 3) (fs := [.null, .null, .null]) hx hb hts uX2 tyX2 tyX2_ok hown kw_719 kw_720 kw_21 hkb hH hOX hS hA rfl dfX2 (Nat.le_of_ble_eq_true rfl) (Nat.le_of_ble_eq_true rfl) dX3_made_0 (fun v0 H tn_v0 hH hS => ?_)
  have hH : HT D cs A T O ((v0, .inr (2, [.null, .null, .null])) :: X) H := hH
  refine W.widen (k := 1) (n := 3) (Nat.le_of_ble_eq_true rfl) (Nat.le_of_ble_eq_true rfl) ?_
  refine lv_dup hx hb dX3_made_3 rfl ?_
  refine lv_aload_n hx hb dX3_made_4 rfl (lv_at hl 0 rfl) ?_
  refine t_get (ci := 3) (lst := ft3 0 0) (C := RX3) (F := TX3) (N := 3) hx hb hts uX3 hown hkb hH t_a0 (hO.no t_a0 (by decide)) (fun _ h9 => h9) rfl rfl 1 (by decide) rfl kw_83 (fun _ h9 => h9) dX3_made_5 (fun v9 h9 => ?_)
  obtain ⟨v5, rfl, t_v5⟩ := h9
  refine lv_aload_n hx hb dX3_made_8 rfl (lv_at hl 0 rfl) ?_
  refine t_get (ci := 3) (lst := ft3 0 0) (C := RX3) (F := TX3) (N := 3) hx hb hts uX3 hown hkb hH t_a0 (hO.no t_a0 (by decide)) (fun _ h9 => h9) rfl rfl 2 (by decide) rfl kw_84 (fun _ h9 => h9) dX3_made_9 (fun v9 h9 => ?_)
  obtain ⟨v9, rfl, l_v9, u_v9⟩ := h9
  refine tk_r hH hS hA (tr_S (n := 2) (As := [.ref v5, .int v9]) hx hb hml hown hts hkb hH (ox_n hOX) hks hE hS hA (s_copyOf l D cs kf T O ((v0, .inr (2, [.null, .null, .null])) :: X) v5 v9 t_v5 (by omega) (by omega) (hO.sub (by decide))) kw_721 kw_722 kw_22 kw_723 (by decide +kernel) ⟨Nat.le_of_ble_eq_true rfl, Nat.le_of_ble_eq_true rfl⟩ rfl rfl hl.1 (Nat.le_of_ble_eq_true rfl) dX3_made_12 ⟨Nat.le_of_ble_eq_true rfl, Nat.le_of_ble_eq_true rfl⟩) (fun v12 u H locs hz9 hH hS => ?_)
  obtain ⟨T12, le_T12, rfl, t_v12⟩ := hz9
  have t_a0 := le_T12.1 _ _ t_a0
  have t_v5 := le_T12.1 _ _ t_v5
  have hO := okO.le le_T12.1 hO
  have hH : HT D cs A T12 O ((v0, .inr (2, [.null, .null, .null])) :: X) H := hH
  refine W.widen (k := 2) (n := 903) (Nat.le_of_ble_eq_true rfl) (Nat.le_of_ble_eq_true rfl) ?_
  refine tk_v hH hS hA (tr_I (n := 1) (As := [.ref v12]) hx hb hml hown hts hkb hH (ox_n hOX) hks hE hS hA (s_Law_init l D cs kf T12 O X v0 v12 (v9.toInt.toNat) hOX t_v12 (hO.sub (by decide))) kw_735 kw_736 kw_21 kw_737 rfl (by decide +kernel) ⟨Nat.le_of_ble_eq_true rfl, Nat.le_of_ble_eq_true rfl⟩ rfl rfl hl.1 (Nat.le_of_ble_eq_true rfl) dX3_made_15 ⟨Nat.le_of_ble_eq_true rfl, Nat.le_of_ble_eq_true rfl⟩) (fun u H locs hz9 hH hS => ?_)
  obtain ⟨T15, le_T15, n15_0_1, n15_0_2, rfl, x_v150, x_v151⟩ := hz9
  have t_a0 := le_T15.1 _ _ t_a0
  have t_v5 := le_T15.1 _ _ t_v5
  have t_v12 := le_T15.1 _ _ t_v12
  have hO := okO.le le_T15.1 hO
  have t_n15_0_1 := x_v150
  have t_n15_0_2 := x_v151
  have hH : HT D cs A T15 O ((v0, .inr (2, [.ref v12, .ref n15_0_1, .ref n15_0_2])) :: X) H := hH
  refine W.widen (k := 4) (n := 935) (Nat.le_of_ble_eq_true rfl) (Nat.le_of_ble_eq_true rfl) ?_
  have hno := HT.none hH hOX
  obtain ⟨Tz, le_Tz, t_v0, hH⟩ : ∃ Tz, Tgr T15 Tz ∧ Tz v0 = some (12, (v9.toInt.toNat), 0) ∧ HT D cs A Tz O X H := ⟨_, Tgr_add hno (Or.inr (Or.inl rfl)), Tadd_r, HT.seal (ci := 2) (p0 := (v9.toInt.toNat)) (q0 := 0) hH hno (okL_c ⟨_, rfl, Tadd_le hno _ _ t_v12⟩ (okL_c ⟨_, rfl, Tadd_le hno _ _ t_n15_0_1⟩ (okL_c ⟨_, rfl, Tadd_le hno _ _ t_n15_0_2⟩ (okL_n))))⟩
  exact te_r hx hb hr hlocks hH hS (⟨Tz, (Tgr.tr (Tgr.tr le_T12 le_T15) le_Tz), rfl, ⟨(v9.toInt.toNat), t_v0, by omega⟩⟩) dX3_made_18
theorem dX4_made_0 : decode cX4_made 0 = .ok (.aload_n 0, 1) := by decide +kernel
theorem dX4_made_1 : decode cX4_made 1 = .ok (.getfield 32, 3) := by decide +kernel
theorem dX4_made_4 : decode cX4_made 4 = .ok (.aload_n 0, 1) := by decide +kernel
theorem dX4_made_5 : decode cX4_made 5 = .ok (.getfield 36, 3) := by decide +kernel
theorem dX4_made_8 : decode cX4_made 8 = .ok (.ifCond .eq 13, 3) := by decide +kernel
theorem dX4_made_11 : decode cX4_made 11 = .ok (.aload_n 0, 1) := by decide +kernel
theorem dX4_made_12 : decode cX4_made 12 = .ok (.getfield 23, 3) := by decide +kernel
theorem dX4_made_15 : decode cX4_made 15 = .ok (.invokevirtual 73, 3) := by decide +kernel
theorem dX4_made_18 : decode cX4_made 18 = .ok (.goto 4, 3) := by decide +kernel
theorem dX4_made_21 : decode cX4_made 21 = .ok (.aconst_null, 1) := by decide +kernel
theorem dX4_made_22 : decode cX4_made 22 = .ok (.invokevirtual 77, 3) := by decide +kernel
theorem dX4_made_25 : decode cX4_made 25 = .ok (.areturn, 1) := by decide +kernel
theorem dX9_cutToSize_0 : decode cX9_cutToSize 0 = .ok (.new 8, 3) := by decide +kernel
theorem dX9_cutToSize_3 : decode cX9_cutToSize 3 = .ok (.dup, 1) := by decide +kernel
theorem dX9_cutToSize_4 : decode cX9_cutToSize 4 = .ok (.aload_n 0, 1) := by decide +kernel
theorem dX9_cutToSize_5 : decode cX9_cutToSize 5 = .ok (.getfield 28, 3) := by decide +kernel
theorem dX9_cutToSize_8 : decode cX9_cutToSize 8 = .ok (.aload_n 0, 1) := by decide +kernel
theorem dX9_cutToSize_9 : decode cX9_cutToSize 9 = .ok (.getfield 31, 3) := by decide +kernel
theorem dX9_cutToSize_12 : decode cX9_cutToSize 12 = .ok (.aload_n 1, 1) := by decide +kernel
theorem dX9_cutToSize_13 : decode cX9_cutToSize 13 = .ok (.invokespecial 67, 3) := by decide +kernel
theorem dX9_cutToSize_16 : decode cX9_cutToSize 16 = .ok (.astore_n 2, 1) := by decide +kernel
theorem dX9_cutToSize_17 : decode cX9_cutToSize 17 = .ok (.aload_n 2, 1) := by decide +kernel
theorem dX9_cutToSize_18 : decode cX9_cutToSize 18 = .ok (.aload_n 0, 1) := by decide +kernel
theorem dX9_cutToSize_19 : decode cX9_cutToSize 19 = .ok (.getfield 7, 3) := by decide +kernel
theorem dX9_cutToSize_22 : decode cX9_cutToSize 22 = .ok (.putfield 7, 3) := by decide +kernel
theorem dX9_cutToSize_25 : decode cX9_cutToSize 25 = .ok (.aload_n 2, 1) := by decide +kernel
theorem dX9_cutToSize_26 : decode cX9_cutToSize 26 = .ok (.aload_n 0, 1) := by decide +kernel
theorem dX9_cutToSize_27 : decode cX9_cutToSize 27 = .ok (.getfield 13, 3) := by decide +kernel
theorem dX9_cutToSize_30 : decode cX9_cutToSize 30 = .ok (.putfield 13, 3) := by decide +kernel
theorem dX9_cutToSize_33 : decode cX9_cutToSize 33 = .ok (.aload_n 2, 1) := by decide +kernel
theorem dX9_cutToSize_34 : decode cX9_cutToSize 34 = .ok (.aload_n 0, 1) := by decide +kernel
theorem dX9_cutToSize_35 : decode cX9_cutToSize 35 = .ok (.getfield 16, 3) := by decide +kernel
theorem dX9_cutToSize_38 : decode cX9_cutToSize 38 = .ok (.putfield 16, 3) := by decide +kernel
theorem dX9_cutToSize_41 : decode cX9_cutToSize 41 = .ok (.aload_n 2, 1) := by decide +kernel
theorem dX9_cutToSize_42 : decode cX9_cutToSize 42 = .ok (.aload_n 0, 1) := by decide +kernel
theorem dX9_cutToSize_43 : decode cX9_cutToSize 43 = .ok (.getfield 19, 3) := by decide +kernel
theorem dX9_cutToSize_46 : decode cX9_cutToSize 46 = .ok (.putfield 19, 3) := by decide +kernel
theorem dX9_cutToSize_49 : decode cX9_cutToSize 49 = .ok (.aload_n 0, 1) := by decide +kernel
theorem dX9_cutToSize_50 : decode cX9_cutToSize 50 = .ok (.getfield 34, 3) := by decide +kernel
theorem dX9_cutToSize_53 : decode cX9_cutToSize 53 = .ok (.iconst 0, 1) := by decide +kernel
theorem dX9_cutToSize_54 : decode cX9_cutToSize 54 = .ok (.aload_n 2, 1) := by decide +kernel
theorem dX9_cutToSize_55 : decode cX9_cutToSize 55 = .ok (.getfield 34, 3) := by decide +kernel
theorem dX9_cutToSize_58 : decode cX9_cutToSize 58 = .ok (.iconst 0, 1) := by decide +kernel
theorem dX9_cutToSize_59 : decode cX9_cutToSize 59 = .ok (.aload_n 0, 1) := by decide +kernel
theorem dX9_cutToSize_60 : decode cX9_cutToSize 60 = .ok (.getfield 28, 3) := by decide +kernel
theorem dX9_cutToSize_63 : decode cX9_cutToSize 63 = .ok (.invokestatic 70, 3) := by decide +kernel
theorem dX9_cutToSize_66 : decode cX9_cutToSize 66 = .ok (.aload_n 0, 1) := by decide +kernel
theorem dX9_cutToSize_67 : decode cX9_cutToSize 67 = .ok (.getfield 38, 3) := by decide +kernel
theorem dX9_cutToSize_70 : decode cX9_cutToSize 70 = .ok (.iconst 0, 1) := by decide +kernel
theorem dX9_cutToSize_71 : decode cX9_cutToSize 71 = .ok (.aload_n 2, 1) := by decide +kernel
theorem dX9_cutToSize_72 : decode cX9_cutToSize 72 = .ok (.getfield 38, 3) := by decide +kernel
theorem dX9_cutToSize_75 : decode cX9_cutToSize 75 = .ok (.iconst 0, 1) := by decide +kernel
theorem dX9_cutToSize_76 : decode cX9_cutToSize 76 = .ok (.aload_n 0, 1) := by decide +kernel
theorem dX9_cutToSize_77 : decode cX9_cutToSize 77 = .ok (.getfield 28, 3) := by decide +kernel
theorem dX9_cutToSize_80 : decode cX9_cutToSize 80 = .ok (.invokestatic 70, 3) := by decide +kernel
theorem dX9_cutToSize_83 : decode cX9_cutToSize 83 = .ok (.aload_n 0, 1) := by decide +kernel
theorem dX9_cutToSize_84 : decode cX9_cutToSize 84 = .ok (.getfield 41, 3) := by decide +kernel
theorem dX9_cutToSize_87 : decode cX9_cutToSize 87 = .ok (.iconst 0, 1) := by decide +kernel
theorem dX9_cutToSize_88 : decode cX9_cutToSize 88 = .ok (.aload_n 2, 1) := by decide +kernel
theorem dX9_cutToSize_89 : decode cX9_cutToSize 89 = .ok (.getfield 41, 3) := by decide +kernel
theorem dX9_cutToSize_92 : decode cX9_cutToSize 92 = .ok (.iconst 0, 1) := by decide +kernel
theorem dX9_cutToSize_93 : decode cX9_cutToSize 93 = .ok (.aload_n 0, 1) := by decide +kernel
theorem dX9_cutToSize_94 : decode cX9_cutToSize 94 = .ok (.getfield 28, 3) := by decide +kernel
theorem dX9_cutToSize_97 : decode cX9_cutToSize 97 = .ok (.invokestatic 70, 3) := by decide +kernel
theorem dX9_cutToSize_100 : decode cX9_cutToSize 100 = .ok (.aload_n 0, 1) := by decide +kernel
theorem dX9_cutToSize_101 : decode cX9_cutToSize 101 = .ok (.getfield 44, 3) := by decide +kernel
theorem dX9_cutToSize_104 : decode cX9_cutToSize 104 = .ok (.iconst 0, 1) := by decide +kernel
theorem dX9_cutToSize_105 : decode cX9_cutToSize 105 = .ok (.aload_n 2, 1) := by decide +kernel
theorem dX9_cutToSize_106 : decode cX9_cutToSize 106 = .ok (.getfield 44, 3) := by decide +kernel
theorem dX9_cutToSize_109 : decode cX9_cutToSize 109 = .ok (.iconst 0, 1) := by decide +kernel
theorem dX9_cutToSize_110 : decode cX9_cutToSize 110 = .ok (.aload_n 0, 1) := by decide +kernel
theorem dX9_cutToSize_111 : decode cX9_cutToSize 111 = .ok (.getfield 31, 3) := by decide +kernel
theorem dX9_cutToSize_114 : decode cX9_cutToSize 114 = .ok (.invokestatic 70, 3) := by decide +kernel
theorem dX9_cutToSize_117 : decode cX9_cutToSize 117 = .ok (.aload_n 0, 1) := by decide +kernel
theorem dX9_cutToSize_118 : decode cX9_cutToSize 118 = .ok (.getfield 47, 3) := by decide +kernel
theorem dX9_cutToSize_121 : decode cX9_cutToSize 121 = .ok (.iconst 0, 1) := by decide +kernel
theorem dX9_cutToSize_122 : decode cX9_cutToSize 122 = .ok (.aload_n 2, 1) := by decide +kernel
theorem dX9_cutToSize_123 : decode cX9_cutToSize 123 = .ok (.getfield 47, 3) := by decide +kernel
theorem dX9_cutToSize_126 : decode cX9_cutToSize 126 = .ok (.iconst 0, 1) := by decide +kernel
theorem dX9_cutToSize_127 : decode cX9_cutToSize 127 = .ok (.aload_n 0, 1) := by decide +kernel
theorem dX9_cutToSize_128 : decode cX9_cutToSize 128 = .ok (.getfield 31, 3) := by decide +kernel
theorem dX9_cutToSize_131 : decode cX9_cutToSize 131 = .ok (.invokestatic 70, 3) := by decide +kernel
theorem dX9_cutToSize_134 : decode cX9_cutToSize 134 = .ok (.aload_n 2, 1) := by decide +kernel
theorem dX9_cutToSize_135 : decode cX9_cutToSize 135 = .ok (.areturn, 1) := by decide +kernel
theorem dX9_init_0 : decode cX9_init 0 = .ok (.aload_n 0, 1) := by decide +kernel
theorem dX9_init_1 : decode cX9_init 1 = .ok (.invokespecial 1, 3) := by decide +kernel
theorem dX9_init_4 : decode cX9_init 4 = .ok (.aload_n 0, 1) := by decide +kernel
theorem dX9_init_5 : decode cX9_init 5 = .ok (.iconst 0, 1) := by decide +kernel
theorem dX9_init_6 : decode cX9_init 6 = .ok (.putfield 7, 3) := by decide +kernel
theorem dX9_init_9 : decode cX9_init 9 = .ok (.aload_n 0, 1) := by decide +kernel
theorem dX9_init_10 : decode cX9_init 10 = .ok (.iconst 0, 1) := by decide +kernel
theorem dX9_init_11 : decode cX9_init 11 = .ok (.putfield 13, 3) := by decide +kernel
theorem dX9_init_14 : decode cX9_init 14 = .ok (.aload_n 0, 1) := by decide +kernel
theorem dX9_init_15 : decode cX9_init 15 = .ok (.iconst 0, 1) := by decide +kernel
theorem dX9_init_16 : decode cX9_init 16 = .ok (.putfield 16, 3) := by decide +kernel
theorem dX9_init_19 : decode cX9_init 19 = .ok (.aload_n 0, 1) := by decide +kernel
theorem dX9_init_20 : decode cX9_init 20 = .ok (.iconst 0, 1) := by decide +kernel
theorem dX9_init_21 : decode cX9_init 21 = .ok (.putfield 19, 3) := by decide +kernel
theorem dX9_init_24 : decode cX9_init 24 = .ok (.aload_n 0, 1) := by decide +kernel
theorem dX9_init_25 : decode cX9_init 25 = .ok (.iconst 0, 1) := by decide +kernel
theorem dX9_init_26 : decode cX9_init 26 = .ok (.iload_n 1, 1) := by decide +kernel
theorem dX9_init_27 : decode cX9_init 27 = .ok (.invokestatic 22, 3) := by decide +kernel
theorem dX9_init_30 : decode cX9_init 30 = .ok (.putfield 28, 3) := by decide +kernel
theorem dX9_init_33 : decode cX9_init 33 = .ok (.aload_n 0, 1) := by decide +kernel
theorem dX9_init_34 : decode cX9_init 34 = .ok (.iconst 0, 1) := by decide +kernel
theorem dX9_init_35 : decode cX9_init 35 = .ok (.iload_n 2, 1) := by decide +kernel
theorem dX9_init_36 : decode cX9_init 36 = .ok (.invokestatic 22, 3) := by decide +kernel
theorem dX9_init_39 : decode cX9_init 39 = .ok (.putfield 31, 3) := by decide +kernel
theorem dX9_init_42 : decode cX9_init 42 = .ok (.aload_n 0, 1) := by decide +kernel
theorem dX9_init_43 : decode cX9_init 43 = .ok (.aload_n 0, 1) := by decide +kernel
theorem dX9_init_44 : decode cX9_init 44 = .ok (.getfield 28, 3) := by decide +kernel
theorem dX9_init_47 : decode cX9_init 47 = .ok (.newarray .int, 2) := by decide +kernel
theorem dX9_init_49 : decode cX9_init 49 = .ok (.putfield 34, 3) := by decide +kernel
theorem dX9_init_52 : decode cX9_init 52 = .ok (.aload_n 0, 1) := by decide +kernel
theorem dX9_init_53 : decode cX9_init 53 = .ok (.aload_n 0, 1) := by decide +kernel
theorem dX9_init_54 : decode cX9_init 54 = .ok (.getfield 28, 3) := by decide +kernel
theorem dX9_init_57 : decode cX9_init 57 = .ok (.newarray .int, 2) := by decide +kernel
theorem dX9_init_59 : decode cX9_init 59 = .ok (.putfield 38, 3) := by decide +kernel
theorem dX9_init_62 : decode cX9_init 62 = .ok (.aload_n 0, 1) := by decide +kernel
theorem dX9_init_63 : decode cX9_init 63 = .ok (.aload_n 0, 1) := by decide +kernel
theorem dX9_init_64 : decode cX9_init 64 = .ok (.getfield 28, 3) := by decide +kernel
theorem dX9_init_67 : decode cX9_init 67 = .ok (.newarray .int, 2) := by decide +kernel
theorem dX9_init_69 : decode cX9_init 69 = .ok (.putfield 41, 3) := by decide +kernel
theorem dX9_init_72 : decode cX9_init 72 = .ok (.aload_n 0, 1) := by decide +kernel
theorem dX9_init_73 : decode cX9_init 73 = .ok (.aload_n 0, 1) := by decide +kernel
theorem dX9_init_74 : decode cX9_init 74 = .ok (.getfield 31, 3) := by decide +kernel
theorem dX9_init_77 : decode cX9_init 77 = .ok (.newarray .int, 2) := by decide +kernel
theorem dX9_init_79 : decode cX9_init 79 = .ok (.putfield 44, 3) := by decide +kernel
theorem dX9_init_82 : decode cX9_init 82 = .ok (.aload_n 0, 1) := by decide +kernel
theorem dX9_init_83 : decode cX9_init 83 = .ok (.aload_n 0, 1) := by decide +kernel
theorem dX9_init_84 : decode cX9_init 84 = .ok (.getfield 31, 3) := by decide +kernel
theorem dX9_init_87 : decode cX9_init 87 = .ok (.newarray .int, 2) := by decide +kernel
theorem dX9_init_89 : decode cX9_init 89 = .ok (.putfield 47, 3) := by decide +kernel
theorem dX9_init_92 : decode cX9_init 92 = .ok (.aload_n 0, 1) := by decide +kernel
theorem dX9_init_93 : decode cX9_init 93 = .ok (.aload_n 3, 1) := by decide +kernel
theorem dX9_init_94 : decode cX9_init 94 = .ok (.putfield 50, 3) := by decide +kernel
theorem dX9_init_97 : decode cX9_init 97 = .ok (.aload_n 0, 1) := by decide +kernel
theorem dX9_init_98 : decode cX9_init 98 = .ok (.aload_n 3, 1) := by decide +kernel
theorem dX9_init_99 : decode cX9_init 99 = .ok (.ifnull 16, 3) := by decide +kernel
theorem dX9_init_102 : decode cX9_init 102 = .ok (.aload_n 3, 1) := by decide +kernel
theorem dX9_init_103 : decode cX9_init 103 = .ok (.bipush 6, 2) := by decide +kernel
theorem dX9_init_105 : decode cX9_init 105 = .ok (.invokevirtual 56, 3) := by decide +kernel
theorem dX9_init_108 : decode cX9_init 108 = .ok (.ifCond .eq 7, 3) := by decide +kernel
theorem dX9_init_111 : decode cX9_init 111 = .ok (.iconst 1, 1) := by decide +kernel
theorem dX9_init_112 : decode cX9_init 112 = .ok (.goto 4, 3) := by decide +kernel
theorem dX9_init_115 : decode cX9_init 115 = .ok (.iconst 0, 1) := by decide +kernel
theorem dX9_init_116 : decode cX9_init 116 = .ok (.putfield 60, 3) := by decide +kernel
theorem dX9_init_119 : decode cX9_init 119 = .ok (.aload_n 0, 1) := by decide +kernel
theorem dX9_init_120 : decode cX9_init 120 = .ok (.aload_n 3, 1) := by decide +kernel
theorem dX9_init_121 : decode cX9_init 121 = .ok (.ifnull 11, 3) := by decide +kernel
theorem dX9_init_124 : decode cX9_init 124 = .ok (.aload_n 3, 1) := by decide +kernel
theorem dX9_init_125 : decode cX9_init 125 = .ok (.iconst 3, 1) := by decide +kernel
theorem dX9_init_126 : decode cX9_init 126 = .ok (.invokevirtual 56, 3) := by decide +kernel
theorem dX9_init_129 : decode cX9_init 129 = .ok (.ifCond .eq 7, 3) := by decide +kernel
theorem dX9_init_132 : decode cX9_init 132 = .ok (.iconst 1, 1) := by decide +kernel
theorem dX9_init_133 : decode cX9_init 133 = .ok (.goto 4, 3) := by decide +kernel
theorem dX9_init_136 : decode cX9_init 136 = .ok (.iconst 0, 1) := by decide +kernel
theorem dX9_init_137 : decode cX9_init 137 = .ok (.putfield 64, 3) := by decide +kernel
theorem dX9_init_140 : decode cX9_init 140 = .ok (.return_, 1) := by decide +kernel
theorem kw_94 : Cond.instantiable "FootholdWall$Wall" 14 ∈ gw := gw_of (tb_of 94 (by decide +kernel)) (by decide +kernel)
theorem kw_96 : Cond.instanceMethod yX9_init ∈ gw := gw_of (tb_of 96 (by decide +kernel)) (by decide +kernel)
theorem kw_97 : Cond.code yX9_init cX9_init 4 none ∈ gw := gw_of (tb_of 97 (by decide +kernel)) (by decide +kernel)
theorem kw_98 : Cond.methodLink "FootholdWall$Wall" 1 objectInit ∈ gw := gw_of (tb_of 98 (by decide +kernel)) (by decide +kernel)
theorem kw_99 : Cond.methodLink "FootholdWall$Wall" 22 Lib.Math.max.name ∈ gw := gw_of (tb_of 99 (by decide +kernel)) (by decide +kernel)
theorem kw_102 : Cond.methodLink "FootholdWall$Wall" 56 yX2_asks ∈ gw := gw_of (tb_of 102 (by decide +kernel)) (by decide +kernel)
theorem kw_103 : Cond.instanceMethod yX2_asks ∈ gw := gw_of (tb_of 103 (by decide +kernel)) (by decide +kernel)
theorem kw_104 : Cond.selects "FootholdWall$Law" yX2_asks yX2_asks ∈ gw := gw_of (tb_of 104 (by decide +kernel)) (by decide +kernel)
theorem kw_105 : Cond.code yX2_asks cX2_asks 4 (some (.boolean)) ∈ gw := gw_of (tb_of 105 (by decide +kernel)) (by decide +kernel)
theorem kw_141 : Cond.fieldLink "FootholdWall$Wall" 44 "FootholdWall$Wall" "leg" "[I" ∈ gw := gw_of (tb_of 141 (by decide +kernel)) (by decide +kernel)
theorem kw_144 : Cond.fieldLink "FootholdWall$Wall" 47 "FootholdWall$Wall" "weight" "[I" ∈ gw := gw_of (tb_of 144 (by decide +kernel)) (by decide +kernel)
theorem kw_715 : Cond.methodLink "FootholdWall$Reader" 73 yX3_made ∈ gw := gw_of (tb_of 715 (by decide +kernel)) (by decide +kernel)
theorem kw_716 : Cond.instanceMethod yX3_made ∈ gw := gw_of (tb_of 716 (by decide +kernel)) (by decide +kernel)
theorem kw_717 : Cond.selects "FootholdWall$LawReader" yX3_made yX3_made ∈ gw := gw_of (tb_of 717 (by decide +kernel)) (by decide +kernel)
theorem kw_718 : Cond.code yX3_made cX3_made 1 (some (.object "FootholdWall$Law")) ∈ gw := gw_of (tb_of 718 (by decide +kernel)) (by decide +kernel)
theorem kw_750 : Cond.methodLink "FootholdWall$Reader" 77 yX9_cutToSize ∈ gw := gw_of (tb_of 750 (by decide +kernel)) (by decide +kernel)
theorem kw_751 : Cond.instanceMethod yX9_cutToSize ∈ gw := gw_of (tb_of 751 (by decide +kernel)) (by decide +kernel)
theorem kw_752 : Cond.selects "FootholdWall$Wall" yX9_cutToSize yX9_cutToSize ∈ gw := gw_of (tb_of 752 (by decide +kernel)) (by decide +kernel)
theorem kw_753 : Cond.code yX9_cutToSize cX9_cutToSize 3 (some (.object "FootholdWall$Wall")) ∈ gw := gw_of (tb_of 753 (by decide +kernel)) (by decide +kernel)
theorem kw_754 : Cond.classLink "FootholdWall$Wall" 8 "FootholdWall$Wall" ∈ gw := gw_of (tb_of 754 (by decide +kernel)) (by decide +kernel)
theorem kw_755 : Cond.methodLink "FootholdWall$Wall" 67 yX9_init ∈ gw := gw_of (tb_of 755 (by decide +kernel)) (by decide +kernel)
theorem kw_756 : Cond.methodLink "FootholdWall$Wall" 70 arraycopyName ∈ gw := gw_of (tb_of 756 (by decide +kernel)) (by decide +kernel)
set_option maxHeartbeats 4000000 in
set_option maxRecDepth 100000 in
theorem s_Wall_initN (l : Launch) (D : va_G) (cs : CS) (kf : KF) (T : TF) (O : List Nat) (X : va_W) (a0 : Nat) (x1 : Int32) (x2 : Int32) (hOX9 : ∀ o ∈ O, ∃ (k : Nat) (e : va_E), X[k]? = some (o, e)) (l_x1 : 0 ≤ x1.toInt) (u_x1 : x1.toInt ≤ 14) (l_x2 : 0 ≤ x2.toInt) (u_x2 : x2.toInt ≤ 5) (hO : okO T O []) : TK l D cs kf yX9_init cX9_init 4 none { frames := 1, cells := 5, slots := 52, locals := 14 } [.ref a0, .int x1, .int x2, .null] T O ((a0, .inr (9, [.int 0, .int 0, .int 0, .int 0, .int 0, .int 0, .null, .null, .null, .null, .null, .null, .int 0, .int 0])) :: X) (Tv D cs (fun u => ∃ T2 : TF, Tgr T T2 ∧ ∃ (n0_0 : Int32) (n0_1 : Int32) (n0_6 : Nat) (n0_7 : Nat) (n0_8 : Nat) (n0_9 : Nat) (n0_10 : Nat) (n0_12 : Int32) (n0_13 : Int32), u = (T2, O, (a0, .inr (9, [.int n0_0, .int n0_1, .int 0, .int 0, .int 0, .int 0, .ref n0_6, .ref n0_7, .ref n0_8, .ref n0_9, .ref n0_10, .null, .int n0_12, .int n0_13])) :: X) ∧ (n0_0.toInt = x1.toInt) ∧ (n0_1.toInt = x2.toInt) ∧ (T2 n0_6 = some (1, n0_0.toInt.toNat, 0)) ∧ (T2 n0_7 = some (1, n0_0.toInt.toNat, 0)) ∧ (T2 n0_8 = some (1, n0_0.toInt.toNat, 0)) ∧ (T2 n0_9 = some (1, n0_1.toInt.toNat, 0)) ∧ (T2 n0_10 = some (1, n0_1.toInt.toNat, 0)) ∧ (0 ≤ n0_12.toInt) ∧ (n0_12.toInt ≤ 1) ∧ (0 ≤ n0_13.toInt) ∧ (n0_13.toInt ≤ 1))) := by
  refine tk_of (by decide) (Nat.le_of_ble_eq_true rfl) (fun p e s m below meth c ls A H locs hx hb hr hml hown hts hlocks hnm hkb hH hS hA hOX hks hE hl => ?_)
  have hown : s.vm.findClass RX9 = some m.cls := hown
  have hl : lv_has ls 4 [(0, .ref a0), (1, .int x1), (2, .int x2), (3, .null)] := hl
  have hOXf := hOX
  refine lv_aload_n hx hb dX9_init_0 rfl (lv_at hl 0 rfl) ?_
  refine W.objInit hx hb hown (hts _ kw_98) (hts _ kw_30) (hts _ kw_31) rfl (by rw [hml]; exact hl.1) rfl dX9_init_1 (Nat.le_of_ble_eq_true rfl) (Nat.le_of_ble_eq_true rfl) ?_
  refine W.eq (g2 := F0 m 4 ls []) rfl ?_
  refine lv_aload_n hx hb dX9_init_4 rfl (lv_at hl 0 rfl) ?_
  refine lv_iconst (v := 0) hx hb dX9_init_5 (by decide) ?_
  refine x_putk (ci := 9) (v := .int 0) (ty := tyX9 2) (C := RX9) (F := TX9) (N := 14) hx hb hts uX9 tyX9 tyX9_ok nmX9 hown hkb hH hS 0 rfl rfl 2 (by decide) kw_113 (fun _ h9 => h9) rfl (tyX9_ok 2 (by decide)) rfl rfl (Nat.le_of_ble_eq_true rfl) dX9_init_6 (fun H locs hH hS => ?_)
  have hH : HT D cs A T O ((a0, .inr (9, [.int 0, .int 0, .int 0, .int 0, .int 0, .int 0, .null, .null, .null, .null, .null, .null, .int 0, .int 0])) :: X) H := hH
  refine lv_aload_n hx hb dX9_init_9 rfl (lv_at hl 0 rfl) ?_
  refine lv_iconst (v := 0) hx hb dX9_init_10 (by decide) ?_
  refine x_putk (ci := 9) (v := .int 0) (ty := tyX9 3) (C := RX9) (F := TX9) (N := 14) hx hb hts uX9 tyX9 tyX9_ok nmX9 hown hkb hH hS 0 rfl rfl 3 (by decide) kw_116 (fun _ h9 => h9) rfl (tyX9_ok 3 (by decide)) rfl rfl (Nat.le_of_ble_eq_true rfl) dX9_init_11 (fun H locs hH hS => ?_)
  have hH : HT D cs A T O ((a0, .inr (9, [.int 0, .int 0, .int 0, .int 0, .int 0, .int 0, .null, .null, .null, .null, .null, .null, .int 0, .int 0])) :: X) H := hH
  refine lv_aload_n hx hb dX9_init_14 rfl (lv_at hl 0 rfl) ?_
  refine lv_iconst (v := 0) hx hb dX9_init_15 (by decide) ?_
  refine x_putk (ci := 9) (v := .int 0) (ty := tyX9 4) (C := RX9) (F := TX9) (N := 14) hx hb hts uX9 tyX9 tyX9_ok nmX9 hown hkb hH hS 0 rfl rfl 4 (by decide) kw_123 (fun _ h9 => h9) rfl (tyX9_ok 4 (by decide)) rfl rfl (Nat.le_of_ble_eq_true rfl) dX9_init_16 (fun H locs hH hS => ?_)
  have hH : HT D cs A T O ((a0, .inr (9, [.int 0, .int 0, .int 0, .int 0, .int 0, .int 0, .null, .null, .null, .null, .null, .null, .int 0, .int 0])) :: X) H := hH
  refine lv_aload_n hx hb dX9_init_19 rfl (lv_at hl 0 rfl) ?_
  refine lv_iconst (v := 0) hx hb dX9_init_20 (by decide) ?_
  refine x_putk (ci := 9) (v := .int 0) (ty := tyX9 5) (C := RX9) (F := TX9) (N := 14) hx hb hts uX9 tyX9 tyX9_ok nmX9 hown hkb hH hS 0 rfl rfl 5 (by decide) kw_130 (fun _ h9 => h9) rfl (tyX9_ok 5 (by decide)) rfl rfl (Nat.le_of_ble_eq_true rfl) dX9_init_21 (fun H locs hH hS => ?_)
  have hH : HT D cs A T O ((a0, .inr (9, [.int 0, .int 0, .int 0, .int 0, .int 0, .int 0, .null, .null, .null, .null, .null, .null, .int 0, .int 0])) :: X) H := hH
  refine lv_aload_n hx hb dX9_init_24 rfl (lv_at hl 0 rfl) ?_
  refine lv_iconst (v := 0) hx hb dX9_init_25 (by decide) ?_
  refine lv_iload_n hx hb dX9_init_26 rfl (lv_at hl 1 rfl) ?_
  refine va_mmax hx hb (by rw [hml]; exact hl.1.symm) hown (hts _ kw_99) (hts _ kw_100) (hts _ kw_6) (hts _ kw_101) (Nat.le_of_ble_eq_true rfl) (Nat.le_of_ble_eq_true rfl) (Nat.le_of_ble_eq_true rfl) (Nat.le_of_ble_eq_true rfl) dX9_init_27 ?_
  refine lv_topi (fun v27 ev27 => ?_)
  have tv27 : v27.toInt = max (0) x1.toInt := by rw [ev27]; exact max_i (by decide : (0 : Int32).toInt = 0) rfl
  refine x_putk (ci := 9) (v := .int v27) (ty := tyX9 0) (C := RX9) (F := TX9) (N := 14) hx hb hts uX9 tyX9 tyX9_ok nmX9 hown hkb hH hS 0 rfl rfl 0 (by decide) kw_106 (fun _ h9 => h9) rfl (tyX9_ok 0 (by decide)) rfl rfl (Nat.le_of_ble_eq_true rfl) dX9_init_30 (fun H locs hH hS => ?_)
  have hH : HT D cs A T O ((a0, .inr (9, [.int v27, .int 0, .int 0, .int 0, .int 0, .int 0, .null, .null, .null, .null, .null, .null, .int 0, .int 0])) :: X) H := hH
  refine lv_aload_n hx hb dX9_init_33 rfl (lv_at hl 0 rfl) ?_
  refine lv_iconst (v := 0) hx hb dX9_init_34 (by decide) ?_
  refine lv_iload_n hx hb dX9_init_35 rfl (lv_at hl 2 rfl) ?_
  refine va_mmax hx hb (by rw [hml]; exact hl.1.symm) hown (hts _ kw_99) (hts _ kw_100) (hts _ kw_6) (hts _ kw_101) (Nat.le_of_ble_eq_true rfl) (Nat.le_of_ble_eq_true rfl) (Nat.le_of_ble_eq_true rfl) (Nat.le_of_ble_eq_true rfl) dX9_init_36 ?_
  refine lv_topi (fun v36 ev36 => ?_)
  have tv36 : v36.toInt = max (0) x2.toInt := by rw [ev36]; exact max_i (by decide : (0 : Int32).toInt = 0) rfl
  refine x_putk (ci := 9) (v := .int v36) (ty := tyX9 1) (C := RX9) (F := TX9) (N := 14) hx hb hts uX9 tyX9 tyX9_ok nmX9 hown hkb hH hS 0 rfl rfl 1 (by decide) kw_110 (fun _ h9 => h9) rfl (tyX9_ok 1 (by decide)) rfl rfl (Nat.le_of_ble_eq_true rfl) dX9_init_39 (fun H locs hH hS => ?_)
  have hH : HT D cs A T O ((a0, .inr (9, [.int v27, .int v36, .int 0, .int 0, .int 0, .int 0, .null, .null, .null, .null, .null, .null, .int 0, .int 0])) :: X) H := hH
  refine lv_aload_n hx hb dX9_init_42 rfl (lv_at hl 0 rfl) ?_
  refine lv_aload_n hx hb dX9_init_43 rfl (lv_at hl 0 rfl) ?_
  refine x_getk (ci := 9) (C := RX9) (F := TX9) (N := 14) (v := .int v27) hx hb hts uX9 hown hkb hH 0 rfl rfl 0 (by decide) rfl kw_106 (fun _ h9 => h9) dX9_init_44 ?_
  refine t_newI (N' := (v27.toInt.toNat)) (k := 0) hx hb hts kw_92 hkb hH (ox_n hOX9) hS hA (by omega) (by omega) (cp_0 _) (Nat.le_of_ble_eq_true rfl) (by show 0 + (v27.toInt.toNat) ≤ 52; omega) dX9_init_47 (fun v47 T47 H le_T47 t_v47 hH hS => ?_)
  have hO := okO.le le_T47.1 hO
  refine W.widen (k := 1) (n := 14) (Nat.le_of_ble_eq_true rfl) (by omega) ?_
  refine x_putkF (ci := 9) (v := .ref v47) (ty := tyX9 6) (C := RX9) (F := TX9) (N := 14) hx hb hts uX9 tyX9 tyX9_ok nmX9 hown hkb hH hS 0 rfl rfl 6 (by decide) kw_132 (fun _ h9 => h9) rfl hnm rfl (tyX9_ok 6 (by decide)) rfl rfl (Nat.le_of_ble_eq_true rfl) dX9_init_49 (fun H locs hH hS => ?_)
  have hH : HT D cs A T47 O ((a0, .inr (9, [.int v27, .int v36, .int 0, .int 0, .int 0, .int 0, .ref v47, .null, .null, .null, .null, .null, .int 0, .int 0])) :: X) H := hH
  refine lv_aload_n hx hb dX9_init_52 rfl (lv_at hl 0 rfl) ?_
  refine lv_aload_n hx hb dX9_init_53 rfl (lv_at hl 0 rfl) ?_
  refine x_getk (ci := 9) (C := RX9) (F := TX9) (N := 14) (v := .int v27) hx hb hts uX9 hown hkb hH 0 rfl rfl 0 (by decide) rfl kw_106 (fun _ h9 => h9) dX9_init_54 ?_
  refine t_newI (N' := (v27.toInt.toNat)) (k := 0) hx hb hts kw_92 hkb hH (ox_n hOX9) hS hA (by omega) (by omega) (cp_0 _) (Nat.le_of_ble_eq_true rfl) (by show 14 + (v27.toInt.toNat) ≤ 52; omega) dX9_init_57 (fun v57 T57 H le_T57 t_v57 hH hS => ?_)
  have t_v47 := le_T57.1 _ _ t_v47
  have hO := okO.le le_T57.1 hO
  refine W.widen (k := 2) (n := 28) (Nat.le_of_ble_eq_true rfl) (by omega) ?_
  refine x_putkF (ci := 9) (v := .ref v57) (ty := tyX9 7) (C := RX9) (F := TX9) (N := 14) hx hb hts uX9 tyX9 tyX9_ok nmX9 hown hkb hH hS 0 rfl rfl 7 (by decide) kw_135 (fun _ h9 => h9) rfl hnm rfl (tyX9_ok 7 (by decide)) rfl rfl (Nat.le_of_ble_eq_true rfl) dX9_init_59 (fun H locs hH hS => ?_)
  have hH : HT D cs A T57 O ((a0, .inr (9, [.int v27, .int v36, .int 0, .int 0, .int 0, .int 0, .ref v47, .ref v57, .null, .null, .null, .null, .int 0, .int 0])) :: X) H := hH
  refine lv_aload_n hx hb dX9_init_62 rfl (lv_at hl 0 rfl) ?_
  refine lv_aload_n hx hb dX9_init_63 rfl (lv_at hl 0 rfl) ?_
  refine x_getk (ci := 9) (C := RX9) (F := TX9) (N := 14) (v := .int v27) hx hb hts uX9 hown hkb hH 0 rfl rfl 0 (by decide) rfl kw_106 (fun _ h9 => h9) dX9_init_64 ?_
  refine t_newI (N' := (v27.toInt.toNat)) (k := 0) hx hb hts kw_92 hkb hH (ox_n hOX9) hS hA (by omega) (by omega) (cp_0 _) (Nat.le_of_ble_eq_true rfl) (by show 28 + (v27.toInt.toNat) ≤ 52; omega) dX9_init_67 (fun v67 T67 H le_T67 t_v67 hH hS => ?_)
  have t_v47 := le_T67.1 _ _ t_v47
  have t_v57 := le_T67.1 _ _ t_v57
  have hO := okO.le le_T67.1 hO
  refine W.widen (k := 3) (n := 42) (Nat.le_of_ble_eq_true rfl) (by omega) ?_
  refine x_putkF (ci := 9) (v := .ref v67) (ty := tyX9 8) (C := RX9) (F := TX9) (N := 14) hx hb hts uX9 tyX9 tyX9_ok nmX9 hown hkb hH hS 0 rfl rfl 8 (by decide) kw_138 (fun _ h9 => h9) rfl hnm rfl (tyX9_ok 8 (by decide)) rfl rfl (Nat.le_of_ble_eq_true rfl) dX9_init_69 (fun H locs hH hS => ?_)
  have hH : HT D cs A T67 O ((a0, .inr (9, [.int v27, .int v36, .int 0, .int 0, .int 0, .int 0, .ref v47, .ref v57, .ref v67, .null, .null, .null, .int 0, .int 0])) :: X) H := hH
  refine lv_aload_n hx hb dX9_init_72 rfl (lv_at hl 0 rfl) ?_
  refine lv_aload_n hx hb dX9_init_73 rfl (lv_at hl 0 rfl) ?_
  refine x_getk (ci := 9) (C := RX9) (F := TX9) (N := 14) (v := .int v36) hx hb hts uX9 hown hkb hH 0 rfl rfl 1 (by decide) rfl kw_110 (fun _ h9 => h9) dX9_init_74 ?_
  refine t_newI (N' := (v36.toInt.toNat)) (k := 0) hx hb hts kw_92 hkb hH (ox_n hOX9) hS hA (by omega) (by omega) (cp_0 _) (Nat.le_of_ble_eq_true rfl) (by show 42 + (v36.toInt.toNat) ≤ 52; omega) dX9_init_77 (fun v77 T77 H le_T77 t_v77 hH hS => ?_)
  have t_v47 := le_T77.1 _ _ t_v47
  have t_v57 := le_T77.1 _ _ t_v57
  have t_v67 := le_T77.1 _ _ t_v67
  have hO := okO.le le_T77.1 hO
  refine W.widen (k := 4) (n := 47) (Nat.le_of_ble_eq_true rfl) (by omega) ?_
  refine x_putkF (ci := 9) (v := .ref v77) (ty := tyX9 9) (C := RX9) (F := TX9) (N := 14) hx hb hts uX9 tyX9 tyX9_ok nmX9 hown hkb hH hS 0 rfl rfl 9 (by decide) kw_141 (fun _ h9 => h9) rfl hnm rfl (tyX9_ok 9 (by decide)) rfl rfl (Nat.le_of_ble_eq_true rfl) dX9_init_79 (fun H locs hH hS => ?_)
  have hH : HT D cs A T77 O ((a0, .inr (9, [.int v27, .int v36, .int 0, .int 0, .int 0, .int 0, .ref v47, .ref v57, .ref v67, .ref v77, .null, .null, .int 0, .int 0])) :: X) H := hH
  refine lv_aload_n hx hb dX9_init_82 rfl (lv_at hl 0 rfl) ?_
  refine lv_aload_n hx hb dX9_init_83 rfl (lv_at hl 0 rfl) ?_
  refine x_getk (ci := 9) (C := RX9) (F := TX9) (N := 14) (v := .int v36) hx hb hts uX9 hown hkb hH 0 rfl rfl 1 (by decide) rfl kw_110 (fun _ h9 => h9) dX9_init_84 ?_
  refine t_newI (N' := (v36.toInt.toNat)) (k := 0) hx hb hts kw_92 hkb hH (ox_n hOX9) hS hA (by omega) (by omega) (cp_0 _) (Nat.le_of_ble_eq_true rfl) (by show 47 + (v36.toInt.toNat) ≤ 52; omega) dX9_init_87 (fun v87 T87 H le_T87 t_v87 hH hS => ?_)
  have t_v47 := le_T87.1 _ _ t_v47
  have t_v57 := le_T87.1 _ _ t_v57
  have t_v67 := le_T87.1 _ _ t_v67
  have t_v77 := le_T87.1 _ _ t_v77
  have hO := okO.le le_T87.1 hO
  refine W.widen (k := 5) (n := 52) (Nat.le_of_ble_eq_true rfl) (by omega) ?_
  refine x_putkF (ci := 9) (v := .ref v87) (ty := tyX9 10) (C := RX9) (F := TX9) (N := 14) hx hb hts uX9 tyX9 tyX9_ok nmX9 hown hkb hH hS 0 rfl rfl 10 (by decide) kw_144 (fun _ h9 => h9) rfl hnm rfl (tyX9_ok 10 (by decide)) rfl rfl (Nat.le_of_ble_eq_true rfl) dX9_init_89 (fun H locs hH hS => ?_)
  have hH : HT D cs A T87 O ((a0, .inr (9, [.int v27, .int v36, .int 0, .int 0, .int 0, .int 0, .ref v47, .ref v57, .ref v67, .ref v77, .ref v87, .null, .int 0, .int 0])) :: X) H := hH
  refine lv_aload_n hx hb dX9_init_92 rfl (lv_at hl 0 rfl) ?_
  refine lv_aload_nN hx hb dX9_init_93 rfl (lv_at hl 3 rfl) ?_
  refine x_putkF (ci := 9) (v := .null) (ty := tyX9 11) (C := RX9) (F := TX9) (N := 14) hx hb hts uX9 tyX9 tyX9_ok nmX9 hown hkb hH hS 0 rfl rfl 11 (by decide) kw_147 (fun _ h9 => h9) rfl hnm rfl (tyX9_ok 11 (by decide)) rfl rfl (Nat.le_of_ble_eq_true rfl) dX9_init_94 (fun H locs hH hS => ?_)
  have hH : HT D cs A T87 O ((a0, .inr (9, [.int v27, .int v36, .int 0, .int 0, .int 0, .int 0, .ref v47, .ref v57, .ref v67, .ref v77, .ref v87, .null, .int 0, .int 0])) :: X) H := hH
  refine lv_aload_n hx hb dX9_init_97 rfl (lv_at hl 0 rfl) ?_
  refine lv_aload_nN hx hb dX9_init_98 rfl (lv_at hl 3 rfl) ?_
  refine lv_ifnullN (tgt := 115) hx hb dX9_init_99 (by decide) ?_
  refine lv_iconst (v := 0) hx hb dX9_init_115 (by decide) ?_
  refine x_putkF (ci := 9) (v := .int 0) (ty := tyX9 12) (C := RX9) (F := TX9) (N := 14) hx hb hts uX9 tyX9 tyX9_ok nmX9 hown hkb hH hS 0 rfl rfl 12 (by decide) kw_148 (fun _ h9 => h9) rfl hnm rfl (tyX9_ok 12 (by decide)) rfl rfl (Nat.le_of_ble_eq_true rfl) dX9_init_116 (fun H locs hH hS => ?_)
  have hH : HT D cs A T87 O ((a0, .inr (9, [.int v27, .int v36, .int 0, .int 0, .int 0, .int 0, .ref v47, .ref v57, .ref v67, .ref v77, .ref v87, .null, .int 0, .int 0])) :: X) H := hH
  refine lv_aload_n hx hb dX9_init_119 rfl (lv_at hl 0 rfl) ?_
  refine lv_aload_nN hx hb dX9_init_120 rfl (lv_at hl 3 rfl) ?_
  refine lv_ifnullN (tgt := 132) hx hb dX9_init_121 (by decide) ?_
  refine lv_iconst (v := 1) hx hb dX9_init_132 (by decide) ?_
  refine lv_goto (tgt := 137) hx hb dX9_init_133 (by decide) ?_
  refine x_putkF (ci := 9) (v := .int 1) (ty := tyX9 13) (C := RX9) (F := TX9) (N := 14) hx hb hts uX9 tyX9 tyX9_ok nmX9 hown hkb hH hS 0 rfl rfl 13 (by decide) kw_149 (fun _ h9 => h9) rfl hnm rfl (tyX9_ok 13 (by decide)) rfl rfl (Nat.le_of_ble_eq_true rfl) dX9_init_137 (fun H locs hH hS => ?_)
  have hH : HT D cs A T87 O ((a0, .inr (9, [.int v27, .int v36, .int 0, .int 0, .int 0, .int 0, .ref v47, .ref v57, .ref v67, .ref v77, .ref v87, .null, .int 0, .int 1])) :: X) H := hH
  have z9_0 : (0 : Int32).toInt = 0 := by decide
  have z9_1 : (1 : Int32).toInt = 1 := by decide
  have z9_0 : (0 : Int32).toInt = 0 := by decide
  have z9_0 : (0 : Int32).toInt = 0 := by decide
  have z9_0 : (0 : Int32).toInt = 0 := by decide
  have z9_0 : (0 : Int32).toInt = 0 := by decide
  have z9_0 : (0 : Int32).toInt = 0 := by decide
  have z9_1 : (1 : Int32).toInt = 1 := by decide
  exact te_v hx hb hr hlocks hH hS (⟨T87, (Tgr.tr (Tgr.tr (Tgr.tr (Tgr.tr le_T47 le_T57) le_T67) le_T77) le_T87), v27, v36, v47, v57, v67, v77, v87, (0 : Int32), (1 : Int32), rfl, by omega, by omega, t_v47, t_v57, t_v67, t_v77, t_v87, by omega, by omega, by omega, by omega⟩) dX9_init_140
set_option maxHeartbeats 4000000 in
set_option maxRecDepth 100000 in
theorem s_Wall_initL (l : Launch) (D : va_G) (cs : CS) (kf : KF) (T : TF) (O : List Nat) (X : va_W) (a0 : Nat) (x1 : Int32) (x2 : Int32) (a3 na3 : Nat) (hOX9 : ∀ o ∈ O, ∃ (k : Nat) (e : va_E), X[k]? = some (o, e)) (l_x1 : 0 ≤ x1.toInt) (u_x1 : x1.toInt ≤ 14) (l_x2 : 0 ≤ x2.toInt) (u_x2 : x2.toInt ≤ 5) (t_a3 : T a3 = some (12, na3, 0)) (b_a3 : na3 ≤ 900) (hO : okO T O [1, 12]) : TK l D cs kf yX9_init cX9_init 4 none { frames := 1, cells := 5, slots := 52, locals := 23 } [.ref a0, .int x1, .int x2, .ref a3] T O ((a0, .inr (9, [.int 0, .int 0, .int 0, .int 0, .int 0, .int 0, .null, .null, .null, .null, .null, .null, .int 0, .int 0])) :: X) (Tv D cs (fun u => ∃ T2 : TF, Tgr T T2 ∧ ∃ (n0_0 : Int32) (n0_1 : Int32) (n0_6 : Nat) (n0_7 : Nat) (n0_8 : Nat) (n0_9 : Nat) (n0_10 : Nat) (n0_12 : Int32) (n0_13 : Int32), u = (T2, O, (a0, .inr (9, [.int n0_0, .int n0_1, .int 0, .int 0, .int 0, .int 0, .ref n0_6, .ref n0_7, .ref n0_8, .ref n0_9, .ref n0_10, .ref a3, .int n0_12, .int n0_13])) :: X) ∧ (n0_0.toInt = x1.toInt) ∧ (n0_1.toInt = x2.toInt) ∧ (T2 n0_6 = some (1, n0_0.toInt.toNat, 0)) ∧ (T2 n0_7 = some (1, n0_0.toInt.toNat, 0)) ∧ (T2 n0_8 = some (1, n0_0.toInt.toNat, 0)) ∧ (T2 n0_9 = some (1, n0_1.toInt.toNat, 0)) ∧ (T2 n0_10 = some (1, n0_1.toInt.toNat, 0)) ∧ (0 ≤ n0_12.toInt) ∧ (n0_12.toInt ≤ 1) ∧ (0 ≤ n0_13.toInt) ∧ (n0_13.toInt ≤ 1))) := by
  refine tk_of (by decide) (Nat.le_of_ble_eq_true rfl) (fun p e s m below meth c ls A H locs hx hb hr hml hown hts hlocks hnm hkb hH hS hA hOX hks hE hl => ?_)
  have hown : s.vm.findClass RX9 = some m.cls := hown
  have hl : lv_has ls 4 [(0, .ref a0), (1, .int x1), (2, .int x2), (3, .ref a3)] := hl
  have hOXf := hOX
  refine lv_aload_n hx hb dX9_init_0 rfl (lv_at hl 0 rfl) ?_
  refine W.objInit hx hb hown (hts _ kw_98) (hts _ kw_30) (hts _ kw_31) rfl (by rw [hml]; exact hl.1) rfl dX9_init_1 (Nat.le_of_ble_eq_true rfl) (Nat.le_of_ble_eq_true rfl) ?_
  refine W.eq (g2 := F0 m 4 ls []) rfl ?_
  refine lv_aload_n hx hb dX9_init_4 rfl (lv_at hl 0 rfl) ?_
  refine lv_iconst (v := 0) hx hb dX9_init_5 (by decide) ?_
  refine x_putk (ci := 9) (v := .int 0) (ty := tyX9 2) (C := RX9) (F := TX9) (N := 14) hx hb hts uX9 tyX9 tyX9_ok nmX9 hown hkb hH hS 0 rfl rfl 2 (by decide) kw_113 (fun _ h9 => h9) rfl (tyX9_ok 2 (by decide)) rfl rfl (Nat.le_of_ble_eq_true rfl) dX9_init_6 (fun H locs hH hS => ?_)
  have hH : HT D cs A T O ((a0, .inr (9, [.int 0, .int 0, .int 0, .int 0, .int 0, .int 0, .null, .null, .null, .null, .null, .null, .int 0, .int 0])) :: X) H := hH
  refine lv_aload_n hx hb dX9_init_9 rfl (lv_at hl 0 rfl) ?_
  refine lv_iconst (v := 0) hx hb dX9_init_10 (by decide) ?_
  refine x_putk (ci := 9) (v := .int 0) (ty := tyX9 3) (C := RX9) (F := TX9) (N := 14) hx hb hts uX9 tyX9 tyX9_ok nmX9 hown hkb hH hS 0 rfl rfl 3 (by decide) kw_116 (fun _ h9 => h9) rfl (tyX9_ok 3 (by decide)) rfl rfl (Nat.le_of_ble_eq_true rfl) dX9_init_11 (fun H locs hH hS => ?_)
  have hH : HT D cs A T O ((a0, .inr (9, [.int 0, .int 0, .int 0, .int 0, .int 0, .int 0, .null, .null, .null, .null, .null, .null, .int 0, .int 0])) :: X) H := hH
  refine lv_aload_n hx hb dX9_init_14 rfl (lv_at hl 0 rfl) ?_
  refine lv_iconst (v := 0) hx hb dX9_init_15 (by decide) ?_
  refine x_putk (ci := 9) (v := .int 0) (ty := tyX9 4) (C := RX9) (F := TX9) (N := 14) hx hb hts uX9 tyX9 tyX9_ok nmX9 hown hkb hH hS 0 rfl rfl 4 (by decide) kw_123 (fun _ h9 => h9) rfl (tyX9_ok 4 (by decide)) rfl rfl (Nat.le_of_ble_eq_true rfl) dX9_init_16 (fun H locs hH hS => ?_)
  have hH : HT D cs A T O ((a0, .inr (9, [.int 0, .int 0, .int 0, .int 0, .int 0, .int 0, .null, .null, .null, .null, .null, .null, .int 0, .int 0])) :: X) H := hH
  refine lv_aload_n hx hb dX9_init_19 rfl (lv_at hl 0 rfl) ?_
  refine lv_iconst (v := 0) hx hb dX9_init_20 (by decide) ?_
  refine x_putk (ci := 9) (v := .int 0) (ty := tyX9 5) (C := RX9) (F := TX9) (N := 14) hx hb hts uX9 tyX9 tyX9_ok nmX9 hown hkb hH hS 0 rfl rfl 5 (by decide) kw_130 (fun _ h9 => h9) rfl (tyX9_ok 5 (by decide)) rfl rfl (Nat.le_of_ble_eq_true rfl) dX9_init_21 (fun H locs hH hS => ?_)
  have hH : HT D cs A T O ((a0, .inr (9, [.int 0, .int 0, .int 0, .int 0, .int 0, .int 0, .null, .null, .null, .null, .null, .null, .int 0, .int 0])) :: X) H := hH
  refine lv_aload_n hx hb dX9_init_24 rfl (lv_at hl 0 rfl) ?_
  refine lv_iconst (v := 0) hx hb dX9_init_25 (by decide) ?_
  refine lv_iload_n hx hb dX9_init_26 rfl (lv_at hl 1 rfl) ?_
  refine va_mmax hx hb (by rw [hml]; exact hl.1.symm) hown (hts _ kw_99) (hts _ kw_100) (hts _ kw_6) (hts _ kw_101) (Nat.le_of_ble_eq_true rfl) (Nat.le_of_ble_eq_true rfl) (Nat.le_of_ble_eq_true rfl) (Nat.le_of_ble_eq_true rfl) dX9_init_27 ?_
  refine lv_topi (fun v27 ev27 => ?_)
  have tv27 : v27.toInt = max (0) x1.toInt := by rw [ev27]; exact max_i (by decide : (0 : Int32).toInt = 0) rfl
  refine x_putk (ci := 9) (v := .int v27) (ty := tyX9 0) (C := RX9) (F := TX9) (N := 14) hx hb hts uX9 tyX9 tyX9_ok nmX9 hown hkb hH hS 0 rfl rfl 0 (by decide) kw_106 (fun _ h9 => h9) rfl (tyX9_ok 0 (by decide)) rfl rfl (Nat.le_of_ble_eq_true rfl) dX9_init_30 (fun H locs hH hS => ?_)
  have hH : HT D cs A T O ((a0, .inr (9, [.int v27, .int 0, .int 0, .int 0, .int 0, .int 0, .null, .null, .null, .null, .null, .null, .int 0, .int 0])) :: X) H := hH
  refine lv_aload_n hx hb dX9_init_33 rfl (lv_at hl 0 rfl) ?_
  refine lv_iconst (v := 0) hx hb dX9_init_34 (by decide) ?_
  refine lv_iload_n hx hb dX9_init_35 rfl (lv_at hl 2 rfl) ?_
  refine va_mmax hx hb (by rw [hml]; exact hl.1.symm) hown (hts _ kw_99) (hts _ kw_100) (hts _ kw_6) (hts _ kw_101) (Nat.le_of_ble_eq_true rfl) (Nat.le_of_ble_eq_true rfl) (Nat.le_of_ble_eq_true rfl) (Nat.le_of_ble_eq_true rfl) dX9_init_36 ?_
  refine lv_topi (fun v36 ev36 => ?_)
  have tv36 : v36.toInt = max (0) x2.toInt := by rw [ev36]; exact max_i (by decide : (0 : Int32).toInt = 0) rfl
  refine x_putk (ci := 9) (v := .int v36) (ty := tyX9 1) (C := RX9) (F := TX9) (N := 14) hx hb hts uX9 tyX9 tyX9_ok nmX9 hown hkb hH hS 0 rfl rfl 1 (by decide) kw_110 (fun _ h9 => h9) rfl (tyX9_ok 1 (by decide)) rfl rfl (Nat.le_of_ble_eq_true rfl) dX9_init_39 (fun H locs hH hS => ?_)
  have hH : HT D cs A T O ((a0, .inr (9, [.int v27, .int v36, .int 0, .int 0, .int 0, .int 0, .null, .null, .null, .null, .null, .null, .int 0, .int 0])) :: X) H := hH
  refine lv_aload_n hx hb dX9_init_42 rfl (lv_at hl 0 rfl) ?_
  refine lv_aload_n hx hb dX9_init_43 rfl (lv_at hl 0 rfl) ?_
  refine x_getk (ci := 9) (C := RX9) (F := TX9) (N := 14) (v := .int v27) hx hb hts uX9 hown hkb hH 0 rfl rfl 0 (by decide) rfl kw_106 (fun _ h9 => h9) dX9_init_44 ?_
  refine t_newI (N' := (v27.toInt.toNat)) (k := 0) hx hb hts kw_92 hkb hH (ox_n hOX9) hS hA (by omega) (by omega) (cp_0 _) (Nat.le_of_ble_eq_true rfl) (by show 0 + (v27.toInt.toNat) ≤ 52; omega) dX9_init_47 (fun v47 T47 H le_T47 t_v47 hH hS => ?_)
  have t_a3 := le_T47.1 _ _ t_a3
  have hO := okO.le le_T47.1 hO
  refine W.widen (k := 1) (n := 14) (Nat.le_of_ble_eq_true rfl) (by omega) ?_
  refine x_putkF (ci := 9) (v := .ref v47) (ty := tyX9 6) (C := RX9) (F := TX9) (N := 14) hx hb hts uX9 tyX9 tyX9_ok nmX9 hown hkb hH hS 0 rfl rfl 6 (by decide) kw_132 (fun _ h9 => h9) rfl hnm rfl (tyX9_ok 6 (by decide)) rfl rfl (Nat.le_of_ble_eq_true rfl) dX9_init_49 (fun H locs hH hS => ?_)
  have hH : HT D cs A T47 O ((a0, .inr (9, [.int v27, .int v36, .int 0, .int 0, .int 0, .int 0, .ref v47, .null, .null, .null, .null, .null, .int 0, .int 0])) :: X) H := hH
  refine lv_aload_n hx hb dX9_init_52 rfl (lv_at hl 0 rfl) ?_
  refine lv_aload_n hx hb dX9_init_53 rfl (lv_at hl 0 rfl) ?_
  refine x_getk (ci := 9) (C := RX9) (F := TX9) (N := 14) (v := .int v27) hx hb hts uX9 hown hkb hH 0 rfl rfl 0 (by decide) rfl kw_106 (fun _ h9 => h9) dX9_init_54 ?_
  refine t_newI (N' := (v27.toInt.toNat)) (k := 0) hx hb hts kw_92 hkb hH (ox_n hOX9) hS hA (by omega) (by omega) (cp_0 _) (Nat.le_of_ble_eq_true rfl) (by show 14 + (v27.toInt.toNat) ≤ 52; omega) dX9_init_57 (fun v57 T57 H le_T57 t_v57 hH hS => ?_)
  have t_a3 := le_T57.1 _ _ t_a3
  have t_v47 := le_T57.1 _ _ t_v47
  have hO := okO.le le_T57.1 hO
  refine W.widen (k := 2) (n := 28) (Nat.le_of_ble_eq_true rfl) (by omega) ?_
  refine x_putkF (ci := 9) (v := .ref v57) (ty := tyX9 7) (C := RX9) (F := TX9) (N := 14) hx hb hts uX9 tyX9 tyX9_ok nmX9 hown hkb hH hS 0 rfl rfl 7 (by decide) kw_135 (fun _ h9 => h9) rfl hnm rfl (tyX9_ok 7 (by decide)) rfl rfl (Nat.le_of_ble_eq_true rfl) dX9_init_59 (fun H locs hH hS => ?_)
  have hH : HT D cs A T57 O ((a0, .inr (9, [.int v27, .int v36, .int 0, .int 0, .int 0, .int 0, .ref v47, .ref v57, .null, .null, .null, .null, .int 0, .int 0])) :: X) H := hH
  refine lv_aload_n hx hb dX9_init_62 rfl (lv_at hl 0 rfl) ?_
  refine lv_aload_n hx hb dX9_init_63 rfl (lv_at hl 0 rfl) ?_
  refine x_getk (ci := 9) (C := RX9) (F := TX9) (N := 14) (v := .int v27) hx hb hts uX9 hown hkb hH 0 rfl rfl 0 (by decide) rfl kw_106 (fun _ h9 => h9) dX9_init_64 ?_
  refine t_newI (N' := (v27.toInt.toNat)) (k := 0) hx hb hts kw_92 hkb hH (ox_n hOX9) hS hA (by omega) (by omega) (cp_0 _) (Nat.le_of_ble_eq_true rfl) (by show 28 + (v27.toInt.toNat) ≤ 52; omega) dX9_init_67 (fun v67 T67 H le_T67 t_v67 hH hS => ?_)
  have t_a3 := le_T67.1 _ _ t_a3
  have t_v47 := le_T67.1 _ _ t_v47
  have t_v57 := le_T67.1 _ _ t_v57
  have hO := okO.le le_T67.1 hO
  refine W.widen (k := 3) (n := 42) (Nat.le_of_ble_eq_true rfl) (by omega) ?_
  refine x_putkF (ci := 9) (v := .ref v67) (ty := tyX9 8) (C := RX9) (F := TX9) (N := 14) hx hb hts uX9 tyX9 tyX9_ok nmX9 hown hkb hH hS 0 rfl rfl 8 (by decide) kw_138 (fun _ h9 => h9) rfl hnm rfl (tyX9_ok 8 (by decide)) rfl rfl (Nat.le_of_ble_eq_true rfl) dX9_init_69 (fun H locs hH hS => ?_)
  have hH : HT D cs A T67 O ((a0, .inr (9, [.int v27, .int v36, .int 0, .int 0, .int 0, .int 0, .ref v47, .ref v57, .ref v67, .null, .null, .null, .int 0, .int 0])) :: X) H := hH
  refine lv_aload_n hx hb dX9_init_72 rfl (lv_at hl 0 rfl) ?_
  refine lv_aload_n hx hb dX9_init_73 rfl (lv_at hl 0 rfl) ?_
  refine x_getk (ci := 9) (C := RX9) (F := TX9) (N := 14) (v := .int v36) hx hb hts uX9 hown hkb hH 0 rfl rfl 1 (by decide) rfl kw_110 (fun _ h9 => h9) dX9_init_74 ?_
  refine t_newI (N' := (v36.toInt.toNat)) (k := 0) hx hb hts kw_92 hkb hH (ox_n hOX9) hS hA (by omega) (by omega) (cp_0 _) (Nat.le_of_ble_eq_true rfl) (by show 42 + (v36.toInt.toNat) ≤ 52; omega) dX9_init_77 (fun v77 T77 H le_T77 t_v77 hH hS => ?_)
  have t_a3 := le_T77.1 _ _ t_a3
  have t_v47 := le_T77.1 _ _ t_v47
  have t_v57 := le_T77.1 _ _ t_v57
  have t_v67 := le_T77.1 _ _ t_v67
  have hO := okO.le le_T77.1 hO
  refine W.widen (k := 4) (n := 47) (Nat.le_of_ble_eq_true rfl) (by omega) ?_
  refine x_putkF (ci := 9) (v := .ref v77) (ty := tyX9 9) (C := RX9) (F := TX9) (N := 14) hx hb hts uX9 tyX9 tyX9_ok nmX9 hown hkb hH hS 0 rfl rfl 9 (by decide) kw_141 (fun _ h9 => h9) rfl hnm rfl (tyX9_ok 9 (by decide)) rfl rfl (Nat.le_of_ble_eq_true rfl) dX9_init_79 (fun H locs hH hS => ?_)
  have hH : HT D cs A T77 O ((a0, .inr (9, [.int v27, .int v36, .int 0, .int 0, .int 0, .int 0, .ref v47, .ref v57, .ref v67, .ref v77, .null, .null, .int 0, .int 0])) :: X) H := hH
  refine lv_aload_n hx hb dX9_init_82 rfl (lv_at hl 0 rfl) ?_
  refine lv_aload_n hx hb dX9_init_83 rfl (lv_at hl 0 rfl) ?_
  refine x_getk (ci := 9) (C := RX9) (F := TX9) (N := 14) (v := .int v36) hx hb hts uX9 hown hkb hH 0 rfl rfl 1 (by decide) rfl kw_110 (fun _ h9 => h9) dX9_init_84 ?_
  refine t_newI (N' := (v36.toInt.toNat)) (k := 0) hx hb hts kw_92 hkb hH (ox_n hOX9) hS hA (by omega) (by omega) (cp_0 _) (Nat.le_of_ble_eq_true rfl) (by show 47 + (v36.toInt.toNat) ≤ 52; omega) dX9_init_87 (fun v87 T87 H le_T87 t_v87 hH hS => ?_)
  have t_a3 := le_T87.1 _ _ t_a3
  have t_v47 := le_T87.1 _ _ t_v47
  have t_v57 := le_T87.1 _ _ t_v57
  have t_v67 := le_T87.1 _ _ t_v67
  have t_v77 := le_T87.1 _ _ t_v77
  have hO := okO.le le_T87.1 hO
  refine W.widen (k := 5) (n := 52) (Nat.le_of_ble_eq_true rfl) (by omega) ?_
  refine x_putkF (ci := 9) (v := .ref v87) (ty := tyX9 10) (C := RX9) (F := TX9) (N := 14) hx hb hts uX9 tyX9 tyX9_ok nmX9 hown hkb hH hS 0 rfl rfl 10 (by decide) kw_144 (fun _ h9 => h9) rfl hnm rfl (tyX9_ok 10 (by decide)) rfl rfl (Nat.le_of_ble_eq_true rfl) dX9_init_89 (fun H locs hH hS => ?_)
  have hH : HT D cs A T87 O ((a0, .inr (9, [.int v27, .int v36, .int 0, .int 0, .int 0, .int 0, .ref v47, .ref v57, .ref v67, .ref v77, .ref v87, .null, .int 0, .int 0])) :: X) H := hH
  refine lv_aload_n hx hb dX9_init_92 rfl (lv_at hl 0 rfl) ?_
  refine lv_aload_n hx hb dX9_init_93 rfl (lv_at hl 3 rfl) ?_
  refine x_putkF (ci := 9) (v := .ref a3) (ty := tyX9 11) (C := RX9) (F := TX9) (N := 14) hx hb hts uX9 tyX9 tyX9_ok nmX9 hown hkb hH hS 0 rfl rfl 11 (by decide) kw_147 (fun _ h9 => h9) rfl hnm rfl (tyX9_ok 11 (by decide)) rfl rfl (Nat.le_of_ble_eq_true rfl) dX9_init_94 (fun H locs hH hS => ?_)
  have hH : HT D cs A T87 O ((a0, .inr (9, [.int v27, .int v36, .int 0, .int 0, .int 0, .int 0, .ref v47, .ref v57, .ref v67, .ref v77, .ref v87, .ref a3, .int 0, .int 0])) :: X) H := hH
  refine lv_aload_n hx hb dX9_init_97 rfl (lv_at hl 0 rfl) ?_
  refine lv_aload_n hx hb dX9_init_98 rfl (lv_at hl 3 rfl) ?_
  refine lv_ifnull hx hb dX9_init_99 ?_
  refine lv_aload_n hx hb dX9_init_102 rfl (lv_at hl 3 rfl) ?_
  refine lv_bipush (v := 6) hx hb dX9_init_103 (by decide) ?_
  refine tk_i hH hS hA (tr_V (n := 1) (As := [.int 6]) hx hb hml hown hts hkb hH (ox_n hOX9) hks hE hS hA (s_Law_asks l D cs kf T87 O ((a0, .inr (9, [.int v27, .int v36, .int 0, .int 0, .int 0, .int 0, .ref v47, .ref v57, .ref v67, .ref v77, .ref v87, .ref a3, .int 0, .int 0])) :: X) a3 na3 (6) t_a3 b_a3 (hO.sub (by decide))) kw_102 kw_103 kw_104 kw_21 kw_105 (by decide +kernel) ⟨Nat.le_of_ble_eq_true rfl, Nat.le_of_ble_eq_true rfl⟩ (HT.recv (ci := 2) hkb hH t_a3 (hO.no t_a3 (by decide)) rfl) rfl rfl hl.1 (Nat.le_of_ble_eq_true rfl) dX9_init_105 ⟨Nat.le_of_ble_eq_true rfl, Nat.le_of_ble_eq_true rfl⟩) (fun v105 u H locs hz9 hH hS => ?_)
  obtain ⟨rfl, l_v105, u_v105⟩ := hz9
  have hH : HT D cs A T87 O ((a0, .inr (9, [.int v27, .int v36, .int 0, .int 0, .int 0, .int 0, .ref v47, .ref v57, .ref v67, .ref v77, .ref v87, .ref a3, .int 0, .int 0])) :: X) H := hH
  refine W.widen (k := 5) (n := 52) (Nat.le_of_ble_eq_true rfl) (Nat.le_of_ble_eq_true rfl) ?_
  have J124 : ∀ (f124_112 : Int32) (H : Heap) (locs : List Loc) (ls : Array Slot), (0 ≤ f124_112.toInt) → (f124_112.toInt ≤ 1) → HT D cs A T87 O ((a0, .inr (9, [.int v27, .int v36, .int 0, .int 0, .int 0, .int 0, .ref v47, .ref v57, .ref v67, .ref v77, .ref v87, .ref a3, .int f124_112, .int 0])) :: X) H → va_S A s.heap H locs → lv_has ls 4 [(3, .ref a3)] → W p l e { frames := 1, cells := 5, slots := 52, locals := 23 } s m [.ref a0, .int x1, .int x2, .ref a3].toArray below meth c H locs 5 52 (MQ below (Tv D cs (fun u => ∃ T2 : TF, Tgr T T2 ∧ ∃ (n0_0 : Int32) (n0_1 : Int32) (n0_6 : Nat) (n0_7 : Nat) (n0_8 : Nat) (n0_9 : Nat) (n0_10 : Nat) (n0_12 : Int32) (n0_13 : Int32), u = (T2, O, (a0, .inr (9, [.int n0_0, .int n0_1, .int 0, .int 0, .int 0, .int 0, .ref n0_6, .ref n0_7, .ref n0_8, .ref n0_9, .ref n0_10, .ref a3, .int n0_12, .int n0_13])) :: X) ∧ (n0_0.toInt = x1.toInt) ∧ (n0_1.toInt = x2.toInt) ∧ (T2 n0_6 = some (1, n0_0.toInt.toNat, 0)) ∧ (T2 n0_7 = some (1, n0_0.toInt.toNat, 0)) ∧ (T2 n0_8 = some (1, n0_0.toInt.toNat, 0)) ∧ (T2 n0_9 = some (1, n0_1.toInt.toNat, 0)) ∧ (T2 n0_10 = some (1, n0_1.toInt.toNat, 0)) ∧ (0 ≤ n0_12.toInt) ∧ (n0_12.toInt ≤ 1) ∧ (0 ≤ n0_13.toInt) ∧ (n0_13.toInt ≤ 1)) A) [.ref a0, .int x1, .int x2, .ref a3].toArray s 5 52 A) (F0 m 124 ls [.ref a0]) := by
    intro f124_112 H locs ls l_f124_112 u_f124_112 hH hS hl
    refine lv_aload_n hx hb dX9_init_124 rfl (lv_at hl 0 rfl) ?_
    refine lv_iconst (v := 3) hx hb dX9_init_125 (by decide) ?_
    refine tk_i hH hS hA (tr_V (n := 1) (As := [.int 3]) hx hb hml hown hts hkb hH (ox_n hOX9) hks hE hS hA (s_Law_asks l D cs kf T87 O ((a0, .inr (9, [.int v27, .int v36, .int 0, .int 0, .int 0, .int 0, .ref v47, .ref v57, .ref v67, .ref v77, .ref v87, .ref a3, .int f124_112, .int 0])) :: X) a3 na3 (3) t_a3 b_a3 (hO.sub (by decide))) kw_102 kw_103 kw_104 kw_21 kw_105 (by decide +kernel) ⟨Nat.le_of_ble_eq_true rfl, Nat.le_of_ble_eq_true rfl⟩ (HT.recv (ci := 2) hkb hH t_a3 (hO.no t_a3 (by decide)) rfl) rfl rfl hl.1 (Nat.le_of_ble_eq_true rfl) dX9_init_126 ⟨Nat.le_of_ble_eq_true rfl, Nat.le_of_ble_eq_true rfl⟩) (fun v126 u H locs hz9 hH hS => ?_)
    obtain ⟨rfl, l_v126, u_v126⟩ := hz9
    have hH : HT D cs A T87 O ((a0, .inr (9, [.int v27, .int v36, .int 0, .int 0, .int 0, .int 0, .ref v47, .ref v57, .ref v67, .ref v77, .ref v87, .ref a3, .int f124_112, .int 0])) :: X) H := hH
    refine W.widen (k := 5) (n := 52) (Nat.le_of_ble_eq_true rfl) (Nat.le_of_ble_eq_true rfl) ?_
    refine lv_if_eq (tgt := 136) hx hb dX9_init_129 (by decide) (fun c129 => ?_) (fun c129 => ?_)
    · skip
      have tc129 := f_eq (k := 0) (by decide) c129
      refine lv_iconst (v := 0) hx hb dX9_init_136 (by decide) ?_
      refine x_putkF (ci := 9) (v := .int 0) (ty := tyX9 13) (C := RX9) (F := TX9) (N := 14) hx hb hts uX9 tyX9 tyX9_ok nmX9 hown hkb hH hS 0 rfl rfl 13 (by decide) kw_149 (fun _ h9 => h9) rfl hnm rfl (tyX9_ok 13 (by decide)) rfl rfl (Nat.le_of_ble_eq_true rfl) dX9_init_137 (fun H locs hH hS => ?_)
      have hH : HT D cs A T87 O ((a0, .inr (9, [.int v27, .int v36, .int 0, .int 0, .int 0, .int 0, .ref v47, .ref v57, .ref v67, .ref v77, .ref v87, .ref a3, .int f124_112, .int 0])) :: X) H := hH
      have z9_0 : (0 : Int32).toInt = 0 := by decide
      have z9_0 : (0 : Int32).toInt = 0 := by decide
      have z9_0 : (0 : Int32).toInt = 0 := by decide
      have z9_0 : (0 : Int32).toInt = 0 := by decide
      have z9_0 : (0 : Int32).toInt = 0 := by decide
      have z9_0 : (0 : Int32).toInt = 0 := by decide
      exact te_v hx hb hr hlocks hH hS (⟨T87, (Tgr.tr (Tgr.tr (Tgr.tr (Tgr.tr le_T47 le_T57) le_T67) le_T77) le_T87), v27, v36, v47, v57, v67, v77, v87, f124_112, (0 : Int32), rfl, by omega, by omega, t_v47, t_v57, t_v67, t_v77, t_v87, by omega, by omega, by omega, by omega⟩) dX9_init_140
    · skip
      have tc129 := f_ne (k := 0) (by decide) c129
      refine lv_iconst (v := 1) hx hb dX9_init_132 (by decide) ?_
      refine lv_goto (tgt := 137) hx hb dX9_init_133 (by decide) ?_
      refine x_putkF (ci := 9) (v := .int 1) (ty := tyX9 13) (C := RX9) (F := TX9) (N := 14) hx hb hts uX9 tyX9 tyX9_ok nmX9 hown hkb hH hS 0 rfl rfl 13 (by decide) kw_149 (fun _ h9 => h9) rfl hnm rfl (tyX9_ok 13 (by decide)) rfl rfl (Nat.le_of_ble_eq_true rfl) dX9_init_137 (fun H locs hH hS => ?_)
      have hH : HT D cs A T87 O ((a0, .inr (9, [.int v27, .int v36, .int 0, .int 0, .int 0, .int 0, .ref v47, .ref v57, .ref v67, .ref v77, .ref v87, .ref a3, .int f124_112, .int 1])) :: X) H := hH
      have z9_1 : (1 : Int32).toInt = 1 := by decide
      have z9_0 : (0 : Int32).toInt = 0 := by decide
      have z9_0 : (0 : Int32).toInt = 0 := by decide
      have z9_0 : (0 : Int32).toInt = 0 := by decide
      have z9_0 : (0 : Int32).toInt = 0 := by decide
      have z9_1 : (1 : Int32).toInt = 1 := by decide
      exact te_v hx hb hr hlocks hH hS (⟨T87, (Tgr.tr (Tgr.tr (Tgr.tr (Tgr.tr le_T47 le_T57) le_T67) le_T77) le_T87), v27, v36, v47, v57, v67, v77, v87, f124_112, (1 : Int32), rfl, by omega, by omega, t_v47, t_v57, t_v67, t_v77, t_v87, by omega, by omega, by omega, by omega⟩) dX9_init_140
  refine lv_if_eq (tgt := 115) hx hb dX9_init_108 (by decide) (fun c108 => ?_) (fun c108 => ?_)
  · skip
    have tc108 := f_eq (k := 0) (by decide) c108
    refine lv_iconst (v := 0) hx hb dX9_init_115 (by decide) ?_
    refine x_putkF (ci := 9) (v := .int 0) (ty := tyX9 12) (C := RX9) (F := TX9) (N := 14) hx hb hts uX9 tyX9 tyX9_ok nmX9 hown hkb hH hS 0 rfl rfl 12 (by decide) kw_148 (fun _ h9 => h9) rfl hnm rfl (tyX9_ok 12 (by decide)) rfl rfl (Nat.le_of_ble_eq_true rfl) dX9_init_116 (fun H locs hH hS => ?_)
    have hH : HT D cs A T87 O ((a0, .inr (9, [.int v27, .int v36, .int 0, .int 0, .int 0, .int 0, .ref v47, .ref v57, .ref v67, .ref v77, .ref v87, .ref a3, .int 0, .int 0])) :: X) H := hH
    refine lv_aload_n hx hb dX9_init_119 rfl (lv_at hl 0 rfl) ?_
    refine lv_aload_n hx hb dX9_init_120 rfl (lv_at hl 3 rfl) ?_
    refine lv_ifnull hx hb dX9_init_121 ?_
    exact J124 0 _ _ _ (by decide) (by decide) hH hS (lv_sub hl [3] rfl)
  · skip
    have tc108 := f_ne (k := 0) (by decide) c108
    refine lv_iconst (v := 1) hx hb dX9_init_111 (by decide) ?_
    refine lv_goto (tgt := 116) hx hb dX9_init_112 (by decide) ?_
    refine x_putkF (ci := 9) (v := .int 1) (ty := tyX9 12) (C := RX9) (F := TX9) (N := 14) hx hb hts uX9 tyX9 tyX9_ok nmX9 hown hkb hH hS 0 rfl rfl 12 (by decide) kw_148 (fun _ h9 => h9) rfl hnm rfl (tyX9_ok 12 (by decide)) rfl rfl (Nat.le_of_ble_eq_true rfl) dX9_init_116 (fun H locs hH hS => ?_)
    have hH : HT D cs A T87 O ((a0, .inr (9, [.int v27, .int v36, .int 0, .int 0, .int 0, .int 0, .ref v47, .ref v57, .ref v67, .ref v77, .ref v87, .ref a3, .int 1, .int 0])) :: X) H := hH
    refine lv_aload_n hx hb dX9_init_119 rfl (lv_at hl 0 rfl) ?_
    refine lv_aload_n hx hb dX9_init_120 rfl (lv_at hl 3 rfl) ?_
    refine lv_ifnull hx hb dX9_init_121 ?_
    exact J124 1 _ _ _ (by decide) (by decide) hH hS (lv_sub hl [3] rfl)
set_option maxHeartbeats 4000000 in
set_option maxRecDepth 100000 in
theorem s_Wall_cutN (l : Launch) (D : va_G) (cs : CS) (kf : KF) (T : TF) (O : List Nat) (X : va_W) (a0 : Nat) (t_a0 : T a0 = some (19, 100, 0)) (hO : okO T O [1, 19]) : TK l D cs kf yX9_cutToSize cX9_cutToSize 3 (some (.object "FootholdWall$Wall")) { frames := 2, cells := 6, slots := 66, locals := 60 } [.ref a0, .null] T O X (Tr D cs (fun u => ∃ T2 : TF, Tgr T T2 ∧ u.1 = (T2, O, X) ∧ (∃ h9 g9 : Nat, isW T2 u.2 h9 g9))) := by
  refine tk_of (by decide) (Nat.le_of_ble_eq_true rfl) (fun p e s m below meth c ls A H locs hx hb hr hml hown hts hlocks hnm hkb hH hS hA hOX hks hE hl => ?_)
  have hown : s.vm.findClass RX9 = some m.cls := hown
  have hl : lv_has ls 3 [(0, .ref a0), (1, .null)] := hl
  have hO0 := hO
  obtain ⟨fs9, ho9, hH⟩ := hH.take t_a0 (hO0.no t_a0 (by decide))
  have hp0 : okL T (ft9d 100 0) fs9 := (fun fs => (ob9d fs).mp) _ ho9
  clear ho9
  obtain ⟨v9, fs9, rfl, h9, hp1⟩ := okL_i hp0
  obtain ⟨q0_0, rfl, l_q0_0, u_q0_0⟩ := h9
  obtain ⟨v9, fs9, rfl, h9, hp2⟩ := okL_i hp1
  obtain ⟨q0_1, rfl, l_q0_1, u_q0_1⟩ := h9
  obtain ⟨v9, fs9, rfl, h9, hp3⟩ := okL_i hp2
  obtain ⟨q0_2, rfl⟩ := h9
  obtain ⟨v9, fs9, rfl, h9, hp4⟩ := okL_i hp3
  obtain ⟨q0_3, rfl, l_q0_3, u_q0_3⟩ := h9
  obtain ⟨v9, fs9, rfl, h9, hp5⟩ := okL_i hp4
  obtain ⟨q0_4, rfl, l_q0_4, u_q0_4⟩ := h9
  obtain ⟨v9, fs9, rfl, h9, hp6⟩ := okL_i hp5
  obtain ⟨q0_5, rfl, l_q0_5, u_q0_5⟩ := h9
  obtain ⟨v9, fs9, rfl, h9, hp7⟩ := okL_i hp6
  obtain ⟨q0_6, rfl, t_q0_6⟩ := h9
  obtain ⟨v9, fs9, rfl, h9, hp8⟩ := okL_i hp7
  obtain ⟨q0_7, rfl, t_q0_7⟩ := h9
  obtain ⟨v9, fs9, rfl, h9, hp9⟩ := okL_i hp8
  obtain ⟨q0_8, rfl, t_q0_8⟩ := h9
  obtain ⟨v9, fs9, rfl, h9, hp10⟩ := okL_i hp9
  obtain ⟨q0_9, rfl, t_q0_9⟩ := h9
  obtain ⟨v9, fs9, rfl, h9, hp11⟩ := okL_i hp10
  obtain ⟨q0_10, rfl, t_q0_10⟩ := h9
  obtain ⟨v9, fs9, rfl, h9, hp12⟩ := okL_i hp11
  have h9 : v9 = .null := h9
  subst h9
  obtain ⟨v9, fs9, rfl, h9, hp13⟩ := okL_i hp12
  obtain ⟨q0_12, rfl, l_q0_12, u_q0_12⟩ := h9
  obtain ⟨v9, fs9, rfl, h9, hp14⟩ := okL_i hp13
  obtain ⟨q0_13, rfl, l_q0_13, u_q0_13⟩ := h9
  have hpz := okL_z hp14
  subst hpz
  have hH : HT D cs A T (a0 :: O) ((a0, .inr (9, [.int q0_0, .int q0_1, .int q0_2, .int q0_3, .int q0_4, .int q0_5, .ref q0_6, .ref q0_7, .ref q0_8, .ref q0_9, .ref q0_10, .null, .int q0_12, .int q0_13])) :: X) H := hH
  have hO : okO T (a0 :: O) [1] := okO.cons (hO0.sub (by decide)) t_a0 (by decide)
  refine x_new (ci := 9) (C := RX9) (F := TX9) (N := 14) (fs := [.int 0, .int 0, .int 0, .int 0, .int 0, .int 0, .null, .null, .null, .null, .null, .null, .int 0, .int 0]) hx hb hts uX9 tyX9 tyX9_ok hown kw_754 kw_94 kw_5 hkb hH (ox_c hOX) hS hA rfl dfX9 (Nat.le_of_ble_eq_true rfl) (Nat.le_of_ble_eq_true rfl) dX9_cutToSize_0 (fun v0 H tn_v0 hH hS => ?_)
  have hH : HT D cs A T (a0 :: O) ((v0, .inr (9, [.int 0, .int 0, .int 0, .int 0, .int 0, .int 0, .null, .null, .null, .null, .null, .null, .int 0, .int 0])) :: (a0, .inr (9, [.int q0_0, .int q0_1, .int q0_2, .int q0_3, .int q0_4, .int q0_5, .ref q0_6, .ref q0_7, .ref q0_8, .ref q0_9, .ref q0_10, .null, .int q0_12, .int q0_13])) :: X) H := hH
  refine W.widen (k := 1) (n := 14) (Nat.le_of_ble_eq_true rfl) (Nat.le_of_ble_eq_true rfl) ?_
  refine lv_dup hx hb dX9_cutToSize_3 rfl ?_
  refine lv_aload_n hx hb dX9_cutToSize_4 rfl (lv_at hl 0 rfl) ?_
  refine x_getk (ci := 9) (C := RX9) (F := TX9) (N := 14) (v := .int q0_0) hx hb hts uX9 hown hkb hH 1 rfl rfl 0 (by decide) rfl kw_106 (fun _ h9 => h9) dX9_cutToSize_5 ?_
  refine lv_aload_n hx hb dX9_cutToSize_8 rfl (lv_at hl 0 rfl) ?_
  refine x_getk (ci := 9) (C := RX9) (F := TX9) (N := 14) (v := .int q0_1) hx hb hts uX9 hown hkb hH 1 rfl rfl 1 (by decide) rfl kw_110 (fun _ h9 => h9) dX9_cutToSize_9 ?_
  refine lv_aload_nN hx hb dX9_cutToSize_12 rfl (lv_at hl 1 rfl) ?_
  have z9_0 : (0 : Int32).toInt = 0 := by decide
  have z9_0 : (0 : Int32).toInt = 0 := by decide
  have z9_0 : (0 : Int32).toInt = 0 := by decide
  have z9_0 : (0 : Int32).toInt = 0 := by decide
  have z9_0 : (0 : Int32).toInt = 0 := by decide
  have z9_0 : (0 : Int32).toInt = 0 := by decide
  have z9_0 : (0 : Int32).toInt = 0 := by decide
  have z9_0 : (0 : Int32).toInt = 0 := by decide
  refine tk_v hH hS hA (tr_I (n := 3) (As := [.int q0_0, .int q0_1, .null]) hx hb hml hown hts hkb hH (ox_n (ox_c hOX)) hks hE hS hA (s_Wall_initN l D cs kf T (a0 :: O) ((a0, .inr (9, [.int q0_0, .int q0_1, .int q0_2, .int q0_3, .int q0_4, .int q0_5, .ref q0_6, .ref q0_7, .ref q0_8, .ref q0_9, .ref q0_10, .null, .int q0_12, .int q0_13])) :: X) v0 q0_0 q0_1 (ox_c hOX) (by omega) (by omega) (by omega) (by omega) (hO.sub (by decide))) kw_755 kw_96 kw_5 kw_97 rfl (by decide +kernel) ⟨Nat.le_of_ble_eq_true rfl, Nat.le_of_ble_eq_true rfl⟩ rfl rfl hl.1 (Nat.le_of_ble_eq_true rfl) dX9_cutToSize_13 ⟨Nat.le_of_ble_eq_true rfl, Nat.le_of_ble_eq_true rfl⟩) (fun u H locs hz9 hH hS => ?_)
  obtain ⟨T13, le_T13, n13_0_0, n13_0_1, n13_0_6, n13_0_7, n13_0_8, n13_0_9, n13_0_10, n13_0_12, n13_0_13, rfl, x_v130, x_v131, x_v132, x_v133, x_v134, x_v135, x_v136, x_v137, x_v138, x_v139, x_v1310⟩ := hz9
  have t_a0 := le_T13.1 _ _ t_a0
  have t_q0_6 := le_T13.1 _ _ t_q0_6
  have t_q0_7 := le_T13.1 _ _ t_q0_7
  have t_q0_8 := le_T13.1 _ _ t_q0_8
  have t_q0_9 := le_T13.1 _ _ t_q0_9
  have t_q0_10 := le_T13.1 _ _ t_q0_10
  have hO := okO.le le_T13.1 hO
  have hO0 := okO.le le_T13.1 hO0
  have t_n13_0_6 := x_v132
  have t_n13_0_7 := x_v133
  have t_n13_0_8 := x_v134
  have t_n13_0_9 := x_v135
  have t_n13_0_10 := x_v136
  have hH : HT D cs A T13 (a0 :: O) ((v0, .inr (9, [.int n13_0_0, .int n13_0_1, .int 0, .int 0, .int 0, .int 0, .ref n13_0_6, .ref n13_0_7, .ref n13_0_8, .ref n13_0_9, .ref n13_0_10, .null, .int n13_0_12, .int n13_0_13])) :: (a0, .inr (9, [.int q0_0, .int q0_1, .int q0_2, .int q0_3, .int q0_4, .int q0_5, .ref q0_6, .ref q0_7, .ref q0_8, .ref q0_9, .ref q0_10, .null, .int q0_12, .int q0_13])) :: X) H := hH
  refine W.widen (k := 6) (n := 66) (Nat.le_of_ble_eq_true rfl) (Nat.le_of_ble_eq_true rfl) ?_
  refine lv_astore_n (lv' := [(2, .ref v0), (0, .ref a0), (1, .null)]) hx hb dX9_cutToSize_16 rfl hl (by decide) rfl (fun ls hl => ?_)
  refine lv_aload_n hx hb dX9_cutToSize_17 rfl (lv_at hl 0 rfl) ?_
  refine lv_aload_n hx hb dX9_cutToSize_18 rfl (lv_at hl 1 rfl) ?_
  refine x_getk (ci := 9) (C := RX9) (F := TX9) (N := 14) (v := .int q0_2) hx hb hts uX9 hown hkb hH 1 rfl rfl 2 (by decide) rfl kw_113 (fun _ h9 => h9) dX9_cutToSize_19 ?_
  refine x_putk (ci := 9) (v := .int q0_2) (ty := tyX9 2) (C := RX9) (F := TX9) (N := 14) hx hb hts uX9 tyX9 tyX9_ok nmX9 hown hkb hH hS 0 rfl rfl 2 (by decide) kw_113 (fun _ h9 => h9) rfl (tyX9_ok 2 (by decide)) rfl rfl (Nat.le_of_ble_eq_true rfl) dX9_cutToSize_22 (fun H locs hH hS => ?_)
  have hH : HT D cs A T13 (a0 :: O) ((v0, .inr (9, [.int n13_0_0, .int n13_0_1, .int q0_2, .int 0, .int 0, .int 0, .ref n13_0_6, .ref n13_0_7, .ref n13_0_8, .ref n13_0_9, .ref n13_0_10, .null, .int n13_0_12, .int n13_0_13])) :: (a0, .inr (9, [.int q0_0, .int q0_1, .int q0_2, .int q0_3, .int q0_4, .int q0_5, .ref q0_6, .ref q0_7, .ref q0_8, .ref q0_9, .ref q0_10, .null, .int q0_12, .int q0_13])) :: X) H := hH
  refine lv_aload_n hx hb dX9_cutToSize_25 rfl (lv_at hl 0 rfl) ?_
  refine lv_aload_n hx hb dX9_cutToSize_26 rfl (lv_at hl 1 rfl) ?_
  refine x_getk (ci := 9) (C := RX9) (F := TX9) (N := 14) (v := .int q0_3) hx hb hts uX9 hown hkb hH 1 rfl rfl 3 (by decide) rfl kw_116 (fun _ h9 => h9) dX9_cutToSize_27 ?_
  refine x_putk (ci := 9) (v := .int q0_3) (ty := tyX9 3) (C := RX9) (F := TX9) (N := 14) hx hb hts uX9 tyX9 tyX9_ok nmX9 hown hkb hH hS 0 rfl rfl 3 (by decide) kw_116 (fun _ h9 => h9) rfl (tyX9_ok 3 (by decide)) rfl rfl (Nat.le_of_ble_eq_true rfl) dX9_cutToSize_30 (fun H locs hH hS => ?_)
  have hH : HT D cs A T13 (a0 :: O) ((v0, .inr (9, [.int n13_0_0, .int n13_0_1, .int q0_2, .int q0_3, .int 0, .int 0, .ref n13_0_6, .ref n13_0_7, .ref n13_0_8, .ref n13_0_9, .ref n13_0_10, .null, .int n13_0_12, .int n13_0_13])) :: (a0, .inr (9, [.int q0_0, .int q0_1, .int q0_2, .int q0_3, .int q0_4, .int q0_5, .ref q0_6, .ref q0_7, .ref q0_8, .ref q0_9, .ref q0_10, .null, .int q0_12, .int q0_13])) :: X) H := hH
  refine lv_aload_n hx hb dX9_cutToSize_33 rfl (lv_at hl 0 rfl) ?_
  refine lv_aload_n hx hb dX9_cutToSize_34 rfl (lv_at hl 1 rfl) ?_
  refine x_getk (ci := 9) (C := RX9) (F := TX9) (N := 14) (v := .int q0_4) hx hb hts uX9 hown hkb hH 1 rfl rfl 4 (by decide) rfl kw_123 (fun _ h9 => h9) dX9_cutToSize_35 ?_
  refine x_putk (ci := 9) (v := .int q0_4) (ty := tyX9 4) (C := RX9) (F := TX9) (N := 14) hx hb hts uX9 tyX9 tyX9_ok nmX9 hown hkb hH hS 0 rfl rfl 4 (by decide) kw_123 (fun _ h9 => h9) rfl (tyX9_ok 4 (by decide)) rfl rfl (Nat.le_of_ble_eq_true rfl) dX9_cutToSize_38 (fun H locs hH hS => ?_)
  have hH : HT D cs A T13 (a0 :: O) ((v0, .inr (9, [.int n13_0_0, .int n13_0_1, .int q0_2, .int q0_3, .int q0_4, .int 0, .ref n13_0_6, .ref n13_0_7, .ref n13_0_8, .ref n13_0_9, .ref n13_0_10, .null, .int n13_0_12, .int n13_0_13])) :: (a0, .inr (9, [.int q0_0, .int q0_1, .int q0_2, .int q0_3, .int q0_4, .int q0_5, .ref q0_6, .ref q0_7, .ref q0_8, .ref q0_9, .ref q0_10, .null, .int q0_12, .int q0_13])) :: X) H := hH
  refine lv_aload_n hx hb dX9_cutToSize_41 rfl (lv_at hl 0 rfl) ?_
  refine lv_aload_n hx hb dX9_cutToSize_42 rfl (lv_at hl 1 rfl) ?_
  refine x_getk (ci := 9) (C := RX9) (F := TX9) (N := 14) (v := .int q0_5) hx hb hts uX9 hown hkb hH 1 rfl rfl 5 (by decide) rfl kw_130 (fun _ h9 => h9) dX9_cutToSize_43 ?_
  refine x_putk (ci := 9) (v := .int q0_5) (ty := tyX9 5) (C := RX9) (F := TX9) (N := 14) hx hb hts uX9 tyX9 tyX9_ok nmX9 hown hkb hH hS 0 rfl rfl 5 (by decide) kw_130 (fun _ h9 => h9) rfl (tyX9_ok 5 (by decide)) rfl rfl (Nat.le_of_ble_eq_true rfl) dX9_cutToSize_46 (fun H locs hH hS => ?_)
  have hH : HT D cs A T13 (a0 :: O) ((v0, .inr (9, [.int n13_0_0, .int n13_0_1, .int q0_2, .int q0_3, .int q0_4, .int q0_5, .ref n13_0_6, .ref n13_0_7, .ref n13_0_8, .ref n13_0_9, .ref n13_0_10, .null, .int n13_0_12, .int n13_0_13])) :: (a0, .inr (9, [.int q0_0, .int q0_1, .int q0_2, .int q0_3, .int q0_4, .int q0_5, .ref q0_6, .ref q0_7, .ref q0_8, .ref q0_9, .ref q0_10, .null, .int q0_12, .int q0_13])) :: X) H := hH
  refine lv_aload_n hx hb dX9_cutToSize_49 rfl (lv_at hl 1 rfl) ?_
  refine x_getk (ci := 9) (C := RX9) (F := TX9) (N := 14) (v := .ref q0_6) hx hb hts uX9 hown hkb hH 1 rfl rfl 6 (by decide) rfl kw_132 (fun _ h9 => h9) dX9_cutToSize_50 ?_
  refine lv_iconst (v := 0) hx hb dX9_cutToSize_53 (by decide) ?_
  refine lv_aload_n hx hb dX9_cutToSize_54 rfl (lv_at hl 0 rfl) ?_
  refine x_getk (ci := 9) (C := RX9) (F := TX9) (N := 14) (v := .ref n13_0_6) hx hb hts uX9 hown hkb hH 0 rfl rfl 6 (by decide) rfl kw_132 (fun _ h9 => h9) dX9_cutToSize_55 ?_
  refine lv_iconst (v := 0) hx hb dX9_cutToSize_58 (by decide) ?_
  refine lv_aload_n hx hb dX9_cutToSize_59 rfl (lv_at hl 1 rfl) ?_
  refine x_getk (ci := 9) (C := RX9) (F := TX9) (N := 14) (v := .int q0_0) hx hb hts uX9 hown hkb hH 1 rfl rfl 0 (by decide) rfl kw_106 (fun _ h9 => h9) dX9_cutToSize_60 ?_
  refine t_copy hx hb (by rw [hml]; exact hl.1.symm) hown (hts _ kw_756) (hts _ kw_734) (hts _ kw_733) (hts _ kw_23) hkb hH hS t_q0_6 (hO.no t_q0_6 (by decide)) t_n13_0_6 (hO.no t_n13_0_6 (by decide)) (by decide) (by decide) (by omega) (by have k0 : (0 : Int32).toInt = 0 := (by decide); omega) (by have k0 : (0 : Int32).toInt = 0 := (by decide); omega) (Nat.le_of_ble_eq_true rfl) (Nat.le_of_ble_eq_true rfl) dX9_cutToSize_63 (fun H locs hH hS => ?_)
  refine lv_aload_n hx hb dX9_cutToSize_66 rfl (lv_at hl 1 rfl) ?_
  refine x_getk (ci := 9) (C := RX9) (F := TX9) (N := 14) (v := .ref q0_7) hx hb hts uX9 hown hkb hH 1 rfl rfl 7 (by decide) rfl kw_135 (fun _ h9 => h9) dX9_cutToSize_67 ?_
  refine lv_iconst (v := 0) hx hb dX9_cutToSize_70 (by decide) ?_
  refine lv_aload_n hx hb dX9_cutToSize_71 rfl (lv_at hl 0 rfl) ?_
  refine x_getk (ci := 9) (C := RX9) (F := TX9) (N := 14) (v := .ref n13_0_7) hx hb hts uX9 hown hkb hH 0 rfl rfl 7 (by decide) rfl kw_135 (fun _ h9 => h9) dX9_cutToSize_72 ?_
  refine lv_iconst (v := 0) hx hb dX9_cutToSize_75 (by decide) ?_
  refine lv_aload_n hx hb dX9_cutToSize_76 rfl (lv_at hl 1 rfl) ?_
  refine x_getk (ci := 9) (C := RX9) (F := TX9) (N := 14) (v := .int q0_0) hx hb hts uX9 hown hkb hH 1 rfl rfl 0 (by decide) rfl kw_106 (fun _ h9 => h9) dX9_cutToSize_77 ?_
  refine t_copy hx hb (by rw [hml]; exact hl.1.symm) hown (hts _ kw_756) (hts _ kw_734) (hts _ kw_733) (hts _ kw_23) hkb hH hS t_q0_7 (hO.no t_q0_7 (by decide)) t_n13_0_7 (hO.no t_n13_0_7 (by decide)) (by decide) (by decide) (by omega) (by have k0 : (0 : Int32).toInt = 0 := (by decide); omega) (by have k0 : (0 : Int32).toInt = 0 := (by decide); omega) (Nat.le_of_ble_eq_true rfl) (Nat.le_of_ble_eq_true rfl) dX9_cutToSize_80 (fun H locs hH hS => ?_)
  refine lv_aload_n hx hb dX9_cutToSize_83 rfl (lv_at hl 1 rfl) ?_
  refine x_getk (ci := 9) (C := RX9) (F := TX9) (N := 14) (v := .ref q0_8) hx hb hts uX9 hown hkb hH 1 rfl rfl 8 (by decide) rfl kw_138 (fun _ h9 => h9) dX9_cutToSize_84 ?_
  refine lv_iconst (v := 0) hx hb dX9_cutToSize_87 (by decide) ?_
  refine lv_aload_n hx hb dX9_cutToSize_88 rfl (lv_at hl 0 rfl) ?_
  refine x_getk (ci := 9) (C := RX9) (F := TX9) (N := 14) (v := .ref n13_0_8) hx hb hts uX9 hown hkb hH 0 rfl rfl 8 (by decide) rfl kw_138 (fun _ h9 => h9) dX9_cutToSize_89 ?_
  refine lv_iconst (v := 0) hx hb dX9_cutToSize_92 (by decide) ?_
  refine lv_aload_n hx hb dX9_cutToSize_93 rfl (lv_at hl 1 rfl) ?_
  refine x_getk (ci := 9) (C := RX9) (F := TX9) (N := 14) (v := .int q0_0) hx hb hts uX9 hown hkb hH 1 rfl rfl 0 (by decide) rfl kw_106 (fun _ h9 => h9) dX9_cutToSize_94 ?_
  refine t_copy hx hb (by rw [hml]; exact hl.1.symm) hown (hts _ kw_756) (hts _ kw_734) (hts _ kw_733) (hts _ kw_23) hkb hH hS t_q0_8 (hO.no t_q0_8 (by decide)) t_n13_0_8 (hO.no t_n13_0_8 (by decide)) (by decide) (by decide) (by omega) (by have k0 : (0 : Int32).toInt = 0 := (by decide); omega) (by have k0 : (0 : Int32).toInt = 0 := (by decide); omega) (Nat.le_of_ble_eq_true rfl) (Nat.le_of_ble_eq_true rfl) dX9_cutToSize_97 (fun H locs hH hS => ?_)
  refine lv_aload_n hx hb dX9_cutToSize_100 rfl (lv_at hl 1 rfl) ?_
  refine x_getk (ci := 9) (C := RX9) (F := TX9) (N := 14) (v := .ref q0_9) hx hb hts uX9 hown hkb hH 1 rfl rfl 9 (by decide) rfl kw_141 (fun _ h9 => h9) dX9_cutToSize_101 ?_
  refine lv_iconst (v := 0) hx hb dX9_cutToSize_104 (by decide) ?_
  refine lv_aload_n hx hb dX9_cutToSize_105 rfl (lv_at hl 0 rfl) ?_
  refine x_getk (ci := 9) (C := RX9) (F := TX9) (N := 14) (v := .ref n13_0_9) hx hb hts uX9 hown hkb hH 0 rfl rfl 9 (by decide) rfl kw_141 (fun _ h9 => h9) dX9_cutToSize_106 ?_
  refine lv_iconst (v := 0) hx hb dX9_cutToSize_109 (by decide) ?_
  refine lv_aload_n hx hb dX9_cutToSize_110 rfl (lv_at hl 1 rfl) ?_
  refine x_getk (ci := 9) (C := RX9) (F := TX9) (N := 14) (v := .int q0_1) hx hb hts uX9 hown hkb hH 1 rfl rfl 1 (by decide) rfl kw_110 (fun _ h9 => h9) dX9_cutToSize_111 ?_
  refine t_copy hx hb (by rw [hml]; exact hl.1.symm) hown (hts _ kw_756) (hts _ kw_734) (hts _ kw_733) (hts _ kw_23) hkb hH hS t_q0_9 (hO.no t_q0_9 (by decide)) t_n13_0_9 (hO.no t_n13_0_9 (by decide)) (by decide) (by decide) (by omega) (by have k0 : (0 : Int32).toInt = 0 := (by decide); omega) (by have k0 : (0 : Int32).toInt = 0 := (by decide); omega) (Nat.le_of_ble_eq_true rfl) (Nat.le_of_ble_eq_true rfl) dX9_cutToSize_114 (fun H locs hH hS => ?_)
  refine lv_aload_n hx hb dX9_cutToSize_117 rfl (lv_at hl 1 rfl) ?_
  refine x_getk (ci := 9) (C := RX9) (F := TX9) (N := 14) (v := .ref q0_10) hx hb hts uX9 hown hkb hH 1 rfl rfl 10 (by decide) rfl kw_144 (fun _ h9 => h9) dX9_cutToSize_118 ?_
  refine lv_iconst (v := 0) hx hb dX9_cutToSize_121 (by decide) ?_
  refine lv_aload_n hx hb dX9_cutToSize_122 rfl (lv_at hl 0 rfl) ?_
  refine x_getk (ci := 9) (C := RX9) (F := TX9) (N := 14) (v := .ref n13_0_10) hx hb hts uX9 hown hkb hH 0 rfl rfl 10 (by decide) rfl kw_144 (fun _ h9 => h9) dX9_cutToSize_123 ?_
  refine lv_iconst (v := 0) hx hb dX9_cutToSize_126 (by decide) ?_
  refine lv_aload_n hx hb dX9_cutToSize_127 rfl (lv_at hl 1 rfl) ?_
  refine x_getk (ci := 9) (C := RX9) (F := TX9) (N := 14) (v := .int q0_1) hx hb hts uX9 hown hkb hH 1 rfl rfl 1 (by decide) rfl kw_110 (fun _ h9 => h9) dX9_cutToSize_128 ?_
  refine t_copy hx hb (by rw [hml]; exact hl.1.symm) hown (hts _ kw_756) (hts _ kw_734) (hts _ kw_733) (hts _ kw_23) hkb hH hS t_q0_10 (hO.no t_q0_10 (by decide)) t_n13_0_10 (hO.no t_n13_0_10 (by decide)) (by decide) (by decide) (by omega) (by have k0 : (0 : Int32).toInt = 0 := (by decide); omega) (by have k0 : (0 : Int32).toInt = 0 := (by decide); omega) (Nat.le_of_ble_eq_true rfl) (Nat.le_of_ble_eq_true rfl) dX9_cutToSize_131 (fun H locs hH hS => ?_)
  refine lv_aload_n hx hb dX9_cutToSize_134 rfl (lv_at hl 0 rfl) ?_
  have hno := HT.none hH (ox_c hOX)
  have hwz : isW (Tadd T13 v0 (19, (n13_0_0.toInt.toNat), (n13_0_1.toInt.toNat))) v0 (n13_0_0.toInt.toNat) (n13_0_1.toInt.toNat) := ⟨Tadd_r, by omega, by omega⟩
  obtain ⟨Tz, le_Tz, t_v0, hH⟩ : ∃ Tz, Tgr T13 Tz ∧ isW Tz v0 (n13_0_0.toInt.toNat) (n13_0_1.toInt.toNat) ∧ HT D cs A Tz (a0 :: O) ((a0, .inr (9, [.int q0_0, .int q0_1, .int q0_2, .int q0_3, .int q0_4, .int q0_5, .ref q0_6, .ref q0_7, .ref q0_8, .ref q0_9, .ref q0_10, .null, .int q0_12, .int q0_13])) :: X) H := ⟨_, Tgr_add hno (Or.inr (Or.inr rfl)), hwz, HT.seal (ci := 9) (p0 := (n13_0_0.toInt.toNat)) (q0 := (n13_0_1.toInt.toNat)) hH hno ((ob9w hwz _).mpr (okL_c (show Value.int n13_0_0 = Value.int (nI n13_0_0.toInt.toNat) from congrArg Value.int (is_nI (by omega))) (okL_c (show Value.int n13_0_1 = Value.int (nI n13_0_1.toInt.toNat) from congrArg Value.int (is_nI (by omega))) (okL_c (⟨_, rfl⟩) (okL_c (⟨_, rfl, by omega, by omega⟩) (okL_c (⟨_, rfl, by omega, by omega⟩) (okL_c (⟨_, rfl, by omega, by omega⟩) (okL_c (⟨_, rfl, Tadd_le hno _ _ t_n13_0_6⟩) (okL_c (⟨_, rfl, Tadd_le hno _ _ t_n13_0_7⟩) (okL_c (⟨_, rfl, Tadd_le hno _ _ t_n13_0_8⟩) (okL_c (⟨_, rfl, Tadd_le hno _ _ t_n13_0_9⟩) (okL_c (⟨_, rfl, Tadd_le hno _ _ t_n13_0_10⟩) (okL_c (Or.inl rfl) (okL_c (⟨_, rfl, by omega, by omega⟩) (okL_c (⟨_, rfl, by omega, by omega⟩) (okL_n))))))))))))))))⟩
  have t_a0 := le_Tz.1 _ _ t_a0
  have t_q0_6 := le_Tz.1 _ _ t_q0_6
  have t_q0_7 := le_Tz.1 _ _ t_q0_7
  have t_q0_8 := le_Tz.1 _ _ t_q0_8
  have t_q0_9 := le_Tz.1 _ _ t_q0_9
  have t_q0_10 := le_Tz.1 _ _ t_q0_10
  have t_n13_0_6 := le_Tz.1 _ _ t_n13_0_6
  have t_n13_0_7 := le_Tz.1 _ _ t_n13_0_7
  have t_n13_0_8 := le_Tz.1 _ _ t_n13_0_8
  have t_n13_0_9 := le_Tz.1 _ _ t_n13_0_9
  have t_n13_0_10 := le_Tz.1 _ _ t_n13_0_10
  have hO := okO.le le_Tz.1 hO
  have hO0 := okO.le le_Tz.1 hO0
  have hH : HT D cs A Tz O X H := HT.lay (ci := 9) hH t_a0 ((ob9d _).mpr (okL_c (⟨_, rfl, by omega, by omega⟩) (okL_c (⟨_, rfl, by omega, by omega⟩) (okL_c (⟨_, rfl⟩) (okL_c (⟨_, rfl, by omega, by omega⟩) (okL_c (⟨_, rfl, by omega, by omega⟩) (okL_c (⟨_, rfl, by omega, by omega⟩) (okL_c (⟨_, rfl, t_q0_6⟩) (okL_c (⟨_, rfl, t_q0_7⟩) (okL_c (⟨_, rfl, t_q0_8⟩) (okL_c (⟨_, rfl, t_q0_9⟩) (okL_c (⟨_, rfl, t_q0_10⟩) (okL_c (rfl) (okL_c (⟨_, rfl, by omega, by omega⟩) (okL_c (⟨_, rfl, by omega, by omega⟩) (okL_n))))))))))))))))
  have hO := hO0
  exact te_r hx hb hr hlocks hH hS (⟨Tz, (Tgr.tr le_T13 le_Tz), rfl, ⟨_, _, t_v0⟩⟩) dX9_cutToSize_135
set_option maxHeartbeats 4000000 in
set_option maxRecDepth 100000 in
theorem s_Wall_cutL (l : Launch) (D : va_G) (cs : CS) (kf : KF) (T : TF) (O : List Nat) (X : va_W) (a0 : Nat) (a1 na1 : Nat) (t_a0 : T a0 = some (19, 100, 0)) (t_a1 : T a1 = some (12, na1, 0)) (b_a1 : na1 ≤ 900) (hO : okO T O [1, 12, 19]) : TK l D cs kf yX9_cutToSize cX9_cutToSize 3 (some (.object "FootholdWall$Wall")) { frames := 2, cells := 6, slots := 66, locals := 60 } [.ref a0, .ref a1] T O X (Tr D cs (fun u => ∃ T2 : TF, Tgr T T2 ∧ u.1 = (T2, O, X) ∧ (∃ h9 g9 : Nat, isW T2 u.2 h9 g9))) := by
  refine tk_of (by decide) (Nat.le_of_ble_eq_true rfl) (fun p e s m below meth c ls A H locs hx hb hr hml hown hts hlocks hnm hkb hH hS hA hOX hks hE hl => ?_)
  have hown : s.vm.findClass RX9 = some m.cls := hown
  have hl : lv_has ls 3 [(0, .ref a0), (1, .ref a1)] := hl
  have hO0 := hO
  obtain ⟨fs9, ho9, hH⟩ := hH.take t_a0 (hO0.no t_a0 (by decide))
  have hp0 : okL T (ft9d 100 0) fs9 := (fun fs => (ob9d fs).mp) _ ho9
  clear ho9
  obtain ⟨v9, fs9, rfl, h9, hp1⟩ := okL_i hp0
  obtain ⟨q0_0, rfl, l_q0_0, u_q0_0⟩ := h9
  obtain ⟨v9, fs9, rfl, h9, hp2⟩ := okL_i hp1
  obtain ⟨q0_1, rfl, l_q0_1, u_q0_1⟩ := h9
  obtain ⟨v9, fs9, rfl, h9, hp3⟩ := okL_i hp2
  obtain ⟨q0_2, rfl⟩ := h9
  obtain ⟨v9, fs9, rfl, h9, hp4⟩ := okL_i hp3
  obtain ⟨q0_3, rfl, l_q0_3, u_q0_3⟩ := h9
  obtain ⟨v9, fs9, rfl, h9, hp5⟩ := okL_i hp4
  obtain ⟨q0_4, rfl, l_q0_4, u_q0_4⟩ := h9
  obtain ⟨v9, fs9, rfl, h9, hp6⟩ := okL_i hp5
  obtain ⟨q0_5, rfl, l_q0_5, u_q0_5⟩ := h9
  obtain ⟨v9, fs9, rfl, h9, hp7⟩ := okL_i hp6
  obtain ⟨q0_6, rfl, t_q0_6⟩ := h9
  obtain ⟨v9, fs9, rfl, h9, hp8⟩ := okL_i hp7
  obtain ⟨q0_7, rfl, t_q0_7⟩ := h9
  obtain ⟨v9, fs9, rfl, h9, hp9⟩ := okL_i hp8
  obtain ⟨q0_8, rfl, t_q0_8⟩ := h9
  obtain ⟨v9, fs9, rfl, h9, hp10⟩ := okL_i hp9
  obtain ⟨q0_9, rfl, t_q0_9⟩ := h9
  obtain ⟨v9, fs9, rfl, h9, hp11⟩ := okL_i hp10
  obtain ⟨q0_10, rfl, t_q0_10⟩ := h9
  obtain ⟨v9, fs9, rfl, h9, hp12⟩ := okL_i hp11
  have h9 : v9 = .null := h9
  subst h9
  obtain ⟨v9, fs9, rfl, h9, hp13⟩ := okL_i hp12
  obtain ⟨q0_12, rfl, l_q0_12, u_q0_12⟩ := h9
  obtain ⟨v9, fs9, rfl, h9, hp14⟩ := okL_i hp13
  obtain ⟨q0_13, rfl, l_q0_13, u_q0_13⟩ := h9
  have hpz := okL_z hp14
  subst hpz
  have hH : HT D cs A T (a0 :: O) ((a0, .inr (9, [.int q0_0, .int q0_1, .int q0_2, .int q0_3, .int q0_4, .int q0_5, .ref q0_6, .ref q0_7, .ref q0_8, .ref q0_9, .ref q0_10, .null, .int q0_12, .int q0_13])) :: X) H := hH
  have hO : okO T (a0 :: O) [1, 12] := okO.cons (hO0.sub (by decide)) t_a0 (by decide)
  refine x_new (ci := 9) (C := RX9) (F := TX9) (N := 14) (fs := [.int 0, .int 0, .int 0, .int 0, .int 0, .int 0, .null, .null, .null, .null, .null, .null, .int 0, .int 0]) hx hb hts uX9 tyX9 tyX9_ok hown kw_754 kw_94 kw_5 hkb hH (ox_c hOX) hS hA rfl dfX9 (Nat.le_of_ble_eq_true rfl) (Nat.le_of_ble_eq_true rfl) dX9_cutToSize_0 (fun v0 H tn_v0 hH hS => ?_)
  have hH : HT D cs A T (a0 :: O) ((v0, .inr (9, [.int 0, .int 0, .int 0, .int 0, .int 0, .int 0, .null, .null, .null, .null, .null, .null, .int 0, .int 0])) :: (a0, .inr (9, [.int q0_0, .int q0_1, .int q0_2, .int q0_3, .int q0_4, .int q0_5, .ref q0_6, .ref q0_7, .ref q0_8, .ref q0_9, .ref q0_10, .null, .int q0_12, .int q0_13])) :: X) H := hH
  refine W.widen (k := 1) (n := 14) (Nat.le_of_ble_eq_true rfl) (Nat.le_of_ble_eq_true rfl) ?_
  refine lv_dup hx hb dX9_cutToSize_3 rfl ?_
  refine lv_aload_n hx hb dX9_cutToSize_4 rfl (lv_at hl 0 rfl) ?_
  refine x_getk (ci := 9) (C := RX9) (F := TX9) (N := 14) (v := .int q0_0) hx hb hts uX9 hown hkb hH 1 rfl rfl 0 (by decide) rfl kw_106 (fun _ h9 => h9) dX9_cutToSize_5 ?_
  refine lv_aload_n hx hb dX9_cutToSize_8 rfl (lv_at hl 0 rfl) ?_
  refine x_getk (ci := 9) (C := RX9) (F := TX9) (N := 14) (v := .int q0_1) hx hb hts uX9 hown hkb hH 1 rfl rfl 1 (by decide) rfl kw_110 (fun _ h9 => h9) dX9_cutToSize_9 ?_
  refine lv_aload_n hx hb dX9_cutToSize_12 rfl (lv_at hl 1 rfl) ?_
  have z9_0 : (0 : Int32).toInt = 0 := by decide
  have z9_0 : (0 : Int32).toInt = 0 := by decide
  have z9_0 : (0 : Int32).toInt = 0 := by decide
  have z9_0 : (0 : Int32).toInt = 0 := by decide
  have z9_0 : (0 : Int32).toInt = 0 := by decide
  have z9_0 : (0 : Int32).toInt = 0 := by decide
  have z9_0 : (0 : Int32).toInt = 0 := by decide
  have z9_0 : (0 : Int32).toInt = 0 := by decide
  refine tk_v hH hS hA (tr_I (n := 3) (As := [.int q0_0, .int q0_1, .ref a1]) hx hb hml hown hts hkb hH (ox_n (ox_c hOX)) hks hE hS hA (s_Wall_initL l D cs kf T (a0 :: O) ((a0, .inr (9, [.int q0_0, .int q0_1, .int q0_2, .int q0_3, .int q0_4, .int q0_5, .ref q0_6, .ref q0_7, .ref q0_8, .ref q0_9, .ref q0_10, .null, .int q0_12, .int q0_13])) :: X) v0 q0_0 q0_1 a1 na1 (ox_c hOX) (by omega) (by omega) (by omega) (by omega) t_a1 b_a1 (hO.sub (by decide))) kw_755 kw_96 kw_5 kw_97 rfl (by decide +kernel) ⟨Nat.le_of_ble_eq_true rfl, Nat.le_of_ble_eq_true rfl⟩ rfl rfl hl.1 (Nat.le_of_ble_eq_true rfl) dX9_cutToSize_13 ⟨Nat.le_of_ble_eq_true rfl, Nat.le_of_ble_eq_true rfl⟩) (fun u H locs hz9 hH hS => ?_)
  obtain ⟨T13, le_T13, n13_0_0, n13_0_1, n13_0_6, n13_0_7, n13_0_8, n13_0_9, n13_0_10, n13_0_12, n13_0_13, rfl, x_v130, x_v131, x_v132, x_v133, x_v134, x_v135, x_v136, x_v137, x_v138, x_v139, x_v1310⟩ := hz9
  have t_a0 := le_T13.1 _ _ t_a0
  have t_a1 := le_T13.1 _ _ t_a1
  have t_q0_6 := le_T13.1 _ _ t_q0_6
  have t_q0_7 := le_T13.1 _ _ t_q0_7
  have t_q0_8 := le_T13.1 _ _ t_q0_8
  have t_q0_9 := le_T13.1 _ _ t_q0_9
  have t_q0_10 := le_T13.1 _ _ t_q0_10
  have hO := okO.le le_T13.1 hO
  have hO0 := okO.le le_T13.1 hO0
  have t_n13_0_6 := x_v132
  have t_n13_0_7 := x_v133
  have t_n13_0_8 := x_v134
  have t_n13_0_9 := x_v135
  have t_n13_0_10 := x_v136
  have hH : HT D cs A T13 (a0 :: O) ((v0, .inr (9, [.int n13_0_0, .int n13_0_1, .int 0, .int 0, .int 0, .int 0, .ref n13_0_6, .ref n13_0_7, .ref n13_0_8, .ref n13_0_9, .ref n13_0_10, .ref a1, .int n13_0_12, .int n13_0_13])) :: (a0, .inr (9, [.int q0_0, .int q0_1, .int q0_2, .int q0_3, .int q0_4, .int q0_5, .ref q0_6, .ref q0_7, .ref q0_8, .ref q0_9, .ref q0_10, .null, .int q0_12, .int q0_13])) :: X) H := hH
  refine W.widen (k := 6) (n := 66) (Nat.le_of_ble_eq_true rfl) (Nat.le_of_ble_eq_true rfl) ?_
  refine lv_astore_n (lv' := [(2, .ref v0), (0, .ref a0), (1, .ref a1)]) hx hb dX9_cutToSize_16 rfl hl (by decide) rfl (fun ls hl => ?_)
  refine lv_aload_n hx hb dX9_cutToSize_17 rfl (lv_at hl 0 rfl) ?_
  refine lv_aload_n hx hb dX9_cutToSize_18 rfl (lv_at hl 1 rfl) ?_
  refine x_getk (ci := 9) (C := RX9) (F := TX9) (N := 14) (v := .int q0_2) hx hb hts uX9 hown hkb hH 1 rfl rfl 2 (by decide) rfl kw_113 (fun _ h9 => h9) dX9_cutToSize_19 ?_
  refine x_putk (ci := 9) (v := .int q0_2) (ty := tyX9 2) (C := RX9) (F := TX9) (N := 14) hx hb hts uX9 tyX9 tyX9_ok nmX9 hown hkb hH hS 0 rfl rfl 2 (by decide) kw_113 (fun _ h9 => h9) rfl (tyX9_ok 2 (by decide)) rfl rfl (Nat.le_of_ble_eq_true rfl) dX9_cutToSize_22 (fun H locs hH hS => ?_)
  have hH : HT D cs A T13 (a0 :: O) ((v0, .inr (9, [.int n13_0_0, .int n13_0_1, .int q0_2, .int 0, .int 0, .int 0, .ref n13_0_6, .ref n13_0_7, .ref n13_0_8, .ref n13_0_9, .ref n13_0_10, .ref a1, .int n13_0_12, .int n13_0_13])) :: (a0, .inr (9, [.int q0_0, .int q0_1, .int q0_2, .int q0_3, .int q0_4, .int q0_5, .ref q0_6, .ref q0_7, .ref q0_8, .ref q0_9, .ref q0_10, .null, .int q0_12, .int q0_13])) :: X) H := hH
  refine lv_aload_n hx hb dX9_cutToSize_25 rfl (lv_at hl 0 rfl) ?_
  refine lv_aload_n hx hb dX9_cutToSize_26 rfl (lv_at hl 1 rfl) ?_
  refine x_getk (ci := 9) (C := RX9) (F := TX9) (N := 14) (v := .int q0_3) hx hb hts uX9 hown hkb hH 1 rfl rfl 3 (by decide) rfl kw_116 (fun _ h9 => h9) dX9_cutToSize_27 ?_
  refine x_putk (ci := 9) (v := .int q0_3) (ty := tyX9 3) (C := RX9) (F := TX9) (N := 14) hx hb hts uX9 tyX9 tyX9_ok nmX9 hown hkb hH hS 0 rfl rfl 3 (by decide) kw_116 (fun _ h9 => h9) rfl (tyX9_ok 3 (by decide)) rfl rfl (Nat.le_of_ble_eq_true rfl) dX9_cutToSize_30 (fun H locs hH hS => ?_)
  have hH : HT D cs A T13 (a0 :: O) ((v0, .inr (9, [.int n13_0_0, .int n13_0_1, .int q0_2, .int q0_3, .int 0, .int 0, .ref n13_0_6, .ref n13_0_7, .ref n13_0_8, .ref n13_0_9, .ref n13_0_10, .ref a1, .int n13_0_12, .int n13_0_13])) :: (a0, .inr (9, [.int q0_0, .int q0_1, .int q0_2, .int q0_3, .int q0_4, .int q0_5, .ref q0_6, .ref q0_7, .ref q0_8, .ref q0_9, .ref q0_10, .null, .int q0_12, .int q0_13])) :: X) H := hH
  refine lv_aload_n hx hb dX9_cutToSize_33 rfl (lv_at hl 0 rfl) ?_
  refine lv_aload_n hx hb dX9_cutToSize_34 rfl (lv_at hl 1 rfl) ?_
  refine x_getk (ci := 9) (C := RX9) (F := TX9) (N := 14) (v := .int q0_4) hx hb hts uX9 hown hkb hH 1 rfl rfl 4 (by decide) rfl kw_123 (fun _ h9 => h9) dX9_cutToSize_35 ?_
  refine x_putk (ci := 9) (v := .int q0_4) (ty := tyX9 4) (C := RX9) (F := TX9) (N := 14) hx hb hts uX9 tyX9 tyX9_ok nmX9 hown hkb hH hS 0 rfl rfl 4 (by decide) kw_123 (fun _ h9 => h9) rfl (tyX9_ok 4 (by decide)) rfl rfl (Nat.le_of_ble_eq_true rfl) dX9_cutToSize_38 (fun H locs hH hS => ?_)
  have hH : HT D cs A T13 (a0 :: O) ((v0, .inr (9, [.int n13_0_0, .int n13_0_1, .int q0_2, .int q0_3, .int q0_4, .int 0, .ref n13_0_6, .ref n13_0_7, .ref n13_0_8, .ref n13_0_9, .ref n13_0_10, .ref a1, .int n13_0_12, .int n13_0_13])) :: (a0, .inr (9, [.int q0_0, .int q0_1, .int q0_2, .int q0_3, .int q0_4, .int q0_5, .ref q0_6, .ref q0_7, .ref q0_8, .ref q0_9, .ref q0_10, .null, .int q0_12, .int q0_13])) :: X) H := hH
  refine lv_aload_n hx hb dX9_cutToSize_41 rfl (lv_at hl 0 rfl) ?_
  refine lv_aload_n hx hb dX9_cutToSize_42 rfl (lv_at hl 1 rfl) ?_
  refine x_getk (ci := 9) (C := RX9) (F := TX9) (N := 14) (v := .int q0_5) hx hb hts uX9 hown hkb hH 1 rfl rfl 5 (by decide) rfl kw_130 (fun _ h9 => h9) dX9_cutToSize_43 ?_
  refine x_putk (ci := 9) (v := .int q0_5) (ty := tyX9 5) (C := RX9) (F := TX9) (N := 14) hx hb hts uX9 tyX9 tyX9_ok nmX9 hown hkb hH hS 0 rfl rfl 5 (by decide) kw_130 (fun _ h9 => h9) rfl (tyX9_ok 5 (by decide)) rfl rfl (Nat.le_of_ble_eq_true rfl) dX9_cutToSize_46 (fun H locs hH hS => ?_)
  have hH : HT D cs A T13 (a0 :: O) ((v0, .inr (9, [.int n13_0_0, .int n13_0_1, .int q0_2, .int q0_3, .int q0_4, .int q0_5, .ref n13_0_6, .ref n13_0_7, .ref n13_0_8, .ref n13_0_9, .ref n13_0_10, .ref a1, .int n13_0_12, .int n13_0_13])) :: (a0, .inr (9, [.int q0_0, .int q0_1, .int q0_2, .int q0_3, .int q0_4, .int q0_5, .ref q0_6, .ref q0_7, .ref q0_8, .ref q0_9, .ref q0_10, .null, .int q0_12, .int q0_13])) :: X) H := hH
  refine lv_aload_n hx hb dX9_cutToSize_49 rfl (lv_at hl 1 rfl) ?_
  refine x_getk (ci := 9) (C := RX9) (F := TX9) (N := 14) (v := .ref q0_6) hx hb hts uX9 hown hkb hH 1 rfl rfl 6 (by decide) rfl kw_132 (fun _ h9 => h9) dX9_cutToSize_50 ?_
  refine lv_iconst (v := 0) hx hb dX9_cutToSize_53 (by decide) ?_
  refine lv_aload_n hx hb dX9_cutToSize_54 rfl (lv_at hl 0 rfl) ?_
  refine x_getk (ci := 9) (C := RX9) (F := TX9) (N := 14) (v := .ref n13_0_6) hx hb hts uX9 hown hkb hH 0 rfl rfl 6 (by decide) rfl kw_132 (fun _ h9 => h9) dX9_cutToSize_55 ?_
  refine lv_iconst (v := 0) hx hb dX9_cutToSize_58 (by decide) ?_
  refine lv_aload_n hx hb dX9_cutToSize_59 rfl (lv_at hl 1 rfl) ?_
  refine x_getk (ci := 9) (C := RX9) (F := TX9) (N := 14) (v := .int q0_0) hx hb hts uX9 hown hkb hH 1 rfl rfl 0 (by decide) rfl kw_106 (fun _ h9 => h9) dX9_cutToSize_60 ?_
  refine t_copy hx hb (by rw [hml]; exact hl.1.symm) hown (hts _ kw_756) (hts _ kw_734) (hts _ kw_733) (hts _ kw_23) hkb hH hS t_q0_6 (hO.no t_q0_6 (by decide)) t_n13_0_6 (hO.no t_n13_0_6 (by decide)) (by decide) (by decide) (by omega) (by have k0 : (0 : Int32).toInt = 0 := (by decide); omega) (by have k0 : (0 : Int32).toInt = 0 := (by decide); omega) (Nat.le_of_ble_eq_true rfl) (Nat.le_of_ble_eq_true rfl) dX9_cutToSize_63 (fun H locs hH hS => ?_)
  refine lv_aload_n hx hb dX9_cutToSize_66 rfl (lv_at hl 1 rfl) ?_
  refine x_getk (ci := 9) (C := RX9) (F := TX9) (N := 14) (v := .ref q0_7) hx hb hts uX9 hown hkb hH 1 rfl rfl 7 (by decide) rfl kw_135 (fun _ h9 => h9) dX9_cutToSize_67 ?_
  refine lv_iconst (v := 0) hx hb dX9_cutToSize_70 (by decide) ?_
  refine lv_aload_n hx hb dX9_cutToSize_71 rfl (lv_at hl 0 rfl) ?_
  refine x_getk (ci := 9) (C := RX9) (F := TX9) (N := 14) (v := .ref n13_0_7) hx hb hts uX9 hown hkb hH 0 rfl rfl 7 (by decide) rfl kw_135 (fun _ h9 => h9) dX9_cutToSize_72 ?_
  refine lv_iconst (v := 0) hx hb dX9_cutToSize_75 (by decide) ?_
  refine lv_aload_n hx hb dX9_cutToSize_76 rfl (lv_at hl 1 rfl) ?_
  refine x_getk (ci := 9) (C := RX9) (F := TX9) (N := 14) (v := .int q0_0) hx hb hts uX9 hown hkb hH 1 rfl rfl 0 (by decide) rfl kw_106 (fun _ h9 => h9) dX9_cutToSize_77 ?_
  refine t_copy hx hb (by rw [hml]; exact hl.1.symm) hown (hts _ kw_756) (hts _ kw_734) (hts _ kw_733) (hts _ kw_23) hkb hH hS t_q0_7 (hO.no t_q0_7 (by decide)) t_n13_0_7 (hO.no t_n13_0_7 (by decide)) (by decide) (by decide) (by omega) (by have k0 : (0 : Int32).toInt = 0 := (by decide); omega) (by have k0 : (0 : Int32).toInt = 0 := (by decide); omega) (Nat.le_of_ble_eq_true rfl) (Nat.le_of_ble_eq_true rfl) dX9_cutToSize_80 (fun H locs hH hS => ?_)
  refine lv_aload_n hx hb dX9_cutToSize_83 rfl (lv_at hl 1 rfl) ?_
  refine x_getk (ci := 9) (C := RX9) (F := TX9) (N := 14) (v := .ref q0_8) hx hb hts uX9 hown hkb hH 1 rfl rfl 8 (by decide) rfl kw_138 (fun _ h9 => h9) dX9_cutToSize_84 ?_
  refine lv_iconst (v := 0) hx hb dX9_cutToSize_87 (by decide) ?_
  refine lv_aload_n hx hb dX9_cutToSize_88 rfl (lv_at hl 0 rfl) ?_
  refine x_getk (ci := 9) (C := RX9) (F := TX9) (N := 14) (v := .ref n13_0_8) hx hb hts uX9 hown hkb hH 0 rfl rfl 8 (by decide) rfl kw_138 (fun _ h9 => h9) dX9_cutToSize_89 ?_
  refine lv_iconst (v := 0) hx hb dX9_cutToSize_92 (by decide) ?_
  refine lv_aload_n hx hb dX9_cutToSize_93 rfl (lv_at hl 1 rfl) ?_
  refine x_getk (ci := 9) (C := RX9) (F := TX9) (N := 14) (v := .int q0_0) hx hb hts uX9 hown hkb hH 1 rfl rfl 0 (by decide) rfl kw_106 (fun _ h9 => h9) dX9_cutToSize_94 ?_
  refine t_copy hx hb (by rw [hml]; exact hl.1.symm) hown (hts _ kw_756) (hts _ kw_734) (hts _ kw_733) (hts _ kw_23) hkb hH hS t_q0_8 (hO.no t_q0_8 (by decide)) t_n13_0_8 (hO.no t_n13_0_8 (by decide)) (by decide) (by decide) (by omega) (by have k0 : (0 : Int32).toInt = 0 := (by decide); omega) (by have k0 : (0 : Int32).toInt = 0 := (by decide); omega) (Nat.le_of_ble_eq_true rfl) (Nat.le_of_ble_eq_true rfl) dX9_cutToSize_97 (fun H locs hH hS => ?_)
  refine lv_aload_n hx hb dX9_cutToSize_100 rfl (lv_at hl 1 rfl) ?_
  refine x_getk (ci := 9) (C := RX9) (F := TX9) (N := 14) (v := .ref q0_9) hx hb hts uX9 hown hkb hH 1 rfl rfl 9 (by decide) rfl kw_141 (fun _ h9 => h9) dX9_cutToSize_101 ?_
  refine lv_iconst (v := 0) hx hb dX9_cutToSize_104 (by decide) ?_
  refine lv_aload_n hx hb dX9_cutToSize_105 rfl (lv_at hl 0 rfl) ?_
  refine x_getk (ci := 9) (C := RX9) (F := TX9) (N := 14) (v := .ref n13_0_9) hx hb hts uX9 hown hkb hH 0 rfl rfl 9 (by decide) rfl kw_141 (fun _ h9 => h9) dX9_cutToSize_106 ?_
  refine lv_iconst (v := 0) hx hb dX9_cutToSize_109 (by decide) ?_
  refine lv_aload_n hx hb dX9_cutToSize_110 rfl (lv_at hl 1 rfl) ?_
  refine x_getk (ci := 9) (C := RX9) (F := TX9) (N := 14) (v := .int q0_1) hx hb hts uX9 hown hkb hH 1 rfl rfl 1 (by decide) rfl kw_110 (fun _ h9 => h9) dX9_cutToSize_111 ?_
  refine t_copy hx hb (by rw [hml]; exact hl.1.symm) hown (hts _ kw_756) (hts _ kw_734) (hts _ kw_733) (hts _ kw_23) hkb hH hS t_q0_9 (hO.no t_q0_9 (by decide)) t_n13_0_9 (hO.no t_n13_0_9 (by decide)) (by decide) (by decide) (by omega) (by have k0 : (0 : Int32).toInt = 0 := (by decide); omega) (by have k0 : (0 : Int32).toInt = 0 := (by decide); omega) (Nat.le_of_ble_eq_true rfl) (Nat.le_of_ble_eq_true rfl) dX9_cutToSize_114 (fun H locs hH hS => ?_)
  refine lv_aload_n hx hb dX9_cutToSize_117 rfl (lv_at hl 1 rfl) ?_
  refine x_getk (ci := 9) (C := RX9) (F := TX9) (N := 14) (v := .ref q0_10) hx hb hts uX9 hown hkb hH 1 rfl rfl 10 (by decide) rfl kw_144 (fun _ h9 => h9) dX9_cutToSize_118 ?_
  refine lv_iconst (v := 0) hx hb dX9_cutToSize_121 (by decide) ?_
  refine lv_aload_n hx hb dX9_cutToSize_122 rfl (lv_at hl 0 rfl) ?_
  refine x_getk (ci := 9) (C := RX9) (F := TX9) (N := 14) (v := .ref n13_0_10) hx hb hts uX9 hown hkb hH 0 rfl rfl 10 (by decide) rfl kw_144 (fun _ h9 => h9) dX9_cutToSize_123 ?_
  refine lv_iconst (v := 0) hx hb dX9_cutToSize_126 (by decide) ?_
  refine lv_aload_n hx hb dX9_cutToSize_127 rfl (lv_at hl 1 rfl) ?_
  refine x_getk (ci := 9) (C := RX9) (F := TX9) (N := 14) (v := .int q0_1) hx hb hts uX9 hown hkb hH 1 rfl rfl 1 (by decide) rfl kw_110 (fun _ h9 => h9) dX9_cutToSize_128 ?_
  refine t_copy hx hb (by rw [hml]; exact hl.1.symm) hown (hts _ kw_756) (hts _ kw_734) (hts _ kw_733) (hts _ kw_23) hkb hH hS t_q0_10 (hO.no t_q0_10 (by decide)) t_n13_0_10 (hO.no t_n13_0_10 (by decide)) (by decide) (by decide) (by omega) (by have k0 : (0 : Int32).toInt = 0 := (by decide); omega) (by have k0 : (0 : Int32).toInt = 0 := (by decide); omega) (Nat.le_of_ble_eq_true rfl) (Nat.le_of_ble_eq_true rfl) dX9_cutToSize_131 (fun H locs hH hS => ?_)
  refine lv_aload_n hx hb dX9_cutToSize_134 rfl (lv_at hl 0 rfl) ?_
  have hno := HT.none hH (ox_c hOX)
  have hwz : isW (Tadd T13 v0 (19, (n13_0_0.toInt.toNat), (n13_0_1.toInt.toNat))) v0 (n13_0_0.toInt.toNat) (n13_0_1.toInt.toNat) := ⟨Tadd_r, by omega, by omega⟩
  obtain ⟨Tz, le_Tz, t_v0, hH⟩ : ∃ Tz, Tgr T13 Tz ∧ isW Tz v0 (n13_0_0.toInt.toNat) (n13_0_1.toInt.toNat) ∧ HT D cs A Tz (a0 :: O) ((a0, .inr (9, [.int q0_0, .int q0_1, .int q0_2, .int q0_3, .int q0_4, .int q0_5, .ref q0_6, .ref q0_7, .ref q0_8, .ref q0_9, .ref q0_10, .null, .int q0_12, .int q0_13])) :: X) H := ⟨_, Tgr_add hno (Or.inr (Or.inr rfl)), hwz, HT.seal (ci := 9) (p0 := (n13_0_0.toInt.toNat)) (q0 := (n13_0_1.toInt.toNat)) hH hno ((ob9w hwz _).mpr (okL_c (show Value.int n13_0_0 = Value.int (nI n13_0_0.toInt.toNat) from congrArg Value.int (is_nI (by omega))) (okL_c (show Value.int n13_0_1 = Value.int (nI n13_0_1.toInt.toNat) from congrArg Value.int (is_nI (by omega))) (okL_c (⟨_, rfl⟩) (okL_c (⟨_, rfl, by omega, by omega⟩) (okL_c (⟨_, rfl, by omega, by omega⟩) (okL_c (⟨_, rfl, by omega, by omega⟩) (okL_c (⟨_, rfl, Tadd_le hno _ _ t_n13_0_6⟩) (okL_c (⟨_, rfl, Tadd_le hno _ _ t_n13_0_7⟩) (okL_c (⟨_, rfl, Tadd_le hno _ _ t_n13_0_8⟩) (okL_c (⟨_, rfl, Tadd_le hno _ _ t_n13_0_9⟩) (okL_c (⟨_, rfl, Tadd_le hno _ _ t_n13_0_10⟩) (okL_c (Or.inr ⟨_, _, rfl, Tadd_le hno _ _ t_a1, b_a1⟩) (okL_c (⟨_, rfl, by omega, by omega⟩) (okL_c (⟨_, rfl, by omega, by omega⟩) (okL_n))))))))))))))))⟩
  have t_a0 := le_Tz.1 _ _ t_a0
  have t_a1 := le_Tz.1 _ _ t_a1
  have t_q0_6 := le_Tz.1 _ _ t_q0_6
  have t_q0_7 := le_Tz.1 _ _ t_q0_7
  have t_q0_8 := le_Tz.1 _ _ t_q0_8
  have t_q0_9 := le_Tz.1 _ _ t_q0_9
  have t_q0_10 := le_Tz.1 _ _ t_q0_10
  have t_n13_0_6 := le_Tz.1 _ _ t_n13_0_6
  have t_n13_0_7 := le_Tz.1 _ _ t_n13_0_7
  have t_n13_0_8 := le_Tz.1 _ _ t_n13_0_8
  have t_n13_0_9 := le_Tz.1 _ _ t_n13_0_9
  have t_n13_0_10 := le_Tz.1 _ _ t_n13_0_10
  have hO := okO.le le_Tz.1 hO
  have hO0 := okO.le le_Tz.1 hO0
  have hH : HT D cs A Tz O X H := HT.lay (ci := 9) hH t_a0 ((ob9d _).mpr (okL_c (⟨_, rfl, by omega, by omega⟩) (okL_c (⟨_, rfl, by omega, by omega⟩) (okL_c (⟨_, rfl⟩) (okL_c (⟨_, rfl, by omega, by omega⟩) (okL_c (⟨_, rfl, by omega, by omega⟩) (okL_c (⟨_, rfl, by omega, by omega⟩) (okL_c (⟨_, rfl, t_q0_6⟩) (okL_c (⟨_, rfl, t_q0_7⟩) (okL_c (⟨_, rfl, t_q0_8⟩) (okL_c (⟨_, rfl, t_q0_9⟩) (okL_c (⟨_, rfl, t_q0_10⟩) (okL_c (rfl) (okL_c (⟨_, rfl, by omega, by omega⟩) (okL_c (⟨_, rfl, by omega, by omega⟩) (okL_n))))))))))))))))
  have hO := hO0
  exact te_r hx hb hr hlocks hH hS (⟨Tz, (Tgr.tr le_T13 le_Tz), rfl, ⟨_, _, t_v0⟩⟩) dX9_cutToSize_135
set_option maxHeartbeats 4000000 in
set_option maxRecDepth 100000 in
theorem s_RD_made (l : Launch) (D : va_G) (cs : CS) (kf : KF) (T : TF) (O : List Nat) (X : va_W) (a0 d : Nat) (t_a0 : T a0 = some (14, d, 0)) (t_d : T d = some (19, 100, 0)) (hO : okO T O [1, 12, 13, 14, 19]) : TK l D cs kf yX4_made cX4_made 1 (some (.object "FootholdWall$Wall")) { frames := 3, cells := 10, slots := 1001, locals := 102 } [.ref a0] T O X (Tr D cs (fun u => ∃ T2 : TF, Tgr T T2 ∧ u.1 = (T2, O, X) ∧ (∃ h9 g9 : Nat, isW T2 u.2 h9 g9))) := by
  refine tk_of (by decide) (Nat.le_of_ble_eq_true rfl) (fun p e s m below meth c ls A H locs hx hb hr hml hown hts hlocks hnm hkb hH hS hA hOX hks hE hl => ?_)
  have hown : s.vm.findClass RX4 = some m.cls := hown
  have hl : lv_has ls 1 [(0, .ref a0)] := hl
  refine lv_aload_n hx hb dX4_made_0 rfl (lv_at hl 0 rfl) ?_
  refine t_get (ci := 4) (lst := ft4 d 0) (C := RX4) (F := TX4) (N := 5) hx hb hts uX4 hown hkb hH t_a0 (hO.no t_a0 (by decide)) (fun _ h9 => h9) rfl rfl 2 (by decide) rfl kw_214 (fun _ h9 => h9) dX4_made_1 (fun v9 h9 => ?_)
  have h9 : v9 = .ref d := h9
  subst h9
  refine lv_aload_n hx hb dX4_made_4 rfl (lv_at hl 0 rfl) ?_
  refine t_get (ci := 4) (lst := ft4 d 0) (C := RX4) (F := TX4) (N := 5) hx hb hts uX4 hown hkb hH t_a0 (hO.no t_a0 (by decide)) (fun _ h9 => h9) rfl rfl 3 (by decide) rfl kw_215 (fun _ h9 => h9) dX4_made_5 (fun v9 h9 => ?_)
  obtain ⟨v5, rfl, l_v5, u_v5⟩ := h9
  refine lv_if_eq (tgt := 21) hx hb dX4_made_8 (by decide) (fun c8 => ?_) (fun c8 => ?_)
  · skip
    have tc8 := f_eq (k := 0) (by decide) c8
    refine lv_null hx hb dX4_made_21 ?_
    refine tk_r hH hS hA (tr_V (n := 1) (As := [.null]) hx hb hml hown hts hkb hH hOX hks hE hS hA (s_Wall_cutN l D cs kf T O X d t_d (hO.sub (by decide))) kw_750 kw_751 kw_752 kw_5 kw_753 (by decide +kernel) ⟨Nat.le_of_ble_eq_true rfl, Nat.le_of_ble_eq_true rfl⟩ (HT.recv (ci := 9) hkb hH t_d (hO.no t_d (by decide)) rfl) rfl rfl hl.1 (Nat.le_of_ble_eq_true rfl) dX4_made_22 ⟨Nat.le_of_ble_eq_true rfl, Nat.le_of_ble_eq_true rfl⟩) (fun v22 u H locs hz9 hH hS => ?_)
    obtain ⟨T22, le_T22, rfl, ⟨hv22, gv22, t_v22⟩⟩ := hz9
    have t_a0 := le_T22.1 _ _ t_a0
    have t_d := le_T22.1 _ _ t_d
    have hO := okO.le le_T22.1 hO
    have hH : HT D cs A T22 O X H := hH
    refine W.widen (k := 6) (n := 66) (Nat.le_of_ble_eq_true rfl) (Nat.le_of_ble_eq_true rfl) ?_
    refine W.widen (k := 10) (n := 1001) (Nat.le_of_ble_eq_true rfl) (Nat.le_of_ble_eq_true rfl) ?_
    exact te_r hx hb hr hlocks hH hS (⟨T22, le_T22, rfl, ⟨_, _, t_v22⟩⟩) dX4_made_25
  · skip
    have tc8 := f_ne (k := 0) (by decide) c8
    refine lv_aload_n hx hb dX4_made_11 rfl (lv_at hl 0 rfl) ?_
    refine t_get (ci := 4) (lst := ft4 d 0) (C := RX4) (F := TX4) (N := 5) hx hb hts uX4 hown hkb hH t_a0 (hO.no t_a0 (by decide)) (fun _ h9 => h9) rfl rfl 1 (by decide) rfl kw_213 (fun _ h9 => h9) dX4_made_12 (fun v9 h9 => ?_)
    obtain ⟨v12, rfl, t_v12⟩ := h9
    refine tk_r hH hS hA (tr_V (n := 0) (As := []) hx hb hml hown hts hkb hH hOX hks hE hS hA (s_LR_made l D cs kf T O X v12 t_v12 (hO.sub (by decide))) kw_715 kw_716 kw_717 kw_4 kw_718 (by decide +kernel) ⟨Nat.le_of_ble_eq_true rfl, Nat.le_of_ble_eq_true rfl⟩ (HT.recv (ci := 3) hkb hH t_v12 (hO.no t_v12 (by decide)) rfl) rfl rfl hl.1 (Nat.le_of_ble_eq_true rfl) dX4_made_15 ⟨Nat.le_of_ble_eq_true rfl, Nat.le_of_ble_eq_true rfl⟩) (fun v15 u H locs hz9 hH hS => ?_)
    obtain ⟨T15, le_T15, rfl, ⟨nv15, t_v15, b_v15⟩⟩ := hz9
    have t_a0 := le_T15.1 _ _ t_a0
    have t_d := le_T15.1 _ _ t_d
    have t_v12 := le_T15.1 _ _ t_v12
    have hO := okO.le le_T15.1 hO
    have hH : HT D cs A T15 O X H := hH
    refine W.widen (k := 4) (n := 935) (Nat.le_of_ble_eq_true rfl) (Nat.le_of_ble_eq_true rfl) ?_
    refine lv_goto (tgt := 22) hx hb dX4_made_18 (by decide) ?_
    refine tk_r hH hS hA (tr_V (n := 1) (As := [.ref v15]) hx hb hml hown hts hkb hH hOX hks hE hS hA (s_Wall_cutL l D cs kf T15 O X d v15 nv15 t_d t_v15 b_v15 (hO.sub (by decide))) kw_750 kw_751 kw_752 kw_5 kw_753 (by decide +kernel) ⟨Nat.le_of_ble_eq_true rfl, Nat.le_of_ble_eq_true rfl⟩ (HT.recv (ci := 9) hkb hH t_d (hO.no t_d (by decide)) rfl) rfl rfl hl.1 (Nat.le_of_ble_eq_true rfl) dX4_made_22 ⟨Nat.le_of_ble_eq_true rfl, Nat.le_of_ble_eq_true rfl⟩) (fun v22 u H locs hz9 hH hS => ?_)
    obtain ⟨T22, le_T22, rfl, ⟨hv22, gv22, t_v22⟩⟩ := hz9
    have t_a0 := le_T22.1 _ _ t_a0
    have t_d := le_T22.1 _ _ t_d
    have t_v12 := le_T22.1 _ _ t_v12
    have t_v15 := le_T22.1 _ _ t_v15
    have hO := okO.le le_T22.1 hO
    have hH : HT D cs A T22 O X H := hH
    refine W.widen (k := 10) (n := 1001) (Nat.le_of_ble_eq_true rfl) (Nat.le_of_ble_eq_true rfl) ?_
    exact te_r hx hb hr hlocks hH hS (⟨T22, (Tgr.tr le_T15 le_T22), rfl, ⟨_, _, t_v22⟩⟩) dX4_made_25
theorem dX0_begunOver_0 : decode cX0_begunOver 0 = .ok (.iconst 0, 1) := by decide +kernel
theorem dX0_begunOver_1 : decode cX0_begunOver 1 = .ok (.istore 4, 2) := by decide +kernel
theorem dX0_begunOver_3 : decode cX0_begunOver 3 = .ok (.iconst 1, 1) := by decide +kernel
theorem dX0_begunOver_4 : decode cX0_begunOver 4 = .ok (.iload_n 2, 1) := by decide +kernel
theorem dX0_begunOver_5 : decode cX0_begunOver 5 = .ok (.invokestatic 37, 3) := by decide +kernel
theorem dX0_begunOver_8 : decode cX0_begunOver 8 = .ok (.ishl, 1) := by decide +kernel
theorem dX0_begunOver_9 : decode cX0_begunOver 9 = .ok (.istore 5, 2) := by decide +kernel
theorem dX0_begunOver_11 : decode cX0_begunOver 11 = .ok (.iconst 0, 1) := by decide +kernel
theorem dX0_begunOver_12 : decode cX0_begunOver 12 = .ok (.istore 6, 2) := by decide +kernel
theorem dX0_begunOver_14 : decode cX0_begunOver 14 = .ok (.iconst 0, 1) := by decide +kernel
theorem dX0_begunOver_15 : decode cX0_begunOver 15 = .ok (.istore 7, 2) := by decide +kernel
theorem dX0_begunOver_17 : decode cX0_begunOver 17 = .ok (.iload 7, 2) := by decide +kernel
theorem dX0_begunOver_19 : decode cX0_begunOver 19 = .ok (.iload 5, 2) := by decide +kernel
theorem dX0_begunOver_21 : decode cX0_begunOver 21 = .ok (.if_icmp .ge 59, 3) := by decide +kernel
theorem dX0_begunOver_24 : decode cX0_begunOver 24 = .ok (.iload_n 1, 1) := by decide +kernel
theorem dX0_begunOver_25 : decode cX0_begunOver 25 = .ok (.iload 6, 2) := by decide +kernel
theorem dX0_begunOver_27 : decode cX0_begunOver 27 = .ok (.ior, 1) := by decide +kernel
theorem dX0_begunOver_28 : decode cX0_begunOver 28 = .ok (.istore 8, 2) := by decide +kernel
theorem dX0_begunOver_30 : decode cX0_begunOver 30 = .ok (.iload 8, 2) := by decide +kernel
theorem dX0_begunOver_32 : decode cX0_begunOver 32 = .ok (.invokestatic 37, 3) := by decide +kernel
theorem dX0_begunOver_35 : decode cX0_begunOver 35 = .ok (.iload_n 3, 1) := by decide +kernel
theorem dX0_begunOver_36 : decode cX0_begunOver 36 = .ok (.if_icmp .ne 30, 3) := by decide +kernel
theorem dX0_begunOver_39 : decode cX0_begunOver 39 = .ok (.iload 8, 2) := by decide +kernel
theorem dX0_begunOver_41 : decode cX0_begunOver 41 = .ok (.ifCond .lt 25, 3) := by decide +kernel
theorem dX0_begunOver_44 : decode cX0_begunOver 44 = .ok (.iload 8, 2) := by decide +kernel
theorem dX0_begunOver_46 : decode cX0_begunOver 46 = .ok (.aload_n 0, 1) := by decide +kernel
theorem dX0_begunOver_47 : decode cX0_begunOver 47 = .ok (.getfield 9, 3) := by decide +kernel
theorem dX0_begunOver_50 : decode cX0_begunOver 50 = .ok (.arraylength, 1) := by decide +kernel
theorem dX0_begunOver_51 : decode cX0_begunOver 51 = .ok (.if_icmp .ge 15, 3) := by decide +kernel
theorem dX0_begunOver_54 : decode cX0_begunOver 54 = .ok (.iload 4, 2) := by decide +kernel
theorem dX0_begunOver_56 : decode cX0_begunOver 56 = .ok (.aload_n 0, 1) := by decide +kernel
theorem dX0_begunOver_57 : decode cX0_begunOver 57 = .ok (.getfield 9, 3) := by decide +kernel
theorem dX0_begunOver_60 : decode cX0_begunOver 60 = .ok (.iload 8, 2) := by decide +kernel
theorem dX0_begunOver_62 : decode cX0_begunOver 62 = .ok (.iaload, 1) := by decide +kernel
theorem dX0_begunOver_63 : decode cX0_begunOver 63 = .ok (.ior, 1) := by decide +kernel
theorem dX0_begunOver_64 : decode cX0_begunOver 64 = .ok (.istore 4, 2) := by decide +kernel
theorem dX0_begunOver_66 : decode cX0_begunOver 66 = .ok (.iload 6, 2) := by decide +kernel
theorem dX0_begunOver_68 : decode cX0_begunOver 68 = .ok (.iload_n 2, 1) := by decide +kernel
theorem dX0_begunOver_69 : decode cX0_begunOver 69 = .ok (.isub, 1) := by decide +kernel
theorem dX0_begunOver_70 : decode cX0_begunOver 70 = .ok (.iload_n 2, 1) := by decide +kernel
theorem dX0_begunOver_71 : decode cX0_begunOver 71 = .ok (.iand, 1) := by decide +kernel
theorem dX0_begunOver_72 : decode cX0_begunOver 72 = .ok (.istore 6, 2) := by decide +kernel
theorem dX0_begunOver_74 : decode cX0_begunOver 74 = .ok (.iinc 7 1, 3) := by decide +kernel
theorem dX0_begunOver_77 : decode cX0_begunOver 77 = .ok (.goto (-60), 3) := by decide +kernel
theorem dX0_begunOver_80 : decode cX0_begunOver 80 = .ok (.iload 4, 2) := by decide +kernel
theorem dX0_begunOver_82 : decode cX0_begunOver 82 = .ok (.ireturn, 1) := by decide +kernel
theorem dX0_growFrom_0 : decode cX0_growFrom 0 = .ok (.aload_n 0, 1) := by decide +kernel
theorem dX0_growFrom_1 : decode cX0_growFrom 1 = .ok (.getfield 9, 3) := by decide +kernel
theorem dX0_growFrom_4 : decode cX0_growFrom 4 = .ok (.iload_n 1, 1) := by decide +kernel
theorem dX0_growFrom_5 : decode cX0_growFrom 5 = .ok (.iaload, 1) := by decide +kernel
theorem dX0_growFrom_6 : decode cX0_growFrom 6 = .ok (.istore_n 2, 1) := by decide +kernel
theorem dX0_growFrom_7 : decode cX0_growFrom 7 = .ok (.iconst 0, 1) := by decide +kernel
theorem dX0_growFrom_8 : decode cX0_growFrom 8 = .ok (.istore_n 3, 1) := by decide +kernel
theorem dX0_growFrom_9 : decode cX0_growFrom 9 = .ok (.iload_n 3, 1) := by decide +kernel
theorem dX0_growFrom_10 : decode cX0_growFrom 10 = .ok (.bipush 14, 2) := by decide +kernel
theorem dX0_growFrom_12 : decode cX0_growFrom 12 = .ok (.if_icmp .ge 55, 3) := by decide +kernel
theorem dX0_growFrom_15 : decode cX0_growFrom 15 = .ok (.iload_n 2, 1) := by decide +kernel
theorem dX0_growFrom_16 : decode cX0_growFrom 16 = .ok (.ifCond .eq 51, 3) := by decide +kernel
theorem dX0_growFrom_19 : decode cX0_growFrom 19 = .ok (.aload_n 0, 1) := by decide +kernel
theorem dX0_growFrom_20 : decode cX0_growFrom 20 = .ok (.getfield 15, 3) := by decide +kernel
theorem dX0_growFrom_23 : decode cX0_growFrom 23 = .ok (.iload_n 1, 1) := by decide +kernel
theorem dX0_growFrom_24 : decode cX0_growFrom 24 = .ok (.iconst (-1), 1) := by decide +kernel
theorem dX0_growFrom_25 : decode cX0_growFrom 25 = .ok (.ixor, 1) := by decide +kernel
theorem dX0_growFrom_26 : decode cX0_growFrom 26 = .ok (.iand, 1) := by decide +kernel
theorem dX0_growFrom_27 : decode cX0_growFrom 27 = .ok (.iload_n 3, 1) := by decide +kernel
theorem dX0_growFrom_28 : decode cX0_growFrom 28 = .ok (.ishr, 1) := by decide +kernel
theorem dX0_growFrom_29 : decode cX0_growFrom 29 = .ok (.iconst 1, 1) := by decide +kernel
theorem dX0_growFrom_30 : decode cX0_growFrom 30 = .ok (.iand, 1) := by decide +kernel
theorem dX0_growFrom_31 : decode cX0_growFrom 31 = .ok (.ifCond .eq 30, 3) := by decide +kernel
theorem dX0_growFrom_34 : decode cX0_growFrom 34 = .ok (.aload_n 0, 1) := by decide +kernel
theorem dX0_growFrom_35 : decode cX0_growFrom 35 = .ok (.getfield 19, 3) := by decide +kernel
theorem dX0_growFrom_38 : decode cX0_growFrom 38 = .ok (.iload_n 3, 1) := by decide +kernel
theorem dX0_growFrom_39 : decode cX0_growFrom 39 = .ok (.iaload, 1) := by decide +kernel
theorem dX0_growFrom_40 : decode cX0_growFrom 40 = .ok (.iload_n 2, 1) := by decide +kernel
theorem dX0_growFrom_41 : decode cX0_growFrom 41 = .ok (.iand, 1) := by decide +kernel
theorem dX0_growFrom_42 : decode cX0_growFrom 42 = .ok (.ifCond .eq 19, 3) := by decide +kernel
theorem dX0_growFrom_45 : decode cX0_growFrom 45 = .ok (.aload_n 0, 1) := by decide +kernel
theorem dX0_growFrom_46 : decode cX0_growFrom 46 = .ok (.getfield 9, 3) := by decide +kernel
theorem dX0_growFrom_49 : decode cX0_growFrom 49 = .ok (.iload_n 1, 1) := by decide +kernel
theorem dX0_growFrom_50 : decode cX0_growFrom 50 = .ok (.iconst 1, 1) := by decide +kernel
theorem dX0_growFrom_51 : decode cX0_growFrom 51 = .ok (.iload_n 3, 1) := by decide +kernel
theorem dX0_growFrom_52 : decode cX0_growFrom 52 = .ok (.ishl, 1) := by decide +kernel
theorem dX0_growFrom_53 : decode cX0_growFrom 53 = .ok (.ior, 1) := by decide +kernel
theorem dX0_growFrom_54 : decode cX0_growFrom 54 = .ok (.dup2, 1) := by decide +kernel
theorem dX0_growFrom_55 : decode cX0_growFrom 55 = .ok (.iaload, 1) := by decide +kernel
theorem dX0_growFrom_56 : decode cX0_growFrom 56 = .ok (.iconst 1, 1) := by decide +kernel
theorem dX0_growFrom_57 : decode cX0_growFrom 57 = .ok (.iload_n 3, 1) := by decide +kernel
theorem dX0_growFrom_58 : decode cX0_growFrom 58 = .ok (.ishl, 1) := by decide +kernel
theorem dX0_growFrom_59 : decode cX0_growFrom 59 = .ok (.ior, 1) := by decide +kernel
theorem dX0_growFrom_60 : decode cX0_growFrom 60 = .ok (.iastore, 1) := by decide +kernel
theorem dX0_growFrom_61 : decode cX0_growFrom 61 = .ok (.iinc 3 1, 3) := by decide +kernel
theorem dX0_growFrom_64 : decode cX0_growFrom 64 = .ok (.goto (-55), 3) := by decide +kernel
theorem dX0_growFrom_67 : decode cX0_growFrom 67 = .ok (.return_, 1) := by decide +kernel
theorem dX0_leadingOn_0 : decode cX0_leadingOn 0 = .ok (.iload_n 2, 1) := by decide +kernel
theorem dX0_leadingOn_1 : decode cX0_leadingOn 1 = .ok (.istore_n 3, 1) := by decide +kernel
theorem dX0_leadingOn_2 : decode cX0_leadingOn 2 = .ok (.iconst 1, 1) := by decide +kernel
theorem dX0_leadingOn_3 : decode cX0_leadingOn 3 = .ok (.istore 4, 2) := by decide +kernel
theorem dX0_leadingOn_5 : decode cX0_leadingOn 5 = .ok (.iconst 0, 1) := by decide +kernel
theorem dX0_leadingOn_6 : decode cX0_leadingOn 6 = .ok (.istore 5, 2) := by decide +kernel
theorem dX0_leadingOn_8 : decode cX0_leadingOn 8 = .ok (.iload 5, 2) := by decide +kernel
theorem dX0_leadingOn_10 : decode cX0_leadingOn 10 = .ok (.bipush 14, 2) := by decide +kernel
theorem dX0_leadingOn_12 : decode cX0_leadingOn 12 = .ok (.if_icmp .ge 76, 3) := by decide +kernel
theorem dX0_leadingOn_15 : decode cX0_leadingOn 15 = .ok (.iload 4, 2) := by decide +kernel
theorem dX0_leadingOn_17 : decode cX0_leadingOn 17 = .ok (.ifCond .eq 71, 3) := by decide +kernel
theorem dX0_leadingOn_20 : decode cX0_leadingOn 20 = .ok (.iload_n 3, 1) := by decide +kernel
theorem dX0_leadingOn_21 : decode cX0_leadingOn 21 = .ok (.istore 6, 2) := by decide +kernel
theorem dX0_leadingOn_23 : decode cX0_leadingOn 23 = .ok (.iconst 0, 1) := by decide +kernel
theorem dX0_leadingOn_24 : decode cX0_leadingOn 24 = .ok (.istore 7, 2) := by decide +kernel
theorem dX0_leadingOn_26 : decode cX0_leadingOn 26 = .ok (.iload 7, 2) := by decide +kernel
theorem dX0_leadingOn_28 : decode cX0_leadingOn 28 = .ok (.bipush 14, 2) := by decide +kernel
theorem dX0_leadingOn_30 : decode cX0_leadingOn 30 = .ok (.if_icmp .ge 39, 3) := by decide +kernel
theorem dX0_leadingOn_33 : decode cX0_leadingOn 33 = .ok (.iload_n 1, 1) := by decide +kernel
theorem dX0_leadingOn_34 : decode cX0_leadingOn 34 = .ok (.iload_n 3, 1) := by decide +kernel
theorem dX0_leadingOn_35 : decode cX0_leadingOn 35 = .ok (.iconst (-1), 1) := by decide +kernel
theorem dX0_leadingOn_36 : decode cX0_leadingOn 36 = .ok (.ixor, 1) := by decide +kernel
theorem dX0_leadingOn_37 : decode cX0_leadingOn 37 = .ok (.iand, 1) := by decide +kernel
theorem dX0_leadingOn_38 : decode cX0_leadingOn 38 = .ok (.iload 7, 2) := by decide +kernel
theorem dX0_leadingOn_40 : decode cX0_leadingOn 40 = .ok (.ishr, 1) := by decide +kernel
theorem dX0_leadingOn_41 : decode cX0_leadingOn 41 = .ok (.iconst 1, 1) := by decide +kernel
theorem dX0_leadingOn_42 : decode cX0_leadingOn 42 = .ok (.iand, 1) := by decide +kernel
theorem dX0_leadingOn_43 : decode cX0_leadingOn 43 = .ok (.ifCond .eq 20, 3) := by decide +kernel
theorem dX0_leadingOn_46 : decode cX0_leadingOn 46 = .ok (.aload_n 0, 1) := by decide +kernel
theorem dX0_leadingOn_47 : decode cX0_leadingOn 47 = .ok (.iload 7, 2) := by decide +kernel
theorem dX0_leadingOn_49 : decode cX0_leadingOn 49 = .ok (.iload_n 3, 1) := by decide +kernel
theorem dX0_leadingOn_50 : decode cX0_leadingOn 50 = .ok (.invokevirtual 40, 3) := by decide +kernel
theorem dX0_leadingOn_53 : decode cX0_leadingOn 53 = .ok (.ifCond .eq 10, 3) := by decide +kernel
theorem dX0_leadingOn_56 : decode cX0_leadingOn 56 = .ok (.iload_n 3, 1) := by decide +kernel
theorem dX0_leadingOn_57 : decode cX0_leadingOn 57 = .ok (.iconst 1, 1) := by decide +kernel
theorem dX0_leadingOn_58 : decode cX0_leadingOn 58 = .ok (.iload 7, 2) := by decide +kernel
theorem dX0_leadingOn_60 : decode cX0_leadingOn 60 = .ok (.ishl, 1) := by decide +kernel
theorem dX0_leadingOn_61 : decode cX0_leadingOn 61 = .ok (.ior, 1) := by decide +kernel
theorem dX0_leadingOn_62 : decode cX0_leadingOn 62 = .ok (.istore_n 3, 1) := by decide +kernel
theorem dX0_leadingOn_63 : decode cX0_leadingOn 63 = .ok (.iinc 7 1, 3) := by decide +kernel
theorem dX0_leadingOn_66 : decode cX0_leadingOn 66 = .ok (.goto (-40), 3) := by decide +kernel
theorem dX0_leadingOn_69 : decode cX0_leadingOn 69 = .ok (.iload_n 3, 1) := by decide +kernel
theorem dX0_leadingOn_70 : decode cX0_leadingOn 70 = .ok (.iload 6, 2) := by decide +kernel
theorem dX0_leadingOn_72 : decode cX0_leadingOn 72 = .ok (.if_icmp .eq 7, 3) := by decide +kernel
theorem dX0_leadingOn_75 : decode cX0_leadingOn 75 = .ok (.iconst 1, 1) := by decide +kernel
theorem dX0_leadingOn_76 : decode cX0_leadingOn 76 = .ok (.goto 4, 3) := by decide +kernel
theorem dX0_leadingOn_79 : decode cX0_leadingOn 79 = .ok (.iconst 0, 1) := by decide +kernel
theorem dX0_leadingOn_80 : decode cX0_leadingOn 80 = .ok (.istore 4, 2) := by decide +kernel
theorem dX0_leadingOn_82 : decode cX0_leadingOn 82 = .ok (.iinc 5 1, 3) := by decide +kernel
theorem dX0_leadingOn_85 : decode cX0_leadingOn 85 = .ok (.goto (-77), 3) := by decide +kernel
theorem dX0_leadingOn_88 : decode cX0_leadingOn 88 = .ok (.iload_n 3, 1) := by decide +kernel
theorem dX0_leadingOn_89 : decode cX0_leadingOn 89 = .ok (.iload_n 2, 1) := by decide +kernel
theorem dX0_leadingOn_90 : decode cX0_leadingOn 90 = .ok (.iconst (-1), 1) := by decide +kernel
theorem dX0_leadingOn_91 : decode cX0_leadingOn 91 = .ok (.ixor, 1) := by decide +kernel
theorem dX0_leadingOn_92 : decode cX0_leadingOn 92 = .ok (.iand, 1) := by decide +kernel
theorem dX0_leadingOn_93 : decode cX0_leadingOn 93 = .ok (.ireturn, 1) := by decide +kernel
theorem kw_330 : Cond.fieldLink "FootholdWall$Chains" 9 "FootholdWall$Chains" "heads" "[I" ∈ gw := gw_of (tb_of 330 (by decide +kernel)) (by decide +kernel)
theorem kw_331 : Cond.fieldLink "FootholdWall$Chains" 15 "FootholdWall$Chains" "all" "I" ∈ gw := gw_of (tb_of 331 (by decide +kernel)) (by decide +kernel)
theorem kw_332 : Cond.fieldLink "FootholdWall$Chains" 19 "FootholdWall$Chains" "row" "[I" ∈ gw := gw_of (tb_of 332 (by decide +kernel)) (by decide +kernel)
theorem kw_1075 : Cond.methodLink "FootholdWall$Chains" 40 yX5_stepped ∈ gw := gw_of (tb_of 1075 (by decide +kernel)) (by decide +kernel)
theorem kw_1088 : Cond.methodLink "FootholdWall$Chains" 37 yJ6_bitCount_0f7a4 ∈ gw := gw_of (tb_of 1088 (by decide +kernel)) (by decide +kernel)
set_option maxHeartbeats 4000000 in
set_option maxRecDepth 100000 in
theorem s_Ch_leadingOn (l : Launch) (D : va_G) (cs : CS) (kf : KF) (T : TF) (O : List Nat) (X : va_W) (a0 : Nat) (x1 : Int32) (x2 : Int32) (t_a0 : T a0 = some (15, 0, 0)) (l_x2 : 0 ≤ x2.toInt) (u_x2 : x2.toInt ≤ 16383) (hO : okO T O [1, 12, 15, 19]) : TK l D cs kf yX0_leadingOn cX0_leadingOn 8 (some (.int)) { frames := 4, cells := 0, slots := 0, locals := 101 } [.ref a0, .int x1, .int x2] T O X (Ti D cs (fun r u => u = (T, O, X) ∧ 0 ≤ r.toInt ∧ r.toInt ≤ 16383)) := by
  refine tk_of (by decide) (Nat.le_of_ble_eq_true rfl) (fun p e s m below meth c ls A H locs hx hb hr hml hown hts hlocks hnm hkb hH hS hA hOX hks hE hl => ?_)
  have hown : s.vm.findClass RX0 = some m.cls := hown
  have hl : lv_has ls 8 [(0, .ref a0), (1, .int x1), (2, .int x2)] := hl
  refine lv_iload_n hx hb dX0_leadingOn_0 rfl (lv_at hl 2 rfl) ?_
  refine lv_istore_n (lv' := [(3, .int x2), (0, .ref a0), (1, .int x1), (2, .int x2)]) hx hb dX0_leadingOn_1 rfl hl (by decide) rfl (fun ls hl => ?_)
  refine lv_iconst (v := 1) hx hb dX0_leadingOn_2 (by decide) ?_
  refine lv_istore (lv' := [(4, .int 1), (3, .int x2), (0, .ref a0), (1, .int x1), (2, .int x2)]) hx hb dX0_leadingOn_3 hl (by decide) rfl (fun ls hl => ?_)
  refine lv_iconst (v := 0) hx hb dX0_leadingOn_5 (by decide) ?_
  have J8 : ∀ (n : Nat) (p8_5 : Int32) (p8_4 : Int32) (p8_3 : Int32) (H : Heap) (locs : List Loc) (ls : Array Slot), (14 - p8_5.toInt).toNat = n → (0 ≤ p8_5.toInt) → (p8_5.toInt ≤ 14) → (0 ≤ p8_4.toInt) → (p8_4.toInt ≤ 1) → (0 ≤ p8_3.toInt) → (p8_3.toInt ≤ 16383) → HT D cs A T O X H → va_S A s.heap H locs → lv_has ls 8 [(5, .int p8_5), (4, .int p8_4), (3, .int p8_3), (0, .ref a0), (1, .int x1), (2, .int x2)] → W p l e { frames := 4, cells := 0, slots := 0, locals := 101 } s m [.ref a0, .int x1, .int x2].toArray below meth c H locs 0 0 (MQ below (Ti D cs (fun r u => u = (T, O, X) ∧ 0 ≤ r.toInt ∧ r.toInt ≤ 16383) A) [.ref a0, .int x1, .int x2].toArray s 0 0 A) (F0 m 8 ls []) := by
    intro n
    induction n using Nat.strongRecOn with
    | _ n ih8 =>
      intro p8_5 p8_4 p8_3 H locs ls hm8 l_p8_5 u_p8_5 l_p8_4 u_p8_4 l_p8_3 u_p8_3 hH hS hl
      refine lv_iload hx hb dX0_leadingOn_8 (lv_at hl 0 rfl) ?_
      refine lv_bipush (v := 14) hx hb dX0_leadingOn_10 (by decide) ?_
      have J88 : ∀  (H : Heap) (locs : List Loc) (ls : Array Slot), HT D cs A T O X H → va_S A s.heap H locs → lv_has ls 8 [(3, .int p8_3), (2, .int x2)] → W p l e { frames := 4, cells := 0, slots := 0, locals := 101 } s m [.ref a0, .int x1, .int x2].toArray below meth c H locs 0 0 (MQ below (Ti D cs (fun r u => u = (T, O, X) ∧ 0 ≤ r.toInt ∧ r.toInt ≤ 16383) A) [.ref a0, .int x1, .int x2].toArray s 0 0 A) (F0 m 88 ls []) := by
        intro  H locs ls  hH hS hl
        refine lv_iload_n hx hb dX0_leadingOn_88 rfl (lv_at hl 0 rfl) ?_
        refine lv_iload_n hx hb dX0_leadingOn_89 rfl (lv_at hl 1 rfl) ?_
        refine lv_iconst (v := (-1)) hx hb dX0_leadingOn_90 (by decide) ?_
        refine lv_ixor hx hb dX0_leadingOn_91 ?_
        refine lv_topi (fun v91 ev91 => ?_)
        refine lv_iand hx hb dX0_leadingOn_92 ?_
        refine lv_topi (fun v92 ev92 => ?_)
        have tv92 : 0 ≤ v92.toInt ∧ v92.toInt ≤ p8_3.toInt := by rw [ev92]; exact and_l (by omega)
        exact te_i hx hb hr hlocks hH hS (⟨rfl, by omega, by omega⟩) dX0_leadingOn_93
      refine lv_icmp_ge (tgt := 88) hx hb dX0_leadingOn_12 (by decide) (fun c12 => ?_) (fun c12 => ?_)
      · skip
        have tc12 := f_ge (k := 14) (by decide) c12
        exact J88  _ _ _  hH hS (lv_sub hl [2, 5] rfl)
      · skip
        have tc12 := f_nge (k := 14) (by decide) c12
        refine lv_iload hx hb dX0_leadingOn_15 (lv_at hl 1 rfl) ?_
        refine lv_if_eq (tgt := 88) hx hb dX0_leadingOn_17 (by decide) (fun c17 => ?_) (fun c17 => ?_)
        · skip
          have tc17 := f_eq (k := 0) (by decide) c17
          exact J88  _ _ _  hH hS (lv_sub hl [2, 5] rfl)
        · skip
          have tc17 := f_ne (k := 0) (by decide) c17
          refine lv_iload_n hx hb dX0_leadingOn_20 rfl (lv_at hl 2 rfl) ?_
          refine lv_istore (lv' := [(6, .int p8_3), (5, .int p8_5), (4, .int p8_4), (3, .int p8_3), (0, .ref a0), (1, .int x1), (2, .int x2)]) hx hb dX0_leadingOn_21 hl (by decide) rfl (fun ls hl => ?_)
          refine lv_iconst (v := 0) hx hb dX0_leadingOn_23 (by decide) ?_
          have J26 : ∀ (n : Nat) (p26_7 : Int32) (p26_3 : Int32) (H : Heap) (locs : List Loc) (ls : Array Slot), (14 - p26_7.toInt).toNat = n → (0 ≤ p26_7.toInt) → (p26_7.toInt ≤ 14) → (0 ≤ p26_3.toInt) → (p26_3.toInt ≤ 16383) → HT D cs A T O X H → va_S A s.heap H locs → lv_has ls 8 [(7, .int p26_7), (6, .int p8_3), (5, .int p8_5), (3, .int p26_3), (0, .ref a0), (1, .int x1), (2, .int x2)] → W p l e { frames := 4, cells := 0, slots := 0, locals := 101 } s m [.ref a0, .int x1, .int x2].toArray below meth c H locs 0 0 (MQ below (Ti D cs (fun r u => u = (T, O, X) ∧ 0 ≤ r.toInt ∧ r.toInt ≤ 16383) A) [.ref a0, .int x1, .int x2].toArray s 0 0 A) (F0 m 26 ls []) := by
            intro n
            induction n using Nat.strongRecOn with
            | _ n ih26 =>
              intro p26_7 p26_3 H locs ls hm26 l_p26_7 u_p26_7 l_p26_3 u_p26_3 hH hS hl
              refine lv_iload hx hb dX0_leadingOn_26 (lv_at hl 0 rfl) ?_
              refine lv_bipush (v := 14) hx hb dX0_leadingOn_28 (by decide) ?_
              refine lv_icmp_ge (tgt := 69) hx hb dX0_leadingOn_30 (by decide) (fun c30 => ?_) (fun c30 => ?_)
              · skip
                have tc30 := f_ge (k := 14) (by decide) c30
                refine lv_iload_n hx hb dX0_leadingOn_69 rfl (lv_at hl 3 rfl) ?_
                refine lv_iload hx hb dX0_leadingOn_70 (lv_at hl 1 rfl) ?_
                have J80 : ∀ (k80_0 : Int32) (H : Heap) (locs : List Loc) (ls : Array Slot), (0 ≤ k80_0.toInt) → (k80_0.toInt ≤ 1) → HT D cs A T O X H → va_S A s.heap H locs → lv_has ls 8 [(5, .int p8_5), (3, .int p26_3), (0, .ref a0), (1, .int x1), (2, .int x2)] → W p l e { frames := 4, cells := 0, slots := 0, locals := 101 } s m [.ref a0, .int x1, .int x2].toArray below meth c H locs 0 0 (MQ below (Ti D cs (fun r u => u = (T, O, X) ∧ 0 ≤ r.toInt ∧ r.toInt ≤ 16383) A) [.ref a0, .int x1, .int x2].toArray s 0 0 A) (F0 m 80 ls [.int k80_0]) := by
                  intro k80_0 H locs ls l_k80_0 u_k80_0 hH hS hl
                  refine lv_istore (lv' := [(4, .int k80_0), (5, .int p8_5), (3, .int p26_3), (0, .ref a0), (1, .int x1), (2, .int x2)]) hx hb dX0_leadingOn_80 hl (by decide) rfl (fun ls hl => ?_)
                  obtain ⟨v82, ev82⟩ : ∃ y : Int32, y = p8_5 + 1 := ⟨_, rfl⟩
                  have tv82 : v82.toInt = p8_5.toInt + (1) := by rw [ev82]; exact add_i rfl (by decide) (by omega) (by omega)
                  refine lv_iinc (v := v82) (lv' := [(5, .int v82), (4, .int k80_0), (3, .int p26_3), (0, .ref a0), (1, .int x1), (2, .int x2)]) hx hb dX0_leadingOn_82 hl (k := 1) rfl (by rw [ev82]; rfl) (by decide) rfl (fun ls hl => ?_)
                  refine lv_goto (tgt := 8) hx hb dX0_leadingOn_85 (by decide) ?_
                  exact ih8 _ (by omega) v82 k80_0 p26_3 _ _ _ rfl (by omega) (by omega) (by omega) (by omega) (by omega) (by omega) hH hS (lv_sub hl [0, 1, 2, 3, 4, 5] rfl)
                refine lv_icmp_eq (tgt := 79) hx hb dX0_leadingOn_72 (by decide) (fun c72 => ?_) (fun c72 => ?_)
                · skip
                  have fuc72 := full_i p26_3
                  have fvc72 := full_i p8_3
                  have tc72 := g_eq c72
                  refine lv_iconst (v := 0) hx hb dX0_leadingOn_79 (by decide) ?_
                  exact J80 0 _ _ _ (by decide) (by decide) hH hS (lv_sub hl [2, 3, 4, 5, 6] rfl)
                · skip
                  have fuc72 := full_i p26_3
                  have fvc72 := full_i p8_3
                  have tc72 := g_ne c72
                  refine lv_iconst (v := 1) hx hb dX0_leadingOn_75 (by decide) ?_
                  refine lv_goto (tgt := 80) hx hb dX0_leadingOn_76 (by decide) ?_
                  exact J80 1 _ _ _ (by decide) (by decide) hH hS (lv_sub hl [2, 3, 4, 5, 6] rfl)
              · skip
                have tc30 := f_nge (k := 14) (by decide) c30
                refine lv_iload_n hx hb dX0_leadingOn_33 rfl (lv_at hl 5 rfl) ?_
                refine lv_iload_n hx hb dX0_leadingOn_34 rfl (lv_at hl 3 rfl) ?_
                refine lv_iconst (v := (-1)) hx hb dX0_leadingOn_35 (by decide) ?_
                refine lv_ixor hx hb dX0_leadingOn_36 ?_
                refine lv_topi (fun v36 ev36 => ?_)
                refine lv_iand hx hb dX0_leadingOn_37 ?_
                refine lv_topi (fun v37 ev37 => ?_)
                refine lv_iload hx hb dX0_leadingOn_38 (lv_at hl 0 rfl) ?_
                refine lv_ishr hx hb dX0_leadingOn_40 ?_
                refine lv_topi (fun v40 ev40 => ?_)
                refine lv_iconst (v := 1) hx hb dX0_leadingOn_41 (by decide) ?_
                refine lv_iand hx hb dX0_leadingOn_42 ?_
                refine lv_topi (fun v42 ev42 => ?_)
                have tv42 : 0 ≤ v42.toInt ∧ v42.toInt ≤ 1 := by rw [ev42]; exact and_r (by decide)
                have J63 : ∀ (p63_3 : Int32) (H : Heap) (locs : List Loc) (ls : Array Slot), (0 ≤ p63_3.toInt) → (p63_3.toInt ≤ 16383) → HT D cs A T O X H → va_S A s.heap H locs → lv_has ls 8 [(7, .int p26_7), (6, .int p8_3), (5, .int p8_5), (3, .int p63_3), (0, .ref a0), (1, .int x1), (2, .int x2)] → W p l e { frames := 4, cells := 0, slots := 0, locals := 101 } s m [.ref a0, .int x1, .int x2].toArray below meth c H locs 0 0 (MQ below (Ti D cs (fun r u => u = (T, O, X) ∧ 0 ≤ r.toInt ∧ r.toInt ≤ 16383) A) [.ref a0, .int x1, .int x2].toArray s 0 0 A) (F0 m 63 ls []) := by
                  intro p63_3 H locs ls l_p63_3 u_p63_3 hH hS hl
                  obtain ⟨v63, ev63⟩ : ∃ y : Int32, y = p26_7 + 1 := ⟨_, rfl⟩
                  have tv63 : v63.toInt = p26_7.toInt + (1) := by rw [ev63]; exact add_i rfl (by decide) (by omega) (by omega)
                  refine lv_iinc (v := v63) (lv' := [(7, .int v63), (6, .int p8_3), (5, .int p8_5), (3, .int p63_3), (0, .ref a0), (1, .int x1), (2, .int x2)]) hx hb dX0_leadingOn_63 hl (k := 0) rfl (by rw [ev63]; rfl) (by decide) rfl (fun ls hl => ?_)
                  refine lv_goto (tgt := 26) hx hb dX0_leadingOn_66 (by decide) ?_
                  exact ih26 _ (by omega) v63 p63_3 _ _ _ rfl (by omega) (by omega) (by omega) (by omega) hH hS (lv_sub hl [0, 1, 2, 3, 4, 5, 6] rfl)
                refine lv_if_eq (tgt := 63) hx hb dX0_leadingOn_43 (by decide) (fun c43 => ?_) (fun c43 => ?_)
                · skip
                  have tc43 := f_eq (k := 0) (by decide) c43
                  exact J63 p26_3 _ _ _ (by omega) (by omega) hH hS (lv_sub hl [0, 1, 2, 3, 4, 5, 6] rfl)
                · skip
                  have tc43 := f_ne (k := 0) (by decide) c43
                  refine lv_aload_n hx hb dX0_leadingOn_46 rfl (lv_at hl 4 rfl) ?_
                  refine lv_iload hx hb dX0_leadingOn_47 (lv_at hl 0 rfl) ?_
                  refine lv_iload_n hx hb dX0_leadingOn_49 rfl (lv_at hl 3 rfl) ?_
                  refine tk_i hH hS hA (tr_V (n := 2) (As := [.int p26_7, .int p26_3]) hx hb hml hown hts hkb hH hOX hks hE hS hA (s_Rows_stepped l D cs kf T O X a0 p26_7 p26_3 t_a0 (hO.sub (by decide))) kw_1075 kw_863 kw_864 kw_8 kw_865 (by decide +kernel) ⟨Nat.le_of_ble_eq_true rfl, Nat.le_of_ble_eq_true rfl⟩ (HT.recv (ci := 5) hkb hH t_a0 (hO.no t_a0 (by decide)) rfl) rfl rfl hl.1 (Nat.le_of_ble_eq_true rfl) dX0_leadingOn_50 ⟨Nat.le_of_ble_eq_true rfl, Nat.le_of_ble_eq_true rfl⟩) (fun v50 u H locs hz9 hH hS => ?_)
                  obtain ⟨rfl, l_v50, u_v50⟩ := hz9
                  have hH : HT D cs A T O X H := hH
                  refine W.widen (k := 0) (n := 0) (Nat.le_of_ble_eq_true rfl) (Nat.le_of_ble_eq_true rfl) ?_
                  refine lv_if_eq (tgt := 63) hx hb dX0_leadingOn_53 (by decide) (fun c53 => ?_) (fun c53 => ?_)
                  · skip
                    have tc53 := f_eq (k := 0) (by decide) c53
                    exact J63 p26_3 _ _ _ (by omega) (by omega) hH hS (lv_sub hl [0, 1, 2, 3, 4, 5, 6] rfl)
                  · skip
                    have tc53 := f_ne (k := 0) (by decide) c53
                    refine lv_iload_n hx hb dX0_leadingOn_56 rfl (lv_at hl 3 rfl) ?_
                    refine lv_iconst (v := 1) hx hb dX0_leadingOn_57 (by decide) ?_
                    refine lv_iload hx hb dX0_leadingOn_58 (lv_at hl 0 rfl) ?_
                    refine lv_ishl hx hb dX0_leadingOn_60 ?_
                    refine lv_topi (fun v60 ev60 => ?_)
                    have tv60 : 1 ≤ v60.toInt ∧ v60.toInt ≤ 8192 := by rw [ev60]; exact shl_b 13 (by decide) (by omega) (by omega)
                    refine lv_ior hx hb dX0_leadingOn_61 ?_
                    refine lv_topi (fun v61 ev61 => ?_)
                    have tv61 : 0 ≤ v61.toInt ∧ v61.toInt < 16384 := by rw [ev61]; exact or_b 14 (by decide) (by omega) (by omega) (by omega) (by omega)
                    refine lv_istore_n (lv' := [(3, .int v61), (7, .int p26_7), (6, .int p8_3), (5, .int p8_5), (0, .ref a0), (1, .int x1), (2, .int x2)]) hx hb dX0_leadingOn_62 rfl hl (by decide) rfl (fun ls hl => ?_)
                    exact J63 v61 _ _ _ (by omega) (by omega) hH hS (lv_sub hl [1, 2, 3, 0, 4, 5, 6] rfl)
          refine lv_istore (lv' := [(7, .int 0), (6, .int p8_3), (5, .int p8_5), (4, .int p8_4), (3, .int p8_3), (0, .ref a0), (1, .int x1), (2, .int x2)]) hx hb dX0_leadingOn_24 hl (by decide) rfl (fun ls hl => ?_)
          exact J26 _ 0 p8_3 _ _ _ rfl (by decide) (by decide) (by omega) (by omega) hH hS (lv_sub hl [0, 1, 2, 4, 5, 6, 7] rfl)
  refine lv_istore (lv' := [(5, .int 0), (4, .int 1), (3, .int x2), (0, .ref a0), (1, .int x1), (2, .int x2)]) hx hb dX0_leadingOn_6 hl (by decide) rfl (fun ls hl => ?_)
  exact J8 _ 0 1 x2 _ _ _ rfl (by decide) (by decide) (by decide) (by decide) (by omega) (by omega) hH hS (lv_sub hl [0, 1, 2, 3, 4, 5] rfl)
set_option maxHeartbeats 4000000 in
set_option maxRecDepth 100000 in
theorem s_Ch_growFrom (l : Launch) (D : va_G) (cs : CS) (kf : KF) (T : TF) (O : List Nat) (X : va_W) (a0 : Nat) (x1 : Int32) (y0 : Nat) (y1 : Int32) (y2 : Nat) (y3 : Nat) (nn j gq : Nat) (t_a0 : T a0 = some (10, gq, 0)) (l_x1 : 0 ≤ x1.toInt) (u_x1 : x1.toInt ≤ 16383) (t_y0 : T y0 = some (1, nn, 0)) (l_y1 : 0 ≤ y1.toInt) (u_y1 : y1.toInt ≤ 16383) (t_y2 : T y2 = some (1, 14, 1)) (t_y3 : T y3 = some (1, 14, 0)) (hn : nn = 2 ^ j) (hj : j ≤ 14) (h1 : x1.toInt < nn) (h2 : y1.toInt < nn) (hO : okO T (a0 :: O) [1]) : TK l D cs kf yX0_growFrom cX0_growFrom 4 none { frames := 0, cells := 0, slots := 0, locals := 0 } [.ref a0, .int x1] T (a0 :: O) ((a0, .inr (0, [.ref y0, .int y1, .ref y2, .ref y3])) :: X) (Tv D cs (fun u => u = (T, a0 :: O, (a0, .inr (0, [.ref y0, .int y1, .ref y2, .ref y3])) :: X))) := by
  refine tk_of (by decide) (Nat.le_of_ble_eq_true rfl) (fun p e s m below meth c ls A H locs hx hb hr hml hown hts hlocks hnm hkb hH hS hA hOX hks hE hl => ?_)
  have hown : s.vm.findClass RX0 = some m.cls := hown
  have hl : lv_has ls 4 [(0, .ref a0), (1, .int x1)] := hl
  have hOXf := hOX
  have hnb := p2_le hn hj
  refine lv_aload_n hx hb dX0_growFrom_0 rfl (lv_at hl 0 rfl) ?_
  refine x_getk (ci := 0) (C := RX0) (F := TX0) (N := 4) (v := .ref y0) hx hb hts uX0 hown hkb hH 0 rfl rfl 0 (by decide) rfl kw_330 (fun _ h9 => h9) dX0_growFrom_1 ?_
  refine lv_iload_n hx hb dX0_growFrom_4 rfl (lv_at hl 1 rfl) ?_
  refine t_ild hx hb hkb hH t_y0 (hO.no t_y0 (by decide)) (by omega) (by omega) dX0_growFrom_5 (fun v5 h9 => ?_)
  refine lv_istore_n (lv' := [(2, .int v5), (0, .ref a0), (1, .int x1)]) hx hb dX0_growFrom_6 rfl hl (by decide) rfl (fun ls hl => ?_)
  refine lv_iconst (v := 0) hx hb dX0_growFrom_7 (by decide) ?_
  have J9 : ∀ (n : Nat) (p9_3 : Int32) (H : Heap) (locs : List Loc) (ls : Array Slot), (14 - p9_3.toInt).toNat = n → (0 ≤ p9_3.toInt) → (p9_3.toInt ≤ 14) → HT D cs A T (a0 :: O) ((a0, .inr (0, [.ref y0, .int y1, .ref y2, .ref y3])) :: X) H → va_S A s.heap H locs → lv_has ls 4 [(3, .int p9_3), (2, .int v5), (0, .ref a0), (1, .int x1)] → W p l e { frames := 0, cells := 0, slots := 0, locals := 0 } s m [.ref a0, .int x1].toArray below meth c H locs 0 0 (MQ below (Tv D cs (fun u => u = (T, a0 :: O, (a0, .inr (0, [.ref y0, .int y1, .ref y2, .ref y3])) :: X)) A) [.ref a0, .int x1].toArray s 0 0 A) (F0 m 9 ls []) := by
    intro n
    induction n using Nat.strongRecOn with
    | _ n ih9 =>
      intro p9_3 H locs ls hm9 l_p9_3 u_p9_3 hH hS hl
      refine lv_iload_n hx hb dX0_growFrom_9 rfl (lv_at hl 0 rfl) ?_
      refine lv_bipush (v := 14) hx hb dX0_growFrom_10 (by decide) ?_
      have J67 : ∀  (H : Heap) (locs : List Loc) (ls : Array Slot), HT D cs A T (a0 :: O) ((a0, .inr (0, [.ref y0, .int y1, .ref y2, .ref y3])) :: X) H → va_S A s.heap H locs → lv_has ls 4 [] → W p l e { frames := 0, cells := 0, slots := 0, locals := 0 } s m [.ref a0, .int x1].toArray below meth c H locs 0 0 (MQ below (Tv D cs (fun u => u = (T, a0 :: O, (a0, .inr (0, [.ref y0, .int y1, .ref y2, .ref y3])) :: X)) A) [.ref a0, .int x1].toArray s 0 0 A) (F0 m 67 ls []) := by
        intro  H locs ls  hH hS hl
        exact te_v hx hb hr hlocks hH hS (rfl) dX0_growFrom_67
      refine lv_icmp_ge (tgt := 67) hx hb dX0_growFrom_12 (by decide) (fun c12 => ?_) (fun c12 => ?_)
      · skip
        have tc12 := f_ge (k := 14) (by decide) c12
        exact J67  _ _ _  hH hS (lv_sub hl [] rfl)
      · skip
        have tc12 := f_nge (k := 14) (by decide) c12
        refine lv_iload_n hx hb dX0_growFrom_15 rfl (lv_at hl 1 rfl) ?_
        refine lv_if_eq (tgt := 67) hx hb dX0_growFrom_16 (by decide) (fun c16 => ?_) (fun c16 => ?_)
        · skip
          have tc16 := f_eq (k := 0) (by decide) c16
          exact J67  _ _ _  hH hS (lv_sub hl [] rfl)
        · skip
          have tc16 := f_ne (k := 0) (by decide) c16
          refine lv_aload_n hx hb dX0_growFrom_19 rfl (lv_at hl 2 rfl) ?_
          refine x_getk (ci := 0) (C := RX0) (F := TX0) (N := 4) (v := .int y1) hx hb hts uX0 hown hkb hH 0 rfl rfl 1 (by decide) rfl kw_331 (fun _ h9 => h9) dX0_growFrom_20 ?_
          refine lv_iload_n hx hb dX0_growFrom_23 rfl (lv_at hl 3 rfl) ?_
          refine lv_iconst (v := (-1)) hx hb dX0_growFrom_24 (by decide) ?_
          refine lv_ixor hx hb dX0_growFrom_25 ?_
          refine lv_topi (fun v25 ev25 => ?_)
          refine lv_iand hx hb dX0_growFrom_26 ?_
          refine lv_topi (fun v26 ev26 => ?_)
          have tv26 : 0 ≤ v26.toInt ∧ v26.toInt ≤ y1.toInt := by rw [ev26]; exact and_l (by omega)
          refine lv_iload_n hx hb dX0_growFrom_27 rfl (lv_at hl 0 rfl) ?_
          refine lv_ishr hx hb dX0_growFrom_28 ?_
          refine lv_topi (fun v28 ev28 => ?_)
          have tv28 : 0 ≤ v28.toInt ∧ v28.toInt ≤ v26.toInt := by rw [ev28]; exact shr_b (by omega)
          refine lv_iconst (v := 1) hx hb dX0_growFrom_29 (by decide) ?_
          refine lv_iand hx hb dX0_growFrom_30 ?_
          refine lv_topi (fun v30 ev30 => ?_)
          have tv30 : 0 ≤ v30.toInt ∧ v30.toInt ≤ 1 := by rw [ev30]; exact and_r (by decide)
          have J61 : ∀  (H : Heap) (locs : List Loc) (ls : Array Slot), HT D cs A T (a0 :: O) ((a0, .inr (0, [.ref y0, .int y1, .ref y2, .ref y3])) :: X) H → va_S A s.heap H locs → lv_has ls 4 [(3, .int p9_3), (2, .int v5), (0, .ref a0), (1, .int x1)] → W p l e { frames := 0, cells := 0, slots := 0, locals := 0 } s m [.ref a0, .int x1].toArray below meth c H locs 0 0 (MQ below (Tv D cs (fun u => u = (T, a0 :: O, (a0, .inr (0, [.ref y0, .int y1, .ref y2, .ref y3])) :: X)) A) [.ref a0, .int x1].toArray s 0 0 A) (F0 m 61 ls []) := by
            intro  H locs ls  hH hS hl
            obtain ⟨v61, ev61⟩ : ∃ y : Int32, y = p9_3 + 1 := ⟨_, rfl⟩
            have tv61 : v61.toInt = p9_3.toInt + (1) := by rw [ev61]; exact add_i rfl (by decide) (by omega) (by omega)
            refine lv_iinc (v := v61) (lv' := [(3, .int v61), (2, .int v5), (0, .ref a0), (1, .int x1)]) hx hb dX0_growFrom_61 hl (k := 0) rfl (by rw [ev61]; rfl) (by decide) rfl (fun ls hl => ?_)
            refine lv_goto (tgt := 9) hx hb dX0_growFrom_64 (by decide) ?_
            exact ih9 _ (by omega) v61 _ _ _ rfl (by omega) (by omega) hH hS (lv_sub hl [0, 1, 2, 3] rfl)
          refine lv_if_eq (tgt := 61) hx hb dX0_growFrom_31 (by decide) (fun c31 => ?_) (fun c31 => ?_)
          · skip
            have tc31 := f_eq (k := 0) (by decide) c31
            exact J61  _ _ _  hH hS (lv_sub hl [0, 1, 2, 3] rfl)
          · skip
            have tc31 := f_ne (k := 0) (by decide) c31
            have hb9 := bit_le (by omega) (by omega) (by omega) ev28 ev30 (by omega)
            refine lv_aload_n hx hb dX0_growFrom_34 rfl (lv_at hl 2 rfl) ?_
            refine x_getk (ci := 0) (C := RX0) (F := TX0) (N := 4) (v := .ref y2) hx hb hts uX0 hown hkb hH 0 rfl rfl 2 (by decide) rfl kw_332 (fun _ h9 => h9) dX0_growFrom_35 ?_
            refine lv_iload_n hx hb dX0_growFrom_38 rfl (lv_at hl 0 rfl) ?_
            refine t_ild hx hb hkb hH t_y2 (hO.no t_y2 (by decide)) (by omega) (by omega) dX0_growFrom_39 (fun v39 h9 => ?_)
            have tv39 : 0 ≤ v39.toInt ∧ v39.toInt ≤ 16383 := h9
            refine lv_iload_n hx hb dX0_growFrom_40 rfl (lv_at hl 1 rfl) ?_
            refine lv_iand hx hb dX0_growFrom_41 ?_
            refine lv_topi (fun v41 ev41 => ?_)
            have tv41 : 0 ≤ v41.toInt ∧ v41.toInt ≤ v39.toInt := by rw [ev41]; exact and_l (by omega)
            refine lv_if_eq (tgt := 61) hx hb dX0_growFrom_42 (by decide) (fun c42 => ?_) (fun c42 => ?_)
            · skip
              have tc42 := f_eq (k := 0) (by decide) c42
              exact J61  _ _ _  hH hS (lv_sub hl [0, 1, 2, 3] rfl)
            · skip
              have tc42 := f_ne (k := 0) (by decide) c42
              refine lv_aload_n hx hb dX0_growFrom_45 rfl (lv_at hl 2 rfl) ?_
              refine x_getk (ci := 0) (C := RX0) (F := TX0) (N := 4) (v := .ref y0) hx hb hts uX0 hown hkb hH 0 rfl rfl 0 (by decide) rfl kw_330 (fun _ h9 => h9) dX0_growFrom_46 ?_
              refine lv_iload_n hx hb dX0_growFrom_49 rfl (lv_at hl 3 rfl) ?_
              refine lv_iconst (v := 1) hx hb dX0_growFrom_50 (by decide) ?_
              refine lv_iload_n hx hb dX0_growFrom_51 rfl (lv_at hl 0 rfl) ?_
              refine lv_ishl hx hb dX0_growFrom_52 ?_
              refine lv_topi (fun v52 ev52 => ?_)
              have tv52 : 1 ≤ v52.toInt ∧ v52.toInt ≤ 8192 := by rw [ev52]; exact shl_b 13 (by decide) (by omega) (by omega)
              refine lv_ior hx hb dX0_growFrom_53 ?_
              refine lv_topi (fun v53 ev53 => ?_)
              have tv53 : 0 ≤ v53.toInt ∧ v53.toInt < 16384 := by rw [ev53]; exact or_b 14 (by decide) (by omega) (by omega) (by omega) (by omega)
              rw [← ev52] at hb9
              have ho9 := or_b j (by omega) (x := x1) (y := v52) (by omega) (by omega) (by have := hn; exact_mod_cast (show x1.toInt < ((2 ^ j : Nat) : Int) by omega)) (by have := hn; exact_mod_cast (show v52.toInt < ((2 ^ j : Nat) : Int) by omega))
              have ho8 : v53.toInt < nn := by
                have q9 := ho9.2
                rw [← ev53] at q9
                have e8 : ((2 ^ j : Nat) : Int) = 2 ^ j := by norm_cast
                omega
              refine lv_dup2_11 hx hb dX0_growFrom_54 rfl rfl ?_
              refine t_ild hx hb hkb hH t_y0 (hO.no t_y0 (by decide)) (by omega) (by omega) dX0_growFrom_55 (fun v55 h9 => ?_)
              refine lv_iconst (v := 1) hx hb dX0_growFrom_56 (by decide) ?_
              refine lv_iload_n hx hb dX0_growFrom_57 rfl (lv_at hl 0 rfl) ?_
              refine lv_ishl hx hb dX0_growFrom_58 ?_
              refine lv_topi (fun v58 ev58 => ?_)
              have tv58 : 1 ≤ v58.toInt ∧ v58.toInt ≤ 8192 := by rw [ev58]; exact shl_b 13 (by decide) (by omega) (by omega)
              refine lv_ior hx hb dX0_growFrom_59 ?_
              refine lv_topi (fun v59 ev59 => ?_)
              refine t_ist hx hb hkb hH hS t_y0 (hO.no t_y0 (by decide)) (by omega) (by omega) (cp_0 _) dX0_growFrom_60 (fun H locs hH hS => ?_)
              exact J61  _ _ _  hH hS (lv_sub hl [0, 1, 2, 3] rfl)
  refine lv_istore_n (lv' := [(3, .int 0), (2, .int v5), (0, .ref a0), (1, .int x1)]) hx hb dX0_growFrom_8 rfl hl (by decide) rfl (fun ls hl => ?_)
  exact J9 _ 0 _ _ _ rfl (by decide) (by decide) hH hS (lv_sub hl [0, 1, 2, 3] rfl)
set_option maxHeartbeats 4000000 in
set_option maxRecDepth 100000 in
theorem s_Ch_begunOver (l : Launch) (D : va_G) (cs : CS) (kf : KF) (T : TF) (O : List Nat) (X : va_W) (a0 : Nat) (x1 : Int32) (x2 : Int32) (x3 : Int32) (y0 : Nat) (y1 : Int32) (y2 : Nat) (y3 : Nat) (nn j gq : Nat) (t_a0 : T a0 = some (10, gq, 0)) (t_y0 : T y0 = some (1, nn, 0)) (l_y1 : 0 ≤ y1.toInt) (u_y1 : y1.toInt ≤ 16383) (t_y2 : T y2 = some (1, 14, 1)) (t_y3 : T y3 = some (1, 14, 0)) (hn : nn = 2 ^ j) (hj : j ≤ 14) (hO : okO T (a0 :: O) [1]) : TK l D cs kf yX0_begunOver cX0_begunOver 9 (some (.int)) { frames := 1, cells := 0, slots := 0, locals := 20 } [.ref a0, .int x1, .int x2, .int x3] T (a0 :: O) ((a0, .inr (0, [.ref y0, .int y1, .ref y2, .ref y3])) :: X) (Ti D cs (fun r u => u = (T, a0 :: O, (a0, .inr (0, [.ref y0, .int y1, .ref y2, .ref y3])) :: X))) := by
  refine tk_of (by decide) (Nat.le_of_ble_eq_true rfl) (fun p e s m below meth c ls A H locs hx hb hr hml hown hts hlocks hnm hkb hH hS hA hOX hks hE hl => ?_)
  have hown : s.vm.findClass RX0 = some m.cls := hown
  have hl : lv_has ls 9 [(0, .ref a0), (1, .int x1), (2, .int x2), (3, .int x3)] := hl
  have hOXf := hOX
  have hnb := p2_le hn hj
  refine lv_iconst (v := 0) hx hb dX0_begunOver_0 (by decide) ?_
  refine lv_istore (lv' := [(4, .int 0), (0, .ref a0), (1, .int x1), (2, .int x2), (3, .int x3)]) hx hb dX0_begunOver_1 hl (by decide) rfl (fun ls hl => ?_)
  refine lv_iconst (v := 1) hx hb dX0_begunOver_3 (by decide) ?_
  refine lv_iload_n hx hb dX0_begunOver_4 rfl (lv_at hl 3 rfl) ?_
  refine tk_i hH hS hA (tr_S (n := 1) (As := [.int x2]) hx hb hml hown hts hkb hH (ox_map hOX rfl) hks hE hS hA (s_bitCount l D cs kf T (a0 :: O) ((a0, .inr (0, [.ref y0, .int y1, .ref y2, .ref y3])) :: X) x2  (hO.sub (by decide))) kw_1088 kw_692 kw_20 kw_693 (by decide +kernel) ⟨Nat.le_of_ble_eq_true rfl, Nat.le_of_ble_eq_true rfl⟩ rfl rfl hl.1 (Nat.le_of_ble_eq_true rfl) dX0_begunOver_5 ⟨Nat.le_of_ble_eq_true rfl, Nat.le_of_ble_eq_true rfl⟩) (fun v5 u H locs hz9 hH hS => ?_)
  obtain ⟨rfl, l_v5, u_v5⟩ := hz9
  have hH : HT D cs A T (a0 :: O) ((a0, .inr (0, [.ref y0, .int y1, .ref y2, .ref y3])) :: X) H := hH
  refine W.widen (k := 0) (n := 0) (Nat.le_of_ble_eq_true rfl) (Nat.le_of_ble_eq_true rfl) ?_
  refine lv_ishl hx hb dX0_begunOver_8 ?_
  refine lv_topi (fun v8 ev8 => ?_)
  refine lv_istore (lv' := [(5, .int v8), (4, .int 0), (0, .ref a0), (1, .int x1), (2, .int x2), (3, .int x3)]) hx hb dX0_begunOver_9 hl (by decide) rfl (fun ls hl => ?_)
  refine lv_iconst (v := 0) hx hb dX0_begunOver_11 (by decide) ?_
  refine lv_istore (lv' := [(6, .int 0), (5, .int v8), (4, .int 0), (0, .ref a0), (1, .int x1), (2, .int x2), (3, .int x3)]) hx hb dX0_begunOver_12 hl (by decide) rfl (fun ls hl => ?_)
  refine lv_iconst (v := 0) hx hb dX0_begunOver_14 (by decide) ?_
  have J17 : ∀ (n : Nat) (p17_7 : Int32) (p17_6 : Int32) (p17_4 : Int32) (H : Heap) (locs : List Loc) (ls : Array Slot), (2147483647 - p17_7.toInt).toNat = n → (0 ≤ p17_7.toInt) → HT D cs A T (a0 :: O) ((a0, .inr (0, [.ref y0, .int y1, .ref y2, .ref y3])) :: X) H → va_S A s.heap H locs → lv_has ls 9 [(7, .int p17_7), (6, .int p17_6), (5, .int v8), (4, .int p17_4), (0, .ref a0), (1, .int x1), (2, .int x2), (3, .int x3)] → W p l e { frames := 1, cells := 0, slots := 0, locals := 20 } s m [.ref a0, .int x1, .int x2, .int x3].toArray below meth c H locs 0 0 (MQ below (Ti D cs (fun r u => u = (T, a0 :: O, (a0, .inr (0, [.ref y0, .int y1, .ref y2, .ref y3])) :: X)) A) [.ref a0, .int x1, .int x2, .int x3].toArray s 0 0 A) (F0 m 17 ls []) := by
    intro n
    induction n using Nat.strongRecOn with
    | _ n ih17 =>
      intro p17_7 p17_6 p17_4 H locs ls hm17 l_p17_7 hH hS hl
      refine lv_iload hx hb dX0_begunOver_17 (lv_at hl 0 rfl) ?_
      refine lv_iload hx hb dX0_begunOver_19 (lv_at hl 2 rfl) ?_
      refine lv_icmp_ge (tgt := 80) hx hb dX0_begunOver_21 (by decide) (fun c21 => ?_) (fun c21 => ?_)
      · skip
        have fuc21 := full_i p17_7
        have fvc21 := full_i v8
        have tc21 := g_le c21
        refine lv_iload hx hb dX0_begunOver_80 (lv_at hl 3 rfl) ?_
        exact te_i hx hb hr hlocks hH hS (rfl) dX0_begunOver_82
      · skip
        have fuc21 := full_i p17_7
        have fvc21 := full_i v8
        have tc21 := g_nle c21
        refine lv_iload_n hx hb dX0_begunOver_24 rfl (lv_at hl 5 rfl) ?_
        refine lv_iload hx hb dX0_begunOver_25 (lv_at hl 1 rfl) ?_
        refine lv_ior hx hb dX0_begunOver_27 ?_
        refine lv_topi (fun v27 ev27 => ?_)
        refine lv_istore (lv' := [(8, .int v27), (7, .int p17_7), (6, .int p17_6), (5, .int v8), (4, .int p17_4), (0, .ref a0), (1, .int x1), (2, .int x2), (3, .int x3)]) hx hb dX0_begunOver_28 hl (by decide) rfl (fun ls hl => ?_)
        refine lv_iload hx hb dX0_begunOver_30 (lv_at hl 0 rfl) ?_
        refine tk_i hH hS hA (tr_S (n := 1) (As := [.int v27]) hx hb hml hown hts hkb hH (ox_map hOX rfl) hks hE hS hA (s_bitCount l D cs kf T (a0 :: O) ((a0, .inr (0, [.ref y0, .int y1, .ref y2, .ref y3])) :: X) v27  (hO.sub (by decide))) kw_1088 kw_692 kw_20 kw_693 (by decide +kernel) ⟨Nat.le_of_ble_eq_true rfl, Nat.le_of_ble_eq_true rfl⟩ rfl rfl hl.1 (Nat.le_of_ble_eq_true rfl) dX0_begunOver_32 ⟨Nat.le_of_ble_eq_true rfl, Nat.le_of_ble_eq_true rfl⟩) (fun v32 u H locs hz9 hH hS => ?_)
        obtain ⟨rfl, l_v32, u_v32⟩ := hz9
        have hH : HT D cs A T (a0 :: O) ((a0, .inr (0, [.ref y0, .int y1, .ref y2, .ref y3])) :: X) H := hH
        refine W.widen (k := 0) (n := 0) (Nat.le_of_ble_eq_true rfl) (Nat.le_of_ble_eq_true rfl) ?_
        refine lv_iload_n hx hb dX0_begunOver_35 rfl (lv_at hl 8 rfl) ?_
        have J66 : ∀ (p66_4 : Int32) (H : Heap) (locs : List Loc) (ls : Array Slot), HT D cs A T (a0 :: O) ((a0, .inr (0, [.ref y0, .int y1, .ref y2, .ref y3])) :: X) H → va_S A s.heap H locs → lv_has ls 9 [(7, .int p17_7), (6, .int p17_6), (5, .int v8), (4, .int p66_4), (0, .ref a0), (1, .int x1), (2, .int x2), (3, .int x3)] → W p l e { frames := 1, cells := 0, slots := 0, locals := 20 } s m [.ref a0, .int x1, .int x2, .int x3].toArray below meth c H locs 0 0 (MQ below (Ti D cs (fun r u => u = (T, a0 :: O, (a0, .inr (0, [.ref y0, .int y1, .ref y2, .ref y3])) :: X)) A) [.ref a0, .int x1, .int x2, .int x3].toArray s 0 0 A) (F0 m 66 ls []) := by
          intro p66_4 H locs ls  hH hS hl
          refine lv_iload hx hb dX0_begunOver_66 (lv_at hl 1 rfl) ?_
          refine lv_iload_n hx hb dX0_begunOver_68 rfl (lv_at hl 6 rfl) ?_
          refine lv_isub hx hb dX0_begunOver_69 ?_
          refine lv_topi (fun v69 ev69 => ?_)
          refine lv_iload_n hx hb dX0_begunOver_70 rfl (lv_at hl 6 rfl) ?_
          refine lv_iand hx hb dX0_begunOver_71 ?_
          refine lv_topi (fun v71 ev71 => ?_)
          refine lv_istore (lv' := [(6, .int v71), (7, .int p17_7), (5, .int v8), (4, .int p66_4), (0, .ref a0), (1, .int x1), (2, .int x2), (3, .int x3)]) hx hb dX0_begunOver_72 hl (by decide) rfl (fun ls hl => ?_)
          obtain ⟨v74, ev74⟩ : ∃ y : Int32, y = p17_7 + 1 := ⟨_, rfl⟩
          have tv74 : v74.toInt = p17_7.toInt + (1) := by rw [ev74]; exact add_i rfl (by decide) (by omega) (by omega)
          refine lv_iinc (v := v74) (lv' := [(7, .int v74), (6, .int v71), (5, .int v8), (4, .int p66_4), (0, .ref a0), (1, .int x1), (2, .int x2), (3, .int x3)]) hx hb dX0_begunOver_74 hl (k := 1) rfl (by rw [ev74]; rfl) (by decide) rfl (fun ls hl => ?_)
          refine lv_goto (tgt := 17) hx hb dX0_begunOver_77 (by decide) ?_
          exact ih17 _ (by omega) v74 v71 p66_4 _ _ _ rfl (by omega) hH hS (lv_sub hl [0, 1, 2, 3, 4, 5, 6, 7] rfl)
        refine lv_icmp_ne (tgt := 66) hx hb dX0_begunOver_36 (by decide) (fun c36 => ?_) (fun c36 => ?_)
        · skip
          have fuc36 := full_i v32
          have fvc36 := full_i x3
          have tc36 := g_ne c36
          exact J66 p17_4 _ _ _  hH hS (lv_sub hl [1, 2, 3, 4, 5, 6, 7, 8] rfl)
        · skip
          have fuc36 := full_i v32
          have fvc36 := full_i x3
          have tc36 := g_eq c36
          refine lv_iload hx hb dX0_begunOver_39 (lv_at hl 0 rfl) ?_
          refine lv_if_lt (tgt := 66) hx hb dX0_begunOver_41 (by decide) (fun c41 => ?_) (fun c41 => ?_)
          · skip
            have tc41 := f_lt (k := 0) (by decide) c41
            exact J66 p17_4 _ _ _  hH hS (lv_sub hl [1, 2, 3, 4, 5, 6, 7, 8] rfl)
          · skip
            have tc41 := f_nlt (k := 0) (by decide) c41
            refine lv_iload hx hb dX0_begunOver_44 (lv_at hl 0 rfl) ?_
            refine lv_aload_n hx hb dX0_begunOver_46 rfl (lv_at hl 5 rfl) ?_
            refine x_getk (ci := 0) (C := RX0) (F := TX0) (N := 4) (v := .ref y0) hx hb hts uX0 hown hkb hH 0 rfl rfl 0 (by decide) rfl kw_330 (fun _ h9 => h9) dX0_begunOver_47 ?_
            refine t_len1 hx hb hkb hH t_y0 (hO.no t_y0 (by decide)) dX0_begunOver_50 ?_
            have e_nn : (nI nn).toInt = nn := nI_toInt (by omega)
            refine lv_icmp_ge (tgt := 66) hx hb dX0_begunOver_51 (by decide) (fun c51 => ?_) (fun c51 => ?_)
            · skip
              have fuc51 := full_i v27
              have fvc51 := full_i (nI nn)
              have tc51 := g_le c51
              exact J66 p17_4 _ _ _  hH hS (lv_sub hl [1, 2, 3, 4, 5, 6, 7, 8] rfl)
            · skip
              have fuc51 := full_i v27
              have fvc51 := full_i (nI nn)
              have tc51 := g_nle c51
              refine lv_iload hx hb dX0_begunOver_54 (lv_at hl 4 rfl) ?_
              refine lv_aload_n hx hb dX0_begunOver_56 rfl (lv_at hl 5 rfl) ?_
              refine x_getk (ci := 0) (C := RX0) (F := TX0) (N := 4) (v := .ref y0) hx hb hts uX0 hown hkb hH 0 rfl rfl 0 (by decide) rfl kw_330 (fun _ h9 => h9) dX0_begunOver_57 ?_
              refine lv_iload hx hb dX0_begunOver_60 (lv_at hl 0 rfl) ?_
              refine t_ild hx hb hkb hH t_y0 (hO.no t_y0 (by decide)) (by omega) (by omega) dX0_begunOver_62 (fun v62 h9 => ?_)
              refine lv_ior hx hb dX0_begunOver_63 ?_
              refine lv_topi (fun v63 ev63 => ?_)
              refine lv_istore (lv' := [(4, .int v63), (8, .int v27), (7, .int p17_7), (6, .int p17_6), (5, .int v8), (0, .ref a0), (1, .int x1), (2, .int x2), (3, .int x3)]) hx hb dX0_begunOver_64 hl (by decide) rfl (fun ls hl => ?_)
              exact J66 v63 _ _ _  hH hS (lv_sub hl [2, 3, 4, 0, 5, 6, 7, 8] rfl)
  refine lv_istore (lv' := [(7, .int 0), (6, .int 0), (5, .int v8), (4, .int 0), (0, .ref a0), (1, .int x1), (2, .int x2), (3, .int x3)]) hx hb dX0_begunOver_15 hl (by decide) rfl (fun ls hl => ?_)
  exact J17 _ 0 0 0 _ _ _ rfl (by decide) hH hS (lv_sub hl [0, 1, 2, 3, 4, 5, 6, 7] rfl)
theorem dX0_prepare_0 : decode cX0_prepare 0 = .ok (.aload_n 0, 1) := by decide +kernel
theorem dX0_prepare_1 : decode cX0_prepare 1 = .ok (.iload_n 2, 1) := by decide +kernel
theorem dX0_prepare_2 : decode cX0_prepare 2 = .ok (.putfield 15, 3) := by decide +kernel
theorem dX0_prepare_5 : decode cX0_prepare 5 = .ok (.iconst 1, 1) := by decide +kernel
theorem dX0_prepare_6 : decode cX0_prepare 6 = .ok (.iconst 2, 1) := by decide +kernel
theorem dX0_prepare_7 : decode cX0_prepare 7 = .ok (.aload_n 0, 1) := by decide +kernel
theorem dX0_prepare_8 : decode cX0_prepare 8 = .ok (.getfield 15, 3) := by decide +kernel
theorem dX0_prepare_11 : decode cX0_prepare 11 = .ok (.invokestatic 25, 3) := by decide +kernel
theorem dX0_prepare_14 : decode cX0_prepare 14 = .ok (.imul, 1) := by decide +kernel
theorem dX0_prepare_15 : decode cX0_prepare 15 = .ok (.invokestatic 31, 3) := by decide +kernel
theorem dX0_prepare_18 : decode cX0_prepare 18 = .ok (.istore 4, 2) := by decide +kernel
theorem dX0_prepare_20 : decode cX0_prepare 20 = .ok (.aload_n 0, 1) := by decide +kernel
theorem dX0_prepare_21 : decode cX0_prepare 21 = .ok (.getfield 9, 3) := by decide +kernel
theorem dX0_prepare_24 : decode cX0_prepare 24 = .ok (.arraylength, 1) := by decide +kernel
theorem dX0_prepare_25 : decode cX0_prepare 25 = .ok (.iload 4, 2) := by decide +kernel
theorem dX0_prepare_27 : decode cX0_prepare 27 = .ok (.if_icmp .ge 11, 3) := by decide +kernel
theorem dX0_prepare_30 : decode cX0_prepare 30 = .ok (.aload_n 0, 1) := by decide +kernel
theorem dX0_prepare_31 : decode cX0_prepare 31 = .ok (.iload 4, 2) := by decide +kernel
theorem dX0_prepare_33 : decode cX0_prepare 33 = .ok (.newarray .int, 2) := by decide +kernel
theorem dX0_prepare_35 : decode cX0_prepare 35 = .ok (.putfield 9, 3) := by decide +kernel
theorem dX0_prepare_38 : decode cX0_prepare 38 = .ok (.iconst 1, 1) := by decide +kernel
theorem dX0_prepare_39 : decode cX0_prepare 39 = .ok (.aload_n 0, 1) := by decide +kernel
theorem dX0_prepare_40 : decode cX0_prepare 40 = .ok (.getfield 15, 3) := by decide +kernel
theorem dX0_prepare_43 : decode cX0_prepare 43 = .ok (.invokestatic 37, 3) := by decide +kernel
theorem dX0_prepare_46 : decode cX0_prepare 46 = .ok (.ishl, 1) := by decide +kernel
theorem dX0_prepare_47 : decode cX0_prepare 47 = .ok (.istore 5, 2) := by decide +kernel
theorem dX0_prepare_49 : decode cX0_prepare 49 = .ok (.iconst 0, 1) := by decide +kernel
theorem dX0_prepare_50 : decode cX0_prepare 50 = .ok (.istore 6, 2) := by decide +kernel
theorem dX0_prepare_52 : decode cX0_prepare 52 = .ok (.iconst 0, 1) := by decide +kernel
theorem dX0_prepare_53 : decode cX0_prepare 53 = .ok (.istore 7, 2) := by decide +kernel
theorem dX0_prepare_55 : decode cX0_prepare 55 = .ok (.iload 7, 2) := by decide +kernel
theorem dX0_prepare_57 : decode cX0_prepare 57 = .ok (.iload 5, 2) := by decide +kernel
theorem dX0_prepare_59 : decode cX0_prepare 59 = .ok (.if_icmp .ge 31, 3) := by decide +kernel
theorem dX0_prepare_62 : decode cX0_prepare 62 = .ok (.aload_n 0, 1) := by decide +kernel
theorem dX0_prepare_63 : decode cX0_prepare 63 = .ok (.getfield 9, 3) := by decide +kernel
theorem dX0_prepare_66 : decode cX0_prepare 66 = .ok (.iload 6, 2) := by decide +kernel
theorem dX0_prepare_68 : decode cX0_prepare 68 = .ok (.iconst 0, 1) := by decide +kernel
theorem dX0_prepare_69 : decode cX0_prepare 69 = .ok (.iastore, 1) := by decide +kernel
theorem dX0_prepare_70 : decode cX0_prepare 70 = .ok (.iload 6, 2) := by decide +kernel
theorem dX0_prepare_72 : decode cX0_prepare 72 = .ok (.aload_n 0, 1) := by decide +kernel
theorem dX0_prepare_73 : decode cX0_prepare 73 = .ok (.getfield 15, 3) := by decide +kernel
theorem dX0_prepare_76 : decode cX0_prepare 76 = .ok (.isub, 1) := by decide +kernel
theorem dX0_prepare_77 : decode cX0_prepare 77 = .ok (.aload_n 0, 1) := by decide +kernel
theorem dX0_prepare_78 : decode cX0_prepare 78 = .ok (.getfield 15, 3) := by decide +kernel
theorem dX0_prepare_81 : decode cX0_prepare 81 = .ok (.iand, 1) := by decide +kernel
theorem dX0_prepare_82 : decode cX0_prepare 82 = .ok (.istore 6, 2) := by decide +kernel
theorem dX0_prepare_84 : decode cX0_prepare 84 = .ok (.iinc 7 1, 3) := by decide +kernel
theorem dX0_prepare_87 : decode cX0_prepare 87 = .ok (.goto (-32), 3) := by decide +kernel
theorem dX0_prepare_90 : decode cX0_prepare 90 = .ok (.iconst 0, 1) := by decide +kernel
theorem dX0_prepare_91 : decode cX0_prepare 91 = .ok (.istore 7, 2) := by decide +kernel
theorem dX0_prepare_93 : decode cX0_prepare 93 = .ok (.iload 7, 2) := by decide +kernel
theorem dX0_prepare_95 : decode cX0_prepare 95 = .ok (.bipush 14, 2) := by decide +kernel
theorem dX0_prepare_97 : decode cX0_prepare 97 = .ok (.if_icmp .ge 65, 3) := by decide +kernel
theorem dX0_prepare_100 : decode cX0_prepare 100 = .ok (.aload_n 0, 1) := by decide +kernel
theorem dX0_prepare_101 : decode cX0_prepare 101 = .ok (.getfield 15, 3) := by decide +kernel
theorem dX0_prepare_104 : decode cX0_prepare 104 = .ok (.iload 7, 2) := by decide +kernel
theorem dX0_prepare_106 : decode cX0_prepare 106 = .ok (.ishr, 1) := by decide +kernel
theorem dX0_prepare_107 : decode cX0_prepare 107 = .ok (.iconst 1, 1) := by decide +kernel
theorem dX0_prepare_108 : decode cX0_prepare 108 = .ok (.iand, 1) := by decide +kernel
theorem dX0_prepare_109 : decode cX0_prepare 109 = .ok (.ifCond .eq 47, 3) := by decide +kernel
theorem dX0_prepare_112 : decode cX0_prepare 112 = .ok (.aload_n 0, 1) := by decide +kernel
theorem dX0_prepare_113 : decode cX0_prepare 113 = .ok (.getfield 19, 3) := by decide +kernel
theorem dX0_prepare_116 : decode cX0_prepare 116 = .ok (.iload 7, 2) := by decide +kernel
theorem dX0_prepare_118 : decode cX0_prepare 118 = .ok (.aload_n 1, 1) := by decide +kernel
theorem dX0_prepare_119 : decode cX0_prepare 119 = .ok (.iload 7, 2) := by decide +kernel
theorem dX0_prepare_121 : decode cX0_prepare 121 = .ok (.aload_n 0, 1) := by decide +kernel
theorem dX0_prepare_122 : decode cX0_prepare 122 = .ok (.getfield 15, 3) := by decide +kernel
theorem dX0_prepare_125 : decode cX0_prepare 125 = .ok (.invokevirtual 40, 3) := by decide +kernel
theorem dX0_prepare_128 : decode cX0_prepare 128 = .ok (.iastore, 1) := by decide +kernel
theorem dX0_prepare_129 : decode cX0_prepare 129 = .ok (.aload_n 0, 1) := by decide +kernel
theorem dX0_prepare_130 : decode cX0_prepare 130 = .ok (.getfield 9, 3) := by decide +kernel
theorem dX0_prepare_133 : decode cX0_prepare 133 = .ok (.iconst 1, 1) := by decide +kernel
theorem dX0_prepare_134 : decode cX0_prepare 134 = .ok (.iload 7, 2) := by decide +kernel
theorem dX0_prepare_136 : decode cX0_prepare 136 = .ok (.ishl, 1) := by decide +kernel
theorem dX0_prepare_137 : decode cX0_prepare 137 = .ok (.aload_n 1, 1) := by decide +kernel
theorem dX0_prepare_138 : decode cX0_prepare 138 = .ok (.iload 7, 2) := by decide +kernel
theorem dX0_prepare_140 : decode cX0_prepare 140 = .ok (.iload_n 3, 1) := by decide +kernel
theorem dX0_prepare_141 : decode cX0_prepare 141 = .ok (.invokevirtual 40, 3) := by decide +kernel
theorem dX0_prepare_144 : decode cX0_prepare 144 = .ok (.ifCond .eq 10, 3) := by decide +kernel
theorem dX0_prepare_147 : decode cX0_prepare 147 = .ok (.iconst 1, 1) := by decide +kernel
theorem dX0_prepare_148 : decode cX0_prepare 148 = .ok (.iload 7, 2) := by decide +kernel
theorem dX0_prepare_150 : decode cX0_prepare 150 = .ok (.ishl, 1) := by decide +kernel
theorem dX0_prepare_151 : decode cX0_prepare 151 = .ok (.goto 4, 3) := by decide +kernel
theorem dX0_prepare_154 : decode cX0_prepare 154 = .ok (.iconst 0, 1) := by decide +kernel
theorem dX0_prepare_155 : decode cX0_prepare 155 = .ok (.iastore, 1) := by decide +kernel
theorem dX0_prepare_156 : decode cX0_prepare 156 = .ok (.iinc 7 1, 3) := by decide +kernel
theorem dX0_prepare_159 : decode cX0_prepare 159 = .ok (.goto (-66), 3) := by decide +kernel
theorem dX0_prepare_162 : decode cX0_prepare 162 = .ok (.return_, 1) := by decide +kernel
theorem kw_1080 : Cond.methodLink "FootholdWall$Chains" 25 yJ6_highestOneBit_0f7a4 ∈ gw := gw_of (tb_of 1080 (by decide +kernel)) (by decide +kernel)
theorem kw_1081 : Cond.static yJ6_highestOneBit_0f7a4 ∈ gw := gw_of (tb_of 1081 (by decide +kernel)) (by decide +kernel)
theorem kw_1082 : Cond.code yJ6_highestOneBit_0f7a4 cJ6_highestOneBit_0f7a4 1 (some (.int)) ∈ gw := gw_of (tb_of 1082 (by decide +kernel)) (by decide +kernel)
theorem kw_1087 : Cond.methodLink "FootholdWall$Chains" 31 Lib.Math.max.name ∈ gw := gw_of (tb_of 1087 (by decide +kernel)) (by decide +kernel)
set_option maxHeartbeats 4000000 in
set_option maxRecDepth 100000 in
theorem s_Ch_prepare (l : Launch) (D : va_G) (cs : CS) (kf : KF) (T : TF) (O : List Nat) (X : va_W) (a0 : Nat) (a1 : Nat) (x2 : Int32) (x3 : Int32) (y0 : Nat) (y1 : Int32) (y2 : Nat) (y3 : Nat) (nn j gq : Nat) (t_a0 : T a0 = some (10, gq, 0)) (t_a1 : T a1 = some (15, 0, 0)) (l_x2 : 0 ≤ x2.toInt) (u_x2 : x2.toInt ≤ 16383) (t_y0 : T y0 = some (1, nn, 0)) (l_y1 : 0 ≤ y1.toInt) (u_y1 : y1.toInt ≤ 16383) (t_y2 : T y2 = some (1, 14, 1)) (t_y3 : T y3 = some (1, 14, 0)) (hn : nn = 2 ^ j) (hj : j ≤ 14) (hO : okO T (a0 :: O) [1, 12, 15, 19]) : TKD l D cs kf yX0_prepare cX0_prepare 8 none { frames := 4, cells := 1, slots := 16384, locals := 101 } [.ref a0, .ref a1, .int x2, .int x3] T (a0 :: O) ((a0, .inr (0, [.ref y0, .int y1, .ref y2, .ref y3])) :: X) (fun kk ss => Tv D cs ((fun kk ss u => ∃ T2 : TF, Tgr T T2 ∧ ∃ (n2 : Nat) (j2 : Nat) (n0_0 : Nat) (n0_1 : Int32), u = (T2, a0 :: O, (a0, .inr (0, [.ref n0_0, .int n0_1, .ref y2, .ref y3])) :: X) ∧ (T2 n0_0 = some (1, n2, 0)) ∧ (n2 = 2 ^ j2) ∧ (j ≤ j2) ∧ (j2 ≤ 14) ∧ (0 ≤ n0_1.toInt) ∧ (n0_1.toInt ≤ 16383) ∧ (n0_1.toInt < n2) ∧ (kk + j ≤ j2) ∧ (ss + 16384 * j ≤ 16384 * j2) ∧ (kk ≤ 1) ∧ (ss ≤ 16384)) kk ss)) := by
  refine tkd_of (by decide) (Nat.le_of_ble_eq_true rfl) (fun p e s m below meth c ls A H locs hx hb hr hml hown hts hlocks hnm hkb hH hS hA hOX hks hE hl => ?_)
  have hown : s.vm.findClass RX0 = some m.cls := hown
  have hl : lv_has ls 8 [(0, .ref a0), (1, .ref a1), (2, .int x2), (3, .int x3)] := hl
  have hOXf := hOX
  have hnb := p2_le hn hj
  refine lv_aload_n hx hb dX0_prepare_0 rfl (lv_at hl 0 rfl) ?_
  refine lv_iload_n hx hb dX0_prepare_1 rfl (lv_at hl 2 rfl) ?_
  refine x_putk (ci := 0) (v := .int x2) (ty := tyX0 1) (C := RX0) (F := TX0) (N := 4) hx hb hts uX0 tyX0 tyX0_ok nmX0 hown hkb hH hS 0 rfl rfl 1 (by decide) kw_331 (fun _ h9 => h9) rfl (tyX0_ok 1 (by decide)) rfl rfl (Nat.le_of_ble_eq_true rfl) dX0_prepare_2 (fun H locs hH hS => ?_)
  have hH : HT D cs A T (a0 :: O) ((a0, .inr (0, [.ref y0, .int x2, .ref y2, .ref y3])) :: X) H := hH
  refine lv_iconst (v := 1) hx hb dX0_prepare_5 (by decide) ?_
  refine lv_iconst (v := 2) hx hb dX0_prepare_6 (by decide) ?_
  refine lv_aload_n hx hb dX0_prepare_7 rfl (lv_at hl 0 rfl) ?_
  refine x_getk (ci := 0) (C := RX0) (F := TX0) (N := 4) (v := .int x2) hx hb hts uX0 hown hkb hH 0 rfl rfl 1 (by decide) rfl kw_331 (fun _ h9 => h9) dX0_prepare_8 ?_
  refine tk_i hH hS hA (tr_S (n := 1) (As := [.int x2]) hx hb hml hown hts hkb hH (ox_map hOX rfl) hks hE hS hA (s_hob l D cs kf T (a0 :: O) ((a0, .inr (0, [.ref y0, .int x2, .ref y2, .ref y3])) :: X) x2 (by omega) (by omega) (hO.sub (by decide))) kw_1080 kw_1081 kw_20 kw_1082 (by decide +kernel) ⟨Nat.le_of_ble_eq_true rfl, Nat.le_of_ble_eq_true rfl⟩ rfl rfl hl.1 (Nat.le_of_ble_eq_true rfl) dX0_prepare_11 ⟨by show 0 + 0 ≤ 1; omega, by show 0 + 0 ≤ 16384; omega⟩) (fun v11 u H locs hz9 hH hS => ?_)
  obtain ⟨rfl, l_v11, u_v11, x_v110, x_v111, x_v112⟩ := hz9
  have hH : HT D cs A T (a0 :: O) ((a0, .inr (0, [.ref y0, .int x2, .ref y2, .ref y3])) :: X) H := hH
  refine W.widen (k := 0) (n := 0) (Nat.le_refl _) (Nat.le_refl _) ?_
  refine lv_imul hx hb dX0_prepare_14 ?_
  refine lv_topi (fun v14 ev14 => ?_)
  have tv14 : v14.toInt = (2) * v11.toInt := by rw [ev14]; exact mul_i (by decide : (2 : Int32).toInt = 2) rfl (by omega) (by omega)
  refine va_mmax hx hb (by rw [hml]; exact hl.1.symm) hown (hts _ kw_1087) (hts _ kw_100) (hts _ kw_6) (hts _ kw_101) (Nat.le_of_ble_eq_true rfl) (Nat.le_of_ble_eq_true rfl) (Nat.le_of_ble_eq_true rfl) (Nat.le_of_ble_eq_true rfl) dX0_prepare_15 ?_
  refine lv_topi (fun v15 ev15 => ?_)
  have tv15 : v15.toInt = max (1) v14.toInt := by rw [ev15]; exact max_i (by decide : (1 : Int32).toInt = 1) rfl
  refine lv_istore (lv' := [(4, .int v15), (0, .ref a0), (1, .ref a1), (2, .int x2), (3, .int x3)]) hx hb dX0_prepare_18 hl (by decide) rfl (fun ls hl => ?_)
  refine lv_aload_n hx hb dX0_prepare_20 rfl (lv_at hl 1 rfl) ?_
  refine x_getk (ci := 0) (C := RX0) (F := TX0) (N := 4) (v := .ref y0) hx hb hts uX0 hown hkb hH 0 rfl rfl 0 (by decide) rfl kw_330 (fun _ h9 => h9) dX0_prepare_21 ?_
  refine t_len1 hx hb hkb hH t_y0 (hO.no t_y0 (by decide)) dX0_prepare_24 ?_
  have e_nn : (nI nn).toInt = nn := nI_toInt (by omega)
  refine lv_iload hx hb dX0_prepare_25 (lv_at hl 0 rfl) ?_
  have J38 : ∀ (T38q : TF) (kc38 ks38 : Nat) (f38_100 : Nat) (nf38_100 jf38_100 : Nat) (H : Heap) (locs : List Loc) (ls : Array Slot), Tgr T T38q → (T38q f38_100 = some (1, nf38_100, 0)) → (nf38_100 = 2 ^ jf38_100) → (jf38_100 ≤ 14) → (kc38 + j ≤ jf38_100) → (ks38 + 16384 * j ≤ 16384 * jf38_100) → (x2.toInt < nf38_100) → (kc38 ≤ 1 ∧ ks38 ≤ 16384) → HT D cs A T38q (a0 :: O) ((a0, .inr (0, [.ref f38_100, .int x2, .ref y2, .ref y3])) :: X) H → va_S A s.heap H locs → lv_has ls 8 [(0, .ref a0), (1, .ref a1), (3, .int x3)] → W p l e { frames := 4, cells := 1, slots := 16384, locals := 101 } s m [.ref a0, .ref a1, .int x2, .int x3].toArray below meth c H locs kc38 ks38 (MQD below (fun kk ss => Tv D cs ((fun kk ss u => ∃ T2 : TF, Tgr T T2 ∧ ∃ (n2 : Nat) (j2 : Nat) (n0_0 : Nat) (n0_1 : Int32), u = (T2, a0 :: O, (a0, .inr (0, [.ref n0_0, .int n0_1, .ref y2, .ref y3])) :: X) ∧ (T2 n0_0 = some (1, n2, 0)) ∧ (n2 = 2 ^ j2) ∧ (j ≤ j2) ∧ (j2 ≤ 14) ∧ (0 ≤ n0_1.toInt) ∧ (n0_1.toInt ≤ 16383) ∧ (n0_1.toInt < n2) ∧ (kk + j ≤ j2) ∧ (ss + 16384 * j ≤ 16384 * j2) ∧ (kk ≤ 1) ∧ (ss ≤ 16384)) kk ss) A) [.ref a0, .ref a1, .int x2, .int x3].toArray s A) (F0 m 38 ls []) := by
    intro T38q kc38 ks38 f38_100 nf38_100 jf38_100 H locs ls le_T38q t_f38_100 q_f38_100 qj_f38_100 i38a i38b i38c i38d hH hS hl
    have t_a0 := le_T38q.1 _ _ t_a0
    have t_a1 := le_T38q.1 _ _ t_a1
    have t_y0 := le_T38q.1 _ _ t_y0
    have t_y2 := le_T38q.1 _ _ t_y2
    have t_y3 := le_T38q.1 _ _ t_y3
    have hO := okO.le le_T38q.1 hO
    have qb_f38_100 := p2_le q_f38_100 qj_f38_100
    refine lv_iconst (v := 1) hx hb dX0_prepare_38 (by decide) ?_
    refine lv_aload_n hx hb dX0_prepare_39 rfl (lv_at hl 0 rfl) ?_
    refine x_getk (ci := 0) (C := RX0) (F := TX0) (N := 4) (v := .int x2) hx hb hts uX0 hown hkb hH 0 rfl rfl 1 (by decide) rfl kw_331 (fun _ h9 => h9) dX0_prepare_40 ?_
    refine tk_i hH hS hA (tr_S (n := 1) (As := [.int x2]) hx hb hml hown hts hkb hH (ox_map hOX rfl) hks hE hS hA (s_bitCount l D cs kf T38q (a0 :: O) ((a0, .inr (0, [.ref f38_100, .int x2, .ref y2, .ref y3])) :: X) x2  (hO.sub (by decide))) kw_1088 kw_692 kw_20 kw_693 (by decide +kernel) ⟨Nat.le_of_ble_eq_true rfl, Nat.le_of_ble_eq_true rfl⟩ rfl rfl hl.1 (Nat.le_of_ble_eq_true rfl) dX0_prepare_43 ⟨by show kc38 + 0 ≤ 1; omega, by show ks38 + 0 ≤ 16384; omega⟩) (fun v43 u H locs hz9 hH hS => ?_)
    obtain ⟨rfl, l_v43, u_v43⟩ := hz9
    have hH : HT D cs A T38q (a0 :: O) ((a0, .inr (0, [.ref f38_100, .int x2, .ref y2, .ref y3])) :: X) H := hH
    refine W.widen (k := kc38) (n := ks38) (Nat.le_refl _) (Nat.le_refl _) ?_
    refine lv_ishl hx hb dX0_prepare_46 ?_
    refine lv_topi (fun v46 ev46 => ?_)
    refine lv_istore (lv' := [(5, .int v46), (0, .ref a0), (1, .ref a1), (3, .int x3)]) hx hb dX0_prepare_47 hl (by decide) rfl (fun ls hl => ?_)
    refine lv_iconst (v := 0) hx hb dX0_prepare_49 (by decide) ?_
    refine lv_istore (lv' := [(6, .int 0), (5, .int v46), (0, .ref a0), (1, .ref a1), (3, .int x3)]) hx hb dX0_prepare_50 hl (by decide) rfl (fun ls hl => ?_)
    refine lv_iconst (v := 0) hx hb dX0_prepare_52 (by decide) ?_
    have J55 : ∀ (n : Nat) (p55_7 : Int32) (p55_6 : Int32) (H : Heap) (locs : List Loc) (ls : Array Slot), (2147483647 - p55_7.toInt).toNat = n → (0 ≤ p55_7.toInt) → (0 ≤ p55_6.toInt) → (p55_6.toInt ≤ 16383) → (p55_6.toInt ≤ x2.toInt) → HT D cs A T38q (a0 :: O) ((a0, .inr (0, [.ref f38_100, .int x2, .ref y2, .ref y3])) :: X) H → va_S A s.heap H locs → lv_has ls 8 [(7, .int p55_7), (6, .int p55_6), (5, .int v46), (0, .ref a0), (1, .ref a1), (3, .int x3)] → W p l e { frames := 4, cells := 1, slots := 16384, locals := 101 } s m [.ref a0, .ref a1, .int x2, .int x3].toArray below meth c H locs kc38 ks38 (MQD below (fun kk ss => Tv D cs ((fun kk ss u => ∃ T2 : TF, Tgr T T2 ∧ ∃ (n2 : Nat) (j2 : Nat) (n0_0 : Nat) (n0_1 : Int32), u = (T2, a0 :: O, (a0, .inr (0, [.ref n0_0, .int n0_1, .ref y2, .ref y3])) :: X) ∧ (T2 n0_0 = some (1, n2, 0)) ∧ (n2 = 2 ^ j2) ∧ (j ≤ j2) ∧ (j2 ≤ 14) ∧ (0 ≤ n0_1.toInt) ∧ (n0_1.toInt ≤ 16383) ∧ (n0_1.toInt < n2) ∧ (kk + j ≤ j2) ∧ (ss + 16384 * j ≤ 16384 * j2) ∧ (kk ≤ 1) ∧ (ss ≤ 16384)) kk ss) A) [.ref a0, .ref a1, .int x2, .int x3].toArray s A) (F0 m 55 ls []) := by
      intro n
      induction n using Nat.strongRecOn with
      | _ n ih55 =>
        intro p55_7 p55_6 H locs ls hm55 l_p55_7 l_p55_6 u_p55_6 i55 hH hS hl
        refine lv_iload hx hb dX0_prepare_55 (lv_at hl 0 rfl) ?_
        refine lv_iload hx hb dX0_prepare_57 (lv_at hl 2 rfl) ?_
        refine lv_icmp_ge (tgt := 90) hx hb dX0_prepare_59 (by decide) (fun c59 => ?_) (fun c59 => ?_)
        · skip
          have fuc59 := full_i p55_7
          have fvc59 := full_i v46
          have tc59 := g_le c59
          refine lv_iconst (v := 0) hx hb dX0_prepare_90 (by decide) ?_
          have J93 : ∀ (n : Nat) (p93_7 : Int32) (H : Heap) (locs : List Loc) (ls : Array Slot), (14 - p93_7.toInt).toNat = n → (0 ≤ p93_7.toInt) → (p93_7.toInt ≤ 14) → HT D cs A T38q (a0 :: O) ((a0, .inr (0, [.ref f38_100, .int x2, .ref y2, .ref y3])) :: X) H → va_S A s.heap H locs → lv_has ls 8 [(7, .int p93_7), (0, .ref a0), (1, .ref a1), (3, .int x3)] → W p l e { frames := 4, cells := 1, slots := 16384, locals := 101 } s m [.ref a0, .ref a1, .int x2, .int x3].toArray below meth c H locs kc38 ks38 (MQD below (fun kk ss => Tv D cs ((fun kk ss u => ∃ T2 : TF, Tgr T T2 ∧ ∃ (n2 : Nat) (j2 : Nat) (n0_0 : Nat) (n0_1 : Int32), u = (T2, a0 :: O, (a0, .inr (0, [.ref n0_0, .int n0_1, .ref y2, .ref y3])) :: X) ∧ (T2 n0_0 = some (1, n2, 0)) ∧ (n2 = 2 ^ j2) ∧ (j ≤ j2) ∧ (j2 ≤ 14) ∧ (0 ≤ n0_1.toInt) ∧ (n0_1.toInt ≤ 16383) ∧ (n0_1.toInt < n2) ∧ (kk + j ≤ j2) ∧ (ss + 16384 * j ≤ 16384 * j2) ∧ (kk ≤ 1) ∧ (ss ≤ 16384)) kk ss) A) [.ref a0, .ref a1, .int x2, .int x3].toArray s A) (F0 m 93 ls []) := by
            intro n
            induction n using Nat.strongRecOn with
            | _ n ih93 =>
              intro p93_7 H locs ls hm93 l_p93_7 u_p93_7 hH hS hl
              refine lv_iload hx hb dX0_prepare_93 (lv_at hl 0 rfl) ?_
              refine lv_bipush (v := 14) hx hb dX0_prepare_95 (by decide) ?_
              refine lv_icmp_ge (tgt := 162) hx hb dX0_prepare_97 (by decide) (fun c97 => ?_) (fun c97 => ?_)
              · skip
                have tc97 := f_ge (k := 14) (by decide) c97
                exact te_vD hx hb hr hlocks hH hS (⟨T38q, le_T38q, nf38_100, jf38_100, f38_100, x2, rfl, t_f38_100, q_f38_100, by omega, by omega, by omega, by omega, by omega, by omega, by omega, by omega, by omega⟩) dX0_prepare_162
              · skip
                have tc97 := f_nge (k := 14) (by decide) c97
                refine lv_aload_n hx hb dX0_prepare_100 rfl (lv_at hl 1 rfl) ?_
                refine x_getk (ci := 0) (C := RX0) (F := TX0) (N := 4) (v := .int x2) hx hb hts uX0 hown hkb hH 0 rfl rfl 1 (by decide) rfl kw_331 (fun _ h9 => h9) dX0_prepare_101 ?_
                refine lv_iload hx hb dX0_prepare_104 (lv_at hl 0 rfl) ?_
                refine lv_ishr hx hb dX0_prepare_106 ?_
                refine lv_topi (fun v106 ev106 => ?_)
                have tv106 : 0 ≤ v106.toInt ∧ v106.toInt ≤ x2.toInt := by rw [ev106]; exact shr_b (by omega)
                refine lv_iconst (v := 1) hx hb dX0_prepare_107 (by decide) ?_
                refine lv_iand hx hb dX0_prepare_108 ?_
                refine lv_topi (fun v108 ev108 => ?_)
                have tv108 : 0 ≤ v108.toInt ∧ v108.toInt ≤ 1 := by rw [ev108]; exact and_r (by decide)
                have J156 : ∀  (H : Heap) (locs : List Loc) (ls : Array Slot), HT D cs A T38q (a0 :: O) ((a0, .inr (0, [.ref f38_100, .int x2, .ref y2, .ref y3])) :: X) H → va_S A s.heap H locs → lv_has ls 8 [(7, .int p93_7), (0, .ref a0), (1, .ref a1), (3, .int x3)] → W p l e { frames := 4, cells := 1, slots := 16384, locals := 101 } s m [.ref a0, .ref a1, .int x2, .int x3].toArray below meth c H locs kc38 ks38 (MQD below (fun kk ss => Tv D cs ((fun kk ss u => ∃ T2 : TF, Tgr T T2 ∧ ∃ (n2 : Nat) (j2 : Nat) (n0_0 : Nat) (n0_1 : Int32), u = (T2, a0 :: O, (a0, .inr (0, [.ref n0_0, .int n0_1, .ref y2, .ref y3])) :: X) ∧ (T2 n0_0 = some (1, n2, 0)) ∧ (n2 = 2 ^ j2) ∧ (j ≤ j2) ∧ (j2 ≤ 14) ∧ (0 ≤ n0_1.toInt) ∧ (n0_1.toInt ≤ 16383) ∧ (n0_1.toInt < n2) ∧ (kk + j ≤ j2) ∧ (ss + 16384 * j ≤ 16384 * j2) ∧ (kk ≤ 1) ∧ (ss ≤ 16384)) kk ss) A) [.ref a0, .ref a1, .int x2, .int x3].toArray s A) (F0 m 156 ls []) := by
                  intro  H locs ls  hH hS hl
                  obtain ⟨v156, ev156⟩ : ∃ y : Int32, y = p93_7 + 1 := ⟨_, rfl⟩
                  have tv156 : v156.toInt = p93_7.toInt + (1) := by rw [ev156]; exact add_i rfl (by decide) (by omega) (by omega)
                  refine lv_iinc (v := v156) (lv' := [(7, .int v156), (0, .ref a0), (1, .ref a1), (3, .int x3)]) hx hb dX0_prepare_156 hl (k := 0) rfl (by rw [ev156]; rfl) (by decide) rfl (fun ls hl => ?_)
                  refine lv_goto (tgt := 93) hx hb dX0_prepare_159 (by decide) ?_
                  exact ih93 _ (by omega) v156 _ _ _ rfl (by omega) (by omega) hH hS (lv_sub hl [0, 1, 2, 3] rfl)
                refine lv_if_eq (tgt := 156) hx hb dX0_prepare_109 (by decide) (fun c109 => ?_) (fun c109 => ?_)
                · skip
                  have tc109 := f_eq (k := 0) (by decide) c109
                  exact J156  _ _ _  hH hS (lv_sub hl [0, 1, 2, 3] rfl)
                · skip
                  have tc109 := f_ne (k := 0) (by decide) c109
                  refine lv_aload_n hx hb dX0_prepare_112 rfl (lv_at hl 1 rfl) ?_
                  refine x_getk (ci := 0) (C := RX0) (F := TX0) (N := 4) (v := .ref y2) hx hb hts uX0 hown hkb hH 0 rfl rfl 2 (by decide) rfl kw_332 (fun _ h9 => h9) dX0_prepare_113 ?_
                  refine lv_iload hx hb dX0_prepare_116 (lv_at hl 0 rfl) ?_
                  refine lv_aload_n hx hb dX0_prepare_118 rfl (lv_at hl 2 rfl) ?_
                  refine lv_iload hx hb dX0_prepare_119 (lv_at hl 0 rfl) ?_
                  refine lv_aload_n hx hb dX0_prepare_121 rfl (lv_at hl 1 rfl) ?_
                  refine x_getk (ci := 0) (C := RX0) (F := TX0) (N := 4) (v := .int x2) hx hb hts uX0 hown hkb hH 0 rfl rfl 1 (by decide) rfl kw_331 (fun _ h9 => h9) dX0_prepare_122 ?_
                  refine tk_i hH hS hA (tr_V (n := 2) (As := [.int p93_7, .int x2]) hx hb hml hown hts hkb hH (ox_map hOX rfl) hks hE hS hA (s_Rows_stepped l D cs kf T38q (a0 :: O) ((a0, .inr (0, [.ref f38_100, .int x2, .ref y2, .ref y3])) :: X) a1 p93_7 x2 t_a1 (hO.sub (by decide))) kw_1075 kw_863 kw_864 kw_8 kw_865 (by decide +kernel) ⟨Nat.le_of_ble_eq_true rfl, Nat.le_of_ble_eq_true rfl⟩ (HT.recv (ci := 5) hkb hH t_a1 (hO.no t_a1 (by decide)) rfl) rfl rfl hl.1 (Nat.le_of_ble_eq_true rfl) dX0_prepare_125 ⟨by show kc38 + 0 ≤ 1; omega, by show ks38 + 0 ≤ 16384; omega⟩) (fun v125 u H locs hz9 hH hS => ?_)
                  obtain ⟨rfl, l_v125, u_v125⟩ := hz9
                  have hH : HT D cs A T38q (a0 :: O) ((a0, .inr (0, [.ref f38_100, .int x2, .ref y2, .ref y3])) :: X) H := hH
                  refine W.widen (k := kc38) (n := ks38) (Nat.le_refl _) (Nat.le_refl _) ?_
                  refine t_ist hx hb hkb hH hS t_y2 (hO.no t_y2 (by decide)) (by omega) (by omega) (show 0 ≤ v125.toInt ∧ v125.toInt ≤ 16383 from by omega) dX0_prepare_128 (fun H locs hH hS => ?_)
                  have hb9 := bit_le (by omega) (by omega) (by omega) ev106 ev108 (by omega)
                  refine lv_aload_n hx hb dX0_prepare_129 rfl (lv_at hl 1 rfl) ?_
                  refine x_getk (ci := 0) (C := RX0) (F := TX0) (N := 4) (v := .ref f38_100) hx hb hts uX0 hown hkb hH 0 rfl rfl 0 (by decide) rfl kw_330 (fun _ h9 => h9) dX0_prepare_130 ?_
                  refine lv_iconst (v := 1) hx hb dX0_prepare_133 (by decide) ?_
                  refine lv_iload hx hb dX0_prepare_134 (lv_at hl 0 rfl) ?_
                  refine lv_ishl hx hb dX0_prepare_136 ?_
                  refine lv_topi (fun v136 ev136 => ?_)
                  have tv136 : 1 ≤ v136.toInt ∧ v136.toInt ≤ 8192 := by rw [ev136]; exact shl_b 13 (by decide) (by omega) (by omega)
                  rw [← ev136] at hb9
                  refine lv_aload_n hx hb dX0_prepare_137 rfl (lv_at hl 2 rfl) ?_
                  refine lv_iload hx hb dX0_prepare_138 (lv_at hl 0 rfl) ?_
                  refine lv_iload_n hx hb dX0_prepare_140 rfl (lv_at hl 3 rfl) ?_
                  refine tk_i hH hS hA (tr_V (n := 2) (As := [.int p93_7, .int x3]) hx hb hml hown hts hkb hH (ox_map hOX rfl) hks hE hS hA (s_Rows_stepped l D cs kf T38q (a0 :: O) ((a0, .inr (0, [.ref f38_100, .int x2, .ref y2, .ref y3])) :: X) a1 p93_7 x3 t_a1 (hO.sub (by decide))) kw_1075 kw_863 kw_864 kw_8 kw_865 (by decide +kernel) ⟨Nat.le_of_ble_eq_true rfl, Nat.le_of_ble_eq_true rfl⟩ (HT.recv (ci := 5) hkb hH t_a1 (hO.no t_a1 (by decide)) rfl) rfl rfl hl.1 (Nat.le_of_ble_eq_true rfl) dX0_prepare_141 ⟨by show kc38 + 0 ≤ 1; omega, by show ks38 + 0 ≤ 16384; omega⟩) (fun v141 u H locs hz9 hH hS => ?_)
                  obtain ⟨rfl, l_v141, u_v141⟩ := hz9
                  have hH : HT D cs A T38q (a0 :: O) ((a0, .inr (0, [.ref f38_100, .int x2, .ref y2, .ref y3])) :: X) H := hH
                  refine W.widen (k := kc38) (n := ks38) (Nat.le_refl _) (Nat.le_refl _) ?_
                  have J155 : ∀ (k155_0 : Int32) (H : Heap) (locs : List Loc) (ls : Array Slot), (0 ≤ k155_0.toInt) → (k155_0.toInt ≤ 8192) → HT D cs A T38q (a0 :: O) ((a0, .inr (0, [.ref f38_100, .int x2, .ref y2, .ref y3])) :: X) H → va_S A s.heap H locs → lv_has ls 8 [(7, .int p93_7), (0, .ref a0), (1, .ref a1), (3, .int x3)] → W p l e { frames := 4, cells := 1, slots := 16384, locals := 101 } s m [.ref a0, .ref a1, .int x2, .int x3].toArray below meth c H locs kc38 ks38 (MQD below (fun kk ss => Tv D cs ((fun kk ss u => ∃ T2 : TF, Tgr T T2 ∧ ∃ (n2 : Nat) (j2 : Nat) (n0_0 : Nat) (n0_1 : Int32), u = (T2, a0 :: O, (a0, .inr (0, [.ref n0_0, .int n0_1, .ref y2, .ref y3])) :: X) ∧ (T2 n0_0 = some (1, n2, 0)) ∧ (n2 = 2 ^ j2) ∧ (j ≤ j2) ∧ (j2 ≤ 14) ∧ (0 ≤ n0_1.toInt) ∧ (n0_1.toInt ≤ 16383) ∧ (n0_1.toInt < n2) ∧ (kk + j ≤ j2) ∧ (ss + 16384 * j ≤ 16384 * j2) ∧ (kk ≤ 1) ∧ (ss ≤ 16384)) kk ss) A) [.ref a0, .ref a1, .int x2, .int x3].toArray s A) (F0 m 155 ls [.int k155_0, .int v136, .ref f38_100]) := by
                    intro k155_0 H locs ls l_k155_0 u_k155_0 hH hS hl
                    refine t_ist hx hb hkb hH hS t_f38_100 (hO.no t_f38_100 (by decide)) (by omega) (by omega) (cp_0 _) dX0_prepare_155 (fun H locs hH hS => ?_)
                    exact J156  _ _ _  hH hS (lv_sub hl [0, 1, 2, 3] rfl)
                  refine lv_if_eq (tgt := 154) hx hb dX0_prepare_144 (by decide) (fun c144 => ?_) (fun c144 => ?_)
                  · skip
                    have tc144 := f_eq (k := 0) (by decide) c144
                    refine lv_iconst (v := 0) hx hb dX0_prepare_154 (by decide) ?_
                    exact J155 0 _ _ _ (by decide) (by decide) hH hS (lv_sub hl [0, 1, 2, 3] rfl)
                  · skip
                    have tc144 := f_ne (k := 0) (by decide) c144
                    refine lv_iconst (v := 1) hx hb dX0_prepare_147 (by decide) ?_
                    refine lv_iload hx hb dX0_prepare_148 (lv_at hl 0 rfl) ?_
                    refine lv_ishl hx hb dX0_prepare_150 ?_
                    refine lv_topi (fun v150 ev150 => ?_)
                    have tv150 : 1 ≤ v150.toInt ∧ v150.toInt ≤ 8192 := by rw [ev150]; exact shl_b 13 (by decide) (by omega) (by omega)
                    refine lv_goto (tgt := 155) hx hb dX0_prepare_151 (by decide) ?_
                    exact J155 v150 _ _ _ (by omega) (by omega) hH hS (lv_sub hl [0, 1, 2, 3] rfl)
          refine lv_istore (lv' := [(7, .int 0), (6, .int p55_6), (5, .int v46), (0, .ref a0), (1, .ref a1), (3, .int x3)]) hx hb dX0_prepare_91 hl (by decide) rfl (fun ls hl => ?_)
          exact J93 _ 0 _ _ _ rfl (by decide) (by decide) hH hS (lv_sub hl [0, 3, 4, 5] rfl)
        · skip
          have fuc59 := full_i p55_7
          have fvc59 := full_i v46
          have tc59 := g_nle c59
          refine lv_aload_n hx hb dX0_prepare_62 rfl (lv_at hl 3 rfl) ?_
          refine x_getk (ci := 0) (C := RX0) (F := TX0) (N := 4) (v := .ref f38_100) hx hb hts uX0 hown hkb hH 0 rfl rfl 0 (by decide) rfl kw_330 (fun _ h9 => h9) dX0_prepare_63 ?_
          refine lv_iload hx hb dX0_prepare_66 (lv_at hl 1 rfl) ?_
          refine lv_iconst (v := 0) hx hb dX0_prepare_68 (by decide) ?_
          refine t_ist hx hb hkb hH hS t_f38_100 (hO.no t_f38_100 (by decide)) (by omega) (by omega) (cp_0 _) dX0_prepare_69 (fun H locs hH hS => ?_)
          refine lv_iload hx hb dX0_prepare_70 (lv_at hl 1 rfl) ?_
          refine lv_aload_n hx hb dX0_prepare_72 rfl (lv_at hl 3 rfl) ?_
          refine x_getk (ci := 0) (C := RX0) (F := TX0) (N := 4) (v := .int x2) hx hb hts uX0 hown hkb hH 0 rfl rfl 1 (by decide) rfl kw_331 (fun _ h9 => h9) dX0_prepare_73 ?_
          refine lv_isub hx hb dX0_prepare_76 ?_
          refine lv_topi (fun v76 ev76 => ?_)
          have tv76 : v76.toInt = p55_6.toInt - x2.toInt := by rw [ev76]; exact sub_i rfl rfl (by omega) (by omega)
          refine lv_aload_n hx hb dX0_prepare_77 rfl (lv_at hl 3 rfl) ?_
          refine x_getk (ci := 0) (C := RX0) (F := TX0) (N := 4) (v := .int x2) hx hb hts uX0 hown hkb hH 0 rfl rfl 1 (by decide) rfl kw_331 (fun _ h9 => h9) dX0_prepare_78 ?_
          refine lv_iand hx hb dX0_prepare_81 ?_
          refine lv_topi (fun v81 ev81 => ?_)
          have tv81 : 0 ≤ v81.toInt ∧ v81.toInt ≤ x2.toInt := by rw [ev81]; exact and_r (by omega)
          refine lv_istore (lv' := [(6, .int v81), (7, .int p55_7), (5, .int v46), (0, .ref a0), (1, .ref a1), (3, .int x3)]) hx hb dX0_prepare_82 hl (by decide) rfl (fun ls hl => ?_)
          obtain ⟨v84, ev84⟩ : ∃ y : Int32, y = p55_7 + 1 := ⟨_, rfl⟩
          have tv84 : v84.toInt = p55_7.toInt + (1) := by rw [ev84]; exact add_i rfl (by decide) (by omega) (by omega)
          refine lv_iinc (v := v84) (lv' := [(7, .int v84), (6, .int v81), (5, .int v46), (0, .ref a0), (1, .ref a1), (3, .int x3)]) hx hb dX0_prepare_84 hl (k := 1) rfl (by rw [ev84]; rfl) (by decide) rfl (fun ls hl => ?_)
          refine lv_goto (tgt := 55) hx hb dX0_prepare_87 (by decide) ?_
          exact ih55 _ (by omega) v84 v81 _ _ _ rfl (by omega) (by omega) (by omega) (by omega) hH hS (lv_sub hl [0, 1, 2, 3, 4, 5] rfl)
    refine lv_istore (lv' := [(7, .int 0), (6, .int 0), (5, .int v46), (0, .ref a0), (1, .ref a1), (3, .int x3)]) hx hb dX0_prepare_53 hl (by decide) rfl (fun ls hl => ?_)
    have z_0 : (0 : Int32).toInt = 0 := by decide
    exact J55 _ 0 0 _ _ _ rfl (by decide) (by decide) (by decide) (by omega) hH hS (lv_sub hl [0, 1, 2, 3, 4, 5] rfl)
  refine lv_icmp_ge (tgt := 38) hx hb dX0_prepare_27 (by decide) (fun c27 => ?_) (fun c27 => ?_)
  · skip
    have fuc27 := full_i (nI nn)
    have fvc27 := full_i v15
    have tc27 := g_le c27
    exact J38 T 0 0 y0 nn j _ _ _ Tgr.rf t_y0 hn (by omega) (by omega) (by omega) (by omega) (by omega) hH hS (lv_sub hl [1, 2, 4] rfl)
  · skip
    have fuc27 := full_i (nI nn)
    have fvc27 := full_i v15
    have tc27 := g_nle c27
    obtain ⟨jz, hz1, hz2⟩ := hob_size x_v112 tv14 tv15
    have hzl := p2_lt hn hz2 (by omega)
    refine lv_aload_n hx hb dX0_prepare_30 rfl (lv_at hl 1 rfl) ?_
    refine lv_iload hx hb dX0_prepare_31 (lv_at hl 0 rfl) ?_
    refine t_newI (N' := (v15.toInt.toNat)) (k := 0) hx hb hts kw_92 hkb hH (ox_map hOX rfl) hS hA (by omega) (by omega) (cp_0 _) (by show 0 + 1 ≤ 1; omega) (by show 0 + (v15.toInt.toNat) ≤ 16384; omega) dX0_prepare_33 (fun v33 T33 H le_T33 t_v33 hH hS => ?_)
    have t_a0 := le_T33.1 _ _ t_a0
    have t_a1 := le_T33.1 _ _ t_a1
    have t_y0 := le_T33.1 _ _ t_y0
    have t_y2 := le_T33.1 _ _ t_y2
    have t_y3 := le_T33.1 _ _ t_y3
    have hO := okO.le le_T33.1 hO
    refine x_putk (ci := 0) (v := .ref v33) (ty := tyX0 0) (C := RX0) (F := TX0) (N := 4) hx hb hts uX0 tyX0 tyX0_ok nmX0 hown hkb hH hS 0 rfl rfl 0 (by decide) kw_330 (fun _ h9 => h9) rfl (tyX0_ok 0 (by decide)) rfl rfl (Nat.le_of_ble_eq_true rfl) dX0_prepare_35 (fun H locs hH hS => ?_)
    have hH : HT D cs A T33 (a0 :: O) ((a0, .inr (0, [.ref v33, .int x2, .ref y2, .ref y3])) :: X) H := hH
    exact J38 T33 (0 + 1) (0 + (v15.toInt.toNat)) v33 (v15.toInt.toNat) jz _ _ _ le_T33 t_v33 hz2 (by omega) (by omega) (by omega) (by omega) (by omega) hH hS (lv_sub hl [1, 2, 4] rfl)
theorem dX0_fewest_0 : decode cX0_fewest 0 = .ok (.iload_n 3, 1) := by decide +kernel
theorem dX0_fewest_1 : decode cX0_fewest 1 = .ok (.aload_n 1, 1) := by decide +kernel
theorem dX0_fewest_2 : decode cX0_fewest 2 = .ok (.getfield 48, 3) := by decide +kernel
theorem dX0_fewest_5 : decode cX0_fewest 5 = .ok (.getfield 52, 3) := by decide +kernel
theorem dX0_fewest_8 : decode cX0_fewest 8 = .ok (.iand, 1) := by decide +kernel
theorem dX0_fewest_9 : decode cX0_fewest 9 = .ok (.istore 4, 2) := by decide +kernel
theorem dX0_fewest_11 : decode cX0_fewest 11 = .ok (.iload_n 3, 1) := by decide +kernel
theorem dX0_fewest_12 : decode cX0_fewest 12 = .ok (.aload_n 1, 1) := by decide +kernel
theorem dX0_fewest_13 : decode cX0_fewest 13 = .ok (.getfield 48, 3) := by decide +kernel
theorem dX0_fewest_16 : decode cX0_fewest 16 = .ok (.getfield 57, 3) := by decide +kernel
theorem dX0_fewest_19 : decode cX0_fewest 19 = .ok (.iand, 1) := by decide +kernel
theorem dX0_fewest_20 : decode cX0_fewest 20 = .ok (.istore 5, 2) := by decide +kernel
theorem dX0_fewest_22 : decode cX0_fewest 22 = .ok (.iload_n 2, 1) := by decide +kernel
theorem dX0_fewest_23 : decode cX0_fewest 23 = .ok (.ifCond .ne 13, 3) := by decide +kernel
theorem dX0_fewest_26 : decode cX0_fewest 26 = .ok (.iload 5, 2) := by decide +kernel
theorem dX0_fewest_28 : decode cX0_fewest 28 = .ok (.iload 4, 2) := by decide +kernel
theorem dX0_fewest_30 : decode cX0_fewest 30 = .ok (.iand, 1) := by decide +kernel
theorem dX0_fewest_31 : decode cX0_fewest 31 = .ok (.ifCond .eq 5, 3) := by decide +kernel
theorem dX0_fewest_34 : decode cX0_fewest 34 = .ok (.iconst 0, 1) := by decide +kernel
theorem dX0_fewest_35 : decode cX0_fewest 35 = .ok (.ireturn, 1) := by decide +kernel
theorem dX0_fewest_36 : decode cX0_fewest 36 = .ok (.iload 5, 2) := by decide +kernel
theorem dX0_fewest_38 : decode cX0_fewest 38 = .ok (.iload 4, 2) := by decide +kernel
theorem dX0_fewest_40 : decode cX0_fewest 40 = .ok (.iconst (-1), 1) := by decide +kernel
theorem dX0_fewest_41 : decode cX0_fewest 41 = .ok (.ixor, 1) := by decide +kernel
theorem dX0_fewest_42 : decode cX0_fewest 42 = .ok (.iand, 1) := by decide +kernel
theorem dX0_fewest_43 : decode cX0_fewest 43 = .ok (.istore 6, 2) := by decide +kernel
theorem dX0_fewest_45 : decode cX0_fewest 45 = .ok (.aload_n 1, 1) := by decide +kernel
theorem dX0_fewest_46 : decode cX0_fewest 46 = .ok (.iload 6, 2) := by decide +kernel
theorem dX0_fewest_48 : decode cX0_fewest 48 = .ok (.iload_n 2, 1) := by decide +kernel
theorem dX0_fewest_49 : decode cX0_fewest 49 = .ok (.iload 6, 2) := by decide +kernel
theorem dX0_fewest_51 : decode cX0_fewest 51 = .ok (.ior, 1) := by decide +kernel
theorem dX0_fewest_52 : decode cX0_fewest 52 = .ok (.iload_n 2, 1) := by decide +kernel
theorem dX0_fewest_53 : decode cX0_fewest 53 = .ok (.iload 6, 2) := by decide +kernel
theorem dX0_fewest_55 : decode cX0_fewest 55 = .ok (.ior, 1) := by decide +kernel
theorem dX0_fewest_56 : decode cX0_fewest 56 = .ok (.iload 4, 2) := by decide +kernel
theorem dX0_fewest_58 : decode cX0_fewest 58 = .ok (.ior, 1) := by decide +kernel
theorem dX0_fewest_59 : decode cX0_fewest 59 = .ok (.iconst 0, 1) := by decide +kernel
theorem dX0_fewest_60 : decode cX0_fewest 60 = .ok (.invokevirtual 72, 3) := by decide +kernel
theorem dX0_fewest_63 : decode cX0_fewest 63 = .ok (.istore 7, 2) := by decide +kernel
theorem dX0_fewest_65 : decode cX0_fewest 65 = .ok (.aload_n 1, 1) := by decide +kernel
theorem dX0_fewest_66 : decode cX0_fewest 66 = .ok (.iload 7, 2) := by decide +kernel
theorem dX0_fewest_68 : decode cX0_fewest 68 = .ok (.iload 4, 2) := by decide +kernel
theorem dX0_fewest_70 : decode cX0_fewest 70 = .ok (.iconst (-1), 1) := by decide +kernel
theorem dX0_fewest_71 : decode cX0_fewest 71 = .ok (.ixor, 1) := by decide +kernel
theorem dX0_fewest_72 : decode cX0_fewest 72 = .ok (.iand, 1) := by decide +kernel
theorem dX0_fewest_73 : decode cX0_fewest 73 = .ok (.iload 4, 2) := by decide +kernel
theorem dX0_fewest_75 : decode cX0_fewest 75 = .ok (.iload 7, 2) := by decide +kernel
theorem dX0_fewest_77 : decode cX0_fewest 77 = .ok (.iand, 1) := by decide +kernel
theorem dX0_fewest_78 : decode cX0_fewest 78 = .ok (.invokestatic 60, 3) := by decide +kernel
theorem dX0_fewest_81 : decode cX0_fewest 81 = .ok (.istore 8, 2) := by decide +kernel
theorem dX0_fewest_83 : decode cX0_fewest 83 = .ok (.iload 6, 2) := by decide +kernel
theorem dX0_fewest_85 : decode cX0_fewest 85 = .ok (.iload 8, 2) := by decide +kernel
theorem dX0_fewest_87 : decode cX0_fewest 87 = .ok (.iand, 1) := by decide +kernel
theorem dX0_fewest_88 : decode cX0_fewest 88 = .ok (.istore 6, 2) := by decide +kernel
theorem dX0_fewest_90 : decode cX0_fewest 90 = .ok (.iload 8, 2) := by decide +kernel
theorem dX0_fewest_92 : decode cX0_fewest 92 = .ok (.iload_n 2, 1) := by decide +kernel
theorem dX0_fewest_93 : decode cX0_fewest 93 = .ok (.iand, 1) := by decide +kernel
theorem dX0_fewest_94 : decode cX0_fewest 94 = .ok (.iload_n 2, 1) := by decide +kernel
theorem dX0_fewest_95 : decode cX0_fewest 95 = .ok (.if_icmp .ne 8, 3) := by decide +kernel
theorem dX0_fewest_98 : decode cX0_fewest 98 = .ok (.iload 6, 2) := by decide +kernel
theorem dX0_fewest_100 : decode cX0_fewest 100 = .ok (.ifCond .ne 5, 3) := by decide +kernel
theorem dX0_fewest_103 : decode cX0_fewest 103 = .ok (.iconst (-1), 1) := by decide +kernel
theorem dX0_fewest_104 : decode cX0_fewest 104 = .ok (.ireturn, 1) := by decide +kernel
theorem dX0_fewest_105 : decode cX0_fewest 105 = .ok (.aload_n 0, 1) := by decide +kernel
theorem dX0_fewest_106 : decode cX0_fewest 106 = .ok (.aload_n 1, 1) := by decide +kernel
theorem dX0_fewest_107 : decode cX0_fewest 107 = .ok (.iload 8, 2) := by decide +kernel
theorem dX0_fewest_109 : decode cX0_fewest 109 = .ok (.iload 4, 2) := by decide +kernel
theorem dX0_fewest_111 : decode cX0_fewest 111 = .ok (.invokevirtual 64, 3) := by decide +kernel
theorem dX0_fewest_114 : decode cX0_fewest 114 = .ok (.iconst (-1), 1) := by decide +kernel
theorem dX0_fewest_115 : decode cX0_fewest 115 = .ok (.istore 9, 2) := by decide +kernel
theorem dX0_fewest_117 : decode cX0_fewest 117 = .ok (.iconst 1, 1) := by decide +kernel
theorem dX0_fewest_118 : decode cX0_fewest 118 = .ok (.aload_n 0, 1) := by decide +kernel
theorem dX0_fewest_119 : decode cX0_fewest 119 = .ok (.getfield 15, 3) := by decide +kernel
theorem dX0_fewest_122 : decode cX0_fewest 122 = .ok (.invokestatic 37, 3) := by decide +kernel
theorem dX0_fewest_125 : decode cX0_fewest 125 = .ok (.ishl, 1) := by decide +kernel
theorem dX0_fewest_126 : decode cX0_fewest 126 = .ok (.istore 10, 2) := by decide +kernel
theorem dX0_fewest_128 : decode cX0_fewest 128 = .ok (.iconst 0, 1) := by decide +kernel
theorem dX0_fewest_129 : decode cX0_fewest 129 = .ok (.istore 11, 2) := by decide +kernel
theorem dX0_fewest_131 : decode cX0_fewest 131 = .ok (.iconst 1, 1) := by decide +kernel
theorem dX0_fewest_132 : decode cX0_fewest 132 = .ok (.istore 12, 2) := by decide +kernel
theorem dX0_fewest_134 : decode cX0_fewest 134 = .ok (.iload 12, 2) := by decide +kernel
theorem dX0_fewest_136 : decode cX0_fewest 136 = .ok (.iload 10, 2) := by decide +kernel
theorem dX0_fewest_138 : decode cX0_fewest 138 = .ok (.if_icmp .ge 74, 3) := by decide +kernel
theorem dX0_fewest_141 : decode cX0_fewest 141 = .ok (.iload 11, 2) := by decide +kernel
theorem dX0_fewest_143 : decode cX0_fewest 143 = .ok (.aload_n 0, 1) := by decide +kernel
theorem dX0_fewest_144 : decode cX0_fewest 144 = .ok (.getfield 15, 3) := by decide +kernel
theorem dX0_fewest_147 : decode cX0_fewest 147 = .ok (.isub, 1) := by decide +kernel
theorem dX0_fewest_148 : decode cX0_fewest 148 = .ok (.aload_n 0, 1) := by decide +kernel
theorem dX0_fewest_149 : decode cX0_fewest 149 = .ok (.getfield 15, 3) := by decide +kernel
theorem dX0_fewest_152 : decode cX0_fewest 152 = .ok (.iand, 1) := by decide +kernel
theorem dX0_fewest_153 : decode cX0_fewest 153 = .ok (.istore 11, 2) := by decide +kernel
theorem dX0_fewest_155 : decode cX0_fewest 155 = .ok (.aload_n 0, 1) := by decide +kernel
theorem dX0_fewest_156 : decode cX0_fewest 156 = .ok (.iload 11, 2) := by decide +kernel
theorem dX0_fewest_158 : decode cX0_fewest 158 = .ok (.invokevirtual 68, 3) := by decide +kernel
theorem dX0_fewest_161 : decode cX0_fewest 161 = .ok (.iload 11, 2) := by decide +kernel
theorem dX0_fewest_163 : decode cX0_fewest 163 = .ok (.invokestatic 37, 3) := by decide +kernel
theorem dX0_fewest_166 : decode cX0_fewest 166 = .ok (.istore 13, 2) := by decide +kernel
theorem dX0_fewest_168 : decode cX0_fewest 168 = .ok (.iload 11, 2) := by decide +kernel
theorem dX0_fewest_170 : decode cX0_fewest 170 = .ok (.iload_n 2, 1) := by decide +kernel
theorem dX0_fewest_171 : decode cX0_fewest 171 = .ok (.iand, 1) := by decide +kernel
theorem dX0_fewest_172 : decode cX0_fewest 172 = .ok (.iload_n 2, 1) := by decide +kernel
theorem dX0_fewest_173 : decode cX0_fewest 173 = .ok (.if_icmp .ne 33, 3) := by decide +kernel
theorem dX0_fewest_176 : decode cX0_fewest 176 = .ok (.aload_n 0, 1) := by decide +kernel
theorem dX0_fewest_177 : decode cX0_fewest 177 = .ok (.getfield 9, 3) := by decide +kernel
theorem dX0_fewest_180 : decode cX0_fewest 180 = .ok (.iload 11, 2) := by decide +kernel
theorem dX0_fewest_182 : decode cX0_fewest 182 = .ok (.iaload, 1) := by decide +kernel
theorem dX0_fewest_183 : decode cX0_fewest 183 = .ok (.iload 6, 2) := by decide +kernel
theorem dX0_fewest_185 : decode cX0_fewest 185 = .ok (.iand, 1) := by decide +kernel
theorem dX0_fewest_186 : decode cX0_fewest 186 = .ok (.ifCond .eq 20, 3) := by decide +kernel
theorem dX0_fewest_189 : decode cX0_fewest 189 = .ok (.iload 9, 2) := by decide +kernel
theorem dX0_fewest_191 : decode cX0_fewest 191 = .ok (.iconst (-1), 1) := by decide +kernel
theorem dX0_fewest_192 : decode cX0_fewest 192 = .ok (.if_icmp .eq 10, 3) := by decide +kernel
theorem dX0_fewest_195 : decode cX0_fewest 195 = .ok (.iload 13, 2) := by decide +kernel
theorem dX0_fewest_197 : decode cX0_fewest 197 = .ok (.iload 9, 2) := by decide +kernel
theorem dX0_fewest_199 : decode cX0_fewest 199 = .ok (.if_icmp .ge 7, 3) := by decide +kernel
theorem dX0_fewest_202 : decode cX0_fewest 202 = .ok (.iload 13, 2) := by decide +kernel
theorem dX0_fewest_204 : decode cX0_fewest 204 = .ok (.istore 9, 2) := by decide +kernel
theorem dX0_fewest_206 : decode cX0_fewest 206 = .ok (.iinc 12 1, 3) := by decide +kernel
theorem dX0_fewest_209 : decode cX0_fewest 209 = .ok (.goto (-75), 3) := by decide +kernel
theorem dX0_fewest_212 : decode cX0_fewest 212 = .ok (.iload 9, 2) := by decide +kernel
theorem dX0_fewest_214 : decode cX0_fewest 214 = .ok (.ireturn, 1) := by decide +kernel
theorem dX0_first_0 : decode cX0_first 0 = .ok (.aload_n 0, 1) := by decide +kernel
theorem dX0_first_1 : decode cX0_first 1 = .ok (.aload_n 1, 1) := by decide +kernel
theorem dX0_first_2 : decode cX0_first 2 = .ok (.iload_n 2, 1) := by decide +kernel
theorem dX0_first_3 : decode cX0_first 3 = .ok (.iload_n 3, 1) := by decide +kernel
theorem dX0_first_4 : decode cX0_first 4 = .ok (.invokevirtual 76, 3) := by decide +kernel
theorem dX0_first_7 : decode cX0_first 7 = .ok (.istore 4, 2) := by decide +kernel
theorem dX0_first_9 : decode cX0_first 9 = .ok (.iload_n 3, 1) := by decide +kernel
theorem dX0_first_10 : decode cX0_first 10 = .ok (.aload_n 1, 1) := by decide +kernel
theorem dX0_first_11 : decode cX0_first 11 = .ok (.getfield 48, 3) := by decide +kernel
theorem dX0_first_14 : decode cX0_first 14 = .ok (.getfield 52, 3) := by decide +kernel
theorem dX0_first_17 : decode cX0_first 17 = .ok (.iand, 1) := by decide +kernel
theorem dX0_first_18 : decode cX0_first 18 = .ok (.istore 5, 2) := by decide +kernel
theorem dX0_first_20 : decode cX0_first 20 = .ok (.iload 4, 2) := by decide +kernel
theorem dX0_first_22 : decode cX0_first 22 = .ok (.iconst (-1), 1) := by decide +kernel
theorem dX0_first_23 : decode cX0_first 23 = .ok (.if_icmp .eq 10, 3) := by decide +kernel
theorem dX0_first_26 : decode cX0_first 26 = .ok (.iload 4, 2) := by decide +kernel
theorem dX0_first_28 : decode cX0_first 28 = .ok (.bipush 14, 2) := by decide +kernel
theorem dX0_first_30 : decode cX0_first 30 = .ok (.if_icmp .lt 5, 3) := by decide +kernel
theorem dX0_first_33 : decode cX0_first 33 = .ok (.iconst 0, 1) := by decide +kernel
theorem dX0_first_34 : decode cX0_first 34 = .ok (.ireturn, 1) := by decide +kernel
theorem dX0_first_35 : decode cX0_first 35 = .ok (.iload 4, 2) := by decide +kernel
theorem dX0_first_37 : decode cX0_first 37 = .ok (.ifCond .ne 7, 3) := by decide +kernel
theorem dX0_first_40 : decode cX0_first 40 = .ok (.iconst 0, 1) := by decide +kernel
theorem dX0_first_41 : decode cX0_first 41 = .ok (.goto 7, 3) := by decide +kernel
theorem dX0_first_44 : decode cX0_first 44 = .ok (.aload_n 0, 1) := by decide +kernel
theorem dX0_first_45 : decode cX0_first 45 = .ok (.getfield 15, 3) := by decide +kernel
theorem dX0_first_48 : decode cX0_first 48 = .ok (.istore 6, 2) := by decide +kernel
theorem dX0_first_50 : decode cX0_first 50 = .ok (.iload 6, 2) := by decide +kernel
theorem dX0_first_52 : decode cX0_first 52 = .ok (.iload_n 2, 1) := by decide +kernel
theorem dX0_first_53 : decode cX0_first 53 = .ok (.iconst (-1), 1) := by decide +kernel
theorem dX0_first_54 : decode cX0_first 54 = .ok (.ixor, 1) := by decide +kernel
theorem dX0_first_55 : decode cX0_first 55 = .ok (.iand, 1) := by decide +kernel
theorem dX0_first_56 : decode cX0_first 56 = .ok (.istore 7, 2) := by decide +kernel
theorem dX0_first_58 : decode cX0_first 58 = .ok (.iload_n 3, 1) := by decide +kernel
theorem dX0_first_59 : decode cX0_first 59 = .ok (.aload_n 1, 1) := by decide +kernel
theorem dX0_first_60 : decode cX0_first 60 = .ok (.getfield 48, 3) := by decide +kernel
theorem dX0_first_63 : decode cX0_first 63 = .ok (.getfield 57, 3) := by decide +kernel
theorem dX0_first_66 : decode cX0_first 66 = .ok (.iand, 1) := by decide +kernel
theorem dX0_first_67 : decode cX0_first 67 = .ok (.istore 8, 2) := by decide +kernel
theorem dX0_first_69 : decode cX0_first 69 = .ok (.iconst 0, 1) := by decide +kernel
theorem dX0_first_70 : decode cX0_first 70 = .ok (.istore 9, 2) := by decide +kernel
theorem dX0_first_72 : decode cX0_first 72 = .ok (.iload 9, 2) := by decide +kernel
theorem dX0_first_74 : decode cX0_first 74 = .ok (.iload 4, 2) := by decide +kernel
theorem dX0_first_76 : decode cX0_first 76 = .ok (.if_icmp .ge 72, 3) := by decide +kernel
theorem dX0_first_79 : decode cX0_first 79 = .ok (.aload_n 0, 1) := by decide +kernel
theorem dX0_first_80 : decode cX0_first 80 = .ok (.iload_n 2, 1) := by decide +kernel
theorem dX0_first_81 : decode cX0_first 81 = .ok (.iload 6, 2) := by decide +kernel
theorem dX0_first_83 : decode cX0_first 83 = .ok (.iand, 1) := by decide +kernel
theorem dX0_first_84 : decode cX0_first 84 = .ok (.iload 7, 2) := by decide +kernel
theorem dX0_first_86 : decode cX0_first 86 = .ok (.iload 6, 2) := by decide +kernel
theorem dX0_first_88 : decode cX0_first 88 = .ok (.iand, 1) := by decide +kernel
theorem dX0_first_89 : decode cX0_first 89 = .ok (.iload 4, 2) := by decide +kernel
theorem dX0_first_91 : decode cX0_first 91 = .ok (.iload 9, 2) := by decide +kernel
theorem dX0_first_93 : decode cX0_first 93 = .ok (.isub, 1) := by decide +kernel
theorem dX0_first_94 : decode cX0_first 94 = .ok (.invokevirtual 79, 3) := by decide +kernel
theorem dX0_first_97 : decode cX0_first 97 = .ok (.iload 8, 2) := by decide +kernel
theorem dX0_first_99 : decode cX0_first 99 = .ok (.iand, 1) := by decide +kernel
theorem dX0_first_100 : decode cX0_first 100 = .ok (.istore 10, 2) := by decide +kernel
theorem dX0_first_102 : decode cX0_first 102 = .ok (.iload 10, 2) := by decide +kernel
theorem dX0_first_104 : decode cX0_first 104 = .ok (.invokestatic 83, 3) := by decide +kernel
theorem dX0_first_107 : decode cX0_first 107 = .ok (.istore 11, 2) := by decide +kernel
theorem dX0_first_109 : decode cX0_first 109 = .ok (.aload_n 0, 1) := by decide +kernel
theorem dX0_first_110 : decode cX0_first 110 = .ok (.getfield 22, 3) := by decide +kernel
theorem dX0_first_113 : decode cX0_first 113 = .ok (.iload 9, 2) := by decide +kernel
theorem dX0_first_115 : decode cX0_first 115 = .ok (.iload 11, 2) := by decide +kernel
theorem dX0_first_117 : decode cX0_first 117 = .ok (.iastore, 1) := by decide +kernel
theorem dX0_first_118 : decode cX0_first 118 = .ok (.iload 6, 2) := by decide +kernel
theorem dX0_first_120 : decode cX0_first 120 = .ok (.iconst 1, 1) := by decide +kernel
theorem dX0_first_121 : decode cX0_first 121 = .ok (.iload 11, 2) := by decide +kernel
theorem dX0_first_123 : decode cX0_first 123 = .ok (.ishl, 1) := by decide +kernel
theorem dX0_first_124 : decode cX0_first 124 = .ok (.iconst (-1), 1) := by decide +kernel
theorem dX0_first_125 : decode cX0_first 125 = .ok (.ixor, 1) := by decide +kernel
theorem dX0_first_126 : decode cX0_first 126 = .ok (.iand, 1) := by decide +kernel
theorem dX0_first_127 : decode cX0_first 127 = .ok (.istore 6, 2) := by decide +kernel
theorem dX0_first_129 : decode cX0_first 129 = .ok (.aload_n 1, 1) := by decide +kernel
theorem dX0_first_130 : decode cX0_first 130 = .ok (.iload 11, 2) := by decide +kernel
theorem dX0_first_132 : decode cX0_first 132 = .ok (.iload 6, 2) := by decide +kernel
theorem dX0_first_134 : decode cX0_first 134 = .ok (.iload 5, 2) := by decide +kernel
theorem dX0_first_136 : decode cX0_first 136 = .ok (.ior, 1) := by decide +kernel
theorem dX0_first_137 : decode cX0_first 137 = .ok (.invokevirtual 40, 3) := by decide +kernel
theorem dX0_first_140 : decode cX0_first 140 = .ok (.istore 8, 2) := by decide +kernel
theorem dX0_first_142 : decode cX0_first 142 = .ok (.iinc 9 1, 3) := by decide +kernel
theorem dX0_first_145 : decode cX0_first 145 = .ok (.goto (-73), 3) := by decide +kernel
theorem dX0_first_148 : decode cX0_first 148 = .ok (.aload_n 0, 1) := by decide +kernel
theorem dX0_first_149 : decode cX0_first 149 = .ok (.getfield 22, 3) := by decide +kernel
theorem dX0_first_152 : decode cX0_first 152 = .ok (.iload 4, 2) := by decide +kernel
theorem dX0_first_154 : decode cX0_first 154 = .ok (.iload 8, 2) := by decide +kernel
theorem dX0_first_156 : decode cX0_first 156 = .ok (.iload 5, 2) := by decide +kernel
theorem dX0_first_158 : decode cX0_first 158 = .ok (.iand, 1) := by decide +kernel
theorem dX0_first_159 : decode cX0_first 159 = .ok (.invokestatic 83, 3) := by decide +kernel
theorem dX0_first_162 : decode cX0_first 162 = .ok (.iastore, 1) := by decide +kernel
theorem dX0_first_163 : decode cX0_first 163 = .ok (.iload 4, 2) := by decide +kernel
theorem dX0_first_165 : decode cX0_first 165 = .ok (.iconst 1, 1) := by decide +kernel
theorem dX0_first_166 : decode cX0_first 166 = .ok (.iadd, 1) := by decide +kernel
theorem dX0_first_167 : decode cX0_first 167 = .ok (.ireturn, 1) := by decide +kernel
theorem dX0_inClimbs_0 : decode cX0_inClimbs 0 = .ok (.aload_n 1, 1) := by decide +kernel
theorem dX0_inClimbs_1 : decode cX0_inClimbs 1 = .ok (.iload_n 2, 1) := by decide +kernel
theorem dX0_inClimbs_2 : decode cX0_inClimbs 2 = .ok (.invokevirtual 45, 3) := by decide +kernel
theorem dX0_inClimbs_5 : decode cX0_inClimbs 5 = .ok (.istore_n 3, 1) := by decide +kernel
theorem dX0_inClimbs_6 : decode cX0_inClimbs 6 = .ok (.iload_n 3, 1) := by decide +kernel
theorem dX0_inClimbs_7 : decode cX0_inClimbs 7 = .ok (.aload_n 1, 1) := by decide +kernel
theorem dX0_inClimbs_8 : decode cX0_inClimbs 8 = .ok (.getfield 48, 3) := by decide +kernel
theorem dX0_inClimbs_11 : decode cX0_inClimbs 11 = .ok (.getfield 52, 3) := by decide +kernel
theorem dX0_inClimbs_14 : decode cX0_inClimbs 14 = .ok (.iand, 1) := by decide +kernel
theorem dX0_inClimbs_15 : decode cX0_inClimbs 15 = .ok (.istore 4, 2) := by decide +kernel
theorem dX0_inClimbs_17 : decode cX0_inClimbs 17 = .ok (.iload_n 2, 1) := by decide +kernel
theorem dX0_inClimbs_18 : decode cX0_inClimbs 18 = .ok (.aload_n 1, 1) := by decide +kernel
theorem dX0_inClimbs_19 : decode cX0_inClimbs 19 = .ok (.getfield 48, 3) := by decide +kernel
theorem dX0_inClimbs_22 : decode cX0_inClimbs 22 = .ok (.getfield 57, 3) := by decide +kernel
theorem dX0_inClimbs_25 : decode cX0_inClimbs 25 = .ok (.iand, 1) := by decide +kernel
theorem dX0_inClimbs_26 : decode cX0_inClimbs 26 = .ok (.istore 5, 2) := by decide +kernel
theorem dX0_inClimbs_28 : decode cX0_inClimbs 28 = .ok (.aload_n 0, 1) := by decide +kernel
theorem dX0_inClimbs_29 : decode cX0_inClimbs 29 = .ok (.aload_n 1, 1) := by decide +kernel
theorem dX0_inClimbs_30 : decode cX0_inClimbs 30 = .ok (.aload_n 1, 1) := by decide +kernel
theorem dX0_inClimbs_31 : decode cX0_inClimbs 31 = .ok (.iload_n 3, 1) := by decide +kernel
theorem dX0_inClimbs_32 : decode cX0_inClimbs 32 = .ok (.iload 4, 2) := by decide +kernel
theorem dX0_inClimbs_34 : decode cX0_inClimbs 34 = .ok (.iconst (-1), 1) := by decide +kernel
theorem dX0_inClimbs_35 : decode cX0_inClimbs 35 = .ok (.ixor, 1) := by decide +kernel
theorem dX0_inClimbs_36 : decode cX0_inClimbs 36 = .ok (.iand, 1) := by decide +kernel
theorem dX0_inClimbs_37 : decode cX0_inClimbs 37 = .ok (.iload 4, 2) := by decide +kernel
theorem dX0_inClimbs_39 : decode cX0_inClimbs 39 = .ok (.invokestatic 60, 3) := by decide +kernel
theorem dX0_inClimbs_42 : decode cX0_inClimbs 42 = .ok (.iload 4, 2) := by decide +kernel
theorem dX0_inClimbs_44 : decode cX0_inClimbs 44 = .ok (.invokevirtual 64, 3) := by decide +kernel
theorem dX0_inClimbs_47 : decode cX0_inClimbs 47 = .ok (.iconst 1, 1) := by decide +kernel
theorem dX0_inClimbs_48 : decode cX0_inClimbs 48 = .ok (.aload_n 0, 1) := by decide +kernel
theorem dX0_inClimbs_49 : decode cX0_inClimbs 49 = .ok (.getfield 15, 3) := by decide +kernel
theorem dX0_inClimbs_52 : decode cX0_inClimbs 52 = .ok (.invokestatic 37, 3) := by decide +kernel
theorem dX0_inClimbs_55 : decode cX0_inClimbs 55 = .ok (.ishl, 1) := by decide +kernel
theorem dX0_inClimbs_56 : decode cX0_inClimbs 56 = .ok (.istore 6, 2) := by decide +kernel
theorem dX0_inClimbs_58 : decode cX0_inClimbs 58 = .ok (.iconst 0, 1) := by decide +kernel
theorem dX0_inClimbs_59 : decode cX0_inClimbs 59 = .ok (.istore 7, 2) := by decide +kernel
theorem dX0_inClimbs_61 : decode cX0_inClimbs 61 = .ok (.iconst 0, 1) := by decide +kernel
theorem dX0_inClimbs_62 : decode cX0_inClimbs 62 = .ok (.istore 8, 2) := by decide +kernel
theorem dX0_inClimbs_64 : decode cX0_inClimbs 64 = .ok (.iconst 1, 1) := by decide +kernel
theorem dX0_inClimbs_65 : decode cX0_inClimbs 65 = .ok (.istore 9, 2) := by decide +kernel
theorem dX0_inClimbs_67 : decode cX0_inClimbs 67 = .ok (.iload 9, 2) := by decide +kernel
theorem dX0_inClimbs_69 : decode cX0_inClimbs 69 = .ok (.iload 6, 2) := by decide +kernel
theorem dX0_inClimbs_71 : decode cX0_inClimbs 71 = .ok (.if_icmp .ge 58, 3) := by decide +kernel
theorem dX0_inClimbs_74 : decode cX0_inClimbs 74 = .ok (.iload 8, 2) := by decide +kernel
theorem dX0_inClimbs_76 : decode cX0_inClimbs 76 = .ok (.aload_n 0, 1) := by decide +kernel
theorem dX0_inClimbs_77 : decode cX0_inClimbs 77 = .ok (.getfield 15, 3) := by decide +kernel
theorem dX0_inClimbs_80 : decode cX0_inClimbs 80 = .ok (.if_icmp .eq 49, 3) := by decide +kernel
theorem dX0_inClimbs_83 : decode cX0_inClimbs 83 = .ok (.iload 7, 2) := by decide +kernel
theorem dX0_inClimbs_85 : decode cX0_inClimbs 85 = .ok (.aload_n 0, 1) := by decide +kernel
theorem dX0_inClimbs_86 : decode cX0_inClimbs 86 = .ok (.getfield 15, 3) := by decide +kernel
theorem dX0_inClimbs_89 : decode cX0_inClimbs 89 = .ok (.isub, 1) := by decide +kernel
theorem dX0_inClimbs_90 : decode cX0_inClimbs 90 = .ok (.aload_n 0, 1) := by decide +kernel
theorem dX0_inClimbs_91 : decode cX0_inClimbs 91 = .ok (.getfield 15, 3) := by decide +kernel
theorem dX0_inClimbs_94 : decode cX0_inClimbs 94 = .ok (.iand, 1) := by decide +kernel
theorem dX0_inClimbs_95 : decode cX0_inClimbs 95 = .ok (.istore 7, 2) := by decide +kernel
theorem dX0_inClimbs_97 : decode cX0_inClimbs 97 = .ok (.aload_n 0, 1) := by decide +kernel
theorem dX0_inClimbs_98 : decode cX0_inClimbs 98 = .ok (.iload 7, 2) := by decide +kernel
theorem dX0_inClimbs_100 : decode cX0_inClimbs 100 = .ok (.invokevirtual 68, 3) := by decide +kernel
theorem dX0_inClimbs_103 : decode cX0_inClimbs 103 = .ok (.aload_n 0, 1) := by decide +kernel
theorem dX0_inClimbs_104 : decode cX0_inClimbs 104 = .ok (.getfield 9, 3) := by decide +kernel
theorem dX0_inClimbs_107 : decode cX0_inClimbs 107 = .ok (.iload 7, 2) := by decide +kernel
theorem dX0_inClimbs_109 : decode cX0_inClimbs 109 = .ok (.iaload, 1) := by decide +kernel
theorem dX0_inClimbs_110 : decode cX0_inClimbs 110 = .ok (.iload 5, 2) := by decide +kernel
theorem dX0_inClimbs_112 : decode cX0_inClimbs 112 = .ok (.iand, 1) := by decide +kernel
theorem dX0_inClimbs_113 : decode cX0_inClimbs 113 = .ok (.ifCond .eq 10, 3) := by decide +kernel
theorem dX0_inClimbs_116 : decode cX0_inClimbs 116 = .ok (.iload 8, 2) := by decide +kernel
theorem dX0_inClimbs_118 : decode cX0_inClimbs 118 = .ok (.iload 7, 2) := by decide +kernel
theorem dX0_inClimbs_120 : decode cX0_inClimbs 120 = .ok (.ior, 1) := by decide +kernel
theorem dX0_inClimbs_121 : decode cX0_inClimbs 121 = .ok (.istore 8, 2) := by decide +kernel
theorem dX0_inClimbs_123 : decode cX0_inClimbs 123 = .ok (.iinc 9 1, 3) := by decide +kernel
theorem dX0_inClimbs_126 : decode cX0_inClimbs 126 = .ok (.goto (-59), 3) := by decide +kernel
theorem dX0_inClimbs_129 : decode cX0_inClimbs 129 = .ok (.iload 8, 2) := by decide +kernel
theorem dX0_inClimbs_131 : decode cX0_inClimbs 131 = .ok (.iload 4, 2) := by decide +kernel
theorem dX0_inClimbs_133 : decode cX0_inClimbs 133 = .ok (.ior, 1) := by decide +kernel
theorem dX0_inClimbs_134 : decode cX0_inClimbs 134 = .ok (.ireturn, 1) := by decide +kernel
theorem kw_11 : Cond.initialized "FootholdWall$Chains" ∈ gw := gw_of (tb_of 11 (by decide +kernel)) (by decide +kernel)
theorem kw_119 : Cond.fieldLink "FootholdWall$Chains" 57 "FootholdWall$Wall" "starts" "I" ∈ gw := gw_of (tb_of 119 (by decide +kernel)) (by decide +kernel)
theorem kw_125 : Cond.fieldLink "FootholdWall$Chains" 52 "FootholdWall$Wall" "tops" "I" ∈ gw := gw_of (tb_of 125 (by decide +kernel)) (by decide +kernel)
theorem kw_247 : Cond.fieldLink "FootholdWall$Chains" 48 "FootholdWall$Rows" "wall" "LFootholdWall$Wall;" ∈ gw := gw_of (tb_of 247 (by decide +kernel)) (by decide +kernel)
theorem kw_333 : Cond.fieldLink "FootholdWall$Chains" 22 "FootholdWall$Chains" "path" "[I" ∈ gw := gw_of (tb_of 333 (by decide +kernel)) (by decide +kernel)
theorem kw_1071 : Cond.methodLink "FootholdWall$Chains" 45 yX5_reached ∈ gw := gw_of (tb_of 1071 (by decide +kernel)) (by decide +kernel)
theorem kw_1072 : Cond.methodLink "FootholdWall$Chains" 60 yX0_leadingOn ∈ gw := gw_of (tb_of 1072 (by decide +kernel)) (by decide +kernel)
theorem kw_1073 : Cond.static yX0_leadingOn ∈ gw := gw_of (tb_of 1073 (by decide +kernel)) (by decide +kernel)
theorem kw_1074 : Cond.code yX0_leadingOn cX0_leadingOn 8 (some (.int)) ∈ gw := gw_of (tb_of 1074 (by decide +kernel)) (by decide +kernel)
theorem kw_1076 : Cond.methodLink "FootholdWall$Chains" 64 yX0_prepare ∈ gw := gw_of (tb_of 1076 (by decide +kernel)) (by decide +kernel)
theorem kw_1078 : Cond.instanceMethod yX0_prepare ∈ gw := gw_of (tb_of 1078 (by decide +kernel)) (by decide +kernel)
theorem kw_1079 : Cond.code yX0_prepare cX0_prepare 8 none ∈ gw := gw_of (tb_of 1079 (by decide +kernel)) (by decide +kernel)
theorem kw_1089 : Cond.methodLink "FootholdWall$Chains" 68 yX0_growFrom ∈ gw := gw_of (tb_of 1089 (by decide +kernel)) (by decide +kernel)
theorem kw_1091 : Cond.instanceMethod yX0_growFrom ∈ gw := gw_of (tb_of 1091 (by decide +kernel)) (by decide +kernel)
theorem kw_1092 : Cond.code yX0_growFrom cX0_growFrom 4 none ∈ gw := gw_of (tb_of 1092 (by decide +kernel)) (by decide +kernel)
theorem kw_1128 : Cond.instanceMethod yX0_fewest ∈ gw := gw_of (tb_of 1128 (by decide +kernel)) (by decide +kernel)
theorem kw_1129 : Cond.selects "FootholdWall$Chains" yX0_fewest yX0_fewest ∈ gw := gw_of (tb_of 1129 (by decide +kernel)) (by decide +kernel)
theorem kw_1130 : Cond.code yX0_fewest cX0_fewest 14 (some (.int)) ∈ gw := gw_of (tb_of 1130 (by decide +kernel)) (by decide +kernel)
theorem kw_1131 : Cond.methodLink "FootholdWall$Chains" 72 yX5_spread ∈ gw := gw_of (tb_of 1131 (by decide +kernel)) (by decide +kernel)
theorem kw_1140 : Cond.methodLink "FootholdWall$Chains" 76 yX0_fewest ∈ gw := gw_of (tb_of 1140 (by decide +kernel)) (by decide +kernel)
theorem kw_1141 : Cond.methodLink "FootholdWall$Chains" 79 yX0_begunOver ∈ gw := gw_of (tb_of 1141 (by decide +kernel)) (by decide +kernel)
theorem kw_1143 : Cond.instanceMethod yX0_begunOver ∈ gw := gw_of (tb_of 1143 (by decide +kernel)) (by decide +kernel)
theorem kw_1144 : Cond.code yX0_begunOver cX0_begunOver 9 (some (.int)) ∈ gw := gw_of (tb_of 1144 (by decide +kernel)) (by decide +kernel)
theorem kw_1145 : Cond.methodLink "FootholdWall$Chains" 83 yJ6_numberOfTrailingZeros_0f7a4 ∈ gw := gw_of (tb_of 1145 (by decide +kernel)) (by decide +kernel)
theorem ks_38 : Cond.selects RX0 yX0_prepare yX0_prepare ∈ gw := gw_of (pv_of 38 (by decide +kernel)) (by decide +kernel)
theorem ks_39 : Cond.selects RX0 yX0_growFrom yX0_growFrom ∈ gw := gw_of (pv_of 39 (by decide +kernel)) (by decide +kernel)
theorem ks_40 : Cond.selects RX0 yX0_begunOver yX0_begunOver ∈ gw := gw_of (pv_of 40 (by decide +kernel)) (by decide +kernel)
set_option maxHeartbeats 4000000 in
set_option maxRecDepth 100000 in
theorem s_Ch_inClimbs (l : Launch) (D : va_G) (cs : CS) (kf : KF) (T : TF) (O : List Nat) (X : va_W) (a0 : Nat) (a1 : Nat) (x2 : Int32) (y0 : Nat) (y1 : Int32) (y2 : Nat) (y3 : Nat) (nn j gq : Nat) (t_a0 : T a0 = some (10, gq, 0)) (t_a1 : T a1 = some (15, 0, 0)) (t_y0 : T y0 = some (1, nn, 0)) (l_y1 : 0 ≤ y1.toInt) (u_y1 : y1.toInt ≤ 16383) (t_y2 : T y2 = some (1, 14, 1)) (t_y3 : T y3 = some (1, 14, 0)) (hn : nn = 2 ^ j) (hj : j ≤ 14) (hO : okO T (a0 :: O) [1, 12, 15, 19]) : TKD l D cs kf yX0_inClimbs cX0_inClimbs 10 (some (.int)) { frames := 6, cells := 1, slots := 16384, locals := 150 } [.ref a0, .ref a1, .int x2] T (a0 :: O) ((a0, .inr (0, [.ref y0, .int y1, .ref y2, .ref y3])) :: X) (fun kk ss => Ti D cs ((fun kk ss r u => ∃ T2 : TF, Tgr T T2 ∧ ∃ (n2 : Nat) (j2 : Nat) (n0_0 : Nat) (n0_1 : Int32), u = (T2, a0 :: O, (a0, .inr (0, [.ref n0_0, .int n0_1, .ref y2, .ref y3])) :: X) ∧ 0 ≤ r.toInt ∧ r.toInt ≤ 16383 ∧ (T2 n0_0 = some (1, n2, 0)) ∧ (n2 = 2 ^ j2) ∧ (j ≤ j2) ∧ (j2 ≤ 14) ∧ (0 ≤ n0_1.toInt) ∧ (n0_1.toInt ≤ 16383) ∧ (n0_1.toInt < n2) ∧ (kk + j ≤ j2) ∧ (ss + 16384 * j ≤ 16384 * j2) ∧ (kk ≤ 1) ∧ (ss ≤ 16384)) kk ss)) := by
  refine tkd_of (by decide) (Nat.le_of_ble_eq_true rfl) (fun p e s m below meth c ls A H locs hx hb hr hml hown hts hlocks hnm hkb hH hS hA hOX hks hE hl => ?_)
  have hown : s.vm.findClass RX0 = some m.cls := hown
  have hl : lv_has ls 10 [(0, .ref a0), (1, .ref a1), (2, .int x2)] := hl
  have hOXf := hOX
  have hnb := p2_le hn hj
  refine lv_aload_n hx hb dX0_inClimbs_0 rfl (lv_at hl 1 rfl) ?_
  refine lv_iload_n hx hb dX0_inClimbs_1 rfl (lv_at hl 2 rfl) ?_
  refine tk_i hH hS hA (tr_V (n := 1) (As := [.int x2]) hx hb hml hown hts hkb hH (ox_map hOX rfl) hks hE hS hA (s_Rows_reached l D cs kf T (a0 :: O) ((a0, .inr (0, [.ref y0, .int y1, .ref y2, .ref y3])) :: X) a1 x2 t_a1 (hO.sub (by decide))) kw_1071 kw_851 kw_852 kw_8 kw_853 (by decide +kernel) ⟨Nat.le_of_ble_eq_true rfl, Nat.le_of_ble_eq_true rfl⟩ (HT.recv (ci := 5) hkb hH t_a1 (hO.no t_a1 (by decide)) rfl) rfl rfl hl.1 (Nat.le_of_ble_eq_true rfl) dX0_inClimbs_2 ⟨by show 0 + 0 ≤ 1; omega, by show 0 + 0 ≤ 16384; omega⟩) (fun v2 u H locs hz9 hH hS => ?_)
  obtain ⟨rfl, l_v2, u_v2⟩ := hz9
  have hH : HT D cs A T (a0 :: O) ((a0, .inr (0, [.ref y0, .int y1, .ref y2, .ref y3])) :: X) H := hH
  refine W.widen (k := 0) (n := 0) (Nat.le_refl _) (Nat.le_refl _) ?_
  refine lv_istore_n (lv' := [(3, .int v2), (0, .ref a0), (1, .ref a1), (2, .int x2)]) hx hb dX0_inClimbs_5 rfl hl (by decide) rfl (fun ls hl => ?_)
  refine lv_iload_n hx hb dX0_inClimbs_6 rfl (lv_at hl 0 rfl) ?_
  refine lv_aload_n hx hb dX0_inClimbs_7 rfl (lv_at hl 2 rfl) ?_
  refine t_get (ci := 5) (lst := ft5 0 0) (C := RX5) (F := TX5) (N := 6) hx hb hts uX5 hown hkb hH t_a1 (hO.no t_a1 (by decide)) (fun _ h9 => h9) rfl rfl 0 (by decide) rfl kw_247 (fun _ h9 => h9) dX0_inClimbs_8 (fun v9 h9 => ?_)
  obtain ⟨v8, hv8, gv8, rfl, t_v8⟩ := h9
  refine t_get (ci := 9) (lst := ft9w hv8 gv8) (C := RX9) (F := TX9) (N := 14) hx hb hts uX9 hown hkb hH t_v8.1 (hO.no t_v8.1 (by decide)) (fun fs => (ob9w t_v8 fs).mp) rfl rfl 4 (by decide) rfl kw_125 (fun _ h9 => h9) dX0_inClimbs_11 (fun v9 h9 => ?_)
  obtain ⟨v11, rfl, l_v11, u_v11⟩ := h9
  refine lv_iand hx hb dX0_inClimbs_14 ?_
  refine lv_topi (fun v14 ev14 => ?_)
  have tv14 : 0 ≤ v14.toInt ∧ v14.toInt ≤ v2.toInt := by rw [ev14]; exact and_l (by omega)
  have ttv14 : 0 ≤ v14.toInt ∧ v14.toInt ≤ v11.toInt := by rw [ev14]; exact and_r (by omega)
  refine lv_istore (lv' := [(4, .int v14), (3, .int v2), (0, .ref a0), (1, .ref a1), (2, .int x2)]) hx hb dX0_inClimbs_15 hl (by decide) rfl (fun ls hl => ?_)
  refine lv_iload_n hx hb dX0_inClimbs_17 rfl (lv_at hl 4 rfl) ?_
  refine lv_aload_n hx hb dX0_inClimbs_18 rfl (lv_at hl 3 rfl) ?_
  refine t_get (ci := 5) (lst := ft5 0 0) (C := RX5) (F := TX5) (N := 6) hx hb hts uX5 hown hkb hH t_a1 (hO.no t_a1 (by decide)) (fun _ h9 => h9) rfl rfl 0 (by decide) rfl kw_247 (fun _ h9 => h9) dX0_inClimbs_19 (fun v9 h9 => ?_)
  obtain ⟨v19, hv19, gv19, rfl, t_v19⟩ := h9
  refine t_get (ci := 9) (lst := ft9w hv19 gv19) (C := RX9) (F := TX9) (N := 14) hx hb hts uX9 hown hkb hH t_v19.1 (hO.no t_v19.1 (by decide)) (fun fs => (ob9w t_v19 fs).mp) rfl rfl 3 (by decide) rfl kw_119 (fun _ h9 => h9) dX0_inClimbs_22 (fun v9 h9 => ?_)
  obtain ⟨v22, rfl, l_v22, u_v22⟩ := h9
  refine lv_iand hx hb dX0_inClimbs_25 ?_
  refine lv_topi (fun v25 ev25 => ?_)
  have tv25 : 0 ≤ v25.toInt ∧ v25.toInt ≤ v22.toInt := by rw [ev25]; exact and_r (by omega)
  refine lv_istore (lv' := [(5, .int v25), (4, .int v14), (3, .int v2), (0, .ref a0), (1, .ref a1), (2, .int x2)]) hx hb dX0_inClimbs_26 hl (by decide) rfl (fun ls hl => ?_)
  refine lv_aload_n hx hb dX0_inClimbs_28 rfl (lv_at hl 3 rfl) ?_
  refine lv_aload_n hx hb dX0_inClimbs_29 rfl (lv_at hl 4 rfl) ?_
  refine lv_aload_n hx hb dX0_inClimbs_30 rfl (lv_at hl 4 rfl) ?_
  refine lv_iload_n hx hb dX0_inClimbs_31 rfl (lv_at hl 2 rfl) ?_
  refine lv_iload hx hb dX0_inClimbs_32 (lv_at hl 1 rfl) ?_
  refine lv_iconst (v := (-1)) hx hb dX0_inClimbs_34 (by decide) ?_
  refine lv_ixor hx hb dX0_inClimbs_35 ?_
  refine lv_topi (fun v35 ev35 => ?_)
  refine lv_iand hx hb dX0_inClimbs_36 ?_
  refine lv_topi (fun v36 ev36 => ?_)
  have tv36 : 0 ≤ v36.toInt ∧ v36.toInt ≤ v2.toInt := by rw [ev36]; exact and_l (by omega)
  refine lv_iload hx hb dX0_inClimbs_37 (lv_at hl 1 rfl) ?_
  refine tk_i hH hS hA (tr_S (n := 3) (As := [.ref a1, .int v36, .int v14]) hx hb hml hown hts hkb hH (ox_map hOX rfl) hks hE hS hA (s_Ch_leadingOn l D cs kf T (a0 :: O) ((a0, .inr (0, [.ref y0, .int y1, .ref y2, .ref y3])) :: X) a1 v36 v14 t_a1 (by omega) (by omega) (hO.sub (by decide))) kw_1072 kw_1073 kw_11 kw_1074 (by decide +kernel) ⟨Nat.le_of_ble_eq_true rfl, Nat.le_of_ble_eq_true rfl⟩ rfl rfl hl.1 (Nat.le_of_ble_eq_true rfl) dX0_inClimbs_39 ⟨by show 0 + 0 ≤ 1; omega, by show 0 + 0 ≤ 16384; omega⟩) (fun v39 u H locs hz9 hH hS => ?_)
  obtain ⟨rfl, l_v39, u_v39⟩ := hz9
  have hH : HT D cs A T (a0 :: O) ((a0, .inr (0, [.ref y0, .int y1, .ref y2, .ref y3])) :: X) H := hH
  refine W.widen (k := 0) (n := 0) (Nat.le_refl _) (Nat.le_refl _) ?_
  refine lv_iload hx hb dX0_inClimbs_42 (lv_at hl 1 rfl) ?_
  refine tk_vD hH hS hA (tr_VD (n := 3) (As := [.ref a1, .int v39, .int v14]) hx hb hml hown hts hkb hH (ox_map hOX rfl) hks hE hS hA (s_Ch_prepare l D cs kf T O X a0 a1 v39 v14 y0 y1 y2 y3 nn j gq t_a0 t_a1 (by omega) (by omega) t_y0 (by omega) (by omega) t_y2 t_y3 hn (by omega) (hO.sub (by decide))) kw_1076 kw_1078 ks_38 kw_11 kw_1079 (by decide +kernel) ⟨Nat.le_of_ble_eq_true rfl, Nat.le_of_ble_eq_true rfl⟩ (x_recv (ci := 0) hkb hH 0 rfl rfl) rfl rfl hl.1 (Nat.le_of_ble_eq_true rfl) dX0_inClimbs_44 ⟨by show 0 + 1 ≤ 1; omega, by show 0 + 16384 ≤ 16384; omega⟩) (fun kc44 ks44 u H locs hz9 hH hS => ?_)
  obtain ⟨T44, le_T44, n2_44, j2_44, n44_0_0, n44_0_1, rfl, x_v440, x_v441, x_v442, x_v443, x_v444, x_v445, x_v446, x_v447, x_v448, x_v449, x_v4410⟩ := hz9
  have t_a0 := le_T44.1 _ _ t_a0
  have t_a1 := le_T44.1 _ _ t_a1
  have t_y0 := le_T44.1 _ _ t_y0
  have t_y2 := le_T44.1 _ _ t_y2
  have t_y3 := le_T44.1 _ _ t_y3
  have t_v8 := isW.le le_T44.1 t_v8
  have t_v19 := isW.le le_T44.1 t_v19
  have hO := okO.le le_T44.1 hO
  have t_n44_0_0 := x_v440
  have hnb_44 := p2_le x_v441 (by omega)
  have hH : HT D cs A T44 (a0 :: O) ((a0, .inr (0, [.ref n44_0_0, .int n44_0_1, .ref y2, .ref y3])) :: X) H := hH
  refine lv_iconst (v := 1) hx hb dX0_inClimbs_47 (by decide) ?_
  refine lv_aload_n hx hb dX0_inClimbs_48 rfl (lv_at hl 3 rfl) ?_
  refine x_getk (ci := 0) (C := RX0) (F := TX0) (N := 4) (v := .int n44_0_1) hx hb hts uX0 hown hkb hH 0 rfl rfl 1 (by decide) rfl kw_331 (fun _ h9 => h9) dX0_inClimbs_49 ?_
  refine tk_i hH hS hA (tr_S (n := 1) (As := [.int n44_0_1]) hx hb hml hown hts hkb hH (ox_map hOX rfl) hks hE hS hA (s_bitCount l D cs kf T44 (a0 :: O) ((a0, .inr (0, [.ref n44_0_0, .int n44_0_1, .ref y2, .ref y3])) :: X) n44_0_1  (hO.sub (by decide))) kw_1088 kw_692 kw_20 kw_693 (by decide +kernel) ⟨Nat.le_of_ble_eq_true rfl, Nat.le_of_ble_eq_true rfl⟩ rfl rfl hl.1 (Nat.le_of_ble_eq_true rfl) dX0_inClimbs_52 ⟨by show (0 + kc44) + 0 ≤ 1; omega, by show (0 + ks44) + 0 ≤ 16384; omega⟩) (fun v52 u H locs hz9 hH hS => ?_)
  obtain ⟨rfl, l_v52, u_v52⟩ := hz9
  have hH : HT D cs A T44 (a0 :: O) ((a0, .inr (0, [.ref n44_0_0, .int n44_0_1, .ref y2, .ref y3])) :: X) H := hH
  refine W.widen (k := 0 + kc44) (n := 0 + ks44) (Nat.le_refl _) (Nat.le_refl _) ?_
  refine lv_ishl hx hb dX0_inClimbs_55 ?_
  refine lv_topi (fun v55 ev55 => ?_)
  refine lv_istore (lv' := [(6, .int v55), (5, .int v25), (4, .int v14), (3, .int v2), (0, .ref a0), (1, .ref a1), (2, .int x2)]) hx hb dX0_inClimbs_56 hl (by decide) rfl (fun ls hl => ?_)
  refine lv_iconst (v := 0) hx hb dX0_inClimbs_58 (by decide) ?_
  refine lv_istore (lv' := [(7, .int 0), (6, .int v55), (5, .int v25), (4, .int v14), (3, .int v2), (0, .ref a0), (1, .ref a1), (2, .int x2)]) hx hb dX0_inClimbs_59 hl (by decide) rfl (fun ls hl => ?_)
  refine lv_iconst (v := 0) hx hb dX0_inClimbs_61 (by decide) ?_
  refine lv_istore (lv' := [(8, .int 0), (7, .int 0), (6, .int v55), (5, .int v25), (4, .int v14), (3, .int v2), (0, .ref a0), (1, .ref a1), (2, .int x2)]) hx hb dX0_inClimbs_62 hl (by decide) rfl (fun ls hl => ?_)
  refine lv_iconst (v := 1) hx hb dX0_inClimbs_64 (by decide) ?_
  have J67 : ∀ (n : Nat) (p67_9 : Int32) (p67_8 : Int32) (p67_7 : Int32) (H : Heap) (locs : List Loc) (ls : Array Slot), (2147483647 - p67_9.toInt).toNat = n → (1 ≤ p67_9.toInt) → (0 ≤ p67_8.toInt) → (p67_8.toInt ≤ 16383) → (0 ≤ p67_7.toInt) → (p67_7.toInt ≤ 16383) → (p67_7.toInt ≤ n44_0_1.toInt ∧ 0 ≤ p67_7.toInt) → HT D cs A T44 (a0 :: O) ((a0, .inr (0, [.ref n44_0_0, .int n44_0_1, .ref y2, .ref y3])) :: X) H → va_S A s.heap H locs → lv_has ls 10 [(9, .int p67_9), (8, .int p67_8), (7, .int p67_7), (6, .int v55), (5, .int v25), (4, .int v14), (0, .ref a0)] → W p l e { frames := 6, cells := 1, slots := 16384, locals := 150 } s m [.ref a0, .ref a1, .int x2].toArray below meth c H locs (0 + kc44) (0 + ks44) (MQD below (fun kk ss => Ti D cs ((fun kk ss r u => ∃ T2 : TF, Tgr T T2 ∧ ∃ (n2 : Nat) (j2 : Nat) (n0_0 : Nat) (n0_1 : Int32), u = (T2, a0 :: O, (a0, .inr (0, [.ref n0_0, .int n0_1, .ref y2, .ref y3])) :: X) ∧ 0 ≤ r.toInt ∧ r.toInt ≤ 16383 ∧ (T2 n0_0 = some (1, n2, 0)) ∧ (n2 = 2 ^ j2) ∧ (j ≤ j2) ∧ (j2 ≤ 14) ∧ (0 ≤ n0_1.toInt) ∧ (n0_1.toInt ≤ 16383) ∧ (n0_1.toInt < n2) ∧ (kk + j ≤ j2) ∧ (ss + 16384 * j ≤ 16384 * j2) ∧ (kk ≤ 1) ∧ (ss ≤ 16384)) kk ss) A) [.ref a0, .ref a1, .int x2].toArray s A) (F0 m 67 ls []) := by
    intro n
    induction n using Nat.strongRecOn with
    | _ n ih67 =>
      intro p67_9 p67_8 p67_7 H locs ls hm67 l_p67_9 l_p67_8 u_p67_8 l_p67_7 u_p67_7 i67 hH hS hl
      refine lv_iload hx hb dX0_inClimbs_67 (lv_at hl 0 rfl) ?_
      refine lv_iload hx hb dX0_inClimbs_69 (lv_at hl 3 rfl) ?_
      have J129 : ∀  (H : Heap) (locs : List Loc) (ls : Array Slot), HT D cs A T44 (a0 :: O) ((a0, .inr (0, [.ref n44_0_0, .int n44_0_1, .ref y2, .ref y3])) :: X) H → va_S A s.heap H locs → lv_has ls 10 [(8, .int p67_8), (4, .int v14)] → W p l e { frames := 6, cells := 1, slots := 16384, locals := 150 } s m [.ref a0, .ref a1, .int x2].toArray below meth c H locs (0 + kc44) (0 + ks44) (MQD below (fun kk ss => Ti D cs ((fun kk ss r u => ∃ T2 : TF, Tgr T T2 ∧ ∃ (n2 : Nat) (j2 : Nat) (n0_0 : Nat) (n0_1 : Int32), u = (T2, a0 :: O, (a0, .inr (0, [.ref n0_0, .int n0_1, .ref y2, .ref y3])) :: X) ∧ 0 ≤ r.toInt ∧ r.toInt ≤ 16383 ∧ (T2 n0_0 = some (1, n2, 0)) ∧ (n2 = 2 ^ j2) ∧ (j ≤ j2) ∧ (j2 ≤ 14) ∧ (0 ≤ n0_1.toInt) ∧ (n0_1.toInt ≤ 16383) ∧ (n0_1.toInt < n2) ∧ (kk + j ≤ j2) ∧ (ss + 16384 * j ≤ 16384 * j2) ∧ (kk ≤ 1) ∧ (ss ≤ 16384)) kk ss) A) [.ref a0, .ref a1, .int x2].toArray s A) (F0 m 129 ls []) := by
        intro  H locs ls  hH hS hl
        refine lv_iload hx hb dX0_inClimbs_129 (lv_at hl 0 rfl) ?_
        refine lv_iload hx hb dX0_inClimbs_131 (lv_at hl 1 rfl) ?_
        refine lv_ior hx hb dX0_inClimbs_133 ?_
        refine lv_topi (fun v133 ev133 => ?_)
        have tv133 : 0 ≤ v133.toInt ∧ v133.toInt < 16384 := by rw [ev133]; exact or_b 14 (by decide) (by omega) (by omega) (by omega) (by omega)
        exact te_iD hx hb hr hlocks hH hS (⟨T44, le_T44, n2_44, j2_44, n44_0_0, n44_0_1, rfl, by omega, by omega, t_n44_0_0, x_v441, by omega, by omega, by omega, by omega, by omega, by omega, by omega, by omega, by omega⟩) dX0_inClimbs_134
      refine lv_icmp_ge (tgt := 129) hx hb dX0_inClimbs_71 (by decide) (fun c71 => ?_) (fun c71 => ?_)
      · skip
        have fuc71 := full_i p67_9
        have fvc71 := full_i v55
        have tc71 := g_le c71
        exact J129  _ _ _  hH hS (lv_sub hl [1, 5] rfl)
      · skip
        have fuc71 := full_i p67_9
        have fvc71 := full_i v55
        have tc71 := g_nle c71
        refine lv_iload hx hb dX0_inClimbs_74 (lv_at hl 1 rfl) ?_
        refine lv_aload_n hx hb dX0_inClimbs_76 rfl (lv_at hl 6 rfl) ?_
        refine x_getk (ci := 0) (C := RX0) (F := TX0) (N := 4) (v := .int n44_0_1) hx hb hts uX0 hown hkb hH 0 rfl rfl 1 (by decide) rfl kw_331 (fun _ h9 => h9) dX0_inClimbs_77 ?_
        refine lv_icmp_eq (tgt := 129) hx hb dX0_inClimbs_80 (by decide) (fun c80 => ?_) (fun c80 => ?_)
        · skip
          have fuc80 := full_i p67_8
          have fvc80 := full_i n44_0_1
          have tc80 := g_eq c80
          exact J129  _ _ _  hH hS (lv_sub hl [1, 5] rfl)
        · skip
          have fuc80 := full_i p67_8
          have fvc80 := full_i n44_0_1
          have tc80 := g_ne c80
          refine lv_iload hx hb dX0_inClimbs_83 (lv_at hl 2 rfl) ?_
          refine lv_aload_n hx hb dX0_inClimbs_85 rfl (lv_at hl 6 rfl) ?_
          refine x_getk (ci := 0) (C := RX0) (F := TX0) (N := 4) (v := .int n44_0_1) hx hb hts uX0 hown hkb hH 0 rfl rfl 1 (by decide) rfl kw_331 (fun _ h9 => h9) dX0_inClimbs_86 ?_
          refine lv_isub hx hb dX0_inClimbs_89 ?_
          refine lv_topi (fun v89 ev89 => ?_)
          have tv89 : v89.toInt = p67_7.toInt - n44_0_1.toInt := by rw [ev89]; exact sub_i rfl rfl (by omega) (by omega)
          refine lv_aload_n hx hb dX0_inClimbs_90 rfl (lv_at hl 6 rfl) ?_
          refine x_getk (ci := 0) (C := RX0) (F := TX0) (N := 4) (v := .int n44_0_1) hx hb hts uX0 hown hkb hH 0 rfl rfl 1 (by decide) rfl kw_331 (fun _ h9 => h9) dX0_inClimbs_91 ?_
          refine lv_iand hx hb dX0_inClimbs_94 ?_
          refine lv_topi (fun v94 ev94 => ?_)
          have tv94 : 0 ≤ v94.toInt ∧ v94.toInt ≤ n44_0_1.toInt := by rw [ev94]; exact and_r (by omega)
          refine lv_istore (lv' := [(7, .int v94), (9, .int p67_9), (8, .int p67_8), (6, .int v55), (5, .int v25), (4, .int v14), (0, .ref a0)]) hx hb dX0_inClimbs_95 hl (by decide) rfl (fun ls hl => ?_)
          refine lv_aload_n hx hb dX0_inClimbs_97 rfl (lv_at hl 6 rfl) ?_
          refine lv_iload hx hb dX0_inClimbs_98 (lv_at hl 0 rfl) ?_
          refine tk_v hH hS hA (tr_V (n := 1) (As := [.int v94]) hx hb hml hown hts hkb hH (ox_map hOX rfl) hks hE hS hA (s_Ch_growFrom l D cs kf T44 O X a0 v94 n44_0_0 n44_0_1 y2 y3 n2_44 j2_44 gq t_a0 (by omega) (by omega) t_n44_0_0 (by omega) (by omega) t_y2 t_y3 x_v441 (by omega) (by omega) (by omega) (hO.sub (by decide))) kw_1089 kw_1091 ks_39 kw_11 kw_1092 (by decide +kernel) ⟨Nat.le_of_ble_eq_true rfl, Nat.le_of_ble_eq_true rfl⟩ (x_recv (ci := 0) hkb hH 0 rfl rfl) rfl rfl hl.1 (Nat.le_of_ble_eq_true rfl) dX0_inClimbs_100 ⟨by show (0 + kc44) + 0 ≤ 1; omega, by show (0 + ks44) + 0 ≤ 16384; omega⟩) (fun u H locs hz9 hH hS => ?_)
          obtain ⟨rfl⟩ := hz9
          have hH : HT D cs A T44 (a0 :: O) ((a0, .inr (0, [.ref n44_0_0, .int n44_0_1, .ref y2, .ref y3])) :: X) H := hH
          refine W.widen (k := 0 + kc44) (n := 0 + ks44) (Nat.le_refl _) (Nat.le_refl _) ?_
          refine lv_aload_n hx hb dX0_inClimbs_103 rfl (lv_at hl 6 rfl) ?_
          refine x_getk (ci := 0) (C := RX0) (F := TX0) (N := 4) (v := .ref n44_0_0) hx hb hts uX0 hown hkb hH 0 rfl rfl 0 (by decide) rfl kw_330 (fun _ h9 => h9) dX0_inClimbs_104 ?_
          refine lv_iload hx hb dX0_inClimbs_107 (lv_at hl 0 rfl) ?_
          refine t_ild hx hb hkb hH t_n44_0_0 (hO.no t_n44_0_0 (by decide)) (by omega) (by omega) dX0_inClimbs_109 (fun v109 h9 => ?_)
          refine lv_iload hx hb dX0_inClimbs_110 (lv_at hl 4 rfl) ?_
          refine lv_iand hx hb dX0_inClimbs_112 ?_
          refine lv_topi (fun v112 ev112 => ?_)
          have tv112 : 0 ≤ v112.toInt ∧ v112.toInt ≤ v25.toInt := by rw [ev112]; exact and_r (by omega)
          have J123 : ∀ (p123_8 : Int32) (H : Heap) (locs : List Loc) (ls : Array Slot), (0 ≤ p123_8.toInt) → (p123_8.toInt ≤ 16383) → HT D cs A T44 (a0 :: O) ((a0, .inr (0, [.ref n44_0_0, .int n44_0_1, .ref y2, .ref y3])) :: X) H → va_S A s.heap H locs → lv_has ls 10 [(7, .int v94), (9, .int p67_9), (8, .int p123_8), (6, .int v55), (5, .int v25), (4, .int v14), (0, .ref a0)] → W p l e { frames := 6, cells := 1, slots := 16384, locals := 150 } s m [.ref a0, .ref a1, .int x2].toArray below meth c H locs (0 + kc44) (0 + ks44) (MQD below (fun kk ss => Ti D cs ((fun kk ss r u => ∃ T2 : TF, Tgr T T2 ∧ ∃ (n2 : Nat) (j2 : Nat) (n0_0 : Nat) (n0_1 : Int32), u = (T2, a0 :: O, (a0, .inr (0, [.ref n0_0, .int n0_1, .ref y2, .ref y3])) :: X) ∧ 0 ≤ r.toInt ∧ r.toInt ≤ 16383 ∧ (T2 n0_0 = some (1, n2, 0)) ∧ (n2 = 2 ^ j2) ∧ (j ≤ j2) ∧ (j2 ≤ 14) ∧ (0 ≤ n0_1.toInt) ∧ (n0_1.toInt ≤ 16383) ∧ (n0_1.toInt < n2) ∧ (kk + j ≤ j2) ∧ (ss + 16384 * j ≤ 16384 * j2) ∧ (kk ≤ 1) ∧ (ss ≤ 16384)) kk ss) A) [.ref a0, .ref a1, .int x2].toArray s A) (F0 m 123 ls []) := by
            intro p123_8 H locs ls l_p123_8 u_p123_8 hH hS hl
            obtain ⟨v123, ev123⟩ : ∃ y : Int32, y = p67_9 + 1 := ⟨_, rfl⟩
            have tv123 : v123.toInt = p67_9.toInt + (1) := by rw [ev123]; exact add_i rfl (by decide) (by omega) (by omega)
            refine lv_iinc (v := v123) (lv' := [(9, .int v123), (7, .int v94), (8, .int p123_8), (6, .int v55), (5, .int v25), (4, .int v14), (0, .ref a0)]) hx hb dX0_inClimbs_123 hl (k := 1) rfl (by rw [ev123]; rfl) (by decide) rfl (fun ls hl => ?_)
            refine lv_goto (tgt := 67) hx hb dX0_inClimbs_126 (by decide) ?_
            exact ih67 _ (by omega) v123 p123_8 v94 _ _ _ rfl (by omega) (by omega) (by omega) (by omega) (by omega) (by omega) hH hS (lv_sub hl [0, 2, 1, 3, 4, 5, 6] rfl)
          refine lv_if_eq (tgt := 123) hx hb dX0_inClimbs_113 (by decide) (fun c113 => ?_) (fun c113 => ?_)
          · skip
            have tc113 := f_eq (k := 0) (by decide) c113
            exact J123 p67_8 _ _ _ (by omega) (by omega) hH hS (lv_sub hl [0, 1, 2, 3, 4, 5, 6] rfl)
          · skip
            have tc113 := f_ne (k := 0) (by decide) c113
            refine lv_iload hx hb dX0_inClimbs_116 (lv_at hl 2 rfl) ?_
            refine lv_iload hx hb dX0_inClimbs_118 (lv_at hl 0 rfl) ?_
            refine lv_ior hx hb dX0_inClimbs_120 ?_
            refine lv_topi (fun v120 ev120 => ?_)
            have tv120 : 0 ≤ v120.toInt ∧ v120.toInt < 16384 := by rw [ev120]; exact or_b 14 (by decide) (by omega) (by omega) (by omega) (by omega)
            refine lv_istore (lv' := [(8, .int v120), (7, .int v94), (9, .int p67_9), (6, .int v55), (5, .int v25), (4, .int v14), (0, .ref a0)]) hx hb dX0_inClimbs_121 hl (by decide) rfl (fun ls hl => ?_)
            exact J123 v120 _ _ _ (by omega) (by omega) hH hS (lv_sub hl [1, 2, 0, 3, 4, 5, 6] rfl)
  refine lv_istore (lv' := [(9, .int 1), (8, .int 0), (7, .int 0), (6, .int v55), (5, .int v25), (4, .int v14), (3, .int v2), (0, .ref a0), (1, .ref a1), (2, .int x2)]) hx hb dX0_inClimbs_65 hl (by decide) rfl (fun ls hl => ?_)
  have z_0 : (0 : Int32).toInt = 0 := by decide
  have z_1 : (1 : Int32).toInt = 1 := by decide
  exact J67 _ 1 0 0 _ _ _ rfl (by decide) (by decide) (by decide) (by decide) (by decide) (by omega) hH hS (lv_sub hl [0, 1, 2, 3, 4, 5, 7] rfl)
set_option maxHeartbeats 4000000 in
set_option maxRecDepth 100000 in
theorem s_Ch_fewest (l : Launch) (D : va_G) (cs : CS) (kf : KF) (T : TF) (O : List Nat) (X : va_W) (a0 : Nat) (a1 : Nat) (x2 : Int32) (x3 : Int32) (y0 : Nat) (y1 : Int32) (y2 : Nat) (y3 : Nat) (nn j gq : Nat) (t_a0 : T a0 = some (10, gq, 0)) (t_a1 : T a1 = some (15, 0, 0)) (t_y0 : T y0 = some (1, nn, 0)) (l_y1 : 0 ≤ y1.toInt) (u_y1 : y1.toInt ≤ 16383) (t_y2 : T y2 = some (1, 14, 1)) (t_y3 : T y3 = some (1, 14, 0)) (hn : nn = 2 ^ j) (hj : j ≤ 14) (hO : okO T (a0 :: O) [1, 12, 15, 19]) : TKD l D cs kf yX0_fewest cX0_fewest 14 (some (.int)) { frames := 5, cells := 1, slots := 16384, locals := 129 } [.ref a0, .ref a1, .int x2, .int x3] T (a0 :: O) ((a0, .inr (0, [.ref y0, .int y1, .ref y2, .ref y3])) :: X) (fun kk ss => Ti D cs ((fun kk ss r u => ∃ T2 : TF, Tgr T T2 ∧ ∃ (n2 : Nat) (j2 : Nat) (n0_0 : Nat) (n0_1 : Int32), u = (T2, a0 :: O, (a0, .inr (0, [.ref n0_0, .int n0_1, .ref y2, .ref y3])) :: X) ∧ -1 ≤ r.toInt ∧ r.toInt ≤ 63 ∧ (T2 n0_0 = some (1, n2, 0)) ∧ (n2 = 2 ^ j2) ∧ (j ≤ j2) ∧ (j2 ≤ 14) ∧ (0 ≤ n0_1.toInt) ∧ (n0_1.toInt ≤ 16383) ∧ (True) ∧ (kk + j ≤ j2) ∧ (ss + 16384 * j ≤ 16384 * j2) ∧ (kk ≤ 1) ∧ (ss ≤ 16384)) kk ss)) := by
  refine tkd_of (by decide) (Nat.le_of_ble_eq_true rfl) (fun p e s m below meth c ls A H locs hx hb hr hml hown hts hlocks hnm hkb hH hS hA hOX hks hE hl => ?_)
  have hown : s.vm.findClass RX0 = some m.cls := hown
  have hl : lv_has ls 14 [(0, .ref a0), (1, .ref a1), (2, .int x2), (3, .int x3)] := hl
  have hOXf := hOX
  have hnb := p2_le hn hj
  refine lv_iload_n hx hb dX0_fewest_0 rfl (lv_at hl 3 rfl) ?_
  refine lv_aload_n hx hb dX0_fewest_1 rfl (lv_at hl 1 rfl) ?_
  refine t_get (ci := 5) (lst := ft5 0 0) (C := RX5) (F := TX5) (N := 6) hx hb hts uX5 hown hkb hH t_a1 (hO.no t_a1 (by decide)) (fun _ h9 => h9) rfl rfl 0 (by decide) rfl kw_247 (fun _ h9 => h9) dX0_fewest_2 (fun v9 h9 => ?_)
  obtain ⟨v2, hv2, gv2, rfl, t_v2⟩ := h9
  refine t_get (ci := 9) (lst := ft9w hv2 gv2) (C := RX9) (F := TX9) (N := 14) hx hb hts uX9 hown hkb hH t_v2.1 (hO.no t_v2.1 (by decide)) (fun fs => (ob9w t_v2 fs).mp) rfl rfl 4 (by decide) rfl kw_125 (fun _ h9 => h9) dX0_fewest_5 (fun v9 h9 => ?_)
  obtain ⟨v5, rfl, l_v5, u_v5⟩ := h9
  refine lv_iand hx hb dX0_fewest_8 ?_
  refine lv_topi (fun v8 ev8 => ?_)
  have tv8 : 0 ≤ v8.toInt ∧ v8.toInt ≤ v5.toInt := by rw [ev8]; exact and_r (by omega)
  refine lv_istore (lv' := [(4, .int v8), (0, .ref a0), (1, .ref a1), (2, .int x2), (3, .int x3)]) hx hb dX0_fewest_9 hl (by decide) rfl (fun ls hl => ?_)
  refine lv_iload_n hx hb dX0_fewest_11 rfl (lv_at hl 4 rfl) ?_
  refine lv_aload_n hx hb dX0_fewest_12 rfl (lv_at hl 2 rfl) ?_
  refine t_get (ci := 5) (lst := ft5 0 0) (C := RX5) (F := TX5) (N := 6) hx hb hts uX5 hown hkb hH t_a1 (hO.no t_a1 (by decide)) (fun _ h9 => h9) rfl rfl 0 (by decide) rfl kw_247 (fun _ h9 => h9) dX0_fewest_13 (fun v9 h9 => ?_)
  obtain ⟨v13, hv13, gv13, rfl, t_v13⟩ := h9
  refine t_get (ci := 9) (lst := ft9w hv13 gv13) (C := RX9) (F := TX9) (N := 14) hx hb hts uX9 hown hkb hH t_v13.1 (hO.no t_v13.1 (by decide)) (fun fs => (ob9w t_v13 fs).mp) rfl rfl 3 (by decide) rfl kw_119 (fun _ h9 => h9) dX0_fewest_16 (fun v9 h9 => ?_)
  obtain ⟨v16, rfl, l_v16, u_v16⟩ := h9
  refine lv_iand hx hb dX0_fewest_19 ?_
  refine lv_topi (fun v19 ev19 => ?_)
  have tv19 : 0 ≤ v19.toInt ∧ v19.toInt ≤ v16.toInt := by rw [ev19]; exact and_r (by omega)
  refine lv_istore (lv' := [(5, .int v19), (4, .int v8), (0, .ref a0), (1, .ref a1), (2, .int x2), (3, .int x3)]) hx hb dX0_fewest_20 hl (by decide) rfl (fun ls hl => ?_)
  refine lv_iload_n hx hb dX0_fewest_22 rfl (lv_at hl 4 rfl) ?_
  have J36 : ∀  (H : Heap) (locs : List Loc) (ls : Array Slot), HT D cs A T (a0 :: O) ((a0, .inr (0, [.ref y0, .int y1, .ref y2, .ref y3])) :: X) H → va_S A s.heap H locs → lv_has ls 14 [(5, .int v19), (4, .int v8), (0, .ref a0), (1, .ref a1), (2, .int x2)] → W p l e { frames := 5, cells := 1, slots := 16384, locals := 129 } s m [.ref a0, .ref a1, .int x2, .int x3].toArray below meth c H locs 0 0 (MQD below (fun kk ss => Ti D cs ((fun kk ss r u => ∃ T2 : TF, Tgr T T2 ∧ ∃ (n2 : Nat) (j2 : Nat) (n0_0 : Nat) (n0_1 : Int32), u = (T2, a0 :: O, (a0, .inr (0, [.ref n0_0, .int n0_1, .ref y2, .ref y3])) :: X) ∧ -1 ≤ r.toInt ∧ r.toInt ≤ 63 ∧ (T2 n0_0 = some (1, n2, 0)) ∧ (n2 = 2 ^ j2) ∧ (j ≤ j2) ∧ (j2 ≤ 14) ∧ (0 ≤ n0_1.toInt) ∧ (n0_1.toInt ≤ 16383) ∧ (True) ∧ (kk + j ≤ j2) ∧ (ss + 16384 * j ≤ 16384 * j2) ∧ (kk ≤ 1) ∧ (ss ≤ 16384)) kk ss) A) [.ref a0, .ref a1, .int x2, .int x3].toArray s A) (F0 m 36 ls []) := by
    intro  H locs ls  hH hS hl
    refine lv_iload hx hb dX0_fewest_36 (lv_at hl 0 rfl) ?_
    refine lv_iload hx hb dX0_fewest_38 (lv_at hl 1 rfl) ?_
    refine lv_iconst (v := (-1)) hx hb dX0_fewest_40 (by decide) ?_
    refine lv_ixor hx hb dX0_fewest_41 ?_
    refine lv_topi (fun v41 ev41 => ?_)
    refine lv_iand hx hb dX0_fewest_42 ?_
    refine lv_topi (fun v42 ev42 => ?_)
    have tv42 : 0 ≤ v42.toInt ∧ v42.toInt ≤ v19.toInt := by rw [ev42]; exact and_l (by omega)
    refine lv_istore (lv' := [(6, .int v42), (5, .int v19), (4, .int v8), (0, .ref a0), (1, .ref a1), (2, .int x2)]) hx hb dX0_fewest_43 hl (by decide) rfl (fun ls hl => ?_)
    refine lv_aload_n hx hb dX0_fewest_45 rfl (lv_at hl 4 rfl) ?_
    refine lv_iload hx hb dX0_fewest_46 (lv_at hl 0 rfl) ?_
    refine lv_iload_n hx hb dX0_fewest_48 rfl (lv_at hl 5 rfl) ?_
    refine lv_iload hx hb dX0_fewest_49 (lv_at hl 0 rfl) ?_
    refine lv_ior hx hb dX0_fewest_51 ?_
    refine lv_topi (fun v51 ev51 => ?_)
    refine lv_iload_n hx hb dX0_fewest_52 rfl (lv_at hl 5 rfl) ?_
    refine lv_iload hx hb dX0_fewest_53 (lv_at hl 0 rfl) ?_
    refine lv_ior hx hb dX0_fewest_55 ?_
    refine lv_topi (fun v55 ev55 => ?_)
    refine lv_iload hx hb dX0_fewest_56 (lv_at hl 2 rfl) ?_
    refine lv_ior hx hb dX0_fewest_58 ?_
    refine lv_topi (fun v58 ev58 => ?_)
    refine lv_iconst (v := 0) hx hb dX0_fewest_59 (by decide) ?_
    refine tk_i hH hS hA (tr_V (n := 4) (As := [.int v42, .int v51, .int v58, .int 0]) hx hb hml hown hts hkb hH (ox_map hOX rfl) hks hE hS hA (s_Rows_spread l D cs kf T (a0 :: O) ((a0, .inr (0, [.ref y0, .int y1, .ref y2, .ref y3])) :: X) a1 v42 v51 v58 (0) t_a1 (by omega) (by omega) (hO.sub (by decide))) kw_1131 kw_855 kw_856 kw_8 kw_857 (by decide +kernel) ⟨Nat.le_of_ble_eq_true rfl, Nat.le_of_ble_eq_true rfl⟩ (HT.recv (ci := 5) hkb hH t_a1 (hO.no t_a1 (by decide)) rfl) rfl rfl hl.1 (Nat.le_of_ble_eq_true rfl) dX0_fewest_60 ⟨by show 0 + 0 ≤ 1; omega, by show 0 + 0 ≤ 16384; omega⟩) (fun v60 u H locs hz9 hH hS => ?_)
    obtain ⟨rfl, l_v60, u_v60⟩ := hz9
    have hH : HT D cs A T (a0 :: O) ((a0, .inr (0, [.ref y0, .int y1, .ref y2, .ref y3])) :: X) H := hH
    refine W.widen (k := 0) (n := 0) (Nat.le_refl _) (Nat.le_refl _) ?_
    refine lv_istore (lv' := [(7, .int v60), (6, .int v42), (5, .int v19), (4, .int v8), (0, .ref a0), (1, .ref a1), (2, .int x2)]) hx hb dX0_fewest_63 hl (by decide) rfl (fun ls hl => ?_)
    refine lv_aload_n hx hb dX0_fewest_65 rfl (lv_at hl 5 rfl) ?_
    refine lv_iload hx hb dX0_fewest_66 (lv_at hl 0 rfl) ?_
    refine lv_iload hx hb dX0_fewest_68 (lv_at hl 3 rfl) ?_
    refine lv_iconst (v := (-1)) hx hb dX0_fewest_70 (by decide) ?_
    refine lv_ixor hx hb dX0_fewest_71 ?_
    refine lv_topi (fun v71 ev71 => ?_)
    refine lv_iand hx hb dX0_fewest_72 ?_
    refine lv_topi (fun v72 ev72 => ?_)
    have tv72 : 0 ≤ v72.toInt ∧ v72.toInt ≤ v60.toInt := by rw [ev72]; exact and_l (by omega)
    refine lv_iload hx hb dX0_fewest_73 (lv_at hl 3 rfl) ?_
    refine lv_iload hx hb dX0_fewest_75 (lv_at hl 0 rfl) ?_
    refine lv_iand hx hb dX0_fewest_77 ?_
    refine lv_topi (fun v77 ev77 => ?_)
    have tv77 : 0 ≤ v77.toInt ∧ v77.toInt ≤ v8.toInt := by rw [ev77]; exact and_l (by omega)
    have ttv77 : 0 ≤ v77.toInt ∧ v77.toInt ≤ v60.toInt := by rw [ev77]; exact and_r (by omega)
    refine tk_i hH hS hA (tr_S (n := 3) (As := [.ref a1, .int v72, .int v77]) hx hb hml hown hts hkb hH (ox_map hOX rfl) hks hE hS hA (s_Ch_leadingOn l D cs kf T (a0 :: O) ((a0, .inr (0, [.ref y0, .int y1, .ref y2, .ref y3])) :: X) a1 v72 v77 t_a1 (by omega) (by omega) (hO.sub (by decide))) kw_1072 kw_1073 kw_11 kw_1074 (by decide +kernel) ⟨Nat.le_of_ble_eq_true rfl, Nat.le_of_ble_eq_true rfl⟩ rfl rfl hl.1 (Nat.le_of_ble_eq_true rfl) dX0_fewest_78 ⟨by show 0 + 0 ≤ 1; omega, by show 0 + 0 ≤ 16384; omega⟩) (fun v78 u H locs hz9 hH hS => ?_)
    obtain ⟨rfl, l_v78, u_v78⟩ := hz9
    have hH : HT D cs A T (a0 :: O) ((a0, .inr (0, [.ref y0, .int y1, .ref y2, .ref y3])) :: X) H := hH
    refine W.widen (k := 0) (n := 0) (Nat.le_refl _) (Nat.le_refl _) ?_
    refine lv_istore (lv' := [(8, .int v78), (7, .int v60), (6, .int v42), (5, .int v19), (4, .int v8), (0, .ref a0), (1, .ref a1), (2, .int x2)]) hx hb dX0_fewest_81 hl (by decide) rfl (fun ls hl => ?_)
    refine lv_iload hx hb dX0_fewest_83 (lv_at hl 2 rfl) ?_
    refine lv_iload hx hb dX0_fewest_85 (lv_at hl 0 rfl) ?_
    refine lv_iand hx hb dX0_fewest_87 ?_
    refine lv_topi (fun v87 ev87 => ?_)
    have tv87 : 0 ≤ v87.toInt ∧ v87.toInt ≤ v42.toInt := by rw [ev87]; exact and_l (by omega)
    have ttv87 : 0 ≤ v87.toInt ∧ v87.toInt ≤ v78.toInt := by rw [ev87]; exact and_r (by omega)
    refine lv_istore (lv' := [(6, .int v87), (8, .int v78), (7, .int v60), (5, .int v19), (4, .int v8), (0, .ref a0), (1, .ref a1), (2, .int x2)]) hx hb dX0_fewest_88 hl (by decide) rfl (fun ls hl => ?_)
    refine lv_iload hx hb dX0_fewest_90 (lv_at hl 1 rfl) ?_
    refine lv_iload_n hx hb dX0_fewest_92 rfl (lv_at hl 7 rfl) ?_
    refine lv_iand hx hb dX0_fewest_93 ?_
    refine lv_topi (fun v93 ev93 => ?_)
    have tv93 : 0 ≤ v93.toInt ∧ v93.toInt ≤ v78.toInt := by rw [ev93]; exact and_l (by omega)
    refine lv_iload_n hx hb dX0_fewest_94 rfl (lv_at hl 7 rfl) ?_
    have J103 : ∀  (H : Heap) (locs : List Loc) (ls : Array Slot), HT D cs A T (a0 :: O) ((a0, .inr (0, [.ref y0, .int y1, .ref y2, .ref y3])) :: X) H → va_S A s.heap H locs → lv_has ls 14 [] → W p l e { frames := 5, cells := 1, slots := 16384, locals := 129 } s m [.ref a0, .ref a1, .int x2, .int x3].toArray below meth c H locs 0 0 (MQD below (fun kk ss => Ti D cs ((fun kk ss r u => ∃ T2 : TF, Tgr T T2 ∧ ∃ (n2 : Nat) (j2 : Nat) (n0_0 : Nat) (n0_1 : Int32), u = (T2, a0 :: O, (a0, .inr (0, [.ref n0_0, .int n0_1, .ref y2, .ref y3])) :: X) ∧ -1 ≤ r.toInt ∧ r.toInt ≤ 63 ∧ (T2 n0_0 = some (1, n2, 0)) ∧ (n2 = 2 ^ j2) ∧ (j ≤ j2) ∧ (j2 ≤ 14) ∧ (0 ≤ n0_1.toInt) ∧ (n0_1.toInt ≤ 16383) ∧ (True) ∧ (kk + j ≤ j2) ∧ (ss + 16384 * j ≤ 16384 * j2) ∧ (kk ≤ 1) ∧ (ss ≤ 16384)) kk ss) A) [.ref a0, .ref a1, .int x2, .int x3].toArray s A) (F0 m 103 ls []) := by
      intro  H locs ls  hH hS hl
      refine lv_iconst (v := (-1)) hx hb dX0_fewest_103 (by decide) ?_
      have z9_m1 : ((-1) : Int32).toInt = -1 := by decide
      exact te_iD hx hb hr hlocks hH hS (⟨T, Tgr.rf, nn, j, y0, y1, rfl, by decide, by decide, t_y0, hn, by omega, by omega, by omega, by omega, trivial, by omega, by omega, by omega, by omega⟩) dX0_fewest_104
    refine lv_icmp_ne (tgt := 103) hx hb dX0_fewest_95 (by decide) (fun c95 => ?_) (fun c95 => ?_)
    · skip
      have fuc95 := full_i v93
      have fvc95 := full_i x2
      have tc95 := g_ne c95
      exact J103  _ _ _  hH hS (lv_sub hl [] rfl)
    · skip
      have fuc95 := full_i v93
      have fvc95 := full_i x2
      have tc95 := g_eq c95
      refine lv_iload hx hb dX0_fewest_98 (lv_at hl 0 rfl) ?_
      refine lv_if_ne (tgt := 105) hx hb dX0_fewest_100 (by decide) (fun c100 => ?_) (fun c100 => ?_)
      · skip
        have tc100 := f_ne (k := 0) (by decide) c100
        refine lv_aload_n hx hb dX0_fewest_105 rfl (lv_at hl 5 rfl) ?_
        refine lv_aload_n hx hb dX0_fewest_106 rfl (lv_at hl 6 rfl) ?_
        refine lv_iload hx hb dX0_fewest_107 (lv_at hl 1 rfl) ?_
        refine lv_iload hx hb dX0_fewest_109 (lv_at hl 4 rfl) ?_
        refine tk_vD hH hS hA (tr_VD (n := 3) (As := [.ref a1, .int v78, .int v8]) hx hb hml hown hts hkb hH (ox_map hOX rfl) hks hE hS hA (s_Ch_prepare l D cs kf T O X a0 a1 v78 v8 y0 y1 y2 y3 nn j gq t_a0 t_a1 (by omega) (by omega) t_y0 (by omega) (by omega) t_y2 t_y3 hn (by omega) (hO.sub (by decide))) kw_1076 kw_1078 ks_38 kw_11 kw_1079 (by decide +kernel) ⟨Nat.le_of_ble_eq_true rfl, Nat.le_of_ble_eq_true rfl⟩ (x_recv (ci := 0) hkb hH 0 rfl rfl) rfl rfl hl.1 (Nat.le_of_ble_eq_true rfl) dX0_fewest_111 ⟨by show 0 + 1 ≤ 1; omega, by show 0 + 16384 ≤ 16384; omega⟩) (fun kc111 ks111 u H locs hz9 hH hS => ?_)
        obtain ⟨T111, le_T111, n2_111, j2_111, n111_0_0, n111_0_1, rfl, x_v1110, x_v1111, x_v1112, x_v1113, x_v1114, x_v1115, x_v1116, x_v1117, x_v1118, x_v1119, x_v11110⟩ := hz9
        have t_a0 := le_T111.1 _ _ t_a0
        have t_a1 := le_T111.1 _ _ t_a1
        have t_y0 := le_T111.1 _ _ t_y0
        have t_y2 := le_T111.1 _ _ t_y2
        have t_y3 := le_T111.1 _ _ t_y3
        have t_v2 := isW.le le_T111.1 t_v2
        have t_v13 := isW.le le_T111.1 t_v13
        have hO := okO.le le_T111.1 hO
        have t_n111_0_0 := x_v1110
        have hnb_111 := p2_le x_v1111 (by omega)
        have hH : HT D cs A T111 (a0 :: O) ((a0, .inr (0, [.ref n111_0_0, .int n111_0_1, .ref y2, .ref y3])) :: X) H := hH
        refine lv_iconst (v := (-1)) hx hb dX0_fewest_114 (by decide) ?_
        refine lv_istore (lv' := [(9, .int (-1)), (6, .int v87), (8, .int v78), (7, .int v60), (5, .int v19), (4, .int v8), (0, .ref a0), (1, .ref a1), (2, .int x2)]) hx hb dX0_fewest_115 hl (by decide) rfl (fun ls hl => ?_)
        refine lv_iconst (v := 1) hx hb dX0_fewest_117 (by decide) ?_
        refine lv_aload_n hx hb dX0_fewest_118 rfl (lv_at hl 6 rfl) ?_
        refine x_getk (ci := 0) (C := RX0) (F := TX0) (N := 4) (v := .int n111_0_1) hx hb hts uX0 hown hkb hH 0 rfl rfl 1 (by decide) rfl kw_331 (fun _ h9 => h9) dX0_fewest_119 ?_
        refine tk_i hH hS hA (tr_S (n := 1) (As := [.int n111_0_1]) hx hb hml hown hts hkb hH (ox_map hOX rfl) hks hE hS hA (s_bitCount l D cs kf T111 (a0 :: O) ((a0, .inr (0, [.ref n111_0_0, .int n111_0_1, .ref y2, .ref y3])) :: X) n111_0_1  (hO.sub (by decide))) kw_1088 kw_692 kw_20 kw_693 (by decide +kernel) ⟨Nat.le_of_ble_eq_true rfl, Nat.le_of_ble_eq_true rfl⟩ rfl rfl hl.1 (Nat.le_of_ble_eq_true rfl) dX0_fewest_122 ⟨by show (0 + kc111) + 0 ≤ 1; omega, by show (0 + ks111) + 0 ≤ 16384; omega⟩) (fun v122 u H locs hz9 hH hS => ?_)
        obtain ⟨rfl, l_v122, u_v122⟩ := hz9
        have hH : HT D cs A T111 (a0 :: O) ((a0, .inr (0, [.ref n111_0_0, .int n111_0_1, .ref y2, .ref y3])) :: X) H := hH
        refine W.widen (k := 0 + kc111) (n := 0 + ks111) (Nat.le_refl _) (Nat.le_refl _) ?_
        refine lv_ishl hx hb dX0_fewest_125 ?_
        refine lv_topi (fun v125 ev125 => ?_)
        refine lv_istore (lv' := [(10, .int v125), (9, .int (-1)), (6, .int v87), (8, .int v78), (7, .int v60), (5, .int v19), (4, .int v8), (0, .ref a0), (1, .ref a1), (2, .int x2)]) hx hb dX0_fewest_126 hl (by decide) rfl (fun ls hl => ?_)
        refine lv_iconst (v := 0) hx hb dX0_fewest_128 (by decide) ?_
        refine lv_istore (lv' := [(11, .int 0), (10, .int v125), (9, .int (-1)), (6, .int v87), (8, .int v78), (7, .int v60), (5, .int v19), (4, .int v8), (0, .ref a0), (1, .ref a1), (2, .int x2)]) hx hb dX0_fewest_129 hl (by decide) rfl (fun ls hl => ?_)
        refine lv_iconst (v := 1) hx hb dX0_fewest_131 (by decide) ?_
        have J134 : ∀ (n : Nat) (p134_12 : Int32) (p134_11 : Int32) (p134_9 : Int32) (H : Heap) (locs : List Loc) (ls : Array Slot), (2147483647 - p134_12.toInt).toNat = n → (1 ≤ p134_12.toInt) → (0 ≤ p134_11.toInt) → (p134_11.toInt ≤ 16383) → (-1 ≤ p134_9.toInt) → (p134_9.toInt ≤ 63) → (p134_11.toInt ≤ n111_0_1.toInt ∧ 0 ≤ p134_11.toInt) → HT D cs A T111 (a0 :: O) ((a0, .inr (0, [.ref n111_0_0, .int n111_0_1, .ref y2, .ref y3])) :: X) H → va_S A s.heap H locs → lv_has ls 14 [(12, .int p134_12), (11, .int p134_11), (10, .int v125), (9, .int p134_9), (6, .int v87), (0, .ref a0), (2, .int x2)] → W p l e { frames := 5, cells := 1, slots := 16384, locals := 129 } s m [.ref a0, .ref a1, .int x2, .int x3].toArray below meth c H locs (0 + kc111) (0 + ks111) (MQD below (fun kk ss => Ti D cs ((fun kk ss r u => ∃ T2 : TF, Tgr T T2 ∧ ∃ (n2 : Nat) (j2 : Nat) (n0_0 : Nat) (n0_1 : Int32), u = (T2, a0 :: O, (a0, .inr (0, [.ref n0_0, .int n0_1, .ref y2, .ref y3])) :: X) ∧ -1 ≤ r.toInt ∧ r.toInt ≤ 63 ∧ (T2 n0_0 = some (1, n2, 0)) ∧ (n2 = 2 ^ j2) ∧ (j ≤ j2) ∧ (j2 ≤ 14) ∧ (0 ≤ n0_1.toInt) ∧ (n0_1.toInt ≤ 16383) ∧ (True) ∧ (kk + j ≤ j2) ∧ (ss + 16384 * j ≤ 16384 * j2) ∧ (kk ≤ 1) ∧ (ss ≤ 16384)) kk ss) A) [.ref a0, .ref a1, .int x2, .int x3].toArray s A) (F0 m 134 ls []) := by
          intro n
          induction n using Nat.strongRecOn with
          | _ n ih134 =>
            intro p134_12 p134_11 p134_9 H locs ls hm134 l_p134_12 l_p134_11 u_p134_11 l_p134_9 u_p134_9 i134 hH hS hl
            refine lv_iload hx hb dX0_fewest_134 (lv_at hl 0 rfl) ?_
            refine lv_iload hx hb dX0_fewest_136 (lv_at hl 2 rfl) ?_
            refine lv_icmp_ge (tgt := 212) hx hb dX0_fewest_138 (by decide) (fun c138 => ?_) (fun c138 => ?_)
            · skip
              have fuc138 := full_i p134_12
              have fvc138 := full_i v125
              have tc138 := g_le c138
              refine lv_iload hx hb dX0_fewest_212 (lv_at hl 3 rfl) ?_
              exact te_iD hx hb hr hlocks hH hS (⟨T111, le_T111, n2_111, j2_111, n111_0_0, n111_0_1, rfl, by omega, by omega, t_n111_0_0, x_v1111, by omega, by omega, by omega, by omega, trivial, by omega, by omega, by omega, by omega⟩) dX0_fewest_214
            · skip
              have fuc138 := full_i p134_12
              have fvc138 := full_i v125
              have tc138 := g_nle c138
              refine lv_iload hx hb dX0_fewest_141 (lv_at hl 1 rfl) ?_
              refine lv_aload_n hx hb dX0_fewest_143 rfl (lv_at hl 5 rfl) ?_
              refine x_getk (ci := 0) (C := RX0) (F := TX0) (N := 4) (v := .int n111_0_1) hx hb hts uX0 hown hkb hH 0 rfl rfl 1 (by decide) rfl kw_331 (fun _ h9 => h9) dX0_fewest_144 ?_
              refine lv_isub hx hb dX0_fewest_147 ?_
              refine lv_topi (fun v147 ev147 => ?_)
              have tv147 : v147.toInt = p134_11.toInt - n111_0_1.toInt := by rw [ev147]; exact sub_i rfl rfl (by omega) (by omega)
              refine lv_aload_n hx hb dX0_fewest_148 rfl (lv_at hl 5 rfl) ?_
              refine x_getk (ci := 0) (C := RX0) (F := TX0) (N := 4) (v := .int n111_0_1) hx hb hts uX0 hown hkb hH 0 rfl rfl 1 (by decide) rfl kw_331 (fun _ h9 => h9) dX0_fewest_149 ?_
              refine lv_iand hx hb dX0_fewest_152 ?_
              refine lv_topi (fun v152 ev152 => ?_)
              have tv152 : 0 ≤ v152.toInt ∧ v152.toInt ≤ n111_0_1.toInt := by rw [ev152]; exact and_r (by omega)
              refine lv_istore (lv' := [(11, .int v152), (12, .int p134_12), (10, .int v125), (9, .int p134_9), (6, .int v87), (0, .ref a0), (2, .int x2)]) hx hb dX0_fewest_153 hl (by decide) rfl (fun ls hl => ?_)
              refine lv_aload_n hx hb dX0_fewest_155 rfl (lv_at hl 5 rfl) ?_
              refine lv_iload hx hb dX0_fewest_156 (lv_at hl 0 rfl) ?_
              refine tk_v hH hS hA (tr_V (n := 1) (As := [.int v152]) hx hb hml hown hts hkb hH (ox_map hOX rfl) hks hE hS hA (s_Ch_growFrom l D cs kf T111 O X a0 v152 n111_0_0 n111_0_1 y2 y3 n2_111 j2_111 gq t_a0 (by omega) (by omega) t_n111_0_0 (by omega) (by omega) t_y2 t_y3 x_v1111 (by omega) (by omega) (by omega) (hO.sub (by decide))) kw_1089 kw_1091 ks_39 kw_11 kw_1092 (by decide +kernel) ⟨Nat.le_of_ble_eq_true rfl, Nat.le_of_ble_eq_true rfl⟩ (x_recv (ci := 0) hkb hH 0 rfl rfl) rfl rfl hl.1 (Nat.le_of_ble_eq_true rfl) dX0_fewest_158 ⟨by show (0 + kc111) + 0 ≤ 1; omega, by show (0 + ks111) + 0 ≤ 16384; omega⟩) (fun u H locs hz9 hH hS => ?_)
              obtain ⟨rfl⟩ := hz9
              have hH : HT D cs A T111 (a0 :: O) ((a0, .inr (0, [.ref n111_0_0, .int n111_0_1, .ref y2, .ref y3])) :: X) H := hH
              refine W.widen (k := 0 + kc111) (n := 0 + ks111) (Nat.le_refl _) (Nat.le_refl _) ?_
              refine lv_iload hx hb dX0_fewest_161 (lv_at hl 0 rfl) ?_
              refine tk_i hH hS hA (tr_S (n := 1) (As := [.int v152]) hx hb hml hown hts hkb hH (ox_map hOX rfl) hks hE hS hA (s_bitCount l D cs kf T111 (a0 :: O) ((a0, .inr (0, [.ref n111_0_0, .int n111_0_1, .ref y2, .ref y3])) :: X) v152  (hO.sub (by decide))) kw_1088 kw_692 kw_20 kw_693 (by decide +kernel) ⟨Nat.le_of_ble_eq_true rfl, Nat.le_of_ble_eq_true rfl⟩ rfl rfl hl.1 (Nat.le_of_ble_eq_true rfl) dX0_fewest_163 ⟨by show (0 + kc111) + 0 ≤ 1; omega, by show (0 + ks111) + 0 ≤ 16384; omega⟩) (fun v163 u H locs hz9 hH hS => ?_)
              obtain ⟨rfl, l_v163, u_v163⟩ := hz9
              have hH : HT D cs A T111 (a0 :: O) ((a0, .inr (0, [.ref n111_0_0, .int n111_0_1, .ref y2, .ref y3])) :: X) H := hH
              refine W.widen (k := 0 + kc111) (n := 0 + ks111) (Nat.le_refl _) (Nat.le_refl _) ?_
              refine lv_istore (lv' := [(13, .int v163), (11, .int v152), (12, .int p134_12), (10, .int v125), (9, .int p134_9), (6, .int v87), (0, .ref a0), (2, .int x2)]) hx hb dX0_fewest_166 hl (by decide) rfl (fun ls hl => ?_)
              refine lv_iload hx hb dX0_fewest_168 (lv_at hl 1 rfl) ?_
              refine lv_iload_n hx hb dX0_fewest_170 rfl (lv_at hl 7 rfl) ?_
              refine lv_iand hx hb dX0_fewest_171 ?_
              refine lv_topi (fun v171 ev171 => ?_)
              have tv171 : 0 ≤ v171.toInt ∧ v171.toInt ≤ v152.toInt := by rw [ev171]; exact and_l (by omega)
              have ttv171 : 0 ≤ v171.toInt ∧ v171.toInt ≤ x2.toInt := by rw [ev171]; exact and_r (by omega)
              refine lv_iload_n hx hb dX0_fewest_172 rfl (lv_at hl 7 rfl) ?_
              have J206 : ∀ (p206_9 : Int32) (H : Heap) (locs : List Loc) (ls : Array Slot), (-1 ≤ p206_9.toInt) → (p206_9.toInt ≤ 63) → HT D cs A T111 (a0 :: O) ((a0, .inr (0, [.ref n111_0_0, .int n111_0_1, .ref y2, .ref y3])) :: X) H → va_S A s.heap H locs → lv_has ls 14 [(11, .int v152), (12, .int p134_12), (10, .int v125), (9, .int p206_9), (6, .int v87), (0, .ref a0), (2, .int x2)] → W p l e { frames := 5, cells := 1, slots := 16384, locals := 129 } s m [.ref a0, .ref a1, .int x2, .int x3].toArray below meth c H locs (0 + kc111) (0 + ks111) (MQD below (fun kk ss => Ti D cs ((fun kk ss r u => ∃ T2 : TF, Tgr T T2 ∧ ∃ (n2 : Nat) (j2 : Nat) (n0_0 : Nat) (n0_1 : Int32), u = (T2, a0 :: O, (a0, .inr (0, [.ref n0_0, .int n0_1, .ref y2, .ref y3])) :: X) ∧ -1 ≤ r.toInt ∧ r.toInt ≤ 63 ∧ (T2 n0_0 = some (1, n2, 0)) ∧ (n2 = 2 ^ j2) ∧ (j ≤ j2) ∧ (j2 ≤ 14) ∧ (0 ≤ n0_1.toInt) ∧ (n0_1.toInt ≤ 16383) ∧ (True) ∧ (kk + j ≤ j2) ∧ (ss + 16384 * j ≤ 16384 * j2) ∧ (kk ≤ 1) ∧ (ss ≤ 16384)) kk ss) A) [.ref a0, .ref a1, .int x2, .int x3].toArray s A) (F0 m 206 ls []) := by
                intro p206_9 H locs ls l_p206_9 u_p206_9 hH hS hl
                obtain ⟨v206, ev206⟩ : ∃ y : Int32, y = p134_12 + 1 := ⟨_, rfl⟩
                have tv206 : v206.toInt = p134_12.toInt + (1) := by rw [ev206]; exact add_i rfl (by decide) (by omega) (by omega)
                refine lv_iinc (v := v206) (lv' := [(12, .int v206), (11, .int v152), (10, .int v125), (9, .int p206_9), (6, .int v87), (0, .ref a0), (2, .int x2)]) hx hb dX0_fewest_206 hl (k := 1) rfl (by rw [ev206]; rfl) (by decide) rfl (fun ls hl => ?_)
                refine lv_goto (tgt := 134) hx hb dX0_fewest_209 (by decide) ?_
                exact ih134 _ (by omega) v206 v152 p206_9 _ _ _ rfl (by omega) (by omega) (by omega) (by omega) (by omega) (by omega) hH hS (lv_sub hl [0, 1, 2, 3, 4, 5, 6] rfl)
              refine lv_icmp_ne (tgt := 206) hx hb dX0_fewest_173 (by decide) (fun c173 => ?_) (fun c173 => ?_)
              · skip
                have fuc173 := full_i v171
                have fvc173 := full_i x2
                have tc173 := g_ne c173
                exact J206 p134_9 _ _ _ (by omega) (by omega) hH hS (lv_sub hl [1, 2, 3, 4, 5, 6, 7] rfl)
              · skip
                have fuc173 := full_i v171
                have fvc173 := full_i x2
                have tc173 := g_eq c173
                refine lv_aload_n hx hb dX0_fewest_176 rfl (lv_at hl 6 rfl) ?_
                refine x_getk (ci := 0) (C := RX0) (F := TX0) (N := 4) (v := .ref n111_0_0) hx hb hts uX0 hown hkb hH 0 rfl rfl 0 (by decide) rfl kw_330 (fun _ h9 => h9) dX0_fewest_177 ?_
                refine lv_iload hx hb dX0_fewest_180 (lv_at hl 1 rfl) ?_
                refine t_ild hx hb hkb hH t_n111_0_0 (hO.no t_n111_0_0 (by decide)) (by omega) (by omega) dX0_fewest_182 (fun v182 h9 => ?_)
                refine lv_iload hx hb dX0_fewest_183 (lv_at hl 5 rfl) ?_
                refine lv_iand hx hb dX0_fewest_185 ?_
                refine lv_topi (fun v185 ev185 => ?_)
                have tv185 : 0 ≤ v185.toInt ∧ v185.toInt ≤ v87.toInt := by rw [ev185]; exact and_r (by omega)
                refine lv_if_eq (tgt := 206) hx hb dX0_fewest_186 (by decide) (fun c186 => ?_) (fun c186 => ?_)
                · skip
                  have tc186 := f_eq (k := 0) (by decide) c186
                  exact J206 p134_9 _ _ _ (by omega) (by omega) hH hS (lv_sub hl [1, 2, 3, 4, 5, 6, 7] rfl)
                · skip
                  have tc186 := f_ne (k := 0) (by decide) c186
                  refine lv_iload hx hb dX0_fewest_189 (lv_at hl 4 rfl) ?_
                  refine lv_iconst (v := (-1)) hx hb dX0_fewest_191 (by decide) ?_
                  have J202 : ∀  (H : Heap) (locs : List Loc) (ls : Array Slot), HT D cs A T111 (a0 :: O) ((a0, .inr (0, [.ref n111_0_0, .int n111_0_1, .ref y2, .ref y3])) :: X) H → va_S A s.heap H locs → lv_has ls 14 [(13, .int v163), (11, .int v152), (12, .int p134_12), (10, .int v125), (6, .int v87), (0, .ref a0), (2, .int x2)] → W p l e { frames := 5, cells := 1, slots := 16384, locals := 129 } s m [.ref a0, .ref a1, .int x2, .int x3].toArray below meth c H locs (0 + kc111) (0 + ks111) (MQD below (fun kk ss => Ti D cs ((fun kk ss r u => ∃ T2 : TF, Tgr T T2 ∧ ∃ (n2 : Nat) (j2 : Nat) (n0_0 : Nat) (n0_1 : Int32), u = (T2, a0 :: O, (a0, .inr (0, [.ref n0_0, .int n0_1, .ref y2, .ref y3])) :: X) ∧ -1 ≤ r.toInt ∧ r.toInt ≤ 63 ∧ (T2 n0_0 = some (1, n2, 0)) ∧ (n2 = 2 ^ j2) ∧ (j ≤ j2) ∧ (j2 ≤ 14) ∧ (0 ≤ n0_1.toInt) ∧ (n0_1.toInt ≤ 16383) ∧ (True) ∧ (kk + j ≤ j2) ∧ (ss + 16384 * j ≤ 16384 * j2) ∧ (kk ≤ 1) ∧ (ss ≤ 16384)) kk ss) A) [.ref a0, .ref a1, .int x2, .int x3].toArray s A) (F0 m 202 ls []) := by
                    intro  H locs ls  hH hS hl
                    refine lv_iload hx hb dX0_fewest_202 (lv_at hl 0 rfl) ?_
                    refine lv_istore (lv' := [(9, .int v163), (13, .int v163), (11, .int v152), (12, .int p134_12), (10, .int v125), (6, .int v87), (0, .ref a0), (2, .int x2)]) hx hb dX0_fewest_204 hl (by decide) rfl (fun ls hl => ?_)
                    exact J206 v163 _ _ _ (by omega) (by omega) hH hS (lv_sub hl [2, 3, 4, 0, 5, 6, 7] rfl)
                  refine lv_icmp_eq (tgt := 202) hx hb dX0_fewest_192 (by decide) (fun c192 => ?_) (fun c192 => ?_)
                  · skip
                    have tc192 := f_eq (k := -1) (by decide) c192
                    exact J202  _ _ _  hH hS (lv_sub hl [0, 1, 2, 3, 5, 6, 7] rfl)
                  · skip
                    have tc192 := f_ne (k := -1) (by decide) c192
                    refine lv_iload hx hb dX0_fewest_195 (lv_at hl 0 rfl) ?_
                    refine lv_iload hx hb dX0_fewest_197 (lv_at hl 4 rfl) ?_
                    refine lv_icmp_ge (tgt := 206) hx hb dX0_fewest_199 (by decide) (fun c199 => ?_) (fun c199 => ?_)
                    · skip
                      have fuc199 := full_i v163
                      have fvc199 := full_i p134_9
                      have tc199 := g_le c199
                      exact J206 p134_9 _ _ _ (by omega) (by omega) hH hS (lv_sub hl [1, 2, 3, 4, 5, 6, 7] rfl)
                    · skip
                      have fuc199 := full_i v163
                      have fvc199 := full_i p134_9
                      have tc199 := g_nle c199
                      exact J202  _ _ _  hH hS (lv_sub hl [0, 1, 2, 3, 5, 6, 7] rfl)
        refine lv_istore (lv' := [(12, .int 1), (11, .int 0), (10, .int v125), (9, .int (-1)), (6, .int v87), (8, .int v78), (7, .int v60), (5, .int v19), (4, .int v8), (0, .ref a0), (1, .ref a1), (2, .int x2)]) hx hb dX0_fewest_132 hl (by decide) rfl (fun ls hl => ?_)
        have z_m1 : ((-1) : Int32).toInt = -1 := by decide
        have z_0 : (0 : Int32).toInt = 0 := by decide
        have z_1 : (1 : Int32).toInt = 1 := by decide
        exact J134 _ 1 0 (-1) _ _ _ rfl (by decide) (by decide) (by decide) (by decide) (by decide) (by omega) hH hS (lv_sub hl [0, 1, 2, 3, 4, 9, 11] rfl)
      · skip
        have tc100 := f_eq (k := 0) (by decide) c100
        exact J103  _ _ _  hH hS (lv_sub hl [] rfl)
  refine lv_if_ne (tgt := 36) hx hb dX0_fewest_23 (by decide) (fun c23 => ?_) (fun c23 => ?_)
  · skip
    have tc23 := f_ne (k := 0) (by decide) c23
    exact J36  _ _ _  hH hS (lv_sub hl [0, 1, 2, 3, 4] rfl)
  · skip
    have tc23 := f_eq (k := 0) (by decide) c23
    refine lv_iload hx hb dX0_fewest_26 (lv_at hl 0 rfl) ?_
    refine lv_iload hx hb dX0_fewest_28 (lv_at hl 1 rfl) ?_
    refine lv_iand hx hb dX0_fewest_30 ?_
    refine lv_topi (fun v30 ev30 => ?_)
    have tv30 : 0 ≤ v30.toInt ∧ v30.toInt ≤ v19.toInt := by rw [ev30]; exact and_l (by omega)
    have ttv30 : 0 ≤ v30.toInt ∧ v30.toInt ≤ v8.toInt := by rw [ev30]; exact and_r (by omega)
    refine lv_if_eq (tgt := 36) hx hb dX0_fewest_31 (by decide) (fun c31 => ?_) (fun c31 => ?_)
    · skip
      have tc31 := f_eq (k := 0) (by decide) c31
      exact J36  _ _ _  hH hS (lv_sub hl [0, 1, 2, 3, 4] rfl)
    · skip
      have tc31 := f_ne (k := 0) (by decide) c31
      refine lv_iconst (v := 0) hx hb dX0_fewest_34 (by decide) ?_
      have z9_0 : (0 : Int32).toInt = 0 := by decide
      exact te_iD hx hb hr hlocks hH hS (⟨T, Tgr.rf, nn, j, y0, y1, rfl, by decide, by decide, t_y0, hn, by omega, by omega, by omega, by omega, trivial, by omega, by omega, by omega, by omega⟩) dX0_fewest_35
set_option maxHeartbeats 4000000 in
set_option maxRecDepth 100000 in
theorem s_Ch_first (l : Launch) (D : va_G) (cs : CS) (kf : KF) (T : TF) (O : List Nat) (X : va_W) (a0 : Nat) (a1 : Nat) (x2 : Int32) (x3 : Int32) (y0 : Nat) (y1 : Int32) (y2 : Nat) (y3 : Nat) (nn j gq : Nat) (t_a0 : T a0 = some (10, gq, 0)) (t_a1 : T a1 = some (15, 0, 0)) (t_y0 : T y0 = some (1, nn, 0)) (l_y1 : 0 ≤ y1.toInt) (u_y1 : y1.toInt ≤ 16383) (t_y2 : T y2 = some (1, 14, 1)) (t_y3 : T y3 = some (1, 14, 0)) (hn : nn = 2 ^ j) (hj : j ≤ 14) (hO : okO T (a0 :: O) [1, 12, 15, 19]) : TKD l D cs kf yX0_first cX0_first 12 (some (.int)) { frames := 6, cells := 1, slots := 16384, locals := 162 } [.ref a0, .ref a1, .int x2, .int x3] T (a0 :: O) ((a0, .inr (0, [.ref y0, .int y1, .ref y2, .ref y3])) :: X) (fun kk ss => Ti D cs ((fun kk ss r u => ∃ T2 : TF, Tgr T T2 ∧ ∃ (n2 : Nat) (j2 : Nat) (n0_0 : Nat) (n0_1 : Int32), u = (T2, a0 :: O, (a0, .inr (0, [.ref n0_0, .int n0_1, .ref y2, .ref y3])) :: X) ∧ 0 ≤ r.toInt ∧ r.toInt ≤ 14 ∧ (T2 n0_0 = some (1, n2, 0)) ∧ (n2 = 2 ^ j2) ∧ (j ≤ j2) ∧ (j2 ≤ 14) ∧ (0 ≤ n0_1.toInt) ∧ (n0_1.toInt ≤ 16383) ∧ (True) ∧ (kk + j ≤ j2) ∧ (ss + 16384 * j ≤ 16384 * j2) ∧ (kk ≤ 1) ∧ (ss ≤ 16384)) kk ss)) := by
  refine tkd_of (by decide) (Nat.le_of_ble_eq_true rfl) (fun p e s m below meth c ls A H locs hx hb hr hml hown hts hlocks hnm hkb hH hS hA hOX hks hE hl => ?_)
  have hown : s.vm.findClass RX0 = some m.cls := hown
  have hl : lv_has ls 12 [(0, .ref a0), (1, .ref a1), (2, .int x2), (3, .int x3)] := hl
  have hOXf := hOX
  have hnb := p2_le hn hj
  refine lv_aload_n hx hb dX0_first_0 rfl (lv_at hl 0 rfl) ?_
  refine lv_aload_n hx hb dX0_first_1 rfl (lv_at hl 1 rfl) ?_
  refine lv_iload_n hx hb dX0_first_2 rfl (lv_at hl 2 rfl) ?_
  refine lv_iload_n hx hb dX0_first_3 rfl (lv_at hl 3 rfl) ?_
  refine tk_iD hH hS hA (tr_VD (n := 3) (As := [.ref a1, .int x2, .int x3]) hx hb hml hown hts hkb hH (ox_map hOX rfl) hks hE hS hA (s_Ch_fewest l D cs kf T O X a0 a1 x2 x3 y0 y1 y2 y3 nn j gq t_a0 t_a1 t_y0 (by omega) (by omega) t_y2 t_y3 hn (by omega) (hO.sub (by decide))) kw_1140 kw_1128 kw_1129 kw_11 kw_1130 (by decide +kernel) ⟨Nat.le_of_ble_eq_true rfl, Nat.le_of_ble_eq_true rfl⟩ (x_recv (ci := 0) hkb hH 0 rfl rfl) rfl rfl hl.1 (Nat.le_of_ble_eq_true rfl) dX0_first_4 ⟨by show 0 + 1 ≤ 1; omega, by show 0 + 16384 ≤ 16384; omega⟩) (fun v4 kc4 ks4 u H locs hz9 hH hS => ?_)
  obtain ⟨T4, le_T4, n2_4, j2_4, n4_0_0, n4_0_1, rfl, l_v4, u_v4, x_v40, x_v41, x_v42, x_v43, x_v44, x_v45, x_v46, x_v47, x_v48, x_v49, x_v410⟩ := hz9
  have t_a0 := le_T4.1 _ _ t_a0
  have t_a1 := le_T4.1 _ _ t_a1
  have t_y0 := le_T4.1 _ _ t_y0
  have t_y2 := le_T4.1 _ _ t_y2
  have t_y3 := le_T4.1 _ _ t_y3
  have hO := okO.le le_T4.1 hO
  have t_n4_0_0 := x_v40
  have hnb_4 := p2_le x_v41 (by omega)
  have hH : HT D cs A T4 (a0 :: O) ((a0, .inr (0, [.ref n4_0_0, .int n4_0_1, .ref y2, .ref y3])) :: X) H := hH
  refine lv_istore (lv' := [(4, .int v4), (0, .ref a0), (1, .ref a1), (2, .int x2), (3, .int x3)]) hx hb dX0_first_7 hl (by decide) rfl (fun ls hl => ?_)
  refine lv_iload_n hx hb dX0_first_9 rfl (lv_at hl 4 rfl) ?_
  refine lv_aload_n hx hb dX0_first_10 rfl (lv_at hl 2 rfl) ?_
  refine t_get (ci := 5) (lst := ft5 0 0) (C := RX5) (F := TX5) (N := 6) hx hb hts uX5 hown hkb hH t_a1 (hO.no t_a1 (by decide)) (fun _ h9 => h9) rfl rfl 0 (by decide) rfl kw_247 (fun _ h9 => h9) dX0_first_11 (fun v9 h9 => ?_)
  obtain ⟨v11, hv11, gv11, rfl, t_v11⟩ := h9
  refine t_get (ci := 9) (lst := ft9w hv11 gv11) (C := RX9) (F := TX9) (N := 14) hx hb hts uX9 hown hkb hH t_v11.1 (hO.no t_v11.1 (by decide)) (fun fs => (ob9w t_v11 fs).mp) rfl rfl 4 (by decide) rfl kw_125 (fun _ h9 => h9) dX0_first_14 (fun v9 h9 => ?_)
  obtain ⟨v14, rfl, l_v14, u_v14⟩ := h9
  refine lv_iand hx hb dX0_first_17 ?_
  refine lv_topi (fun v17 ev17 => ?_)
  have tv17 : 0 ≤ v17.toInt ∧ v17.toInt ≤ v14.toInt := by rw [ev17]; exact and_r (by omega)
  refine lv_istore (lv' := [(5, .int v17), (4, .int v4), (0, .ref a0), (1, .ref a1), (2, .int x2), (3, .int x3)]) hx hb dX0_first_18 hl (by decide) rfl (fun ls hl => ?_)
  refine lv_iload hx hb dX0_first_20 (lv_at hl 1 rfl) ?_
  refine lv_iconst (v := (-1)) hx hb dX0_first_22 (by decide) ?_
  have J33 : ∀  (H : Heap) (locs : List Loc) (ls : Array Slot), HT D cs A T4 (a0 :: O) ((a0, .inr (0, [.ref n4_0_0, .int n4_0_1, .ref y2, .ref y3])) :: X) H → va_S A s.heap H locs → lv_has ls 12 [] → W p l e { frames := 6, cells := 1, slots := 16384, locals := 162 } s m [.ref a0, .ref a1, .int x2, .int x3].toArray below meth c H locs (0 + kc4) (0 + ks4) (MQD below (fun kk ss => Ti D cs ((fun kk ss r u => ∃ T2 : TF, Tgr T T2 ∧ ∃ (n2 : Nat) (j2 : Nat) (n0_0 : Nat) (n0_1 : Int32), u = (T2, a0 :: O, (a0, .inr (0, [.ref n0_0, .int n0_1, .ref y2, .ref y3])) :: X) ∧ 0 ≤ r.toInt ∧ r.toInt ≤ 14 ∧ (T2 n0_0 = some (1, n2, 0)) ∧ (n2 = 2 ^ j2) ∧ (j ≤ j2) ∧ (j2 ≤ 14) ∧ (0 ≤ n0_1.toInt) ∧ (n0_1.toInt ≤ 16383) ∧ (True) ∧ (kk + j ≤ j2) ∧ (ss + 16384 * j ≤ 16384 * j2) ∧ (kk ≤ 1) ∧ (ss ≤ 16384)) kk ss) A) [.ref a0, .ref a1, .int x2, .int x3].toArray s A) (F0 m 33 ls []) := by
    intro  H locs ls  hH hS hl
    refine lv_iconst (v := 0) hx hb dX0_first_33 (by decide) ?_
    have z9_0 : (0 : Int32).toInt = 0 := by decide
    exact te_iD hx hb hr hlocks hH hS (⟨T4, le_T4, n2_4, j2_4, n4_0_0, n4_0_1, rfl, by decide, by decide, t_n4_0_0, x_v41, by omega, by omega, by omega, by omega, trivial, by omega, by omega, by omega, by omega⟩) dX0_first_34
  refine lv_icmp_eq (tgt := 33) hx hb dX0_first_23 (by decide) (fun c23 => ?_) (fun c23 => ?_)
  · skip
    have tc23 := f_eq (k := -1) (by decide) c23
    exact J33  _ _ _  hH hS (lv_sub hl [] rfl)
  · skip
    have tc23 := f_ne (k := -1) (by decide) c23
    refine lv_iload hx hb dX0_first_26 (lv_at hl 1 rfl) ?_
    refine lv_bipush (v := 14) hx hb dX0_first_28 (by decide) ?_
    refine lv_icmp_lt (tgt := 35) hx hb dX0_first_30 (by decide) (fun c30 => ?_) (fun c30 => ?_)
    · skip
      have tc30 := f_lt (k := 14) (by decide) c30
      refine lv_iload hx hb dX0_first_35 (lv_at hl 1 rfl) ?_
      have J48 : ∀ (k48_0 : Int32) (H : Heap) (locs : List Loc) (ls : Array Slot), (0 ≤ k48_0.toInt) → (k48_0.toInt ≤ 16383) → HT D cs A T4 (a0 :: O) ((a0, .inr (0, [.ref n4_0_0, .int n4_0_1, .ref y2, .ref y3])) :: X) H → va_S A s.heap H locs → lv_has ls 12 [(5, .int v17), (4, .int v4), (0, .ref a0), (1, .ref a1), (2, .int x2), (3, .int x3)] → W p l e { frames := 6, cells := 1, slots := 16384, locals := 162 } s m [.ref a0, .ref a1, .int x2, .int x3].toArray below meth c H locs (0 + kc4) (0 + ks4) (MQD below (fun kk ss => Ti D cs ((fun kk ss r u => ∃ T2 : TF, Tgr T T2 ∧ ∃ (n2 : Nat) (j2 : Nat) (n0_0 : Nat) (n0_1 : Int32), u = (T2, a0 :: O, (a0, .inr (0, [.ref n0_0, .int n0_1, .ref y2, .ref y3])) :: X) ∧ 0 ≤ r.toInt ∧ r.toInt ≤ 14 ∧ (T2 n0_0 = some (1, n2, 0)) ∧ (n2 = 2 ^ j2) ∧ (j ≤ j2) ∧ (j2 ≤ 14) ∧ (0 ≤ n0_1.toInt) ∧ (n0_1.toInt ≤ 16383) ∧ (True) ∧ (kk + j ≤ j2) ∧ (ss + 16384 * j ≤ 16384 * j2) ∧ (kk ≤ 1) ∧ (ss ≤ 16384)) kk ss) A) [.ref a0, .ref a1, .int x2, .int x3].toArray s A) (F0 m 48 ls [.int k48_0]) := by
        intro k48_0 H locs ls l_k48_0 u_k48_0 hH hS hl
        refine lv_istore (lv' := [(6, .int k48_0), (5, .int v17), (4, .int v4), (0, .ref a0), (1, .ref a1), (2, .int x2), (3, .int x3)]) hx hb dX0_first_48 hl (by decide) rfl (fun ls hl => ?_)
        refine lv_iload hx hb dX0_first_50 (lv_at hl 0 rfl) ?_
        refine lv_iload_n hx hb dX0_first_52 rfl (lv_at hl 5 rfl) ?_
        refine lv_iconst (v := (-1)) hx hb dX0_first_53 (by decide) ?_
        refine lv_ixor hx hb dX0_first_54 ?_
        refine lv_topi (fun v54 ev54 => ?_)
        refine lv_iand hx hb dX0_first_55 ?_
        refine lv_topi (fun v55 ev55 => ?_)
        have tv55 : 0 ≤ v55.toInt ∧ v55.toInt ≤ k48_0.toInt := by rw [ev55]; exact and_l (by omega)
        refine lv_istore (lv' := [(7, .int v55), (6, .int k48_0), (5, .int v17), (4, .int v4), (0, .ref a0), (1, .ref a1), (2, .int x2), (3, .int x3)]) hx hb dX0_first_56 hl (by decide) rfl (fun ls hl => ?_)
        refine lv_iload_n hx hb dX0_first_58 rfl (lv_at hl 7 rfl) ?_
        refine lv_aload_n hx hb dX0_first_59 rfl (lv_at hl 5 rfl) ?_
        refine t_get (ci := 5) (lst := ft5 0 0) (C := RX5) (F := TX5) (N := 6) hx hb hts uX5 hown hkb hH t_a1 (hO.no t_a1 (by decide)) (fun _ h9 => h9) rfl rfl 0 (by decide) rfl kw_247 (fun _ h9 => h9) dX0_first_60 (fun v9 h9 => ?_)
        obtain ⟨v60, hv60, gv60, rfl, t_v60⟩ := h9
        refine t_get (ci := 9) (lst := ft9w hv60 gv60) (C := RX9) (F := TX9) (N := 14) hx hb hts uX9 hown hkb hH t_v60.1 (hO.no t_v60.1 (by decide)) (fun fs => (ob9w t_v60 fs).mp) rfl rfl 3 (by decide) rfl kw_119 (fun _ h9 => h9) dX0_first_63 (fun v9 h9 => ?_)
        obtain ⟨v63, rfl, l_v63, u_v63⟩ := h9
        refine lv_iand hx hb dX0_first_66 ?_
        refine lv_topi (fun v66 ev66 => ?_)
        have tv66 : 0 ≤ v66.toInt ∧ v66.toInt ≤ v63.toInt := by rw [ev66]; exact and_r (by omega)
        refine lv_istore (lv' := [(8, .int v66), (7, .int v55), (6, .int k48_0), (5, .int v17), (4, .int v4), (0, .ref a0), (1, .ref a1), (2, .int x2), (3, .int x3)]) hx hb dX0_first_67 hl (by decide) rfl (fun ls hl => ?_)
        refine lv_iconst (v := 0) hx hb dX0_first_69 (by decide) ?_
        have J72 : ∀ (n : Nat) (p72_9 : Int32) (p72_8 : Int32) (p72_6 : Int32) (H : Heap) (locs : List Loc) (ls : Array Slot), (13 - p72_9.toInt).toNat = n → (0 ≤ p72_9.toInt) → (p72_9.toInt ≤ 13) → (0 ≤ p72_8.toInt) → (p72_8.toInt ≤ 16383) → (0 ≤ p72_6.toInt) → (p72_6.toInt ≤ 16383) → HT D cs A T4 (a0 :: O) ((a0, .inr (0, [.ref n4_0_0, .int n4_0_1, .ref y2, .ref y3])) :: X) H → va_S A s.heap H locs → lv_has ls 12 [(9, .int p72_9), (8, .int p72_8), (7, .int v55), (6, .int p72_6), (5, .int v17), (4, .int v4), (0, .ref a0), (1, .ref a1), (2, .int x2)] → W p l e { frames := 6, cells := 1, slots := 16384, locals := 162 } s m [.ref a0, .ref a1, .int x2, .int x3].toArray below meth c H locs (0 + kc4) (0 + ks4) (MQD below (fun kk ss => Ti D cs ((fun kk ss r u => ∃ T2 : TF, Tgr T T2 ∧ ∃ (n2 : Nat) (j2 : Nat) (n0_0 : Nat) (n0_1 : Int32), u = (T2, a0 :: O, (a0, .inr (0, [.ref n0_0, .int n0_1, .ref y2, .ref y3])) :: X) ∧ 0 ≤ r.toInt ∧ r.toInt ≤ 14 ∧ (T2 n0_0 = some (1, n2, 0)) ∧ (n2 = 2 ^ j2) ∧ (j ≤ j2) ∧ (j2 ≤ 14) ∧ (0 ≤ n0_1.toInt) ∧ (n0_1.toInt ≤ 16383) ∧ (True) ∧ (kk + j ≤ j2) ∧ (ss + 16384 * j ≤ 16384 * j2) ∧ (kk ≤ 1) ∧ (ss ≤ 16384)) kk ss) A) [.ref a0, .ref a1, .int x2, .int x3].toArray s A) (F0 m 72 ls []) := by
          intro n
          induction n using Nat.strongRecOn with
          | _ n ih72 =>
            intro p72_9 p72_8 p72_6 H locs ls hm72 l_p72_9 u_p72_9 l_p72_8 u_p72_8 l_p72_6 u_p72_6 hH hS hl
            refine lv_iload hx hb dX0_first_72 (lv_at hl 0 rfl) ?_
            refine lv_iload hx hb dX0_first_74 (lv_at hl 5 rfl) ?_
            refine lv_icmp_ge (tgt := 148) hx hb dX0_first_76 (by decide) (fun c76 => ?_) (fun c76 => ?_)
            · skip
              have fuc76 := full_i p72_9
              have fvc76 := full_i v4
              have tc76 := g_le c76
              refine lv_aload_n hx hb dX0_first_148 rfl (lv_at hl 6 rfl) ?_
              refine x_getk (ci := 0) (C := RX0) (F := TX0) (N := 4) (v := .ref y3) hx hb hts uX0 hown hkb hH 0 rfl rfl 3 (by decide) rfl kw_333 (fun _ h9 => h9) dX0_first_149 ?_
              refine lv_iload hx hb dX0_first_152 (lv_at hl 5 rfl) ?_
              refine lv_iload hx hb dX0_first_154 (lv_at hl 1 rfl) ?_
              refine lv_iload hx hb dX0_first_156 (lv_at hl 4 rfl) ?_
              refine lv_iand hx hb dX0_first_158 ?_
              refine lv_topi (fun v158 ev158 => ?_)
              have tv158 : 0 ≤ v158.toInt ∧ v158.toInt ≤ p72_8.toInt := by rw [ev158]; exact and_l (by omega)
              have ttv158 : 0 ≤ v158.toInt ∧ v158.toInt ≤ v17.toInt := by rw [ev158]; exact and_r (by omega)
              refine tk_i hH hS hA (tr_S (n := 1) (As := [.int v158]) hx hb hml hown hts hkb hH (ox_map hOX rfl) hks hE hS hA (s_ntz l D cs kf T4 (a0 :: O) ((a0, .inr (0, [.ref n4_0_0, .int n4_0_1, .ref y2, .ref y3])) :: X) v158  (hO.sub (by decide))) kw_1145 kw_859 kw_20 kw_860 (by decide +kernel) ⟨Nat.le_of_ble_eq_true rfl, Nat.le_of_ble_eq_true rfl⟩ rfl rfl hl.1 (Nat.le_of_ble_eq_true rfl) dX0_first_159 ⟨by show (0 + kc4) + 0 ≤ 1; omega, by show (0 + ks4) + 0 ≤ 16384; omega⟩) (fun v159 u H locs hz9 hH hS => ?_)
              have hz9 : u = (T4, a0 :: O, (a0, .inr (0, [.ref n4_0_0, .int n4_0_1, .ref y2, .ref y3])) :: X) := hz9
              subst hz9
              have hH : HT D cs A T4 (a0 :: O) ((a0, .inr (0, [.ref n4_0_0, .int n4_0_1, .ref y2, .ref y3])) :: X) H := hH
              refine W.widen (k := 0 + kc4) (n := 0 + ks4) (Nat.le_refl _) (Nat.le_refl _) ?_
              refine t_ist hx hb hkb hH hS t_y3 (hO.no t_y3 (by decide)) (by omega) (by omega) (cp_0 _) dX0_first_162 (fun H locs hH hS => ?_)
              refine lv_iload hx hb dX0_first_163 (lv_at hl 5 rfl) ?_
              refine lv_iconst (v := 1) hx hb dX0_first_165 (by decide) ?_
              refine lv_iadd hx hb dX0_first_166 ?_
              refine lv_topi (fun v166 ev166 => ?_)
              have tv166 : v166.toInt = v4.toInt + (1) := by rw [ev166]; exact add_i rfl (by decide : (1 : Int32).toInt = 1) (by omega) (by omega)
              exact te_iD hx hb hr hlocks hH hS (⟨T4, le_T4, n2_4, j2_4, n4_0_0, n4_0_1, rfl, by omega, by omega, t_n4_0_0, x_v41, by omega, by omega, by omega, by omega, trivial, by omega, by omega, by omega, by omega⟩) dX0_first_167
            · skip
              have fuc76 := full_i p72_9
              have fvc76 := full_i v4
              have tc76 := g_nle c76
              refine lv_aload_n hx hb dX0_first_79 rfl (lv_at hl 6 rfl) ?_
              refine lv_iload_n hx hb dX0_first_80 rfl (lv_at hl 8 rfl) ?_
              refine lv_iload hx hb dX0_first_81 (lv_at hl 3 rfl) ?_
              refine lv_iand hx hb dX0_first_83 ?_
              refine lv_topi (fun v83 ev83 => ?_)
              have tv83 : 0 ≤ v83.toInt ∧ v83.toInt ≤ p72_6.toInt := by rw [ev83]; exact and_r (by omega)
              refine lv_iload hx hb dX0_first_84 (lv_at hl 2 rfl) ?_
              refine lv_iload hx hb dX0_first_86 (lv_at hl 3 rfl) ?_
              refine lv_iand hx hb dX0_first_88 ?_
              refine lv_topi (fun v88 ev88 => ?_)
              have tv88 : 0 ≤ v88.toInt ∧ v88.toInt ≤ v55.toInt := by rw [ev88]; exact and_l (by omega)
              have ttv88 : 0 ≤ v88.toInt ∧ v88.toInt ≤ p72_6.toInt := by rw [ev88]; exact and_r (by omega)
              refine lv_iload hx hb dX0_first_89 (lv_at hl 5 rfl) ?_
              refine lv_iload hx hb dX0_first_91 (lv_at hl 0 rfl) ?_
              refine lv_isub hx hb dX0_first_93 ?_
              refine lv_topi (fun v93 ev93 => ?_)
              have tv93 : v93.toInt = v4.toInt - p72_9.toInt := by rw [ev93]; exact sub_i rfl rfl (by omega) (by omega)
              refine tk_i hH hS hA (tr_V (n := 3) (As := [.int v83, .int v88, .int v93]) hx hb hml hown hts hkb hH (ox_map hOX rfl) hks hE hS hA (s_Ch_begunOver l D cs kf T4 O X a0 v83 v88 v93 n4_0_0 n4_0_1 y2 y3 n2_4 j2_4 gq t_a0 t_n4_0_0 (by omega) (by omega) t_y2 t_y3 x_v41 (by omega) (hO.sub (by decide))) kw_1141 kw_1143 ks_40 kw_11 kw_1144 (by decide +kernel) ⟨Nat.le_of_ble_eq_true rfl, Nat.le_of_ble_eq_true rfl⟩ (x_recv (ci := 0) hkb hH 0 rfl rfl) rfl rfl hl.1 (Nat.le_of_ble_eq_true rfl) dX0_first_94 ⟨by show (0 + kc4) + 0 ≤ 1; omega, by show (0 + ks4) + 0 ≤ 16384; omega⟩) (fun v94 u H locs hz9 hH hS => ?_)
              obtain ⟨rfl⟩ := hz9
              have hH : HT D cs A T4 (a0 :: O) ((a0, .inr (0, [.ref n4_0_0, .int n4_0_1, .ref y2, .ref y3])) :: X) H := hH
              refine W.widen (k := 0 + kc4) (n := 0 + ks4) (Nat.le_refl _) (Nat.le_refl _) ?_
              refine lv_iload hx hb dX0_first_97 (lv_at hl 1 rfl) ?_
              refine lv_iand hx hb dX0_first_99 ?_
              refine lv_topi (fun v99 ev99 => ?_)
              have tv99 : 0 ≤ v99.toInt ∧ v99.toInt ≤ p72_8.toInt := by rw [ev99]; exact and_r (by omega)
              refine lv_istore (lv' := [(10, .int v99), (9, .int p72_9), (8, .int p72_8), (7, .int v55), (6, .int p72_6), (5, .int v17), (4, .int v4), (0, .ref a0), (1, .ref a1), (2, .int x2)]) hx hb dX0_first_100 hl (by decide) rfl (fun ls hl => ?_)
              refine lv_iload hx hb dX0_first_102 (lv_at hl 0 rfl) ?_
              refine tk_i hH hS hA (tr_S (n := 1) (As := [.int v99]) hx hb hml hown hts hkb hH (ox_map hOX rfl) hks hE hS hA (s_ntz l D cs kf T4 (a0 :: O) ((a0, .inr (0, [.ref n4_0_0, .int n4_0_1, .ref y2, .ref y3])) :: X) v99  (hO.sub (by decide))) kw_1145 kw_859 kw_20 kw_860 (by decide +kernel) ⟨Nat.le_of_ble_eq_true rfl, Nat.le_of_ble_eq_true rfl⟩ rfl rfl hl.1 (Nat.le_of_ble_eq_true rfl) dX0_first_104 ⟨by show (0 + kc4) + 0 ≤ 1; omega, by show (0 + ks4) + 0 ≤ 16384; omega⟩) (fun v104 u H locs hz9 hH hS => ?_)
              have hz9 : u = (T4, a0 :: O, (a0, .inr (0, [.ref n4_0_0, .int n4_0_1, .ref y2, .ref y3])) :: X) := hz9
              subst hz9
              have hH : HT D cs A T4 (a0 :: O) ((a0, .inr (0, [.ref n4_0_0, .int n4_0_1, .ref y2, .ref y3])) :: X) H := hH
              refine W.widen (k := 0 + kc4) (n := 0 + ks4) (Nat.le_refl _) (Nat.le_refl _) ?_
              refine lv_istore (lv' := [(11, .int v104), (10, .int v99), (9, .int p72_9), (8, .int p72_8), (7, .int v55), (6, .int p72_6), (5, .int v17), (4, .int v4), (0, .ref a0), (1, .ref a1), (2, .int x2)]) hx hb dX0_first_107 hl (by decide) rfl (fun ls hl => ?_)
              refine lv_aload_n hx hb dX0_first_109 rfl (lv_at hl 8 rfl) ?_
              refine x_getk (ci := 0) (C := RX0) (F := TX0) (N := 4) (v := .ref y3) hx hb hts uX0 hown hkb hH 0 rfl rfl 3 (by decide) rfl kw_333 (fun _ h9 => h9) dX0_first_110 ?_
              refine lv_iload hx hb dX0_first_113 (lv_at hl 2 rfl) ?_
              refine lv_iload hx hb dX0_first_115 (lv_at hl 0 rfl) ?_
              refine t_ist hx hb hkb hH hS t_y3 (hO.no t_y3 (by decide)) (by omega) (by omega) (cp_0 _) dX0_first_117 (fun H locs hH hS => ?_)
              refine lv_iload hx hb dX0_first_118 (lv_at hl 5 rfl) ?_
              refine lv_iconst (v := 1) hx hb dX0_first_120 (by decide) ?_
              refine lv_iload hx hb dX0_first_121 (lv_at hl 0 rfl) ?_
              refine lv_ishl hx hb dX0_first_123 ?_
              refine lv_topi (fun v123 ev123 => ?_)
              refine lv_iconst (v := (-1)) hx hb dX0_first_124 (by decide) ?_
              refine lv_ixor hx hb dX0_first_125 ?_
              refine lv_topi (fun v125 ev125 => ?_)
              refine lv_iand hx hb dX0_first_126 ?_
              refine lv_topi (fun v126 ev126 => ?_)
              have tv126 : 0 ≤ v126.toInt ∧ v126.toInt ≤ p72_6.toInt := by rw [ev126]; exact and_l (by omega)
              refine lv_istore (lv' := [(6, .int v126), (11, .int v104), (10, .int v99), (9, .int p72_9), (8, .int p72_8), (7, .int v55), (5, .int v17), (4, .int v4), (0, .ref a0), (1, .ref a1), (2, .int x2)]) hx hb dX0_first_127 hl (by decide) rfl (fun ls hl => ?_)
              refine lv_aload_n hx hb dX0_first_129 rfl (lv_at hl 9 rfl) ?_
              refine lv_iload hx hb dX0_first_130 (lv_at hl 1 rfl) ?_
              refine lv_iload hx hb dX0_first_132 (lv_at hl 0 rfl) ?_
              refine lv_iload hx hb dX0_first_134 (lv_at hl 6 rfl) ?_
              refine lv_ior hx hb dX0_first_136 ?_
              refine lv_topi (fun v136 ev136 => ?_)
              have tv136 : 0 ≤ v136.toInt ∧ v136.toInt < 16384 := by rw [ev136]; exact or_b 14 (by decide) (by omega) (by omega) (by omega) (by omega)
              refine tk_i hH hS hA (tr_V (n := 2) (As := [.int v104, .int v136]) hx hb hml hown hts hkb hH (ox_map hOX rfl) hks hE hS hA (s_Rows_stepped l D cs kf T4 (a0 :: O) ((a0, .inr (0, [.ref n4_0_0, .int n4_0_1, .ref y2, .ref y3])) :: X) a1 v104 v136 t_a1 (hO.sub (by decide))) kw_1075 kw_863 kw_864 kw_8 kw_865 (by decide +kernel) ⟨Nat.le_of_ble_eq_true rfl, Nat.le_of_ble_eq_true rfl⟩ (HT.recv (ci := 5) hkb hH t_a1 (hO.no t_a1 (by decide)) rfl) rfl rfl hl.1 (Nat.le_of_ble_eq_true rfl) dX0_first_137 ⟨by show (0 + kc4) + 0 ≤ 1; omega, by show (0 + ks4) + 0 ≤ 16384; omega⟩) (fun v137 u H locs hz9 hH hS => ?_)
              obtain ⟨rfl, l_v137, u_v137⟩ := hz9
              have hH : HT D cs A T4 (a0 :: O) ((a0, .inr (0, [.ref n4_0_0, .int n4_0_1, .ref y2, .ref y3])) :: X) H := hH
              refine W.widen (k := 0 + kc4) (n := 0 + ks4) (Nat.le_refl _) (Nat.le_refl _) ?_
              refine lv_istore (lv' := [(8, .int v137), (6, .int v126), (11, .int v104), (10, .int v99), (9, .int p72_9), (7, .int v55), (5, .int v17), (4, .int v4), (0, .ref a0), (1, .ref a1), (2, .int x2)]) hx hb dX0_first_140 hl (by decide) rfl (fun ls hl => ?_)
              obtain ⟨v142, ev142⟩ : ∃ y : Int32, y = p72_9 + 1 := ⟨_, rfl⟩
              have tv142 : v142.toInt = p72_9.toInt + (1) := by rw [ev142]; exact add_i rfl (by decide) (by omega) (by omega)
              refine lv_iinc (v := v142) (lv' := [(9, .int v142), (8, .int v137), (6, .int v126), (11, .int v104), (10, .int v99), (7, .int v55), (5, .int v17), (4, .int v4), (0, .ref a0), (1, .ref a1), (2, .int x2)]) hx hb dX0_first_142 hl (k := 4) rfl (by rw [ev142]; rfl) (by decide) rfl (fun ls hl => ?_)
              refine lv_goto (tgt := 72) hx hb dX0_first_145 (by decide) ?_
              exact ih72 _ (by omega) v142 v137 v126 _ _ _ rfl (by omega) (by omega) (by omega) (by omega) (by omega) (by omega) hH hS (lv_sub hl [0, 1, 5, 2, 6, 7, 8, 9, 10] rfl)
        refine lv_istore (lv' := [(9, .int 0), (8, .int v66), (7, .int v55), (6, .int k48_0), (5, .int v17), (4, .int v4), (0, .ref a0), (1, .ref a1), (2, .int x2), (3, .int x3)]) hx hb dX0_first_70 hl (by decide) rfl (fun ls hl => ?_)
        exact J72 _ 0 v66 k48_0 _ _ _ rfl (by decide) (by decide) (by omega) (by omega) (by omega) (by omega) hH hS (lv_sub hl [0, 1, 2, 3, 4, 5, 6, 7, 8] rfl)
      refine lv_if_ne (tgt := 44) hx hb dX0_first_37 (by decide) (fun c37 => ?_) (fun c37 => ?_)
      · skip
        have tc37 := f_ne (k := 0) (by decide) c37
        refine lv_aload_n hx hb dX0_first_44 rfl (lv_at hl 2 rfl) ?_
        refine x_getk (ci := 0) (C := RX0) (F := TX0) (N := 4) (v := .int n4_0_1) hx hb hts uX0 hown hkb hH 0 rfl rfl 1 (by decide) rfl kw_331 (fun _ h9 => h9) dX0_first_45 ?_
        exact J48 n4_0_1 _ _ _ (by omega) (by omega) hH hS (lv_sub hl [0, 1, 2, 3, 4, 5] rfl)
      · skip
        have tc37 := f_eq (k := 0) (by decide) c37
        refine lv_iconst (v := 0) hx hb dX0_first_40 (by decide) ?_
        refine lv_goto (tgt := 48) hx hb dX0_first_41 (by decide) ?_
        exact J48 0 _ _ _ (by decide) (by decide) hH hS (lv_sub hl [0, 1, 2, 3, 4, 5] rfl)
    · skip
      have tc30 := f_nlt (k := 14) (by decide) c30
      exact J33  _ _ _  hH hS (lv_sub hl [] rfl)
theorem dX11_idle_0 : decode cX11_idle 0 = .ok (.aload_n 0, 1) := by decide +kernel
theorem dX11_idle_1 : decode cX11_idle 1 = .ok (.iload_n 1, 1) := by decide +kernel
theorem dX11_idle_2 : decode cX11_idle 2 = .ok (.invokevirtual 186, 3) := by decide +kernel
theorem dX11_idle_5 : decode cX11_idle 5 = .ok (.ifCond .ne 6, 3) := by decide +kernel
theorem dX11_idle_8 : decode cX11_idle 8 = .ok (.bipush (-2), 2) := by decide +kernel
theorem dX11_idle_10 : decode cX11_idle 10 = .ok (.ireturn, 1) := by decide +kernel
theorem dX11_idle_11 : decode cX11_idle 11 = .ok (.aload_n 0, 1) := by decide +kernel
theorem dX11_idle_12 : decode cX11_idle 12 = .ok (.invokevirtual 206, 3) := by decide +kernel
theorem dX11_idle_15 : decode cX11_idle 15 = .ok (.istore_n 2, 1) := by decide +kernel
theorem dX11_idle_16 : decode cX11_idle 16 = .ok (.iload_n 2, 1) := by decide +kernel
theorem dX11_idle_17 : decode cX11_idle 17 = .ok (.aload_n 0, 1) := by decide +kernel
theorem dX11_idle_18 : decode cX11_idle 18 = .ok (.getfield 96, 3) := by decide +kernel
theorem dX11_idle_21 : decode cX11_idle 21 = .ok (.aload_n 0, 1) := by decide +kernel
theorem dX11_idle_22 : decode cX11_idle 22 = .ok (.iload_n 1, 1) := by decide +kernel
theorem dX11_idle_23 : decode cX11_idle 23 = .ok (.invokevirtual 202, 3) := by decide +kernel
theorem dX11_idle_26 : decode cX11_idle 26 = .ok (.iload_n 2, 1) := by decide +kernel
theorem dX11_idle_27 : decode cX11_idle 27 = .ok (.invokevirtual 335, 3) := by decide +kernel
theorem dX11_idle_30 : decode cX11_idle 30 = .ok (.iconst (-1), 1) := by decide +kernel
theorem dX11_idle_31 : decode cX11_idle 31 = .ok (.ixor, 1) := by decide +kernel
theorem dX11_idle_32 : decode cX11_idle 32 = .ok (.iand, 1) := by decide +kernel
theorem dX11_idle_33 : decode cX11_idle 33 = .ok (.ireturn, 1) := by decide +kernel
theorem dX11_order_0 : decode cX11_order 0 = .ok (.aload_n 0, 1) := by decide +kernel
theorem dX11_order_1 : decode cX11_order 1 = .ok (.iload_n 1, 1) := by decide +kernel
theorem dX11_order_2 : decode cX11_order 2 = .ok (.invokevirtual 186, 3) := by decide +kernel
theorem dX11_order_5 : decode cX11_order 5 = .ok (.ifCond .eq 12, 3) := by decide +kernel
theorem dX11_order_8 : decode cX11_order 8 = .ok (.iload_n 3, 1) := by decide +kernel
theorem dX11_order_9 : decode cX11_order 9 = .ok (.bipush 14, 2) := by decide +kernel
theorem dX11_order_11 : decode cX11_order 11 = .ok (.invokestatic 299, 3) := by decide +kernel
theorem dX11_order_14 : decode cX11_order 14 = .ok (.ifCond .ne 6, 3) := by decide +kernel
theorem dX11_order_17 : decode cX11_order 17 = .ok (.bipush (-2), 2) := by decide +kernel
theorem dX11_order_19 : decode cX11_order 19 = .ok (.ireturn, 1) := by decide +kernel
theorem dX11_order_20 : decode cX11_order 20 = .ok (.aload_n 0, 1) := by decide +kernel
theorem dX11_order_21 : decode cX11_order 21 = .ok (.aload_n 0, 1) := by decide +kernel
theorem dX11_order_22 : decode cX11_order 22 = .ok (.getfield 36, 3) := by decide +kernel
theorem dX11_order_25 : decode cX11_order 25 = .ok (.getfield 161, 3) := by decide +kernel
theorem dX11_order_28 : decode cX11_order 28 = .ok (.invokevirtual 164, 3) := by decide +kernel
theorem dX11_order_31 : decode cX11_order 31 = .ok (.istore 4, 2) := by decide +kernel
theorem dX11_order_33 : decode cX11_order 33 = .ok (.iload_n 2, 1) := by decide +kernel
theorem dX11_order_34 : decode cX11_order 34 = .ok (.iload 4, 2) := by decide +kernel
theorem dX11_order_36 : decode cX11_order 36 = .ok (.aload_n 0, 1) := by decide +kernel
theorem dX11_order_37 : decode cX11_order 37 = .ok (.getfield 29, 3) := by decide +kernel
theorem dX11_order_40 : decode cX11_order 40 = .ok (.invokevirtual 265, 3) := by decide +kernel
theorem dX11_order_43 : decode cX11_order 43 = .ok (.iand, 1) := by decide +kernel
theorem dX11_order_44 : decode cX11_order 44 = .ok (.iconst (-1), 1) := by decide +kernel
theorem dX11_order_45 : decode cX11_order 45 = .ok (.ixor, 1) := by decide +kernel
theorem dX11_order_46 : decode cX11_order 46 = .ok (.iand, 1) := by decide +kernel
theorem dX11_order_47 : decode cX11_order 47 = .ok (.ifCond .eq 6, 3) := by decide +kernel
theorem dX11_order_50 : decode cX11_order 50 = .ok (.bipush (-3), 2) := by decide +kernel
theorem dX11_order_52 : decode cX11_order 52 = .ok (.ireturn, 1) := by decide +kernel
theorem dX11_order_53 : decode cX11_order 53 = .ok (.aload_n 0, 1) := by decide +kernel
theorem dX11_order_54 : decode cX11_order 54 = .ok (.getfield 96, 3) := by decide +kernel
theorem dX11_order_57 : decode cX11_order 57 = .ok (.getfield 345, 3) := by decide +kernel
theorem dX11_order_60 : decode cX11_order 60 = .ok (.aload_n 0, 1) := by decide +kernel
theorem dX11_order_61 : decode cX11_order 61 = .ok (.getfield 96, 3) := by decide +kernel
theorem dX11_order_64 : decode cX11_order 64 = .ok (.aload_n 0, 1) := by decide +kernel
theorem dX11_order_65 : decode cX11_order 65 = .ok (.iload_n 1, 1) := by decide +kernel
theorem dX11_order_66 : decode cX11_order 66 = .ok (.invokevirtual 202, 3) := by decide +kernel
theorem dX11_order_69 : decode cX11_order 69 = .ok (.iload_n 2, 1) := by decide +kernel
theorem dX11_order_70 : decode cX11_order 70 = .ok (.iload 4, 2) := by decide +kernel
theorem dX11_order_72 : decode cX11_order 72 = .ok (.invokevirtual 346, 3) := by decide +kernel
theorem dX11_order_75 : decode cX11_order 75 = .ok (.iload_n 3, 1) := by decide +kernel
theorem dX11_order_76 : decode cX11_order 76 = .ok (.invokestatic 306, 3) := by decide +kernel
theorem dX11_order_79 : decode cX11_order 79 = .ok (.ireturn, 1) := by decide +kernel
theorem dX11_whose_0 : decode cX11_whose 0 = .ok (.aload_n 0, 1) := by decide +kernel
theorem dX11_whose_1 : decode cX11_whose 1 = .ok (.aload_n 0, 1) := by decide +kernel
theorem dX11_whose_2 : decode cX11_whose 2 = .ok (.getfield 36, 3) := by decide +kernel
theorem dX11_whose_5 : decode cX11_whose 5 = .ok (.getfield 161, 3) := by decide +kernel
theorem dX11_whose_8 : decode cX11_whose 8 = .ok (.invokevirtual 164, 3) := by decide +kernel
theorem dX11_whose_11 : decode cX11_whose 11 = .ok (.istore_n 2, 1) := by decide +kernel
theorem dX11_whose_12 : decode cX11_whose 12 = .ok (.iload_n 1, 1) := by decide +kernel
theorem dX11_whose_13 : decode cX11_whose 13 = .ok (.iload_n 2, 1) := by decide +kernel
theorem dX11_whose_14 : decode cX11_whose 14 = .ok (.aload_n 0, 1) := by decide +kernel
theorem dX11_whose_15 : decode cX11_whose 15 = .ok (.getfield 29, 3) := by decide +kernel
theorem dX11_whose_18 : decode cX11_whose 18 = .ok (.invokevirtual 265, 3) := by decide +kernel
theorem dX11_whose_21 : decode cX11_whose 21 = .ok (.iand, 1) := by decide +kernel
theorem dX11_whose_22 : decode cX11_whose 22 = .ok (.iconst (-1), 1) := by decide +kernel
theorem dX11_whose_23 : decode cX11_whose 23 = .ok (.ixor, 1) := by decide +kernel
theorem dX11_whose_24 : decode cX11_whose 24 = .ok (.iand, 1) := by decide +kernel
theorem dX11_whose_25 : decode cX11_whose 25 = .ok (.ifCond .eq 6, 3) := by decide +kernel
theorem dX11_whose_28 : decode cX11_whose 28 = .ok (.bipush (-3), 2) := by decide +kernel
theorem dX11_whose_30 : decode cX11_whose 30 = .ok (.ireturn, 1) := by decide +kernel
theorem dX11_whose_31 : decode cX11_whose 31 = .ok (.iconst 0, 1) := by decide +kernel
theorem dX11_whose_32 : decode cX11_whose 32 = .ok (.istore_n 3, 1) := by decide +kernel
theorem dX11_whose_33 : decode cX11_whose 33 = .ok (.iconst 0, 1) := by decide +kernel
theorem dX11_whose_34 : decode cX11_whose 34 = .ok (.istore 4, 2) := by decide +kernel
theorem dX11_whose_36 : decode cX11_whose 36 = .ok (.iload 4, 2) := by decide +kernel
theorem dX11_whose_38 : decode cX11_whose 38 = .ok (.aload_n 0, 1) := by decide +kernel
theorem dX11_whose_39 : decode cX11_whose 39 = .ok (.getfield 29, 3) := by decide +kernel
theorem dX11_whose_42 : decode cX11_whose 42 = .ok (.getfield 216, 3) := by decide +kernel
theorem dX11_whose_45 : decode cX11_whose 45 = .ok (.if_icmp .ge 35, 3) := by decide +kernel
theorem dX11_whose_48 : decode cX11_whose 48 = .ok (.aload_n 0, 1) := by decide +kernel
theorem dX11_whose_49 : decode cX11_whose 49 = .ok (.getfield 96, 3) := by decide +kernel
theorem dX11_whose_52 : decode cX11_whose 52 = .ok (.aload_n 0, 1) := by decide +kernel
theorem dX11_whose_53 : decode cX11_whose 53 = .ok (.iload 4, 2) := by decide +kernel
theorem dX11_whose_55 : decode cX11_whose 55 = .ok (.invokevirtual 202, 3) := by decide +kernel
theorem dX11_whose_58 : decode cX11_whose 58 = .ok (.iload_n 1, 1) := by decide +kernel
theorem dX11_whose_59 : decode cX11_whose 59 = .ok (.iload_n 2, 1) := by decide +kernel
theorem dX11_whose_60 : decode cX11_whose 60 = .ok (.invokevirtual 344, 3) := by decide +kernel
theorem dX11_whose_63 : decode cX11_whose 63 = .ok (.iconst (-1), 1) := by decide +kernel
theorem dX11_whose_64 : decode cX11_whose 64 = .ok (.if_icmp .eq 10, 3) := by decide +kernel
theorem dX11_whose_67 : decode cX11_whose 67 = .ok (.iload_n 3, 1) := by decide +kernel
theorem dX11_whose_68 : decode cX11_whose 68 = .ok (.iconst 1, 1) := by decide +kernel
theorem dX11_whose_69 : decode cX11_whose 69 = .ok (.iload 4, 2) := by decide +kernel
theorem dX11_whose_71 : decode cX11_whose 71 = .ok (.ishl, 1) := by decide +kernel
theorem dX11_whose_72 : decode cX11_whose 72 = .ok (.ior, 1) := by decide +kernel
theorem dX11_whose_73 : decode cX11_whose 73 = .ok (.istore_n 3, 1) := by decide +kernel
theorem dX11_whose_74 : decode cX11_whose 74 = .ok (.iinc 4 1, 3) := by decide +kernel
theorem dX11_whose_77 : decode cX11_whose 77 = .ok (.goto (-41), 3) := by decide +kernel
theorem dX11_whose_80 : decode cX11_whose 80 = .ok (.iload_n 3, 1) := by decide +kernel
theorem dX11_whose_81 : decode cX11_whose 81 = .ok (.ireturn, 1) := by decide +kernel
theorem kw_334 : Cond.fieldLink "FootholdWall" 345 "FootholdWall$Chains" "path" "[I" ∈ gw := gw_of (tb_of 334 (by decide +kernel)) (by decide +kernel)
theorem kw_376 : Cond.fieldLink "FootholdWall" 96 "FootholdWall" "chains" "LFootholdWall$Chains;" ∈ gw := gw_of (tb_of 376 (by decide +kernel)) (by decide +kernel)
theorem kw_1067 : Cond.methodLink "FootholdWall" 335 yX0_inClimbs ∈ gw := gw_of (tb_of 1067 (by decide +kernel)) (by decide +kernel)
theorem kw_1068 : Cond.instanceMethod yX0_inClimbs ∈ gw := gw_of (tb_of 1068 (by decide +kernel)) (by decide +kernel)
theorem kw_1069 : Cond.selects "FootholdWall$Chains" yX0_inClimbs yX0_inClimbs ∈ gw := gw_of (tb_of 1069 (by decide +kernel)) (by decide +kernel)
theorem kw_1070 : Cond.code yX0_inClimbs cX0_inClimbs 10 (some (.int)) ∈ gw := gw_of (tb_of 1070 (by decide +kernel)) (by decide +kernel)
theorem kw_1127 : Cond.methodLink "FootholdWall" 344 yX0_fewest ∈ gw := gw_of (tb_of 1127 (by decide +kernel)) (by decide +kernel)
theorem kw_1136 : Cond.methodLink "FootholdWall" 346 yX0_first ∈ gw := gw_of (tb_of 1136 (by decide +kernel)) (by decide +kernel)
theorem kw_1137 : Cond.instanceMethod yX0_first ∈ gw := gw_of (tb_of 1137 (by decide +kernel)) (by decide +kernel)
theorem kw_1138 : Cond.selects "FootholdWall$Chains" yX0_first yX0_first ∈ gw := gw_of (tb_of 1138 (by decide +kernel)) (by decide +kernel)
theorem kw_1139 : Cond.code yX0_first cX0_first 12 (some (.int)) ∈ gw := gw_of (tb_of 1139 (by decide +kernel)) (by decide +kernel)
set_option maxHeartbeats 4000000 in
set_option maxRecDepth 100000 in
theorem s_FW_idle (l : Launch) (D : va_G) (cs : CS) (kf : KF) (T : TF) (O : List Nat) (X : va_W) (a0 w hw gw ch gq : Nat) (x1 : Int32) (y0 : Nat) (y1 : Int32) (y2 : Nat) (y3 : Nat) (nn j : Nat) (t_a0 : T a0 = some (21, w, ch)) (t_w : isW T w hw gw) (t_ch : T ch = some (10, gq, 0)) (t_y0 : T y0 = some (1, nn, 0)) (l_y1 : 0 ≤ y1.toInt) (u_y1 : y1.toInt ≤ 16383) (t_y2 : T y2 = some (1, 14, 1)) (t_y3 : T y3 = some (1, 14, 0)) (hn : nn = 2 ^ j) (hj : j ≤ 14) (hO : okO T (ch :: O) [1, 7, 12, 15, 16, 19, 21]) : TKD l D cs kf yX11_idle cX11_idle 3 (some (.int)) { frames := 7, cells := 1, slots := 16384, locals := 179 } [.ref a0, .int x1] T (ch :: O) ((ch, .inr (0, [.ref y0, .int y1, .ref y2, .ref y3])) :: X) (fun kk ss => Ti D cs ((fun kk ss r u => ∃ T2 : TF, Tgr T T2 ∧ ∃ (n2 : Nat) (j2 : Nat) (n0_0 : Nat) (n0_1 : Int32), u = (T2, ch :: O, (ch, .inr (0, [.ref n0_0, .int n0_1, .ref y2, .ref y3])) :: X) ∧ -2 ≤ r.toInt ∧ r.toInt ≤ 16383 ∧ (T2 n0_0 = some (1, n2, 0)) ∧ (n2 = 2 ^ j2) ∧ (j ≤ j2) ∧ (j2 ≤ 14) ∧ (0 ≤ n0_1.toInt) ∧ (n0_1.toInt ≤ 16383) ∧ (True) ∧ (kk + j ≤ j2) ∧ (ss + 16384 * j ≤ 16384 * j2) ∧ (kk ≤ 1) ∧ (ss ≤ 16384)) kk ss)) := by
  refine tkd_of (by decide) (Nat.le_of_ble_eq_true rfl) (fun p e s m below meth c ls A H locs hx hb hr hml hown hts hlocks hnm hkb hH hS hA hOX hks hE hl => ?_)
  have hown : s.vm.findClass RX11 = some m.cls := hown
  have hl : lv_has ls 3 [(0, .ref a0), (1, .int x1)] := hl
  have b1_w := t_w.2.1
  have b2_w := t_w.2.2
  have hOXf := hOX
  have hnb := p2_le hn hj
  refine lv_aload_n hx hb dX11_idle_0 rfl (lv_at hl 0 rfl) ?_
  refine lv_iload_n hx hb dX11_idle_1 rfl (lv_at hl 1 rfl) ?_
  refine tk_i hH hS hA (tr_V (n := 1) (As := [.int x1]) hx hb hml hown hts hkb hH (ox_map hOX rfl) hks hE hS hA (s_FW_isGuide l D cs kf T (ch :: O) ((ch, .inr (0, [.ref y0, .int y1, .ref y2, .ref y3])) :: X) a0 w hw gw ch gq x1 t_a0 t_w t_ch (hO.sub (by decide))) kw_794 kw_796 ks_20 kw_1 kw_797 (by decide +kernel) ⟨Nat.le_of_ble_eq_true rfl, Nat.le_of_ble_eq_true rfl⟩ (HT.recv (ci := 11) hkb hH t_a0 (hO.no t_a0 (by decide)) rfl) rfl rfl hl.1 (Nat.le_of_ble_eq_true rfl) dX11_idle_2 ⟨by show 0 + 0 ≤ 1; omega, by show 0 + 0 ≤ 16384; omega⟩) (fun v2 u H locs hz9 hH hS => ?_)
  obtain ⟨rfl, l_v2, u_v2, x_v20⟩ := hz9
  have hH : HT D cs A T (ch :: O) ((ch, .inr (0, [.ref y0, .int y1, .ref y2, .ref y3])) :: X) H := hH
  refine W.widen (k := 0) (n := 0) (Nat.le_refl _) (Nat.le_refl _) ?_
  refine lv_if_ne (tgt := 11) hx hb dX11_idle_5 (by decide) (fun c5 => ?_) (fun c5 => ?_)
  · skip
    have tc5 := f_ne (k := 0) (by decide) c5
    refine lv_aload_n hx hb dX11_idle_11 rfl (lv_at hl 0 rfl) ?_
    refine tk_i hH hS hA (tr_V (n := 0) (As := []) hx hb hml hown hts hkb hH (ox_map hOX rfl) hks hE hS hA (s_FW_openNow l D cs kf T (ch :: O) ((ch, .inr (0, [.ref y0, .int y1, .ref y2, .ref y3])) :: X) a0 w hw gw ch gq t_a0 t_w t_ch (hO.sub (by decide))) kw_846 kw_848 ks_22 kw_1 kw_849 (by decide +kernel) ⟨Nat.le_of_ble_eq_true rfl, Nat.le_of_ble_eq_true rfl⟩ (HT.recv (ci := 11) hkb hH t_a0 (hO.no t_a0 (by decide)) rfl) rfl rfl hl.1 (Nat.le_of_ble_eq_true rfl) dX11_idle_12 ⟨by show 0 + 0 ≤ 1; omega, by show 0 + 0 ≤ 16384; omega⟩) (fun v12 u H locs hz9 hH hS => ?_)
    obtain ⟨rfl, l_v12, u_v12⟩ := hz9
    have hH : HT D cs A T (ch :: O) ((ch, .inr (0, [.ref y0, .int y1, .ref y2, .ref y3])) :: X) H := hH
    refine W.widen (k := 0) (n := 0) (Nat.le_refl _) (Nat.le_refl _) ?_
    refine lv_istore_n (lv' := [(2, .int v12), (0, .ref a0), (1, .int x1)]) hx hb dX11_idle_15 rfl hl (by decide) rfl (fun ls hl => ?_)
    refine lv_iload_n hx hb dX11_idle_16 rfl (lv_at hl 0 rfl) ?_
    refine lv_aload_n hx hb dX11_idle_17 rfl (lv_at hl 1 rfl) ?_
    refine t_get (ci := 11) (lst := ft11 w ch) (C := RX11) (F := TX11) (N := 20) hx hb hts uX11 hown hkb hH t_a0 (hO.no t_a0 (by decide)) (fun _ h9 => h9) rfl rfl 16 (by decide) rfl kw_376 (fun _ h9 => h9) dX11_idle_18 (fun v9 h9 => ?_)
    have h9 : v9 = .ref ch := h9
    subst h9
    refine lv_aload_n hx hb dX11_idle_21 rfl (lv_at hl 1 rfl) ?_
    refine lv_iload_n hx hb dX11_idle_22 rfl (lv_at hl 2 rfl) ?_
    refine tk_r hH hS hA (tr_V (n := 1) (As := [.int x1]) hx hb hml hown hts hkb hH (ox_map hOX rfl) hks hE hS hA (s_FW_rowsOf l D cs kf T (ch :: O) ((ch, .inr (0, [.ref y0, .int y1, .ref y2, .ref y3])) :: X) a0 w hw gw ch gq x1 t_a0 t_w t_ch (by omega) (by omega) (hO.sub (by decide))) kw_830 kw_832 ks_21 kw_1 kw_833 (by decide +kernel) ⟨Nat.le_of_ble_eq_true rfl, Nat.le_of_ble_eq_true rfl⟩ (HT.recv (ci := 11) hkb hH t_a0 (hO.no t_a0 (by decide)) rfl) rfl rfl hl.1 (Nat.le_of_ble_eq_true rfl) dX11_idle_23 ⟨by show 0 + 0 ≤ 1; omega, by show 0 + 0 ≤ 16384; omega⟩) (fun v23 u H locs hz9 hH hS => ?_)
    obtain ⟨hu9, t_v23⟩ := hz9
    have hu9 : u = (T, ch :: O, (ch, .inr (0, [.ref y0, .int y1, .ref y2, .ref y3])) :: X) := hu9
    subst hu9
    have hH : HT D cs A T (ch :: O) ((ch, .inr (0, [.ref y0, .int y1, .ref y2, .ref y3])) :: X) H := hH
    refine W.widen (k := 0) (n := 0) (Nat.le_refl _) (Nat.le_refl _) ?_
    refine lv_iload_n hx hb dX11_idle_26 rfl (lv_at hl 0 rfl) ?_
    refine tk_iD hH hS hA (tr_VD (n := 2) (As := [.ref v23, .int v12]) hx hb hml hown hts hkb hH (ox_map hOX rfl) hks hE hS hA (s_Ch_inClimbs l D cs kf T O X ch v23 v12 y0 y1 y2 y3 nn j gq t_ch t_v23 t_y0 (by omega) (by omega) t_y2 t_y3 hn (by omega) (hO.sub (by decide))) kw_1067 kw_1068 kw_1069 kw_11 kw_1070 (by decide +kernel) ⟨Nat.le_of_ble_eq_true rfl, Nat.le_of_ble_eq_true rfl⟩ (x_recv (ci := 0) hkb hH 0 rfl rfl) rfl rfl hl.1 (Nat.le_of_ble_eq_true rfl) dX11_idle_27 ⟨by show 0 + 1 ≤ 1; omega, by show 0 + 16384 ≤ 16384; omega⟩) (fun v27 kc27 ks27 u H locs hz9 hH hS => ?_)
    obtain ⟨T27, le_T27, n2_27, j2_27, n27_0_0, n27_0_1, rfl, l_v27, u_v27, x_v270, x_v271, x_v272, x_v273, x_v274, x_v275, x_v276, x_v277, x_v278, x_v279, x_v2710⟩ := hz9
    have t_a0 := le_T27.1 _ _ t_a0
    have t_w := isW.le le_T27.1 t_w
    have t_ch := le_T27.1 _ _ t_ch
    have t_y0 := le_T27.1 _ _ t_y0
    have t_y2 := le_T27.1 _ _ t_y2
    have t_y3 := le_T27.1 _ _ t_y3
    have t_v23 := le_T27.1 _ _ t_v23
    have hO := okO.le le_T27.1 hO
    have t_n27_0_0 := x_v270
    have hnb_27 := p2_le x_v271 (by omega)
    have hH : HT D cs A T27 (ch :: O) ((ch, .inr (0, [.ref n27_0_0, .int n27_0_1, .ref y2, .ref y3])) :: X) H := hH
    refine lv_iconst (v := (-1)) hx hb dX11_idle_30 (by decide) ?_
    refine lv_ixor hx hb dX11_idle_31 ?_
    refine lv_topi (fun v31 ev31 => ?_)
    refine lv_iand hx hb dX11_idle_32 ?_
    refine lv_topi (fun v32 ev32 => ?_)
    have tv32 : 0 ≤ v32.toInt ∧ v32.toInt ≤ v12.toInt := by rw [ev32]; exact and_l (by omega)
    exact te_iD hx hb hr hlocks hH hS (⟨T27, le_T27, n2_27, j2_27, n27_0_0, n27_0_1, rfl, by omega, by omega, t_n27_0_0, x_v271, by omega, by omega, by omega, by omega, trivial, by omega, by omega, by omega, by omega⟩) dX11_idle_33
  · skip
    have tc5 := f_eq (k := 0) (by decide) c5
    refine lv_bipush (v := (-2)) hx hb dX11_idle_8 (by decide) ?_
    have z9_m2 : ((-2) : Int32).toInt = -2 := by decide
    exact te_iD hx hb hr hlocks hH hS (⟨T, Tgr.rf, nn, j, y0, y1, rfl, by decide, by decide, t_y0, hn, by omega, by omega, by omega, by omega, trivial, by omega, by omega, by omega, by omega⟩) dX11_idle_10
set_option maxHeartbeats 4000000 in
set_option maxRecDepth 100000 in
theorem s_FW_whose (l : Launch) (D : va_G) (cs : CS) (kf : KF) (T : TF) (O : List Nat) (X : va_W) (a0 w hw gw ch gq : Nat) (x1 : Int32) (y0 : Nat) (y1 : Int32) (y2 : Nat) (y3 : Nat) (nn j : Nat) (t_a0 : T a0 = some (21, w, ch)) (t_w : isW T w hw gw) (t_ch : T ch = some (10, gq, 0)) (t_y0 : T y0 = some (1, nn, 0)) (l_y1 : 0 ≤ y1.toInt) (u_y1 : y1.toInt ≤ 16383) (t_y2 : T y2 = some (1, 14, 1)) (t_y3 : T y3 = some (1, 14, 0)) (hn : nn = 2 ^ j) (hj : j ≤ 14) (hO : okO T (ch :: O) [1, 7, 12, 15, 16, 19, 21]) : TKD l D cs kf yX11_whose cX11_whose 5 (some (.int)) { frames := 6, cells := 15, slots := 245760, locals := 162 } [.ref a0, .int x1] T (ch :: O) ((ch, .inr (0, [.ref y0, .int y1, .ref y2, .ref y3])) :: X) (fun kk ss => Ti D cs ((fun kk ss r u => ∃ T2 : TF, Tgr T T2 ∧ ∃ (n2 : Nat) (j2 : Nat) (n0_0 : Nat) (n0_1 : Int32), u = (T2, ch :: O, (ch, .inr (0, [.ref n0_0, .int n0_1, .ref y2, .ref y3])) :: X) ∧ -3 ≤ r.toInt ∧ r.toInt ≤ 16383 ∧ (T2 n0_0 = some (1, n2, 0)) ∧ (n2 = 2 ^ j2) ∧ (j ≤ j2) ∧ (j2 ≤ 14) ∧ (0 ≤ n0_1.toInt) ∧ (n0_1.toInt ≤ 16383) ∧ (True) ∧ (kk + j ≤ j2) ∧ (ss + 16384 * j ≤ 16384 * j2)) kk ss)) := by
  refine tkd_of (by decide) (Nat.le_of_ble_eq_true rfl) (fun p e s m below meth c ls A H locs hx hb hr hml hown hts hlocks hnm hkb hH hS hA hOX hks hE hl => ?_)
  have hown : s.vm.findClass RX11 = some m.cls := hown
  have hl : lv_has ls 5 [(0, .ref a0), (1, .int x1)] := hl
  have b1_w := t_w.2.1
  have b2_w := t_w.2.2
  have hOXf := hOX
  have hnb := p2_le hn hj
  refine lv_aload_n hx hb dX11_whose_0 rfl (lv_at hl 0 rfl) ?_
  refine lv_aload_n hx hb dX11_whose_1 rfl (lv_at hl 0 rfl) ?_
  refine t_get (ci := 11) (lst := ft11 w ch) (C := RX11) (F := TX11) (N := 20) hx hb hts uX11 hown hkb hH t_a0 (hO.no t_a0 (by decide)) (fun _ h9 => h9) rfl rfl 4 (by decide) rfl kw_364 (fun _ h9 => h9) dX11_whose_2 (fun v9 h9 => ?_)
  obtain ⟨v2, rfl, t_v2⟩ := h9
  refine t_get (ci := 6) (lst := ft6 0 0) (C := RX6) (F := TX6) (N := 6) hx hb hts uX6 hown hkb hH t_v2 (hO.no t_v2 (by decide)) (fun _ h9 => h9) rfl rfl 2 (by decide) rfl kw_191 (fun _ h9 => h9) dX11_whose_5 (fun v9 h9 => ?_)
  obtain ⟨v5, rfl⟩ := h9
  refine tk_i hH hS hA (tr_V (n := 1) (As := [.int v5]) hx hb hml hown hts hkb hH (ox_map hOX rfl) hks hE hS hA (s_FW_thereOn l D cs kf T (ch :: O) ((ch, .inr (0, [.ref y0, .int y1, .ref y2, .ref y3])) :: X) a0 w hw gw ch gq v5 t_a0 t_w t_ch (hO.sub (by decide))) kw_774 kw_776 ks_18 kw_1 kw_777 (by decide +kernel) ⟨Nat.le_of_ble_eq_true rfl, Nat.le_of_ble_eq_true rfl⟩ (HT.recv (ci := 11) hkb hH t_a0 (hO.no t_a0 (by decide)) rfl) rfl rfl hl.1 (Nat.le_of_ble_eq_true rfl) dX11_whose_8 ⟨by show 0 + 0 ≤ 15; omega, by show 0 + 0 ≤ 245760; omega⟩) (fun v8 u H locs hz9 hH hS => ?_)
  obtain ⟨rfl, l_v8, u_v8⟩ := hz9
  have hH : HT D cs A T (ch :: O) ((ch, .inr (0, [.ref y0, .int y1, .ref y2, .ref y3])) :: X) H := hH
  refine W.widen (k := 0) (n := 0) (Nat.le_refl _) (Nat.le_refl _) ?_
  refine lv_istore_n (lv' := [(2, .int v8), (0, .ref a0), (1, .int x1)]) hx hb dX11_whose_11 rfl hl (by decide) rfl (fun ls hl => ?_)
  refine lv_iload_n hx hb dX11_whose_12 rfl (lv_at hl 2 rfl) ?_
  refine lv_iload_n hx hb dX11_whose_13 rfl (lv_at hl 0 rfl) ?_
  refine lv_aload_n hx hb dX11_whose_14 rfl (lv_at hl 1 rfl) ?_
  refine t_get (ci := 11) (lst := ft11 w ch) (C := RX11) (F := TX11) (N := 20) hx hb hts uX11 hown hkb hH t_a0 (hO.no t_a0 (by decide)) (fun _ h9 => h9) rfl rfl 3 (by decide) rfl kw_363 (fun _ h9 => h9) dX11_whose_15 (fun v9 h9 => ?_)
  have h9 : v9 = .ref w := h9
  subst h9
  refine tk_i hH hS hA (tr_V (n := 0) (As := []) hx hb hml hown hts hkb hH (ox_map hOX rfl) hks hE hS hA (s_Wall_middles l D cs kf T (ch :: O) ((ch, .inr (0, [.ref y0, .int y1, .ref y2, .ref y3])) :: X) w hw gw t_w (hO.sub (by decide))) kw_892 kw_683 kw_684 kw_5 kw_685 (by decide +kernel) ⟨Nat.le_of_ble_eq_true rfl, Nat.le_of_ble_eq_true rfl⟩ (HT.recv (ci := 9) hkb hH t_w.1 (hO.no t_w.1 (by decide)) rfl) rfl rfl hl.1 (Nat.le_of_ble_eq_true rfl) dX11_whose_18 ⟨by show 0 + 0 ≤ 15; omega, by show 0 + 0 ≤ 245760; omega⟩) (fun v18 u H locs hz9 hH hS => ?_)
  obtain ⟨rfl, l_v18, u_v18⟩ := hz9
  have hH : HT D cs A T (ch :: O) ((ch, .inr (0, [.ref y0, .int y1, .ref y2, .ref y3])) :: X) H := hH
  refine W.widen (k := 0) (n := 0) (Nat.le_refl _) (Nat.le_refl _) ?_
  refine lv_iand hx hb dX11_whose_21 ?_
  refine lv_topi (fun v21 ev21 => ?_)
  have tv21 : 0 ≤ v21.toInt ∧ v21.toInt ≤ v8.toInt := by rw [ev21]; exact and_l (by omega)
  have ttv21 : 0 ≤ v21.toInt ∧ v21.toInt ≤ v18.toInt := by rw [ev21]; exact and_r (by omega)
  refine lv_iconst (v := (-1)) hx hb dX11_whose_22 (by decide) ?_
  refine lv_ixor hx hb dX11_whose_23 ?_
  refine lv_topi (fun v23 ev23 => ?_)
  refine lv_iand hx hb dX11_whose_24 ?_
  refine lv_topi (fun v24 ev24 => ?_)
  refine lv_if_eq (tgt := 31) hx hb dX11_whose_25 (by decide) (fun c25 => ?_) (fun c25 => ?_)
  · skip
    have tc25 := f_eq (k := 0) (by decide) c25
    refine lv_iconst (v := 0) hx hb dX11_whose_31 (by decide) ?_
    refine lv_istore_n (lv' := [(3, .int 0), (2, .int v8), (0, .ref a0), (1, .int x1)]) hx hb dX11_whose_32 rfl hl (by decide) rfl (fun ls hl => ?_)
    refine lv_iconst (v := 0) hx hb dX11_whose_33 (by decide) ?_
    have J36 : ∀ (n : Nat) (T36q : TF) (kc36 ks36 : Nat) (p36_4 : Int32) (p36_3 : Int32) (f36_100 : Nat) (nf36_100 jf36_100 : Nat) (f36_101 : Int32) (H : Heap) (locs : List Loc) (ls : Array Slot), (5 - p36_4.toInt).toNat = n → Tgr T T36q → (T36q f36_100 = some (1, nf36_100, 0)) → (nf36_100 = 2 ^ jf36_100) → (jf36_100 ≤ 14) → (0 ≤ p36_4.toInt) → (p36_4.toInt ≤ 5) → (0 ≤ p36_3.toInt) → (p36_3.toInt ≤ 16383) → (0 ≤ f36_101.toInt) → (f36_101.toInt ≤ 16383) → (kc36 + j ≤ jf36_100) → (ks36 + 16384 * j ≤ 16384 * jf36_100) → (j ≤ jf36_100) → HT D cs A T36q (ch :: O) ((ch, .inr (0, [.ref f36_100, .int f36_101, .ref y2, .ref y3])) :: X) H → va_S A s.heap H locs → lv_has ls 5 [(4, .int p36_4), (3, .int p36_3), (2, .int v8), (0, .ref a0), (1, .int x1)] → W p l e { frames := 6, cells := 15, slots := 245760, locals := 162 } s m [.ref a0, .int x1].toArray below meth c H locs kc36 ks36 (MQD below (fun kk ss => Ti D cs ((fun kk ss r u => ∃ T2 : TF, Tgr T T2 ∧ ∃ (n2 : Nat) (j2 : Nat) (n0_0 : Nat) (n0_1 : Int32), u = (T2, ch :: O, (ch, .inr (0, [.ref n0_0, .int n0_1, .ref y2, .ref y3])) :: X) ∧ -3 ≤ r.toInt ∧ r.toInt ≤ 16383 ∧ (T2 n0_0 = some (1, n2, 0)) ∧ (n2 = 2 ^ j2) ∧ (j ≤ j2) ∧ (j2 ≤ 14) ∧ (0 ≤ n0_1.toInt) ∧ (n0_1.toInt ≤ 16383) ∧ (True) ∧ (kk + j ≤ j2) ∧ (ss + 16384 * j ≤ 16384 * j2)) kk ss) A) [.ref a0, .int x1].toArray s A) (F0 m 36 ls []) := by
      intro n
      induction n using Nat.strongRecOn with
      | _ n ih36 =>
        intro T36q kc36 ks36 p36_4 p36_3 f36_100 nf36_100 jf36_100 f36_101 H locs ls hm36 le_T36q t_f36_100 q_f36_100 qj_f36_100 l_p36_4 u_p36_4 l_p36_3 u_p36_3 l_f36_101 u_f36_101 i36a i36b i36c hH hS hl
        have t_a0 := le_T36q.1 _ _ t_a0
        have t_w := isW.le le_T36q.1 t_w
        have t_ch := le_T36q.1 _ _ t_ch
        have t_y0 := le_T36q.1 _ _ t_y0
        have t_y2 := le_T36q.1 _ _ t_y2
        have t_y3 := le_T36q.1 _ _ t_y3
        have t_v2 := le_T36q.1 _ _ t_v2
        have hO := okO.le le_T36q.1 hO
        have qb_f36_100 := p2_le q_f36_100 qj_f36_100
        refine lv_iload hx hb dX11_whose_36 (lv_at hl 0 rfl) ?_
        refine lv_aload_n hx hb dX11_whose_38 rfl (lv_at hl 3 rfl) ?_
        refine t_get (ci := 11) (lst := ft11 w ch) (C := RX11) (F := TX11) (N := 20) hx hb hts uX11 hown hkb hH t_a0 (hO.no t_a0 (by decide)) (fun _ h9 => h9) rfl rfl 3 (by decide) rfl kw_363 (fun _ h9 => h9) dX11_whose_39 (fun v9 h9 => ?_)
        have h9 : v9 = .ref w := h9
        subst h9
        refine t_get (ci := 9) (lst := ft9w hw gw) (C := RX9) (F := TX9) (N := 14) hx hb hts uX9 hown hkb hH t_w.1 (hO.no t_w.1 (by decide)) (fun fs => (ob9w t_w fs).mp) rfl rfl 1 (by decide) rfl kw_112 (fun _ h9 => h9) dX11_whose_42 (fun v9 h9 => ?_)
        have h9 : v9 = .int (nI gw) := h9
        subst h9
        have e_gw : (nI gw).toInt = gw := nI_toInt (by have := t_w.2.2; omega)
        have b_gw := t_w.2.2
        refine lv_icmp_ge (tgt := 80) hx hb dX11_whose_45 (by decide) (fun c45 => ?_) (fun c45 => ?_)
        · skip
          have fuc45 := full_i p36_4
          have fvc45 := full_i (nI gw)
          have tc45 := g_le c45
          refine lv_iload_n hx hb dX11_whose_80 rfl (lv_at hl 1 rfl) ?_
          exact te_iD hx hb hr hlocks hH hS (⟨T36q, le_T36q, nf36_100, jf36_100, f36_100, f36_101, rfl, by omega, by omega, t_f36_100, q_f36_100, by omega, by omega, by omega, by omega, trivial, by omega, by omega⟩) dX11_whose_81
        · skip
          have fuc45 := full_i p36_4
          have fvc45 := full_i (nI gw)
          have tc45 := g_nle c45
          refine lv_aload_n hx hb dX11_whose_48 rfl (lv_at hl 3 rfl) ?_
          refine t_get (ci := 11) (lst := ft11 w ch) (C := RX11) (F := TX11) (N := 20) hx hb hts uX11 hown hkb hH t_a0 (hO.no t_a0 (by decide)) (fun _ h9 => h9) rfl rfl 16 (by decide) rfl kw_376 (fun _ h9 => h9) dX11_whose_49 (fun v9 h9 => ?_)
          have h9 : v9 = .ref ch := h9
          subst h9
          refine lv_aload_n hx hb dX11_whose_52 rfl (lv_at hl 3 rfl) ?_
          refine lv_iload hx hb dX11_whose_53 (lv_at hl 0 rfl) ?_
          refine tk_r hH hS hA (tr_V (n := 1) (As := [.int p36_4]) hx hb hml hown hts hkb hH (ox_map hOX rfl) hks hE hS hA (s_FW_rowsOf l D cs kf T36q (ch :: O) ((ch, .inr (0, [.ref f36_100, .int f36_101, .ref y2, .ref y3])) :: X) a0 w hw gw ch gq p36_4 t_a0 t_w t_ch (by omega) (by omega) (hO.sub (by decide))) kw_830 kw_832 ks_21 kw_1 kw_833 (by decide +kernel) ⟨Nat.le_of_ble_eq_true rfl, Nat.le_of_ble_eq_true rfl⟩ (HT.recv (ci := 11) hkb hH t_a0 (hO.no t_a0 (by decide)) rfl) rfl rfl hl.1 (Nat.le_of_ble_eq_true rfl) dX11_whose_55 ⟨by show kc36 + 0 ≤ 15; omega, by show ks36 + 0 ≤ 245760; omega⟩) (fun v55 u H locs hz9 hH hS => ?_)
          obtain ⟨hu9, t_v55⟩ := hz9
          have hu9 : u = (T36q, ch :: O, (ch, .inr (0, [.ref f36_100, .int f36_101, .ref y2, .ref y3])) :: X) := hu9
          subst hu9
          have hH : HT D cs A T36q (ch :: O) ((ch, .inr (0, [.ref f36_100, .int f36_101, .ref y2, .ref y3])) :: X) H := hH
          refine W.widen (k := kc36) (n := ks36) (Nat.le_refl _) (Nat.le_refl _) ?_
          refine lv_iload_n hx hb dX11_whose_58 rfl (lv_at hl 4 rfl) ?_
          refine lv_iload_n hx hb dX11_whose_59 rfl (lv_at hl 2 rfl) ?_
          refine tk_iD hH hS hA (tr_VD (n := 3) (As := [.ref v55, .int x1, .int v8]) hx hb hml hown hts hkb hH (ox_map hOX rfl) hks hE hS hA (s_Ch_fewest l D cs kf T36q O X ch v55 x1 v8 f36_100 f36_101 y2 y3 nf36_100 jf36_100 gq t_ch t_v55 t_f36_100 (by omega) (by omega) t_y2 t_y3 q_f36_100 (by omega) (hO.sub (by decide))) kw_1127 kw_1128 kw_1129 kw_11 kw_1130 (by decide +kernel) ⟨Nat.le_of_ble_eq_true rfl, Nat.le_of_ble_eq_true rfl⟩ (x_recv (ci := 0) hkb hH 0 rfl rfl) rfl rfl hl.1 (Nat.le_of_ble_eq_true rfl) dX11_whose_60 ⟨by show kc36 + 1 ≤ 15; omega, by show ks36 + 16384 ≤ 245760; omega⟩) (fun v60 kc60 ks60 u H locs hz9 hH hS => ?_)
          obtain ⟨T60, le_T60, n2_60, j2_60, n60_0_0, n60_0_1, rfl, l_v60, u_v60, x_v600, x_v601, x_v602, x_v603, x_v604, x_v605, x_v606, x_v607, x_v608, x_v609, x_v6010⟩ := hz9
          have t_a0 := le_T60.1 _ _ t_a0
          have t_w := isW.le le_T60.1 t_w
          have t_ch := le_T60.1 _ _ t_ch
          have t_y0 := le_T60.1 _ _ t_y0
          have t_y2 := le_T60.1 _ _ t_y2
          have t_y3 := le_T60.1 _ _ t_y3
          have t_v2 := le_T60.1 _ _ t_v2
          have t_f36_100 := le_T60.1 _ _ t_f36_100
          have t_v55 := le_T60.1 _ _ t_v55
          have hO := okO.le le_T60.1 hO
          have t_n60_0_0 := x_v600
          have hnb_60 := p2_le x_v601 (by omega)
          have hH : HT D cs A T60 (ch :: O) ((ch, .inr (0, [.ref n60_0_0, .int n60_0_1, .ref y2, .ref y3])) :: X) H := hH
          refine lv_iconst (v := (-1)) hx hb dX11_whose_63 (by decide) ?_
          have J74 : ∀ (p74_3 : Int32) (H : Heap) (locs : List Loc) (ls : Array Slot), (0 ≤ p74_3.toInt) → (p74_3.toInt ≤ 16383) → HT D cs A T60 (ch :: O) ((ch, .inr (0, [.ref n60_0_0, .int n60_0_1, .ref y2, .ref y3])) :: X) H → va_S A s.heap H locs → lv_has ls 5 [(4, .int p36_4), (3, .int p74_3), (2, .int v8), (0, .ref a0), (1, .int x1)] → W p l e { frames := 6, cells := 15, slots := 245760, locals := 162 } s m [.ref a0, .int x1].toArray below meth c H locs (kc36 + kc60) (ks36 + ks60) (MQD below (fun kk ss => Ti D cs ((fun kk ss r u => ∃ T2 : TF, Tgr T T2 ∧ ∃ (n2 : Nat) (j2 : Nat) (n0_0 : Nat) (n0_1 : Int32), u = (T2, ch :: O, (ch, .inr (0, [.ref n0_0, .int n0_1, .ref y2, .ref y3])) :: X) ∧ -3 ≤ r.toInt ∧ r.toInt ≤ 16383 ∧ (T2 n0_0 = some (1, n2, 0)) ∧ (n2 = 2 ^ j2) ∧ (j ≤ j2) ∧ (j2 ≤ 14) ∧ (0 ≤ n0_1.toInt) ∧ (n0_1.toInt ≤ 16383) ∧ (True) ∧ (kk + j ≤ j2) ∧ (ss + 16384 * j ≤ 16384 * j2)) kk ss) A) [.ref a0, .int x1].toArray s A) (F0 m 74 ls []) := by
            intro p74_3 H locs ls l_p74_3 u_p74_3 hH hS hl
            obtain ⟨v74, ev74⟩ : ∃ y : Int32, y = p36_4 + 1 := ⟨_, rfl⟩
            have tv74 : v74.toInt = p36_4.toInt + (1) := by rw [ev74]; exact add_i rfl (by decide) (by omega) (by omega)
            refine lv_iinc (v := v74) (lv' := [(4, .int v74), (3, .int p74_3), (2, .int v8), (0, .ref a0), (1, .int x1)]) hx hb dX11_whose_74 hl (k := 0) rfl (by rw [ev74]; rfl) (by decide) rfl (fun ls hl => ?_)
            refine lv_goto (tgt := 36) hx hb dX11_whose_77 (by decide) ?_
            exact ih36 _ (by omega) T60 (kc36 + kc60) (ks36 + ks60) v74 p74_3 n60_0_0 n2_60 j2_60 n60_0_1 _ _ _ rfl (Tgr.tr le_T36q le_T60) t_n60_0_0 x_v601 (by omega) (by omega) (by omega) (by omega) (by omega) (by omega) (by omega) (by omega) (by omega) (by omega) hH hS (lv_sub hl [0, 1, 2, 3, 4] rfl)
          refine lv_icmp_eq (tgt := 74) hx hb dX11_whose_64 (by decide) (fun c64 => ?_) (fun c64 => ?_)
          · skip
            have tc64 := f_eq (k := -1) (by decide) c64
            exact J74 p36_3 _ _ _ (by omega) (by omega) hH hS (lv_sub hl [0, 1, 2, 3, 4] rfl)
          · skip
            have tc64 := f_ne (k := -1) (by decide) c64
            refine lv_iload_n hx hb dX11_whose_67 rfl (lv_at hl 1 rfl) ?_
            refine lv_iconst (v := 1) hx hb dX11_whose_68 (by decide) ?_
            refine lv_iload hx hb dX11_whose_69 (lv_at hl 0 rfl) ?_
            refine lv_ishl hx hb dX11_whose_71 ?_
            refine lv_topi (fun v71 ev71 => ?_)
            have tv71 : 1 ≤ v71.toInt ∧ v71.toInt ≤ 16 := by rw [ev71]; exact shl_b 4 (by decide) (by omega) (by omega)
            refine lv_ior hx hb dX11_whose_72 ?_
            refine lv_topi (fun v72 ev72 => ?_)
            have tv72 : 0 ≤ v72.toInt ∧ v72.toInt < 16384 := by rw [ev72]; exact or_b 14 (by decide) (by omega) (by omega) (by omega) (by omega)
            refine lv_istore_n (lv' := [(3, .int v72), (4, .int p36_4), (2, .int v8), (0, .ref a0), (1, .int x1)]) hx hb dX11_whose_73 rfl hl (by decide) rfl (fun ls hl => ?_)
            exact J74 v72 _ _ _ (by omega) (by omega) hH hS (lv_sub hl [1, 0, 2, 3, 4] rfl)
    refine lv_istore (lv' := [(4, .int 0), (3, .int 0), (2, .int v8), (0, .ref a0), (1, .int x1)]) hx hb dX11_whose_34 hl (by decide) rfl (fun ls hl => ?_)
    have z_0 : (0 : Int32).toInt = 0 := by decide
    exact J36 _ T 0 0 0 0 y0 nn j y1 _ _ _ rfl Tgr.rf t_y0 hn (by omega) (by decide) (by decide) (by decide) (by decide) (by omega) (by omega) (by omega) (by omega) (by omega) hH hS (lv_sub hl [0, 1, 2, 3, 4] rfl)
  · skip
    have tc25 := f_ne (k := 0) (by decide) c25
    refine lv_bipush (v := (-3)) hx hb dX11_whose_28 (by decide) ?_
    have z9_m3 : ((-3) : Int32).toInt = -3 := by decide
    exact te_iD hx hb hr hlocks hH hS (⟨T, Tgr.rf, nn, j, y0, y1, rfl, by decide, by decide, t_y0, hn, by omega, by omega, by omega, by omega, trivial, by omega, by omega⟩) dX11_whose_30
set_option maxHeartbeats 4000000 in
set_option maxRecDepth 100000 in
theorem s_FW_order (l : Launch) (D : va_G) (cs : CS) (kf : KF) (T : TF) (O : List Nat) (X : va_W) (a0 w hw gw ch gq : Nat) (x1 : Int32) (x2 : Int32) (x3 : Int32) (y0 : Nat) (y1 : Int32) (y2 : Nat) (y3 : Nat) (nn j : Nat) (t_a0 : T a0 = some (21, w, ch)) (t_w : isW T w hw gw) (t_ch : T ch = some (10, gq, 0)) (t_y0 : T y0 = some (1, nn, 0)) (l_y1 : 0 ≤ y1.toInt) (u_y1 : y1.toInt ≤ 16383) (t_y2 : T y2 = some (1, 14, 1)) (t_y3 : T y3 = some (1, 14, 0)) (hn : nn = 2 ^ j) (hj : j ≤ 14) (hO : okO T (ch :: O) [1, 7, 12, 15, 16, 19, 21]) : TKD l D cs kf yX11_order cX11_order 5 (some (.int)) { frames := 7, cells := 1, slots := 16384, locals := 193 } [.ref a0, .int x1, .int x2, .int x3] T (ch :: O) ((ch, .inr (0, [.ref y0, .int y1, .ref y2, .ref y3])) :: X) (fun kk ss => Ti D cs ((fun kk ss r u => ∃ T2 : TF, Tgr T T2 ∧ ∃ (n2 : Nat) (j2 : Nat) (n0_0 : Nat) (n0_1 : Int32), u = (T2, ch :: O, (ch, .inr (0, [.ref n0_0, .int n0_1, .ref y2, .ref y3])) :: X) ∧ (T2 n0_0 = some (1, n2, 0)) ∧ (n2 = 2 ^ j2) ∧ (j ≤ j2) ∧ (j2 ≤ 14) ∧ (0 ≤ n0_1.toInt) ∧ (n0_1.toInt ≤ 16383) ∧ (True) ∧ (kk + j ≤ j2) ∧ (ss + 16384 * j ≤ 16384 * j2) ∧ (kk ≤ 1) ∧ (ss ≤ 16384)) kk ss)) := by
  refine tkd_of (by decide) (Nat.le_of_ble_eq_true rfl) (fun p e s m below meth c ls A H locs hx hb hr hml hown hts hlocks hnm hkb hH hS hA hOX hks hE hl => ?_)
  have hown : s.vm.findClass RX11 = some m.cls := hown
  have hl : lv_has ls 5 [(0, .ref a0), (1, .int x1), (2, .int x2), (3, .int x3)] := hl
  have b1_w := t_w.2.1
  have b2_w := t_w.2.2
  have hOXf := hOX
  have hnb := p2_le hn hj
  refine lv_aload_n hx hb dX11_order_0 rfl (lv_at hl 0 rfl) ?_
  refine lv_iload_n hx hb dX11_order_1 rfl (lv_at hl 1 rfl) ?_
  refine tk_i hH hS hA (tr_V (n := 1) (As := [.int x1]) hx hb hml hown hts hkb hH (ox_map hOX rfl) hks hE hS hA (s_FW_isGuide l D cs kf T (ch :: O) ((ch, .inr (0, [.ref y0, .int y1, .ref y2, .ref y3])) :: X) a0 w hw gw ch gq x1 t_a0 t_w t_ch (hO.sub (by decide))) kw_794 kw_796 ks_20 kw_1 kw_797 (by decide +kernel) ⟨Nat.le_of_ble_eq_true rfl, Nat.le_of_ble_eq_true rfl⟩ (HT.recv (ci := 11) hkb hH t_a0 (hO.no t_a0 (by decide)) rfl) rfl rfl hl.1 (Nat.le_of_ble_eq_true rfl) dX11_order_2 ⟨by show 0 + 0 ≤ 1; omega, by show 0 + 0 ≤ 16384; omega⟩) (fun v2 u H locs hz9 hH hS => ?_)
  obtain ⟨rfl, l_v2, u_v2, x_v20⟩ := hz9
  have hH : HT D cs A T (ch :: O) ((ch, .inr (0, [.ref y0, .int y1, .ref y2, .ref y3])) :: X) H := hH
  refine W.widen (k := 0) (n := 0) (Nat.le_refl _) (Nat.le_refl _) ?_
  have J17 : ∀  (H : Heap) (locs : List Loc) (ls : Array Slot), HT D cs A T (ch :: O) ((ch, .inr (0, [.ref y0, .int y1, .ref y2, .ref y3])) :: X) H → va_S A s.heap H locs → lv_has ls 5 [] → W p l e { frames := 7, cells := 1, slots := 16384, locals := 193 } s m [.ref a0, .int x1, .int x2, .int x3].toArray below meth c H locs 0 0 (MQD below (fun kk ss => Ti D cs ((fun kk ss r u => ∃ T2 : TF, Tgr T T2 ∧ ∃ (n2 : Nat) (j2 : Nat) (n0_0 : Nat) (n0_1 : Int32), u = (T2, ch :: O, (ch, .inr (0, [.ref n0_0, .int n0_1, .ref y2, .ref y3])) :: X) ∧ (T2 n0_0 = some (1, n2, 0)) ∧ (n2 = 2 ^ j2) ∧ (j ≤ j2) ∧ (j2 ≤ 14) ∧ (0 ≤ n0_1.toInt) ∧ (n0_1.toInt ≤ 16383) ∧ (True) ∧ (kk + j ≤ j2) ∧ (ss + 16384 * j ≤ 16384 * j2) ∧ (kk ≤ 1) ∧ (ss ≤ 16384)) kk ss) A) [.ref a0, .int x1, .int x2, .int x3].toArray s A) (F0 m 17 ls []) := by
    intro  H locs ls  hH hS hl
    refine lv_bipush (v := (-2)) hx hb dX11_order_17 (by decide) ?_
    have z9_m2 : ((-2) : Int32).toInt = -2 := by decide
    exact te_iD hx hb hr hlocks hH hS (⟨T, Tgr.rf, nn, j, y0, y1, rfl, t_y0, hn, by omega, by omega, by omega, by omega, trivial, by omega, by omega, by omega, by omega⟩) dX11_order_19
  refine lv_if_eq (tgt := 17) hx hb dX11_order_5 (by decide) (fun c5 => ?_) (fun c5 => ?_)
  · skip
    have tc5 := f_eq (k := 0) (by decide) c5
    exact J17  _ _ _  hH hS (lv_sub hl [] rfl)
  · skip
    have tc5 := f_ne (k := 0) (by decide) c5
    refine lv_iload_n hx hb dX11_order_8 rfl (lv_at hl 3 rfl) ?_
    refine lv_bipush (v := 14) hx hb dX11_order_9 (by decide) ?_
    refine tk_i hH hS hA (tr_S (n := 2) (As := [.int x3, .int 14]) hx hb hml hown hts hkb hH (ox_map hOX rfl) hks hE hS hA (s_FW_asksRow l D cs kf T (ch :: O) ((ch, .inr (0, [.ref y0, .int y1, .ref y2, .ref y3])) :: X) x3 (14) (by decide) (by decide) (hO.sub (by decide))) kw_970 kw_971 kw_1 kw_972 (by decide +kernel) ⟨Nat.le_of_ble_eq_true rfl, Nat.le_of_ble_eq_true rfl⟩ rfl rfl hl.1 (Nat.le_of_ble_eq_true rfl) dX11_order_11 ⟨by show 0 + 0 ≤ 1; omega, by show 0 + 0 ≤ 16384; omega⟩) (fun v11 u H locs hz9 hH hS => ?_)
    obtain ⟨rfl, l_v11, u_v11⟩ := hz9
    have hH : HT D cs A T (ch :: O) ((ch, .inr (0, [.ref y0, .int y1, .ref y2, .ref y3])) :: X) H := hH
    refine W.widen (k := 0) (n := 0) (Nat.le_refl _) (Nat.le_refl _) ?_
    refine lv_if_ne (tgt := 20) hx hb dX11_order_14 (by decide) (fun c14 => ?_) (fun c14 => ?_)
    · skip
      have tc14 := f_ne (k := 0) (by decide) c14
      refine lv_aload_n hx hb dX11_order_20 rfl (lv_at hl 0 rfl) ?_
      refine lv_aload_n hx hb dX11_order_21 rfl (lv_at hl 0 rfl) ?_
      refine t_get (ci := 11) (lst := ft11 w ch) (C := RX11) (F := TX11) (N := 20) hx hb hts uX11 hown hkb hH t_a0 (hO.no t_a0 (by decide)) (fun _ h9 => h9) rfl rfl 4 (by decide) rfl kw_364 (fun _ h9 => h9) dX11_order_22 (fun v9 h9 => ?_)
      obtain ⟨v22, rfl, t_v22⟩ := h9
      refine t_get (ci := 6) (lst := ft6 0 0) (C := RX6) (F := TX6) (N := 6) hx hb hts uX6 hown hkb hH t_v22 (hO.no t_v22 (by decide)) (fun _ h9 => h9) rfl rfl 2 (by decide) rfl kw_191 (fun _ h9 => h9) dX11_order_25 (fun v9 h9 => ?_)
      obtain ⟨v25, rfl⟩ := h9
      refine tk_i hH hS hA (tr_V (n := 1) (As := [.int v25]) hx hb hml hown hts hkb hH (ox_map hOX rfl) hks hE hS hA (s_FW_thereOn l D cs kf T (ch :: O) ((ch, .inr (0, [.ref y0, .int y1, .ref y2, .ref y3])) :: X) a0 w hw gw ch gq v25 t_a0 t_w t_ch (hO.sub (by decide))) kw_774 kw_776 ks_18 kw_1 kw_777 (by decide +kernel) ⟨Nat.le_of_ble_eq_true rfl, Nat.le_of_ble_eq_true rfl⟩ (HT.recv (ci := 11) hkb hH t_a0 (hO.no t_a0 (by decide)) rfl) rfl rfl hl.1 (Nat.le_of_ble_eq_true rfl) dX11_order_28 ⟨by show 0 + 0 ≤ 1; omega, by show 0 + 0 ≤ 16384; omega⟩) (fun v28 u H locs hz9 hH hS => ?_)
      obtain ⟨rfl, l_v28, u_v28⟩ := hz9
      have hH : HT D cs A T (ch :: O) ((ch, .inr (0, [.ref y0, .int y1, .ref y2, .ref y3])) :: X) H := hH
      refine W.widen (k := 0) (n := 0) (Nat.le_refl _) (Nat.le_refl _) ?_
      refine lv_istore (lv' := [(4, .int v28), (0, .ref a0), (1, .int x1), (2, .int x2), (3, .int x3)]) hx hb dX11_order_31 hl (by decide) rfl (fun ls hl => ?_)
      refine lv_iload_n hx hb dX11_order_33 rfl (lv_at hl 3 rfl) ?_
      refine lv_iload hx hb dX11_order_34 (lv_at hl 0 rfl) ?_
      refine lv_aload_n hx hb dX11_order_36 rfl (lv_at hl 1 rfl) ?_
      refine t_get (ci := 11) (lst := ft11 w ch) (C := RX11) (F := TX11) (N := 20) hx hb hts uX11 hown hkb hH t_a0 (hO.no t_a0 (by decide)) (fun _ h9 => h9) rfl rfl 3 (by decide) rfl kw_363 (fun _ h9 => h9) dX11_order_37 (fun v9 h9 => ?_)
      have h9 : v9 = .ref w := h9
      subst h9
      refine tk_i hH hS hA (tr_V (n := 0) (As := []) hx hb hml hown hts hkb hH (ox_map hOX rfl) hks hE hS hA (s_Wall_middles l D cs kf T (ch :: O) ((ch, .inr (0, [.ref y0, .int y1, .ref y2, .ref y3])) :: X) w hw gw t_w (hO.sub (by decide))) kw_892 kw_683 kw_684 kw_5 kw_685 (by decide +kernel) ⟨Nat.le_of_ble_eq_true rfl, Nat.le_of_ble_eq_true rfl⟩ (HT.recv (ci := 9) hkb hH t_w.1 (hO.no t_w.1 (by decide)) rfl) rfl rfl hl.1 (Nat.le_of_ble_eq_true rfl) dX11_order_40 ⟨by show 0 + 0 ≤ 1; omega, by show 0 + 0 ≤ 16384; omega⟩) (fun v40 u H locs hz9 hH hS => ?_)
      obtain ⟨rfl, l_v40, u_v40⟩ := hz9
      have hH : HT D cs A T (ch :: O) ((ch, .inr (0, [.ref y0, .int y1, .ref y2, .ref y3])) :: X) H := hH
      refine W.widen (k := 0) (n := 0) (Nat.le_refl _) (Nat.le_refl _) ?_
      refine lv_iand hx hb dX11_order_43 ?_
      refine lv_topi (fun v43 ev43 => ?_)
      have tv43 : 0 ≤ v43.toInt ∧ v43.toInt ≤ v28.toInt := by rw [ev43]; exact and_l (by omega)
      have ttv43 : 0 ≤ v43.toInt ∧ v43.toInt ≤ v40.toInt := by rw [ev43]; exact and_r (by omega)
      refine lv_iconst (v := (-1)) hx hb dX11_order_44 (by decide) ?_
      refine lv_ixor hx hb dX11_order_45 ?_
      refine lv_topi (fun v45 ev45 => ?_)
      refine lv_iand hx hb dX11_order_46 ?_
      refine lv_topi (fun v46 ev46 => ?_)
      refine lv_if_eq (tgt := 53) hx hb dX11_order_47 (by decide) (fun c47 => ?_) (fun c47 => ?_)
      · skip
        have tc47 := f_eq (k := 0) (by decide) c47
        refine lv_aload_n hx hb dX11_order_53 rfl (lv_at hl 1 rfl) ?_
        refine t_get (ci := 11) (lst := ft11 w ch) (C := RX11) (F := TX11) (N := 20) hx hb hts uX11 hown hkb hH t_a0 (hO.no t_a0 (by decide)) (fun _ h9 => h9) rfl rfl 16 (by decide) rfl kw_376 (fun _ h9 => h9) dX11_order_54 (fun v9 h9 => ?_)
        have h9 : v9 = .ref ch := h9
        subst h9
        refine x_getk (ci := 0) (C := RX0) (F := TX0) (N := 4) (v := .ref y3) hx hb hts uX0 hown hkb hH 0 rfl rfl 3 (by decide) rfl kw_334 (fun _ h9 => h9) dX11_order_57 ?_
        refine lv_aload_n hx hb dX11_order_60 rfl (lv_at hl 1 rfl) ?_
        refine t_get (ci := 11) (lst := ft11 w ch) (C := RX11) (F := TX11) (N := 20) hx hb hts uX11 hown hkb hH t_a0 (hO.no t_a0 (by decide)) (fun _ h9 => h9) rfl rfl 16 (by decide) rfl kw_376 (fun _ h9 => h9) dX11_order_61 (fun v9 h9 => ?_)
        have h9 : v9 = .ref ch := h9
        subst h9
        refine lv_aload_n hx hb dX11_order_64 rfl (lv_at hl 1 rfl) ?_
        refine lv_iload_n hx hb dX11_order_65 rfl (lv_at hl 2 rfl) ?_
        refine tk_r hH hS hA (tr_V (n := 1) (As := [.int x1]) hx hb hml hown hts hkb hH (ox_map hOX rfl) hks hE hS hA (s_FW_rowsOf l D cs kf T (ch :: O) ((ch, .inr (0, [.ref y0, .int y1, .ref y2, .ref y3])) :: X) a0 w hw gw ch gq x1 t_a0 t_w t_ch (by omega) (by omega) (hO.sub (by decide))) kw_830 kw_832 ks_21 kw_1 kw_833 (by decide +kernel) ⟨Nat.le_of_ble_eq_true rfl, Nat.le_of_ble_eq_true rfl⟩ (HT.recv (ci := 11) hkb hH t_a0 (hO.no t_a0 (by decide)) rfl) rfl rfl hl.1 (Nat.le_of_ble_eq_true rfl) dX11_order_66 ⟨by show 0 + 0 ≤ 1; omega, by show 0 + 0 ≤ 16384; omega⟩) (fun v66 u H locs hz9 hH hS => ?_)
        obtain ⟨hu9, t_v66⟩ := hz9
        have hu9 : u = (T, ch :: O, (ch, .inr (0, [.ref y0, .int y1, .ref y2, .ref y3])) :: X) := hu9
        subst hu9
        have hH : HT D cs A T (ch :: O) ((ch, .inr (0, [.ref y0, .int y1, .ref y2, .ref y3])) :: X) H := hH
        refine W.widen (k := 0) (n := 0) (Nat.le_refl _) (Nat.le_refl _) ?_
        refine lv_iload_n hx hb dX11_order_69 rfl (lv_at hl 3 rfl) ?_
        refine lv_iload hx hb dX11_order_70 (lv_at hl 0 rfl) ?_
        refine tk_iD hH hS hA (tr_VD (n := 3) (As := [.ref v66, .int x2, .int v28]) hx hb hml hown hts hkb hH (ox_map hOX rfl) hks hE hS hA (s_Ch_first l D cs kf T O X ch v66 x2 v28 y0 y1 y2 y3 nn j gq t_ch t_v66 t_y0 (by omega) (by omega) t_y2 t_y3 hn (by omega) (hO.sub (by decide))) kw_1136 kw_1137 kw_1138 kw_11 kw_1139 (by decide +kernel) ⟨Nat.le_of_ble_eq_true rfl, Nat.le_of_ble_eq_true rfl⟩ (x_recv (ci := 0) hkb hH 0 rfl rfl) rfl rfl hl.1 (Nat.le_of_ble_eq_true rfl) dX11_order_72 ⟨by show 0 + 1 ≤ 1; omega, by show 0 + 16384 ≤ 16384; omega⟩) (fun v72 kc72 ks72 u H locs hz9 hH hS => ?_)
        obtain ⟨T72, le_T72, n2_72, j2_72, n72_0_0, n72_0_1, rfl, l_v72, u_v72, x_v720, x_v721, x_v722, x_v723, x_v724, x_v725, x_v726, x_v727, x_v728, x_v729, x_v7210⟩ := hz9
        have t_a0 := le_T72.1 _ _ t_a0
        have t_w := isW.le le_T72.1 t_w
        have t_ch := le_T72.1 _ _ t_ch
        have t_y0 := le_T72.1 _ _ t_y0
        have t_y2 := le_T72.1 _ _ t_y2
        have t_y3 := le_T72.1 _ _ t_y3
        have t_v22 := le_T72.1 _ _ t_v22
        have t_v66 := le_T72.1 _ _ t_v66
        have hO := okO.le le_T72.1 hO
        have t_n72_0_0 := x_v720
        have hnb_72 := p2_le x_v721 (by omega)
        have hH : HT D cs A T72 (ch :: O) ((ch, .inr (0, [.ref n72_0_0, .int n72_0_1, .ref y2, .ref y3])) :: X) H := hH
        refine lv_iload_n hx hb dX11_order_75 rfl (lv_at hl 4 rfl) ?_
        refine tk_i hH hS hA (tr_S (n := 3) (As := [.ref y3, .int v72, .int x3]) hx hb hml hown hts hkb hH (ox_map hOX rfl) hks hE hS hA (s_FW_ofRow14 l D cs kf T72 (ch :: O) ((ch, .inr (0, [.ref n72_0_0, .int n72_0_1, .ref y2, .ref y3])) :: X) y3 v72 x3 t_y3 (by omega) (by omega) (hO.sub (by decide))) kw_973 kw_974 kw_1 kw_975 (by decide +kernel) ⟨Nat.le_of_ble_eq_true rfl, Nat.le_of_ble_eq_true rfl⟩ rfl rfl hl.1 (Nat.le_of_ble_eq_true rfl) dX11_order_76 ⟨by show (0 + kc72) + 0 ≤ 1; omega, by show (0 + ks72) + 0 ≤ 16384; omega⟩) (fun v76 u H locs hz9 hH hS => ?_)
        have hz9 : u = (T72, ch :: O, (ch, .inr (0, [.ref n72_0_0, .int n72_0_1, .ref y2, .ref y3])) :: X) := hz9
        subst hz9
        have hH : HT D cs A T72 (ch :: O) ((ch, .inr (0, [.ref n72_0_0, .int n72_0_1, .ref y2, .ref y3])) :: X) H := hH
        refine W.widen (k := 0 + kc72) (n := 0 + ks72) (Nat.le_refl _) (Nat.le_refl _) ?_
        exact te_iD hx hb hr hlocks hH hS (⟨T72, le_T72, n2_72, j2_72, n72_0_0, n72_0_1, rfl, t_n72_0_0, x_v721, by omega, by omega, by omega, by omega, trivial, by omega, by omega, by omega, by omega⟩) dX11_order_79
      · skip
        have tc47 := f_ne (k := 0) (by decide) c47
        refine lv_bipush (v := (-3)) hx hb dX11_order_50 (by decide) ?_
        have z9_m3 : ((-3) : Int32).toInt = -3 := by decide
        exact te_iD hx hb hr hlocks hH hS (⟨T, Tgr.rf, nn, j, y0, y1, rfl, t_y0, hn, by omega, by omega, by omega, by omega, trivial, by omega, by omega, by omega, by omega⟩) dX11_order_52
    · skip
      have tc14 := f_eq (k := 0) (by decide) c14
      exact J17  _ _ _  hH hS (lv_sub hl [] rfl)
theorem dX11_restore_0 : decode cX11_restore 0 = .ok (.iload_n 1, 1) := by decide +kernel
theorem dX11_restore_1 : decode cX11_restore 1 = .ok (.invokestatic 374, 3) := by decide +kernel
theorem dX11_restore_4 : decode cX11_restore 4 = .ok (.ifCond .ne 6, 3) := by decide +kernel
theorem dX11_restore_7 : decode cX11_restore 7 = .ok (.bipush (-2), 2) := by decide +kernel
theorem dX11_restore_9 : decode cX11_restore 9 = .ok (.ireturn, 1) := by decide +kernel
theorem dX11_restore_10 : decode cX11_restore 10 = .ok (.aload_n 0, 1) := by decide +kernel
theorem dX11_restore_11 : decode cX11_restore 11 = .ok (.getfield 53, 3) := by decide +kernel
theorem dX11_restore_14 : decode cX11_restore 14 = .ok (.iload_n 1, 1) := by decide +kernel
theorem dX11_restore_15 : decode cX11_restore 15 = .ok (.aaload, 1) := by decide +kernel
theorem dX11_restore_16 : decode cX11_restore 16 = .ok (.ifnonnull 6, 3) := by decide +kernel
theorem dX11_restore_19 : decode cX11_restore 19 = .ok (.bipush (-5), 2) := by decide +kernel
theorem dX11_restore_21 : decode cX11_restore 21 = .ok (.ireturn, 1) := by decide +kernel
theorem dX11_restore_22 : decode cX11_restore 22 = .ok (.aload_n 0, 1) := by decide +kernel
theorem dX11_restore_23 : decode cX11_restore 23 = .ok (.aload_n 0, 1) := by decide +kernel
theorem dX11_restore_24 : decode cX11_restore 24 = .ok (.getfield 53, 3) := by decide +kernel
theorem dX11_restore_27 : decode cX11_restore 27 = .ok (.iload_n 1, 1) := by decide +kernel
theorem dX11_restore_28 : decode cX11_restore 28 = .ok (.aaload, 1) := by decide +kernel
theorem dX11_restore_29 : decode cX11_restore 29 = .ok (.putfield 29, 3) := by decide +kernel
theorem dX11_restore_32 : decode cX11_restore 32 = .ok (.aload_n 0, 1) := by decide +kernel
theorem dX11_restore_33 : decode cX11_restore 33 = .ok (.getfield 36, 3) := by decide +kernel
theorem dX11_restore_36 : decode cX11_restore 36 = .ok (.aload_n 0, 1) := by decide +kernel
theorem dX11_restore_37 : decode cX11_restore 37 = .ok (.getfield 57, 3) := by decide +kernel
theorem dX11_restore_40 : decode cX11_restore 40 = .ok (.iload_n 1, 1) := by decide +kernel
theorem dX11_restore_41 : decode cX11_restore 41 = .ok (.aaload, 1) := by decide +kernel
theorem dX11_restore_42 : decode cX11_restore 42 = .ok (.invokevirtual 135, 3) := by decide +kernel
theorem dX11_restore_45 : decode cX11_restore 45 = .ok (.aload_n 0, 1) := by decide +kernel
theorem dX11_restore_46 : decode cX11_restore 46 = .ok (.iconst 0, 1) := by decide +kernel
theorem dX11_restore_47 : decode cX11_restore 47 = .ok (.putfield 47, 3) := by decide +kernel
theorem dX11_restore_50 : decode cX11_restore 50 = .ok (.iconst 0, 1) := by decide +kernel
theorem dX11_restore_51 : decode cX11_restore 51 = .ok (.ireturn, 1) := by decide +kernel
theorem dX11_wall_0 : decode cX11_wall 0 = .ok (.iload_n 1, 1) := by decide +kernel
theorem dX11_wall_1 : decode cX11_wall 1 = .ok (.ifCond .lt 11, 3) := by decide +kernel
theorem dX11_wall_4 : decode cX11_wall 4 = .ok (.iload_n 1, 1) := by decide +kernel
theorem dX11_wall_5 : decode cX11_wall 5 = .ok (.aload_n 0, 1) := by decide +kernel
theorem dX11_wall_6 : decode cX11_wall 6 = .ok (.getfield 13, 3) := by decide +kernel
theorem dX11_wall_9 : decode cX11_wall 9 = .ok (.if_icmp .le 6, 3) := by decide +kernel
theorem dX11_wall_12 : decode cX11_wall 12 = .ok (.bipush (-3), 2) := by decide +kernel
theorem dX11_wall_14 : decode cX11_wall 14 = .ok (.ireturn, 1) := by decide +kernel
theorem dX11_wall_15 : decode cX11_wall 15 = .ok (.aload_n 0, 1) := by decide +kernel
theorem dX11_wall_16 : decode cX11_wall 16 = .ok (.iconst 0, 1) := by decide +kernel
theorem dX11_wall_17 : decode cX11_wall 17 = .ok (.putfield 13, 3) := by decide +kernel
theorem dX11_wall_20 : decode cX11_wall 20 = .ok (.aload_n 0, 1) := by decide +kernel
theorem dX11_wall_21 : decode cX11_wall 21 = .ok (.getfield 20, 3) := by decide +kernel
theorem dX11_wall_24 : decode cX11_wall 24 = .ok (.aload_n 0, 1) := by decide +kernel
theorem dX11_wall_25 : decode cX11_wall 25 = .ok (.getfield 9, 3) := by decide +kernel
theorem dX11_wall_28 : decode cX11_wall 28 = .ok (.iload_n 1, 1) := by decide +kernel
theorem dX11_wall_29 : decode cX11_wall 29 = .ok (.invokevirtual 115, 3) := by decide +kernel
theorem dX11_wall_32 : decode cX11_wall 32 = .ok (.ifCond .ne 17, 3) := by decide +kernel
theorem dX11_wall_35 : decode cX11_wall 35 = .ok (.bipush (-30), 2) := by decide +kernel
theorem dX11_wall_37 : decode cX11_wall 37 = .ok (.aload_n 0, 1) := by decide +kernel
theorem dX11_wall_38 : decode cX11_wall 38 = .ok (.getfield 20, 3) := by decide +kernel
theorem dX11_wall_41 : decode cX11_wall 41 = .ok (.getfield 119, 3) := by decide +kernel
theorem dX11_wall_44 : decode cX11_wall 44 = .ok (.getfield 123, 3) := by decide +kernel
theorem dX11_wall_47 : decode cX11_wall 47 = .ok (.isub, 1) := by decide +kernel
theorem dX11_wall_48 : decode cX11_wall 48 = .ok (.ireturn, 1) := by decide +kernel
theorem dX11_wall_49 : decode cX11_wall 49 = .ok (.aload_n 0, 1) := by decide +kernel
theorem dX11_wall_50 : decode cX11_wall 50 = .ok (.aload_n 0, 1) := by decide +kernel
theorem dX11_wall_51 : decode cX11_wall 51 = .ok (.getfield 20, 3) := by decide +kernel
theorem dX11_wall_54 : decode cX11_wall 54 = .ok (.invokevirtual 128, 3) := by decide +kernel
theorem dX11_wall_57 : decode cX11_wall 57 = .ok (.putfield 29, 3) := by decide +kernel
theorem dX11_wall_60 : decode cX11_wall 60 = .ok (.aload_n 0, 1) := by decide +kernel
theorem dX11_wall_61 : decode cX11_wall 61 = .ok (.getfield 36, 3) := by decide +kernel
theorem dX11_wall_64 : decode cX11_wall 64 = .ok (.aload_n 0, 1) := by decide +kernel
theorem dX11_wall_65 : decode cX11_wall 65 = .ok (.getfield 20, 3) := by decide +kernel
theorem dX11_wall_68 : decode cX11_wall 68 = .ok (.getfield 132, 3) := by decide +kernel
theorem dX11_wall_71 : decode cX11_wall 71 = .ok (.invokevirtual 135, 3) := by decide +kernel
theorem dX11_wall_74 : decode cX11_wall 74 = .ok (.aload_n 0, 1) := by decide +kernel
theorem dX11_wall_75 : decode cX11_wall 75 = .ok (.iconst 0, 1) := by decide +kernel
theorem dX11_wall_76 : decode cX11_wall 76 = .ok (.putfield 47, 3) := by decide +kernel
theorem dX11_wall_79 : decode cX11_wall 79 = .ok (.aload_n 0, 1) := by decide +kernel
theorem dX11_wall_80 : decode cX11_wall 80 = .ok (.getfield 29, 3) := by decide +kernel
theorem dX11_wall_83 : decode cX11_wall 83 = .ok (.getfield 139, 3) := by decide +kernel
theorem dX11_wall_86 : decode cX11_wall 86 = .ok (.ireturn, 1) := by decide +kernel
theorem kw_217 : Cond.fieldLink "FootholdWall" 132 "FootholdWall$Reader" "told" "LFootholdWall$State;" ∈ gw := gw_of (tb_of 217 (by decide +kernel)) (by decide +kernel)
theorem kw_433 : Cond.methodLink "FootholdWall" 115 yX4_read ∈ gw := gw_of (tb_of 433 (by decide +kernel)) (by decide +kernel)
theorem kw_434 : Cond.instanceMethod yX4_read ∈ gw := gw_of (tb_of 434 (by decide +kernel)) (by decide +kernel)
theorem kw_435 : Cond.selects "FootholdWall$Reader" yX4_read yX4_read ∈ gw := gw_of (tb_of 435 (by decide +kernel)) (by decide +kernel)
theorem kw_436 : Cond.code yX4_read cX4_read 4 (some (.boolean)) ∈ gw := gw_of (tb_of 436 (by decide +kernel)) (by decide +kernel)
theorem kw_711 : Cond.methodLink "FootholdWall" 128 yX4_made ∈ gw := gw_of (tb_of 711 (by decide +kernel)) (by decide +kernel)
theorem kw_712 : Cond.instanceMethod yX4_made ∈ gw := gw_of (tb_of 712 (by decide +kernel)) (by decide +kernel)
theorem kw_713 : Cond.selects "FootholdWall$Reader" yX4_made yX4_made ∈ gw := gw_of (tb_of 713 (by decide +kernel)) (by decide +kernel)
theorem kw_714 : Cond.code yX4_made cX4_made 1 (some (.object "FootholdWall$Wall")) ∈ gw := gw_of (tb_of 714 (by decide +kernel)) (by decide +kernel)
set_option maxHeartbeats 4000000 in
set_option maxRecDepth 100000 in
theorem s_FW_wall (l : Launch) (D : va_G) (cs : CS) (kf : KF) (T : TF) (O : List Nat) (X : va_W) (a0 w hw gw ch gq : Nat) (x1 : Int32) (t_a0 : T a0 = some (21, w, ch)) (t_w : isW T w hw gw) (t_ch : T ch = some (10, gq, 0)) (hO : okO T O [0, 1, 12, 13, 14, 16, 17, 19, 21]) : TK l D cs kf yX11_wall cX11_wall 2 (some (.int)) { frames := 33, cells := 10, slots := 1001, locals := 749 } [.ref a0, .int x1] T O X (Ti D cs (fun r u => ∃ (T2 : TF) (w2 : Nat) (h2 : Nat) (g2 : Nat), u = (T2, O, X) ∧ (Tre T T2 a0) ∧ (T2 a0 = some (21, w2, ch)) ∧ (isW T2 w2 h2 g2))) := by
  refine tk_of (by decide) (Nat.le_of_ble_eq_true rfl) (fun p e s m below meth c ls A H locs hx hb hr hml hown hts hlocks hnm hkb hH hS hA hOX hks hE hl => ?_)
  have hown : s.vm.findClass RX11 = some m.cls := hown
  have hl : lv_has ls 2 [(0, .ref a0), (1, .int x1)] := hl
  have b1_w := t_w.2.1
  have b2_w := t_w.2.2
  have hO0 := hO
  obtain ⟨fs9, ho9, hH⟩ := hH.take t_a0 (hO0.no t_a0 (by decide))
  have hp0 : okL T (ft11 w ch) fs9 := ho9
  clear ho9
  obtain ⟨v9, fs9, rfl, h9, hp1⟩ := okL_i hp0
  obtain ⟨q0_0, rfl, t_q0_0⟩ := h9
  obtain ⟨v9, fs9, rfl, h9, hp2⟩ := okL_i hp1
  obtain ⟨q0_1, rfl, l_q0_1, u_q0_1⟩ := h9
  obtain ⟨v9, fs9, rfl, h9, hp3⟩ := okL_i hp2
  obtain ⟨q0_2, dq0_2, rfl, t_q0_2, t_dq0_2⟩ := h9
  obtain ⟨v9, fs9, rfl, h9, hp4⟩ := okL_i hp3
  have h9 : v9 = .ref w := h9
  subst h9
  obtain ⟨v9, fs9, rfl, h9, hp5⟩ := okL_i hp4
  obtain ⟨q0_4, rfl, t_q0_4⟩ := h9
  obtain ⟨v9, fs9, rfl, h9, hp6⟩ := okL_i hp5
  obtain ⟨q0_5, rfl, t_q0_5⟩ := h9
  obtain ⟨v9, fs9, rfl, h9, hp7⟩ := okL_i hp6
  obtain ⟨q0_6, rfl, t_q0_6⟩ := h9
  obtain ⟨v9, fs9, rfl, h9, hp8⟩ := okL_i hp7
  obtain ⟨q0_7, rfl, l_q0_7, u_q0_7⟩ := h9
  obtain ⟨v9, fs9, rfl, h9, hp9⟩ := okL_i hp8
  obtain ⟨q0_8, rfl, l_q0_8, u_q0_8⟩ := h9
  obtain ⟨v9, fs9, rfl, h9, hp10⟩ := okL_i hp9
  obtain ⟨q0_9, rfl, t_q0_9⟩ := h9
  obtain ⟨v9, fs9, rfl, h9, hp11⟩ := okL_i hp10
  obtain ⟨q0_10, rfl, t_q0_10⟩ := h9
  obtain ⟨v9, fs9, rfl, h9, hp12⟩ := okL_i hp11
  obtain ⟨q0_11, g9, rfl, t_q0_11, gt_q0_11⟩ := h9
  have q9 := tl_eq gt_q0_11 t_ch
  rw [q9] at t_q0_11
  obtain ⟨v9, fs9, rfl, h9, hp13⟩ := okL_i hp12
  obtain ⟨q0_12, rfl, t_q0_12⟩ := h9
  obtain ⟨v9, fs9, rfl, h9, hp14⟩ := okL_i hp13
  obtain ⟨q0_13, rfl, t_q0_13⟩ := h9
  obtain ⟨v9, fs9, rfl, h9, hp15⟩ := okL_i hp14
  obtain ⟨q0_14, rfl, t_q0_14⟩ := h9
  obtain ⟨v9, fs9, rfl, h9, hp16⟩ := okL_i hp15
  obtain ⟨q0_15, rfl, t_q0_15⟩ := h9
  obtain ⟨v9, fs9, rfl, h9, hp17⟩ := okL_i hp16
  have h9 : v9 = .ref ch := h9
  subst h9
  obtain ⟨v9, fs9, rfl, h9, hp18⟩ := okL_i hp17
  obtain ⟨q0_17, rfl, t_q0_17⟩ := h9
  obtain ⟨v9, fs9, rfl, h9, hp19⟩ := okL_i hp18
  obtain ⟨q0_18, rfl, t_q0_18⟩ := h9
  obtain ⟨v9, fs9, rfl, h9, hp20⟩ := okL_i hp19
  obtain ⟨q0_19, rfl⟩ := h9
  have hpz := okL_z hp20
  subst hpz
  have hH : HT D cs A T (a0 :: O) ((a0, .inr (11, [.ref q0_0, .int q0_1, .ref q0_2, .ref w, .ref q0_4, .ref q0_5, .ref q0_6, .int q0_7, .int q0_8, .ref q0_9, .ref q0_10, .ref q0_11, .ref q0_12, .ref q0_13, .ref q0_14, .ref q0_15, .ref ch, .ref q0_17, .ref q0_18, .int q0_19])) :: X) H := hH
  have hO : okO T (a0 :: O) [0, 1, 12, 13, 14, 16, 17, 19] := okO.cons (hO0.sub (by decide)) t_a0 (by decide)
  refine lv_iload_n hx hb dX11_wall_0 rfl (lv_at hl 1 rfl) ?_
  have J12 : ∀  (H : Heap) (locs : List Loc) (ls : Array Slot), HT D cs A T (a0 :: O) ((a0, .inr (11, [.ref q0_0, .int q0_1, .ref q0_2, .ref w, .ref q0_4, .ref q0_5, .ref q0_6, .int q0_7, .int q0_8, .ref q0_9, .ref q0_10, .ref q0_11, .ref q0_12, .ref q0_13, .ref q0_14, .ref q0_15, .ref ch, .ref q0_17, .ref q0_18, .int q0_19])) :: X) H → va_S A s.heap H locs → lv_has ls 2 [] → W p l e { frames := 33, cells := 10, slots := 1001, locals := 749 } s m [.ref a0, .int x1].toArray below meth c H locs 0 0 (MQ below (Ti D cs (fun r u => ∃ (T2 : TF) (w2 : Nat) (h2 : Nat) (g2 : Nat), u = (T2, O, X) ∧ (Tre T T2 a0) ∧ (T2 a0 = some (21, w2, ch)) ∧ (isW T2 w2 h2 g2)) A) [.ref a0, .int x1].toArray s 10 1001 A) (F0 m 12 ls []) := by
    intro  H locs ls  hH hS hl
    refine lv_bipush (v := (-3)) hx hb dX11_wall_12 (by decide) ?_
    have hH : HT D cs A T O X H := HT.lay (ci := 11) hH t_a0 (okL_c (⟨_, rfl, t_q0_0⟩) (okL_c (⟨_, rfl, by omega, by omega⟩) (okL_c (⟨_, _, rfl, t_q0_2, t_dq0_2⟩) (okL_c (rfl) (okL_c (⟨_, rfl, t_q0_4⟩) (okL_c (⟨_, rfl, t_q0_5⟩) (okL_c (⟨_, rfl, t_q0_6⟩) (okL_c (⟨_, rfl, by omega, by omega⟩) (okL_c (⟨_, rfl, by omega, by omega⟩) (okL_c (⟨_, rfl, t_q0_9⟩) (okL_c (⟨_, rfl, t_q0_10⟩) (okL_c (⟨_, _, rfl, t_q0_11, t_ch⟩) (okL_c (⟨_, rfl, t_q0_12⟩) (okL_c (⟨_, rfl, t_q0_13⟩) (okL_c (⟨_, rfl, t_q0_14⟩) (okL_c (⟨_, rfl, t_q0_15⟩) (okL_c (rfl) (okL_c (⟨_, rfl, t_q0_17⟩) (okL_c (⟨_, rfl, t_q0_18⟩) (okL_c (⟨_, rfl⟩) (okL_n)))))))))))))))))))))
    have hO := hO0
    refine W.widen (k := 10) (n := 1001) (Nat.le_of_ble_eq_true rfl) (Nat.le_of_ble_eq_true rfl) ?_
    have z9_m3 : ((-3) : Int32).toInt = -3 := by decide
    exact te_i hx hb hr hlocks hH hS (⟨T, w, hw, gw, rfl, Tre.of Tgr.rf, t_a0, t_w⟩) dX11_wall_14
  refine lv_if_lt (tgt := 12) hx hb dX11_wall_1 (by decide) (fun c1 => ?_) (fun c1 => ?_)
  · skip
    have tc1 := f_lt (k := 0) (by decide) c1
    exact J12  _ _ _  hH hS (lv_sub hl [] rfl)
  · skip
    have tc1 := f_nlt (k := 0) (by decide) c1
    refine lv_iload_n hx hb dX11_wall_4 rfl (lv_at hl 1 rfl) ?_
    refine lv_aload_n hx hb dX11_wall_5 rfl (lv_at hl 0 rfl) ?_
    refine x_get (ci := 11) (C := RX11) (F := TX11) (N := 20) (v := .int q0_1) hx hb hts uX11 hown hkb hH rfl 1 (by decide) rfl kw_361 (fun _ h9 => h9) dX11_wall_6 ?_
    refine lv_icmp_le (tgt := 15) hx hb dX11_wall_9 (by decide) (fun c9 => ?_) (fun c9 => ?_)
    · skip
      have fuc9 := full_i x1
      have fvc9 := full_i q0_1
      have tc9 := g_le c9
      refine lv_aload_n hx hb dX11_wall_15 rfl (lv_at hl 0 rfl) ?_
      refine lv_iconst (v := 0) hx hb dX11_wall_16 (by decide) ?_
      refine x_put (ci := 11) (v := .int 0) (ty := tyX11 1) (C := RX11) (F := TX11) (N := 20) hx hb hts uX11 tyX11 tyX11_ok nmX11 hown hkb hH hS rfl 1 (by decide) kw_361 (fun _ h9 => h9) rfl (tyX11_ok 1 (by decide)) rfl rfl (Nat.le_of_ble_eq_true rfl) dX11_wall_17 (fun H locs hH hS => ?_)
      have hH : HT D cs A T (a0 :: O) ((a0, .inr (11, [.ref q0_0, .int 0, .ref q0_2, .ref w, .ref q0_4, .ref q0_5, .ref q0_6, .int q0_7, .int q0_8, .ref q0_9, .ref q0_10, .ref q0_11, .ref q0_12, .ref q0_13, .ref q0_14, .ref q0_15, .ref ch, .ref q0_17, .ref q0_18, .int q0_19])) :: X) H := hH
      refine lv_aload_n hx hb dX11_wall_20 rfl (lv_at hl 0 rfl) ?_
      refine x_get (ci := 11) (C := RX11) (F := TX11) (N := 20) (v := .ref q0_2) hx hb hts uX11 hown hkb hH rfl 2 (by decide) rfl kw_362 (fun _ h9 => h9) dX11_wall_21 ?_
      refine lv_aload_n hx hb dX11_wall_24 rfl (lv_at hl 0 rfl) ?_
      refine x_get (ci := 11) (C := RX11) (F := TX11) (N := 20) (v := .ref q0_0) hx hb hts uX11 hown hkb hH rfl 0 (by decide) rfl kw_360 (fun _ h9 => h9) dX11_wall_25 ?_
      refine lv_iload_n hx hb dX11_wall_28 rfl (lv_at hl 1 rfl) ?_
      refine tk_i hH hS hA (tr_V (n := 2) (As := [.ref q0_0, .int x1]) hx hb hml hown hts hkb hH (ox_c hOX) hks hE hS hA (s_RD_read l D cs kf T (a0 :: O) ((a0, .inr (11, [.ref q0_0, .int 0, .ref q0_2, .ref w, .ref q0_4, .ref q0_5, .ref q0_6, .int q0_7, .int q0_8, .ref q0_9, .ref q0_10, .ref q0_11, .ref q0_12, .ref q0_13, .ref q0_14, .ref q0_15, .ref ch, .ref q0_17, .ref q0_18, .int q0_19])) :: X) q0_2 dq0_2 q0_0 x1 t_q0_2 t_dq0_2 t_q0_0 (by omega) (by omega) (hO.sub (by decide))) kw_433 kw_434 kw_435 kw_2 kw_436 (by decide +kernel) ⟨Nat.le_of_ble_eq_true rfl, Nat.le_of_ble_eq_true rfl⟩ (HT.recv (ci := 4) hkb hH t_q0_2 (hO.no t_q0_2 (by decide)) rfl) rfl rfl hl.1 (Nat.le_of_ble_eq_true rfl) dX11_wall_29 ⟨Nat.le_of_ble_eq_true rfl, Nat.le_of_ble_eq_true rfl⟩) (fun v29 u H locs hz9 hH hS => ?_)
      obtain ⟨rfl, l_v29, u_v29⟩ := hz9
      have hH : HT D cs A T (a0 :: O) ((a0, .inr (11, [.ref q0_0, .int 0, .ref q0_2, .ref w, .ref q0_4, .ref q0_5, .ref q0_6, .int q0_7, .int q0_8, .ref q0_9, .ref q0_10, .ref q0_11, .ref q0_12, .ref q0_13, .ref q0_14, .ref q0_15, .ref ch, .ref q0_17, .ref q0_18, .int q0_19])) :: X) H := hH
      refine W.widen (k := 0) (n := 0) (Nat.le_of_ble_eq_true rfl) (Nat.le_of_ble_eq_true rfl) ?_
      refine lv_if_ne (tgt := 49) hx hb dX11_wall_32 (by decide) (fun c32 => ?_) (fun c32 => ?_)
      · skip
        have tc32 := f_ne (k := 0) (by decide) c32
        refine lv_aload_n hx hb dX11_wall_49 rfl (lv_at hl 0 rfl) ?_
        refine lv_aload_n hx hb dX11_wall_50 rfl (lv_at hl 0 rfl) ?_
        refine x_get (ci := 11) (C := RX11) (F := TX11) (N := 20) (v := .ref q0_2) hx hb hts uX11 hown hkb hH rfl 2 (by decide) rfl kw_362 (fun _ h9 => h9) dX11_wall_51 ?_
        refine tk_r hH hS hA (tr_V (n := 0) (As := []) hx hb hml hown hts hkb hH (ox_c hOX) hks hE hS hA (s_RD_made l D cs kf T (a0 :: O) ((a0, .inr (11, [.ref q0_0, .int 0, .ref q0_2, .ref w, .ref q0_4, .ref q0_5, .ref q0_6, .int q0_7, .int q0_8, .ref q0_9, .ref q0_10, .ref q0_11, .ref q0_12, .ref q0_13, .ref q0_14, .ref q0_15, .ref ch, .ref q0_17, .ref q0_18, .int q0_19])) :: X) q0_2 dq0_2 t_q0_2 t_dq0_2 (hO.sub (by decide))) kw_711 kw_712 kw_713 kw_2 kw_714 (by decide +kernel) ⟨Nat.le_of_ble_eq_true rfl, Nat.le_of_ble_eq_true rfl⟩ (HT.recv (ci := 4) hkb hH t_q0_2 (hO.no t_q0_2 (by decide)) rfl) rfl rfl hl.1 (Nat.le_of_ble_eq_true rfl) dX11_wall_54 ⟨Nat.le_of_ble_eq_true rfl, Nat.le_of_ble_eq_true rfl⟩) (fun v54 u H locs hz9 hH hS => ?_)
        obtain ⟨T54, le_T54, rfl, ⟨hv54, gv54, t_v54⟩⟩ := hz9
        have t_a0 := le_T54.1 _ _ t_a0
        have t_w := isW.le le_T54.1 t_w
        have t_ch := le_T54.1 _ _ t_ch
        have t_q0_0 := le_T54.1 _ _ t_q0_0
        have t_q0_2 := le_T54.1 _ _ t_q0_2
        have t_dq0_2 := le_T54.1 _ _ t_dq0_2
        have t_q0_4 := le_T54.1 _ _ t_q0_4
        have t_q0_5 := le_T54.1 _ _ t_q0_5
        have t_q0_6 := le_T54.1 _ _ t_q0_6
        have t_q0_9 := le_T54.1 _ _ t_q0_9
        have t_q0_10 := le_T54.1 _ _ t_q0_10
        have t_q0_11 := le_T54.1 _ _ t_q0_11
        have t_q0_12 := le_T54.1 _ _ t_q0_12
        have t_q0_13 := le_T54.1 _ _ t_q0_13
        have t_q0_14 := le_T54.1 _ _ t_q0_14
        have t_q0_15 := le_T54.1 _ _ t_q0_15
        have t_q0_17 := le_T54.1 _ _ t_q0_17
        have t_q0_18 := le_T54.1 _ _ t_q0_18
        have hO := okO.le le_T54.1 hO
        have hO0 := okO.le le_T54.1 hO0
        have hH : HT D cs A T54 (a0 :: O) ((a0, .inr (11, [.ref q0_0, .int 0, .ref q0_2, .ref w, .ref q0_4, .ref q0_5, .ref q0_6, .int q0_7, .int q0_8, .ref q0_9, .ref q0_10, .ref q0_11, .ref q0_12, .ref q0_13, .ref q0_14, .ref q0_15, .ref ch, .ref q0_17, .ref q0_18, .int q0_19])) :: X) H := hH
        refine W.widen (k := 10) (n := 1001) (Nat.le_of_ble_eq_true rfl) (Nat.le_of_ble_eq_true rfl) ?_
        refine x_put (ci := 11) (v := .ref v54) (ty := tyX11 3) (C := RX11) (F := TX11) (N := 20) hx hb hts uX11 tyX11 tyX11_ok nmX11 hown hkb hH hS rfl 3 (by decide) kw_363 (fun _ h9 => h9) rfl (tyX11_ok 3 (by decide)) rfl rfl (Nat.le_of_ble_eq_true rfl) dX11_wall_57 (fun H locs hH hS => ?_)
        have hH : HT D cs A T54 (a0 :: O) ((a0, .inr (11, [.ref q0_0, .int 0, .ref q0_2, .ref v54, .ref q0_4, .ref q0_5, .ref q0_6, .int q0_7, .int q0_8, .ref q0_9, .ref q0_10, .ref q0_11, .ref q0_12, .ref q0_13, .ref q0_14, .ref q0_15, .ref ch, .ref q0_17, .ref q0_18, .int q0_19])) :: X) H := hH
        refine lv_aload_n hx hb dX11_wall_60 rfl (lv_at hl 0 rfl) ?_
        refine x_get (ci := 11) (C := RX11) (F := TX11) (N := 20) (v := .ref q0_4) hx hb hts uX11 hown hkb hH rfl 4 (by decide) rfl kw_364 (fun _ h9 => h9) dX11_wall_61 ?_
        refine lv_aload_n hx hb dX11_wall_64 rfl (lv_at hl 0 rfl) ?_
        refine x_get (ci := 11) (C := RX11) (F := TX11) (N := 20) (v := .ref q0_2) hx hb hts uX11 hown hkb hH rfl 2 (by decide) rfl kw_362 (fun _ h9 => h9) dX11_wall_65 ?_
        refine t_get (ci := 4) (lst := ft4 dq0_2 0) (C := RX4) (F := TX4) (N := 5) hx hb hts uX4 hown hkb hH t_q0_2 (hO.no t_q0_2 (by decide)) (fun _ h9 => h9) rfl rfl 4 (by decide) rfl kw_217 (fun _ h9 => h9) dX11_wall_68 (fun v9 h9 => ?_)
        obtain ⟨v68, rfl, t_v68⟩ := h9
        refine tk_v hH hS hA (tr_V (n := 1) (As := [.ref v68]) hx hb hml hown hts hkb hH (ox_c hOX) hks hE hS hA (s_State_take l D cs kf T54 (a0 :: O) ((a0, .inr (11, [.ref q0_0, .int 0, .ref q0_2, .ref v54, .ref q0_4, .ref q0_5, .ref q0_6, .int q0_7, .int q0_8, .ref q0_9, .ref q0_10, .ref q0_11, .ref q0_12, .ref q0_13, .ref q0_14, .ref q0_15, .ref ch, .ref q0_17, .ref q0_18, .int q0_19])) :: X) q0_4 v68 t_q0_4 t_v68 (hO.sub (by decide))) kw_757 kw_758 kw_759 kw_7 kw_760 (by decide +kernel) ⟨Nat.le_of_ble_eq_true rfl, Nat.le_of_ble_eq_true rfl⟩ (HT.recv (ci := 6) hkb hH t_q0_4 (hO.no t_q0_4 (by decide)) rfl) rfl rfl hl.1 (Nat.le_of_ble_eq_true rfl) dX11_wall_71 ⟨Nat.le_of_ble_eq_true rfl, Nat.le_of_ble_eq_true rfl⟩) (fun u H locs hz9 hH hS => ?_)
        have hz9 : u = (T54, a0 :: O, (a0, .inr (11, [.ref q0_0, .int 0, .ref q0_2, .ref v54, .ref q0_4, .ref q0_5, .ref q0_6, .int q0_7, .int q0_8, .ref q0_9, .ref q0_10, .ref q0_11, .ref q0_12, .ref q0_13, .ref q0_14, .ref q0_15, .ref ch, .ref q0_17, .ref q0_18, .int q0_19])) :: X) := hz9
        subst hz9
        have hH : HT D cs A T54 (a0 :: O) ((a0, .inr (11, [.ref q0_0, .int 0, .ref q0_2, .ref v54, .ref q0_4, .ref q0_5, .ref q0_6, .int q0_7, .int q0_8, .ref q0_9, .ref q0_10, .ref q0_11, .ref q0_12, .ref q0_13, .ref q0_14, .ref q0_15, .ref ch, .ref q0_17, .ref q0_18, .int q0_19])) :: X) H := hH
        refine W.widen (k := 10) (n := 1001) (Nat.le_of_ble_eq_true rfl) (Nat.le_of_ble_eq_true rfl) ?_
        refine lv_aload_n hx hb dX11_wall_74 rfl (lv_at hl 0 rfl) ?_
        refine lv_iconst (v := 0) hx hb dX11_wall_75 (by decide) ?_
        refine x_put (ci := 11) (v := .int 0) (ty := tyX11 7) (C := RX11) (F := TX11) (N := 20) hx hb hts uX11 tyX11 tyX11_ok nmX11 hown hkb hH hS rfl 7 (by decide) kw_367 (fun _ h9 => h9) rfl (tyX11_ok 7 (by decide)) rfl rfl (Nat.le_of_ble_eq_true rfl) dX11_wall_76 (fun H locs hH hS => ?_)
        have hH : HT D cs A T54 (a0 :: O) ((a0, .inr (11, [.ref q0_0, .int 0, .ref q0_2, .ref v54, .ref q0_4, .ref q0_5, .ref q0_6, .int 0, .int q0_8, .ref q0_9, .ref q0_10, .ref q0_11, .ref q0_12, .ref q0_13, .ref q0_14, .ref q0_15, .ref ch, .ref q0_17, .ref q0_18, .int q0_19])) :: X) H := hH
        refine lv_aload_n hx hb dX11_wall_79 rfl (lv_at hl 0 rfl) ?_
        refine x_get (ci := 11) (C := RX11) (F := TX11) (N := 20) (v := .ref v54) hx hb hts uX11 hown hkb hH rfl 3 (by decide) rfl kw_363 (fun _ h9 => h9) dX11_wall_80 ?_
        refine t_get (ci := 9) (lst := ft9w hv54 gv54) (C := RX9) (F := TX9) (N := 14) hx hb hts uX9 hown hkb hH t_v54.1 (hO.no t_v54.1 (by decide)) (fun fs => (ob9w t_v54 fs).mp) rfl rfl 2 (by decide) rfl kw_115 (fun _ h9 => h9) dX11_wall_83 (fun v9 h9 => ?_)
        obtain ⟨v83, rfl⟩ := h9
        obtain ⟨Tz, re_Tz, tz_a0, tz_w, hH⟩ : ∃ Tz, Tre T54 Tz a0 ∧ Tz a0 = some (21, v54, ch) ∧ isW Tz v54 hv54 gv54 ∧ HT D cs A Tz O X H := ⟨Tadd T54 a0 (21, v54, ch), Tre.add t_a0, Tadd_r, isW.re t_a0 t_v54, HT.re (w2 := v54) hH t_a0 (okL_c (⟨_, rfl, t_q0_0⟩) (okL_c (⟨_, rfl, by decide, by decide⟩) (okL_c (⟨_, _, rfl, t_q0_2, t_dq0_2⟩) (okL_c (rfl) (okL_c (⟨_, rfl, t_q0_4⟩) (okL_c (⟨_, rfl, t_q0_5⟩) (okL_c (⟨_, rfl, t_q0_6⟩) (okL_c (⟨_, rfl, by decide, by decide⟩) (okL_c (⟨_, rfl, by omega, by omega⟩) (okL_c (⟨_, rfl, t_q0_9⟩) (okL_c (⟨_, rfl, t_q0_10⟩) (okL_c (⟨_, _, rfl, t_q0_11, t_ch⟩) (okL_c (⟨_, rfl, t_q0_12⟩) (okL_c (⟨_, rfl, t_q0_13⟩) (okL_c (⟨_, rfl, t_q0_14⟩) (okL_c (⟨_, rfl, t_q0_15⟩) (okL_c (rfl) (okL_c (⟨_, rfl, t_q0_17⟩) (okL_c (⟨_, rfl, t_q0_18⟩) (okL_c (⟨_, rfl⟩) (okL_n)))))))))))))))))))))⟩
        exact te_i hx hb hr hlocks hH hS (⟨Tz, v54, hv54, gv54, rfl, Tre.tr (Tre.of le_T54) re_Tz, tz_a0, tz_w⟩) dX11_wall_86
      · skip
        have tc32 := f_eq (k := 0) (by decide) c32
        refine lv_bipush (v := (-30)) hx hb dX11_wall_35 (by decide) ?_
        refine lv_aload_n hx hb dX11_wall_37 rfl (lv_at hl 0 rfl) ?_
        refine x_get (ci := 11) (C := RX11) (F := TX11) (N := 20) (v := .ref q0_2) hx hb hts uX11 hown hkb hH rfl 2 (by decide) rfl kw_362 (fun _ h9 => h9) dX11_wall_38 ?_
        refine t_get (ci := 4) (lst := ft4 dq0_2 0) (C := RX4) (F := TX4) (N := 5) hx hb hts uX4 hown hkb hH t_q0_2 (hO.no t_q0_2 (by decide)) (fun _ h9 => h9) rfl rfl 0 (by decide) rfl kw_212 (fun _ h9 => h9) dX11_wall_41 (fun v9 h9 => ?_)
        obtain ⟨v41, rfl, t_v41⟩ := h9
        refine t_get (ci := 7) (lst := ft7 0 0) (C := RX7) (F := TX7) (N := 8) hx hb hts uX7 hown hkb hH t_v41 (hO.no t_v41 (by decide)) (fun _ h9 => ob7_ok h9) rfl rfl 6 (by decide) rfl kw_55 (fun _ h9 => h9) dX11_wall_44 (fun v9 h9 => ?_)
        obtain ⟨v44, rfl⟩ := h9
        refine lv_isub hx hb dX11_wall_47 ?_
        refine lv_topi (fun v47 ev47 => ?_)
        have hH : HT D cs A T O X H := HT.lay (ci := 11) hH t_a0 (okL_c (⟨_, rfl, t_q0_0⟩) (okL_c (⟨_, rfl, by decide, by decide⟩) (okL_c (⟨_, _, rfl, t_q0_2, t_dq0_2⟩) (okL_c (rfl) (okL_c (⟨_, rfl, t_q0_4⟩) (okL_c (⟨_, rfl, t_q0_5⟩) (okL_c (⟨_, rfl, t_q0_6⟩) (okL_c (⟨_, rfl, by omega, by omega⟩) (okL_c (⟨_, rfl, by omega, by omega⟩) (okL_c (⟨_, rfl, t_q0_9⟩) (okL_c (⟨_, rfl, t_q0_10⟩) (okL_c (⟨_, _, rfl, t_q0_11, t_ch⟩) (okL_c (⟨_, rfl, t_q0_12⟩) (okL_c (⟨_, rfl, t_q0_13⟩) (okL_c (⟨_, rfl, t_q0_14⟩) (okL_c (⟨_, rfl, t_q0_15⟩) (okL_c (rfl) (okL_c (⟨_, rfl, t_q0_17⟩) (okL_c (⟨_, rfl, t_q0_18⟩) (okL_c (⟨_, rfl⟩) (okL_n)))))))))))))))))))))
        have hO := hO0
        refine W.widen (k := 10) (n := 1001) (Nat.le_of_ble_eq_true rfl) (Nat.le_of_ble_eq_true rfl) ?_
        exact te_i hx hb hr hlocks hH hS (⟨T, w, hw, gw, rfl, Tre.of Tgr.rf, t_a0, t_w⟩) dX11_wall_48
    · skip
      have fuc9 := full_i x1
      have fvc9 := full_i q0_1
      have tc9 := g_nle c9
      exact J12  _ _ _  hH hS (lv_sub hl [] rfl)
set_option maxHeartbeats 4000000 in
set_option maxRecDepth 100000 in
theorem s_FW_restore (l : Launch) (D : va_G) (cs : CS) (kf : KF) (T : TF) (O : List Nat) (X : va_W) (a0 w hw gw ch gq : Nat) (x1 : Int32) (t_a0 : T a0 = some (21, w, ch)) (t_w : isW T w hw gw) (t_ch : T ch = some (10, gq, 0)) (hO : okO T O [1, 4, 5, 16, 21]) : TK l D cs kf yX11_restore cX11_restore 2 (some (.int)) { frames := 2, cells := 0, slots := 0, locals := 81 } [.ref a0, .int x1] T O X (Ti D cs (fun r u => ∃ (T2 : TF) (w2 : Nat) (h2 : Nat) (g2 : Nat), u = (T2, O, X) ∧ -5 ≤ r.toInt ∧ r.toInt ≤ 0 ∧ (Tre T T2 a0) ∧ (T2 a0 = some (21, w2, ch)) ∧ (isW T2 w2 h2 g2))) := by
  refine tk_of (by decide) (Nat.le_of_ble_eq_true rfl) (fun p e s m below meth c ls A H locs hx hb hr hml hown hts hlocks hnm hkb hH hS hA hOX hks hE hl => ?_)
  have hown : s.vm.findClass RX11 = some m.cls := hown
  have hl : lv_has ls 2 [(0, .ref a0), (1, .int x1)] := hl
  have b1_w := t_w.2.1
  have b2_w := t_w.2.2
  have hO0 := hO
  obtain ⟨fs9, ho9, hH⟩ := hH.take t_a0 (hO0.no t_a0 (by decide))
  have hp0 : okL T (ft11 w ch) fs9 := ho9
  clear ho9
  obtain ⟨v9, fs9, rfl, h9, hp1⟩ := okL_i hp0
  obtain ⟨q0_0, rfl, t_q0_0⟩ := h9
  obtain ⟨v9, fs9, rfl, h9, hp2⟩ := okL_i hp1
  obtain ⟨q0_1, rfl, l_q0_1, u_q0_1⟩ := h9
  obtain ⟨v9, fs9, rfl, h9, hp3⟩ := okL_i hp2
  obtain ⟨q0_2, dq0_2, rfl, t_q0_2, t_dq0_2⟩ := h9
  obtain ⟨v9, fs9, rfl, h9, hp4⟩ := okL_i hp3
  have h9 : v9 = .ref w := h9
  subst h9
  obtain ⟨v9, fs9, rfl, h9, hp5⟩ := okL_i hp4
  obtain ⟨q0_4, rfl, t_q0_4⟩ := h9
  obtain ⟨v9, fs9, rfl, h9, hp6⟩ := okL_i hp5
  obtain ⟨q0_5, rfl, t_q0_5⟩ := h9
  obtain ⟨v9, fs9, rfl, h9, hp7⟩ := okL_i hp6
  obtain ⟨q0_6, rfl, t_q0_6⟩ := h9
  obtain ⟨v9, fs9, rfl, h9, hp8⟩ := okL_i hp7
  obtain ⟨q0_7, rfl, l_q0_7, u_q0_7⟩ := h9
  obtain ⟨v9, fs9, rfl, h9, hp9⟩ := okL_i hp8
  obtain ⟨q0_8, rfl, l_q0_8, u_q0_8⟩ := h9
  obtain ⟨v9, fs9, rfl, h9, hp10⟩ := okL_i hp9
  obtain ⟨q0_9, rfl, t_q0_9⟩ := h9
  obtain ⟨v9, fs9, rfl, h9, hp11⟩ := okL_i hp10
  obtain ⟨q0_10, rfl, t_q0_10⟩ := h9
  obtain ⟨v9, fs9, rfl, h9, hp12⟩ := okL_i hp11
  obtain ⟨q0_11, g9, rfl, t_q0_11, gt_q0_11⟩ := h9
  have q9 := tl_eq gt_q0_11 t_ch
  rw [q9] at t_q0_11
  obtain ⟨v9, fs9, rfl, h9, hp13⟩ := okL_i hp12
  obtain ⟨q0_12, rfl, t_q0_12⟩ := h9
  obtain ⟨v9, fs9, rfl, h9, hp14⟩ := okL_i hp13
  obtain ⟨q0_13, rfl, t_q0_13⟩ := h9
  obtain ⟨v9, fs9, rfl, h9, hp15⟩ := okL_i hp14
  obtain ⟨q0_14, rfl, t_q0_14⟩ := h9
  obtain ⟨v9, fs9, rfl, h9, hp16⟩ := okL_i hp15
  obtain ⟨q0_15, rfl, t_q0_15⟩ := h9
  obtain ⟨v9, fs9, rfl, h9, hp17⟩ := okL_i hp16
  have h9 : v9 = .ref ch := h9
  subst h9
  obtain ⟨v9, fs9, rfl, h9, hp18⟩ := okL_i hp17
  obtain ⟨q0_17, rfl, t_q0_17⟩ := h9
  obtain ⟨v9, fs9, rfl, h9, hp19⟩ := okL_i hp18
  obtain ⟨q0_18, rfl, t_q0_18⟩ := h9
  obtain ⟨v9, fs9, rfl, h9, hp20⟩ := okL_i hp19
  obtain ⟨q0_19, rfl⟩ := h9
  have hpz := okL_z hp20
  subst hpz
  have hH : HT D cs A T (a0 :: O) ((a0, .inr (11, [.ref q0_0, .int q0_1, .ref q0_2, .ref w, .ref q0_4, .ref q0_5, .ref q0_6, .int q0_7, .int q0_8, .ref q0_9, .ref q0_10, .ref q0_11, .ref q0_12, .ref q0_13, .ref q0_14, .ref q0_15, .ref ch, .ref q0_17, .ref q0_18, .int q0_19])) :: X) H := hH
  have hO : okO T (a0 :: O) [1, 4, 5, 16] := okO.cons (hO0.sub (by decide)) t_a0 (by decide)
  refine lv_iload_n hx hb dX11_restore_0 rfl (lv_at hl 1 rfl) ?_
  refine tk_i hH hS hA (tr_S (n := 1) (As := [.int x1]) hx hb hml hown hts hkb hH (ox_c hOX) hks hE hS hA (s_FW_isImage l D cs kf T (a0 :: O) ((a0, .inr (11, [.ref q0_0, .int q0_1, .ref q0_2, .ref w, .ref q0_4, .ref q0_5, .ref q0_6, .int q0_7, .int q0_8, .ref q0_9, .ref q0_10, .ref q0_11, .ref q0_12, .ref q0_13, .ref q0_14, .ref q0_15, .ref ch, .ref q0_17, .ref q0_18, .int q0_19])) :: X) x1  (hO.sub (by decide))) kw_1202 kw_1203 kw_1 kw_1204 (by decide +kernel) ⟨Nat.le_of_ble_eq_true rfl, Nat.le_of_ble_eq_true rfl⟩ rfl rfl hl.1 (Nat.le_of_ble_eq_true rfl) dX11_restore_1 ⟨Nat.le_of_ble_eq_true rfl, Nat.le_of_ble_eq_true rfl⟩) (fun v1 u H locs hz9 hH hS => ?_)
  obtain ⟨rfl, l_v1, u_v1, x_v10⟩ := hz9
  have hH : HT D cs A T (a0 :: O) ((a0, .inr (11, [.ref q0_0, .int q0_1, .ref q0_2, .ref w, .ref q0_4, .ref q0_5, .ref q0_6, .int q0_7, .int q0_8, .ref q0_9, .ref q0_10, .ref q0_11, .ref q0_12, .ref q0_13, .ref q0_14, .ref q0_15, .ref ch, .ref q0_17, .ref q0_18, .int q0_19])) :: X) H := hH
  refine W.widen (k := 0) (n := 0) (Nat.le_of_ble_eq_true rfl) (Nat.le_of_ble_eq_true rfl) ?_
  refine lv_if_ne (tgt := 10) hx hb dX11_restore_4 (by decide) (fun c4 => ?_) (fun c4 => ?_)
  · skip
    have tc4 := f_ne (k := 0) (by decide) c4
    obtain ⟨e9, hs9, hH⟩ := HT.takeA hH t_q0_9 (hO.no t_q0_9 (by decide))
    obtain ⟨f9, rfl, hsp9⟩ : ∃ f : Nat → Option Nat, e9 = .inl (cs.2.2.2.2.2.1, 2, .inr (.inr (.inr (.inr f)))) ∧ ∀ j a, f j = some a → ∃ h g, isW T a h g := hs9
    have hO : okO T (q0_9 :: a0 :: O) [1, 4, 16] := okO.cons (hO.sub (by decide)) t_q0_9 (by decide)
    refine lv_aload_n hx hb dX11_restore_10 rfl (lv_at hl 0 rfl) ?_
    refine x_getk (ci := 11) (C := RX11) (F := TX11) (N := 20) (v := .ref q0_9) hx hb hts uX11 hown hkb hH 1 rfl rfl 9 (by decide) rfl kw_369 (fun _ h9 => h9) dX11_restore_11 ?_
    refine lv_iload_n hx hb dX11_restore_14 rfl (lv_at hl 1 rfl) ?_
    refine xa_wld hx hb hkb hH 0 rfl hsp9 (by omega) (by omega) dX11_restore_15 (fun hel9 => ?_) (fun v15 hv15 gv15 hel9 t_v15 => ?_)
    · skip
      refine lv_ifnonnullN hx hb dX11_restore_16 ?_
      refine lv_bipush (v := (-5)) hx hb dX11_restore_19 (by decide) ?_
      have hH : HT D cs A T (a0 :: O) ((a0, .inr (11, [.ref q0_0, .int q0_1, .ref q0_2, .ref w, .ref q0_4, .ref q0_5, .ref q0_6, .int q0_7, .int q0_8, .ref q0_9, .ref q0_10, .ref q0_11, .ref q0_12, .ref q0_13, .ref q0_14, .ref q0_15, .ref ch, .ref q0_17, .ref q0_18, .int q0_19])) :: X) H := HT.layA hH t_q0_9 (show sp cs T (5, 2, 0) _ from ⟨f9, rfl, hsp9⟩)
      have hH : HT D cs A T O X H := HT.lay (ci := 11) hH t_a0 (okL_c (⟨_, rfl, t_q0_0⟩) (okL_c (⟨_, rfl, by omega, by omega⟩) (okL_c (⟨_, _, rfl, t_q0_2, t_dq0_2⟩) (okL_c (rfl) (okL_c (⟨_, rfl, t_q0_4⟩) (okL_c (⟨_, rfl, t_q0_5⟩) (okL_c (⟨_, rfl, t_q0_6⟩) (okL_c (⟨_, rfl, by omega, by omega⟩) (okL_c (⟨_, rfl, by omega, by omega⟩) (okL_c (⟨_, rfl, t_q0_9⟩) (okL_c (⟨_, rfl, t_q0_10⟩) (okL_c (⟨_, _, rfl, t_q0_11, t_ch⟩) (okL_c (⟨_, rfl, t_q0_12⟩) (okL_c (⟨_, rfl, t_q0_13⟩) (okL_c (⟨_, rfl, t_q0_14⟩) (okL_c (⟨_, rfl, t_q0_15⟩) (okL_c (rfl) (okL_c (⟨_, rfl, t_q0_17⟩) (okL_c (⟨_, rfl, t_q0_18⟩) (okL_c (⟨_, rfl⟩) (okL_n)))))))))))))))))))))
      have hO := hO0
      have z9_m5 : ((-5) : Int32).toInt = -5 := by decide
      exact te_i hx hb hr hlocks hH hS (⟨T, w, hw, gw, rfl, by decide, by decide, Tre.of Tgr.rf, t_a0, t_w⟩) dX11_restore_21
    · skip
      refine lv_ifnonnull (tgt := 22) hx hb dX11_restore_16 (by decide) ?_
      refine lv_aload_n hx hb dX11_restore_22 rfl (lv_at hl 0 rfl) ?_
      refine lv_aload_n hx hb dX11_restore_23 rfl (lv_at hl 0 rfl) ?_
      refine x_getk (ci := 11) (C := RX11) (F := TX11) (N := 20) (v := .ref q0_9) hx hb hts uX11 hown hkb hH 1 rfl rfl 9 (by decide) rfl kw_369 (fun _ h9 => h9) dX11_restore_24 ?_
      refine lv_iload_n hx hb dX11_restore_27 rfl (lv_at hl 1 rfl) ?_
      refine xa_wld1 hx hb hkb hH 0 rfl (by omega) (by omega) hel9 dX11_restore_28 ?_
      refine x_putk (ci := 11) (v := .ref v15) (ty := tyX11 3) (C := RX11) (F := TX11) (N := 20) hx hb hts uX11 tyX11 tyX11_ok nmX11 hown hkb hH hS 1 rfl rfl 3 (by decide) kw_363 (fun _ h9 => h9) rfl (tyX11_ok 3 (by decide)) rfl rfl (Nat.le_of_ble_eq_true rfl) dX11_restore_29 (fun H locs hH hS => ?_)
      have hH : HT D cs A T (q0_9 :: a0 :: O) ((q0_9, .inl (cs.2.2.2.2.2.1, 2, .inr (.inr (.inr (.inr f9))))) :: (a0, .inr (11, [.ref q0_0, .int q0_1, .ref q0_2, .ref v15, .ref q0_4, .ref q0_5, .ref q0_6, .int q0_7, .int q0_8, .ref q0_9, .ref q0_10, .ref q0_11, .ref q0_12, .ref q0_13, .ref q0_14, .ref q0_15, .ref ch, .ref q0_17, .ref q0_18, .int q0_19])) :: X) H := hH
      refine lv_aload_n hx hb dX11_restore_32 rfl (lv_at hl 0 rfl) ?_
      refine x_getk (ci := 11) (C := RX11) (F := TX11) (N := 20) (v := .ref q0_4) hx hb hts uX11 hown hkb hH 1 rfl rfl 4 (by decide) rfl kw_364 (fun _ h9 => h9) dX11_restore_33 ?_
      refine lv_aload_n hx hb dX11_restore_36 rfl (lv_at hl 0 rfl) ?_
      refine x_getk (ci := 11) (C := RX11) (F := TX11) (N := 20) (v := .ref q0_10) hx hb hts uX11 hown hkb hH 1 rfl rfl 10 (by decide) rfl kw_370 (fun _ h9 => h9) dX11_restore_37 ?_
      refine lv_iload_n hx hb dX11_restore_40 rfl (lv_at hl 1 rfl) ?_
      refine t_qld4 hx hb hkb hH t_q0_10 (hO.no t_q0_10 (by decide)) (by omega) (by omega) dX11_restore_41 (fun v41 t_v41 => ?_)
      refine tk_v hH hS hA (tr_V (n := 1) (As := [.ref v41]) hx hb hml hown hts hkb hH (ox_c (ox_c hOX)) hks hE hS hA (s_State_take l D cs kf T (q0_9 :: a0 :: O) ((q0_9, .inl (cs.2.2.2.2.2.1, 2, .inr (.inr (.inr (.inr f9))))) :: (a0, .inr (11, [.ref q0_0, .int q0_1, .ref q0_2, .ref v15, .ref q0_4, .ref q0_5, .ref q0_6, .int q0_7, .int q0_8, .ref q0_9, .ref q0_10, .ref q0_11, .ref q0_12, .ref q0_13, .ref q0_14, .ref q0_15, .ref ch, .ref q0_17, .ref q0_18, .int q0_19])) :: X) q0_4 v41 t_q0_4 t_v41 (hO.sub (by decide))) kw_757 kw_758 kw_759 kw_7 kw_760 (by decide +kernel) ⟨Nat.le_of_ble_eq_true rfl, Nat.le_of_ble_eq_true rfl⟩ (HT.recv (ci := 6) hkb hH t_q0_4 (hO.no t_q0_4 (by decide)) rfl) rfl rfl hl.1 (Nat.le_of_ble_eq_true rfl) dX11_restore_42 ⟨Nat.le_of_ble_eq_true rfl, Nat.le_of_ble_eq_true rfl⟩) (fun u H locs hz9 hH hS => ?_)
      have hz9 : u = (T, q0_9 :: a0 :: O, (q0_9, .inl (cs.2.2.2.2.2.1, 2, .inr (.inr (.inr (.inr f9))))) :: (a0, .inr (11, [.ref q0_0, .int q0_1, .ref q0_2, .ref v15, .ref q0_4, .ref q0_5, .ref q0_6, .int q0_7, .int q0_8, .ref q0_9, .ref q0_10, .ref q0_11, .ref q0_12, .ref q0_13, .ref q0_14, .ref q0_15, .ref ch, .ref q0_17, .ref q0_18, .int q0_19])) :: X) := hz9
      subst hz9
      have hH : HT D cs A T (q0_9 :: a0 :: O) ((q0_9, .inl (cs.2.2.2.2.2.1, 2, .inr (.inr (.inr (.inr f9))))) :: (a0, .inr (11, [.ref q0_0, .int q0_1, .ref q0_2, .ref v15, .ref q0_4, .ref q0_5, .ref q0_6, .int q0_7, .int q0_8, .ref q0_9, .ref q0_10, .ref q0_11, .ref q0_12, .ref q0_13, .ref q0_14, .ref q0_15, .ref ch, .ref q0_17, .ref q0_18, .int q0_19])) :: X) H := hH
      refine W.widen (k := 0) (n := 0) (Nat.le_of_ble_eq_true rfl) (Nat.le_of_ble_eq_true rfl) ?_
      refine lv_aload_n hx hb dX11_restore_45 rfl (lv_at hl 0 rfl) ?_
      refine lv_iconst (v := 0) hx hb dX11_restore_46 (by decide) ?_
      refine x_putk (ci := 11) (v := .int 0) (ty := tyX11 7) (C := RX11) (F := TX11) (N := 20) hx hb hts uX11 tyX11 tyX11_ok nmX11 hown hkb hH hS 1 rfl rfl 7 (by decide) kw_367 (fun _ h9 => h9) rfl (tyX11_ok 7 (by decide)) rfl rfl (Nat.le_of_ble_eq_true rfl) dX11_restore_47 (fun H locs hH hS => ?_)
      have hH : HT D cs A T (q0_9 :: a0 :: O) ((q0_9, .inl (cs.2.2.2.2.2.1, 2, .inr (.inr (.inr (.inr f9))))) :: (a0, .inr (11, [.ref q0_0, .int q0_1, .ref q0_2, .ref v15, .ref q0_4, .ref q0_5, .ref q0_6, .int 0, .int q0_8, .ref q0_9, .ref q0_10, .ref q0_11, .ref q0_12, .ref q0_13, .ref q0_14, .ref q0_15, .ref ch, .ref q0_17, .ref q0_18, .int q0_19])) :: X) H := hH
      refine lv_iconst (v := 0) hx hb dX11_restore_50 (by decide) ?_
      have hH : HT D cs A T (a0 :: O) ((a0, .inr (11, [.ref q0_0, .int q0_1, .ref q0_2, .ref v15, .ref q0_4, .ref q0_5, .ref q0_6, .int 0, .int q0_8, .ref q0_9, .ref q0_10, .ref q0_11, .ref q0_12, .ref q0_13, .ref q0_14, .ref q0_15, .ref ch, .ref q0_17, .ref q0_18, .int q0_19])) :: X) H := HT.layA hH t_q0_9 (show sp cs T (5, 2, 0) _ from ⟨f9, rfl, hsp9⟩)
      obtain ⟨Tz, re_Tz, tz_a0, tz_w, hH⟩ : ∃ Tz, Tre T Tz a0 ∧ Tz a0 = some (21, v15, ch) ∧ isW Tz v15 hv15 gv15 ∧ HT D cs A Tz O X H := ⟨Tadd T a0 (21, v15, ch), Tre.add t_a0, Tadd_r, isW.re t_a0 t_v15, HT.re (w2 := v15) hH t_a0 (okL_c (⟨_, rfl, t_q0_0⟩) (okL_c (⟨_, rfl, by omega, by omega⟩) (okL_c (⟨_, _, rfl, t_q0_2, t_dq0_2⟩) (okL_c (rfl) (okL_c (⟨_, rfl, t_q0_4⟩) (okL_c (⟨_, rfl, t_q0_5⟩) (okL_c (⟨_, rfl, t_q0_6⟩) (okL_c (⟨_, rfl, by decide, by decide⟩) (okL_c (⟨_, rfl, by omega, by omega⟩) (okL_c (⟨_, rfl, t_q0_9⟩) (okL_c (⟨_, rfl, t_q0_10⟩) (okL_c (⟨_, _, rfl, t_q0_11, t_ch⟩) (okL_c (⟨_, rfl, t_q0_12⟩) (okL_c (⟨_, rfl, t_q0_13⟩) (okL_c (⟨_, rfl, t_q0_14⟩) (okL_c (⟨_, rfl, t_q0_15⟩) (okL_c (rfl) (okL_c (⟨_, rfl, t_q0_17⟩) (okL_c (⟨_, rfl, t_q0_18⟩) (okL_c (⟨_, rfl⟩) (okL_n)))))))))))))))))))))⟩
      have z9_0 : (0 : Int32).toInt = 0 := by decide
      exact te_i hx hb hr hlocks hH hS (⟨Tz, v15, hv15, gv15, rfl, by decide, by decide, Tre.tr (Tre.of Tgr.rf) re_Tz, tz_a0, tz_w⟩) dX11_restore_51
  · skip
    have tc4 := f_eq (k := 0) (by decide) c4
    refine lv_bipush (v := (-2)) hx hb dX11_restore_7 (by decide) ?_
    have hH : HT D cs A T O X H := HT.lay (ci := 11) hH t_a0 (okL_c (⟨_, rfl, t_q0_0⟩) (okL_c (⟨_, rfl, by omega, by omega⟩) (okL_c (⟨_, _, rfl, t_q0_2, t_dq0_2⟩) (okL_c (rfl) (okL_c (⟨_, rfl, t_q0_4⟩) (okL_c (⟨_, rfl, t_q0_5⟩) (okL_c (⟨_, rfl, t_q0_6⟩) (okL_c (⟨_, rfl, by omega, by omega⟩) (okL_c (⟨_, rfl, by omega, by omega⟩) (okL_c (⟨_, rfl, t_q0_9⟩) (okL_c (⟨_, rfl, t_q0_10⟩) (okL_c (⟨_, _, rfl, t_q0_11, t_ch⟩) (okL_c (⟨_, rfl, t_q0_12⟩) (okL_c (⟨_, rfl, t_q0_13⟩) (okL_c (⟨_, rfl, t_q0_14⟩) (okL_c (⟨_, rfl, t_q0_15⟩) (okL_c (rfl) (okL_c (⟨_, rfl, t_q0_17⟩) (okL_c (⟨_, rfl, t_q0_18⟩) (okL_c (⟨_, rfl⟩) (okL_n)))))))))))))))))))))
    have hO := hO0
    have z9_m2 : ((-2) : Int32).toInt = -2 := by decide
    exact te_i hx hb hr hlocks hH hS (⟨T, w, hw, gw, rfl, by decide, by decide, Tre.of Tgr.rf, t_a0, t_w⟩) dX11_restore_9
/-! the reference's reader -/
theorem upd_eq {f : Nat → Int32} {k : Nat} {x : Int32} : upd f k x k = x := if_pos rfl
theorem upd_ne {f : Nat → Int32} {k j : Nat} {x : Int32} (h : j ≠ k) : upd f k x j = f j := if_neg h
def seeF (f : Nat → Int32) (n k : Int32) : Int32 := if k.toInt < n.toInt then f k.toInt.toNat else -1
theorem see_lt {f : Nat → Int32} {n k v : Int32} (h : k.toInt < n.toInt) (hv : v = f k.toInt.toNat) : v = seeF f n k := by
  unfold seeF
  rw [if_pos h]
  exact hv
theorem see_ge {f : Nat → Int32} {n k : Int32} (h : n.toInt ≤ k.toInt) : (-1 : Int32) = seeF f n k := by
  unfold seeF
  rw [if_neg (by omega)]
theorem see_same {f : Nat → Int32} {n a b v w : Int32} (hv : v = seeF f n a) (hw : w = seeF f n b) (h : a.toInt = b.toInt) : v.toInt = w.toInt := by
  have : a = b := Int32.toInt_inj.mp h
  rw [hv, hw, this]
def chF (i k : Nat) : Int32 := (sbyt.getD i []).getD k 0
theorem chF_b (i k : Nat) : 0 ≤ (chF i k).toInt ∧ (chF i k).toInt ≤ 127 := by
  have ht : ∀ l ∈ sbyt, ∀ x ∈ l, 0 ≤ Int32.toInt x ∧ Int32.toInt x ≤ 127 := by decide +kernel
  unfold chF
  have z : (0 : Int32).toInt = 0 := by decide
  rw [List.getD_eq_getElem?_getD (l := sbyt), List.getD_eq_getElem?_getD]
  cases h1 : sbyt[i]? with
  | none =>
    show 0 ≤ (([] : List Int32)[k]?.getD 0).toInt ∧ (([] : List Int32)[k]?.getD 0).toInt ≤ 127
    rw [List.getElem?_nil]
    exact ⟨by show 0 ≤ (0 : Int32).toInt; omega, by show (0 : Int32).toInt ≤ 127; omega⟩
  | some l0 =>
    show 0 ≤ (l0[k]?.getD 0).toInt ∧ (l0[k]?.getD 0).toInt ≤ 127
    cases h2 : l0[k]? with
    | none => exact ⟨by show 0 ≤ (0 : Int32).toInt; omega, by show (0 : Int32).toInt ≤ 127; omega⟩
    | some x => exact ht l0 (List.mem_of_getElem? h1) x (List.mem_of_getElem? h2)
theorem and_255 {v : Int32} (h0 : 0 ≤ v.toInt) (h1 : v.toInt ≤ 127) : v &&& 255 = v := by
  have ht : ∀ k, k < 128 → nI k &&& 255 = nI k := by decide +kernel
  have e := is_nI h0
  rw [e]
  exact ht _ (by omega)
theorem ch_and {i k : Nat} {v w : Int32} (hv : v = chF i k) (hw : w = v &&& 255) : w = chF i k ∧ 0 ≤ w.toInt ∧ w.toInt ≤ 127 := by
  have h := chF_b i k
  rw [← hv] at h
  rw [hw, and_255 h.1 h.2]
  exact ⟨hv, h⟩
theorem keys_end {x v : Int32} (hv : v = chF 20 x.toInt.toNat) (h : x.toInt = 86) : v.toInt = 32 := by
  rw [hv, h]
  decide +kernel
theorem S8_of {f : Nat → Int32} (h : B8 1302 f) : S8 f := by
  have := h 0 (by omega)
  simp only [Nat.zero_mul, Nat.zero_add] at this
  exact this
theorem B8_of {f : Nat → Int32} (h : S8 f) : B8 1302 f := fun z hz => by
  have : z = 0 := by omega
  subst this
  simp only [Nat.zero_mul, Nat.zero_add]
  exact h
theorem S8_put {f : Nat → Int32} {i x : Int32} (h : S8 f) (h0 : 0 ≤ i.toInt) (h1 : i.toInt ≤ 400) (hp : p8 i x) : S8 (upd f i.toInt.toNat x) := S8_of ((B8_of h).put h0 h1 hp)
def ncd (f : Nat → Int32) : Int := (f 401).toInt
def dpt (f : Nat → Int32) : Int := dpn f (f 401).toInt.toNat
theorem dpn_nn {f : Nat → Int32} (hS : S8 f) (k : Nat) (hk : (k : Int) ≤ ncd f) : 0 ≤ dpn f k := by
  induction k with
  | zero => exact Int.le_refl _
  | succ k ih =>
    have h := ih (by omega)
    have w := hS.2.2.2.2.2.2.2 k (by unfold ncd at hk; omega)
    unfold dpn
    split
    · omega
    · rename_i h1
      split
      · omega
      · rename_i h2
        have := (w (by omega)).2 h2
        omega
theorem dpt_nn {f : Nat → Int32} (hS : S8 f) : 0 ≤ dpt f := dpn_nn hS _ (by unfold ncd; have := hS.2.2.2.2.2.2.1; omega)
theorem dpn_same {f g : Nat → Int32} {N : Nat} (h : ∀ j, j < N → g (402 + j) = f (402 + j)) (k : Nat) (hk : k ≤ N) : dpn g k = dpn f k := by
  induction k with
  | zero => rfl
  | succ k ih =>
    unfold dpn
    rw [ih (by omega), h k (by omega)]
theorem code_push {f g : Nat → Int32} {x w : Int32} (hS : S8 f) (hN : ncd f ≤ 899) (hg : ∀ j, g j = if j = 401 then w else if j = 402 + (f 401).toInt.toNat then x else f j) (hw : w.toInt = ncd f + 1) (hc : 3000 ≤ x.toInt → 1 ≤ dpt f ∧ (x.toInt ≠ 3008 → 2 ≤ dpt f)) :
    S8 g ∧ ncd g = ncd f + 1 ∧ dpt g = dpt f + (if x.toInt < 3000 then 1 else if x.toInt = 3008 then 0 else -1) := by
  obtain ⟨a1, a2, a3, a4, a5, a6, a7, a8⟩ := hS
  have g401 : g 401 = w := by rw [hg, if_pos rfl]
  have hlow : ∀ j, j < 401 → g j = f j := fun j hj => by rw [hg, if_neg (by omega), if_neg (by omega)]
  have hold : ∀ j, j < (f 401).toInt.toNat → g (402 + j) = f (402 + j) := fun j hj => by rw [hg, if_neg (by omega), if_neg (by omega)]
  have hnew : g (402 + (f 401).toInt.toNat) = x := by rw [hg, if_neg (by omega), if_pos rfl]
  have hdp := dpn_same hold
  unfold ncd at hN hw ⊢
  have hN2 : w.toInt.toNat = (f 401).toInt.toNat + 1 := by omega
  refine ⟨⟨?_, ?_, ?_, ?_, ?_, ?_, ?_, ?_⟩, ?_, ?_⟩
  · rw [hlow 1 (by omega)]; exact a1
  · rw [hlow 2 (by omega)]; exact a2
  · rw [hlow 4 (by omega)]; exact a3
  · rw [hlow 5 (by omega)]; exact a4
  · rw [hlow 6 (by omega)]; exact a5
  · rw [hlow 90 (by omega)]; exact a6
  · rw [g401]; omega
  · intro k hk h1
    rw [g401] at hk
    by_cases hkN : k < (f 401).toInt.toNat
    · rw [hold k hkN] at h1 ⊢
      rw [hdp k (by omega)]
      exact a8 k (by omega) h1
    · have hk2 : k = (f 401).toInt.toNat := by omega
      subst hk2
      rw [hnew] at h1 ⊢
      rw [hdp _ (Nat.le_refl _)]
      exact hc h1
  · rw [g401]; exact hw
  · unfold dpt
    rw [g401, hN2]
    show dpn g (f 401).toInt.toNat + _ = _
    rw [hdp _ (Nat.le_refl _), hnew]
theorem codes_end {f F G : Nat → Int32} {x v22 v23 v34 v36 : Int32} (hS : S8 f) (e22 : v22 = f 401) (t23 : v23.toInt = 402 + v22.toInt) (eF : F = upd f v23.toInt.toNat x) (e34 : v34 = F 401) (t36 : v36.toInt = v34.toInt + 1) (eG : G = upd F 401 v36) (hN : ncd f ≤ 899) (hc : 3000 ≤ x.toInt → 1 ≤ dpt f ∧ (x.toInt ≠ 3008 → 2 ≤ dpt f)) :
    S8 G ∧ ncd G = ncd f + 1 ∧ dpt G = dpt f + (if x.toInt < 3000 then 1 else if x.toInt = 3008 then 0 else -1) := by
  have b := hS.2.2.2.2.2.2.1
  have q : v34 = v22 := by rw [e34, eF, upd_ne (by rw [← e22] at b; omega), ← e22]
  refine code_push hS hN (fun j => ?_) (w := v36) (by rw [t36, q, e22]; rfl) hc
  rw [eG, eF]
  unfold upd
  rw [show v23.toInt.toNat = 402 + (f 401).toInt.toNat by rw [← e22] at b ⊢; omega]
theorem dp_A {a b : Int} {x : Int32} (h : x.toInt < 3000) (hd : a = b + (if x.toInt < 3000 then 1 else if x.toInt = 3008 then 0 else -1)) : a = b + 1 := by rw [if_pos h] at hd; exact hd
theorem dp_N {a b : Int} {x : Int32} (h : x.toInt = 3008) (hd : a = b + (if x.toInt < 3000 then 1 else if x.toInt = 3008 then 0 else -1)) : a = b := by rw [if_neg (by omega), if_pos h] at hd; omega
theorem dp_O {a b : Int} {x : Int32} (h : 3000 ≤ x.toInt) (h2 : x.toInt ≤ 3007) (hd : a = b + (if x.toInt < 3000 then 1 else if x.toInt = 3008 then 0 else -1)) : a = b - 1 := by rw [if_neg (by omega), if_neg (by omega)] at hd; omega
/-- the code begins anew -/
theorem S8_zero {f : Nat → Int32} (hS : S8 f) : S8 (upd f 401 0) ∧ ncd (upd f 401 0) = 0 ∧ dpt (upd f 401 0) = 0 := by
  obtain ⟨a1, a2, a3, a4, a5, a6, a7, a8⟩ := hS
  have z : (0 : Int32).toInt = 0 := by decide
  have h401 : upd f 401 0 401 = 0 := upd_eq
  have hlow : ∀ j, j < 401 → upd f 401 0 j = f j := fun j hj => upd_ne (by omega)
  refine ⟨⟨?_, ?_, ?_, ?_, ?_, ?_, ?_, ?_⟩, ?_, ?_⟩
  · rw [hlow 1 (by omega)]; exact a1
  · rw [hlow 2 (by omega)]; exact a2
  · rw [hlow 4 (by omega)]; exact a3
  · rw [hlow 5 (by omega)]; exact a4
  · rw [hlow 6 (by omega)]; exact a5
  · rw [hlow 90 (by omega)]; exact a6
  · rw [h401]; omega
  · intro k hk
    rw [h401] at hk
    omega
  · unfold ncd
    rw [h401]; exact z
  · unfold dpt
    rw [h401]
    rfl
theorem S8_plain {f : Nat → Int32} (h : ∀ j : Nat, j < 1302 → (j < 59 ∨ 87 ≤ j) → f j = 0) : S8 f := by
  have z : (0 : Int32).toInt = 0 := by decide
  refine ⟨?_, ?_, ?_, ?_, ?_, ?_, ?_, ?_⟩
  · rw [h 1 (by omega) (by omega)]; omega
  · rw [h 2 (by omega) (by omega)]; omega
  · rw [h 4 (by omega) (by omega)]; omega
  · rw [h 5 (by omega) (by omega)]; omega
  · rw [h 6 (by omega) (by omega)]; omega
  · rw [h 90 (by omega) (by omega)]; omega
  · rw [h 401 (by omega) (by omega)]; omega
  · intro k hk
    rw [h 401 (by omega) (by omega)] at hk
    omega
theorem HT.swap {D : va_G} {cs : CS} {A : Nat → Prop} {T : TF} {O : List Nat} {X : va_W} {H : Heap} {a b : Nat} {ea eb : va_E} (h : HT D cs A T (a :: b :: O) ((a, ea) :: (b, eb) :: X) H) : HT D cs A T (b :: a :: O) ((b, eb) :: (a, ea) :: X) H := by
  obtain ⟨ws, hP, hD, h3, h4⟩ := h
  have hg : ∀ (k : Nat) (x : Nat × va_E), (((b, eb) :: (a, ea) :: X) ++ ws)[k]? = some x → (((a, ea) :: (b, eb) :: X) ++ ws)[if k = 0 then 1 else if k = 1 then 0 else k]? = some x := by
    intro k x hk
    match k, hk with
    | 0, hk => exact hk
    | 1, hk => exact hk
    | k + 2, hk => rw [if_neg (by omega), if_neg (by omega)]; exact hk
  refine ⟨ws, hP.by _ hg, hD.by _ hg ?_, fun q tg hq hO => h3 q tg hq (fun z => hO ?_), h4⟩
  · intro i1 i2 _ _ he
    split at he <;> split at he <;> (try split at he) <;> (try split at he) <;> omega
  · rcases List.mem_cons.mp z with z | z
    · exact List.mem_cons_of_mem _ (z ▸ List.mem_cons_self)
    · rcases List.mem_cons.mp z with z | z
      · exact z ▸ List.mem_cons_self
      · exact List.mem_cons_of_mem _ (List.mem_cons_of_mem _ z)
theorem okO.swap {T : TF} {O K : List Nat} {a b : Nat} (h : okO T (a :: b :: O) K) : okO T (b :: a :: O) K := fun o ho => h o (by
  rcases List.mem_cons.mp ho with z | z
  · exact List.mem_cons_of_mem _ (z ▸ List.mem_cons_self)
  · rcases List.mem_cons.mp z with z | z
    · exact z ▸ List.mem_cons_self
    · exact List.mem_cons_of_mem _ (List.mem_cons_of_mem _ z))
/-! what reading tells, hidden from omega -/
def TK3 (k a b : Int32) : Prop := k.toInt ≠ 22 → a.toInt + 1 ≤ b.toInt
def NZ (v : Int32) : Prop := v.toInt ≠ 0
def MW (w v : Int32) : Prop := v.toInt = 0 → w.toInt = 0
def TKN (w v r lo hi a b : Int32) : Prop := v.toInt = 0 → w.toInt = 0 ∧ lo.toInt ≤ r.toInt ∧ r.toInt ≤ hi.toInt ∧ a.toInt + 1 ≤ b.toInt
def SL (w : Int32) (f : Nat → Int32) (a : Int32) : Prop := w.toInt = 0 → ncd f ≤ a.toInt
def CP (w : Int32) (f : Nat → Int32) (d : Int) : Prop := w.toInt = 0 → ncd f ≤ 899 ∧ d ≤ dpt f
def CN (w : Int32) (f g : Nat → Int32) (d : Int) : Prop := w.toInt = 0 → ncd g = ncd f + 1 ∧ dpt g = dpt f + d
def RD (f g : Nat → Int32) (a b w v : Int32) : Prop := v.toInt = 0 → w.toInt = 0 ∧ dpt g = dpt f + 1 ∧ a.toInt - ncd f ≤ b.toInt - ncd g
theorem RD_sl {f g : Nat → Int32} {a b c w v : Int32} (h0 : SL w f a) (h1 : RD f g a b w v) (h2 : b.toInt ≤ c.toInt) : SL v g c := fun q => by
  obtain ⟨c0, c1, c2⟩ := h1 q
  have := h0 c0
  omega
theorem RD_le {f g : Nat → Int32} {a b c w v : Int32} (h1 : RD f g a b w v) (h2 : b.toInt ≤ c.toInt) : RD f g a c w v := fun q => by
  obtain ⟨c0, c1, c2⟩ := h1 q
  exact ⟨c0, c1, by omega⟩
theorem RD_cp {f g g' : Nat → Int32} {a b c e w v u : Int32} (h0 : SL w f a) (hd : 0 ≤ dpt f) (h1 : RD f g a b w v) (h2 : b.toInt + 1 ≤ c.toInt) (h3 : RD g g' c e v u) (h4 : e.toInt ≤ 900) : CP u g' 2 := fun q => by
  obtain ⟨c0, c1, c2⟩ := h3 q
  obtain ⟨d0, d1, d2⟩ := h1 c0
  have := h0 d0
  exact ⟨by omega, by omega⟩
theorem RD_op {f g g' G : Nat → Int32} {a b c e w v u : Int32} (h1 : RD f g a b w v) (h2 : b.toInt + 1 ≤ c.toInt) (h3 : RD g g' c e v u) (h4 : CN u g' G (-1)) : RD f G a e w u := fun q => by
  obtain ⟨c0, c1, c2⟩ := h3 q
  obtain ⟨d0, d1, d2⟩ := h1 c0
  obtain ⟨e0, e1⟩ := h4 q
  exact ⟨d0, by omega, by omega⟩
theorem dX12_keyAt_0 : decode cX12_keyAt 0 = .ok (.iconst 0, 1) := by decide +kernel
theorem dX12_keyAt_1 : decode cX12_keyAt 1 = .ok (.istore_n 1, 1) := by decide +kernel
theorem dX12_keyAt_2 : decode cX12_keyAt 2 = .ok (.iconst 1, 1) := by decide +kernel
theorem dX12_keyAt_3 : decode cX12_keyAt 3 = .ok (.istore_n 2, 1) := by decide +kernel
theorem dX12_keyAt_4 : decode cX12_keyAt 4 = .ok (.iload_n 2, 1) := by decide +kernel
theorem dX12_keyAt_5 : decode cX12_keyAt 5 = .ok (.ldc 88, 2) := by decide +kernel
theorem dX12_keyAt_7 : decode cX12_keyAt 7 = .ok (.invokevirtual 90, 3) := by decide +kernel
theorem dX12_keyAt_10 : decode cX12_keyAt 10 = .ok (.if_icmp .ge 113, 3) := by decide +kernel
theorem dX12_keyAt_13 : decode cX12_keyAt 13 = .ok (.iconst 0, 1) := by decide +kernel
theorem dX12_keyAt_14 : decode cX12_keyAt 14 = .ok (.istore_n 3, 1) := by decide +kernel
theorem dX12_keyAt_15 : decode cX12_keyAt 15 = .ok (.ldc 88, 2) := by decide +kernel
theorem dX12_keyAt_17 : decode cX12_keyAt 17 = .ok (.iload_n 2, 1) := by decide +kernel
theorem dX12_keyAt_18 : decode cX12_keyAt 18 = .ok (.iload_n 3, 1) := by decide +kernel
theorem dX12_keyAt_19 : decode cX12_keyAt 19 = .ok (.iadd, 1) := by decide +kernel
theorem dX12_keyAt_20 : decode cX12_keyAt 20 = .ok (.invokevirtual 96, 3) := by decide +kernel
theorem dX12_keyAt_23 : decode cX12_keyAt 23 = .ok (.bipush 32, 2) := by decide +kernel
theorem dX12_keyAt_25 : decode cX12_keyAt 25 = .ok (.if_icmp .eq 44, 3) := by decide +kernel
theorem dX12_keyAt_28 : decode cX12_keyAt 28 = .ok (.aload_n 0, 1) := by decide +kernel
theorem dX12_keyAt_29 : decode cX12_keyAt 29 = .ok (.getfield 100, 3) := by decide +kernel
theorem dX12_keyAt_32 : decode cX12_keyAt 32 = .ok (.iload_n 3, 1) := by decide +kernel
theorem dX12_keyAt_33 : decode cX12_keyAt 33 = .ok (.iadd, 1) := by decide +kernel
theorem dX12_keyAt_34 : decode cX12_keyAt 34 = .ok (.aload_n 0, 1) := by decide +kernel
theorem dX12_keyAt_35 : decode cX12_keyAt 35 = .ok (.getfield 103, 3) := by decide +kernel
theorem dX12_keyAt_38 : decode cX12_keyAt 38 = .ok (.if_icmp .ge 31, 3) := by decide +kernel
theorem dX12_keyAt_41 : decode cX12_keyAt 41 = .ok (.aload_n 0, 1) := by decide +kernel
theorem dX12_keyAt_42 : decode cX12_keyAt 42 = .ok (.getfield 21, 3) := by decide +kernel
theorem dX12_keyAt_45 : decode cX12_keyAt 45 = .ok (.aload_n 0, 1) := by decide +kernel
theorem dX12_keyAt_46 : decode cX12_keyAt 46 = .ok (.getfield 100, 3) := by decide +kernel
theorem dX12_keyAt_49 : decode cX12_keyAt 49 = .ok (.iload_n 3, 1) := by decide +kernel
theorem dX12_keyAt_50 : decode cX12_keyAt 50 = .ok (.iadd, 1) := by decide +kernel
theorem dX12_keyAt_51 : decode cX12_keyAt 51 = .ok (.iaload, 1) := by decide +kernel
theorem dX12_keyAt_52 : decode cX12_keyAt 52 = .ok (.ldc 88, 2) := by decide +kernel
theorem dX12_keyAt_54 : decode cX12_keyAt 54 = .ok (.iload_n 2, 1) := by decide +kernel
theorem dX12_keyAt_55 : decode cX12_keyAt 55 = .ok (.iload_n 3, 1) := by decide +kernel
theorem dX12_keyAt_56 : decode cX12_keyAt 56 = .ok (.iadd, 1) := by decide +kernel
theorem dX12_keyAt_57 : decode cX12_keyAt 57 = .ok (.invokevirtual 96, 3) := by decide +kernel
theorem dX12_keyAt_60 : decode cX12_keyAt 60 = .ok (.if_icmp .ne 9, 3) := by decide +kernel
theorem dX12_keyAt_63 : decode cX12_keyAt 63 = .ok (.iinc 3 1, 3) := by decide +kernel
theorem dX12_keyAt_66 : decode cX12_keyAt 66 = .ok (.goto (-51), 3) := by decide +kernel
theorem dX12_keyAt_69 : decode cX12_keyAt 69 = .ok (.ldc 88, 2) := by decide +kernel
theorem dX12_keyAt_71 : decode cX12_keyAt 71 = .ok (.iload_n 2, 1) := by decide +kernel
theorem dX12_keyAt_72 : decode cX12_keyAt 72 = .ok (.iload_n 3, 1) := by decide +kernel
theorem dX12_keyAt_73 : decode cX12_keyAt 73 = .ok (.iadd, 1) := by decide +kernel
theorem dX12_keyAt_74 : decode cX12_keyAt 74 = .ok (.invokevirtual 96, 3) := by decide +kernel
theorem dX12_keyAt_77 : decode cX12_keyAt 77 = .ok (.bipush 32, 2) := by decide +kernel
theorem dX12_keyAt_79 : decode cX12_keyAt 79 = .ok (.if_icmp .ne 18, 3) := by decide +kernel
theorem dX12_keyAt_82 : decode cX12_keyAt 82 = .ok (.aload_n 0, 1) := by decide +kernel
theorem dX12_keyAt_83 : decode cX12_keyAt 83 = .ok (.getfield 100, 3) := by decide +kernel
theorem dX12_keyAt_86 : decode cX12_keyAt 86 = .ok (.iload_n 3, 1) := by decide +kernel
theorem dX12_keyAt_87 : decode cX12_keyAt 87 = .ok (.iadd, 1) := by decide +kernel
theorem dX12_keyAt_88 : decode cX12_keyAt 88 = .ok (.aload_n 0, 1) := by decide +kernel
theorem dX12_keyAt_89 : decode cX12_keyAt 89 = .ok (.getfield 103, 3) := by decide +kernel
theorem dX12_keyAt_92 : decode cX12_keyAt 92 = .ok (.if_icmp .ne 5, 3) := by decide +kernel
theorem dX12_keyAt_95 : decode cX12_keyAt 95 = .ok (.iload_n 1, 1) := by decide +kernel
theorem dX12_keyAt_96 : decode cX12_keyAt 96 = .ok (.ireturn, 1) := by decide +kernel
theorem dX12_keyAt_97 : decode cX12_keyAt 97 = .ok (.ldc 88, 2) := by decide +kernel
theorem dX12_keyAt_99 : decode cX12_keyAt 99 = .ok (.iload_n 2, 1) := by decide +kernel
theorem dX12_keyAt_100 : decode cX12_keyAt 100 = .ok (.invokevirtual 96, 3) := by decide +kernel
theorem dX12_keyAt_103 : decode cX12_keyAt 103 = .ok (.bipush 32, 2) := by decide +kernel
theorem dX12_keyAt_105 : decode cX12_keyAt 105 = .ok (.if_icmp .eq 9, 3) := by decide +kernel
theorem dX12_keyAt_108 : decode cX12_keyAt 108 = .ok (.iinc 2 1, 3) := by decide +kernel
theorem dX12_keyAt_111 : decode cX12_keyAt 111 = .ok (.goto (-14), 3) := by decide +kernel
theorem dX12_keyAt_114 : decode cX12_keyAt 114 = .ok (.iinc 2 1, 3) := by decide +kernel
theorem dX12_keyAt_117 : decode cX12_keyAt 117 = .ok (.iinc 1 1, 3) := by decide +kernel
theorem dX12_keyAt_120 : decode cX12_keyAt 120 = .ok (.goto (-116), 3) := by decide +kernel
theorem dX12_keyAt_123 : decode cX12_keyAt 123 = .ok (.bipush 20, 2) := by decide +kernel
theorem dX12_keyAt_125 : decode cX12_keyAt 125 = .ok (.ireturn, 1) := by decide +kernel
theorem dX12_see_0 : decode cX12_see 0 = .ok (.iload_n 1, 1) := by decide +kernel
theorem dX12_see_1 : decode cX12_see 1 = .ok (.aload_n 0, 1) := by decide +kernel
theorem dX12_see_2 : decode cX12_see 2 = .ok (.getfield 85, 3) := by decide +kernel
theorem dX12_see_5 : decode cX12_see 5 = .ok (.if_icmp .ge 12, 3) := by decide +kernel
theorem dX12_see_8 : decode cX12_see 8 = .ok (.aload_n 0, 1) := by decide +kernel
theorem dX12_see_9 : decode cX12_see 9 = .ok (.getfield 21, 3) := by decide +kernel
theorem dX12_see_12 : decode cX12_see 12 = .ok (.iload_n 1, 1) := by decide +kernel
theorem dX12_see_13 : decode cX12_see 13 = .ok (.iaload, 1) := by decide +kernel
theorem dX12_see_14 : decode cX12_see 14 = .ok (.goto 4, 3) := by decide +kernel
theorem dX12_see_17 : decode cX12_see 17 = .ok (.iconst (-1), 1) := by decide +kernel
theorem dX12_see_18 : decode cX12_see 18 = .ok (.ireturn, 1) := by decide +kernel
theorem kw_1226 : Cond.fieldLink "FootholdWallModel" 21 "FootholdWallModel" "tape" "[I" ∈ gw := gw_of (tb_of 1226 (by decide +kernel)) (by decide +kernel)
theorem kw_1229 : Cond.fieldLink "FootholdWallModel" 100 "FootholdWallModel" "at" "I" ∈ gw := gw_of (tb_of 1229 (by decide +kernel)) (by decide +kernel)
theorem kw_1230 : Cond.fieldLink "FootholdWallModel" 103 "FootholdWallModel" "behind" "I" ∈ gw := gw_of (tb_of 1230 (by decide +kernel)) (by decide +kernel)
theorem kw_1231 : Cond.fieldLink "FootholdWallModel" 85 "FootholdWallModel" "size" "I" ∈ gw := gw_of (tb_of 1231 (by decide +kernel)) (by decide +kernel)
theorem kw_1360 : Cond.methodLink "FootholdWallModel" 90 yJ0_length_8abf5 ∈ gw := gw_of (tb_of 1360 (by decide +kernel)) (by decide +kernel)
theorem kw_1361 : Cond.methodLink "FootholdWallModel" 96 yJ0_charAt_5068e ∈ gw := gw_of (tb_of 1361 (by decide +kernel)) (by decide +kernel)
set_option maxHeartbeats 4000000 in
set_option maxRecDepth 100000 in
theorem s_M_isSmall2 (l : Launch) (D : va_G) (cs : CS) (kf : KF) (T : TF) (O : List Nat) (X : va_W) (x0 : Int32)  (hO : okO T O []) : TK l D cs kf yX12_isSmall cX12_isSmall 1 (some (.boolean)) { frames := 0, cells := 0, slots := 0, locals := 0 } [.int x0] T O X (Ti D cs (fun r u => u = (T, O, X) ∧ 0 ≤ r.toInt ∧ r.toInt ≤ 1 ∧ (r.toInt = 0 ∨ (97 ≤ x0.toInt ∧ x0.toInt ≤ 122)) ∧ (¬ r.toInt = 0 ∨ x0.toInt < 97 ∨ 122 < x0.toInt))) := by
  refine tk_of (by decide) (Nat.le_of_ble_eq_true rfl) (fun p e s m below meth c ls A H locs hx hb hr hml hown hts hlocks hnm hkb hH hS hA hOX hks hE hl => ?_)
  have hown : s.vm.findClass RX12 = some m.cls := hown
  have hl : lv_has ls 1 [(0, .int x0)] := hl
  refine lv_iload_n hx hb dX12_isSmall_0 rfl (lv_at hl 0 rfl) ?_
  refine lv_bipush (v := 97) hx hb dX12_isSmall_1 (by decide) ?_
  refine lv_icmp_lt (tgt := 16) hx hb dX12_isSmall_3 (by decide) (fun c3 => ?_) (fun c3 => ?_)
  · skip
    have tc3 := f_lt (k := 97) (by decide) c3
    refine lv_iconst (v := 0) hx hb dX12_isSmall_16 (by decide) ?_
    have z9 : (0 : Int32).toInt = 0 := by decide
    exact te_z hx hb hr hlocks (by rfl) hH hS (⟨rfl, by decide, by decide, by omega, by omega⟩) dX12_isSmall_17
  · skip
    have tc3 := f_nlt (k := 97) (by decide) c3
    refine lv_iload_n hx hb dX12_isSmall_6 rfl (lv_at hl 0 rfl) ?_
    refine lv_bipush (v := 122) hx hb dX12_isSmall_7 (by decide) ?_
    refine lv_icmp_gt (tgt := 16) hx hb dX12_isSmall_9 (by decide) (fun c9 => ?_) (fun c9 => ?_)
    · skip
      have tc9 := f_gt (k := 122) (by decide) c9
      refine lv_iconst (v := 0) hx hb dX12_isSmall_16 (by decide) ?_
      have z9 : (0 : Int32).toInt = 0 := by decide
      exact te_z hx hb hr hlocks (by rfl) hH hS (⟨rfl, by decide, by decide, by omega, by omega⟩) dX12_isSmall_17
    · skip
      have tc9 := f_ngt (k := 122) (by decide) c9
      refine lv_iconst (v := 1) hx hb dX12_isSmall_12 (by decide) ?_
      refine lv_goto (tgt := 17) hx hb dX12_isSmall_13 (by decide) ?_
      have z9 : (1 : Int32).toInt = 1 := by decide
      exact te_z hx hb hr hlocks (by rfl) hH hS (⟨rfl, by decide, by decide, by omega, by omega⟩) dX12_isSmall_17
set_option maxHeartbeats 4000000 in
set_option maxRecDepth 100000 in
theorem s_M_isDigit2 (l : Launch) (D : va_G) (cs : CS) (kf : KF) (T : TF) (O : List Nat) (X : va_W) (x0 : Int32)  (hO : okO T O []) : TK l D cs kf yX12_isDigit cX12_isDigit 1 (some (.boolean)) { frames := 0, cells := 0, slots := 0, locals := 0 } [.int x0] T O X (Ti D cs (fun r u => u = (T, O, X) ∧ 0 ≤ r.toInt ∧ r.toInt ≤ 1 ∧ (r.toInt = 0 ∨ (48 ≤ x0.toInt ∧ x0.toInt ≤ 57)) ∧ (¬ r.toInt = 0 ∨ x0.toInt < 48 ∨ 57 < x0.toInt))) := by
  refine tk_of (by decide) (Nat.le_of_ble_eq_true rfl) (fun p e s m below meth c ls A H locs hx hb hr hml hown hts hlocks hnm hkb hH hS hA hOX hks hE hl => ?_)
  have hown : s.vm.findClass RX12 = some m.cls := hown
  have hl : lv_has ls 1 [(0, .int x0)] := hl
  refine lv_iload_n hx hb dX12_isDigit_0 rfl (lv_at hl 0 rfl) ?_
  refine lv_bipush (v := 48) hx hb dX12_isDigit_1 (by decide) ?_
  refine lv_icmp_lt (tgt := 16) hx hb dX12_isDigit_3 (by decide) (fun c3 => ?_) (fun c3 => ?_)
  · skip
    have tc3 := f_lt (k := 48) (by decide) c3
    refine lv_iconst (v := 0) hx hb dX12_isDigit_16 (by decide) ?_
    have z9 : (0 : Int32).toInt = 0 := by decide
    exact te_z hx hb hr hlocks (by rfl) hH hS (⟨rfl, by decide, by decide, by omega, by omega⟩) dX12_isDigit_17
  · skip
    have tc3 := f_nlt (k := 48) (by decide) c3
    refine lv_iload_n hx hb dX12_isDigit_6 rfl (lv_at hl 0 rfl) ?_
    refine lv_bipush (v := 57) hx hb dX12_isDigit_7 (by decide) ?_
    refine lv_icmp_gt (tgt := 16) hx hb dX12_isDigit_9 (by decide) (fun c9 => ?_) (fun c9 => ?_)
    · skip
      have tc9 := f_gt (k := 57) (by decide) c9
      refine lv_iconst (v := 0) hx hb dX12_isDigit_16 (by decide) ?_
      have z9 : (0 : Int32).toInt = 0 := by decide
      exact te_z hx hb hr hlocks (by rfl) hH hS (⟨rfl, by decide, by decide, by omega, by omega⟩) dX12_isDigit_17
    · skip
      have tc9 := f_ngt (k := 57) (by decide) c9
      refine lv_iconst (v := 1) hx hb dX12_isDigit_12 (by decide) ?_
      refine lv_goto (tgt := 17) hx hb dX12_isDigit_13 (by decide) ?_
      have z9 : (1 : Int32).toInt = 1 := by decide
      exact te_z hx hb hr hlocks (by rfl) hH hS (⟨rfl, by decide, by decide, by omega, by omega⟩) dX12_isDigit_17
set_option maxHeartbeats 4000000 in
set_option maxRecDepth 100000 in
theorem s_L1charAt2 (l : Launch) (D : va_G) (cs : CS) (kf : KF) (T : TF) (O : List Nat) (X : va_W) (a0 : Nat) (x1 : Int32) (t_a0 : a0 < 21) (l_x1 : 0 ≤ x1.toInt) (u_x1 : x1.toInt < (slen.getD a0 0 : Nat)) (hO : okO T O []) : TK l D cs kf yJ1_charAt_3b067 cJ1_charAt_3b067 2 (some (.char)) { frames := 2, cells := 0, slots := 0, locals := 43 } [.ref (kf.2 a0), .int x1] T O X (Ti D cs (fun r u => u = (T, O, X) ∧ 0 ≤ r.toInt ∧ r.toInt ≤ 255 ∧ (r = chF a0 x1.toInt.toNat))) := by
  refine tk_of (by decide) (Nat.le_of_ble_eq_true rfl) (fun p e s m below meth c ls A H locs hx hb hr hml hown hts hlocks hnm hkb hH hS hA hOX hks hE hl => ?_)
  have hown : s.vm.findClass RJ1 = some m.cls := hown
  have hl : lv_has ls 2 [(0, .ref (kf.2 a0)), (1, .int x1)] := hl
  refine lv_iload_n hx hb dJ1_charAt_3b067_0 rfl (lv_at hl 1 rfl) ?_
  refine lv_aload_n hx hb dJ1_charAt_3b067_1 rfl (lv_at hl 0 rfl) ?_
  refine va_tlen (v := nI (slen.getD a0 0)) hx hb (hE.1.1 a0 t_a0).2.2.2 hS rfl dJ1_charAt_3b067_2 ?_
  have b9_a0 := slen_b a0
  have e9_a0 : (nI (slen.getD a0 0)).toInt = (slen.getD a0 0 : Nat) := nI_toInt (by omega)
  refine tk_v hH hS hA (tr_S (n := 2) (As := [.int x1, .int (nI (slen.getD a0 0))]) hx hb hml hown hts hkb hH hOX hks hE hS hA (s_checkIndex l D cs kf T O X x1 (nI (slen.getD a0 0)) (by omega) (by omega) (hO.sub (by decide))) kw_562 kw_563 kw_14 kw_564 (by decide +kernel) ⟨Nat.le_of_ble_eq_true rfl, Nat.le_of_ble_eq_true rfl⟩ rfl rfl hl.1 (Nat.le_of_ble_eq_true rfl) dJ1_charAt_3b067_3 ⟨Nat.le_of_ble_eq_true rfl, Nat.le_of_ble_eq_true rfl⟩) (fun u H locs hz9 hH hS => ?_)
  have hz9 : u = (T, O, X) := hz9
  subst hz9
  have hH : HT D cs A T O X H := hH
  refine W.widen (k := 0) (n := 0) (Nat.le_of_ble_eq_true rfl) (Nat.le_of_ble_eq_true rfl) ?_
  refine lv_aload_n hx hb dJ1_charAt_3b067_6 rfl (lv_at hl 0 rfl) ?_
  refine lv_iload_n hx hb dJ1_charAt_3b067_7 rfl (lv_at hl 1 rfl) ?_
  refine va_tb (v := .int ((sbyt.getD a0 []).getD (Int32.toNatClampNeg x1) 0)) hx hb (hE.1.1 a0 t_a0).2.2.2 hS (in_t (by omega) (by omega)) rfl dJ1_charAt_3b067_8 ?_
  refine lv_topi (fun v8 ev8 => ?_)
  refine lv_sipush (v := 255) hx hb dJ1_charAt_3b067_9 (by decide) ?_
  refine lv_iand hx hb dJ1_charAt_3b067_12 ?_
  refine lv_topi (fun v12 ev12 => ?_)
  have tv12 : 0 ≤ v12.toInt ∧ v12.toInt ≤ 255 := by rw [ev12]; exact and_r (by decide)
  refine lv_i2c (v := v12) hx hb dJ1_charAt_3b067_13 (i2c_id (by omega) (by omega)) ?_
  exact te_n hx hb hr hlocks (narc (by omega) (by omega)) hH hS (⟨rfl, by omega, by omega, (ch_and (show v8 = chF a0 x1.toInt.toNat from ev8) ev12).1⟩) dJ1_charAt_3b067_14
set_option maxHeartbeats 4000000 in
set_option maxRecDepth 100000 in
theorem s_charAt2 (l : Launch) (D : va_G) (cs : CS) (kf : KF) (T : TF) (O : List Nat) (X : va_W) (a0 : Nat) (x1 : Int32) (t_a0 : a0 < 21) (l_x1 : 0 ≤ x1.toInt) (u_x1 : x1.toInt < (slen.getD a0 0 : Nat)) (hO : okO T O []) : TK l D cs kf yJ0_charAt_5068e cJ0_charAt_5068e 2 (some (.char)) { frames := 3, cells := 0, slots := 0, locals := 64 } [.ref (kf.1 a0), .int x1] T O X (Ti D cs (fun r u => u = (T, O, X) ∧ 0 ≤ r.toInt ∧ r.toInt ≤ 255 ∧ (r = chF a0 x1.toInt.toNat))) := by
  refine tk_of (by decide) (Nat.le_of_ble_eq_true rfl) (fun p e s m below meth c ls A H locs hx hb hr hml hown hts hlocks hnm hkb hH hS hA hOX hks hE hl => ?_)
  have hown : s.vm.findClass RJ0 = some m.cls := hown
  have hl : lv_has ls 2 [(0, .ref (kf.1 a0)), (1, .int x1)] := hl
  refine lv_aload_n hx hb dJ0_charAt_5068e_0 rfl (lv_at hl 0 rfl) ?_
  refine tk_i hH hS hA (tr_V (n := 0) (As := []) hx hb hml hown hts hkb hH hOX hks hE hS hA (s_isLatin1 l D cs kf T O X a0 t_a0 (hO.sub (by decide))) kw_471 kw_472 kw_473 kw_14 kw_474 (by decide +kernel) ⟨Nat.le_of_ble_eq_true rfl, Nat.le_of_ble_eq_true rfl⟩ (vk_recv hE.1 t_a0 hS) rfl rfl hl.1 (Nat.le_of_ble_eq_true rfl) dJ0_charAt_5068e_1 ⟨Nat.le_of_ble_eq_true rfl, Nat.le_of_ble_eq_true rfl⟩) (fun v1 u H locs hz9 hH hS => ?_)
  obtain ⟨rfl, l_v1, u_v1⟩ := hz9
  refine lv_topc (y := 1) (eq_c (by decide) l_v1 u_v1) ?_
  have hH : HT D cs A T O X H := hH
  refine W.widen (k := 0) (n := 0) (Nat.le_of_ble_eq_true rfl) (Nat.le_of_ble_eq_true rfl) ?_
  refine lv_if_eq (tgt := 16) hx hb dJ0_charAt_5068e_4 (by decide) (fun c4 => absurd c4 (by decide)) (fun _ => ?_)
  refine lv_aload_n hx hb dJ0_charAt_5068e_7 rfl (lv_at hl 0 rfl) ?_
  refine vk_getf hx hb (hE.1.1 a0 t_a0).2.2.1 hS hown (hts _ kw_1790) (fun _ h9 => h9) dJ0_charAt_5068e_8 ?_
  refine lv_iload_n hx hb dJ0_charAt_5068e_11 rfl (lv_at hl 1 rfl) ?_
  refine tk_i hH hS hA (tr_S (n := 2) (As := [.ref (kf.2 a0), .int x1]) hx hb hml hown hts hkb hH hOX hks hE hS hA (s_L1charAt2 l D cs kf T O X a0 x1 t_a0 (by omega) (by omega) (hO.sub (by decide))) kw_559 kw_560 kw_15 kw_561 (by decide +kernel) ⟨Nat.le_of_ble_eq_true rfl, Nat.le_of_ble_eq_true rfl⟩ rfl rfl hl.1 (Nat.le_of_ble_eq_true rfl) dJ0_charAt_5068e_12 ⟨Nat.le_of_ble_eq_true rfl, Nat.le_of_ble_eq_true rfl⟩) (fun v12 u H locs hz9 hH hS => ?_)
  obtain ⟨rfl, l_v12, u_v12, x_v120⟩ := hz9
  have hH : HT D cs A T O X H := hH
  refine W.widen (k := 0) (n := 0) (Nat.le_of_ble_eq_true rfl) (Nat.le_of_ble_eq_true rfl) ?_
  exact te_n hx hb hr hlocks (narc (by omega) (by omega)) hH hS (⟨rfl, by omega, by omega, x_v120⟩) dJ0_charAt_5068e_15
set_option maxHeartbeats 4000000 in
set_option maxRecDepth 100000 in
theorem s_M_see (l : Launch) (D : va_G) (cs : CS) (kf : KF) (T : TF) (O : List Nat) (X : va_W) (a0 hg mq : Nat) (x1 : Int32) (f3 : Nat → Int32) (o0 : Value) (o1 : Value) (o2 : Value) (y3 : Nat) (y4 : Nat) (o5 : Value) (y6 : Int32) (y7 : Int32) (y8 : Int32) (y9 : Int32) (y10 : Int32) (y11 : Int32) (y12 : Int32) (tl : List Value) (t_a0 : T a0 = some (22, hg, mq)) (b_hg : hg < 90) (l_x1 : 0 ≤ x1.toInt) (t_y3 : T y3 = some (1, 900, 0)) (t_y4 : T y4 = some (8, 1302, 0)) (l_y6 : 0 ≤ y6.toInt) (u_y6 : y6.toInt ≤ 900) (l_y7 : 0 ≤ y7.toInt) (u_y7 : y7.toInt ≤ 900) (l_y8 : 0 ≤ y8.toInt) (u_y8 : y8.toInt ≤ 900) (l_y10 : 0 ≤ y10.toInt) (u_y10 : y10.toInt ≤ 999) (hO : okO T (y3 :: a0 :: O) []) : TK l D cs kf yX12_see cX12_see 2 (some (.int)) { frames := 0, cells := 0, slots := 0, locals := 0 } [.ref a0, .int x1] T (y3 :: a0 :: O) ((y3, .inl (cs.2.1, 900, .inl f3)) :: (a0, .inr (12, o0 :: o1 :: o2 :: (.ref y3) :: (.ref y4) :: o5 :: (.int y6) :: (.int y7) :: (.int y8) :: (.int y9) :: (.int y10) :: (.int y11) :: (.int y12) :: tl)) :: X) (Ti D cs (fun r u => u = (T, y3 :: a0 :: O, (y3, .inl (cs.2.1, 900, .inl f3)) :: (a0, .inr (12, o0 :: o1 :: o2 :: (.ref y3) :: (.ref y4) :: o5 :: (.int y6) :: (.int y7) :: (.int y8) :: (.int y9) :: (.int y10) :: (.int y11) :: (.int y12) :: tl)) :: X) ∧ (r = seeF f3 y8 x1) ∧ (r.toInt = -1 ∨ x1.toInt < y8.toInt))) := by
  refine tk_of (by decide) (Nat.le_of_ble_eq_true rfl) (fun p e s m below meth c ls A H locs hx hb hr hml hown hts hlocks hnm hkb hH hS hA hOX hks hE hl => ?_)
  have hown : s.vm.findClass RX12 = some m.cls := hown
  have hl : lv_has ls 2 [(0, .ref a0), (1, .int x1)] := hl
  have hOXf := hOX
  refine lv_iload_n hx hb dX12_see_0 rfl (lv_at hl 1 rfl) ?_
  refine lv_aload_n hx hb dX12_see_1 rfl (lv_at hl 0 rfl) ?_
  refine x_getk (ci := 12) (C := RX12) (F := TX12) (N := 36) (v := .int y8) hx hb hts uX12 hown hkb hH 1 rfl rfl 8 (by decide) rfl kw_1231 (fun _ h9 => h9) dX12_see_2 ?_
  refine lv_icmp_ge (tgt := 17) hx hb dX12_see_5 (by decide) (fun c5 => ?_) (fun c5 => ?_)
  · skip
    have fuc5 := full_i x1
    have fvc5 := full_i y8
    have tc5 := g_le c5
    refine lv_iconst (v := (-1)) hx hb dX12_see_17 (by decide) ?_
    have z9_m1 : ((-1) : Int32).toInt = -1 := by decide
    exact te_i hx hb hr hlocks hH hS (⟨rfl, see_ge tc5, by omega⟩) dX12_see_18
  · skip
    have fuc5 := full_i x1
    have fvc5 := full_i y8
    have tc5 := g_nle c5
    refine lv_aload_n hx hb dX12_see_8 rfl (lv_at hl 0 rfl) ?_
    refine x_getk (ci := 12) (C := RX12) (F := TX12) (N := 36) (v := .ref y3) hx hb hts uX12 hown hkb hH 1 rfl rfl 3 (by decide) rfl kw_1226 (fun _ h9 => h9) dX12_see_9 ?_
    refine lv_iload_n hx hb dX12_see_12 rfl (lv_at hl 1 rfl) ?_
    refine xa_ild hx hb hkb hH 0 rfl (by omega) (by omega) dX12_see_13 ?_
    refine lv_topi (fun v13 ev13 => ?_)
    have tv13 : v13 = f3 x1.toInt.toNat := ev13
    refine lv_goto (tgt := 18) hx hb dX12_see_14 (by decide) ?_
    exact te_i hx hb hr hlocks hH hS (⟨rfl, see_lt tc5 tv13, by omega⟩) dX12_see_18
set_option maxHeartbeats 4000000 in
set_option maxRecDepth 100000 in
theorem s_M_keyAt (l : Launch) (D : va_G) (cs : CS) (kf : KF) (T : TF) (O : List Nat) (X : va_W) (a0 hg mq : Nat) (f3 : Nat → Int32) (o0 : Value) (o1 : Value) (o2 : Value) (y3 : Nat) (y4 : Nat) (o5 : Value) (y6 : Int32) (y7 : Int32) (y8 : Int32) (y9 : Int32) (y10 : Int32) (y11 : Int32) (y12 : Int32) (tl : List Value) (t_a0 : T a0 = some (22, hg, mq)) (b_hg : hg < 90) (t_y3 : T y3 = some (1, 900, 0)) (t_y4 : T y4 = some (8, 1302, 0)) (l_y6 : 0 ≤ y6.toInt) (u_y6 : y6.toInt ≤ 900) (l_y7 : 0 ≤ y7.toInt) (u_y7 : y7.toInt ≤ 900) (l_y8 : 0 ≤ y8.toInt) (u_y8 : y8.toInt ≤ 900) (l_y10 : 0 ≤ y10.toInt) (u_y10 : y10.toInt ≤ 999) (k1 : y6.toInt ≤ y7.toInt) (hO : okO T (y3 :: a0 :: O) []) : TK l D cs kf yX12_keyAt cX12_keyAt 4 (some (.int)) { frames := 4, cells := 0, slots := 0, locals := 85 } [.ref a0] T (y3 :: a0 :: O) ((y3, .inl (cs.2.1, 900, .inl f3)) :: (a0, .inr (12, o0 :: o1 :: o2 :: (.ref y3) :: (.ref y4) :: o5 :: (.int y6) :: (.int y7) :: (.int y8) :: (.int y9) :: (.int y10) :: (.int y11) :: (.int y12) :: tl)) :: X) (Ti D cs (fun r u => u = (T, y3 :: a0 :: O, (y3, .inl (cs.2.1, 900, .inl f3)) :: (a0, .inr (12, o0 :: o1 :: o2 :: (.ref y3) :: (.ref y4) :: o5 :: (.int y6) :: (.int y7) :: (.int y8) :: (.int y9) :: (.int y10) :: (.int y11) :: (.int y12) :: tl)) :: X))) := by
  refine tk_of (by decide) (Nat.le_of_ble_eq_true rfl) (fun p e s m below meth c ls A H locs hx hb hr hml hown hts hlocks hnm hkb hH hS hA hOX hks hE hl => ?_)
  have hown : s.vm.findClass RX12 = some m.cls := hown
  have hl : lv_has ls 4 [(0, .ref a0)] := hl
  have hOXf := hOX
  have hs20 : slen.getD 20 0 = 87 := by decide
  refine lv_iconst (v := 0) hx hb dX12_keyAt_0 (by decide) ?_
  refine lv_istore_n (lv' := [(1, .int 0), (0, .ref a0)]) hx hb dX12_keyAt_1 rfl hl (by decide) rfl (fun ls hl => ?_)
  refine lv_iconst (v := 1) hx hb dX12_keyAt_2 (by decide) ?_
  have J4 : ∀ (n : Nat) (p4_2 : Int32) (p4_1 : Int32) (H : Heap) (locs : List Loc) (ls : Array Slot), (87 - p4_2.toInt).toNat = n → (1 ≤ p4_2.toInt) → (p4_2.toInt ≤ 87) → HT D cs A T (y3 :: a0 :: O) ((y3, .inl (cs.2.1, 900, .inl f3)) :: (a0, .inr (12, o0 :: o1 :: o2 :: (.ref y3) :: (.ref y4) :: o5 :: (.int y6) :: (.int y7) :: (.int y8) :: (.int y9) :: (.int y10) :: (.int y11) :: (.int y12) :: tl)) :: X) H → va_S A s.heap H locs → lv_has ls 4 [(2, .int p4_2), (1, .int p4_1), (0, .ref a0)] → W p l e { frames := 4, cells := 0, slots := 0, locals := 85 } s m [.ref a0].toArray below meth c H locs 0 0 (MQ below (Ti D cs (fun r u => u = (T, y3 :: a0 :: O, (y3, .inl (cs.2.1, 900, .inl f3)) :: (a0, .inr (12, o0 :: o1 :: o2 :: (.ref y3) :: (.ref y4) :: o5 :: (.int y6) :: (.int y7) :: (.int y8) :: (.int y9) :: (.int y10) :: (.int y11) :: (.int y12) :: tl)) :: X)) A) [.ref a0].toArray s 0 0 A) (F0 m 4 ls []) := by
    intro n
    induction n using Nat.strongRecOn with
    | _ n ih4 =>
      intro p4_2 p4_1 H locs ls hm4 l_p4_2 u_p4_2 hH hS hl
      refine lv_iload_n hx hb dX12_keyAt_4 rfl (lv_at hl 0 rfl) ?_
      refine va_ldcS (q := kf.1 20) hx hb hown (hks ("FootholdWallModel", 88, " hold guide leg weight step used by broken day start top wide ice or and not dx up far ", 20) (by decide +kernel)) dX12_keyAt_5 ?_
      refine tk_i hH hS hA (tr_V (n := 0) (As := []) hx hb hml hown hts hkb hH (ox_map hOX rfl) hks hE hS hA (s_length l D cs kf T (y3 :: a0 :: O) ((y3, .inl (cs.2.1, 900, .inl f3)) :: (a0, .inr (12, o0 :: o1 :: o2 :: (.ref y3) :: (.ref y4) :: o5 :: (.int y6) :: (.int y7) :: (.int y8) :: (.int y9) :: (.int y10) :: (.int y11) :: (.int y12) :: tl)) :: X) 20 (by decide) (hO.sub (by decide))) kw_1360 kw_478 kw_479 kw_14 kw_480 (by decide +kernel) ⟨Nat.le_of_ble_eq_true rfl, Nat.le_of_ble_eq_true rfl⟩ (vk_recv hE.1 (by decide) hS) rfl rfl hl.1 (Nat.le_of_ble_eq_true rfl) dX12_keyAt_7 ⟨Nat.le_of_ble_eq_true rfl, Nat.le_of_ble_eq_true rfl⟩) (fun v7 u H locs hz9 hH hS => ?_)
      obtain ⟨rfl, l_v7, u_v7, x_v70⟩ := hz9
      have hH : HT D cs A T (y3 :: a0 :: O) ((y3, .inl (cs.2.1, 900, .inl f3)) :: (a0, .inr (12, o0 :: o1 :: o2 :: (.ref y3) :: (.ref y4) :: o5 :: (.int y6) :: (.int y7) :: (.int y8) :: (.int y9) :: (.int y10) :: (.int y11) :: (.int y12) :: tl)) :: X) H := hH
      refine W.widen (k := 0) (n := 0) (Nat.le_of_ble_eq_true rfl) (Nat.le_of_ble_eq_true rfl) ?_
      refine lv_icmp_ge (tgt := 123) hx hb dX12_keyAt_10 (by decide) (fun c10 => ?_) (fun c10 => ?_)
      · skip
        have fuc10 := full_i p4_2
        have fvc10 := full_i v7
        have tc10 := g_le c10
        refine lv_bipush (v := 20) hx hb dX12_keyAt_123 (by decide) ?_
        have z9_20 : (20 : Int32).toInt = 20 := by decide
        exact te_i hx hb hr hlocks hH hS (rfl) dX12_keyAt_125
      · skip
        have fuc10 := full_i p4_2
        have fvc10 := full_i v7
        have tc10 := g_nle c10
        refine lv_iconst (v := 0) hx hb dX12_keyAt_13 (by decide) ?_
        have J15 : ∀ (n : Nat) (p15_3 : Int32) (H : Heap) (locs : List Loc) (ls : Array Slot), (86 - p15_3.toInt).toNat = n → (0 ≤ p15_3.toInt) → (p15_3.toInt ≤ 86) → (p4_2.toInt + p15_3.toInt ≤ 86) → HT D cs A T (y3 :: a0 :: O) ((y3, .inl (cs.2.1, 900, .inl f3)) :: (a0, .inr (12, o0 :: o1 :: o2 :: (.ref y3) :: (.ref y4) :: o5 :: (.int y6) :: (.int y7) :: (.int y8) :: (.int y9) :: (.int y10) :: (.int y11) :: (.int y12) :: tl)) :: X) H → va_S A s.heap H locs → lv_has ls 4 [(3, .int p15_3), (2, .int p4_2), (1, .int p4_1), (0, .ref a0)] → W p l e { frames := 4, cells := 0, slots := 0, locals := 85 } s m [.ref a0].toArray below meth c H locs 0 0 (MQ below (Ti D cs (fun r u => u = (T, y3 :: a0 :: O, (y3, .inl (cs.2.1, 900, .inl f3)) :: (a0, .inr (12, o0 :: o1 :: o2 :: (.ref y3) :: (.ref y4) :: o5 :: (.int y6) :: (.int y7) :: (.int y8) :: (.int y9) :: (.int y10) :: (.int y11) :: (.int y12) :: tl)) :: X)) A) [.ref a0].toArray s 0 0 A) (F0 m 15 ls []) := by
          intro n
          induction n using Nat.strongRecOn with
          | _ n ih15 =>
            intro p15_3 H locs ls hm15 l_p15_3 u_p15_3 i15 hH hS hl
            refine va_ldcS (q := kf.1 20) hx hb hown (hks ("FootholdWallModel", 88, " hold guide leg weight step used by broken day start top wide ice or and not dx up far ", 20) (by decide +kernel)) dX12_keyAt_15 ?_
            refine lv_iload_n hx hb dX12_keyAt_17 rfl (lv_at hl 1 rfl) ?_
            refine lv_iload_n hx hb dX12_keyAt_18 rfl (lv_at hl 0 rfl) ?_
            refine lv_iadd hx hb dX12_keyAt_19 ?_
            refine lv_topi (fun v19 ev19 => ?_)
            have tv19 : v19.toInt = p4_2.toInt + p15_3.toInt := by rw [ev19]; exact add_i rfl rfl (by omega) (by omega)
            refine tk_i hH hS hA (tr_V (n := 1) (As := [.int v19]) hx hb hml hown hts hkb hH (ox_map hOX rfl) hks hE hS hA (s_charAt2 l D cs kf T (y3 :: a0 :: O) ((y3, .inl (cs.2.1, 900, .inl f3)) :: (a0, .inr (12, o0 :: o1 :: o2 :: (.ref y3) :: (.ref y4) :: o5 :: (.int y6) :: (.int y7) :: (.int y8) :: (.int y9) :: (.int y10) :: (.int y11) :: (.int y12) :: tl)) :: X) 20 v19 (by decide) (by omega) (by omega) (hO.sub (by decide))) kw_1361 kw_556 kw_557 kw_14 kw_558 (by decide +kernel) ⟨Nat.le_of_ble_eq_true rfl, Nat.le_of_ble_eq_true rfl⟩ (vk_recv hE.1 (by decide) hS) rfl rfl hl.1 (Nat.le_of_ble_eq_true rfl) dX12_keyAt_20 ⟨Nat.le_of_ble_eq_true rfl, Nat.le_of_ble_eq_true rfl⟩) (fun v20 u H locs hz9 hH hS => ?_)
            obtain ⟨rfl, l_v20, u_v20, x_v200⟩ := hz9
            have hH : HT D cs A T (y3 :: a0 :: O) ((y3, .inl (cs.2.1, 900, .inl f3)) :: (a0, .inr (12, o0 :: o1 :: o2 :: (.ref y3) :: (.ref y4) :: o5 :: (.int y6) :: (.int y7) :: (.int y8) :: (.int y9) :: (.int y10) :: (.int y11) :: (.int y12) :: tl)) :: X) H := hH
            refine W.widen (k := 0) (n := 0) (Nat.le_of_ble_eq_true rfl) (Nat.le_of_ble_eq_true rfl) ?_
            refine lv_bipush (v := 32) hx hb dX12_keyAt_23 (by decide) ?_
            have J69 : ∀  (H : Heap) (locs : List Loc) (ls : Array Slot), HT D cs A T (y3 :: a0 :: O) ((y3, .inl (cs.2.1, 900, .inl f3)) :: (a0, .inr (12, o0 :: o1 :: o2 :: (.ref y3) :: (.ref y4) :: o5 :: (.int y6) :: (.int y7) :: (.int y8) :: (.int y9) :: (.int y10) :: (.int y11) :: (.int y12) :: tl)) :: X) H → va_S A s.heap H locs → lv_has ls 4 [(3, .int p15_3), (2, .int p4_2), (1, .int p4_1), (0, .ref a0)] → W p l e { frames := 4, cells := 0, slots := 0, locals := 85 } s m [.ref a0].toArray below meth c H locs 0 0 (MQ below (Ti D cs (fun r u => u = (T, y3 :: a0 :: O, (y3, .inl (cs.2.1, 900, .inl f3)) :: (a0, .inr (12, o0 :: o1 :: o2 :: (.ref y3) :: (.ref y4) :: o5 :: (.int y6) :: (.int y7) :: (.int y8) :: (.int y9) :: (.int y10) :: (.int y11) :: (.int y12) :: tl)) :: X)) A) [.ref a0].toArray s 0 0 A) (F0 m 69 ls []) := by
              intro  H locs ls  hH hS hl
              refine va_ldcS (q := kf.1 20) hx hb hown (hks ("FootholdWallModel", 88, " hold guide leg weight step used by broken day start top wide ice or and not dx up far ", 20) (by decide +kernel)) dX12_keyAt_69 ?_
              refine lv_iload_n hx hb dX12_keyAt_71 rfl (lv_at hl 1 rfl) ?_
              refine lv_iload_n hx hb dX12_keyAt_72 rfl (lv_at hl 0 rfl) ?_
              refine lv_iadd hx hb dX12_keyAt_73 ?_
              refine lv_topi (fun v73 ev73 => ?_)
              have tv73 : v73.toInt = p4_2.toInt + p15_3.toInt := by rw [ev73]; exact add_i rfl rfl (by omega) (by omega)
              refine tk_i hH hS hA (tr_V (n := 1) (As := [.int v73]) hx hb hml hown hts hkb hH (ox_map hOX rfl) hks hE hS hA (s_charAt2 l D cs kf T (y3 :: a0 :: O) ((y3, .inl (cs.2.1, 900, .inl f3)) :: (a0, .inr (12, o0 :: o1 :: o2 :: (.ref y3) :: (.ref y4) :: o5 :: (.int y6) :: (.int y7) :: (.int y8) :: (.int y9) :: (.int y10) :: (.int y11) :: (.int y12) :: tl)) :: X) 20 v73 (by decide) (by omega) (by omega) (hO.sub (by decide))) kw_1361 kw_556 kw_557 kw_14 kw_558 (by decide +kernel) ⟨Nat.le_of_ble_eq_true rfl, Nat.le_of_ble_eq_true rfl⟩ (vk_recv hE.1 (by decide) hS) rfl rfl hl.1 (Nat.le_of_ble_eq_true rfl) dX12_keyAt_74 ⟨Nat.le_of_ble_eq_true rfl, Nat.le_of_ble_eq_true rfl⟩) (fun v74 u H locs hz9 hH hS => ?_)
              obtain ⟨rfl, l_v74, u_v74, x_v740⟩ := hz9
              have hH : HT D cs A T (y3 :: a0 :: O) ((y3, .inl (cs.2.1, 900, .inl f3)) :: (a0, .inr (12, o0 :: o1 :: o2 :: (.ref y3) :: (.ref y4) :: o5 :: (.int y6) :: (.int y7) :: (.int y8) :: (.int y9) :: (.int y10) :: (.int y11) :: (.int y12) :: tl)) :: X) H := hH
              refine W.widen (k := 0) (n := 0) (Nat.le_of_ble_eq_true rfl) (Nat.le_of_ble_eq_true rfl) ?_
              refine lv_bipush (v := 32) hx hb dX12_keyAt_77 (by decide) ?_
              have J97 : ∀ (n : Nat) (p97_2 : Int32) (H : Heap) (locs : List Loc) (ls : Array Slot), (86 - p97_2.toInt).toNat = n → (1 ≤ p97_2.toInt) → (p97_2.toInt ≤ 86) → (p4_2.toInt ≤ p97_2.toInt) → HT D cs A T (y3 :: a0 :: O) ((y3, .inl (cs.2.1, 900, .inl f3)) :: (a0, .inr (12, o0 :: o1 :: o2 :: (.ref y3) :: (.ref y4) :: o5 :: (.int y6) :: (.int y7) :: (.int y8) :: (.int y9) :: (.int y10) :: (.int y11) :: (.int y12) :: tl)) :: X) H → va_S A s.heap H locs → lv_has ls 4 [(2, .int p97_2), (1, .int p4_1), (0, .ref a0)] → W p l e { frames := 4, cells := 0, slots := 0, locals := 85 } s m [.ref a0].toArray below meth c H locs 0 0 (MQ below (Ti D cs (fun r u => u = (T, y3 :: a0 :: O, (y3, .inl (cs.2.1, 900, .inl f3)) :: (a0, .inr (12, o0 :: o1 :: o2 :: (.ref y3) :: (.ref y4) :: o5 :: (.int y6) :: (.int y7) :: (.int y8) :: (.int y9) :: (.int y10) :: (.int y11) :: (.int y12) :: tl)) :: X)) A) [.ref a0].toArray s 0 0 A) (F0 m 97 ls []) := by
                intro n
                induction n using Nat.strongRecOn with
                | _ n ih97 =>
                  intro p97_2 H locs ls hm97 l_p97_2 u_p97_2 i97 hH hS hl
                  refine va_ldcS (q := kf.1 20) hx hb hown (hks ("FootholdWallModel", 88, " hold guide leg weight step used by broken day start top wide ice or and not dx up far ", 20) (by decide +kernel)) dX12_keyAt_97 ?_
                  refine lv_iload_n hx hb dX12_keyAt_99 rfl (lv_at hl 0 rfl) ?_
                  refine tk_i hH hS hA (tr_V (n := 1) (As := [.int p97_2]) hx hb hml hown hts hkb hH (ox_map hOX rfl) hks hE hS hA (s_charAt2 l D cs kf T (y3 :: a0 :: O) ((y3, .inl (cs.2.1, 900, .inl f3)) :: (a0, .inr (12, o0 :: o1 :: o2 :: (.ref y3) :: (.ref y4) :: o5 :: (.int y6) :: (.int y7) :: (.int y8) :: (.int y9) :: (.int y10) :: (.int y11) :: (.int y12) :: tl)) :: X) 20 p97_2 (by decide) (by omega) (by omega) (hO.sub (by decide))) kw_1361 kw_556 kw_557 kw_14 kw_558 (by decide +kernel) ⟨Nat.le_of_ble_eq_true rfl, Nat.le_of_ble_eq_true rfl⟩ (vk_recv hE.1 (by decide) hS) rfl rfl hl.1 (Nat.le_of_ble_eq_true rfl) dX12_keyAt_100 ⟨Nat.le_of_ble_eq_true rfl, Nat.le_of_ble_eq_true rfl⟩) (fun v100 u H locs hz9 hH hS => ?_)
                  obtain ⟨rfl, l_v100, u_v100, x_v1000⟩ := hz9
                  have hH : HT D cs A T (y3 :: a0 :: O) ((y3, .inl (cs.2.1, 900, .inl f3)) :: (a0, .inr (12, o0 :: o1 :: o2 :: (.ref y3) :: (.ref y4) :: o5 :: (.int y6) :: (.int y7) :: (.int y8) :: (.int y9) :: (.int y10) :: (.int y11) :: (.int y12) :: tl)) :: X) H := hH
                  refine W.widen (k := 0) (n := 0) (Nat.le_of_ble_eq_true rfl) (Nat.le_of_ble_eq_true rfl) ?_
                  refine lv_bipush (v := 32) hx hb dX12_keyAt_103 (by decide) ?_
                  refine lv_icmp_eq (tgt := 114) hx hb dX12_keyAt_105 (by decide) (fun c105 => ?_) (fun c105 => ?_)
                  · skip
                    have tc105 := f_eq (k := 32) (by decide) c105
                    obtain ⟨v114, ev114⟩ : ∃ y : Int32, y = p97_2 + 1 := ⟨_, rfl⟩
                    have tv114 : v114.toInt = p97_2.toInt + (1) := by rw [ev114]; exact add_i rfl (by decide) (by omega) (by omega)
                    refine lv_iinc (v := v114) (lv' := [(2, .int v114), (1, .int p4_1), (0, .ref a0)]) hx hb dX12_keyAt_114 hl (k := 0) rfl (by rw [ev114]; rfl) (by decide) rfl (fun ls hl => ?_)
                    obtain ⟨v117, ev117⟩ : ∃ y : Int32, y = p4_1 + 1 := ⟨_, rfl⟩
                    refine lv_iinc (v := v117) (lv' := [(1, .int v117), (2, .int v114), (0, .ref a0)]) hx hb dX12_keyAt_117 hl (k := 1) rfl (by rw [ev117]; rfl) (by decide) rfl (fun ls hl => ?_)
                    refine lv_goto (tgt := 4) hx hb dX12_keyAt_120 (by decide) ?_
                    exact ih4 _ (by omega) v114 v117 _ _ _ rfl (by omega) (by omega) hH hS (lv_sub hl [1, 0, 2] rfl)
                  · skip
                    have tc105 := f_ne (k := 32) (by decide) c105
                    have hk108 : p97_2.toInt ≠ 86 := fun q => tc105 (keys_end x_v1000 q)
                    obtain ⟨v108, ev108⟩ : ∃ y : Int32, y = p97_2 + 1 := ⟨_, rfl⟩
                    have tv108 : v108.toInt = p97_2.toInt + (1) := by rw [ev108]; exact add_i rfl (by decide) (by omega) (by omega)
                    refine lv_iinc (v := v108) (lv' := [(2, .int v108), (1, .int p4_1), (0, .ref a0)]) hx hb dX12_keyAt_108 hl (k := 0) rfl (by rw [ev108]; rfl) (by decide) rfl (fun ls hl => ?_)
                    refine lv_goto (tgt := 97) hx hb dX12_keyAt_111 (by decide) ?_
                    exact ih97 _ (by omega) v108 _ _ _ rfl (by omega) (by omega) (by omega) hH hS (lv_sub hl [0, 1, 2] rfl)
              refine lv_icmp_ne (tgt := 97) hx hb dX12_keyAt_79 (by decide) (fun c79 => ?_) (fun c79 => ?_)
              · skip
                have tc79 := f_ne (k := 32) (by decide) c79
                exact J97 _ p4_2 _ _ _ rfl (by omega) (by omega) (by omega) hH hS (lv_sub hl [1, 2, 3] rfl)
              · skip
                have tc79 := f_eq (k := 32) (by decide) c79
                refine lv_aload_n hx hb dX12_keyAt_82 rfl (lv_at hl 3 rfl) ?_
                refine x_getk (ci := 12) (C := RX12) (F := TX12) (N := 36) (v := .int y6) hx hb hts uX12 hown hkb hH 1 rfl rfl 6 (by decide) rfl kw_1229 (fun _ h9 => h9) dX12_keyAt_83 ?_
                refine lv_iload_n hx hb dX12_keyAt_86 rfl (lv_at hl 0 rfl) ?_
                refine lv_iadd hx hb dX12_keyAt_87 ?_
                refine lv_topi (fun v87 ev87 => ?_)
                have tv87 : v87.toInt = y6.toInt + p15_3.toInt := by rw [ev87]; exact add_i rfl rfl (by omega) (by omega)
                refine lv_aload_n hx hb dX12_keyAt_88 rfl (lv_at hl 3 rfl) ?_
                refine x_getk (ci := 12) (C := RX12) (F := TX12) (N := 36) (v := .int y7) hx hb hts uX12 hown hkb hH 1 rfl rfl 7 (by decide) rfl kw_1230 (fun _ h9 => h9) dX12_keyAt_89 ?_
                refine lv_icmp_ne (tgt := 97) hx hb dX12_keyAt_92 (by decide) (fun c92 => ?_) (fun c92 => ?_)
                · skip
                  have fuc92 := full_i v87
                  have fvc92 := full_i y7
                  have tc92 := g_ne c92
                  exact J97 _ p4_2 _ _ _ rfl (by omega) (by omega) (by omega) hH hS (lv_sub hl [1, 2, 3] rfl)
                · skip
                  have fuc92 := full_i v87
                  have fvc92 := full_i y7
                  have tc92 := g_eq c92
                  refine lv_iload_n hx hb dX12_keyAt_95 rfl (lv_at hl 2 rfl) ?_
                  exact te_i hx hb hr hlocks hH hS (rfl) dX12_keyAt_96
            refine lv_icmp_eq (tgt := 69) hx hb dX12_keyAt_25 (by decide) (fun c25 => ?_) (fun c25 => ?_)
            · skip
              have tc25 := f_eq (k := 32) (by decide) c25
              exact J69  _ _ _  hH hS (lv_sub hl [0, 1, 2, 3] rfl)
            · skip
              have tc25 := f_ne (k := 32) (by decide) c25
              have hk28 : v19.toInt ≠ 86 := fun q => tc25 (keys_end x_v200 q)
              refine lv_aload_n hx hb dX12_keyAt_28 rfl (lv_at hl 3 rfl) ?_
              refine x_getk (ci := 12) (C := RX12) (F := TX12) (N := 36) (v := .int y6) hx hb hts uX12 hown hkb hH 1 rfl rfl 6 (by decide) rfl kw_1229 (fun _ h9 => h9) dX12_keyAt_29 ?_
              refine lv_iload_n hx hb dX12_keyAt_32 rfl (lv_at hl 0 rfl) ?_
              refine lv_iadd hx hb dX12_keyAt_33 ?_
              refine lv_topi (fun v33 ev33 => ?_)
              have tv33 : v33.toInt = y6.toInt + p15_3.toInt := by rw [ev33]; exact add_i rfl rfl (by omega) (by omega)
              refine lv_aload_n hx hb dX12_keyAt_34 rfl (lv_at hl 3 rfl) ?_
              refine x_getk (ci := 12) (C := RX12) (F := TX12) (N := 36) (v := .int y7) hx hb hts uX12 hown hkb hH 1 rfl rfl 7 (by decide) rfl kw_1230 (fun _ h9 => h9) dX12_keyAt_35 ?_
              refine lv_icmp_ge (tgt := 69) hx hb dX12_keyAt_38 (by decide) (fun c38 => ?_) (fun c38 => ?_)
              · skip
                have fuc38 := full_i v33
                have fvc38 := full_i y7
                have tc38 := g_le c38
                exact J69  _ _ _  hH hS (lv_sub hl [0, 1, 2, 3] rfl)
              · skip
                have fuc38 := full_i v33
                have fvc38 := full_i y7
                have tc38 := g_nle c38
                refine lv_aload_n hx hb dX12_keyAt_41 rfl (lv_at hl 3 rfl) ?_
                refine x_getk (ci := 12) (C := RX12) (F := TX12) (N := 36) (v := .ref y3) hx hb hts uX12 hown hkb hH 1 rfl rfl 3 (by decide) rfl kw_1226 (fun _ h9 => h9) dX12_keyAt_42 ?_
                refine lv_aload_n hx hb dX12_keyAt_45 rfl (lv_at hl 3 rfl) ?_
                refine x_getk (ci := 12) (C := RX12) (F := TX12) (N := 36) (v := .int y6) hx hb hts uX12 hown hkb hH 1 rfl rfl 6 (by decide) rfl kw_1229 (fun _ h9 => h9) dX12_keyAt_46 ?_
                refine lv_iload_n hx hb dX12_keyAt_49 rfl (lv_at hl 0 rfl) ?_
                refine lv_iadd hx hb dX12_keyAt_50 ?_
                refine lv_topi (fun v50 ev50 => ?_)
                have tv50 : v50.toInt = y6.toInt + p15_3.toInt := by rw [ev50]; exact add_i rfl rfl (by omega) (by omega)
                refine xa_ild hx hb hkb hH 0 rfl (by omega) (by omega) dX12_keyAt_51 ?_
                refine lv_topi (fun v51 ev51 => ?_)
                have tv51 : v51 = f3 v50.toInt.toNat := ev51
                refine va_ldcS (q := kf.1 20) hx hb hown (hks ("FootholdWallModel", 88, " hold guide leg weight step used by broken day start top wide ice or and not dx up far ", 20) (by decide +kernel)) dX12_keyAt_52 ?_
                refine lv_iload_n hx hb dX12_keyAt_54 rfl (lv_at hl 1 rfl) ?_
                refine lv_iload_n hx hb dX12_keyAt_55 rfl (lv_at hl 0 rfl) ?_
                refine lv_iadd hx hb dX12_keyAt_56 ?_
                refine lv_topi (fun v56 ev56 => ?_)
                have tv56 : v56.toInt = p4_2.toInt + p15_3.toInt := by rw [ev56]; exact add_i rfl rfl (by omega) (by omega)
                refine tk_i hH hS hA (tr_V (n := 1) (As := [.int v56]) hx hb hml hown hts hkb hH (ox_map hOX rfl) hks hE hS hA (s_charAt2 l D cs kf T (y3 :: a0 :: O) ((y3, .inl (cs.2.1, 900, .inl f3)) :: (a0, .inr (12, o0 :: o1 :: o2 :: (.ref y3) :: (.ref y4) :: o5 :: (.int y6) :: (.int y7) :: (.int y8) :: (.int y9) :: (.int y10) :: (.int y11) :: (.int y12) :: tl)) :: X) 20 v56 (by decide) (by omega) (by omega) (hO.sub (by decide))) kw_1361 kw_556 kw_557 kw_14 kw_558 (by decide +kernel) ⟨Nat.le_of_ble_eq_true rfl, Nat.le_of_ble_eq_true rfl⟩ (vk_recv hE.1 (by decide) hS) rfl rfl hl.1 (Nat.le_of_ble_eq_true rfl) dX12_keyAt_57 ⟨Nat.le_of_ble_eq_true rfl, Nat.le_of_ble_eq_true rfl⟩) (fun v57 u H locs hz9 hH hS => ?_)
                obtain ⟨rfl, l_v57, u_v57, x_v570⟩ := hz9
                have hH : HT D cs A T (y3 :: a0 :: O) ((y3, .inl (cs.2.1, 900, .inl f3)) :: (a0, .inr (12, o0 :: o1 :: o2 :: (.ref y3) :: (.ref y4) :: o5 :: (.int y6) :: (.int y7) :: (.int y8) :: (.int y9) :: (.int y10) :: (.int y11) :: (.int y12) :: tl)) :: X) H := hH
                refine W.widen (k := 0) (n := 0) (Nat.le_of_ble_eq_true rfl) (Nat.le_of_ble_eq_true rfl) ?_
                refine lv_icmp_ne (tgt := 69) hx hb dX12_keyAt_60 (by decide) (fun c60 => ?_) (fun c60 => ?_)
                · skip
                  have fuc60 := full_i v51
                  have fvc60 := full_i v57
                  have tc60 := g_ne c60
                  exact J69  _ _ _  hH hS (lv_sub hl [0, 1, 2, 3] rfl)
                · skip
                  have fuc60 := full_i v51
                  have fvc60 := full_i v57
                  have tc60 := g_eq c60
                  obtain ⟨v63, ev63⟩ : ∃ y : Int32, y = p15_3 + 1 := ⟨_, rfl⟩
                  have tv63 : v63.toInt = p15_3.toInt + (1) := by rw [ev63]; exact add_i rfl (by decide) (by omega) (by omega)
                  refine lv_iinc (v := v63) (lv' := [(3, .int v63), (2, .int p4_2), (1, .int p4_1), (0, .ref a0)]) hx hb dX12_keyAt_63 hl (k := 0) rfl (by rw [ev63]; rfl) (by decide) rfl (fun ls hl => ?_)
                  refine lv_goto (tgt := 15) hx hb dX12_keyAt_66 (by decide) ?_
                  exact ih15 _ (by omega) v63 _ _ _ rfl (by omega) (by omega) (by omega) hH hS (lv_sub hl [0, 1, 2, 3] rfl)
        refine lv_istore_n (lv' := [(3, .int 0), (2, .int p4_2), (1, .int p4_1), (0, .ref a0)]) hx hb dX12_keyAt_14 rfl hl (by decide) rfl (fun ls hl => ?_)
        have z_0 : (0 : Int32).toInt = 0 := by decide
        exact J15 _ 0 _ _ _ rfl (by decide) (by decide) (by omega) hH hS (lv_sub hl [0, 1, 2, 3] rfl)
  refine lv_istore_n (lv' := [(2, .int 1), (1, .int 0), (0, .ref a0)]) hx hb dX12_keyAt_3 rfl hl (by decide) rfl (fun ls hl => ?_)
  exact J4 _ 1 0 _ _ _ rfl (by decide) (by decide) hH hS (lv_sub hl [0, 1, 2] rfl)
