set_option maxHeartbeats 4000000 in
set_option maxRecDepth 100000 in
theorem s_LR_put (l : Launch) (D : va_G) (cs : CS) (kf : KF) (T : TF) (O : List Nat) (X : va_W) (a0 : Nat) (x1 : Int32) (x2 : Int32) (t_a0 : T a0 = some (13, 0, 0)) (hO : okO T O [1, 13]) : TK l D cs kf yX3_put cX3_put 3 none { frames := 0, cells := 0, slots := 0, locals := 0 } [.ref a0, .int x1, .int x2] T O X (Tv D cs (fun u => u = (T, O, X))) := by
  refine tk_of (by decide) (Nat.le_of_ble_eq_true rfl) (fun p e s m below meth c ls A H locs hx hb hr hml hown hts hlocks hnm hkb hH hS hA hOX hks hE hl => ?_)
  have hown : s.vm.findClass RX3 = some m.cls := hown
  have hl : lv_has ls 3 [(0, .ref a0), (1, .int x1), (2, .int x2)] := hl
  have hO0 := hO
  obtain ⟨fs9, ho9, hH⟩ := hH.take t_a0 (hO0.no t_a0 (by decide))
  have hp0 : okL T (ft3 0 0) fs9 := ho9
  clear ho9
  obtain ⟨v9, fs9, rfl, h9, hp1⟩ := okL_i hp0
  obtain ⟨q0_0, rfl, t_q0_0⟩ := h9
  obtain ⟨v9, fs9, rfl, h9, hp2⟩ := okL_i hp1
  obtain ⟨q0_1, rfl, t_q0_1⟩ := h9
  obtain ⟨v9, fs9, rfl, h9, hp3⟩ := okL_i hp2
  obtain ⟨q0_2, rfl, l_q0_2, u_q0_2⟩ := h9
  have hpz := okL_z hp3
  subst hpz
  have hH : HT D cs A T (a0 :: O) ((a0, .inr (3, [.ref q0_0, .ref q0_1, .int q0_2])) :: X) H := hH
  have hO : okO T (a0 :: O) [1] := okO.cons (hO0.sub (by decide)) t_a0 (by decide)
  refine lv_aload_n hx hb dX3_put_0 rfl (lv_at hl 0 rfl) ?_
  refine x_get (ci := 3) (C := RX3) (F := TX3) (N := 3) (v := .int q0_2) hx hb hts uX3 hown hkb hH rfl 2 (by decide) rfl kw_84 (fun _ h9 => h9) dX3_put_1 ?_
  refine lv_sipush (v := 900) hx hb dX3_put_4 (by decide) ?_
  have J34 : ∀ (f34_2 : Int32) (H : Heap) (locs : List Loc) (ls : Array Slot), (1 ≤ f34_2.toInt) → (f34_2.toInt ≤ 900) → HT D cs A T (a0 :: O) ((a0, .inr (3, [.ref q0_0, .ref q0_1, .int f34_2])) :: X) H → va_S A s.heap H locs → lv_has ls 3 [] → W p l e { frames := 0, cells := 0, slots := 0, locals := 0 } s m [.ref a0, .int x1, .int x2].toArray below meth c H locs 0 0 (MQ below (Tv D cs (fun u => u = (T, O, X)) A) [.ref a0, .int x1, .int x2].toArray s 0 0 A) (F0 m 34 ls []) := by
    intro f34_2 H locs ls l_f34_2 u_f34_2 hH hS hl
    have hH : HT D cs A T O X H := HT.lay (ci := 3) hH t_a0 (okL_c (⟨_, rfl, t_q0_0⟩) (okL_c (⟨_, rfl, t_q0_1⟩) (okL_c (⟨_, rfl, by omega, by omega⟩) (okL_n))))
    have hO := hO0
    exact te_v hx hb hr hlocks hH hS rfl dX3_put_34
  refine lv_icmp_ge (tgt := 34) hx hb dX3_put_7 (by decide) (fun c7 => ?_) (fun c7 => ?_)
  · skip
    have tc7 := f_ge (k := 900) (by decide) c7
    exact J34 q0_2 _ _ _ (by omega) (by omega) hH hS (lv_sub hl [] rfl)
  · skip
    have tc7 := f_nge (k := 900) (by decide) c7
    refine lv_aload_n hx hb dX3_put_10 rfl (lv_at hl 0 rfl) ?_
    refine x_get (ci := 3) (C := RX3) (F := TX3) (N := 3) (v := .ref q0_1) hx hb hts uX3 hown hkb hH rfl 1 (by decide) rfl kw_83 (fun _ h9 => h9) dX3_put_11 ?_
    refine lv_aload_n hx hb dX3_put_14 rfl (lv_at hl 0 rfl) ?_
    refine x_get (ci := 3) (C := RX3) (F := TX3) (N := 3) (v := .int q0_2) hx hb hts uX3 hown hkb hH rfl 2 (by decide) rfl kw_84 (fun _ h9 => h9) dX3_put_15 ?_
    refine lv_iload_n hx hb dX3_put_18 rfl (lv_at hl 1 rfl) ?_
    refine lv_iload_n hx hb dX3_put_19 rfl (lv_at hl 2 rfl) ?_
    refine lv_iconst (v := 4) hx hb dX3_put_20 (by decide) ?_
    refine lv_ishl hx hb dX3_put_21 ?_
    refine lv_topi (fun v21 ev21 => ?_)
    refine lv_ior hx hb dX3_put_22 ?_
    refine lv_topi (fun v22 ev22 => ?_)
    refine t_ist hx hb hkb hH hS t_q0_1 (hO.no t_q0_1 (by decide)) (by omega) (by omega) (cp_0 _) dX3_put_23 (fun H locs hH hS => ?_)
    refine lv_aload_n hx hb dX3_put_24 rfl (lv_at hl 0 rfl) ?_
    refine lv_dup hx hb dX3_put_25 rfl ?_
    refine x_get (ci := 3) (C := RX3) (F := TX3) (N := 3) (v := .int q0_2) hx hb hts uX3 hown hkb hH rfl 2 (by decide) rfl kw_84 (fun _ h9 => h9) dX3_put_26 ?_
    refine lv_iconst (v := 1) hx hb dX3_put_29 (by decide) ?_
    refine lv_iadd hx hb dX3_put_30 ?_
    refine lv_topi (fun v30 ev30 => ?_)
    have tv30 : v30.toInt = q0_2.toInt + (1) := by rw [ev30]; exact add_i rfl (by decide : (1 : Int32).toInt = 1) (by omega) (by omega)
    refine x_put (ci := 3) (v := .int v30) (ty := tyX3 2) (C := RX3) (F := TX3) (N := 3) hx hb hts uX3 tyX3 tyX3_ok nmX3 hown hkb hH hS rfl 2 (by decide) kw_84 (fun _ h9 => h9) rfl (tyX3_ok 2 (by decide)) rfl rfl (Nat.le_of_ble_eq_true rfl) dX3_put_31 (fun H locs hH hS => ?_)
    have hH : HT D cs A T (a0 :: O) ((a0, .inr (3, [.ref q0_0, .ref q0_1, .int v30])) :: X) H := hH
    exact J34 v30 _ _ _ (by omega) (by omega) hH hS (lv_sub hl [] rfl)
set_option maxHeartbeats 4000000 in
set_option maxRecDepth 100000 in
theorem s_LR_aimSkip (l : Launch) (D : va_G) (cs : CS) (kf : KF) (T : TF) (O : List Nat) (X : va_W) (a0 : Nat) (x1 : Int32) (t_a0 : T a0 = some (13, 0, 0)) (hO : okO T O [1, 13]) : TK l D cs kf yX3_aimSkip cX3_aimSkip 2 none { frames := 0, cells := 0, slots := 0, locals := 0 } [.ref a0, .int x1] T O X (Tv D cs (fun u => u = (T, O, X))) := by
  refine tk_of (by decide) (Nat.le_of_ble_eq_true rfl) (fun p e s m below meth c ls A H locs hx hb hr hml hown hts hlocks hnm hkb hH hS hA hOX hks hE hl => ?_)
  have hown : s.vm.findClass RX3 = some m.cls := hown
  have hl : lv_has ls 2 [(0, .ref a0), (1, .int x1)] := hl
  have hO0 := hO
  obtain ⟨fs9, ho9, hH⟩ := hH.take t_a0 (hO0.no t_a0 (by decide))
  have hp0 : okL T (ft3 0 0) fs9 := ho9
  clear ho9
  obtain ⟨v9, fs9, rfl, h9, hp1⟩ := okL_i hp0
  obtain ⟨q0_0, rfl, t_q0_0⟩ := h9
  obtain ⟨v9, fs9, rfl, h9, hp2⟩ := okL_i hp1
  obtain ⟨q0_1, rfl, t_q0_1⟩ := h9
  obtain ⟨v9, fs9, rfl, h9, hp3⟩ := okL_i hp2
  obtain ⟨q0_2, rfl, l_q0_2, u_q0_2⟩ := h9
  have hpz := okL_z hp3
  subst hpz
  have hH : HT D cs A T (a0 :: O) ((a0, .inr (3, [.ref q0_0, .ref q0_1, .int q0_2])) :: X) H := hH
  have hO : okO T (a0 :: O) [1] := okO.cons (hO0.sub (by decide)) t_a0 (by decide)
  refine lv_iload_n hx hb dX3_aimSkip_0 rfl (lv_at hl 1 rfl) ?_
  have J33 : ∀  (H : Heap) (locs : List Loc) (ls : Array Slot), HT D cs A T (a0 :: O) ((a0, .inr (3, [.ref q0_0, .ref q0_1, .int q0_2])) :: X) H → va_S A s.heap H locs → lv_has ls 2 [] → W p l e { frames := 0, cells := 0, slots := 0, locals := 0 } s m [.ref a0, .int x1].toArray below meth c H locs 0 0 (MQ below (Tv D cs (fun u => u = (T, O, X)) A) [.ref a0, .int x1].toArray s 0 0 A) (F0 m 33 ls []) := by
    intro  H locs ls  hH hS hl
    have hH : HT D cs A T O X H := HT.lay (ci := 3) hH t_a0 (okL_c (⟨_, rfl, t_q0_0⟩) (okL_c (⟨_, rfl, t_q0_1⟩) (okL_c (⟨_, rfl, by omega, by omega⟩) (okL_n))))
    have hO := hO0
    exact te_v hx hb hr hlocks hH hS rfl dX3_aimSkip_33
  refine lv_if_lt (tgt := 33) hx hb dX3_aimSkip_1 (by decide) (fun c1 => ?_) (fun c1 => ?_)
  · skip
    have tc1 := f_lt (k := 0) (by decide) c1
    exact J33  _ _ _  hH hS (lv_sub hl [] rfl)
  · skip
    have tc1 := f_nlt (k := 0) (by decide) c1
    refine lv_iload_n hx hb dX3_aimSkip_4 rfl (lv_at hl 1 rfl) ?_
    refine lv_sipush (v := 900) hx hb dX3_aimSkip_5 (by decide) ?_
    refine lv_icmp_ge (tgt := 33) hx hb dX3_aimSkip_8 (by decide) (fun c8 => ?_) (fun c8 => ?_)
    · skip
      have tc8 := f_ge (k := 900) (by decide) c8
      exact J33  _ _ _  hH hS (lv_sub hl [] rfl)
    · skip
      have tc8 := f_nge (k := 900) (by decide) c8
      refine lv_aload_n hx hb dX3_aimSkip_11 rfl (lv_at hl 0 rfl) ?_
      refine x_get (ci := 3) (C := RX3) (F := TX3) (N := 3) (v := .ref q0_1) hx hb hts uX3 hown hkb hH rfl 1 (by decide) rfl kw_83 (fun _ h9 => h9) dX3_aimSkip_12 ?_
      refine lv_iload_n hx hb dX3_aimSkip_15 rfl (lv_at hl 1 rfl) ?_
      refine lv_aload_n hx hb dX3_aimSkip_16 rfl (lv_at hl 0 rfl) ?_
      refine x_get (ci := 3) (C := RX3) (F := TX3) (N := 3) (v := .ref q0_1) hx hb hts uX3 hown hkb hH rfl 1 (by decide) rfl kw_83 (fun _ h9 => h9) dX3_aimSkip_17 ?_
      refine lv_iload_n hx hb dX3_aimSkip_20 rfl (lv_at hl 1 rfl) ?_
      refine t_ild hx hb hkb hH t_q0_1 (hO.no t_q0_1 (by decide)) (by omega) (by omega) dX3_aimSkip_21 (fun v21 h9 => ?_)
      refine lv_bipush (v := 15) hx hb dX3_aimSkip_22 (by decide) ?_
      refine lv_iand hx hb dX3_aimSkip_24 ?_
      refine lv_topi (fun v24 ev24 => ?_)
      have tv24 : 0 ≤ v24.toInt ∧ v24.toInt ≤ 15 := by rw [ev24]; exact and_r (by decide)
      refine lv_aload_n hx hb dX3_aimSkip_25 rfl (lv_at hl 0 rfl) ?_
      refine x_get (ci := 3) (C := RX3) (F := TX3) (N := 3) (v := .int q0_2) hx hb hts uX3 hown hkb hH rfl 2 (by decide) rfl kw_84 (fun _ h9 => h9) dX3_aimSkip_26 ?_
      refine lv_iconst (v := 4) hx hb dX3_aimSkip_29 (by decide) ?_
      refine lv_ishl hx hb dX3_aimSkip_30 ?_
      refine lv_topi (fun v30 ev30 => ?_)
      refine lv_ior hx hb dX3_aimSkip_31 ?_
      refine lv_topi (fun v31 ev31 => ?_)
      refine t_ist hx hb hkb hH hS t_q0_1 (hO.no t_q0_1 (by decide)) (by omega) (by omega) (cp_0 _) dX3_aimSkip_32 (fun H locs hH hS => ?_)
      exact J33  _ _ _  hH hS (lv_sub hl [] rfl)
set_option maxHeartbeats 4000000 in
set_option maxRecDepth 100000 in
theorem s_LR_factHere (l : Launch) (D : va_G) (cs : CS) (kf : KF) (T : TF) (O : List Nat) (X : va_W) (a0 : Nat) (t_a0 : T a0 = some (13, 0, 0)) (hO : okO T O [0, 13, 17]) : TK l D cs kf yX3_factHere cX3_factHere 1 (some (.int)) { frames := 5, cells := 0, slots := 0, locals := 107 } [.ref a0] T O X (Ti D cs (fun r u => u = (T, O, X) ∧ -1 ≤ r.toInt ∧ r.toInt ≤ 6)) := by
  refine tk_of (by decide) (Nat.le_of_ble_eq_true rfl) (fun p e s m below meth c ls A H locs hx hb hr hml hown hts hlocks hnm hkb hH hS hA hOX hks hE hl => ?_)
  have hown : s.vm.findClass RX3 = some m.cls := hown
  have hl : lv_has ls 1 [(0, .ref a0)] := hl
  refine lv_aload_n hx hb dX3_factHere_0 rfl (lv_at hl 0 rfl) ?_
  refine t_get (ci := 3) (lst := ft3 0 0) (C := RX3) (F := TX3) (N := 3) hx hb hts uX3 hown hkb hH t_a0 (hO.no t_a0 (by decide)) (fun _ h9 => h9) rfl rfl 0 (by decide) rfl kw_82 (fun _ h9 => h9) dX3_factHere_1 (fun v9 h9 => ?_)
  obtain ⟨v1, rfl, t_v1⟩ := h9
  refine va_ldcS (q := kf.1 11) hx hb hown (hks ("FootholdWall$LawReader", 99, "dx", 11) (by decide +kernel)) dX3_factHere_4 ?_
  refine tk_i hH hS hA (tr_V (n := 1) (As := [.ref (kf.1 11)]) hx hb hml hown hts hkb hH hOX hks hE hS hA (s_Tok_isWord l D cs kf T O X v1 11 t_v1 (by decide) (hO.sub (by decide))) kw_635 kw_551 kw_552 kw_3 kw_553 (by decide +kernel) ⟨Nat.le_of_ble_eq_true rfl, Nat.le_of_ble_eq_true rfl⟩ (HT.recv (ci := 7) hkb hH t_v1 (hO.no t_v1 (by decide)) rfl) rfl rfl hl.1 (Nat.le_of_ble_eq_true rfl) dX3_factHere_6 ⟨Nat.le_of_ble_eq_true rfl, Nat.le_of_ble_eq_true rfl⟩) (fun v6 u H locs hz9 hH hS => ?_)
  obtain ⟨rfl, l_v6, u_v6⟩ := hz9
  have hH : HT D cs A T O X H := hH
  refine W.widen (k := 0) (n := 0) (Nat.le_of_ble_eq_true rfl) (Nat.le_of_ble_eq_true rfl) ?_
  refine lv_if_eq (tgt := 14) hx hb dX3_factHere_9 (by decide) (fun c9 => ?_) (fun c9 => ?_)
  · skip
    have tc9 := f_eq (k := 0) (by decide) c9
    refine lv_aload_n hx hb dX3_factHere_14 rfl (lv_at hl 0 rfl) ?_
    refine t_get (ci := 3) (lst := ft3 0 0) (C := RX3) (F := TX3) (N := 3) hx hb hts uX3 hown hkb hH t_a0 (hO.no t_a0 (by decide)) (fun _ h9 => h9) rfl rfl 0 (by decide) rfl kw_82 (fun _ h9 => h9) dX3_factHere_15 (fun v9 h9 => ?_)
    obtain ⟨v15, rfl, t_v15⟩ := h9
    refine va_ldcS (q := kf.1 12) hx hb hown (hks ("FootholdWall$LawReader", 101, "up", 12) (by decide +kernel)) dX3_factHere_18 ?_
    refine tk_i hH hS hA (tr_V (n := 1) (As := [.ref (kf.1 12)]) hx hb hml hown hts hkb hH hOX hks hE hS hA (s_Tok_isWord l D cs kf T O X v15 12 t_v15 (by decide) (hO.sub (by decide))) kw_635 kw_551 kw_552 kw_3 kw_553 (by decide +kernel) ⟨Nat.le_of_ble_eq_true rfl, Nat.le_of_ble_eq_true rfl⟩ (HT.recv (ci := 7) hkb hH t_v15 (hO.no t_v15 (by decide)) rfl) rfl rfl hl.1 (Nat.le_of_ble_eq_true rfl) dX3_factHere_20 ⟨Nat.le_of_ble_eq_true rfl, Nat.le_of_ble_eq_true rfl⟩) (fun v20 u H locs hz9 hH hS => ?_)
    obtain ⟨rfl, l_v20, u_v20⟩ := hz9
    have hH : HT D cs A T O X H := hH
    refine W.widen (k := 0) (n := 0) (Nat.le_of_ble_eq_true rfl) (Nat.le_of_ble_eq_true rfl) ?_
    refine lv_if_eq (tgt := 28) hx hb dX3_factHere_23 (by decide) (fun c23 => ?_) (fun c23 => ?_)
    · skip
      have tc23 := f_eq (k := 0) (by decide) c23
      refine lv_aload_n hx hb dX3_factHere_28 rfl (lv_at hl 0 rfl) ?_
      refine t_get (ci := 3) (lst := ft3 0 0) (C := RX3) (F := TX3) (N := 3) hx hb hts uX3 hown hkb hH t_a0 (hO.no t_a0 (by decide)) (fun _ h9 => h9) rfl rfl 0 (by decide) rfl kw_82 (fun _ h9 => h9) dX3_factHere_29 (fun v9 h9 => ?_)
      obtain ⟨v29, rfl, t_v29⟩ := h9
      refine va_ldcS (q := kf.1 13) hx hb hown (hks ("FootholdWall$LawReader", 103, "far", 13) (by decide +kernel)) dX3_factHere_32 ?_
      refine tk_i hH hS hA (tr_V (n := 1) (As := [.ref (kf.1 13)]) hx hb hml hown hts hkb hH hOX hks hE hS hA (s_Tok_isWord l D cs kf T O X v29 13 t_v29 (by decide) (hO.sub (by decide))) kw_635 kw_551 kw_552 kw_3 kw_553 (by decide +kernel) ⟨Nat.le_of_ble_eq_true rfl, Nat.le_of_ble_eq_true rfl⟩ (HT.recv (ci := 7) hkb hH t_v29 (hO.no t_v29 (by decide)) rfl) rfl rfl hl.1 (Nat.le_of_ble_eq_true rfl) dX3_factHere_34 ⟨Nat.le_of_ble_eq_true rfl, Nat.le_of_ble_eq_true rfl⟩) (fun v34 u H locs hz9 hH hS => ?_)
      obtain ⟨rfl, l_v34, u_v34⟩ := hz9
      have hH : HT D cs A T O X H := hH
      refine W.widen (k := 0) (n := 0) (Nat.le_of_ble_eq_true rfl) (Nat.le_of_ble_eq_true rfl) ?_
      refine lv_if_eq (tgt := 42) hx hb dX3_factHere_37 (by decide) (fun c37 => ?_) (fun c37 => ?_)
      · skip
        have tc37 := f_eq (k := 0) (by decide) c37
        refine lv_aload_n hx hb dX3_factHere_42 rfl (lv_at hl 0 rfl) ?_
        refine t_get (ci := 3) (lst := ft3 0 0) (C := RX3) (F := TX3) (N := 3) hx hb hts uX3 hown hkb hH t_a0 (hO.no t_a0 (by decide)) (fun _ h9 => h9) rfl rfl 0 (by decide) rfl kw_82 (fun _ h9 => h9) dX3_factHere_43 (fun v9 h9 => ?_)
        obtain ⟨v43, rfl, t_v43⟩ := h9
        refine va_ldcS (q := kf.1 7) hx hb hown (hks ("FootholdWall$LawReader", 105, "leg", 7) (by decide +kernel)) dX3_factHere_46 ?_
        refine tk_i hH hS hA (tr_V (n := 1) (As := [.ref (kf.1 7)]) hx hb hml hown hts hkb hH hOX hks hE hS hA (s_Tok_isWord l D cs kf T O X v43 7 t_v43 (by decide) (hO.sub (by decide))) kw_635 kw_551 kw_552 kw_3 kw_553 (by decide +kernel) ⟨Nat.le_of_ble_eq_true rfl, Nat.le_of_ble_eq_true rfl⟩ (HT.recv (ci := 7) hkb hH t_v43 (hO.no t_v43 (by decide)) rfl) rfl rfl hl.1 (Nat.le_of_ble_eq_true rfl) dX3_factHere_48 ⟨Nat.le_of_ble_eq_true rfl, Nat.le_of_ble_eq_true rfl⟩) (fun v48 u H locs hz9 hH hS => ?_)
        obtain ⟨rfl, l_v48, u_v48⟩ := hz9
        have hH : HT D cs A T O X H := hH
        refine W.widen (k := 0) (n := 0) (Nat.le_of_ble_eq_true rfl) (Nat.le_of_ble_eq_true rfl) ?_
        refine lv_if_eq (tgt := 56) hx hb dX3_factHere_51 (by decide) (fun c51 => ?_) (fun c51 => ?_)
        · skip
          have tc51 := f_eq (k := 0) (by decide) c51
          refine lv_aload_n hx hb dX3_factHere_56 rfl (lv_at hl 0 rfl) ?_
          refine t_get (ci := 3) (lst := ft3 0 0) (C := RX3) (F := TX3) (N := 3) hx hb hts uX3 hown hkb hH t_a0 (hO.no t_a0 (by decide)) (fun _ h9 => h9) rfl rfl 0 (by decide) rfl kw_82 (fun _ h9 => h9) dX3_factHere_57 (fun v9 h9 => ?_)
          obtain ⟨v57, rfl, t_v57⟩ := h9
          refine va_ldcS (q := kf.1 8) hx hb hown (hks ("FootholdWall$LawReader", 107, "weight", 8) (by decide +kernel)) dX3_factHere_60 ?_
          refine tk_i hH hS hA (tr_V (n := 1) (As := [.ref (kf.1 8)]) hx hb hml hown hts hkb hH hOX hks hE hS hA (s_Tok_isWord l D cs kf T O X v57 8 t_v57 (by decide) (hO.sub (by decide))) kw_635 kw_551 kw_552 kw_3 kw_553 (by decide +kernel) ⟨Nat.le_of_ble_eq_true rfl, Nat.le_of_ble_eq_true rfl⟩ (HT.recv (ci := 7) hkb hH t_v57 (hO.no t_v57 (by decide)) rfl) rfl rfl hl.1 (Nat.le_of_ble_eq_true rfl) dX3_factHere_62 ⟨Nat.le_of_ble_eq_true rfl, Nat.le_of_ble_eq_true rfl⟩) (fun v62 u H locs hz9 hH hS => ?_)
          obtain ⟨rfl, l_v62, u_v62⟩ := hz9
          have hH : HT D cs A T O X H := hH
          refine W.widen (k := 0) (n := 0) (Nat.le_of_ble_eq_true rfl) (Nat.le_of_ble_eq_true rfl) ?_
          refine lv_if_eq (tgt := 70) hx hb dX3_factHere_65 (by decide) (fun c65 => ?_) (fun c65 => ?_)
          · skip
            have tc65 := f_eq (k := 0) (by decide) c65
            refine lv_aload_n hx hb dX3_factHere_70 rfl (lv_at hl 0 rfl) ?_
            refine t_get (ci := 3) (lst := ft3 0 0) (C := RX3) (F := TX3) (N := 3) hx hb hts uX3 hown hkb hH t_a0 (hO.no t_a0 (by decide)) (fun _ h9 => h9) rfl rfl 0 (by decide) rfl kw_82 (fun _ h9 => h9) dX3_factHere_71 (fun v9 h9 => ?_)
            obtain ⟨v71, rfl, t_v71⟩ := h9
            refine va_ldcS (q := kf.1 5) hx hb hown (hks ("FootholdWall$LawReader", 109, "wide", 5) (by decide +kernel)) dX3_factHere_74 ?_
            refine tk_i hH hS hA (tr_V (n := 1) (As := [.ref (kf.1 5)]) hx hb hml hown hts hkb hH hOX hks hE hS hA (s_Tok_isWord l D cs kf T O X v71 5 t_v71 (by decide) (hO.sub (by decide))) kw_635 kw_551 kw_552 kw_3 kw_553 (by decide +kernel) ⟨Nat.le_of_ble_eq_true rfl, Nat.le_of_ble_eq_true rfl⟩ (HT.recv (ci := 7) hkb hH t_v71 (hO.no t_v71 (by decide)) rfl) rfl rfl hl.1 (Nat.le_of_ble_eq_true rfl) dX3_factHere_76 ⟨Nat.le_of_ble_eq_true rfl, Nat.le_of_ble_eq_true rfl⟩) (fun v76 u H locs hz9 hH hS => ?_)
            obtain ⟨rfl, l_v76, u_v76⟩ := hz9
            have hH : HT D cs A T O X H := hH
            refine W.widen (k := 0) (n := 0) (Nat.le_of_ble_eq_true rfl) (Nat.le_of_ble_eq_true rfl) ?_
            refine lv_if_eq (tgt := 84) hx hb dX3_factHere_79 (by decide) (fun c79 => ?_) (fun c79 => ?_)
            · skip
              have tc79 := f_eq (k := 0) (by decide) c79
              refine lv_aload_n hx hb dX3_factHere_84 rfl (lv_at hl 0 rfl) ?_
              refine t_get (ci := 3) (lst := ft3 0 0) (C := RX3) (F := TX3) (N := 3) hx hb hts uX3 hown hkb hH t_a0 (hO.no t_a0 (by decide)) (fun _ h9 => h9) rfl rfl 0 (by decide) rfl kw_82 (fun _ h9 => h9) dX3_factHere_85 (fun v9 h9 => ?_)
              obtain ⟨v85, rfl, t_v85⟩ := h9
              refine va_ldcS (q := kf.1 14) hx hb hown (hks ("FootholdWall$LawReader", 111, "day", 14) (by decide +kernel)) dX3_factHere_88 ?_
              refine tk_i hH hS hA (tr_V (n := 1) (As := [.ref (kf.1 14)]) hx hb hml hown hts hkb hH hOX hks hE hS hA (s_Tok_isWord l D cs kf T O X v85 14 t_v85 (by decide) (hO.sub (by decide))) kw_635 kw_551 kw_552 kw_3 kw_553 (by decide +kernel) ⟨Nat.le_of_ble_eq_true rfl, Nat.le_of_ble_eq_true rfl⟩ (HT.recv (ci := 7) hkb hH t_v85 (hO.no t_v85 (by decide)) rfl) rfl rfl hl.1 (Nat.le_of_ble_eq_true rfl) dX3_factHere_90 ⟨Nat.le_of_ble_eq_true rfl, Nat.le_of_ble_eq_true rfl⟩) (fun v90 u H locs hz9 hH hS => ?_)
              obtain ⟨rfl, l_v90, u_v90⟩ := hz9
              have hH : HT D cs A T O X H := hH
              refine W.widen (k := 0) (n := 0) (Nat.le_of_ble_eq_true rfl) (Nat.le_of_ble_eq_true rfl) ?_
              have J102 : ∀ (k102_0 : Int32) (H : Heap) (locs : List Loc) (ls : Array Slot), (-1 ≤ k102_0.toInt) → (k102_0.toInt ≤ 6) → HT D cs A T O X H → va_S A s.heap H locs → lv_has ls 1 [] → W p l e { frames := 5, cells := 0, slots := 0, locals := 107 } s m [.ref a0].toArray below meth c H locs 0 0 (MQ below (Ti D cs (fun r u => u = (T, O, X) ∧ -1 ≤ r.toInt ∧ r.toInt ≤ 6) A) [.ref a0].toArray s 0 0 A) (F0 m 102 ls [.int k102_0]) := by
                intro k102_0 H locs ls l_k102_0 u_k102_0 hH hS hl
                exact te_i hx hb hr hlocks hH hS (⟨rfl, by omega, by omega⟩) dX3_factHere_102
              refine lv_if_eq (tgt := 101) hx hb dX3_factHere_93 (by decide) (fun c93 => ?_) (fun c93 => ?_)
              · skip
                have tc93 := f_eq (k := 0) (by decide) c93
                refine lv_iconst (v := (-1)) hx hb dX3_factHere_101 (by decide) ?_
                exact J102 (-1) _ _ _ (by decide) (by decide) hH hS (lv_sub hl [] rfl)
              · skip
                have tc93 := f_ne (k := 0) (by decide) c93
                refine lv_bipush (v := 6) hx hb dX3_factHere_96 (by decide) ?_
                refine lv_goto (tgt := 102) hx hb dX3_factHere_98 (by decide) ?_
                exact J102 6 _ _ _ (by decide) (by decide) hH hS (lv_sub hl [] rfl)
            · skip
              have tc79 := f_ne (k := 0) (by decide) c79
              refine lv_iconst (v := 5) hx hb dX3_factHere_82 (by decide) ?_
              exact te_i hx hb hr hlocks hH hS (⟨rfl, by decide, by decide⟩) dX3_factHere_83
          · skip
            have tc65 := f_ne (k := 0) (by decide) c65
            refine lv_iconst (v := 4) hx hb dX3_factHere_68 (by decide) ?_
            exact te_i hx hb hr hlocks hH hS (⟨rfl, by decide, by decide⟩) dX3_factHere_69
        · skip
          have tc51 := f_ne (k := 0) (by decide) c51
          refine lv_iconst (v := 3) hx hb dX3_factHere_54 (by decide) ?_
          exact te_i hx hb hr hlocks hH hS (⟨rfl, by decide, by decide⟩) dX3_factHere_55
      · skip
        have tc37 := f_ne (k := 0) (by decide) c37
        refine lv_iconst (v := 2) hx hb dX3_factHere_40 (by decide) ?_
        exact te_i hx hb hr hlocks hH hS (⟨rfl, by decide, by decide⟩) dX3_factHere_41
    · skip
      have tc23 := f_ne (k := 0) (by decide) c23
      refine lv_iconst (v := 1) hx hb dX3_factHere_26 (by decide) ?_
      exact te_i hx hb hr hlocks hH hS (⟨rfl, by decide, by decide⟩) dX3_factHere_27
  · skip
    have tc9 := f_ne (k := 0) (by decide) c9
    refine lv_iconst (v := 0) hx hb dX3_factHere_12 (by decide) ?_
    exact te_i hx hb hr hlocks hH hS (⟨rfl, by decide, by decide⟩) dX3_factHere_13
set_option maxHeartbeats 4000000 in
set_option maxRecDepth 100000 in
theorem s_LR_enter6 (l : Launch) (D : va_G) (cs : CS) (kf : KF) (T : TF) (O : List Nat) (X : va_W) (a0 : Nat) (x1 : Int32) (t_a0 : T a0 = some (13, 0, 0)) (l_x1 : 6 ≤ x1.toInt) (u_x1 : x1.toInt ≤ 6) (hO : okO T O [13, 17]) : TK l D cs kf yX3_enter cX3_enter 2 (some (.boolean)) { frames := 1, cells := 0, slots := 0, locals := 21 } [.ref a0, .int x1] T O X (Ti D cs (fun r u => u = (T, O, X) ∧ 0 ≤ r.toInt ∧ r.toInt ≤ 0)) := by
  refine tk_of (by decide) (Nat.le_of_ble_eq_true rfl) (fun p e s m below meth c ls A H locs hx hb hr hml hown hts hlocks hnm hkb hH hS hA hOX hks hE hl => ?_)
  have hown : s.vm.findClass RX3 = some m.cls := hown
  have hl : lv_has ls 2 [(0, .ref a0), (1, .int x1)] := hl
  refine lv_iload_n hx hb dX3_enter_0 rfl (lv_at hl 1 rfl) ?_
  refine lv_bipush (v := 6) hx hb dX3_enter_1 (by decide) ?_
  refine lv_icmp_lt (tgt := 15) hx hb dX3_enter_3 (by decide) (fun c3 => ?_) (fun c3 => ?_)
  · skip
    have tc3 := f_lt (k := 6) (by decide) c3
    exfalso; omega
  · skip
    have tc3 := f_nlt (k := 6) (by decide) c3
    refine lv_aload_n hx hb dX3_enter_6 rfl (lv_at hl 0 rfl) ?_
    refine t_get (ci := 3) (lst := ft3 0 0) (C := RX3) (F := TX3) (N := 3) hx hb hts uX3 hown hkb hH t_a0 (hO.no t_a0 (by decide)) (fun _ h9 => h9) rfl rfl 0 (by decide) rfl kw_82 (fun _ h9 => h9) dX3_enter_7 (fun v9 h9 => ?_)
    obtain ⟨v7, rfl, t_v7⟩ := h9
    refine lv_iconst (v := 4) hx hb dX3_enter_10 (by decide) ?_
    refine tk_i hH hS hA (tr_V (n := 1) (As := [.int 4]) hx hb hml hown hts hkb hH hOX hks hE hS hA (s_Tok_refuse l D cs kf T O X v7 (4) t_v7 (hO.sub (by decide))) kw_640 kw_580 kw_581 kw_3 kw_582 (by decide +kernel) ⟨Nat.le_of_ble_eq_true rfl, Nat.le_of_ble_eq_true rfl⟩ (HT.recv (ci := 7) hkb hH t_v7 (hO.no t_v7 (by decide)) rfl) rfl rfl hl.1 (Nat.le_of_ble_eq_true rfl) dX3_enter_11 ⟨Nat.le_of_ble_eq_true rfl, Nat.le_of_ble_eq_true rfl⟩) (fun v11 u H locs hz9 hH hS => ?_)
    obtain ⟨rfl, l_v11, u_v11⟩ := hz9
    have hH : HT D cs A T O X H := hH
    refine W.widen (k := 0) (n := 0) (Nat.le_of_ble_eq_true rfl) (Nat.le_of_ble_eq_true rfl) ?_
    exact te_z hx hb hr hlocks (nar01 (by omega) (by omega)) hH hS (⟨rfl, by omega, by omega⟩) dX3_enter_14
set_option maxHeartbeats 4000000 in
set_option maxRecDepth 100000 in
theorem s_LR_readAtom6 (l : Launch) (D : va_G) (cs : CS) (kf : KF) (T : TF) (O : List Nat) (X : va_W) (a0 : Nat) (x1 : Int32) (t_a0 : T a0 = some (13, 0, 0)) (l_x1 : 6 ≤ x1.toInt) (u_x1 : x1.toInt ≤ 6) (hO : okO T O [0, 1, 13, 17]) : TK l D cs kf yX3_readAtom cX3_readAtom 3 (some (.boolean)) { frames := 6, cells := 0, slots := 0, locals := 127 } [.ref a0, .int x1] T O X (Ti D cs (fun r u => u = (T, O, X) ∧ 0 ≤ r.toInt ∧ r.toInt ≤ 1)) := by
  refine tk_of (by decide) (Nat.le_of_ble_eq_true rfl) (fun p e s m below meth c ls A H locs hx hb hr hml hown hts hlocks hnm hkb hH hS hA hOX hks hE hl => ?_)
  have hown : s.vm.findClass RX3 = some m.cls := hown
  have hl : lv_has ls 3 [(0, .ref a0), (1, .int x1)] := hl
  refine lv_aload_n hx hb dX3_readAtom_0 rfl (lv_at hl 0 rfl) ?_
  refine t_get (ci := 3) (lst := ft3 0 0) (C := RX3) (F := TX3) (N := 3) hx hb hts uX3 hown hkb hH t_a0 (hO.no t_a0 (by decide)) (fun _ h9 => h9) rfl rfl 0 (by decide) rfl kw_82 (fun _ h9 => h9) dX3_readAtom_1 (fun v9 h9 => ?_)
  obtain ⟨v1, rfl, t_v1⟩ := h9
  refine lv_bipush (v := 40) hx hb dX3_readAtom_4 (by decide) ?_
  refine tk_i hH hS hA (tr_V (n := 1) (As := [.int 40]) hx hb hml hown hts hkb hH hOX hks hE hS hA (s_Tok_isSign l D cs kf T O X v1 (40) t_v1 (hO.sub (by decide))) kw_646 kw_615 kw_616 kw_3 kw_617 (by decide +kernel) ⟨Nat.le_of_ble_eq_true rfl, Nat.le_of_ble_eq_true rfl⟩ (HT.recv (ci := 7) hkb hH t_v1 (hO.no t_v1 (by decide)) rfl) rfl rfl hl.1 (Nat.le_of_ble_eq_true rfl) dX3_readAtom_6 ⟨Nat.le_of_ble_eq_true rfl, Nat.le_of_ble_eq_true rfl⟩) (fun v6 u H locs hz9 hH hS => ?_)
  obtain ⟨rfl, l_v6, u_v6⟩ := hz9
  have hH : HT D cs A T O X H := hH
  refine W.widen (k := 0) (n := 0) (Nat.le_of_ble_eq_true rfl) (Nat.le_of_ble_eq_true rfl) ?_
  refine lv_if_eq (tgt := 48) hx hb dX3_readAtom_9 (by decide) (fun c9 => ?_) (fun c9 => ?_)
  · skip
    have tc9 := f_eq (k := 0) (by decide) c9
    refine lv_aload_n hx hb dX3_readAtom_48 rfl (lv_at hl 0 rfl) ?_
    refine t_get (ci := 3) (lst := ft3 0 0) (C := RX3) (F := TX3) (N := 3) hx hb hts uX3 hown hkb hH t_a0 (hO.no t_a0 (by decide)) (fun _ h9 => h9) rfl rfl 0 (by decide) rfl kw_82 (fun _ h9 => h9) dX3_readAtom_49 (fun v9 h9 => ?_)
    obtain ⟨v49, rfl, t_v49⟩ := h9
    refine t_get (ci := 7) (lst := ft7 0 0) (C := RX7) (F := TX7) (N := 8) hx hb hts uX7 hown hkb hH t_v49 (hO.no t_v49 (by decide)) (fun _ h9 => ob7_ok h9) rfl rfl 4 (by decide) rfl kw_50 (fun _ h9 => h9) dX3_readAtom_52 (fun v9 h9 => ?_)
    obtain ⟨v52, rfl⟩ := h9
    refine lv_iconst (v := 2) hx hb dX3_readAtom_55 (by decide) ?_
    refine lv_icmp_ne (tgt := 80) hx hb dX3_readAtom_56 (by decide) (fun c56 => ?_) (fun c56 => ?_)
    · skip
      have tc56 := f_ne (k := 2) (by decide) c56
      refine lv_aload_n hx hb dX3_readAtom_80 rfl (lv_at hl 0 rfl) ?_
      refine tk_i hH hS hA (tr_V (n := 0) (As := []) hx hb hml hown hts hkb hH hOX hks hE hS hA (s_LR_factHere l D cs kf T O X a0 t_a0 (hO.sub (by decide))) kw_660 kw_662 ks_13 kw_4 kw_663 (by decide +kernel) ⟨Nat.le_of_ble_eq_true rfl, Nat.le_of_ble_eq_true rfl⟩ (HT.recv (ci := 3) hkb hH t_a0 (hO.no t_a0 (by decide)) rfl) rfl rfl hl.1 (Nat.le_of_ble_eq_true rfl) dX3_readAtom_81 ⟨Nat.le_of_ble_eq_true rfl, Nat.le_of_ble_eq_true rfl⟩) (fun v81 u H locs hz9 hH hS => ?_)
      obtain ⟨rfl, l_v81, u_v81⟩ := hz9
      have hH : HT D cs A T O X H := hH
      refine W.widen (k := 0) (n := 0) (Nat.le_of_ble_eq_true rfl) (Nat.le_of_ble_eq_true rfl) ?_
      refine lv_istore_n (lv' := [(2, .int v81), (0, .ref a0), (1, .int x1)]) hx hb dX3_readAtom_84 rfl hl (by decide) rfl (fun ls hl => ?_)
      refine lv_iload_n hx hb dX3_readAtom_85 rfl (lv_at hl 0 rfl) ?_
      refine lv_iconst (v := (-1)) hx hb dX3_readAtom_86 (by decide) ?_
      refine lv_icmp_ne (tgt := 99) hx hb dX3_readAtom_87 (by decide) (fun c87 => ?_) (fun c87 => ?_)
      · skip
        have tc87 := f_ne (k := -1) (by decide) c87
        refine lv_aload_n hx hb dX3_readAtom_99 rfl (lv_at hl 1 rfl) ?_
        refine lv_iconst (v := 1) hx hb dX3_readAtom_100 (by decide) ?_
        refine lv_iload_n hx hb dX3_readAtom_101 rfl (lv_at hl 0 rfl) ?_
        refine tk_v hH hS hA (tr_V (n := 2) (As := [.int 1, .int v81]) hx hb hml hown hts hkb hH hOX hks hE hS hA (s_LR_put l D cs kf T O X a0 (1) v81 t_a0 (hO.sub (by decide))) kw_642 kw_644 ks_9 kw_4 kw_645 (by decide +kernel) ⟨Nat.le_of_ble_eq_true rfl, Nat.le_of_ble_eq_true rfl⟩ (HT.recv (ci := 3) hkb hH t_a0 (hO.no t_a0 (by decide)) rfl) rfl rfl hl.1 (Nat.le_of_ble_eq_true rfl) dX3_readAtom_102 ⟨Nat.le_of_ble_eq_true rfl, Nat.le_of_ble_eq_true rfl⟩) (fun u H locs hz9 hH hS => ?_)
        have hz9 : u = (T, O, X) := hz9
        subst hz9
        have hH : HT D cs A T O X H := hH
        refine W.widen (k := 0) (n := 0) (Nat.le_of_ble_eq_true rfl) (Nat.le_of_ble_eq_true rfl) ?_
        refine lv_aload_n hx hb dX3_readAtom_105 rfl (lv_at hl 1 rfl) ?_
        refine t_get (ci := 3) (lst := ft3 0 0) (C := RX3) (F := TX3) (N := 3) hx hb hts uX3 hown hkb hH t_a0 (hO.no t_a0 (by decide)) (fun _ h9 => h9) rfl rfl 0 (by decide) rfl kw_82 (fun _ h9 => h9) dX3_readAtom_106 (fun v9 h9 => ?_)
        obtain ⟨v106, rfl, t_v106⟩ := h9
        refine tk_v hH hS hA (tr_V (n := 0) (As := []) hx hb hml hown hts hkb hH hOX hks hE hS hA (s_Tok_go l D cs kf T O X v106 t_v106 (hO.sub (by decide))) kw_641 kw_453 kw_454 kw_3 kw_455 (by decide +kernel) ⟨Nat.le_of_ble_eq_true rfl, Nat.le_of_ble_eq_true rfl⟩ (HT.recv (ci := 7) hkb hH t_v106 (hO.no t_v106 (by decide)) rfl) rfl rfl hl.1 (Nat.le_of_ble_eq_true rfl) dX3_readAtom_109 ⟨Nat.le_of_ble_eq_true rfl, Nat.le_of_ble_eq_true rfl⟩) (fun u H locs hz9 hH hS => ?_)
        have hz9 : u = (T, O, X) := hz9
        subst hz9
        have hH : HT D cs A T O X H := hH
        refine W.widen (k := 0) (n := 0) (Nat.le_of_ble_eq_true rfl) (Nat.le_of_ble_eq_true rfl) ?_
        refine lv_iconst (v := 1) hx hb dX3_readAtom_112 (by decide) ?_
        exact te_z hx hb hr hlocks (by rfl) hH hS (⟨rfl, by decide, by decide⟩) dX3_readAtom_113
      · skip
        have tc87 := f_eq (k := -1) (by decide) c87
        refine lv_aload_n hx hb dX3_readAtom_90 rfl (lv_at hl 1 rfl) ?_
        refine t_get (ci := 3) (lst := ft3 0 0) (C := RX3) (F := TX3) (N := 3) hx hb hts uX3 hown hkb hH t_a0 (hO.no t_a0 (by decide)) (fun _ h9 => h9) rfl rfl 0 (by decide) rfl kw_82 (fun _ h9 => h9) dX3_readAtom_91 (fun v9 h9 => ?_)
        obtain ⟨v91, rfl, t_v91⟩ := h9
        refine lv_iconst (v := 2) hx hb dX3_readAtom_94 (by decide) ?_
        refine tk_i hH hS hA (tr_V (n := 1) (As := [.int 2]) hx hb hml hown hts hkb hH hOX hks hE hS hA (s_Tok_refuse l D cs kf T O X v91 (2) t_v91 (hO.sub (by decide))) kw_640 kw_580 kw_581 kw_3 kw_582 (by decide +kernel) ⟨Nat.le_of_ble_eq_true rfl, Nat.le_of_ble_eq_true rfl⟩ (HT.recv (ci := 7) hkb hH t_v91 (hO.no t_v91 (by decide)) rfl) rfl rfl hl.1 (Nat.le_of_ble_eq_true rfl) dX3_readAtom_95 ⟨Nat.le_of_ble_eq_true rfl, Nat.le_of_ble_eq_true rfl⟩) (fun v95 u H locs hz9 hH hS => ?_)
        obtain ⟨rfl, l_v95, u_v95⟩ := hz9
        have hH : HT D cs A T O X H := hH
        refine W.widen (k := 0) (n := 0) (Nat.le_of_ble_eq_true rfl) (Nat.le_of_ble_eq_true rfl) ?_
        exact te_z hx hb hr hlocks (nar01 (by omega) (by omega)) hH hS (⟨rfl, by omega, by omega⟩) dX3_readAtom_98
    · skip
      have tc56 := f_eq (k := 2) (by decide) c56
      refine lv_aload_n hx hb dX3_readAtom_59 rfl (lv_at hl 0 rfl) ?_
      refine lv_iconst (v := 0) hx hb dX3_readAtom_60 (by decide) ?_
      refine lv_aload_n hx hb dX3_readAtom_61 rfl (lv_at hl 0 rfl) ?_
      refine t_get (ci := 3) (lst := ft3 0 0) (C := RX3) (F := TX3) (N := 3) hx hb hts uX3 hown hkb hH t_a0 (hO.no t_a0 (by decide)) (fun _ h9 => h9) rfl rfl 0 (by decide) rfl kw_82 (fun _ h9 => h9) dX3_readAtom_62 (fun v9 h9 => ?_)
      obtain ⟨v62, rfl, t_v62⟩ := h9
      refine t_get (ci := 7) (lst := ft7 0 0) (C := RX7) (F := TX7) (N := 8) hx hb hts uX7 hown hkb hH t_v62 (hO.no t_v62 (by decide)) (fun _ h9 => ob7_ok h9) rfl rfl 5 (by decide) rfl kw_53 (fun _ h9 => h9) dX3_readAtom_65 (fun v9 h9 => ?_)
      obtain ⟨v65, rfl⟩ := h9
      refine tk_v hH hS hA (tr_V (n := 2) (As := [.int 0, .int v65]) hx hb hml hown hts hkb hH hOX hks hE hS hA (s_LR_put l D cs kf T O X a0 (0) v65 t_a0 (hO.sub (by decide))) kw_642 kw_644 ks_9 kw_4 kw_645 (by decide +kernel) ⟨Nat.le_of_ble_eq_true rfl, Nat.le_of_ble_eq_true rfl⟩ (HT.recv (ci := 3) hkb hH t_a0 (hO.no t_a0 (by decide)) rfl) rfl rfl hl.1 (Nat.le_of_ble_eq_true rfl) dX3_readAtom_68 ⟨Nat.le_of_ble_eq_true rfl, Nat.le_of_ble_eq_true rfl⟩) (fun u H locs hz9 hH hS => ?_)
      have hz9 : u = (T, O, X) := hz9
      subst hz9
      have hH : HT D cs A T O X H := hH
      refine W.widen (k := 0) (n := 0) (Nat.le_of_ble_eq_true rfl) (Nat.le_of_ble_eq_true rfl) ?_
      refine lv_aload_n hx hb dX3_readAtom_71 rfl (lv_at hl 0 rfl) ?_
      refine t_get (ci := 3) (lst := ft3 0 0) (C := RX3) (F := TX3) (N := 3) hx hb hts uX3 hown hkb hH t_a0 (hO.no t_a0 (by decide)) (fun _ h9 => h9) rfl rfl 0 (by decide) rfl kw_82 (fun _ h9 => h9) dX3_readAtom_72 (fun v9 h9 => ?_)
      obtain ⟨v72, rfl, t_v72⟩ := h9
      refine tk_v hH hS hA (tr_V (n := 0) (As := []) hx hb hml hown hts hkb hH hOX hks hE hS hA (s_Tok_go l D cs kf T O X v72 t_v72 (hO.sub (by decide))) kw_641 kw_453 kw_454 kw_3 kw_455 (by decide +kernel) ⟨Nat.le_of_ble_eq_true rfl, Nat.le_of_ble_eq_true rfl⟩ (HT.recv (ci := 7) hkb hH t_v72 (hO.no t_v72 (by decide)) rfl) rfl rfl hl.1 (Nat.le_of_ble_eq_true rfl) dX3_readAtom_75 ⟨Nat.le_of_ble_eq_true rfl, Nat.le_of_ble_eq_true rfl⟩) (fun u H locs hz9 hH hS => ?_)
      have hz9 : u = (T, O, X) := hz9
      subst hz9
      have hH : HT D cs A T O X H := hH
      refine W.widen (k := 0) (n := 0) (Nat.le_of_ble_eq_true rfl) (Nat.le_of_ble_eq_true rfl) ?_
      refine lv_iconst (v := 1) hx hb dX3_readAtom_78 (by decide) ?_
      exact te_z hx hb hr hlocks (by rfl) hH hS (⟨rfl, by decide, by decide⟩) dX3_readAtom_79
  · skip
    have tc9 := f_ne (k := 0) (by decide) c9
    refine lv_aload_n hx hb dX3_readAtom_12 rfl (lv_at hl 0 rfl) ?_
    refine lv_iload_n hx hb dX3_readAtom_13 rfl (lv_at hl 1 rfl) ?_
    refine tk_i hH hS hA (tr_V (n := 1) (As := [.int x1]) hx hb hml hown hts hkb hH hOX hks hE hS hA (s_LR_enter6 l D cs kf T O X a0 x1 t_a0 (by omega) (by omega) (hO.sub (by decide))) kw_636 kw_638 ks_8 kw_4 kw_639 (by decide +kernel) ⟨Nat.le_of_ble_eq_true rfl, Nat.le_of_ble_eq_true rfl⟩ (HT.recv (ci := 3) hkb hH t_a0 (hO.no t_a0 (by decide)) rfl) rfl rfl hl.1 (Nat.le_of_ble_eq_true rfl) dX3_readAtom_14 ⟨Nat.le_of_ble_eq_true rfl, Nat.le_of_ble_eq_true rfl⟩) (fun v14 u H locs hz9 hH hS => ?_)
    obtain ⟨rfl, l_v14, u_v14⟩ := hz9
    have hH : HT D cs A T O X H := hH
    refine W.widen (k := 0) (n := 0) (Nat.le_of_ble_eq_true rfl) (Nat.le_of_ble_eq_true rfl) ?_
    refine lv_if_eq (tgt := 46) hx hb dX3_readAtom_17 (by decide) (fun c17 => ?_) (fun c17 => ?_)
    · skip
      have tc17 := f_eq (k := 0) (by decide) c17
      refine lv_iconst (v := 0) hx hb dX3_readAtom_46 (by decide) ?_
      exact te_z hx hb hr hlocks (by rfl) hH hS (⟨rfl, by decide, by decide⟩) dX3_readAtom_47
    · skip
      have tc17 := f_ne (k := 0) (by decide) c17
      exfalso; omega
set_option maxHeartbeats 4000000 in
set_option maxRecDepth 100000 in
theorem s_LR_readTerm6 (l : Launch) (D : va_G) (cs : CS) (kf : KF) (T : TF) (O : List Nat) (X : va_W) (a0 : Nat) (x1 : Int32) (t_a0 : T a0 = some (13, 0, 0)) (l_x1 : 6 ≤ x1.toInt) (u_x1 : x1.toInt ≤ 6) (hO : okO T O [0, 1, 13, 17]) : TK l D cs kf yX3_readTerm cX3_readTerm 4 (some (.boolean)) { frames := 7, cells := 0, slots := 0, locals := 149 } [.ref a0, .int x1] T O X (Ti D cs (fun r u => u = (T, O, X) ∧ 0 ≤ r.toInt ∧ r.toInt ≤ 1)) := by
  refine tk_of (by decide) (Nat.le_of_ble_eq_true rfl) (fun p e s m below meth c ls A H locs hx hb hr hml hown hts hlocks hnm hkb hH hS hA hOX hks hE hl => ?_)
  have hown : s.vm.findClass RX3 = some m.cls := hown
  have hl : lv_has ls 4 [(0, .ref a0), (1, .int x1)] := hl
  refine lv_aload_n hx hb dX3_readTerm_0 rfl (lv_at hl 0 rfl) ?_
  refine lv_iload_n hx hb dX3_readTerm_1 rfl (lv_at hl 1 rfl) ?_
  refine tk_i hH hS hA (tr_V (n := 1) (As := [.int x1]) hx hb hml hown hts hkb hH hOX hks hE hS hA (s_LR_readAtom6 l D cs kf T O X a0 x1 t_a0 (by omega) (by omega) (hO.sub (by decide))) kw_656 kw_658 ks_12 kw_4 kw_659 (by decide +kernel) ⟨Nat.le_of_ble_eq_true rfl, Nat.le_of_ble_eq_true rfl⟩ (HT.recv (ci := 3) hkb hH t_a0 (hO.no t_a0 (by decide)) rfl) rfl rfl hl.1 (Nat.le_of_ble_eq_true rfl) dX3_readTerm_2 ⟨Nat.le_of_ble_eq_true rfl, Nat.le_of_ble_eq_true rfl⟩) (fun v2 u H locs hz9 hH hS => ?_)
  obtain ⟨rfl, l_v2, u_v2⟩ := hz9
  have hH : HT D cs A T O X H := hH
  refine W.widen (k := 0) (n := 0) (Nat.le_of_ble_eq_true rfl) (Nat.le_of_ble_eq_true rfl) ?_
  refine lv_istore_n (lv' := [(2, .int v2), (0, .ref a0), (1, .int x1)]) hx hb dX3_readTerm_5 rfl hl (by decide) rfl (fun ls hl => ?_)
  refine lv_iconst (v := 0) hx hb dX3_readTerm_6 (by decide) ?_
  have J8 : ∀ (n : Nat) (p8_3 : Int32) (p8_2 : Int32) (H : Heap) (locs : List Loc) (ls : Array Slot), (900 - p8_3.toInt).toNat = n → (0 ≤ p8_3.toInt) → (p8_3.toInt ≤ 900) → (0 ≤ p8_2.toInt) → (p8_2.toInt ≤ 1) → HT D cs A T O X H → va_S A s.heap H locs → lv_has ls 4 [(3, .int p8_3), (2, .int p8_2), (0, .ref a0), (1, .int x1)] → W p l e { frames := 7, cells := 0, slots := 0, locals := 149 } s m [.ref a0, .int x1].toArray below meth c H locs 0 0 (MQ below (Ti D cs (fun r u => u = (T, O, X) ∧ 0 ≤ r.toInt ∧ r.toInt ≤ 1) A) [.ref a0, .int x1].toArray s 0 0 A) (F0 m 8 ls []) := by
    intro n
    induction n using Nat.strongRecOn with
    | _ n ih8 =>
      intro p8_3 p8_2 H locs ls hm8 l_p8_3 u_p8_3 l_p8_2 u_p8_2 hH hS hl
      refine lv_iload_n hx hb dX3_readTerm_8 rfl (lv_at hl 0 rfl) ?_
      refine lv_sipush (v := 900) hx hb dX3_readTerm_9 (by decide) ?_
      have J57 : ∀  (H : Heap) (locs : List Loc) (ls : Array Slot), HT D cs A T O X H → va_S A s.heap H locs → lv_has ls 4 [(2, .int p8_2)] → W p l e { frames := 7, cells := 0, slots := 0, locals := 149 } s m [.ref a0, .int x1].toArray below meth c H locs 0 0 (MQ below (Ti D cs (fun r u => u = (T, O, X) ∧ 0 ≤ r.toInt ∧ r.toInt ≤ 1) A) [.ref a0, .int x1].toArray s 0 0 A) (F0 m 57 ls []) := by
        intro  H locs ls  hH hS hl
        refine lv_iload_n hx hb dX3_readTerm_57 rfl (lv_at hl 0 rfl) ?_
        exact te_z hx hb hr hlocks (nar01 (by omega) (by omega)) hH hS (⟨rfl, by omega, by omega⟩) dX3_readTerm_58
      refine lv_icmp_ge (tgt := 57) hx hb dX3_readTerm_12 (by decide) (fun c12 => ?_) (fun c12 => ?_)
      · skip
        have tc12 := f_ge (k := 900) (by decide) c12
        exact J57  _ _ _  hH hS (lv_sub hl [1] rfl)
      · skip
        have tc12 := f_nge (k := 900) (by decide) c12
        refine lv_iload_n hx hb dX3_readTerm_15 rfl (lv_at hl 1 rfl) ?_
        refine lv_if_eq (tgt := 57) hx hb dX3_readTerm_16 (by decide) (fun c16 => ?_) (fun c16 => ?_)
        · skip
          have tc16 := f_eq (k := 0) (by decide) c16
          exact J57  _ _ _  hH hS (lv_sub hl [1] rfl)
        · skip
          have tc16 := f_ne (k := 0) (by decide) c16
          refine lv_aload_n hx hb dX3_readTerm_19 rfl (lv_at hl 2 rfl) ?_
          refine t_get (ci := 3) (lst := ft3 0 0) (C := RX3) (F := TX3) (N := 3) hx hb hts uX3 hown hkb hH t_a0 (hO.no t_a0 (by decide)) (fun _ h9 => h9) rfl rfl 0 (by decide) rfl kw_82 (fun _ h9 => h9) dX3_readTerm_20 (fun v9 h9 => ?_)
          obtain ⟨v20, rfl, t_v20⟩ := h9
          refine lv_bipush (v := 42) hx hb dX3_readTerm_23 (by decide) ?_
          refine tk_i hH hS hA (tr_V (n := 1) (As := [.int 42]) hx hb hml hown hts hkb hH hOX hks hE hS hA (s_Tok_isSign l D cs kf T O X v20 (42) t_v20 (hO.sub (by decide))) kw_646 kw_615 kw_616 kw_3 kw_617 (by decide +kernel) ⟨Nat.le_of_ble_eq_true rfl, Nat.le_of_ble_eq_true rfl⟩ (HT.recv (ci := 7) hkb hH t_v20 (hO.no t_v20 (by decide)) rfl) rfl rfl hl.1 (Nat.le_of_ble_eq_true rfl) dX3_readTerm_25 ⟨Nat.le_of_ble_eq_true rfl, Nat.le_of_ble_eq_true rfl⟩) (fun v25 u H locs hz9 hH hS => ?_)
          obtain ⟨rfl, l_v25, u_v25⟩ := hz9
          have hH : HT D cs A T O X H := hH
          refine W.widen (k := 0) (n := 0) (Nat.le_of_ble_eq_true rfl) (Nat.le_of_ble_eq_true rfl) ?_
          refine lv_if_eq (tgt := 57) hx hb dX3_readTerm_28 (by decide) (fun c28 => ?_) (fun c28 => ?_)
          · skip
            have tc28 := f_eq (k := 0) (by decide) c28
            exact J57  _ _ _  hH hS (lv_sub hl [1] rfl)
          · skip
            have tc28 := f_ne (k := 0) (by decide) c28
            refine lv_aload_n hx hb dX3_readTerm_31 rfl (lv_at hl 2 rfl) ?_
            refine t_get (ci := 3) (lst := ft3 0 0) (C := RX3) (F := TX3) (N := 3) hx hb hts uX3 hown hkb hH t_a0 (hO.no t_a0 (by decide)) (fun _ h9 => h9) rfl rfl 0 (by decide) rfl kw_82 (fun _ h9 => h9) dX3_readTerm_32 (fun v9 h9 => ?_)
            obtain ⟨v32, rfl, t_v32⟩ := h9
            refine tk_v hH hS hA (tr_V (n := 0) (As := []) hx hb hml hown hts hkb hH hOX hks hE hS hA (s_Tok_go l D cs kf T O X v32 t_v32 (hO.sub (by decide))) kw_641 kw_453 kw_454 kw_3 kw_455 (by decide +kernel) ⟨Nat.le_of_ble_eq_true rfl, Nat.le_of_ble_eq_true rfl⟩ (HT.recv (ci := 7) hkb hH t_v32 (hO.no t_v32 (by decide)) rfl) rfl rfl hl.1 (Nat.le_of_ble_eq_true rfl) dX3_readTerm_35 ⟨Nat.le_of_ble_eq_true rfl, Nat.le_of_ble_eq_true rfl⟩) (fun u H locs hz9 hH hS => ?_)
            have hz9 : u = (T, O, X) := hz9
            subst hz9
            have hH : HT D cs A T O X H := hH
            refine W.widen (k := 0) (n := 0) (Nat.le_of_ble_eq_true rfl) (Nat.le_of_ble_eq_true rfl) ?_
            refine lv_aload_n hx hb dX3_readTerm_38 rfl (lv_at hl 2 rfl) ?_
            refine lv_iload_n hx hb dX3_readTerm_39 rfl (lv_at hl 3 rfl) ?_
            refine tk_i hH hS hA (tr_V (n := 1) (As := [.int x1]) hx hb hml hown hts hkb hH hOX hks hE hS hA (s_LR_readAtom6 l D cs kf T O X a0 x1 t_a0 (by omega) (by omega) (hO.sub (by decide))) kw_656 kw_658 ks_12 kw_4 kw_659 (by decide +kernel) ⟨Nat.le_of_ble_eq_true rfl, Nat.le_of_ble_eq_true rfl⟩ (HT.recv (ci := 3) hkb hH t_a0 (hO.no t_a0 (by decide)) rfl) rfl rfl hl.1 (Nat.le_of_ble_eq_true rfl) dX3_readTerm_40 ⟨Nat.le_of_ble_eq_true rfl, Nat.le_of_ble_eq_true rfl⟩) (fun v40 u H locs hz9 hH hS => ?_)
            obtain ⟨rfl, l_v40, u_v40⟩ := hz9
            have hH : HT D cs A T O X H := hH
            refine W.widen (k := 0) (n := 0) (Nat.le_of_ble_eq_true rfl) (Nat.le_of_ble_eq_true rfl) ?_
            refine lv_istore_n (lv' := [(2, .int v40), (3, .int p8_3), (0, .ref a0), (1, .int x1)]) hx hb dX3_readTerm_43 rfl hl (by decide) rfl (fun ls hl => ?_)
            refine lv_aload_n hx hb dX3_readTerm_44 rfl (lv_at hl 2 rfl) ?_
            refine lv_bipush (v := 7) hx hb dX3_readTerm_45 (by decide) ?_
            refine lv_iconst (v := 0) hx hb dX3_readTerm_47 (by decide) ?_
            refine tk_v hH hS hA (tr_V (n := 2) (As := [.int 7, .int 0]) hx hb hml hown hts hkb hH hOX hks hE hS hA (s_LR_put l D cs kf T O X a0 (7) (0) t_a0 (hO.sub (by decide))) kw_642 kw_644 ks_9 kw_4 kw_645 (by decide +kernel) ⟨Nat.le_of_ble_eq_true rfl, Nat.le_of_ble_eq_true rfl⟩ (HT.recv (ci := 3) hkb hH t_a0 (hO.no t_a0 (by decide)) rfl) rfl rfl hl.1 (Nat.le_of_ble_eq_true rfl) dX3_readTerm_48 ⟨Nat.le_of_ble_eq_true rfl, Nat.le_of_ble_eq_true rfl⟩) (fun u H locs hz9 hH hS => ?_)
            have hz9 : u = (T, O, X) := hz9
            subst hz9
            have hH : HT D cs A T O X H := hH
            refine W.widen (k := 0) (n := 0) (Nat.le_of_ble_eq_true rfl) (Nat.le_of_ble_eq_true rfl) ?_
            obtain ⟨v51, ev51⟩ : ∃ y : Int32, y = p8_3 + 1 := ⟨_, rfl⟩
            have tv51 : v51.toInt = p8_3.toInt + (1) := by rw [ev51]; exact add_i rfl (by decide) (by omega) (by omega)
            refine lv_iinc (v := v51) (lv' := [(3, .int v51), (2, .int v40), (0, .ref a0), (1, .int x1)]) hx hb dX3_readTerm_51 hl (k := 1) rfl (by rw [ev51]; rfl) (by decide) rfl (fun ls hl => ?_)
            refine lv_goto (tgt := 8) hx hb dX3_readTerm_54 (by decide) ?_
            exact ih8 _ (by omega) v51 v40 _ _ _ rfl (by omega) (by omega) (by omega) (by omega) hH hS (lv_sub hl [0, 1, 2, 3] rfl)
  refine lv_istore_n (lv' := [(3, .int 0), (2, .int v2), (0, .ref a0), (1, .int x1)]) hx hb dX3_readTerm_7 rfl hl (by decide) rfl (fun ls hl => ?_)
  exact J8 _ 0 v2 _ _ _ rfl (by decide) (by decide) (by omega) (by omega) hH hS (lv_sub hl [0, 1, 2, 3] rfl)
set_option maxHeartbeats 4000000 in
set_option maxRecDepth 100000 in
theorem s_LR_readSum6 (l : Launch) (D : va_G) (cs : CS) (kf : KF) (T : TF) (O : List Nat) (X : va_W) (a0 : Nat) (x1 : Int32) (t_a0 : T a0 = some (13, 0, 0)) (l_x1 : 6 ≤ x1.toInt) (u_x1 : x1.toInt ≤ 6) (hO : okO T O [0, 1, 13, 17]) : TK l D cs kf yX3_readSum cX3_readSum 5 (some (.boolean)) { frames := 8, cells := 0, slots := 0, locals := 172 } [.ref a0, .int x1] T O X (Ti D cs (fun r u => u = (T, O, X) ∧ 0 ≤ r.toInt ∧ r.toInt ≤ 1)) := by
  refine tk_of (by decide) (Nat.le_of_ble_eq_true rfl) (fun p e s m below meth c ls A H locs hx hb hr hml hown hts hlocks hnm hkb hH hS hA hOX hks hE hl => ?_)
  have hown : s.vm.findClass RX3 = some m.cls := hown
  have hl : lv_has ls 5 [(0, .ref a0), (1, .int x1)] := hl
  refine lv_aload_n hx hb dX3_readSum_0 rfl (lv_at hl 0 rfl) ?_
  refine lv_iload_n hx hb dX3_readSum_1 rfl (lv_at hl 1 rfl) ?_
  refine tk_i hH hS hA (tr_V (n := 1) (As := [.int x1]) hx hb hml hown hts hkb hH hOX hks hE hS hA (s_LR_readTerm6 l D cs kf T O X a0 x1 t_a0 (by omega) (by omega) (hO.sub (by decide))) kw_652 kw_654 ks_11 kw_4 kw_655 (by decide +kernel) ⟨Nat.le_of_ble_eq_true rfl, Nat.le_of_ble_eq_true rfl⟩ (HT.recv (ci := 3) hkb hH t_a0 (hO.no t_a0 (by decide)) rfl) rfl rfl hl.1 (Nat.le_of_ble_eq_true rfl) dX3_readSum_2 ⟨Nat.le_of_ble_eq_true rfl, Nat.le_of_ble_eq_true rfl⟩) (fun v2 u H locs hz9 hH hS => ?_)
  obtain ⟨rfl, l_v2, u_v2⟩ := hz9
  have hH : HT D cs A T O X H := hH
  refine W.widen (k := 0) (n := 0) (Nat.le_of_ble_eq_true rfl) (Nat.le_of_ble_eq_true rfl) ?_
  refine lv_istore_n (lv' := [(2, .int v2), (0, .ref a0), (1, .int x1)]) hx hb dX3_readSum_5 rfl hl (by decide) rfl (fun ls hl => ?_)
  refine lv_iconst (v := 0) hx hb dX3_readSum_6 (by decide) ?_
  have J8 : ∀ (n : Nat) (p8_3 : Int32) (p8_2 : Int32) (H : Heap) (locs : List Loc) (ls : Array Slot), (900 - p8_3.toInt).toNat = n → (0 ≤ p8_3.toInt) → (p8_3.toInt ≤ 900) → (0 ≤ p8_2.toInt) → (p8_2.toInt ≤ 1) → HT D cs A T O X H → va_S A s.heap H locs → lv_has ls 5 [(3, .int p8_3), (2, .int p8_2), (0, .ref a0), (1, .int x1)] → W p l e { frames := 8, cells := 0, slots := 0, locals := 172 } s m [.ref a0, .int x1].toArray below meth c H locs 0 0 (MQ below (Ti D cs (fun r u => u = (T, O, X) ∧ 0 ≤ r.toInt ∧ r.toInt ≤ 1) A) [.ref a0, .int x1].toArray s 0 0 A) (F0 m 8 ls []) := by
    intro n
    induction n using Nat.strongRecOn with
    | _ n ih8 =>
      intro p8_3 p8_2 H locs ls hm8 l_p8_3 u_p8_3 l_p8_2 u_p8_2 hH hS hl
      refine lv_iload_n hx hb dX3_readSum_8 rfl (lv_at hl 0 rfl) ?_
      refine lv_sipush (v := 900) hx hb dX3_readSum_9 (by decide) ?_
      have J89 : ∀  (H : Heap) (locs : List Loc) (ls : Array Slot), HT D cs A T O X H → va_S A s.heap H locs → lv_has ls 5 [(2, .int p8_2)] → W p l e { frames := 8, cells := 0, slots := 0, locals := 172 } s m [.ref a0, .int x1].toArray below meth c H locs 0 0 (MQ below (Ti D cs (fun r u => u = (T, O, X) ∧ 0 ≤ r.toInt ∧ r.toInt ≤ 1) A) [.ref a0, .int x1].toArray s 0 0 A) (F0 m 89 ls []) := by
        intro  H locs ls  hH hS hl
        refine lv_iload_n hx hb dX3_readSum_89 rfl (lv_at hl 0 rfl) ?_
        exact te_z hx hb hr hlocks (nar01 (by omega) (by omega)) hH hS (⟨rfl, by omega, by omega⟩) dX3_readSum_90
      refine lv_icmp_ge (tgt := 89) hx hb dX3_readSum_12 (by decide) (fun c12 => ?_) (fun c12 => ?_)
      · skip
        have tc12 := f_ge (k := 900) (by decide) c12
        exact J89  _ _ _  hH hS (lv_sub hl [1] rfl)
      · skip
        have tc12 := f_nge (k := 900) (by decide) c12
        refine lv_iload_n hx hb dX3_readSum_15 rfl (lv_at hl 1 rfl) ?_
        refine lv_if_eq (tgt := 89) hx hb dX3_readSum_16 (by decide) (fun c16 => ?_) (fun c16 => ?_)
        · skip
          have tc16 := f_eq (k := 0) (by decide) c16
          exact J89  _ _ _  hH hS (lv_sub hl [1] rfl)
        · skip
          have tc16 := f_ne (k := 0) (by decide) c16
          refine lv_aload_n hx hb dX3_readSum_19 rfl (lv_at hl 2 rfl) ?_
          refine t_get (ci := 3) (lst := ft3 0 0) (C := RX3) (F := TX3) (N := 3) hx hb hts uX3 hown hkb hH t_a0 (hO.no t_a0 (by decide)) (fun _ h9 => h9) rfl rfl 0 (by decide) rfl kw_82 (fun _ h9 => h9) dX3_readSum_20 (fun v9 h9 => ?_)
          obtain ⟨v20, rfl, t_v20⟩ := h9
          refine lv_bipush (v := 43) hx hb dX3_readSum_23 (by decide) ?_
          refine tk_i hH hS hA (tr_V (n := 1) (As := [.int 43]) hx hb hml hown hts hkb hH hOX hks hE hS hA (s_Tok_isSign l D cs kf T O X v20 (43) t_v20 (hO.sub (by decide))) kw_646 kw_615 kw_616 kw_3 kw_617 (by decide +kernel) ⟨Nat.le_of_ble_eq_true rfl, Nat.le_of_ble_eq_true rfl⟩ (HT.recv (ci := 7) hkb hH t_v20 (hO.no t_v20 (by decide)) rfl) rfl rfl hl.1 (Nat.le_of_ble_eq_true rfl) dX3_readSum_25 ⟨Nat.le_of_ble_eq_true rfl, Nat.le_of_ble_eq_true rfl⟩) (fun v25 u H locs hz9 hH hS => ?_)
          obtain ⟨rfl, l_v25, u_v25⟩ := hz9
          have hH : HT D cs A T O X H := hH
          refine W.widen (k := 0) (n := 0) (Nat.le_of_ble_eq_true rfl) (Nat.le_of_ble_eq_true rfl) ?_
          have J43 : ∀  (H : Heap) (locs : List Loc) (ls : Array Slot), HT D cs A T O X H → va_S A s.heap H locs → lv_has ls 5 [(3, .int p8_3), (0, .ref a0), (1, .int x1)] → W p l e { frames := 8, cells := 0, slots := 0, locals := 172 } s m [.ref a0, .int x1].toArray below meth c H locs 0 0 (MQ below (Ti D cs (fun r u => u = (T, O, X) ∧ 0 ≤ r.toInt ∧ r.toInt ≤ 1) A) [.ref a0, .int x1].toArray s 0 0 A) (F0 m 43 ls []) := by
            intro  H locs ls  hH hS hl
            refine lv_aload_n hx hb dX3_readSum_43 rfl (lv_at hl 1 rfl) ?_
            refine t_get (ci := 3) (lst := ft3 0 0) (C := RX3) (F := TX3) (N := 3) hx hb hts uX3 hown hkb hH t_a0 (hO.no t_a0 (by decide)) (fun _ h9 => h9) rfl rfl 0 (by decide) rfl kw_82 (fun _ h9 => h9) dX3_readSum_44 (fun v9 h9 => ?_)
            obtain ⟨v44, rfl, t_v44⟩ := h9
            refine lv_bipush (v := 43) hx hb dX3_readSum_47 (by decide) ?_
            refine tk_i hH hS hA (tr_V (n := 1) (As := [.int 43]) hx hb hml hown hts hkb hH hOX hks hE hS hA (s_Tok_isSign l D cs kf T O X v44 (43) t_v44 (hO.sub (by decide))) kw_646 kw_615 kw_616 kw_3 kw_617 (by decide +kernel) ⟨Nat.le_of_ble_eq_true rfl, Nat.le_of_ble_eq_true rfl⟩ (HT.recv (ci := 7) hkb hH t_v44 (hO.no t_v44 (by decide)) rfl) rfl rfl hl.1 (Nat.le_of_ble_eq_true rfl) dX3_readSum_49 ⟨Nat.le_of_ble_eq_true rfl, Nat.le_of_ble_eq_true rfl⟩) (fun v49 u H locs hz9 hH hS => ?_)
            obtain ⟨rfl, l_v49, u_v49⟩ := hz9
            have hH : HT D cs A T O X H := hH
            refine W.widen (k := 0) (n := 0) (Nat.le_of_ble_eq_true rfl) (Nat.le_of_ble_eq_true rfl) ?_
            have J61 : ∀ (k61_0 : Int32) (H : Heap) (locs : List Loc) (ls : Array Slot), (5 ≤ k61_0.toInt) → (k61_0.toInt ≤ 6) → HT D cs A T O X H → va_S A s.heap H locs → lv_has ls 5 [(3, .int p8_3), (0, .ref a0), (1, .int x1)] → W p l e { frames := 8, cells := 0, slots := 0, locals := 172 } s m [.ref a0, .int x1].toArray below meth c H locs 0 0 (MQ below (Ti D cs (fun r u => u = (T, O, X) ∧ 0 ≤ r.toInt ∧ r.toInt ≤ 1) A) [.ref a0, .int x1].toArray s 0 0 A) (F0 m 61 ls [.int k61_0]) := by
              intro k61_0 H locs ls l_k61_0 u_k61_0 hH hS hl
              refine lv_istore (lv' := [(4, .int k61_0), (3, .int p8_3), (0, .ref a0), (1, .int x1)]) hx hb dX3_readSum_61 hl (by decide) rfl (fun ls hl => ?_)
              refine lv_aload_n hx hb dX3_readSum_63 rfl (lv_at hl 2 rfl) ?_
              refine t_get (ci := 3) (lst := ft3 0 0) (C := RX3) (F := TX3) (N := 3) hx hb hts uX3 hown hkb hH t_a0 (hO.no t_a0 (by decide)) (fun _ h9 => h9) rfl rfl 0 (by decide) rfl kw_82 (fun _ h9 => h9) dX3_readSum_64 (fun v9 h9 => ?_)
              obtain ⟨v64, rfl, t_v64⟩ := h9
              refine tk_v hH hS hA (tr_V (n := 0) (As := []) hx hb hml hown hts hkb hH hOX hks hE hS hA (s_Tok_go l D cs kf T O X v64 t_v64 (hO.sub (by decide))) kw_641 kw_453 kw_454 kw_3 kw_455 (by decide +kernel) ⟨Nat.le_of_ble_eq_true rfl, Nat.le_of_ble_eq_true rfl⟩ (HT.recv (ci := 7) hkb hH t_v64 (hO.no t_v64 (by decide)) rfl) rfl rfl hl.1 (Nat.le_of_ble_eq_true rfl) dX3_readSum_67 ⟨Nat.le_of_ble_eq_true rfl, Nat.le_of_ble_eq_true rfl⟩) (fun u H locs hz9 hH hS => ?_)
              have hz9 : u = (T, O, X) := hz9
              subst hz9
              have hH : HT D cs A T O X H := hH
              refine W.widen (k := 0) (n := 0) (Nat.le_of_ble_eq_true rfl) (Nat.le_of_ble_eq_true rfl) ?_
              refine lv_aload_n hx hb dX3_readSum_70 rfl (lv_at hl 2 rfl) ?_
              refine lv_iload_n hx hb dX3_readSum_71 rfl (lv_at hl 3 rfl) ?_
              refine tk_i hH hS hA (tr_V (n := 1) (As := [.int x1]) hx hb hml hown hts hkb hH hOX hks hE hS hA (s_LR_readTerm6 l D cs kf T O X a0 x1 t_a0 (by omega) (by omega) (hO.sub (by decide))) kw_652 kw_654 ks_11 kw_4 kw_655 (by decide +kernel) ⟨Nat.le_of_ble_eq_true rfl, Nat.le_of_ble_eq_true rfl⟩ (HT.recv (ci := 3) hkb hH t_a0 (hO.no t_a0 (by decide)) rfl) rfl rfl hl.1 (Nat.le_of_ble_eq_true rfl) dX3_readSum_72 ⟨Nat.le_of_ble_eq_true rfl, Nat.le_of_ble_eq_true rfl⟩) (fun v72 u H locs hz9 hH hS => ?_)
              obtain ⟨rfl, l_v72, u_v72⟩ := hz9
              have hH : HT D cs A T O X H := hH
              refine W.widen (k := 0) (n := 0) (Nat.le_of_ble_eq_true rfl) (Nat.le_of_ble_eq_true rfl) ?_
              refine lv_istore_n (lv' := [(2, .int v72), (4, .int k61_0), (3, .int p8_3), (0, .ref a0), (1, .int x1)]) hx hb dX3_readSum_75 rfl hl (by decide) rfl (fun ls hl => ?_)
              refine lv_aload_n hx hb dX3_readSum_76 rfl (lv_at hl 3 rfl) ?_
              refine lv_iload hx hb dX3_readSum_77 (lv_at hl 1 rfl) ?_
              refine lv_iconst (v := 0) hx hb dX3_readSum_79 (by decide) ?_
              refine tk_v hH hS hA (tr_V (n := 2) (As := [.int k61_0, .int 0]) hx hb hml hown hts hkb hH hOX hks hE hS hA (s_LR_put l D cs kf T O X a0 k61_0 (0) t_a0 (hO.sub (by decide))) kw_642 kw_644 ks_9 kw_4 kw_645 (by decide +kernel) ⟨Nat.le_of_ble_eq_true rfl, Nat.le_of_ble_eq_true rfl⟩ (HT.recv (ci := 3) hkb hH t_a0 (hO.no t_a0 (by decide)) rfl) rfl rfl hl.1 (Nat.le_of_ble_eq_true rfl) dX3_readSum_80 ⟨Nat.le_of_ble_eq_true rfl, Nat.le_of_ble_eq_true rfl⟩) (fun u H locs hz9 hH hS => ?_)
              have hz9 : u = (T, O, X) := hz9
              subst hz9
              have hH : HT D cs A T O X H := hH
              refine W.widen (k := 0) (n := 0) (Nat.le_of_ble_eq_true rfl) (Nat.le_of_ble_eq_true rfl) ?_
              obtain ⟨v83, ev83⟩ : ∃ y : Int32, y = p8_3 + 1 := ⟨_, rfl⟩
              have tv83 : v83.toInt = p8_3.toInt + (1) := by rw [ev83]; exact add_i rfl (by decide) (by omega) (by omega)
              refine lv_iinc (v := v83) (lv' := [(3, .int v83), (2, .int v72), (4, .int k61_0), (0, .ref a0), (1, .int x1)]) hx hb dX3_readSum_83 hl (k := 2) rfl (by rw [ev83]; rfl) (by decide) rfl (fun ls hl => ?_)
              refine lv_goto (tgt := 8) hx hb dX3_readSum_86 (by decide) ?_
              exact ih8 _ (by omega) v83 v72 _ _ _ rfl (by omega) (by omega) (by omega) (by omega) hH hS (lv_sub hl [0, 1, 3, 4] rfl)
            refine lv_if_eq (tgt := 59) hx hb dX3_readSum_52 (by decide) (fun c52 => ?_) (fun c52 => ?_)
            · skip
              have tc52 := f_eq (k := 0) (by decide) c52
              refine lv_bipush (v := 6) hx hb dX3_readSum_59 (by decide) ?_
              exact J61 6 _ _ _ (by decide) (by decide) hH hS (lv_sub hl [0, 1, 2] rfl)
            · skip
              have tc52 := f_ne (k := 0) (by decide) c52
              refine lv_iconst (v := 5) hx hb dX3_readSum_55 (by decide) ?_
              refine lv_goto (tgt := 61) hx hb dX3_readSum_56 (by decide) ?_
              exact J61 5 _ _ _ (by decide) (by decide) hH hS (lv_sub hl [0, 1, 2] rfl)
          refine lv_if_ne (tgt := 43) hx hb dX3_readSum_28 (by decide) (fun c28 => ?_) (fun c28 => ?_)
          · skip
            have tc28 := f_ne (k := 0) (by decide) c28
            exact J43  _ _ _  hH hS (lv_sub hl [0, 2, 3] rfl)
          · skip
            have tc28 := f_eq (k := 0) (by decide) c28
            refine lv_aload_n hx hb dX3_readSum_31 rfl (lv_at hl 2 rfl) ?_
            refine t_get (ci := 3) (lst := ft3 0 0) (C := RX3) (F := TX3) (N := 3) hx hb hts uX3 hown hkb hH t_a0 (hO.no t_a0 (by decide)) (fun _ h9 => h9) rfl rfl 0 (by decide) rfl kw_82 (fun _ h9 => h9) dX3_readSum_32 (fun v9 h9 => ?_)
            obtain ⟨v32, rfl, t_v32⟩ := h9
            refine lv_bipush (v := 45) hx hb dX3_readSum_35 (by decide) ?_
            refine tk_i hH hS hA (tr_V (n := 1) (As := [.int 45]) hx hb hml hown hts hkb hH hOX hks hE hS hA (s_Tok_isSign l D cs kf T O X v32 (45) t_v32 (hO.sub (by decide))) kw_646 kw_615 kw_616 kw_3 kw_617 (by decide +kernel) ⟨Nat.le_of_ble_eq_true rfl, Nat.le_of_ble_eq_true rfl⟩ (HT.recv (ci := 7) hkb hH t_v32 (hO.no t_v32 (by decide)) rfl) rfl rfl hl.1 (Nat.le_of_ble_eq_true rfl) dX3_readSum_37 ⟨Nat.le_of_ble_eq_true rfl, Nat.le_of_ble_eq_true rfl⟩) (fun v37 u H locs hz9 hH hS => ?_)
            obtain ⟨rfl, l_v37, u_v37⟩ := hz9
            have hH : HT D cs A T O X H := hH
            refine W.widen (k := 0) (n := 0) (Nat.le_of_ble_eq_true rfl) (Nat.le_of_ble_eq_true rfl) ?_
            refine lv_if_eq (tgt := 89) hx hb dX3_readSum_40 (by decide) (fun c40 => ?_) (fun c40 => ?_)
            · skip
              have tc40 := f_eq (k := 0) (by decide) c40
              exact J89  _ _ _  hH hS (lv_sub hl [1] rfl)
            · skip
              have tc40 := f_ne (k := 0) (by decide) c40
              exact J43  _ _ _  hH hS (lv_sub hl [0, 2, 3] rfl)
  refine lv_istore_n (lv' := [(3, .int 0), (2, .int v2), (0, .ref a0), (1, .int x1)]) hx hb dX3_readSum_7 rfl hl (by decide) rfl (fun ls hl => ?_)
  exact J8 _ 0 v2 _ _ _ rfl (by decide) (by decide) (by omega) (by omega) hH hS (lv_sub hl [0, 1, 2, 3] rfl)
set_option maxHeartbeats 4000000 in
set_option maxRecDepth 100000 in
theorem s_LR_readUnit6 (l : Launch) (D : va_G) (cs : CS) (kf : KF) (T : TF) (O : List Nat) (X : va_W) (a0 : Nat) (x1 : Int32) (t_a0 : T a0 = some (13, 0, 0)) (l_x1 : 6 ≤ x1.toInt) (u_x1 : x1.toInt ≤ 6) (hO : okO T O [0, 1, 13, 17]) : TK l D cs kf yX3_readUnit cX3_readUnit 3 (some (.boolean)) { frames := 9, cells := 0, slots := 0, locals := 196 } [.ref a0, .int x1] T O X (Ti D cs (fun r u => u = (T, O, X) ∧ 0 ≤ r.toInt ∧ r.toInt ≤ 1)) := by
  refine tk_of (by decide) (Nat.le_of_ble_eq_true rfl) (fun p e s m below meth c ls A H locs hx hb hr hml hown hts hlocks hnm hkb hH hS hA hOX hks hE hl => ?_)
  have hown : s.vm.findClass RX3 = some m.cls := hown
  have hl : lv_has ls 3 [(0, .ref a0), (1, .int x1)] := hl
  refine lv_aload_n hx hb dX3_readUnit_0 rfl (lv_at hl 0 rfl) ?_
  refine t_get (ci := 3) (lst := ft3 0 0) (C := RX3) (F := TX3) (N := 3) hx hb hts uX3 hown hkb hH t_a0 (hO.no t_a0 (by decide)) (fun _ h9 => h9) rfl rfl 0 (by decide) rfl kw_82 (fun _ h9 => h9) dX3_readUnit_1 (fun v9 h9 => ?_)
  obtain ⟨v1, rfl, t_v1⟩ := h9
  refine va_ldcS (q := kf.1 10) hx hb hown (hks ("FootholdWall$LawReader", 65, "not", 10) (by decide +kernel)) dX3_readUnit_4 ?_
  refine tk_i hH hS hA (tr_V (n := 1) (As := [.ref (kf.1 10)]) hx hb hml hown hts hkb hH hOX hks hE hS hA (s_Tok_isWord l D cs kf T O X v1 10 t_v1 (by decide) (hO.sub (by decide))) kw_635 kw_551 kw_552 kw_3 kw_553 (by decide +kernel) ⟨Nat.le_of_ble_eq_true rfl, Nat.le_of_ble_eq_true rfl⟩ (HT.recv (ci := 7) hkb hH t_v1 (hO.no t_v1 (by decide)) rfl) rfl rfl hl.1 (Nat.le_of_ble_eq_true rfl) dX3_readUnit_6 ⟨Nat.le_of_ble_eq_true rfl, Nat.le_of_ble_eq_true rfl⟩) (fun v6 u H locs hz9 hH hS => ?_)
  obtain ⟨rfl, l_v6, u_v6⟩ := hz9
  have hH : HT D cs A T O X H := hH
  refine W.widen (k := 0) (n := 0) (Nat.le_of_ble_eq_true rfl) (Nat.le_of_ble_eq_true rfl) ?_
  refine lv_if_eq (tgt := 40) hx hb dX3_readUnit_9 (by decide) (fun c9 => ?_) (fun c9 => ?_)
  · skip
    have tc9 := f_eq (k := 0) (by decide) c9
    refine lv_aload_n hx hb dX3_readUnit_40 rfl (lv_at hl 0 rfl) ?_
    refine t_get (ci := 3) (lst := ft3 0 0) (C := RX3) (F := TX3) (N := 3) hx hb hts uX3 hown hkb hH t_a0 (hO.no t_a0 (by decide)) (fun _ h9 => h9) rfl rfl 0 (by decide) rfl kw_82 (fun _ h9 => h9) dX3_readUnit_41 (fun v9 h9 => ?_)
    obtain ⟨v41, rfl, t_v41⟩ := h9
    refine lv_bipush (v := 91) hx hb dX3_readUnit_44 (by decide) ?_
    refine tk_i hH hS hA (tr_V (n := 1) (As := [.int 91]) hx hb hml hown hts hkb hH hOX hks hE hS hA (s_Tok_isSign l D cs kf T O X v41 (91) t_v41 (hO.sub (by decide))) kw_646 kw_615 kw_616 kw_3 kw_617 (by decide +kernel) ⟨Nat.le_of_ble_eq_true rfl, Nat.le_of_ble_eq_true rfl⟩ (HT.recv (ci := 7) hkb hH t_v41 (hO.no t_v41 (by decide)) rfl) rfl rfl hl.1 (Nat.le_of_ble_eq_true rfl) dX3_readUnit_46 ⟨Nat.le_of_ble_eq_true rfl, Nat.le_of_ble_eq_true rfl⟩) (fun v46 u H locs hz9 hH hS => ?_)
    obtain ⟨rfl, l_v46, u_v46⟩ := hz9
    have hH : HT D cs A T O X H := hH
    refine W.widen (k := 0) (n := 0) (Nat.le_of_ble_eq_true rfl) (Nat.le_of_ble_eq_true rfl) ?_
    refine lv_if_eq (tgt := 88) hx hb dX3_readUnit_49 (by decide) (fun c49 => ?_) (fun c49 => ?_)
    · skip
      have tc49 := f_eq (k := 0) (by decide) c49
      refine lv_aload_n hx hb dX3_readUnit_88 rfl (lv_at hl 0 rfl) ?_
      refine lv_iload_n hx hb dX3_readUnit_89 rfl (lv_at hl 1 rfl) ?_
      refine tk_i hH hS hA (tr_V (n := 1) (As := [.int x1]) hx hb hml hown hts hkb hH hOX hks hE hS hA (s_LR_readSum6 l D cs kf T O X a0 x1 t_a0 (by omega) (by omega) (hO.sub (by decide))) kw_648 kw_650 ks_10 kw_4 kw_651 (by decide +kernel) ⟨Nat.le_of_ble_eq_true rfl, Nat.le_of_ble_eq_true rfl⟩ (HT.recv (ci := 3) hkb hH t_a0 (hO.no t_a0 (by decide)) rfl) rfl rfl hl.1 (Nat.le_of_ble_eq_true rfl) dX3_readUnit_90 ⟨Nat.le_of_ble_eq_true rfl, Nat.le_of_ble_eq_true rfl⟩) (fun v90 u H locs hz9 hH hS => ?_)
      obtain ⟨rfl, l_v90, u_v90⟩ := hz9
      have hH : HT D cs A T O X H := hH
      refine W.widen (k := 0) (n := 0) (Nat.le_of_ble_eq_true rfl) (Nat.le_of_ble_eq_true rfl) ?_
      refine lv_if_ne (tgt := 98) hx hb dX3_readUnit_93 (by decide) (fun c93 => ?_) (fun c93 => ?_)
      · skip
        have tc93 := f_ne (k := 0) (by decide) c93
        refine lv_aload_n hx hb dX3_readUnit_98 rfl (lv_at hl 0 rfl) ?_
        refine t_get (ci := 3) (lst := ft3 0 0) (C := RX3) (F := TX3) (N := 3) hx hb hts uX3 hown hkb hH t_a0 (hO.no t_a0 (by decide)) (fun _ h9 => h9) rfl rfl 0 (by decide) rfl kw_82 (fun _ h9 => h9) dX3_readUnit_99 (fun v9 h9 => ?_)
        obtain ⟨v99, rfl, t_v99⟩ := h9
        refine lv_bipush (v := 61) hx hb dX3_readUnit_102 (by decide) ?_
        refine tk_i hH hS hA (tr_V (n := 1) (As := [.int 61]) hx hb hml hown hts hkb hH hOX hks hE hS hA (s_Tok_isSign l D cs kf T O X v99 (61) t_v99 (hO.sub (by decide))) kw_646 kw_615 kw_616 kw_3 kw_617 (by decide +kernel) ⟨Nat.le_of_ble_eq_true rfl, Nat.le_of_ble_eq_true rfl⟩ (HT.recv (ci := 7) hkb hH t_v99 (hO.no t_v99 (by decide)) rfl) rfl rfl hl.1 (Nat.le_of_ble_eq_true rfl) dX3_readUnit_104 ⟨Nat.le_of_ble_eq_true rfl, Nat.le_of_ble_eq_true rfl⟩) (fun v104 u H locs hz9 hH hS => ?_)
        obtain ⟨rfl, l_v104, u_v104⟩ := hz9
        have hH : HT D cs A T O X H := hH
        refine W.widen (k := 0) (n := 0) (Nat.le_of_ble_eq_true rfl) (Nat.le_of_ble_eq_true rfl) ?_
        have J134 : ∀ (k134_0 : Int32) (H : Heap) (locs : List Loc) (ls : Array Slot), (8 ≤ k134_0.toInt) → (k134_0.toInt ≤ 10) → HT D cs A T O X H → va_S A s.heap H locs → lv_has ls 3 [(0, .ref a0), (1, .int x1)] → W p l e { frames := 9, cells := 0, slots := 0, locals := 196 } s m [.ref a0, .int x1].toArray below meth c H locs 0 0 (MQ below (Ti D cs (fun r u => u = (T, O, X) ∧ 0 ≤ r.toInt ∧ r.toInt ≤ 1) A) [.ref a0, .int x1].toArray s 0 0 A) (F0 m 134 ls [.int k134_0]) := by
          intro k134_0 H locs ls l_k134_0 u_k134_0 hH hS hl
          refine lv_istore_n (lv' := [(2, .int k134_0), (0, .ref a0), (1, .int x1)]) hx hb dX3_readUnit_134 rfl hl (by decide) rfl (fun ls hl => ?_)
          refine lv_iload_n hx hb dX3_readUnit_135 rfl (lv_at hl 0 rfl) ?_
          refine lv_bipush (v := 10) hx hb dX3_readUnit_136 (by decide) ?_
          have J162 : ∀  (H : Heap) (locs : List Loc) (ls : Array Slot), HT D cs A T O X H → va_S A s.heap H locs → lv_has ls 3 [(2, .int k134_0), (0, .ref a0), (1, .int x1)] → W p l e { frames := 9, cells := 0, slots := 0, locals := 196 } s m [.ref a0, .int x1].toArray below meth c H locs 0 0 (MQ below (Ti D cs (fun r u => u = (T, O, X) ∧ 0 ≤ r.toInt ∧ r.toInt ≤ 1) A) [.ref a0, .int x1].toArray s 0 0 A) (F0 m 162 ls []) := by
            intro  H locs ls  hH hS hl
            refine lv_aload_n hx hb dX3_readUnit_162 rfl (lv_at hl 1 rfl) ?_
            refine t_get (ci := 3) (lst := ft3 0 0) (C := RX3) (F := TX3) (N := 3) hx hb hts uX3 hown hkb hH t_a0 (hO.no t_a0 (by decide)) (fun _ h9 => h9) rfl rfl 0 (by decide) rfl kw_82 (fun _ h9 => h9) dX3_readUnit_163 (fun v9 h9 => ?_)
            obtain ⟨v163, rfl, t_v163⟩ := h9
            refine tk_v hH hS hA (tr_V (n := 0) (As := []) hx hb hml hown hts hkb hH hOX hks hE hS hA (s_Tok_go l D cs kf T O X v163 t_v163 (hO.sub (by decide))) kw_641 kw_453 kw_454 kw_3 kw_455 (by decide +kernel) ⟨Nat.le_of_ble_eq_true rfl, Nat.le_of_ble_eq_true rfl⟩ (HT.recv (ci := 7) hkb hH t_v163 (hO.no t_v163 (by decide)) rfl) rfl rfl hl.1 (Nat.le_of_ble_eq_true rfl) dX3_readUnit_166 ⟨Nat.le_of_ble_eq_true rfl, Nat.le_of_ble_eq_true rfl⟩) (fun u H locs hz9 hH hS => ?_)
            have hz9 : u = (T, O, X) := hz9
            subst hz9
            have hH : HT D cs A T O X H := hH
            refine W.widen (k := 0) (n := 0) (Nat.le_of_ble_eq_true rfl) (Nat.le_of_ble_eq_true rfl) ?_
            refine lv_aload_n hx hb dX3_readUnit_169 rfl (lv_at hl 1 rfl) ?_
            refine lv_iload_n hx hb dX3_readUnit_170 rfl (lv_at hl 2 rfl) ?_
            refine tk_i hH hS hA (tr_V (n := 1) (As := [.int x1]) hx hb hml hown hts hkb hH hOX hks hE hS hA (s_LR_readSum6 l D cs kf T O X a0 x1 t_a0 (by omega) (by omega) (hO.sub (by decide))) kw_648 kw_650 ks_10 kw_4 kw_651 (by decide +kernel) ⟨Nat.le_of_ble_eq_true rfl, Nat.le_of_ble_eq_true rfl⟩ (HT.recv (ci := 3) hkb hH t_a0 (hO.no t_a0 (by decide)) rfl) rfl rfl hl.1 (Nat.le_of_ble_eq_true rfl) dX3_readUnit_171 ⟨Nat.le_of_ble_eq_true rfl, Nat.le_of_ble_eq_true rfl⟩) (fun v171 u H locs hz9 hH hS => ?_)
            obtain ⟨rfl, l_v171, u_v171⟩ := hz9
            have hH : HT D cs A T O X H := hH
            refine W.widen (k := 0) (n := 0) (Nat.le_of_ble_eq_true rfl) (Nat.le_of_ble_eq_true rfl) ?_
            refine lv_if_ne (tgt := 179) hx hb dX3_readUnit_174 (by decide) (fun c174 => ?_) (fun c174 => ?_)
            · skip
              have tc174 := f_ne (k := 0) (by decide) c174
              refine lv_aload_n hx hb dX3_readUnit_179 rfl (lv_at hl 1 rfl) ?_
              refine lv_iload_n hx hb dX3_readUnit_180 rfl (lv_at hl 0 rfl) ?_
              refine lv_iconst (v := 0) hx hb dX3_readUnit_181 (by decide) ?_
              refine tk_v hH hS hA (tr_V (n := 2) (As := [.int k134_0, .int 0]) hx hb hml hown hts hkb hH hOX hks hE hS hA (s_LR_put l D cs kf T O X a0 k134_0 (0) t_a0 (hO.sub (by decide))) kw_642 kw_644 ks_9 kw_4 kw_645 (by decide +kernel) ⟨Nat.le_of_ble_eq_true rfl, Nat.le_of_ble_eq_true rfl⟩ (HT.recv (ci := 3) hkb hH t_a0 (hO.no t_a0 (by decide)) rfl) rfl rfl hl.1 (Nat.le_of_ble_eq_true rfl) dX3_readUnit_182 ⟨Nat.le_of_ble_eq_true rfl, Nat.le_of_ble_eq_true rfl⟩) (fun u H locs hz9 hH hS => ?_)
              have hz9 : u = (T, O, X) := hz9
              subst hz9
              have hH : HT D cs A T O X H := hH
              refine W.widen (k := 0) (n := 0) (Nat.le_of_ble_eq_true rfl) (Nat.le_of_ble_eq_true rfl) ?_
              refine lv_iconst (v := 1) hx hb dX3_readUnit_185 (by decide) ?_
              exact te_z hx hb hr hlocks (by rfl) hH hS (⟨rfl, by decide, by decide⟩) dX3_readUnit_186
            · skip
              have tc174 := f_eq (k := 0) (by decide) c174
              refine lv_iconst (v := 0) hx hb dX3_readUnit_177 (by decide) ?_
              exact te_z hx hb hr hlocks (by rfl) hH hS (⟨rfl, by decide, by decide⟩) dX3_readUnit_178
          refine lv_icmp_ne (tgt := 162) hx hb dX3_readUnit_138 (by decide) (fun c138 => ?_) (fun c138 => ?_)
          · skip
            have tc138 := f_ne (k := 10) (by decide) c138
            exact J162  _ _ _  hH hS (lv_sub hl [0, 1, 2] rfl)
          · skip
            have tc138 := f_eq (k := 10) (by decide) c138
            refine lv_aload_n hx hb dX3_readUnit_141 rfl (lv_at hl 1 rfl) ?_
            refine t_get (ci := 3) (lst := ft3 0 0) (C := RX3) (F := TX3) (N := 3) hx hb hts uX3 hown hkb hH t_a0 (hO.no t_a0 (by decide)) (fun _ h9 => h9) rfl rfl 0 (by decide) rfl kw_82 (fun _ h9 => h9) dX3_readUnit_142 (fun v9 h9 => ?_)
            obtain ⟨v142, rfl, t_v142⟩ := h9
            refine lv_bipush (v := 62) hx hb dX3_readUnit_145 (by decide) ?_
            refine tk_i hH hS hA (tr_V (n := 1) (As := [.int 62]) hx hb hml hown hts hkb hH hOX hks hE hS hA (s_Tok_isSign l D cs kf T O X v142 (62) t_v142 (hO.sub (by decide))) kw_646 kw_615 kw_616 kw_3 kw_617 (by decide +kernel) ⟨Nat.le_of_ble_eq_true rfl, Nat.le_of_ble_eq_true rfl⟩ (HT.recv (ci := 7) hkb hH t_v142 (hO.no t_v142 (by decide)) rfl) rfl rfl hl.1 (Nat.le_of_ble_eq_true rfl) dX3_readUnit_147 ⟨Nat.le_of_ble_eq_true rfl, Nat.le_of_ble_eq_true rfl⟩) (fun v147 u H locs hz9 hH hS => ?_)
            obtain ⟨rfl, l_v147, u_v147⟩ := hz9
            have hH : HT D cs A T O X H := hH
            refine W.widen (k := 0) (n := 0) (Nat.le_of_ble_eq_true rfl) (Nat.le_of_ble_eq_true rfl) ?_
            refine lv_if_ne (tgt := 162) hx hb dX3_readUnit_150 (by decide) (fun c150 => ?_) (fun c150 => ?_)
            · skip
              have tc150 := f_ne (k := 0) (by decide) c150
              exact J162  _ _ _  hH hS (lv_sub hl [0, 1, 2] rfl)
            · skip
              have tc150 := f_eq (k := 0) (by decide) c150
              refine lv_aload_n hx hb dX3_readUnit_153 rfl (lv_at hl 1 rfl) ?_
              refine t_get (ci := 3) (lst := ft3 0 0) (C := RX3) (F := TX3) (N := 3) hx hb hts uX3 hown hkb hH t_a0 (hO.no t_a0 (by decide)) (fun _ h9 => h9) rfl rfl 0 (by decide) rfl kw_82 (fun _ h9 => h9) dX3_readUnit_154 (fun v9 h9 => ?_)
              obtain ⟨v154, rfl, t_v154⟩ := h9
              refine lv_iconst (v := 2) hx hb dX3_readUnit_157 (by decide) ?_
              refine tk_i hH hS hA (tr_V (n := 1) (As := [.int 2]) hx hb hml hown hts hkb hH hOX hks hE hS hA (s_Tok_refuse l D cs kf T O X v154 (2) t_v154 (hO.sub (by decide))) kw_640 kw_580 kw_581 kw_3 kw_582 (by decide +kernel) ⟨Nat.le_of_ble_eq_true rfl, Nat.le_of_ble_eq_true rfl⟩ (HT.recv (ci := 7) hkb hH t_v154 (hO.no t_v154 (by decide)) rfl) rfl rfl hl.1 (Nat.le_of_ble_eq_true rfl) dX3_readUnit_158 ⟨Nat.le_of_ble_eq_true rfl, Nat.le_of_ble_eq_true rfl⟩) (fun v158 u H locs hz9 hH hS => ?_)
              obtain ⟨rfl, l_v158, u_v158⟩ := hz9
              have hH : HT D cs A T O X H := hH
              refine W.widen (k := 0) (n := 0) (Nat.le_of_ble_eq_true rfl) (Nat.le_of_ble_eq_true rfl) ?_
              exact te_z hx hb hr hlocks (nar01 (by omega) (by omega)) hH hS (⟨rfl, by omega, by omega⟩) dX3_readUnit_161
        refine lv_if_eq (tgt := 115) hx hb dX3_readUnit_107 (by decide) (fun c107 => ?_) (fun c107 => ?_)
        · skip
          have tc107 := f_eq (k := 0) (by decide) c107
          refine lv_aload_n hx hb dX3_readUnit_115 rfl (lv_at hl 0 rfl) ?_
          refine t_get (ci := 3) (lst := ft3 0 0) (C := RX3) (F := TX3) (N := 3) hx hb hts uX3 hown hkb hH t_a0 (hO.no t_a0 (by decide)) (fun _ h9 => h9) rfl rfl 0 (by decide) rfl kw_82 (fun _ h9 => h9) dX3_readUnit_116 (fun v9 h9 => ?_)
          obtain ⟨v116, rfl, t_v116⟩ := h9
          refine lv_bipush (v := 60) hx hb dX3_readUnit_119 (by decide) ?_
          refine tk_i hH hS hA (tr_V (n := 1) (As := [.int 60]) hx hb hml hown hts hkb hH hOX hks hE hS hA (s_Tok_isSign l D cs kf T O X v116 (60) t_v116 (hO.sub (by decide))) kw_646 kw_615 kw_616 kw_3 kw_617 (by decide +kernel) ⟨Nat.le_of_ble_eq_true rfl, Nat.le_of_ble_eq_true rfl⟩ (HT.recv (ci := 7) hkb hH t_v116 (hO.no t_v116 (by decide)) rfl) rfl rfl hl.1 (Nat.le_of_ble_eq_true rfl) dX3_readUnit_121 ⟨Nat.le_of_ble_eq_true rfl, Nat.le_of_ble_eq_true rfl⟩) (fun v121 u H locs hz9 hH hS => ?_)
          obtain ⟨rfl, l_v121, u_v121⟩ := hz9
          have hH : HT D cs A T O X H := hH
          refine W.widen (k := 0) (n := 0) (Nat.le_of_ble_eq_true rfl) (Nat.le_of_ble_eq_true rfl) ?_
          refine lv_if_eq (tgt := 132) hx hb dX3_readUnit_124 (by decide) (fun c124 => ?_) (fun c124 => ?_)
          · skip
            have tc124 := f_eq (k := 0) (by decide) c124
            refine lv_bipush (v := 10) hx hb dX3_readUnit_132 (by decide) ?_
            exact J134 10 _ _ _ (by decide) (by decide) hH hS (lv_sub hl [0, 1] rfl)
          · skip
            have tc124 := f_ne (k := 0) (by decide) c124
            refine lv_bipush (v := 9) hx hb dX3_readUnit_127 (by decide) ?_
            refine lv_goto (tgt := 134) hx hb dX3_readUnit_129 (by decide) ?_
            exact J134 9 _ _ _ (by decide) (by decide) hH hS (lv_sub hl [0, 1] rfl)
        · skip
          have tc107 := f_ne (k := 0) (by decide) c107
          refine lv_bipush (v := 8) hx hb dX3_readUnit_110 (by decide) ?_
          refine lv_goto (tgt := 134) hx hb dX3_readUnit_112 (by decide) ?_
          exact J134 8 _ _ _ (by decide) (by decide) hH hS (lv_sub hl [0, 1] rfl)
      · skip
        have tc93 := f_eq (k := 0) (by decide) c93
        refine lv_iconst (v := 0) hx hb dX3_readUnit_96 (by decide) ?_
        exact te_z hx hb hr hlocks (by rfl) hH hS (⟨rfl, by decide, by decide⟩) dX3_readUnit_97
    · skip
      have tc49 := f_ne (k := 0) (by decide) c49
      refine lv_aload_n hx hb dX3_readUnit_52 rfl (lv_at hl 0 rfl) ?_
      refine lv_iload_n hx hb dX3_readUnit_53 rfl (lv_at hl 1 rfl) ?_
      refine tk_i hH hS hA (tr_V (n := 1) (As := [.int x1]) hx hb hml hown hts hkb hH hOX hks hE hS hA (s_LR_enter6 l D cs kf T O X a0 x1 t_a0 (by omega) (by omega) (hO.sub (by decide))) kw_636 kw_638 ks_8 kw_4 kw_639 (by decide +kernel) ⟨Nat.le_of_ble_eq_true rfl, Nat.le_of_ble_eq_true rfl⟩ (HT.recv (ci := 3) hkb hH t_a0 (hO.no t_a0 (by decide)) rfl) rfl rfl hl.1 (Nat.le_of_ble_eq_true rfl) dX3_readUnit_54 ⟨Nat.le_of_ble_eq_true rfl, Nat.le_of_ble_eq_true rfl⟩) (fun v54 u H locs hz9 hH hS => ?_)
      obtain ⟨rfl, l_v54, u_v54⟩ := hz9
      have hH : HT D cs A T O X H := hH
      refine W.widen (k := 0) (n := 0) (Nat.le_of_ble_eq_true rfl) (Nat.le_of_ble_eq_true rfl) ?_
      refine lv_if_eq (tgt := 86) hx hb dX3_readUnit_57 (by decide) (fun c57 => ?_) (fun c57 => ?_)
      · skip
        have tc57 := f_eq (k := 0) (by decide) c57
        refine lv_iconst (v := 0) hx hb dX3_readUnit_86 (by decide) ?_
        exact te_z hx hb hr hlocks (by rfl) hH hS (⟨rfl, by decide, by decide⟩) dX3_readUnit_87
      · skip
        have tc57 := f_ne (k := 0) (by decide) c57
        exfalso; omega
  · skip
    have tc9 := f_ne (k := 0) (by decide) c9
    refine lv_aload_n hx hb dX3_readUnit_12 rfl (lv_at hl 0 rfl) ?_
    refine lv_iload_n hx hb dX3_readUnit_13 rfl (lv_at hl 1 rfl) ?_
    refine tk_i hH hS hA (tr_V (n := 1) (As := [.int x1]) hx hb hml hown hts hkb hH hOX hks hE hS hA (s_LR_enter6 l D cs kf T O X a0 x1 t_a0 (by omega) (by omega) (hO.sub (by decide))) kw_636 kw_638 ks_8 kw_4 kw_639 (by decide +kernel) ⟨Nat.le_of_ble_eq_true rfl, Nat.le_of_ble_eq_true rfl⟩ (HT.recv (ci := 3) hkb hH t_a0 (hO.no t_a0 (by decide)) rfl) rfl rfl hl.1 (Nat.le_of_ble_eq_true rfl) dX3_readUnit_14 ⟨Nat.le_of_ble_eq_true rfl, Nat.le_of_ble_eq_true rfl⟩) (fun v14 u H locs hz9 hH hS => ?_)
    obtain ⟨rfl, l_v14, u_v14⟩ := hz9
    have hH : HT D cs A T O X H := hH
    refine W.widen (k := 0) (n := 0) (Nat.le_of_ble_eq_true rfl) (Nat.le_of_ble_eq_true rfl) ?_
    refine lv_if_eq (tgt := 30) hx hb dX3_readUnit_17 (by decide) (fun c17 => ?_) (fun c17 => ?_)
    · skip
      have tc17 := f_eq (k := 0) (by decide) c17
      refine lv_iconst (v := 0) hx hb dX3_readUnit_30 (by decide) ?_
      exact te_z hx hb hr hlocks (by rfl) hH hS (⟨rfl, by decide, by decide⟩) dX3_readUnit_31
    · skip
      have tc17 := f_ne (k := 0) (by decide) c17
      exfalso; omega
set_option maxHeartbeats 4000000 in
set_option maxRecDepth 100000 in
theorem s_LR_readBoth6 (l : Launch) (D : va_G) (cs : CS) (kf : KF) (T : TF) (O : List Nat) (X : va_W) (a0 : Nat) (x1 : Int32) (t_a0 : T a0 = some (13, 0, 0)) (l_x1 : 6 ≤ x1.toInt) (u_x1 : x1.toInt ≤ 6) (hO : okO T O [0, 1, 13, 17]) : TK l D cs kf yX3_readBoth cX3_readBoth 5 (some (.boolean)) { frames := 10, cells := 0, slots := 0, locals := 218 } [.ref a0, .int x1] T O X (Ti D cs (fun r u => u = (T, O, X) ∧ 0 ≤ r.toInt ∧ r.toInt ≤ 1)) := by
  refine tk_of (by decide) (Nat.le_of_ble_eq_true rfl) (fun p e s m below meth c ls A H locs hx hb hr hml hown hts hlocks hnm hkb hH hS hA hOX hks hE hl => ?_)
  have hown : s.vm.findClass RX3 = some m.cls := hown
  have hl : lv_has ls 5 [(0, .ref a0), (1, .int x1)] := hl
  refine lv_aload_n hx hb dX3_readBoth_0 rfl (lv_at hl 0 rfl) ?_
  refine lv_iload_n hx hb dX3_readBoth_1 rfl (lv_at hl 1 rfl) ?_
  refine tk_i hH hS hA (tr_V (n := 1) (As := [.int x1]) hx hb hml hown hts hkb hH hOX hks hE hS hA (s_LR_readUnit6 l D cs kf T O X a0 x1 t_a0 (by omega) (by omega) (hO.sub (by decide))) kw_630 kw_632 ks_7 kw_4 kw_633 (by decide +kernel) ⟨Nat.le_of_ble_eq_true rfl, Nat.le_of_ble_eq_true rfl⟩ (HT.recv (ci := 3) hkb hH t_a0 (hO.no t_a0 (by decide)) rfl) rfl rfl hl.1 (Nat.le_of_ble_eq_true rfl) dX3_readBoth_2 ⟨Nat.le_of_ble_eq_true rfl, Nat.le_of_ble_eq_true rfl⟩) (fun v2 u H locs hz9 hH hS => ?_)
  obtain ⟨rfl, l_v2, u_v2⟩ := hz9
  have hH : HT D cs A T O X H := hH
  refine W.widen (k := 0) (n := 0) (Nat.le_of_ble_eq_true rfl) (Nat.le_of_ble_eq_true rfl) ?_
  refine lv_istore_n (lv' := [(2, .int v2), (0, .ref a0), (1, .int x1)]) hx hb dX3_readBoth_5 rfl hl (by decide) rfl (fun ls hl => ?_)
  refine lv_iconst (v := 0) hx hb dX3_readBoth_6 (by decide) ?_
  have J8 : ∀ (n : Nat) (p8_3 : Int32) (p8_2 : Int32) (H : Heap) (locs : List Loc) (ls : Array Slot), (900 - p8_3.toInt).toNat = n → (0 ≤ p8_3.toInt) → (p8_3.toInt ≤ 900) → (0 ≤ p8_2.toInt) → (p8_2.toInt ≤ 1) → HT D cs A T O X H → va_S A s.heap H locs → lv_has ls 5 [(3, .int p8_3), (2, .int p8_2), (0, .ref a0), (1, .int x1)] → W p l e { frames := 10, cells := 0, slots := 0, locals := 218 } s m [.ref a0, .int x1].toArray below meth c H locs 0 0 (MQ below (Ti D cs (fun r u => u = (T, O, X) ∧ 0 ≤ r.toInt ∧ r.toInt ≤ 1) A) [.ref a0, .int x1].toArray s 0 0 A) (F0 m 8 ls []) := by
    intro n
    induction n using Nat.strongRecOn with
    | _ n ih8 =>
      intro p8_3 p8_2 H locs ls hm8 l_p8_3 u_p8_3 l_p8_2 u_p8_2 hH hS hl
      refine lv_iload_n hx hb dX3_readBoth_8 rfl (lv_at hl 0 rfl) ?_
      refine lv_sipush (v := 900) hx hb dX3_readBoth_9 (by decide) ?_
      have J68 : ∀  (H : Heap) (locs : List Loc) (ls : Array Slot), HT D cs A T O X H → va_S A s.heap H locs → lv_has ls 5 [(2, .int p8_2)] → W p l e { frames := 10, cells := 0, slots := 0, locals := 218 } s m [.ref a0, .int x1].toArray below meth c H locs 0 0 (MQ below (Ti D cs (fun r u => u = (T, O, X) ∧ 0 ≤ r.toInt ∧ r.toInt ≤ 1) A) [.ref a0, .int x1].toArray s 0 0 A) (F0 m 68 ls []) := by
        intro  H locs ls  hH hS hl
        refine lv_iload_n hx hb dX3_readBoth_68 rfl (lv_at hl 0 rfl) ?_
        exact te_z hx hb hr hlocks (nar01 (by omega) (by omega)) hH hS (⟨rfl, by omega, by omega⟩) dX3_readBoth_69
      refine lv_icmp_ge (tgt := 68) hx hb dX3_readBoth_12 (by decide) (fun c12 => ?_) (fun c12 => ?_)
      · skip
        have tc12 := f_ge (k := 900) (by decide) c12
        exact J68  _ _ _  hH hS (lv_sub hl [1] rfl)
      · skip
        have tc12 := f_nge (k := 900) (by decide) c12
        refine lv_iload_n hx hb dX3_readBoth_15 rfl (lv_at hl 1 rfl) ?_
        refine lv_if_eq (tgt := 68) hx hb dX3_readBoth_16 (by decide) (fun c16 => ?_) (fun c16 => ?_)
        · skip
          have tc16 := f_eq (k := 0) (by decide) c16
          exact J68  _ _ _  hH hS (lv_sub hl [1] rfl)
        · skip
          have tc16 := f_ne (k := 0) (by decide) c16
          refine lv_aload_n hx hb dX3_readBoth_19 rfl (lv_at hl 2 rfl) ?_
          refine t_get (ci := 3) (lst := ft3 0 0) (C := RX3) (F := TX3) (N := 3) hx hb hts uX3 hown hkb hH t_a0 (hO.no t_a0 (by decide)) (fun _ h9 => h9) rfl rfl 0 (by decide) rfl kw_82 (fun _ h9 => h9) dX3_readBoth_20 (fun v9 h9 => ?_)
          obtain ⟨v20, rfl, t_v20⟩ := h9
          refine va_ldcS (q := kf.1 15) hx hb hown (hks ("FootholdWall$LawReader", 63, "and", 15) (by decide +kernel)) dX3_readBoth_23 ?_
          refine tk_i hH hS hA (tr_V (n := 1) (As := [.ref (kf.1 15)]) hx hb hml hown hts hkb hH hOX hks hE hS hA (s_Tok_isWord l D cs kf T O X v20 15 t_v20 (by decide) (hO.sub (by decide))) kw_635 kw_551 kw_552 kw_3 kw_553 (by decide +kernel) ⟨Nat.le_of_ble_eq_true rfl, Nat.le_of_ble_eq_true rfl⟩ (HT.recv (ci := 7) hkb hH t_v20 (hO.no t_v20 (by decide)) rfl) rfl rfl hl.1 (Nat.le_of_ble_eq_true rfl) dX3_readBoth_25 ⟨Nat.le_of_ble_eq_true rfl, Nat.le_of_ble_eq_true rfl⟩) (fun v25 u H locs hz9 hH hS => ?_)
          obtain ⟨rfl, l_v25, u_v25⟩ := hz9
          have hH : HT D cs A T O X H := hH
          refine W.widen (k := 0) (n := 0) (Nat.le_of_ble_eq_true rfl) (Nat.le_of_ble_eq_true rfl) ?_
          refine lv_if_eq (tgt := 68) hx hb dX3_readBoth_28 (by decide) (fun c28 => ?_) (fun c28 => ?_)
          · skip
            have tc28 := f_eq (k := 0) (by decide) c28
            exact J68  _ _ _  hH hS (lv_sub hl [1] rfl)
          · skip
            have tc28 := f_ne (k := 0) (by decide) c28
            refine lv_aload_n hx hb dX3_readBoth_31 rfl (lv_at hl 2 rfl) ?_
            refine t_get (ci := 3) (lst := ft3 0 0) (C := RX3) (F := TX3) (N := 3) hx hb hts uX3 hown hkb hH t_a0 (hO.no t_a0 (by decide)) (fun _ h9 => h9) rfl rfl 0 (by decide) rfl kw_82 (fun _ h9 => h9) dX3_readBoth_32 (fun v9 h9 => ?_)
            obtain ⟨v32, rfl, t_v32⟩ := h9
            refine tk_v hH hS hA (tr_V (n := 0) (As := []) hx hb hml hown hts hkb hH hOX hks hE hS hA (s_Tok_go l D cs kf T O X v32 t_v32 (hO.sub (by decide))) kw_641 kw_453 kw_454 kw_3 kw_455 (by decide +kernel) ⟨Nat.le_of_ble_eq_true rfl, Nat.le_of_ble_eq_true rfl⟩ (HT.recv (ci := 7) hkb hH t_v32 (hO.no t_v32 (by decide)) rfl) rfl rfl hl.1 (Nat.le_of_ble_eq_true rfl) dX3_readBoth_35 ⟨Nat.le_of_ble_eq_true rfl, Nat.le_of_ble_eq_true rfl⟩) (fun u H locs hz9 hH hS => ?_)
            have hz9 : u = (T, O, X) := hz9
            subst hz9
            have hH : HT D cs A T O X H := hH
            refine W.widen (k := 0) (n := 0) (Nat.le_of_ble_eq_true rfl) (Nat.le_of_ble_eq_true rfl) ?_
            refine lv_aload_n hx hb dX3_readBoth_38 rfl (lv_at hl 2 rfl) ?_
            refine t_get (ci := 3) (lst := ft3 0 0) (C := RX3) (F := TX3) (N := 3) hx hb hts uX3 hown hkb hH t_a0 (hO.no t_a0 (by decide)) (fun _ h9 => h9) rfl rfl 2 (by decide) rfl kw_84 (fun _ h9 => h9) dX3_readBoth_39 (fun v9 h9 => ?_)
            obtain ⟨v39, rfl, l_v39, u_v39⟩ := h9
            refine lv_istore (lv' := [(4, .int v39), (3, .int p8_3), (2, .int p8_2), (0, .ref a0), (1, .int x1)]) hx hb dX3_readBoth_42 hl (by decide) rfl (fun ls hl => ?_)
            refine lv_aload_n hx hb dX3_readBoth_44 rfl (lv_at hl 3 rfl) ?_
            refine lv_iconst (v := 3) hx hb dX3_readBoth_45 (by decide) ?_
            refine lv_iconst (v := 0) hx hb dX3_readBoth_46 (by decide) ?_
            refine tk_v hH hS hA (tr_V (n := 2) (As := [.int 3, .int 0]) hx hb hml hown hts hkb hH hOX hks hE hS hA (s_LR_put l D cs kf T O X a0 (3) (0) t_a0 (hO.sub (by decide))) kw_642 kw_644 ks_9 kw_4 kw_645 (by decide +kernel) ⟨Nat.le_of_ble_eq_true rfl, Nat.le_of_ble_eq_true rfl⟩ (HT.recv (ci := 3) hkb hH t_a0 (hO.no t_a0 (by decide)) rfl) rfl rfl hl.1 (Nat.le_of_ble_eq_true rfl) dX3_readBoth_47 ⟨Nat.le_of_ble_eq_true rfl, Nat.le_of_ble_eq_true rfl⟩) (fun u H locs hz9 hH hS => ?_)
            have hz9 : u = (T, O, X) := hz9
            subst hz9
            have hH : HT D cs A T O X H := hH
            refine W.widen (k := 0) (n := 0) (Nat.le_of_ble_eq_true rfl) (Nat.le_of_ble_eq_true rfl) ?_
            refine lv_aload_n hx hb dX3_readBoth_50 rfl (lv_at hl 3 rfl) ?_
            refine lv_iload_n hx hb dX3_readBoth_51 rfl (lv_at hl 4 rfl) ?_
            refine tk_i hH hS hA (tr_V (n := 1) (As := [.int x1]) hx hb hml hown hts hkb hH hOX hks hE hS hA (s_LR_readUnit6 l D cs kf T O X a0 x1 t_a0 (by omega) (by omega) (hO.sub (by decide))) kw_630 kw_632 ks_7 kw_4 kw_633 (by decide +kernel) ⟨Nat.le_of_ble_eq_true rfl, Nat.le_of_ble_eq_true rfl⟩ (HT.recv (ci := 3) hkb hH t_a0 (hO.no t_a0 (by decide)) rfl) rfl rfl hl.1 (Nat.le_of_ble_eq_true rfl) dX3_readBoth_52 ⟨Nat.le_of_ble_eq_true rfl, Nat.le_of_ble_eq_true rfl⟩) (fun v52 u H locs hz9 hH hS => ?_)
            obtain ⟨rfl, l_v52, u_v52⟩ := hz9
            have hH : HT D cs A T O X H := hH
            refine W.widen (k := 0) (n := 0) (Nat.le_of_ble_eq_true rfl) (Nat.le_of_ble_eq_true rfl) ?_
            refine lv_istore_n (lv' := [(2, .int v52), (4, .int v39), (3, .int p8_3), (0, .ref a0), (1, .int x1)]) hx hb dX3_readBoth_55 rfl hl (by decide) rfl (fun ls hl => ?_)
            refine lv_aload_n hx hb dX3_readBoth_56 rfl (lv_at hl 3 rfl) ?_
            refine lv_iload hx hb dX3_readBoth_57 (lv_at hl 1 rfl) ?_
            refine tk_v hH hS hA (tr_V (n := 1) (As := [.int v39]) hx hb hml hown hts hkb hH hOX hks hE hS hA (s_LR_aimSkip l D cs kf T O X a0 v39 t_a0 (hO.sub (by decide))) kw_672 kw_674 ks_14 kw_4 kw_675 (by decide +kernel) ⟨Nat.le_of_ble_eq_true rfl, Nat.le_of_ble_eq_true rfl⟩ (HT.recv (ci := 3) hkb hH t_a0 (hO.no t_a0 (by decide)) rfl) rfl rfl hl.1 (Nat.le_of_ble_eq_true rfl) dX3_readBoth_59 ⟨Nat.le_of_ble_eq_true rfl, Nat.le_of_ble_eq_true rfl⟩) (fun u H locs hz9 hH hS => ?_)
            have hz9 : u = (T, O, X) := hz9
            subst hz9
            have hH : HT D cs A T O X H := hH
            refine W.widen (k := 0) (n := 0) (Nat.le_of_ble_eq_true rfl) (Nat.le_of_ble_eq_true rfl) ?_
            obtain ⟨v62, ev62⟩ : ∃ y : Int32, y = p8_3 + 1 := ⟨_, rfl⟩
            have tv62 : v62.toInt = p8_3.toInt + (1) := by rw [ev62]; exact add_i rfl (by decide) (by omega) (by omega)
            refine lv_iinc (v := v62) (lv' := [(3, .int v62), (2, .int v52), (4, .int v39), (0, .ref a0), (1, .int x1)]) hx hb dX3_readBoth_62 hl (k := 2) rfl (by rw [ev62]; rfl) (by decide) rfl (fun ls hl => ?_)
            refine lv_goto (tgt := 8) hx hb dX3_readBoth_65 (by decide) ?_
            exact ih8 _ (by omega) v62 v52 _ _ _ rfl (by omega) (by omega) (by omega) (by omega) hH hS (lv_sub hl [0, 1, 3, 4] rfl)
  refine lv_istore_n (lv' := [(3, .int 0), (2, .int v2), (0, .ref a0), (1, .int x1)]) hx hb dX3_readBoth_7 rfl hl (by decide) rfl (fun ls hl => ?_)
  exact J8 _ 0 v2 _ _ _ rfl (by decide) (by decide) (by omega) (by omega) hH hS (lv_sub hl [0, 1, 2, 3] rfl)
set_option maxHeartbeats 4000000 in
set_option maxRecDepth 100000 in
theorem s_LR_readTruth6 (l : Launch) (D : va_G) (cs : CS) (kf : KF) (T : TF) (O : List Nat) (X : va_W) (a0 : Nat) (x1 : Int32) (t_a0 : T a0 = some (13, 0, 0)) (l_x1 : 6 ≤ x1.toInt) (u_x1 : x1.toInt ≤ 6) (hO : okO T O [0, 1, 13, 17]) : TK l D cs kf yX3_readTruth cX3_readTruth 5 (some (.boolean)) { frames := 11, cells := 0, slots := 0, locals := 242 } [.ref a0, .int x1] T O X (Ti D cs (fun r u => u = (T, O, X) ∧ 0 ≤ r.toInt ∧ r.toInt ≤ 1)) := by
  refine tk_of (by decide) (Nat.le_of_ble_eq_true rfl) (fun p e s m below meth c ls A H locs hx hb hr hml hown hts hlocks hnm hkb hH hS hA hOX hks hE hl => ?_)
  have hown : s.vm.findClass RX3 = some m.cls := hown
  have hl : lv_has ls 5 [(0, .ref a0), (1, .int x1)] := hl
  refine lv_aload_n hx hb dX3_readTruth_0 rfl (lv_at hl 0 rfl) ?_
  refine lv_iload_n hx hb dX3_readTruth_1 rfl (lv_at hl 1 rfl) ?_
  refine tk_i hH hS hA (tr_V (n := 1) (As := [.int x1]) hx hb hml hown hts hkb hH hOX hks hE hS hA (s_LR_readBoth6 l D cs kf T O X a0 x1 t_a0 (by omega) (by omega) (hO.sub (by decide))) kw_626 kw_628 ks_6 kw_4 kw_629 (by decide +kernel) ⟨Nat.le_of_ble_eq_true rfl, Nat.le_of_ble_eq_true rfl⟩ (HT.recv (ci := 3) hkb hH t_a0 (hO.no t_a0 (by decide)) rfl) rfl rfl hl.1 (Nat.le_of_ble_eq_true rfl) dX3_readTruth_2 ⟨Nat.le_of_ble_eq_true rfl, Nat.le_of_ble_eq_true rfl⟩) (fun v2 u H locs hz9 hH hS => ?_)
  obtain ⟨rfl, l_v2, u_v2⟩ := hz9
  have hH : HT D cs A T O X H := hH
  refine W.widen (k := 0) (n := 0) (Nat.le_of_ble_eq_true rfl) (Nat.le_of_ble_eq_true rfl) ?_
  refine lv_istore_n (lv' := [(2, .int v2), (0, .ref a0), (1, .int x1)]) hx hb dX3_readTruth_5 rfl hl (by decide) rfl (fun ls hl => ?_)
  refine lv_iconst (v := 0) hx hb dX3_readTruth_6 (by decide) ?_
  have J8 : ∀ (n : Nat) (p8_3 : Int32) (p8_2 : Int32) (H : Heap) (locs : List Loc) (ls : Array Slot), (900 - p8_3.toInt).toNat = n → (0 ≤ p8_3.toInt) → (p8_3.toInt ≤ 900) → (0 ≤ p8_2.toInt) → (p8_2.toInt ≤ 1) → HT D cs A T O X H → va_S A s.heap H locs → lv_has ls 5 [(3, .int p8_3), (2, .int p8_2), (0, .ref a0), (1, .int x1)] → W p l e { frames := 11, cells := 0, slots := 0, locals := 242 } s m [.ref a0, .int x1].toArray below meth c H locs 0 0 (MQ below (Ti D cs (fun r u => u = (T, O, X) ∧ 0 ≤ r.toInt ∧ r.toInt ≤ 1) A) [.ref a0, .int x1].toArray s 0 0 A) (F0 m 8 ls []) := by
    intro n
    induction n using Nat.strongRecOn with
    | _ n ih8 =>
      intro p8_3 p8_2 H locs ls hm8 l_p8_3 u_p8_3 l_p8_2 u_p8_2 hH hS hl
      refine lv_iload_n hx hb dX3_readTruth_8 rfl (lv_at hl 0 rfl) ?_
      refine lv_sipush (v := 900) hx hb dX3_readTruth_9 (by decide) ?_
      have J68 : ∀  (H : Heap) (locs : List Loc) (ls : Array Slot), HT D cs A T O X H → va_S A s.heap H locs → lv_has ls 5 [(2, .int p8_2)] → W p l e { frames := 11, cells := 0, slots := 0, locals := 242 } s m [.ref a0, .int x1].toArray below meth c H locs 0 0 (MQ below (Ti D cs (fun r u => u = (T, O, X) ∧ 0 ≤ r.toInt ∧ r.toInt ≤ 1) A) [.ref a0, .int x1].toArray s 0 0 A) (F0 m 68 ls []) := by
        intro  H locs ls  hH hS hl
        refine lv_iload_n hx hb dX3_readTruth_68 rfl (lv_at hl 0 rfl) ?_
        exact te_z hx hb hr hlocks (nar01 (by omega) (by omega)) hH hS (⟨rfl, by omega, by omega⟩) dX3_readTruth_69
      refine lv_icmp_ge (tgt := 68) hx hb dX3_readTruth_12 (by decide) (fun c12 => ?_) (fun c12 => ?_)
      · skip
        have tc12 := f_ge (k := 900) (by decide) c12
        exact J68  _ _ _  hH hS (lv_sub hl [1] rfl)
      · skip
        have tc12 := f_nge (k := 900) (by decide) c12
        refine lv_iload_n hx hb dX3_readTruth_15 rfl (lv_at hl 1 rfl) ?_
        refine lv_if_eq (tgt := 68) hx hb dX3_readTruth_16 (by decide) (fun c16 => ?_) (fun c16 => ?_)
        · skip
          have tc16 := f_eq (k := 0) (by decide) c16
          exact J68  _ _ _  hH hS (lv_sub hl [1] rfl)
        · skip
          have tc16 := f_ne (k := 0) (by decide) c16
          refine lv_aload_n hx hb dX3_readTruth_19 rfl (lv_at hl 2 rfl) ?_
          refine t_get (ci := 3) (lst := ft3 0 0) (C := RX3) (F := TX3) (N := 3) hx hb hts uX3 hown hkb hH t_a0 (hO.no t_a0 (by decide)) (fun _ h9 => h9) rfl rfl 0 (by decide) rfl kw_82 (fun _ h9 => h9) dX3_readTruth_20 (fun v9 h9 => ?_)
          obtain ⟨v20, rfl, t_v20⟩ := h9
          refine va_ldcS (q := kf.1 16) hx hb hown (hks ("FootholdWall$LawReader", 41, "or", 16) (by decide +kernel)) dX3_readTruth_23 ?_
          refine tk_i hH hS hA (tr_V (n := 1) (As := [.ref (kf.1 16)]) hx hb hml hown hts hkb hH hOX hks hE hS hA (s_Tok_isWord l D cs kf T O X v20 16 t_v20 (by decide) (hO.sub (by decide))) kw_635 kw_551 kw_552 kw_3 kw_553 (by decide +kernel) ⟨Nat.le_of_ble_eq_true rfl, Nat.le_of_ble_eq_true rfl⟩ (HT.recv (ci := 7) hkb hH t_v20 (hO.no t_v20 (by decide)) rfl) rfl rfl hl.1 (Nat.le_of_ble_eq_true rfl) dX3_readTruth_25 ⟨Nat.le_of_ble_eq_true rfl, Nat.le_of_ble_eq_true rfl⟩) (fun v25 u H locs hz9 hH hS => ?_)
          obtain ⟨rfl, l_v25, u_v25⟩ := hz9
          have hH : HT D cs A T O X H := hH
          refine W.widen (k := 0) (n := 0) (Nat.le_of_ble_eq_true rfl) (Nat.le_of_ble_eq_true rfl) ?_
          refine lv_if_eq (tgt := 68) hx hb dX3_readTruth_28 (by decide) (fun c28 => ?_) (fun c28 => ?_)
          · skip
            have tc28 := f_eq (k := 0) (by decide) c28
            exact J68  _ _ _  hH hS (lv_sub hl [1] rfl)
          · skip
            have tc28 := f_ne (k := 0) (by decide) c28
            refine lv_aload_n hx hb dX3_readTruth_31 rfl (lv_at hl 2 rfl) ?_
            refine t_get (ci := 3) (lst := ft3 0 0) (C := RX3) (F := TX3) (N := 3) hx hb hts uX3 hown hkb hH t_a0 (hO.no t_a0 (by decide)) (fun _ h9 => h9) rfl rfl 0 (by decide) rfl kw_82 (fun _ h9 => h9) dX3_readTruth_32 (fun v9 h9 => ?_)
            obtain ⟨v32, rfl, t_v32⟩ := h9
            refine tk_v hH hS hA (tr_V (n := 0) (As := []) hx hb hml hown hts hkb hH hOX hks hE hS hA (s_Tok_go l D cs kf T O X v32 t_v32 (hO.sub (by decide))) kw_641 kw_453 kw_454 kw_3 kw_455 (by decide +kernel) ⟨Nat.le_of_ble_eq_true rfl, Nat.le_of_ble_eq_true rfl⟩ (HT.recv (ci := 7) hkb hH t_v32 (hO.no t_v32 (by decide)) rfl) rfl rfl hl.1 (Nat.le_of_ble_eq_true rfl) dX3_readTruth_35 ⟨Nat.le_of_ble_eq_true rfl, Nat.le_of_ble_eq_true rfl⟩) (fun u H locs hz9 hH hS => ?_)
            have hz9 : u = (T, O, X) := hz9
            subst hz9
            have hH : HT D cs A T O X H := hH
            refine W.widen (k := 0) (n := 0) (Nat.le_of_ble_eq_true rfl) (Nat.le_of_ble_eq_true rfl) ?_
            refine lv_aload_n hx hb dX3_readTruth_38 rfl (lv_at hl 2 rfl) ?_
            refine t_get (ci := 3) (lst := ft3 0 0) (C := RX3) (F := TX3) (N := 3) hx hb hts uX3 hown hkb hH t_a0 (hO.no t_a0 (by decide)) (fun _ h9 => h9) rfl rfl 2 (by decide) rfl kw_84 (fun _ h9 => h9) dX3_readTruth_39 (fun v9 h9 => ?_)
            obtain ⟨v39, rfl, l_v39, u_v39⟩ := h9
            refine lv_istore (lv' := [(4, .int v39), (3, .int p8_3), (2, .int p8_2), (0, .ref a0), (1, .int x1)]) hx hb dX3_readTruth_42 hl (by decide) rfl (fun ls hl => ?_)
            refine lv_aload_n hx hb dX3_readTruth_44 rfl (lv_at hl 3 rfl) ?_
            refine lv_iconst (v := 4) hx hb dX3_readTruth_45 (by decide) ?_
            refine lv_iconst (v := 0) hx hb dX3_readTruth_46 (by decide) ?_
            refine tk_v hH hS hA (tr_V (n := 2) (As := [.int 4, .int 0]) hx hb hml hown hts hkb hH hOX hks hE hS hA (s_LR_put l D cs kf T O X a0 (4) (0) t_a0 (hO.sub (by decide))) kw_642 kw_644 ks_9 kw_4 kw_645 (by decide +kernel) ⟨Nat.le_of_ble_eq_true rfl, Nat.le_of_ble_eq_true rfl⟩ (HT.recv (ci := 3) hkb hH t_a0 (hO.no t_a0 (by decide)) rfl) rfl rfl hl.1 (Nat.le_of_ble_eq_true rfl) dX3_readTruth_47 ⟨Nat.le_of_ble_eq_true rfl, Nat.le_of_ble_eq_true rfl⟩) (fun u H locs hz9 hH hS => ?_)
            have hz9 : u = (T, O, X) := hz9
            subst hz9
            have hH : HT D cs A T O X H := hH
            refine W.widen (k := 0) (n := 0) (Nat.le_of_ble_eq_true rfl) (Nat.le_of_ble_eq_true rfl) ?_
            refine lv_aload_n hx hb dX3_readTruth_50 rfl (lv_at hl 3 rfl) ?_
            refine lv_iload_n hx hb dX3_readTruth_51 rfl (lv_at hl 4 rfl) ?_
            refine tk_i hH hS hA (tr_V (n := 1) (As := [.int x1]) hx hb hml hown hts hkb hH hOX hks hE hS hA (s_LR_readBoth6 l D cs kf T O X a0 x1 t_a0 (by omega) (by omega) (hO.sub (by decide))) kw_626 kw_628 ks_6 kw_4 kw_629 (by decide +kernel) ⟨Nat.le_of_ble_eq_true rfl, Nat.le_of_ble_eq_true rfl⟩ (HT.recv (ci := 3) hkb hH t_a0 (hO.no t_a0 (by decide)) rfl) rfl rfl hl.1 (Nat.le_of_ble_eq_true rfl) dX3_readTruth_52 ⟨Nat.le_of_ble_eq_true rfl, Nat.le_of_ble_eq_true rfl⟩) (fun v52 u H locs hz9 hH hS => ?_)
            obtain ⟨rfl, l_v52, u_v52⟩ := hz9
            have hH : HT D cs A T O X H := hH
            refine W.widen (k := 0) (n := 0) (Nat.le_of_ble_eq_true rfl) (Nat.le_of_ble_eq_true rfl) ?_
            refine lv_istore_n (lv' := [(2, .int v52), (4, .int v39), (3, .int p8_3), (0, .ref a0), (1, .int x1)]) hx hb dX3_readTruth_55 rfl hl (by decide) rfl (fun ls hl => ?_)
            refine lv_aload_n hx hb dX3_readTruth_56 rfl (lv_at hl 3 rfl) ?_
            refine lv_iload hx hb dX3_readTruth_57 (lv_at hl 1 rfl) ?_
            refine tk_v hH hS hA (tr_V (n := 1) (As := [.int v39]) hx hb hml hown hts hkb hH hOX hks hE hS hA (s_LR_aimSkip l D cs kf T O X a0 v39 t_a0 (hO.sub (by decide))) kw_672 kw_674 ks_14 kw_4 kw_675 (by decide +kernel) ⟨Nat.le_of_ble_eq_true rfl, Nat.le_of_ble_eq_true rfl⟩ (HT.recv (ci := 3) hkb hH t_a0 (hO.no t_a0 (by decide)) rfl) rfl rfl hl.1 (Nat.le_of_ble_eq_true rfl) dX3_readTruth_59 ⟨Nat.le_of_ble_eq_true rfl, Nat.le_of_ble_eq_true rfl⟩) (fun u H locs hz9 hH hS => ?_)
            have hz9 : u = (T, O, X) := hz9
            subst hz9
            have hH : HT D cs A T O X H := hH
            refine W.widen (k := 0) (n := 0) (Nat.le_of_ble_eq_true rfl) (Nat.le_of_ble_eq_true rfl) ?_
            obtain ⟨v62, ev62⟩ : ∃ y : Int32, y = p8_3 + 1 := ⟨_, rfl⟩
            have tv62 : v62.toInt = p8_3.toInt + (1) := by rw [ev62]; exact add_i rfl (by decide) (by omega) (by omega)
            refine lv_iinc (v := v62) (lv' := [(3, .int v62), (2, .int v52), (4, .int v39), (0, .ref a0), (1, .int x1)]) hx hb dX3_readTruth_62 hl (k := 2) rfl (by rw [ev62]; rfl) (by decide) rfl (fun ls hl => ?_)
            refine lv_goto (tgt := 8) hx hb dX3_readTruth_65 (by decide) ?_
            exact ih8 _ (by omega) v62 v52 _ _ _ rfl (by omega) (by omega) (by omega) (by omega) hH hS (lv_sub hl [0, 1, 3, 4] rfl)
  refine lv_istore_n (lv' := [(3, .int 0), (2, .int v2), (0, .ref a0), (1, .int x1)]) hx hb dX3_readTruth_7 rfl hl (by decide) rfl (fun ls hl => ?_)
  exact J8 _ 0 v2 _ _ _ rfl (by decide) (by decide) (by omega) (by omega) hH hS (lv_sub hl [0, 1, 2, 3] rfl)
set_option maxHeartbeats 4000000 in
set_option maxRecDepth 100000 in
theorem s_LR_enter5 (l : Launch) (D : va_G) (cs : CS) (kf : KF) (T : TF) (O : List Nat) (X : va_W) (a0 : Nat) (x1 : Int32) (t_a0 : T a0 = some (13, 0, 0)) (l_x1 : 5 ≤ x1.toInt) (u_x1 : x1.toInt ≤ 5) (hO : okO T O [0, 13, 17]) : TK l D cs kf yX3_enter cX3_enter 2 (some (.boolean)) { frames := 5, cells := 0, slots := 0, locals := 111 } [.ref a0, .int x1] T O X (Ti D cs (fun r u => u = (T, O, X) ∧ 1 ≤ r.toInt ∧ r.toInt ≤ 1)) := by
  refine tk_of (by decide) (Nat.le_of_ble_eq_true rfl) (fun p e s m below meth c ls A H locs hx hb hr hml hown hts hlocks hnm hkb hH hS hA hOX hks hE hl => ?_)
  have hown : s.vm.findClass RX3 = some m.cls := hown
  have hl : lv_has ls 2 [(0, .ref a0), (1, .int x1)] := hl
  refine lv_iload_n hx hb dX3_enter_0 rfl (lv_at hl 1 rfl) ?_
  refine lv_bipush (v := 6) hx hb dX3_enter_1 (by decide) ?_
  refine lv_icmp_lt (tgt := 15) hx hb dX3_enter_3 (by decide) (fun c3 => ?_) (fun c3 => ?_)
  · skip
    have tc3 := f_lt (k := 6) (by decide) c3
    refine lv_aload_n hx hb dX3_enter_15 rfl (lv_at hl 0 rfl) ?_
    refine t_get (ci := 3) (lst := ft3 0 0) (C := RX3) (F := TX3) (N := 3) hx hb hts uX3 hown hkb hH t_a0 (hO.no t_a0 (by decide)) (fun _ h9 => h9) rfl rfl 0 (by decide) rfl kw_82 (fun _ h9 => h9) dX3_enter_16 (fun v9 h9 => ?_)
    obtain ⟨v16, rfl, t_v16⟩ := h9
    refine tk_v hH hS hA (tr_V (n := 0) (As := []) hx hb hml hown hts hkb hH hOX hks hE hS hA (s_Tok_go l D cs kf T O X v16 t_v16 (hO.sub (by decide))) kw_641 kw_453 kw_454 kw_3 kw_455 (by decide +kernel) ⟨Nat.le_of_ble_eq_true rfl, Nat.le_of_ble_eq_true rfl⟩ (HT.recv (ci := 7) hkb hH t_v16 (hO.no t_v16 (by decide)) rfl) rfl rfl hl.1 (Nat.le_of_ble_eq_true rfl) dX3_enter_19 ⟨Nat.le_of_ble_eq_true rfl, Nat.le_of_ble_eq_true rfl⟩) (fun u H locs hz9 hH hS => ?_)
    have hz9 : u = (T, O, X) := hz9
    subst hz9
    have hH : HT D cs A T O X H := hH
    refine W.widen (k := 0) (n := 0) (Nat.le_of_ble_eq_true rfl) (Nat.le_of_ble_eq_true rfl) ?_
    refine lv_iconst (v := 1) hx hb dX3_enter_22 (by decide) ?_
    exact te_z hx hb hr hlocks (by rfl) hH hS (⟨rfl, by decide, by decide⟩) dX3_enter_23
  · skip
    have tc3 := f_nlt (k := 6) (by decide) c3
    exfalso; omega
set_option maxHeartbeats 4000000 in
set_option maxRecDepth 100000 in
theorem s_LR_readAtom5 (l : Launch) (D : va_G) (cs : CS) (kf : KF) (T : TF) (O : List Nat) (X : va_W) (a0 : Nat) (x1 : Int32) (t_a0 : T a0 = some (13, 0, 0)) (l_x1 : 5 ≤ x1.toInt) (u_x1 : x1.toInt ≤ 5) (hO : okO T O [0, 1, 13, 17]) : TK l D cs kf yX3_readAtom cX3_readAtom 3 (some (.boolean)) { frames := 9, cells := 0, slots := 0, locals := 196 } [.ref a0, .int x1] T O X (Ti D cs (fun r u => u = (T, O, X) ∧ 0 ≤ r.toInt ∧ r.toInt ≤ 1)) := by
  refine tk_of (by decide) (Nat.le_of_ble_eq_true rfl) (fun p e s m below meth c ls A H locs hx hb hr hml hown hts hlocks hnm hkb hH hS hA hOX hks hE hl => ?_)
  have hown : s.vm.findClass RX3 = some m.cls := hown
  have hl : lv_has ls 3 [(0, .ref a0), (1, .int x1)] := hl
  refine lv_aload_n hx hb dX3_readAtom_0 rfl (lv_at hl 0 rfl) ?_
  refine t_get (ci := 3) (lst := ft3 0 0) (C := RX3) (F := TX3) (N := 3) hx hb hts uX3 hown hkb hH t_a0 (hO.no t_a0 (by decide)) (fun _ h9 => h9) rfl rfl 0 (by decide) rfl kw_82 (fun _ h9 => h9) dX3_readAtom_1 (fun v9 h9 => ?_)
  obtain ⟨v1, rfl, t_v1⟩ := h9
  refine lv_bipush (v := 40) hx hb dX3_readAtom_4 (by decide) ?_
  refine tk_i hH hS hA (tr_V (n := 1) (As := [.int 40]) hx hb hml hown hts hkb hH hOX hks hE hS hA (s_Tok_isSign l D cs kf T O X v1 (40) t_v1 (hO.sub (by decide))) kw_646 kw_615 kw_616 kw_3 kw_617 (by decide +kernel) ⟨Nat.le_of_ble_eq_true rfl, Nat.le_of_ble_eq_true rfl⟩ (HT.recv (ci := 7) hkb hH t_v1 (hO.no t_v1 (by decide)) rfl) rfl rfl hl.1 (Nat.le_of_ble_eq_true rfl) dX3_readAtom_6 ⟨Nat.le_of_ble_eq_true rfl, Nat.le_of_ble_eq_true rfl⟩) (fun v6 u H locs hz9 hH hS => ?_)
  obtain ⟨rfl, l_v6, u_v6⟩ := hz9
  have hH : HT D cs A T O X H := hH
  refine W.widen (k := 0) (n := 0) (Nat.le_of_ble_eq_true rfl) (Nat.le_of_ble_eq_true rfl) ?_
  refine lv_if_eq (tgt := 48) hx hb dX3_readAtom_9 (by decide) (fun c9 => ?_) (fun c9 => ?_)
  · skip
    have tc9 := f_eq (k := 0) (by decide) c9
    refine lv_aload_n hx hb dX3_readAtom_48 rfl (lv_at hl 0 rfl) ?_
    refine t_get (ci := 3) (lst := ft3 0 0) (C := RX3) (F := TX3) (N := 3) hx hb hts uX3 hown hkb hH t_a0 (hO.no t_a0 (by decide)) (fun _ h9 => h9) rfl rfl 0 (by decide) rfl kw_82 (fun _ h9 => h9) dX3_readAtom_49 (fun v9 h9 => ?_)
    obtain ⟨v49, rfl, t_v49⟩ := h9
    refine t_get (ci := 7) (lst := ft7 0 0) (C := RX7) (F := TX7) (N := 8) hx hb hts uX7 hown hkb hH t_v49 (hO.no t_v49 (by decide)) (fun _ h9 => ob7_ok h9) rfl rfl 4 (by decide) rfl kw_50 (fun _ h9 => h9) dX3_readAtom_52 (fun v9 h9 => ?_)
    obtain ⟨v52, rfl⟩ := h9
    refine lv_iconst (v := 2) hx hb dX3_readAtom_55 (by decide) ?_
    refine lv_icmp_ne (tgt := 80) hx hb dX3_readAtom_56 (by decide) (fun c56 => ?_) (fun c56 => ?_)
    · skip
      have tc56 := f_ne (k := 2) (by decide) c56
      refine lv_aload_n hx hb dX3_readAtom_80 rfl (lv_at hl 0 rfl) ?_
      refine tk_i hH hS hA (tr_V (n := 0) (As := []) hx hb hml hown hts hkb hH hOX hks hE hS hA (s_LR_factHere l D cs kf T O X a0 t_a0 (hO.sub (by decide))) kw_660 kw_662 ks_13 kw_4 kw_663 (by decide +kernel) ⟨Nat.le_of_ble_eq_true rfl, Nat.le_of_ble_eq_true rfl⟩ (HT.recv (ci := 3) hkb hH t_a0 (hO.no t_a0 (by decide)) rfl) rfl rfl hl.1 (Nat.le_of_ble_eq_true rfl) dX3_readAtom_81 ⟨Nat.le_of_ble_eq_true rfl, Nat.le_of_ble_eq_true rfl⟩) (fun v81 u H locs hz9 hH hS => ?_)
      obtain ⟨rfl, l_v81, u_v81⟩ := hz9
      have hH : HT D cs A T O X H := hH
      refine W.widen (k := 0) (n := 0) (Nat.le_of_ble_eq_true rfl) (Nat.le_of_ble_eq_true rfl) ?_
      refine lv_istore_n (lv' := [(2, .int v81), (0, .ref a0), (1, .int x1)]) hx hb dX3_readAtom_84 rfl hl (by decide) rfl (fun ls hl => ?_)
      refine lv_iload_n hx hb dX3_readAtom_85 rfl (lv_at hl 0 rfl) ?_
      refine lv_iconst (v := (-1)) hx hb dX3_readAtom_86 (by decide) ?_
      refine lv_icmp_ne (tgt := 99) hx hb dX3_readAtom_87 (by decide) (fun c87 => ?_) (fun c87 => ?_)
      · skip
        have tc87 := f_ne (k := -1) (by decide) c87
        refine lv_aload_n hx hb dX3_readAtom_99 rfl (lv_at hl 1 rfl) ?_
        refine lv_iconst (v := 1) hx hb dX3_readAtom_100 (by decide) ?_
        refine lv_iload_n hx hb dX3_readAtom_101 rfl (lv_at hl 0 rfl) ?_
        refine tk_v hH hS hA (tr_V (n := 2) (As := [.int 1, .int v81]) hx hb hml hown hts hkb hH hOX hks hE hS hA (s_LR_put l D cs kf T O X a0 (1) v81 t_a0 (hO.sub (by decide))) kw_642 kw_644 ks_9 kw_4 kw_645 (by decide +kernel) ⟨Nat.le_of_ble_eq_true rfl, Nat.le_of_ble_eq_true rfl⟩ (HT.recv (ci := 3) hkb hH t_a0 (hO.no t_a0 (by decide)) rfl) rfl rfl hl.1 (Nat.le_of_ble_eq_true rfl) dX3_readAtom_102 ⟨Nat.le_of_ble_eq_true rfl, Nat.le_of_ble_eq_true rfl⟩) (fun u H locs hz9 hH hS => ?_)
        have hz9 : u = (T, O, X) := hz9
        subst hz9
        have hH : HT D cs A T O X H := hH
        refine W.widen (k := 0) (n := 0) (Nat.le_of_ble_eq_true rfl) (Nat.le_of_ble_eq_true rfl) ?_
        refine lv_aload_n hx hb dX3_readAtom_105 rfl (lv_at hl 1 rfl) ?_
        refine t_get (ci := 3) (lst := ft3 0 0) (C := RX3) (F := TX3) (N := 3) hx hb hts uX3 hown hkb hH t_a0 (hO.no t_a0 (by decide)) (fun _ h9 => h9) rfl rfl 0 (by decide) rfl kw_82 (fun _ h9 => h9) dX3_readAtom_106 (fun v9 h9 => ?_)
        obtain ⟨v106, rfl, t_v106⟩ := h9
        refine tk_v hH hS hA (tr_V (n := 0) (As := []) hx hb hml hown hts hkb hH hOX hks hE hS hA (s_Tok_go l D cs kf T O X v106 t_v106 (hO.sub (by decide))) kw_641 kw_453 kw_454 kw_3 kw_455 (by decide +kernel) ⟨Nat.le_of_ble_eq_true rfl, Nat.le_of_ble_eq_true rfl⟩ (HT.recv (ci := 7) hkb hH t_v106 (hO.no t_v106 (by decide)) rfl) rfl rfl hl.1 (Nat.le_of_ble_eq_true rfl) dX3_readAtom_109 ⟨Nat.le_of_ble_eq_true rfl, Nat.le_of_ble_eq_true rfl⟩) (fun u H locs hz9 hH hS => ?_)
        have hz9 : u = (T, O, X) := hz9
        subst hz9
        have hH : HT D cs A T O X H := hH
        refine W.widen (k := 0) (n := 0) (Nat.le_of_ble_eq_true rfl) (Nat.le_of_ble_eq_true rfl) ?_
        refine lv_iconst (v := 1) hx hb dX3_readAtom_112 (by decide) ?_
        exact te_z hx hb hr hlocks (by rfl) hH hS (⟨rfl, by decide, by decide⟩) dX3_readAtom_113
      · skip
        have tc87 := f_eq (k := -1) (by decide) c87
        refine lv_aload_n hx hb dX3_readAtom_90 rfl (lv_at hl 1 rfl) ?_
        refine t_get (ci := 3) (lst := ft3 0 0) (C := RX3) (F := TX3) (N := 3) hx hb hts uX3 hown hkb hH t_a0 (hO.no t_a0 (by decide)) (fun _ h9 => h9) rfl rfl 0 (by decide) rfl kw_82 (fun _ h9 => h9) dX3_readAtom_91 (fun v9 h9 => ?_)
        obtain ⟨v91, rfl, t_v91⟩ := h9
        refine lv_iconst (v := 2) hx hb dX3_readAtom_94 (by decide) ?_
        refine tk_i hH hS hA (tr_V (n := 1) (As := [.int 2]) hx hb hml hown hts hkb hH hOX hks hE hS hA (s_Tok_refuse l D cs kf T O X v91 (2) t_v91 (hO.sub (by decide))) kw_640 kw_580 kw_581 kw_3 kw_582 (by decide +kernel) ⟨Nat.le_of_ble_eq_true rfl, Nat.le_of_ble_eq_true rfl⟩ (HT.recv (ci := 7) hkb hH t_v91 (hO.no t_v91 (by decide)) rfl) rfl rfl hl.1 (Nat.le_of_ble_eq_true rfl) dX3_readAtom_95 ⟨Nat.le_of_ble_eq_true rfl, Nat.le_of_ble_eq_true rfl⟩) (fun v95 u H locs hz9 hH hS => ?_)
        obtain ⟨rfl, l_v95, u_v95⟩ := hz9
        have hH : HT D cs A T O X H := hH
        refine W.widen (k := 0) (n := 0) (Nat.le_of_ble_eq_true rfl) (Nat.le_of_ble_eq_true rfl) ?_
        exact te_z hx hb hr hlocks (nar01 (by omega) (by omega)) hH hS (⟨rfl, by omega, by omega⟩) dX3_readAtom_98
    · skip
      have tc56 := f_eq (k := 2) (by decide) c56
      refine lv_aload_n hx hb dX3_readAtom_59 rfl (lv_at hl 0 rfl) ?_
      refine lv_iconst (v := 0) hx hb dX3_readAtom_60 (by decide) ?_
      refine lv_aload_n hx hb dX3_readAtom_61 rfl (lv_at hl 0 rfl) ?_
      refine t_get (ci := 3) (lst := ft3 0 0) (C := RX3) (F := TX3) (N := 3) hx hb hts uX3 hown hkb hH t_a0 (hO.no t_a0 (by decide)) (fun _ h9 => h9) rfl rfl 0 (by decide) rfl kw_82 (fun _ h9 => h9) dX3_readAtom_62 (fun v9 h9 => ?_)
      obtain ⟨v62, rfl, t_v62⟩ := h9
      refine t_get (ci := 7) (lst := ft7 0 0) (C := RX7) (F := TX7) (N := 8) hx hb hts uX7 hown hkb hH t_v62 (hO.no t_v62 (by decide)) (fun _ h9 => ob7_ok h9) rfl rfl 5 (by decide) rfl kw_53 (fun _ h9 => h9) dX3_readAtom_65 (fun v9 h9 => ?_)
      obtain ⟨v65, rfl⟩ := h9
      refine tk_v hH hS hA (tr_V (n := 2) (As := [.int 0, .int v65]) hx hb hml hown hts hkb hH hOX hks hE hS hA (s_LR_put l D cs kf T O X a0 (0) v65 t_a0 (hO.sub (by decide))) kw_642 kw_644 ks_9 kw_4 kw_645 (by decide +kernel) ⟨Nat.le_of_ble_eq_true rfl, Nat.le_of_ble_eq_true rfl⟩ (HT.recv (ci := 3) hkb hH t_a0 (hO.no t_a0 (by decide)) rfl) rfl rfl hl.1 (Nat.le_of_ble_eq_true rfl) dX3_readAtom_68 ⟨Nat.le_of_ble_eq_true rfl, Nat.le_of_ble_eq_true rfl⟩) (fun u H locs hz9 hH hS => ?_)
      have hz9 : u = (T, O, X) := hz9
      subst hz9
      have hH : HT D cs A T O X H := hH
      refine W.widen (k := 0) (n := 0) (Nat.le_of_ble_eq_true rfl) (Nat.le_of_ble_eq_true rfl) ?_
      refine lv_aload_n hx hb dX3_readAtom_71 rfl (lv_at hl 0 rfl) ?_
      refine t_get (ci := 3) (lst := ft3 0 0) (C := RX3) (F := TX3) (N := 3) hx hb hts uX3 hown hkb hH t_a0 (hO.no t_a0 (by decide)) (fun _ h9 => h9) rfl rfl 0 (by decide) rfl kw_82 (fun _ h9 => h9) dX3_readAtom_72 (fun v9 h9 => ?_)
      obtain ⟨v72, rfl, t_v72⟩ := h9
      refine tk_v hH hS hA (tr_V (n := 0) (As := []) hx hb hml hown hts hkb hH hOX hks hE hS hA (s_Tok_go l D cs kf T O X v72 t_v72 (hO.sub (by decide))) kw_641 kw_453 kw_454 kw_3 kw_455 (by decide +kernel) ⟨Nat.le_of_ble_eq_true rfl, Nat.le_of_ble_eq_true rfl⟩ (HT.recv (ci := 7) hkb hH t_v72 (hO.no t_v72 (by decide)) rfl) rfl rfl hl.1 (Nat.le_of_ble_eq_true rfl) dX3_readAtom_75 ⟨Nat.le_of_ble_eq_true rfl, Nat.le_of_ble_eq_true rfl⟩) (fun u H locs hz9 hH hS => ?_)
      have hz9 : u = (T, O, X) := hz9
      subst hz9
      have hH : HT D cs A T O X H := hH
      refine W.widen (k := 0) (n := 0) (Nat.le_of_ble_eq_true rfl) (Nat.le_of_ble_eq_true rfl) ?_
      refine lv_iconst (v := 1) hx hb dX3_readAtom_78 (by decide) ?_
      exact te_z hx hb hr hlocks (by rfl) hH hS (⟨rfl, by decide, by decide⟩) dX3_readAtom_79
  · skip
    have tc9 := f_ne (k := 0) (by decide) c9
    refine lv_aload_n hx hb dX3_readAtom_12 rfl (lv_at hl 0 rfl) ?_
    refine lv_iload_n hx hb dX3_readAtom_13 rfl (lv_at hl 1 rfl) ?_
    refine tk_i hH hS hA (tr_V (n := 1) (As := [.int x1]) hx hb hml hown hts hkb hH hOX hks hE hS hA (s_LR_enter5 l D cs kf T O X a0 x1 t_a0 (by omega) (by omega) (hO.sub (by decide))) kw_636 kw_638 ks_8 kw_4 kw_639 (by decide +kernel) ⟨Nat.le_of_ble_eq_true rfl, Nat.le_of_ble_eq_true rfl⟩ (HT.recv (ci := 3) hkb hH t_a0 (hO.no t_a0 (by decide)) rfl) rfl rfl hl.1 (Nat.le_of_ble_eq_true rfl) dX3_readAtom_14 ⟨Nat.le_of_ble_eq_true rfl, Nat.le_of_ble_eq_true rfl⟩) (fun v14 u H locs hz9 hH hS => ?_)
    obtain ⟨rfl, l_v14, u_v14⟩ := hz9
    have hH : HT D cs A T O X H := hH
    refine W.widen (k := 0) (n := 0) (Nat.le_of_ble_eq_true rfl) (Nat.le_of_ble_eq_true rfl) ?_
    refine lv_if_eq (tgt := 46) hx hb dX3_readAtom_17 (by decide) (fun c17 => ?_) (fun c17 => ?_)
    · skip
      have tc17 := f_eq (k := 0) (by decide) c17
      exfalso; omega
    · skip
      have tc17 := f_ne (k := 0) (by decide) c17
      refine lv_aload_n hx hb dX3_readAtom_20 rfl (lv_at hl 0 rfl) ?_
      refine lv_iload_n hx hb dX3_readAtom_21 rfl (lv_at hl 1 rfl) ?_
      refine lv_iconst (v := 1) hx hb dX3_readAtom_22 (by decide) ?_
      refine lv_iadd hx hb dX3_readAtom_23 ?_
      refine lv_topi (fun v23 ev23 => ?_)
      have tv23 : v23.toInt = x1.toInt + (1) := by rw [ev23]; exact add_i rfl (by decide : (1 : Int32).toInt = 1) (by omega) (by omega)
      refine tk_i hH hS hA (tr_V (n := 1) (As := [.int v23]) hx hb hml hown hts hkb hH hOX hks hE hS hA (s_LR_readSum6 l D cs kf T O X a0 v23 t_a0 (by omega) (by omega) (hO.sub (by decide))) kw_648 kw_650 ks_10 kw_4 kw_651 (by decide +kernel) ⟨Nat.le_of_ble_eq_true rfl, Nat.le_of_ble_eq_true rfl⟩ (HT.recv (ci := 3) hkb hH t_a0 (hO.no t_a0 (by decide)) rfl) rfl rfl hl.1 (Nat.le_of_ble_eq_true rfl) dX3_readAtom_24 ⟨Nat.le_of_ble_eq_true rfl, Nat.le_of_ble_eq_true rfl⟩) (fun v24 u H locs hz9 hH hS => ?_)
      obtain ⟨rfl, l_v24, u_v24⟩ := hz9
      have hH : HT D cs A T O X H := hH
      refine W.widen (k := 0) (n := 0) (Nat.le_of_ble_eq_true rfl) (Nat.le_of_ble_eq_true rfl) ?_
      have J47 : ∀ (k47_0 : Int32) (H : Heap) (locs : List Loc) (ls : Array Slot), (0 ≤ k47_0.toInt) → (k47_0.toInt ≤ 1) → HT D cs A T O X H → va_S A s.heap H locs → lv_has ls 3 [] → W p l e { frames := 9, cells := 0, slots := 0, locals := 196 } s m [.ref a0, .int x1].toArray below meth c H locs 0 0 (MQ below (Ti D cs (fun r u => u = (T, O, X) ∧ 0 ≤ r.toInt ∧ r.toInt ≤ 1) A) [.ref a0, .int x1].toArray s 0 0 A) (F0 m 47 ls [.int k47_0]) := by
        intro k47_0 H locs ls l_k47_0 u_k47_0 hH hS hl
        exact te_z hx hb hr hlocks (nar01 (by omega) (by omega)) hH hS (⟨rfl, by omega, by omega⟩) dX3_readAtom_47
      have J46 : ∀  (H : Heap) (locs : List Loc) (ls : Array Slot), HT D cs A T O X H → va_S A s.heap H locs → lv_has ls 3 [] → W p l e { frames := 9, cells := 0, slots := 0, locals := 196 } s m [.ref a0, .int x1].toArray below meth c H locs 0 0 (MQ below (Ti D cs (fun r u => u = (T, O, X) ∧ 0 ≤ r.toInt ∧ r.toInt ≤ 1) A) [.ref a0, .int x1].toArray s 0 0 A) (F0 m 46 ls []) := by
        intro  H locs ls  hH hS hl
        refine lv_iconst (v := 0) hx hb dX3_readAtom_46 (by decide) ?_
        exact J47 0 _ _ _ (by decide) (by decide) hH hS (lv_sub hl [] rfl)
      refine lv_if_eq (tgt := 46) hx hb dX3_readAtom_27 (by decide) (fun c27 => ?_) (fun c27 => ?_)
      · skip
        have tc27 := f_eq (k := 0) (by decide) c27
        exact J46  _ _ _  hH hS (lv_sub hl [] rfl)
      · skip
        have tc27 := f_ne (k := 0) (by decide) c27
        refine lv_aload_n hx hb dX3_readAtom_30 rfl (lv_at hl 0 rfl) ?_
        refine t_get (ci := 3) (lst := ft3 0 0) (C := RX3) (F := TX3) (N := 3) hx hb hts uX3 hown hkb hH t_a0 (hO.no t_a0 (by decide)) (fun _ h9 => h9) rfl rfl 0 (by decide) rfl kw_82 (fun _ h9 => h9) dX3_readAtom_31 (fun v9 h9 => ?_)
        obtain ⟨v31, rfl, t_v31⟩ := h9
        refine lv_bipush (v := 41) hx hb dX3_readAtom_34 (by decide) ?_
        refine tk_i hH hS hA (tr_V (n := 1) (As := [.int 41]) hx hb hml hown hts hkb hH hOX hks hE hS hA (s_Tok_takeSign l D cs kf T O X v31 (41) t_v31 (hO.sub (by decide))) kw_647 kw_611 kw_612 kw_3 kw_613 (by decide +kernel) ⟨Nat.le_of_ble_eq_true rfl, Nat.le_of_ble_eq_true rfl⟩ (HT.recv (ci := 7) hkb hH t_v31 (hO.no t_v31 (by decide)) rfl) rfl rfl hl.1 (Nat.le_of_ble_eq_true rfl) dX3_readAtom_36 ⟨Nat.le_of_ble_eq_true rfl, Nat.le_of_ble_eq_true rfl⟩) (fun v36 u H locs hz9 hH hS => ?_)
        obtain ⟨rfl, l_v36, u_v36⟩ := hz9
        have hH : HT D cs A T O X H := hH
        refine W.widen (k := 0) (n := 0) (Nat.le_of_ble_eq_true rfl) (Nat.le_of_ble_eq_true rfl) ?_
        refine lv_if_eq (tgt := 46) hx hb dX3_readAtom_39 (by decide) (fun c39 => ?_) (fun c39 => ?_)
        · skip
          have tc39 := f_eq (k := 0) (by decide) c39
          exact J46  _ _ _  hH hS (lv_sub hl [] rfl)
        · skip
          have tc39 := f_ne (k := 0) (by decide) c39
          refine lv_iconst (v := 1) hx hb dX3_readAtom_42 (by decide) ?_
          refine lv_goto (tgt := 47) hx hb dX3_readAtom_43 (by decide) ?_
          exact J47 1 _ _ _ (by decide) (by decide) hH hS (lv_sub hl [] rfl)
set_option maxHeartbeats 4000000 in
set_option maxRecDepth 100000 in
theorem s_LR_readTerm5 (l : Launch) (D : va_G) (cs : CS) (kf : KF) (T : TF) (O : List Nat) (X : va_W) (a0 : Nat) (x1 : Int32) (t_a0 : T a0 = some (13, 0, 0)) (l_x1 : 5 ≤ x1.toInt) (u_x1 : x1.toInt ≤ 5) (hO : okO T O [0, 1, 13, 17]) : TK l D cs kf yX3_readTerm cX3_readTerm 4 (some (.boolean)) { frames := 10, cells := 0, slots := 0, locals := 218 } [.ref a0, .int x1] T O X (Ti D cs (fun r u => u = (T, O, X) ∧ 0 ≤ r.toInt ∧ r.toInt ≤ 1)) := by
  refine tk_of (by decide) (Nat.le_of_ble_eq_true rfl) (fun p e s m below meth c ls A H locs hx hb hr hml hown hts hlocks hnm hkb hH hS hA hOX hks hE hl => ?_)
  have hown : s.vm.findClass RX3 = some m.cls := hown
  have hl : lv_has ls 4 [(0, .ref a0), (1, .int x1)] := hl
  refine lv_aload_n hx hb dX3_readTerm_0 rfl (lv_at hl 0 rfl) ?_
  refine lv_iload_n hx hb dX3_readTerm_1 rfl (lv_at hl 1 rfl) ?_
  refine tk_i hH hS hA (tr_V (n := 1) (As := [.int x1]) hx hb hml hown hts hkb hH hOX hks hE hS hA (s_LR_readAtom5 l D cs kf T O X a0 x1 t_a0 (by omega) (by omega) (hO.sub (by decide))) kw_656 kw_658 ks_12 kw_4 kw_659 (by decide +kernel) ⟨Nat.le_of_ble_eq_true rfl, Nat.le_of_ble_eq_true rfl⟩ (HT.recv (ci := 3) hkb hH t_a0 (hO.no t_a0 (by decide)) rfl) rfl rfl hl.1 (Nat.le_of_ble_eq_true rfl) dX3_readTerm_2 ⟨Nat.le_of_ble_eq_true rfl, Nat.le_of_ble_eq_true rfl⟩) (fun v2 u H locs hz9 hH hS => ?_)
  obtain ⟨rfl, l_v2, u_v2⟩ := hz9
  have hH : HT D cs A T O X H := hH
  refine W.widen (k := 0) (n := 0) (Nat.le_of_ble_eq_true rfl) (Nat.le_of_ble_eq_true rfl) ?_
  refine lv_istore_n (lv' := [(2, .int v2), (0, .ref a0), (1, .int x1)]) hx hb dX3_readTerm_5 rfl hl (by decide) rfl (fun ls hl => ?_)
  refine lv_iconst (v := 0) hx hb dX3_readTerm_6 (by decide) ?_
  have J8 : ∀ (n : Nat) (p8_3 : Int32) (p8_2 : Int32) (H : Heap) (locs : List Loc) (ls : Array Slot), (900 - p8_3.toInt).toNat = n → (0 ≤ p8_3.toInt) → (p8_3.toInt ≤ 900) → (0 ≤ p8_2.toInt) → (p8_2.toInt ≤ 1) → HT D cs A T O X H → va_S A s.heap H locs → lv_has ls 4 [(3, .int p8_3), (2, .int p8_2), (0, .ref a0), (1, .int x1)] → W p l e { frames := 10, cells := 0, slots := 0, locals := 218 } s m [.ref a0, .int x1].toArray below meth c H locs 0 0 (MQ below (Ti D cs (fun r u => u = (T, O, X) ∧ 0 ≤ r.toInt ∧ r.toInt ≤ 1) A) [.ref a0, .int x1].toArray s 0 0 A) (F0 m 8 ls []) := by
    intro n
    induction n using Nat.strongRecOn with
    | _ n ih8 =>
      intro p8_3 p8_2 H locs ls hm8 l_p8_3 u_p8_3 l_p8_2 u_p8_2 hH hS hl
      refine lv_iload_n hx hb dX3_readTerm_8 rfl (lv_at hl 0 rfl) ?_
      refine lv_sipush (v := 900) hx hb dX3_readTerm_9 (by decide) ?_
      have J57 : ∀  (H : Heap) (locs : List Loc) (ls : Array Slot), HT D cs A T O X H → va_S A s.heap H locs → lv_has ls 4 [(2, .int p8_2)] → W p l e { frames := 10, cells := 0, slots := 0, locals := 218 } s m [.ref a0, .int x1].toArray below meth c H locs 0 0 (MQ below (Ti D cs (fun r u => u = (T, O, X) ∧ 0 ≤ r.toInt ∧ r.toInt ≤ 1) A) [.ref a0, .int x1].toArray s 0 0 A) (F0 m 57 ls []) := by
        intro  H locs ls  hH hS hl
        refine lv_iload_n hx hb dX3_readTerm_57 rfl (lv_at hl 0 rfl) ?_
        exact te_z hx hb hr hlocks (nar01 (by omega) (by omega)) hH hS (⟨rfl, by omega, by omega⟩) dX3_readTerm_58
      refine lv_icmp_ge (tgt := 57) hx hb dX3_readTerm_12 (by decide) (fun c12 => ?_) (fun c12 => ?_)
      · skip
        have tc12 := f_ge (k := 900) (by decide) c12
        exact J57  _ _ _  hH hS (lv_sub hl [1] rfl)
      · skip
        have tc12 := f_nge (k := 900) (by decide) c12
        refine lv_iload_n hx hb dX3_readTerm_15 rfl (lv_at hl 1 rfl) ?_
        refine lv_if_eq (tgt := 57) hx hb dX3_readTerm_16 (by decide) (fun c16 => ?_) (fun c16 => ?_)
        · skip
          have tc16 := f_eq (k := 0) (by decide) c16
          exact J57  _ _ _  hH hS (lv_sub hl [1] rfl)
        · skip
          have tc16 := f_ne (k := 0) (by decide) c16
          refine lv_aload_n hx hb dX3_readTerm_19 rfl (lv_at hl 2 rfl) ?_
          refine t_get (ci := 3) (lst := ft3 0 0) (C := RX3) (F := TX3) (N := 3) hx hb hts uX3 hown hkb hH t_a0 (hO.no t_a0 (by decide)) (fun _ h9 => h9) rfl rfl 0 (by decide) rfl kw_82 (fun _ h9 => h9) dX3_readTerm_20 (fun v9 h9 => ?_)
          obtain ⟨v20, rfl, t_v20⟩ := h9
          refine lv_bipush (v := 42) hx hb dX3_readTerm_23 (by decide) ?_
          refine tk_i hH hS hA (tr_V (n := 1) (As := [.int 42]) hx hb hml hown hts hkb hH hOX hks hE hS hA (s_Tok_isSign l D cs kf T O X v20 (42) t_v20 (hO.sub (by decide))) kw_646 kw_615 kw_616 kw_3 kw_617 (by decide +kernel) ⟨Nat.le_of_ble_eq_true rfl, Nat.le_of_ble_eq_true rfl⟩ (HT.recv (ci := 7) hkb hH t_v20 (hO.no t_v20 (by decide)) rfl) rfl rfl hl.1 (Nat.le_of_ble_eq_true rfl) dX3_readTerm_25 ⟨Nat.le_of_ble_eq_true rfl, Nat.le_of_ble_eq_true rfl⟩) (fun v25 u H locs hz9 hH hS => ?_)
          obtain ⟨rfl, l_v25, u_v25⟩ := hz9
          have hH : HT D cs A T O X H := hH
          refine W.widen (k := 0) (n := 0) (Nat.le_of_ble_eq_true rfl) (Nat.le_of_ble_eq_true rfl) ?_
          refine lv_if_eq (tgt := 57) hx hb dX3_readTerm_28 (by decide) (fun c28 => ?_) (fun c28 => ?_)
          · skip
            have tc28 := f_eq (k := 0) (by decide) c28
            exact J57  _ _ _  hH hS (lv_sub hl [1] rfl)
          · skip
            have tc28 := f_ne (k := 0) (by decide) c28
            refine lv_aload_n hx hb dX3_readTerm_31 rfl (lv_at hl 2 rfl) ?_
            refine t_get (ci := 3) (lst := ft3 0 0) (C := RX3) (F := TX3) (N := 3) hx hb hts uX3 hown hkb hH t_a0 (hO.no t_a0 (by decide)) (fun _ h9 => h9) rfl rfl 0 (by decide) rfl kw_82 (fun _ h9 => h9) dX3_readTerm_32 (fun v9 h9 => ?_)
            obtain ⟨v32, rfl, t_v32⟩ := h9
            refine tk_v hH hS hA (tr_V (n := 0) (As := []) hx hb hml hown hts hkb hH hOX hks hE hS hA (s_Tok_go l D cs kf T O X v32 t_v32 (hO.sub (by decide))) kw_641 kw_453 kw_454 kw_3 kw_455 (by decide +kernel) ⟨Nat.le_of_ble_eq_true rfl, Nat.le_of_ble_eq_true rfl⟩ (HT.recv (ci := 7) hkb hH t_v32 (hO.no t_v32 (by decide)) rfl) rfl rfl hl.1 (Nat.le_of_ble_eq_true rfl) dX3_readTerm_35 ⟨Nat.le_of_ble_eq_true rfl, Nat.le_of_ble_eq_true rfl⟩) (fun u H locs hz9 hH hS => ?_)
            have hz9 : u = (T, O, X) := hz9
            subst hz9
            have hH : HT D cs A T O X H := hH
            refine W.widen (k := 0) (n := 0) (Nat.le_of_ble_eq_true rfl) (Nat.le_of_ble_eq_true rfl) ?_
            refine lv_aload_n hx hb dX3_readTerm_38 rfl (lv_at hl 2 rfl) ?_
            refine lv_iload_n hx hb dX3_readTerm_39 rfl (lv_at hl 3 rfl) ?_
            refine tk_i hH hS hA (tr_V (n := 1) (As := [.int x1]) hx hb hml hown hts hkb hH hOX hks hE hS hA (s_LR_readAtom5 l D cs kf T O X a0 x1 t_a0 (by omega) (by omega) (hO.sub (by decide))) kw_656 kw_658 ks_12 kw_4 kw_659 (by decide +kernel) ⟨Nat.le_of_ble_eq_true rfl, Nat.le_of_ble_eq_true rfl⟩ (HT.recv (ci := 3) hkb hH t_a0 (hO.no t_a0 (by decide)) rfl) rfl rfl hl.1 (Nat.le_of_ble_eq_true rfl) dX3_readTerm_40 ⟨Nat.le_of_ble_eq_true rfl, Nat.le_of_ble_eq_true rfl⟩) (fun v40 u H locs hz9 hH hS => ?_)
            obtain ⟨rfl, l_v40, u_v40⟩ := hz9
            have hH : HT D cs A T O X H := hH
            refine W.widen (k := 0) (n := 0) (Nat.le_of_ble_eq_true rfl) (Nat.le_of_ble_eq_true rfl) ?_
            refine lv_istore_n (lv' := [(2, .int v40), (3, .int p8_3), (0, .ref a0), (1, .int x1)]) hx hb dX3_readTerm_43 rfl hl (by decide) rfl (fun ls hl => ?_)
            refine lv_aload_n hx hb dX3_readTerm_44 rfl (lv_at hl 2 rfl) ?_
            refine lv_bipush (v := 7) hx hb dX3_readTerm_45 (by decide) ?_
            refine lv_iconst (v := 0) hx hb dX3_readTerm_47 (by decide) ?_
            refine tk_v hH hS hA (tr_V (n := 2) (As := [.int 7, .int 0]) hx hb hml hown hts hkb hH hOX hks hE hS hA (s_LR_put l D cs kf T O X a0 (7) (0) t_a0 (hO.sub (by decide))) kw_642 kw_644 ks_9 kw_4 kw_645 (by decide +kernel) ⟨Nat.le_of_ble_eq_true rfl, Nat.le_of_ble_eq_true rfl⟩ (HT.recv (ci := 3) hkb hH t_a0 (hO.no t_a0 (by decide)) rfl) rfl rfl hl.1 (Nat.le_of_ble_eq_true rfl) dX3_readTerm_48 ⟨Nat.le_of_ble_eq_true rfl, Nat.le_of_ble_eq_true rfl⟩) (fun u H locs hz9 hH hS => ?_)
            have hz9 : u = (T, O, X) := hz9
            subst hz9
            have hH : HT D cs A T O X H := hH
            refine W.widen (k := 0) (n := 0) (Nat.le_of_ble_eq_true rfl) (Nat.le_of_ble_eq_true rfl) ?_
            obtain ⟨v51, ev51⟩ : ∃ y : Int32, y = p8_3 + 1 := ⟨_, rfl⟩
            have tv51 : v51.toInt = p8_3.toInt + (1) := by rw [ev51]; exact add_i rfl (by decide) (by omega) (by omega)
            refine lv_iinc (v := v51) (lv' := [(3, .int v51), (2, .int v40), (0, .ref a0), (1, .int x1)]) hx hb dX3_readTerm_51 hl (k := 1) rfl (by rw [ev51]; rfl) (by decide) rfl (fun ls hl => ?_)
            refine lv_goto (tgt := 8) hx hb dX3_readTerm_54 (by decide) ?_
            exact ih8 _ (by omega) v51 v40 _ _ _ rfl (by omega) (by omega) (by omega) (by omega) hH hS (lv_sub hl [0, 1, 2, 3] rfl)
  refine lv_istore_n (lv' := [(3, .int 0), (2, .int v2), (0, .ref a0), (1, .int x1)]) hx hb dX3_readTerm_7 rfl hl (by decide) rfl (fun ls hl => ?_)
  exact J8 _ 0 v2 _ _ _ rfl (by decide) (by decide) (by omega) (by omega) hH hS (lv_sub hl [0, 1, 2, 3] rfl)
set_option maxHeartbeats 4000000 in
set_option maxRecDepth 100000 in
theorem s_LR_readSum5 (l : Launch) (D : va_G) (cs : CS) (kf : KF) (T : TF) (O : List Nat) (X : va_W) (a0 : Nat) (x1 : Int32) (t_a0 : T a0 = some (13, 0, 0)) (l_x1 : 5 ≤ x1.toInt) (u_x1 : x1.toInt ≤ 5) (hO : okO T O [0, 1, 13, 17]) : TK l D cs kf yX3_readSum cX3_readSum 5 (some (.boolean)) { frames := 11, cells := 0, slots := 0, locals := 241 } [.ref a0, .int x1] T O X (Ti D cs (fun r u => u = (T, O, X) ∧ 0 ≤ r.toInt ∧ r.toInt ≤ 1)) := by
  refine tk_of (by decide) (Nat.le_of_ble_eq_true rfl) (fun p e s m below meth c ls A H locs hx hb hr hml hown hts hlocks hnm hkb hH hS hA hOX hks hE hl => ?_)
  have hown : s.vm.findClass RX3 = some m.cls := hown
  have hl : lv_has ls 5 [(0, .ref a0), (1, .int x1)] := hl
  refine lv_aload_n hx hb dX3_readSum_0 rfl (lv_at hl 0 rfl) ?_
  refine lv_iload_n hx hb dX3_readSum_1 rfl (lv_at hl 1 rfl) ?_
  refine tk_i hH hS hA (tr_V (n := 1) (As := [.int x1]) hx hb hml hown hts hkb hH hOX hks hE hS hA (s_LR_readTerm5 l D cs kf T O X a0 x1 t_a0 (by omega) (by omega) (hO.sub (by decide))) kw_652 kw_654 ks_11 kw_4 kw_655 (by decide +kernel) ⟨Nat.le_of_ble_eq_true rfl, Nat.le_of_ble_eq_true rfl⟩ (HT.recv (ci := 3) hkb hH t_a0 (hO.no t_a0 (by decide)) rfl) rfl rfl hl.1 (Nat.le_of_ble_eq_true rfl) dX3_readSum_2 ⟨Nat.le_of_ble_eq_true rfl, Nat.le_of_ble_eq_true rfl⟩) (fun v2 u H locs hz9 hH hS => ?_)
  obtain ⟨rfl, l_v2, u_v2⟩ := hz9
  have hH : HT D cs A T O X H := hH
  refine W.widen (k := 0) (n := 0) (Nat.le_of_ble_eq_true rfl) (Nat.le_of_ble_eq_true rfl) ?_
  refine lv_istore_n (lv' := [(2, .int v2), (0, .ref a0), (1, .int x1)]) hx hb dX3_readSum_5 rfl hl (by decide) rfl (fun ls hl => ?_)
  refine lv_iconst (v := 0) hx hb dX3_readSum_6 (by decide) ?_
  have J8 : ∀ (n : Nat) (p8_3 : Int32) (p8_2 : Int32) (H : Heap) (locs : List Loc) (ls : Array Slot), (900 - p8_3.toInt).toNat = n → (0 ≤ p8_3.toInt) → (p8_3.toInt ≤ 900) → (0 ≤ p8_2.toInt) → (p8_2.toInt ≤ 1) → HT D cs A T O X H → va_S A s.heap H locs → lv_has ls 5 [(3, .int p8_3), (2, .int p8_2), (0, .ref a0), (1, .int x1)] → W p l e { frames := 11, cells := 0, slots := 0, locals := 241 } s m [.ref a0, .int x1].toArray below meth c H locs 0 0 (MQ below (Ti D cs (fun r u => u = (T, O, X) ∧ 0 ≤ r.toInt ∧ r.toInt ≤ 1) A) [.ref a0, .int x1].toArray s 0 0 A) (F0 m 8 ls []) := by
    intro n
    induction n using Nat.strongRecOn with
    | _ n ih8 =>
      intro p8_3 p8_2 H locs ls hm8 l_p8_3 u_p8_3 l_p8_2 u_p8_2 hH hS hl
      refine lv_iload_n hx hb dX3_readSum_8 rfl (lv_at hl 0 rfl) ?_
      refine lv_sipush (v := 900) hx hb dX3_readSum_9 (by decide) ?_
      have J89 : ∀  (H : Heap) (locs : List Loc) (ls : Array Slot), HT D cs A T O X H → va_S A s.heap H locs → lv_has ls 5 [(2, .int p8_2)] → W p l e { frames := 11, cells := 0, slots := 0, locals := 241 } s m [.ref a0, .int x1].toArray below meth c H locs 0 0 (MQ below (Ti D cs (fun r u => u = (T, O, X) ∧ 0 ≤ r.toInt ∧ r.toInt ≤ 1) A) [.ref a0, .int x1].toArray s 0 0 A) (F0 m 89 ls []) := by
        intro  H locs ls  hH hS hl
        refine lv_iload_n hx hb dX3_readSum_89 rfl (lv_at hl 0 rfl) ?_
        exact te_z hx hb hr hlocks (nar01 (by omega) (by omega)) hH hS (⟨rfl, by omega, by omega⟩) dX3_readSum_90
      refine lv_icmp_ge (tgt := 89) hx hb dX3_readSum_12 (by decide) (fun c12 => ?_) (fun c12 => ?_)
      · skip
        have tc12 := f_ge (k := 900) (by decide) c12
        exact J89  _ _ _  hH hS (lv_sub hl [1] rfl)
      · skip
        have tc12 := f_nge (k := 900) (by decide) c12
        refine lv_iload_n hx hb dX3_readSum_15 rfl (lv_at hl 1 rfl) ?_
        refine lv_if_eq (tgt := 89) hx hb dX3_readSum_16 (by decide) (fun c16 => ?_) (fun c16 => ?_)
        · skip
          have tc16 := f_eq (k := 0) (by decide) c16
          exact J89  _ _ _  hH hS (lv_sub hl [1] rfl)
        · skip
          have tc16 := f_ne (k := 0) (by decide) c16
          refine lv_aload_n hx hb dX3_readSum_19 rfl (lv_at hl 2 rfl) ?_
          refine t_get (ci := 3) (lst := ft3 0 0) (C := RX3) (F := TX3) (N := 3) hx hb hts uX3 hown hkb hH t_a0 (hO.no t_a0 (by decide)) (fun _ h9 => h9) rfl rfl 0 (by decide) rfl kw_82 (fun _ h9 => h9) dX3_readSum_20 (fun v9 h9 => ?_)
          obtain ⟨v20, rfl, t_v20⟩ := h9
          refine lv_bipush (v := 43) hx hb dX3_readSum_23 (by decide) ?_
          refine tk_i hH hS hA (tr_V (n := 1) (As := [.int 43]) hx hb hml hown hts hkb hH hOX hks hE hS hA (s_Tok_isSign l D cs kf T O X v20 (43) t_v20 (hO.sub (by decide))) kw_646 kw_615 kw_616 kw_3 kw_617 (by decide +kernel) ⟨Nat.le_of_ble_eq_true rfl, Nat.le_of_ble_eq_true rfl⟩ (HT.recv (ci := 7) hkb hH t_v20 (hO.no t_v20 (by decide)) rfl) rfl rfl hl.1 (Nat.le_of_ble_eq_true rfl) dX3_readSum_25 ⟨Nat.le_of_ble_eq_true rfl, Nat.le_of_ble_eq_true rfl⟩) (fun v25 u H locs hz9 hH hS => ?_)
          obtain ⟨rfl, l_v25, u_v25⟩ := hz9
          have hH : HT D cs A T O X H := hH
          refine W.widen (k := 0) (n := 0) (Nat.le_of_ble_eq_true rfl) (Nat.le_of_ble_eq_true rfl) ?_
          have J43 : ∀  (H : Heap) (locs : List Loc) (ls : Array Slot), HT D cs A T O X H → va_S A s.heap H locs → lv_has ls 5 [(3, .int p8_3), (0, .ref a0), (1, .int x1)] → W p l e { frames := 11, cells := 0, slots := 0, locals := 241 } s m [.ref a0, .int x1].toArray below meth c H locs 0 0 (MQ below (Ti D cs (fun r u => u = (T, O, X) ∧ 0 ≤ r.toInt ∧ r.toInt ≤ 1) A) [.ref a0, .int x1].toArray s 0 0 A) (F0 m 43 ls []) := by
            intro  H locs ls  hH hS hl
            refine lv_aload_n hx hb dX3_readSum_43 rfl (lv_at hl 1 rfl) ?_
            refine t_get (ci := 3) (lst := ft3 0 0) (C := RX3) (F := TX3) (N := 3) hx hb hts uX3 hown hkb hH t_a0 (hO.no t_a0 (by decide)) (fun _ h9 => h9) rfl rfl 0 (by decide) rfl kw_82 (fun _ h9 => h9) dX3_readSum_44 (fun v9 h9 => ?_)
            obtain ⟨v44, rfl, t_v44⟩ := h9
            refine lv_bipush (v := 43) hx hb dX3_readSum_47 (by decide) ?_
            refine tk_i hH hS hA (tr_V (n := 1) (As := [.int 43]) hx hb hml hown hts hkb hH hOX hks hE hS hA (s_Tok_isSign l D cs kf T O X v44 (43) t_v44 (hO.sub (by decide))) kw_646 kw_615 kw_616 kw_3 kw_617 (by decide +kernel) ⟨Nat.le_of_ble_eq_true rfl, Nat.le_of_ble_eq_true rfl⟩ (HT.recv (ci := 7) hkb hH t_v44 (hO.no t_v44 (by decide)) rfl) rfl rfl hl.1 (Nat.le_of_ble_eq_true rfl) dX3_readSum_49 ⟨Nat.le_of_ble_eq_true rfl, Nat.le_of_ble_eq_true rfl⟩) (fun v49 u H locs hz9 hH hS => ?_)
            obtain ⟨rfl, l_v49, u_v49⟩ := hz9
            have hH : HT D cs A T O X H := hH
            refine W.widen (k := 0) (n := 0) (Nat.le_of_ble_eq_true rfl) (Nat.le_of_ble_eq_true rfl) ?_
            have J61 : ∀ (k61_0 : Int32) (H : Heap) (locs : List Loc) (ls : Array Slot), (5 ≤ k61_0.toInt) → (k61_0.toInt ≤ 6) → HT D cs A T O X H → va_S A s.heap H locs → lv_has ls 5 [(3, .int p8_3), (0, .ref a0), (1, .int x1)] → W p l e { frames := 11, cells := 0, slots := 0, locals := 241 } s m [.ref a0, .int x1].toArray below meth c H locs 0 0 (MQ below (Ti D cs (fun r u => u = (T, O, X) ∧ 0 ≤ r.toInt ∧ r.toInt ≤ 1) A) [.ref a0, .int x1].toArray s 0 0 A) (F0 m 61 ls [.int k61_0]) := by
              intro k61_0 H locs ls l_k61_0 u_k61_0 hH hS hl
              refine lv_istore (lv' := [(4, .int k61_0), (3, .int p8_3), (0, .ref a0), (1, .int x1)]) hx hb dX3_readSum_61 hl (by decide) rfl (fun ls hl => ?_)
              refine lv_aload_n hx hb dX3_readSum_63 rfl (lv_at hl 2 rfl) ?_
              refine t_get (ci := 3) (lst := ft3 0 0) (C := RX3) (F := TX3) (N := 3) hx hb hts uX3 hown hkb hH t_a0 (hO.no t_a0 (by decide)) (fun _ h9 => h9) rfl rfl 0 (by decide) rfl kw_82 (fun _ h9 => h9) dX3_readSum_64 (fun v9 h9 => ?_)
              obtain ⟨v64, rfl, t_v64⟩ := h9
              refine tk_v hH hS hA (tr_V (n := 0) (As := []) hx hb hml hown hts hkb hH hOX hks hE hS hA (s_Tok_go l D cs kf T O X v64 t_v64 (hO.sub (by decide))) kw_641 kw_453 kw_454 kw_3 kw_455 (by decide +kernel) ⟨Nat.le_of_ble_eq_true rfl, Nat.le_of_ble_eq_true rfl⟩ (HT.recv (ci := 7) hkb hH t_v64 (hO.no t_v64 (by decide)) rfl) rfl rfl hl.1 (Nat.le_of_ble_eq_true rfl) dX3_readSum_67 ⟨Nat.le_of_ble_eq_true rfl, Nat.le_of_ble_eq_true rfl⟩) (fun u H locs hz9 hH hS => ?_)
              have hz9 : u = (T, O, X) := hz9
              subst hz9
              have hH : HT D cs A T O X H := hH
              refine W.widen (k := 0) (n := 0) (Nat.le_of_ble_eq_true rfl) (Nat.le_of_ble_eq_true rfl) ?_
              refine lv_aload_n hx hb dX3_readSum_70 rfl (lv_at hl 2 rfl) ?_
              refine lv_iload_n hx hb dX3_readSum_71 rfl (lv_at hl 3 rfl) ?_
              refine tk_i hH hS hA (tr_V (n := 1) (As := [.int x1]) hx hb hml hown hts hkb hH hOX hks hE hS hA (s_LR_readTerm5 l D cs kf T O X a0 x1 t_a0 (by omega) (by omega) (hO.sub (by decide))) kw_652 kw_654 ks_11 kw_4 kw_655 (by decide +kernel) ⟨Nat.le_of_ble_eq_true rfl, Nat.le_of_ble_eq_true rfl⟩ (HT.recv (ci := 3) hkb hH t_a0 (hO.no t_a0 (by decide)) rfl) rfl rfl hl.1 (Nat.le_of_ble_eq_true rfl) dX3_readSum_72 ⟨Nat.le_of_ble_eq_true rfl, Nat.le_of_ble_eq_true rfl⟩) (fun v72 u H locs hz9 hH hS => ?_)
              obtain ⟨rfl, l_v72, u_v72⟩ := hz9
              have hH : HT D cs A T O X H := hH
              refine W.widen (k := 0) (n := 0) (Nat.le_of_ble_eq_true rfl) (Nat.le_of_ble_eq_true rfl) ?_
              refine lv_istore_n (lv' := [(2, .int v72), (4, .int k61_0), (3, .int p8_3), (0, .ref a0), (1, .int x1)]) hx hb dX3_readSum_75 rfl hl (by decide) rfl (fun ls hl => ?_)
              refine lv_aload_n hx hb dX3_readSum_76 rfl (lv_at hl 3 rfl) ?_
              refine lv_iload hx hb dX3_readSum_77 (lv_at hl 1 rfl) ?_
              refine lv_iconst (v := 0) hx hb dX3_readSum_79 (by decide) ?_
              refine tk_v hH hS hA (tr_V (n := 2) (As := [.int k61_0, .int 0]) hx hb hml hown hts hkb hH hOX hks hE hS hA (s_LR_put l D cs kf T O X a0 k61_0 (0) t_a0 (hO.sub (by decide))) kw_642 kw_644 ks_9 kw_4 kw_645 (by decide +kernel) ⟨Nat.le_of_ble_eq_true rfl, Nat.le_of_ble_eq_true rfl⟩ (HT.recv (ci := 3) hkb hH t_a0 (hO.no t_a0 (by decide)) rfl) rfl rfl hl.1 (Nat.le_of_ble_eq_true rfl) dX3_readSum_80 ⟨Nat.le_of_ble_eq_true rfl, Nat.le_of_ble_eq_true rfl⟩) (fun u H locs hz9 hH hS => ?_)
              have hz9 : u = (T, O, X) := hz9
              subst hz9
              have hH : HT D cs A T O X H := hH
              refine W.widen (k := 0) (n := 0) (Nat.le_of_ble_eq_true rfl) (Nat.le_of_ble_eq_true rfl) ?_
              obtain ⟨v83, ev83⟩ : ∃ y : Int32, y = p8_3 + 1 := ⟨_, rfl⟩
              have tv83 : v83.toInt = p8_3.toInt + (1) := by rw [ev83]; exact add_i rfl (by decide) (by omega) (by omega)
              refine lv_iinc (v := v83) (lv' := [(3, .int v83), (2, .int v72), (4, .int k61_0), (0, .ref a0), (1, .int x1)]) hx hb dX3_readSum_83 hl (k := 2) rfl (by rw [ev83]; rfl) (by decide) rfl (fun ls hl => ?_)
              refine lv_goto (tgt := 8) hx hb dX3_readSum_86 (by decide) ?_
              exact ih8 _ (by omega) v83 v72 _ _ _ rfl (by omega) (by omega) (by omega) (by omega) hH hS (lv_sub hl [0, 1, 3, 4] rfl)
            refine lv_if_eq (tgt := 59) hx hb dX3_readSum_52 (by decide) (fun c52 => ?_) (fun c52 => ?_)
            · skip
              have tc52 := f_eq (k := 0) (by decide) c52
              refine lv_bipush (v := 6) hx hb dX3_readSum_59 (by decide) ?_
              exact J61 6 _ _ _ (by decide) (by decide) hH hS (lv_sub hl [0, 1, 2] rfl)
            · skip
              have tc52 := f_ne (k := 0) (by decide) c52
              refine lv_iconst (v := 5) hx hb dX3_readSum_55 (by decide) ?_
              refine lv_goto (tgt := 61) hx hb dX3_readSum_56 (by decide) ?_
              exact J61 5 _ _ _ (by decide) (by decide) hH hS (lv_sub hl [0, 1, 2] rfl)
          refine lv_if_ne (tgt := 43) hx hb dX3_readSum_28 (by decide) (fun c28 => ?_) (fun c28 => ?_)
          · skip
            have tc28 := f_ne (k := 0) (by decide) c28
            exact J43  _ _ _  hH hS (lv_sub hl [0, 2, 3] rfl)
          · skip
            have tc28 := f_eq (k := 0) (by decide) c28
            refine lv_aload_n hx hb dX3_readSum_31 rfl (lv_at hl 2 rfl) ?_
            refine t_get (ci := 3) (lst := ft3 0 0) (C := RX3) (F := TX3) (N := 3) hx hb hts uX3 hown hkb hH t_a0 (hO.no t_a0 (by decide)) (fun _ h9 => h9) rfl rfl 0 (by decide) rfl kw_82 (fun _ h9 => h9) dX3_readSum_32 (fun v9 h9 => ?_)
            obtain ⟨v32, rfl, t_v32⟩ := h9
            refine lv_bipush (v := 45) hx hb dX3_readSum_35 (by decide) ?_
            refine tk_i hH hS hA (tr_V (n := 1) (As := [.int 45]) hx hb hml hown hts hkb hH hOX hks hE hS hA (s_Tok_isSign l D cs kf T O X v32 (45) t_v32 (hO.sub (by decide))) kw_646 kw_615 kw_616 kw_3 kw_617 (by decide +kernel) ⟨Nat.le_of_ble_eq_true rfl, Nat.le_of_ble_eq_true rfl⟩ (HT.recv (ci := 7) hkb hH t_v32 (hO.no t_v32 (by decide)) rfl) rfl rfl hl.1 (Nat.le_of_ble_eq_true rfl) dX3_readSum_37 ⟨Nat.le_of_ble_eq_true rfl, Nat.le_of_ble_eq_true rfl⟩) (fun v37 u H locs hz9 hH hS => ?_)
            obtain ⟨rfl, l_v37, u_v37⟩ := hz9
            have hH : HT D cs A T O X H := hH
            refine W.widen (k := 0) (n := 0) (Nat.le_of_ble_eq_true rfl) (Nat.le_of_ble_eq_true rfl) ?_
            refine lv_if_eq (tgt := 89) hx hb dX3_readSum_40 (by decide) (fun c40 => ?_) (fun c40 => ?_)
            · skip
              have tc40 := f_eq (k := 0) (by decide) c40
              exact J89  _ _ _  hH hS (lv_sub hl [1] rfl)
            · skip
              have tc40 := f_ne (k := 0) (by decide) c40
              exact J43  _ _ _  hH hS (lv_sub hl [0, 2, 3] rfl)
  refine lv_istore_n (lv' := [(3, .int 0), (2, .int v2), (0, .ref a0), (1, .int x1)]) hx hb dX3_readSum_7 rfl hl (by decide) rfl (fun ls hl => ?_)
  exact J8 _ 0 v2 _ _ _ rfl (by decide) (by decide) (by omega) (by omega) hH hS (lv_sub hl [0, 1, 2, 3] rfl)
set_option maxHeartbeats 4000000 in
set_option maxRecDepth 100000 in
theorem s_LR_readUnit5 (l : Launch) (D : va_G) (cs : CS) (kf : KF) (T : TF) (O : List Nat) (X : va_W) (a0 : Nat) (x1 : Int32) (t_a0 : T a0 = some (13, 0, 0)) (l_x1 : 5 ≤ x1.toInt) (u_x1 : x1.toInt ≤ 5) (hO : okO T O [0, 1, 13, 17]) : TK l D cs kf yX3_readUnit cX3_readUnit 3 (some (.boolean)) { frames := 12, cells := 0, slots := 0, locals := 266 } [.ref a0, .int x1] T O X (Ti D cs (fun r u => u = (T, O, X) ∧ 0 ≤ r.toInt ∧ r.toInt ≤ 1)) := by
  refine tk_of (by decide) (Nat.le_of_ble_eq_true rfl) (fun p e s m below meth c ls A H locs hx hb hr hml hown hts hlocks hnm hkb hH hS hA hOX hks hE hl => ?_)
  have hown : s.vm.findClass RX3 = some m.cls := hown
  have hl : lv_has ls 3 [(0, .ref a0), (1, .int x1)] := hl
  refine lv_aload_n hx hb dX3_readUnit_0 rfl (lv_at hl 0 rfl) ?_
  refine t_get (ci := 3) (lst := ft3 0 0) (C := RX3) (F := TX3) (N := 3) hx hb hts uX3 hown hkb hH t_a0 (hO.no t_a0 (by decide)) (fun _ h9 => h9) rfl rfl 0 (by decide) rfl kw_82 (fun _ h9 => h9) dX3_readUnit_1 (fun v9 h9 => ?_)
  obtain ⟨v1, rfl, t_v1⟩ := h9
  refine va_ldcS (q := kf.1 10) hx hb hown (hks ("FootholdWall$LawReader", 65, "not", 10) (by decide +kernel)) dX3_readUnit_4 ?_
  refine tk_i hH hS hA (tr_V (n := 1) (As := [.ref (kf.1 10)]) hx hb hml hown hts hkb hH hOX hks hE hS hA (s_Tok_isWord l D cs kf T O X v1 10 t_v1 (by decide) (hO.sub (by decide))) kw_635 kw_551 kw_552 kw_3 kw_553 (by decide +kernel) ⟨Nat.le_of_ble_eq_true rfl, Nat.le_of_ble_eq_true rfl⟩ (HT.recv (ci := 7) hkb hH t_v1 (hO.no t_v1 (by decide)) rfl) rfl rfl hl.1 (Nat.le_of_ble_eq_true rfl) dX3_readUnit_6 ⟨Nat.le_of_ble_eq_true rfl, Nat.le_of_ble_eq_true rfl⟩) (fun v6 u H locs hz9 hH hS => ?_)
  obtain ⟨rfl, l_v6, u_v6⟩ := hz9
  have hH : HT D cs A T O X H := hH
  refine W.widen (k := 0) (n := 0) (Nat.le_of_ble_eq_true rfl) (Nat.le_of_ble_eq_true rfl) ?_
  refine lv_if_eq (tgt := 40) hx hb dX3_readUnit_9 (by decide) (fun c9 => ?_) (fun c9 => ?_)
  · skip
    have tc9 := f_eq (k := 0) (by decide) c9
    refine lv_aload_n hx hb dX3_readUnit_40 rfl (lv_at hl 0 rfl) ?_
    refine t_get (ci := 3) (lst := ft3 0 0) (C := RX3) (F := TX3) (N := 3) hx hb hts uX3 hown hkb hH t_a0 (hO.no t_a0 (by decide)) (fun _ h9 => h9) rfl rfl 0 (by decide) rfl kw_82 (fun _ h9 => h9) dX3_readUnit_41 (fun v9 h9 => ?_)
    obtain ⟨v41, rfl, t_v41⟩ := h9
    refine lv_bipush (v := 91) hx hb dX3_readUnit_44 (by decide) ?_
    refine tk_i hH hS hA (tr_V (n := 1) (As := [.int 91]) hx hb hml hown hts hkb hH hOX hks hE hS hA (s_Tok_isSign l D cs kf T O X v41 (91) t_v41 (hO.sub (by decide))) kw_646 kw_615 kw_616 kw_3 kw_617 (by decide +kernel) ⟨Nat.le_of_ble_eq_true rfl, Nat.le_of_ble_eq_true rfl⟩ (HT.recv (ci := 7) hkb hH t_v41 (hO.no t_v41 (by decide)) rfl) rfl rfl hl.1 (Nat.le_of_ble_eq_true rfl) dX3_readUnit_46 ⟨Nat.le_of_ble_eq_true rfl, Nat.le_of_ble_eq_true rfl⟩) (fun v46 u H locs hz9 hH hS => ?_)
    obtain ⟨rfl, l_v46, u_v46⟩ := hz9
    have hH : HT D cs A T O X H := hH
    refine W.widen (k := 0) (n := 0) (Nat.le_of_ble_eq_true rfl) (Nat.le_of_ble_eq_true rfl) ?_
    refine lv_if_eq (tgt := 88) hx hb dX3_readUnit_49 (by decide) (fun c49 => ?_) (fun c49 => ?_)
    · skip
      have tc49 := f_eq (k := 0) (by decide) c49
      refine lv_aload_n hx hb dX3_readUnit_88 rfl (lv_at hl 0 rfl) ?_
      refine lv_iload_n hx hb dX3_readUnit_89 rfl (lv_at hl 1 rfl) ?_
      refine tk_i hH hS hA (tr_V (n := 1) (As := [.int x1]) hx hb hml hown hts hkb hH hOX hks hE hS hA (s_LR_readSum5 l D cs kf T O X a0 x1 t_a0 (by omega) (by omega) (hO.sub (by decide))) kw_648 kw_650 ks_10 kw_4 kw_651 (by decide +kernel) ⟨Nat.le_of_ble_eq_true rfl, Nat.le_of_ble_eq_true rfl⟩ (HT.recv (ci := 3) hkb hH t_a0 (hO.no t_a0 (by decide)) rfl) rfl rfl hl.1 (Nat.le_of_ble_eq_true rfl) dX3_readUnit_90 ⟨Nat.le_of_ble_eq_true rfl, Nat.le_of_ble_eq_true rfl⟩) (fun v90 u H locs hz9 hH hS => ?_)
      obtain ⟨rfl, l_v90, u_v90⟩ := hz9
      have hH : HT D cs A T O X H := hH
      refine W.widen (k := 0) (n := 0) (Nat.le_of_ble_eq_true rfl) (Nat.le_of_ble_eq_true rfl) ?_
      refine lv_if_ne (tgt := 98) hx hb dX3_readUnit_93 (by decide) (fun c93 => ?_) (fun c93 => ?_)
      · skip
        have tc93 := f_ne (k := 0) (by decide) c93
        refine lv_aload_n hx hb dX3_readUnit_98 rfl (lv_at hl 0 rfl) ?_
        refine t_get (ci := 3) (lst := ft3 0 0) (C := RX3) (F := TX3) (N := 3) hx hb hts uX3 hown hkb hH t_a0 (hO.no t_a0 (by decide)) (fun _ h9 => h9) rfl rfl 0 (by decide) rfl kw_82 (fun _ h9 => h9) dX3_readUnit_99 (fun v9 h9 => ?_)
        obtain ⟨v99, rfl, t_v99⟩ := h9
        refine lv_bipush (v := 61) hx hb dX3_readUnit_102 (by decide) ?_
        refine tk_i hH hS hA (tr_V (n := 1) (As := [.int 61]) hx hb hml hown hts hkb hH hOX hks hE hS hA (s_Tok_isSign l D cs kf T O X v99 (61) t_v99 (hO.sub (by decide))) kw_646 kw_615 kw_616 kw_3 kw_617 (by decide +kernel) ⟨Nat.le_of_ble_eq_true rfl, Nat.le_of_ble_eq_true rfl⟩ (HT.recv (ci := 7) hkb hH t_v99 (hO.no t_v99 (by decide)) rfl) rfl rfl hl.1 (Nat.le_of_ble_eq_true rfl) dX3_readUnit_104 ⟨Nat.le_of_ble_eq_true rfl, Nat.le_of_ble_eq_true rfl⟩) (fun v104 u H locs hz9 hH hS => ?_)
        obtain ⟨rfl, l_v104, u_v104⟩ := hz9
        have hH : HT D cs A T O X H := hH
        refine W.widen (k := 0) (n := 0) (Nat.le_of_ble_eq_true rfl) (Nat.le_of_ble_eq_true rfl) ?_
        have J134 : ∀ (k134_0 : Int32) (H : Heap) (locs : List Loc) (ls : Array Slot), (8 ≤ k134_0.toInt) → (k134_0.toInt ≤ 10) → HT D cs A T O X H → va_S A s.heap H locs → lv_has ls 3 [(0, .ref a0), (1, .int x1)] → W p l e { frames := 12, cells := 0, slots := 0, locals := 266 } s m [.ref a0, .int x1].toArray below meth c H locs 0 0 (MQ below (Ti D cs (fun r u => u = (T, O, X) ∧ 0 ≤ r.toInt ∧ r.toInt ≤ 1) A) [.ref a0, .int x1].toArray s 0 0 A) (F0 m 134 ls [.int k134_0]) := by
          intro k134_0 H locs ls l_k134_0 u_k134_0 hH hS hl
          refine lv_istore_n (lv' := [(2, .int k134_0), (0, .ref a0), (1, .int x1)]) hx hb dX3_readUnit_134 rfl hl (by decide) rfl (fun ls hl => ?_)
          refine lv_iload_n hx hb dX3_readUnit_135 rfl (lv_at hl 0 rfl) ?_
          refine lv_bipush (v := 10) hx hb dX3_readUnit_136 (by decide) ?_
          have J162 : ∀  (H : Heap) (locs : List Loc) (ls : Array Slot), HT D cs A T O X H → va_S A s.heap H locs → lv_has ls 3 [(2, .int k134_0), (0, .ref a0), (1, .int x1)] → W p l e { frames := 12, cells := 0, slots := 0, locals := 266 } s m [.ref a0, .int x1].toArray below meth c H locs 0 0 (MQ below (Ti D cs (fun r u => u = (T, O, X) ∧ 0 ≤ r.toInt ∧ r.toInt ≤ 1) A) [.ref a0, .int x1].toArray s 0 0 A) (F0 m 162 ls []) := by
            intro  H locs ls  hH hS hl
            refine lv_aload_n hx hb dX3_readUnit_162 rfl (lv_at hl 1 rfl) ?_
            refine t_get (ci := 3) (lst := ft3 0 0) (C := RX3) (F := TX3) (N := 3) hx hb hts uX3 hown hkb hH t_a0 (hO.no t_a0 (by decide)) (fun _ h9 => h9) rfl rfl 0 (by decide) rfl kw_82 (fun _ h9 => h9) dX3_readUnit_163 (fun v9 h9 => ?_)
            obtain ⟨v163, rfl, t_v163⟩ := h9
            refine tk_v hH hS hA (tr_V (n := 0) (As := []) hx hb hml hown hts hkb hH hOX hks hE hS hA (s_Tok_go l D cs kf T O X v163 t_v163 (hO.sub (by decide))) kw_641 kw_453 kw_454 kw_3 kw_455 (by decide +kernel) ⟨Nat.le_of_ble_eq_true rfl, Nat.le_of_ble_eq_true rfl⟩ (HT.recv (ci := 7) hkb hH t_v163 (hO.no t_v163 (by decide)) rfl) rfl rfl hl.1 (Nat.le_of_ble_eq_true rfl) dX3_readUnit_166 ⟨Nat.le_of_ble_eq_true rfl, Nat.le_of_ble_eq_true rfl⟩) (fun u H locs hz9 hH hS => ?_)
            have hz9 : u = (T, O, X) := hz9
            subst hz9
            have hH : HT D cs A T O X H := hH
            refine W.widen (k := 0) (n := 0) (Nat.le_of_ble_eq_true rfl) (Nat.le_of_ble_eq_true rfl) ?_
            refine lv_aload_n hx hb dX3_readUnit_169 rfl (lv_at hl 1 rfl) ?_
            refine lv_iload_n hx hb dX3_readUnit_170 rfl (lv_at hl 2 rfl) ?_
            refine tk_i hH hS hA (tr_V (n := 1) (As := [.int x1]) hx hb hml hown hts hkb hH hOX hks hE hS hA (s_LR_readSum5 l D cs kf T O X a0 x1 t_a0 (by omega) (by omega) (hO.sub (by decide))) kw_648 kw_650 ks_10 kw_4 kw_651 (by decide +kernel) ⟨Nat.le_of_ble_eq_true rfl, Nat.le_of_ble_eq_true rfl⟩ (HT.recv (ci := 3) hkb hH t_a0 (hO.no t_a0 (by decide)) rfl) rfl rfl hl.1 (Nat.le_of_ble_eq_true rfl) dX3_readUnit_171 ⟨Nat.le_of_ble_eq_true rfl, Nat.le_of_ble_eq_true rfl⟩) (fun v171 u H locs hz9 hH hS => ?_)
            obtain ⟨rfl, l_v171, u_v171⟩ := hz9
            have hH : HT D cs A T O X H := hH
            refine W.widen (k := 0) (n := 0) (Nat.le_of_ble_eq_true rfl) (Nat.le_of_ble_eq_true rfl) ?_
            refine lv_if_ne (tgt := 179) hx hb dX3_readUnit_174 (by decide) (fun c174 => ?_) (fun c174 => ?_)
            · skip
              have tc174 := f_ne (k := 0) (by decide) c174
              refine lv_aload_n hx hb dX3_readUnit_179 rfl (lv_at hl 1 rfl) ?_
              refine lv_iload_n hx hb dX3_readUnit_180 rfl (lv_at hl 0 rfl) ?_
              refine lv_iconst (v := 0) hx hb dX3_readUnit_181 (by decide) ?_
              refine tk_v hH hS hA (tr_V (n := 2) (As := [.int k134_0, .int 0]) hx hb hml hown hts hkb hH hOX hks hE hS hA (s_LR_put l D cs kf T O X a0 k134_0 (0) t_a0 (hO.sub (by decide))) kw_642 kw_644 ks_9 kw_4 kw_645 (by decide +kernel) ⟨Nat.le_of_ble_eq_true rfl, Nat.le_of_ble_eq_true rfl⟩ (HT.recv (ci := 3) hkb hH t_a0 (hO.no t_a0 (by decide)) rfl) rfl rfl hl.1 (Nat.le_of_ble_eq_true rfl) dX3_readUnit_182 ⟨Nat.le_of_ble_eq_true rfl, Nat.le_of_ble_eq_true rfl⟩) (fun u H locs hz9 hH hS => ?_)
              have hz9 : u = (T, O, X) := hz9
              subst hz9
              have hH : HT D cs A T O X H := hH
              refine W.widen (k := 0) (n := 0) (Nat.le_of_ble_eq_true rfl) (Nat.le_of_ble_eq_true rfl) ?_
              refine lv_iconst (v := 1) hx hb dX3_readUnit_185 (by decide) ?_
              exact te_z hx hb hr hlocks (by rfl) hH hS (⟨rfl, by decide, by decide⟩) dX3_readUnit_186
            · skip
              have tc174 := f_eq (k := 0) (by decide) c174
              refine lv_iconst (v := 0) hx hb dX3_readUnit_177 (by decide) ?_
              exact te_z hx hb hr hlocks (by rfl) hH hS (⟨rfl, by decide, by decide⟩) dX3_readUnit_178
          refine lv_icmp_ne (tgt := 162) hx hb dX3_readUnit_138 (by decide) (fun c138 => ?_) (fun c138 => ?_)
          · skip
            have tc138 := f_ne (k := 10) (by decide) c138
            exact J162  _ _ _  hH hS (lv_sub hl [0, 1, 2] rfl)
          · skip
            have tc138 := f_eq (k := 10) (by decide) c138
            refine lv_aload_n hx hb dX3_readUnit_141 rfl (lv_at hl 1 rfl) ?_
            refine t_get (ci := 3) (lst := ft3 0 0) (C := RX3) (F := TX3) (N := 3) hx hb hts uX3 hown hkb hH t_a0 (hO.no t_a0 (by decide)) (fun _ h9 => h9) rfl rfl 0 (by decide) rfl kw_82 (fun _ h9 => h9) dX3_readUnit_142 (fun v9 h9 => ?_)
            obtain ⟨v142, rfl, t_v142⟩ := h9
            refine lv_bipush (v := 62) hx hb dX3_readUnit_145 (by decide) ?_
            refine tk_i hH hS hA (tr_V (n := 1) (As := [.int 62]) hx hb hml hown hts hkb hH hOX hks hE hS hA (s_Tok_isSign l D cs kf T O X v142 (62) t_v142 (hO.sub (by decide))) kw_646 kw_615 kw_616 kw_3 kw_617 (by decide +kernel) ⟨Nat.le_of_ble_eq_true rfl, Nat.le_of_ble_eq_true rfl⟩ (HT.recv (ci := 7) hkb hH t_v142 (hO.no t_v142 (by decide)) rfl) rfl rfl hl.1 (Nat.le_of_ble_eq_true rfl) dX3_readUnit_147 ⟨Nat.le_of_ble_eq_true rfl, Nat.le_of_ble_eq_true rfl⟩) (fun v147 u H locs hz9 hH hS => ?_)
            obtain ⟨rfl, l_v147, u_v147⟩ := hz9
            have hH : HT D cs A T O X H := hH
            refine W.widen (k := 0) (n := 0) (Nat.le_of_ble_eq_true rfl) (Nat.le_of_ble_eq_true rfl) ?_
            refine lv_if_ne (tgt := 162) hx hb dX3_readUnit_150 (by decide) (fun c150 => ?_) (fun c150 => ?_)
            · skip
              have tc150 := f_ne (k := 0) (by decide) c150
              exact J162  _ _ _  hH hS (lv_sub hl [0, 1, 2] rfl)
            · skip
              have tc150 := f_eq (k := 0) (by decide) c150
              refine lv_aload_n hx hb dX3_readUnit_153 rfl (lv_at hl 1 rfl) ?_
              refine t_get (ci := 3) (lst := ft3 0 0) (C := RX3) (F := TX3) (N := 3) hx hb hts uX3 hown hkb hH t_a0 (hO.no t_a0 (by decide)) (fun _ h9 => h9) rfl rfl 0 (by decide) rfl kw_82 (fun _ h9 => h9) dX3_readUnit_154 (fun v9 h9 => ?_)
              obtain ⟨v154, rfl, t_v154⟩ := h9
              refine lv_iconst (v := 2) hx hb dX3_readUnit_157 (by decide) ?_
              refine tk_i hH hS hA (tr_V (n := 1) (As := [.int 2]) hx hb hml hown hts hkb hH hOX hks hE hS hA (s_Tok_refuse l D cs kf T O X v154 (2) t_v154 (hO.sub (by decide))) kw_640 kw_580 kw_581 kw_3 kw_582 (by decide +kernel) ⟨Nat.le_of_ble_eq_true rfl, Nat.le_of_ble_eq_true rfl⟩ (HT.recv (ci := 7) hkb hH t_v154 (hO.no t_v154 (by decide)) rfl) rfl rfl hl.1 (Nat.le_of_ble_eq_true rfl) dX3_readUnit_158 ⟨Nat.le_of_ble_eq_true rfl, Nat.le_of_ble_eq_true rfl⟩) (fun v158 u H locs hz9 hH hS => ?_)
              obtain ⟨rfl, l_v158, u_v158⟩ := hz9
              have hH : HT D cs A T O X H := hH
              refine W.widen (k := 0) (n := 0) (Nat.le_of_ble_eq_true rfl) (Nat.le_of_ble_eq_true rfl) ?_
              exact te_z hx hb hr hlocks (nar01 (by omega) (by omega)) hH hS (⟨rfl, by omega, by omega⟩) dX3_readUnit_161
        refine lv_if_eq (tgt := 115) hx hb dX3_readUnit_107 (by decide) (fun c107 => ?_) (fun c107 => ?_)
        · skip
          have tc107 := f_eq (k := 0) (by decide) c107
          refine lv_aload_n hx hb dX3_readUnit_115 rfl (lv_at hl 0 rfl) ?_
          refine t_get (ci := 3) (lst := ft3 0 0) (C := RX3) (F := TX3) (N := 3) hx hb hts uX3 hown hkb hH t_a0 (hO.no t_a0 (by decide)) (fun _ h9 => h9) rfl rfl 0 (by decide) rfl kw_82 (fun _ h9 => h9) dX3_readUnit_116 (fun v9 h9 => ?_)
          obtain ⟨v116, rfl, t_v116⟩ := h9
          refine lv_bipush (v := 60) hx hb dX3_readUnit_119 (by decide) ?_
          refine tk_i hH hS hA (tr_V (n := 1) (As := [.int 60]) hx hb hml hown hts hkb hH hOX hks hE hS hA (s_Tok_isSign l D cs kf T O X v116 (60) t_v116 (hO.sub (by decide))) kw_646 kw_615 kw_616 kw_3 kw_617 (by decide +kernel) ⟨Nat.le_of_ble_eq_true rfl, Nat.le_of_ble_eq_true rfl⟩ (HT.recv (ci := 7) hkb hH t_v116 (hO.no t_v116 (by decide)) rfl) rfl rfl hl.1 (Nat.le_of_ble_eq_true rfl) dX3_readUnit_121 ⟨Nat.le_of_ble_eq_true rfl, Nat.le_of_ble_eq_true rfl⟩) (fun v121 u H locs hz9 hH hS => ?_)
          obtain ⟨rfl, l_v121, u_v121⟩ := hz9
          have hH : HT D cs A T O X H := hH
          refine W.widen (k := 0) (n := 0) (Nat.le_of_ble_eq_true rfl) (Nat.le_of_ble_eq_true rfl) ?_
          refine lv_if_eq (tgt := 132) hx hb dX3_readUnit_124 (by decide) (fun c124 => ?_) (fun c124 => ?_)
          · skip
            have tc124 := f_eq (k := 0) (by decide) c124
            refine lv_bipush (v := 10) hx hb dX3_readUnit_132 (by decide) ?_
            exact J134 10 _ _ _ (by decide) (by decide) hH hS (lv_sub hl [0, 1] rfl)
          · skip
            have tc124 := f_ne (k := 0) (by decide) c124
            refine lv_bipush (v := 9) hx hb dX3_readUnit_127 (by decide) ?_
            refine lv_goto (tgt := 134) hx hb dX3_readUnit_129 (by decide) ?_
            exact J134 9 _ _ _ (by decide) (by decide) hH hS (lv_sub hl [0, 1] rfl)
        · skip
          have tc107 := f_ne (k := 0) (by decide) c107
          refine lv_bipush (v := 8) hx hb dX3_readUnit_110 (by decide) ?_
          refine lv_goto (tgt := 134) hx hb dX3_readUnit_112 (by decide) ?_
          exact J134 8 _ _ _ (by decide) (by decide) hH hS (lv_sub hl [0, 1] rfl)
      · skip
        have tc93 := f_eq (k := 0) (by decide) c93
        refine lv_iconst (v := 0) hx hb dX3_readUnit_96 (by decide) ?_
        exact te_z hx hb hr hlocks (by rfl) hH hS (⟨rfl, by decide, by decide⟩) dX3_readUnit_97
    · skip
      have tc49 := f_ne (k := 0) (by decide) c49
      refine lv_aload_n hx hb dX3_readUnit_52 rfl (lv_at hl 0 rfl) ?_
      refine lv_iload_n hx hb dX3_readUnit_53 rfl (lv_at hl 1 rfl) ?_
      refine tk_i hH hS hA (tr_V (n := 1) (As := [.int x1]) hx hb hml hown hts hkb hH hOX hks hE hS hA (s_LR_enter5 l D cs kf T O X a0 x1 t_a0 (by omega) (by omega) (hO.sub (by decide))) kw_636 kw_638 ks_8 kw_4 kw_639 (by decide +kernel) ⟨Nat.le_of_ble_eq_true rfl, Nat.le_of_ble_eq_true rfl⟩ (HT.recv (ci := 3) hkb hH t_a0 (hO.no t_a0 (by decide)) rfl) rfl rfl hl.1 (Nat.le_of_ble_eq_true rfl) dX3_readUnit_54 ⟨Nat.le_of_ble_eq_true rfl, Nat.le_of_ble_eq_true rfl⟩) (fun v54 u H locs hz9 hH hS => ?_)
      obtain ⟨rfl, l_v54, u_v54⟩ := hz9
      have hH : HT D cs A T O X H := hH
      refine W.widen (k := 0) (n := 0) (Nat.le_of_ble_eq_true rfl) (Nat.le_of_ble_eq_true rfl) ?_
      refine lv_if_eq (tgt := 86) hx hb dX3_readUnit_57 (by decide) (fun c57 => ?_) (fun c57 => ?_)
      · skip
        have tc57 := f_eq (k := 0) (by decide) c57
        exfalso; omega
      · skip
        have tc57 := f_ne (k := 0) (by decide) c57
        refine lv_aload_n hx hb dX3_readUnit_60 rfl (lv_at hl 0 rfl) ?_
        refine lv_iload_n hx hb dX3_readUnit_61 rfl (lv_at hl 1 rfl) ?_
        refine lv_iconst (v := 1) hx hb dX3_readUnit_62 (by decide) ?_
        refine lv_iadd hx hb dX3_readUnit_63 ?_
        refine lv_topi (fun v63 ev63 => ?_)
        have tv63 : v63.toInt = x1.toInt + (1) := by rw [ev63]; exact add_i rfl (by decide : (1 : Int32).toInt = 1) (by omega) (by omega)
        refine tk_i hH hS hA (tr_V (n := 1) (As := [.int v63]) hx hb hml hown hts hkb hH hOX hks hE hS hA (s_LR_readTruth6 l D cs kf T O X a0 v63 t_a0 (by omega) (by omega) (hO.sub (by decide))) kw_622 kw_624 ks_5 kw_4 kw_625 (by decide +kernel) ⟨Nat.le_of_ble_eq_true rfl, Nat.le_of_ble_eq_true rfl⟩ (HT.recv (ci := 3) hkb hH t_a0 (hO.no t_a0 (by decide)) rfl) rfl rfl hl.1 (Nat.le_of_ble_eq_true rfl) dX3_readUnit_64 ⟨Nat.le_of_ble_eq_true rfl, Nat.le_of_ble_eq_true rfl⟩) (fun v64 u H locs hz9 hH hS => ?_)
        obtain ⟨rfl, l_v64, u_v64⟩ := hz9
        have hH : HT D cs A T O X H := hH
        refine W.widen (k := 0) (n := 0) (Nat.le_of_ble_eq_true rfl) (Nat.le_of_ble_eq_true rfl) ?_
        have J87 : ∀ (k87_0 : Int32) (H : Heap) (locs : List Loc) (ls : Array Slot), (0 ≤ k87_0.toInt) → (k87_0.toInt ≤ 1) → HT D cs A T O X H → va_S A s.heap H locs → lv_has ls 3 [] → W p l e { frames := 12, cells := 0, slots := 0, locals := 266 } s m [.ref a0, .int x1].toArray below meth c H locs 0 0 (MQ below (Ti D cs (fun r u => u = (T, O, X) ∧ 0 ≤ r.toInt ∧ r.toInt ≤ 1) A) [.ref a0, .int x1].toArray s 0 0 A) (F0 m 87 ls [.int k87_0]) := by
          intro k87_0 H locs ls l_k87_0 u_k87_0 hH hS hl
          exact te_z hx hb hr hlocks (nar01 (by omega) (by omega)) hH hS (⟨rfl, by omega, by omega⟩) dX3_readUnit_87
        have J86 : ∀  (H : Heap) (locs : List Loc) (ls : Array Slot), HT D cs A T O X H → va_S A s.heap H locs → lv_has ls 3 [] → W p l e { frames := 12, cells := 0, slots := 0, locals := 266 } s m [.ref a0, .int x1].toArray below meth c H locs 0 0 (MQ below (Ti D cs (fun r u => u = (T, O, X) ∧ 0 ≤ r.toInt ∧ r.toInt ≤ 1) A) [.ref a0, .int x1].toArray s 0 0 A) (F0 m 86 ls []) := by
          intro  H locs ls  hH hS hl
          refine lv_iconst (v := 0) hx hb dX3_readUnit_86 (by decide) ?_
          exact J87 0 _ _ _ (by decide) (by decide) hH hS (lv_sub hl [] rfl)
        refine lv_if_eq (tgt := 86) hx hb dX3_readUnit_67 (by decide) (fun c67 => ?_) (fun c67 => ?_)
        · skip
          have tc67 := f_eq (k := 0) (by decide) c67
          exact J86  _ _ _  hH hS (lv_sub hl [] rfl)
        · skip
          have tc67 := f_ne (k := 0) (by decide) c67
          refine lv_aload_n hx hb dX3_readUnit_70 rfl (lv_at hl 0 rfl) ?_
          refine t_get (ci := 3) (lst := ft3 0 0) (C := RX3) (F := TX3) (N := 3) hx hb hts uX3 hown hkb hH t_a0 (hO.no t_a0 (by decide)) (fun _ h9 => h9) rfl rfl 0 (by decide) rfl kw_82 (fun _ h9 => h9) dX3_readUnit_71 (fun v9 h9 => ?_)
          obtain ⟨v71, rfl, t_v71⟩ := h9
          refine lv_bipush (v := 93) hx hb dX3_readUnit_74 (by decide) ?_
          refine tk_i hH hS hA (tr_V (n := 1) (As := [.int 93]) hx hb hml hown hts hkb hH hOX hks hE hS hA (s_Tok_takeSign l D cs kf T O X v71 (93) t_v71 (hO.sub (by decide))) kw_647 kw_611 kw_612 kw_3 kw_613 (by decide +kernel) ⟨Nat.le_of_ble_eq_true rfl, Nat.le_of_ble_eq_true rfl⟩ (HT.recv (ci := 7) hkb hH t_v71 (hO.no t_v71 (by decide)) rfl) rfl rfl hl.1 (Nat.le_of_ble_eq_true rfl) dX3_readUnit_76 ⟨Nat.le_of_ble_eq_true rfl, Nat.le_of_ble_eq_true rfl⟩) (fun v76 u H locs hz9 hH hS => ?_)
          obtain ⟨rfl, l_v76, u_v76⟩ := hz9
          have hH : HT D cs A T O X H := hH
          refine W.widen (k := 0) (n := 0) (Nat.le_of_ble_eq_true rfl) (Nat.le_of_ble_eq_true rfl) ?_
          refine lv_if_eq (tgt := 86) hx hb dX3_readUnit_79 (by decide) (fun c79 => ?_) (fun c79 => ?_)
          · skip
            have tc79 := f_eq (k := 0) (by decide) c79
            exact J86  _ _ _  hH hS (lv_sub hl [] rfl)
          · skip
            have tc79 := f_ne (k := 0) (by decide) c79
            refine lv_iconst (v := 1) hx hb dX3_readUnit_82 (by decide) ?_
            refine lv_goto (tgt := 87) hx hb dX3_readUnit_83 (by decide) ?_
            exact J87 1 _ _ _ (by decide) (by decide) hH hS (lv_sub hl [] rfl)
  · skip
    have tc9 := f_ne (k := 0) (by decide) c9
    refine lv_aload_n hx hb dX3_readUnit_12 rfl (lv_at hl 0 rfl) ?_
    refine lv_iload_n hx hb dX3_readUnit_13 rfl (lv_at hl 1 rfl) ?_
    refine tk_i hH hS hA (tr_V (n := 1) (As := [.int x1]) hx hb hml hown hts hkb hH hOX hks hE hS hA (s_LR_enter5 l D cs kf T O X a0 x1 t_a0 (by omega) (by omega) (hO.sub (by decide))) kw_636 kw_638 ks_8 kw_4 kw_639 (by decide +kernel) ⟨Nat.le_of_ble_eq_true rfl, Nat.le_of_ble_eq_true rfl⟩ (HT.recv (ci := 3) hkb hH t_a0 (hO.no t_a0 (by decide)) rfl) rfl rfl hl.1 (Nat.le_of_ble_eq_true rfl) dX3_readUnit_14 ⟨Nat.le_of_ble_eq_true rfl, Nat.le_of_ble_eq_true rfl⟩) (fun v14 u H locs hz9 hH hS => ?_)
    obtain ⟨rfl, l_v14, u_v14⟩ := hz9
    have hH : HT D cs A T O X H := hH
    refine W.widen (k := 0) (n := 0) (Nat.le_of_ble_eq_true rfl) (Nat.le_of_ble_eq_true rfl) ?_
    refine lv_if_eq (tgt := 30) hx hb dX3_readUnit_17 (by decide) (fun c17 => ?_) (fun c17 => ?_)
    · skip
      have tc17 := f_eq (k := 0) (by decide) c17
      exfalso; omega
    · skip
      have tc17 := f_ne (k := 0) (by decide) c17
      refine lv_aload_n hx hb dX3_readUnit_20 rfl (lv_at hl 0 rfl) ?_
      refine lv_iload_n hx hb dX3_readUnit_21 rfl (lv_at hl 1 rfl) ?_
      refine lv_iconst (v := 1) hx hb dX3_readUnit_22 (by decide) ?_
      refine lv_iadd hx hb dX3_readUnit_23 ?_
      refine lv_topi (fun v23 ev23 => ?_)
      have tv23 : v23.toInt = x1.toInt + (1) := by rw [ev23]; exact add_i rfl (by decide : (1 : Int32).toInt = 1) (by omega) (by omega)
      refine tk_i hH hS hA (tr_V (n := 1) (As := [.int v23]) hx hb hml hown hts hkb hH hOX hks hE hS hA (s_LR_readUnit6 l D cs kf T O X a0 v23 t_a0 (by omega) (by omega) (hO.sub (by decide))) kw_630 kw_632 ks_7 kw_4 kw_633 (by decide +kernel) ⟨Nat.le_of_ble_eq_true rfl, Nat.le_of_ble_eq_true rfl⟩ (HT.recv (ci := 3) hkb hH t_a0 (hO.no t_a0 (by decide)) rfl) rfl rfl hl.1 (Nat.le_of_ble_eq_true rfl) dX3_readUnit_24 ⟨Nat.le_of_ble_eq_true rfl, Nat.le_of_ble_eq_true rfl⟩) (fun v24 u H locs hz9 hH hS => ?_)
      obtain ⟨rfl, l_v24, u_v24⟩ := hz9
      have hH : HT D cs A T O X H := hH
      refine W.widen (k := 0) (n := 0) (Nat.le_of_ble_eq_true rfl) (Nat.le_of_ble_eq_true rfl) ?_
      refine lv_if_ne (tgt := 32) hx hb dX3_readUnit_27 (by decide) (fun c27 => ?_) (fun c27 => ?_)
      · skip
        have tc27 := f_ne (k := 0) (by decide) c27
        refine lv_aload_n hx hb dX3_readUnit_32 rfl (lv_at hl 0 rfl) ?_
        refine lv_iconst (v := 2) hx hb dX3_readUnit_33 (by decide) ?_
        refine lv_iconst (v := 0) hx hb dX3_readUnit_34 (by decide) ?_
        refine tk_v hH hS hA (tr_V (n := 2) (As := [.int 2, .int 0]) hx hb hml hown hts hkb hH hOX hks hE hS hA (s_LR_put l D cs kf T O X a0 (2) (0) t_a0 (hO.sub (by decide))) kw_642 kw_644 ks_9 kw_4 kw_645 (by decide +kernel) ⟨Nat.le_of_ble_eq_true rfl, Nat.le_of_ble_eq_true rfl⟩ (HT.recv (ci := 3) hkb hH t_a0 (hO.no t_a0 (by decide)) rfl) rfl rfl hl.1 (Nat.le_of_ble_eq_true rfl) dX3_readUnit_35 ⟨Nat.le_of_ble_eq_true rfl, Nat.le_of_ble_eq_true rfl⟩) (fun u H locs hz9 hH hS => ?_)
        have hz9 : u = (T, O, X) := hz9
        subst hz9
        have hH : HT D cs A T O X H := hH
        refine W.widen (k := 0) (n := 0) (Nat.le_of_ble_eq_true rfl) (Nat.le_of_ble_eq_true rfl) ?_
        refine lv_iconst (v := 1) hx hb dX3_readUnit_38 (by decide) ?_
        exact te_z hx hb hr hlocks (by rfl) hH hS (⟨rfl, by decide, by decide⟩) dX3_readUnit_39
      · skip
        have tc27 := f_eq (k := 0) (by decide) c27
        refine lv_iconst (v := 0) hx hb dX3_readUnit_30 (by decide) ?_
        exact te_z hx hb hr hlocks (by rfl) hH hS (⟨rfl, by decide, by decide⟩) dX3_readUnit_31
set_option maxHeartbeats 4000000 in
set_option maxRecDepth 100000 in
theorem s_LR_readBoth5 (l : Launch) (D : va_G) (cs : CS) (kf : KF) (T : TF) (O : List Nat) (X : va_W) (a0 : Nat) (x1 : Int32) (t_a0 : T a0 = some (13, 0, 0)) (l_x1 : 5 ≤ x1.toInt) (u_x1 : x1.toInt ≤ 5) (hO : okO T O [0, 1, 13, 17]) : TK l D cs kf yX3_readBoth cX3_readBoth 5 (some (.boolean)) { frames := 13, cells := 0, slots := 0, locals := 288 } [.ref a0, .int x1] T O X (Ti D cs (fun r u => u = (T, O, X) ∧ 0 ≤ r.toInt ∧ r.toInt ≤ 1)) := by
  refine tk_of (by decide) (Nat.le_of_ble_eq_true rfl) (fun p e s m below meth c ls A H locs hx hb hr hml hown hts hlocks hnm hkb hH hS hA hOX hks hE hl => ?_)
  have hown : s.vm.findClass RX3 = some m.cls := hown
  have hl : lv_has ls 5 [(0, .ref a0), (1, .int x1)] := hl
  refine lv_aload_n hx hb dX3_readBoth_0 rfl (lv_at hl 0 rfl) ?_
  refine lv_iload_n hx hb dX3_readBoth_1 rfl (lv_at hl 1 rfl) ?_
  refine tk_i hH hS hA (tr_V (n := 1) (As := [.int x1]) hx hb hml hown hts hkb hH hOX hks hE hS hA (s_LR_readUnit5 l D cs kf T O X a0 x1 t_a0 (by omega) (by omega) (hO.sub (by decide))) kw_630 kw_632 ks_7 kw_4 kw_633 (by decide +kernel) ⟨Nat.le_of_ble_eq_true rfl, Nat.le_of_ble_eq_true rfl⟩ (HT.recv (ci := 3) hkb hH t_a0 (hO.no t_a0 (by decide)) rfl) rfl rfl hl.1 (Nat.le_of_ble_eq_true rfl) dX3_readBoth_2 ⟨Nat.le_of_ble_eq_true rfl, Nat.le_of_ble_eq_true rfl⟩) (fun v2 u H locs hz9 hH hS => ?_)
  obtain ⟨rfl, l_v2, u_v2⟩ := hz9
  have hH : HT D cs A T O X H := hH
  refine W.widen (k := 0) (n := 0) (Nat.le_of_ble_eq_true rfl) (Nat.le_of_ble_eq_true rfl) ?_
  refine lv_istore_n (lv' := [(2, .int v2), (0, .ref a0), (1, .int x1)]) hx hb dX3_readBoth_5 rfl hl (by decide) rfl (fun ls hl => ?_)
  refine lv_iconst (v := 0) hx hb dX3_readBoth_6 (by decide) ?_
  have J8 : ∀ (n : Nat) (p8_3 : Int32) (p8_2 : Int32) (H : Heap) (locs : List Loc) (ls : Array Slot), (900 - p8_3.toInt).toNat = n → (0 ≤ p8_3.toInt) → (p8_3.toInt ≤ 900) → (0 ≤ p8_2.toInt) → (p8_2.toInt ≤ 1) → HT D cs A T O X H → va_S A s.heap H locs → lv_has ls 5 [(3, .int p8_3), (2, .int p8_2), (0, .ref a0), (1, .int x1)] → W p l e { frames := 13, cells := 0, slots := 0, locals := 288 } s m [.ref a0, .int x1].toArray below meth c H locs 0 0 (MQ below (Ti D cs (fun r u => u = (T, O, X) ∧ 0 ≤ r.toInt ∧ r.toInt ≤ 1) A) [.ref a0, .int x1].toArray s 0 0 A) (F0 m 8 ls []) := by
    intro n
    induction n using Nat.strongRecOn with
    | _ n ih8 =>
      intro p8_3 p8_2 H locs ls hm8 l_p8_3 u_p8_3 l_p8_2 u_p8_2 hH hS hl
      refine lv_iload_n hx hb dX3_readBoth_8 rfl (lv_at hl 0 rfl) ?_
      refine lv_sipush (v := 900) hx hb dX3_readBoth_9 (by decide) ?_
      have J68 : ∀  (H : Heap) (locs : List Loc) (ls : Array Slot), HT D cs A T O X H → va_S A s.heap H locs → lv_has ls 5 [(2, .int p8_2)] → W p l e { frames := 13, cells := 0, slots := 0, locals := 288 } s m [.ref a0, .int x1].toArray below meth c H locs 0 0 (MQ below (Ti D cs (fun r u => u = (T, O, X) ∧ 0 ≤ r.toInt ∧ r.toInt ≤ 1) A) [.ref a0, .int x1].toArray s 0 0 A) (F0 m 68 ls []) := by
        intro  H locs ls  hH hS hl
        refine lv_iload_n hx hb dX3_readBoth_68 rfl (lv_at hl 0 rfl) ?_
        exact te_z hx hb hr hlocks (nar01 (by omega) (by omega)) hH hS (⟨rfl, by omega, by omega⟩) dX3_readBoth_69
      refine lv_icmp_ge (tgt := 68) hx hb dX3_readBoth_12 (by decide) (fun c12 => ?_) (fun c12 => ?_)
      · skip
        have tc12 := f_ge (k := 900) (by decide) c12
        exact J68  _ _ _  hH hS (lv_sub hl [1] rfl)
      · skip
        have tc12 := f_nge (k := 900) (by decide) c12
        refine lv_iload_n hx hb dX3_readBoth_15 rfl (lv_at hl 1 rfl) ?_
        refine lv_if_eq (tgt := 68) hx hb dX3_readBoth_16 (by decide) (fun c16 => ?_) (fun c16 => ?_)
        · skip
          have tc16 := f_eq (k := 0) (by decide) c16
          exact J68  _ _ _  hH hS (lv_sub hl [1] rfl)
        · skip
          have tc16 := f_ne (k := 0) (by decide) c16
          refine lv_aload_n hx hb dX3_readBoth_19 rfl (lv_at hl 2 rfl) ?_
          refine t_get (ci := 3) (lst := ft3 0 0) (C := RX3) (F := TX3) (N := 3) hx hb hts uX3 hown hkb hH t_a0 (hO.no t_a0 (by decide)) (fun _ h9 => h9) rfl rfl 0 (by decide) rfl kw_82 (fun _ h9 => h9) dX3_readBoth_20 (fun v9 h9 => ?_)
          obtain ⟨v20, rfl, t_v20⟩ := h9
          refine va_ldcS (q := kf.1 15) hx hb hown (hks ("FootholdWall$LawReader", 63, "and", 15) (by decide +kernel)) dX3_readBoth_23 ?_
          refine tk_i hH hS hA (tr_V (n := 1) (As := [.ref (kf.1 15)]) hx hb hml hown hts hkb hH hOX hks hE hS hA (s_Tok_isWord l D cs kf T O X v20 15 t_v20 (by decide) (hO.sub (by decide))) kw_635 kw_551 kw_552 kw_3 kw_553 (by decide +kernel) ⟨Nat.le_of_ble_eq_true rfl, Nat.le_of_ble_eq_true rfl⟩ (HT.recv (ci := 7) hkb hH t_v20 (hO.no t_v20 (by decide)) rfl) rfl rfl hl.1 (Nat.le_of_ble_eq_true rfl) dX3_readBoth_25 ⟨Nat.le_of_ble_eq_true rfl, Nat.le_of_ble_eq_true rfl⟩) (fun v25 u H locs hz9 hH hS => ?_)
          obtain ⟨rfl, l_v25, u_v25⟩ := hz9
          have hH : HT D cs A T O X H := hH
          refine W.widen (k := 0) (n := 0) (Nat.le_of_ble_eq_true rfl) (Nat.le_of_ble_eq_true rfl) ?_
          refine lv_if_eq (tgt := 68) hx hb dX3_readBoth_28 (by decide) (fun c28 => ?_) (fun c28 => ?_)
          · skip
            have tc28 := f_eq (k := 0) (by decide) c28
            exact J68  _ _ _  hH hS (lv_sub hl [1] rfl)
          · skip
            have tc28 := f_ne (k := 0) (by decide) c28
            refine lv_aload_n hx hb dX3_readBoth_31 rfl (lv_at hl 2 rfl) ?_
            refine t_get (ci := 3) (lst := ft3 0 0) (C := RX3) (F := TX3) (N := 3) hx hb hts uX3 hown hkb hH t_a0 (hO.no t_a0 (by decide)) (fun _ h9 => h9) rfl rfl 0 (by decide) rfl kw_82 (fun _ h9 => h9) dX3_readBoth_32 (fun v9 h9 => ?_)
            obtain ⟨v32, rfl, t_v32⟩ := h9
            refine tk_v hH hS hA (tr_V (n := 0) (As := []) hx hb hml hown hts hkb hH hOX hks hE hS hA (s_Tok_go l D cs kf T O X v32 t_v32 (hO.sub (by decide))) kw_641 kw_453 kw_454 kw_3 kw_455 (by decide +kernel) ⟨Nat.le_of_ble_eq_true rfl, Nat.le_of_ble_eq_true rfl⟩ (HT.recv (ci := 7) hkb hH t_v32 (hO.no t_v32 (by decide)) rfl) rfl rfl hl.1 (Nat.le_of_ble_eq_true rfl) dX3_readBoth_35 ⟨Nat.le_of_ble_eq_true rfl, Nat.le_of_ble_eq_true rfl⟩) (fun u H locs hz9 hH hS => ?_)
            have hz9 : u = (T, O, X) := hz9
            subst hz9
            have hH : HT D cs A T O X H := hH
            refine W.widen (k := 0) (n := 0) (Nat.le_of_ble_eq_true rfl) (Nat.le_of_ble_eq_true rfl) ?_
            refine lv_aload_n hx hb dX3_readBoth_38 rfl (lv_at hl 2 rfl) ?_
            refine t_get (ci := 3) (lst := ft3 0 0) (C := RX3) (F := TX3) (N := 3) hx hb hts uX3 hown hkb hH t_a0 (hO.no t_a0 (by decide)) (fun _ h9 => h9) rfl rfl 2 (by decide) rfl kw_84 (fun _ h9 => h9) dX3_readBoth_39 (fun v9 h9 => ?_)
            obtain ⟨v39, rfl, l_v39, u_v39⟩ := h9
            refine lv_istore (lv' := [(4, .int v39), (3, .int p8_3), (2, .int p8_2), (0, .ref a0), (1, .int x1)]) hx hb dX3_readBoth_42 hl (by decide) rfl (fun ls hl => ?_)
            refine lv_aload_n hx hb dX3_readBoth_44 rfl (lv_at hl 3 rfl) ?_
            refine lv_iconst (v := 3) hx hb dX3_readBoth_45 (by decide) ?_
            refine lv_iconst (v := 0) hx hb dX3_readBoth_46 (by decide) ?_
            refine tk_v hH hS hA (tr_V (n := 2) (As := [.int 3, .int 0]) hx hb hml hown hts hkb hH hOX hks hE hS hA (s_LR_put l D cs kf T O X a0 (3) (0) t_a0 (hO.sub (by decide))) kw_642 kw_644 ks_9 kw_4 kw_645 (by decide +kernel) ⟨Nat.le_of_ble_eq_true rfl, Nat.le_of_ble_eq_true rfl⟩ (HT.recv (ci := 3) hkb hH t_a0 (hO.no t_a0 (by decide)) rfl) rfl rfl hl.1 (Nat.le_of_ble_eq_true rfl) dX3_readBoth_47 ⟨Nat.le_of_ble_eq_true rfl, Nat.le_of_ble_eq_true rfl⟩) (fun u H locs hz9 hH hS => ?_)
            have hz9 : u = (T, O, X) := hz9
            subst hz9
            have hH : HT D cs A T O X H := hH
            refine W.widen (k := 0) (n := 0) (Nat.le_of_ble_eq_true rfl) (Nat.le_of_ble_eq_true rfl) ?_
            refine lv_aload_n hx hb dX3_readBoth_50 rfl (lv_at hl 3 rfl) ?_
            refine lv_iload_n hx hb dX3_readBoth_51 rfl (lv_at hl 4 rfl) ?_
            refine tk_i hH hS hA (tr_V (n := 1) (As := [.int x1]) hx hb hml hown hts hkb hH hOX hks hE hS hA (s_LR_readUnit5 l D cs kf T O X a0 x1 t_a0 (by omega) (by omega) (hO.sub (by decide))) kw_630 kw_632 ks_7 kw_4 kw_633 (by decide +kernel) ⟨Nat.le_of_ble_eq_true rfl, Nat.le_of_ble_eq_true rfl⟩ (HT.recv (ci := 3) hkb hH t_a0 (hO.no t_a0 (by decide)) rfl) rfl rfl hl.1 (Nat.le_of_ble_eq_true rfl) dX3_readBoth_52 ⟨Nat.le_of_ble_eq_true rfl, Nat.le_of_ble_eq_true rfl⟩) (fun v52 u H locs hz9 hH hS => ?_)
            obtain ⟨rfl, l_v52, u_v52⟩ := hz9
            have hH : HT D cs A T O X H := hH
            refine W.widen (k := 0) (n := 0) (Nat.le_of_ble_eq_true rfl) (Nat.le_of_ble_eq_true rfl) ?_
            refine lv_istore_n (lv' := [(2, .int v52), (4, .int v39), (3, .int p8_3), (0, .ref a0), (1, .int x1)]) hx hb dX3_readBoth_55 rfl hl (by decide) rfl (fun ls hl => ?_)
            refine lv_aload_n hx hb dX3_readBoth_56 rfl (lv_at hl 3 rfl) ?_
            refine lv_iload hx hb dX3_readBoth_57 (lv_at hl 1 rfl) ?_
            refine tk_v hH hS hA (tr_V (n := 1) (As := [.int v39]) hx hb hml hown hts hkb hH hOX hks hE hS hA (s_LR_aimSkip l D cs kf T O X a0 v39 t_a0 (hO.sub (by decide))) kw_672 kw_674 ks_14 kw_4 kw_675 (by decide +kernel) ⟨Nat.le_of_ble_eq_true rfl, Nat.le_of_ble_eq_true rfl⟩ (HT.recv (ci := 3) hkb hH t_a0 (hO.no t_a0 (by decide)) rfl) rfl rfl hl.1 (Nat.le_of_ble_eq_true rfl) dX3_readBoth_59 ⟨Nat.le_of_ble_eq_true rfl, Nat.le_of_ble_eq_true rfl⟩) (fun u H locs hz9 hH hS => ?_)
            have hz9 : u = (T, O, X) := hz9
            subst hz9
            have hH : HT D cs A T O X H := hH
            refine W.widen (k := 0) (n := 0) (Nat.le_of_ble_eq_true rfl) (Nat.le_of_ble_eq_true rfl) ?_
            obtain ⟨v62, ev62⟩ : ∃ y : Int32, y = p8_3 + 1 := ⟨_, rfl⟩
            have tv62 : v62.toInt = p8_3.toInt + (1) := by rw [ev62]; exact add_i rfl (by decide) (by omega) (by omega)
            refine lv_iinc (v := v62) (lv' := [(3, .int v62), (2, .int v52), (4, .int v39), (0, .ref a0), (1, .int x1)]) hx hb dX3_readBoth_62 hl (k := 2) rfl (by rw [ev62]; rfl) (by decide) rfl (fun ls hl => ?_)
            refine lv_goto (tgt := 8) hx hb dX3_readBoth_65 (by decide) ?_
            exact ih8 _ (by omega) v62 v52 _ _ _ rfl (by omega) (by omega) (by omega) (by omega) hH hS (lv_sub hl [0, 1, 3, 4] rfl)
  refine lv_istore_n (lv' := [(3, .int 0), (2, .int v2), (0, .ref a0), (1, .int x1)]) hx hb dX3_readBoth_7 rfl hl (by decide) rfl (fun ls hl => ?_)
  exact J8 _ 0 v2 _ _ _ rfl (by decide) (by decide) (by omega) (by omega) hH hS (lv_sub hl [0, 1, 2, 3] rfl)
set_option maxHeartbeats 4000000 in
set_option maxRecDepth 100000 in
theorem s_LR_readTruth5 (l : Launch) (D : va_G) (cs : CS) (kf : KF) (T : TF) (O : List Nat) (X : va_W) (a0 : Nat) (x1 : Int32) (t_a0 : T a0 = some (13, 0, 0)) (l_x1 : 5 ≤ x1.toInt) (u_x1 : x1.toInt ≤ 5) (hO : okO T O [0, 1, 13, 17]) : TK l D cs kf yX3_readTruth cX3_readTruth 5 (some (.boolean)) { frames := 14, cells := 0, slots := 0, locals := 312 } [.ref a0, .int x1] T O X (Ti D cs (fun r u => u = (T, O, X) ∧ 0 ≤ r.toInt ∧ r.toInt ≤ 1)) := by
  refine tk_of (by decide) (Nat.le_of_ble_eq_true rfl) (fun p e s m below meth c ls A H locs hx hb hr hml hown hts hlocks hnm hkb hH hS hA hOX hks hE hl => ?_)
  have hown : s.vm.findClass RX3 = some m.cls := hown
  have hl : lv_has ls 5 [(0, .ref a0), (1, .int x1)] := hl
  refine lv_aload_n hx hb dX3_readTruth_0 rfl (lv_at hl 0 rfl) ?_
  refine lv_iload_n hx hb dX3_readTruth_1 rfl (lv_at hl 1 rfl) ?_
  refine tk_i hH hS hA (tr_V (n := 1) (As := [.int x1]) hx hb hml hown hts hkb hH hOX hks hE hS hA (s_LR_readBoth5 l D cs kf T O X a0 x1 t_a0 (by omega) (by omega) (hO.sub (by decide))) kw_626 kw_628 ks_6 kw_4 kw_629 (by decide +kernel) ⟨Nat.le_of_ble_eq_true rfl, Nat.le_of_ble_eq_true rfl⟩ (HT.recv (ci := 3) hkb hH t_a0 (hO.no t_a0 (by decide)) rfl) rfl rfl hl.1 (Nat.le_of_ble_eq_true rfl) dX3_readTruth_2 ⟨Nat.le_of_ble_eq_true rfl, Nat.le_of_ble_eq_true rfl⟩) (fun v2 u H locs hz9 hH hS => ?_)
  obtain ⟨rfl, l_v2, u_v2⟩ := hz9
  have hH : HT D cs A T O X H := hH
  refine W.widen (k := 0) (n := 0) (Nat.le_of_ble_eq_true rfl) (Nat.le_of_ble_eq_true rfl) ?_
  refine lv_istore_n (lv' := [(2, .int v2), (0, .ref a0), (1, .int x1)]) hx hb dX3_readTruth_5 rfl hl (by decide) rfl (fun ls hl => ?_)
  refine lv_iconst (v := 0) hx hb dX3_readTruth_6 (by decide) ?_
  have J8 : ∀ (n : Nat) (p8_3 : Int32) (p8_2 : Int32) (H : Heap) (locs : List Loc) (ls : Array Slot), (900 - p8_3.toInt).toNat = n → (0 ≤ p8_3.toInt) → (p8_3.toInt ≤ 900) → (0 ≤ p8_2.toInt) → (p8_2.toInt ≤ 1) → HT D cs A T O X H → va_S A s.heap H locs → lv_has ls 5 [(3, .int p8_3), (2, .int p8_2), (0, .ref a0), (1, .int x1)] → W p l e { frames := 14, cells := 0, slots := 0, locals := 312 } s m [.ref a0, .int x1].toArray below meth c H locs 0 0 (MQ below (Ti D cs (fun r u => u = (T, O, X) ∧ 0 ≤ r.toInt ∧ r.toInt ≤ 1) A) [.ref a0, .int x1].toArray s 0 0 A) (F0 m 8 ls []) := by
    intro n
    induction n using Nat.strongRecOn with
    | _ n ih8 =>
      intro p8_3 p8_2 H locs ls hm8 l_p8_3 u_p8_3 l_p8_2 u_p8_2 hH hS hl
      refine lv_iload_n hx hb dX3_readTruth_8 rfl (lv_at hl 0 rfl) ?_
      refine lv_sipush (v := 900) hx hb dX3_readTruth_9 (by decide) ?_
      have J68 : ∀  (H : Heap) (locs : List Loc) (ls : Array Slot), HT D cs A T O X H → va_S A s.heap H locs → lv_has ls 5 [(2, .int p8_2)] → W p l e { frames := 14, cells := 0, slots := 0, locals := 312 } s m [.ref a0, .int x1].toArray below meth c H locs 0 0 (MQ below (Ti D cs (fun r u => u = (T, O, X) ∧ 0 ≤ r.toInt ∧ r.toInt ≤ 1) A) [.ref a0, .int x1].toArray s 0 0 A) (F0 m 68 ls []) := by
        intro  H locs ls  hH hS hl
        refine lv_iload_n hx hb dX3_readTruth_68 rfl (lv_at hl 0 rfl) ?_
        exact te_z hx hb hr hlocks (nar01 (by omega) (by omega)) hH hS (⟨rfl, by omega, by omega⟩) dX3_readTruth_69
      refine lv_icmp_ge (tgt := 68) hx hb dX3_readTruth_12 (by decide) (fun c12 => ?_) (fun c12 => ?_)
      · skip
        have tc12 := f_ge (k := 900) (by decide) c12
        exact J68  _ _ _  hH hS (lv_sub hl [1] rfl)
      · skip
        have tc12 := f_nge (k := 900) (by decide) c12
        refine lv_iload_n hx hb dX3_readTruth_15 rfl (lv_at hl 1 rfl) ?_
        refine lv_if_eq (tgt := 68) hx hb dX3_readTruth_16 (by decide) (fun c16 => ?_) (fun c16 => ?_)
        · skip
          have tc16 := f_eq (k := 0) (by decide) c16
          exact J68  _ _ _  hH hS (lv_sub hl [1] rfl)
        · skip
          have tc16 := f_ne (k := 0) (by decide) c16
          refine lv_aload_n hx hb dX3_readTruth_19 rfl (lv_at hl 2 rfl) ?_
          refine t_get (ci := 3) (lst := ft3 0 0) (C := RX3) (F := TX3) (N := 3) hx hb hts uX3 hown hkb hH t_a0 (hO.no t_a0 (by decide)) (fun _ h9 => h9) rfl rfl 0 (by decide) rfl kw_82 (fun _ h9 => h9) dX3_readTruth_20 (fun v9 h9 => ?_)
          obtain ⟨v20, rfl, t_v20⟩ := h9
          refine va_ldcS (q := kf.1 16) hx hb hown (hks ("FootholdWall$LawReader", 41, "or", 16) (by decide +kernel)) dX3_readTruth_23 ?_
          refine tk_i hH hS hA (tr_V (n := 1) (As := [.ref (kf.1 16)]) hx hb hml hown hts hkb hH hOX hks hE hS hA (s_Tok_isWord l D cs kf T O X v20 16 t_v20 (by decide) (hO.sub (by decide))) kw_635 kw_551 kw_552 kw_3 kw_553 (by decide +kernel) ⟨Nat.le_of_ble_eq_true rfl, Nat.le_of_ble_eq_true rfl⟩ (HT.recv (ci := 7) hkb hH t_v20 (hO.no t_v20 (by decide)) rfl) rfl rfl hl.1 (Nat.le_of_ble_eq_true rfl) dX3_readTruth_25 ⟨Nat.le_of_ble_eq_true rfl, Nat.le_of_ble_eq_true rfl⟩) (fun v25 u H locs hz9 hH hS => ?_)
          obtain ⟨rfl, l_v25, u_v25⟩ := hz9
          have hH : HT D cs A T O X H := hH
          refine W.widen (k := 0) (n := 0) (Nat.le_of_ble_eq_true rfl) (Nat.le_of_ble_eq_true rfl) ?_
          refine lv_if_eq (tgt := 68) hx hb dX3_readTruth_28 (by decide) (fun c28 => ?_) (fun c28 => ?_)
          · skip
            have tc28 := f_eq (k := 0) (by decide) c28
            exact J68  _ _ _  hH hS (lv_sub hl [1] rfl)
          · skip
            have tc28 := f_ne (k := 0) (by decide) c28
            refine lv_aload_n hx hb dX3_readTruth_31 rfl (lv_at hl 2 rfl) ?_
            refine t_get (ci := 3) (lst := ft3 0 0) (C := RX3) (F := TX3) (N := 3) hx hb hts uX3 hown hkb hH t_a0 (hO.no t_a0 (by decide)) (fun _ h9 => h9) rfl rfl 0 (by decide) rfl kw_82 (fun _ h9 => h9) dX3_readTruth_32 (fun v9 h9 => ?_)
            obtain ⟨v32, rfl, t_v32⟩ := h9
            refine tk_v hH hS hA (tr_V (n := 0) (As := []) hx hb hml hown hts hkb hH hOX hks hE hS hA (s_Tok_go l D cs kf T O X v32 t_v32 (hO.sub (by decide))) kw_641 kw_453 kw_454 kw_3 kw_455 (by decide +kernel) ⟨Nat.le_of_ble_eq_true rfl, Nat.le_of_ble_eq_true rfl⟩ (HT.recv (ci := 7) hkb hH t_v32 (hO.no t_v32 (by decide)) rfl) rfl rfl hl.1 (Nat.le_of_ble_eq_true rfl) dX3_readTruth_35 ⟨Nat.le_of_ble_eq_true rfl, Nat.le_of_ble_eq_true rfl⟩) (fun u H locs hz9 hH hS => ?_)
            have hz9 : u = (T, O, X) := hz9
            subst hz9
            have hH : HT D cs A T O X H := hH
            refine W.widen (k := 0) (n := 0) (Nat.le_of_ble_eq_true rfl) (Nat.le_of_ble_eq_true rfl) ?_
            refine lv_aload_n hx hb dX3_readTruth_38 rfl (lv_at hl 2 rfl) ?_
            refine t_get (ci := 3) (lst := ft3 0 0) (C := RX3) (F := TX3) (N := 3) hx hb hts uX3 hown hkb hH t_a0 (hO.no t_a0 (by decide)) (fun _ h9 => h9) rfl rfl 2 (by decide) rfl kw_84 (fun _ h9 => h9) dX3_readTruth_39 (fun v9 h9 => ?_)
            obtain ⟨v39, rfl, l_v39, u_v39⟩ := h9
            refine lv_istore (lv' := [(4, .int v39), (3, .int p8_3), (2, .int p8_2), (0, .ref a0), (1, .int x1)]) hx hb dX3_readTruth_42 hl (by decide) rfl (fun ls hl => ?_)
            refine lv_aload_n hx hb dX3_readTruth_44 rfl (lv_at hl 3 rfl) ?_
            refine lv_iconst (v := 4) hx hb dX3_readTruth_45 (by decide) ?_
            refine lv_iconst (v := 0) hx hb dX3_readTruth_46 (by decide) ?_
            refine tk_v hH hS hA (tr_V (n := 2) (As := [.int 4, .int 0]) hx hb hml hown hts hkb hH hOX hks hE hS hA (s_LR_put l D cs kf T O X a0 (4) (0) t_a0 (hO.sub (by decide))) kw_642 kw_644 ks_9 kw_4 kw_645 (by decide +kernel) ⟨Nat.le_of_ble_eq_true rfl, Nat.le_of_ble_eq_true rfl⟩ (HT.recv (ci := 3) hkb hH t_a0 (hO.no t_a0 (by decide)) rfl) rfl rfl hl.1 (Nat.le_of_ble_eq_true rfl) dX3_readTruth_47 ⟨Nat.le_of_ble_eq_true rfl, Nat.le_of_ble_eq_true rfl⟩) (fun u H locs hz9 hH hS => ?_)
            have hz9 : u = (T, O, X) := hz9
            subst hz9
            have hH : HT D cs A T O X H := hH
            refine W.widen (k := 0) (n := 0) (Nat.le_of_ble_eq_true rfl) (Nat.le_of_ble_eq_true rfl) ?_
            refine lv_aload_n hx hb dX3_readTruth_50 rfl (lv_at hl 3 rfl) ?_
            refine lv_iload_n hx hb dX3_readTruth_51 rfl (lv_at hl 4 rfl) ?_
            refine tk_i hH hS hA (tr_V (n := 1) (As := [.int x1]) hx hb hml hown hts hkb hH hOX hks hE hS hA (s_LR_readBoth5 l D cs kf T O X a0 x1 t_a0 (by omega) (by omega) (hO.sub (by decide))) kw_626 kw_628 ks_6 kw_4 kw_629 (by decide +kernel) ⟨Nat.le_of_ble_eq_true rfl, Nat.le_of_ble_eq_true rfl⟩ (HT.recv (ci := 3) hkb hH t_a0 (hO.no t_a0 (by decide)) rfl) rfl rfl hl.1 (Nat.le_of_ble_eq_true rfl) dX3_readTruth_52 ⟨Nat.le_of_ble_eq_true rfl, Nat.le_of_ble_eq_true rfl⟩) (fun v52 u H locs hz9 hH hS => ?_)
            obtain ⟨rfl, l_v52, u_v52⟩ := hz9
            have hH : HT D cs A T O X H := hH
            refine W.widen (k := 0) (n := 0) (Nat.le_of_ble_eq_true rfl) (Nat.le_of_ble_eq_true rfl) ?_
            refine lv_istore_n (lv' := [(2, .int v52), (4, .int v39), (3, .int p8_3), (0, .ref a0), (1, .int x1)]) hx hb dX3_readTruth_55 rfl hl (by decide) rfl (fun ls hl => ?_)
            refine lv_aload_n hx hb dX3_readTruth_56 rfl (lv_at hl 3 rfl) ?_
            refine lv_iload hx hb dX3_readTruth_57 (lv_at hl 1 rfl) ?_
            refine tk_v hH hS hA (tr_V (n := 1) (As := [.int v39]) hx hb hml hown hts hkb hH hOX hks hE hS hA (s_LR_aimSkip l D cs kf T O X a0 v39 t_a0 (hO.sub (by decide))) kw_672 kw_674 ks_14 kw_4 kw_675 (by decide +kernel) ⟨Nat.le_of_ble_eq_true rfl, Nat.le_of_ble_eq_true rfl⟩ (HT.recv (ci := 3) hkb hH t_a0 (hO.no t_a0 (by decide)) rfl) rfl rfl hl.1 (Nat.le_of_ble_eq_true rfl) dX3_readTruth_59 ⟨Nat.le_of_ble_eq_true rfl, Nat.le_of_ble_eq_true rfl⟩) (fun u H locs hz9 hH hS => ?_)
            have hz9 : u = (T, O, X) := hz9
            subst hz9
            have hH : HT D cs A T O X H := hH
            refine W.widen (k := 0) (n := 0) (Nat.le_of_ble_eq_true rfl) (Nat.le_of_ble_eq_true rfl) ?_
            obtain ⟨v62, ev62⟩ : ∃ y : Int32, y = p8_3 + 1 := ⟨_, rfl⟩
            have tv62 : v62.toInt = p8_3.toInt + (1) := by rw [ev62]; exact add_i rfl (by decide) (by omega) (by omega)
            refine lv_iinc (v := v62) (lv' := [(3, .int v62), (2, .int v52), (4, .int v39), (0, .ref a0), (1, .int x1)]) hx hb dX3_readTruth_62 hl (k := 2) rfl (by rw [ev62]; rfl) (by decide) rfl (fun ls hl => ?_)
            refine lv_goto (tgt := 8) hx hb dX3_readTruth_65 (by decide) ?_
            exact ih8 _ (by omega) v62 v52 _ _ _ rfl (by omega) (by omega) (by omega) (by omega) hH hS (lv_sub hl [0, 1, 3, 4] rfl)
  refine lv_istore_n (lv' := [(3, .int 0), (2, .int v2), (0, .ref a0), (1, .int x1)]) hx hb dX3_readTruth_7 rfl hl (by decide) rfl (fun ls hl => ?_)
  exact J8 _ 0 v2 _ _ _ rfl (by decide) (by decide) (by omega) (by omega) hH hS (lv_sub hl [0, 1, 2, 3] rfl)
set_option maxHeartbeats 4000000 in
set_option maxRecDepth 100000 in
theorem s_LR_enter4 (l : Launch) (D : va_G) (cs : CS) (kf : KF) (T : TF) (O : List Nat) (X : va_W) (a0 : Nat) (x1 : Int32) (t_a0 : T a0 = some (13, 0, 0)) (l_x1 : 4 ≤ x1.toInt) (u_x1 : x1.toInt ≤ 4) (hO : okO T O [0, 13, 17]) : TK l D cs kf yX3_enter cX3_enter 2 (some (.boolean)) { frames := 5, cells := 0, slots := 0, locals := 111 } [.ref a0, .int x1] T O X (Ti D cs (fun r u => u = (T, O, X) ∧ 1 ≤ r.toInt ∧ r.toInt ≤ 1)) := by
  refine tk_of (by decide) (Nat.le_of_ble_eq_true rfl) (fun p e s m below meth c ls A H locs hx hb hr hml hown hts hlocks hnm hkb hH hS hA hOX hks hE hl => ?_)
  have hown : s.vm.findClass RX3 = some m.cls := hown
  have hl : lv_has ls 2 [(0, .ref a0), (1, .int x1)] := hl
  refine lv_iload_n hx hb dX3_enter_0 rfl (lv_at hl 1 rfl) ?_
  refine lv_bipush (v := 6) hx hb dX3_enter_1 (by decide) ?_
  refine lv_icmp_lt (tgt := 15) hx hb dX3_enter_3 (by decide) (fun c3 => ?_) (fun c3 => ?_)
  · skip
    have tc3 := f_lt (k := 6) (by decide) c3
    refine lv_aload_n hx hb dX3_enter_15 rfl (lv_at hl 0 rfl) ?_
    refine t_get (ci := 3) (lst := ft3 0 0) (C := RX3) (F := TX3) (N := 3) hx hb hts uX3 hown hkb hH t_a0 (hO.no t_a0 (by decide)) (fun _ h9 => h9) rfl rfl 0 (by decide) rfl kw_82 (fun _ h9 => h9) dX3_enter_16 (fun v9 h9 => ?_)
    obtain ⟨v16, rfl, t_v16⟩ := h9
    refine tk_v hH hS hA (tr_V (n := 0) (As := []) hx hb hml hown hts hkb hH hOX hks hE hS hA (s_Tok_go l D cs kf T O X v16 t_v16 (hO.sub (by decide))) kw_641 kw_453 kw_454 kw_3 kw_455 (by decide +kernel) ⟨Nat.le_of_ble_eq_true rfl, Nat.le_of_ble_eq_true rfl⟩ (HT.recv (ci := 7) hkb hH t_v16 (hO.no t_v16 (by decide)) rfl) rfl rfl hl.1 (Nat.le_of_ble_eq_true rfl) dX3_enter_19 ⟨Nat.le_of_ble_eq_true rfl, Nat.le_of_ble_eq_true rfl⟩) (fun u H locs hz9 hH hS => ?_)
    have hz9 : u = (T, O, X) := hz9
    subst hz9
    have hH : HT D cs A T O X H := hH
    refine W.widen (k := 0) (n := 0) (Nat.le_of_ble_eq_true rfl) (Nat.le_of_ble_eq_true rfl) ?_
    refine lv_iconst (v := 1) hx hb dX3_enter_22 (by decide) ?_
    exact te_z hx hb hr hlocks (by rfl) hH hS (⟨rfl, by decide, by decide⟩) dX3_enter_23
  · skip
    have tc3 := f_nlt (k := 6) (by decide) c3
    exfalso; omega
set_option maxHeartbeats 4000000 in
set_option maxRecDepth 100000 in
theorem s_LR_readAtom4 (l : Launch) (D : va_G) (cs : CS) (kf : KF) (T : TF) (O : List Nat) (X : va_W) (a0 : Nat) (x1 : Int32) (t_a0 : T a0 = some (13, 0, 0)) (l_x1 : 4 ≤ x1.toInt) (u_x1 : x1.toInt ≤ 4) (hO : okO T O [0, 1, 13, 17]) : TK l D cs kf yX3_readAtom cX3_readAtom 3 (some (.boolean)) { frames := 12, cells := 0, slots := 0, locals := 265 } [.ref a0, .int x1] T O X (Ti D cs (fun r u => u = (T, O, X) ∧ 0 ≤ r.toInt ∧ r.toInt ≤ 1)) := by
  refine tk_of (by decide) (Nat.le_of_ble_eq_true rfl) (fun p e s m below meth c ls A H locs hx hb hr hml hown hts hlocks hnm hkb hH hS hA hOX hks hE hl => ?_)
  have hown : s.vm.findClass RX3 = some m.cls := hown
  have hl : lv_has ls 3 [(0, .ref a0), (1, .int x1)] := hl
  refine lv_aload_n hx hb dX3_readAtom_0 rfl (lv_at hl 0 rfl) ?_
  refine t_get (ci := 3) (lst := ft3 0 0) (C := RX3) (F := TX3) (N := 3) hx hb hts uX3 hown hkb hH t_a0 (hO.no t_a0 (by decide)) (fun _ h9 => h9) rfl rfl 0 (by decide) rfl kw_82 (fun _ h9 => h9) dX3_readAtom_1 (fun v9 h9 => ?_)
  obtain ⟨v1, rfl, t_v1⟩ := h9
  refine lv_bipush (v := 40) hx hb dX3_readAtom_4 (by decide) ?_
  refine tk_i hH hS hA (tr_V (n := 1) (As := [.int 40]) hx hb hml hown hts hkb hH hOX hks hE hS hA (s_Tok_isSign l D cs kf T O X v1 (40) t_v1 (hO.sub (by decide))) kw_646 kw_615 kw_616 kw_3 kw_617 (by decide +kernel) ⟨Nat.le_of_ble_eq_true rfl, Nat.le_of_ble_eq_true rfl⟩ (HT.recv (ci := 7) hkb hH t_v1 (hO.no t_v1 (by decide)) rfl) rfl rfl hl.1 (Nat.le_of_ble_eq_true rfl) dX3_readAtom_6 ⟨Nat.le_of_ble_eq_true rfl, Nat.le_of_ble_eq_true rfl⟩) (fun v6 u H locs hz9 hH hS => ?_)
  obtain ⟨rfl, l_v6, u_v6⟩ := hz9
  have hH : HT D cs A T O X H := hH
  refine W.widen (k := 0) (n := 0) (Nat.le_of_ble_eq_true rfl) (Nat.le_of_ble_eq_true rfl) ?_
  refine lv_if_eq (tgt := 48) hx hb dX3_readAtom_9 (by decide) (fun c9 => ?_) (fun c9 => ?_)
  · skip
    have tc9 := f_eq (k := 0) (by decide) c9
    refine lv_aload_n hx hb dX3_readAtom_48 rfl (lv_at hl 0 rfl) ?_
    refine t_get (ci := 3) (lst := ft3 0 0) (C := RX3) (F := TX3) (N := 3) hx hb hts uX3 hown hkb hH t_a0 (hO.no t_a0 (by decide)) (fun _ h9 => h9) rfl rfl 0 (by decide) rfl kw_82 (fun _ h9 => h9) dX3_readAtom_49 (fun v9 h9 => ?_)
    obtain ⟨v49, rfl, t_v49⟩ := h9
    refine t_get (ci := 7) (lst := ft7 0 0) (C := RX7) (F := TX7) (N := 8) hx hb hts uX7 hown hkb hH t_v49 (hO.no t_v49 (by decide)) (fun _ h9 => ob7_ok h9) rfl rfl 4 (by decide) rfl kw_50 (fun _ h9 => h9) dX3_readAtom_52 (fun v9 h9 => ?_)
    obtain ⟨v52, rfl⟩ := h9
    refine lv_iconst (v := 2) hx hb dX3_readAtom_55 (by decide) ?_
    refine lv_icmp_ne (tgt := 80) hx hb dX3_readAtom_56 (by decide) (fun c56 => ?_) (fun c56 => ?_)
    · skip
      have tc56 := f_ne (k := 2) (by decide) c56
      refine lv_aload_n hx hb dX3_readAtom_80 rfl (lv_at hl 0 rfl) ?_
      refine tk_i hH hS hA (tr_V (n := 0) (As := []) hx hb hml hown hts hkb hH hOX hks hE hS hA (s_LR_factHere l D cs kf T O X a0 t_a0 (hO.sub (by decide))) kw_660 kw_662 ks_13 kw_4 kw_663 (by decide +kernel) ⟨Nat.le_of_ble_eq_true rfl, Nat.le_of_ble_eq_true rfl⟩ (HT.recv (ci := 3) hkb hH t_a0 (hO.no t_a0 (by decide)) rfl) rfl rfl hl.1 (Nat.le_of_ble_eq_true rfl) dX3_readAtom_81 ⟨Nat.le_of_ble_eq_true rfl, Nat.le_of_ble_eq_true rfl⟩) (fun v81 u H locs hz9 hH hS => ?_)
      obtain ⟨rfl, l_v81, u_v81⟩ := hz9
      have hH : HT D cs A T O X H := hH
      refine W.widen (k := 0) (n := 0) (Nat.le_of_ble_eq_true rfl) (Nat.le_of_ble_eq_true rfl) ?_
      refine lv_istore_n (lv' := [(2, .int v81), (0, .ref a0), (1, .int x1)]) hx hb dX3_readAtom_84 rfl hl (by decide) rfl (fun ls hl => ?_)
      refine lv_iload_n hx hb dX3_readAtom_85 rfl (lv_at hl 0 rfl) ?_
      refine lv_iconst (v := (-1)) hx hb dX3_readAtom_86 (by decide) ?_
      refine lv_icmp_ne (tgt := 99) hx hb dX3_readAtom_87 (by decide) (fun c87 => ?_) (fun c87 => ?_)
      · skip
        have tc87 := f_ne (k := -1) (by decide) c87
        refine lv_aload_n hx hb dX3_readAtom_99 rfl (lv_at hl 1 rfl) ?_
        refine lv_iconst (v := 1) hx hb dX3_readAtom_100 (by decide) ?_
        refine lv_iload_n hx hb dX3_readAtom_101 rfl (lv_at hl 0 rfl) ?_
        refine tk_v hH hS hA (tr_V (n := 2) (As := [.int 1, .int v81]) hx hb hml hown hts hkb hH hOX hks hE hS hA (s_LR_put l D cs kf T O X a0 (1) v81 t_a0 (hO.sub (by decide))) kw_642 kw_644 ks_9 kw_4 kw_645 (by decide +kernel) ⟨Nat.le_of_ble_eq_true rfl, Nat.le_of_ble_eq_true rfl⟩ (HT.recv (ci := 3) hkb hH t_a0 (hO.no t_a0 (by decide)) rfl) rfl rfl hl.1 (Nat.le_of_ble_eq_true rfl) dX3_readAtom_102 ⟨Nat.le_of_ble_eq_true rfl, Nat.le_of_ble_eq_true rfl⟩) (fun u H locs hz9 hH hS => ?_)
        have hz9 : u = (T, O, X) := hz9
        subst hz9
        have hH : HT D cs A T O X H := hH
        refine W.widen (k := 0) (n := 0) (Nat.le_of_ble_eq_true rfl) (Nat.le_of_ble_eq_true rfl) ?_
        refine lv_aload_n hx hb dX3_readAtom_105 rfl (lv_at hl 1 rfl) ?_
        refine t_get (ci := 3) (lst := ft3 0 0) (C := RX3) (F := TX3) (N := 3) hx hb hts uX3 hown hkb hH t_a0 (hO.no t_a0 (by decide)) (fun _ h9 => h9) rfl rfl 0 (by decide) rfl kw_82 (fun _ h9 => h9) dX3_readAtom_106 (fun v9 h9 => ?_)
        obtain ⟨v106, rfl, t_v106⟩ := h9
        refine tk_v hH hS hA (tr_V (n := 0) (As := []) hx hb hml hown hts hkb hH hOX hks hE hS hA (s_Tok_go l D cs kf T O X v106 t_v106 (hO.sub (by decide))) kw_641 kw_453 kw_454 kw_3 kw_455 (by decide +kernel) ⟨Nat.le_of_ble_eq_true rfl, Nat.le_of_ble_eq_true rfl⟩ (HT.recv (ci := 7) hkb hH t_v106 (hO.no t_v106 (by decide)) rfl) rfl rfl hl.1 (Nat.le_of_ble_eq_true rfl) dX3_readAtom_109 ⟨Nat.le_of_ble_eq_true rfl, Nat.le_of_ble_eq_true rfl⟩) (fun u H locs hz9 hH hS => ?_)
        have hz9 : u = (T, O, X) := hz9
        subst hz9
        have hH : HT D cs A T O X H := hH
        refine W.widen (k := 0) (n := 0) (Nat.le_of_ble_eq_true rfl) (Nat.le_of_ble_eq_true rfl) ?_
        refine lv_iconst (v := 1) hx hb dX3_readAtom_112 (by decide) ?_
        exact te_z hx hb hr hlocks (by rfl) hH hS (⟨rfl, by decide, by decide⟩) dX3_readAtom_113
      · skip
        have tc87 := f_eq (k := -1) (by decide) c87
        refine lv_aload_n hx hb dX3_readAtom_90 rfl (lv_at hl 1 rfl) ?_
        refine t_get (ci := 3) (lst := ft3 0 0) (C := RX3) (F := TX3) (N := 3) hx hb hts uX3 hown hkb hH t_a0 (hO.no t_a0 (by decide)) (fun _ h9 => h9) rfl rfl 0 (by decide) rfl kw_82 (fun _ h9 => h9) dX3_readAtom_91 (fun v9 h9 => ?_)
        obtain ⟨v91, rfl, t_v91⟩ := h9
        refine lv_iconst (v := 2) hx hb dX3_readAtom_94 (by decide) ?_
        refine tk_i hH hS hA (tr_V (n := 1) (As := [.int 2]) hx hb hml hown hts hkb hH hOX hks hE hS hA (s_Tok_refuse l D cs kf T O X v91 (2) t_v91 (hO.sub (by decide))) kw_640 kw_580 kw_581 kw_3 kw_582 (by decide +kernel) ⟨Nat.le_of_ble_eq_true rfl, Nat.le_of_ble_eq_true rfl⟩ (HT.recv (ci := 7) hkb hH t_v91 (hO.no t_v91 (by decide)) rfl) rfl rfl hl.1 (Nat.le_of_ble_eq_true rfl) dX3_readAtom_95 ⟨Nat.le_of_ble_eq_true rfl, Nat.le_of_ble_eq_true rfl⟩) (fun v95 u H locs hz9 hH hS => ?_)
        obtain ⟨rfl, l_v95, u_v95⟩ := hz9
        have hH : HT D cs A T O X H := hH
        refine W.widen (k := 0) (n := 0) (Nat.le_of_ble_eq_true rfl) (Nat.le_of_ble_eq_true rfl) ?_
        exact te_z hx hb hr hlocks (nar01 (by omega) (by omega)) hH hS (⟨rfl, by omega, by omega⟩) dX3_readAtom_98
    · skip
      have tc56 := f_eq (k := 2) (by decide) c56
      refine lv_aload_n hx hb dX3_readAtom_59 rfl (lv_at hl 0 rfl) ?_
      refine lv_iconst (v := 0) hx hb dX3_readAtom_60 (by decide) ?_
      refine lv_aload_n hx hb dX3_readAtom_61 rfl (lv_at hl 0 rfl) ?_
      refine t_get (ci := 3) (lst := ft3 0 0) (C := RX3) (F := TX3) (N := 3) hx hb hts uX3 hown hkb hH t_a0 (hO.no t_a0 (by decide)) (fun _ h9 => h9) rfl rfl 0 (by decide) rfl kw_82 (fun _ h9 => h9) dX3_readAtom_62 (fun v9 h9 => ?_)
      obtain ⟨v62, rfl, t_v62⟩ := h9
      refine t_get (ci := 7) (lst := ft7 0 0) (C := RX7) (F := TX7) (N := 8) hx hb hts uX7 hown hkb hH t_v62 (hO.no t_v62 (by decide)) (fun _ h9 => ob7_ok h9) rfl rfl 5 (by decide) rfl kw_53 (fun _ h9 => h9) dX3_readAtom_65 (fun v9 h9 => ?_)
      obtain ⟨v65, rfl⟩ := h9
      refine tk_v hH hS hA (tr_V (n := 2) (As := [.int 0, .int v65]) hx hb hml hown hts hkb hH hOX hks hE hS hA (s_LR_put l D cs kf T O X a0 (0) v65 t_a0 (hO.sub (by decide))) kw_642 kw_644 ks_9 kw_4 kw_645 (by decide +kernel) ⟨Nat.le_of_ble_eq_true rfl, Nat.le_of_ble_eq_true rfl⟩ (HT.recv (ci := 3) hkb hH t_a0 (hO.no t_a0 (by decide)) rfl) rfl rfl hl.1 (Nat.le_of_ble_eq_true rfl) dX3_readAtom_68 ⟨Nat.le_of_ble_eq_true rfl, Nat.le_of_ble_eq_true rfl⟩) (fun u H locs hz9 hH hS => ?_)
      have hz9 : u = (T, O, X) := hz9
      subst hz9
      have hH : HT D cs A T O X H := hH
      refine W.widen (k := 0) (n := 0) (Nat.le_of_ble_eq_true rfl) (Nat.le_of_ble_eq_true rfl) ?_
      refine lv_aload_n hx hb dX3_readAtom_71 rfl (lv_at hl 0 rfl) ?_
      refine t_get (ci := 3) (lst := ft3 0 0) (C := RX3) (F := TX3) (N := 3) hx hb hts uX3 hown hkb hH t_a0 (hO.no t_a0 (by decide)) (fun _ h9 => h9) rfl rfl 0 (by decide) rfl kw_82 (fun _ h9 => h9) dX3_readAtom_72 (fun v9 h9 => ?_)
      obtain ⟨v72, rfl, t_v72⟩ := h9
      refine tk_v hH hS hA (tr_V (n := 0) (As := []) hx hb hml hown hts hkb hH hOX hks hE hS hA (s_Tok_go l D cs kf T O X v72 t_v72 (hO.sub (by decide))) kw_641 kw_453 kw_454 kw_3 kw_455 (by decide +kernel) ⟨Nat.le_of_ble_eq_true rfl, Nat.le_of_ble_eq_true rfl⟩ (HT.recv (ci := 7) hkb hH t_v72 (hO.no t_v72 (by decide)) rfl) rfl rfl hl.1 (Nat.le_of_ble_eq_true rfl) dX3_readAtom_75 ⟨Nat.le_of_ble_eq_true rfl, Nat.le_of_ble_eq_true rfl⟩) (fun u H locs hz9 hH hS => ?_)
      have hz9 : u = (T, O, X) := hz9
      subst hz9
      have hH : HT D cs A T O X H := hH
      refine W.widen (k := 0) (n := 0) (Nat.le_of_ble_eq_true rfl) (Nat.le_of_ble_eq_true rfl) ?_
      refine lv_iconst (v := 1) hx hb dX3_readAtom_78 (by decide) ?_
      exact te_z hx hb hr hlocks (by rfl) hH hS (⟨rfl, by decide, by decide⟩) dX3_readAtom_79
  · skip
    have tc9 := f_ne (k := 0) (by decide) c9
    refine lv_aload_n hx hb dX3_readAtom_12 rfl (lv_at hl 0 rfl) ?_
    refine lv_iload_n hx hb dX3_readAtom_13 rfl (lv_at hl 1 rfl) ?_
    refine tk_i hH hS hA (tr_V (n := 1) (As := [.int x1]) hx hb hml hown hts hkb hH hOX hks hE hS hA (s_LR_enter4 l D cs kf T O X a0 x1 t_a0 (by omega) (by omega) (hO.sub (by decide))) kw_636 kw_638 ks_8 kw_4 kw_639 (by decide +kernel) ⟨Nat.le_of_ble_eq_true rfl, Nat.le_of_ble_eq_true rfl⟩ (HT.recv (ci := 3) hkb hH t_a0 (hO.no t_a0 (by decide)) rfl) rfl rfl hl.1 (Nat.le_of_ble_eq_true rfl) dX3_readAtom_14 ⟨Nat.le_of_ble_eq_true rfl, Nat.le_of_ble_eq_true rfl⟩) (fun v14 u H locs hz9 hH hS => ?_)
    obtain ⟨rfl, l_v14, u_v14⟩ := hz9
    have hH : HT D cs A T O X H := hH
    refine W.widen (k := 0) (n := 0) (Nat.le_of_ble_eq_true rfl) (Nat.le_of_ble_eq_true rfl) ?_
    refine lv_if_eq (tgt := 46) hx hb dX3_readAtom_17 (by decide) (fun c17 => ?_) (fun c17 => ?_)
    · skip
      have tc17 := f_eq (k := 0) (by decide) c17
      exfalso; omega
    · skip
      have tc17 := f_ne (k := 0) (by decide) c17
      refine lv_aload_n hx hb dX3_readAtom_20 rfl (lv_at hl 0 rfl) ?_
      refine lv_iload_n hx hb dX3_readAtom_21 rfl (lv_at hl 1 rfl) ?_
      refine lv_iconst (v := 1) hx hb dX3_readAtom_22 (by decide) ?_
      refine lv_iadd hx hb dX3_readAtom_23 ?_
      refine lv_topi (fun v23 ev23 => ?_)
      have tv23 : v23.toInt = x1.toInt + (1) := by rw [ev23]; exact add_i rfl (by decide : (1 : Int32).toInt = 1) (by omega) (by omega)
      refine tk_i hH hS hA (tr_V (n := 1) (As := [.int v23]) hx hb hml hown hts hkb hH hOX hks hE hS hA (s_LR_readSum5 l D cs kf T O X a0 v23 t_a0 (by omega) (by omega) (hO.sub (by decide))) kw_648 kw_650 ks_10 kw_4 kw_651 (by decide +kernel) ⟨Nat.le_of_ble_eq_true rfl, Nat.le_of_ble_eq_true rfl⟩ (HT.recv (ci := 3) hkb hH t_a0 (hO.no t_a0 (by decide)) rfl) rfl rfl hl.1 (Nat.le_of_ble_eq_true rfl) dX3_readAtom_24 ⟨Nat.le_of_ble_eq_true rfl, Nat.le_of_ble_eq_true rfl⟩) (fun v24 u H locs hz9 hH hS => ?_)
      obtain ⟨rfl, l_v24, u_v24⟩ := hz9
      have hH : HT D cs A T O X H := hH
      refine W.widen (k := 0) (n := 0) (Nat.le_of_ble_eq_true rfl) (Nat.le_of_ble_eq_true rfl) ?_
      have J47 : ∀ (k47_0 : Int32) (H : Heap) (locs : List Loc) (ls : Array Slot), (0 ≤ k47_0.toInt) → (k47_0.toInt ≤ 1) → HT D cs A T O X H → va_S A s.heap H locs → lv_has ls 3 [] → W p l e { frames := 12, cells := 0, slots := 0, locals := 265 } s m [.ref a0, .int x1].toArray below meth c H locs 0 0 (MQ below (Ti D cs (fun r u => u = (T, O, X) ∧ 0 ≤ r.toInt ∧ r.toInt ≤ 1) A) [.ref a0, .int x1].toArray s 0 0 A) (F0 m 47 ls [.int k47_0]) := by
        intro k47_0 H locs ls l_k47_0 u_k47_0 hH hS hl
        exact te_z hx hb hr hlocks (nar01 (by omega) (by omega)) hH hS (⟨rfl, by omega, by omega⟩) dX3_readAtom_47
      have J46 : ∀  (H : Heap) (locs : List Loc) (ls : Array Slot), HT D cs A T O X H → va_S A s.heap H locs → lv_has ls 3 [] → W p l e { frames := 12, cells := 0, slots := 0, locals := 265 } s m [.ref a0, .int x1].toArray below meth c H locs 0 0 (MQ below (Ti D cs (fun r u => u = (T, O, X) ∧ 0 ≤ r.toInt ∧ r.toInt ≤ 1) A) [.ref a0, .int x1].toArray s 0 0 A) (F0 m 46 ls []) := by
        intro  H locs ls  hH hS hl
        refine lv_iconst (v := 0) hx hb dX3_readAtom_46 (by decide) ?_
        exact J47 0 _ _ _ (by decide) (by decide) hH hS (lv_sub hl [] rfl)
      refine lv_if_eq (tgt := 46) hx hb dX3_readAtom_27 (by decide) (fun c27 => ?_) (fun c27 => ?_)
      · skip
        have tc27 := f_eq (k := 0) (by decide) c27
        exact J46  _ _ _  hH hS (lv_sub hl [] rfl)
      · skip
        have tc27 := f_ne (k := 0) (by decide) c27
        refine lv_aload_n hx hb dX3_readAtom_30 rfl (lv_at hl 0 rfl) ?_
        refine t_get (ci := 3) (lst := ft3 0 0) (C := RX3) (F := TX3) (N := 3) hx hb hts uX3 hown hkb hH t_a0 (hO.no t_a0 (by decide)) (fun _ h9 => h9) rfl rfl 0 (by decide) rfl kw_82 (fun _ h9 => h9) dX3_readAtom_31 (fun v9 h9 => ?_)
        obtain ⟨v31, rfl, t_v31⟩ := h9
        refine lv_bipush (v := 41) hx hb dX3_readAtom_34 (by decide) ?_
        refine tk_i hH hS hA (tr_V (n := 1) (As := [.int 41]) hx hb hml hown hts hkb hH hOX hks hE hS hA (s_Tok_takeSign l D cs kf T O X v31 (41) t_v31 (hO.sub (by decide))) kw_647 kw_611 kw_612 kw_3 kw_613 (by decide +kernel) ⟨Nat.le_of_ble_eq_true rfl, Nat.le_of_ble_eq_true rfl⟩ (HT.recv (ci := 7) hkb hH t_v31 (hO.no t_v31 (by decide)) rfl) rfl rfl hl.1 (Nat.le_of_ble_eq_true rfl) dX3_readAtom_36 ⟨Nat.le_of_ble_eq_true rfl, Nat.le_of_ble_eq_true rfl⟩) (fun v36 u H locs hz9 hH hS => ?_)
        obtain ⟨rfl, l_v36, u_v36⟩ := hz9
        have hH : HT D cs A T O X H := hH
        refine W.widen (k := 0) (n := 0) (Nat.le_of_ble_eq_true rfl) (Nat.le_of_ble_eq_true rfl) ?_
        refine lv_if_eq (tgt := 46) hx hb dX3_readAtom_39 (by decide) (fun c39 => ?_) (fun c39 => ?_)
        · skip
          have tc39 := f_eq (k := 0) (by decide) c39
          exact J46  _ _ _  hH hS (lv_sub hl [] rfl)
        · skip
          have tc39 := f_ne (k := 0) (by decide) c39
          refine lv_iconst (v := 1) hx hb dX3_readAtom_42 (by decide) ?_
          refine lv_goto (tgt := 47) hx hb dX3_readAtom_43 (by decide) ?_
          exact J47 1 _ _ _ (by decide) (by decide) hH hS (lv_sub hl [] rfl)
set_option maxHeartbeats 4000000 in
set_option maxRecDepth 100000 in
theorem s_LR_readTerm4 (l : Launch) (D : va_G) (cs : CS) (kf : KF) (T : TF) (O : List Nat) (X : va_W) (a0 : Nat) (x1 : Int32) (t_a0 : T a0 = some (13, 0, 0)) (l_x1 : 4 ≤ x1.toInt) (u_x1 : x1.toInt ≤ 4) (hO : okO T O [0, 1, 13, 17]) : TK l D cs kf yX3_readTerm cX3_readTerm 4 (some (.boolean)) { frames := 13, cells := 0, slots := 0, locals := 287 } [.ref a0, .int x1] T O X (Ti D cs (fun r u => u = (T, O, X) ∧ 0 ≤ r.toInt ∧ r.toInt ≤ 1)) := by
  refine tk_of (by decide) (Nat.le_of_ble_eq_true rfl) (fun p e s m below meth c ls A H locs hx hb hr hml hown hts hlocks hnm hkb hH hS hA hOX hks hE hl => ?_)
  have hown : s.vm.findClass RX3 = some m.cls := hown
  have hl : lv_has ls 4 [(0, .ref a0), (1, .int x1)] := hl
  refine lv_aload_n hx hb dX3_readTerm_0 rfl (lv_at hl 0 rfl) ?_
  refine lv_iload_n hx hb dX3_readTerm_1 rfl (lv_at hl 1 rfl) ?_
  refine tk_i hH hS hA (tr_V (n := 1) (As := [.int x1]) hx hb hml hown hts hkb hH hOX hks hE hS hA (s_LR_readAtom4 l D cs kf T O X a0 x1 t_a0 (by omega) (by omega) (hO.sub (by decide))) kw_656 kw_658 ks_12 kw_4 kw_659 (by decide +kernel) ⟨Nat.le_of_ble_eq_true rfl, Nat.le_of_ble_eq_true rfl⟩ (HT.recv (ci := 3) hkb hH t_a0 (hO.no t_a0 (by decide)) rfl) rfl rfl hl.1 (Nat.le_of_ble_eq_true rfl) dX3_readTerm_2 ⟨Nat.le_of_ble_eq_true rfl, Nat.le_of_ble_eq_true rfl⟩) (fun v2 u H locs hz9 hH hS => ?_)
  obtain ⟨rfl, l_v2, u_v2⟩ := hz9
  have hH : HT D cs A T O X H := hH
  refine W.widen (k := 0) (n := 0) (Nat.le_of_ble_eq_true rfl) (Nat.le_of_ble_eq_true rfl) ?_
  refine lv_istore_n (lv' := [(2, .int v2), (0, .ref a0), (1, .int x1)]) hx hb dX3_readTerm_5 rfl hl (by decide) rfl (fun ls hl => ?_)
  refine lv_iconst (v := 0) hx hb dX3_readTerm_6 (by decide) ?_
  have J8 : ∀ (n : Nat) (p8_3 : Int32) (p8_2 : Int32) (H : Heap) (locs : List Loc) (ls : Array Slot), (900 - p8_3.toInt).toNat = n → (0 ≤ p8_3.toInt) → (p8_3.toInt ≤ 900) → (0 ≤ p8_2.toInt) → (p8_2.toInt ≤ 1) → HT D cs A T O X H → va_S A s.heap H locs → lv_has ls 4 [(3, .int p8_3), (2, .int p8_2), (0, .ref a0), (1, .int x1)] → W p l e { frames := 13, cells := 0, slots := 0, locals := 287 } s m [.ref a0, .int x1].toArray below meth c H locs 0 0 (MQ below (Ti D cs (fun r u => u = (T, O, X) ∧ 0 ≤ r.toInt ∧ r.toInt ≤ 1) A) [.ref a0, .int x1].toArray s 0 0 A) (F0 m 8 ls []) := by
    intro n
    induction n using Nat.strongRecOn with
    | _ n ih8 =>
      intro p8_3 p8_2 H locs ls hm8 l_p8_3 u_p8_3 l_p8_2 u_p8_2 hH hS hl
      refine lv_iload_n hx hb dX3_readTerm_8 rfl (lv_at hl 0 rfl) ?_
      refine lv_sipush (v := 900) hx hb dX3_readTerm_9 (by decide) ?_
      have J57 : ∀  (H : Heap) (locs : List Loc) (ls : Array Slot), HT D cs A T O X H → va_S A s.heap H locs → lv_has ls 4 [(2, .int p8_2)] → W p l e { frames := 13, cells := 0, slots := 0, locals := 287 } s m [.ref a0, .int x1].toArray below meth c H locs 0 0 (MQ below (Ti D cs (fun r u => u = (T, O, X) ∧ 0 ≤ r.toInt ∧ r.toInt ≤ 1) A) [.ref a0, .int x1].toArray s 0 0 A) (F0 m 57 ls []) := by
        intro  H locs ls  hH hS hl
        refine lv_iload_n hx hb dX3_readTerm_57 rfl (lv_at hl 0 rfl) ?_
        exact te_z hx hb hr hlocks (nar01 (by omega) (by omega)) hH hS (⟨rfl, by omega, by omega⟩) dX3_readTerm_58
      refine lv_icmp_ge (tgt := 57) hx hb dX3_readTerm_12 (by decide) (fun c12 => ?_) (fun c12 => ?_)
      · skip
        have tc12 := f_ge (k := 900) (by decide) c12
        exact J57  _ _ _  hH hS (lv_sub hl [1] rfl)
      · skip
        have tc12 := f_nge (k := 900) (by decide) c12
        refine lv_iload_n hx hb dX3_readTerm_15 rfl (lv_at hl 1 rfl) ?_
        refine lv_if_eq (tgt := 57) hx hb dX3_readTerm_16 (by decide) (fun c16 => ?_) (fun c16 => ?_)
        · skip
          have tc16 := f_eq (k := 0) (by decide) c16
          exact J57  _ _ _  hH hS (lv_sub hl [1] rfl)
        · skip
          have tc16 := f_ne (k := 0) (by decide) c16
          refine lv_aload_n hx hb dX3_readTerm_19 rfl (lv_at hl 2 rfl) ?_
          refine t_get (ci := 3) (lst := ft3 0 0) (C := RX3) (F := TX3) (N := 3) hx hb hts uX3 hown hkb hH t_a0 (hO.no t_a0 (by decide)) (fun _ h9 => h9) rfl rfl 0 (by decide) rfl kw_82 (fun _ h9 => h9) dX3_readTerm_20 (fun v9 h9 => ?_)
          obtain ⟨v20, rfl, t_v20⟩ := h9
          refine lv_bipush (v := 42) hx hb dX3_readTerm_23 (by decide) ?_
          refine tk_i hH hS hA (tr_V (n := 1) (As := [.int 42]) hx hb hml hown hts hkb hH hOX hks hE hS hA (s_Tok_isSign l D cs kf T O X v20 (42) t_v20 (hO.sub (by decide))) kw_646 kw_615 kw_616 kw_3 kw_617 (by decide +kernel) ⟨Nat.le_of_ble_eq_true rfl, Nat.le_of_ble_eq_true rfl⟩ (HT.recv (ci := 7) hkb hH t_v20 (hO.no t_v20 (by decide)) rfl) rfl rfl hl.1 (Nat.le_of_ble_eq_true rfl) dX3_readTerm_25 ⟨Nat.le_of_ble_eq_true rfl, Nat.le_of_ble_eq_true rfl⟩) (fun v25 u H locs hz9 hH hS => ?_)
          obtain ⟨rfl, l_v25, u_v25⟩ := hz9
          have hH : HT D cs A T O X H := hH
          refine W.widen (k := 0) (n := 0) (Nat.le_of_ble_eq_true rfl) (Nat.le_of_ble_eq_true rfl) ?_
          refine lv_if_eq (tgt := 57) hx hb dX3_readTerm_28 (by decide) (fun c28 => ?_) (fun c28 => ?_)
          · skip
            have tc28 := f_eq (k := 0) (by decide) c28
            exact J57  _ _ _  hH hS (lv_sub hl [1] rfl)
          · skip
            have tc28 := f_ne (k := 0) (by decide) c28
            refine lv_aload_n hx hb dX3_readTerm_31 rfl (lv_at hl 2 rfl) ?_
            refine t_get (ci := 3) (lst := ft3 0 0) (C := RX3) (F := TX3) (N := 3) hx hb hts uX3 hown hkb hH t_a0 (hO.no t_a0 (by decide)) (fun _ h9 => h9) rfl rfl 0 (by decide) rfl kw_82 (fun _ h9 => h9) dX3_readTerm_32 (fun v9 h9 => ?_)
            obtain ⟨v32, rfl, t_v32⟩ := h9
            refine tk_v hH hS hA (tr_V (n := 0) (As := []) hx hb hml hown hts hkb hH hOX hks hE hS hA (s_Tok_go l D cs kf T O X v32 t_v32 (hO.sub (by decide))) kw_641 kw_453 kw_454 kw_3 kw_455 (by decide +kernel) ⟨Nat.le_of_ble_eq_true rfl, Nat.le_of_ble_eq_true rfl⟩ (HT.recv (ci := 7) hkb hH t_v32 (hO.no t_v32 (by decide)) rfl) rfl rfl hl.1 (Nat.le_of_ble_eq_true rfl) dX3_readTerm_35 ⟨Nat.le_of_ble_eq_true rfl, Nat.le_of_ble_eq_true rfl⟩) (fun u H locs hz9 hH hS => ?_)
            have hz9 : u = (T, O, X) := hz9
            subst hz9
            have hH : HT D cs A T O X H := hH
            refine W.widen (k := 0) (n := 0) (Nat.le_of_ble_eq_true rfl) (Nat.le_of_ble_eq_true rfl) ?_
            refine lv_aload_n hx hb dX3_readTerm_38 rfl (lv_at hl 2 rfl) ?_
            refine lv_iload_n hx hb dX3_readTerm_39 rfl (lv_at hl 3 rfl) ?_
            refine tk_i hH hS hA (tr_V (n := 1) (As := [.int x1]) hx hb hml hown hts hkb hH hOX hks hE hS hA (s_LR_readAtom4 l D cs kf T O X a0 x1 t_a0 (by omega) (by omega) (hO.sub (by decide))) kw_656 kw_658 ks_12 kw_4 kw_659 (by decide +kernel) ⟨Nat.le_of_ble_eq_true rfl, Nat.le_of_ble_eq_true rfl⟩ (HT.recv (ci := 3) hkb hH t_a0 (hO.no t_a0 (by decide)) rfl) rfl rfl hl.1 (Nat.le_of_ble_eq_true rfl) dX3_readTerm_40 ⟨Nat.le_of_ble_eq_true rfl, Nat.le_of_ble_eq_true rfl⟩) (fun v40 u H locs hz9 hH hS => ?_)
            obtain ⟨rfl, l_v40, u_v40⟩ := hz9
            have hH : HT D cs A T O X H := hH
            refine W.widen (k := 0) (n := 0) (Nat.le_of_ble_eq_true rfl) (Nat.le_of_ble_eq_true rfl) ?_
            refine lv_istore_n (lv' := [(2, .int v40), (3, .int p8_3), (0, .ref a0), (1, .int x1)]) hx hb dX3_readTerm_43 rfl hl (by decide) rfl (fun ls hl => ?_)
            refine lv_aload_n hx hb dX3_readTerm_44 rfl (lv_at hl 2 rfl) ?_
            refine lv_bipush (v := 7) hx hb dX3_readTerm_45 (by decide) ?_
            refine lv_iconst (v := 0) hx hb dX3_readTerm_47 (by decide) ?_
            refine tk_v hH hS hA (tr_V (n := 2) (As := [.int 7, .int 0]) hx hb hml hown hts hkb hH hOX hks hE hS hA (s_LR_put l D cs kf T O X a0 (7) (0) t_a0 (hO.sub (by decide))) kw_642 kw_644 ks_9 kw_4 kw_645 (by decide +kernel) ⟨Nat.le_of_ble_eq_true rfl, Nat.le_of_ble_eq_true rfl⟩ (HT.recv (ci := 3) hkb hH t_a0 (hO.no t_a0 (by decide)) rfl) rfl rfl hl.1 (Nat.le_of_ble_eq_true rfl) dX3_readTerm_48 ⟨Nat.le_of_ble_eq_true rfl, Nat.le_of_ble_eq_true rfl⟩) (fun u H locs hz9 hH hS => ?_)
            have hz9 : u = (T, O, X) := hz9
            subst hz9
            have hH : HT D cs A T O X H := hH
            refine W.widen (k := 0) (n := 0) (Nat.le_of_ble_eq_true rfl) (Nat.le_of_ble_eq_true rfl) ?_
            obtain ⟨v51, ev51⟩ : ∃ y : Int32, y = p8_3 + 1 := ⟨_, rfl⟩
            have tv51 : v51.toInt = p8_3.toInt + (1) := by rw [ev51]; exact add_i rfl (by decide) (by omega) (by omega)
            refine lv_iinc (v := v51) (lv' := [(3, .int v51), (2, .int v40), (0, .ref a0), (1, .int x1)]) hx hb dX3_readTerm_51 hl (k := 1) rfl (by rw [ev51]; rfl) (by decide) rfl (fun ls hl => ?_)
            refine lv_goto (tgt := 8) hx hb dX3_readTerm_54 (by decide) ?_
            exact ih8 _ (by omega) v51 v40 _ _ _ rfl (by omega) (by omega) (by omega) (by omega) hH hS (lv_sub hl [0, 1, 2, 3] rfl)
  refine lv_istore_n (lv' := [(3, .int 0), (2, .int v2), (0, .ref a0), (1, .int x1)]) hx hb dX3_readTerm_7 rfl hl (by decide) rfl (fun ls hl => ?_)
  exact J8 _ 0 v2 _ _ _ rfl (by decide) (by decide) (by omega) (by omega) hH hS (lv_sub hl [0, 1, 2, 3] rfl)
set_option maxHeartbeats 4000000 in
set_option maxRecDepth 100000 in
theorem s_LR_readSum4 (l : Launch) (D : va_G) (cs : CS) (kf : KF) (T : TF) (O : List Nat) (X : va_W) (a0 : Nat) (x1 : Int32) (t_a0 : T a0 = some (13, 0, 0)) (l_x1 : 4 ≤ x1.toInt) (u_x1 : x1.toInt ≤ 4) (hO : okO T O [0, 1, 13, 17]) : TK l D cs kf yX3_readSum cX3_readSum 5 (some (.boolean)) { frames := 14, cells := 0, slots := 0, locals := 310 } [.ref a0, .int x1] T O X (Ti D cs (fun r u => u = (T, O, X) ∧ 0 ≤ r.toInt ∧ r.toInt ≤ 1)) := by
  refine tk_of (by decide) (Nat.le_of_ble_eq_true rfl) (fun p e s m below meth c ls A H locs hx hb hr hml hown hts hlocks hnm hkb hH hS hA hOX hks hE hl => ?_)
  have hown : s.vm.findClass RX3 = some m.cls := hown
  have hl : lv_has ls 5 [(0, .ref a0), (1, .int x1)] := hl
  refine lv_aload_n hx hb dX3_readSum_0 rfl (lv_at hl 0 rfl) ?_
  refine lv_iload_n hx hb dX3_readSum_1 rfl (lv_at hl 1 rfl) ?_
  refine tk_i hH hS hA (tr_V (n := 1) (As := [.int x1]) hx hb hml hown hts hkb hH hOX hks hE hS hA (s_LR_readTerm4 l D cs kf T O X a0 x1 t_a0 (by omega) (by omega) (hO.sub (by decide))) kw_652 kw_654 ks_11 kw_4 kw_655 (by decide +kernel) ⟨Nat.le_of_ble_eq_true rfl, Nat.le_of_ble_eq_true rfl⟩ (HT.recv (ci := 3) hkb hH t_a0 (hO.no t_a0 (by decide)) rfl) rfl rfl hl.1 (Nat.le_of_ble_eq_true rfl) dX3_readSum_2 ⟨Nat.le_of_ble_eq_true rfl, Nat.le_of_ble_eq_true rfl⟩) (fun v2 u H locs hz9 hH hS => ?_)
  obtain ⟨rfl, l_v2, u_v2⟩ := hz9
  have hH : HT D cs A T O X H := hH
  refine W.widen (k := 0) (n := 0) (Nat.le_of_ble_eq_true rfl) (Nat.le_of_ble_eq_true rfl) ?_
  refine lv_istore_n (lv' := [(2, .int v2), (0, .ref a0), (1, .int x1)]) hx hb dX3_readSum_5 rfl hl (by decide) rfl (fun ls hl => ?_)
  refine lv_iconst (v := 0) hx hb dX3_readSum_6 (by decide) ?_
  have J8 : ∀ (n : Nat) (p8_3 : Int32) (p8_2 : Int32) (H : Heap) (locs : List Loc) (ls : Array Slot), (900 - p8_3.toInt).toNat = n → (0 ≤ p8_3.toInt) → (p8_3.toInt ≤ 900) → (0 ≤ p8_2.toInt) → (p8_2.toInt ≤ 1) → HT D cs A T O X H → va_S A s.heap H locs → lv_has ls 5 [(3, .int p8_3), (2, .int p8_2), (0, .ref a0), (1, .int x1)] → W p l e { frames := 14, cells := 0, slots := 0, locals := 310 } s m [.ref a0, .int x1].toArray below meth c H locs 0 0 (MQ below (Ti D cs (fun r u => u = (T, O, X) ∧ 0 ≤ r.toInt ∧ r.toInt ≤ 1) A) [.ref a0, .int x1].toArray s 0 0 A) (F0 m 8 ls []) := by
    intro n
    induction n using Nat.strongRecOn with
    | _ n ih8 =>
      intro p8_3 p8_2 H locs ls hm8 l_p8_3 u_p8_3 l_p8_2 u_p8_2 hH hS hl
      refine lv_iload_n hx hb dX3_readSum_8 rfl (lv_at hl 0 rfl) ?_
      refine lv_sipush (v := 900) hx hb dX3_readSum_9 (by decide) ?_
      have J89 : ∀  (H : Heap) (locs : List Loc) (ls : Array Slot), HT D cs A T O X H → va_S A s.heap H locs → lv_has ls 5 [(2, .int p8_2)] → W p l e { frames := 14, cells := 0, slots := 0, locals := 310 } s m [.ref a0, .int x1].toArray below meth c H locs 0 0 (MQ below (Ti D cs (fun r u => u = (T, O, X) ∧ 0 ≤ r.toInt ∧ r.toInt ≤ 1) A) [.ref a0, .int x1].toArray s 0 0 A) (F0 m 89 ls []) := by
        intro  H locs ls  hH hS hl
        refine lv_iload_n hx hb dX3_readSum_89 rfl (lv_at hl 0 rfl) ?_
        exact te_z hx hb hr hlocks (nar01 (by omega) (by omega)) hH hS (⟨rfl, by omega, by omega⟩) dX3_readSum_90
      refine lv_icmp_ge (tgt := 89) hx hb dX3_readSum_12 (by decide) (fun c12 => ?_) (fun c12 => ?_)
      · skip
        have tc12 := f_ge (k := 900) (by decide) c12
        exact J89  _ _ _  hH hS (lv_sub hl [1] rfl)
      · skip
        have tc12 := f_nge (k := 900) (by decide) c12
        refine lv_iload_n hx hb dX3_readSum_15 rfl (lv_at hl 1 rfl) ?_
        refine lv_if_eq (tgt := 89) hx hb dX3_readSum_16 (by decide) (fun c16 => ?_) (fun c16 => ?_)
        · skip
          have tc16 := f_eq (k := 0) (by decide) c16
          exact J89  _ _ _  hH hS (lv_sub hl [1] rfl)
        · skip
          have tc16 := f_ne (k := 0) (by decide) c16
          refine lv_aload_n hx hb dX3_readSum_19 rfl (lv_at hl 2 rfl) ?_
          refine t_get (ci := 3) (lst := ft3 0 0) (C := RX3) (F := TX3) (N := 3) hx hb hts uX3 hown hkb hH t_a0 (hO.no t_a0 (by decide)) (fun _ h9 => h9) rfl rfl 0 (by decide) rfl kw_82 (fun _ h9 => h9) dX3_readSum_20 (fun v9 h9 => ?_)
          obtain ⟨v20, rfl, t_v20⟩ := h9
          refine lv_bipush (v := 43) hx hb dX3_readSum_23 (by decide) ?_
          refine tk_i hH hS hA (tr_V (n := 1) (As := [.int 43]) hx hb hml hown hts hkb hH hOX hks hE hS hA (s_Tok_isSign l D cs kf T O X v20 (43) t_v20 (hO.sub (by decide))) kw_646 kw_615 kw_616 kw_3 kw_617 (by decide +kernel) ⟨Nat.le_of_ble_eq_true rfl, Nat.le_of_ble_eq_true rfl⟩ (HT.recv (ci := 7) hkb hH t_v20 (hO.no t_v20 (by decide)) rfl) rfl rfl hl.1 (Nat.le_of_ble_eq_true rfl) dX3_readSum_25 ⟨Nat.le_of_ble_eq_true rfl, Nat.le_of_ble_eq_true rfl⟩) (fun v25 u H locs hz9 hH hS => ?_)
          obtain ⟨rfl, l_v25, u_v25⟩ := hz9
          have hH : HT D cs A T O X H := hH
          refine W.widen (k := 0) (n := 0) (Nat.le_of_ble_eq_true rfl) (Nat.le_of_ble_eq_true rfl) ?_
          have J43 : ∀  (H : Heap) (locs : List Loc) (ls : Array Slot), HT D cs A T O X H → va_S A s.heap H locs → lv_has ls 5 [(3, .int p8_3), (0, .ref a0), (1, .int x1)] → W p l e { frames := 14, cells := 0, slots := 0, locals := 310 } s m [.ref a0, .int x1].toArray below meth c H locs 0 0 (MQ below (Ti D cs (fun r u => u = (T, O, X) ∧ 0 ≤ r.toInt ∧ r.toInt ≤ 1) A) [.ref a0, .int x1].toArray s 0 0 A) (F0 m 43 ls []) := by
            intro  H locs ls  hH hS hl
            refine lv_aload_n hx hb dX3_readSum_43 rfl (lv_at hl 1 rfl) ?_
            refine t_get (ci := 3) (lst := ft3 0 0) (C := RX3) (F := TX3) (N := 3) hx hb hts uX3 hown hkb hH t_a0 (hO.no t_a0 (by decide)) (fun _ h9 => h9) rfl rfl 0 (by decide) rfl kw_82 (fun _ h9 => h9) dX3_readSum_44 (fun v9 h9 => ?_)
            obtain ⟨v44, rfl, t_v44⟩ := h9
            refine lv_bipush (v := 43) hx hb dX3_readSum_47 (by decide) ?_
            refine tk_i hH hS hA (tr_V (n := 1) (As := [.int 43]) hx hb hml hown hts hkb hH hOX hks hE hS hA (s_Tok_isSign l D cs kf T O X v44 (43) t_v44 (hO.sub (by decide))) kw_646 kw_615 kw_616 kw_3 kw_617 (by decide +kernel) ⟨Nat.le_of_ble_eq_true rfl, Nat.le_of_ble_eq_true rfl⟩ (HT.recv (ci := 7) hkb hH t_v44 (hO.no t_v44 (by decide)) rfl) rfl rfl hl.1 (Nat.le_of_ble_eq_true rfl) dX3_readSum_49 ⟨Nat.le_of_ble_eq_true rfl, Nat.le_of_ble_eq_true rfl⟩) (fun v49 u H locs hz9 hH hS => ?_)
            obtain ⟨rfl, l_v49, u_v49⟩ := hz9
            have hH : HT D cs A T O X H := hH
            refine W.widen (k := 0) (n := 0) (Nat.le_of_ble_eq_true rfl) (Nat.le_of_ble_eq_true rfl) ?_
            have J61 : ∀ (k61_0 : Int32) (H : Heap) (locs : List Loc) (ls : Array Slot), (5 ≤ k61_0.toInt) → (k61_0.toInt ≤ 6) → HT D cs A T O X H → va_S A s.heap H locs → lv_has ls 5 [(3, .int p8_3), (0, .ref a0), (1, .int x1)] → W p l e { frames := 14, cells := 0, slots := 0, locals := 310 } s m [.ref a0, .int x1].toArray below meth c H locs 0 0 (MQ below (Ti D cs (fun r u => u = (T, O, X) ∧ 0 ≤ r.toInt ∧ r.toInt ≤ 1) A) [.ref a0, .int x1].toArray s 0 0 A) (F0 m 61 ls [.int k61_0]) := by
              intro k61_0 H locs ls l_k61_0 u_k61_0 hH hS hl
              refine lv_istore (lv' := [(4, .int k61_0), (3, .int p8_3), (0, .ref a0), (1, .int x1)]) hx hb dX3_readSum_61 hl (by decide) rfl (fun ls hl => ?_)
              refine lv_aload_n hx hb dX3_readSum_63 rfl (lv_at hl 2 rfl) ?_
              refine t_get (ci := 3) (lst := ft3 0 0) (C := RX3) (F := TX3) (N := 3) hx hb hts uX3 hown hkb hH t_a0 (hO.no t_a0 (by decide)) (fun _ h9 => h9) rfl rfl 0 (by decide) rfl kw_82 (fun _ h9 => h9) dX3_readSum_64 (fun v9 h9 => ?_)
              obtain ⟨v64, rfl, t_v64⟩ := h9
              refine tk_v hH hS hA (tr_V (n := 0) (As := []) hx hb hml hown hts hkb hH hOX hks hE hS hA (s_Tok_go l D cs kf T O X v64 t_v64 (hO.sub (by decide))) kw_641 kw_453 kw_454 kw_3 kw_455 (by decide +kernel) ⟨Nat.le_of_ble_eq_true rfl, Nat.le_of_ble_eq_true rfl⟩ (HT.recv (ci := 7) hkb hH t_v64 (hO.no t_v64 (by decide)) rfl) rfl rfl hl.1 (Nat.le_of_ble_eq_true rfl) dX3_readSum_67 ⟨Nat.le_of_ble_eq_true rfl, Nat.le_of_ble_eq_true rfl⟩) (fun u H locs hz9 hH hS => ?_)
              have hz9 : u = (T, O, X) := hz9
              subst hz9
              have hH : HT D cs A T O X H := hH
              refine W.widen (k := 0) (n := 0) (Nat.le_of_ble_eq_true rfl) (Nat.le_of_ble_eq_true rfl) ?_
              refine lv_aload_n hx hb dX3_readSum_70 rfl (lv_at hl 2 rfl) ?_
              refine lv_iload_n hx hb dX3_readSum_71 rfl (lv_at hl 3 rfl) ?_
              refine tk_i hH hS hA (tr_V (n := 1) (As := [.int x1]) hx hb hml hown hts hkb hH hOX hks hE hS hA (s_LR_readTerm4 l D cs kf T O X a0 x1 t_a0 (by omega) (by omega) (hO.sub (by decide))) kw_652 kw_654 ks_11 kw_4 kw_655 (by decide +kernel) ⟨Nat.le_of_ble_eq_true rfl, Nat.le_of_ble_eq_true rfl⟩ (HT.recv (ci := 3) hkb hH t_a0 (hO.no t_a0 (by decide)) rfl) rfl rfl hl.1 (Nat.le_of_ble_eq_true rfl) dX3_readSum_72 ⟨Nat.le_of_ble_eq_true rfl, Nat.le_of_ble_eq_true rfl⟩) (fun v72 u H locs hz9 hH hS => ?_)
              obtain ⟨rfl, l_v72, u_v72⟩ := hz9
              have hH : HT D cs A T O X H := hH
              refine W.widen (k := 0) (n := 0) (Nat.le_of_ble_eq_true rfl) (Nat.le_of_ble_eq_true rfl) ?_
              refine lv_istore_n (lv' := [(2, .int v72), (4, .int k61_0), (3, .int p8_3), (0, .ref a0), (1, .int x1)]) hx hb dX3_readSum_75 rfl hl (by decide) rfl (fun ls hl => ?_)
              refine lv_aload_n hx hb dX3_readSum_76 rfl (lv_at hl 3 rfl) ?_
              refine lv_iload hx hb dX3_readSum_77 (lv_at hl 1 rfl) ?_
              refine lv_iconst (v := 0) hx hb dX3_readSum_79 (by decide) ?_
              refine tk_v hH hS hA (tr_V (n := 2) (As := [.int k61_0, .int 0]) hx hb hml hown hts hkb hH hOX hks hE hS hA (s_LR_put l D cs kf T O X a0 k61_0 (0) t_a0 (hO.sub (by decide))) kw_642 kw_644 ks_9 kw_4 kw_645 (by decide +kernel) ⟨Nat.le_of_ble_eq_true rfl, Nat.le_of_ble_eq_true rfl⟩ (HT.recv (ci := 3) hkb hH t_a0 (hO.no t_a0 (by decide)) rfl) rfl rfl hl.1 (Nat.le_of_ble_eq_true rfl) dX3_readSum_80 ⟨Nat.le_of_ble_eq_true rfl, Nat.le_of_ble_eq_true rfl⟩) (fun u H locs hz9 hH hS => ?_)
              have hz9 : u = (T, O, X) := hz9
              subst hz9
              have hH : HT D cs A T O X H := hH
              refine W.widen (k := 0) (n := 0) (Nat.le_of_ble_eq_true rfl) (Nat.le_of_ble_eq_true rfl) ?_
              obtain ⟨v83, ev83⟩ : ∃ y : Int32, y = p8_3 + 1 := ⟨_, rfl⟩
              have tv83 : v83.toInt = p8_3.toInt + (1) := by rw [ev83]; exact add_i rfl (by decide) (by omega) (by omega)
              refine lv_iinc (v := v83) (lv' := [(3, .int v83), (2, .int v72), (4, .int k61_0), (0, .ref a0), (1, .int x1)]) hx hb dX3_readSum_83 hl (k := 2) rfl (by rw [ev83]; rfl) (by decide) rfl (fun ls hl => ?_)
              refine lv_goto (tgt := 8) hx hb dX3_readSum_86 (by decide) ?_
              exact ih8 _ (by omega) v83 v72 _ _ _ rfl (by omega) (by omega) (by omega) (by omega) hH hS (lv_sub hl [0, 1, 3, 4] rfl)
            refine lv_if_eq (tgt := 59) hx hb dX3_readSum_52 (by decide) (fun c52 => ?_) (fun c52 => ?_)
            · skip
              have tc52 := f_eq (k := 0) (by decide) c52
              refine lv_bipush (v := 6) hx hb dX3_readSum_59 (by decide) ?_
              exact J61 6 _ _ _ (by decide) (by decide) hH hS (lv_sub hl [0, 1, 2] rfl)
            · skip
              have tc52 := f_ne (k := 0) (by decide) c52
              refine lv_iconst (v := 5) hx hb dX3_readSum_55 (by decide) ?_
              refine lv_goto (tgt := 61) hx hb dX3_readSum_56 (by decide) ?_
              exact J61 5 _ _ _ (by decide) (by decide) hH hS (lv_sub hl [0, 1, 2] rfl)
          refine lv_if_ne (tgt := 43) hx hb dX3_readSum_28 (by decide) (fun c28 => ?_) (fun c28 => ?_)
          · skip
            have tc28 := f_ne (k := 0) (by decide) c28
            exact J43  _ _ _  hH hS (lv_sub hl [0, 2, 3] rfl)
          · skip
            have tc28 := f_eq (k := 0) (by decide) c28
            refine lv_aload_n hx hb dX3_readSum_31 rfl (lv_at hl 2 rfl) ?_
            refine t_get (ci := 3) (lst := ft3 0 0) (C := RX3) (F := TX3) (N := 3) hx hb hts uX3 hown hkb hH t_a0 (hO.no t_a0 (by decide)) (fun _ h9 => h9) rfl rfl 0 (by decide) rfl kw_82 (fun _ h9 => h9) dX3_readSum_32 (fun v9 h9 => ?_)
            obtain ⟨v32, rfl, t_v32⟩ := h9
            refine lv_bipush (v := 45) hx hb dX3_readSum_35 (by decide) ?_
            refine tk_i hH hS hA (tr_V (n := 1) (As := [.int 45]) hx hb hml hown hts hkb hH hOX hks hE hS hA (s_Tok_isSign l D cs kf T O X v32 (45) t_v32 (hO.sub (by decide))) kw_646 kw_615 kw_616 kw_3 kw_617 (by decide +kernel) ⟨Nat.le_of_ble_eq_true rfl, Nat.le_of_ble_eq_true rfl⟩ (HT.recv (ci := 7) hkb hH t_v32 (hO.no t_v32 (by decide)) rfl) rfl rfl hl.1 (Nat.le_of_ble_eq_true rfl) dX3_readSum_37 ⟨Nat.le_of_ble_eq_true rfl, Nat.le_of_ble_eq_true rfl⟩) (fun v37 u H locs hz9 hH hS => ?_)
            obtain ⟨rfl, l_v37, u_v37⟩ := hz9
            have hH : HT D cs A T O X H := hH
            refine W.widen (k := 0) (n := 0) (Nat.le_of_ble_eq_true rfl) (Nat.le_of_ble_eq_true rfl) ?_
            refine lv_if_eq (tgt := 89) hx hb dX3_readSum_40 (by decide) (fun c40 => ?_) (fun c40 => ?_)
            · skip
              have tc40 := f_eq (k := 0) (by decide) c40
              exact J89  _ _ _  hH hS (lv_sub hl [1] rfl)
            · skip
              have tc40 := f_ne (k := 0) (by decide) c40
              exact J43  _ _ _  hH hS (lv_sub hl [0, 2, 3] rfl)
  refine lv_istore_n (lv' := [(3, .int 0), (2, .int v2), (0, .ref a0), (1, .int x1)]) hx hb dX3_readSum_7 rfl hl (by decide) rfl (fun ls hl => ?_)
  exact J8 _ 0 v2 _ _ _ rfl (by decide) (by decide) (by omega) (by omega) hH hS (lv_sub hl [0, 1, 2, 3] rfl)
set_option maxHeartbeats 4000000 in
set_option maxRecDepth 100000 in
theorem s_LR_readUnit4 (l : Launch) (D : va_G) (cs : CS) (kf : KF) (T : TF) (O : List Nat) (X : va_W) (a0 : Nat) (x1 : Int32) (t_a0 : T a0 = some (13, 0, 0)) (l_x1 : 4 ≤ x1.toInt) (u_x1 : x1.toInt ≤ 4) (hO : okO T O [0, 1, 13, 17]) : TK l D cs kf yX3_readUnit cX3_readUnit 3 (some (.boolean)) { frames := 15, cells := 0, slots := 0, locals := 336 } [.ref a0, .int x1] T O X (Ti D cs (fun r u => u = (T, O, X) ∧ 0 ≤ r.toInt ∧ r.toInt ≤ 1)) := by
  refine tk_of (by decide) (Nat.le_of_ble_eq_true rfl) (fun p e s m below meth c ls A H locs hx hb hr hml hown hts hlocks hnm hkb hH hS hA hOX hks hE hl => ?_)
  have hown : s.vm.findClass RX3 = some m.cls := hown
  have hl : lv_has ls 3 [(0, .ref a0), (1, .int x1)] := hl
  refine lv_aload_n hx hb dX3_readUnit_0 rfl (lv_at hl 0 rfl) ?_
  refine t_get (ci := 3) (lst := ft3 0 0) (C := RX3) (F := TX3) (N := 3) hx hb hts uX3 hown hkb hH t_a0 (hO.no t_a0 (by decide)) (fun _ h9 => h9) rfl rfl 0 (by decide) rfl kw_82 (fun _ h9 => h9) dX3_readUnit_1 (fun v9 h9 => ?_)
  obtain ⟨v1, rfl, t_v1⟩ := h9
  refine va_ldcS (q := kf.1 10) hx hb hown (hks ("FootholdWall$LawReader", 65, "not", 10) (by decide +kernel)) dX3_readUnit_4 ?_
  refine tk_i hH hS hA (tr_V (n := 1) (As := [.ref (kf.1 10)]) hx hb hml hown hts hkb hH hOX hks hE hS hA (s_Tok_isWord l D cs kf T O X v1 10 t_v1 (by decide) (hO.sub (by decide))) kw_635 kw_551 kw_552 kw_3 kw_553 (by decide +kernel) ⟨Nat.le_of_ble_eq_true rfl, Nat.le_of_ble_eq_true rfl⟩ (HT.recv (ci := 7) hkb hH t_v1 (hO.no t_v1 (by decide)) rfl) rfl rfl hl.1 (Nat.le_of_ble_eq_true rfl) dX3_readUnit_6 ⟨Nat.le_of_ble_eq_true rfl, Nat.le_of_ble_eq_true rfl⟩) (fun v6 u H locs hz9 hH hS => ?_)
  obtain ⟨rfl, l_v6, u_v6⟩ := hz9
  have hH : HT D cs A T O X H := hH
  refine W.widen (k := 0) (n := 0) (Nat.le_of_ble_eq_true rfl) (Nat.le_of_ble_eq_true rfl) ?_
  refine lv_if_eq (tgt := 40) hx hb dX3_readUnit_9 (by decide) (fun c9 => ?_) (fun c9 => ?_)
  · skip
    have tc9 := f_eq (k := 0) (by decide) c9
    refine lv_aload_n hx hb dX3_readUnit_40 rfl (lv_at hl 0 rfl) ?_
    refine t_get (ci := 3) (lst := ft3 0 0) (C := RX3) (F := TX3) (N := 3) hx hb hts uX3 hown hkb hH t_a0 (hO.no t_a0 (by decide)) (fun _ h9 => h9) rfl rfl 0 (by decide) rfl kw_82 (fun _ h9 => h9) dX3_readUnit_41 (fun v9 h9 => ?_)
    obtain ⟨v41, rfl, t_v41⟩ := h9
    refine lv_bipush (v := 91) hx hb dX3_readUnit_44 (by decide) ?_
    refine tk_i hH hS hA (tr_V (n := 1) (As := [.int 91]) hx hb hml hown hts hkb hH hOX hks hE hS hA (s_Tok_isSign l D cs kf T O X v41 (91) t_v41 (hO.sub (by decide))) kw_646 kw_615 kw_616 kw_3 kw_617 (by decide +kernel) ⟨Nat.le_of_ble_eq_true rfl, Nat.le_of_ble_eq_true rfl⟩ (HT.recv (ci := 7) hkb hH t_v41 (hO.no t_v41 (by decide)) rfl) rfl rfl hl.1 (Nat.le_of_ble_eq_true rfl) dX3_readUnit_46 ⟨Nat.le_of_ble_eq_true rfl, Nat.le_of_ble_eq_true rfl⟩) (fun v46 u H locs hz9 hH hS => ?_)
    obtain ⟨rfl, l_v46, u_v46⟩ := hz9
    have hH : HT D cs A T O X H := hH
    refine W.widen (k := 0) (n := 0) (Nat.le_of_ble_eq_true rfl) (Nat.le_of_ble_eq_true rfl) ?_
    refine lv_if_eq (tgt := 88) hx hb dX3_readUnit_49 (by decide) (fun c49 => ?_) (fun c49 => ?_)
    · skip
      have tc49 := f_eq (k := 0) (by decide) c49
      refine lv_aload_n hx hb dX3_readUnit_88 rfl (lv_at hl 0 rfl) ?_
      refine lv_iload_n hx hb dX3_readUnit_89 rfl (lv_at hl 1 rfl) ?_
      refine tk_i hH hS hA (tr_V (n := 1) (As := [.int x1]) hx hb hml hown hts hkb hH hOX hks hE hS hA (s_LR_readSum4 l D cs kf T O X a0 x1 t_a0 (by omega) (by omega) (hO.sub (by decide))) kw_648 kw_650 ks_10 kw_4 kw_651 (by decide +kernel) ⟨Nat.le_of_ble_eq_true rfl, Nat.le_of_ble_eq_true rfl⟩ (HT.recv (ci := 3) hkb hH t_a0 (hO.no t_a0 (by decide)) rfl) rfl rfl hl.1 (Nat.le_of_ble_eq_true rfl) dX3_readUnit_90 ⟨Nat.le_of_ble_eq_true rfl, Nat.le_of_ble_eq_true rfl⟩) (fun v90 u H locs hz9 hH hS => ?_)
      obtain ⟨rfl, l_v90, u_v90⟩ := hz9
      have hH : HT D cs A T O X H := hH
      refine W.widen (k := 0) (n := 0) (Nat.le_of_ble_eq_true rfl) (Nat.le_of_ble_eq_true rfl) ?_
      refine lv_if_ne (tgt := 98) hx hb dX3_readUnit_93 (by decide) (fun c93 => ?_) (fun c93 => ?_)
      · skip
        have tc93 := f_ne (k := 0) (by decide) c93
        refine lv_aload_n hx hb dX3_readUnit_98 rfl (lv_at hl 0 rfl) ?_
        refine t_get (ci := 3) (lst := ft3 0 0) (C := RX3) (F := TX3) (N := 3) hx hb hts uX3 hown hkb hH t_a0 (hO.no t_a0 (by decide)) (fun _ h9 => h9) rfl rfl 0 (by decide) rfl kw_82 (fun _ h9 => h9) dX3_readUnit_99 (fun v9 h9 => ?_)
        obtain ⟨v99, rfl, t_v99⟩ := h9
        refine lv_bipush (v := 61) hx hb dX3_readUnit_102 (by decide) ?_
        refine tk_i hH hS hA (tr_V (n := 1) (As := [.int 61]) hx hb hml hown hts hkb hH hOX hks hE hS hA (s_Tok_isSign l D cs kf T O X v99 (61) t_v99 (hO.sub (by decide))) kw_646 kw_615 kw_616 kw_3 kw_617 (by decide +kernel) ⟨Nat.le_of_ble_eq_true rfl, Nat.le_of_ble_eq_true rfl⟩ (HT.recv (ci := 7) hkb hH t_v99 (hO.no t_v99 (by decide)) rfl) rfl rfl hl.1 (Nat.le_of_ble_eq_true rfl) dX3_readUnit_104 ⟨Nat.le_of_ble_eq_true rfl, Nat.le_of_ble_eq_true rfl⟩) (fun v104 u H locs hz9 hH hS => ?_)
        obtain ⟨rfl, l_v104, u_v104⟩ := hz9
        have hH : HT D cs A T O X H := hH
        refine W.widen (k := 0) (n := 0) (Nat.le_of_ble_eq_true rfl) (Nat.le_of_ble_eq_true rfl) ?_
        have J134 : ∀ (k134_0 : Int32) (H : Heap) (locs : List Loc) (ls : Array Slot), (8 ≤ k134_0.toInt) → (k134_0.toInt ≤ 10) → HT D cs A T O X H → va_S A s.heap H locs → lv_has ls 3 [(0, .ref a0), (1, .int x1)] → W p l e { frames := 15, cells := 0, slots := 0, locals := 336 } s m [.ref a0, .int x1].toArray below meth c H locs 0 0 (MQ below (Ti D cs (fun r u => u = (T, O, X) ∧ 0 ≤ r.toInt ∧ r.toInt ≤ 1) A) [.ref a0, .int x1].toArray s 0 0 A) (F0 m 134 ls [.int k134_0]) := by
          intro k134_0 H locs ls l_k134_0 u_k134_0 hH hS hl
          refine lv_istore_n (lv' := [(2, .int k134_0), (0, .ref a0), (1, .int x1)]) hx hb dX3_readUnit_134 rfl hl (by decide) rfl (fun ls hl => ?_)
          refine lv_iload_n hx hb dX3_readUnit_135 rfl (lv_at hl 0 rfl) ?_
          refine lv_bipush (v := 10) hx hb dX3_readUnit_136 (by decide) ?_
          have J162 : ∀  (H : Heap) (locs : List Loc) (ls : Array Slot), HT D cs A T O X H → va_S A s.heap H locs → lv_has ls 3 [(2, .int k134_0), (0, .ref a0), (1, .int x1)] → W p l e { frames := 15, cells := 0, slots := 0, locals := 336 } s m [.ref a0, .int x1].toArray below meth c H locs 0 0 (MQ below (Ti D cs (fun r u => u = (T, O, X) ∧ 0 ≤ r.toInt ∧ r.toInt ≤ 1) A) [.ref a0, .int x1].toArray s 0 0 A) (F0 m 162 ls []) := by
            intro  H locs ls  hH hS hl
            refine lv_aload_n hx hb dX3_readUnit_162 rfl (lv_at hl 1 rfl) ?_
            refine t_get (ci := 3) (lst := ft3 0 0) (C := RX3) (F := TX3) (N := 3) hx hb hts uX3 hown hkb hH t_a0 (hO.no t_a0 (by decide)) (fun _ h9 => h9) rfl rfl 0 (by decide) rfl kw_82 (fun _ h9 => h9) dX3_readUnit_163 (fun v9 h9 => ?_)
            obtain ⟨v163, rfl, t_v163⟩ := h9
            refine tk_v hH hS hA (tr_V (n := 0) (As := []) hx hb hml hown hts hkb hH hOX hks hE hS hA (s_Tok_go l D cs kf T O X v163 t_v163 (hO.sub (by decide))) kw_641 kw_453 kw_454 kw_3 kw_455 (by decide +kernel) ⟨Nat.le_of_ble_eq_true rfl, Nat.le_of_ble_eq_true rfl⟩ (HT.recv (ci := 7) hkb hH t_v163 (hO.no t_v163 (by decide)) rfl) rfl rfl hl.1 (Nat.le_of_ble_eq_true rfl) dX3_readUnit_166 ⟨Nat.le_of_ble_eq_true rfl, Nat.le_of_ble_eq_true rfl⟩) (fun u H locs hz9 hH hS => ?_)
            have hz9 : u = (T, O, X) := hz9
            subst hz9
            have hH : HT D cs A T O X H := hH
            refine W.widen (k := 0) (n := 0) (Nat.le_of_ble_eq_true rfl) (Nat.le_of_ble_eq_true rfl) ?_
            refine lv_aload_n hx hb dX3_readUnit_169 rfl (lv_at hl 1 rfl) ?_
            refine lv_iload_n hx hb dX3_readUnit_170 rfl (lv_at hl 2 rfl) ?_
            refine tk_i hH hS hA (tr_V (n := 1) (As := [.int x1]) hx hb hml hown hts hkb hH hOX hks hE hS hA (s_LR_readSum4 l D cs kf T O X a0 x1 t_a0 (by omega) (by omega) (hO.sub (by decide))) kw_648 kw_650 ks_10 kw_4 kw_651 (by decide +kernel) ⟨Nat.le_of_ble_eq_true rfl, Nat.le_of_ble_eq_true rfl⟩ (HT.recv (ci := 3) hkb hH t_a0 (hO.no t_a0 (by decide)) rfl) rfl rfl hl.1 (Nat.le_of_ble_eq_true rfl) dX3_readUnit_171 ⟨Nat.le_of_ble_eq_true rfl, Nat.le_of_ble_eq_true rfl⟩) (fun v171 u H locs hz9 hH hS => ?_)
            obtain ⟨rfl, l_v171, u_v171⟩ := hz9
            have hH : HT D cs A T O X H := hH
            refine W.widen (k := 0) (n := 0) (Nat.le_of_ble_eq_true rfl) (Nat.le_of_ble_eq_true rfl) ?_
            refine lv_if_ne (tgt := 179) hx hb dX3_readUnit_174 (by decide) (fun c174 => ?_) (fun c174 => ?_)
            · skip
              have tc174 := f_ne (k := 0) (by decide) c174
              refine lv_aload_n hx hb dX3_readUnit_179 rfl (lv_at hl 1 rfl) ?_
              refine lv_iload_n hx hb dX3_readUnit_180 rfl (lv_at hl 0 rfl) ?_
              refine lv_iconst (v := 0) hx hb dX3_readUnit_181 (by decide) ?_
              refine tk_v hH hS hA (tr_V (n := 2) (As := [.int k134_0, .int 0]) hx hb hml hown hts hkb hH hOX hks hE hS hA (s_LR_put l D cs kf T O X a0 k134_0 (0) t_a0 (hO.sub (by decide))) kw_642 kw_644 ks_9 kw_4 kw_645 (by decide +kernel) ⟨Nat.le_of_ble_eq_true rfl, Nat.le_of_ble_eq_true rfl⟩ (HT.recv (ci := 3) hkb hH t_a0 (hO.no t_a0 (by decide)) rfl) rfl rfl hl.1 (Nat.le_of_ble_eq_true rfl) dX3_readUnit_182 ⟨Nat.le_of_ble_eq_true rfl, Nat.le_of_ble_eq_true rfl⟩) (fun u H locs hz9 hH hS => ?_)
              have hz9 : u = (T, O, X) := hz9
              subst hz9
              have hH : HT D cs A T O X H := hH
              refine W.widen (k := 0) (n := 0) (Nat.le_of_ble_eq_true rfl) (Nat.le_of_ble_eq_true rfl) ?_
              refine lv_iconst (v := 1) hx hb dX3_readUnit_185 (by decide) ?_
              exact te_z hx hb hr hlocks (by rfl) hH hS (⟨rfl, by decide, by decide⟩) dX3_readUnit_186
            · skip
              have tc174 := f_eq (k := 0) (by decide) c174
              refine lv_iconst (v := 0) hx hb dX3_readUnit_177 (by decide) ?_
              exact te_z hx hb hr hlocks (by rfl) hH hS (⟨rfl, by decide, by decide⟩) dX3_readUnit_178
          refine lv_icmp_ne (tgt := 162) hx hb dX3_readUnit_138 (by decide) (fun c138 => ?_) (fun c138 => ?_)
          · skip
            have tc138 := f_ne (k := 10) (by decide) c138
            exact J162  _ _ _  hH hS (lv_sub hl [0, 1, 2] rfl)
          · skip
            have tc138 := f_eq (k := 10) (by decide) c138
            refine lv_aload_n hx hb dX3_readUnit_141 rfl (lv_at hl 1 rfl) ?_
            refine t_get (ci := 3) (lst := ft3 0 0) (C := RX3) (F := TX3) (N := 3) hx hb hts uX3 hown hkb hH t_a0 (hO.no t_a0 (by decide)) (fun _ h9 => h9) rfl rfl 0 (by decide) rfl kw_82 (fun _ h9 => h9) dX3_readUnit_142 (fun v9 h9 => ?_)
            obtain ⟨v142, rfl, t_v142⟩ := h9
            refine lv_bipush (v := 62) hx hb dX3_readUnit_145 (by decide) ?_
            refine tk_i hH hS hA (tr_V (n := 1) (As := [.int 62]) hx hb hml hown hts hkb hH hOX hks hE hS hA (s_Tok_isSign l D cs kf T O X v142 (62) t_v142 (hO.sub (by decide))) kw_646 kw_615 kw_616 kw_3 kw_617 (by decide +kernel) ⟨Nat.le_of_ble_eq_true rfl, Nat.le_of_ble_eq_true rfl⟩ (HT.recv (ci := 7) hkb hH t_v142 (hO.no t_v142 (by decide)) rfl) rfl rfl hl.1 (Nat.le_of_ble_eq_true rfl) dX3_readUnit_147 ⟨Nat.le_of_ble_eq_true rfl, Nat.le_of_ble_eq_true rfl⟩) (fun v147 u H locs hz9 hH hS => ?_)
            obtain ⟨rfl, l_v147, u_v147⟩ := hz9
            have hH : HT D cs A T O X H := hH
            refine W.widen (k := 0) (n := 0) (Nat.le_of_ble_eq_true rfl) (Nat.le_of_ble_eq_true rfl) ?_
            refine lv_if_ne (tgt := 162) hx hb dX3_readUnit_150 (by decide) (fun c150 => ?_) (fun c150 => ?_)
            · skip
              have tc150 := f_ne (k := 0) (by decide) c150
              exact J162  _ _ _  hH hS (lv_sub hl [0, 1, 2] rfl)
            · skip
              have tc150 := f_eq (k := 0) (by decide) c150
              refine lv_aload_n hx hb dX3_readUnit_153 rfl (lv_at hl 1 rfl) ?_
              refine t_get (ci := 3) (lst := ft3 0 0) (C := RX3) (F := TX3) (N := 3) hx hb hts uX3 hown hkb hH t_a0 (hO.no t_a0 (by decide)) (fun _ h9 => h9) rfl rfl 0 (by decide) rfl kw_82 (fun _ h9 => h9) dX3_readUnit_154 (fun v9 h9 => ?_)
              obtain ⟨v154, rfl, t_v154⟩ := h9
              refine lv_iconst (v := 2) hx hb dX3_readUnit_157 (by decide) ?_
              refine tk_i hH hS hA (tr_V (n := 1) (As := [.int 2]) hx hb hml hown hts hkb hH hOX hks hE hS hA (s_Tok_refuse l D cs kf T O X v154 (2) t_v154 (hO.sub (by decide))) kw_640 kw_580 kw_581 kw_3 kw_582 (by decide +kernel) ⟨Nat.le_of_ble_eq_true rfl, Nat.le_of_ble_eq_true rfl⟩ (HT.recv (ci := 7) hkb hH t_v154 (hO.no t_v154 (by decide)) rfl) rfl rfl hl.1 (Nat.le_of_ble_eq_true rfl) dX3_readUnit_158 ⟨Nat.le_of_ble_eq_true rfl, Nat.le_of_ble_eq_true rfl⟩) (fun v158 u H locs hz9 hH hS => ?_)
              obtain ⟨rfl, l_v158, u_v158⟩ := hz9
              have hH : HT D cs A T O X H := hH
              refine W.widen (k := 0) (n := 0) (Nat.le_of_ble_eq_true rfl) (Nat.le_of_ble_eq_true rfl) ?_
              exact te_z hx hb hr hlocks (nar01 (by omega) (by omega)) hH hS (⟨rfl, by omega, by omega⟩) dX3_readUnit_161
        refine lv_if_eq (tgt := 115) hx hb dX3_readUnit_107 (by decide) (fun c107 => ?_) (fun c107 => ?_)
        · skip
          have tc107 := f_eq (k := 0) (by decide) c107
          refine lv_aload_n hx hb dX3_readUnit_115 rfl (lv_at hl 0 rfl) ?_
          refine t_get (ci := 3) (lst := ft3 0 0) (C := RX3) (F := TX3) (N := 3) hx hb hts uX3 hown hkb hH t_a0 (hO.no t_a0 (by decide)) (fun _ h9 => h9) rfl rfl 0 (by decide) rfl kw_82 (fun _ h9 => h9) dX3_readUnit_116 (fun v9 h9 => ?_)
          obtain ⟨v116, rfl, t_v116⟩ := h9
          refine lv_bipush (v := 60) hx hb dX3_readUnit_119 (by decide) ?_
          refine tk_i hH hS hA (tr_V (n := 1) (As := [.int 60]) hx hb hml hown hts hkb hH hOX hks hE hS hA (s_Tok_isSign l D cs kf T O X v116 (60) t_v116 (hO.sub (by decide))) kw_646 kw_615 kw_616 kw_3 kw_617 (by decide +kernel) ⟨Nat.le_of_ble_eq_true rfl, Nat.le_of_ble_eq_true rfl⟩ (HT.recv (ci := 7) hkb hH t_v116 (hO.no t_v116 (by decide)) rfl) rfl rfl hl.1 (Nat.le_of_ble_eq_true rfl) dX3_readUnit_121 ⟨Nat.le_of_ble_eq_true rfl, Nat.le_of_ble_eq_true rfl⟩) (fun v121 u H locs hz9 hH hS => ?_)
          obtain ⟨rfl, l_v121, u_v121⟩ := hz9
          have hH : HT D cs A T O X H := hH
          refine W.widen (k := 0) (n := 0) (Nat.le_of_ble_eq_true rfl) (Nat.le_of_ble_eq_true rfl) ?_
          refine lv_if_eq (tgt := 132) hx hb dX3_readUnit_124 (by decide) (fun c124 => ?_) (fun c124 => ?_)
          · skip
            have tc124 := f_eq (k := 0) (by decide) c124
            refine lv_bipush (v := 10) hx hb dX3_readUnit_132 (by decide) ?_
            exact J134 10 _ _ _ (by decide) (by decide) hH hS (lv_sub hl [0, 1] rfl)
          · skip
            have tc124 := f_ne (k := 0) (by decide) c124
            refine lv_bipush (v := 9) hx hb dX3_readUnit_127 (by decide) ?_
            refine lv_goto (tgt := 134) hx hb dX3_readUnit_129 (by decide) ?_
            exact J134 9 _ _ _ (by decide) (by decide) hH hS (lv_sub hl [0, 1] rfl)
        · skip
          have tc107 := f_ne (k := 0) (by decide) c107
          refine lv_bipush (v := 8) hx hb dX3_readUnit_110 (by decide) ?_
          refine lv_goto (tgt := 134) hx hb dX3_readUnit_112 (by decide) ?_
          exact J134 8 _ _ _ (by decide) (by decide) hH hS (lv_sub hl [0, 1] rfl)
      · skip
        have tc93 := f_eq (k := 0) (by decide) c93
        refine lv_iconst (v := 0) hx hb dX3_readUnit_96 (by decide) ?_
        exact te_z hx hb hr hlocks (by rfl) hH hS (⟨rfl, by decide, by decide⟩) dX3_readUnit_97
    · skip
      have tc49 := f_ne (k := 0) (by decide) c49
      refine lv_aload_n hx hb dX3_readUnit_52 rfl (lv_at hl 0 rfl) ?_
      refine lv_iload_n hx hb dX3_readUnit_53 rfl (lv_at hl 1 rfl) ?_
      refine tk_i hH hS hA (tr_V (n := 1) (As := [.int x1]) hx hb hml hown hts hkb hH hOX hks hE hS hA (s_LR_enter4 l D cs kf T O X a0 x1 t_a0 (by omega) (by omega) (hO.sub (by decide))) kw_636 kw_638 ks_8 kw_4 kw_639 (by decide +kernel) ⟨Nat.le_of_ble_eq_true rfl, Nat.le_of_ble_eq_true rfl⟩ (HT.recv (ci := 3) hkb hH t_a0 (hO.no t_a0 (by decide)) rfl) rfl rfl hl.1 (Nat.le_of_ble_eq_true rfl) dX3_readUnit_54 ⟨Nat.le_of_ble_eq_true rfl, Nat.le_of_ble_eq_true rfl⟩) (fun v54 u H locs hz9 hH hS => ?_)
      obtain ⟨rfl, l_v54, u_v54⟩ := hz9
      have hH : HT D cs A T O X H := hH
      refine W.widen (k := 0) (n := 0) (Nat.le_of_ble_eq_true rfl) (Nat.le_of_ble_eq_true rfl) ?_
      refine lv_if_eq (tgt := 86) hx hb dX3_readUnit_57 (by decide) (fun c57 => ?_) (fun c57 => ?_)
      · skip
        have tc57 := f_eq (k := 0) (by decide) c57
        exfalso; omega
      · skip
        have tc57 := f_ne (k := 0) (by decide) c57
        refine lv_aload_n hx hb dX3_readUnit_60 rfl (lv_at hl 0 rfl) ?_
        refine lv_iload_n hx hb dX3_readUnit_61 rfl (lv_at hl 1 rfl) ?_
        refine lv_iconst (v := 1) hx hb dX3_readUnit_62 (by decide) ?_
        refine lv_iadd hx hb dX3_readUnit_63 ?_
        refine lv_topi (fun v63 ev63 => ?_)
        have tv63 : v63.toInt = x1.toInt + (1) := by rw [ev63]; exact add_i rfl (by decide : (1 : Int32).toInt = 1) (by omega) (by omega)
        refine tk_i hH hS hA (tr_V (n := 1) (As := [.int v63]) hx hb hml hown hts hkb hH hOX hks hE hS hA (s_LR_readTruth5 l D cs kf T O X a0 v63 t_a0 (by omega) (by omega) (hO.sub (by decide))) kw_622 kw_624 ks_5 kw_4 kw_625 (by decide +kernel) ⟨Nat.le_of_ble_eq_true rfl, Nat.le_of_ble_eq_true rfl⟩ (HT.recv (ci := 3) hkb hH t_a0 (hO.no t_a0 (by decide)) rfl) rfl rfl hl.1 (Nat.le_of_ble_eq_true rfl) dX3_readUnit_64 ⟨Nat.le_of_ble_eq_true rfl, Nat.le_of_ble_eq_true rfl⟩) (fun v64 u H locs hz9 hH hS => ?_)
        obtain ⟨rfl, l_v64, u_v64⟩ := hz9
        have hH : HT D cs A T O X H := hH
        refine W.widen (k := 0) (n := 0) (Nat.le_of_ble_eq_true rfl) (Nat.le_of_ble_eq_true rfl) ?_
        have J87 : ∀ (k87_0 : Int32) (H : Heap) (locs : List Loc) (ls : Array Slot), (0 ≤ k87_0.toInt) → (k87_0.toInt ≤ 1) → HT D cs A T O X H → va_S A s.heap H locs → lv_has ls 3 [] → W p l e { frames := 15, cells := 0, slots := 0, locals := 336 } s m [.ref a0, .int x1].toArray below meth c H locs 0 0 (MQ below (Ti D cs (fun r u => u = (T, O, X) ∧ 0 ≤ r.toInt ∧ r.toInt ≤ 1) A) [.ref a0, .int x1].toArray s 0 0 A) (F0 m 87 ls [.int k87_0]) := by
          intro k87_0 H locs ls l_k87_0 u_k87_0 hH hS hl
          exact te_z hx hb hr hlocks (nar01 (by omega) (by omega)) hH hS (⟨rfl, by omega, by omega⟩) dX3_readUnit_87
        have J86 : ∀  (H : Heap) (locs : List Loc) (ls : Array Slot), HT D cs A T O X H → va_S A s.heap H locs → lv_has ls 3 [] → W p l e { frames := 15, cells := 0, slots := 0, locals := 336 } s m [.ref a0, .int x1].toArray below meth c H locs 0 0 (MQ below (Ti D cs (fun r u => u = (T, O, X) ∧ 0 ≤ r.toInt ∧ r.toInt ≤ 1) A) [.ref a0, .int x1].toArray s 0 0 A) (F0 m 86 ls []) := by
          intro  H locs ls  hH hS hl
          refine lv_iconst (v := 0) hx hb dX3_readUnit_86 (by decide) ?_
          exact J87 0 _ _ _ (by decide) (by decide) hH hS (lv_sub hl [] rfl)
        refine lv_if_eq (tgt := 86) hx hb dX3_readUnit_67 (by decide) (fun c67 => ?_) (fun c67 => ?_)
        · skip
          have tc67 := f_eq (k := 0) (by decide) c67
          exact J86  _ _ _  hH hS (lv_sub hl [] rfl)
        · skip
          have tc67 := f_ne (k := 0) (by decide) c67
          refine lv_aload_n hx hb dX3_readUnit_70 rfl (lv_at hl 0 rfl) ?_
          refine t_get (ci := 3) (lst := ft3 0 0) (C := RX3) (F := TX3) (N := 3) hx hb hts uX3 hown hkb hH t_a0 (hO.no t_a0 (by decide)) (fun _ h9 => h9) rfl rfl 0 (by decide) rfl kw_82 (fun _ h9 => h9) dX3_readUnit_71 (fun v9 h9 => ?_)
          obtain ⟨v71, rfl, t_v71⟩ := h9
          refine lv_bipush (v := 93) hx hb dX3_readUnit_74 (by decide) ?_
          refine tk_i hH hS hA (tr_V (n := 1) (As := [.int 93]) hx hb hml hown hts hkb hH hOX hks hE hS hA (s_Tok_takeSign l D cs kf T O X v71 (93) t_v71 (hO.sub (by decide))) kw_647 kw_611 kw_612 kw_3 kw_613 (by decide +kernel) ⟨Nat.le_of_ble_eq_true rfl, Nat.le_of_ble_eq_true rfl⟩ (HT.recv (ci := 7) hkb hH t_v71 (hO.no t_v71 (by decide)) rfl) rfl rfl hl.1 (Nat.le_of_ble_eq_true rfl) dX3_readUnit_76 ⟨Nat.le_of_ble_eq_true rfl, Nat.le_of_ble_eq_true rfl⟩) (fun v76 u H locs hz9 hH hS => ?_)
          obtain ⟨rfl, l_v76, u_v76⟩ := hz9
          have hH : HT D cs A T O X H := hH
          refine W.widen (k := 0) (n := 0) (Nat.le_of_ble_eq_true rfl) (Nat.le_of_ble_eq_true rfl) ?_
          refine lv_if_eq (tgt := 86) hx hb dX3_readUnit_79 (by decide) (fun c79 => ?_) (fun c79 => ?_)
          · skip
            have tc79 := f_eq (k := 0) (by decide) c79
            exact J86  _ _ _  hH hS (lv_sub hl [] rfl)
          · skip
            have tc79 := f_ne (k := 0) (by decide) c79
            refine lv_iconst (v := 1) hx hb dX3_readUnit_82 (by decide) ?_
            refine lv_goto (tgt := 87) hx hb dX3_readUnit_83 (by decide) ?_
            exact J87 1 _ _ _ (by decide) (by decide) hH hS (lv_sub hl [] rfl)
  · skip
    have tc9 := f_ne (k := 0) (by decide) c9
    refine lv_aload_n hx hb dX3_readUnit_12 rfl (lv_at hl 0 rfl) ?_
    refine lv_iload_n hx hb dX3_readUnit_13 rfl (lv_at hl 1 rfl) ?_
    refine tk_i hH hS hA (tr_V (n := 1) (As := [.int x1]) hx hb hml hown hts hkb hH hOX hks hE hS hA (s_LR_enter4 l D cs kf T O X a0 x1 t_a0 (by omega) (by omega) (hO.sub (by decide))) kw_636 kw_638 ks_8 kw_4 kw_639 (by decide +kernel) ⟨Nat.le_of_ble_eq_true rfl, Nat.le_of_ble_eq_true rfl⟩ (HT.recv (ci := 3) hkb hH t_a0 (hO.no t_a0 (by decide)) rfl) rfl rfl hl.1 (Nat.le_of_ble_eq_true rfl) dX3_readUnit_14 ⟨Nat.le_of_ble_eq_true rfl, Nat.le_of_ble_eq_true rfl⟩) (fun v14 u H locs hz9 hH hS => ?_)
    obtain ⟨rfl, l_v14, u_v14⟩ := hz9
    have hH : HT D cs A T O X H := hH
    refine W.widen (k := 0) (n := 0) (Nat.le_of_ble_eq_true rfl) (Nat.le_of_ble_eq_true rfl) ?_
    refine lv_if_eq (tgt := 30) hx hb dX3_readUnit_17 (by decide) (fun c17 => ?_) (fun c17 => ?_)
    · skip
      have tc17 := f_eq (k := 0) (by decide) c17
      exfalso; omega
    · skip
      have tc17 := f_ne (k := 0) (by decide) c17
      refine lv_aload_n hx hb dX3_readUnit_20 rfl (lv_at hl 0 rfl) ?_
      refine lv_iload_n hx hb dX3_readUnit_21 rfl (lv_at hl 1 rfl) ?_
      refine lv_iconst (v := 1) hx hb dX3_readUnit_22 (by decide) ?_
      refine lv_iadd hx hb dX3_readUnit_23 ?_
      refine lv_topi (fun v23 ev23 => ?_)
      have tv23 : v23.toInt = x1.toInt + (1) := by rw [ev23]; exact add_i rfl (by decide : (1 : Int32).toInt = 1) (by omega) (by omega)
      refine tk_i hH hS hA (tr_V (n := 1) (As := [.int v23]) hx hb hml hown hts hkb hH hOX hks hE hS hA (s_LR_readUnit5 l D cs kf T O X a0 v23 t_a0 (by omega) (by omega) (hO.sub (by decide))) kw_630 kw_632 ks_7 kw_4 kw_633 (by decide +kernel) ⟨Nat.le_of_ble_eq_true rfl, Nat.le_of_ble_eq_true rfl⟩ (HT.recv (ci := 3) hkb hH t_a0 (hO.no t_a0 (by decide)) rfl) rfl rfl hl.1 (Nat.le_of_ble_eq_true rfl) dX3_readUnit_24 ⟨Nat.le_of_ble_eq_true rfl, Nat.le_of_ble_eq_true rfl⟩) (fun v24 u H locs hz9 hH hS => ?_)
      obtain ⟨rfl, l_v24, u_v24⟩ := hz9
      have hH : HT D cs A T O X H := hH
      refine W.widen (k := 0) (n := 0) (Nat.le_of_ble_eq_true rfl) (Nat.le_of_ble_eq_true rfl) ?_
      refine lv_if_ne (tgt := 32) hx hb dX3_readUnit_27 (by decide) (fun c27 => ?_) (fun c27 => ?_)
      · skip
        have tc27 := f_ne (k := 0) (by decide) c27
        refine lv_aload_n hx hb dX3_readUnit_32 rfl (lv_at hl 0 rfl) ?_
        refine lv_iconst (v := 2) hx hb dX3_readUnit_33 (by decide) ?_
        refine lv_iconst (v := 0) hx hb dX3_readUnit_34 (by decide) ?_
        refine tk_v hH hS hA (tr_V (n := 2) (As := [.int 2, .int 0]) hx hb hml hown hts hkb hH hOX hks hE hS hA (s_LR_put l D cs kf T O X a0 (2) (0) t_a0 (hO.sub (by decide))) kw_642 kw_644 ks_9 kw_4 kw_645 (by decide +kernel) ⟨Nat.le_of_ble_eq_true rfl, Nat.le_of_ble_eq_true rfl⟩ (HT.recv (ci := 3) hkb hH t_a0 (hO.no t_a0 (by decide)) rfl) rfl rfl hl.1 (Nat.le_of_ble_eq_true rfl) dX3_readUnit_35 ⟨Nat.le_of_ble_eq_true rfl, Nat.le_of_ble_eq_true rfl⟩) (fun u H locs hz9 hH hS => ?_)
        have hz9 : u = (T, O, X) := hz9
        subst hz9
        have hH : HT D cs A T O X H := hH
        refine W.widen (k := 0) (n := 0) (Nat.le_of_ble_eq_true rfl) (Nat.le_of_ble_eq_true rfl) ?_
        refine lv_iconst (v := 1) hx hb dX3_readUnit_38 (by decide) ?_
        exact te_z hx hb hr hlocks (by rfl) hH hS (⟨rfl, by decide, by decide⟩) dX3_readUnit_39
      · skip
        have tc27 := f_eq (k := 0) (by decide) c27
        refine lv_iconst (v := 0) hx hb dX3_readUnit_30 (by decide) ?_
        exact te_z hx hb hr hlocks (by rfl) hH hS (⟨rfl, by decide, by decide⟩) dX3_readUnit_31
set_option maxHeartbeats 4000000 in
set_option maxRecDepth 100000 in
theorem s_LR_readBoth4 (l : Launch) (D : va_G) (cs : CS) (kf : KF) (T : TF) (O : List Nat) (X : va_W) (a0 : Nat) (x1 : Int32) (t_a0 : T a0 = some (13, 0, 0)) (l_x1 : 4 ≤ x1.toInt) (u_x1 : x1.toInt ≤ 4) (hO : okO T O [0, 1, 13, 17]) : TK l D cs kf yX3_readBoth cX3_readBoth 5 (some (.boolean)) { frames := 16, cells := 0, slots := 0, locals := 358 } [.ref a0, .int x1] T O X (Ti D cs (fun r u => u = (T, O, X) ∧ 0 ≤ r.toInt ∧ r.toInt ≤ 1)) := by
  refine tk_of (by decide) (Nat.le_of_ble_eq_true rfl) (fun p e s m below meth c ls A H locs hx hb hr hml hown hts hlocks hnm hkb hH hS hA hOX hks hE hl => ?_)
  have hown : s.vm.findClass RX3 = some m.cls := hown
  have hl : lv_has ls 5 [(0, .ref a0), (1, .int x1)] := hl
  refine lv_aload_n hx hb dX3_readBoth_0 rfl (lv_at hl 0 rfl) ?_
  refine lv_iload_n hx hb dX3_readBoth_1 rfl (lv_at hl 1 rfl) ?_
  refine tk_i hH hS hA (tr_V (n := 1) (As := [.int x1]) hx hb hml hown hts hkb hH hOX hks hE hS hA (s_LR_readUnit4 l D cs kf T O X a0 x1 t_a0 (by omega) (by omega) (hO.sub (by decide))) kw_630 kw_632 ks_7 kw_4 kw_633 (by decide +kernel) ⟨Nat.le_of_ble_eq_true rfl, Nat.le_of_ble_eq_true rfl⟩ (HT.recv (ci := 3) hkb hH t_a0 (hO.no t_a0 (by decide)) rfl) rfl rfl hl.1 (Nat.le_of_ble_eq_true rfl) dX3_readBoth_2 ⟨Nat.le_of_ble_eq_true rfl, Nat.le_of_ble_eq_true rfl⟩) (fun v2 u H locs hz9 hH hS => ?_)
  obtain ⟨rfl, l_v2, u_v2⟩ := hz9
  have hH : HT D cs A T O X H := hH
  refine W.widen (k := 0) (n := 0) (Nat.le_of_ble_eq_true rfl) (Nat.le_of_ble_eq_true rfl) ?_
  refine lv_istore_n (lv' := [(2, .int v2), (0, .ref a0), (1, .int x1)]) hx hb dX3_readBoth_5 rfl hl (by decide) rfl (fun ls hl => ?_)
  refine lv_iconst (v := 0) hx hb dX3_readBoth_6 (by decide) ?_
  have J8 : ∀ (n : Nat) (p8_3 : Int32) (p8_2 : Int32) (H : Heap) (locs : List Loc) (ls : Array Slot), (900 - p8_3.toInt).toNat = n → (0 ≤ p8_3.toInt) → (p8_3.toInt ≤ 900) → (0 ≤ p8_2.toInt) → (p8_2.toInt ≤ 1) → HT D cs A T O X H → va_S A s.heap H locs → lv_has ls 5 [(3, .int p8_3), (2, .int p8_2), (0, .ref a0), (1, .int x1)] → W p l e { frames := 16, cells := 0, slots := 0, locals := 358 } s m [.ref a0, .int x1].toArray below meth c H locs 0 0 (MQ below (Ti D cs (fun r u => u = (T, O, X) ∧ 0 ≤ r.toInt ∧ r.toInt ≤ 1) A) [.ref a0, .int x1].toArray s 0 0 A) (F0 m 8 ls []) := by
    intro n
    induction n using Nat.strongRecOn with
    | _ n ih8 =>
      intro p8_3 p8_2 H locs ls hm8 l_p8_3 u_p8_3 l_p8_2 u_p8_2 hH hS hl
      refine lv_iload_n hx hb dX3_readBoth_8 rfl (lv_at hl 0 rfl) ?_
      refine lv_sipush (v := 900) hx hb dX3_readBoth_9 (by decide) ?_
      have J68 : ∀  (H : Heap) (locs : List Loc) (ls : Array Slot), HT D cs A T O X H → va_S A s.heap H locs → lv_has ls 5 [(2, .int p8_2)] → W p l e { frames := 16, cells := 0, slots := 0, locals := 358 } s m [.ref a0, .int x1].toArray below meth c H locs 0 0 (MQ below (Ti D cs (fun r u => u = (T, O, X) ∧ 0 ≤ r.toInt ∧ r.toInt ≤ 1) A) [.ref a0, .int x1].toArray s 0 0 A) (F0 m 68 ls []) := by
        intro  H locs ls  hH hS hl
        refine lv_iload_n hx hb dX3_readBoth_68 rfl (lv_at hl 0 rfl) ?_
        exact te_z hx hb hr hlocks (nar01 (by omega) (by omega)) hH hS (⟨rfl, by omega, by omega⟩) dX3_readBoth_69
      refine lv_icmp_ge (tgt := 68) hx hb dX3_readBoth_12 (by decide) (fun c12 => ?_) (fun c12 => ?_)
      · skip
        have tc12 := f_ge (k := 900) (by decide) c12
        exact J68  _ _ _  hH hS (lv_sub hl [1] rfl)
      · skip
        have tc12 := f_nge (k := 900) (by decide) c12
        refine lv_iload_n hx hb dX3_readBoth_15 rfl (lv_at hl 1 rfl) ?_
        refine lv_if_eq (tgt := 68) hx hb dX3_readBoth_16 (by decide) (fun c16 => ?_) (fun c16 => ?_)
        · skip
          have tc16 := f_eq (k := 0) (by decide) c16
          exact J68  _ _ _  hH hS (lv_sub hl [1] rfl)
        · skip
          have tc16 := f_ne (k := 0) (by decide) c16
          refine lv_aload_n hx hb dX3_readBoth_19 rfl (lv_at hl 2 rfl) ?_
          refine t_get (ci := 3) (lst := ft3 0 0) (C := RX3) (F := TX3) (N := 3) hx hb hts uX3 hown hkb hH t_a0 (hO.no t_a0 (by decide)) (fun _ h9 => h9) rfl rfl 0 (by decide) rfl kw_82 (fun _ h9 => h9) dX3_readBoth_20 (fun v9 h9 => ?_)
          obtain ⟨v20, rfl, t_v20⟩ := h9
          refine va_ldcS (q := kf.1 15) hx hb hown (hks ("FootholdWall$LawReader", 63, "and", 15) (by decide +kernel)) dX3_readBoth_23 ?_
          refine tk_i hH hS hA (tr_V (n := 1) (As := [.ref (kf.1 15)]) hx hb hml hown hts hkb hH hOX hks hE hS hA (s_Tok_isWord l D cs kf T O X v20 15 t_v20 (by decide) (hO.sub (by decide))) kw_635 kw_551 kw_552 kw_3 kw_553 (by decide +kernel) ⟨Nat.le_of_ble_eq_true rfl, Nat.le_of_ble_eq_true rfl⟩ (HT.recv (ci := 7) hkb hH t_v20 (hO.no t_v20 (by decide)) rfl) rfl rfl hl.1 (Nat.le_of_ble_eq_true rfl) dX3_readBoth_25 ⟨Nat.le_of_ble_eq_true rfl, Nat.le_of_ble_eq_true rfl⟩) (fun v25 u H locs hz9 hH hS => ?_)
          obtain ⟨rfl, l_v25, u_v25⟩ := hz9
          have hH : HT D cs A T O X H := hH
          refine W.widen (k := 0) (n := 0) (Nat.le_of_ble_eq_true rfl) (Nat.le_of_ble_eq_true rfl) ?_
          refine lv_if_eq (tgt := 68) hx hb dX3_readBoth_28 (by decide) (fun c28 => ?_) (fun c28 => ?_)
          · skip
            have tc28 := f_eq (k := 0) (by decide) c28
            exact J68  _ _ _  hH hS (lv_sub hl [1] rfl)
          · skip
            have tc28 := f_ne (k := 0) (by decide) c28
            refine lv_aload_n hx hb dX3_readBoth_31 rfl (lv_at hl 2 rfl) ?_
            refine t_get (ci := 3) (lst := ft3 0 0) (C := RX3) (F := TX3) (N := 3) hx hb hts uX3 hown hkb hH t_a0 (hO.no t_a0 (by decide)) (fun _ h9 => h9) rfl rfl 0 (by decide) rfl kw_82 (fun _ h9 => h9) dX3_readBoth_32 (fun v9 h9 => ?_)
            obtain ⟨v32, rfl, t_v32⟩ := h9
            refine tk_v hH hS hA (tr_V (n := 0) (As := []) hx hb hml hown hts hkb hH hOX hks hE hS hA (s_Tok_go l D cs kf T O X v32 t_v32 (hO.sub (by decide))) kw_641 kw_453 kw_454 kw_3 kw_455 (by decide +kernel) ⟨Nat.le_of_ble_eq_true rfl, Nat.le_of_ble_eq_true rfl⟩ (HT.recv (ci := 7) hkb hH t_v32 (hO.no t_v32 (by decide)) rfl) rfl rfl hl.1 (Nat.le_of_ble_eq_true rfl) dX3_readBoth_35 ⟨Nat.le_of_ble_eq_true rfl, Nat.le_of_ble_eq_true rfl⟩) (fun u H locs hz9 hH hS => ?_)
            have hz9 : u = (T, O, X) := hz9
            subst hz9
            have hH : HT D cs A T O X H := hH
            refine W.widen (k := 0) (n := 0) (Nat.le_of_ble_eq_true rfl) (Nat.le_of_ble_eq_true rfl) ?_
            refine lv_aload_n hx hb dX3_readBoth_38 rfl (lv_at hl 2 rfl) ?_
            refine t_get (ci := 3) (lst := ft3 0 0) (C := RX3) (F := TX3) (N := 3) hx hb hts uX3 hown hkb hH t_a0 (hO.no t_a0 (by decide)) (fun _ h9 => h9) rfl rfl 2 (by decide) rfl kw_84 (fun _ h9 => h9) dX3_readBoth_39 (fun v9 h9 => ?_)
            obtain ⟨v39, rfl, l_v39, u_v39⟩ := h9
            refine lv_istore (lv' := [(4, .int v39), (3, .int p8_3), (2, .int p8_2), (0, .ref a0), (1, .int x1)]) hx hb dX3_readBoth_42 hl (by decide) rfl (fun ls hl => ?_)
            refine lv_aload_n hx hb dX3_readBoth_44 rfl (lv_at hl 3 rfl) ?_
            refine lv_iconst (v := 3) hx hb dX3_readBoth_45 (by decide) ?_
            refine lv_iconst (v := 0) hx hb dX3_readBoth_46 (by decide) ?_
            refine tk_v hH hS hA (tr_V (n := 2) (As := [.int 3, .int 0]) hx hb hml hown hts hkb hH hOX hks hE hS hA (s_LR_put l D cs kf T O X a0 (3) (0) t_a0 (hO.sub (by decide))) kw_642 kw_644 ks_9 kw_4 kw_645 (by decide +kernel) ⟨Nat.le_of_ble_eq_true rfl, Nat.le_of_ble_eq_true rfl⟩ (HT.recv (ci := 3) hkb hH t_a0 (hO.no t_a0 (by decide)) rfl) rfl rfl hl.1 (Nat.le_of_ble_eq_true rfl) dX3_readBoth_47 ⟨Nat.le_of_ble_eq_true rfl, Nat.le_of_ble_eq_true rfl⟩) (fun u H locs hz9 hH hS => ?_)
            have hz9 : u = (T, O, X) := hz9
            subst hz9
            have hH : HT D cs A T O X H := hH
            refine W.widen (k := 0) (n := 0) (Nat.le_of_ble_eq_true rfl) (Nat.le_of_ble_eq_true rfl) ?_
            refine lv_aload_n hx hb dX3_readBoth_50 rfl (lv_at hl 3 rfl) ?_
            refine lv_iload_n hx hb dX3_readBoth_51 rfl (lv_at hl 4 rfl) ?_
            refine tk_i hH hS hA (tr_V (n := 1) (As := [.int x1]) hx hb hml hown hts hkb hH hOX hks hE hS hA (s_LR_readUnit4 l D cs kf T O X a0 x1 t_a0 (by omega) (by omega) (hO.sub (by decide))) kw_630 kw_632 ks_7 kw_4 kw_633 (by decide +kernel) ⟨Nat.le_of_ble_eq_true rfl, Nat.le_of_ble_eq_true rfl⟩ (HT.recv (ci := 3) hkb hH t_a0 (hO.no t_a0 (by decide)) rfl) rfl rfl hl.1 (Nat.le_of_ble_eq_true rfl) dX3_readBoth_52 ⟨Nat.le_of_ble_eq_true rfl, Nat.le_of_ble_eq_true rfl⟩) (fun v52 u H locs hz9 hH hS => ?_)
            obtain ⟨rfl, l_v52, u_v52⟩ := hz9
            have hH : HT D cs A T O X H := hH
            refine W.widen (k := 0) (n := 0) (Nat.le_of_ble_eq_true rfl) (Nat.le_of_ble_eq_true rfl) ?_
            refine lv_istore_n (lv' := [(2, .int v52), (4, .int v39), (3, .int p8_3), (0, .ref a0), (1, .int x1)]) hx hb dX3_readBoth_55 rfl hl (by decide) rfl (fun ls hl => ?_)
            refine lv_aload_n hx hb dX3_readBoth_56 rfl (lv_at hl 3 rfl) ?_
            refine lv_iload hx hb dX3_readBoth_57 (lv_at hl 1 rfl) ?_
            refine tk_v hH hS hA (tr_V (n := 1) (As := [.int v39]) hx hb hml hown hts hkb hH hOX hks hE hS hA (s_LR_aimSkip l D cs kf T O X a0 v39 t_a0 (hO.sub (by decide))) kw_672 kw_674 ks_14 kw_4 kw_675 (by decide +kernel) ⟨Nat.le_of_ble_eq_true rfl, Nat.le_of_ble_eq_true rfl⟩ (HT.recv (ci := 3) hkb hH t_a0 (hO.no t_a0 (by decide)) rfl) rfl rfl hl.1 (Nat.le_of_ble_eq_true rfl) dX3_readBoth_59 ⟨Nat.le_of_ble_eq_true rfl, Nat.le_of_ble_eq_true rfl⟩) (fun u H locs hz9 hH hS => ?_)
            have hz9 : u = (T, O, X) := hz9
            subst hz9
            have hH : HT D cs A T O X H := hH
            refine W.widen (k := 0) (n := 0) (Nat.le_of_ble_eq_true rfl) (Nat.le_of_ble_eq_true rfl) ?_
            obtain ⟨v62, ev62⟩ : ∃ y : Int32, y = p8_3 + 1 := ⟨_, rfl⟩
            have tv62 : v62.toInt = p8_3.toInt + (1) := by rw [ev62]; exact add_i rfl (by decide) (by omega) (by omega)
            refine lv_iinc (v := v62) (lv' := [(3, .int v62), (2, .int v52), (4, .int v39), (0, .ref a0), (1, .int x1)]) hx hb dX3_readBoth_62 hl (k := 2) rfl (by rw [ev62]; rfl) (by decide) rfl (fun ls hl => ?_)
            refine lv_goto (tgt := 8) hx hb dX3_readBoth_65 (by decide) ?_
            exact ih8 _ (by omega) v62 v52 _ _ _ rfl (by omega) (by omega) (by omega) (by omega) hH hS (lv_sub hl [0, 1, 3, 4] rfl)
  refine lv_istore_n (lv' := [(3, .int 0), (2, .int v2), (0, .ref a0), (1, .int x1)]) hx hb dX3_readBoth_7 rfl hl (by decide) rfl (fun ls hl => ?_)
  exact J8 _ 0 v2 _ _ _ rfl (by decide) (by decide) (by omega) (by omega) hH hS (lv_sub hl [0, 1, 2, 3] rfl)
set_option maxHeartbeats 4000000 in
set_option maxRecDepth 100000 in
theorem s_LR_readTruth4 (l : Launch) (D : va_G) (cs : CS) (kf : KF) (T : TF) (O : List Nat) (X : va_W) (a0 : Nat) (x1 : Int32) (t_a0 : T a0 = some (13, 0, 0)) (l_x1 : 4 ≤ x1.toInt) (u_x1 : x1.toInt ≤ 4) (hO : okO T O [0, 1, 13, 17]) : TK l D cs kf yX3_readTruth cX3_readTruth 5 (some (.boolean)) { frames := 17, cells := 0, slots := 0, locals := 382 } [.ref a0, .int x1] T O X (Ti D cs (fun r u => u = (T, O, X) ∧ 0 ≤ r.toInt ∧ r.toInt ≤ 1)) := by
  refine tk_of (by decide) (Nat.le_of_ble_eq_true rfl) (fun p e s m below meth c ls A H locs hx hb hr hml hown hts hlocks hnm hkb hH hS hA hOX hks hE hl => ?_)
  have hown : s.vm.findClass RX3 = some m.cls := hown
  have hl : lv_has ls 5 [(0, .ref a0), (1, .int x1)] := hl
  refine lv_aload_n hx hb dX3_readTruth_0 rfl (lv_at hl 0 rfl) ?_
  refine lv_iload_n hx hb dX3_readTruth_1 rfl (lv_at hl 1 rfl) ?_
  refine tk_i hH hS hA (tr_V (n := 1) (As := [.int x1]) hx hb hml hown hts hkb hH hOX hks hE hS hA (s_LR_readBoth4 l D cs kf T O X a0 x1 t_a0 (by omega) (by omega) (hO.sub (by decide))) kw_626 kw_628 ks_6 kw_4 kw_629 (by decide +kernel) ⟨Nat.le_of_ble_eq_true rfl, Nat.le_of_ble_eq_true rfl⟩ (HT.recv (ci := 3) hkb hH t_a0 (hO.no t_a0 (by decide)) rfl) rfl rfl hl.1 (Nat.le_of_ble_eq_true rfl) dX3_readTruth_2 ⟨Nat.le_of_ble_eq_true rfl, Nat.le_of_ble_eq_true rfl⟩) (fun v2 u H locs hz9 hH hS => ?_)
  obtain ⟨rfl, l_v2, u_v2⟩ := hz9
  have hH : HT D cs A T O X H := hH
  refine W.widen (k := 0) (n := 0) (Nat.le_of_ble_eq_true rfl) (Nat.le_of_ble_eq_true rfl) ?_
  refine lv_istore_n (lv' := [(2, .int v2), (0, .ref a0), (1, .int x1)]) hx hb dX3_readTruth_5 rfl hl (by decide) rfl (fun ls hl => ?_)
  refine lv_iconst (v := 0) hx hb dX3_readTruth_6 (by decide) ?_
  have J8 : ∀ (n : Nat) (p8_3 : Int32) (p8_2 : Int32) (H : Heap) (locs : List Loc) (ls : Array Slot), (900 - p8_3.toInt).toNat = n → (0 ≤ p8_3.toInt) → (p8_3.toInt ≤ 900) → (0 ≤ p8_2.toInt) → (p8_2.toInt ≤ 1) → HT D cs A T O X H → va_S A s.heap H locs → lv_has ls 5 [(3, .int p8_3), (2, .int p8_2), (0, .ref a0), (1, .int x1)] → W p l e { frames := 17, cells := 0, slots := 0, locals := 382 } s m [.ref a0, .int x1].toArray below meth c H locs 0 0 (MQ below (Ti D cs (fun r u => u = (T, O, X) ∧ 0 ≤ r.toInt ∧ r.toInt ≤ 1) A) [.ref a0, .int x1].toArray s 0 0 A) (F0 m 8 ls []) := by
    intro n
    induction n using Nat.strongRecOn with
    | _ n ih8 =>
      intro p8_3 p8_2 H locs ls hm8 l_p8_3 u_p8_3 l_p8_2 u_p8_2 hH hS hl
      refine lv_iload_n hx hb dX3_readTruth_8 rfl (lv_at hl 0 rfl) ?_
      refine lv_sipush (v := 900) hx hb dX3_readTruth_9 (by decide) ?_
      have J68 : ∀  (H : Heap) (locs : List Loc) (ls : Array Slot), HT D cs A T O X H → va_S A s.heap H locs → lv_has ls 5 [(2, .int p8_2)] → W p l e { frames := 17, cells := 0, slots := 0, locals := 382 } s m [.ref a0, .int x1].toArray below meth c H locs 0 0 (MQ below (Ti D cs (fun r u => u = (T, O, X) ∧ 0 ≤ r.toInt ∧ r.toInt ≤ 1) A) [.ref a0, .int x1].toArray s 0 0 A) (F0 m 68 ls []) := by
        intro  H locs ls  hH hS hl
        refine lv_iload_n hx hb dX3_readTruth_68 rfl (lv_at hl 0 rfl) ?_
        exact te_z hx hb hr hlocks (nar01 (by omega) (by omega)) hH hS (⟨rfl, by omega, by omega⟩) dX3_readTruth_69
      refine lv_icmp_ge (tgt := 68) hx hb dX3_readTruth_12 (by decide) (fun c12 => ?_) (fun c12 => ?_)
      · skip
        have tc12 := f_ge (k := 900) (by decide) c12
        exact J68  _ _ _  hH hS (lv_sub hl [1] rfl)
      · skip
        have tc12 := f_nge (k := 900) (by decide) c12
        refine lv_iload_n hx hb dX3_readTruth_15 rfl (lv_at hl 1 rfl) ?_
        refine lv_if_eq (tgt := 68) hx hb dX3_readTruth_16 (by decide) (fun c16 => ?_) (fun c16 => ?_)
        · skip
          have tc16 := f_eq (k := 0) (by decide) c16
          exact J68  _ _ _  hH hS (lv_sub hl [1] rfl)
        · skip
          have tc16 := f_ne (k := 0) (by decide) c16
          refine lv_aload_n hx hb dX3_readTruth_19 rfl (lv_at hl 2 rfl) ?_
          refine t_get (ci := 3) (lst := ft3 0 0) (C := RX3) (F := TX3) (N := 3) hx hb hts uX3 hown hkb hH t_a0 (hO.no t_a0 (by decide)) (fun _ h9 => h9) rfl rfl 0 (by decide) rfl kw_82 (fun _ h9 => h9) dX3_readTruth_20 (fun v9 h9 => ?_)
          obtain ⟨v20, rfl, t_v20⟩ := h9
          refine va_ldcS (q := kf.1 16) hx hb hown (hks ("FootholdWall$LawReader", 41, "or", 16) (by decide +kernel)) dX3_readTruth_23 ?_
          refine tk_i hH hS hA (tr_V (n := 1) (As := [.ref (kf.1 16)]) hx hb hml hown hts hkb hH hOX hks hE hS hA (s_Tok_isWord l D cs kf T O X v20 16 t_v20 (by decide) (hO.sub (by decide))) kw_635 kw_551 kw_552 kw_3 kw_553 (by decide +kernel) ⟨Nat.le_of_ble_eq_true rfl, Nat.le_of_ble_eq_true rfl⟩ (HT.recv (ci := 7) hkb hH t_v20 (hO.no t_v20 (by decide)) rfl) rfl rfl hl.1 (Nat.le_of_ble_eq_true rfl) dX3_readTruth_25 ⟨Nat.le_of_ble_eq_true rfl, Nat.le_of_ble_eq_true rfl⟩) (fun v25 u H locs hz9 hH hS => ?_)
          obtain ⟨rfl, l_v25, u_v25⟩ := hz9
          have hH : HT D cs A T O X H := hH
          refine W.widen (k := 0) (n := 0) (Nat.le_of_ble_eq_true rfl) (Nat.le_of_ble_eq_true rfl) ?_
          refine lv_if_eq (tgt := 68) hx hb dX3_readTruth_28 (by decide) (fun c28 => ?_) (fun c28 => ?_)
          · skip
            have tc28 := f_eq (k := 0) (by decide) c28
            exact J68  _ _ _  hH hS (lv_sub hl [1] rfl)
          · skip
            have tc28 := f_ne (k := 0) (by decide) c28
            refine lv_aload_n hx hb dX3_readTruth_31 rfl (lv_at hl 2 rfl) ?_
            refine t_get (ci := 3) (lst := ft3 0 0) (C := RX3) (F := TX3) (N := 3) hx hb hts uX3 hown hkb hH t_a0 (hO.no t_a0 (by decide)) (fun _ h9 => h9) rfl rfl 0 (by decide) rfl kw_82 (fun _ h9 => h9) dX3_readTruth_32 (fun v9 h9 => ?_)
            obtain ⟨v32, rfl, t_v32⟩ := h9
            refine tk_v hH hS hA (tr_V (n := 0) (As := []) hx hb hml hown hts hkb hH hOX hks hE hS hA (s_Tok_go l D cs kf T O X v32 t_v32 (hO.sub (by decide))) kw_641 kw_453 kw_454 kw_3 kw_455 (by decide +kernel) ⟨Nat.le_of_ble_eq_true rfl, Nat.le_of_ble_eq_true rfl⟩ (HT.recv (ci := 7) hkb hH t_v32 (hO.no t_v32 (by decide)) rfl) rfl rfl hl.1 (Nat.le_of_ble_eq_true rfl) dX3_readTruth_35 ⟨Nat.le_of_ble_eq_true rfl, Nat.le_of_ble_eq_true rfl⟩) (fun u H locs hz9 hH hS => ?_)
            have hz9 : u = (T, O, X) := hz9
            subst hz9
            have hH : HT D cs A T O X H := hH
            refine W.widen (k := 0) (n := 0) (Nat.le_of_ble_eq_true rfl) (Nat.le_of_ble_eq_true rfl) ?_
            refine lv_aload_n hx hb dX3_readTruth_38 rfl (lv_at hl 2 rfl) ?_
            refine t_get (ci := 3) (lst := ft3 0 0) (C := RX3) (F := TX3) (N := 3) hx hb hts uX3 hown hkb hH t_a0 (hO.no t_a0 (by decide)) (fun _ h9 => h9) rfl rfl 2 (by decide) rfl kw_84 (fun _ h9 => h9) dX3_readTruth_39 (fun v9 h9 => ?_)
            obtain ⟨v39, rfl, l_v39, u_v39⟩ := h9
            refine lv_istore (lv' := [(4, .int v39), (3, .int p8_3), (2, .int p8_2), (0, .ref a0), (1, .int x1)]) hx hb dX3_readTruth_42 hl (by decide) rfl (fun ls hl => ?_)
            refine lv_aload_n hx hb dX3_readTruth_44 rfl (lv_at hl 3 rfl) ?_
            refine lv_iconst (v := 4) hx hb dX3_readTruth_45 (by decide) ?_
            refine lv_iconst (v := 0) hx hb dX3_readTruth_46 (by decide) ?_
            refine tk_v hH hS hA (tr_V (n := 2) (As := [.int 4, .int 0]) hx hb hml hown hts hkb hH hOX hks hE hS hA (s_LR_put l D cs kf T O X a0 (4) (0) t_a0 (hO.sub (by decide))) kw_642 kw_644 ks_9 kw_4 kw_645 (by decide +kernel) ⟨Nat.le_of_ble_eq_true rfl, Nat.le_of_ble_eq_true rfl⟩ (HT.recv (ci := 3) hkb hH t_a0 (hO.no t_a0 (by decide)) rfl) rfl rfl hl.1 (Nat.le_of_ble_eq_true rfl) dX3_readTruth_47 ⟨Nat.le_of_ble_eq_true rfl, Nat.le_of_ble_eq_true rfl⟩) (fun u H locs hz9 hH hS => ?_)
            have hz9 : u = (T, O, X) := hz9
            subst hz9
            have hH : HT D cs A T O X H := hH
            refine W.widen (k := 0) (n := 0) (Nat.le_of_ble_eq_true rfl) (Nat.le_of_ble_eq_true rfl) ?_
            refine lv_aload_n hx hb dX3_readTruth_50 rfl (lv_at hl 3 rfl) ?_
            refine lv_iload_n hx hb dX3_readTruth_51 rfl (lv_at hl 4 rfl) ?_
            refine tk_i hH hS hA (tr_V (n := 1) (As := [.int x1]) hx hb hml hown hts hkb hH hOX hks hE hS hA (s_LR_readBoth4 l D cs kf T O X a0 x1 t_a0 (by omega) (by omega) (hO.sub (by decide))) kw_626 kw_628 ks_6 kw_4 kw_629 (by decide +kernel) ⟨Nat.le_of_ble_eq_true rfl, Nat.le_of_ble_eq_true rfl⟩ (HT.recv (ci := 3) hkb hH t_a0 (hO.no t_a0 (by decide)) rfl) rfl rfl hl.1 (Nat.le_of_ble_eq_true rfl) dX3_readTruth_52 ⟨Nat.le_of_ble_eq_true rfl, Nat.le_of_ble_eq_true rfl⟩) (fun v52 u H locs hz9 hH hS => ?_)
            obtain ⟨rfl, l_v52, u_v52⟩ := hz9
            have hH : HT D cs A T O X H := hH
            refine W.widen (k := 0) (n := 0) (Nat.le_of_ble_eq_true rfl) (Nat.le_of_ble_eq_true rfl) ?_
            refine lv_istore_n (lv' := [(2, .int v52), (4, .int v39), (3, .int p8_3), (0, .ref a0), (1, .int x1)]) hx hb dX3_readTruth_55 rfl hl (by decide) rfl (fun ls hl => ?_)
            refine lv_aload_n hx hb dX3_readTruth_56 rfl (lv_at hl 3 rfl) ?_
            refine lv_iload hx hb dX3_readTruth_57 (lv_at hl 1 rfl) ?_
            refine tk_v hH hS hA (tr_V (n := 1) (As := [.int v39]) hx hb hml hown hts hkb hH hOX hks hE hS hA (s_LR_aimSkip l D cs kf T O X a0 v39 t_a0 (hO.sub (by decide))) kw_672 kw_674 ks_14 kw_4 kw_675 (by decide +kernel) ⟨Nat.le_of_ble_eq_true rfl, Nat.le_of_ble_eq_true rfl⟩ (HT.recv (ci := 3) hkb hH t_a0 (hO.no t_a0 (by decide)) rfl) rfl rfl hl.1 (Nat.le_of_ble_eq_true rfl) dX3_readTruth_59 ⟨Nat.le_of_ble_eq_true rfl, Nat.le_of_ble_eq_true rfl⟩) (fun u H locs hz9 hH hS => ?_)
            have hz9 : u = (T, O, X) := hz9
            subst hz9
            have hH : HT D cs A T O X H := hH
            refine W.widen (k := 0) (n := 0) (Nat.le_of_ble_eq_true rfl) (Nat.le_of_ble_eq_true rfl) ?_
            obtain ⟨v62, ev62⟩ : ∃ y : Int32, y = p8_3 + 1 := ⟨_, rfl⟩
            have tv62 : v62.toInt = p8_3.toInt + (1) := by rw [ev62]; exact add_i rfl (by decide) (by omega) (by omega)
            refine lv_iinc (v := v62) (lv' := [(3, .int v62), (2, .int v52), (4, .int v39), (0, .ref a0), (1, .int x1)]) hx hb dX3_readTruth_62 hl (k := 2) rfl (by rw [ev62]; rfl) (by decide) rfl (fun ls hl => ?_)
            refine lv_goto (tgt := 8) hx hb dX3_readTruth_65 (by decide) ?_
            exact ih8 _ (by omega) v62 v52 _ _ _ rfl (by omega) (by omega) (by omega) (by omega) hH hS (lv_sub hl [0, 1, 3, 4] rfl)
  refine lv_istore_n (lv' := [(3, .int 0), (2, .int v2), (0, .ref a0), (1, .int x1)]) hx hb dX3_readTruth_7 rfl hl (by decide) rfl (fun ls hl => ?_)
  exact J8 _ 0 v2 _ _ _ rfl (by decide) (by decide) (by omega) (by omega) hH hS (lv_sub hl [0, 1, 2, 3] rfl)
set_option maxHeartbeats 4000000 in
set_option maxRecDepth 100000 in
theorem s_LR_enter3 (l : Launch) (D : va_G) (cs : CS) (kf : KF) (T : TF) (O : List Nat) (X : va_W) (a0 : Nat) (x1 : Int32) (t_a0 : T a0 = some (13, 0, 0)) (l_x1 : 3 ≤ x1.toInt) (u_x1 : x1.toInt ≤ 3) (hO : okO T O [0, 13, 17]) : TK l D cs kf yX3_enter cX3_enter 2 (some (.boolean)) { frames := 5, cells := 0, slots := 0, locals := 111 } [.ref a0, .int x1] T O X (Ti D cs (fun r u => u = (T, O, X) ∧ 1 ≤ r.toInt ∧ r.toInt ≤ 1)) := by
  refine tk_of (by decide) (Nat.le_of_ble_eq_true rfl) (fun p e s m below meth c ls A H locs hx hb hr hml hown hts hlocks hnm hkb hH hS hA hOX hks hE hl => ?_)
  have hown : s.vm.findClass RX3 = some m.cls := hown
  have hl : lv_has ls 2 [(0, .ref a0), (1, .int x1)] := hl
  refine lv_iload_n hx hb dX3_enter_0 rfl (lv_at hl 1 rfl) ?_
  refine lv_bipush (v := 6) hx hb dX3_enter_1 (by decide) ?_
  refine lv_icmp_lt (tgt := 15) hx hb dX3_enter_3 (by decide) (fun c3 => ?_) (fun c3 => ?_)
  · skip
    have tc3 := f_lt (k := 6) (by decide) c3
    refine lv_aload_n hx hb dX3_enter_15 rfl (lv_at hl 0 rfl) ?_
    refine t_get (ci := 3) (lst := ft3 0 0) (C := RX3) (F := TX3) (N := 3) hx hb hts uX3 hown hkb hH t_a0 (hO.no t_a0 (by decide)) (fun _ h9 => h9) rfl rfl 0 (by decide) rfl kw_82 (fun _ h9 => h9) dX3_enter_16 (fun v9 h9 => ?_)
    obtain ⟨v16, rfl, t_v16⟩ := h9
    refine tk_v hH hS hA (tr_V (n := 0) (As := []) hx hb hml hown hts hkb hH hOX hks hE hS hA (s_Tok_go l D cs kf T O X v16 t_v16 (hO.sub (by decide))) kw_641 kw_453 kw_454 kw_3 kw_455 (by decide +kernel) ⟨Nat.le_of_ble_eq_true rfl, Nat.le_of_ble_eq_true rfl⟩ (HT.recv (ci := 7) hkb hH t_v16 (hO.no t_v16 (by decide)) rfl) rfl rfl hl.1 (Nat.le_of_ble_eq_true rfl) dX3_enter_19 ⟨Nat.le_of_ble_eq_true rfl, Nat.le_of_ble_eq_true rfl⟩) (fun u H locs hz9 hH hS => ?_)
    have hz9 : u = (T, O, X) := hz9
    subst hz9
    have hH : HT D cs A T O X H := hH
    refine W.widen (k := 0) (n := 0) (Nat.le_of_ble_eq_true rfl) (Nat.le_of_ble_eq_true rfl) ?_
    refine lv_iconst (v := 1) hx hb dX3_enter_22 (by decide) ?_
    exact te_z hx hb hr hlocks (by rfl) hH hS (⟨rfl, by decide, by decide⟩) dX3_enter_23
  · skip
    have tc3 := f_nlt (k := 6) (by decide) c3
    exfalso; omega
set_option maxHeartbeats 4000000 in
set_option maxRecDepth 100000 in
theorem s_LR_readAtom3 (l : Launch) (D : va_G) (cs : CS) (kf : KF) (T : TF) (O : List Nat) (X : va_W) (a0 : Nat) (x1 : Int32) (t_a0 : T a0 = some (13, 0, 0)) (l_x1 : 3 ≤ x1.toInt) (u_x1 : x1.toInt ≤ 3) (hO : okO T O [0, 1, 13, 17]) : TK l D cs kf yX3_readAtom cX3_readAtom 3 (some (.boolean)) { frames := 15, cells := 0, slots := 0, locals := 334 } [.ref a0, .int x1] T O X (Ti D cs (fun r u => u = (T, O, X) ∧ 0 ≤ r.toInt ∧ r.toInt ≤ 1)) := by
  refine tk_of (by decide) (Nat.le_of_ble_eq_true rfl) (fun p e s m below meth c ls A H locs hx hb hr hml hown hts hlocks hnm hkb hH hS hA hOX hks hE hl => ?_)
  have hown : s.vm.findClass RX3 = some m.cls := hown
  have hl : lv_has ls 3 [(0, .ref a0), (1, .int x1)] := hl
  refine lv_aload_n hx hb dX3_readAtom_0 rfl (lv_at hl 0 rfl) ?_
  refine t_get (ci := 3) (lst := ft3 0 0) (C := RX3) (F := TX3) (N := 3) hx hb hts uX3 hown hkb hH t_a0 (hO.no t_a0 (by decide)) (fun _ h9 => h9) rfl rfl 0 (by decide) rfl kw_82 (fun _ h9 => h9) dX3_readAtom_1 (fun v9 h9 => ?_)
  obtain ⟨v1, rfl, t_v1⟩ := h9
  refine lv_bipush (v := 40) hx hb dX3_readAtom_4 (by decide) ?_
  refine tk_i hH hS hA (tr_V (n := 1) (As := [.int 40]) hx hb hml hown hts hkb hH hOX hks hE hS hA (s_Tok_isSign l D cs kf T O X v1 (40) t_v1 (hO.sub (by decide))) kw_646 kw_615 kw_616 kw_3 kw_617 (by decide +kernel) ⟨Nat.le_of_ble_eq_true rfl, Nat.le_of_ble_eq_true rfl⟩ (HT.recv (ci := 7) hkb hH t_v1 (hO.no t_v1 (by decide)) rfl) rfl rfl hl.1 (Nat.le_of_ble_eq_true rfl) dX3_readAtom_6 ⟨Nat.le_of_ble_eq_true rfl, Nat.le_of_ble_eq_true rfl⟩) (fun v6 u H locs hz9 hH hS => ?_)
  obtain ⟨rfl, l_v6, u_v6⟩ := hz9
  have hH : HT D cs A T O X H := hH
  refine W.widen (k := 0) (n := 0) (Nat.le_of_ble_eq_true rfl) (Nat.le_of_ble_eq_true rfl) ?_
  refine lv_if_eq (tgt := 48) hx hb dX3_readAtom_9 (by decide) (fun c9 => ?_) (fun c9 => ?_)
  · skip
    have tc9 := f_eq (k := 0) (by decide) c9
    refine lv_aload_n hx hb dX3_readAtom_48 rfl (lv_at hl 0 rfl) ?_
    refine t_get (ci := 3) (lst := ft3 0 0) (C := RX3) (F := TX3) (N := 3) hx hb hts uX3 hown hkb hH t_a0 (hO.no t_a0 (by decide)) (fun _ h9 => h9) rfl rfl 0 (by decide) rfl kw_82 (fun _ h9 => h9) dX3_readAtom_49 (fun v9 h9 => ?_)
    obtain ⟨v49, rfl, t_v49⟩ := h9
    refine t_get (ci := 7) (lst := ft7 0 0) (C := RX7) (F := TX7) (N := 8) hx hb hts uX7 hown hkb hH t_v49 (hO.no t_v49 (by decide)) (fun _ h9 => ob7_ok h9) rfl rfl 4 (by decide) rfl kw_50 (fun _ h9 => h9) dX3_readAtom_52 (fun v9 h9 => ?_)
    obtain ⟨v52, rfl⟩ := h9
    refine lv_iconst (v := 2) hx hb dX3_readAtom_55 (by decide) ?_
    refine lv_icmp_ne (tgt := 80) hx hb dX3_readAtom_56 (by decide) (fun c56 => ?_) (fun c56 => ?_)
    · skip
      have tc56 := f_ne (k := 2) (by decide) c56
      refine lv_aload_n hx hb dX3_readAtom_80 rfl (lv_at hl 0 rfl) ?_
      refine tk_i hH hS hA (tr_V (n := 0) (As := []) hx hb hml hown hts hkb hH hOX hks hE hS hA (s_LR_factHere l D cs kf T O X a0 t_a0 (hO.sub (by decide))) kw_660 kw_662 ks_13 kw_4 kw_663 (by decide +kernel) ⟨Nat.le_of_ble_eq_true rfl, Nat.le_of_ble_eq_true rfl⟩ (HT.recv (ci := 3) hkb hH t_a0 (hO.no t_a0 (by decide)) rfl) rfl rfl hl.1 (Nat.le_of_ble_eq_true rfl) dX3_readAtom_81 ⟨Nat.le_of_ble_eq_true rfl, Nat.le_of_ble_eq_true rfl⟩) (fun v81 u H locs hz9 hH hS => ?_)
      obtain ⟨rfl, l_v81, u_v81⟩ := hz9
      have hH : HT D cs A T O X H := hH
      refine W.widen (k := 0) (n := 0) (Nat.le_of_ble_eq_true rfl) (Nat.le_of_ble_eq_true rfl) ?_
      refine lv_istore_n (lv' := [(2, .int v81), (0, .ref a0), (1, .int x1)]) hx hb dX3_readAtom_84 rfl hl (by decide) rfl (fun ls hl => ?_)
      refine lv_iload_n hx hb dX3_readAtom_85 rfl (lv_at hl 0 rfl) ?_
      refine lv_iconst (v := (-1)) hx hb dX3_readAtom_86 (by decide) ?_
      refine lv_icmp_ne (tgt := 99) hx hb dX3_readAtom_87 (by decide) (fun c87 => ?_) (fun c87 => ?_)
      · skip
        have tc87 := f_ne (k := -1) (by decide) c87
        refine lv_aload_n hx hb dX3_readAtom_99 rfl (lv_at hl 1 rfl) ?_
        refine lv_iconst (v := 1) hx hb dX3_readAtom_100 (by decide) ?_
        refine lv_iload_n hx hb dX3_readAtom_101 rfl (lv_at hl 0 rfl) ?_
        refine tk_v hH hS hA (tr_V (n := 2) (As := [.int 1, .int v81]) hx hb hml hown hts hkb hH hOX hks hE hS hA (s_LR_put l D cs kf T O X a0 (1) v81 t_a0 (hO.sub (by decide))) kw_642 kw_644 ks_9 kw_4 kw_645 (by decide +kernel) ⟨Nat.le_of_ble_eq_true rfl, Nat.le_of_ble_eq_true rfl⟩ (HT.recv (ci := 3) hkb hH t_a0 (hO.no t_a0 (by decide)) rfl) rfl rfl hl.1 (Nat.le_of_ble_eq_true rfl) dX3_readAtom_102 ⟨Nat.le_of_ble_eq_true rfl, Nat.le_of_ble_eq_true rfl⟩) (fun u H locs hz9 hH hS => ?_)
        have hz9 : u = (T, O, X) := hz9
        subst hz9
        have hH : HT D cs A T O X H := hH
        refine W.widen (k := 0) (n := 0) (Nat.le_of_ble_eq_true rfl) (Nat.le_of_ble_eq_true rfl) ?_
        refine lv_aload_n hx hb dX3_readAtom_105 rfl (lv_at hl 1 rfl) ?_
        refine t_get (ci := 3) (lst := ft3 0 0) (C := RX3) (F := TX3) (N := 3) hx hb hts uX3 hown hkb hH t_a0 (hO.no t_a0 (by decide)) (fun _ h9 => h9) rfl rfl 0 (by decide) rfl kw_82 (fun _ h9 => h9) dX3_readAtom_106 (fun v9 h9 => ?_)
        obtain ⟨v106, rfl, t_v106⟩ := h9
        refine tk_v hH hS hA (tr_V (n := 0) (As := []) hx hb hml hown hts hkb hH hOX hks hE hS hA (s_Tok_go l D cs kf T O X v106 t_v106 (hO.sub (by decide))) kw_641 kw_453 kw_454 kw_3 kw_455 (by decide +kernel) ⟨Nat.le_of_ble_eq_true rfl, Nat.le_of_ble_eq_true rfl⟩ (HT.recv (ci := 7) hkb hH t_v106 (hO.no t_v106 (by decide)) rfl) rfl rfl hl.1 (Nat.le_of_ble_eq_true rfl) dX3_readAtom_109 ⟨Nat.le_of_ble_eq_true rfl, Nat.le_of_ble_eq_true rfl⟩) (fun u H locs hz9 hH hS => ?_)
        have hz9 : u = (T, O, X) := hz9
        subst hz9
        have hH : HT D cs A T O X H := hH
        refine W.widen (k := 0) (n := 0) (Nat.le_of_ble_eq_true rfl) (Nat.le_of_ble_eq_true rfl) ?_
        refine lv_iconst (v := 1) hx hb dX3_readAtom_112 (by decide) ?_
        exact te_z hx hb hr hlocks (by rfl) hH hS (⟨rfl, by decide, by decide⟩) dX3_readAtom_113
      · skip
        have tc87 := f_eq (k := -1) (by decide) c87
        refine lv_aload_n hx hb dX3_readAtom_90 rfl (lv_at hl 1 rfl) ?_
        refine t_get (ci := 3) (lst := ft3 0 0) (C := RX3) (F := TX3) (N := 3) hx hb hts uX3 hown hkb hH t_a0 (hO.no t_a0 (by decide)) (fun _ h9 => h9) rfl rfl 0 (by decide) rfl kw_82 (fun _ h9 => h9) dX3_readAtom_91 (fun v9 h9 => ?_)
        obtain ⟨v91, rfl, t_v91⟩ := h9
        refine lv_iconst (v := 2) hx hb dX3_readAtom_94 (by decide) ?_
        refine tk_i hH hS hA (tr_V (n := 1) (As := [.int 2]) hx hb hml hown hts hkb hH hOX hks hE hS hA (s_Tok_refuse l D cs kf T O X v91 (2) t_v91 (hO.sub (by decide))) kw_640 kw_580 kw_581 kw_3 kw_582 (by decide +kernel) ⟨Nat.le_of_ble_eq_true rfl, Nat.le_of_ble_eq_true rfl⟩ (HT.recv (ci := 7) hkb hH t_v91 (hO.no t_v91 (by decide)) rfl) rfl rfl hl.1 (Nat.le_of_ble_eq_true rfl) dX3_readAtom_95 ⟨Nat.le_of_ble_eq_true rfl, Nat.le_of_ble_eq_true rfl⟩) (fun v95 u H locs hz9 hH hS => ?_)
        obtain ⟨rfl, l_v95, u_v95⟩ := hz9
        have hH : HT D cs A T O X H := hH
        refine W.widen (k := 0) (n := 0) (Nat.le_of_ble_eq_true rfl) (Nat.le_of_ble_eq_true rfl) ?_
        exact te_z hx hb hr hlocks (nar01 (by omega) (by omega)) hH hS (⟨rfl, by omega, by omega⟩) dX3_readAtom_98
    · skip
      have tc56 := f_eq (k := 2) (by decide) c56
      refine lv_aload_n hx hb dX3_readAtom_59 rfl (lv_at hl 0 rfl) ?_
      refine lv_iconst (v := 0) hx hb dX3_readAtom_60 (by decide) ?_
      refine lv_aload_n hx hb dX3_readAtom_61 rfl (lv_at hl 0 rfl) ?_
      refine t_get (ci := 3) (lst := ft3 0 0) (C := RX3) (F := TX3) (N := 3) hx hb hts uX3 hown hkb hH t_a0 (hO.no t_a0 (by decide)) (fun _ h9 => h9) rfl rfl 0 (by decide) rfl kw_82 (fun _ h9 => h9) dX3_readAtom_62 (fun v9 h9 => ?_)
      obtain ⟨v62, rfl, t_v62⟩ := h9
      refine t_get (ci := 7) (lst := ft7 0 0) (C := RX7) (F := TX7) (N := 8) hx hb hts uX7 hown hkb hH t_v62 (hO.no t_v62 (by decide)) (fun _ h9 => ob7_ok h9) rfl rfl 5 (by decide) rfl kw_53 (fun _ h9 => h9) dX3_readAtom_65 (fun v9 h9 => ?_)
      obtain ⟨v65, rfl⟩ := h9
      refine tk_v hH hS hA (tr_V (n := 2) (As := [.int 0, .int v65]) hx hb hml hown hts hkb hH hOX hks hE hS hA (s_LR_put l D cs kf T O X a0 (0) v65 t_a0 (hO.sub (by decide))) kw_642 kw_644 ks_9 kw_4 kw_645 (by decide +kernel) ⟨Nat.le_of_ble_eq_true rfl, Nat.le_of_ble_eq_true rfl⟩ (HT.recv (ci := 3) hkb hH t_a0 (hO.no t_a0 (by decide)) rfl) rfl rfl hl.1 (Nat.le_of_ble_eq_true rfl) dX3_readAtom_68 ⟨Nat.le_of_ble_eq_true rfl, Nat.le_of_ble_eq_true rfl⟩) (fun u H locs hz9 hH hS => ?_)
      have hz9 : u = (T, O, X) := hz9
      subst hz9
      have hH : HT D cs A T O X H := hH
      refine W.widen (k := 0) (n := 0) (Nat.le_of_ble_eq_true rfl) (Nat.le_of_ble_eq_true rfl) ?_
      refine lv_aload_n hx hb dX3_readAtom_71 rfl (lv_at hl 0 rfl) ?_
      refine t_get (ci := 3) (lst := ft3 0 0) (C := RX3) (F := TX3) (N := 3) hx hb hts uX3 hown hkb hH t_a0 (hO.no t_a0 (by decide)) (fun _ h9 => h9) rfl rfl 0 (by decide) rfl kw_82 (fun _ h9 => h9) dX3_readAtom_72 (fun v9 h9 => ?_)
      obtain ⟨v72, rfl, t_v72⟩ := h9
      refine tk_v hH hS hA (tr_V (n := 0) (As := []) hx hb hml hown hts hkb hH hOX hks hE hS hA (s_Tok_go l D cs kf T O X v72 t_v72 (hO.sub (by decide))) kw_641 kw_453 kw_454 kw_3 kw_455 (by decide +kernel) ⟨Nat.le_of_ble_eq_true rfl, Nat.le_of_ble_eq_true rfl⟩ (HT.recv (ci := 7) hkb hH t_v72 (hO.no t_v72 (by decide)) rfl) rfl rfl hl.1 (Nat.le_of_ble_eq_true rfl) dX3_readAtom_75 ⟨Nat.le_of_ble_eq_true rfl, Nat.le_of_ble_eq_true rfl⟩) (fun u H locs hz9 hH hS => ?_)
      have hz9 : u = (T, O, X) := hz9
      subst hz9
      have hH : HT D cs A T O X H := hH
      refine W.widen (k := 0) (n := 0) (Nat.le_of_ble_eq_true rfl) (Nat.le_of_ble_eq_true rfl) ?_
      refine lv_iconst (v := 1) hx hb dX3_readAtom_78 (by decide) ?_
      exact te_z hx hb hr hlocks (by rfl) hH hS (⟨rfl, by decide, by decide⟩) dX3_readAtom_79
  · skip
    have tc9 := f_ne (k := 0) (by decide) c9
    refine lv_aload_n hx hb dX3_readAtom_12 rfl (lv_at hl 0 rfl) ?_
    refine lv_iload_n hx hb dX3_readAtom_13 rfl (lv_at hl 1 rfl) ?_
    refine tk_i hH hS hA (tr_V (n := 1) (As := [.int x1]) hx hb hml hown hts hkb hH hOX hks hE hS hA (s_LR_enter3 l D cs kf T O X a0 x1 t_a0 (by omega) (by omega) (hO.sub (by decide))) kw_636 kw_638 ks_8 kw_4 kw_639 (by decide +kernel) ⟨Nat.le_of_ble_eq_true rfl, Nat.le_of_ble_eq_true rfl⟩ (HT.recv (ci := 3) hkb hH t_a0 (hO.no t_a0 (by decide)) rfl) rfl rfl hl.1 (Nat.le_of_ble_eq_true rfl) dX3_readAtom_14 ⟨Nat.le_of_ble_eq_true rfl, Nat.le_of_ble_eq_true rfl⟩) (fun v14 u H locs hz9 hH hS => ?_)
    obtain ⟨rfl, l_v14, u_v14⟩ := hz9
    have hH : HT D cs A T O X H := hH
    refine W.widen (k := 0) (n := 0) (Nat.le_of_ble_eq_true rfl) (Nat.le_of_ble_eq_true rfl) ?_
    refine lv_if_eq (tgt := 46) hx hb dX3_readAtom_17 (by decide) (fun c17 => ?_) (fun c17 => ?_)
    · skip
      have tc17 := f_eq (k := 0) (by decide) c17
      exfalso; omega
    · skip
      have tc17 := f_ne (k := 0) (by decide) c17
      refine lv_aload_n hx hb dX3_readAtom_20 rfl (lv_at hl 0 rfl) ?_
      refine lv_iload_n hx hb dX3_readAtom_21 rfl (lv_at hl 1 rfl) ?_
      refine lv_iconst (v := 1) hx hb dX3_readAtom_22 (by decide) ?_
      refine lv_iadd hx hb dX3_readAtom_23 ?_
      refine lv_topi (fun v23 ev23 => ?_)
      have tv23 : v23.toInt = x1.toInt + (1) := by rw [ev23]; exact add_i rfl (by decide : (1 : Int32).toInt = 1) (by omega) (by omega)
      refine tk_i hH hS hA (tr_V (n := 1) (As := [.int v23]) hx hb hml hown hts hkb hH hOX hks hE hS hA (s_LR_readSum4 l D cs kf T O X a0 v23 t_a0 (by omega) (by omega) (hO.sub (by decide))) kw_648 kw_650 ks_10 kw_4 kw_651 (by decide +kernel) ⟨Nat.le_of_ble_eq_true rfl, Nat.le_of_ble_eq_true rfl⟩ (HT.recv (ci := 3) hkb hH t_a0 (hO.no t_a0 (by decide)) rfl) rfl rfl hl.1 (Nat.le_of_ble_eq_true rfl) dX3_readAtom_24 ⟨Nat.le_of_ble_eq_true rfl, Nat.le_of_ble_eq_true rfl⟩) (fun v24 u H locs hz9 hH hS => ?_)
      obtain ⟨rfl, l_v24, u_v24⟩ := hz9
      have hH : HT D cs A T O X H := hH
      refine W.widen (k := 0) (n := 0) (Nat.le_of_ble_eq_true rfl) (Nat.le_of_ble_eq_true rfl) ?_
      have J47 : ∀ (k47_0 : Int32) (H : Heap) (locs : List Loc) (ls : Array Slot), (0 ≤ k47_0.toInt) → (k47_0.toInt ≤ 1) → HT D cs A T O X H → va_S A s.heap H locs → lv_has ls 3 [] → W p l e { frames := 15, cells := 0, slots := 0, locals := 334 } s m [.ref a0, .int x1].toArray below meth c H locs 0 0 (MQ below (Ti D cs (fun r u => u = (T, O, X) ∧ 0 ≤ r.toInt ∧ r.toInt ≤ 1) A) [.ref a0, .int x1].toArray s 0 0 A) (F0 m 47 ls [.int k47_0]) := by
        intro k47_0 H locs ls l_k47_0 u_k47_0 hH hS hl
        exact te_z hx hb hr hlocks (nar01 (by omega) (by omega)) hH hS (⟨rfl, by omega, by omega⟩) dX3_readAtom_47
      have J46 : ∀  (H : Heap) (locs : List Loc) (ls : Array Slot), HT D cs A T O X H → va_S A s.heap H locs → lv_has ls 3 [] → W p l e { frames := 15, cells := 0, slots := 0, locals := 334 } s m [.ref a0, .int x1].toArray below meth c H locs 0 0 (MQ below (Ti D cs (fun r u => u = (T, O, X) ∧ 0 ≤ r.toInt ∧ r.toInt ≤ 1) A) [.ref a0, .int x1].toArray s 0 0 A) (F0 m 46 ls []) := by
        intro  H locs ls  hH hS hl
        refine lv_iconst (v := 0) hx hb dX3_readAtom_46 (by decide) ?_
        exact J47 0 _ _ _ (by decide) (by decide) hH hS (lv_sub hl [] rfl)
      refine lv_if_eq (tgt := 46) hx hb dX3_readAtom_27 (by decide) (fun c27 => ?_) (fun c27 => ?_)
      · skip
        have tc27 := f_eq (k := 0) (by decide) c27
        exact J46  _ _ _  hH hS (lv_sub hl [] rfl)
      · skip
        have tc27 := f_ne (k := 0) (by decide) c27
        refine lv_aload_n hx hb dX3_readAtom_30 rfl (lv_at hl 0 rfl) ?_
        refine t_get (ci := 3) (lst := ft3 0 0) (C := RX3) (F := TX3) (N := 3) hx hb hts uX3 hown hkb hH t_a0 (hO.no t_a0 (by decide)) (fun _ h9 => h9) rfl rfl 0 (by decide) rfl kw_82 (fun _ h9 => h9) dX3_readAtom_31 (fun v9 h9 => ?_)
        obtain ⟨v31, rfl, t_v31⟩ := h9
        refine lv_bipush (v := 41) hx hb dX3_readAtom_34 (by decide) ?_
        refine tk_i hH hS hA (tr_V (n := 1) (As := [.int 41]) hx hb hml hown hts hkb hH hOX hks hE hS hA (s_Tok_takeSign l D cs kf T O X v31 (41) t_v31 (hO.sub (by decide))) kw_647 kw_611 kw_612 kw_3 kw_613 (by decide +kernel) ⟨Nat.le_of_ble_eq_true rfl, Nat.le_of_ble_eq_true rfl⟩ (HT.recv (ci := 7) hkb hH t_v31 (hO.no t_v31 (by decide)) rfl) rfl rfl hl.1 (Nat.le_of_ble_eq_true rfl) dX3_readAtom_36 ⟨Nat.le_of_ble_eq_true rfl, Nat.le_of_ble_eq_true rfl⟩) (fun v36 u H locs hz9 hH hS => ?_)
        obtain ⟨rfl, l_v36, u_v36⟩ := hz9
        have hH : HT D cs A T O X H := hH
        refine W.widen (k := 0) (n := 0) (Nat.le_of_ble_eq_true rfl) (Nat.le_of_ble_eq_true rfl) ?_
        refine lv_if_eq (tgt := 46) hx hb dX3_readAtom_39 (by decide) (fun c39 => ?_) (fun c39 => ?_)
        · skip
          have tc39 := f_eq (k := 0) (by decide) c39
          exact J46  _ _ _  hH hS (lv_sub hl [] rfl)
        · skip
          have tc39 := f_ne (k := 0) (by decide) c39
          refine lv_iconst (v := 1) hx hb dX3_readAtom_42 (by decide) ?_
          refine lv_goto (tgt := 47) hx hb dX3_readAtom_43 (by decide) ?_
          exact J47 1 _ _ _ (by decide) (by decide) hH hS (lv_sub hl [] rfl)
set_option maxHeartbeats 4000000 in
set_option maxRecDepth 100000 in
theorem s_LR_readTerm3 (l : Launch) (D : va_G) (cs : CS) (kf : KF) (T : TF) (O : List Nat) (X : va_W) (a0 : Nat) (x1 : Int32) (t_a0 : T a0 = some (13, 0, 0)) (l_x1 : 3 ≤ x1.toInt) (u_x1 : x1.toInt ≤ 3) (hO : okO T O [0, 1, 13, 17]) : TK l D cs kf yX3_readTerm cX3_readTerm 4 (some (.boolean)) { frames := 16, cells := 0, slots := 0, locals := 356 } [.ref a0, .int x1] T O X (Ti D cs (fun r u => u = (T, O, X) ∧ 0 ≤ r.toInt ∧ r.toInt ≤ 1)) := by
  refine tk_of (by decide) (Nat.le_of_ble_eq_true rfl) (fun p e s m below meth c ls A H locs hx hb hr hml hown hts hlocks hnm hkb hH hS hA hOX hks hE hl => ?_)
  have hown : s.vm.findClass RX3 = some m.cls := hown
  have hl : lv_has ls 4 [(0, .ref a0), (1, .int x1)] := hl
  refine lv_aload_n hx hb dX3_readTerm_0 rfl (lv_at hl 0 rfl) ?_
  refine lv_iload_n hx hb dX3_readTerm_1 rfl (lv_at hl 1 rfl) ?_
  refine tk_i hH hS hA (tr_V (n := 1) (As := [.int x1]) hx hb hml hown hts hkb hH hOX hks hE hS hA (s_LR_readAtom3 l D cs kf T O X a0 x1 t_a0 (by omega) (by omega) (hO.sub (by decide))) kw_656 kw_658 ks_12 kw_4 kw_659 (by decide +kernel) ⟨Nat.le_of_ble_eq_true rfl, Nat.le_of_ble_eq_true rfl⟩ (HT.recv (ci := 3) hkb hH t_a0 (hO.no t_a0 (by decide)) rfl) rfl rfl hl.1 (Nat.le_of_ble_eq_true rfl) dX3_readTerm_2 ⟨Nat.le_of_ble_eq_true rfl, Nat.le_of_ble_eq_true rfl⟩) (fun v2 u H locs hz9 hH hS => ?_)
  obtain ⟨rfl, l_v2, u_v2⟩ := hz9
  have hH : HT D cs A T O X H := hH
  refine W.widen (k := 0) (n := 0) (Nat.le_of_ble_eq_true rfl) (Nat.le_of_ble_eq_true rfl) ?_
  refine lv_istore_n (lv' := [(2, .int v2), (0, .ref a0), (1, .int x1)]) hx hb dX3_readTerm_5 rfl hl (by decide) rfl (fun ls hl => ?_)
  refine lv_iconst (v := 0) hx hb dX3_readTerm_6 (by decide) ?_
  have J8 : ∀ (n : Nat) (p8_3 : Int32) (p8_2 : Int32) (H : Heap) (locs : List Loc) (ls : Array Slot), (900 - p8_3.toInt).toNat = n → (0 ≤ p8_3.toInt) → (p8_3.toInt ≤ 900) → (0 ≤ p8_2.toInt) → (p8_2.toInt ≤ 1) → HT D cs A T O X H → va_S A s.heap H locs → lv_has ls 4 [(3, .int p8_3), (2, .int p8_2), (0, .ref a0), (1, .int x1)] → W p l e { frames := 16, cells := 0, slots := 0, locals := 356 } s m [.ref a0, .int x1].toArray below meth c H locs 0 0 (MQ below (Ti D cs (fun r u => u = (T, O, X) ∧ 0 ≤ r.toInt ∧ r.toInt ≤ 1) A) [.ref a0, .int x1].toArray s 0 0 A) (F0 m 8 ls []) := by
    intro n
    induction n using Nat.strongRecOn with
    | _ n ih8 =>
      intro p8_3 p8_2 H locs ls hm8 l_p8_3 u_p8_3 l_p8_2 u_p8_2 hH hS hl
      refine lv_iload_n hx hb dX3_readTerm_8 rfl (lv_at hl 0 rfl) ?_
      refine lv_sipush (v := 900) hx hb dX3_readTerm_9 (by decide) ?_
      have J57 : ∀  (H : Heap) (locs : List Loc) (ls : Array Slot), HT D cs A T O X H → va_S A s.heap H locs → lv_has ls 4 [(2, .int p8_2)] → W p l e { frames := 16, cells := 0, slots := 0, locals := 356 } s m [.ref a0, .int x1].toArray below meth c H locs 0 0 (MQ below (Ti D cs (fun r u => u = (T, O, X) ∧ 0 ≤ r.toInt ∧ r.toInt ≤ 1) A) [.ref a0, .int x1].toArray s 0 0 A) (F0 m 57 ls []) := by
        intro  H locs ls  hH hS hl
        refine lv_iload_n hx hb dX3_readTerm_57 rfl (lv_at hl 0 rfl) ?_
        exact te_z hx hb hr hlocks (nar01 (by omega) (by omega)) hH hS (⟨rfl, by omega, by omega⟩) dX3_readTerm_58
      refine lv_icmp_ge (tgt := 57) hx hb dX3_readTerm_12 (by decide) (fun c12 => ?_) (fun c12 => ?_)
      · skip
        have tc12 := f_ge (k := 900) (by decide) c12
        exact J57  _ _ _  hH hS (lv_sub hl [1] rfl)
      · skip
        have tc12 := f_nge (k := 900) (by decide) c12
        refine lv_iload_n hx hb dX3_readTerm_15 rfl (lv_at hl 1 rfl) ?_
        refine lv_if_eq (tgt := 57) hx hb dX3_readTerm_16 (by decide) (fun c16 => ?_) (fun c16 => ?_)
        · skip
          have tc16 := f_eq (k := 0) (by decide) c16
          exact J57  _ _ _  hH hS (lv_sub hl [1] rfl)
        · skip
          have tc16 := f_ne (k := 0) (by decide) c16
          refine lv_aload_n hx hb dX3_readTerm_19 rfl (lv_at hl 2 rfl) ?_
          refine t_get (ci := 3) (lst := ft3 0 0) (C := RX3) (F := TX3) (N := 3) hx hb hts uX3 hown hkb hH t_a0 (hO.no t_a0 (by decide)) (fun _ h9 => h9) rfl rfl 0 (by decide) rfl kw_82 (fun _ h9 => h9) dX3_readTerm_20 (fun v9 h9 => ?_)
          obtain ⟨v20, rfl, t_v20⟩ := h9
          refine lv_bipush (v := 42) hx hb dX3_readTerm_23 (by decide) ?_
          refine tk_i hH hS hA (tr_V (n := 1) (As := [.int 42]) hx hb hml hown hts hkb hH hOX hks hE hS hA (s_Tok_isSign l D cs kf T O X v20 (42) t_v20 (hO.sub (by decide))) kw_646 kw_615 kw_616 kw_3 kw_617 (by decide +kernel) ⟨Nat.le_of_ble_eq_true rfl, Nat.le_of_ble_eq_true rfl⟩ (HT.recv (ci := 7) hkb hH t_v20 (hO.no t_v20 (by decide)) rfl) rfl rfl hl.1 (Nat.le_of_ble_eq_true rfl) dX3_readTerm_25 ⟨Nat.le_of_ble_eq_true rfl, Nat.le_of_ble_eq_true rfl⟩) (fun v25 u H locs hz9 hH hS => ?_)
          obtain ⟨rfl, l_v25, u_v25⟩ := hz9
          have hH : HT D cs A T O X H := hH
          refine W.widen (k := 0) (n := 0) (Nat.le_of_ble_eq_true rfl) (Nat.le_of_ble_eq_true rfl) ?_
          refine lv_if_eq (tgt := 57) hx hb dX3_readTerm_28 (by decide) (fun c28 => ?_) (fun c28 => ?_)
          · skip
            have tc28 := f_eq (k := 0) (by decide) c28
            exact J57  _ _ _  hH hS (lv_sub hl [1] rfl)
          · skip
            have tc28 := f_ne (k := 0) (by decide) c28
            refine lv_aload_n hx hb dX3_readTerm_31 rfl (lv_at hl 2 rfl) ?_
            refine t_get (ci := 3) (lst := ft3 0 0) (C := RX3) (F := TX3) (N := 3) hx hb hts uX3 hown hkb hH t_a0 (hO.no t_a0 (by decide)) (fun _ h9 => h9) rfl rfl 0 (by decide) rfl kw_82 (fun _ h9 => h9) dX3_readTerm_32 (fun v9 h9 => ?_)
            obtain ⟨v32, rfl, t_v32⟩ := h9
            refine tk_v hH hS hA (tr_V (n := 0) (As := []) hx hb hml hown hts hkb hH hOX hks hE hS hA (s_Tok_go l D cs kf T O X v32 t_v32 (hO.sub (by decide))) kw_641 kw_453 kw_454 kw_3 kw_455 (by decide +kernel) ⟨Nat.le_of_ble_eq_true rfl, Nat.le_of_ble_eq_true rfl⟩ (HT.recv (ci := 7) hkb hH t_v32 (hO.no t_v32 (by decide)) rfl) rfl rfl hl.1 (Nat.le_of_ble_eq_true rfl) dX3_readTerm_35 ⟨Nat.le_of_ble_eq_true rfl, Nat.le_of_ble_eq_true rfl⟩) (fun u H locs hz9 hH hS => ?_)
            have hz9 : u = (T, O, X) := hz9
            subst hz9
            have hH : HT D cs A T O X H := hH
            refine W.widen (k := 0) (n := 0) (Nat.le_of_ble_eq_true rfl) (Nat.le_of_ble_eq_true rfl) ?_
            refine lv_aload_n hx hb dX3_readTerm_38 rfl (lv_at hl 2 rfl) ?_
            refine lv_iload_n hx hb dX3_readTerm_39 rfl (lv_at hl 3 rfl) ?_
            refine tk_i hH hS hA (tr_V (n := 1) (As := [.int x1]) hx hb hml hown hts hkb hH hOX hks hE hS hA (s_LR_readAtom3 l D cs kf T O X a0 x1 t_a0 (by omega) (by omega) (hO.sub (by decide))) kw_656 kw_658 ks_12 kw_4 kw_659 (by decide +kernel) ⟨Nat.le_of_ble_eq_true rfl, Nat.le_of_ble_eq_true rfl⟩ (HT.recv (ci := 3) hkb hH t_a0 (hO.no t_a0 (by decide)) rfl) rfl rfl hl.1 (Nat.le_of_ble_eq_true rfl) dX3_readTerm_40 ⟨Nat.le_of_ble_eq_true rfl, Nat.le_of_ble_eq_true rfl⟩) (fun v40 u H locs hz9 hH hS => ?_)
            obtain ⟨rfl, l_v40, u_v40⟩ := hz9
            have hH : HT D cs A T O X H := hH
            refine W.widen (k := 0) (n := 0) (Nat.le_of_ble_eq_true rfl) (Nat.le_of_ble_eq_true rfl) ?_
            refine lv_istore_n (lv' := [(2, .int v40), (3, .int p8_3), (0, .ref a0), (1, .int x1)]) hx hb dX3_readTerm_43 rfl hl (by decide) rfl (fun ls hl => ?_)
            refine lv_aload_n hx hb dX3_readTerm_44 rfl (lv_at hl 2 rfl) ?_
            refine lv_bipush (v := 7) hx hb dX3_readTerm_45 (by decide) ?_
            refine lv_iconst (v := 0) hx hb dX3_readTerm_47 (by decide) ?_
            refine tk_v hH hS hA (tr_V (n := 2) (As := [.int 7, .int 0]) hx hb hml hown hts hkb hH hOX hks hE hS hA (s_LR_put l D cs kf T O X a0 (7) (0) t_a0 (hO.sub (by decide))) kw_642 kw_644 ks_9 kw_4 kw_645 (by decide +kernel) ⟨Nat.le_of_ble_eq_true rfl, Nat.le_of_ble_eq_true rfl⟩ (HT.recv (ci := 3) hkb hH t_a0 (hO.no t_a0 (by decide)) rfl) rfl rfl hl.1 (Nat.le_of_ble_eq_true rfl) dX3_readTerm_48 ⟨Nat.le_of_ble_eq_true rfl, Nat.le_of_ble_eq_true rfl⟩) (fun u H locs hz9 hH hS => ?_)
            have hz9 : u = (T, O, X) := hz9
            subst hz9
            have hH : HT D cs A T O X H := hH
            refine W.widen (k := 0) (n := 0) (Nat.le_of_ble_eq_true rfl) (Nat.le_of_ble_eq_true rfl) ?_
            obtain ⟨v51, ev51⟩ : ∃ y : Int32, y = p8_3 + 1 := ⟨_, rfl⟩
            have tv51 : v51.toInt = p8_3.toInt + (1) := by rw [ev51]; exact add_i rfl (by decide) (by omega) (by omega)
            refine lv_iinc (v := v51) (lv' := [(3, .int v51), (2, .int v40), (0, .ref a0), (1, .int x1)]) hx hb dX3_readTerm_51 hl (k := 1) rfl (by rw [ev51]; rfl) (by decide) rfl (fun ls hl => ?_)
            refine lv_goto (tgt := 8) hx hb dX3_readTerm_54 (by decide) ?_
            exact ih8 _ (by omega) v51 v40 _ _ _ rfl (by omega) (by omega) (by omega) (by omega) hH hS (lv_sub hl [0, 1, 2, 3] rfl)
  refine lv_istore_n (lv' := [(3, .int 0), (2, .int v2), (0, .ref a0), (1, .int x1)]) hx hb dX3_readTerm_7 rfl hl (by decide) rfl (fun ls hl => ?_)
  exact J8 _ 0 v2 _ _ _ rfl (by decide) (by decide) (by omega) (by omega) hH hS (lv_sub hl [0, 1, 2, 3] rfl)
set_option maxHeartbeats 4000000 in
set_option maxRecDepth 100000 in
theorem s_LR_readSum3 (l : Launch) (D : va_G) (cs : CS) (kf : KF) (T : TF) (O : List Nat) (X : va_W) (a0 : Nat) (x1 : Int32) (t_a0 : T a0 = some (13, 0, 0)) (l_x1 : 3 ≤ x1.toInt) (u_x1 : x1.toInt ≤ 3) (hO : okO T O [0, 1, 13, 17]) : TK l D cs kf yX3_readSum cX3_readSum 5 (some (.boolean)) { frames := 17, cells := 0, slots := 0, locals := 379 } [.ref a0, .int x1] T O X (Ti D cs (fun r u => u = (T, O, X) ∧ 0 ≤ r.toInt ∧ r.toInt ≤ 1)) := by
  refine tk_of (by decide) (Nat.le_of_ble_eq_true rfl) (fun p e s m below meth c ls A H locs hx hb hr hml hown hts hlocks hnm hkb hH hS hA hOX hks hE hl => ?_)
  have hown : s.vm.findClass RX3 = some m.cls := hown
  have hl : lv_has ls 5 [(0, .ref a0), (1, .int x1)] := hl
  refine lv_aload_n hx hb dX3_readSum_0 rfl (lv_at hl 0 rfl) ?_
  refine lv_iload_n hx hb dX3_readSum_1 rfl (lv_at hl 1 rfl) ?_
  refine tk_i hH hS hA (tr_V (n := 1) (As := [.int x1]) hx hb hml hown hts hkb hH hOX hks hE hS hA (s_LR_readTerm3 l D cs kf T O X a0 x1 t_a0 (by omega) (by omega) (hO.sub (by decide))) kw_652 kw_654 ks_11 kw_4 kw_655 (by decide +kernel) ⟨Nat.le_of_ble_eq_true rfl, Nat.le_of_ble_eq_true rfl⟩ (HT.recv (ci := 3) hkb hH t_a0 (hO.no t_a0 (by decide)) rfl) rfl rfl hl.1 (Nat.le_of_ble_eq_true rfl) dX3_readSum_2 ⟨Nat.le_of_ble_eq_true rfl, Nat.le_of_ble_eq_true rfl⟩) (fun v2 u H locs hz9 hH hS => ?_)
  obtain ⟨rfl, l_v2, u_v2⟩ := hz9
  have hH : HT D cs A T O X H := hH
  refine W.widen (k := 0) (n := 0) (Nat.le_of_ble_eq_true rfl) (Nat.le_of_ble_eq_true rfl) ?_
  refine lv_istore_n (lv' := [(2, .int v2), (0, .ref a0), (1, .int x1)]) hx hb dX3_readSum_5 rfl hl (by decide) rfl (fun ls hl => ?_)
  refine lv_iconst (v := 0) hx hb dX3_readSum_6 (by decide) ?_
  have J8 : ∀ (n : Nat) (p8_3 : Int32) (p8_2 : Int32) (H : Heap) (locs : List Loc) (ls : Array Slot), (900 - p8_3.toInt).toNat = n → (0 ≤ p8_3.toInt) → (p8_3.toInt ≤ 900) → (0 ≤ p8_2.toInt) → (p8_2.toInt ≤ 1) → HT D cs A T O X H → va_S A s.heap H locs → lv_has ls 5 [(3, .int p8_3), (2, .int p8_2), (0, .ref a0), (1, .int x1)] → W p l e { frames := 17, cells := 0, slots := 0, locals := 379 } s m [.ref a0, .int x1].toArray below meth c H locs 0 0 (MQ below (Ti D cs (fun r u => u = (T, O, X) ∧ 0 ≤ r.toInt ∧ r.toInt ≤ 1) A) [.ref a0, .int x1].toArray s 0 0 A) (F0 m 8 ls []) := by
    intro n
    induction n using Nat.strongRecOn with
    | _ n ih8 =>
      intro p8_3 p8_2 H locs ls hm8 l_p8_3 u_p8_3 l_p8_2 u_p8_2 hH hS hl
      refine lv_iload_n hx hb dX3_readSum_8 rfl (lv_at hl 0 rfl) ?_
      refine lv_sipush (v := 900) hx hb dX3_readSum_9 (by decide) ?_
      have J89 : ∀  (H : Heap) (locs : List Loc) (ls : Array Slot), HT D cs A T O X H → va_S A s.heap H locs → lv_has ls 5 [(2, .int p8_2)] → W p l e { frames := 17, cells := 0, slots := 0, locals := 379 } s m [.ref a0, .int x1].toArray below meth c H locs 0 0 (MQ below (Ti D cs (fun r u => u = (T, O, X) ∧ 0 ≤ r.toInt ∧ r.toInt ≤ 1) A) [.ref a0, .int x1].toArray s 0 0 A) (F0 m 89 ls []) := by
        intro  H locs ls  hH hS hl
        refine lv_iload_n hx hb dX3_readSum_89 rfl (lv_at hl 0 rfl) ?_
        exact te_z hx hb hr hlocks (nar01 (by omega) (by omega)) hH hS (⟨rfl, by omega, by omega⟩) dX3_readSum_90
      refine lv_icmp_ge (tgt := 89) hx hb dX3_readSum_12 (by decide) (fun c12 => ?_) (fun c12 => ?_)
      · skip
        have tc12 := f_ge (k := 900) (by decide) c12
        exact J89  _ _ _  hH hS (lv_sub hl [1] rfl)
      · skip
        have tc12 := f_nge (k := 900) (by decide) c12
        refine lv_iload_n hx hb dX3_readSum_15 rfl (lv_at hl 1 rfl) ?_
        refine lv_if_eq (tgt := 89) hx hb dX3_readSum_16 (by decide) (fun c16 => ?_) (fun c16 => ?_)
        · skip
          have tc16 := f_eq (k := 0) (by decide) c16
          exact J89  _ _ _  hH hS (lv_sub hl [1] rfl)
        · skip
          have tc16 := f_ne (k := 0) (by decide) c16
          refine lv_aload_n hx hb dX3_readSum_19 rfl (lv_at hl 2 rfl) ?_
          refine t_get (ci := 3) (lst := ft3 0 0) (C := RX3) (F := TX3) (N := 3) hx hb hts uX3 hown hkb hH t_a0 (hO.no t_a0 (by decide)) (fun _ h9 => h9) rfl rfl 0 (by decide) rfl kw_82 (fun _ h9 => h9) dX3_readSum_20 (fun v9 h9 => ?_)
          obtain ⟨v20, rfl, t_v20⟩ := h9
          refine lv_bipush (v := 43) hx hb dX3_readSum_23 (by decide) ?_
          refine tk_i hH hS hA (tr_V (n := 1) (As := [.int 43]) hx hb hml hown hts hkb hH hOX hks hE hS hA (s_Tok_isSign l D cs kf T O X v20 (43) t_v20 (hO.sub (by decide))) kw_646 kw_615 kw_616 kw_3 kw_617 (by decide +kernel) ⟨Nat.le_of_ble_eq_true rfl, Nat.le_of_ble_eq_true rfl⟩ (HT.recv (ci := 7) hkb hH t_v20 (hO.no t_v20 (by decide)) rfl) rfl rfl hl.1 (Nat.le_of_ble_eq_true rfl) dX3_readSum_25 ⟨Nat.le_of_ble_eq_true rfl, Nat.le_of_ble_eq_true rfl⟩) (fun v25 u H locs hz9 hH hS => ?_)
          obtain ⟨rfl, l_v25, u_v25⟩ := hz9
          have hH : HT D cs A T O X H := hH
          refine W.widen (k := 0) (n := 0) (Nat.le_of_ble_eq_true rfl) (Nat.le_of_ble_eq_true rfl) ?_
          have J43 : ∀  (H : Heap) (locs : List Loc) (ls : Array Slot), HT D cs A T O X H → va_S A s.heap H locs → lv_has ls 5 [(3, .int p8_3), (0, .ref a0), (1, .int x1)] → W p l e { frames := 17, cells := 0, slots := 0, locals := 379 } s m [.ref a0, .int x1].toArray below meth c H locs 0 0 (MQ below (Ti D cs (fun r u => u = (T, O, X) ∧ 0 ≤ r.toInt ∧ r.toInt ≤ 1) A) [.ref a0, .int x1].toArray s 0 0 A) (F0 m 43 ls []) := by
            intro  H locs ls  hH hS hl
            refine lv_aload_n hx hb dX3_readSum_43 rfl (lv_at hl 1 rfl) ?_
            refine t_get (ci := 3) (lst := ft3 0 0) (C := RX3) (F := TX3) (N := 3) hx hb hts uX3 hown hkb hH t_a0 (hO.no t_a0 (by decide)) (fun _ h9 => h9) rfl rfl 0 (by decide) rfl kw_82 (fun _ h9 => h9) dX3_readSum_44 (fun v9 h9 => ?_)
            obtain ⟨v44, rfl, t_v44⟩ := h9
            refine lv_bipush (v := 43) hx hb dX3_readSum_47 (by decide) ?_
            refine tk_i hH hS hA (tr_V (n := 1) (As := [.int 43]) hx hb hml hown hts hkb hH hOX hks hE hS hA (s_Tok_isSign l D cs kf T O X v44 (43) t_v44 (hO.sub (by decide))) kw_646 kw_615 kw_616 kw_3 kw_617 (by decide +kernel) ⟨Nat.le_of_ble_eq_true rfl, Nat.le_of_ble_eq_true rfl⟩ (HT.recv (ci := 7) hkb hH t_v44 (hO.no t_v44 (by decide)) rfl) rfl rfl hl.1 (Nat.le_of_ble_eq_true rfl) dX3_readSum_49 ⟨Nat.le_of_ble_eq_true rfl, Nat.le_of_ble_eq_true rfl⟩) (fun v49 u H locs hz9 hH hS => ?_)
            obtain ⟨rfl, l_v49, u_v49⟩ := hz9
            have hH : HT D cs A T O X H := hH
            refine W.widen (k := 0) (n := 0) (Nat.le_of_ble_eq_true rfl) (Nat.le_of_ble_eq_true rfl) ?_
            have J61 : ∀ (k61_0 : Int32) (H : Heap) (locs : List Loc) (ls : Array Slot), (5 ≤ k61_0.toInt) → (k61_0.toInt ≤ 6) → HT D cs A T O X H → va_S A s.heap H locs → lv_has ls 5 [(3, .int p8_3), (0, .ref a0), (1, .int x1)] → W p l e { frames := 17, cells := 0, slots := 0, locals := 379 } s m [.ref a0, .int x1].toArray below meth c H locs 0 0 (MQ below (Ti D cs (fun r u => u = (T, O, X) ∧ 0 ≤ r.toInt ∧ r.toInt ≤ 1) A) [.ref a0, .int x1].toArray s 0 0 A) (F0 m 61 ls [.int k61_0]) := by
              intro k61_0 H locs ls l_k61_0 u_k61_0 hH hS hl
              refine lv_istore (lv' := [(4, .int k61_0), (3, .int p8_3), (0, .ref a0), (1, .int x1)]) hx hb dX3_readSum_61 hl (by decide) rfl (fun ls hl => ?_)
              refine lv_aload_n hx hb dX3_readSum_63 rfl (lv_at hl 2 rfl) ?_
              refine t_get (ci := 3) (lst := ft3 0 0) (C := RX3) (F := TX3) (N := 3) hx hb hts uX3 hown hkb hH t_a0 (hO.no t_a0 (by decide)) (fun _ h9 => h9) rfl rfl 0 (by decide) rfl kw_82 (fun _ h9 => h9) dX3_readSum_64 (fun v9 h9 => ?_)
              obtain ⟨v64, rfl, t_v64⟩ := h9
              refine tk_v hH hS hA (tr_V (n := 0) (As := []) hx hb hml hown hts hkb hH hOX hks hE hS hA (s_Tok_go l D cs kf T O X v64 t_v64 (hO.sub (by decide))) kw_641 kw_453 kw_454 kw_3 kw_455 (by decide +kernel) ⟨Nat.le_of_ble_eq_true rfl, Nat.le_of_ble_eq_true rfl⟩ (HT.recv (ci := 7) hkb hH t_v64 (hO.no t_v64 (by decide)) rfl) rfl rfl hl.1 (Nat.le_of_ble_eq_true rfl) dX3_readSum_67 ⟨Nat.le_of_ble_eq_true rfl, Nat.le_of_ble_eq_true rfl⟩) (fun u H locs hz9 hH hS => ?_)
              have hz9 : u = (T, O, X) := hz9
              subst hz9
              have hH : HT D cs A T O X H := hH
              refine W.widen (k := 0) (n := 0) (Nat.le_of_ble_eq_true rfl) (Nat.le_of_ble_eq_true rfl) ?_
              refine lv_aload_n hx hb dX3_readSum_70 rfl (lv_at hl 2 rfl) ?_
              refine lv_iload_n hx hb dX3_readSum_71 rfl (lv_at hl 3 rfl) ?_
              refine tk_i hH hS hA (tr_V (n := 1) (As := [.int x1]) hx hb hml hown hts hkb hH hOX hks hE hS hA (s_LR_readTerm3 l D cs kf T O X a0 x1 t_a0 (by omega) (by omega) (hO.sub (by decide))) kw_652 kw_654 ks_11 kw_4 kw_655 (by decide +kernel) ⟨Nat.le_of_ble_eq_true rfl, Nat.le_of_ble_eq_true rfl⟩ (HT.recv (ci := 3) hkb hH t_a0 (hO.no t_a0 (by decide)) rfl) rfl rfl hl.1 (Nat.le_of_ble_eq_true rfl) dX3_readSum_72 ⟨Nat.le_of_ble_eq_true rfl, Nat.le_of_ble_eq_true rfl⟩) (fun v72 u H locs hz9 hH hS => ?_)
              obtain ⟨rfl, l_v72, u_v72⟩ := hz9
              have hH : HT D cs A T O X H := hH
              refine W.widen (k := 0) (n := 0) (Nat.le_of_ble_eq_true rfl) (Nat.le_of_ble_eq_true rfl) ?_
              refine lv_istore_n (lv' := [(2, .int v72), (4, .int k61_0), (3, .int p8_3), (0, .ref a0), (1, .int x1)]) hx hb dX3_readSum_75 rfl hl (by decide) rfl (fun ls hl => ?_)
              refine lv_aload_n hx hb dX3_readSum_76 rfl (lv_at hl 3 rfl) ?_
              refine lv_iload hx hb dX3_readSum_77 (lv_at hl 1 rfl) ?_
              refine lv_iconst (v := 0) hx hb dX3_readSum_79 (by decide) ?_
              refine tk_v hH hS hA (tr_V (n := 2) (As := [.int k61_0, .int 0]) hx hb hml hown hts hkb hH hOX hks hE hS hA (s_LR_put l D cs kf T O X a0 k61_0 (0) t_a0 (hO.sub (by decide))) kw_642 kw_644 ks_9 kw_4 kw_645 (by decide +kernel) ⟨Nat.le_of_ble_eq_true rfl, Nat.le_of_ble_eq_true rfl⟩ (HT.recv (ci := 3) hkb hH t_a0 (hO.no t_a0 (by decide)) rfl) rfl rfl hl.1 (Nat.le_of_ble_eq_true rfl) dX3_readSum_80 ⟨Nat.le_of_ble_eq_true rfl, Nat.le_of_ble_eq_true rfl⟩) (fun u H locs hz9 hH hS => ?_)
              have hz9 : u = (T, O, X) := hz9
              subst hz9
              have hH : HT D cs A T O X H := hH
              refine W.widen (k := 0) (n := 0) (Nat.le_of_ble_eq_true rfl) (Nat.le_of_ble_eq_true rfl) ?_
              obtain ⟨v83, ev83⟩ : ∃ y : Int32, y = p8_3 + 1 := ⟨_, rfl⟩
              have tv83 : v83.toInt = p8_3.toInt + (1) := by rw [ev83]; exact add_i rfl (by decide) (by omega) (by omega)
              refine lv_iinc (v := v83) (lv' := [(3, .int v83), (2, .int v72), (4, .int k61_0), (0, .ref a0), (1, .int x1)]) hx hb dX3_readSum_83 hl (k := 2) rfl (by rw [ev83]; rfl) (by decide) rfl (fun ls hl => ?_)
              refine lv_goto (tgt := 8) hx hb dX3_readSum_86 (by decide) ?_
              exact ih8 _ (by omega) v83 v72 _ _ _ rfl (by omega) (by omega) (by omega) (by omega) hH hS (lv_sub hl [0, 1, 3, 4] rfl)
            refine lv_if_eq (tgt := 59) hx hb dX3_readSum_52 (by decide) (fun c52 => ?_) (fun c52 => ?_)
            · skip
              have tc52 := f_eq (k := 0) (by decide) c52
              refine lv_bipush (v := 6) hx hb dX3_readSum_59 (by decide) ?_
              exact J61 6 _ _ _ (by decide) (by decide) hH hS (lv_sub hl [0, 1, 2] rfl)
            · skip
              have tc52 := f_ne (k := 0) (by decide) c52
              refine lv_iconst (v := 5) hx hb dX3_readSum_55 (by decide) ?_
              refine lv_goto (tgt := 61) hx hb dX3_readSum_56 (by decide) ?_
              exact J61 5 _ _ _ (by decide) (by decide) hH hS (lv_sub hl [0, 1, 2] rfl)
          refine lv_if_ne (tgt := 43) hx hb dX3_readSum_28 (by decide) (fun c28 => ?_) (fun c28 => ?_)
          · skip
            have tc28 := f_ne (k := 0) (by decide) c28
            exact J43  _ _ _  hH hS (lv_sub hl [0, 2, 3] rfl)
          · skip
            have tc28 := f_eq (k := 0) (by decide) c28
            refine lv_aload_n hx hb dX3_readSum_31 rfl (lv_at hl 2 rfl) ?_
            refine t_get (ci := 3) (lst := ft3 0 0) (C := RX3) (F := TX3) (N := 3) hx hb hts uX3 hown hkb hH t_a0 (hO.no t_a0 (by decide)) (fun _ h9 => h9) rfl rfl 0 (by decide) rfl kw_82 (fun _ h9 => h9) dX3_readSum_32 (fun v9 h9 => ?_)
            obtain ⟨v32, rfl, t_v32⟩ := h9
            refine lv_bipush (v := 45) hx hb dX3_readSum_35 (by decide) ?_
            refine tk_i hH hS hA (tr_V (n := 1) (As := [.int 45]) hx hb hml hown hts hkb hH hOX hks hE hS hA (s_Tok_isSign l D cs kf T O X v32 (45) t_v32 (hO.sub (by decide))) kw_646 kw_615 kw_616 kw_3 kw_617 (by decide +kernel) ⟨Nat.le_of_ble_eq_true rfl, Nat.le_of_ble_eq_true rfl⟩ (HT.recv (ci := 7) hkb hH t_v32 (hO.no t_v32 (by decide)) rfl) rfl rfl hl.1 (Nat.le_of_ble_eq_true rfl) dX3_readSum_37 ⟨Nat.le_of_ble_eq_true rfl, Nat.le_of_ble_eq_true rfl⟩) (fun v37 u H locs hz9 hH hS => ?_)
            obtain ⟨rfl, l_v37, u_v37⟩ := hz9
            have hH : HT D cs A T O X H := hH
            refine W.widen (k := 0) (n := 0) (Nat.le_of_ble_eq_true rfl) (Nat.le_of_ble_eq_true rfl) ?_
            refine lv_if_eq (tgt := 89) hx hb dX3_readSum_40 (by decide) (fun c40 => ?_) (fun c40 => ?_)
            · skip
              have tc40 := f_eq (k := 0) (by decide) c40
              exact J89  _ _ _  hH hS (lv_sub hl [1] rfl)
            · skip
              have tc40 := f_ne (k := 0) (by decide) c40
              exact J43  _ _ _  hH hS (lv_sub hl [0, 2, 3] rfl)
  refine lv_istore_n (lv' := [(3, .int 0), (2, .int v2), (0, .ref a0), (1, .int x1)]) hx hb dX3_readSum_7 rfl hl (by decide) rfl (fun ls hl => ?_)
  exact J8 _ 0 v2 _ _ _ rfl (by decide) (by decide) (by omega) (by omega) hH hS (lv_sub hl [0, 1, 2, 3] rfl)
set_option maxHeartbeats 4000000 in
set_option maxRecDepth 100000 in
theorem s_LR_readUnit3 (l : Launch) (D : va_G) (cs : CS) (kf : KF) (T : TF) (O : List Nat) (X : va_W) (a0 : Nat) (x1 : Int32) (t_a0 : T a0 = some (13, 0, 0)) (l_x1 : 3 ≤ x1.toInt) (u_x1 : x1.toInt ≤ 3) (hO : okO T O [0, 1, 13, 17]) : TK l D cs kf yX3_readUnit cX3_readUnit 3 (some (.boolean)) { frames := 18, cells := 0, slots := 0, locals := 406 } [.ref a0, .int x1] T O X (Ti D cs (fun r u => u = (T, O, X) ∧ 0 ≤ r.toInt ∧ r.toInt ≤ 1)) := by
  refine tk_of (by decide) (Nat.le_of_ble_eq_true rfl) (fun p e s m below meth c ls A H locs hx hb hr hml hown hts hlocks hnm hkb hH hS hA hOX hks hE hl => ?_)
  have hown : s.vm.findClass RX3 = some m.cls := hown
  have hl : lv_has ls 3 [(0, .ref a0), (1, .int x1)] := hl
  refine lv_aload_n hx hb dX3_readUnit_0 rfl (lv_at hl 0 rfl) ?_
  refine t_get (ci := 3) (lst := ft3 0 0) (C := RX3) (F := TX3) (N := 3) hx hb hts uX3 hown hkb hH t_a0 (hO.no t_a0 (by decide)) (fun _ h9 => h9) rfl rfl 0 (by decide) rfl kw_82 (fun _ h9 => h9) dX3_readUnit_1 (fun v9 h9 => ?_)
  obtain ⟨v1, rfl, t_v1⟩ := h9
  refine va_ldcS (q := kf.1 10) hx hb hown (hks ("FootholdWall$LawReader", 65, "not", 10) (by decide +kernel)) dX3_readUnit_4 ?_
  refine tk_i hH hS hA (tr_V (n := 1) (As := [.ref (kf.1 10)]) hx hb hml hown hts hkb hH hOX hks hE hS hA (s_Tok_isWord l D cs kf T O X v1 10 t_v1 (by decide) (hO.sub (by decide))) kw_635 kw_551 kw_552 kw_3 kw_553 (by decide +kernel) ⟨Nat.le_of_ble_eq_true rfl, Nat.le_of_ble_eq_true rfl⟩ (HT.recv (ci := 7) hkb hH t_v1 (hO.no t_v1 (by decide)) rfl) rfl rfl hl.1 (Nat.le_of_ble_eq_true rfl) dX3_readUnit_6 ⟨Nat.le_of_ble_eq_true rfl, Nat.le_of_ble_eq_true rfl⟩) (fun v6 u H locs hz9 hH hS => ?_)
  obtain ⟨rfl, l_v6, u_v6⟩ := hz9
  have hH : HT D cs A T O X H := hH
  refine W.widen (k := 0) (n := 0) (Nat.le_of_ble_eq_true rfl) (Nat.le_of_ble_eq_true rfl) ?_
  refine lv_if_eq (tgt := 40) hx hb dX3_readUnit_9 (by decide) (fun c9 => ?_) (fun c9 => ?_)
  · skip
    have tc9 := f_eq (k := 0) (by decide) c9
    refine lv_aload_n hx hb dX3_readUnit_40 rfl (lv_at hl 0 rfl) ?_
    refine t_get (ci := 3) (lst := ft3 0 0) (C := RX3) (F := TX3) (N := 3) hx hb hts uX3 hown hkb hH t_a0 (hO.no t_a0 (by decide)) (fun _ h9 => h9) rfl rfl 0 (by decide) rfl kw_82 (fun _ h9 => h9) dX3_readUnit_41 (fun v9 h9 => ?_)
    obtain ⟨v41, rfl, t_v41⟩ := h9
    refine lv_bipush (v := 91) hx hb dX3_readUnit_44 (by decide) ?_
    refine tk_i hH hS hA (tr_V (n := 1) (As := [.int 91]) hx hb hml hown hts hkb hH hOX hks hE hS hA (s_Tok_isSign l D cs kf T O X v41 (91) t_v41 (hO.sub (by decide))) kw_646 kw_615 kw_616 kw_3 kw_617 (by decide +kernel) ⟨Nat.le_of_ble_eq_true rfl, Nat.le_of_ble_eq_true rfl⟩ (HT.recv (ci := 7) hkb hH t_v41 (hO.no t_v41 (by decide)) rfl) rfl rfl hl.1 (Nat.le_of_ble_eq_true rfl) dX3_readUnit_46 ⟨Nat.le_of_ble_eq_true rfl, Nat.le_of_ble_eq_true rfl⟩) (fun v46 u H locs hz9 hH hS => ?_)
    obtain ⟨rfl, l_v46, u_v46⟩ := hz9
    have hH : HT D cs A T O X H := hH
    refine W.widen (k := 0) (n := 0) (Nat.le_of_ble_eq_true rfl) (Nat.le_of_ble_eq_true rfl) ?_
    refine lv_if_eq (tgt := 88) hx hb dX3_readUnit_49 (by decide) (fun c49 => ?_) (fun c49 => ?_)
    · skip
      have tc49 := f_eq (k := 0) (by decide) c49
      refine lv_aload_n hx hb dX3_readUnit_88 rfl (lv_at hl 0 rfl) ?_
      refine lv_iload_n hx hb dX3_readUnit_89 rfl (lv_at hl 1 rfl) ?_
      refine tk_i hH hS hA (tr_V (n := 1) (As := [.int x1]) hx hb hml hown hts hkb hH hOX hks hE hS hA (s_LR_readSum3 l D cs kf T O X a0 x1 t_a0 (by omega) (by omega) (hO.sub (by decide))) kw_648 kw_650 ks_10 kw_4 kw_651 (by decide +kernel) ⟨Nat.le_of_ble_eq_true rfl, Nat.le_of_ble_eq_true rfl⟩ (HT.recv (ci := 3) hkb hH t_a0 (hO.no t_a0 (by decide)) rfl) rfl rfl hl.1 (Nat.le_of_ble_eq_true rfl) dX3_readUnit_90 ⟨Nat.le_of_ble_eq_true rfl, Nat.le_of_ble_eq_true rfl⟩) (fun v90 u H locs hz9 hH hS => ?_)
      obtain ⟨rfl, l_v90, u_v90⟩ := hz9
      have hH : HT D cs A T O X H := hH
      refine W.widen (k := 0) (n := 0) (Nat.le_of_ble_eq_true rfl) (Nat.le_of_ble_eq_true rfl) ?_
      refine lv_if_ne (tgt := 98) hx hb dX3_readUnit_93 (by decide) (fun c93 => ?_) (fun c93 => ?_)
      · skip
        have tc93 := f_ne (k := 0) (by decide) c93
        refine lv_aload_n hx hb dX3_readUnit_98 rfl (lv_at hl 0 rfl) ?_
        refine t_get (ci := 3) (lst := ft3 0 0) (C := RX3) (F := TX3) (N := 3) hx hb hts uX3 hown hkb hH t_a0 (hO.no t_a0 (by decide)) (fun _ h9 => h9) rfl rfl 0 (by decide) rfl kw_82 (fun _ h9 => h9) dX3_readUnit_99 (fun v9 h9 => ?_)
        obtain ⟨v99, rfl, t_v99⟩ := h9
        refine lv_bipush (v := 61) hx hb dX3_readUnit_102 (by decide) ?_
        refine tk_i hH hS hA (tr_V (n := 1) (As := [.int 61]) hx hb hml hown hts hkb hH hOX hks hE hS hA (s_Tok_isSign l D cs kf T O X v99 (61) t_v99 (hO.sub (by decide))) kw_646 kw_615 kw_616 kw_3 kw_617 (by decide +kernel) ⟨Nat.le_of_ble_eq_true rfl, Nat.le_of_ble_eq_true rfl⟩ (HT.recv (ci := 7) hkb hH t_v99 (hO.no t_v99 (by decide)) rfl) rfl rfl hl.1 (Nat.le_of_ble_eq_true rfl) dX3_readUnit_104 ⟨Nat.le_of_ble_eq_true rfl, Nat.le_of_ble_eq_true rfl⟩) (fun v104 u H locs hz9 hH hS => ?_)
        obtain ⟨rfl, l_v104, u_v104⟩ := hz9
        have hH : HT D cs A T O X H := hH
        refine W.widen (k := 0) (n := 0) (Nat.le_of_ble_eq_true rfl) (Nat.le_of_ble_eq_true rfl) ?_
        have J134 : ∀ (k134_0 : Int32) (H : Heap) (locs : List Loc) (ls : Array Slot), (8 ≤ k134_0.toInt) → (k134_0.toInt ≤ 10) → HT D cs A T O X H → va_S A s.heap H locs → lv_has ls 3 [(0, .ref a0), (1, .int x1)] → W p l e { frames := 18, cells := 0, slots := 0, locals := 406 } s m [.ref a0, .int x1].toArray below meth c H locs 0 0 (MQ below (Ti D cs (fun r u => u = (T, O, X) ∧ 0 ≤ r.toInt ∧ r.toInt ≤ 1) A) [.ref a0, .int x1].toArray s 0 0 A) (F0 m 134 ls [.int k134_0]) := by
          intro k134_0 H locs ls l_k134_0 u_k134_0 hH hS hl
          refine lv_istore_n (lv' := [(2, .int k134_0), (0, .ref a0), (1, .int x1)]) hx hb dX3_readUnit_134 rfl hl (by decide) rfl (fun ls hl => ?_)
          refine lv_iload_n hx hb dX3_readUnit_135 rfl (lv_at hl 0 rfl) ?_
          refine lv_bipush (v := 10) hx hb dX3_readUnit_136 (by decide) ?_
          have J162 : ∀  (H : Heap) (locs : List Loc) (ls : Array Slot), HT D cs A T O X H → va_S A s.heap H locs → lv_has ls 3 [(2, .int k134_0), (0, .ref a0), (1, .int x1)] → W p l e { frames := 18, cells := 0, slots := 0, locals := 406 } s m [.ref a0, .int x1].toArray below meth c H locs 0 0 (MQ below (Ti D cs (fun r u => u = (T, O, X) ∧ 0 ≤ r.toInt ∧ r.toInt ≤ 1) A) [.ref a0, .int x1].toArray s 0 0 A) (F0 m 162 ls []) := by
            intro  H locs ls  hH hS hl
            refine lv_aload_n hx hb dX3_readUnit_162 rfl (lv_at hl 1 rfl) ?_
            refine t_get (ci := 3) (lst := ft3 0 0) (C := RX3) (F := TX3) (N := 3) hx hb hts uX3 hown hkb hH t_a0 (hO.no t_a0 (by decide)) (fun _ h9 => h9) rfl rfl 0 (by decide) rfl kw_82 (fun _ h9 => h9) dX3_readUnit_163 (fun v9 h9 => ?_)
            obtain ⟨v163, rfl, t_v163⟩ := h9
            refine tk_v hH hS hA (tr_V (n := 0) (As := []) hx hb hml hown hts hkb hH hOX hks hE hS hA (s_Tok_go l D cs kf T O X v163 t_v163 (hO.sub (by decide))) kw_641 kw_453 kw_454 kw_3 kw_455 (by decide +kernel) ⟨Nat.le_of_ble_eq_true rfl, Nat.le_of_ble_eq_true rfl⟩ (HT.recv (ci := 7) hkb hH t_v163 (hO.no t_v163 (by decide)) rfl) rfl rfl hl.1 (Nat.le_of_ble_eq_true rfl) dX3_readUnit_166 ⟨Nat.le_of_ble_eq_true rfl, Nat.le_of_ble_eq_true rfl⟩) (fun u H locs hz9 hH hS => ?_)
            have hz9 : u = (T, O, X) := hz9
            subst hz9
            have hH : HT D cs A T O X H := hH
            refine W.widen (k := 0) (n := 0) (Nat.le_of_ble_eq_true rfl) (Nat.le_of_ble_eq_true rfl) ?_
            refine lv_aload_n hx hb dX3_readUnit_169 rfl (lv_at hl 1 rfl) ?_
            refine lv_iload_n hx hb dX3_readUnit_170 rfl (lv_at hl 2 rfl) ?_
            refine tk_i hH hS hA (tr_V (n := 1) (As := [.int x1]) hx hb hml hown hts hkb hH hOX hks hE hS hA (s_LR_readSum3 l D cs kf T O X a0 x1 t_a0 (by omega) (by omega) (hO.sub (by decide))) kw_648 kw_650 ks_10 kw_4 kw_651 (by decide +kernel) ⟨Nat.le_of_ble_eq_true rfl, Nat.le_of_ble_eq_true rfl⟩ (HT.recv (ci := 3) hkb hH t_a0 (hO.no t_a0 (by decide)) rfl) rfl rfl hl.1 (Nat.le_of_ble_eq_true rfl) dX3_readUnit_171 ⟨Nat.le_of_ble_eq_true rfl, Nat.le_of_ble_eq_true rfl⟩) (fun v171 u H locs hz9 hH hS => ?_)
            obtain ⟨rfl, l_v171, u_v171⟩ := hz9
            have hH : HT D cs A T O X H := hH
            refine W.widen (k := 0) (n := 0) (Nat.le_of_ble_eq_true rfl) (Nat.le_of_ble_eq_true rfl) ?_
            refine lv_if_ne (tgt := 179) hx hb dX3_readUnit_174 (by decide) (fun c174 => ?_) (fun c174 => ?_)
            · skip
              have tc174 := f_ne (k := 0) (by decide) c174
              refine lv_aload_n hx hb dX3_readUnit_179 rfl (lv_at hl 1 rfl) ?_
              refine lv_iload_n hx hb dX3_readUnit_180 rfl (lv_at hl 0 rfl) ?_
              refine lv_iconst (v := 0) hx hb dX3_readUnit_181 (by decide) ?_
              refine tk_v hH hS hA (tr_V (n := 2) (As := [.int k134_0, .int 0]) hx hb hml hown hts hkb hH hOX hks hE hS hA (s_LR_put l D cs kf T O X a0 k134_0 (0) t_a0 (hO.sub (by decide))) kw_642 kw_644 ks_9 kw_4 kw_645 (by decide +kernel) ⟨Nat.le_of_ble_eq_true rfl, Nat.le_of_ble_eq_true rfl⟩ (HT.recv (ci := 3) hkb hH t_a0 (hO.no t_a0 (by decide)) rfl) rfl rfl hl.1 (Nat.le_of_ble_eq_true rfl) dX3_readUnit_182 ⟨Nat.le_of_ble_eq_true rfl, Nat.le_of_ble_eq_true rfl⟩) (fun u H locs hz9 hH hS => ?_)
              have hz9 : u = (T, O, X) := hz9
              subst hz9
              have hH : HT D cs A T O X H := hH
              refine W.widen (k := 0) (n := 0) (Nat.le_of_ble_eq_true rfl) (Nat.le_of_ble_eq_true rfl) ?_
              refine lv_iconst (v := 1) hx hb dX3_readUnit_185 (by decide) ?_
              exact te_z hx hb hr hlocks (by rfl) hH hS (⟨rfl, by decide, by decide⟩) dX3_readUnit_186
            · skip
              have tc174 := f_eq (k := 0) (by decide) c174
              refine lv_iconst (v := 0) hx hb dX3_readUnit_177 (by decide) ?_
              exact te_z hx hb hr hlocks (by rfl) hH hS (⟨rfl, by decide, by decide⟩) dX3_readUnit_178
          refine lv_icmp_ne (tgt := 162) hx hb dX3_readUnit_138 (by decide) (fun c138 => ?_) (fun c138 => ?_)
          · skip
            have tc138 := f_ne (k := 10) (by decide) c138
            exact J162  _ _ _  hH hS (lv_sub hl [0, 1, 2] rfl)
          · skip
            have tc138 := f_eq (k := 10) (by decide) c138
            refine lv_aload_n hx hb dX3_readUnit_141 rfl (lv_at hl 1 rfl) ?_
            refine t_get (ci := 3) (lst := ft3 0 0) (C := RX3) (F := TX3) (N := 3) hx hb hts uX3 hown hkb hH t_a0 (hO.no t_a0 (by decide)) (fun _ h9 => h9) rfl rfl 0 (by decide) rfl kw_82 (fun _ h9 => h9) dX3_readUnit_142 (fun v9 h9 => ?_)
            obtain ⟨v142, rfl, t_v142⟩ := h9
            refine lv_bipush (v := 62) hx hb dX3_readUnit_145 (by decide) ?_
            refine tk_i hH hS hA (tr_V (n := 1) (As := [.int 62]) hx hb hml hown hts hkb hH hOX hks hE hS hA (s_Tok_isSign l D cs kf T O X v142 (62) t_v142 (hO.sub (by decide))) kw_646 kw_615 kw_616 kw_3 kw_617 (by decide +kernel) ⟨Nat.le_of_ble_eq_true rfl, Nat.le_of_ble_eq_true rfl⟩ (HT.recv (ci := 7) hkb hH t_v142 (hO.no t_v142 (by decide)) rfl) rfl rfl hl.1 (Nat.le_of_ble_eq_true rfl) dX3_readUnit_147 ⟨Nat.le_of_ble_eq_true rfl, Nat.le_of_ble_eq_true rfl⟩) (fun v147 u H locs hz9 hH hS => ?_)
            obtain ⟨rfl, l_v147, u_v147⟩ := hz9
            have hH : HT D cs A T O X H := hH
            refine W.widen (k := 0) (n := 0) (Nat.le_of_ble_eq_true rfl) (Nat.le_of_ble_eq_true rfl) ?_
            refine lv_if_ne (tgt := 162) hx hb dX3_readUnit_150 (by decide) (fun c150 => ?_) (fun c150 => ?_)
            · skip
              have tc150 := f_ne (k := 0) (by decide) c150
              exact J162  _ _ _  hH hS (lv_sub hl [0, 1, 2] rfl)
            · skip
              have tc150 := f_eq (k := 0) (by decide) c150
              refine lv_aload_n hx hb dX3_readUnit_153 rfl (lv_at hl 1 rfl) ?_
              refine t_get (ci := 3) (lst := ft3 0 0) (C := RX3) (F := TX3) (N := 3) hx hb hts uX3 hown hkb hH t_a0 (hO.no t_a0 (by decide)) (fun _ h9 => h9) rfl rfl 0 (by decide) rfl kw_82 (fun _ h9 => h9) dX3_readUnit_154 (fun v9 h9 => ?_)
              obtain ⟨v154, rfl, t_v154⟩ := h9
              refine lv_iconst (v := 2) hx hb dX3_readUnit_157 (by decide) ?_
              refine tk_i hH hS hA (tr_V (n := 1) (As := [.int 2]) hx hb hml hown hts hkb hH hOX hks hE hS hA (s_Tok_refuse l D cs kf T O X v154 (2) t_v154 (hO.sub (by decide))) kw_640 kw_580 kw_581 kw_3 kw_582 (by decide +kernel) ⟨Nat.le_of_ble_eq_true rfl, Nat.le_of_ble_eq_true rfl⟩ (HT.recv (ci := 7) hkb hH t_v154 (hO.no t_v154 (by decide)) rfl) rfl rfl hl.1 (Nat.le_of_ble_eq_true rfl) dX3_readUnit_158 ⟨Nat.le_of_ble_eq_true rfl, Nat.le_of_ble_eq_true rfl⟩) (fun v158 u H locs hz9 hH hS => ?_)
              obtain ⟨rfl, l_v158, u_v158⟩ := hz9
              have hH : HT D cs A T O X H := hH
              refine W.widen (k := 0) (n := 0) (Nat.le_of_ble_eq_true rfl) (Nat.le_of_ble_eq_true rfl) ?_
              exact te_z hx hb hr hlocks (nar01 (by omega) (by omega)) hH hS (⟨rfl, by omega, by omega⟩) dX3_readUnit_161
        refine lv_if_eq (tgt := 115) hx hb dX3_readUnit_107 (by decide) (fun c107 => ?_) (fun c107 => ?_)
        · skip
          have tc107 := f_eq (k := 0) (by decide) c107
          refine lv_aload_n hx hb dX3_readUnit_115 rfl (lv_at hl 0 rfl) ?_
          refine t_get (ci := 3) (lst := ft3 0 0) (C := RX3) (F := TX3) (N := 3) hx hb hts uX3 hown hkb hH t_a0 (hO.no t_a0 (by decide)) (fun _ h9 => h9) rfl rfl 0 (by decide) rfl kw_82 (fun _ h9 => h9) dX3_readUnit_116 (fun v9 h9 => ?_)
          obtain ⟨v116, rfl, t_v116⟩ := h9
          refine lv_bipush (v := 60) hx hb dX3_readUnit_119 (by decide) ?_
          refine tk_i hH hS hA (tr_V (n := 1) (As := [.int 60]) hx hb hml hown hts hkb hH hOX hks hE hS hA (s_Tok_isSign l D cs kf T O X v116 (60) t_v116 (hO.sub (by decide))) kw_646 kw_615 kw_616 kw_3 kw_617 (by decide +kernel) ⟨Nat.le_of_ble_eq_true rfl, Nat.le_of_ble_eq_true rfl⟩ (HT.recv (ci := 7) hkb hH t_v116 (hO.no t_v116 (by decide)) rfl) rfl rfl hl.1 (Nat.le_of_ble_eq_true rfl) dX3_readUnit_121 ⟨Nat.le_of_ble_eq_true rfl, Nat.le_of_ble_eq_true rfl⟩) (fun v121 u H locs hz9 hH hS => ?_)
          obtain ⟨rfl, l_v121, u_v121⟩ := hz9
          have hH : HT D cs A T O X H := hH
          refine W.widen (k := 0) (n := 0) (Nat.le_of_ble_eq_true rfl) (Nat.le_of_ble_eq_true rfl) ?_
          refine lv_if_eq (tgt := 132) hx hb dX3_readUnit_124 (by decide) (fun c124 => ?_) (fun c124 => ?_)
          · skip
            have tc124 := f_eq (k := 0) (by decide) c124
            refine lv_bipush (v := 10) hx hb dX3_readUnit_132 (by decide) ?_
            exact J134 10 _ _ _ (by decide) (by decide) hH hS (lv_sub hl [0, 1] rfl)
          · skip
            have tc124 := f_ne (k := 0) (by decide) c124
            refine lv_bipush (v := 9) hx hb dX3_readUnit_127 (by decide) ?_
            refine lv_goto (tgt := 134) hx hb dX3_readUnit_129 (by decide) ?_
            exact J134 9 _ _ _ (by decide) (by decide) hH hS (lv_sub hl [0, 1] rfl)
        · skip
          have tc107 := f_ne (k := 0) (by decide) c107
          refine lv_bipush (v := 8) hx hb dX3_readUnit_110 (by decide) ?_
          refine lv_goto (tgt := 134) hx hb dX3_readUnit_112 (by decide) ?_
          exact J134 8 _ _ _ (by decide) (by decide) hH hS (lv_sub hl [0, 1] rfl)
      · skip
        have tc93 := f_eq (k := 0) (by decide) c93
        refine lv_iconst (v := 0) hx hb dX3_readUnit_96 (by decide) ?_
        exact te_z hx hb hr hlocks (by rfl) hH hS (⟨rfl, by decide, by decide⟩) dX3_readUnit_97
    · skip
      have tc49 := f_ne (k := 0) (by decide) c49
      refine lv_aload_n hx hb dX3_readUnit_52 rfl (lv_at hl 0 rfl) ?_
      refine lv_iload_n hx hb dX3_readUnit_53 rfl (lv_at hl 1 rfl) ?_
      refine tk_i hH hS hA (tr_V (n := 1) (As := [.int x1]) hx hb hml hown hts hkb hH hOX hks hE hS hA (s_LR_enter3 l D cs kf T O X a0 x1 t_a0 (by omega) (by omega) (hO.sub (by decide))) kw_636 kw_638 ks_8 kw_4 kw_639 (by decide +kernel) ⟨Nat.le_of_ble_eq_true rfl, Nat.le_of_ble_eq_true rfl⟩ (HT.recv (ci := 3) hkb hH t_a0 (hO.no t_a0 (by decide)) rfl) rfl rfl hl.1 (Nat.le_of_ble_eq_true rfl) dX3_readUnit_54 ⟨Nat.le_of_ble_eq_true rfl, Nat.le_of_ble_eq_true rfl⟩) (fun v54 u H locs hz9 hH hS => ?_)
      obtain ⟨rfl, l_v54, u_v54⟩ := hz9
      have hH : HT D cs A T O X H := hH
      refine W.widen (k := 0) (n := 0) (Nat.le_of_ble_eq_true rfl) (Nat.le_of_ble_eq_true rfl) ?_
      refine lv_if_eq (tgt := 86) hx hb dX3_readUnit_57 (by decide) (fun c57 => ?_) (fun c57 => ?_)
      · skip
        have tc57 := f_eq (k := 0) (by decide) c57
        exfalso; omega
      · skip
        have tc57 := f_ne (k := 0) (by decide) c57
        refine lv_aload_n hx hb dX3_readUnit_60 rfl (lv_at hl 0 rfl) ?_
        refine lv_iload_n hx hb dX3_readUnit_61 rfl (lv_at hl 1 rfl) ?_
        refine lv_iconst (v := 1) hx hb dX3_readUnit_62 (by decide) ?_
        refine lv_iadd hx hb dX3_readUnit_63 ?_
        refine lv_topi (fun v63 ev63 => ?_)
        have tv63 : v63.toInt = x1.toInt + (1) := by rw [ev63]; exact add_i rfl (by decide : (1 : Int32).toInt = 1) (by omega) (by omega)
        refine tk_i hH hS hA (tr_V (n := 1) (As := [.int v63]) hx hb hml hown hts hkb hH hOX hks hE hS hA (s_LR_readTruth4 l D cs kf T O X a0 v63 t_a0 (by omega) (by omega) (hO.sub (by decide))) kw_622 kw_624 ks_5 kw_4 kw_625 (by decide +kernel) ⟨Nat.le_of_ble_eq_true rfl, Nat.le_of_ble_eq_true rfl⟩ (HT.recv (ci := 3) hkb hH t_a0 (hO.no t_a0 (by decide)) rfl) rfl rfl hl.1 (Nat.le_of_ble_eq_true rfl) dX3_readUnit_64 ⟨Nat.le_of_ble_eq_true rfl, Nat.le_of_ble_eq_true rfl⟩) (fun v64 u H locs hz9 hH hS => ?_)
        obtain ⟨rfl, l_v64, u_v64⟩ := hz9
        have hH : HT D cs A T O X H := hH
        refine W.widen (k := 0) (n := 0) (Nat.le_of_ble_eq_true rfl) (Nat.le_of_ble_eq_true rfl) ?_
        have J87 : ∀ (k87_0 : Int32) (H : Heap) (locs : List Loc) (ls : Array Slot), (0 ≤ k87_0.toInt) → (k87_0.toInt ≤ 1) → HT D cs A T O X H → va_S A s.heap H locs → lv_has ls 3 [] → W p l e { frames := 18, cells := 0, slots := 0, locals := 406 } s m [.ref a0, .int x1].toArray below meth c H locs 0 0 (MQ below (Ti D cs (fun r u => u = (T, O, X) ∧ 0 ≤ r.toInt ∧ r.toInt ≤ 1) A) [.ref a0, .int x1].toArray s 0 0 A) (F0 m 87 ls [.int k87_0]) := by
          intro k87_0 H locs ls l_k87_0 u_k87_0 hH hS hl
          exact te_z hx hb hr hlocks (nar01 (by omega) (by omega)) hH hS (⟨rfl, by omega, by omega⟩) dX3_readUnit_87
        have J86 : ∀  (H : Heap) (locs : List Loc) (ls : Array Slot), HT D cs A T O X H → va_S A s.heap H locs → lv_has ls 3 [] → W p l e { frames := 18, cells := 0, slots := 0, locals := 406 } s m [.ref a0, .int x1].toArray below meth c H locs 0 0 (MQ below (Ti D cs (fun r u => u = (T, O, X) ∧ 0 ≤ r.toInt ∧ r.toInt ≤ 1) A) [.ref a0, .int x1].toArray s 0 0 A) (F0 m 86 ls []) := by
          intro  H locs ls  hH hS hl
          refine lv_iconst (v := 0) hx hb dX3_readUnit_86 (by decide) ?_
          exact J87 0 _ _ _ (by decide) (by decide) hH hS (lv_sub hl [] rfl)
        refine lv_if_eq (tgt := 86) hx hb dX3_readUnit_67 (by decide) (fun c67 => ?_) (fun c67 => ?_)
        · skip
          have tc67 := f_eq (k := 0) (by decide) c67
          exact J86  _ _ _  hH hS (lv_sub hl [] rfl)
        · skip
          have tc67 := f_ne (k := 0) (by decide) c67
          refine lv_aload_n hx hb dX3_readUnit_70 rfl (lv_at hl 0 rfl) ?_
          refine t_get (ci := 3) (lst := ft3 0 0) (C := RX3) (F := TX3) (N := 3) hx hb hts uX3 hown hkb hH t_a0 (hO.no t_a0 (by decide)) (fun _ h9 => h9) rfl rfl 0 (by decide) rfl kw_82 (fun _ h9 => h9) dX3_readUnit_71 (fun v9 h9 => ?_)
          obtain ⟨v71, rfl, t_v71⟩ := h9
          refine lv_bipush (v := 93) hx hb dX3_readUnit_74 (by decide) ?_
          refine tk_i hH hS hA (tr_V (n := 1) (As := [.int 93]) hx hb hml hown hts hkb hH hOX hks hE hS hA (s_Tok_takeSign l D cs kf T O X v71 (93) t_v71 (hO.sub (by decide))) kw_647 kw_611 kw_612 kw_3 kw_613 (by decide +kernel) ⟨Nat.le_of_ble_eq_true rfl, Nat.le_of_ble_eq_true rfl⟩ (HT.recv (ci := 7) hkb hH t_v71 (hO.no t_v71 (by decide)) rfl) rfl rfl hl.1 (Nat.le_of_ble_eq_true rfl) dX3_readUnit_76 ⟨Nat.le_of_ble_eq_true rfl, Nat.le_of_ble_eq_true rfl⟩) (fun v76 u H locs hz9 hH hS => ?_)
          obtain ⟨rfl, l_v76, u_v76⟩ := hz9
          have hH : HT D cs A T O X H := hH
          refine W.widen (k := 0) (n := 0) (Nat.le_of_ble_eq_true rfl) (Nat.le_of_ble_eq_true rfl) ?_
          refine lv_if_eq (tgt := 86) hx hb dX3_readUnit_79 (by decide) (fun c79 => ?_) (fun c79 => ?_)
          · skip
            have tc79 := f_eq (k := 0) (by decide) c79
            exact J86  _ _ _  hH hS (lv_sub hl [] rfl)
          · skip
            have tc79 := f_ne (k := 0) (by decide) c79
            refine lv_iconst (v := 1) hx hb dX3_readUnit_82 (by decide) ?_
            refine lv_goto (tgt := 87) hx hb dX3_readUnit_83 (by decide) ?_
            exact J87 1 _ _ _ (by decide) (by decide) hH hS (lv_sub hl [] rfl)
  · skip
    have tc9 := f_ne (k := 0) (by decide) c9
    refine lv_aload_n hx hb dX3_readUnit_12 rfl (lv_at hl 0 rfl) ?_
    refine lv_iload_n hx hb dX3_readUnit_13 rfl (lv_at hl 1 rfl) ?_
    refine tk_i hH hS hA (tr_V (n := 1) (As := [.int x1]) hx hb hml hown hts hkb hH hOX hks hE hS hA (s_LR_enter3 l D cs kf T O X a0 x1 t_a0 (by omega) (by omega) (hO.sub (by decide))) kw_636 kw_638 ks_8 kw_4 kw_639 (by decide +kernel) ⟨Nat.le_of_ble_eq_true rfl, Nat.le_of_ble_eq_true rfl⟩ (HT.recv (ci := 3) hkb hH t_a0 (hO.no t_a0 (by decide)) rfl) rfl rfl hl.1 (Nat.le_of_ble_eq_true rfl) dX3_readUnit_14 ⟨Nat.le_of_ble_eq_true rfl, Nat.le_of_ble_eq_true rfl⟩) (fun v14 u H locs hz9 hH hS => ?_)
    obtain ⟨rfl, l_v14, u_v14⟩ := hz9
    have hH : HT D cs A T O X H := hH
    refine W.widen (k := 0) (n := 0) (Nat.le_of_ble_eq_true rfl) (Nat.le_of_ble_eq_true rfl) ?_
    refine lv_if_eq (tgt := 30) hx hb dX3_readUnit_17 (by decide) (fun c17 => ?_) (fun c17 => ?_)
    · skip
      have tc17 := f_eq (k := 0) (by decide) c17
      exfalso; omega
    · skip
      have tc17 := f_ne (k := 0) (by decide) c17
      refine lv_aload_n hx hb dX3_readUnit_20 rfl (lv_at hl 0 rfl) ?_
      refine lv_iload_n hx hb dX3_readUnit_21 rfl (lv_at hl 1 rfl) ?_
      refine lv_iconst (v := 1) hx hb dX3_readUnit_22 (by decide) ?_
      refine lv_iadd hx hb dX3_readUnit_23 ?_
      refine lv_topi (fun v23 ev23 => ?_)
      have tv23 : v23.toInt = x1.toInt + (1) := by rw [ev23]; exact add_i rfl (by decide : (1 : Int32).toInt = 1) (by omega) (by omega)
      refine tk_i hH hS hA (tr_V (n := 1) (As := [.int v23]) hx hb hml hown hts hkb hH hOX hks hE hS hA (s_LR_readUnit4 l D cs kf T O X a0 v23 t_a0 (by omega) (by omega) (hO.sub (by decide))) kw_630 kw_632 ks_7 kw_4 kw_633 (by decide +kernel) ⟨Nat.le_of_ble_eq_true rfl, Nat.le_of_ble_eq_true rfl⟩ (HT.recv (ci := 3) hkb hH t_a0 (hO.no t_a0 (by decide)) rfl) rfl rfl hl.1 (Nat.le_of_ble_eq_true rfl) dX3_readUnit_24 ⟨Nat.le_of_ble_eq_true rfl, Nat.le_of_ble_eq_true rfl⟩) (fun v24 u H locs hz9 hH hS => ?_)
      obtain ⟨rfl, l_v24, u_v24⟩ := hz9
      have hH : HT D cs A T O X H := hH
      refine W.widen (k := 0) (n := 0) (Nat.le_of_ble_eq_true rfl) (Nat.le_of_ble_eq_true rfl) ?_
      refine lv_if_ne (tgt := 32) hx hb dX3_readUnit_27 (by decide) (fun c27 => ?_) (fun c27 => ?_)
      · skip
        have tc27 := f_ne (k := 0) (by decide) c27
        refine lv_aload_n hx hb dX3_readUnit_32 rfl (lv_at hl 0 rfl) ?_
        refine lv_iconst (v := 2) hx hb dX3_readUnit_33 (by decide) ?_
        refine lv_iconst (v := 0) hx hb dX3_readUnit_34 (by decide) ?_
        refine tk_v hH hS hA (tr_V (n := 2) (As := [.int 2, .int 0]) hx hb hml hown hts hkb hH hOX hks hE hS hA (s_LR_put l D cs kf T O X a0 (2) (0) t_a0 (hO.sub (by decide))) kw_642 kw_644 ks_9 kw_4 kw_645 (by decide +kernel) ⟨Nat.le_of_ble_eq_true rfl, Nat.le_of_ble_eq_true rfl⟩ (HT.recv (ci := 3) hkb hH t_a0 (hO.no t_a0 (by decide)) rfl) rfl rfl hl.1 (Nat.le_of_ble_eq_true rfl) dX3_readUnit_35 ⟨Nat.le_of_ble_eq_true rfl, Nat.le_of_ble_eq_true rfl⟩) (fun u H locs hz9 hH hS => ?_)
        have hz9 : u = (T, O, X) := hz9
        subst hz9
        have hH : HT D cs A T O X H := hH
        refine W.widen (k := 0) (n := 0) (Nat.le_of_ble_eq_true rfl) (Nat.le_of_ble_eq_true rfl) ?_
        refine lv_iconst (v := 1) hx hb dX3_readUnit_38 (by decide) ?_
        exact te_z hx hb hr hlocks (by rfl) hH hS (⟨rfl, by decide, by decide⟩) dX3_readUnit_39
      · skip
        have tc27 := f_eq (k := 0) (by decide) c27
        refine lv_iconst (v := 0) hx hb dX3_readUnit_30 (by decide) ?_
        exact te_z hx hb hr hlocks (by rfl) hH hS (⟨rfl, by decide, by decide⟩) dX3_readUnit_31
set_option maxHeartbeats 4000000 in
set_option maxRecDepth 100000 in
theorem s_LR_readBoth3 (l : Launch) (D : va_G) (cs : CS) (kf : KF) (T : TF) (O : List Nat) (X : va_W) (a0 : Nat) (x1 : Int32) (t_a0 : T a0 = some (13, 0, 0)) (l_x1 : 3 ≤ x1.toInt) (u_x1 : x1.toInt ≤ 3) (hO : okO T O [0, 1, 13, 17]) : TK l D cs kf yX3_readBoth cX3_readBoth 5 (some (.boolean)) { frames := 19, cells := 0, slots := 0, locals := 428 } [.ref a0, .int x1] T O X (Ti D cs (fun r u => u = (T, O, X) ∧ 0 ≤ r.toInt ∧ r.toInt ≤ 1)) := by
  refine tk_of (by decide) (Nat.le_of_ble_eq_true rfl) (fun p e s m below meth c ls A H locs hx hb hr hml hown hts hlocks hnm hkb hH hS hA hOX hks hE hl => ?_)
  have hown : s.vm.findClass RX3 = some m.cls := hown
  have hl : lv_has ls 5 [(0, .ref a0), (1, .int x1)] := hl
  refine lv_aload_n hx hb dX3_readBoth_0 rfl (lv_at hl 0 rfl) ?_
  refine lv_iload_n hx hb dX3_readBoth_1 rfl (lv_at hl 1 rfl) ?_
  refine tk_i hH hS hA (tr_V (n := 1) (As := [.int x1]) hx hb hml hown hts hkb hH hOX hks hE hS hA (s_LR_readUnit3 l D cs kf T O X a0 x1 t_a0 (by omega) (by omega) (hO.sub (by decide))) kw_630 kw_632 ks_7 kw_4 kw_633 (by decide +kernel) ⟨Nat.le_of_ble_eq_true rfl, Nat.le_of_ble_eq_true rfl⟩ (HT.recv (ci := 3) hkb hH t_a0 (hO.no t_a0 (by decide)) rfl) rfl rfl hl.1 (Nat.le_of_ble_eq_true rfl) dX3_readBoth_2 ⟨Nat.le_of_ble_eq_true rfl, Nat.le_of_ble_eq_true rfl⟩) (fun v2 u H locs hz9 hH hS => ?_)
  obtain ⟨rfl, l_v2, u_v2⟩ := hz9
  have hH : HT D cs A T O X H := hH
  refine W.widen (k := 0) (n := 0) (Nat.le_of_ble_eq_true rfl) (Nat.le_of_ble_eq_true rfl) ?_
  refine lv_istore_n (lv' := [(2, .int v2), (0, .ref a0), (1, .int x1)]) hx hb dX3_readBoth_5 rfl hl (by decide) rfl (fun ls hl => ?_)
  refine lv_iconst (v := 0) hx hb dX3_readBoth_6 (by decide) ?_
  have J8 : ∀ (n : Nat) (p8_3 : Int32) (p8_2 : Int32) (H : Heap) (locs : List Loc) (ls : Array Slot), (900 - p8_3.toInt).toNat = n → (0 ≤ p8_3.toInt) → (p8_3.toInt ≤ 900) → (0 ≤ p8_2.toInt) → (p8_2.toInt ≤ 1) → HT D cs A T O X H → va_S A s.heap H locs → lv_has ls 5 [(3, .int p8_3), (2, .int p8_2), (0, .ref a0), (1, .int x1)] → W p l e { frames := 19, cells := 0, slots := 0, locals := 428 } s m [.ref a0, .int x1].toArray below meth c H locs 0 0 (MQ below (Ti D cs (fun r u => u = (T, O, X) ∧ 0 ≤ r.toInt ∧ r.toInt ≤ 1) A) [.ref a0, .int x1].toArray s 0 0 A) (F0 m 8 ls []) := by
    intro n
    induction n using Nat.strongRecOn with
    | _ n ih8 =>
      intro p8_3 p8_2 H locs ls hm8 l_p8_3 u_p8_3 l_p8_2 u_p8_2 hH hS hl
      refine lv_iload_n hx hb dX3_readBoth_8 rfl (lv_at hl 0 rfl) ?_
      refine lv_sipush (v := 900) hx hb dX3_readBoth_9 (by decide) ?_
      have J68 : ∀  (H : Heap) (locs : List Loc) (ls : Array Slot), HT D cs A T O X H → va_S A s.heap H locs → lv_has ls 5 [(2, .int p8_2)] → W p l e { frames := 19, cells := 0, slots := 0, locals := 428 } s m [.ref a0, .int x1].toArray below meth c H locs 0 0 (MQ below (Ti D cs (fun r u => u = (T, O, X) ∧ 0 ≤ r.toInt ∧ r.toInt ≤ 1) A) [.ref a0, .int x1].toArray s 0 0 A) (F0 m 68 ls []) := by
        intro  H locs ls  hH hS hl
        refine lv_iload_n hx hb dX3_readBoth_68 rfl (lv_at hl 0 rfl) ?_
        exact te_z hx hb hr hlocks (nar01 (by omega) (by omega)) hH hS (⟨rfl, by omega, by omega⟩) dX3_readBoth_69
      refine lv_icmp_ge (tgt := 68) hx hb dX3_readBoth_12 (by decide) (fun c12 => ?_) (fun c12 => ?_)
      · skip
        have tc12 := f_ge (k := 900) (by decide) c12
        exact J68  _ _ _  hH hS (lv_sub hl [1] rfl)
      · skip
        have tc12 := f_nge (k := 900) (by decide) c12
        refine lv_iload_n hx hb dX3_readBoth_15 rfl (lv_at hl 1 rfl) ?_
        refine lv_if_eq (tgt := 68) hx hb dX3_readBoth_16 (by decide) (fun c16 => ?_) (fun c16 => ?_)
        · skip
          have tc16 := f_eq (k := 0) (by decide) c16
          exact J68  _ _ _  hH hS (lv_sub hl [1] rfl)
        · skip
          have tc16 := f_ne (k := 0) (by decide) c16
          refine lv_aload_n hx hb dX3_readBoth_19 rfl (lv_at hl 2 rfl) ?_
          refine t_get (ci := 3) (lst := ft3 0 0) (C := RX3) (F := TX3) (N := 3) hx hb hts uX3 hown hkb hH t_a0 (hO.no t_a0 (by decide)) (fun _ h9 => h9) rfl rfl 0 (by decide) rfl kw_82 (fun _ h9 => h9) dX3_readBoth_20 (fun v9 h9 => ?_)
          obtain ⟨v20, rfl, t_v20⟩ := h9
          refine va_ldcS (q := kf.1 15) hx hb hown (hks ("FootholdWall$LawReader", 63, "and", 15) (by decide +kernel)) dX3_readBoth_23 ?_
          refine tk_i hH hS hA (tr_V (n := 1) (As := [.ref (kf.1 15)]) hx hb hml hown hts hkb hH hOX hks hE hS hA (s_Tok_isWord l D cs kf T O X v20 15 t_v20 (by decide) (hO.sub (by decide))) kw_635 kw_551 kw_552 kw_3 kw_553 (by decide +kernel) ⟨Nat.le_of_ble_eq_true rfl, Nat.le_of_ble_eq_true rfl⟩ (HT.recv (ci := 7) hkb hH t_v20 (hO.no t_v20 (by decide)) rfl) rfl rfl hl.1 (Nat.le_of_ble_eq_true rfl) dX3_readBoth_25 ⟨Nat.le_of_ble_eq_true rfl, Nat.le_of_ble_eq_true rfl⟩) (fun v25 u H locs hz9 hH hS => ?_)
          obtain ⟨rfl, l_v25, u_v25⟩ := hz9
          have hH : HT D cs A T O X H := hH
          refine W.widen (k := 0) (n := 0) (Nat.le_of_ble_eq_true rfl) (Nat.le_of_ble_eq_true rfl) ?_
          refine lv_if_eq (tgt := 68) hx hb dX3_readBoth_28 (by decide) (fun c28 => ?_) (fun c28 => ?_)
          · skip
            have tc28 := f_eq (k := 0) (by decide) c28
            exact J68  _ _ _  hH hS (lv_sub hl [1] rfl)
          · skip
            have tc28 := f_ne (k := 0) (by decide) c28
            refine lv_aload_n hx hb dX3_readBoth_31 rfl (lv_at hl 2 rfl) ?_
            refine t_get (ci := 3) (lst := ft3 0 0) (C := RX3) (F := TX3) (N := 3) hx hb hts uX3 hown hkb hH t_a0 (hO.no t_a0 (by decide)) (fun _ h9 => h9) rfl rfl 0 (by decide) rfl kw_82 (fun _ h9 => h9) dX3_readBoth_32 (fun v9 h9 => ?_)
            obtain ⟨v32, rfl, t_v32⟩ := h9
            refine tk_v hH hS hA (tr_V (n := 0) (As := []) hx hb hml hown hts hkb hH hOX hks hE hS hA (s_Tok_go l D cs kf T O X v32 t_v32 (hO.sub (by decide))) kw_641 kw_453 kw_454 kw_3 kw_455 (by decide +kernel) ⟨Nat.le_of_ble_eq_true rfl, Nat.le_of_ble_eq_true rfl⟩ (HT.recv (ci := 7) hkb hH t_v32 (hO.no t_v32 (by decide)) rfl) rfl rfl hl.1 (Nat.le_of_ble_eq_true rfl) dX3_readBoth_35 ⟨Nat.le_of_ble_eq_true rfl, Nat.le_of_ble_eq_true rfl⟩) (fun u H locs hz9 hH hS => ?_)
            have hz9 : u = (T, O, X) := hz9
            subst hz9
            have hH : HT D cs A T O X H := hH
            refine W.widen (k := 0) (n := 0) (Nat.le_of_ble_eq_true rfl) (Nat.le_of_ble_eq_true rfl) ?_
            refine lv_aload_n hx hb dX3_readBoth_38 rfl (lv_at hl 2 rfl) ?_
            refine t_get (ci := 3) (lst := ft3 0 0) (C := RX3) (F := TX3) (N := 3) hx hb hts uX3 hown hkb hH t_a0 (hO.no t_a0 (by decide)) (fun _ h9 => h9) rfl rfl 2 (by decide) rfl kw_84 (fun _ h9 => h9) dX3_readBoth_39 (fun v9 h9 => ?_)
            obtain ⟨v39, rfl, l_v39, u_v39⟩ := h9
            refine lv_istore (lv' := [(4, .int v39), (3, .int p8_3), (2, .int p8_2), (0, .ref a0), (1, .int x1)]) hx hb dX3_readBoth_42 hl (by decide) rfl (fun ls hl => ?_)
            refine lv_aload_n hx hb dX3_readBoth_44 rfl (lv_at hl 3 rfl) ?_
            refine lv_iconst (v := 3) hx hb dX3_readBoth_45 (by decide) ?_
            refine lv_iconst (v := 0) hx hb dX3_readBoth_46 (by decide) ?_
            refine tk_v hH hS hA (tr_V (n := 2) (As := [.int 3, .int 0]) hx hb hml hown hts hkb hH hOX hks hE hS hA (s_LR_put l D cs kf T O X a0 (3) (0) t_a0 (hO.sub (by decide))) kw_642 kw_644 ks_9 kw_4 kw_645 (by decide +kernel) ⟨Nat.le_of_ble_eq_true rfl, Nat.le_of_ble_eq_true rfl⟩ (HT.recv (ci := 3) hkb hH t_a0 (hO.no t_a0 (by decide)) rfl) rfl rfl hl.1 (Nat.le_of_ble_eq_true rfl) dX3_readBoth_47 ⟨Nat.le_of_ble_eq_true rfl, Nat.le_of_ble_eq_true rfl⟩) (fun u H locs hz9 hH hS => ?_)
            have hz9 : u = (T, O, X) := hz9
            subst hz9
            have hH : HT D cs A T O X H := hH
            refine W.widen (k := 0) (n := 0) (Nat.le_of_ble_eq_true rfl) (Nat.le_of_ble_eq_true rfl) ?_
            refine lv_aload_n hx hb dX3_readBoth_50 rfl (lv_at hl 3 rfl) ?_
            refine lv_iload_n hx hb dX3_readBoth_51 rfl (lv_at hl 4 rfl) ?_
            refine tk_i hH hS hA (tr_V (n := 1) (As := [.int x1]) hx hb hml hown hts hkb hH hOX hks hE hS hA (s_LR_readUnit3 l D cs kf T O X a0 x1 t_a0 (by omega) (by omega) (hO.sub (by decide))) kw_630 kw_632 ks_7 kw_4 kw_633 (by decide +kernel) ⟨Nat.le_of_ble_eq_true rfl, Nat.le_of_ble_eq_true rfl⟩ (HT.recv (ci := 3) hkb hH t_a0 (hO.no t_a0 (by decide)) rfl) rfl rfl hl.1 (Nat.le_of_ble_eq_true rfl) dX3_readBoth_52 ⟨Nat.le_of_ble_eq_true rfl, Nat.le_of_ble_eq_true rfl⟩) (fun v52 u H locs hz9 hH hS => ?_)
            obtain ⟨rfl, l_v52, u_v52⟩ := hz9
            have hH : HT D cs A T O X H := hH
            refine W.widen (k := 0) (n := 0) (Nat.le_of_ble_eq_true rfl) (Nat.le_of_ble_eq_true rfl) ?_
            refine lv_istore_n (lv' := [(2, .int v52), (4, .int v39), (3, .int p8_3), (0, .ref a0), (1, .int x1)]) hx hb dX3_readBoth_55 rfl hl (by decide) rfl (fun ls hl => ?_)
            refine lv_aload_n hx hb dX3_readBoth_56 rfl (lv_at hl 3 rfl) ?_
            refine lv_iload hx hb dX3_readBoth_57 (lv_at hl 1 rfl) ?_
            refine tk_v hH hS hA (tr_V (n := 1) (As := [.int v39]) hx hb hml hown hts hkb hH hOX hks hE hS hA (s_LR_aimSkip l D cs kf T O X a0 v39 t_a0 (hO.sub (by decide))) kw_672 kw_674 ks_14 kw_4 kw_675 (by decide +kernel) ⟨Nat.le_of_ble_eq_true rfl, Nat.le_of_ble_eq_true rfl⟩ (HT.recv (ci := 3) hkb hH t_a0 (hO.no t_a0 (by decide)) rfl) rfl rfl hl.1 (Nat.le_of_ble_eq_true rfl) dX3_readBoth_59 ⟨Nat.le_of_ble_eq_true rfl, Nat.le_of_ble_eq_true rfl⟩) (fun u H locs hz9 hH hS => ?_)
            have hz9 : u = (T, O, X) := hz9
            subst hz9
            have hH : HT D cs A T O X H := hH
            refine W.widen (k := 0) (n := 0) (Nat.le_of_ble_eq_true rfl) (Nat.le_of_ble_eq_true rfl) ?_
            obtain ⟨v62, ev62⟩ : ∃ y : Int32, y = p8_3 + 1 := ⟨_, rfl⟩
            have tv62 : v62.toInt = p8_3.toInt + (1) := by rw [ev62]; exact add_i rfl (by decide) (by omega) (by omega)
            refine lv_iinc (v := v62) (lv' := [(3, .int v62), (2, .int v52), (4, .int v39), (0, .ref a0), (1, .int x1)]) hx hb dX3_readBoth_62 hl (k := 2) rfl (by rw [ev62]; rfl) (by decide) rfl (fun ls hl => ?_)
            refine lv_goto (tgt := 8) hx hb dX3_readBoth_65 (by decide) ?_
            exact ih8 _ (by omega) v62 v52 _ _ _ rfl (by omega) (by omega) (by omega) (by omega) hH hS (lv_sub hl [0, 1, 3, 4] rfl)
  refine lv_istore_n (lv' := [(3, .int 0), (2, .int v2), (0, .ref a0), (1, .int x1)]) hx hb dX3_readBoth_7 rfl hl (by decide) rfl (fun ls hl => ?_)
  exact J8 _ 0 v2 _ _ _ rfl (by decide) (by decide) (by omega) (by omega) hH hS (lv_sub hl [0, 1, 2, 3] rfl)
set_option maxHeartbeats 4000000 in
set_option maxRecDepth 100000 in
theorem s_LR_readTruth3 (l : Launch) (D : va_G) (cs : CS) (kf : KF) (T : TF) (O : List Nat) (X : va_W) (a0 : Nat) (x1 : Int32) (t_a0 : T a0 = some (13, 0, 0)) (l_x1 : 3 ≤ x1.toInt) (u_x1 : x1.toInt ≤ 3) (hO : okO T O [0, 1, 13, 17]) : TK l D cs kf yX3_readTruth cX3_readTruth 5 (some (.boolean)) { frames := 20, cells := 0, slots := 0, locals := 452 } [.ref a0, .int x1] T O X (Ti D cs (fun r u => u = (T, O, X) ∧ 0 ≤ r.toInt ∧ r.toInt ≤ 1)) := by
  refine tk_of (by decide) (Nat.le_of_ble_eq_true rfl) (fun p e s m below meth c ls A H locs hx hb hr hml hown hts hlocks hnm hkb hH hS hA hOX hks hE hl => ?_)
  have hown : s.vm.findClass RX3 = some m.cls := hown
  have hl : lv_has ls 5 [(0, .ref a0), (1, .int x1)] := hl
  refine lv_aload_n hx hb dX3_readTruth_0 rfl (lv_at hl 0 rfl) ?_
  refine lv_iload_n hx hb dX3_readTruth_1 rfl (lv_at hl 1 rfl) ?_
  refine tk_i hH hS hA (tr_V (n := 1) (As := [.int x1]) hx hb hml hown hts hkb hH hOX hks hE hS hA (s_LR_readBoth3 l D cs kf T O X a0 x1 t_a0 (by omega) (by omega) (hO.sub (by decide))) kw_626 kw_628 ks_6 kw_4 kw_629 (by decide +kernel) ⟨Nat.le_of_ble_eq_true rfl, Nat.le_of_ble_eq_true rfl⟩ (HT.recv (ci := 3) hkb hH t_a0 (hO.no t_a0 (by decide)) rfl) rfl rfl hl.1 (Nat.le_of_ble_eq_true rfl) dX3_readTruth_2 ⟨Nat.le_of_ble_eq_true rfl, Nat.le_of_ble_eq_true rfl⟩) (fun v2 u H locs hz9 hH hS => ?_)
  obtain ⟨rfl, l_v2, u_v2⟩ := hz9
  have hH : HT D cs A T O X H := hH
  refine W.widen (k := 0) (n := 0) (Nat.le_of_ble_eq_true rfl) (Nat.le_of_ble_eq_true rfl) ?_
  refine lv_istore_n (lv' := [(2, .int v2), (0, .ref a0), (1, .int x1)]) hx hb dX3_readTruth_5 rfl hl (by decide) rfl (fun ls hl => ?_)
  refine lv_iconst (v := 0) hx hb dX3_readTruth_6 (by decide) ?_
  have J8 : ∀ (n : Nat) (p8_3 : Int32) (p8_2 : Int32) (H : Heap) (locs : List Loc) (ls : Array Slot), (900 - p8_3.toInt).toNat = n → (0 ≤ p8_3.toInt) → (p8_3.toInt ≤ 900) → (0 ≤ p8_2.toInt) → (p8_2.toInt ≤ 1) → HT D cs A T O X H → va_S A s.heap H locs → lv_has ls 5 [(3, .int p8_3), (2, .int p8_2), (0, .ref a0), (1, .int x1)] → W p l e { frames := 20, cells := 0, slots := 0, locals := 452 } s m [.ref a0, .int x1].toArray below meth c H locs 0 0 (MQ below (Ti D cs (fun r u => u = (T, O, X) ∧ 0 ≤ r.toInt ∧ r.toInt ≤ 1) A) [.ref a0, .int x1].toArray s 0 0 A) (F0 m 8 ls []) := by
    intro n
    induction n using Nat.strongRecOn with
    | _ n ih8 =>
      intro p8_3 p8_2 H locs ls hm8 l_p8_3 u_p8_3 l_p8_2 u_p8_2 hH hS hl
      refine lv_iload_n hx hb dX3_readTruth_8 rfl (lv_at hl 0 rfl) ?_
      refine lv_sipush (v := 900) hx hb dX3_readTruth_9 (by decide) ?_
      have J68 : ∀  (H : Heap) (locs : List Loc) (ls : Array Slot), HT D cs A T O X H → va_S A s.heap H locs → lv_has ls 5 [(2, .int p8_2)] → W p l e { frames := 20, cells := 0, slots := 0, locals := 452 } s m [.ref a0, .int x1].toArray below meth c H locs 0 0 (MQ below (Ti D cs (fun r u => u = (T, O, X) ∧ 0 ≤ r.toInt ∧ r.toInt ≤ 1) A) [.ref a0, .int x1].toArray s 0 0 A) (F0 m 68 ls []) := by
        intro  H locs ls  hH hS hl
        refine lv_iload_n hx hb dX3_readTruth_68 rfl (lv_at hl 0 rfl) ?_
        exact te_z hx hb hr hlocks (nar01 (by omega) (by omega)) hH hS (⟨rfl, by omega, by omega⟩) dX3_readTruth_69
      refine lv_icmp_ge (tgt := 68) hx hb dX3_readTruth_12 (by decide) (fun c12 => ?_) (fun c12 => ?_)
      · skip
        have tc12 := f_ge (k := 900) (by decide) c12
        exact J68  _ _ _  hH hS (lv_sub hl [1] rfl)
      · skip
        have tc12 := f_nge (k := 900) (by decide) c12
        refine lv_iload_n hx hb dX3_readTruth_15 rfl (lv_at hl 1 rfl) ?_
        refine lv_if_eq (tgt := 68) hx hb dX3_readTruth_16 (by decide) (fun c16 => ?_) (fun c16 => ?_)
        · skip
          have tc16 := f_eq (k := 0) (by decide) c16
          exact J68  _ _ _  hH hS (lv_sub hl [1] rfl)
        · skip
          have tc16 := f_ne (k := 0) (by decide) c16
          refine lv_aload_n hx hb dX3_readTruth_19 rfl (lv_at hl 2 rfl) ?_
          refine t_get (ci := 3) (lst := ft3 0 0) (C := RX3) (F := TX3) (N := 3) hx hb hts uX3 hown hkb hH t_a0 (hO.no t_a0 (by decide)) (fun _ h9 => h9) rfl rfl 0 (by decide) rfl kw_82 (fun _ h9 => h9) dX3_readTruth_20 (fun v9 h9 => ?_)
          obtain ⟨v20, rfl, t_v20⟩ := h9
          refine va_ldcS (q := kf.1 16) hx hb hown (hks ("FootholdWall$LawReader", 41, "or", 16) (by decide +kernel)) dX3_readTruth_23 ?_
          refine tk_i hH hS hA (tr_V (n := 1) (As := [.ref (kf.1 16)]) hx hb hml hown hts hkb hH hOX hks hE hS hA (s_Tok_isWord l D cs kf T O X v20 16 t_v20 (by decide) (hO.sub (by decide))) kw_635 kw_551 kw_552 kw_3 kw_553 (by decide +kernel) ⟨Nat.le_of_ble_eq_true rfl, Nat.le_of_ble_eq_true rfl⟩ (HT.recv (ci := 7) hkb hH t_v20 (hO.no t_v20 (by decide)) rfl) rfl rfl hl.1 (Nat.le_of_ble_eq_true rfl) dX3_readTruth_25 ⟨Nat.le_of_ble_eq_true rfl, Nat.le_of_ble_eq_true rfl⟩) (fun v25 u H locs hz9 hH hS => ?_)
          obtain ⟨rfl, l_v25, u_v25⟩ := hz9
          have hH : HT D cs A T O X H := hH
          refine W.widen (k := 0) (n := 0) (Nat.le_of_ble_eq_true rfl) (Nat.le_of_ble_eq_true rfl) ?_
          refine lv_if_eq (tgt := 68) hx hb dX3_readTruth_28 (by decide) (fun c28 => ?_) (fun c28 => ?_)
          · skip
            have tc28 := f_eq (k := 0) (by decide) c28
            exact J68  _ _ _  hH hS (lv_sub hl [1] rfl)
          · skip
            have tc28 := f_ne (k := 0) (by decide) c28
            refine lv_aload_n hx hb dX3_readTruth_31 rfl (lv_at hl 2 rfl) ?_
            refine t_get (ci := 3) (lst := ft3 0 0) (C := RX3) (F := TX3) (N := 3) hx hb hts uX3 hown hkb hH t_a0 (hO.no t_a0 (by decide)) (fun _ h9 => h9) rfl rfl 0 (by decide) rfl kw_82 (fun _ h9 => h9) dX3_readTruth_32 (fun v9 h9 => ?_)
            obtain ⟨v32, rfl, t_v32⟩ := h9
            refine tk_v hH hS hA (tr_V (n := 0) (As := []) hx hb hml hown hts hkb hH hOX hks hE hS hA (s_Tok_go l D cs kf T O X v32 t_v32 (hO.sub (by decide))) kw_641 kw_453 kw_454 kw_3 kw_455 (by decide +kernel) ⟨Nat.le_of_ble_eq_true rfl, Nat.le_of_ble_eq_true rfl⟩ (HT.recv (ci := 7) hkb hH t_v32 (hO.no t_v32 (by decide)) rfl) rfl rfl hl.1 (Nat.le_of_ble_eq_true rfl) dX3_readTruth_35 ⟨Nat.le_of_ble_eq_true rfl, Nat.le_of_ble_eq_true rfl⟩) (fun u H locs hz9 hH hS => ?_)
            have hz9 : u = (T, O, X) := hz9
            subst hz9
            have hH : HT D cs A T O X H := hH
            refine W.widen (k := 0) (n := 0) (Nat.le_of_ble_eq_true rfl) (Nat.le_of_ble_eq_true rfl) ?_
            refine lv_aload_n hx hb dX3_readTruth_38 rfl (lv_at hl 2 rfl) ?_
            refine t_get (ci := 3) (lst := ft3 0 0) (C := RX3) (F := TX3) (N := 3) hx hb hts uX3 hown hkb hH t_a0 (hO.no t_a0 (by decide)) (fun _ h9 => h9) rfl rfl 2 (by decide) rfl kw_84 (fun _ h9 => h9) dX3_readTruth_39 (fun v9 h9 => ?_)
            obtain ⟨v39, rfl, l_v39, u_v39⟩ := h9
            refine lv_istore (lv' := [(4, .int v39), (3, .int p8_3), (2, .int p8_2), (0, .ref a0), (1, .int x1)]) hx hb dX3_readTruth_42 hl (by decide) rfl (fun ls hl => ?_)
            refine lv_aload_n hx hb dX3_readTruth_44 rfl (lv_at hl 3 rfl) ?_
            refine lv_iconst (v := 4) hx hb dX3_readTruth_45 (by decide) ?_
            refine lv_iconst (v := 0) hx hb dX3_readTruth_46 (by decide) ?_
            refine tk_v hH hS hA (tr_V (n := 2) (As := [.int 4, .int 0]) hx hb hml hown hts hkb hH hOX hks hE hS hA (s_LR_put l D cs kf T O X a0 (4) (0) t_a0 (hO.sub (by decide))) kw_642 kw_644 ks_9 kw_4 kw_645 (by decide +kernel) ⟨Nat.le_of_ble_eq_true rfl, Nat.le_of_ble_eq_true rfl⟩ (HT.recv (ci := 3) hkb hH t_a0 (hO.no t_a0 (by decide)) rfl) rfl rfl hl.1 (Nat.le_of_ble_eq_true rfl) dX3_readTruth_47 ⟨Nat.le_of_ble_eq_true rfl, Nat.le_of_ble_eq_true rfl⟩) (fun u H locs hz9 hH hS => ?_)
            have hz9 : u = (T, O, X) := hz9
            subst hz9
            have hH : HT D cs A T O X H := hH
            refine W.widen (k := 0) (n := 0) (Nat.le_of_ble_eq_true rfl) (Nat.le_of_ble_eq_true rfl) ?_
            refine lv_aload_n hx hb dX3_readTruth_50 rfl (lv_at hl 3 rfl) ?_
            refine lv_iload_n hx hb dX3_readTruth_51 rfl (lv_at hl 4 rfl) ?_
            refine tk_i hH hS hA (tr_V (n := 1) (As := [.int x1]) hx hb hml hown hts hkb hH hOX hks hE hS hA (s_LR_readBoth3 l D cs kf T O X a0 x1 t_a0 (by omega) (by omega) (hO.sub (by decide))) kw_626 kw_628 ks_6 kw_4 kw_629 (by decide +kernel) ⟨Nat.le_of_ble_eq_true rfl, Nat.le_of_ble_eq_true rfl⟩ (HT.recv (ci := 3) hkb hH t_a0 (hO.no t_a0 (by decide)) rfl) rfl rfl hl.1 (Nat.le_of_ble_eq_true rfl) dX3_readTruth_52 ⟨Nat.le_of_ble_eq_true rfl, Nat.le_of_ble_eq_true rfl⟩) (fun v52 u H locs hz9 hH hS => ?_)
            obtain ⟨rfl, l_v52, u_v52⟩ := hz9
            have hH : HT D cs A T O X H := hH
            refine W.widen (k := 0) (n := 0) (Nat.le_of_ble_eq_true rfl) (Nat.le_of_ble_eq_true rfl) ?_
            refine lv_istore_n (lv' := [(2, .int v52), (4, .int v39), (3, .int p8_3), (0, .ref a0), (1, .int x1)]) hx hb dX3_readTruth_55 rfl hl (by decide) rfl (fun ls hl => ?_)
            refine lv_aload_n hx hb dX3_readTruth_56 rfl (lv_at hl 3 rfl) ?_
            refine lv_iload hx hb dX3_readTruth_57 (lv_at hl 1 rfl) ?_
            refine tk_v hH hS hA (tr_V (n := 1) (As := [.int v39]) hx hb hml hown hts hkb hH hOX hks hE hS hA (s_LR_aimSkip l D cs kf T O X a0 v39 t_a0 (hO.sub (by decide))) kw_672 kw_674 ks_14 kw_4 kw_675 (by decide +kernel) ⟨Nat.le_of_ble_eq_true rfl, Nat.le_of_ble_eq_true rfl⟩ (HT.recv (ci := 3) hkb hH t_a0 (hO.no t_a0 (by decide)) rfl) rfl rfl hl.1 (Nat.le_of_ble_eq_true rfl) dX3_readTruth_59 ⟨Nat.le_of_ble_eq_true rfl, Nat.le_of_ble_eq_true rfl⟩) (fun u H locs hz9 hH hS => ?_)
            have hz9 : u = (T, O, X) := hz9
            subst hz9
            have hH : HT D cs A T O X H := hH
            refine W.widen (k := 0) (n := 0) (Nat.le_of_ble_eq_true rfl) (Nat.le_of_ble_eq_true rfl) ?_
            obtain ⟨v62, ev62⟩ : ∃ y : Int32, y = p8_3 + 1 := ⟨_, rfl⟩
            have tv62 : v62.toInt = p8_3.toInt + (1) := by rw [ev62]; exact add_i rfl (by decide) (by omega) (by omega)
            refine lv_iinc (v := v62) (lv' := [(3, .int v62), (2, .int v52), (4, .int v39), (0, .ref a0), (1, .int x1)]) hx hb dX3_readTruth_62 hl (k := 2) rfl (by rw [ev62]; rfl) (by decide) rfl (fun ls hl => ?_)
            refine lv_goto (tgt := 8) hx hb dX3_readTruth_65 (by decide) ?_
            exact ih8 _ (by omega) v62 v52 _ _ _ rfl (by omega) (by omega) (by omega) (by omega) hH hS (lv_sub hl [0, 1, 3, 4] rfl)
  refine lv_istore_n (lv' := [(3, .int 0), (2, .int v2), (0, .ref a0), (1, .int x1)]) hx hb dX3_readTruth_7 rfl hl (by decide) rfl (fun ls hl => ?_)
  exact J8 _ 0 v2 _ _ _ rfl (by decide) (by decide) (by omega) (by omega) hH hS (lv_sub hl [0, 1, 2, 3] rfl)
set_option maxHeartbeats 4000000 in
set_option maxRecDepth 100000 in
theorem s_LR_enter2 (l : Launch) (D : va_G) (cs : CS) (kf : KF) (T : TF) (O : List Nat) (X : va_W) (a0 : Nat) (x1 : Int32) (t_a0 : T a0 = some (13, 0, 0)) (l_x1 : 2 ≤ x1.toInt) (u_x1 : x1.toInt ≤ 2) (hO : okO T O [0, 13, 17]) : TK l D cs kf yX3_enter cX3_enter 2 (some (.boolean)) { frames := 5, cells := 0, slots := 0, locals := 111 } [.ref a0, .int x1] T O X (Ti D cs (fun r u => u = (T, O, X) ∧ 1 ≤ r.toInt ∧ r.toInt ≤ 1)) := by
  refine tk_of (by decide) (Nat.le_of_ble_eq_true rfl) (fun p e s m below meth c ls A H locs hx hb hr hml hown hts hlocks hnm hkb hH hS hA hOX hks hE hl => ?_)
  have hown : s.vm.findClass RX3 = some m.cls := hown
  have hl : lv_has ls 2 [(0, .ref a0), (1, .int x1)] := hl
  refine lv_iload_n hx hb dX3_enter_0 rfl (lv_at hl 1 rfl) ?_
  refine lv_bipush (v := 6) hx hb dX3_enter_1 (by decide) ?_
  refine lv_icmp_lt (tgt := 15) hx hb dX3_enter_3 (by decide) (fun c3 => ?_) (fun c3 => ?_)
  · skip
    have tc3 := f_lt (k := 6) (by decide) c3
    refine lv_aload_n hx hb dX3_enter_15 rfl (lv_at hl 0 rfl) ?_
    refine t_get (ci := 3) (lst := ft3 0 0) (C := RX3) (F := TX3) (N := 3) hx hb hts uX3 hown hkb hH t_a0 (hO.no t_a0 (by decide)) (fun _ h9 => h9) rfl rfl 0 (by decide) rfl kw_82 (fun _ h9 => h9) dX3_enter_16 (fun v9 h9 => ?_)
    obtain ⟨v16, rfl, t_v16⟩ := h9
    refine tk_v hH hS hA (tr_V (n := 0) (As := []) hx hb hml hown hts hkb hH hOX hks hE hS hA (s_Tok_go l D cs kf T O X v16 t_v16 (hO.sub (by decide))) kw_641 kw_453 kw_454 kw_3 kw_455 (by decide +kernel) ⟨Nat.le_of_ble_eq_true rfl, Nat.le_of_ble_eq_true rfl⟩ (HT.recv (ci := 7) hkb hH t_v16 (hO.no t_v16 (by decide)) rfl) rfl rfl hl.1 (Nat.le_of_ble_eq_true rfl) dX3_enter_19 ⟨Nat.le_of_ble_eq_true rfl, Nat.le_of_ble_eq_true rfl⟩) (fun u H locs hz9 hH hS => ?_)
    have hz9 : u = (T, O, X) := hz9
    subst hz9
    have hH : HT D cs A T O X H := hH
    refine W.widen (k := 0) (n := 0) (Nat.le_of_ble_eq_true rfl) (Nat.le_of_ble_eq_true rfl) ?_
    refine lv_iconst (v := 1) hx hb dX3_enter_22 (by decide) ?_
    exact te_z hx hb hr hlocks (by rfl) hH hS (⟨rfl, by decide, by decide⟩) dX3_enter_23
  · skip
    have tc3 := f_nlt (k := 6) (by decide) c3
    exfalso; omega
set_option maxHeartbeats 4000000 in
set_option maxRecDepth 100000 in
theorem s_LR_readAtom2 (l : Launch) (D : va_G) (cs : CS) (kf : KF) (T : TF) (O : List Nat) (X : va_W) (a0 : Nat) (x1 : Int32) (t_a0 : T a0 = some (13, 0, 0)) (l_x1 : 2 ≤ x1.toInt) (u_x1 : x1.toInt ≤ 2) (hO : okO T O [0, 1, 13, 17]) : TK l D cs kf yX3_readAtom cX3_readAtom 3 (some (.boolean)) { frames := 18, cells := 0, slots := 0, locals := 403 } [.ref a0, .int x1] T O X (Ti D cs (fun r u => u = (T, O, X) ∧ 0 ≤ r.toInt ∧ r.toInt ≤ 1)) := by
  refine tk_of (by decide) (Nat.le_of_ble_eq_true rfl) (fun p e s m below meth c ls A H locs hx hb hr hml hown hts hlocks hnm hkb hH hS hA hOX hks hE hl => ?_)
  have hown : s.vm.findClass RX3 = some m.cls := hown
  have hl : lv_has ls 3 [(0, .ref a0), (1, .int x1)] := hl
  refine lv_aload_n hx hb dX3_readAtom_0 rfl (lv_at hl 0 rfl) ?_
  refine t_get (ci := 3) (lst := ft3 0 0) (C := RX3) (F := TX3) (N := 3) hx hb hts uX3 hown hkb hH t_a0 (hO.no t_a0 (by decide)) (fun _ h9 => h9) rfl rfl 0 (by decide) rfl kw_82 (fun _ h9 => h9) dX3_readAtom_1 (fun v9 h9 => ?_)
  obtain ⟨v1, rfl, t_v1⟩ := h9
  refine lv_bipush (v := 40) hx hb dX3_readAtom_4 (by decide) ?_
  refine tk_i hH hS hA (tr_V (n := 1) (As := [.int 40]) hx hb hml hown hts hkb hH hOX hks hE hS hA (s_Tok_isSign l D cs kf T O X v1 (40) t_v1 (hO.sub (by decide))) kw_646 kw_615 kw_616 kw_3 kw_617 (by decide +kernel) ⟨Nat.le_of_ble_eq_true rfl, Nat.le_of_ble_eq_true rfl⟩ (HT.recv (ci := 7) hkb hH t_v1 (hO.no t_v1 (by decide)) rfl) rfl rfl hl.1 (Nat.le_of_ble_eq_true rfl) dX3_readAtom_6 ⟨Nat.le_of_ble_eq_true rfl, Nat.le_of_ble_eq_true rfl⟩) (fun v6 u H locs hz9 hH hS => ?_)
  obtain ⟨rfl, l_v6, u_v6⟩ := hz9
  have hH : HT D cs A T O X H := hH
  refine W.widen (k := 0) (n := 0) (Nat.le_of_ble_eq_true rfl) (Nat.le_of_ble_eq_true rfl) ?_
  refine lv_if_eq (tgt := 48) hx hb dX3_readAtom_9 (by decide) (fun c9 => ?_) (fun c9 => ?_)
  · skip
    have tc9 := f_eq (k := 0) (by decide) c9
    refine lv_aload_n hx hb dX3_readAtom_48 rfl (lv_at hl 0 rfl) ?_
    refine t_get (ci := 3) (lst := ft3 0 0) (C := RX3) (F := TX3) (N := 3) hx hb hts uX3 hown hkb hH t_a0 (hO.no t_a0 (by decide)) (fun _ h9 => h9) rfl rfl 0 (by decide) rfl kw_82 (fun _ h9 => h9) dX3_readAtom_49 (fun v9 h9 => ?_)
    obtain ⟨v49, rfl, t_v49⟩ := h9
    refine t_get (ci := 7) (lst := ft7 0 0) (C := RX7) (F := TX7) (N := 8) hx hb hts uX7 hown hkb hH t_v49 (hO.no t_v49 (by decide)) (fun _ h9 => ob7_ok h9) rfl rfl 4 (by decide) rfl kw_50 (fun _ h9 => h9) dX3_readAtom_52 (fun v9 h9 => ?_)
    obtain ⟨v52, rfl⟩ := h9
    refine lv_iconst (v := 2) hx hb dX3_readAtom_55 (by decide) ?_
    refine lv_icmp_ne (tgt := 80) hx hb dX3_readAtom_56 (by decide) (fun c56 => ?_) (fun c56 => ?_)
    · skip
      have tc56 := f_ne (k := 2) (by decide) c56
      refine lv_aload_n hx hb dX3_readAtom_80 rfl (lv_at hl 0 rfl) ?_
      refine tk_i hH hS hA (tr_V (n := 0) (As := []) hx hb hml hown hts hkb hH hOX hks hE hS hA (s_LR_factHere l D cs kf T O X a0 t_a0 (hO.sub (by decide))) kw_660 kw_662 ks_13 kw_4 kw_663 (by decide +kernel) ⟨Nat.le_of_ble_eq_true rfl, Nat.le_of_ble_eq_true rfl⟩ (HT.recv (ci := 3) hkb hH t_a0 (hO.no t_a0 (by decide)) rfl) rfl rfl hl.1 (Nat.le_of_ble_eq_true rfl) dX3_readAtom_81 ⟨Nat.le_of_ble_eq_true rfl, Nat.le_of_ble_eq_true rfl⟩) (fun v81 u H locs hz9 hH hS => ?_)
      obtain ⟨rfl, l_v81, u_v81⟩ := hz9
      have hH : HT D cs A T O X H := hH
      refine W.widen (k := 0) (n := 0) (Nat.le_of_ble_eq_true rfl) (Nat.le_of_ble_eq_true rfl) ?_
      refine lv_istore_n (lv' := [(2, .int v81), (0, .ref a0), (1, .int x1)]) hx hb dX3_readAtom_84 rfl hl (by decide) rfl (fun ls hl => ?_)
      refine lv_iload_n hx hb dX3_readAtom_85 rfl (lv_at hl 0 rfl) ?_
      refine lv_iconst (v := (-1)) hx hb dX3_readAtom_86 (by decide) ?_
      refine lv_icmp_ne (tgt := 99) hx hb dX3_readAtom_87 (by decide) (fun c87 => ?_) (fun c87 => ?_)
      · skip
        have tc87 := f_ne (k := -1) (by decide) c87
        refine lv_aload_n hx hb dX3_readAtom_99 rfl (lv_at hl 1 rfl) ?_
        refine lv_iconst (v := 1) hx hb dX3_readAtom_100 (by decide) ?_
        refine lv_iload_n hx hb dX3_readAtom_101 rfl (lv_at hl 0 rfl) ?_
        refine tk_v hH hS hA (tr_V (n := 2) (As := [.int 1, .int v81]) hx hb hml hown hts hkb hH hOX hks hE hS hA (s_LR_put l D cs kf T O X a0 (1) v81 t_a0 (hO.sub (by decide))) kw_642 kw_644 ks_9 kw_4 kw_645 (by decide +kernel) ⟨Nat.le_of_ble_eq_true rfl, Nat.le_of_ble_eq_true rfl⟩ (HT.recv (ci := 3) hkb hH t_a0 (hO.no t_a0 (by decide)) rfl) rfl rfl hl.1 (Nat.le_of_ble_eq_true rfl) dX3_readAtom_102 ⟨Nat.le_of_ble_eq_true rfl, Nat.le_of_ble_eq_true rfl⟩) (fun u H locs hz9 hH hS => ?_)
        have hz9 : u = (T, O, X) := hz9
        subst hz9
        have hH : HT D cs A T O X H := hH
        refine W.widen (k := 0) (n := 0) (Nat.le_of_ble_eq_true rfl) (Nat.le_of_ble_eq_true rfl) ?_
        refine lv_aload_n hx hb dX3_readAtom_105 rfl (lv_at hl 1 rfl) ?_
        refine t_get (ci := 3) (lst := ft3 0 0) (C := RX3) (F := TX3) (N := 3) hx hb hts uX3 hown hkb hH t_a0 (hO.no t_a0 (by decide)) (fun _ h9 => h9) rfl rfl 0 (by decide) rfl kw_82 (fun _ h9 => h9) dX3_readAtom_106 (fun v9 h9 => ?_)
        obtain ⟨v106, rfl, t_v106⟩ := h9
        refine tk_v hH hS hA (tr_V (n := 0) (As := []) hx hb hml hown hts hkb hH hOX hks hE hS hA (s_Tok_go l D cs kf T O X v106 t_v106 (hO.sub (by decide))) kw_641 kw_453 kw_454 kw_3 kw_455 (by decide +kernel) ⟨Nat.le_of_ble_eq_true rfl, Nat.le_of_ble_eq_true rfl⟩ (HT.recv (ci := 7) hkb hH t_v106 (hO.no t_v106 (by decide)) rfl) rfl rfl hl.1 (Nat.le_of_ble_eq_true rfl) dX3_readAtom_109 ⟨Nat.le_of_ble_eq_true rfl, Nat.le_of_ble_eq_true rfl⟩) (fun u H locs hz9 hH hS => ?_)
        have hz9 : u = (T, O, X) := hz9
        subst hz9
        have hH : HT D cs A T O X H := hH
        refine W.widen (k := 0) (n := 0) (Nat.le_of_ble_eq_true rfl) (Nat.le_of_ble_eq_true rfl) ?_
        refine lv_iconst (v := 1) hx hb dX3_readAtom_112 (by decide) ?_
        exact te_z hx hb hr hlocks (by rfl) hH hS (⟨rfl, by decide, by decide⟩) dX3_readAtom_113
      · skip
        have tc87 := f_eq (k := -1) (by decide) c87
        refine lv_aload_n hx hb dX3_readAtom_90 rfl (lv_at hl 1 rfl) ?_
        refine t_get (ci := 3) (lst := ft3 0 0) (C := RX3) (F := TX3) (N := 3) hx hb hts uX3 hown hkb hH t_a0 (hO.no t_a0 (by decide)) (fun _ h9 => h9) rfl rfl 0 (by decide) rfl kw_82 (fun _ h9 => h9) dX3_readAtom_91 (fun v9 h9 => ?_)
        obtain ⟨v91, rfl, t_v91⟩ := h9
        refine lv_iconst (v := 2) hx hb dX3_readAtom_94 (by decide) ?_
        refine tk_i hH hS hA (tr_V (n := 1) (As := [.int 2]) hx hb hml hown hts hkb hH hOX hks hE hS hA (s_Tok_refuse l D cs kf T O X v91 (2) t_v91 (hO.sub (by decide))) kw_640 kw_580 kw_581 kw_3 kw_582 (by decide +kernel) ⟨Nat.le_of_ble_eq_true rfl, Nat.le_of_ble_eq_true rfl⟩ (HT.recv (ci := 7) hkb hH t_v91 (hO.no t_v91 (by decide)) rfl) rfl rfl hl.1 (Nat.le_of_ble_eq_true rfl) dX3_readAtom_95 ⟨Nat.le_of_ble_eq_true rfl, Nat.le_of_ble_eq_true rfl⟩) (fun v95 u H locs hz9 hH hS => ?_)
        obtain ⟨rfl, l_v95, u_v95⟩ := hz9
        have hH : HT D cs A T O X H := hH
        refine W.widen (k := 0) (n := 0) (Nat.le_of_ble_eq_true rfl) (Nat.le_of_ble_eq_true rfl) ?_
        exact te_z hx hb hr hlocks (nar01 (by omega) (by omega)) hH hS (⟨rfl, by omega, by omega⟩) dX3_readAtom_98
    · skip
      have tc56 := f_eq (k := 2) (by decide) c56
      refine lv_aload_n hx hb dX3_readAtom_59 rfl (lv_at hl 0 rfl) ?_
      refine lv_iconst (v := 0) hx hb dX3_readAtom_60 (by decide) ?_
      refine lv_aload_n hx hb dX3_readAtom_61 rfl (lv_at hl 0 rfl) ?_
      refine t_get (ci := 3) (lst := ft3 0 0) (C := RX3) (F := TX3) (N := 3) hx hb hts uX3 hown hkb hH t_a0 (hO.no t_a0 (by decide)) (fun _ h9 => h9) rfl rfl 0 (by decide) rfl kw_82 (fun _ h9 => h9) dX3_readAtom_62 (fun v9 h9 => ?_)
      obtain ⟨v62, rfl, t_v62⟩ := h9
      refine t_get (ci := 7) (lst := ft7 0 0) (C := RX7) (F := TX7) (N := 8) hx hb hts uX7 hown hkb hH t_v62 (hO.no t_v62 (by decide)) (fun _ h9 => ob7_ok h9) rfl rfl 5 (by decide) rfl kw_53 (fun _ h9 => h9) dX3_readAtom_65 (fun v9 h9 => ?_)
      obtain ⟨v65, rfl⟩ := h9
      refine tk_v hH hS hA (tr_V (n := 2) (As := [.int 0, .int v65]) hx hb hml hown hts hkb hH hOX hks hE hS hA (s_LR_put l D cs kf T O X a0 (0) v65 t_a0 (hO.sub (by decide))) kw_642 kw_644 ks_9 kw_4 kw_645 (by decide +kernel) ⟨Nat.le_of_ble_eq_true rfl, Nat.le_of_ble_eq_true rfl⟩ (HT.recv (ci := 3) hkb hH t_a0 (hO.no t_a0 (by decide)) rfl) rfl rfl hl.1 (Nat.le_of_ble_eq_true rfl) dX3_readAtom_68 ⟨Nat.le_of_ble_eq_true rfl, Nat.le_of_ble_eq_true rfl⟩) (fun u H locs hz9 hH hS => ?_)
      have hz9 : u = (T, O, X) := hz9
      subst hz9
      have hH : HT D cs A T O X H := hH
      refine W.widen (k := 0) (n := 0) (Nat.le_of_ble_eq_true rfl) (Nat.le_of_ble_eq_true rfl) ?_
      refine lv_aload_n hx hb dX3_readAtom_71 rfl (lv_at hl 0 rfl) ?_
      refine t_get (ci := 3) (lst := ft3 0 0) (C := RX3) (F := TX3) (N := 3) hx hb hts uX3 hown hkb hH t_a0 (hO.no t_a0 (by decide)) (fun _ h9 => h9) rfl rfl 0 (by decide) rfl kw_82 (fun _ h9 => h9) dX3_readAtom_72 (fun v9 h9 => ?_)
      obtain ⟨v72, rfl, t_v72⟩ := h9
      refine tk_v hH hS hA (tr_V (n := 0) (As := []) hx hb hml hown hts hkb hH hOX hks hE hS hA (s_Tok_go l D cs kf T O X v72 t_v72 (hO.sub (by decide))) kw_641 kw_453 kw_454 kw_3 kw_455 (by decide +kernel) ⟨Nat.le_of_ble_eq_true rfl, Nat.le_of_ble_eq_true rfl⟩ (HT.recv (ci := 7) hkb hH t_v72 (hO.no t_v72 (by decide)) rfl) rfl rfl hl.1 (Nat.le_of_ble_eq_true rfl) dX3_readAtom_75 ⟨Nat.le_of_ble_eq_true rfl, Nat.le_of_ble_eq_true rfl⟩) (fun u H locs hz9 hH hS => ?_)
      have hz9 : u = (T, O, X) := hz9
      subst hz9
      have hH : HT D cs A T O X H := hH
      refine W.widen (k := 0) (n := 0) (Nat.le_of_ble_eq_true rfl) (Nat.le_of_ble_eq_true rfl) ?_
      refine lv_iconst (v := 1) hx hb dX3_readAtom_78 (by decide) ?_
      exact te_z hx hb hr hlocks (by rfl) hH hS (⟨rfl, by decide, by decide⟩) dX3_readAtom_79
  · skip
    have tc9 := f_ne (k := 0) (by decide) c9
    refine lv_aload_n hx hb dX3_readAtom_12 rfl (lv_at hl 0 rfl) ?_
    refine lv_iload_n hx hb dX3_readAtom_13 rfl (lv_at hl 1 rfl) ?_
    refine tk_i hH hS hA (tr_V (n := 1) (As := [.int x1]) hx hb hml hown hts hkb hH hOX hks hE hS hA (s_LR_enter2 l D cs kf T O X a0 x1 t_a0 (by omega) (by omega) (hO.sub (by decide))) kw_636 kw_638 ks_8 kw_4 kw_639 (by decide +kernel) ⟨Nat.le_of_ble_eq_true rfl, Nat.le_of_ble_eq_true rfl⟩ (HT.recv (ci := 3) hkb hH t_a0 (hO.no t_a0 (by decide)) rfl) rfl rfl hl.1 (Nat.le_of_ble_eq_true rfl) dX3_readAtom_14 ⟨Nat.le_of_ble_eq_true rfl, Nat.le_of_ble_eq_true rfl⟩) (fun v14 u H locs hz9 hH hS => ?_)
    obtain ⟨rfl, l_v14, u_v14⟩ := hz9
    have hH : HT D cs A T O X H := hH
    refine W.widen (k := 0) (n := 0) (Nat.le_of_ble_eq_true rfl) (Nat.le_of_ble_eq_true rfl) ?_
    refine lv_if_eq (tgt := 46) hx hb dX3_readAtom_17 (by decide) (fun c17 => ?_) (fun c17 => ?_)
    · skip
      have tc17 := f_eq (k := 0) (by decide) c17
      exfalso; omega
    · skip
      have tc17 := f_ne (k := 0) (by decide) c17
      refine lv_aload_n hx hb dX3_readAtom_20 rfl (lv_at hl 0 rfl) ?_
      refine lv_iload_n hx hb dX3_readAtom_21 rfl (lv_at hl 1 rfl) ?_
      refine lv_iconst (v := 1) hx hb dX3_readAtom_22 (by decide) ?_
      refine lv_iadd hx hb dX3_readAtom_23 ?_
      refine lv_topi (fun v23 ev23 => ?_)
      have tv23 : v23.toInt = x1.toInt + (1) := by rw [ev23]; exact add_i rfl (by decide : (1 : Int32).toInt = 1) (by omega) (by omega)
      refine tk_i hH hS hA (tr_V (n := 1) (As := [.int v23]) hx hb hml hown hts hkb hH hOX hks hE hS hA (s_LR_readSum3 l D cs kf T O X a0 v23 t_a0 (by omega) (by omega) (hO.sub (by decide))) kw_648 kw_650 ks_10 kw_4 kw_651 (by decide +kernel) ⟨Nat.le_of_ble_eq_true rfl, Nat.le_of_ble_eq_true rfl⟩ (HT.recv (ci := 3) hkb hH t_a0 (hO.no t_a0 (by decide)) rfl) rfl rfl hl.1 (Nat.le_of_ble_eq_true rfl) dX3_readAtom_24 ⟨Nat.le_of_ble_eq_true rfl, Nat.le_of_ble_eq_true rfl⟩) (fun v24 u H locs hz9 hH hS => ?_)
      obtain ⟨rfl, l_v24, u_v24⟩ := hz9
      have hH : HT D cs A T O X H := hH
      refine W.widen (k := 0) (n := 0) (Nat.le_of_ble_eq_true rfl) (Nat.le_of_ble_eq_true rfl) ?_
      have J47 : ∀ (k47_0 : Int32) (H : Heap) (locs : List Loc) (ls : Array Slot), (0 ≤ k47_0.toInt) → (k47_0.toInt ≤ 1) → HT D cs A T O X H → va_S A s.heap H locs → lv_has ls 3 [] → W p l e { frames := 18, cells := 0, slots := 0, locals := 403 } s m [.ref a0, .int x1].toArray below meth c H locs 0 0 (MQ below (Ti D cs (fun r u => u = (T, O, X) ∧ 0 ≤ r.toInt ∧ r.toInt ≤ 1) A) [.ref a0, .int x1].toArray s 0 0 A) (F0 m 47 ls [.int k47_0]) := by
        intro k47_0 H locs ls l_k47_0 u_k47_0 hH hS hl
        exact te_z hx hb hr hlocks (nar01 (by omega) (by omega)) hH hS (⟨rfl, by omega, by omega⟩) dX3_readAtom_47
      have J46 : ∀  (H : Heap) (locs : List Loc) (ls : Array Slot), HT D cs A T O X H → va_S A s.heap H locs → lv_has ls 3 [] → W p l e { frames := 18, cells := 0, slots := 0, locals := 403 } s m [.ref a0, .int x1].toArray below meth c H locs 0 0 (MQ below (Ti D cs (fun r u => u = (T, O, X) ∧ 0 ≤ r.toInt ∧ r.toInt ≤ 1) A) [.ref a0, .int x1].toArray s 0 0 A) (F0 m 46 ls []) := by
        intro  H locs ls  hH hS hl
        refine lv_iconst (v := 0) hx hb dX3_readAtom_46 (by decide) ?_
        exact J47 0 _ _ _ (by decide) (by decide) hH hS (lv_sub hl [] rfl)
      refine lv_if_eq (tgt := 46) hx hb dX3_readAtom_27 (by decide) (fun c27 => ?_) (fun c27 => ?_)
      · skip
        have tc27 := f_eq (k := 0) (by decide) c27
        exact J46  _ _ _  hH hS (lv_sub hl [] rfl)
      · skip
        have tc27 := f_ne (k := 0) (by decide) c27
        refine lv_aload_n hx hb dX3_readAtom_30 rfl (lv_at hl 0 rfl) ?_
        refine t_get (ci := 3) (lst := ft3 0 0) (C := RX3) (F := TX3) (N := 3) hx hb hts uX3 hown hkb hH t_a0 (hO.no t_a0 (by decide)) (fun _ h9 => h9) rfl rfl 0 (by decide) rfl kw_82 (fun _ h9 => h9) dX3_readAtom_31 (fun v9 h9 => ?_)
        obtain ⟨v31, rfl, t_v31⟩ := h9
        refine lv_bipush (v := 41) hx hb dX3_readAtom_34 (by decide) ?_
        refine tk_i hH hS hA (tr_V (n := 1) (As := [.int 41]) hx hb hml hown hts hkb hH hOX hks hE hS hA (s_Tok_takeSign l D cs kf T O X v31 (41) t_v31 (hO.sub (by decide))) kw_647 kw_611 kw_612 kw_3 kw_613 (by decide +kernel) ⟨Nat.le_of_ble_eq_true rfl, Nat.le_of_ble_eq_true rfl⟩ (HT.recv (ci := 7) hkb hH t_v31 (hO.no t_v31 (by decide)) rfl) rfl rfl hl.1 (Nat.le_of_ble_eq_true rfl) dX3_readAtom_36 ⟨Nat.le_of_ble_eq_true rfl, Nat.le_of_ble_eq_true rfl⟩) (fun v36 u H locs hz9 hH hS => ?_)
        obtain ⟨rfl, l_v36, u_v36⟩ := hz9
        have hH : HT D cs A T O X H := hH
        refine W.widen (k := 0) (n := 0) (Nat.le_of_ble_eq_true rfl) (Nat.le_of_ble_eq_true rfl) ?_
        refine lv_if_eq (tgt := 46) hx hb dX3_readAtom_39 (by decide) (fun c39 => ?_) (fun c39 => ?_)
        · skip
          have tc39 := f_eq (k := 0) (by decide) c39
          exact J46  _ _ _  hH hS (lv_sub hl [] rfl)
        · skip
          have tc39 := f_ne (k := 0) (by decide) c39
          refine lv_iconst (v := 1) hx hb dX3_readAtom_42 (by decide) ?_
          refine lv_goto (tgt := 47) hx hb dX3_readAtom_43 (by decide) ?_
          exact J47 1 _ _ _ (by decide) (by decide) hH hS (lv_sub hl [] rfl)
set_option maxHeartbeats 4000000 in
set_option maxRecDepth 100000 in
theorem s_LR_readTerm2 (l : Launch) (D : va_G) (cs : CS) (kf : KF) (T : TF) (O : List Nat) (X : va_W) (a0 : Nat) (x1 : Int32) (t_a0 : T a0 = some (13, 0, 0)) (l_x1 : 2 ≤ x1.toInt) (u_x1 : x1.toInt ≤ 2) (hO : okO T O [0, 1, 13, 17]) : TK l D cs kf yX3_readTerm cX3_readTerm 4 (some (.boolean)) { frames := 19, cells := 0, slots := 0, locals := 425 } [.ref a0, .int x1] T O X (Ti D cs (fun r u => u = (T, O, X) ∧ 0 ≤ r.toInt ∧ r.toInt ≤ 1)) := by
  refine tk_of (by decide) (Nat.le_of_ble_eq_true rfl) (fun p e s m below meth c ls A H locs hx hb hr hml hown hts hlocks hnm hkb hH hS hA hOX hks hE hl => ?_)
  have hown : s.vm.findClass RX3 = some m.cls := hown
  have hl : lv_has ls 4 [(0, .ref a0), (1, .int x1)] := hl
  refine lv_aload_n hx hb dX3_readTerm_0 rfl (lv_at hl 0 rfl) ?_
  refine lv_iload_n hx hb dX3_readTerm_1 rfl (lv_at hl 1 rfl) ?_
  refine tk_i hH hS hA (tr_V (n := 1) (As := [.int x1]) hx hb hml hown hts hkb hH hOX hks hE hS hA (s_LR_readAtom2 l D cs kf T O X a0 x1 t_a0 (by omega) (by omega) (hO.sub (by decide))) kw_656 kw_658 ks_12 kw_4 kw_659 (by decide +kernel) ⟨Nat.le_of_ble_eq_true rfl, Nat.le_of_ble_eq_true rfl⟩ (HT.recv (ci := 3) hkb hH t_a0 (hO.no t_a0 (by decide)) rfl) rfl rfl hl.1 (Nat.le_of_ble_eq_true rfl) dX3_readTerm_2 ⟨Nat.le_of_ble_eq_true rfl, Nat.le_of_ble_eq_true rfl⟩) (fun v2 u H locs hz9 hH hS => ?_)
  obtain ⟨rfl, l_v2, u_v2⟩ := hz9
  have hH : HT D cs A T O X H := hH
  refine W.widen (k := 0) (n := 0) (Nat.le_of_ble_eq_true rfl) (Nat.le_of_ble_eq_true rfl) ?_
  refine lv_istore_n (lv' := [(2, .int v2), (0, .ref a0), (1, .int x1)]) hx hb dX3_readTerm_5 rfl hl (by decide) rfl (fun ls hl => ?_)
  refine lv_iconst (v := 0) hx hb dX3_readTerm_6 (by decide) ?_
  have J8 : ∀ (n : Nat) (p8_3 : Int32) (p8_2 : Int32) (H : Heap) (locs : List Loc) (ls : Array Slot), (900 - p8_3.toInt).toNat = n → (0 ≤ p8_3.toInt) → (p8_3.toInt ≤ 900) → (0 ≤ p8_2.toInt) → (p8_2.toInt ≤ 1) → HT D cs A T O X H → va_S A s.heap H locs → lv_has ls 4 [(3, .int p8_3), (2, .int p8_2), (0, .ref a0), (1, .int x1)] → W p l e { frames := 19, cells := 0, slots := 0, locals := 425 } s m [.ref a0, .int x1].toArray below meth c H locs 0 0 (MQ below (Ti D cs (fun r u => u = (T, O, X) ∧ 0 ≤ r.toInt ∧ r.toInt ≤ 1) A) [.ref a0, .int x1].toArray s 0 0 A) (F0 m 8 ls []) := by
    intro n
    induction n using Nat.strongRecOn with
    | _ n ih8 =>
      intro p8_3 p8_2 H locs ls hm8 l_p8_3 u_p8_3 l_p8_2 u_p8_2 hH hS hl
      refine lv_iload_n hx hb dX3_readTerm_8 rfl (lv_at hl 0 rfl) ?_
      refine lv_sipush (v := 900) hx hb dX3_readTerm_9 (by decide) ?_
      have J57 : ∀  (H : Heap) (locs : List Loc) (ls : Array Slot), HT D cs A T O X H → va_S A s.heap H locs → lv_has ls 4 [(2, .int p8_2)] → W p l e { frames := 19, cells := 0, slots := 0, locals := 425 } s m [.ref a0, .int x1].toArray below meth c H locs 0 0 (MQ below (Ti D cs (fun r u => u = (T, O, X) ∧ 0 ≤ r.toInt ∧ r.toInt ≤ 1) A) [.ref a0, .int x1].toArray s 0 0 A) (F0 m 57 ls []) := by
        intro  H locs ls  hH hS hl
        refine lv_iload_n hx hb dX3_readTerm_57 rfl (lv_at hl 0 rfl) ?_
        exact te_z hx hb hr hlocks (nar01 (by omega) (by omega)) hH hS (⟨rfl, by omega, by omega⟩) dX3_readTerm_58
      refine lv_icmp_ge (tgt := 57) hx hb dX3_readTerm_12 (by decide) (fun c12 => ?_) (fun c12 => ?_)
      · skip
        have tc12 := f_ge (k := 900) (by decide) c12
        exact J57  _ _ _  hH hS (lv_sub hl [1] rfl)
      · skip
        have tc12 := f_nge (k := 900) (by decide) c12
        refine lv_iload_n hx hb dX3_readTerm_15 rfl (lv_at hl 1 rfl) ?_
        refine lv_if_eq (tgt := 57) hx hb dX3_readTerm_16 (by decide) (fun c16 => ?_) (fun c16 => ?_)
        · skip
          have tc16 := f_eq (k := 0) (by decide) c16
          exact J57  _ _ _  hH hS (lv_sub hl [1] rfl)
        · skip
          have tc16 := f_ne (k := 0) (by decide) c16
          refine lv_aload_n hx hb dX3_readTerm_19 rfl (lv_at hl 2 rfl) ?_
          refine t_get (ci := 3) (lst := ft3 0 0) (C := RX3) (F := TX3) (N := 3) hx hb hts uX3 hown hkb hH t_a0 (hO.no t_a0 (by decide)) (fun _ h9 => h9) rfl rfl 0 (by decide) rfl kw_82 (fun _ h9 => h9) dX3_readTerm_20 (fun v9 h9 => ?_)
          obtain ⟨v20, rfl, t_v20⟩ := h9
          refine lv_bipush (v := 42) hx hb dX3_readTerm_23 (by decide) ?_
          refine tk_i hH hS hA (tr_V (n := 1) (As := [.int 42]) hx hb hml hown hts hkb hH hOX hks hE hS hA (s_Tok_isSign l D cs kf T O X v20 (42) t_v20 (hO.sub (by decide))) kw_646 kw_615 kw_616 kw_3 kw_617 (by decide +kernel) ⟨Nat.le_of_ble_eq_true rfl, Nat.le_of_ble_eq_true rfl⟩ (HT.recv (ci := 7) hkb hH t_v20 (hO.no t_v20 (by decide)) rfl) rfl rfl hl.1 (Nat.le_of_ble_eq_true rfl) dX3_readTerm_25 ⟨Nat.le_of_ble_eq_true rfl, Nat.le_of_ble_eq_true rfl⟩) (fun v25 u H locs hz9 hH hS => ?_)
          obtain ⟨rfl, l_v25, u_v25⟩ := hz9
          have hH : HT D cs A T O X H := hH
          refine W.widen (k := 0) (n := 0) (Nat.le_of_ble_eq_true rfl) (Nat.le_of_ble_eq_true rfl) ?_
          refine lv_if_eq (tgt := 57) hx hb dX3_readTerm_28 (by decide) (fun c28 => ?_) (fun c28 => ?_)
          · skip
            have tc28 := f_eq (k := 0) (by decide) c28
            exact J57  _ _ _  hH hS (lv_sub hl [1] rfl)
          · skip
            have tc28 := f_ne (k := 0) (by decide) c28
            refine lv_aload_n hx hb dX3_readTerm_31 rfl (lv_at hl 2 rfl) ?_
            refine t_get (ci := 3) (lst := ft3 0 0) (C := RX3) (F := TX3) (N := 3) hx hb hts uX3 hown hkb hH t_a0 (hO.no t_a0 (by decide)) (fun _ h9 => h9) rfl rfl 0 (by decide) rfl kw_82 (fun _ h9 => h9) dX3_readTerm_32 (fun v9 h9 => ?_)
            obtain ⟨v32, rfl, t_v32⟩ := h9
            refine tk_v hH hS hA (tr_V (n := 0) (As := []) hx hb hml hown hts hkb hH hOX hks hE hS hA (s_Tok_go l D cs kf T O X v32 t_v32 (hO.sub (by decide))) kw_641 kw_453 kw_454 kw_3 kw_455 (by decide +kernel) ⟨Nat.le_of_ble_eq_true rfl, Nat.le_of_ble_eq_true rfl⟩ (HT.recv (ci := 7) hkb hH t_v32 (hO.no t_v32 (by decide)) rfl) rfl rfl hl.1 (Nat.le_of_ble_eq_true rfl) dX3_readTerm_35 ⟨Nat.le_of_ble_eq_true rfl, Nat.le_of_ble_eq_true rfl⟩) (fun u H locs hz9 hH hS => ?_)
            have hz9 : u = (T, O, X) := hz9
            subst hz9
            have hH : HT D cs A T O X H := hH
            refine W.widen (k := 0) (n := 0) (Nat.le_of_ble_eq_true rfl) (Nat.le_of_ble_eq_true rfl) ?_
            refine lv_aload_n hx hb dX3_readTerm_38 rfl (lv_at hl 2 rfl) ?_
            refine lv_iload_n hx hb dX3_readTerm_39 rfl (lv_at hl 3 rfl) ?_
            refine tk_i hH hS hA (tr_V (n := 1) (As := [.int x1]) hx hb hml hown hts hkb hH hOX hks hE hS hA (s_LR_readAtom2 l D cs kf T O X a0 x1 t_a0 (by omega) (by omega) (hO.sub (by decide))) kw_656 kw_658 ks_12 kw_4 kw_659 (by decide +kernel) ⟨Nat.le_of_ble_eq_true rfl, Nat.le_of_ble_eq_true rfl⟩ (HT.recv (ci := 3) hkb hH t_a0 (hO.no t_a0 (by decide)) rfl) rfl rfl hl.1 (Nat.le_of_ble_eq_true rfl) dX3_readTerm_40 ⟨Nat.le_of_ble_eq_true rfl, Nat.le_of_ble_eq_true rfl⟩) (fun v40 u H locs hz9 hH hS => ?_)
            obtain ⟨rfl, l_v40, u_v40⟩ := hz9
            have hH : HT D cs A T O X H := hH
            refine W.widen (k := 0) (n := 0) (Nat.le_of_ble_eq_true rfl) (Nat.le_of_ble_eq_true rfl) ?_
            refine lv_istore_n (lv' := [(2, .int v40), (3, .int p8_3), (0, .ref a0), (1, .int x1)]) hx hb dX3_readTerm_43 rfl hl (by decide) rfl (fun ls hl => ?_)
            refine lv_aload_n hx hb dX3_readTerm_44 rfl (lv_at hl 2 rfl) ?_
            refine lv_bipush (v := 7) hx hb dX3_readTerm_45 (by decide) ?_
            refine lv_iconst (v := 0) hx hb dX3_readTerm_47 (by decide) ?_
            refine tk_v hH hS hA (tr_V (n := 2) (As := [.int 7, .int 0]) hx hb hml hown hts hkb hH hOX hks hE hS hA (s_LR_put l D cs kf T O X a0 (7) (0) t_a0 (hO.sub (by decide))) kw_642 kw_644 ks_9 kw_4 kw_645 (by decide +kernel) ⟨Nat.le_of_ble_eq_true rfl, Nat.le_of_ble_eq_true rfl⟩ (HT.recv (ci := 3) hkb hH t_a0 (hO.no t_a0 (by decide)) rfl) rfl rfl hl.1 (Nat.le_of_ble_eq_true rfl) dX3_readTerm_48 ⟨Nat.le_of_ble_eq_true rfl, Nat.le_of_ble_eq_true rfl⟩) (fun u H locs hz9 hH hS => ?_)
            have hz9 : u = (T, O, X) := hz9
            subst hz9
            have hH : HT D cs A T O X H := hH
            refine W.widen (k := 0) (n := 0) (Nat.le_of_ble_eq_true rfl) (Nat.le_of_ble_eq_true rfl) ?_
            obtain ⟨v51, ev51⟩ : ∃ y : Int32, y = p8_3 + 1 := ⟨_, rfl⟩
            have tv51 : v51.toInt = p8_3.toInt + (1) := by rw [ev51]; exact add_i rfl (by decide) (by omega) (by omega)
            refine lv_iinc (v := v51) (lv' := [(3, .int v51), (2, .int v40), (0, .ref a0), (1, .int x1)]) hx hb dX3_readTerm_51 hl (k := 1) rfl (by rw [ev51]; rfl) (by decide) rfl (fun ls hl => ?_)
            refine lv_goto (tgt := 8) hx hb dX3_readTerm_54 (by decide) ?_
            exact ih8 _ (by omega) v51 v40 _ _ _ rfl (by omega) (by omega) (by omega) (by omega) hH hS (lv_sub hl [0, 1, 2, 3] rfl)
  refine lv_istore_n (lv' := [(3, .int 0), (2, .int v2), (0, .ref a0), (1, .int x1)]) hx hb dX3_readTerm_7 rfl hl (by decide) rfl (fun ls hl => ?_)
  exact J8 _ 0 v2 _ _ _ rfl (by decide) (by decide) (by omega) (by omega) hH hS (lv_sub hl [0, 1, 2, 3] rfl)
set_option maxHeartbeats 4000000 in
set_option maxRecDepth 100000 in
theorem s_LR_readSum2 (l : Launch) (D : va_G) (cs : CS) (kf : KF) (T : TF) (O : List Nat) (X : va_W) (a0 : Nat) (x1 : Int32) (t_a0 : T a0 = some (13, 0, 0)) (l_x1 : 2 ≤ x1.toInt) (u_x1 : x1.toInt ≤ 2) (hO : okO T O [0, 1, 13, 17]) : TK l D cs kf yX3_readSum cX3_readSum 5 (some (.boolean)) { frames := 20, cells := 0, slots := 0, locals := 448 } [.ref a0, .int x1] T O X (Ti D cs (fun r u => u = (T, O, X) ∧ 0 ≤ r.toInt ∧ r.toInt ≤ 1)) := by
  refine tk_of (by decide) (Nat.le_of_ble_eq_true rfl) (fun p e s m below meth c ls A H locs hx hb hr hml hown hts hlocks hnm hkb hH hS hA hOX hks hE hl => ?_)
  have hown : s.vm.findClass RX3 = some m.cls := hown
  have hl : lv_has ls 5 [(0, .ref a0), (1, .int x1)] := hl
  refine lv_aload_n hx hb dX3_readSum_0 rfl (lv_at hl 0 rfl) ?_
  refine lv_iload_n hx hb dX3_readSum_1 rfl (lv_at hl 1 rfl) ?_
  refine tk_i hH hS hA (tr_V (n := 1) (As := [.int x1]) hx hb hml hown hts hkb hH hOX hks hE hS hA (s_LR_readTerm2 l D cs kf T O X a0 x1 t_a0 (by omega) (by omega) (hO.sub (by decide))) kw_652 kw_654 ks_11 kw_4 kw_655 (by decide +kernel) ⟨Nat.le_of_ble_eq_true rfl, Nat.le_of_ble_eq_true rfl⟩ (HT.recv (ci := 3) hkb hH t_a0 (hO.no t_a0 (by decide)) rfl) rfl rfl hl.1 (Nat.le_of_ble_eq_true rfl) dX3_readSum_2 ⟨Nat.le_of_ble_eq_true rfl, Nat.le_of_ble_eq_true rfl⟩) (fun v2 u H locs hz9 hH hS => ?_)
  obtain ⟨rfl, l_v2, u_v2⟩ := hz9
  have hH : HT D cs A T O X H := hH
  refine W.widen (k := 0) (n := 0) (Nat.le_of_ble_eq_true rfl) (Nat.le_of_ble_eq_true rfl) ?_
  refine lv_istore_n (lv' := [(2, .int v2), (0, .ref a0), (1, .int x1)]) hx hb dX3_readSum_5 rfl hl (by decide) rfl (fun ls hl => ?_)
  refine lv_iconst (v := 0) hx hb dX3_readSum_6 (by decide) ?_
  have J8 : ∀ (n : Nat) (p8_3 : Int32) (p8_2 : Int32) (H : Heap) (locs : List Loc) (ls : Array Slot), (900 - p8_3.toInt).toNat = n → (0 ≤ p8_3.toInt) → (p8_3.toInt ≤ 900) → (0 ≤ p8_2.toInt) → (p8_2.toInt ≤ 1) → HT D cs A T O X H → va_S A s.heap H locs → lv_has ls 5 [(3, .int p8_3), (2, .int p8_2), (0, .ref a0), (1, .int x1)] → W p l e { frames := 20, cells := 0, slots := 0, locals := 448 } s m [.ref a0, .int x1].toArray below meth c H locs 0 0 (MQ below (Ti D cs (fun r u => u = (T, O, X) ∧ 0 ≤ r.toInt ∧ r.toInt ≤ 1) A) [.ref a0, .int x1].toArray s 0 0 A) (F0 m 8 ls []) := by
    intro n
    induction n using Nat.strongRecOn with
    | _ n ih8 =>
      intro p8_3 p8_2 H locs ls hm8 l_p8_3 u_p8_3 l_p8_2 u_p8_2 hH hS hl
      refine lv_iload_n hx hb dX3_readSum_8 rfl (lv_at hl 0 rfl) ?_
      refine lv_sipush (v := 900) hx hb dX3_readSum_9 (by decide) ?_
      have J89 : ∀  (H : Heap) (locs : List Loc) (ls : Array Slot), HT D cs A T O X H → va_S A s.heap H locs → lv_has ls 5 [(2, .int p8_2)] → W p l e { frames := 20, cells := 0, slots := 0, locals := 448 } s m [.ref a0, .int x1].toArray below meth c H locs 0 0 (MQ below (Ti D cs (fun r u => u = (T, O, X) ∧ 0 ≤ r.toInt ∧ r.toInt ≤ 1) A) [.ref a0, .int x1].toArray s 0 0 A) (F0 m 89 ls []) := by
        intro  H locs ls  hH hS hl
        refine lv_iload_n hx hb dX3_readSum_89 rfl (lv_at hl 0 rfl) ?_
        exact te_z hx hb hr hlocks (nar01 (by omega) (by omega)) hH hS (⟨rfl, by omega, by omega⟩) dX3_readSum_90
      refine lv_icmp_ge (tgt := 89) hx hb dX3_readSum_12 (by decide) (fun c12 => ?_) (fun c12 => ?_)
      · skip
        have tc12 := f_ge (k := 900) (by decide) c12
        exact J89  _ _ _  hH hS (lv_sub hl [1] rfl)
      · skip
        have tc12 := f_nge (k := 900) (by decide) c12
        refine lv_iload_n hx hb dX3_readSum_15 rfl (lv_at hl 1 rfl) ?_
        refine lv_if_eq (tgt := 89) hx hb dX3_readSum_16 (by decide) (fun c16 => ?_) (fun c16 => ?_)
        · skip
          have tc16 := f_eq (k := 0) (by decide) c16
          exact J89  _ _ _  hH hS (lv_sub hl [1] rfl)
        · skip
          have tc16 := f_ne (k := 0) (by decide) c16
          refine lv_aload_n hx hb dX3_readSum_19 rfl (lv_at hl 2 rfl) ?_
          refine t_get (ci := 3) (lst := ft3 0 0) (C := RX3) (F := TX3) (N := 3) hx hb hts uX3 hown hkb hH t_a0 (hO.no t_a0 (by decide)) (fun _ h9 => h9) rfl rfl 0 (by decide) rfl kw_82 (fun _ h9 => h9) dX3_readSum_20 (fun v9 h9 => ?_)
          obtain ⟨v20, rfl, t_v20⟩ := h9
          refine lv_bipush (v := 43) hx hb dX3_readSum_23 (by decide) ?_
          refine tk_i hH hS hA (tr_V (n := 1) (As := [.int 43]) hx hb hml hown hts hkb hH hOX hks hE hS hA (s_Tok_isSign l D cs kf T O X v20 (43) t_v20 (hO.sub (by decide))) kw_646 kw_615 kw_616 kw_3 kw_617 (by decide +kernel) ⟨Nat.le_of_ble_eq_true rfl, Nat.le_of_ble_eq_true rfl⟩ (HT.recv (ci := 7) hkb hH t_v20 (hO.no t_v20 (by decide)) rfl) rfl rfl hl.1 (Nat.le_of_ble_eq_true rfl) dX3_readSum_25 ⟨Nat.le_of_ble_eq_true rfl, Nat.le_of_ble_eq_true rfl⟩) (fun v25 u H locs hz9 hH hS => ?_)
          obtain ⟨rfl, l_v25, u_v25⟩ := hz9
          have hH : HT D cs A T O X H := hH
          refine W.widen (k := 0) (n := 0) (Nat.le_of_ble_eq_true rfl) (Nat.le_of_ble_eq_true rfl) ?_
          have J43 : ∀  (H : Heap) (locs : List Loc) (ls : Array Slot), HT D cs A T O X H → va_S A s.heap H locs → lv_has ls 5 [(3, .int p8_3), (0, .ref a0), (1, .int x1)] → W p l e { frames := 20, cells := 0, slots := 0, locals := 448 } s m [.ref a0, .int x1].toArray below meth c H locs 0 0 (MQ below (Ti D cs (fun r u => u = (T, O, X) ∧ 0 ≤ r.toInt ∧ r.toInt ≤ 1) A) [.ref a0, .int x1].toArray s 0 0 A) (F0 m 43 ls []) := by
            intro  H locs ls  hH hS hl
            refine lv_aload_n hx hb dX3_readSum_43 rfl (lv_at hl 1 rfl) ?_
            refine t_get (ci := 3) (lst := ft3 0 0) (C := RX3) (F := TX3) (N := 3) hx hb hts uX3 hown hkb hH t_a0 (hO.no t_a0 (by decide)) (fun _ h9 => h9) rfl rfl 0 (by decide) rfl kw_82 (fun _ h9 => h9) dX3_readSum_44 (fun v9 h9 => ?_)
            obtain ⟨v44, rfl, t_v44⟩ := h9
            refine lv_bipush (v := 43) hx hb dX3_readSum_47 (by decide) ?_
            refine tk_i hH hS hA (tr_V (n := 1) (As := [.int 43]) hx hb hml hown hts hkb hH hOX hks hE hS hA (s_Tok_isSign l D cs kf T O X v44 (43) t_v44 (hO.sub (by decide))) kw_646 kw_615 kw_616 kw_3 kw_617 (by decide +kernel) ⟨Nat.le_of_ble_eq_true rfl, Nat.le_of_ble_eq_true rfl⟩ (HT.recv (ci := 7) hkb hH t_v44 (hO.no t_v44 (by decide)) rfl) rfl rfl hl.1 (Nat.le_of_ble_eq_true rfl) dX3_readSum_49 ⟨Nat.le_of_ble_eq_true rfl, Nat.le_of_ble_eq_true rfl⟩) (fun v49 u H locs hz9 hH hS => ?_)
            obtain ⟨rfl, l_v49, u_v49⟩ := hz9
            have hH : HT D cs A T O X H := hH
            refine W.widen (k := 0) (n := 0) (Nat.le_of_ble_eq_true rfl) (Nat.le_of_ble_eq_true rfl) ?_
            have J61 : ∀ (k61_0 : Int32) (H : Heap) (locs : List Loc) (ls : Array Slot), (5 ≤ k61_0.toInt) → (k61_0.toInt ≤ 6) → HT D cs A T O X H → va_S A s.heap H locs → lv_has ls 5 [(3, .int p8_3), (0, .ref a0), (1, .int x1)] → W p l e { frames := 20, cells := 0, slots := 0, locals := 448 } s m [.ref a0, .int x1].toArray below meth c H locs 0 0 (MQ below (Ti D cs (fun r u => u = (T, O, X) ∧ 0 ≤ r.toInt ∧ r.toInt ≤ 1) A) [.ref a0, .int x1].toArray s 0 0 A) (F0 m 61 ls [.int k61_0]) := by
              intro k61_0 H locs ls l_k61_0 u_k61_0 hH hS hl
              refine lv_istore (lv' := [(4, .int k61_0), (3, .int p8_3), (0, .ref a0), (1, .int x1)]) hx hb dX3_readSum_61 hl (by decide) rfl (fun ls hl => ?_)
              refine lv_aload_n hx hb dX3_readSum_63 rfl (lv_at hl 2 rfl) ?_
              refine t_get (ci := 3) (lst := ft3 0 0) (C := RX3) (F := TX3) (N := 3) hx hb hts uX3 hown hkb hH t_a0 (hO.no t_a0 (by decide)) (fun _ h9 => h9) rfl rfl 0 (by decide) rfl kw_82 (fun _ h9 => h9) dX3_readSum_64 (fun v9 h9 => ?_)
              obtain ⟨v64, rfl, t_v64⟩ := h9
              refine tk_v hH hS hA (tr_V (n := 0) (As := []) hx hb hml hown hts hkb hH hOX hks hE hS hA (s_Tok_go l D cs kf T O X v64 t_v64 (hO.sub (by decide))) kw_641 kw_453 kw_454 kw_3 kw_455 (by decide +kernel) ⟨Nat.le_of_ble_eq_true rfl, Nat.le_of_ble_eq_true rfl⟩ (HT.recv (ci := 7) hkb hH t_v64 (hO.no t_v64 (by decide)) rfl) rfl rfl hl.1 (Nat.le_of_ble_eq_true rfl) dX3_readSum_67 ⟨Nat.le_of_ble_eq_true rfl, Nat.le_of_ble_eq_true rfl⟩) (fun u H locs hz9 hH hS => ?_)
              have hz9 : u = (T, O, X) := hz9
              subst hz9
              have hH : HT D cs A T O X H := hH
              refine W.widen (k := 0) (n := 0) (Nat.le_of_ble_eq_true rfl) (Nat.le_of_ble_eq_true rfl) ?_
              refine lv_aload_n hx hb dX3_readSum_70 rfl (lv_at hl 2 rfl) ?_
              refine lv_iload_n hx hb dX3_readSum_71 rfl (lv_at hl 3 rfl) ?_
              refine tk_i hH hS hA (tr_V (n := 1) (As := [.int x1]) hx hb hml hown hts hkb hH hOX hks hE hS hA (s_LR_readTerm2 l D cs kf T O X a0 x1 t_a0 (by omega) (by omega) (hO.sub (by decide))) kw_652 kw_654 ks_11 kw_4 kw_655 (by decide +kernel) ⟨Nat.le_of_ble_eq_true rfl, Nat.le_of_ble_eq_true rfl⟩ (HT.recv (ci := 3) hkb hH t_a0 (hO.no t_a0 (by decide)) rfl) rfl rfl hl.1 (Nat.le_of_ble_eq_true rfl) dX3_readSum_72 ⟨Nat.le_of_ble_eq_true rfl, Nat.le_of_ble_eq_true rfl⟩) (fun v72 u H locs hz9 hH hS => ?_)
              obtain ⟨rfl, l_v72, u_v72⟩ := hz9
              have hH : HT D cs A T O X H := hH
              refine W.widen (k := 0) (n := 0) (Nat.le_of_ble_eq_true rfl) (Nat.le_of_ble_eq_true rfl) ?_
              refine lv_istore_n (lv' := [(2, .int v72), (4, .int k61_0), (3, .int p8_3), (0, .ref a0), (1, .int x1)]) hx hb dX3_readSum_75 rfl hl (by decide) rfl (fun ls hl => ?_)
              refine lv_aload_n hx hb dX3_readSum_76 rfl (lv_at hl 3 rfl) ?_
              refine lv_iload hx hb dX3_readSum_77 (lv_at hl 1 rfl) ?_
              refine lv_iconst (v := 0) hx hb dX3_readSum_79 (by decide) ?_
              refine tk_v hH hS hA (tr_V (n := 2) (As := [.int k61_0, .int 0]) hx hb hml hown hts hkb hH hOX hks hE hS hA (s_LR_put l D cs kf T O X a0 k61_0 (0) t_a0 (hO.sub (by decide))) kw_642 kw_644 ks_9 kw_4 kw_645 (by decide +kernel) ⟨Nat.le_of_ble_eq_true rfl, Nat.le_of_ble_eq_true rfl⟩ (HT.recv (ci := 3) hkb hH t_a0 (hO.no t_a0 (by decide)) rfl) rfl rfl hl.1 (Nat.le_of_ble_eq_true rfl) dX3_readSum_80 ⟨Nat.le_of_ble_eq_true rfl, Nat.le_of_ble_eq_true rfl⟩) (fun u H locs hz9 hH hS => ?_)
              have hz9 : u = (T, O, X) := hz9
              subst hz9
              have hH : HT D cs A T O X H := hH
              refine W.widen (k := 0) (n := 0) (Nat.le_of_ble_eq_true rfl) (Nat.le_of_ble_eq_true rfl) ?_
              obtain ⟨v83, ev83⟩ : ∃ y : Int32, y = p8_3 + 1 := ⟨_, rfl⟩
              have tv83 : v83.toInt = p8_3.toInt + (1) := by rw [ev83]; exact add_i rfl (by decide) (by omega) (by omega)
              refine lv_iinc (v := v83) (lv' := [(3, .int v83), (2, .int v72), (4, .int k61_0), (0, .ref a0), (1, .int x1)]) hx hb dX3_readSum_83 hl (k := 2) rfl (by rw [ev83]; rfl) (by decide) rfl (fun ls hl => ?_)
              refine lv_goto (tgt := 8) hx hb dX3_readSum_86 (by decide) ?_
              exact ih8 _ (by omega) v83 v72 _ _ _ rfl (by omega) (by omega) (by omega) (by omega) hH hS (lv_sub hl [0, 1, 3, 4] rfl)
            refine lv_if_eq (tgt := 59) hx hb dX3_readSum_52 (by decide) (fun c52 => ?_) (fun c52 => ?_)
            · skip
              have tc52 := f_eq (k := 0) (by decide) c52
              refine lv_bipush (v := 6) hx hb dX3_readSum_59 (by decide) ?_
              exact J61 6 _ _ _ (by decide) (by decide) hH hS (lv_sub hl [0, 1, 2] rfl)
            · skip
              have tc52 := f_ne (k := 0) (by decide) c52
              refine lv_iconst (v := 5) hx hb dX3_readSum_55 (by decide) ?_
              refine lv_goto (tgt := 61) hx hb dX3_readSum_56 (by decide) ?_
              exact J61 5 _ _ _ (by decide) (by decide) hH hS (lv_sub hl [0, 1, 2] rfl)
          refine lv_if_ne (tgt := 43) hx hb dX3_readSum_28 (by decide) (fun c28 => ?_) (fun c28 => ?_)
          · skip
            have tc28 := f_ne (k := 0) (by decide) c28
            exact J43  _ _ _  hH hS (lv_sub hl [0, 2, 3] rfl)
          · skip
            have tc28 := f_eq (k := 0) (by decide) c28
            refine lv_aload_n hx hb dX3_readSum_31 rfl (lv_at hl 2 rfl) ?_
            refine t_get (ci := 3) (lst := ft3 0 0) (C := RX3) (F := TX3) (N := 3) hx hb hts uX3 hown hkb hH t_a0 (hO.no t_a0 (by decide)) (fun _ h9 => h9) rfl rfl 0 (by decide) rfl kw_82 (fun _ h9 => h9) dX3_readSum_32 (fun v9 h9 => ?_)
            obtain ⟨v32, rfl, t_v32⟩ := h9
            refine lv_bipush (v := 45) hx hb dX3_readSum_35 (by decide) ?_
            refine tk_i hH hS hA (tr_V (n := 1) (As := [.int 45]) hx hb hml hown hts hkb hH hOX hks hE hS hA (s_Tok_isSign l D cs kf T O X v32 (45) t_v32 (hO.sub (by decide))) kw_646 kw_615 kw_616 kw_3 kw_617 (by decide +kernel) ⟨Nat.le_of_ble_eq_true rfl, Nat.le_of_ble_eq_true rfl⟩ (HT.recv (ci := 7) hkb hH t_v32 (hO.no t_v32 (by decide)) rfl) rfl rfl hl.1 (Nat.le_of_ble_eq_true rfl) dX3_readSum_37 ⟨Nat.le_of_ble_eq_true rfl, Nat.le_of_ble_eq_true rfl⟩) (fun v37 u H locs hz9 hH hS => ?_)
            obtain ⟨rfl, l_v37, u_v37⟩ := hz9
            have hH : HT D cs A T O X H := hH
            refine W.widen (k := 0) (n := 0) (Nat.le_of_ble_eq_true rfl) (Nat.le_of_ble_eq_true rfl) ?_
            refine lv_if_eq (tgt := 89) hx hb dX3_readSum_40 (by decide) (fun c40 => ?_) (fun c40 => ?_)
            · skip
              have tc40 := f_eq (k := 0) (by decide) c40
              exact J89  _ _ _  hH hS (lv_sub hl [1] rfl)
            · skip
              have tc40 := f_ne (k := 0) (by decide) c40
              exact J43  _ _ _  hH hS (lv_sub hl [0, 2, 3] rfl)
  refine lv_istore_n (lv' := [(3, .int 0), (2, .int v2), (0, .ref a0), (1, .int x1)]) hx hb dX3_readSum_7 rfl hl (by decide) rfl (fun ls hl => ?_)
  exact J8 _ 0 v2 _ _ _ rfl (by decide) (by decide) (by omega) (by omega) hH hS (lv_sub hl [0, 1, 2, 3] rfl)
set_option maxHeartbeats 4000000 in
set_option maxRecDepth 100000 in
theorem s_LR_readUnit2 (l : Launch) (D : va_G) (cs : CS) (kf : KF) (T : TF) (O : List Nat) (X : va_W) (a0 : Nat) (x1 : Int32) (t_a0 : T a0 = some (13, 0, 0)) (l_x1 : 2 ≤ x1.toInt) (u_x1 : x1.toInt ≤ 2) (hO : okO T O [0, 1, 13, 17]) : TK l D cs kf yX3_readUnit cX3_readUnit 3 (some (.boolean)) { frames := 21, cells := 0, slots := 0, locals := 476 } [.ref a0, .int x1] T O X (Ti D cs (fun r u => u = (T, O, X) ∧ 0 ≤ r.toInt ∧ r.toInt ≤ 1)) := by
  refine tk_of (by decide) (Nat.le_of_ble_eq_true rfl) (fun p e s m below meth c ls A H locs hx hb hr hml hown hts hlocks hnm hkb hH hS hA hOX hks hE hl => ?_)
  have hown : s.vm.findClass RX3 = some m.cls := hown
  have hl : lv_has ls 3 [(0, .ref a0), (1, .int x1)] := hl
  refine lv_aload_n hx hb dX3_readUnit_0 rfl (lv_at hl 0 rfl) ?_
  refine t_get (ci := 3) (lst := ft3 0 0) (C := RX3) (F := TX3) (N := 3) hx hb hts uX3 hown hkb hH t_a0 (hO.no t_a0 (by decide)) (fun _ h9 => h9) rfl rfl 0 (by decide) rfl kw_82 (fun _ h9 => h9) dX3_readUnit_1 (fun v9 h9 => ?_)
  obtain ⟨v1, rfl, t_v1⟩ := h9
  refine va_ldcS (q := kf.1 10) hx hb hown (hks ("FootholdWall$LawReader", 65, "not", 10) (by decide +kernel)) dX3_readUnit_4 ?_
  refine tk_i hH hS hA (tr_V (n := 1) (As := [.ref (kf.1 10)]) hx hb hml hown hts hkb hH hOX hks hE hS hA (s_Tok_isWord l D cs kf T O X v1 10 t_v1 (by decide) (hO.sub (by decide))) kw_635 kw_551 kw_552 kw_3 kw_553 (by decide +kernel) ⟨Nat.le_of_ble_eq_true rfl, Nat.le_of_ble_eq_true rfl⟩ (HT.recv (ci := 7) hkb hH t_v1 (hO.no t_v1 (by decide)) rfl) rfl rfl hl.1 (Nat.le_of_ble_eq_true rfl) dX3_readUnit_6 ⟨Nat.le_of_ble_eq_true rfl, Nat.le_of_ble_eq_true rfl⟩) (fun v6 u H locs hz9 hH hS => ?_)
  obtain ⟨rfl, l_v6, u_v6⟩ := hz9
  have hH : HT D cs A T O X H := hH
  refine W.widen (k := 0) (n := 0) (Nat.le_of_ble_eq_true rfl) (Nat.le_of_ble_eq_true rfl) ?_
  refine lv_if_eq (tgt := 40) hx hb dX3_readUnit_9 (by decide) (fun c9 => ?_) (fun c9 => ?_)
  · skip
    have tc9 := f_eq (k := 0) (by decide) c9
    refine lv_aload_n hx hb dX3_readUnit_40 rfl (lv_at hl 0 rfl) ?_
    refine t_get (ci := 3) (lst := ft3 0 0) (C := RX3) (F := TX3) (N := 3) hx hb hts uX3 hown hkb hH t_a0 (hO.no t_a0 (by decide)) (fun _ h9 => h9) rfl rfl 0 (by decide) rfl kw_82 (fun _ h9 => h9) dX3_readUnit_41 (fun v9 h9 => ?_)
    obtain ⟨v41, rfl, t_v41⟩ := h9
    refine lv_bipush (v := 91) hx hb dX3_readUnit_44 (by decide) ?_
    refine tk_i hH hS hA (tr_V (n := 1) (As := [.int 91]) hx hb hml hown hts hkb hH hOX hks hE hS hA (s_Tok_isSign l D cs kf T O X v41 (91) t_v41 (hO.sub (by decide))) kw_646 kw_615 kw_616 kw_3 kw_617 (by decide +kernel) ⟨Nat.le_of_ble_eq_true rfl, Nat.le_of_ble_eq_true rfl⟩ (HT.recv (ci := 7) hkb hH t_v41 (hO.no t_v41 (by decide)) rfl) rfl rfl hl.1 (Nat.le_of_ble_eq_true rfl) dX3_readUnit_46 ⟨Nat.le_of_ble_eq_true rfl, Nat.le_of_ble_eq_true rfl⟩) (fun v46 u H locs hz9 hH hS => ?_)
    obtain ⟨rfl, l_v46, u_v46⟩ := hz9
    have hH : HT D cs A T O X H := hH
    refine W.widen (k := 0) (n := 0) (Nat.le_of_ble_eq_true rfl) (Nat.le_of_ble_eq_true rfl) ?_
    refine lv_if_eq (tgt := 88) hx hb dX3_readUnit_49 (by decide) (fun c49 => ?_) (fun c49 => ?_)
    · skip
      have tc49 := f_eq (k := 0) (by decide) c49
      refine lv_aload_n hx hb dX3_readUnit_88 rfl (lv_at hl 0 rfl) ?_
      refine lv_iload_n hx hb dX3_readUnit_89 rfl (lv_at hl 1 rfl) ?_
      refine tk_i hH hS hA (tr_V (n := 1) (As := [.int x1]) hx hb hml hown hts hkb hH hOX hks hE hS hA (s_LR_readSum2 l D cs kf T O X a0 x1 t_a0 (by omega) (by omega) (hO.sub (by decide))) kw_648 kw_650 ks_10 kw_4 kw_651 (by decide +kernel) ⟨Nat.le_of_ble_eq_true rfl, Nat.le_of_ble_eq_true rfl⟩ (HT.recv (ci := 3) hkb hH t_a0 (hO.no t_a0 (by decide)) rfl) rfl rfl hl.1 (Nat.le_of_ble_eq_true rfl) dX3_readUnit_90 ⟨Nat.le_of_ble_eq_true rfl, Nat.le_of_ble_eq_true rfl⟩) (fun v90 u H locs hz9 hH hS => ?_)
      obtain ⟨rfl, l_v90, u_v90⟩ := hz9
      have hH : HT D cs A T O X H := hH
      refine W.widen (k := 0) (n := 0) (Nat.le_of_ble_eq_true rfl) (Nat.le_of_ble_eq_true rfl) ?_
      refine lv_if_ne (tgt := 98) hx hb dX3_readUnit_93 (by decide) (fun c93 => ?_) (fun c93 => ?_)
      · skip
        have tc93 := f_ne (k := 0) (by decide) c93
        refine lv_aload_n hx hb dX3_readUnit_98 rfl (lv_at hl 0 rfl) ?_
        refine t_get (ci := 3) (lst := ft3 0 0) (C := RX3) (F := TX3) (N := 3) hx hb hts uX3 hown hkb hH t_a0 (hO.no t_a0 (by decide)) (fun _ h9 => h9) rfl rfl 0 (by decide) rfl kw_82 (fun _ h9 => h9) dX3_readUnit_99 (fun v9 h9 => ?_)
        obtain ⟨v99, rfl, t_v99⟩ := h9
        refine lv_bipush (v := 61) hx hb dX3_readUnit_102 (by decide) ?_
        refine tk_i hH hS hA (tr_V (n := 1) (As := [.int 61]) hx hb hml hown hts hkb hH hOX hks hE hS hA (s_Tok_isSign l D cs kf T O X v99 (61) t_v99 (hO.sub (by decide))) kw_646 kw_615 kw_616 kw_3 kw_617 (by decide +kernel) ⟨Nat.le_of_ble_eq_true rfl, Nat.le_of_ble_eq_true rfl⟩ (HT.recv (ci := 7) hkb hH t_v99 (hO.no t_v99 (by decide)) rfl) rfl rfl hl.1 (Nat.le_of_ble_eq_true rfl) dX3_readUnit_104 ⟨Nat.le_of_ble_eq_true rfl, Nat.le_of_ble_eq_true rfl⟩) (fun v104 u H locs hz9 hH hS => ?_)
        obtain ⟨rfl, l_v104, u_v104⟩ := hz9
        have hH : HT D cs A T O X H := hH
        refine W.widen (k := 0) (n := 0) (Nat.le_of_ble_eq_true rfl) (Nat.le_of_ble_eq_true rfl) ?_
        have J134 : ∀ (k134_0 : Int32) (H : Heap) (locs : List Loc) (ls : Array Slot), (8 ≤ k134_0.toInt) → (k134_0.toInt ≤ 10) → HT D cs A T O X H → va_S A s.heap H locs → lv_has ls 3 [(0, .ref a0), (1, .int x1)] → W p l e { frames := 21, cells := 0, slots := 0, locals := 476 } s m [.ref a0, .int x1].toArray below meth c H locs 0 0 (MQ below (Ti D cs (fun r u => u = (T, O, X) ∧ 0 ≤ r.toInt ∧ r.toInt ≤ 1) A) [.ref a0, .int x1].toArray s 0 0 A) (F0 m 134 ls [.int k134_0]) := by
          intro k134_0 H locs ls l_k134_0 u_k134_0 hH hS hl
          refine lv_istore_n (lv' := [(2, .int k134_0), (0, .ref a0), (1, .int x1)]) hx hb dX3_readUnit_134 rfl hl (by decide) rfl (fun ls hl => ?_)
          refine lv_iload_n hx hb dX3_readUnit_135 rfl (lv_at hl 0 rfl) ?_
          refine lv_bipush (v := 10) hx hb dX3_readUnit_136 (by decide) ?_
          have J162 : ∀  (H : Heap) (locs : List Loc) (ls : Array Slot), HT D cs A T O X H → va_S A s.heap H locs → lv_has ls 3 [(2, .int k134_0), (0, .ref a0), (1, .int x1)] → W p l e { frames := 21, cells := 0, slots := 0, locals := 476 } s m [.ref a0, .int x1].toArray below meth c H locs 0 0 (MQ below (Ti D cs (fun r u => u = (T, O, X) ∧ 0 ≤ r.toInt ∧ r.toInt ≤ 1) A) [.ref a0, .int x1].toArray s 0 0 A) (F0 m 162 ls []) := by
            intro  H locs ls  hH hS hl
            refine lv_aload_n hx hb dX3_readUnit_162 rfl (lv_at hl 1 rfl) ?_
            refine t_get (ci := 3) (lst := ft3 0 0) (C := RX3) (F := TX3) (N := 3) hx hb hts uX3 hown hkb hH t_a0 (hO.no t_a0 (by decide)) (fun _ h9 => h9) rfl rfl 0 (by decide) rfl kw_82 (fun _ h9 => h9) dX3_readUnit_163 (fun v9 h9 => ?_)
            obtain ⟨v163, rfl, t_v163⟩ := h9
            refine tk_v hH hS hA (tr_V (n := 0) (As := []) hx hb hml hown hts hkb hH hOX hks hE hS hA (s_Tok_go l D cs kf T O X v163 t_v163 (hO.sub (by decide))) kw_641 kw_453 kw_454 kw_3 kw_455 (by decide +kernel) ⟨Nat.le_of_ble_eq_true rfl, Nat.le_of_ble_eq_true rfl⟩ (HT.recv (ci := 7) hkb hH t_v163 (hO.no t_v163 (by decide)) rfl) rfl rfl hl.1 (Nat.le_of_ble_eq_true rfl) dX3_readUnit_166 ⟨Nat.le_of_ble_eq_true rfl, Nat.le_of_ble_eq_true rfl⟩) (fun u H locs hz9 hH hS => ?_)
            have hz9 : u = (T, O, X) := hz9
            subst hz9
            have hH : HT D cs A T O X H := hH
            refine W.widen (k := 0) (n := 0) (Nat.le_of_ble_eq_true rfl) (Nat.le_of_ble_eq_true rfl) ?_
            refine lv_aload_n hx hb dX3_readUnit_169 rfl (lv_at hl 1 rfl) ?_
            refine lv_iload_n hx hb dX3_readUnit_170 rfl (lv_at hl 2 rfl) ?_
            refine tk_i hH hS hA (tr_V (n := 1) (As := [.int x1]) hx hb hml hown hts hkb hH hOX hks hE hS hA (s_LR_readSum2 l D cs kf T O X a0 x1 t_a0 (by omega) (by omega) (hO.sub (by decide))) kw_648 kw_650 ks_10 kw_4 kw_651 (by decide +kernel) ⟨Nat.le_of_ble_eq_true rfl, Nat.le_of_ble_eq_true rfl⟩ (HT.recv (ci := 3) hkb hH t_a0 (hO.no t_a0 (by decide)) rfl) rfl rfl hl.1 (Nat.le_of_ble_eq_true rfl) dX3_readUnit_171 ⟨Nat.le_of_ble_eq_true rfl, Nat.le_of_ble_eq_true rfl⟩) (fun v171 u H locs hz9 hH hS => ?_)
            obtain ⟨rfl, l_v171, u_v171⟩ := hz9
            have hH : HT D cs A T O X H := hH
            refine W.widen (k := 0) (n := 0) (Nat.le_of_ble_eq_true rfl) (Nat.le_of_ble_eq_true rfl) ?_
            refine lv_if_ne (tgt := 179) hx hb dX3_readUnit_174 (by decide) (fun c174 => ?_) (fun c174 => ?_)
            · skip
              have tc174 := f_ne (k := 0) (by decide) c174
              refine lv_aload_n hx hb dX3_readUnit_179 rfl (lv_at hl 1 rfl) ?_
              refine lv_iload_n hx hb dX3_readUnit_180 rfl (lv_at hl 0 rfl) ?_
              refine lv_iconst (v := 0) hx hb dX3_readUnit_181 (by decide) ?_
              refine tk_v hH hS hA (tr_V (n := 2) (As := [.int k134_0, .int 0]) hx hb hml hown hts hkb hH hOX hks hE hS hA (s_LR_put l D cs kf T O X a0 k134_0 (0) t_a0 (hO.sub (by decide))) kw_642 kw_644 ks_9 kw_4 kw_645 (by decide +kernel) ⟨Nat.le_of_ble_eq_true rfl, Nat.le_of_ble_eq_true rfl⟩ (HT.recv (ci := 3) hkb hH t_a0 (hO.no t_a0 (by decide)) rfl) rfl rfl hl.1 (Nat.le_of_ble_eq_true rfl) dX3_readUnit_182 ⟨Nat.le_of_ble_eq_true rfl, Nat.le_of_ble_eq_true rfl⟩) (fun u H locs hz9 hH hS => ?_)
              have hz9 : u = (T, O, X) := hz9
              subst hz9
              have hH : HT D cs A T O X H := hH
              refine W.widen (k := 0) (n := 0) (Nat.le_of_ble_eq_true rfl) (Nat.le_of_ble_eq_true rfl) ?_
              refine lv_iconst (v := 1) hx hb dX3_readUnit_185 (by decide) ?_
              exact te_z hx hb hr hlocks (by rfl) hH hS (⟨rfl, by decide, by decide⟩) dX3_readUnit_186
            · skip
              have tc174 := f_eq (k := 0) (by decide) c174
              refine lv_iconst (v := 0) hx hb dX3_readUnit_177 (by decide) ?_
              exact te_z hx hb hr hlocks (by rfl) hH hS (⟨rfl, by decide, by decide⟩) dX3_readUnit_178
          refine lv_icmp_ne (tgt := 162) hx hb dX3_readUnit_138 (by decide) (fun c138 => ?_) (fun c138 => ?_)
          · skip
            have tc138 := f_ne (k := 10) (by decide) c138
            exact J162  _ _ _  hH hS (lv_sub hl [0, 1, 2] rfl)
          · skip
            have tc138 := f_eq (k := 10) (by decide) c138
            refine lv_aload_n hx hb dX3_readUnit_141 rfl (lv_at hl 1 rfl) ?_
            refine t_get (ci := 3) (lst := ft3 0 0) (C := RX3) (F := TX3) (N := 3) hx hb hts uX3 hown hkb hH t_a0 (hO.no t_a0 (by decide)) (fun _ h9 => h9) rfl rfl 0 (by decide) rfl kw_82 (fun _ h9 => h9) dX3_readUnit_142 (fun v9 h9 => ?_)
            obtain ⟨v142, rfl, t_v142⟩ := h9
            refine lv_bipush (v := 62) hx hb dX3_readUnit_145 (by decide) ?_
            refine tk_i hH hS hA (tr_V (n := 1) (As := [.int 62]) hx hb hml hown hts hkb hH hOX hks hE hS hA (s_Tok_isSign l D cs kf T O X v142 (62) t_v142 (hO.sub (by decide))) kw_646 kw_615 kw_616 kw_3 kw_617 (by decide +kernel) ⟨Nat.le_of_ble_eq_true rfl, Nat.le_of_ble_eq_true rfl⟩ (HT.recv (ci := 7) hkb hH t_v142 (hO.no t_v142 (by decide)) rfl) rfl rfl hl.1 (Nat.le_of_ble_eq_true rfl) dX3_readUnit_147 ⟨Nat.le_of_ble_eq_true rfl, Nat.le_of_ble_eq_true rfl⟩) (fun v147 u H locs hz9 hH hS => ?_)
            obtain ⟨rfl, l_v147, u_v147⟩ := hz9
            have hH : HT D cs A T O X H := hH
            refine W.widen (k := 0) (n := 0) (Nat.le_of_ble_eq_true rfl) (Nat.le_of_ble_eq_true rfl) ?_
            refine lv_if_ne (tgt := 162) hx hb dX3_readUnit_150 (by decide) (fun c150 => ?_) (fun c150 => ?_)
            · skip
              have tc150 := f_ne (k := 0) (by decide) c150
              exact J162  _ _ _  hH hS (lv_sub hl [0, 1, 2] rfl)
            · skip
              have tc150 := f_eq (k := 0) (by decide) c150
              refine lv_aload_n hx hb dX3_readUnit_153 rfl (lv_at hl 1 rfl) ?_
              refine t_get (ci := 3) (lst := ft3 0 0) (C := RX3) (F := TX3) (N := 3) hx hb hts uX3 hown hkb hH t_a0 (hO.no t_a0 (by decide)) (fun _ h9 => h9) rfl rfl 0 (by decide) rfl kw_82 (fun _ h9 => h9) dX3_readUnit_154 (fun v9 h9 => ?_)
              obtain ⟨v154, rfl, t_v154⟩ := h9
              refine lv_iconst (v := 2) hx hb dX3_readUnit_157 (by decide) ?_
              refine tk_i hH hS hA (tr_V (n := 1) (As := [.int 2]) hx hb hml hown hts hkb hH hOX hks hE hS hA (s_Tok_refuse l D cs kf T O X v154 (2) t_v154 (hO.sub (by decide))) kw_640 kw_580 kw_581 kw_3 kw_582 (by decide +kernel) ⟨Nat.le_of_ble_eq_true rfl, Nat.le_of_ble_eq_true rfl⟩ (HT.recv (ci := 7) hkb hH t_v154 (hO.no t_v154 (by decide)) rfl) rfl rfl hl.1 (Nat.le_of_ble_eq_true rfl) dX3_readUnit_158 ⟨Nat.le_of_ble_eq_true rfl, Nat.le_of_ble_eq_true rfl⟩) (fun v158 u H locs hz9 hH hS => ?_)
              obtain ⟨rfl, l_v158, u_v158⟩ := hz9
              have hH : HT D cs A T O X H := hH
              refine W.widen (k := 0) (n := 0) (Nat.le_of_ble_eq_true rfl) (Nat.le_of_ble_eq_true rfl) ?_
              exact te_z hx hb hr hlocks (nar01 (by omega) (by omega)) hH hS (⟨rfl, by omega, by omega⟩) dX3_readUnit_161
        refine lv_if_eq (tgt := 115) hx hb dX3_readUnit_107 (by decide) (fun c107 => ?_) (fun c107 => ?_)
        · skip
          have tc107 := f_eq (k := 0) (by decide) c107
          refine lv_aload_n hx hb dX3_readUnit_115 rfl (lv_at hl 0 rfl) ?_
          refine t_get (ci := 3) (lst := ft3 0 0) (C := RX3) (F := TX3) (N := 3) hx hb hts uX3 hown hkb hH t_a0 (hO.no t_a0 (by decide)) (fun _ h9 => h9) rfl rfl 0 (by decide) rfl kw_82 (fun _ h9 => h9) dX3_readUnit_116 (fun v9 h9 => ?_)
          obtain ⟨v116, rfl, t_v116⟩ := h9
          refine lv_bipush (v := 60) hx hb dX3_readUnit_119 (by decide) ?_
          refine tk_i hH hS hA (tr_V (n := 1) (As := [.int 60]) hx hb hml hown hts hkb hH hOX hks hE hS hA (s_Tok_isSign l D cs kf T O X v116 (60) t_v116 (hO.sub (by decide))) kw_646 kw_615 kw_616 kw_3 kw_617 (by decide +kernel) ⟨Nat.le_of_ble_eq_true rfl, Nat.le_of_ble_eq_true rfl⟩ (HT.recv (ci := 7) hkb hH t_v116 (hO.no t_v116 (by decide)) rfl) rfl rfl hl.1 (Nat.le_of_ble_eq_true rfl) dX3_readUnit_121 ⟨Nat.le_of_ble_eq_true rfl, Nat.le_of_ble_eq_true rfl⟩) (fun v121 u H locs hz9 hH hS => ?_)
          obtain ⟨rfl, l_v121, u_v121⟩ := hz9
          have hH : HT D cs A T O X H := hH
          refine W.widen (k := 0) (n := 0) (Nat.le_of_ble_eq_true rfl) (Nat.le_of_ble_eq_true rfl) ?_
          refine lv_if_eq (tgt := 132) hx hb dX3_readUnit_124 (by decide) (fun c124 => ?_) (fun c124 => ?_)
          · skip
            have tc124 := f_eq (k := 0) (by decide) c124
            refine lv_bipush (v := 10) hx hb dX3_readUnit_132 (by decide) ?_
            exact J134 10 _ _ _ (by decide) (by decide) hH hS (lv_sub hl [0, 1] rfl)
          · skip
            have tc124 := f_ne (k := 0) (by decide) c124
            refine lv_bipush (v := 9) hx hb dX3_readUnit_127 (by decide) ?_
            refine lv_goto (tgt := 134) hx hb dX3_readUnit_129 (by decide) ?_
            exact J134 9 _ _ _ (by decide) (by decide) hH hS (lv_sub hl [0, 1] rfl)
        · skip
          have tc107 := f_ne (k := 0) (by decide) c107
          refine lv_bipush (v := 8) hx hb dX3_readUnit_110 (by decide) ?_
          refine lv_goto (tgt := 134) hx hb dX3_readUnit_112 (by decide) ?_
          exact J134 8 _ _ _ (by decide) (by decide) hH hS (lv_sub hl [0, 1] rfl)
      · skip
        have tc93 := f_eq (k := 0) (by decide) c93
        refine lv_iconst (v := 0) hx hb dX3_readUnit_96 (by decide) ?_
        exact te_z hx hb hr hlocks (by rfl) hH hS (⟨rfl, by decide, by decide⟩) dX3_readUnit_97
    · skip
      have tc49 := f_ne (k := 0) (by decide) c49
      refine lv_aload_n hx hb dX3_readUnit_52 rfl (lv_at hl 0 rfl) ?_
      refine lv_iload_n hx hb dX3_readUnit_53 rfl (lv_at hl 1 rfl) ?_
      refine tk_i hH hS hA (tr_V (n := 1) (As := [.int x1]) hx hb hml hown hts hkb hH hOX hks hE hS hA (s_LR_enter2 l D cs kf T O X a0 x1 t_a0 (by omega) (by omega) (hO.sub (by decide))) kw_636 kw_638 ks_8 kw_4 kw_639 (by decide +kernel) ⟨Nat.le_of_ble_eq_true rfl, Nat.le_of_ble_eq_true rfl⟩ (HT.recv (ci := 3) hkb hH t_a0 (hO.no t_a0 (by decide)) rfl) rfl rfl hl.1 (Nat.le_of_ble_eq_true rfl) dX3_readUnit_54 ⟨Nat.le_of_ble_eq_true rfl, Nat.le_of_ble_eq_true rfl⟩) (fun v54 u H locs hz9 hH hS => ?_)
      obtain ⟨rfl, l_v54, u_v54⟩ := hz9
      have hH : HT D cs A T O X H := hH
      refine W.widen (k := 0) (n := 0) (Nat.le_of_ble_eq_true rfl) (Nat.le_of_ble_eq_true rfl) ?_
      refine lv_if_eq (tgt := 86) hx hb dX3_readUnit_57 (by decide) (fun c57 => ?_) (fun c57 => ?_)
      · skip
        have tc57 := f_eq (k := 0) (by decide) c57
        exfalso; omega
      · skip
        have tc57 := f_ne (k := 0) (by decide) c57
        refine lv_aload_n hx hb dX3_readUnit_60 rfl (lv_at hl 0 rfl) ?_
        refine lv_iload_n hx hb dX3_readUnit_61 rfl (lv_at hl 1 rfl) ?_
        refine lv_iconst (v := 1) hx hb dX3_readUnit_62 (by decide) ?_
        refine lv_iadd hx hb dX3_readUnit_63 ?_
        refine lv_topi (fun v63 ev63 => ?_)
        have tv63 : v63.toInt = x1.toInt + (1) := by rw [ev63]; exact add_i rfl (by decide : (1 : Int32).toInt = 1) (by omega) (by omega)
        refine tk_i hH hS hA (tr_V (n := 1) (As := [.int v63]) hx hb hml hown hts hkb hH hOX hks hE hS hA (s_LR_readTruth3 l D cs kf T O X a0 v63 t_a0 (by omega) (by omega) (hO.sub (by decide))) kw_622 kw_624 ks_5 kw_4 kw_625 (by decide +kernel) ⟨Nat.le_of_ble_eq_true rfl, Nat.le_of_ble_eq_true rfl⟩ (HT.recv (ci := 3) hkb hH t_a0 (hO.no t_a0 (by decide)) rfl) rfl rfl hl.1 (Nat.le_of_ble_eq_true rfl) dX3_readUnit_64 ⟨Nat.le_of_ble_eq_true rfl, Nat.le_of_ble_eq_true rfl⟩) (fun v64 u H locs hz9 hH hS => ?_)
        obtain ⟨rfl, l_v64, u_v64⟩ := hz9
        have hH : HT D cs A T O X H := hH
        refine W.widen (k := 0) (n := 0) (Nat.le_of_ble_eq_true rfl) (Nat.le_of_ble_eq_true rfl) ?_
        have J87 : ∀ (k87_0 : Int32) (H : Heap) (locs : List Loc) (ls : Array Slot), (0 ≤ k87_0.toInt) → (k87_0.toInt ≤ 1) → HT D cs A T O X H → va_S A s.heap H locs → lv_has ls 3 [] → W p l e { frames := 21, cells := 0, slots := 0, locals := 476 } s m [.ref a0, .int x1].toArray below meth c H locs 0 0 (MQ below (Ti D cs (fun r u => u = (T, O, X) ∧ 0 ≤ r.toInt ∧ r.toInt ≤ 1) A) [.ref a0, .int x1].toArray s 0 0 A) (F0 m 87 ls [.int k87_0]) := by
          intro k87_0 H locs ls l_k87_0 u_k87_0 hH hS hl
          exact te_z hx hb hr hlocks (nar01 (by omega) (by omega)) hH hS (⟨rfl, by omega, by omega⟩) dX3_readUnit_87
        have J86 : ∀  (H : Heap) (locs : List Loc) (ls : Array Slot), HT D cs A T O X H → va_S A s.heap H locs → lv_has ls 3 [] → W p l e { frames := 21, cells := 0, slots := 0, locals := 476 } s m [.ref a0, .int x1].toArray below meth c H locs 0 0 (MQ below (Ti D cs (fun r u => u = (T, O, X) ∧ 0 ≤ r.toInt ∧ r.toInt ≤ 1) A) [.ref a0, .int x1].toArray s 0 0 A) (F0 m 86 ls []) := by
          intro  H locs ls  hH hS hl
          refine lv_iconst (v := 0) hx hb dX3_readUnit_86 (by decide) ?_
          exact J87 0 _ _ _ (by decide) (by decide) hH hS (lv_sub hl [] rfl)
        refine lv_if_eq (tgt := 86) hx hb dX3_readUnit_67 (by decide) (fun c67 => ?_) (fun c67 => ?_)
        · skip
          have tc67 := f_eq (k := 0) (by decide) c67
          exact J86  _ _ _  hH hS (lv_sub hl [] rfl)
        · skip
          have tc67 := f_ne (k := 0) (by decide) c67
          refine lv_aload_n hx hb dX3_readUnit_70 rfl (lv_at hl 0 rfl) ?_
          refine t_get (ci := 3) (lst := ft3 0 0) (C := RX3) (F := TX3) (N := 3) hx hb hts uX3 hown hkb hH t_a0 (hO.no t_a0 (by decide)) (fun _ h9 => h9) rfl rfl 0 (by decide) rfl kw_82 (fun _ h9 => h9) dX3_readUnit_71 (fun v9 h9 => ?_)
          obtain ⟨v71, rfl, t_v71⟩ := h9
          refine lv_bipush (v := 93) hx hb dX3_readUnit_74 (by decide) ?_
          refine tk_i hH hS hA (tr_V (n := 1) (As := [.int 93]) hx hb hml hown hts hkb hH hOX hks hE hS hA (s_Tok_takeSign l D cs kf T O X v71 (93) t_v71 (hO.sub (by decide))) kw_647 kw_611 kw_612 kw_3 kw_613 (by decide +kernel) ⟨Nat.le_of_ble_eq_true rfl, Nat.le_of_ble_eq_true rfl⟩ (HT.recv (ci := 7) hkb hH t_v71 (hO.no t_v71 (by decide)) rfl) rfl rfl hl.1 (Nat.le_of_ble_eq_true rfl) dX3_readUnit_76 ⟨Nat.le_of_ble_eq_true rfl, Nat.le_of_ble_eq_true rfl⟩) (fun v76 u H locs hz9 hH hS => ?_)
          obtain ⟨rfl, l_v76, u_v76⟩ := hz9
          have hH : HT D cs A T O X H := hH
          refine W.widen (k := 0) (n := 0) (Nat.le_of_ble_eq_true rfl) (Nat.le_of_ble_eq_true rfl) ?_
          refine lv_if_eq (tgt := 86) hx hb dX3_readUnit_79 (by decide) (fun c79 => ?_) (fun c79 => ?_)
          · skip
            have tc79 := f_eq (k := 0) (by decide) c79
            exact J86  _ _ _  hH hS (lv_sub hl [] rfl)
          · skip
            have tc79 := f_ne (k := 0) (by decide) c79
            refine lv_iconst (v := 1) hx hb dX3_readUnit_82 (by decide) ?_
            refine lv_goto (tgt := 87) hx hb dX3_readUnit_83 (by decide) ?_
            exact J87 1 _ _ _ (by decide) (by decide) hH hS (lv_sub hl [] rfl)
  · skip
    have tc9 := f_ne (k := 0) (by decide) c9
    refine lv_aload_n hx hb dX3_readUnit_12 rfl (lv_at hl 0 rfl) ?_
    refine lv_iload_n hx hb dX3_readUnit_13 rfl (lv_at hl 1 rfl) ?_
    refine tk_i hH hS hA (tr_V (n := 1) (As := [.int x1]) hx hb hml hown hts hkb hH hOX hks hE hS hA (s_LR_enter2 l D cs kf T O X a0 x1 t_a0 (by omega) (by omega) (hO.sub (by decide))) kw_636 kw_638 ks_8 kw_4 kw_639 (by decide +kernel) ⟨Nat.le_of_ble_eq_true rfl, Nat.le_of_ble_eq_true rfl⟩ (HT.recv (ci := 3) hkb hH t_a0 (hO.no t_a0 (by decide)) rfl) rfl rfl hl.1 (Nat.le_of_ble_eq_true rfl) dX3_readUnit_14 ⟨Nat.le_of_ble_eq_true rfl, Nat.le_of_ble_eq_true rfl⟩) (fun v14 u H locs hz9 hH hS => ?_)
    obtain ⟨rfl, l_v14, u_v14⟩ := hz9
    have hH : HT D cs A T O X H := hH
    refine W.widen (k := 0) (n := 0) (Nat.le_of_ble_eq_true rfl) (Nat.le_of_ble_eq_true rfl) ?_
    refine lv_if_eq (tgt := 30) hx hb dX3_readUnit_17 (by decide) (fun c17 => ?_) (fun c17 => ?_)
    · skip
      have tc17 := f_eq (k := 0) (by decide) c17
      exfalso; omega
    · skip
      have tc17 := f_ne (k := 0) (by decide) c17
      refine lv_aload_n hx hb dX3_readUnit_20 rfl (lv_at hl 0 rfl) ?_
      refine lv_iload_n hx hb dX3_readUnit_21 rfl (lv_at hl 1 rfl) ?_
      refine lv_iconst (v := 1) hx hb dX3_readUnit_22 (by decide) ?_
      refine lv_iadd hx hb dX3_readUnit_23 ?_
      refine lv_topi (fun v23 ev23 => ?_)
      have tv23 : v23.toInt = x1.toInt + (1) := by rw [ev23]; exact add_i rfl (by decide : (1 : Int32).toInt = 1) (by omega) (by omega)
      refine tk_i hH hS hA (tr_V (n := 1) (As := [.int v23]) hx hb hml hown hts hkb hH hOX hks hE hS hA (s_LR_readUnit3 l D cs kf T O X a0 v23 t_a0 (by omega) (by omega) (hO.sub (by decide))) kw_630 kw_632 ks_7 kw_4 kw_633 (by decide +kernel) ⟨Nat.le_of_ble_eq_true rfl, Nat.le_of_ble_eq_true rfl⟩ (HT.recv (ci := 3) hkb hH t_a0 (hO.no t_a0 (by decide)) rfl) rfl rfl hl.1 (Nat.le_of_ble_eq_true rfl) dX3_readUnit_24 ⟨Nat.le_of_ble_eq_true rfl, Nat.le_of_ble_eq_true rfl⟩) (fun v24 u H locs hz9 hH hS => ?_)
      obtain ⟨rfl, l_v24, u_v24⟩ := hz9
      have hH : HT D cs A T O X H := hH
      refine W.widen (k := 0) (n := 0) (Nat.le_of_ble_eq_true rfl) (Nat.le_of_ble_eq_true rfl) ?_
      refine lv_if_ne (tgt := 32) hx hb dX3_readUnit_27 (by decide) (fun c27 => ?_) (fun c27 => ?_)
      · skip
        have tc27 := f_ne (k := 0) (by decide) c27
        refine lv_aload_n hx hb dX3_readUnit_32 rfl (lv_at hl 0 rfl) ?_
        refine lv_iconst (v := 2) hx hb dX3_readUnit_33 (by decide) ?_
        refine lv_iconst (v := 0) hx hb dX3_readUnit_34 (by decide) ?_
        refine tk_v hH hS hA (tr_V (n := 2) (As := [.int 2, .int 0]) hx hb hml hown hts hkb hH hOX hks hE hS hA (s_LR_put l D cs kf T O X a0 (2) (0) t_a0 (hO.sub (by decide))) kw_642 kw_644 ks_9 kw_4 kw_645 (by decide +kernel) ⟨Nat.le_of_ble_eq_true rfl, Nat.le_of_ble_eq_true rfl⟩ (HT.recv (ci := 3) hkb hH t_a0 (hO.no t_a0 (by decide)) rfl) rfl rfl hl.1 (Nat.le_of_ble_eq_true rfl) dX3_readUnit_35 ⟨Nat.le_of_ble_eq_true rfl, Nat.le_of_ble_eq_true rfl⟩) (fun u H locs hz9 hH hS => ?_)
        have hz9 : u = (T, O, X) := hz9
        subst hz9
        have hH : HT D cs A T O X H := hH
        refine W.widen (k := 0) (n := 0) (Nat.le_of_ble_eq_true rfl) (Nat.le_of_ble_eq_true rfl) ?_
        refine lv_iconst (v := 1) hx hb dX3_readUnit_38 (by decide) ?_
        exact te_z hx hb hr hlocks (by rfl) hH hS (⟨rfl, by decide, by decide⟩) dX3_readUnit_39
      · skip
        have tc27 := f_eq (k := 0) (by decide) c27
        refine lv_iconst (v := 0) hx hb dX3_readUnit_30 (by decide) ?_
        exact te_z hx hb hr hlocks (by rfl) hH hS (⟨rfl, by decide, by decide⟩) dX3_readUnit_31
set_option maxHeartbeats 4000000 in
set_option maxRecDepth 100000 in
theorem s_LR_readBoth2 (l : Launch) (D : va_G) (cs : CS) (kf : KF) (T : TF) (O : List Nat) (X : va_W) (a0 : Nat) (x1 : Int32) (t_a0 : T a0 = some (13, 0, 0)) (l_x1 : 2 ≤ x1.toInt) (u_x1 : x1.toInt ≤ 2) (hO : okO T O [0, 1, 13, 17]) : TK l D cs kf yX3_readBoth cX3_readBoth 5 (some (.boolean)) { frames := 22, cells := 0, slots := 0, locals := 498 } [.ref a0, .int x1] T O X (Ti D cs (fun r u => u = (T, O, X) ∧ 0 ≤ r.toInt ∧ r.toInt ≤ 1)) := by
  refine tk_of (by decide) (Nat.le_of_ble_eq_true rfl) (fun p e s m below meth c ls A H locs hx hb hr hml hown hts hlocks hnm hkb hH hS hA hOX hks hE hl => ?_)
  have hown : s.vm.findClass RX3 = some m.cls := hown
  have hl : lv_has ls 5 [(0, .ref a0), (1, .int x1)] := hl
  refine lv_aload_n hx hb dX3_readBoth_0 rfl (lv_at hl 0 rfl) ?_
  refine lv_iload_n hx hb dX3_readBoth_1 rfl (lv_at hl 1 rfl) ?_
  refine tk_i hH hS hA (tr_V (n := 1) (As := [.int x1]) hx hb hml hown hts hkb hH hOX hks hE hS hA (s_LR_readUnit2 l D cs kf T O X a0 x1 t_a0 (by omega) (by omega) (hO.sub (by decide))) kw_630 kw_632 ks_7 kw_4 kw_633 (by decide +kernel) ⟨Nat.le_of_ble_eq_true rfl, Nat.le_of_ble_eq_true rfl⟩ (HT.recv (ci := 3) hkb hH t_a0 (hO.no t_a0 (by decide)) rfl) rfl rfl hl.1 (Nat.le_of_ble_eq_true rfl) dX3_readBoth_2 ⟨Nat.le_of_ble_eq_true rfl, Nat.le_of_ble_eq_true rfl⟩) (fun v2 u H locs hz9 hH hS => ?_)
  obtain ⟨rfl, l_v2, u_v2⟩ := hz9
  have hH : HT D cs A T O X H := hH
  refine W.widen (k := 0) (n := 0) (Nat.le_of_ble_eq_true rfl) (Nat.le_of_ble_eq_true rfl) ?_
  refine lv_istore_n (lv' := [(2, .int v2), (0, .ref a0), (1, .int x1)]) hx hb dX3_readBoth_5 rfl hl (by decide) rfl (fun ls hl => ?_)
  refine lv_iconst (v := 0) hx hb dX3_readBoth_6 (by decide) ?_
  have J8 : ∀ (n : Nat) (p8_3 : Int32) (p8_2 : Int32) (H : Heap) (locs : List Loc) (ls : Array Slot), (900 - p8_3.toInt).toNat = n → (0 ≤ p8_3.toInt) → (p8_3.toInt ≤ 900) → (0 ≤ p8_2.toInt) → (p8_2.toInt ≤ 1) → HT D cs A T O X H → va_S A s.heap H locs → lv_has ls 5 [(3, .int p8_3), (2, .int p8_2), (0, .ref a0), (1, .int x1)] → W p l e { frames := 22, cells := 0, slots := 0, locals := 498 } s m [.ref a0, .int x1].toArray below meth c H locs 0 0 (MQ below (Ti D cs (fun r u => u = (T, O, X) ∧ 0 ≤ r.toInt ∧ r.toInt ≤ 1) A) [.ref a0, .int x1].toArray s 0 0 A) (F0 m 8 ls []) := by
    intro n
    induction n using Nat.strongRecOn with
    | _ n ih8 =>
      intro p8_3 p8_2 H locs ls hm8 l_p8_3 u_p8_3 l_p8_2 u_p8_2 hH hS hl
      refine lv_iload_n hx hb dX3_readBoth_8 rfl (lv_at hl 0 rfl) ?_
      refine lv_sipush (v := 900) hx hb dX3_readBoth_9 (by decide) ?_
      have J68 : ∀  (H : Heap) (locs : List Loc) (ls : Array Slot), HT D cs A T O X H → va_S A s.heap H locs → lv_has ls 5 [(2, .int p8_2)] → W p l e { frames := 22, cells := 0, slots := 0, locals := 498 } s m [.ref a0, .int x1].toArray below meth c H locs 0 0 (MQ below (Ti D cs (fun r u => u = (T, O, X) ∧ 0 ≤ r.toInt ∧ r.toInt ≤ 1) A) [.ref a0, .int x1].toArray s 0 0 A) (F0 m 68 ls []) := by
        intro  H locs ls  hH hS hl
        refine lv_iload_n hx hb dX3_readBoth_68 rfl (lv_at hl 0 rfl) ?_
        exact te_z hx hb hr hlocks (nar01 (by omega) (by omega)) hH hS (⟨rfl, by omega, by omega⟩) dX3_readBoth_69
      refine lv_icmp_ge (tgt := 68) hx hb dX3_readBoth_12 (by decide) (fun c12 => ?_) (fun c12 => ?_)
      · skip
        have tc12 := f_ge (k := 900) (by decide) c12
        exact J68  _ _ _  hH hS (lv_sub hl [1] rfl)
      · skip
        have tc12 := f_nge (k := 900) (by decide) c12
        refine lv_iload_n hx hb dX3_readBoth_15 rfl (lv_at hl 1 rfl) ?_
        refine lv_if_eq (tgt := 68) hx hb dX3_readBoth_16 (by decide) (fun c16 => ?_) (fun c16 => ?_)
        · skip
          have tc16 := f_eq (k := 0) (by decide) c16
          exact J68  _ _ _  hH hS (lv_sub hl [1] rfl)
        · skip
          have tc16 := f_ne (k := 0) (by decide) c16
          refine lv_aload_n hx hb dX3_readBoth_19 rfl (lv_at hl 2 rfl) ?_
          refine t_get (ci := 3) (lst := ft3 0 0) (C := RX3) (F := TX3) (N := 3) hx hb hts uX3 hown hkb hH t_a0 (hO.no t_a0 (by decide)) (fun _ h9 => h9) rfl rfl 0 (by decide) rfl kw_82 (fun _ h9 => h9) dX3_readBoth_20 (fun v9 h9 => ?_)
          obtain ⟨v20, rfl, t_v20⟩ := h9
          refine va_ldcS (q := kf.1 15) hx hb hown (hks ("FootholdWall$LawReader", 63, "and", 15) (by decide +kernel)) dX3_readBoth_23 ?_
          refine tk_i hH hS hA (tr_V (n := 1) (As := [.ref (kf.1 15)]) hx hb hml hown hts hkb hH hOX hks hE hS hA (s_Tok_isWord l D cs kf T O X v20 15 t_v20 (by decide) (hO.sub (by decide))) kw_635 kw_551 kw_552 kw_3 kw_553 (by decide +kernel) ⟨Nat.le_of_ble_eq_true rfl, Nat.le_of_ble_eq_true rfl⟩ (HT.recv (ci := 7) hkb hH t_v20 (hO.no t_v20 (by decide)) rfl) rfl rfl hl.1 (Nat.le_of_ble_eq_true rfl) dX3_readBoth_25 ⟨Nat.le_of_ble_eq_true rfl, Nat.le_of_ble_eq_true rfl⟩) (fun v25 u H locs hz9 hH hS => ?_)
          obtain ⟨rfl, l_v25, u_v25⟩ := hz9
          have hH : HT D cs A T O X H := hH
          refine W.widen (k := 0) (n := 0) (Nat.le_of_ble_eq_true rfl) (Nat.le_of_ble_eq_true rfl) ?_
          refine lv_if_eq (tgt := 68) hx hb dX3_readBoth_28 (by decide) (fun c28 => ?_) (fun c28 => ?_)
          · skip
            have tc28 := f_eq (k := 0) (by decide) c28
            exact J68  _ _ _  hH hS (lv_sub hl [1] rfl)
          · skip
            have tc28 := f_ne (k := 0) (by decide) c28
            refine lv_aload_n hx hb dX3_readBoth_31 rfl (lv_at hl 2 rfl) ?_
            refine t_get (ci := 3) (lst := ft3 0 0) (C := RX3) (F := TX3) (N := 3) hx hb hts uX3 hown hkb hH t_a0 (hO.no t_a0 (by decide)) (fun _ h9 => h9) rfl rfl 0 (by decide) rfl kw_82 (fun _ h9 => h9) dX3_readBoth_32 (fun v9 h9 => ?_)
            obtain ⟨v32, rfl, t_v32⟩ := h9
            refine tk_v hH hS hA (tr_V (n := 0) (As := []) hx hb hml hown hts hkb hH hOX hks hE hS hA (s_Tok_go l D cs kf T O X v32 t_v32 (hO.sub (by decide))) kw_641 kw_453 kw_454 kw_3 kw_455 (by decide +kernel) ⟨Nat.le_of_ble_eq_true rfl, Nat.le_of_ble_eq_true rfl⟩ (HT.recv (ci := 7) hkb hH t_v32 (hO.no t_v32 (by decide)) rfl) rfl rfl hl.1 (Nat.le_of_ble_eq_true rfl) dX3_readBoth_35 ⟨Nat.le_of_ble_eq_true rfl, Nat.le_of_ble_eq_true rfl⟩) (fun u H locs hz9 hH hS => ?_)
            have hz9 : u = (T, O, X) := hz9
            subst hz9
            have hH : HT D cs A T O X H := hH
            refine W.widen (k := 0) (n := 0) (Nat.le_of_ble_eq_true rfl) (Nat.le_of_ble_eq_true rfl) ?_
            refine lv_aload_n hx hb dX3_readBoth_38 rfl (lv_at hl 2 rfl) ?_
            refine t_get (ci := 3) (lst := ft3 0 0) (C := RX3) (F := TX3) (N := 3) hx hb hts uX3 hown hkb hH t_a0 (hO.no t_a0 (by decide)) (fun _ h9 => h9) rfl rfl 2 (by decide) rfl kw_84 (fun _ h9 => h9) dX3_readBoth_39 (fun v9 h9 => ?_)
            obtain ⟨v39, rfl, l_v39, u_v39⟩ := h9
            refine lv_istore (lv' := [(4, .int v39), (3, .int p8_3), (2, .int p8_2), (0, .ref a0), (1, .int x1)]) hx hb dX3_readBoth_42 hl (by decide) rfl (fun ls hl => ?_)
            refine lv_aload_n hx hb dX3_readBoth_44 rfl (lv_at hl 3 rfl) ?_
            refine lv_iconst (v := 3) hx hb dX3_readBoth_45 (by decide) ?_
            refine lv_iconst (v := 0) hx hb dX3_readBoth_46 (by decide) ?_
            refine tk_v hH hS hA (tr_V (n := 2) (As := [.int 3, .int 0]) hx hb hml hown hts hkb hH hOX hks hE hS hA (s_LR_put l D cs kf T O X a0 (3) (0) t_a0 (hO.sub (by decide))) kw_642 kw_644 ks_9 kw_4 kw_645 (by decide +kernel) ⟨Nat.le_of_ble_eq_true rfl, Nat.le_of_ble_eq_true rfl⟩ (HT.recv (ci := 3) hkb hH t_a0 (hO.no t_a0 (by decide)) rfl) rfl rfl hl.1 (Nat.le_of_ble_eq_true rfl) dX3_readBoth_47 ⟨Nat.le_of_ble_eq_true rfl, Nat.le_of_ble_eq_true rfl⟩) (fun u H locs hz9 hH hS => ?_)
            have hz9 : u = (T, O, X) := hz9
            subst hz9
            have hH : HT D cs A T O X H := hH
            refine W.widen (k := 0) (n := 0) (Nat.le_of_ble_eq_true rfl) (Nat.le_of_ble_eq_true rfl) ?_
            refine lv_aload_n hx hb dX3_readBoth_50 rfl (lv_at hl 3 rfl) ?_
            refine lv_iload_n hx hb dX3_readBoth_51 rfl (lv_at hl 4 rfl) ?_
            refine tk_i hH hS hA (tr_V (n := 1) (As := [.int x1]) hx hb hml hown hts hkb hH hOX hks hE hS hA (s_LR_readUnit2 l D cs kf T O X a0 x1 t_a0 (by omega) (by omega) (hO.sub (by decide))) kw_630 kw_632 ks_7 kw_4 kw_633 (by decide +kernel) ⟨Nat.le_of_ble_eq_true rfl, Nat.le_of_ble_eq_true rfl⟩ (HT.recv (ci := 3) hkb hH t_a0 (hO.no t_a0 (by decide)) rfl) rfl rfl hl.1 (Nat.le_of_ble_eq_true rfl) dX3_readBoth_52 ⟨Nat.le_of_ble_eq_true rfl, Nat.le_of_ble_eq_true rfl⟩) (fun v52 u H locs hz9 hH hS => ?_)
            obtain ⟨rfl, l_v52, u_v52⟩ := hz9
            have hH : HT D cs A T O X H := hH
            refine W.widen (k := 0) (n := 0) (Nat.le_of_ble_eq_true rfl) (Nat.le_of_ble_eq_true rfl) ?_
            refine lv_istore_n (lv' := [(2, .int v52), (4, .int v39), (3, .int p8_3), (0, .ref a0), (1, .int x1)]) hx hb dX3_readBoth_55 rfl hl (by decide) rfl (fun ls hl => ?_)
            refine lv_aload_n hx hb dX3_readBoth_56 rfl (lv_at hl 3 rfl) ?_
            refine lv_iload hx hb dX3_readBoth_57 (lv_at hl 1 rfl) ?_
            refine tk_v hH hS hA (tr_V (n := 1) (As := [.int v39]) hx hb hml hown hts hkb hH hOX hks hE hS hA (s_LR_aimSkip l D cs kf T O X a0 v39 t_a0 (hO.sub (by decide))) kw_672 kw_674 ks_14 kw_4 kw_675 (by decide +kernel) ⟨Nat.le_of_ble_eq_true rfl, Nat.le_of_ble_eq_true rfl⟩ (HT.recv (ci := 3) hkb hH t_a0 (hO.no t_a0 (by decide)) rfl) rfl rfl hl.1 (Nat.le_of_ble_eq_true rfl) dX3_readBoth_59 ⟨Nat.le_of_ble_eq_true rfl, Nat.le_of_ble_eq_true rfl⟩) (fun u H locs hz9 hH hS => ?_)
            have hz9 : u = (T, O, X) := hz9
            subst hz9
            have hH : HT D cs A T O X H := hH
            refine W.widen (k := 0) (n := 0) (Nat.le_of_ble_eq_true rfl) (Nat.le_of_ble_eq_true rfl) ?_
            obtain ⟨v62, ev62⟩ : ∃ y : Int32, y = p8_3 + 1 := ⟨_, rfl⟩
            have tv62 : v62.toInt = p8_3.toInt + (1) := by rw [ev62]; exact add_i rfl (by decide) (by omega) (by omega)
            refine lv_iinc (v := v62) (lv' := [(3, .int v62), (2, .int v52), (4, .int v39), (0, .ref a0), (1, .int x1)]) hx hb dX3_readBoth_62 hl (k := 2) rfl (by rw [ev62]; rfl) (by decide) rfl (fun ls hl => ?_)
            refine lv_goto (tgt := 8) hx hb dX3_readBoth_65 (by decide) ?_
            exact ih8 _ (by omega) v62 v52 _ _ _ rfl (by omega) (by omega) (by omega) (by omega) hH hS (lv_sub hl [0, 1, 3, 4] rfl)
  refine lv_istore_n (lv' := [(3, .int 0), (2, .int v2), (0, .ref a0), (1, .int x1)]) hx hb dX3_readBoth_7 rfl hl (by decide) rfl (fun ls hl => ?_)
  exact J8 _ 0 v2 _ _ _ rfl (by decide) (by decide) (by omega) (by omega) hH hS (lv_sub hl [0, 1, 2, 3] rfl)
set_option maxHeartbeats 4000000 in
set_option maxRecDepth 100000 in
theorem s_LR_readTruth2 (l : Launch) (D : va_G) (cs : CS) (kf : KF) (T : TF) (O : List Nat) (X : va_W) (a0 : Nat) (x1 : Int32) (t_a0 : T a0 = some (13, 0, 0)) (l_x1 : 2 ≤ x1.toInt) (u_x1 : x1.toInt ≤ 2) (hO : okO T O [0, 1, 13, 17]) : TK l D cs kf yX3_readTruth cX3_readTruth 5 (some (.boolean)) { frames := 23, cells := 0, slots := 0, locals := 522 } [.ref a0, .int x1] T O X (Ti D cs (fun r u => u = (T, O, X) ∧ 0 ≤ r.toInt ∧ r.toInt ≤ 1)) := by
  refine tk_of (by decide) (Nat.le_of_ble_eq_true rfl) (fun p e s m below meth c ls A H locs hx hb hr hml hown hts hlocks hnm hkb hH hS hA hOX hks hE hl => ?_)
  have hown : s.vm.findClass RX3 = some m.cls := hown
  have hl : lv_has ls 5 [(0, .ref a0), (1, .int x1)] := hl
  refine lv_aload_n hx hb dX3_readTruth_0 rfl (lv_at hl 0 rfl) ?_
  refine lv_iload_n hx hb dX3_readTruth_1 rfl (lv_at hl 1 rfl) ?_
  refine tk_i hH hS hA (tr_V (n := 1) (As := [.int x1]) hx hb hml hown hts hkb hH hOX hks hE hS hA (s_LR_readBoth2 l D cs kf T O X a0 x1 t_a0 (by omega) (by omega) (hO.sub (by decide))) kw_626 kw_628 ks_6 kw_4 kw_629 (by decide +kernel) ⟨Nat.le_of_ble_eq_true rfl, Nat.le_of_ble_eq_true rfl⟩ (HT.recv (ci := 3) hkb hH t_a0 (hO.no t_a0 (by decide)) rfl) rfl rfl hl.1 (Nat.le_of_ble_eq_true rfl) dX3_readTruth_2 ⟨Nat.le_of_ble_eq_true rfl, Nat.le_of_ble_eq_true rfl⟩) (fun v2 u H locs hz9 hH hS => ?_)
  obtain ⟨rfl, l_v2, u_v2⟩ := hz9
  have hH : HT D cs A T O X H := hH
  refine W.widen (k := 0) (n := 0) (Nat.le_of_ble_eq_true rfl) (Nat.le_of_ble_eq_true rfl) ?_
  refine lv_istore_n (lv' := [(2, .int v2), (0, .ref a0), (1, .int x1)]) hx hb dX3_readTruth_5 rfl hl (by decide) rfl (fun ls hl => ?_)
  refine lv_iconst (v := 0) hx hb dX3_readTruth_6 (by decide) ?_
  have J8 : ∀ (n : Nat) (p8_3 : Int32) (p8_2 : Int32) (H : Heap) (locs : List Loc) (ls : Array Slot), (900 - p8_3.toInt).toNat = n → (0 ≤ p8_3.toInt) → (p8_3.toInt ≤ 900) → (0 ≤ p8_2.toInt) → (p8_2.toInt ≤ 1) → HT D cs A T O X H → va_S A s.heap H locs → lv_has ls 5 [(3, .int p8_3), (2, .int p8_2), (0, .ref a0), (1, .int x1)] → W p l e { frames := 23, cells := 0, slots := 0, locals := 522 } s m [.ref a0, .int x1].toArray below meth c H locs 0 0 (MQ below (Ti D cs (fun r u => u = (T, O, X) ∧ 0 ≤ r.toInt ∧ r.toInt ≤ 1) A) [.ref a0, .int x1].toArray s 0 0 A) (F0 m 8 ls []) := by
    intro n
    induction n using Nat.strongRecOn with
    | _ n ih8 =>
      intro p8_3 p8_2 H locs ls hm8 l_p8_3 u_p8_3 l_p8_2 u_p8_2 hH hS hl
      refine lv_iload_n hx hb dX3_readTruth_8 rfl (lv_at hl 0 rfl) ?_
      refine lv_sipush (v := 900) hx hb dX3_readTruth_9 (by decide) ?_
      have J68 : ∀  (H : Heap) (locs : List Loc) (ls : Array Slot), HT D cs A T O X H → va_S A s.heap H locs → lv_has ls 5 [(2, .int p8_2)] → W p l e { frames := 23, cells := 0, slots := 0, locals := 522 } s m [.ref a0, .int x1].toArray below meth c H locs 0 0 (MQ below (Ti D cs (fun r u => u = (T, O, X) ∧ 0 ≤ r.toInt ∧ r.toInt ≤ 1) A) [.ref a0, .int x1].toArray s 0 0 A) (F0 m 68 ls []) := by
        intro  H locs ls  hH hS hl
        refine lv_iload_n hx hb dX3_readTruth_68 rfl (lv_at hl 0 rfl) ?_
        exact te_z hx hb hr hlocks (nar01 (by omega) (by omega)) hH hS (⟨rfl, by omega, by omega⟩) dX3_readTruth_69
      refine lv_icmp_ge (tgt := 68) hx hb dX3_readTruth_12 (by decide) (fun c12 => ?_) (fun c12 => ?_)
      · skip
        have tc12 := f_ge (k := 900) (by decide) c12
        exact J68  _ _ _  hH hS (lv_sub hl [1] rfl)
      · skip
        have tc12 := f_nge (k := 900) (by decide) c12
        refine lv_iload_n hx hb dX3_readTruth_15 rfl (lv_at hl 1 rfl) ?_
        refine lv_if_eq (tgt := 68) hx hb dX3_readTruth_16 (by decide) (fun c16 => ?_) (fun c16 => ?_)
        · skip
          have tc16 := f_eq (k := 0) (by decide) c16
          exact J68  _ _ _  hH hS (lv_sub hl [1] rfl)
        · skip
          have tc16 := f_ne (k := 0) (by decide) c16
          refine lv_aload_n hx hb dX3_readTruth_19 rfl (lv_at hl 2 rfl) ?_
          refine t_get (ci := 3) (lst := ft3 0 0) (C := RX3) (F := TX3) (N := 3) hx hb hts uX3 hown hkb hH t_a0 (hO.no t_a0 (by decide)) (fun _ h9 => h9) rfl rfl 0 (by decide) rfl kw_82 (fun _ h9 => h9) dX3_readTruth_20 (fun v9 h9 => ?_)
          obtain ⟨v20, rfl, t_v20⟩ := h9
          refine va_ldcS (q := kf.1 16) hx hb hown (hks ("FootholdWall$LawReader", 41, "or", 16) (by decide +kernel)) dX3_readTruth_23 ?_
          refine tk_i hH hS hA (tr_V (n := 1) (As := [.ref (kf.1 16)]) hx hb hml hown hts hkb hH hOX hks hE hS hA (s_Tok_isWord l D cs kf T O X v20 16 t_v20 (by decide) (hO.sub (by decide))) kw_635 kw_551 kw_552 kw_3 kw_553 (by decide +kernel) ⟨Nat.le_of_ble_eq_true rfl, Nat.le_of_ble_eq_true rfl⟩ (HT.recv (ci := 7) hkb hH t_v20 (hO.no t_v20 (by decide)) rfl) rfl rfl hl.1 (Nat.le_of_ble_eq_true rfl) dX3_readTruth_25 ⟨Nat.le_of_ble_eq_true rfl, Nat.le_of_ble_eq_true rfl⟩) (fun v25 u H locs hz9 hH hS => ?_)
          obtain ⟨rfl, l_v25, u_v25⟩ := hz9
          have hH : HT D cs A T O X H := hH
          refine W.widen (k := 0) (n := 0) (Nat.le_of_ble_eq_true rfl) (Nat.le_of_ble_eq_true rfl) ?_
          refine lv_if_eq (tgt := 68) hx hb dX3_readTruth_28 (by decide) (fun c28 => ?_) (fun c28 => ?_)
          · skip
            have tc28 := f_eq (k := 0) (by decide) c28
            exact J68  _ _ _  hH hS (lv_sub hl [1] rfl)
          · skip
            have tc28 := f_ne (k := 0) (by decide) c28
            refine lv_aload_n hx hb dX3_readTruth_31 rfl (lv_at hl 2 rfl) ?_
            refine t_get (ci := 3) (lst := ft3 0 0) (C := RX3) (F := TX3) (N := 3) hx hb hts uX3 hown hkb hH t_a0 (hO.no t_a0 (by decide)) (fun _ h9 => h9) rfl rfl 0 (by decide) rfl kw_82 (fun _ h9 => h9) dX3_readTruth_32 (fun v9 h9 => ?_)
            obtain ⟨v32, rfl, t_v32⟩ := h9
            refine tk_v hH hS hA (tr_V (n := 0) (As := []) hx hb hml hown hts hkb hH hOX hks hE hS hA (s_Tok_go l D cs kf T O X v32 t_v32 (hO.sub (by decide))) kw_641 kw_453 kw_454 kw_3 kw_455 (by decide +kernel) ⟨Nat.le_of_ble_eq_true rfl, Nat.le_of_ble_eq_true rfl⟩ (HT.recv (ci := 7) hkb hH t_v32 (hO.no t_v32 (by decide)) rfl) rfl rfl hl.1 (Nat.le_of_ble_eq_true rfl) dX3_readTruth_35 ⟨Nat.le_of_ble_eq_true rfl, Nat.le_of_ble_eq_true rfl⟩) (fun u H locs hz9 hH hS => ?_)
            have hz9 : u = (T, O, X) := hz9
            subst hz9
            have hH : HT D cs A T O X H := hH
            refine W.widen (k := 0) (n := 0) (Nat.le_of_ble_eq_true rfl) (Nat.le_of_ble_eq_true rfl) ?_
            refine lv_aload_n hx hb dX3_readTruth_38 rfl (lv_at hl 2 rfl) ?_
            refine t_get (ci := 3) (lst := ft3 0 0) (C := RX3) (F := TX3) (N := 3) hx hb hts uX3 hown hkb hH t_a0 (hO.no t_a0 (by decide)) (fun _ h9 => h9) rfl rfl 2 (by decide) rfl kw_84 (fun _ h9 => h9) dX3_readTruth_39 (fun v9 h9 => ?_)
            obtain ⟨v39, rfl, l_v39, u_v39⟩ := h9
            refine lv_istore (lv' := [(4, .int v39), (3, .int p8_3), (2, .int p8_2), (0, .ref a0), (1, .int x1)]) hx hb dX3_readTruth_42 hl (by decide) rfl (fun ls hl => ?_)
            refine lv_aload_n hx hb dX3_readTruth_44 rfl (lv_at hl 3 rfl) ?_
            refine lv_iconst (v := 4) hx hb dX3_readTruth_45 (by decide) ?_
            refine lv_iconst (v := 0) hx hb dX3_readTruth_46 (by decide) ?_
            refine tk_v hH hS hA (tr_V (n := 2) (As := [.int 4, .int 0]) hx hb hml hown hts hkb hH hOX hks hE hS hA (s_LR_put l D cs kf T O X a0 (4) (0) t_a0 (hO.sub (by decide))) kw_642 kw_644 ks_9 kw_4 kw_645 (by decide +kernel) ⟨Nat.le_of_ble_eq_true rfl, Nat.le_of_ble_eq_true rfl⟩ (HT.recv (ci := 3) hkb hH t_a0 (hO.no t_a0 (by decide)) rfl) rfl rfl hl.1 (Nat.le_of_ble_eq_true rfl) dX3_readTruth_47 ⟨Nat.le_of_ble_eq_true rfl, Nat.le_of_ble_eq_true rfl⟩) (fun u H locs hz9 hH hS => ?_)
            have hz9 : u = (T, O, X) := hz9
            subst hz9
            have hH : HT D cs A T O X H := hH
            refine W.widen (k := 0) (n := 0) (Nat.le_of_ble_eq_true rfl) (Nat.le_of_ble_eq_true rfl) ?_
            refine lv_aload_n hx hb dX3_readTruth_50 rfl (lv_at hl 3 rfl) ?_
            refine lv_iload_n hx hb dX3_readTruth_51 rfl (lv_at hl 4 rfl) ?_
            refine tk_i hH hS hA (tr_V (n := 1) (As := [.int x1]) hx hb hml hown hts hkb hH hOX hks hE hS hA (s_LR_readBoth2 l D cs kf T O X a0 x1 t_a0 (by omega) (by omega) (hO.sub (by decide))) kw_626 kw_628 ks_6 kw_4 kw_629 (by decide +kernel) ⟨Nat.le_of_ble_eq_true rfl, Nat.le_of_ble_eq_true rfl⟩ (HT.recv (ci := 3) hkb hH t_a0 (hO.no t_a0 (by decide)) rfl) rfl rfl hl.1 (Nat.le_of_ble_eq_true rfl) dX3_readTruth_52 ⟨Nat.le_of_ble_eq_true rfl, Nat.le_of_ble_eq_true rfl⟩) (fun v52 u H locs hz9 hH hS => ?_)
            obtain ⟨rfl, l_v52, u_v52⟩ := hz9
            have hH : HT D cs A T O X H := hH
            refine W.widen (k := 0) (n := 0) (Nat.le_of_ble_eq_true rfl) (Nat.le_of_ble_eq_true rfl) ?_
            refine lv_istore_n (lv' := [(2, .int v52), (4, .int v39), (3, .int p8_3), (0, .ref a0), (1, .int x1)]) hx hb dX3_readTruth_55 rfl hl (by decide) rfl (fun ls hl => ?_)
            refine lv_aload_n hx hb dX3_readTruth_56 rfl (lv_at hl 3 rfl) ?_
            refine lv_iload hx hb dX3_readTruth_57 (lv_at hl 1 rfl) ?_
            refine tk_v hH hS hA (tr_V (n := 1) (As := [.int v39]) hx hb hml hown hts hkb hH hOX hks hE hS hA (s_LR_aimSkip l D cs kf T O X a0 v39 t_a0 (hO.sub (by decide))) kw_672 kw_674 ks_14 kw_4 kw_675 (by decide +kernel) ⟨Nat.le_of_ble_eq_true rfl, Nat.le_of_ble_eq_true rfl⟩ (HT.recv (ci := 3) hkb hH t_a0 (hO.no t_a0 (by decide)) rfl) rfl rfl hl.1 (Nat.le_of_ble_eq_true rfl) dX3_readTruth_59 ⟨Nat.le_of_ble_eq_true rfl, Nat.le_of_ble_eq_true rfl⟩) (fun u H locs hz9 hH hS => ?_)
            have hz9 : u = (T, O, X) := hz9
            subst hz9
            have hH : HT D cs A T O X H := hH
            refine W.widen (k := 0) (n := 0) (Nat.le_of_ble_eq_true rfl) (Nat.le_of_ble_eq_true rfl) ?_
            obtain ⟨v62, ev62⟩ : ∃ y : Int32, y = p8_3 + 1 := ⟨_, rfl⟩
            have tv62 : v62.toInt = p8_3.toInt + (1) := by rw [ev62]; exact add_i rfl (by decide) (by omega) (by omega)
            refine lv_iinc (v := v62) (lv' := [(3, .int v62), (2, .int v52), (4, .int v39), (0, .ref a0), (1, .int x1)]) hx hb dX3_readTruth_62 hl (k := 2) rfl (by rw [ev62]; rfl) (by decide) rfl (fun ls hl => ?_)
            refine lv_goto (tgt := 8) hx hb dX3_readTruth_65 (by decide) ?_
            exact ih8 _ (by omega) v62 v52 _ _ _ rfl (by omega) (by omega) (by omega) (by omega) hH hS (lv_sub hl [0, 1, 3, 4] rfl)
  refine lv_istore_n (lv' := [(3, .int 0), (2, .int v2), (0, .ref a0), (1, .int x1)]) hx hb dX3_readTruth_7 rfl hl (by decide) rfl (fun ls hl => ?_)
  exact J8 _ 0 v2 _ _ _ rfl (by decide) (by decide) (by omega) (by omega) hH hS (lv_sub hl [0, 1, 2, 3] rfl)
set_option maxHeartbeats 4000000 in
set_option maxRecDepth 100000 in
theorem s_LR_enter1 (l : Launch) (D : va_G) (cs : CS) (kf : KF) (T : TF) (O : List Nat) (X : va_W) (a0 : Nat) (x1 : Int32) (t_a0 : T a0 = some (13, 0, 0)) (l_x1 : 1 ≤ x1.toInt) (u_x1 : x1.toInt ≤ 1) (hO : okO T O [0, 13, 17]) : TK l D cs kf yX3_enter cX3_enter 2 (some (.boolean)) { frames := 5, cells := 0, slots := 0, locals := 111 } [.ref a0, .int x1] T O X (Ti D cs (fun r u => u = (T, O, X) ∧ 1 ≤ r.toInt ∧ r.toInt ≤ 1)) := by
  refine tk_of (by decide) (Nat.le_of_ble_eq_true rfl) (fun p e s m below meth c ls A H locs hx hb hr hml hown hts hlocks hnm hkb hH hS hA hOX hks hE hl => ?_)
  have hown : s.vm.findClass RX3 = some m.cls := hown
  have hl : lv_has ls 2 [(0, .ref a0), (1, .int x1)] := hl
  refine lv_iload_n hx hb dX3_enter_0 rfl (lv_at hl 1 rfl) ?_
  refine lv_bipush (v := 6) hx hb dX3_enter_1 (by decide) ?_
  refine lv_icmp_lt (tgt := 15) hx hb dX3_enter_3 (by decide) (fun c3 => ?_) (fun c3 => ?_)
  · skip
    have tc3 := f_lt (k := 6) (by decide) c3
    refine lv_aload_n hx hb dX3_enter_15 rfl (lv_at hl 0 rfl) ?_
    refine t_get (ci := 3) (lst := ft3 0 0) (C := RX3) (F := TX3) (N := 3) hx hb hts uX3 hown hkb hH t_a0 (hO.no t_a0 (by decide)) (fun _ h9 => h9) rfl rfl 0 (by decide) rfl kw_82 (fun _ h9 => h9) dX3_enter_16 (fun v9 h9 => ?_)
    obtain ⟨v16, rfl, t_v16⟩ := h9
    refine tk_v hH hS hA (tr_V (n := 0) (As := []) hx hb hml hown hts hkb hH hOX hks hE hS hA (s_Tok_go l D cs kf T O X v16 t_v16 (hO.sub (by decide))) kw_641 kw_453 kw_454 kw_3 kw_455 (by decide +kernel) ⟨Nat.le_of_ble_eq_true rfl, Nat.le_of_ble_eq_true rfl⟩ (HT.recv (ci := 7) hkb hH t_v16 (hO.no t_v16 (by decide)) rfl) rfl rfl hl.1 (Nat.le_of_ble_eq_true rfl) dX3_enter_19 ⟨Nat.le_of_ble_eq_true rfl, Nat.le_of_ble_eq_true rfl⟩) (fun u H locs hz9 hH hS => ?_)
    have hz9 : u = (T, O, X) := hz9
    subst hz9
    have hH : HT D cs A T O X H := hH
    refine W.widen (k := 0) (n := 0) (Nat.le_of_ble_eq_true rfl) (Nat.le_of_ble_eq_true rfl) ?_
    refine lv_iconst (v := 1) hx hb dX3_enter_22 (by decide) ?_
    exact te_z hx hb hr hlocks (by rfl) hH hS (⟨rfl, by decide, by decide⟩) dX3_enter_23
  · skip
    have tc3 := f_nlt (k := 6) (by decide) c3
    exfalso; omega
set_option maxHeartbeats 4000000 in
set_option maxRecDepth 100000 in
theorem s_LR_readAtom1 (l : Launch) (D : va_G) (cs : CS) (kf : KF) (T : TF) (O : List Nat) (X : va_W) (a0 : Nat) (x1 : Int32) (t_a0 : T a0 = some (13, 0, 0)) (l_x1 : 1 ≤ x1.toInt) (u_x1 : x1.toInt ≤ 1) (hO : okO T O [0, 1, 13, 17]) : TK l D cs kf yX3_readAtom cX3_readAtom 3 (some (.boolean)) { frames := 21, cells := 0, slots := 0, locals := 472 } [.ref a0, .int x1] T O X (Ti D cs (fun r u => u = (T, O, X) ∧ 0 ≤ r.toInt ∧ r.toInt ≤ 1)) := by
  refine tk_of (by decide) (Nat.le_of_ble_eq_true rfl) (fun p e s m below meth c ls A H locs hx hb hr hml hown hts hlocks hnm hkb hH hS hA hOX hks hE hl => ?_)
  have hown : s.vm.findClass RX3 = some m.cls := hown
  have hl : lv_has ls 3 [(0, .ref a0), (1, .int x1)] := hl
  refine lv_aload_n hx hb dX3_readAtom_0 rfl (lv_at hl 0 rfl) ?_
  refine t_get (ci := 3) (lst := ft3 0 0) (C := RX3) (F := TX3) (N := 3) hx hb hts uX3 hown hkb hH t_a0 (hO.no t_a0 (by decide)) (fun _ h9 => h9) rfl rfl 0 (by decide) rfl kw_82 (fun _ h9 => h9) dX3_readAtom_1 (fun v9 h9 => ?_)
  obtain ⟨v1, rfl, t_v1⟩ := h9
  refine lv_bipush (v := 40) hx hb dX3_readAtom_4 (by decide) ?_
  refine tk_i hH hS hA (tr_V (n := 1) (As := [.int 40]) hx hb hml hown hts hkb hH hOX hks hE hS hA (s_Tok_isSign l D cs kf T O X v1 (40) t_v1 (hO.sub (by decide))) kw_646 kw_615 kw_616 kw_3 kw_617 (by decide +kernel) ⟨Nat.le_of_ble_eq_true rfl, Nat.le_of_ble_eq_true rfl⟩ (HT.recv (ci := 7) hkb hH t_v1 (hO.no t_v1 (by decide)) rfl) rfl rfl hl.1 (Nat.le_of_ble_eq_true rfl) dX3_readAtom_6 ⟨Nat.le_of_ble_eq_true rfl, Nat.le_of_ble_eq_true rfl⟩) (fun v6 u H locs hz9 hH hS => ?_)
  obtain ⟨rfl, l_v6, u_v6⟩ := hz9
  have hH : HT D cs A T O X H := hH
  refine W.widen (k := 0) (n := 0) (Nat.le_of_ble_eq_true rfl) (Nat.le_of_ble_eq_true rfl) ?_
  refine lv_if_eq (tgt := 48) hx hb dX3_readAtom_9 (by decide) (fun c9 => ?_) (fun c9 => ?_)
  · skip
    have tc9 := f_eq (k := 0) (by decide) c9
    refine lv_aload_n hx hb dX3_readAtom_48 rfl (lv_at hl 0 rfl) ?_
    refine t_get (ci := 3) (lst := ft3 0 0) (C := RX3) (F := TX3) (N := 3) hx hb hts uX3 hown hkb hH t_a0 (hO.no t_a0 (by decide)) (fun _ h9 => h9) rfl rfl 0 (by decide) rfl kw_82 (fun _ h9 => h9) dX3_readAtom_49 (fun v9 h9 => ?_)
    obtain ⟨v49, rfl, t_v49⟩ := h9
    refine t_get (ci := 7) (lst := ft7 0 0) (C := RX7) (F := TX7) (N := 8) hx hb hts uX7 hown hkb hH t_v49 (hO.no t_v49 (by decide)) (fun _ h9 => ob7_ok h9) rfl rfl 4 (by decide) rfl kw_50 (fun _ h9 => h9) dX3_readAtom_52 (fun v9 h9 => ?_)
    obtain ⟨v52, rfl⟩ := h9
    refine lv_iconst (v := 2) hx hb dX3_readAtom_55 (by decide) ?_
    refine lv_icmp_ne (tgt := 80) hx hb dX3_readAtom_56 (by decide) (fun c56 => ?_) (fun c56 => ?_)
    · skip
      have tc56 := f_ne (k := 2) (by decide) c56
      refine lv_aload_n hx hb dX3_readAtom_80 rfl (lv_at hl 0 rfl) ?_
      refine tk_i hH hS hA (tr_V (n := 0) (As := []) hx hb hml hown hts hkb hH hOX hks hE hS hA (s_LR_factHere l D cs kf T O X a0 t_a0 (hO.sub (by decide))) kw_660 kw_662 ks_13 kw_4 kw_663 (by decide +kernel) ⟨Nat.le_of_ble_eq_true rfl, Nat.le_of_ble_eq_true rfl⟩ (HT.recv (ci := 3) hkb hH t_a0 (hO.no t_a0 (by decide)) rfl) rfl rfl hl.1 (Nat.le_of_ble_eq_true rfl) dX3_readAtom_81 ⟨Nat.le_of_ble_eq_true rfl, Nat.le_of_ble_eq_true rfl⟩) (fun v81 u H locs hz9 hH hS => ?_)
      obtain ⟨rfl, l_v81, u_v81⟩ := hz9
      have hH : HT D cs A T O X H := hH
      refine W.widen (k := 0) (n := 0) (Nat.le_of_ble_eq_true rfl) (Nat.le_of_ble_eq_true rfl) ?_
      refine lv_istore_n (lv' := [(2, .int v81), (0, .ref a0), (1, .int x1)]) hx hb dX3_readAtom_84 rfl hl (by decide) rfl (fun ls hl => ?_)
      refine lv_iload_n hx hb dX3_readAtom_85 rfl (lv_at hl 0 rfl) ?_
      refine lv_iconst (v := (-1)) hx hb dX3_readAtom_86 (by decide) ?_
      refine lv_icmp_ne (tgt := 99) hx hb dX3_readAtom_87 (by decide) (fun c87 => ?_) (fun c87 => ?_)
      · skip
        have tc87 := f_ne (k := -1) (by decide) c87
        refine lv_aload_n hx hb dX3_readAtom_99 rfl (lv_at hl 1 rfl) ?_
        refine lv_iconst (v := 1) hx hb dX3_readAtom_100 (by decide) ?_
        refine lv_iload_n hx hb dX3_readAtom_101 rfl (lv_at hl 0 rfl) ?_
        refine tk_v hH hS hA (tr_V (n := 2) (As := [.int 1, .int v81]) hx hb hml hown hts hkb hH hOX hks hE hS hA (s_LR_put l D cs kf T O X a0 (1) v81 t_a0 (hO.sub (by decide))) kw_642 kw_644 ks_9 kw_4 kw_645 (by decide +kernel) ⟨Nat.le_of_ble_eq_true rfl, Nat.le_of_ble_eq_true rfl⟩ (HT.recv (ci := 3) hkb hH t_a0 (hO.no t_a0 (by decide)) rfl) rfl rfl hl.1 (Nat.le_of_ble_eq_true rfl) dX3_readAtom_102 ⟨Nat.le_of_ble_eq_true rfl, Nat.le_of_ble_eq_true rfl⟩) (fun u H locs hz9 hH hS => ?_)
        have hz9 : u = (T, O, X) := hz9
        subst hz9
        have hH : HT D cs A T O X H := hH
        refine W.widen (k := 0) (n := 0) (Nat.le_of_ble_eq_true rfl) (Nat.le_of_ble_eq_true rfl) ?_
        refine lv_aload_n hx hb dX3_readAtom_105 rfl (lv_at hl 1 rfl) ?_
        refine t_get (ci := 3) (lst := ft3 0 0) (C := RX3) (F := TX3) (N := 3) hx hb hts uX3 hown hkb hH t_a0 (hO.no t_a0 (by decide)) (fun _ h9 => h9) rfl rfl 0 (by decide) rfl kw_82 (fun _ h9 => h9) dX3_readAtom_106 (fun v9 h9 => ?_)
        obtain ⟨v106, rfl, t_v106⟩ := h9
        refine tk_v hH hS hA (tr_V (n := 0) (As := []) hx hb hml hown hts hkb hH hOX hks hE hS hA (s_Tok_go l D cs kf T O X v106 t_v106 (hO.sub (by decide))) kw_641 kw_453 kw_454 kw_3 kw_455 (by decide +kernel) ⟨Nat.le_of_ble_eq_true rfl, Nat.le_of_ble_eq_true rfl⟩ (HT.recv (ci := 7) hkb hH t_v106 (hO.no t_v106 (by decide)) rfl) rfl rfl hl.1 (Nat.le_of_ble_eq_true rfl) dX3_readAtom_109 ⟨Nat.le_of_ble_eq_true rfl, Nat.le_of_ble_eq_true rfl⟩) (fun u H locs hz9 hH hS => ?_)
        have hz9 : u = (T, O, X) := hz9
        subst hz9
        have hH : HT D cs A T O X H := hH
        refine W.widen (k := 0) (n := 0) (Nat.le_of_ble_eq_true rfl) (Nat.le_of_ble_eq_true rfl) ?_
        refine lv_iconst (v := 1) hx hb dX3_readAtom_112 (by decide) ?_
        exact te_z hx hb hr hlocks (by rfl) hH hS (⟨rfl, by decide, by decide⟩) dX3_readAtom_113
      · skip
        have tc87 := f_eq (k := -1) (by decide) c87
        refine lv_aload_n hx hb dX3_readAtom_90 rfl (lv_at hl 1 rfl) ?_
        refine t_get (ci := 3) (lst := ft3 0 0) (C := RX3) (F := TX3) (N := 3) hx hb hts uX3 hown hkb hH t_a0 (hO.no t_a0 (by decide)) (fun _ h9 => h9) rfl rfl 0 (by decide) rfl kw_82 (fun _ h9 => h9) dX3_readAtom_91 (fun v9 h9 => ?_)
        obtain ⟨v91, rfl, t_v91⟩ := h9
        refine lv_iconst (v := 2) hx hb dX3_readAtom_94 (by decide) ?_
        refine tk_i hH hS hA (tr_V (n := 1) (As := [.int 2]) hx hb hml hown hts hkb hH hOX hks hE hS hA (s_Tok_refuse l D cs kf T O X v91 (2) t_v91 (hO.sub (by decide))) kw_640 kw_580 kw_581 kw_3 kw_582 (by decide +kernel) ⟨Nat.le_of_ble_eq_true rfl, Nat.le_of_ble_eq_true rfl⟩ (HT.recv (ci := 7) hkb hH t_v91 (hO.no t_v91 (by decide)) rfl) rfl rfl hl.1 (Nat.le_of_ble_eq_true rfl) dX3_readAtom_95 ⟨Nat.le_of_ble_eq_true rfl, Nat.le_of_ble_eq_true rfl⟩) (fun v95 u H locs hz9 hH hS => ?_)
        obtain ⟨rfl, l_v95, u_v95⟩ := hz9
        have hH : HT D cs A T O X H := hH
        refine W.widen (k := 0) (n := 0) (Nat.le_of_ble_eq_true rfl) (Nat.le_of_ble_eq_true rfl) ?_
        exact te_z hx hb hr hlocks (nar01 (by omega) (by omega)) hH hS (⟨rfl, by omega, by omega⟩) dX3_readAtom_98
    · skip
      have tc56 := f_eq (k := 2) (by decide) c56
      refine lv_aload_n hx hb dX3_readAtom_59 rfl (lv_at hl 0 rfl) ?_
      refine lv_iconst (v := 0) hx hb dX3_readAtom_60 (by decide) ?_
      refine lv_aload_n hx hb dX3_readAtom_61 rfl (lv_at hl 0 rfl) ?_
      refine t_get (ci := 3) (lst := ft3 0 0) (C := RX3) (F := TX3) (N := 3) hx hb hts uX3 hown hkb hH t_a0 (hO.no t_a0 (by decide)) (fun _ h9 => h9) rfl rfl 0 (by decide) rfl kw_82 (fun _ h9 => h9) dX3_readAtom_62 (fun v9 h9 => ?_)
      obtain ⟨v62, rfl, t_v62⟩ := h9
      refine t_get (ci := 7) (lst := ft7 0 0) (C := RX7) (F := TX7) (N := 8) hx hb hts uX7 hown hkb hH t_v62 (hO.no t_v62 (by decide)) (fun _ h9 => ob7_ok h9) rfl rfl 5 (by decide) rfl kw_53 (fun _ h9 => h9) dX3_readAtom_65 (fun v9 h9 => ?_)
      obtain ⟨v65, rfl⟩ := h9
      refine tk_v hH hS hA (tr_V (n := 2) (As := [.int 0, .int v65]) hx hb hml hown hts hkb hH hOX hks hE hS hA (s_LR_put l D cs kf T O X a0 (0) v65 t_a0 (hO.sub (by decide))) kw_642 kw_644 ks_9 kw_4 kw_645 (by decide +kernel) ⟨Nat.le_of_ble_eq_true rfl, Nat.le_of_ble_eq_true rfl⟩ (HT.recv (ci := 3) hkb hH t_a0 (hO.no t_a0 (by decide)) rfl) rfl rfl hl.1 (Nat.le_of_ble_eq_true rfl) dX3_readAtom_68 ⟨Nat.le_of_ble_eq_true rfl, Nat.le_of_ble_eq_true rfl⟩) (fun u H locs hz9 hH hS => ?_)
      have hz9 : u = (T, O, X) := hz9
      subst hz9
      have hH : HT D cs A T O X H := hH
      refine W.widen (k := 0) (n := 0) (Nat.le_of_ble_eq_true rfl) (Nat.le_of_ble_eq_true rfl) ?_
      refine lv_aload_n hx hb dX3_readAtom_71 rfl (lv_at hl 0 rfl) ?_
      refine t_get (ci := 3) (lst := ft3 0 0) (C := RX3) (F := TX3) (N := 3) hx hb hts uX3 hown hkb hH t_a0 (hO.no t_a0 (by decide)) (fun _ h9 => h9) rfl rfl 0 (by decide) rfl kw_82 (fun _ h9 => h9) dX3_readAtom_72 (fun v9 h9 => ?_)
      obtain ⟨v72, rfl, t_v72⟩ := h9
      refine tk_v hH hS hA (tr_V (n := 0) (As := []) hx hb hml hown hts hkb hH hOX hks hE hS hA (s_Tok_go l D cs kf T O X v72 t_v72 (hO.sub (by decide))) kw_641 kw_453 kw_454 kw_3 kw_455 (by decide +kernel) ⟨Nat.le_of_ble_eq_true rfl, Nat.le_of_ble_eq_true rfl⟩ (HT.recv (ci := 7) hkb hH t_v72 (hO.no t_v72 (by decide)) rfl) rfl rfl hl.1 (Nat.le_of_ble_eq_true rfl) dX3_readAtom_75 ⟨Nat.le_of_ble_eq_true rfl, Nat.le_of_ble_eq_true rfl⟩) (fun u H locs hz9 hH hS => ?_)
      have hz9 : u = (T, O, X) := hz9
      subst hz9
      have hH : HT D cs A T O X H := hH
      refine W.widen (k := 0) (n := 0) (Nat.le_of_ble_eq_true rfl) (Nat.le_of_ble_eq_true rfl) ?_
      refine lv_iconst (v := 1) hx hb dX3_readAtom_78 (by decide) ?_
      exact te_z hx hb hr hlocks (by rfl) hH hS (⟨rfl, by decide, by decide⟩) dX3_readAtom_79
  · skip
    have tc9 := f_ne (k := 0) (by decide) c9
    refine lv_aload_n hx hb dX3_readAtom_12 rfl (lv_at hl 0 rfl) ?_
    refine lv_iload_n hx hb dX3_readAtom_13 rfl (lv_at hl 1 rfl) ?_
    refine tk_i hH hS hA (tr_V (n := 1) (As := [.int x1]) hx hb hml hown hts hkb hH hOX hks hE hS hA (s_LR_enter1 l D cs kf T O X a0 x1 t_a0 (by omega) (by omega) (hO.sub (by decide))) kw_636 kw_638 ks_8 kw_4 kw_639 (by decide +kernel) ⟨Nat.le_of_ble_eq_true rfl, Nat.le_of_ble_eq_true rfl⟩ (HT.recv (ci := 3) hkb hH t_a0 (hO.no t_a0 (by decide)) rfl) rfl rfl hl.1 (Nat.le_of_ble_eq_true rfl) dX3_readAtom_14 ⟨Nat.le_of_ble_eq_true rfl, Nat.le_of_ble_eq_true rfl⟩) (fun v14 u H locs hz9 hH hS => ?_)
    obtain ⟨rfl, l_v14, u_v14⟩ := hz9
    have hH : HT D cs A T O X H := hH
    refine W.widen (k := 0) (n := 0) (Nat.le_of_ble_eq_true rfl) (Nat.le_of_ble_eq_true rfl) ?_
    refine lv_if_eq (tgt := 46) hx hb dX3_readAtom_17 (by decide) (fun c17 => ?_) (fun c17 => ?_)
    · skip
      have tc17 := f_eq (k := 0) (by decide) c17
      exfalso; omega
    · skip
      have tc17 := f_ne (k := 0) (by decide) c17
      refine lv_aload_n hx hb dX3_readAtom_20 rfl (lv_at hl 0 rfl) ?_
      refine lv_iload_n hx hb dX3_readAtom_21 rfl (lv_at hl 1 rfl) ?_
      refine lv_iconst (v := 1) hx hb dX3_readAtom_22 (by decide) ?_
      refine lv_iadd hx hb dX3_readAtom_23 ?_
      refine lv_topi (fun v23 ev23 => ?_)
      have tv23 : v23.toInt = x1.toInt + (1) := by rw [ev23]; exact add_i rfl (by decide : (1 : Int32).toInt = 1) (by omega) (by omega)
      refine tk_i hH hS hA (tr_V (n := 1) (As := [.int v23]) hx hb hml hown hts hkb hH hOX hks hE hS hA (s_LR_readSum2 l D cs kf T O X a0 v23 t_a0 (by omega) (by omega) (hO.sub (by decide))) kw_648 kw_650 ks_10 kw_4 kw_651 (by decide +kernel) ⟨Nat.le_of_ble_eq_true rfl, Nat.le_of_ble_eq_true rfl⟩ (HT.recv (ci := 3) hkb hH t_a0 (hO.no t_a0 (by decide)) rfl) rfl rfl hl.1 (Nat.le_of_ble_eq_true rfl) dX3_readAtom_24 ⟨Nat.le_of_ble_eq_true rfl, Nat.le_of_ble_eq_true rfl⟩) (fun v24 u H locs hz9 hH hS => ?_)
      obtain ⟨rfl, l_v24, u_v24⟩ := hz9
      have hH : HT D cs A T O X H := hH
      refine W.widen (k := 0) (n := 0) (Nat.le_of_ble_eq_true rfl) (Nat.le_of_ble_eq_true rfl) ?_
      have J47 : ∀ (k47_0 : Int32) (H : Heap) (locs : List Loc) (ls : Array Slot), (0 ≤ k47_0.toInt) → (k47_0.toInt ≤ 1) → HT D cs A T O X H → va_S A s.heap H locs → lv_has ls 3 [] → W p l e { frames := 21, cells := 0, slots := 0, locals := 472 } s m [.ref a0, .int x1].toArray below meth c H locs 0 0 (MQ below (Ti D cs (fun r u => u = (T, O, X) ∧ 0 ≤ r.toInt ∧ r.toInt ≤ 1) A) [.ref a0, .int x1].toArray s 0 0 A) (F0 m 47 ls [.int k47_0]) := by
        intro k47_0 H locs ls l_k47_0 u_k47_0 hH hS hl
        exact te_z hx hb hr hlocks (nar01 (by omega) (by omega)) hH hS (⟨rfl, by omega, by omega⟩) dX3_readAtom_47
      have J46 : ∀  (H : Heap) (locs : List Loc) (ls : Array Slot), HT D cs A T O X H → va_S A s.heap H locs → lv_has ls 3 [] → W p l e { frames := 21, cells := 0, slots := 0, locals := 472 } s m [.ref a0, .int x1].toArray below meth c H locs 0 0 (MQ below (Ti D cs (fun r u => u = (T, O, X) ∧ 0 ≤ r.toInt ∧ r.toInt ≤ 1) A) [.ref a0, .int x1].toArray s 0 0 A) (F0 m 46 ls []) := by
        intro  H locs ls  hH hS hl
        refine lv_iconst (v := 0) hx hb dX3_readAtom_46 (by decide) ?_
        exact J47 0 _ _ _ (by decide) (by decide) hH hS (lv_sub hl [] rfl)
      refine lv_if_eq (tgt := 46) hx hb dX3_readAtom_27 (by decide) (fun c27 => ?_) (fun c27 => ?_)
      · skip
        have tc27 := f_eq (k := 0) (by decide) c27
        exact J46  _ _ _  hH hS (lv_sub hl [] rfl)
      · skip
        have tc27 := f_ne (k := 0) (by decide) c27
        refine lv_aload_n hx hb dX3_readAtom_30 rfl (lv_at hl 0 rfl) ?_
        refine t_get (ci := 3) (lst := ft3 0 0) (C := RX3) (F := TX3) (N := 3) hx hb hts uX3 hown hkb hH t_a0 (hO.no t_a0 (by decide)) (fun _ h9 => h9) rfl rfl 0 (by decide) rfl kw_82 (fun _ h9 => h9) dX3_readAtom_31 (fun v9 h9 => ?_)
        obtain ⟨v31, rfl, t_v31⟩ := h9
        refine lv_bipush (v := 41) hx hb dX3_readAtom_34 (by decide) ?_
        refine tk_i hH hS hA (tr_V (n := 1) (As := [.int 41]) hx hb hml hown hts hkb hH hOX hks hE hS hA (s_Tok_takeSign l D cs kf T O X v31 (41) t_v31 (hO.sub (by decide))) kw_647 kw_611 kw_612 kw_3 kw_613 (by decide +kernel) ⟨Nat.le_of_ble_eq_true rfl, Nat.le_of_ble_eq_true rfl⟩ (HT.recv (ci := 7) hkb hH t_v31 (hO.no t_v31 (by decide)) rfl) rfl rfl hl.1 (Nat.le_of_ble_eq_true rfl) dX3_readAtom_36 ⟨Nat.le_of_ble_eq_true rfl, Nat.le_of_ble_eq_true rfl⟩) (fun v36 u H locs hz9 hH hS => ?_)
        obtain ⟨rfl, l_v36, u_v36⟩ := hz9
        have hH : HT D cs A T O X H := hH
        refine W.widen (k := 0) (n := 0) (Nat.le_of_ble_eq_true rfl) (Nat.le_of_ble_eq_true rfl) ?_
        refine lv_if_eq (tgt := 46) hx hb dX3_readAtom_39 (by decide) (fun c39 => ?_) (fun c39 => ?_)
        · skip
          have tc39 := f_eq (k := 0) (by decide) c39
          exact J46  _ _ _  hH hS (lv_sub hl [] rfl)
        · skip
          have tc39 := f_ne (k := 0) (by decide) c39
          refine lv_iconst (v := 1) hx hb dX3_readAtom_42 (by decide) ?_
          refine lv_goto (tgt := 47) hx hb dX3_readAtom_43 (by decide) ?_
          exact J47 1 _ _ _ (by decide) (by decide) hH hS (lv_sub hl [] rfl)
set_option maxHeartbeats 4000000 in
set_option maxRecDepth 100000 in
theorem s_LR_readTerm1 (l : Launch) (D : va_G) (cs : CS) (kf : KF) (T : TF) (O : List Nat) (X : va_W) (a0 : Nat) (x1 : Int32) (t_a0 : T a0 = some (13, 0, 0)) (l_x1 : 1 ≤ x1.toInt) (u_x1 : x1.toInt ≤ 1) (hO : okO T O [0, 1, 13, 17]) : TK l D cs kf yX3_readTerm cX3_readTerm 4 (some (.boolean)) { frames := 22, cells := 0, slots := 0, locals := 494 } [.ref a0, .int x1] T O X (Ti D cs (fun r u => u = (T, O, X) ∧ 0 ≤ r.toInt ∧ r.toInt ≤ 1)) := by
  refine tk_of (by decide) (Nat.le_of_ble_eq_true rfl) (fun p e s m below meth c ls A H locs hx hb hr hml hown hts hlocks hnm hkb hH hS hA hOX hks hE hl => ?_)
  have hown : s.vm.findClass RX3 = some m.cls := hown
  have hl : lv_has ls 4 [(0, .ref a0), (1, .int x1)] := hl
  refine lv_aload_n hx hb dX3_readTerm_0 rfl (lv_at hl 0 rfl) ?_
  refine lv_iload_n hx hb dX3_readTerm_1 rfl (lv_at hl 1 rfl) ?_
  refine tk_i hH hS hA (tr_V (n := 1) (As := [.int x1]) hx hb hml hown hts hkb hH hOX hks hE hS hA (s_LR_readAtom1 l D cs kf T O X a0 x1 t_a0 (by omega) (by omega) (hO.sub (by decide))) kw_656 kw_658 ks_12 kw_4 kw_659 (by decide +kernel) ⟨Nat.le_of_ble_eq_true rfl, Nat.le_of_ble_eq_true rfl⟩ (HT.recv (ci := 3) hkb hH t_a0 (hO.no t_a0 (by decide)) rfl) rfl rfl hl.1 (Nat.le_of_ble_eq_true rfl) dX3_readTerm_2 ⟨Nat.le_of_ble_eq_true rfl, Nat.le_of_ble_eq_true rfl⟩) (fun v2 u H locs hz9 hH hS => ?_)
  obtain ⟨rfl, l_v2, u_v2⟩ := hz9
  have hH : HT D cs A T O X H := hH
  refine W.widen (k := 0) (n := 0) (Nat.le_of_ble_eq_true rfl) (Nat.le_of_ble_eq_true rfl) ?_
  refine lv_istore_n (lv' := [(2, .int v2), (0, .ref a0), (1, .int x1)]) hx hb dX3_readTerm_5 rfl hl (by decide) rfl (fun ls hl => ?_)
  refine lv_iconst (v := 0) hx hb dX3_readTerm_6 (by decide) ?_
  have J8 : ∀ (n : Nat) (p8_3 : Int32) (p8_2 : Int32) (H : Heap) (locs : List Loc) (ls : Array Slot), (900 - p8_3.toInt).toNat = n → (0 ≤ p8_3.toInt) → (p8_3.toInt ≤ 900) → (0 ≤ p8_2.toInt) → (p8_2.toInt ≤ 1) → HT D cs A T O X H → va_S A s.heap H locs → lv_has ls 4 [(3, .int p8_3), (2, .int p8_2), (0, .ref a0), (1, .int x1)] → W p l e { frames := 22, cells := 0, slots := 0, locals := 494 } s m [.ref a0, .int x1].toArray below meth c H locs 0 0 (MQ below (Ti D cs (fun r u => u = (T, O, X) ∧ 0 ≤ r.toInt ∧ r.toInt ≤ 1) A) [.ref a0, .int x1].toArray s 0 0 A) (F0 m 8 ls []) := by
    intro n
    induction n using Nat.strongRecOn with
    | _ n ih8 =>
      intro p8_3 p8_2 H locs ls hm8 l_p8_3 u_p8_3 l_p8_2 u_p8_2 hH hS hl
      refine lv_iload_n hx hb dX3_readTerm_8 rfl (lv_at hl 0 rfl) ?_
      refine lv_sipush (v := 900) hx hb dX3_readTerm_9 (by decide) ?_
      have J57 : ∀  (H : Heap) (locs : List Loc) (ls : Array Slot), HT D cs A T O X H → va_S A s.heap H locs → lv_has ls 4 [(2, .int p8_2)] → W p l e { frames := 22, cells := 0, slots := 0, locals := 494 } s m [.ref a0, .int x1].toArray below meth c H locs 0 0 (MQ below (Ti D cs (fun r u => u = (T, O, X) ∧ 0 ≤ r.toInt ∧ r.toInt ≤ 1) A) [.ref a0, .int x1].toArray s 0 0 A) (F0 m 57 ls []) := by
        intro  H locs ls  hH hS hl
        refine lv_iload_n hx hb dX3_readTerm_57 rfl (lv_at hl 0 rfl) ?_
        exact te_z hx hb hr hlocks (nar01 (by omega) (by omega)) hH hS (⟨rfl, by omega, by omega⟩) dX3_readTerm_58
      refine lv_icmp_ge (tgt := 57) hx hb dX3_readTerm_12 (by decide) (fun c12 => ?_) (fun c12 => ?_)
      · skip
        have tc12 := f_ge (k := 900) (by decide) c12
        exact J57  _ _ _  hH hS (lv_sub hl [1] rfl)
      · skip
        have tc12 := f_nge (k := 900) (by decide) c12
        refine lv_iload_n hx hb dX3_readTerm_15 rfl (lv_at hl 1 rfl) ?_
        refine lv_if_eq (tgt := 57) hx hb dX3_readTerm_16 (by decide) (fun c16 => ?_) (fun c16 => ?_)
        · skip
          have tc16 := f_eq (k := 0) (by decide) c16
          exact J57  _ _ _  hH hS (lv_sub hl [1] rfl)
        · skip
          have tc16 := f_ne (k := 0) (by decide) c16
          refine lv_aload_n hx hb dX3_readTerm_19 rfl (lv_at hl 2 rfl) ?_
          refine t_get (ci := 3) (lst := ft3 0 0) (C := RX3) (F := TX3) (N := 3) hx hb hts uX3 hown hkb hH t_a0 (hO.no t_a0 (by decide)) (fun _ h9 => h9) rfl rfl 0 (by decide) rfl kw_82 (fun _ h9 => h9) dX3_readTerm_20 (fun v9 h9 => ?_)
          obtain ⟨v20, rfl, t_v20⟩ := h9
          refine lv_bipush (v := 42) hx hb dX3_readTerm_23 (by decide) ?_
          refine tk_i hH hS hA (tr_V (n := 1) (As := [.int 42]) hx hb hml hown hts hkb hH hOX hks hE hS hA (s_Tok_isSign l D cs kf T O X v20 (42) t_v20 (hO.sub (by decide))) kw_646 kw_615 kw_616 kw_3 kw_617 (by decide +kernel) ⟨Nat.le_of_ble_eq_true rfl, Nat.le_of_ble_eq_true rfl⟩ (HT.recv (ci := 7) hkb hH t_v20 (hO.no t_v20 (by decide)) rfl) rfl rfl hl.1 (Nat.le_of_ble_eq_true rfl) dX3_readTerm_25 ⟨Nat.le_of_ble_eq_true rfl, Nat.le_of_ble_eq_true rfl⟩) (fun v25 u H locs hz9 hH hS => ?_)
          obtain ⟨rfl, l_v25, u_v25⟩ := hz9
          have hH : HT D cs A T O X H := hH
          refine W.widen (k := 0) (n := 0) (Nat.le_of_ble_eq_true rfl) (Nat.le_of_ble_eq_true rfl) ?_
          refine lv_if_eq (tgt := 57) hx hb dX3_readTerm_28 (by decide) (fun c28 => ?_) (fun c28 => ?_)
          · skip
            have tc28 := f_eq (k := 0) (by decide) c28
            exact J57  _ _ _  hH hS (lv_sub hl [1] rfl)
          · skip
            have tc28 := f_ne (k := 0) (by decide) c28
            refine lv_aload_n hx hb dX3_readTerm_31 rfl (lv_at hl 2 rfl) ?_
            refine t_get (ci := 3) (lst := ft3 0 0) (C := RX3) (F := TX3) (N := 3) hx hb hts uX3 hown hkb hH t_a0 (hO.no t_a0 (by decide)) (fun _ h9 => h9) rfl rfl 0 (by decide) rfl kw_82 (fun _ h9 => h9) dX3_readTerm_32 (fun v9 h9 => ?_)
            obtain ⟨v32, rfl, t_v32⟩ := h9
            refine tk_v hH hS hA (tr_V (n := 0) (As := []) hx hb hml hown hts hkb hH hOX hks hE hS hA (s_Tok_go l D cs kf T O X v32 t_v32 (hO.sub (by decide))) kw_641 kw_453 kw_454 kw_3 kw_455 (by decide +kernel) ⟨Nat.le_of_ble_eq_true rfl, Nat.le_of_ble_eq_true rfl⟩ (HT.recv (ci := 7) hkb hH t_v32 (hO.no t_v32 (by decide)) rfl) rfl rfl hl.1 (Nat.le_of_ble_eq_true rfl) dX3_readTerm_35 ⟨Nat.le_of_ble_eq_true rfl, Nat.le_of_ble_eq_true rfl⟩) (fun u H locs hz9 hH hS => ?_)
            have hz9 : u = (T, O, X) := hz9
            subst hz9
            have hH : HT D cs A T O X H := hH
            refine W.widen (k := 0) (n := 0) (Nat.le_of_ble_eq_true rfl) (Nat.le_of_ble_eq_true rfl) ?_
            refine lv_aload_n hx hb dX3_readTerm_38 rfl (lv_at hl 2 rfl) ?_
            refine lv_iload_n hx hb dX3_readTerm_39 rfl (lv_at hl 3 rfl) ?_
            refine tk_i hH hS hA (tr_V (n := 1) (As := [.int x1]) hx hb hml hown hts hkb hH hOX hks hE hS hA (s_LR_readAtom1 l D cs kf T O X a0 x1 t_a0 (by omega) (by omega) (hO.sub (by decide))) kw_656 kw_658 ks_12 kw_4 kw_659 (by decide +kernel) ⟨Nat.le_of_ble_eq_true rfl, Nat.le_of_ble_eq_true rfl⟩ (HT.recv (ci := 3) hkb hH t_a0 (hO.no t_a0 (by decide)) rfl) rfl rfl hl.1 (Nat.le_of_ble_eq_true rfl) dX3_readTerm_40 ⟨Nat.le_of_ble_eq_true rfl, Nat.le_of_ble_eq_true rfl⟩) (fun v40 u H locs hz9 hH hS => ?_)
            obtain ⟨rfl, l_v40, u_v40⟩ := hz9
            have hH : HT D cs A T O X H := hH
            refine W.widen (k := 0) (n := 0) (Nat.le_of_ble_eq_true rfl) (Nat.le_of_ble_eq_true rfl) ?_
            refine lv_istore_n (lv' := [(2, .int v40), (3, .int p8_3), (0, .ref a0), (1, .int x1)]) hx hb dX3_readTerm_43 rfl hl (by decide) rfl (fun ls hl => ?_)
            refine lv_aload_n hx hb dX3_readTerm_44 rfl (lv_at hl 2 rfl) ?_
            refine lv_bipush (v := 7) hx hb dX3_readTerm_45 (by decide) ?_
            refine lv_iconst (v := 0) hx hb dX3_readTerm_47 (by decide) ?_
            refine tk_v hH hS hA (tr_V (n := 2) (As := [.int 7, .int 0]) hx hb hml hown hts hkb hH hOX hks hE hS hA (s_LR_put l D cs kf T O X a0 (7) (0) t_a0 (hO.sub (by decide))) kw_642 kw_644 ks_9 kw_4 kw_645 (by decide +kernel) ⟨Nat.le_of_ble_eq_true rfl, Nat.le_of_ble_eq_true rfl⟩ (HT.recv (ci := 3) hkb hH t_a0 (hO.no t_a0 (by decide)) rfl) rfl rfl hl.1 (Nat.le_of_ble_eq_true rfl) dX3_readTerm_48 ⟨Nat.le_of_ble_eq_true rfl, Nat.le_of_ble_eq_true rfl⟩) (fun u H locs hz9 hH hS => ?_)
            have hz9 : u = (T, O, X) := hz9
            subst hz9
            have hH : HT D cs A T O X H := hH
            refine W.widen (k := 0) (n := 0) (Nat.le_of_ble_eq_true rfl) (Nat.le_of_ble_eq_true rfl) ?_
            obtain ⟨v51, ev51⟩ : ∃ y : Int32, y = p8_3 + 1 := ⟨_, rfl⟩
            have tv51 : v51.toInt = p8_3.toInt + (1) := by rw [ev51]; exact add_i rfl (by decide) (by omega) (by omega)
            refine lv_iinc (v := v51) (lv' := [(3, .int v51), (2, .int v40), (0, .ref a0), (1, .int x1)]) hx hb dX3_readTerm_51 hl (k := 1) rfl (by rw [ev51]; rfl) (by decide) rfl (fun ls hl => ?_)
            refine lv_goto (tgt := 8) hx hb dX3_readTerm_54 (by decide) ?_
            exact ih8 _ (by omega) v51 v40 _ _ _ rfl (by omega) (by omega) (by omega) (by omega) hH hS (lv_sub hl [0, 1, 2, 3] rfl)
  refine lv_istore_n (lv' := [(3, .int 0), (2, .int v2), (0, .ref a0), (1, .int x1)]) hx hb dX3_readTerm_7 rfl hl (by decide) rfl (fun ls hl => ?_)
  exact J8 _ 0 v2 _ _ _ rfl (by decide) (by decide) (by omega) (by omega) hH hS (lv_sub hl [0, 1, 2, 3] rfl)
set_option maxHeartbeats 4000000 in
set_option maxRecDepth 100000 in
theorem s_LR_readSum1 (l : Launch) (D : va_G) (cs : CS) (kf : KF) (T : TF) (O : List Nat) (X : va_W) (a0 : Nat) (x1 : Int32) (t_a0 : T a0 = some (13, 0, 0)) (l_x1 : 1 ≤ x1.toInt) (u_x1 : x1.toInt ≤ 1) (hO : okO T O [0, 1, 13, 17]) : TK l D cs kf yX3_readSum cX3_readSum 5 (some (.boolean)) { frames := 23, cells := 0, slots := 0, locals := 517 } [.ref a0, .int x1] T O X (Ti D cs (fun r u => u = (T, O, X) ∧ 0 ≤ r.toInt ∧ r.toInt ≤ 1)) := by
  refine tk_of (by decide) (Nat.le_of_ble_eq_true rfl) (fun p e s m below meth c ls A H locs hx hb hr hml hown hts hlocks hnm hkb hH hS hA hOX hks hE hl => ?_)
  have hown : s.vm.findClass RX3 = some m.cls := hown
  have hl : lv_has ls 5 [(0, .ref a0), (1, .int x1)] := hl
  refine lv_aload_n hx hb dX3_readSum_0 rfl (lv_at hl 0 rfl) ?_
  refine lv_iload_n hx hb dX3_readSum_1 rfl (lv_at hl 1 rfl) ?_
  refine tk_i hH hS hA (tr_V (n := 1) (As := [.int x1]) hx hb hml hown hts hkb hH hOX hks hE hS hA (s_LR_readTerm1 l D cs kf T O X a0 x1 t_a0 (by omega) (by omega) (hO.sub (by decide))) kw_652 kw_654 ks_11 kw_4 kw_655 (by decide +kernel) ⟨Nat.le_of_ble_eq_true rfl, Nat.le_of_ble_eq_true rfl⟩ (HT.recv (ci := 3) hkb hH t_a0 (hO.no t_a0 (by decide)) rfl) rfl rfl hl.1 (Nat.le_of_ble_eq_true rfl) dX3_readSum_2 ⟨Nat.le_of_ble_eq_true rfl, Nat.le_of_ble_eq_true rfl⟩) (fun v2 u H locs hz9 hH hS => ?_)
  obtain ⟨rfl, l_v2, u_v2⟩ := hz9
  have hH : HT D cs A T O X H := hH
  refine W.widen (k := 0) (n := 0) (Nat.le_of_ble_eq_true rfl) (Nat.le_of_ble_eq_true rfl) ?_
  refine lv_istore_n (lv' := [(2, .int v2), (0, .ref a0), (1, .int x1)]) hx hb dX3_readSum_5 rfl hl (by decide) rfl (fun ls hl => ?_)
  refine lv_iconst (v := 0) hx hb dX3_readSum_6 (by decide) ?_
  have J8 : ∀ (n : Nat) (p8_3 : Int32) (p8_2 : Int32) (H : Heap) (locs : List Loc) (ls : Array Slot), (900 - p8_3.toInt).toNat = n → (0 ≤ p8_3.toInt) → (p8_3.toInt ≤ 900) → (0 ≤ p8_2.toInt) → (p8_2.toInt ≤ 1) → HT D cs A T O X H → va_S A s.heap H locs → lv_has ls 5 [(3, .int p8_3), (2, .int p8_2), (0, .ref a0), (1, .int x1)] → W p l e { frames := 23, cells := 0, slots := 0, locals := 517 } s m [.ref a0, .int x1].toArray below meth c H locs 0 0 (MQ below (Ti D cs (fun r u => u = (T, O, X) ∧ 0 ≤ r.toInt ∧ r.toInt ≤ 1) A) [.ref a0, .int x1].toArray s 0 0 A) (F0 m 8 ls []) := by
    intro n
    induction n using Nat.strongRecOn with
    | _ n ih8 =>
      intro p8_3 p8_2 H locs ls hm8 l_p8_3 u_p8_3 l_p8_2 u_p8_2 hH hS hl
      refine lv_iload_n hx hb dX3_readSum_8 rfl (lv_at hl 0 rfl) ?_
      refine lv_sipush (v := 900) hx hb dX3_readSum_9 (by decide) ?_
      have J89 : ∀  (H : Heap) (locs : List Loc) (ls : Array Slot), HT D cs A T O X H → va_S A s.heap H locs → lv_has ls 5 [(2, .int p8_2)] → W p l e { frames := 23, cells := 0, slots := 0, locals := 517 } s m [.ref a0, .int x1].toArray below meth c H locs 0 0 (MQ below (Ti D cs (fun r u => u = (T, O, X) ∧ 0 ≤ r.toInt ∧ r.toInt ≤ 1) A) [.ref a0, .int x1].toArray s 0 0 A) (F0 m 89 ls []) := by
        intro  H locs ls  hH hS hl
        refine lv_iload_n hx hb dX3_readSum_89 rfl (lv_at hl 0 rfl) ?_
        exact te_z hx hb hr hlocks (nar01 (by omega) (by omega)) hH hS (⟨rfl, by omega, by omega⟩) dX3_readSum_90
      refine lv_icmp_ge (tgt := 89) hx hb dX3_readSum_12 (by decide) (fun c12 => ?_) (fun c12 => ?_)
      · skip
        have tc12 := f_ge (k := 900) (by decide) c12
        exact J89  _ _ _  hH hS (lv_sub hl [1] rfl)
      · skip
        have tc12 := f_nge (k := 900) (by decide) c12
        refine lv_iload_n hx hb dX3_readSum_15 rfl (lv_at hl 1 rfl) ?_
        refine lv_if_eq (tgt := 89) hx hb dX3_readSum_16 (by decide) (fun c16 => ?_) (fun c16 => ?_)
        · skip
          have tc16 := f_eq (k := 0) (by decide) c16
          exact J89  _ _ _  hH hS (lv_sub hl [1] rfl)
        · skip
          have tc16 := f_ne (k := 0) (by decide) c16
          refine lv_aload_n hx hb dX3_readSum_19 rfl (lv_at hl 2 rfl) ?_
          refine t_get (ci := 3) (lst := ft3 0 0) (C := RX3) (F := TX3) (N := 3) hx hb hts uX3 hown hkb hH t_a0 (hO.no t_a0 (by decide)) (fun _ h9 => h9) rfl rfl 0 (by decide) rfl kw_82 (fun _ h9 => h9) dX3_readSum_20 (fun v9 h9 => ?_)
          obtain ⟨v20, rfl, t_v20⟩ := h9
          refine lv_bipush (v := 43) hx hb dX3_readSum_23 (by decide) ?_
          refine tk_i hH hS hA (tr_V (n := 1) (As := [.int 43]) hx hb hml hown hts hkb hH hOX hks hE hS hA (s_Tok_isSign l D cs kf T O X v20 (43) t_v20 (hO.sub (by decide))) kw_646 kw_615 kw_616 kw_3 kw_617 (by decide +kernel) ⟨Nat.le_of_ble_eq_true rfl, Nat.le_of_ble_eq_true rfl⟩ (HT.recv (ci := 7) hkb hH t_v20 (hO.no t_v20 (by decide)) rfl) rfl rfl hl.1 (Nat.le_of_ble_eq_true rfl) dX3_readSum_25 ⟨Nat.le_of_ble_eq_true rfl, Nat.le_of_ble_eq_true rfl⟩) (fun v25 u H locs hz9 hH hS => ?_)
          obtain ⟨rfl, l_v25, u_v25⟩ := hz9
          have hH : HT D cs A T O X H := hH
          refine W.widen (k := 0) (n := 0) (Nat.le_of_ble_eq_true rfl) (Nat.le_of_ble_eq_true rfl) ?_
          have J43 : ∀  (H : Heap) (locs : List Loc) (ls : Array Slot), HT D cs A T O X H → va_S A s.heap H locs → lv_has ls 5 [(3, .int p8_3), (0, .ref a0), (1, .int x1)] → W p l e { frames := 23, cells := 0, slots := 0, locals := 517 } s m [.ref a0, .int x1].toArray below meth c H locs 0 0 (MQ below (Ti D cs (fun r u => u = (T, O, X) ∧ 0 ≤ r.toInt ∧ r.toInt ≤ 1) A) [.ref a0, .int x1].toArray s 0 0 A) (F0 m 43 ls []) := by
            intro  H locs ls  hH hS hl
            refine lv_aload_n hx hb dX3_readSum_43 rfl (lv_at hl 1 rfl) ?_
            refine t_get (ci := 3) (lst := ft3 0 0) (C := RX3) (F := TX3) (N := 3) hx hb hts uX3 hown hkb hH t_a0 (hO.no t_a0 (by decide)) (fun _ h9 => h9) rfl rfl 0 (by decide) rfl kw_82 (fun _ h9 => h9) dX3_readSum_44 (fun v9 h9 => ?_)
            obtain ⟨v44, rfl, t_v44⟩ := h9
            refine lv_bipush (v := 43) hx hb dX3_readSum_47 (by decide) ?_
            refine tk_i hH hS hA (tr_V (n := 1) (As := [.int 43]) hx hb hml hown hts hkb hH hOX hks hE hS hA (s_Tok_isSign l D cs kf T O X v44 (43) t_v44 (hO.sub (by decide))) kw_646 kw_615 kw_616 kw_3 kw_617 (by decide +kernel) ⟨Nat.le_of_ble_eq_true rfl, Nat.le_of_ble_eq_true rfl⟩ (HT.recv (ci := 7) hkb hH t_v44 (hO.no t_v44 (by decide)) rfl) rfl rfl hl.1 (Nat.le_of_ble_eq_true rfl) dX3_readSum_49 ⟨Nat.le_of_ble_eq_true rfl, Nat.le_of_ble_eq_true rfl⟩) (fun v49 u H locs hz9 hH hS => ?_)
            obtain ⟨rfl, l_v49, u_v49⟩ := hz9
            have hH : HT D cs A T O X H := hH
            refine W.widen (k := 0) (n := 0) (Nat.le_of_ble_eq_true rfl) (Nat.le_of_ble_eq_true rfl) ?_
            have J61 : ∀ (k61_0 : Int32) (H : Heap) (locs : List Loc) (ls : Array Slot), (5 ≤ k61_0.toInt) → (k61_0.toInt ≤ 6) → HT D cs A T O X H → va_S A s.heap H locs → lv_has ls 5 [(3, .int p8_3), (0, .ref a0), (1, .int x1)] → W p l e { frames := 23, cells := 0, slots := 0, locals := 517 } s m [.ref a0, .int x1].toArray below meth c H locs 0 0 (MQ below (Ti D cs (fun r u => u = (T, O, X) ∧ 0 ≤ r.toInt ∧ r.toInt ≤ 1) A) [.ref a0, .int x1].toArray s 0 0 A) (F0 m 61 ls [.int k61_0]) := by
              intro k61_0 H locs ls l_k61_0 u_k61_0 hH hS hl
              refine lv_istore (lv' := [(4, .int k61_0), (3, .int p8_3), (0, .ref a0), (1, .int x1)]) hx hb dX3_readSum_61 hl (by decide) rfl (fun ls hl => ?_)
              refine lv_aload_n hx hb dX3_readSum_63 rfl (lv_at hl 2 rfl) ?_
              refine t_get (ci := 3) (lst := ft3 0 0) (C := RX3) (F := TX3) (N := 3) hx hb hts uX3 hown hkb hH t_a0 (hO.no t_a0 (by decide)) (fun _ h9 => h9) rfl rfl 0 (by decide) rfl kw_82 (fun _ h9 => h9) dX3_readSum_64 (fun v9 h9 => ?_)
              obtain ⟨v64, rfl, t_v64⟩ := h9
              refine tk_v hH hS hA (tr_V (n := 0) (As := []) hx hb hml hown hts hkb hH hOX hks hE hS hA (s_Tok_go l D cs kf T O X v64 t_v64 (hO.sub (by decide))) kw_641 kw_453 kw_454 kw_3 kw_455 (by decide +kernel) ⟨Nat.le_of_ble_eq_true rfl, Nat.le_of_ble_eq_true rfl⟩ (HT.recv (ci := 7) hkb hH t_v64 (hO.no t_v64 (by decide)) rfl) rfl rfl hl.1 (Nat.le_of_ble_eq_true rfl) dX3_readSum_67 ⟨Nat.le_of_ble_eq_true rfl, Nat.le_of_ble_eq_true rfl⟩) (fun u H locs hz9 hH hS => ?_)
              have hz9 : u = (T, O, X) := hz9
              subst hz9
              have hH : HT D cs A T O X H := hH
              refine W.widen (k := 0) (n := 0) (Nat.le_of_ble_eq_true rfl) (Nat.le_of_ble_eq_true rfl) ?_
              refine lv_aload_n hx hb dX3_readSum_70 rfl (lv_at hl 2 rfl) ?_
              refine lv_iload_n hx hb dX3_readSum_71 rfl (lv_at hl 3 rfl) ?_
              refine tk_i hH hS hA (tr_V (n := 1) (As := [.int x1]) hx hb hml hown hts hkb hH hOX hks hE hS hA (s_LR_readTerm1 l D cs kf T O X a0 x1 t_a0 (by omega) (by omega) (hO.sub (by decide))) kw_652 kw_654 ks_11 kw_4 kw_655 (by decide +kernel) ⟨Nat.le_of_ble_eq_true rfl, Nat.le_of_ble_eq_true rfl⟩ (HT.recv (ci := 3) hkb hH t_a0 (hO.no t_a0 (by decide)) rfl) rfl rfl hl.1 (Nat.le_of_ble_eq_true rfl) dX3_readSum_72 ⟨Nat.le_of_ble_eq_true rfl, Nat.le_of_ble_eq_true rfl⟩) (fun v72 u H locs hz9 hH hS => ?_)
              obtain ⟨rfl, l_v72, u_v72⟩ := hz9
              have hH : HT D cs A T O X H := hH
              refine W.widen (k := 0) (n := 0) (Nat.le_of_ble_eq_true rfl) (Nat.le_of_ble_eq_true rfl) ?_
              refine lv_istore_n (lv' := [(2, .int v72), (4, .int k61_0), (3, .int p8_3), (0, .ref a0), (1, .int x1)]) hx hb dX3_readSum_75 rfl hl (by decide) rfl (fun ls hl => ?_)
              refine lv_aload_n hx hb dX3_readSum_76 rfl (lv_at hl 3 rfl) ?_
              refine lv_iload hx hb dX3_readSum_77 (lv_at hl 1 rfl) ?_
              refine lv_iconst (v := 0) hx hb dX3_readSum_79 (by decide) ?_
              refine tk_v hH hS hA (tr_V (n := 2) (As := [.int k61_0, .int 0]) hx hb hml hown hts hkb hH hOX hks hE hS hA (s_LR_put l D cs kf T O X a0 k61_0 (0) t_a0 (hO.sub (by decide))) kw_642 kw_644 ks_9 kw_4 kw_645 (by decide +kernel) ⟨Nat.le_of_ble_eq_true rfl, Nat.le_of_ble_eq_true rfl⟩ (HT.recv (ci := 3) hkb hH t_a0 (hO.no t_a0 (by decide)) rfl) rfl rfl hl.1 (Nat.le_of_ble_eq_true rfl) dX3_readSum_80 ⟨Nat.le_of_ble_eq_true rfl, Nat.le_of_ble_eq_true rfl⟩) (fun u H locs hz9 hH hS => ?_)
              have hz9 : u = (T, O, X) := hz9
              subst hz9
              have hH : HT D cs A T O X H := hH
              refine W.widen (k := 0) (n := 0) (Nat.le_of_ble_eq_true rfl) (Nat.le_of_ble_eq_true rfl) ?_
              obtain ⟨v83, ev83⟩ : ∃ y : Int32, y = p8_3 + 1 := ⟨_, rfl⟩
              have tv83 : v83.toInt = p8_3.toInt + (1) := by rw [ev83]; exact add_i rfl (by decide) (by omega) (by omega)
              refine lv_iinc (v := v83) (lv' := [(3, .int v83), (2, .int v72), (4, .int k61_0), (0, .ref a0), (1, .int x1)]) hx hb dX3_readSum_83 hl (k := 2) rfl (by rw [ev83]; rfl) (by decide) rfl (fun ls hl => ?_)
              refine lv_goto (tgt := 8) hx hb dX3_readSum_86 (by decide) ?_
              exact ih8 _ (by omega) v83 v72 _ _ _ rfl (by omega) (by omega) (by omega) (by omega) hH hS (lv_sub hl [0, 1, 3, 4] rfl)
            refine lv_if_eq (tgt := 59) hx hb dX3_readSum_52 (by decide) (fun c52 => ?_) (fun c52 => ?_)
            · skip
              have tc52 := f_eq (k := 0) (by decide) c52
              refine lv_bipush (v := 6) hx hb dX3_readSum_59 (by decide) ?_
              exact J61 6 _ _ _ (by decide) (by decide) hH hS (lv_sub hl [0, 1, 2] rfl)
            · skip
              have tc52 := f_ne (k := 0) (by decide) c52
              refine lv_iconst (v := 5) hx hb dX3_readSum_55 (by decide) ?_
              refine lv_goto (tgt := 61) hx hb dX3_readSum_56 (by decide) ?_
              exact J61 5 _ _ _ (by decide) (by decide) hH hS (lv_sub hl [0, 1, 2] rfl)
          refine lv_if_ne (tgt := 43) hx hb dX3_readSum_28 (by decide) (fun c28 => ?_) (fun c28 => ?_)
          · skip
            have tc28 := f_ne (k := 0) (by decide) c28
            exact J43  _ _ _  hH hS (lv_sub hl [0, 2, 3] rfl)
          · skip
            have tc28 := f_eq (k := 0) (by decide) c28
            refine lv_aload_n hx hb dX3_readSum_31 rfl (lv_at hl 2 rfl) ?_
            refine t_get (ci := 3) (lst := ft3 0 0) (C := RX3) (F := TX3) (N := 3) hx hb hts uX3 hown hkb hH t_a0 (hO.no t_a0 (by decide)) (fun _ h9 => h9) rfl rfl 0 (by decide) rfl kw_82 (fun _ h9 => h9) dX3_readSum_32 (fun v9 h9 => ?_)
            obtain ⟨v32, rfl, t_v32⟩ := h9
            refine lv_bipush (v := 45) hx hb dX3_readSum_35 (by decide) ?_
            refine tk_i hH hS hA (tr_V (n := 1) (As := [.int 45]) hx hb hml hown hts hkb hH hOX hks hE hS hA (s_Tok_isSign l D cs kf T O X v32 (45) t_v32 (hO.sub (by decide))) kw_646 kw_615 kw_616 kw_3 kw_617 (by decide +kernel) ⟨Nat.le_of_ble_eq_true rfl, Nat.le_of_ble_eq_true rfl⟩ (HT.recv (ci := 7) hkb hH t_v32 (hO.no t_v32 (by decide)) rfl) rfl rfl hl.1 (Nat.le_of_ble_eq_true rfl) dX3_readSum_37 ⟨Nat.le_of_ble_eq_true rfl, Nat.le_of_ble_eq_true rfl⟩) (fun v37 u H locs hz9 hH hS => ?_)
            obtain ⟨rfl, l_v37, u_v37⟩ := hz9
            have hH : HT D cs A T O X H := hH
            refine W.widen (k := 0) (n := 0) (Nat.le_of_ble_eq_true rfl) (Nat.le_of_ble_eq_true rfl) ?_
            refine lv_if_eq (tgt := 89) hx hb dX3_readSum_40 (by decide) (fun c40 => ?_) (fun c40 => ?_)
            · skip
              have tc40 := f_eq (k := 0) (by decide) c40
              exact J89  _ _ _  hH hS (lv_sub hl [1] rfl)
            · skip
              have tc40 := f_ne (k := 0) (by decide) c40
              exact J43  _ _ _  hH hS (lv_sub hl [0, 2, 3] rfl)
  refine lv_istore_n (lv' := [(3, .int 0), (2, .int v2), (0, .ref a0), (1, .int x1)]) hx hb dX3_readSum_7 rfl hl (by decide) rfl (fun ls hl => ?_)
  exact J8 _ 0 v2 _ _ _ rfl (by decide) (by decide) (by omega) (by omega) hH hS (lv_sub hl [0, 1, 2, 3] rfl)
set_option maxHeartbeats 4000000 in
set_option maxRecDepth 100000 in
theorem s_LR_readUnit1 (l : Launch) (D : va_G) (cs : CS) (kf : KF) (T : TF) (O : List Nat) (X : va_W) (a0 : Nat) (x1 : Int32) (t_a0 : T a0 = some (13, 0, 0)) (l_x1 : 1 ≤ x1.toInt) (u_x1 : x1.toInt ≤ 1) (hO : okO T O [0, 1, 13, 17]) : TK l D cs kf yX3_readUnit cX3_readUnit 3 (some (.boolean)) { frames := 24, cells := 0, slots := 0, locals := 546 } [.ref a0, .int x1] T O X (Ti D cs (fun r u => u = (T, O, X) ∧ 0 ≤ r.toInt ∧ r.toInt ≤ 1)) := by
  refine tk_of (by decide) (Nat.le_of_ble_eq_true rfl) (fun p e s m below meth c ls A H locs hx hb hr hml hown hts hlocks hnm hkb hH hS hA hOX hks hE hl => ?_)
  have hown : s.vm.findClass RX3 = some m.cls := hown
  have hl : lv_has ls 3 [(0, .ref a0), (1, .int x1)] := hl
  refine lv_aload_n hx hb dX3_readUnit_0 rfl (lv_at hl 0 rfl) ?_
  refine t_get (ci := 3) (lst := ft3 0 0) (C := RX3) (F := TX3) (N := 3) hx hb hts uX3 hown hkb hH t_a0 (hO.no t_a0 (by decide)) (fun _ h9 => h9) rfl rfl 0 (by decide) rfl kw_82 (fun _ h9 => h9) dX3_readUnit_1 (fun v9 h9 => ?_)
  obtain ⟨v1, rfl, t_v1⟩ := h9
  refine va_ldcS (q := kf.1 10) hx hb hown (hks ("FootholdWall$LawReader", 65, "not", 10) (by decide +kernel)) dX3_readUnit_4 ?_
  refine tk_i hH hS hA (tr_V (n := 1) (As := [.ref (kf.1 10)]) hx hb hml hown hts hkb hH hOX hks hE hS hA (s_Tok_isWord l D cs kf T O X v1 10 t_v1 (by decide) (hO.sub (by decide))) kw_635 kw_551 kw_552 kw_3 kw_553 (by decide +kernel) ⟨Nat.le_of_ble_eq_true rfl, Nat.le_of_ble_eq_true rfl⟩ (HT.recv (ci := 7) hkb hH t_v1 (hO.no t_v1 (by decide)) rfl) rfl rfl hl.1 (Nat.le_of_ble_eq_true rfl) dX3_readUnit_6 ⟨Nat.le_of_ble_eq_true rfl, Nat.le_of_ble_eq_true rfl⟩) (fun v6 u H locs hz9 hH hS => ?_)
  obtain ⟨rfl, l_v6, u_v6⟩ := hz9
  have hH : HT D cs A T O X H := hH
  refine W.widen (k := 0) (n := 0) (Nat.le_of_ble_eq_true rfl) (Nat.le_of_ble_eq_true rfl) ?_
  refine lv_if_eq (tgt := 40) hx hb dX3_readUnit_9 (by decide) (fun c9 => ?_) (fun c9 => ?_)
  · skip
    have tc9 := f_eq (k := 0) (by decide) c9
    refine lv_aload_n hx hb dX3_readUnit_40 rfl (lv_at hl 0 rfl) ?_
    refine t_get (ci := 3) (lst := ft3 0 0) (C := RX3) (F := TX3) (N := 3) hx hb hts uX3 hown hkb hH t_a0 (hO.no t_a0 (by decide)) (fun _ h9 => h9) rfl rfl 0 (by decide) rfl kw_82 (fun _ h9 => h9) dX3_readUnit_41 (fun v9 h9 => ?_)
    obtain ⟨v41, rfl, t_v41⟩ := h9
    refine lv_bipush (v := 91) hx hb dX3_readUnit_44 (by decide) ?_
    refine tk_i hH hS hA (tr_V (n := 1) (As := [.int 91]) hx hb hml hown hts hkb hH hOX hks hE hS hA (s_Tok_isSign l D cs kf T O X v41 (91) t_v41 (hO.sub (by decide))) kw_646 kw_615 kw_616 kw_3 kw_617 (by decide +kernel) ⟨Nat.le_of_ble_eq_true rfl, Nat.le_of_ble_eq_true rfl⟩ (HT.recv (ci := 7) hkb hH t_v41 (hO.no t_v41 (by decide)) rfl) rfl rfl hl.1 (Nat.le_of_ble_eq_true rfl) dX3_readUnit_46 ⟨Nat.le_of_ble_eq_true rfl, Nat.le_of_ble_eq_true rfl⟩) (fun v46 u H locs hz9 hH hS => ?_)
    obtain ⟨rfl, l_v46, u_v46⟩ := hz9
    have hH : HT D cs A T O X H := hH
    refine W.widen (k := 0) (n := 0) (Nat.le_of_ble_eq_true rfl) (Nat.le_of_ble_eq_true rfl) ?_
    refine lv_if_eq (tgt := 88) hx hb dX3_readUnit_49 (by decide) (fun c49 => ?_) (fun c49 => ?_)
    · skip
      have tc49 := f_eq (k := 0) (by decide) c49
      refine lv_aload_n hx hb dX3_readUnit_88 rfl (lv_at hl 0 rfl) ?_
      refine lv_iload_n hx hb dX3_readUnit_89 rfl (lv_at hl 1 rfl) ?_
      refine tk_i hH hS hA (tr_V (n := 1) (As := [.int x1]) hx hb hml hown hts hkb hH hOX hks hE hS hA (s_LR_readSum1 l D cs kf T O X a0 x1 t_a0 (by omega) (by omega) (hO.sub (by decide))) kw_648 kw_650 ks_10 kw_4 kw_651 (by decide +kernel) ⟨Nat.le_of_ble_eq_true rfl, Nat.le_of_ble_eq_true rfl⟩ (HT.recv (ci := 3) hkb hH t_a0 (hO.no t_a0 (by decide)) rfl) rfl rfl hl.1 (Nat.le_of_ble_eq_true rfl) dX3_readUnit_90 ⟨Nat.le_of_ble_eq_true rfl, Nat.le_of_ble_eq_true rfl⟩) (fun v90 u H locs hz9 hH hS => ?_)
      obtain ⟨rfl, l_v90, u_v90⟩ := hz9
      have hH : HT D cs A T O X H := hH
      refine W.widen (k := 0) (n := 0) (Nat.le_of_ble_eq_true rfl) (Nat.le_of_ble_eq_true rfl) ?_
      refine lv_if_ne (tgt := 98) hx hb dX3_readUnit_93 (by decide) (fun c93 => ?_) (fun c93 => ?_)
      · skip
        have tc93 := f_ne (k := 0) (by decide) c93
        refine lv_aload_n hx hb dX3_readUnit_98 rfl (lv_at hl 0 rfl) ?_
        refine t_get (ci := 3) (lst := ft3 0 0) (C := RX3) (F := TX3) (N := 3) hx hb hts uX3 hown hkb hH t_a0 (hO.no t_a0 (by decide)) (fun _ h9 => h9) rfl rfl 0 (by decide) rfl kw_82 (fun _ h9 => h9) dX3_readUnit_99 (fun v9 h9 => ?_)
        obtain ⟨v99, rfl, t_v99⟩ := h9
        refine lv_bipush (v := 61) hx hb dX3_readUnit_102 (by decide) ?_
        refine tk_i hH hS hA (tr_V (n := 1) (As := [.int 61]) hx hb hml hown hts hkb hH hOX hks hE hS hA (s_Tok_isSign l D cs kf T O X v99 (61) t_v99 (hO.sub (by decide))) kw_646 kw_615 kw_616 kw_3 kw_617 (by decide +kernel) ⟨Nat.le_of_ble_eq_true rfl, Nat.le_of_ble_eq_true rfl⟩ (HT.recv (ci := 7) hkb hH t_v99 (hO.no t_v99 (by decide)) rfl) rfl rfl hl.1 (Nat.le_of_ble_eq_true rfl) dX3_readUnit_104 ⟨Nat.le_of_ble_eq_true rfl, Nat.le_of_ble_eq_true rfl⟩) (fun v104 u H locs hz9 hH hS => ?_)
        obtain ⟨rfl, l_v104, u_v104⟩ := hz9
        have hH : HT D cs A T O X H := hH
        refine W.widen (k := 0) (n := 0) (Nat.le_of_ble_eq_true rfl) (Nat.le_of_ble_eq_true rfl) ?_
        have J134 : ∀ (k134_0 : Int32) (H : Heap) (locs : List Loc) (ls : Array Slot), (8 ≤ k134_0.toInt) → (k134_0.toInt ≤ 10) → HT D cs A T O X H → va_S A s.heap H locs → lv_has ls 3 [(0, .ref a0), (1, .int x1)] → W p l e { frames := 24, cells := 0, slots := 0, locals := 546 } s m [.ref a0, .int x1].toArray below meth c H locs 0 0 (MQ below (Ti D cs (fun r u => u = (T, O, X) ∧ 0 ≤ r.toInt ∧ r.toInt ≤ 1) A) [.ref a0, .int x1].toArray s 0 0 A) (F0 m 134 ls [.int k134_0]) := by
          intro k134_0 H locs ls l_k134_0 u_k134_0 hH hS hl
          refine lv_istore_n (lv' := [(2, .int k134_0), (0, .ref a0), (1, .int x1)]) hx hb dX3_readUnit_134 rfl hl (by decide) rfl (fun ls hl => ?_)
          refine lv_iload_n hx hb dX3_readUnit_135 rfl (lv_at hl 0 rfl) ?_
          refine lv_bipush (v := 10) hx hb dX3_readUnit_136 (by decide) ?_
          have J162 : ∀  (H : Heap) (locs : List Loc) (ls : Array Slot), HT D cs A T O X H → va_S A s.heap H locs → lv_has ls 3 [(2, .int k134_0), (0, .ref a0), (1, .int x1)] → W p l e { frames := 24, cells := 0, slots := 0, locals := 546 } s m [.ref a0, .int x1].toArray below meth c H locs 0 0 (MQ below (Ti D cs (fun r u => u = (T, O, X) ∧ 0 ≤ r.toInt ∧ r.toInt ≤ 1) A) [.ref a0, .int x1].toArray s 0 0 A) (F0 m 162 ls []) := by
            intro  H locs ls  hH hS hl
            refine lv_aload_n hx hb dX3_readUnit_162 rfl (lv_at hl 1 rfl) ?_
            refine t_get (ci := 3) (lst := ft3 0 0) (C := RX3) (F := TX3) (N := 3) hx hb hts uX3 hown hkb hH t_a0 (hO.no t_a0 (by decide)) (fun _ h9 => h9) rfl rfl 0 (by decide) rfl kw_82 (fun _ h9 => h9) dX3_readUnit_163 (fun v9 h9 => ?_)
            obtain ⟨v163, rfl, t_v163⟩ := h9
            refine tk_v hH hS hA (tr_V (n := 0) (As := []) hx hb hml hown hts hkb hH hOX hks hE hS hA (s_Tok_go l D cs kf T O X v163 t_v163 (hO.sub (by decide))) kw_641 kw_453 kw_454 kw_3 kw_455 (by decide +kernel) ⟨Nat.le_of_ble_eq_true rfl, Nat.le_of_ble_eq_true rfl⟩ (HT.recv (ci := 7) hkb hH t_v163 (hO.no t_v163 (by decide)) rfl) rfl rfl hl.1 (Nat.le_of_ble_eq_true rfl) dX3_readUnit_166 ⟨Nat.le_of_ble_eq_true rfl, Nat.le_of_ble_eq_true rfl⟩) (fun u H locs hz9 hH hS => ?_)
            have hz9 : u = (T, O, X) := hz9
            subst hz9
            have hH : HT D cs A T O X H := hH
            refine W.widen (k := 0) (n := 0) (Nat.le_of_ble_eq_true rfl) (Nat.le_of_ble_eq_true rfl) ?_
            refine lv_aload_n hx hb dX3_readUnit_169 rfl (lv_at hl 1 rfl) ?_
            refine lv_iload_n hx hb dX3_readUnit_170 rfl (lv_at hl 2 rfl) ?_
            refine tk_i hH hS hA (tr_V (n := 1) (As := [.int x1]) hx hb hml hown hts hkb hH hOX hks hE hS hA (s_LR_readSum1 l D cs kf T O X a0 x1 t_a0 (by omega) (by omega) (hO.sub (by decide))) kw_648 kw_650 ks_10 kw_4 kw_651 (by decide +kernel) ⟨Nat.le_of_ble_eq_true rfl, Nat.le_of_ble_eq_true rfl⟩ (HT.recv (ci := 3) hkb hH t_a0 (hO.no t_a0 (by decide)) rfl) rfl rfl hl.1 (Nat.le_of_ble_eq_true rfl) dX3_readUnit_171 ⟨Nat.le_of_ble_eq_true rfl, Nat.le_of_ble_eq_true rfl⟩) (fun v171 u H locs hz9 hH hS => ?_)
            obtain ⟨rfl, l_v171, u_v171⟩ := hz9
            have hH : HT D cs A T O X H := hH
            refine W.widen (k := 0) (n := 0) (Nat.le_of_ble_eq_true rfl) (Nat.le_of_ble_eq_true rfl) ?_
            refine lv_if_ne (tgt := 179) hx hb dX3_readUnit_174 (by decide) (fun c174 => ?_) (fun c174 => ?_)
            · skip
              have tc174 := f_ne (k := 0) (by decide) c174
              refine lv_aload_n hx hb dX3_readUnit_179 rfl (lv_at hl 1 rfl) ?_
              refine lv_iload_n hx hb dX3_readUnit_180 rfl (lv_at hl 0 rfl) ?_
              refine lv_iconst (v := 0) hx hb dX3_readUnit_181 (by decide) ?_
              refine tk_v hH hS hA (tr_V (n := 2) (As := [.int k134_0, .int 0]) hx hb hml hown hts hkb hH hOX hks hE hS hA (s_LR_put l D cs kf T O X a0 k134_0 (0) t_a0 (hO.sub (by decide))) kw_642 kw_644 ks_9 kw_4 kw_645 (by decide +kernel) ⟨Nat.le_of_ble_eq_true rfl, Nat.le_of_ble_eq_true rfl⟩ (HT.recv (ci := 3) hkb hH t_a0 (hO.no t_a0 (by decide)) rfl) rfl rfl hl.1 (Nat.le_of_ble_eq_true rfl) dX3_readUnit_182 ⟨Nat.le_of_ble_eq_true rfl, Nat.le_of_ble_eq_true rfl⟩) (fun u H locs hz9 hH hS => ?_)
              have hz9 : u = (T, O, X) := hz9
              subst hz9
              have hH : HT D cs A T O X H := hH
              refine W.widen (k := 0) (n := 0) (Nat.le_of_ble_eq_true rfl) (Nat.le_of_ble_eq_true rfl) ?_
              refine lv_iconst (v := 1) hx hb dX3_readUnit_185 (by decide) ?_
              exact te_z hx hb hr hlocks (by rfl) hH hS (⟨rfl, by decide, by decide⟩) dX3_readUnit_186
            · skip
              have tc174 := f_eq (k := 0) (by decide) c174
              refine lv_iconst (v := 0) hx hb dX3_readUnit_177 (by decide) ?_
              exact te_z hx hb hr hlocks (by rfl) hH hS (⟨rfl, by decide, by decide⟩) dX3_readUnit_178
          refine lv_icmp_ne (tgt := 162) hx hb dX3_readUnit_138 (by decide) (fun c138 => ?_) (fun c138 => ?_)
          · skip
            have tc138 := f_ne (k := 10) (by decide) c138
            exact J162  _ _ _  hH hS (lv_sub hl [0, 1, 2] rfl)
          · skip
            have tc138 := f_eq (k := 10) (by decide) c138
            refine lv_aload_n hx hb dX3_readUnit_141 rfl (lv_at hl 1 rfl) ?_
            refine t_get (ci := 3) (lst := ft3 0 0) (C := RX3) (F := TX3) (N := 3) hx hb hts uX3 hown hkb hH t_a0 (hO.no t_a0 (by decide)) (fun _ h9 => h9) rfl rfl 0 (by decide) rfl kw_82 (fun _ h9 => h9) dX3_readUnit_142 (fun v9 h9 => ?_)
            obtain ⟨v142, rfl, t_v142⟩ := h9
            refine lv_bipush (v := 62) hx hb dX3_readUnit_145 (by decide) ?_
            refine tk_i hH hS hA (tr_V (n := 1) (As := [.int 62]) hx hb hml hown hts hkb hH hOX hks hE hS hA (s_Tok_isSign l D cs kf T O X v142 (62) t_v142 (hO.sub (by decide))) kw_646 kw_615 kw_616 kw_3 kw_617 (by decide +kernel) ⟨Nat.le_of_ble_eq_true rfl, Nat.le_of_ble_eq_true rfl⟩ (HT.recv (ci := 7) hkb hH t_v142 (hO.no t_v142 (by decide)) rfl) rfl rfl hl.1 (Nat.le_of_ble_eq_true rfl) dX3_readUnit_147 ⟨Nat.le_of_ble_eq_true rfl, Nat.le_of_ble_eq_true rfl⟩) (fun v147 u H locs hz9 hH hS => ?_)
            obtain ⟨rfl, l_v147, u_v147⟩ := hz9
            have hH : HT D cs A T O X H := hH
            refine W.widen (k := 0) (n := 0) (Nat.le_of_ble_eq_true rfl) (Nat.le_of_ble_eq_true rfl) ?_
            refine lv_if_ne (tgt := 162) hx hb dX3_readUnit_150 (by decide) (fun c150 => ?_) (fun c150 => ?_)
            · skip
              have tc150 := f_ne (k := 0) (by decide) c150
              exact J162  _ _ _  hH hS (lv_sub hl [0, 1, 2] rfl)
            · skip
              have tc150 := f_eq (k := 0) (by decide) c150
              refine lv_aload_n hx hb dX3_readUnit_153 rfl (lv_at hl 1 rfl) ?_
              refine t_get (ci := 3) (lst := ft3 0 0) (C := RX3) (F := TX3) (N := 3) hx hb hts uX3 hown hkb hH t_a0 (hO.no t_a0 (by decide)) (fun _ h9 => h9) rfl rfl 0 (by decide) rfl kw_82 (fun _ h9 => h9) dX3_readUnit_154 (fun v9 h9 => ?_)
              obtain ⟨v154, rfl, t_v154⟩ := h9
              refine lv_iconst (v := 2) hx hb dX3_readUnit_157 (by decide) ?_
              refine tk_i hH hS hA (tr_V (n := 1) (As := [.int 2]) hx hb hml hown hts hkb hH hOX hks hE hS hA (s_Tok_refuse l D cs kf T O X v154 (2) t_v154 (hO.sub (by decide))) kw_640 kw_580 kw_581 kw_3 kw_582 (by decide +kernel) ⟨Nat.le_of_ble_eq_true rfl, Nat.le_of_ble_eq_true rfl⟩ (HT.recv (ci := 7) hkb hH t_v154 (hO.no t_v154 (by decide)) rfl) rfl rfl hl.1 (Nat.le_of_ble_eq_true rfl) dX3_readUnit_158 ⟨Nat.le_of_ble_eq_true rfl, Nat.le_of_ble_eq_true rfl⟩) (fun v158 u H locs hz9 hH hS => ?_)
              obtain ⟨rfl, l_v158, u_v158⟩ := hz9
              have hH : HT D cs A T O X H := hH
              refine W.widen (k := 0) (n := 0) (Nat.le_of_ble_eq_true rfl) (Nat.le_of_ble_eq_true rfl) ?_
              exact te_z hx hb hr hlocks (nar01 (by omega) (by omega)) hH hS (⟨rfl, by omega, by omega⟩) dX3_readUnit_161
        refine lv_if_eq (tgt := 115) hx hb dX3_readUnit_107 (by decide) (fun c107 => ?_) (fun c107 => ?_)
        · skip
          have tc107 := f_eq (k := 0) (by decide) c107
          refine lv_aload_n hx hb dX3_readUnit_115 rfl (lv_at hl 0 rfl) ?_
          refine t_get (ci := 3) (lst := ft3 0 0) (C := RX3) (F := TX3) (N := 3) hx hb hts uX3 hown hkb hH t_a0 (hO.no t_a0 (by decide)) (fun _ h9 => h9) rfl rfl 0 (by decide) rfl kw_82 (fun _ h9 => h9) dX3_readUnit_116 (fun v9 h9 => ?_)
          obtain ⟨v116, rfl, t_v116⟩ := h9
          refine lv_bipush (v := 60) hx hb dX3_readUnit_119 (by decide) ?_
          refine tk_i hH hS hA (tr_V (n := 1) (As := [.int 60]) hx hb hml hown hts hkb hH hOX hks hE hS hA (s_Tok_isSign l D cs kf T O X v116 (60) t_v116 (hO.sub (by decide))) kw_646 kw_615 kw_616 kw_3 kw_617 (by decide +kernel) ⟨Nat.le_of_ble_eq_true rfl, Nat.le_of_ble_eq_true rfl⟩ (HT.recv (ci := 7) hkb hH t_v116 (hO.no t_v116 (by decide)) rfl) rfl rfl hl.1 (Nat.le_of_ble_eq_true rfl) dX3_readUnit_121 ⟨Nat.le_of_ble_eq_true rfl, Nat.le_of_ble_eq_true rfl⟩) (fun v121 u H locs hz9 hH hS => ?_)
          obtain ⟨rfl, l_v121, u_v121⟩ := hz9
          have hH : HT D cs A T O X H := hH
          refine W.widen (k := 0) (n := 0) (Nat.le_of_ble_eq_true rfl) (Nat.le_of_ble_eq_true rfl) ?_
          refine lv_if_eq (tgt := 132) hx hb dX3_readUnit_124 (by decide) (fun c124 => ?_) (fun c124 => ?_)
          · skip
            have tc124 := f_eq (k := 0) (by decide) c124
            refine lv_bipush (v := 10) hx hb dX3_readUnit_132 (by decide) ?_
            exact J134 10 _ _ _ (by decide) (by decide) hH hS (lv_sub hl [0, 1] rfl)
          · skip
            have tc124 := f_ne (k := 0) (by decide) c124
            refine lv_bipush (v := 9) hx hb dX3_readUnit_127 (by decide) ?_
            refine lv_goto (tgt := 134) hx hb dX3_readUnit_129 (by decide) ?_
            exact J134 9 _ _ _ (by decide) (by decide) hH hS (lv_sub hl [0, 1] rfl)
        · skip
          have tc107 := f_ne (k := 0) (by decide) c107
          refine lv_bipush (v := 8) hx hb dX3_readUnit_110 (by decide) ?_
          refine lv_goto (tgt := 134) hx hb dX3_readUnit_112 (by decide) ?_
          exact J134 8 _ _ _ (by decide) (by decide) hH hS (lv_sub hl [0, 1] rfl)
      · skip
        have tc93 := f_eq (k := 0) (by decide) c93
        refine lv_iconst (v := 0) hx hb dX3_readUnit_96 (by decide) ?_
        exact te_z hx hb hr hlocks (by rfl) hH hS (⟨rfl, by decide, by decide⟩) dX3_readUnit_97
    · skip
      have tc49 := f_ne (k := 0) (by decide) c49
      refine lv_aload_n hx hb dX3_readUnit_52 rfl (lv_at hl 0 rfl) ?_
      refine lv_iload_n hx hb dX3_readUnit_53 rfl (lv_at hl 1 rfl) ?_
      refine tk_i hH hS hA (tr_V (n := 1) (As := [.int x1]) hx hb hml hown hts hkb hH hOX hks hE hS hA (s_LR_enter1 l D cs kf T O X a0 x1 t_a0 (by omega) (by omega) (hO.sub (by decide))) kw_636 kw_638 ks_8 kw_4 kw_639 (by decide +kernel) ⟨Nat.le_of_ble_eq_true rfl, Nat.le_of_ble_eq_true rfl⟩ (HT.recv (ci := 3) hkb hH t_a0 (hO.no t_a0 (by decide)) rfl) rfl rfl hl.1 (Nat.le_of_ble_eq_true rfl) dX3_readUnit_54 ⟨Nat.le_of_ble_eq_true rfl, Nat.le_of_ble_eq_true rfl⟩) (fun v54 u H locs hz9 hH hS => ?_)
      obtain ⟨rfl, l_v54, u_v54⟩ := hz9
      have hH : HT D cs A T O X H := hH
      refine W.widen (k := 0) (n := 0) (Nat.le_of_ble_eq_true rfl) (Nat.le_of_ble_eq_true rfl) ?_
      refine lv_if_eq (tgt := 86) hx hb dX3_readUnit_57 (by decide) (fun c57 => ?_) (fun c57 => ?_)
      · skip
        have tc57 := f_eq (k := 0) (by decide) c57
        exfalso; omega
      · skip
        have tc57 := f_ne (k := 0) (by decide) c57
        refine lv_aload_n hx hb dX3_readUnit_60 rfl (lv_at hl 0 rfl) ?_
        refine lv_iload_n hx hb dX3_readUnit_61 rfl (lv_at hl 1 rfl) ?_
        refine lv_iconst (v := 1) hx hb dX3_readUnit_62 (by decide) ?_
        refine lv_iadd hx hb dX3_readUnit_63 ?_
        refine lv_topi (fun v63 ev63 => ?_)
        have tv63 : v63.toInt = x1.toInt + (1) := by rw [ev63]; exact add_i rfl (by decide : (1 : Int32).toInt = 1) (by omega) (by omega)
        refine tk_i hH hS hA (tr_V (n := 1) (As := [.int v63]) hx hb hml hown hts hkb hH hOX hks hE hS hA (s_LR_readTruth2 l D cs kf T O X a0 v63 t_a0 (by omega) (by omega) (hO.sub (by decide))) kw_622 kw_624 ks_5 kw_4 kw_625 (by decide +kernel) ⟨Nat.le_of_ble_eq_true rfl, Nat.le_of_ble_eq_true rfl⟩ (HT.recv (ci := 3) hkb hH t_a0 (hO.no t_a0 (by decide)) rfl) rfl rfl hl.1 (Nat.le_of_ble_eq_true rfl) dX3_readUnit_64 ⟨Nat.le_of_ble_eq_true rfl, Nat.le_of_ble_eq_true rfl⟩) (fun v64 u H locs hz9 hH hS => ?_)
        obtain ⟨rfl, l_v64, u_v64⟩ := hz9
        have hH : HT D cs A T O X H := hH
        refine W.widen (k := 0) (n := 0) (Nat.le_of_ble_eq_true rfl) (Nat.le_of_ble_eq_true rfl) ?_
        have J87 : ∀ (k87_0 : Int32) (H : Heap) (locs : List Loc) (ls : Array Slot), (0 ≤ k87_0.toInt) → (k87_0.toInt ≤ 1) → HT D cs A T O X H → va_S A s.heap H locs → lv_has ls 3 [] → W p l e { frames := 24, cells := 0, slots := 0, locals := 546 } s m [.ref a0, .int x1].toArray below meth c H locs 0 0 (MQ below (Ti D cs (fun r u => u = (T, O, X) ∧ 0 ≤ r.toInt ∧ r.toInt ≤ 1) A) [.ref a0, .int x1].toArray s 0 0 A) (F0 m 87 ls [.int k87_0]) := by
          intro k87_0 H locs ls l_k87_0 u_k87_0 hH hS hl
          exact te_z hx hb hr hlocks (nar01 (by omega) (by omega)) hH hS (⟨rfl, by omega, by omega⟩) dX3_readUnit_87
        have J86 : ∀  (H : Heap) (locs : List Loc) (ls : Array Slot), HT D cs A T O X H → va_S A s.heap H locs → lv_has ls 3 [] → W p l e { frames := 24, cells := 0, slots := 0, locals := 546 } s m [.ref a0, .int x1].toArray below meth c H locs 0 0 (MQ below (Ti D cs (fun r u => u = (T, O, X) ∧ 0 ≤ r.toInt ∧ r.toInt ≤ 1) A) [.ref a0, .int x1].toArray s 0 0 A) (F0 m 86 ls []) := by
          intro  H locs ls  hH hS hl
          refine lv_iconst (v := 0) hx hb dX3_readUnit_86 (by decide) ?_
          exact J87 0 _ _ _ (by decide) (by decide) hH hS (lv_sub hl [] rfl)
        refine lv_if_eq (tgt := 86) hx hb dX3_readUnit_67 (by decide) (fun c67 => ?_) (fun c67 => ?_)
        · skip
          have tc67 := f_eq (k := 0) (by decide) c67
          exact J86  _ _ _  hH hS (lv_sub hl [] rfl)
        · skip
          have tc67 := f_ne (k := 0) (by decide) c67
          refine lv_aload_n hx hb dX3_readUnit_70 rfl (lv_at hl 0 rfl) ?_
          refine t_get (ci := 3) (lst := ft3 0 0) (C := RX3) (F := TX3) (N := 3) hx hb hts uX3 hown hkb hH t_a0 (hO.no t_a0 (by decide)) (fun _ h9 => h9) rfl rfl 0 (by decide) rfl kw_82 (fun _ h9 => h9) dX3_readUnit_71 (fun v9 h9 => ?_)
          obtain ⟨v71, rfl, t_v71⟩ := h9
          refine lv_bipush (v := 93) hx hb dX3_readUnit_74 (by decide) ?_
          refine tk_i hH hS hA (tr_V (n := 1) (As := [.int 93]) hx hb hml hown hts hkb hH hOX hks hE hS hA (s_Tok_takeSign l D cs kf T O X v71 (93) t_v71 (hO.sub (by decide))) kw_647 kw_611 kw_612 kw_3 kw_613 (by decide +kernel) ⟨Nat.le_of_ble_eq_true rfl, Nat.le_of_ble_eq_true rfl⟩ (HT.recv (ci := 7) hkb hH t_v71 (hO.no t_v71 (by decide)) rfl) rfl rfl hl.1 (Nat.le_of_ble_eq_true rfl) dX3_readUnit_76 ⟨Nat.le_of_ble_eq_true rfl, Nat.le_of_ble_eq_true rfl⟩) (fun v76 u H locs hz9 hH hS => ?_)
          obtain ⟨rfl, l_v76, u_v76⟩ := hz9
          have hH : HT D cs A T O X H := hH
          refine W.widen (k := 0) (n := 0) (Nat.le_of_ble_eq_true rfl) (Nat.le_of_ble_eq_true rfl) ?_
          refine lv_if_eq (tgt := 86) hx hb dX3_readUnit_79 (by decide) (fun c79 => ?_) (fun c79 => ?_)
          · skip
            have tc79 := f_eq (k := 0) (by decide) c79
            exact J86  _ _ _  hH hS (lv_sub hl [] rfl)
          · skip
            have tc79 := f_ne (k := 0) (by decide) c79
            refine lv_iconst (v := 1) hx hb dX3_readUnit_82 (by decide) ?_
            refine lv_goto (tgt := 87) hx hb dX3_readUnit_83 (by decide) ?_
            exact J87 1 _ _ _ (by decide) (by decide) hH hS (lv_sub hl [] rfl)
  · skip
    have tc9 := f_ne (k := 0) (by decide) c9
    refine lv_aload_n hx hb dX3_readUnit_12 rfl (lv_at hl 0 rfl) ?_
    refine lv_iload_n hx hb dX3_readUnit_13 rfl (lv_at hl 1 rfl) ?_
    refine tk_i hH hS hA (tr_V (n := 1) (As := [.int x1]) hx hb hml hown hts hkb hH hOX hks hE hS hA (s_LR_enter1 l D cs kf T O X a0 x1 t_a0 (by omega) (by omega) (hO.sub (by decide))) kw_636 kw_638 ks_8 kw_4 kw_639 (by decide +kernel) ⟨Nat.le_of_ble_eq_true rfl, Nat.le_of_ble_eq_true rfl⟩ (HT.recv (ci := 3) hkb hH t_a0 (hO.no t_a0 (by decide)) rfl) rfl rfl hl.1 (Nat.le_of_ble_eq_true rfl) dX3_readUnit_14 ⟨Nat.le_of_ble_eq_true rfl, Nat.le_of_ble_eq_true rfl⟩) (fun v14 u H locs hz9 hH hS => ?_)
    obtain ⟨rfl, l_v14, u_v14⟩ := hz9
    have hH : HT D cs A T O X H := hH
    refine W.widen (k := 0) (n := 0) (Nat.le_of_ble_eq_true rfl) (Nat.le_of_ble_eq_true rfl) ?_
    refine lv_if_eq (tgt := 30) hx hb dX3_readUnit_17 (by decide) (fun c17 => ?_) (fun c17 => ?_)
    · skip
      have tc17 := f_eq (k := 0) (by decide) c17
      exfalso; omega
    · skip
      have tc17 := f_ne (k := 0) (by decide) c17
      refine lv_aload_n hx hb dX3_readUnit_20 rfl (lv_at hl 0 rfl) ?_
      refine lv_iload_n hx hb dX3_readUnit_21 rfl (lv_at hl 1 rfl) ?_
      refine lv_iconst (v := 1) hx hb dX3_readUnit_22 (by decide) ?_
      refine lv_iadd hx hb dX3_readUnit_23 ?_
      refine lv_topi (fun v23 ev23 => ?_)
      have tv23 : v23.toInt = x1.toInt + (1) := by rw [ev23]; exact add_i rfl (by decide : (1 : Int32).toInt = 1) (by omega) (by omega)
      refine tk_i hH hS hA (tr_V (n := 1) (As := [.int v23]) hx hb hml hown hts hkb hH hOX hks hE hS hA (s_LR_readUnit2 l D cs kf T O X a0 v23 t_a0 (by omega) (by omega) (hO.sub (by decide))) kw_630 kw_632 ks_7 kw_4 kw_633 (by decide +kernel) ⟨Nat.le_of_ble_eq_true rfl, Nat.le_of_ble_eq_true rfl⟩ (HT.recv (ci := 3) hkb hH t_a0 (hO.no t_a0 (by decide)) rfl) rfl rfl hl.1 (Nat.le_of_ble_eq_true rfl) dX3_readUnit_24 ⟨Nat.le_of_ble_eq_true rfl, Nat.le_of_ble_eq_true rfl⟩) (fun v24 u H locs hz9 hH hS => ?_)
      obtain ⟨rfl, l_v24, u_v24⟩ := hz9
      have hH : HT D cs A T O X H := hH
      refine W.widen (k := 0) (n := 0) (Nat.le_of_ble_eq_true rfl) (Nat.le_of_ble_eq_true rfl) ?_
      refine lv_if_ne (tgt := 32) hx hb dX3_readUnit_27 (by decide) (fun c27 => ?_) (fun c27 => ?_)
      · skip
        have tc27 := f_ne (k := 0) (by decide) c27
        refine lv_aload_n hx hb dX3_readUnit_32 rfl (lv_at hl 0 rfl) ?_
        refine lv_iconst (v := 2) hx hb dX3_readUnit_33 (by decide) ?_
        refine lv_iconst (v := 0) hx hb dX3_readUnit_34 (by decide) ?_
        refine tk_v hH hS hA (tr_V (n := 2) (As := [.int 2, .int 0]) hx hb hml hown hts hkb hH hOX hks hE hS hA (s_LR_put l D cs kf T O X a0 (2) (0) t_a0 (hO.sub (by decide))) kw_642 kw_644 ks_9 kw_4 kw_645 (by decide +kernel) ⟨Nat.le_of_ble_eq_true rfl, Nat.le_of_ble_eq_true rfl⟩ (HT.recv (ci := 3) hkb hH t_a0 (hO.no t_a0 (by decide)) rfl) rfl rfl hl.1 (Nat.le_of_ble_eq_true rfl) dX3_readUnit_35 ⟨Nat.le_of_ble_eq_true rfl, Nat.le_of_ble_eq_true rfl⟩) (fun u H locs hz9 hH hS => ?_)
        have hz9 : u = (T, O, X) := hz9
        subst hz9
        have hH : HT D cs A T O X H := hH
        refine W.widen (k := 0) (n := 0) (Nat.le_of_ble_eq_true rfl) (Nat.le_of_ble_eq_true rfl) ?_
        refine lv_iconst (v := 1) hx hb dX3_readUnit_38 (by decide) ?_
        exact te_z hx hb hr hlocks (by rfl) hH hS (⟨rfl, by decide, by decide⟩) dX3_readUnit_39
      · skip
        have tc27 := f_eq (k := 0) (by decide) c27
        refine lv_iconst (v := 0) hx hb dX3_readUnit_30 (by decide) ?_
        exact te_z hx hb hr hlocks (by rfl) hH hS (⟨rfl, by decide, by decide⟩) dX3_readUnit_31
set_option maxHeartbeats 4000000 in
set_option maxRecDepth 100000 in
theorem s_LR_readBoth1 (l : Launch) (D : va_G) (cs : CS) (kf : KF) (T : TF) (O : List Nat) (X : va_W) (a0 : Nat) (x1 : Int32) (t_a0 : T a0 = some (13, 0, 0)) (l_x1 : 1 ≤ x1.toInt) (u_x1 : x1.toInt ≤ 1) (hO : okO T O [0, 1, 13, 17]) : TK l D cs kf yX3_readBoth cX3_readBoth 5 (some (.boolean)) { frames := 25, cells := 0, slots := 0, locals := 568 } [.ref a0, .int x1] T O X (Ti D cs (fun r u => u = (T, O, X) ∧ 0 ≤ r.toInt ∧ r.toInt ≤ 1)) := by
  refine tk_of (by decide) (Nat.le_of_ble_eq_true rfl) (fun p e s m below meth c ls A H locs hx hb hr hml hown hts hlocks hnm hkb hH hS hA hOX hks hE hl => ?_)
  have hown : s.vm.findClass RX3 = some m.cls := hown
  have hl : lv_has ls 5 [(0, .ref a0), (1, .int x1)] := hl
  refine lv_aload_n hx hb dX3_readBoth_0 rfl (lv_at hl 0 rfl) ?_
  refine lv_iload_n hx hb dX3_readBoth_1 rfl (lv_at hl 1 rfl) ?_
  refine tk_i hH hS hA (tr_V (n := 1) (As := [.int x1]) hx hb hml hown hts hkb hH hOX hks hE hS hA (s_LR_readUnit1 l D cs kf T O X a0 x1 t_a0 (by omega) (by omega) (hO.sub (by decide))) kw_630 kw_632 ks_7 kw_4 kw_633 (by decide +kernel) ⟨Nat.le_of_ble_eq_true rfl, Nat.le_of_ble_eq_true rfl⟩ (HT.recv (ci := 3) hkb hH t_a0 (hO.no t_a0 (by decide)) rfl) rfl rfl hl.1 (Nat.le_of_ble_eq_true rfl) dX3_readBoth_2 ⟨Nat.le_of_ble_eq_true rfl, Nat.le_of_ble_eq_true rfl⟩) (fun v2 u H locs hz9 hH hS => ?_)
  obtain ⟨rfl, l_v2, u_v2⟩ := hz9
  have hH : HT D cs A T O X H := hH
  refine W.widen (k := 0) (n := 0) (Nat.le_of_ble_eq_true rfl) (Nat.le_of_ble_eq_true rfl) ?_
  refine lv_istore_n (lv' := [(2, .int v2), (0, .ref a0), (1, .int x1)]) hx hb dX3_readBoth_5 rfl hl (by decide) rfl (fun ls hl => ?_)
  refine lv_iconst (v := 0) hx hb dX3_readBoth_6 (by decide) ?_
  have J8 : ∀ (n : Nat) (p8_3 : Int32) (p8_2 : Int32) (H : Heap) (locs : List Loc) (ls : Array Slot), (900 - p8_3.toInt).toNat = n → (0 ≤ p8_3.toInt) → (p8_3.toInt ≤ 900) → (0 ≤ p8_2.toInt) → (p8_2.toInt ≤ 1) → HT D cs A T O X H → va_S A s.heap H locs → lv_has ls 5 [(3, .int p8_3), (2, .int p8_2), (0, .ref a0), (1, .int x1)] → W p l e { frames := 25, cells := 0, slots := 0, locals := 568 } s m [.ref a0, .int x1].toArray below meth c H locs 0 0 (MQ below (Ti D cs (fun r u => u = (T, O, X) ∧ 0 ≤ r.toInt ∧ r.toInt ≤ 1) A) [.ref a0, .int x1].toArray s 0 0 A) (F0 m 8 ls []) := by
    intro n
    induction n using Nat.strongRecOn with
    | _ n ih8 =>
      intro p8_3 p8_2 H locs ls hm8 l_p8_3 u_p8_3 l_p8_2 u_p8_2 hH hS hl
      refine lv_iload_n hx hb dX3_readBoth_8 rfl (lv_at hl 0 rfl) ?_
      refine lv_sipush (v := 900) hx hb dX3_readBoth_9 (by decide) ?_
      have J68 : ∀  (H : Heap) (locs : List Loc) (ls : Array Slot), HT D cs A T O X H → va_S A s.heap H locs → lv_has ls 5 [(2, .int p8_2)] → W p l e { frames := 25, cells := 0, slots := 0, locals := 568 } s m [.ref a0, .int x1].toArray below meth c H locs 0 0 (MQ below (Ti D cs (fun r u => u = (T, O, X) ∧ 0 ≤ r.toInt ∧ r.toInt ≤ 1) A) [.ref a0, .int x1].toArray s 0 0 A) (F0 m 68 ls []) := by
        intro  H locs ls  hH hS hl
        refine lv_iload_n hx hb dX3_readBoth_68 rfl (lv_at hl 0 rfl) ?_
        exact te_z hx hb hr hlocks (nar01 (by omega) (by omega)) hH hS (⟨rfl, by omega, by omega⟩) dX3_readBoth_69
      refine lv_icmp_ge (tgt := 68) hx hb dX3_readBoth_12 (by decide) (fun c12 => ?_) (fun c12 => ?_)
      · skip
        have tc12 := f_ge (k := 900) (by decide) c12
        exact J68  _ _ _  hH hS (lv_sub hl [1] rfl)
      · skip
        have tc12 := f_nge (k := 900) (by decide) c12
        refine lv_iload_n hx hb dX3_readBoth_15 rfl (lv_at hl 1 rfl) ?_
        refine lv_if_eq (tgt := 68) hx hb dX3_readBoth_16 (by decide) (fun c16 => ?_) (fun c16 => ?_)
        · skip
          have tc16 := f_eq (k := 0) (by decide) c16
          exact J68  _ _ _  hH hS (lv_sub hl [1] rfl)
        · skip
          have tc16 := f_ne (k := 0) (by decide) c16
          refine lv_aload_n hx hb dX3_readBoth_19 rfl (lv_at hl 2 rfl) ?_
          refine t_get (ci := 3) (lst := ft3 0 0) (C := RX3) (F := TX3) (N := 3) hx hb hts uX3 hown hkb hH t_a0 (hO.no t_a0 (by decide)) (fun _ h9 => h9) rfl rfl 0 (by decide) rfl kw_82 (fun _ h9 => h9) dX3_readBoth_20 (fun v9 h9 => ?_)
          obtain ⟨v20, rfl, t_v20⟩ := h9
          refine va_ldcS (q := kf.1 15) hx hb hown (hks ("FootholdWall$LawReader", 63, "and", 15) (by decide +kernel)) dX3_readBoth_23 ?_
          refine tk_i hH hS hA (tr_V (n := 1) (As := [.ref (kf.1 15)]) hx hb hml hown hts hkb hH hOX hks hE hS hA (s_Tok_isWord l D cs kf T O X v20 15 t_v20 (by decide) (hO.sub (by decide))) kw_635 kw_551 kw_552 kw_3 kw_553 (by decide +kernel) ⟨Nat.le_of_ble_eq_true rfl, Nat.le_of_ble_eq_true rfl⟩ (HT.recv (ci := 7) hkb hH t_v20 (hO.no t_v20 (by decide)) rfl) rfl rfl hl.1 (Nat.le_of_ble_eq_true rfl) dX3_readBoth_25 ⟨Nat.le_of_ble_eq_true rfl, Nat.le_of_ble_eq_true rfl⟩) (fun v25 u H locs hz9 hH hS => ?_)
          obtain ⟨rfl, l_v25, u_v25⟩ := hz9
          have hH : HT D cs A T O X H := hH
          refine W.widen (k := 0) (n := 0) (Nat.le_of_ble_eq_true rfl) (Nat.le_of_ble_eq_true rfl) ?_
          refine lv_if_eq (tgt := 68) hx hb dX3_readBoth_28 (by decide) (fun c28 => ?_) (fun c28 => ?_)
          · skip
            have tc28 := f_eq (k := 0) (by decide) c28
            exact J68  _ _ _  hH hS (lv_sub hl [1] rfl)
          · skip
            have tc28 := f_ne (k := 0) (by decide) c28
            refine lv_aload_n hx hb dX3_readBoth_31 rfl (lv_at hl 2 rfl) ?_
            refine t_get (ci := 3) (lst := ft3 0 0) (C := RX3) (F := TX3) (N := 3) hx hb hts uX3 hown hkb hH t_a0 (hO.no t_a0 (by decide)) (fun _ h9 => h9) rfl rfl 0 (by decide) rfl kw_82 (fun _ h9 => h9) dX3_readBoth_32 (fun v9 h9 => ?_)
            obtain ⟨v32, rfl, t_v32⟩ := h9
            refine tk_v hH hS hA (tr_V (n := 0) (As := []) hx hb hml hown hts hkb hH hOX hks hE hS hA (s_Tok_go l D cs kf T O X v32 t_v32 (hO.sub (by decide))) kw_641 kw_453 kw_454 kw_3 kw_455 (by decide +kernel) ⟨Nat.le_of_ble_eq_true rfl, Nat.le_of_ble_eq_true rfl⟩ (HT.recv (ci := 7) hkb hH t_v32 (hO.no t_v32 (by decide)) rfl) rfl rfl hl.1 (Nat.le_of_ble_eq_true rfl) dX3_readBoth_35 ⟨Nat.le_of_ble_eq_true rfl, Nat.le_of_ble_eq_true rfl⟩) (fun u H locs hz9 hH hS => ?_)
            have hz9 : u = (T, O, X) := hz9
            subst hz9
            have hH : HT D cs A T O X H := hH
            refine W.widen (k := 0) (n := 0) (Nat.le_of_ble_eq_true rfl) (Nat.le_of_ble_eq_true rfl) ?_
            refine lv_aload_n hx hb dX3_readBoth_38 rfl (lv_at hl 2 rfl) ?_
            refine t_get (ci := 3) (lst := ft3 0 0) (C := RX3) (F := TX3) (N := 3) hx hb hts uX3 hown hkb hH t_a0 (hO.no t_a0 (by decide)) (fun _ h9 => h9) rfl rfl 2 (by decide) rfl kw_84 (fun _ h9 => h9) dX3_readBoth_39 (fun v9 h9 => ?_)
            obtain ⟨v39, rfl, l_v39, u_v39⟩ := h9
            refine lv_istore (lv' := [(4, .int v39), (3, .int p8_3), (2, .int p8_2), (0, .ref a0), (1, .int x1)]) hx hb dX3_readBoth_42 hl (by decide) rfl (fun ls hl => ?_)
            refine lv_aload_n hx hb dX3_readBoth_44 rfl (lv_at hl 3 rfl) ?_
            refine lv_iconst (v := 3) hx hb dX3_readBoth_45 (by decide) ?_
            refine lv_iconst (v := 0) hx hb dX3_readBoth_46 (by decide) ?_
            refine tk_v hH hS hA (tr_V (n := 2) (As := [.int 3, .int 0]) hx hb hml hown hts hkb hH hOX hks hE hS hA (s_LR_put l D cs kf T O X a0 (3) (0) t_a0 (hO.sub (by decide))) kw_642 kw_644 ks_9 kw_4 kw_645 (by decide +kernel) ⟨Nat.le_of_ble_eq_true rfl, Nat.le_of_ble_eq_true rfl⟩ (HT.recv (ci := 3) hkb hH t_a0 (hO.no t_a0 (by decide)) rfl) rfl rfl hl.1 (Nat.le_of_ble_eq_true rfl) dX3_readBoth_47 ⟨Nat.le_of_ble_eq_true rfl, Nat.le_of_ble_eq_true rfl⟩) (fun u H locs hz9 hH hS => ?_)
            have hz9 : u = (T, O, X) := hz9
            subst hz9
            have hH : HT D cs A T O X H := hH
            refine W.widen (k := 0) (n := 0) (Nat.le_of_ble_eq_true rfl) (Nat.le_of_ble_eq_true rfl) ?_
            refine lv_aload_n hx hb dX3_readBoth_50 rfl (lv_at hl 3 rfl) ?_
            refine lv_iload_n hx hb dX3_readBoth_51 rfl (lv_at hl 4 rfl) ?_
            refine tk_i hH hS hA (tr_V (n := 1) (As := [.int x1]) hx hb hml hown hts hkb hH hOX hks hE hS hA (s_LR_readUnit1 l D cs kf T O X a0 x1 t_a0 (by omega) (by omega) (hO.sub (by decide))) kw_630 kw_632 ks_7 kw_4 kw_633 (by decide +kernel) ⟨Nat.le_of_ble_eq_true rfl, Nat.le_of_ble_eq_true rfl⟩ (HT.recv (ci := 3) hkb hH t_a0 (hO.no t_a0 (by decide)) rfl) rfl rfl hl.1 (Nat.le_of_ble_eq_true rfl) dX3_readBoth_52 ⟨Nat.le_of_ble_eq_true rfl, Nat.le_of_ble_eq_true rfl⟩) (fun v52 u H locs hz9 hH hS => ?_)
            obtain ⟨rfl, l_v52, u_v52⟩ := hz9
            have hH : HT D cs A T O X H := hH
            refine W.widen (k := 0) (n := 0) (Nat.le_of_ble_eq_true rfl) (Nat.le_of_ble_eq_true rfl) ?_
            refine lv_istore_n (lv' := [(2, .int v52), (4, .int v39), (3, .int p8_3), (0, .ref a0), (1, .int x1)]) hx hb dX3_readBoth_55 rfl hl (by decide) rfl (fun ls hl => ?_)
            refine lv_aload_n hx hb dX3_readBoth_56 rfl (lv_at hl 3 rfl) ?_
            refine lv_iload hx hb dX3_readBoth_57 (lv_at hl 1 rfl) ?_
            refine tk_v hH hS hA (tr_V (n := 1) (As := [.int v39]) hx hb hml hown hts hkb hH hOX hks hE hS hA (s_LR_aimSkip l D cs kf T O X a0 v39 t_a0 (hO.sub (by decide))) kw_672 kw_674 ks_14 kw_4 kw_675 (by decide +kernel) ⟨Nat.le_of_ble_eq_true rfl, Nat.le_of_ble_eq_true rfl⟩ (HT.recv (ci := 3) hkb hH t_a0 (hO.no t_a0 (by decide)) rfl) rfl rfl hl.1 (Nat.le_of_ble_eq_true rfl) dX3_readBoth_59 ⟨Nat.le_of_ble_eq_true rfl, Nat.le_of_ble_eq_true rfl⟩) (fun u H locs hz9 hH hS => ?_)
            have hz9 : u = (T, O, X) := hz9
            subst hz9
            have hH : HT D cs A T O X H := hH
            refine W.widen (k := 0) (n := 0) (Nat.le_of_ble_eq_true rfl) (Nat.le_of_ble_eq_true rfl) ?_
            obtain ⟨v62, ev62⟩ : ∃ y : Int32, y = p8_3 + 1 := ⟨_, rfl⟩
            have tv62 : v62.toInt = p8_3.toInt + (1) := by rw [ev62]; exact add_i rfl (by decide) (by omega) (by omega)
            refine lv_iinc (v := v62) (lv' := [(3, .int v62), (2, .int v52), (4, .int v39), (0, .ref a0), (1, .int x1)]) hx hb dX3_readBoth_62 hl (k := 2) rfl (by rw [ev62]; rfl) (by decide) rfl (fun ls hl => ?_)
            refine lv_goto (tgt := 8) hx hb dX3_readBoth_65 (by decide) ?_
            exact ih8 _ (by omega) v62 v52 _ _ _ rfl (by omega) (by omega) (by omega) (by omega) hH hS (lv_sub hl [0, 1, 3, 4] rfl)
  refine lv_istore_n (lv' := [(3, .int 0), (2, .int v2), (0, .ref a0), (1, .int x1)]) hx hb dX3_readBoth_7 rfl hl (by decide) rfl (fun ls hl => ?_)
  exact J8 _ 0 v2 _ _ _ rfl (by decide) (by decide) (by omega) (by omega) hH hS (lv_sub hl [0, 1, 2, 3] rfl)
set_option maxHeartbeats 4000000 in
set_option maxRecDepth 100000 in
theorem s_LR_readTruth1 (l : Launch) (D : va_G) (cs : CS) (kf : KF) (T : TF) (O : List Nat) (X : va_W) (a0 : Nat) (x1 : Int32) (t_a0 : T a0 = some (13, 0, 0)) (l_x1 : 1 ≤ x1.toInt) (u_x1 : x1.toInt ≤ 1) (hO : okO T O [0, 1, 13, 17]) : TK l D cs kf yX3_readTruth cX3_readTruth 5 (some (.boolean)) { frames := 26, cells := 0, slots := 0, locals := 592 } [.ref a0, .int x1] T O X (Ti D cs (fun r u => u = (T, O, X) ∧ 0 ≤ r.toInt ∧ r.toInt ≤ 1)) := by
  refine tk_of (by decide) (Nat.le_of_ble_eq_true rfl) (fun p e s m below meth c ls A H locs hx hb hr hml hown hts hlocks hnm hkb hH hS hA hOX hks hE hl => ?_)
  have hown : s.vm.findClass RX3 = some m.cls := hown
  have hl : lv_has ls 5 [(0, .ref a0), (1, .int x1)] := hl
  refine lv_aload_n hx hb dX3_readTruth_0 rfl (lv_at hl 0 rfl) ?_
  refine lv_iload_n hx hb dX3_readTruth_1 rfl (lv_at hl 1 rfl) ?_
  refine tk_i hH hS hA (tr_V (n := 1) (As := [.int x1]) hx hb hml hown hts hkb hH hOX hks hE hS hA (s_LR_readBoth1 l D cs kf T O X a0 x1 t_a0 (by omega) (by omega) (hO.sub (by decide))) kw_626 kw_628 ks_6 kw_4 kw_629 (by decide +kernel) ⟨Nat.le_of_ble_eq_true rfl, Nat.le_of_ble_eq_true rfl⟩ (HT.recv (ci := 3) hkb hH t_a0 (hO.no t_a0 (by decide)) rfl) rfl rfl hl.1 (Nat.le_of_ble_eq_true rfl) dX3_readTruth_2 ⟨Nat.le_of_ble_eq_true rfl, Nat.le_of_ble_eq_true rfl⟩) (fun v2 u H locs hz9 hH hS => ?_)
  obtain ⟨rfl, l_v2, u_v2⟩ := hz9
  have hH : HT D cs A T O X H := hH
  refine W.widen (k := 0) (n := 0) (Nat.le_of_ble_eq_true rfl) (Nat.le_of_ble_eq_true rfl) ?_
  refine lv_istore_n (lv' := [(2, .int v2), (0, .ref a0), (1, .int x1)]) hx hb dX3_readTruth_5 rfl hl (by decide) rfl (fun ls hl => ?_)
  refine lv_iconst (v := 0) hx hb dX3_readTruth_6 (by decide) ?_
  have J8 : ∀ (n : Nat) (p8_3 : Int32) (p8_2 : Int32) (H : Heap) (locs : List Loc) (ls : Array Slot), (900 - p8_3.toInt).toNat = n → (0 ≤ p8_3.toInt) → (p8_3.toInt ≤ 900) → (0 ≤ p8_2.toInt) → (p8_2.toInt ≤ 1) → HT D cs A T O X H → va_S A s.heap H locs → lv_has ls 5 [(3, .int p8_3), (2, .int p8_2), (0, .ref a0), (1, .int x1)] → W p l e { frames := 26, cells := 0, slots := 0, locals := 592 } s m [.ref a0, .int x1].toArray below meth c H locs 0 0 (MQ below (Ti D cs (fun r u => u = (T, O, X) ∧ 0 ≤ r.toInt ∧ r.toInt ≤ 1) A) [.ref a0, .int x1].toArray s 0 0 A) (F0 m 8 ls []) := by
    intro n
    induction n using Nat.strongRecOn with
    | _ n ih8 =>
      intro p8_3 p8_2 H locs ls hm8 l_p8_3 u_p8_3 l_p8_2 u_p8_2 hH hS hl
      refine lv_iload_n hx hb dX3_readTruth_8 rfl (lv_at hl 0 rfl) ?_
      refine lv_sipush (v := 900) hx hb dX3_readTruth_9 (by decide) ?_
      have J68 : ∀  (H : Heap) (locs : List Loc) (ls : Array Slot), HT D cs A T O X H → va_S A s.heap H locs → lv_has ls 5 [(2, .int p8_2)] → W p l e { frames := 26, cells := 0, slots := 0, locals := 592 } s m [.ref a0, .int x1].toArray below meth c H locs 0 0 (MQ below (Ti D cs (fun r u => u = (T, O, X) ∧ 0 ≤ r.toInt ∧ r.toInt ≤ 1) A) [.ref a0, .int x1].toArray s 0 0 A) (F0 m 68 ls []) := by
        intro  H locs ls  hH hS hl
        refine lv_iload_n hx hb dX3_readTruth_68 rfl (lv_at hl 0 rfl) ?_
        exact te_z hx hb hr hlocks (nar01 (by omega) (by omega)) hH hS (⟨rfl, by omega, by omega⟩) dX3_readTruth_69
      refine lv_icmp_ge (tgt := 68) hx hb dX3_readTruth_12 (by decide) (fun c12 => ?_) (fun c12 => ?_)
      · skip
        have tc12 := f_ge (k := 900) (by decide) c12
        exact J68  _ _ _  hH hS (lv_sub hl [1] rfl)
      · skip
        have tc12 := f_nge (k := 900) (by decide) c12
        refine lv_iload_n hx hb dX3_readTruth_15 rfl (lv_at hl 1 rfl) ?_
        refine lv_if_eq (tgt := 68) hx hb dX3_readTruth_16 (by decide) (fun c16 => ?_) (fun c16 => ?_)
        · skip
          have tc16 := f_eq (k := 0) (by decide) c16
          exact J68  _ _ _  hH hS (lv_sub hl [1] rfl)
        · skip
          have tc16 := f_ne (k := 0) (by decide) c16
          refine lv_aload_n hx hb dX3_readTruth_19 rfl (lv_at hl 2 rfl) ?_
          refine t_get (ci := 3) (lst := ft3 0 0) (C := RX3) (F := TX3) (N := 3) hx hb hts uX3 hown hkb hH t_a0 (hO.no t_a0 (by decide)) (fun _ h9 => h9) rfl rfl 0 (by decide) rfl kw_82 (fun _ h9 => h9) dX3_readTruth_20 (fun v9 h9 => ?_)
          obtain ⟨v20, rfl, t_v20⟩ := h9
          refine va_ldcS (q := kf.1 16) hx hb hown (hks ("FootholdWall$LawReader", 41, "or", 16) (by decide +kernel)) dX3_readTruth_23 ?_
          refine tk_i hH hS hA (tr_V (n := 1) (As := [.ref (kf.1 16)]) hx hb hml hown hts hkb hH hOX hks hE hS hA (s_Tok_isWord l D cs kf T O X v20 16 t_v20 (by decide) (hO.sub (by decide))) kw_635 kw_551 kw_552 kw_3 kw_553 (by decide +kernel) ⟨Nat.le_of_ble_eq_true rfl, Nat.le_of_ble_eq_true rfl⟩ (HT.recv (ci := 7) hkb hH t_v20 (hO.no t_v20 (by decide)) rfl) rfl rfl hl.1 (Nat.le_of_ble_eq_true rfl) dX3_readTruth_25 ⟨Nat.le_of_ble_eq_true rfl, Nat.le_of_ble_eq_true rfl⟩) (fun v25 u H locs hz9 hH hS => ?_)
          obtain ⟨rfl, l_v25, u_v25⟩ := hz9
          have hH : HT D cs A T O X H := hH
          refine W.widen (k := 0) (n := 0) (Nat.le_of_ble_eq_true rfl) (Nat.le_of_ble_eq_true rfl) ?_
          refine lv_if_eq (tgt := 68) hx hb dX3_readTruth_28 (by decide) (fun c28 => ?_) (fun c28 => ?_)
          · skip
            have tc28 := f_eq (k := 0) (by decide) c28
            exact J68  _ _ _  hH hS (lv_sub hl [1] rfl)
          · skip
            have tc28 := f_ne (k := 0) (by decide) c28
            refine lv_aload_n hx hb dX3_readTruth_31 rfl (lv_at hl 2 rfl) ?_
            refine t_get (ci := 3) (lst := ft3 0 0) (C := RX3) (F := TX3) (N := 3) hx hb hts uX3 hown hkb hH t_a0 (hO.no t_a0 (by decide)) (fun _ h9 => h9) rfl rfl 0 (by decide) rfl kw_82 (fun _ h9 => h9) dX3_readTruth_32 (fun v9 h9 => ?_)
            obtain ⟨v32, rfl, t_v32⟩ := h9
            refine tk_v hH hS hA (tr_V (n := 0) (As := []) hx hb hml hown hts hkb hH hOX hks hE hS hA (s_Tok_go l D cs kf T O X v32 t_v32 (hO.sub (by decide))) kw_641 kw_453 kw_454 kw_3 kw_455 (by decide +kernel) ⟨Nat.le_of_ble_eq_true rfl, Nat.le_of_ble_eq_true rfl⟩ (HT.recv (ci := 7) hkb hH t_v32 (hO.no t_v32 (by decide)) rfl) rfl rfl hl.1 (Nat.le_of_ble_eq_true rfl) dX3_readTruth_35 ⟨Nat.le_of_ble_eq_true rfl, Nat.le_of_ble_eq_true rfl⟩) (fun u H locs hz9 hH hS => ?_)
            have hz9 : u = (T, O, X) := hz9
            subst hz9
            have hH : HT D cs A T O X H := hH
            refine W.widen (k := 0) (n := 0) (Nat.le_of_ble_eq_true rfl) (Nat.le_of_ble_eq_true rfl) ?_
            refine lv_aload_n hx hb dX3_readTruth_38 rfl (lv_at hl 2 rfl) ?_
            refine t_get (ci := 3) (lst := ft3 0 0) (C := RX3) (F := TX3) (N := 3) hx hb hts uX3 hown hkb hH t_a0 (hO.no t_a0 (by decide)) (fun _ h9 => h9) rfl rfl 2 (by decide) rfl kw_84 (fun _ h9 => h9) dX3_readTruth_39 (fun v9 h9 => ?_)
            obtain ⟨v39, rfl, l_v39, u_v39⟩ := h9
            refine lv_istore (lv' := [(4, .int v39), (3, .int p8_3), (2, .int p8_2), (0, .ref a0), (1, .int x1)]) hx hb dX3_readTruth_42 hl (by decide) rfl (fun ls hl => ?_)
            refine lv_aload_n hx hb dX3_readTruth_44 rfl (lv_at hl 3 rfl) ?_
            refine lv_iconst (v := 4) hx hb dX3_readTruth_45 (by decide) ?_
            refine lv_iconst (v := 0) hx hb dX3_readTruth_46 (by decide) ?_
            refine tk_v hH hS hA (tr_V (n := 2) (As := [.int 4, .int 0]) hx hb hml hown hts hkb hH hOX hks hE hS hA (s_LR_put l D cs kf T O X a0 (4) (0) t_a0 (hO.sub (by decide))) kw_642 kw_644 ks_9 kw_4 kw_645 (by decide +kernel) ⟨Nat.le_of_ble_eq_true rfl, Nat.le_of_ble_eq_true rfl⟩ (HT.recv (ci := 3) hkb hH t_a0 (hO.no t_a0 (by decide)) rfl) rfl rfl hl.1 (Nat.le_of_ble_eq_true rfl) dX3_readTruth_47 ⟨Nat.le_of_ble_eq_true rfl, Nat.le_of_ble_eq_true rfl⟩) (fun u H locs hz9 hH hS => ?_)
            have hz9 : u = (T, O, X) := hz9
            subst hz9
            have hH : HT D cs A T O X H := hH
            refine W.widen (k := 0) (n := 0) (Nat.le_of_ble_eq_true rfl) (Nat.le_of_ble_eq_true rfl) ?_
            refine lv_aload_n hx hb dX3_readTruth_50 rfl (lv_at hl 3 rfl) ?_
            refine lv_iload_n hx hb dX3_readTruth_51 rfl (lv_at hl 4 rfl) ?_
            refine tk_i hH hS hA (tr_V (n := 1) (As := [.int x1]) hx hb hml hown hts hkb hH hOX hks hE hS hA (s_LR_readBoth1 l D cs kf T O X a0 x1 t_a0 (by omega) (by omega) (hO.sub (by decide))) kw_626 kw_628 ks_6 kw_4 kw_629 (by decide +kernel) ⟨Nat.le_of_ble_eq_true rfl, Nat.le_of_ble_eq_true rfl⟩ (HT.recv (ci := 3) hkb hH t_a0 (hO.no t_a0 (by decide)) rfl) rfl rfl hl.1 (Nat.le_of_ble_eq_true rfl) dX3_readTruth_52 ⟨Nat.le_of_ble_eq_true rfl, Nat.le_of_ble_eq_true rfl⟩) (fun v52 u H locs hz9 hH hS => ?_)
            obtain ⟨rfl, l_v52, u_v52⟩ := hz9
            have hH : HT D cs A T O X H := hH
            refine W.widen (k := 0) (n := 0) (Nat.le_of_ble_eq_true rfl) (Nat.le_of_ble_eq_true rfl) ?_
            refine lv_istore_n (lv' := [(2, .int v52), (4, .int v39), (3, .int p8_3), (0, .ref a0), (1, .int x1)]) hx hb dX3_readTruth_55 rfl hl (by decide) rfl (fun ls hl => ?_)
            refine lv_aload_n hx hb dX3_readTruth_56 rfl (lv_at hl 3 rfl) ?_
            refine lv_iload hx hb dX3_readTruth_57 (lv_at hl 1 rfl) ?_
            refine tk_v hH hS hA (tr_V (n := 1) (As := [.int v39]) hx hb hml hown hts hkb hH hOX hks hE hS hA (s_LR_aimSkip l D cs kf T O X a0 v39 t_a0 (hO.sub (by decide))) kw_672 kw_674 ks_14 kw_4 kw_675 (by decide +kernel) ⟨Nat.le_of_ble_eq_true rfl, Nat.le_of_ble_eq_true rfl⟩ (HT.recv (ci := 3) hkb hH t_a0 (hO.no t_a0 (by decide)) rfl) rfl rfl hl.1 (Nat.le_of_ble_eq_true rfl) dX3_readTruth_59 ⟨Nat.le_of_ble_eq_true rfl, Nat.le_of_ble_eq_true rfl⟩) (fun u H locs hz9 hH hS => ?_)
            have hz9 : u = (T, O, X) := hz9
            subst hz9
            have hH : HT D cs A T O X H := hH
            refine W.widen (k := 0) (n := 0) (Nat.le_of_ble_eq_true rfl) (Nat.le_of_ble_eq_true rfl) ?_
            obtain ⟨v62, ev62⟩ : ∃ y : Int32, y = p8_3 + 1 := ⟨_, rfl⟩
            have tv62 : v62.toInt = p8_3.toInt + (1) := by rw [ev62]; exact add_i rfl (by decide) (by omega) (by omega)
            refine lv_iinc (v := v62) (lv' := [(3, .int v62), (2, .int v52), (4, .int v39), (0, .ref a0), (1, .int x1)]) hx hb dX3_readTruth_62 hl (k := 2) rfl (by rw [ev62]; rfl) (by decide) rfl (fun ls hl => ?_)
            refine lv_goto (tgt := 8) hx hb dX3_readTruth_65 (by decide) ?_
            exact ih8 _ (by omega) v62 v52 _ _ _ rfl (by omega) (by omega) (by omega) (by omega) hH hS (lv_sub hl [0, 1, 3, 4] rfl)
  refine lv_istore_n (lv' := [(3, .int 0), (2, .int v2), (0, .ref a0), (1, .int x1)]) hx hb dX3_readTruth_7 rfl hl (by decide) rfl (fun ls hl => ?_)
  exact J8 _ 0 v2 _ _ _ rfl (by decide) (by decide) (by omega) (by omega) hH hS (lv_sub hl [0, 1, 2, 3] rfl)
set_option maxHeartbeats 4000000 in
set_option maxRecDepth 100000 in
theorem s_LR_enter0 (l : Launch) (D : va_G) (cs : CS) (kf : KF) (T : TF) (O : List Nat) (X : va_W) (a0 : Nat) (x1 : Int32) (t_a0 : T a0 = some (13, 0, 0)) (l_x1 : 0 ≤ x1.toInt) (u_x1 : x1.toInt ≤ 0) (hO : okO T O [0, 13, 17]) : TK l D cs kf yX3_enter cX3_enter 2 (some (.boolean)) { frames := 5, cells := 0, slots := 0, locals := 111 } [.ref a0, .int x1] T O X (Ti D cs (fun r u => u = (T, O, X) ∧ 1 ≤ r.toInt ∧ r.toInt ≤ 1)) := by
  refine tk_of (by decide) (Nat.le_of_ble_eq_true rfl) (fun p e s m below meth c ls A H locs hx hb hr hml hown hts hlocks hnm hkb hH hS hA hOX hks hE hl => ?_)
  have hown : s.vm.findClass RX3 = some m.cls := hown
  have hl : lv_has ls 2 [(0, .ref a0), (1, .int x1)] := hl
  refine lv_iload_n hx hb dX3_enter_0 rfl (lv_at hl 1 rfl) ?_
  refine lv_bipush (v := 6) hx hb dX3_enter_1 (by decide) ?_
  refine lv_icmp_lt (tgt := 15) hx hb dX3_enter_3 (by decide) (fun c3 => ?_) (fun c3 => ?_)
  · skip
    have tc3 := f_lt (k := 6) (by decide) c3
    refine lv_aload_n hx hb dX3_enter_15 rfl (lv_at hl 0 rfl) ?_
    refine t_get (ci := 3) (lst := ft3 0 0) (C := RX3) (F := TX3) (N := 3) hx hb hts uX3 hown hkb hH t_a0 (hO.no t_a0 (by decide)) (fun _ h9 => h9) rfl rfl 0 (by decide) rfl kw_82 (fun _ h9 => h9) dX3_enter_16 (fun v9 h9 => ?_)
    obtain ⟨v16, rfl, t_v16⟩ := h9
    refine tk_v hH hS hA (tr_V (n := 0) (As := []) hx hb hml hown hts hkb hH hOX hks hE hS hA (s_Tok_go l D cs kf T O X v16 t_v16 (hO.sub (by decide))) kw_641 kw_453 kw_454 kw_3 kw_455 (by decide +kernel) ⟨Nat.le_of_ble_eq_true rfl, Nat.le_of_ble_eq_true rfl⟩ (HT.recv (ci := 7) hkb hH t_v16 (hO.no t_v16 (by decide)) rfl) rfl rfl hl.1 (Nat.le_of_ble_eq_true rfl) dX3_enter_19 ⟨Nat.le_of_ble_eq_true rfl, Nat.le_of_ble_eq_true rfl⟩) (fun u H locs hz9 hH hS => ?_)
    have hz9 : u = (T, O, X) := hz9
    subst hz9
    have hH : HT D cs A T O X H := hH
    refine W.widen (k := 0) (n := 0) (Nat.le_of_ble_eq_true rfl) (Nat.le_of_ble_eq_true rfl) ?_
    refine lv_iconst (v := 1) hx hb dX3_enter_22 (by decide) ?_
    exact te_z hx hb hr hlocks (by rfl) hH hS (⟨rfl, by decide, by decide⟩) dX3_enter_23
  · skip
    have tc3 := f_nlt (k := 6) (by decide) c3
    exfalso; omega
set_option maxHeartbeats 4000000 in
set_option maxRecDepth 100000 in
theorem s_LR_readAtom0 (l : Launch) (D : va_G) (cs : CS) (kf : KF) (T : TF) (O : List Nat) (X : va_W) (a0 : Nat) (x1 : Int32) (t_a0 : T a0 = some (13, 0, 0)) (l_x1 : 0 ≤ x1.toInt) (u_x1 : x1.toInt ≤ 0) (hO : okO T O [0, 1, 13, 17]) : TK l D cs kf yX3_readAtom cX3_readAtom 3 (some (.boolean)) { frames := 24, cells := 0, slots := 0, locals := 541 } [.ref a0, .int x1] T O X (Ti D cs (fun r u => u = (T, O, X) ∧ 0 ≤ r.toInt ∧ r.toInt ≤ 1)) := by
  refine tk_of (by decide) (Nat.le_of_ble_eq_true rfl) (fun p e s m below meth c ls A H locs hx hb hr hml hown hts hlocks hnm hkb hH hS hA hOX hks hE hl => ?_)
  have hown : s.vm.findClass RX3 = some m.cls := hown
  have hl : lv_has ls 3 [(0, .ref a0), (1, .int x1)] := hl
  refine lv_aload_n hx hb dX3_readAtom_0 rfl (lv_at hl 0 rfl) ?_
  refine t_get (ci := 3) (lst := ft3 0 0) (C := RX3) (F := TX3) (N := 3) hx hb hts uX3 hown hkb hH t_a0 (hO.no t_a0 (by decide)) (fun _ h9 => h9) rfl rfl 0 (by decide) rfl kw_82 (fun _ h9 => h9) dX3_readAtom_1 (fun v9 h9 => ?_)
  obtain ⟨v1, rfl, t_v1⟩ := h9
  refine lv_bipush (v := 40) hx hb dX3_readAtom_4 (by decide) ?_
  refine tk_i hH hS hA (tr_V (n := 1) (As := [.int 40]) hx hb hml hown hts hkb hH hOX hks hE hS hA (s_Tok_isSign l D cs kf T O X v1 (40) t_v1 (hO.sub (by decide))) kw_646 kw_615 kw_616 kw_3 kw_617 (by decide +kernel) ⟨Nat.le_of_ble_eq_true rfl, Nat.le_of_ble_eq_true rfl⟩ (HT.recv (ci := 7) hkb hH t_v1 (hO.no t_v1 (by decide)) rfl) rfl rfl hl.1 (Nat.le_of_ble_eq_true rfl) dX3_readAtom_6 ⟨Nat.le_of_ble_eq_true rfl, Nat.le_of_ble_eq_true rfl⟩) (fun v6 u H locs hz9 hH hS => ?_)
  obtain ⟨rfl, l_v6, u_v6⟩ := hz9
  have hH : HT D cs A T O X H := hH
  refine W.widen (k := 0) (n := 0) (Nat.le_of_ble_eq_true rfl) (Nat.le_of_ble_eq_true rfl) ?_
  refine lv_if_eq (tgt := 48) hx hb dX3_readAtom_9 (by decide) (fun c9 => ?_) (fun c9 => ?_)
  · skip
    have tc9 := f_eq (k := 0) (by decide) c9
    refine lv_aload_n hx hb dX3_readAtom_48 rfl (lv_at hl 0 rfl) ?_
    refine t_get (ci := 3) (lst := ft3 0 0) (C := RX3) (F := TX3) (N := 3) hx hb hts uX3 hown hkb hH t_a0 (hO.no t_a0 (by decide)) (fun _ h9 => h9) rfl rfl 0 (by decide) rfl kw_82 (fun _ h9 => h9) dX3_readAtom_49 (fun v9 h9 => ?_)
    obtain ⟨v49, rfl, t_v49⟩ := h9
    refine t_get (ci := 7) (lst := ft7 0 0) (C := RX7) (F := TX7) (N := 8) hx hb hts uX7 hown hkb hH t_v49 (hO.no t_v49 (by decide)) (fun _ h9 => ob7_ok h9) rfl rfl 4 (by decide) rfl kw_50 (fun _ h9 => h9) dX3_readAtom_52 (fun v9 h9 => ?_)
    obtain ⟨v52, rfl⟩ := h9
    refine lv_iconst (v := 2) hx hb dX3_readAtom_55 (by decide) ?_
    refine lv_icmp_ne (tgt := 80) hx hb dX3_readAtom_56 (by decide) (fun c56 => ?_) (fun c56 => ?_)
    · skip
      have tc56 := f_ne (k := 2) (by decide) c56
      refine lv_aload_n hx hb dX3_readAtom_80 rfl (lv_at hl 0 rfl) ?_
      refine tk_i hH hS hA (tr_V (n := 0) (As := []) hx hb hml hown hts hkb hH hOX hks hE hS hA (s_LR_factHere l D cs kf T O X a0 t_a0 (hO.sub (by decide))) kw_660 kw_662 ks_13 kw_4 kw_663 (by decide +kernel) ⟨Nat.le_of_ble_eq_true rfl, Nat.le_of_ble_eq_true rfl⟩ (HT.recv (ci := 3) hkb hH t_a0 (hO.no t_a0 (by decide)) rfl) rfl rfl hl.1 (Nat.le_of_ble_eq_true rfl) dX3_readAtom_81 ⟨Nat.le_of_ble_eq_true rfl, Nat.le_of_ble_eq_true rfl⟩) (fun v81 u H locs hz9 hH hS => ?_)
      obtain ⟨rfl, l_v81, u_v81⟩ := hz9
      have hH : HT D cs A T O X H := hH
      refine W.widen (k := 0) (n := 0) (Nat.le_of_ble_eq_true rfl) (Nat.le_of_ble_eq_true rfl) ?_
      refine lv_istore_n (lv' := [(2, .int v81), (0, .ref a0), (1, .int x1)]) hx hb dX3_readAtom_84 rfl hl (by decide) rfl (fun ls hl => ?_)
      refine lv_iload_n hx hb dX3_readAtom_85 rfl (lv_at hl 0 rfl) ?_
      refine lv_iconst (v := (-1)) hx hb dX3_readAtom_86 (by decide) ?_
      refine lv_icmp_ne (tgt := 99) hx hb dX3_readAtom_87 (by decide) (fun c87 => ?_) (fun c87 => ?_)
      · skip
        have tc87 := f_ne (k := -1) (by decide) c87
        refine lv_aload_n hx hb dX3_readAtom_99 rfl (lv_at hl 1 rfl) ?_
        refine lv_iconst (v := 1) hx hb dX3_readAtom_100 (by decide) ?_
        refine lv_iload_n hx hb dX3_readAtom_101 rfl (lv_at hl 0 rfl) ?_
        refine tk_v hH hS hA (tr_V (n := 2) (As := [.int 1, .int v81]) hx hb hml hown hts hkb hH hOX hks hE hS hA (s_LR_put l D cs kf T O X a0 (1) v81 t_a0 (hO.sub (by decide))) kw_642 kw_644 ks_9 kw_4 kw_645 (by decide +kernel) ⟨Nat.le_of_ble_eq_true rfl, Nat.le_of_ble_eq_true rfl⟩ (HT.recv (ci := 3) hkb hH t_a0 (hO.no t_a0 (by decide)) rfl) rfl rfl hl.1 (Nat.le_of_ble_eq_true rfl) dX3_readAtom_102 ⟨Nat.le_of_ble_eq_true rfl, Nat.le_of_ble_eq_true rfl⟩) (fun u H locs hz9 hH hS => ?_)
        have hz9 : u = (T, O, X) := hz9
        subst hz9
        have hH : HT D cs A T O X H := hH
        refine W.widen (k := 0) (n := 0) (Nat.le_of_ble_eq_true rfl) (Nat.le_of_ble_eq_true rfl) ?_
        refine lv_aload_n hx hb dX3_readAtom_105 rfl (lv_at hl 1 rfl) ?_
        refine t_get (ci := 3) (lst := ft3 0 0) (C := RX3) (F := TX3) (N := 3) hx hb hts uX3 hown hkb hH t_a0 (hO.no t_a0 (by decide)) (fun _ h9 => h9) rfl rfl 0 (by decide) rfl kw_82 (fun _ h9 => h9) dX3_readAtom_106 (fun v9 h9 => ?_)
        obtain ⟨v106, rfl, t_v106⟩ := h9
        refine tk_v hH hS hA (tr_V (n := 0) (As := []) hx hb hml hown hts hkb hH hOX hks hE hS hA (s_Tok_go l D cs kf T O X v106 t_v106 (hO.sub (by decide))) kw_641 kw_453 kw_454 kw_3 kw_455 (by decide +kernel) ⟨Nat.le_of_ble_eq_true rfl, Nat.le_of_ble_eq_true rfl⟩ (HT.recv (ci := 7) hkb hH t_v106 (hO.no t_v106 (by decide)) rfl) rfl rfl hl.1 (Nat.le_of_ble_eq_true rfl) dX3_readAtom_109 ⟨Nat.le_of_ble_eq_true rfl, Nat.le_of_ble_eq_true rfl⟩) (fun u H locs hz9 hH hS => ?_)
        have hz9 : u = (T, O, X) := hz9
        subst hz9
        have hH : HT D cs A T O X H := hH
        refine W.widen (k := 0) (n := 0) (Nat.le_of_ble_eq_true rfl) (Nat.le_of_ble_eq_true rfl) ?_
        refine lv_iconst (v := 1) hx hb dX3_readAtom_112 (by decide) ?_
        exact te_z hx hb hr hlocks (by rfl) hH hS (⟨rfl, by decide, by decide⟩) dX3_readAtom_113
      · skip
        have tc87 := f_eq (k := -1) (by decide) c87
        refine lv_aload_n hx hb dX3_readAtom_90 rfl (lv_at hl 1 rfl) ?_
        refine t_get (ci := 3) (lst := ft3 0 0) (C := RX3) (F := TX3) (N := 3) hx hb hts uX3 hown hkb hH t_a0 (hO.no t_a0 (by decide)) (fun _ h9 => h9) rfl rfl 0 (by decide) rfl kw_82 (fun _ h9 => h9) dX3_readAtom_91 (fun v9 h9 => ?_)
        obtain ⟨v91, rfl, t_v91⟩ := h9
        refine lv_iconst (v := 2) hx hb dX3_readAtom_94 (by decide) ?_
        refine tk_i hH hS hA (tr_V (n := 1) (As := [.int 2]) hx hb hml hown hts hkb hH hOX hks hE hS hA (s_Tok_refuse l D cs kf T O X v91 (2) t_v91 (hO.sub (by decide))) kw_640 kw_580 kw_581 kw_3 kw_582 (by decide +kernel) ⟨Nat.le_of_ble_eq_true rfl, Nat.le_of_ble_eq_true rfl⟩ (HT.recv (ci := 7) hkb hH t_v91 (hO.no t_v91 (by decide)) rfl) rfl rfl hl.1 (Nat.le_of_ble_eq_true rfl) dX3_readAtom_95 ⟨Nat.le_of_ble_eq_true rfl, Nat.le_of_ble_eq_true rfl⟩) (fun v95 u H locs hz9 hH hS => ?_)
        obtain ⟨rfl, l_v95, u_v95⟩ := hz9
        have hH : HT D cs A T O X H := hH
        refine W.widen (k := 0) (n := 0) (Nat.le_of_ble_eq_true rfl) (Nat.le_of_ble_eq_true rfl) ?_
        exact te_z hx hb hr hlocks (nar01 (by omega) (by omega)) hH hS (⟨rfl, by omega, by omega⟩) dX3_readAtom_98
    · skip
      have tc56 := f_eq (k := 2) (by decide) c56
      refine lv_aload_n hx hb dX3_readAtom_59 rfl (lv_at hl 0 rfl) ?_
      refine lv_iconst (v := 0) hx hb dX3_readAtom_60 (by decide) ?_
      refine lv_aload_n hx hb dX3_readAtom_61 rfl (lv_at hl 0 rfl) ?_
      refine t_get (ci := 3) (lst := ft3 0 0) (C := RX3) (F := TX3) (N := 3) hx hb hts uX3 hown hkb hH t_a0 (hO.no t_a0 (by decide)) (fun _ h9 => h9) rfl rfl 0 (by decide) rfl kw_82 (fun _ h9 => h9) dX3_readAtom_62 (fun v9 h9 => ?_)
      obtain ⟨v62, rfl, t_v62⟩ := h9
      refine t_get (ci := 7) (lst := ft7 0 0) (C := RX7) (F := TX7) (N := 8) hx hb hts uX7 hown hkb hH t_v62 (hO.no t_v62 (by decide)) (fun _ h9 => ob7_ok h9) rfl rfl 5 (by decide) rfl kw_53 (fun _ h9 => h9) dX3_readAtom_65 (fun v9 h9 => ?_)
      obtain ⟨v65, rfl⟩ := h9
      refine tk_v hH hS hA (tr_V (n := 2) (As := [.int 0, .int v65]) hx hb hml hown hts hkb hH hOX hks hE hS hA (s_LR_put l D cs kf T O X a0 (0) v65 t_a0 (hO.sub (by decide))) kw_642 kw_644 ks_9 kw_4 kw_645 (by decide +kernel) ⟨Nat.le_of_ble_eq_true rfl, Nat.le_of_ble_eq_true rfl⟩ (HT.recv (ci := 3) hkb hH t_a0 (hO.no t_a0 (by decide)) rfl) rfl rfl hl.1 (Nat.le_of_ble_eq_true rfl) dX3_readAtom_68 ⟨Nat.le_of_ble_eq_true rfl, Nat.le_of_ble_eq_true rfl⟩) (fun u H locs hz9 hH hS => ?_)
      have hz9 : u = (T, O, X) := hz9
      subst hz9
      have hH : HT D cs A T O X H := hH
      refine W.widen (k := 0) (n := 0) (Nat.le_of_ble_eq_true rfl) (Nat.le_of_ble_eq_true rfl) ?_
      refine lv_aload_n hx hb dX3_readAtom_71 rfl (lv_at hl 0 rfl) ?_
      refine t_get (ci := 3) (lst := ft3 0 0) (C := RX3) (F := TX3) (N := 3) hx hb hts uX3 hown hkb hH t_a0 (hO.no t_a0 (by decide)) (fun _ h9 => h9) rfl rfl 0 (by decide) rfl kw_82 (fun _ h9 => h9) dX3_readAtom_72 (fun v9 h9 => ?_)
      obtain ⟨v72, rfl, t_v72⟩ := h9
      refine tk_v hH hS hA (tr_V (n := 0) (As := []) hx hb hml hown hts hkb hH hOX hks hE hS hA (s_Tok_go l D cs kf T O X v72 t_v72 (hO.sub (by decide))) kw_641 kw_453 kw_454 kw_3 kw_455 (by decide +kernel) ⟨Nat.le_of_ble_eq_true rfl, Nat.le_of_ble_eq_true rfl⟩ (HT.recv (ci := 7) hkb hH t_v72 (hO.no t_v72 (by decide)) rfl) rfl rfl hl.1 (Nat.le_of_ble_eq_true rfl) dX3_readAtom_75 ⟨Nat.le_of_ble_eq_true rfl, Nat.le_of_ble_eq_true rfl⟩) (fun u H locs hz9 hH hS => ?_)
      have hz9 : u = (T, O, X) := hz9
      subst hz9
      have hH : HT D cs A T O X H := hH
      refine W.widen (k := 0) (n := 0) (Nat.le_of_ble_eq_true rfl) (Nat.le_of_ble_eq_true rfl) ?_
      refine lv_iconst (v := 1) hx hb dX3_readAtom_78 (by decide) ?_
      exact te_z hx hb hr hlocks (by rfl) hH hS (⟨rfl, by decide, by decide⟩) dX3_readAtom_79
  · skip
    have tc9 := f_ne (k := 0) (by decide) c9
    refine lv_aload_n hx hb dX3_readAtom_12 rfl (lv_at hl 0 rfl) ?_
    refine lv_iload_n hx hb dX3_readAtom_13 rfl (lv_at hl 1 rfl) ?_
    refine tk_i hH hS hA (tr_V (n := 1) (As := [.int x1]) hx hb hml hown hts hkb hH hOX hks hE hS hA (s_LR_enter0 l D cs kf T O X a0 x1 t_a0 (by omega) (by omega) (hO.sub (by decide))) kw_636 kw_638 ks_8 kw_4 kw_639 (by decide +kernel) ⟨Nat.le_of_ble_eq_true rfl, Nat.le_of_ble_eq_true rfl⟩ (HT.recv (ci := 3) hkb hH t_a0 (hO.no t_a0 (by decide)) rfl) rfl rfl hl.1 (Nat.le_of_ble_eq_true rfl) dX3_readAtom_14 ⟨Nat.le_of_ble_eq_true rfl, Nat.le_of_ble_eq_true rfl⟩) (fun v14 u H locs hz9 hH hS => ?_)
    obtain ⟨rfl, l_v14, u_v14⟩ := hz9
    have hH : HT D cs A T O X H := hH
    refine W.widen (k := 0) (n := 0) (Nat.le_of_ble_eq_true rfl) (Nat.le_of_ble_eq_true rfl) ?_
    refine lv_if_eq (tgt := 46) hx hb dX3_readAtom_17 (by decide) (fun c17 => ?_) (fun c17 => ?_)
    · skip
      have tc17 := f_eq (k := 0) (by decide) c17
      exfalso; omega
    · skip
      have tc17 := f_ne (k := 0) (by decide) c17
      refine lv_aload_n hx hb dX3_readAtom_20 rfl (lv_at hl 0 rfl) ?_
      refine lv_iload_n hx hb dX3_readAtom_21 rfl (lv_at hl 1 rfl) ?_
      refine lv_iconst (v := 1) hx hb dX3_readAtom_22 (by decide) ?_
      refine lv_iadd hx hb dX3_readAtom_23 ?_
      refine lv_topi (fun v23 ev23 => ?_)
      have tv23 : v23.toInt = x1.toInt + (1) := by rw [ev23]; exact add_i rfl (by decide : (1 : Int32).toInt = 1) (by omega) (by omega)
      refine tk_i hH hS hA (tr_V (n := 1) (As := [.int v23]) hx hb hml hown hts hkb hH hOX hks hE hS hA (s_LR_readSum1 l D cs kf T O X a0 v23 t_a0 (by omega) (by omega) (hO.sub (by decide))) kw_648 kw_650 ks_10 kw_4 kw_651 (by decide +kernel) ⟨Nat.le_of_ble_eq_true rfl, Nat.le_of_ble_eq_true rfl⟩ (HT.recv (ci := 3) hkb hH t_a0 (hO.no t_a0 (by decide)) rfl) rfl rfl hl.1 (Nat.le_of_ble_eq_true rfl) dX3_readAtom_24 ⟨Nat.le_of_ble_eq_true rfl, Nat.le_of_ble_eq_true rfl⟩) (fun v24 u H locs hz9 hH hS => ?_)
      obtain ⟨rfl, l_v24, u_v24⟩ := hz9
      have hH : HT D cs A T O X H := hH
      refine W.widen (k := 0) (n := 0) (Nat.le_of_ble_eq_true rfl) (Nat.le_of_ble_eq_true rfl) ?_
      have J47 : ∀ (k47_0 : Int32) (H : Heap) (locs : List Loc) (ls : Array Slot), (0 ≤ k47_0.toInt) → (k47_0.toInt ≤ 1) → HT D cs A T O X H → va_S A s.heap H locs → lv_has ls 3 [] → W p l e { frames := 24, cells := 0, slots := 0, locals := 541 } s m [.ref a0, .int x1].toArray below meth c H locs 0 0 (MQ below (Ti D cs (fun r u => u = (T, O, X) ∧ 0 ≤ r.toInt ∧ r.toInt ≤ 1) A) [.ref a0, .int x1].toArray s 0 0 A) (F0 m 47 ls [.int k47_0]) := by
        intro k47_0 H locs ls l_k47_0 u_k47_0 hH hS hl
        exact te_z hx hb hr hlocks (nar01 (by omega) (by omega)) hH hS (⟨rfl, by omega, by omega⟩) dX3_readAtom_47
      have J46 : ∀  (H : Heap) (locs : List Loc) (ls : Array Slot), HT D cs A T O X H → va_S A s.heap H locs → lv_has ls 3 [] → W p l e { frames := 24, cells := 0, slots := 0, locals := 541 } s m [.ref a0, .int x1].toArray below meth c H locs 0 0 (MQ below (Ti D cs (fun r u => u = (T, O, X) ∧ 0 ≤ r.toInt ∧ r.toInt ≤ 1) A) [.ref a0, .int x1].toArray s 0 0 A) (F0 m 46 ls []) := by
        intro  H locs ls  hH hS hl
        refine lv_iconst (v := 0) hx hb dX3_readAtom_46 (by decide) ?_
        exact J47 0 _ _ _ (by decide) (by decide) hH hS (lv_sub hl [] rfl)
      refine lv_if_eq (tgt := 46) hx hb dX3_readAtom_27 (by decide) (fun c27 => ?_) (fun c27 => ?_)
      · skip
        have tc27 := f_eq (k := 0) (by decide) c27
        exact J46  _ _ _  hH hS (lv_sub hl [] rfl)
      · skip
        have tc27 := f_ne (k := 0) (by decide) c27
        refine lv_aload_n hx hb dX3_readAtom_30 rfl (lv_at hl 0 rfl) ?_
        refine t_get (ci := 3) (lst := ft3 0 0) (C := RX3) (F := TX3) (N := 3) hx hb hts uX3 hown hkb hH t_a0 (hO.no t_a0 (by decide)) (fun _ h9 => h9) rfl rfl 0 (by decide) rfl kw_82 (fun _ h9 => h9) dX3_readAtom_31 (fun v9 h9 => ?_)
        obtain ⟨v31, rfl, t_v31⟩ := h9
        refine lv_bipush (v := 41) hx hb dX3_readAtom_34 (by decide) ?_
        refine tk_i hH hS hA (tr_V (n := 1) (As := [.int 41]) hx hb hml hown hts hkb hH hOX hks hE hS hA (s_Tok_takeSign l D cs kf T O X v31 (41) t_v31 (hO.sub (by decide))) kw_647 kw_611 kw_612 kw_3 kw_613 (by decide +kernel) ⟨Nat.le_of_ble_eq_true rfl, Nat.le_of_ble_eq_true rfl⟩ (HT.recv (ci := 7) hkb hH t_v31 (hO.no t_v31 (by decide)) rfl) rfl rfl hl.1 (Nat.le_of_ble_eq_true rfl) dX3_readAtom_36 ⟨Nat.le_of_ble_eq_true rfl, Nat.le_of_ble_eq_true rfl⟩) (fun v36 u H locs hz9 hH hS => ?_)
        obtain ⟨rfl, l_v36, u_v36⟩ := hz9
        have hH : HT D cs A T O X H := hH
        refine W.widen (k := 0) (n := 0) (Nat.le_of_ble_eq_true rfl) (Nat.le_of_ble_eq_true rfl) ?_
        refine lv_if_eq (tgt := 46) hx hb dX3_readAtom_39 (by decide) (fun c39 => ?_) (fun c39 => ?_)
        · skip
          have tc39 := f_eq (k := 0) (by decide) c39
          exact J46  _ _ _  hH hS (lv_sub hl [] rfl)
        · skip
          have tc39 := f_ne (k := 0) (by decide) c39
          refine lv_iconst (v := 1) hx hb dX3_readAtom_42 (by decide) ?_
          refine lv_goto (tgt := 47) hx hb dX3_readAtom_43 (by decide) ?_
          exact J47 1 _ _ _ (by decide) (by decide) hH hS (lv_sub hl [] rfl)
set_option maxHeartbeats 4000000 in
set_option maxRecDepth 100000 in
theorem s_LR_readTerm0 (l : Launch) (D : va_G) (cs : CS) (kf : KF) (T : TF) (O : List Nat) (X : va_W) (a0 : Nat) (x1 : Int32) (t_a0 : T a0 = some (13, 0, 0)) (l_x1 : 0 ≤ x1.toInt) (u_x1 : x1.toInt ≤ 0) (hO : okO T O [0, 1, 13, 17]) : TK l D cs kf yX3_readTerm cX3_readTerm 4 (some (.boolean)) { frames := 25, cells := 0, slots := 0, locals := 563 } [.ref a0, .int x1] T O X (Ti D cs (fun r u => u = (T, O, X) ∧ 0 ≤ r.toInt ∧ r.toInt ≤ 1)) := by
  refine tk_of (by decide) (Nat.le_of_ble_eq_true rfl) (fun p e s m below meth c ls A H locs hx hb hr hml hown hts hlocks hnm hkb hH hS hA hOX hks hE hl => ?_)
  have hown : s.vm.findClass RX3 = some m.cls := hown
  have hl : lv_has ls 4 [(0, .ref a0), (1, .int x1)] := hl
  refine lv_aload_n hx hb dX3_readTerm_0 rfl (lv_at hl 0 rfl) ?_
  refine lv_iload_n hx hb dX3_readTerm_1 rfl (lv_at hl 1 rfl) ?_
  refine tk_i hH hS hA (tr_V (n := 1) (As := [.int x1]) hx hb hml hown hts hkb hH hOX hks hE hS hA (s_LR_readAtom0 l D cs kf T O X a0 x1 t_a0 (by omega) (by omega) (hO.sub (by decide))) kw_656 kw_658 ks_12 kw_4 kw_659 (by decide +kernel) ⟨Nat.le_of_ble_eq_true rfl, Nat.le_of_ble_eq_true rfl⟩ (HT.recv (ci := 3) hkb hH t_a0 (hO.no t_a0 (by decide)) rfl) rfl rfl hl.1 (Nat.le_of_ble_eq_true rfl) dX3_readTerm_2 ⟨Nat.le_of_ble_eq_true rfl, Nat.le_of_ble_eq_true rfl⟩) (fun v2 u H locs hz9 hH hS => ?_)
  obtain ⟨rfl, l_v2, u_v2⟩ := hz9
  have hH : HT D cs A T O X H := hH
  refine W.widen (k := 0) (n := 0) (Nat.le_of_ble_eq_true rfl) (Nat.le_of_ble_eq_true rfl) ?_
  refine lv_istore_n (lv' := [(2, .int v2), (0, .ref a0), (1, .int x1)]) hx hb dX3_readTerm_5 rfl hl (by decide) rfl (fun ls hl => ?_)
  refine lv_iconst (v := 0) hx hb dX3_readTerm_6 (by decide) ?_
  have J8 : ∀ (n : Nat) (p8_3 : Int32) (p8_2 : Int32) (H : Heap) (locs : List Loc) (ls : Array Slot), (900 - p8_3.toInt).toNat = n → (0 ≤ p8_3.toInt) → (p8_3.toInt ≤ 900) → (0 ≤ p8_2.toInt) → (p8_2.toInt ≤ 1) → HT D cs A T O X H → va_S A s.heap H locs → lv_has ls 4 [(3, .int p8_3), (2, .int p8_2), (0, .ref a0), (1, .int x1)] → W p l e { frames := 25, cells := 0, slots := 0, locals := 563 } s m [.ref a0, .int x1].toArray below meth c H locs 0 0 (MQ below (Ti D cs (fun r u => u = (T, O, X) ∧ 0 ≤ r.toInt ∧ r.toInt ≤ 1) A) [.ref a0, .int x1].toArray s 0 0 A) (F0 m 8 ls []) := by
    intro n
    induction n using Nat.strongRecOn with
    | _ n ih8 =>
      intro p8_3 p8_2 H locs ls hm8 l_p8_3 u_p8_3 l_p8_2 u_p8_2 hH hS hl
      refine lv_iload_n hx hb dX3_readTerm_8 rfl (lv_at hl 0 rfl) ?_
      refine lv_sipush (v := 900) hx hb dX3_readTerm_9 (by decide) ?_
      have J57 : ∀  (H : Heap) (locs : List Loc) (ls : Array Slot), HT D cs A T O X H → va_S A s.heap H locs → lv_has ls 4 [(2, .int p8_2)] → W p l e { frames := 25, cells := 0, slots := 0, locals := 563 } s m [.ref a0, .int x1].toArray below meth c H locs 0 0 (MQ below (Ti D cs (fun r u => u = (T, O, X) ∧ 0 ≤ r.toInt ∧ r.toInt ≤ 1) A) [.ref a0, .int x1].toArray s 0 0 A) (F0 m 57 ls []) := by
        intro  H locs ls  hH hS hl
        refine lv_iload_n hx hb dX3_readTerm_57 rfl (lv_at hl 0 rfl) ?_
        exact te_z hx hb hr hlocks (nar01 (by omega) (by omega)) hH hS (⟨rfl, by omega, by omega⟩) dX3_readTerm_58
      refine lv_icmp_ge (tgt := 57) hx hb dX3_readTerm_12 (by decide) (fun c12 => ?_) (fun c12 => ?_)
      · skip
        have tc12 := f_ge (k := 900) (by decide) c12
        exact J57  _ _ _  hH hS (lv_sub hl [1] rfl)
      · skip
        have tc12 := f_nge (k := 900) (by decide) c12
        refine lv_iload_n hx hb dX3_readTerm_15 rfl (lv_at hl 1 rfl) ?_
        refine lv_if_eq (tgt := 57) hx hb dX3_readTerm_16 (by decide) (fun c16 => ?_) (fun c16 => ?_)
        · skip
          have tc16 := f_eq (k := 0) (by decide) c16
          exact J57  _ _ _  hH hS (lv_sub hl [1] rfl)
        · skip
          have tc16 := f_ne (k := 0) (by decide) c16
          refine lv_aload_n hx hb dX3_readTerm_19 rfl (lv_at hl 2 rfl) ?_
          refine t_get (ci := 3) (lst := ft3 0 0) (C := RX3) (F := TX3) (N := 3) hx hb hts uX3 hown hkb hH t_a0 (hO.no t_a0 (by decide)) (fun _ h9 => h9) rfl rfl 0 (by decide) rfl kw_82 (fun _ h9 => h9) dX3_readTerm_20 (fun v9 h9 => ?_)
          obtain ⟨v20, rfl, t_v20⟩ := h9
          refine lv_bipush (v := 42) hx hb dX3_readTerm_23 (by decide) ?_
          refine tk_i hH hS hA (tr_V (n := 1) (As := [.int 42]) hx hb hml hown hts hkb hH hOX hks hE hS hA (s_Tok_isSign l D cs kf T O X v20 (42) t_v20 (hO.sub (by decide))) kw_646 kw_615 kw_616 kw_3 kw_617 (by decide +kernel) ⟨Nat.le_of_ble_eq_true rfl, Nat.le_of_ble_eq_true rfl⟩ (HT.recv (ci := 7) hkb hH t_v20 (hO.no t_v20 (by decide)) rfl) rfl rfl hl.1 (Nat.le_of_ble_eq_true rfl) dX3_readTerm_25 ⟨Nat.le_of_ble_eq_true rfl, Nat.le_of_ble_eq_true rfl⟩) (fun v25 u H locs hz9 hH hS => ?_)
          obtain ⟨rfl, l_v25, u_v25⟩ := hz9
          have hH : HT D cs A T O X H := hH
          refine W.widen (k := 0) (n := 0) (Nat.le_of_ble_eq_true rfl) (Nat.le_of_ble_eq_true rfl) ?_
          refine lv_if_eq (tgt := 57) hx hb dX3_readTerm_28 (by decide) (fun c28 => ?_) (fun c28 => ?_)
          · skip
            have tc28 := f_eq (k := 0) (by decide) c28
            exact J57  _ _ _  hH hS (lv_sub hl [1] rfl)
          · skip
            have tc28 := f_ne (k := 0) (by decide) c28
            refine lv_aload_n hx hb dX3_readTerm_31 rfl (lv_at hl 2 rfl) ?_
            refine t_get (ci := 3) (lst := ft3 0 0) (C := RX3) (F := TX3) (N := 3) hx hb hts uX3 hown hkb hH t_a0 (hO.no t_a0 (by decide)) (fun _ h9 => h9) rfl rfl 0 (by decide) rfl kw_82 (fun _ h9 => h9) dX3_readTerm_32 (fun v9 h9 => ?_)
            obtain ⟨v32, rfl, t_v32⟩ := h9
            refine tk_v hH hS hA (tr_V (n := 0) (As := []) hx hb hml hown hts hkb hH hOX hks hE hS hA (s_Tok_go l D cs kf T O X v32 t_v32 (hO.sub (by decide))) kw_641 kw_453 kw_454 kw_3 kw_455 (by decide +kernel) ⟨Nat.le_of_ble_eq_true rfl, Nat.le_of_ble_eq_true rfl⟩ (HT.recv (ci := 7) hkb hH t_v32 (hO.no t_v32 (by decide)) rfl) rfl rfl hl.1 (Nat.le_of_ble_eq_true rfl) dX3_readTerm_35 ⟨Nat.le_of_ble_eq_true rfl, Nat.le_of_ble_eq_true rfl⟩) (fun u H locs hz9 hH hS => ?_)
            have hz9 : u = (T, O, X) := hz9
            subst hz9
            have hH : HT D cs A T O X H := hH
            refine W.widen (k := 0) (n := 0) (Nat.le_of_ble_eq_true rfl) (Nat.le_of_ble_eq_true rfl) ?_
            refine lv_aload_n hx hb dX3_readTerm_38 rfl (lv_at hl 2 rfl) ?_
            refine lv_iload_n hx hb dX3_readTerm_39 rfl (lv_at hl 3 rfl) ?_
            refine tk_i hH hS hA (tr_V (n := 1) (As := [.int x1]) hx hb hml hown hts hkb hH hOX hks hE hS hA (s_LR_readAtom0 l D cs kf T O X a0 x1 t_a0 (by omega) (by omega) (hO.sub (by decide))) kw_656 kw_658 ks_12 kw_4 kw_659 (by decide +kernel) ⟨Nat.le_of_ble_eq_true rfl, Nat.le_of_ble_eq_true rfl⟩ (HT.recv (ci := 3) hkb hH t_a0 (hO.no t_a0 (by decide)) rfl) rfl rfl hl.1 (Nat.le_of_ble_eq_true rfl) dX3_readTerm_40 ⟨Nat.le_of_ble_eq_true rfl, Nat.le_of_ble_eq_true rfl⟩) (fun v40 u H locs hz9 hH hS => ?_)
            obtain ⟨rfl, l_v40, u_v40⟩ := hz9
            have hH : HT D cs A T O X H := hH
            refine W.widen (k := 0) (n := 0) (Nat.le_of_ble_eq_true rfl) (Nat.le_of_ble_eq_true rfl) ?_
            refine lv_istore_n (lv' := [(2, .int v40), (3, .int p8_3), (0, .ref a0), (1, .int x1)]) hx hb dX3_readTerm_43 rfl hl (by decide) rfl (fun ls hl => ?_)
            refine lv_aload_n hx hb dX3_readTerm_44 rfl (lv_at hl 2 rfl) ?_
            refine lv_bipush (v := 7) hx hb dX3_readTerm_45 (by decide) ?_
            refine lv_iconst (v := 0) hx hb dX3_readTerm_47 (by decide) ?_
            refine tk_v hH hS hA (tr_V (n := 2) (As := [.int 7, .int 0]) hx hb hml hown hts hkb hH hOX hks hE hS hA (s_LR_put l D cs kf T O X a0 (7) (0) t_a0 (hO.sub (by decide))) kw_642 kw_644 ks_9 kw_4 kw_645 (by decide +kernel) ⟨Nat.le_of_ble_eq_true rfl, Nat.le_of_ble_eq_true rfl⟩ (HT.recv (ci := 3) hkb hH t_a0 (hO.no t_a0 (by decide)) rfl) rfl rfl hl.1 (Nat.le_of_ble_eq_true rfl) dX3_readTerm_48 ⟨Nat.le_of_ble_eq_true rfl, Nat.le_of_ble_eq_true rfl⟩) (fun u H locs hz9 hH hS => ?_)
            have hz9 : u = (T, O, X) := hz9
            subst hz9
            have hH : HT D cs A T O X H := hH
            refine W.widen (k := 0) (n := 0) (Nat.le_of_ble_eq_true rfl) (Nat.le_of_ble_eq_true rfl) ?_
            obtain ⟨v51, ev51⟩ : ∃ y : Int32, y = p8_3 + 1 := ⟨_, rfl⟩
            have tv51 : v51.toInt = p8_3.toInt + (1) := by rw [ev51]; exact add_i rfl (by decide) (by omega) (by omega)
            refine lv_iinc (v := v51) (lv' := [(3, .int v51), (2, .int v40), (0, .ref a0), (1, .int x1)]) hx hb dX3_readTerm_51 hl (k := 1) rfl (by rw [ev51]; rfl) (by decide) rfl (fun ls hl => ?_)
            refine lv_goto (tgt := 8) hx hb dX3_readTerm_54 (by decide) ?_
            exact ih8 _ (by omega) v51 v40 _ _ _ rfl (by omega) (by omega) (by omega) (by omega) hH hS (lv_sub hl [0, 1, 2, 3] rfl)
  refine lv_istore_n (lv' := [(3, .int 0), (2, .int v2), (0, .ref a0), (1, .int x1)]) hx hb dX3_readTerm_7 rfl hl (by decide) rfl (fun ls hl => ?_)
  exact J8 _ 0 v2 _ _ _ rfl (by decide) (by decide) (by omega) (by omega) hH hS (lv_sub hl [0, 1, 2, 3] rfl)
set_option maxHeartbeats 4000000 in
set_option maxRecDepth 100000 in
theorem s_LR_readSum0 (l : Launch) (D : va_G) (cs : CS) (kf : KF) (T : TF) (O : List Nat) (X : va_W) (a0 : Nat) (x1 : Int32) (t_a0 : T a0 = some (13, 0, 0)) (l_x1 : 0 ≤ x1.toInt) (u_x1 : x1.toInt ≤ 0) (hO : okO T O [0, 1, 13, 17]) : TK l D cs kf yX3_readSum cX3_readSum 5 (some (.boolean)) { frames := 26, cells := 0, slots := 0, locals := 586 } [.ref a0, .int x1] T O X (Ti D cs (fun r u => u = (T, O, X) ∧ 0 ≤ r.toInt ∧ r.toInt ≤ 1)) := by
  refine tk_of (by decide) (Nat.le_of_ble_eq_true rfl) (fun p e s m below meth c ls A H locs hx hb hr hml hown hts hlocks hnm hkb hH hS hA hOX hks hE hl => ?_)
  have hown : s.vm.findClass RX3 = some m.cls := hown
  have hl : lv_has ls 5 [(0, .ref a0), (1, .int x1)] := hl
  refine lv_aload_n hx hb dX3_readSum_0 rfl (lv_at hl 0 rfl) ?_
  refine lv_iload_n hx hb dX3_readSum_1 rfl (lv_at hl 1 rfl) ?_
  refine tk_i hH hS hA (tr_V (n := 1) (As := [.int x1]) hx hb hml hown hts hkb hH hOX hks hE hS hA (s_LR_readTerm0 l D cs kf T O X a0 x1 t_a0 (by omega) (by omega) (hO.sub (by decide))) kw_652 kw_654 ks_11 kw_4 kw_655 (by decide +kernel) ⟨Nat.le_of_ble_eq_true rfl, Nat.le_of_ble_eq_true rfl⟩ (HT.recv (ci := 3) hkb hH t_a0 (hO.no t_a0 (by decide)) rfl) rfl rfl hl.1 (Nat.le_of_ble_eq_true rfl) dX3_readSum_2 ⟨Nat.le_of_ble_eq_true rfl, Nat.le_of_ble_eq_true rfl⟩) (fun v2 u H locs hz9 hH hS => ?_)
  obtain ⟨rfl, l_v2, u_v2⟩ := hz9
  have hH : HT D cs A T O X H := hH
  refine W.widen (k := 0) (n := 0) (Nat.le_of_ble_eq_true rfl) (Nat.le_of_ble_eq_true rfl) ?_
  refine lv_istore_n (lv' := [(2, .int v2), (0, .ref a0), (1, .int x1)]) hx hb dX3_readSum_5 rfl hl (by decide) rfl (fun ls hl => ?_)
  refine lv_iconst (v := 0) hx hb dX3_readSum_6 (by decide) ?_
  have J8 : ∀ (n : Nat) (p8_3 : Int32) (p8_2 : Int32) (H : Heap) (locs : List Loc) (ls : Array Slot), (900 - p8_3.toInt).toNat = n → (0 ≤ p8_3.toInt) → (p8_3.toInt ≤ 900) → (0 ≤ p8_2.toInt) → (p8_2.toInt ≤ 1) → HT D cs A T O X H → va_S A s.heap H locs → lv_has ls 5 [(3, .int p8_3), (2, .int p8_2), (0, .ref a0), (1, .int x1)] → W p l e { frames := 26, cells := 0, slots := 0, locals := 586 } s m [.ref a0, .int x1].toArray below meth c H locs 0 0 (MQ below (Ti D cs (fun r u => u = (T, O, X) ∧ 0 ≤ r.toInt ∧ r.toInt ≤ 1) A) [.ref a0, .int x1].toArray s 0 0 A) (F0 m 8 ls []) := by
    intro n
    induction n using Nat.strongRecOn with
    | _ n ih8 =>
      intro p8_3 p8_2 H locs ls hm8 l_p8_3 u_p8_3 l_p8_2 u_p8_2 hH hS hl
      refine lv_iload_n hx hb dX3_readSum_8 rfl (lv_at hl 0 rfl) ?_
      refine lv_sipush (v := 900) hx hb dX3_readSum_9 (by decide) ?_
      have J89 : ∀  (H : Heap) (locs : List Loc) (ls : Array Slot), HT D cs A T O X H → va_S A s.heap H locs → lv_has ls 5 [(2, .int p8_2)] → W p l e { frames := 26, cells := 0, slots := 0, locals := 586 } s m [.ref a0, .int x1].toArray below meth c H locs 0 0 (MQ below (Ti D cs (fun r u => u = (T, O, X) ∧ 0 ≤ r.toInt ∧ r.toInt ≤ 1) A) [.ref a0, .int x1].toArray s 0 0 A) (F0 m 89 ls []) := by
        intro  H locs ls  hH hS hl
        refine lv_iload_n hx hb dX3_readSum_89 rfl (lv_at hl 0 rfl) ?_
        exact te_z hx hb hr hlocks (nar01 (by omega) (by omega)) hH hS (⟨rfl, by omega, by omega⟩) dX3_readSum_90
      refine lv_icmp_ge (tgt := 89) hx hb dX3_readSum_12 (by decide) (fun c12 => ?_) (fun c12 => ?_)
      · skip
        have tc12 := f_ge (k := 900) (by decide) c12
        exact J89  _ _ _  hH hS (lv_sub hl [1] rfl)
      · skip
        have tc12 := f_nge (k := 900) (by decide) c12
        refine lv_iload_n hx hb dX3_readSum_15 rfl (lv_at hl 1 rfl) ?_
        refine lv_if_eq (tgt := 89) hx hb dX3_readSum_16 (by decide) (fun c16 => ?_) (fun c16 => ?_)
        · skip
          have tc16 := f_eq (k := 0) (by decide) c16
          exact J89  _ _ _  hH hS (lv_sub hl [1] rfl)
        · skip
          have tc16 := f_ne (k := 0) (by decide) c16
          refine lv_aload_n hx hb dX3_readSum_19 rfl (lv_at hl 2 rfl) ?_
          refine t_get (ci := 3) (lst := ft3 0 0) (C := RX3) (F := TX3) (N := 3) hx hb hts uX3 hown hkb hH t_a0 (hO.no t_a0 (by decide)) (fun _ h9 => h9) rfl rfl 0 (by decide) rfl kw_82 (fun _ h9 => h9) dX3_readSum_20 (fun v9 h9 => ?_)
          obtain ⟨v20, rfl, t_v20⟩ := h9
          refine lv_bipush (v := 43) hx hb dX3_readSum_23 (by decide) ?_
          refine tk_i hH hS hA (tr_V (n := 1) (As := [.int 43]) hx hb hml hown hts hkb hH hOX hks hE hS hA (s_Tok_isSign l D cs kf T O X v20 (43) t_v20 (hO.sub (by decide))) kw_646 kw_615 kw_616 kw_3 kw_617 (by decide +kernel) ⟨Nat.le_of_ble_eq_true rfl, Nat.le_of_ble_eq_true rfl⟩ (HT.recv (ci := 7) hkb hH t_v20 (hO.no t_v20 (by decide)) rfl) rfl rfl hl.1 (Nat.le_of_ble_eq_true rfl) dX3_readSum_25 ⟨Nat.le_of_ble_eq_true rfl, Nat.le_of_ble_eq_true rfl⟩) (fun v25 u H locs hz9 hH hS => ?_)
          obtain ⟨rfl, l_v25, u_v25⟩ := hz9
          have hH : HT D cs A T O X H := hH
          refine W.widen (k := 0) (n := 0) (Nat.le_of_ble_eq_true rfl) (Nat.le_of_ble_eq_true rfl) ?_
          have J43 : ∀  (H : Heap) (locs : List Loc) (ls : Array Slot), HT D cs A T O X H → va_S A s.heap H locs → lv_has ls 5 [(3, .int p8_3), (0, .ref a0), (1, .int x1)] → W p l e { frames := 26, cells := 0, slots := 0, locals := 586 } s m [.ref a0, .int x1].toArray below meth c H locs 0 0 (MQ below (Ti D cs (fun r u => u = (T, O, X) ∧ 0 ≤ r.toInt ∧ r.toInt ≤ 1) A) [.ref a0, .int x1].toArray s 0 0 A) (F0 m 43 ls []) := by
            intro  H locs ls  hH hS hl
            refine lv_aload_n hx hb dX3_readSum_43 rfl (lv_at hl 1 rfl) ?_
            refine t_get (ci := 3) (lst := ft3 0 0) (C := RX3) (F := TX3) (N := 3) hx hb hts uX3 hown hkb hH t_a0 (hO.no t_a0 (by decide)) (fun _ h9 => h9) rfl rfl 0 (by decide) rfl kw_82 (fun _ h9 => h9) dX3_readSum_44 (fun v9 h9 => ?_)
            obtain ⟨v44, rfl, t_v44⟩ := h9
            refine lv_bipush (v := 43) hx hb dX3_readSum_47 (by decide) ?_
            refine tk_i hH hS hA (tr_V (n := 1) (As := [.int 43]) hx hb hml hown hts hkb hH hOX hks hE hS hA (s_Tok_isSign l D cs kf T O X v44 (43) t_v44 (hO.sub (by decide))) kw_646 kw_615 kw_616 kw_3 kw_617 (by decide +kernel) ⟨Nat.le_of_ble_eq_true rfl, Nat.le_of_ble_eq_true rfl⟩ (HT.recv (ci := 7) hkb hH t_v44 (hO.no t_v44 (by decide)) rfl) rfl rfl hl.1 (Nat.le_of_ble_eq_true rfl) dX3_readSum_49 ⟨Nat.le_of_ble_eq_true rfl, Nat.le_of_ble_eq_true rfl⟩) (fun v49 u H locs hz9 hH hS => ?_)
            obtain ⟨rfl, l_v49, u_v49⟩ := hz9
            have hH : HT D cs A T O X H := hH
            refine W.widen (k := 0) (n := 0) (Nat.le_of_ble_eq_true rfl) (Nat.le_of_ble_eq_true rfl) ?_
            have J61 : ∀ (k61_0 : Int32) (H : Heap) (locs : List Loc) (ls : Array Slot), (5 ≤ k61_0.toInt) → (k61_0.toInt ≤ 6) → HT D cs A T O X H → va_S A s.heap H locs → lv_has ls 5 [(3, .int p8_3), (0, .ref a0), (1, .int x1)] → W p l e { frames := 26, cells := 0, slots := 0, locals := 586 } s m [.ref a0, .int x1].toArray below meth c H locs 0 0 (MQ below (Ti D cs (fun r u => u = (T, O, X) ∧ 0 ≤ r.toInt ∧ r.toInt ≤ 1) A) [.ref a0, .int x1].toArray s 0 0 A) (F0 m 61 ls [.int k61_0]) := by
              intro k61_0 H locs ls l_k61_0 u_k61_0 hH hS hl
              refine lv_istore (lv' := [(4, .int k61_0), (3, .int p8_3), (0, .ref a0), (1, .int x1)]) hx hb dX3_readSum_61 hl (by decide) rfl (fun ls hl => ?_)
              refine lv_aload_n hx hb dX3_readSum_63 rfl (lv_at hl 2 rfl) ?_
              refine t_get (ci := 3) (lst := ft3 0 0) (C := RX3) (F := TX3) (N := 3) hx hb hts uX3 hown hkb hH t_a0 (hO.no t_a0 (by decide)) (fun _ h9 => h9) rfl rfl 0 (by decide) rfl kw_82 (fun _ h9 => h9) dX3_readSum_64 (fun v9 h9 => ?_)
              obtain ⟨v64, rfl, t_v64⟩ := h9
              refine tk_v hH hS hA (tr_V (n := 0) (As := []) hx hb hml hown hts hkb hH hOX hks hE hS hA (s_Tok_go l D cs kf T O X v64 t_v64 (hO.sub (by decide))) kw_641 kw_453 kw_454 kw_3 kw_455 (by decide +kernel) ⟨Nat.le_of_ble_eq_true rfl, Nat.le_of_ble_eq_true rfl⟩ (HT.recv (ci := 7) hkb hH t_v64 (hO.no t_v64 (by decide)) rfl) rfl rfl hl.1 (Nat.le_of_ble_eq_true rfl) dX3_readSum_67 ⟨Nat.le_of_ble_eq_true rfl, Nat.le_of_ble_eq_true rfl⟩) (fun u H locs hz9 hH hS => ?_)
              have hz9 : u = (T, O, X) := hz9
              subst hz9
              have hH : HT D cs A T O X H := hH
              refine W.widen (k := 0) (n := 0) (Nat.le_of_ble_eq_true rfl) (Nat.le_of_ble_eq_true rfl) ?_
              refine lv_aload_n hx hb dX3_readSum_70 rfl (lv_at hl 2 rfl) ?_
              refine lv_iload_n hx hb dX3_readSum_71 rfl (lv_at hl 3 rfl) ?_
              refine tk_i hH hS hA (tr_V (n := 1) (As := [.int x1]) hx hb hml hown hts hkb hH hOX hks hE hS hA (s_LR_readTerm0 l D cs kf T O X a0 x1 t_a0 (by omega) (by omega) (hO.sub (by decide))) kw_652 kw_654 ks_11 kw_4 kw_655 (by decide +kernel) ⟨Nat.le_of_ble_eq_true rfl, Nat.le_of_ble_eq_true rfl⟩ (HT.recv (ci := 3) hkb hH t_a0 (hO.no t_a0 (by decide)) rfl) rfl rfl hl.1 (Nat.le_of_ble_eq_true rfl) dX3_readSum_72 ⟨Nat.le_of_ble_eq_true rfl, Nat.le_of_ble_eq_true rfl⟩) (fun v72 u H locs hz9 hH hS => ?_)
              obtain ⟨rfl, l_v72, u_v72⟩ := hz9
              have hH : HT D cs A T O X H := hH
              refine W.widen (k := 0) (n := 0) (Nat.le_of_ble_eq_true rfl) (Nat.le_of_ble_eq_true rfl) ?_
              refine lv_istore_n (lv' := [(2, .int v72), (4, .int k61_0), (3, .int p8_3), (0, .ref a0), (1, .int x1)]) hx hb dX3_readSum_75 rfl hl (by decide) rfl (fun ls hl => ?_)
              refine lv_aload_n hx hb dX3_readSum_76 rfl (lv_at hl 3 rfl) ?_
              refine lv_iload hx hb dX3_readSum_77 (lv_at hl 1 rfl) ?_
              refine lv_iconst (v := 0) hx hb dX3_readSum_79 (by decide) ?_
              refine tk_v hH hS hA (tr_V (n := 2) (As := [.int k61_0, .int 0]) hx hb hml hown hts hkb hH hOX hks hE hS hA (s_LR_put l D cs kf T O X a0 k61_0 (0) t_a0 (hO.sub (by decide))) kw_642 kw_644 ks_9 kw_4 kw_645 (by decide +kernel) ⟨Nat.le_of_ble_eq_true rfl, Nat.le_of_ble_eq_true rfl⟩ (HT.recv (ci := 3) hkb hH t_a0 (hO.no t_a0 (by decide)) rfl) rfl rfl hl.1 (Nat.le_of_ble_eq_true rfl) dX3_readSum_80 ⟨Nat.le_of_ble_eq_true rfl, Nat.le_of_ble_eq_true rfl⟩) (fun u H locs hz9 hH hS => ?_)
              have hz9 : u = (T, O, X) := hz9
              subst hz9
              have hH : HT D cs A T O X H := hH
              refine W.widen (k := 0) (n := 0) (Nat.le_of_ble_eq_true rfl) (Nat.le_of_ble_eq_true rfl) ?_
              obtain ⟨v83, ev83⟩ : ∃ y : Int32, y = p8_3 + 1 := ⟨_, rfl⟩
              have tv83 : v83.toInt = p8_3.toInt + (1) := by rw [ev83]; exact add_i rfl (by decide) (by omega) (by omega)
              refine lv_iinc (v := v83) (lv' := [(3, .int v83), (2, .int v72), (4, .int k61_0), (0, .ref a0), (1, .int x1)]) hx hb dX3_readSum_83 hl (k := 2) rfl (by rw [ev83]; rfl) (by decide) rfl (fun ls hl => ?_)
              refine lv_goto (tgt := 8) hx hb dX3_readSum_86 (by decide) ?_
              exact ih8 _ (by omega) v83 v72 _ _ _ rfl (by omega) (by omega) (by omega) (by omega) hH hS (lv_sub hl [0, 1, 3, 4] rfl)
            refine lv_if_eq (tgt := 59) hx hb dX3_readSum_52 (by decide) (fun c52 => ?_) (fun c52 => ?_)
            · skip
              have tc52 := f_eq (k := 0) (by decide) c52
              refine lv_bipush (v := 6) hx hb dX3_readSum_59 (by decide) ?_
              exact J61 6 _ _ _ (by decide) (by decide) hH hS (lv_sub hl [0, 1, 2] rfl)
            · skip
              have tc52 := f_ne (k := 0) (by decide) c52
              refine lv_iconst (v := 5) hx hb dX3_readSum_55 (by decide) ?_
              refine lv_goto (tgt := 61) hx hb dX3_readSum_56 (by decide) ?_
              exact J61 5 _ _ _ (by decide) (by decide) hH hS (lv_sub hl [0, 1, 2] rfl)
          refine lv_if_ne (tgt := 43) hx hb dX3_readSum_28 (by decide) (fun c28 => ?_) (fun c28 => ?_)
          · skip
            have tc28 := f_ne (k := 0) (by decide) c28
            exact J43  _ _ _  hH hS (lv_sub hl [0, 2, 3] rfl)
          · skip
            have tc28 := f_eq (k := 0) (by decide) c28
            refine lv_aload_n hx hb dX3_readSum_31 rfl (lv_at hl 2 rfl) ?_
            refine t_get (ci := 3) (lst := ft3 0 0) (C := RX3) (F := TX3) (N := 3) hx hb hts uX3 hown hkb hH t_a0 (hO.no t_a0 (by decide)) (fun _ h9 => h9) rfl rfl 0 (by decide) rfl kw_82 (fun _ h9 => h9) dX3_readSum_32 (fun v9 h9 => ?_)
            obtain ⟨v32, rfl, t_v32⟩ := h9
            refine lv_bipush (v := 45) hx hb dX3_readSum_35 (by decide) ?_
            refine tk_i hH hS hA (tr_V (n := 1) (As := [.int 45]) hx hb hml hown hts hkb hH hOX hks hE hS hA (s_Tok_isSign l D cs kf T O X v32 (45) t_v32 (hO.sub (by decide))) kw_646 kw_615 kw_616 kw_3 kw_617 (by decide +kernel) ⟨Nat.le_of_ble_eq_true rfl, Nat.le_of_ble_eq_true rfl⟩ (HT.recv (ci := 7) hkb hH t_v32 (hO.no t_v32 (by decide)) rfl) rfl rfl hl.1 (Nat.le_of_ble_eq_true rfl) dX3_readSum_37 ⟨Nat.le_of_ble_eq_true rfl, Nat.le_of_ble_eq_true rfl⟩) (fun v37 u H locs hz9 hH hS => ?_)
            obtain ⟨rfl, l_v37, u_v37⟩ := hz9
            have hH : HT D cs A T O X H := hH
            refine W.widen (k := 0) (n := 0) (Nat.le_of_ble_eq_true rfl) (Nat.le_of_ble_eq_true rfl) ?_
            refine lv_if_eq (tgt := 89) hx hb dX3_readSum_40 (by decide) (fun c40 => ?_) (fun c40 => ?_)
            · skip
              have tc40 := f_eq (k := 0) (by decide) c40
              exact J89  _ _ _  hH hS (lv_sub hl [1] rfl)
            · skip
              have tc40 := f_ne (k := 0) (by decide) c40
              exact J43  _ _ _  hH hS (lv_sub hl [0, 2, 3] rfl)
  refine lv_istore_n (lv' := [(3, .int 0), (2, .int v2), (0, .ref a0), (1, .int x1)]) hx hb dX3_readSum_7 rfl hl (by decide) rfl (fun ls hl => ?_)
  exact J8 _ 0 v2 _ _ _ rfl (by decide) (by decide) (by omega) (by omega) hH hS (lv_sub hl [0, 1, 2, 3] rfl)
set_option maxHeartbeats 4000000 in
set_option maxRecDepth 100000 in
theorem s_LR_readUnit0 (l : Launch) (D : va_G) (cs : CS) (kf : KF) (T : TF) (O : List Nat) (X : va_W) (a0 : Nat) (x1 : Int32) (t_a0 : T a0 = some (13, 0, 0)) (l_x1 : 0 ≤ x1.toInt) (u_x1 : x1.toInt ≤ 0) (hO : okO T O [0, 1, 13, 17]) : TK l D cs kf yX3_readUnit cX3_readUnit 3 (some (.boolean)) { frames := 27, cells := 0, slots := 0, locals := 616 } [.ref a0, .int x1] T O X (Ti D cs (fun r u => u = (T, O, X) ∧ 0 ≤ r.toInt ∧ r.toInt ≤ 1)) := by
  refine tk_of (by decide) (Nat.le_of_ble_eq_true rfl) (fun p e s m below meth c ls A H locs hx hb hr hml hown hts hlocks hnm hkb hH hS hA hOX hks hE hl => ?_)
  have hown : s.vm.findClass RX3 = some m.cls := hown
  have hl : lv_has ls 3 [(0, .ref a0), (1, .int x1)] := hl
  refine lv_aload_n hx hb dX3_readUnit_0 rfl (lv_at hl 0 rfl) ?_
  refine t_get (ci := 3) (lst := ft3 0 0) (C := RX3) (F := TX3) (N := 3) hx hb hts uX3 hown hkb hH t_a0 (hO.no t_a0 (by decide)) (fun _ h9 => h9) rfl rfl 0 (by decide) rfl kw_82 (fun _ h9 => h9) dX3_readUnit_1 (fun v9 h9 => ?_)
  obtain ⟨v1, rfl, t_v1⟩ := h9
  refine va_ldcS (q := kf.1 10) hx hb hown (hks ("FootholdWall$LawReader", 65, "not", 10) (by decide +kernel)) dX3_readUnit_4 ?_
  refine tk_i hH hS hA (tr_V (n := 1) (As := [.ref (kf.1 10)]) hx hb hml hown hts hkb hH hOX hks hE hS hA (s_Tok_isWord l D cs kf T O X v1 10 t_v1 (by decide) (hO.sub (by decide))) kw_635 kw_551 kw_552 kw_3 kw_553 (by decide +kernel) ⟨Nat.le_of_ble_eq_true rfl, Nat.le_of_ble_eq_true rfl⟩ (HT.recv (ci := 7) hkb hH t_v1 (hO.no t_v1 (by decide)) rfl) rfl rfl hl.1 (Nat.le_of_ble_eq_true rfl) dX3_readUnit_6 ⟨Nat.le_of_ble_eq_true rfl, Nat.le_of_ble_eq_true rfl⟩) (fun v6 u H locs hz9 hH hS => ?_)
  obtain ⟨rfl, l_v6, u_v6⟩ := hz9
  have hH : HT D cs A T O X H := hH
  refine W.widen (k := 0) (n := 0) (Nat.le_of_ble_eq_true rfl) (Nat.le_of_ble_eq_true rfl) ?_
  refine lv_if_eq (tgt := 40) hx hb dX3_readUnit_9 (by decide) (fun c9 => ?_) (fun c9 => ?_)
  · skip
    have tc9 := f_eq (k := 0) (by decide) c9
    refine lv_aload_n hx hb dX3_readUnit_40 rfl (lv_at hl 0 rfl) ?_
    refine t_get (ci := 3) (lst := ft3 0 0) (C := RX3) (F := TX3) (N := 3) hx hb hts uX3 hown hkb hH t_a0 (hO.no t_a0 (by decide)) (fun _ h9 => h9) rfl rfl 0 (by decide) rfl kw_82 (fun _ h9 => h9) dX3_readUnit_41 (fun v9 h9 => ?_)
    obtain ⟨v41, rfl, t_v41⟩ := h9
    refine lv_bipush (v := 91) hx hb dX3_readUnit_44 (by decide) ?_
    refine tk_i hH hS hA (tr_V (n := 1) (As := [.int 91]) hx hb hml hown hts hkb hH hOX hks hE hS hA (s_Tok_isSign l D cs kf T O X v41 (91) t_v41 (hO.sub (by decide))) kw_646 kw_615 kw_616 kw_3 kw_617 (by decide +kernel) ⟨Nat.le_of_ble_eq_true rfl, Nat.le_of_ble_eq_true rfl⟩ (HT.recv (ci := 7) hkb hH t_v41 (hO.no t_v41 (by decide)) rfl) rfl rfl hl.1 (Nat.le_of_ble_eq_true rfl) dX3_readUnit_46 ⟨Nat.le_of_ble_eq_true rfl, Nat.le_of_ble_eq_true rfl⟩) (fun v46 u H locs hz9 hH hS => ?_)
    obtain ⟨rfl, l_v46, u_v46⟩ := hz9
    have hH : HT D cs A T O X H := hH
    refine W.widen (k := 0) (n := 0) (Nat.le_of_ble_eq_true rfl) (Nat.le_of_ble_eq_true rfl) ?_
    refine lv_if_eq (tgt := 88) hx hb dX3_readUnit_49 (by decide) (fun c49 => ?_) (fun c49 => ?_)
    · skip
      have tc49 := f_eq (k := 0) (by decide) c49
      refine lv_aload_n hx hb dX3_readUnit_88 rfl (lv_at hl 0 rfl) ?_
      refine lv_iload_n hx hb dX3_readUnit_89 rfl (lv_at hl 1 rfl) ?_
      refine tk_i hH hS hA (tr_V (n := 1) (As := [.int x1]) hx hb hml hown hts hkb hH hOX hks hE hS hA (s_LR_readSum0 l D cs kf T O X a0 x1 t_a0 (by omega) (by omega) (hO.sub (by decide))) kw_648 kw_650 ks_10 kw_4 kw_651 (by decide +kernel) ⟨Nat.le_of_ble_eq_true rfl, Nat.le_of_ble_eq_true rfl⟩ (HT.recv (ci := 3) hkb hH t_a0 (hO.no t_a0 (by decide)) rfl) rfl rfl hl.1 (Nat.le_of_ble_eq_true rfl) dX3_readUnit_90 ⟨Nat.le_of_ble_eq_true rfl, Nat.le_of_ble_eq_true rfl⟩) (fun v90 u H locs hz9 hH hS => ?_)
      obtain ⟨rfl, l_v90, u_v90⟩ := hz9
      have hH : HT D cs A T O X H := hH
      refine W.widen (k := 0) (n := 0) (Nat.le_of_ble_eq_true rfl) (Nat.le_of_ble_eq_true rfl) ?_
      refine lv_if_ne (tgt := 98) hx hb dX3_readUnit_93 (by decide) (fun c93 => ?_) (fun c93 => ?_)
      · skip
        have tc93 := f_ne (k := 0) (by decide) c93
        refine lv_aload_n hx hb dX3_readUnit_98 rfl (lv_at hl 0 rfl) ?_
        refine t_get (ci := 3) (lst := ft3 0 0) (C := RX3) (F := TX3) (N := 3) hx hb hts uX3 hown hkb hH t_a0 (hO.no t_a0 (by decide)) (fun _ h9 => h9) rfl rfl 0 (by decide) rfl kw_82 (fun _ h9 => h9) dX3_readUnit_99 (fun v9 h9 => ?_)
        obtain ⟨v99, rfl, t_v99⟩ := h9
        refine lv_bipush (v := 61) hx hb dX3_readUnit_102 (by decide) ?_
        refine tk_i hH hS hA (tr_V (n := 1) (As := [.int 61]) hx hb hml hown hts hkb hH hOX hks hE hS hA (s_Tok_isSign l D cs kf T O X v99 (61) t_v99 (hO.sub (by decide))) kw_646 kw_615 kw_616 kw_3 kw_617 (by decide +kernel) ⟨Nat.le_of_ble_eq_true rfl, Nat.le_of_ble_eq_true rfl⟩ (HT.recv (ci := 7) hkb hH t_v99 (hO.no t_v99 (by decide)) rfl) rfl rfl hl.1 (Nat.le_of_ble_eq_true rfl) dX3_readUnit_104 ⟨Nat.le_of_ble_eq_true rfl, Nat.le_of_ble_eq_true rfl⟩) (fun v104 u H locs hz9 hH hS => ?_)
        obtain ⟨rfl, l_v104, u_v104⟩ := hz9
        have hH : HT D cs A T O X H := hH
        refine W.widen (k := 0) (n := 0) (Nat.le_of_ble_eq_true rfl) (Nat.le_of_ble_eq_true rfl) ?_
        have J134 : ∀ (k134_0 : Int32) (H : Heap) (locs : List Loc) (ls : Array Slot), (8 ≤ k134_0.toInt) → (k134_0.toInt ≤ 10) → HT D cs A T O X H → va_S A s.heap H locs → lv_has ls 3 [(0, .ref a0), (1, .int x1)] → W p l e { frames := 27, cells := 0, slots := 0, locals := 616 } s m [.ref a0, .int x1].toArray below meth c H locs 0 0 (MQ below (Ti D cs (fun r u => u = (T, O, X) ∧ 0 ≤ r.toInt ∧ r.toInt ≤ 1) A) [.ref a0, .int x1].toArray s 0 0 A) (F0 m 134 ls [.int k134_0]) := by
          intro k134_0 H locs ls l_k134_0 u_k134_0 hH hS hl
          refine lv_istore_n (lv' := [(2, .int k134_0), (0, .ref a0), (1, .int x1)]) hx hb dX3_readUnit_134 rfl hl (by decide) rfl (fun ls hl => ?_)
          refine lv_iload_n hx hb dX3_readUnit_135 rfl (lv_at hl 0 rfl) ?_
          refine lv_bipush (v := 10) hx hb dX3_readUnit_136 (by decide) ?_
          have J162 : ∀  (H : Heap) (locs : List Loc) (ls : Array Slot), HT D cs A T O X H → va_S A s.heap H locs → lv_has ls 3 [(2, .int k134_0), (0, .ref a0), (1, .int x1)] → W p l e { frames := 27, cells := 0, slots := 0, locals := 616 } s m [.ref a0, .int x1].toArray below meth c H locs 0 0 (MQ below (Ti D cs (fun r u => u = (T, O, X) ∧ 0 ≤ r.toInt ∧ r.toInt ≤ 1) A) [.ref a0, .int x1].toArray s 0 0 A) (F0 m 162 ls []) := by
            intro  H locs ls  hH hS hl
            refine lv_aload_n hx hb dX3_readUnit_162 rfl (lv_at hl 1 rfl) ?_
            refine t_get (ci := 3) (lst := ft3 0 0) (C := RX3) (F := TX3) (N := 3) hx hb hts uX3 hown hkb hH t_a0 (hO.no t_a0 (by decide)) (fun _ h9 => h9) rfl rfl 0 (by decide) rfl kw_82 (fun _ h9 => h9) dX3_readUnit_163 (fun v9 h9 => ?_)
            obtain ⟨v163, rfl, t_v163⟩ := h9
            refine tk_v hH hS hA (tr_V (n := 0) (As := []) hx hb hml hown hts hkb hH hOX hks hE hS hA (s_Tok_go l D cs kf T O X v163 t_v163 (hO.sub (by decide))) kw_641 kw_453 kw_454 kw_3 kw_455 (by decide +kernel) ⟨Nat.le_of_ble_eq_true rfl, Nat.le_of_ble_eq_true rfl⟩ (HT.recv (ci := 7) hkb hH t_v163 (hO.no t_v163 (by decide)) rfl) rfl rfl hl.1 (Nat.le_of_ble_eq_true rfl) dX3_readUnit_166 ⟨Nat.le_of_ble_eq_true rfl, Nat.le_of_ble_eq_true rfl⟩) (fun u H locs hz9 hH hS => ?_)
            have hz9 : u = (T, O, X) := hz9
            subst hz9
            have hH : HT D cs A T O X H := hH
            refine W.widen (k := 0) (n := 0) (Nat.le_of_ble_eq_true rfl) (Nat.le_of_ble_eq_true rfl) ?_
            refine lv_aload_n hx hb dX3_readUnit_169 rfl (lv_at hl 1 rfl) ?_
            refine lv_iload_n hx hb dX3_readUnit_170 rfl (lv_at hl 2 rfl) ?_
            refine tk_i hH hS hA (tr_V (n := 1) (As := [.int x1]) hx hb hml hown hts hkb hH hOX hks hE hS hA (s_LR_readSum0 l D cs kf T O X a0 x1 t_a0 (by omega) (by omega) (hO.sub (by decide))) kw_648 kw_650 ks_10 kw_4 kw_651 (by decide +kernel) ⟨Nat.le_of_ble_eq_true rfl, Nat.le_of_ble_eq_true rfl⟩ (HT.recv (ci := 3) hkb hH t_a0 (hO.no t_a0 (by decide)) rfl) rfl rfl hl.1 (Nat.le_of_ble_eq_true rfl) dX3_readUnit_171 ⟨Nat.le_of_ble_eq_true rfl, Nat.le_of_ble_eq_true rfl⟩) (fun v171 u H locs hz9 hH hS => ?_)
            obtain ⟨rfl, l_v171, u_v171⟩ := hz9
            have hH : HT D cs A T O X H := hH
            refine W.widen (k := 0) (n := 0) (Nat.le_of_ble_eq_true rfl) (Nat.le_of_ble_eq_true rfl) ?_
            refine lv_if_ne (tgt := 179) hx hb dX3_readUnit_174 (by decide) (fun c174 => ?_) (fun c174 => ?_)
            · skip
              have tc174 := f_ne (k := 0) (by decide) c174
              refine lv_aload_n hx hb dX3_readUnit_179 rfl (lv_at hl 1 rfl) ?_
              refine lv_iload_n hx hb dX3_readUnit_180 rfl (lv_at hl 0 rfl) ?_
              refine lv_iconst (v := 0) hx hb dX3_readUnit_181 (by decide) ?_
              refine tk_v hH hS hA (tr_V (n := 2) (As := [.int k134_0, .int 0]) hx hb hml hown hts hkb hH hOX hks hE hS hA (s_LR_put l D cs kf T O X a0 k134_0 (0) t_a0 (hO.sub (by decide))) kw_642 kw_644 ks_9 kw_4 kw_645 (by decide +kernel) ⟨Nat.le_of_ble_eq_true rfl, Nat.le_of_ble_eq_true rfl⟩ (HT.recv (ci := 3) hkb hH t_a0 (hO.no t_a0 (by decide)) rfl) rfl rfl hl.1 (Nat.le_of_ble_eq_true rfl) dX3_readUnit_182 ⟨Nat.le_of_ble_eq_true rfl, Nat.le_of_ble_eq_true rfl⟩) (fun u H locs hz9 hH hS => ?_)
              have hz9 : u = (T, O, X) := hz9
              subst hz9
              have hH : HT D cs A T O X H := hH
              refine W.widen (k := 0) (n := 0) (Nat.le_of_ble_eq_true rfl) (Nat.le_of_ble_eq_true rfl) ?_
              refine lv_iconst (v := 1) hx hb dX3_readUnit_185 (by decide) ?_
              exact te_z hx hb hr hlocks (by rfl) hH hS (⟨rfl, by decide, by decide⟩) dX3_readUnit_186
            · skip
              have tc174 := f_eq (k := 0) (by decide) c174
              refine lv_iconst (v := 0) hx hb dX3_readUnit_177 (by decide) ?_
              exact te_z hx hb hr hlocks (by rfl) hH hS (⟨rfl, by decide, by decide⟩) dX3_readUnit_178
          refine lv_icmp_ne (tgt := 162) hx hb dX3_readUnit_138 (by decide) (fun c138 => ?_) (fun c138 => ?_)
          · skip
            have tc138 := f_ne (k := 10) (by decide) c138
            exact J162  _ _ _  hH hS (lv_sub hl [0, 1, 2] rfl)
          · skip
            have tc138 := f_eq (k := 10) (by decide) c138
            refine lv_aload_n hx hb dX3_readUnit_141 rfl (lv_at hl 1 rfl) ?_
            refine t_get (ci := 3) (lst := ft3 0 0) (C := RX3) (F := TX3) (N := 3) hx hb hts uX3 hown hkb hH t_a0 (hO.no t_a0 (by decide)) (fun _ h9 => h9) rfl rfl 0 (by decide) rfl kw_82 (fun _ h9 => h9) dX3_readUnit_142 (fun v9 h9 => ?_)
            obtain ⟨v142, rfl, t_v142⟩ := h9
            refine lv_bipush (v := 62) hx hb dX3_readUnit_145 (by decide) ?_
            refine tk_i hH hS hA (tr_V (n := 1) (As := [.int 62]) hx hb hml hown hts hkb hH hOX hks hE hS hA (s_Tok_isSign l D cs kf T O X v142 (62) t_v142 (hO.sub (by decide))) kw_646 kw_615 kw_616 kw_3 kw_617 (by decide +kernel) ⟨Nat.le_of_ble_eq_true rfl, Nat.le_of_ble_eq_true rfl⟩ (HT.recv (ci := 7) hkb hH t_v142 (hO.no t_v142 (by decide)) rfl) rfl rfl hl.1 (Nat.le_of_ble_eq_true rfl) dX3_readUnit_147 ⟨Nat.le_of_ble_eq_true rfl, Nat.le_of_ble_eq_true rfl⟩) (fun v147 u H locs hz9 hH hS => ?_)
            obtain ⟨rfl, l_v147, u_v147⟩ := hz9
            have hH : HT D cs A T O X H := hH
            refine W.widen (k := 0) (n := 0) (Nat.le_of_ble_eq_true rfl) (Nat.le_of_ble_eq_true rfl) ?_
            refine lv_if_ne (tgt := 162) hx hb dX3_readUnit_150 (by decide) (fun c150 => ?_) (fun c150 => ?_)
            · skip
              have tc150 := f_ne (k := 0) (by decide) c150
              exact J162  _ _ _  hH hS (lv_sub hl [0, 1, 2] rfl)
            · skip
              have tc150 := f_eq (k := 0) (by decide) c150
              refine lv_aload_n hx hb dX3_readUnit_153 rfl (lv_at hl 1 rfl) ?_
              refine t_get (ci := 3) (lst := ft3 0 0) (C := RX3) (F := TX3) (N := 3) hx hb hts uX3 hown hkb hH t_a0 (hO.no t_a0 (by decide)) (fun _ h9 => h9) rfl rfl 0 (by decide) rfl kw_82 (fun _ h9 => h9) dX3_readUnit_154 (fun v9 h9 => ?_)
              obtain ⟨v154, rfl, t_v154⟩ := h9
              refine lv_iconst (v := 2) hx hb dX3_readUnit_157 (by decide) ?_
              refine tk_i hH hS hA (tr_V (n := 1) (As := [.int 2]) hx hb hml hown hts hkb hH hOX hks hE hS hA (s_Tok_refuse l D cs kf T O X v154 (2) t_v154 (hO.sub (by decide))) kw_640 kw_580 kw_581 kw_3 kw_582 (by decide +kernel) ⟨Nat.le_of_ble_eq_true rfl, Nat.le_of_ble_eq_true rfl⟩ (HT.recv (ci := 7) hkb hH t_v154 (hO.no t_v154 (by decide)) rfl) rfl rfl hl.1 (Nat.le_of_ble_eq_true rfl) dX3_readUnit_158 ⟨Nat.le_of_ble_eq_true rfl, Nat.le_of_ble_eq_true rfl⟩) (fun v158 u H locs hz9 hH hS => ?_)
              obtain ⟨rfl, l_v158, u_v158⟩ := hz9
              have hH : HT D cs A T O X H := hH
              refine W.widen (k := 0) (n := 0) (Nat.le_of_ble_eq_true rfl) (Nat.le_of_ble_eq_true rfl) ?_
              exact te_z hx hb hr hlocks (nar01 (by omega) (by omega)) hH hS (⟨rfl, by omega, by omega⟩) dX3_readUnit_161
        refine lv_if_eq (tgt := 115) hx hb dX3_readUnit_107 (by decide) (fun c107 => ?_) (fun c107 => ?_)
        · skip
          have tc107 := f_eq (k := 0) (by decide) c107
          refine lv_aload_n hx hb dX3_readUnit_115 rfl (lv_at hl 0 rfl) ?_
          refine t_get (ci := 3) (lst := ft3 0 0) (C := RX3) (F := TX3) (N := 3) hx hb hts uX3 hown hkb hH t_a0 (hO.no t_a0 (by decide)) (fun _ h9 => h9) rfl rfl 0 (by decide) rfl kw_82 (fun _ h9 => h9) dX3_readUnit_116 (fun v9 h9 => ?_)
          obtain ⟨v116, rfl, t_v116⟩ := h9
          refine lv_bipush (v := 60) hx hb dX3_readUnit_119 (by decide) ?_
          refine tk_i hH hS hA (tr_V (n := 1) (As := [.int 60]) hx hb hml hown hts hkb hH hOX hks hE hS hA (s_Tok_isSign l D cs kf T O X v116 (60) t_v116 (hO.sub (by decide))) kw_646 kw_615 kw_616 kw_3 kw_617 (by decide +kernel) ⟨Nat.le_of_ble_eq_true rfl, Nat.le_of_ble_eq_true rfl⟩ (HT.recv (ci := 7) hkb hH t_v116 (hO.no t_v116 (by decide)) rfl) rfl rfl hl.1 (Nat.le_of_ble_eq_true rfl) dX3_readUnit_121 ⟨Nat.le_of_ble_eq_true rfl, Nat.le_of_ble_eq_true rfl⟩) (fun v121 u H locs hz9 hH hS => ?_)
          obtain ⟨rfl, l_v121, u_v121⟩ := hz9
          have hH : HT D cs A T O X H := hH
          refine W.widen (k := 0) (n := 0) (Nat.le_of_ble_eq_true rfl) (Nat.le_of_ble_eq_true rfl) ?_
          refine lv_if_eq (tgt := 132) hx hb dX3_readUnit_124 (by decide) (fun c124 => ?_) (fun c124 => ?_)
          · skip
            have tc124 := f_eq (k := 0) (by decide) c124
            refine lv_bipush (v := 10) hx hb dX3_readUnit_132 (by decide) ?_
            exact J134 10 _ _ _ (by decide) (by decide) hH hS (lv_sub hl [0, 1] rfl)
          · skip
            have tc124 := f_ne (k := 0) (by decide) c124
            refine lv_bipush (v := 9) hx hb dX3_readUnit_127 (by decide) ?_
            refine lv_goto (tgt := 134) hx hb dX3_readUnit_129 (by decide) ?_
            exact J134 9 _ _ _ (by decide) (by decide) hH hS (lv_sub hl [0, 1] rfl)
        · skip
          have tc107 := f_ne (k := 0) (by decide) c107
          refine lv_bipush (v := 8) hx hb dX3_readUnit_110 (by decide) ?_
          refine lv_goto (tgt := 134) hx hb dX3_readUnit_112 (by decide) ?_
          exact J134 8 _ _ _ (by decide) (by decide) hH hS (lv_sub hl [0, 1] rfl)
      · skip
        have tc93 := f_eq (k := 0) (by decide) c93
        refine lv_iconst (v := 0) hx hb dX3_readUnit_96 (by decide) ?_
        exact te_z hx hb hr hlocks (by rfl) hH hS (⟨rfl, by decide, by decide⟩) dX3_readUnit_97
    · skip
      have tc49 := f_ne (k := 0) (by decide) c49
      refine lv_aload_n hx hb dX3_readUnit_52 rfl (lv_at hl 0 rfl) ?_
      refine lv_iload_n hx hb dX3_readUnit_53 rfl (lv_at hl 1 rfl) ?_
      refine tk_i hH hS hA (tr_V (n := 1) (As := [.int x1]) hx hb hml hown hts hkb hH hOX hks hE hS hA (s_LR_enter0 l D cs kf T O X a0 x1 t_a0 (by omega) (by omega) (hO.sub (by decide))) kw_636 kw_638 ks_8 kw_4 kw_639 (by decide +kernel) ⟨Nat.le_of_ble_eq_true rfl, Nat.le_of_ble_eq_true rfl⟩ (HT.recv (ci := 3) hkb hH t_a0 (hO.no t_a0 (by decide)) rfl) rfl rfl hl.1 (Nat.le_of_ble_eq_true rfl) dX3_readUnit_54 ⟨Nat.le_of_ble_eq_true rfl, Nat.le_of_ble_eq_true rfl⟩) (fun v54 u H locs hz9 hH hS => ?_)
      obtain ⟨rfl, l_v54, u_v54⟩ := hz9
      have hH : HT D cs A T O X H := hH
      refine W.widen (k := 0) (n := 0) (Nat.le_of_ble_eq_true rfl) (Nat.le_of_ble_eq_true rfl) ?_
      refine lv_if_eq (tgt := 86) hx hb dX3_readUnit_57 (by decide) (fun c57 => ?_) (fun c57 => ?_)
      · skip
        have tc57 := f_eq (k := 0) (by decide) c57
        exfalso; omega
      · skip
        have tc57 := f_ne (k := 0) (by decide) c57
        refine lv_aload_n hx hb dX3_readUnit_60 rfl (lv_at hl 0 rfl) ?_
        refine lv_iload_n hx hb dX3_readUnit_61 rfl (lv_at hl 1 rfl) ?_
        refine lv_iconst (v := 1) hx hb dX3_readUnit_62 (by decide) ?_
        refine lv_iadd hx hb dX3_readUnit_63 ?_
        refine lv_topi (fun v63 ev63 => ?_)
        have tv63 : v63.toInt = x1.toInt + (1) := by rw [ev63]; exact add_i rfl (by decide : (1 : Int32).toInt = 1) (by omega) (by omega)
        refine tk_i hH hS hA (tr_V (n := 1) (As := [.int v63]) hx hb hml hown hts hkb hH hOX hks hE hS hA (s_LR_readTruth1 l D cs kf T O X a0 v63 t_a0 (by omega) (by omega) (hO.sub (by decide))) kw_622 kw_624 ks_5 kw_4 kw_625 (by decide +kernel) ⟨Nat.le_of_ble_eq_true rfl, Nat.le_of_ble_eq_true rfl⟩ (HT.recv (ci := 3) hkb hH t_a0 (hO.no t_a0 (by decide)) rfl) rfl rfl hl.1 (Nat.le_of_ble_eq_true rfl) dX3_readUnit_64 ⟨Nat.le_of_ble_eq_true rfl, Nat.le_of_ble_eq_true rfl⟩) (fun v64 u H locs hz9 hH hS => ?_)
        obtain ⟨rfl, l_v64, u_v64⟩ := hz9
        have hH : HT D cs A T O X H := hH
        refine W.widen (k := 0) (n := 0) (Nat.le_of_ble_eq_true rfl) (Nat.le_of_ble_eq_true rfl) ?_
        have J87 : ∀ (k87_0 : Int32) (H : Heap) (locs : List Loc) (ls : Array Slot), (0 ≤ k87_0.toInt) → (k87_0.toInt ≤ 1) → HT D cs A T O X H → va_S A s.heap H locs → lv_has ls 3 [] → W p l e { frames := 27, cells := 0, slots := 0, locals := 616 } s m [.ref a0, .int x1].toArray below meth c H locs 0 0 (MQ below (Ti D cs (fun r u => u = (T, O, X) ∧ 0 ≤ r.toInt ∧ r.toInt ≤ 1) A) [.ref a0, .int x1].toArray s 0 0 A) (F0 m 87 ls [.int k87_0]) := by
          intro k87_0 H locs ls l_k87_0 u_k87_0 hH hS hl
          exact te_z hx hb hr hlocks (nar01 (by omega) (by omega)) hH hS (⟨rfl, by omega, by omega⟩) dX3_readUnit_87
        have J86 : ∀  (H : Heap) (locs : List Loc) (ls : Array Slot), HT D cs A T O X H → va_S A s.heap H locs → lv_has ls 3 [] → W p l e { frames := 27, cells := 0, slots := 0, locals := 616 } s m [.ref a0, .int x1].toArray below meth c H locs 0 0 (MQ below (Ti D cs (fun r u => u = (T, O, X) ∧ 0 ≤ r.toInt ∧ r.toInt ≤ 1) A) [.ref a0, .int x1].toArray s 0 0 A) (F0 m 86 ls []) := by
          intro  H locs ls  hH hS hl
          refine lv_iconst (v := 0) hx hb dX3_readUnit_86 (by decide) ?_
          exact J87 0 _ _ _ (by decide) (by decide) hH hS (lv_sub hl [] rfl)
        refine lv_if_eq (tgt := 86) hx hb dX3_readUnit_67 (by decide) (fun c67 => ?_) (fun c67 => ?_)
        · skip
          have tc67 := f_eq (k := 0) (by decide) c67
          exact J86  _ _ _  hH hS (lv_sub hl [] rfl)
        · skip
          have tc67 := f_ne (k := 0) (by decide) c67
          refine lv_aload_n hx hb dX3_readUnit_70 rfl (lv_at hl 0 rfl) ?_
          refine t_get (ci := 3) (lst := ft3 0 0) (C := RX3) (F := TX3) (N := 3) hx hb hts uX3 hown hkb hH t_a0 (hO.no t_a0 (by decide)) (fun _ h9 => h9) rfl rfl 0 (by decide) rfl kw_82 (fun _ h9 => h9) dX3_readUnit_71 (fun v9 h9 => ?_)
          obtain ⟨v71, rfl, t_v71⟩ := h9
          refine lv_bipush (v := 93) hx hb dX3_readUnit_74 (by decide) ?_
          refine tk_i hH hS hA (tr_V (n := 1) (As := [.int 93]) hx hb hml hown hts hkb hH hOX hks hE hS hA (s_Tok_takeSign l D cs kf T O X v71 (93) t_v71 (hO.sub (by decide))) kw_647 kw_611 kw_612 kw_3 kw_613 (by decide +kernel) ⟨Nat.le_of_ble_eq_true rfl, Nat.le_of_ble_eq_true rfl⟩ (HT.recv (ci := 7) hkb hH t_v71 (hO.no t_v71 (by decide)) rfl) rfl rfl hl.1 (Nat.le_of_ble_eq_true rfl) dX3_readUnit_76 ⟨Nat.le_of_ble_eq_true rfl, Nat.le_of_ble_eq_true rfl⟩) (fun v76 u H locs hz9 hH hS => ?_)
          obtain ⟨rfl, l_v76, u_v76⟩ := hz9
          have hH : HT D cs A T O X H := hH
          refine W.widen (k := 0) (n := 0) (Nat.le_of_ble_eq_true rfl) (Nat.le_of_ble_eq_true rfl) ?_
          refine lv_if_eq (tgt := 86) hx hb dX3_readUnit_79 (by decide) (fun c79 => ?_) (fun c79 => ?_)
          · skip
            have tc79 := f_eq (k := 0) (by decide) c79
            exact J86  _ _ _  hH hS (lv_sub hl [] rfl)
          · skip
            have tc79 := f_ne (k := 0) (by decide) c79
            refine lv_iconst (v := 1) hx hb dX3_readUnit_82 (by decide) ?_
            refine lv_goto (tgt := 87) hx hb dX3_readUnit_83 (by decide) ?_
            exact J87 1 _ _ _ (by decide) (by decide) hH hS (lv_sub hl [] rfl)
  · skip
    have tc9 := f_ne (k := 0) (by decide) c9
    refine lv_aload_n hx hb dX3_readUnit_12 rfl (lv_at hl 0 rfl) ?_
    refine lv_iload_n hx hb dX3_readUnit_13 rfl (lv_at hl 1 rfl) ?_
    refine tk_i hH hS hA (tr_V (n := 1) (As := [.int x1]) hx hb hml hown hts hkb hH hOX hks hE hS hA (s_LR_enter0 l D cs kf T O X a0 x1 t_a0 (by omega) (by omega) (hO.sub (by decide))) kw_636 kw_638 ks_8 kw_4 kw_639 (by decide +kernel) ⟨Nat.le_of_ble_eq_true rfl, Nat.le_of_ble_eq_true rfl⟩ (HT.recv (ci := 3) hkb hH t_a0 (hO.no t_a0 (by decide)) rfl) rfl rfl hl.1 (Nat.le_of_ble_eq_true rfl) dX3_readUnit_14 ⟨Nat.le_of_ble_eq_true rfl, Nat.le_of_ble_eq_true rfl⟩) (fun v14 u H locs hz9 hH hS => ?_)
    obtain ⟨rfl, l_v14, u_v14⟩ := hz9
    have hH : HT D cs A T O X H := hH
    refine W.widen (k := 0) (n := 0) (Nat.le_of_ble_eq_true rfl) (Nat.le_of_ble_eq_true rfl) ?_
    refine lv_if_eq (tgt := 30) hx hb dX3_readUnit_17 (by decide) (fun c17 => ?_) (fun c17 => ?_)
    · skip
      have tc17 := f_eq (k := 0) (by decide) c17
      exfalso; omega
    · skip
      have tc17 := f_ne (k := 0) (by decide) c17
      refine lv_aload_n hx hb dX3_readUnit_20 rfl (lv_at hl 0 rfl) ?_
      refine lv_iload_n hx hb dX3_readUnit_21 rfl (lv_at hl 1 rfl) ?_
      refine lv_iconst (v := 1) hx hb dX3_readUnit_22 (by decide) ?_
      refine lv_iadd hx hb dX3_readUnit_23 ?_
      refine lv_topi (fun v23 ev23 => ?_)
      have tv23 : v23.toInt = x1.toInt + (1) := by rw [ev23]; exact add_i rfl (by decide : (1 : Int32).toInt = 1) (by omega) (by omega)
      refine tk_i hH hS hA (tr_V (n := 1) (As := [.int v23]) hx hb hml hown hts hkb hH hOX hks hE hS hA (s_LR_readUnit1 l D cs kf T O X a0 v23 t_a0 (by omega) (by omega) (hO.sub (by decide))) kw_630 kw_632 ks_7 kw_4 kw_633 (by decide +kernel) ⟨Nat.le_of_ble_eq_true rfl, Nat.le_of_ble_eq_true rfl⟩ (HT.recv (ci := 3) hkb hH t_a0 (hO.no t_a0 (by decide)) rfl) rfl rfl hl.1 (Nat.le_of_ble_eq_true rfl) dX3_readUnit_24 ⟨Nat.le_of_ble_eq_true rfl, Nat.le_of_ble_eq_true rfl⟩) (fun v24 u H locs hz9 hH hS => ?_)
      obtain ⟨rfl, l_v24, u_v24⟩ := hz9
      have hH : HT D cs A T O X H := hH
      refine W.widen (k := 0) (n := 0) (Nat.le_of_ble_eq_true rfl) (Nat.le_of_ble_eq_true rfl) ?_
      refine lv_if_ne (tgt := 32) hx hb dX3_readUnit_27 (by decide) (fun c27 => ?_) (fun c27 => ?_)
      · skip
        have tc27 := f_ne (k := 0) (by decide) c27
        refine lv_aload_n hx hb dX3_readUnit_32 rfl (lv_at hl 0 rfl) ?_
        refine lv_iconst (v := 2) hx hb dX3_readUnit_33 (by decide) ?_
        refine lv_iconst (v := 0) hx hb dX3_readUnit_34 (by decide) ?_
        refine tk_v hH hS hA (tr_V (n := 2) (As := [.int 2, .int 0]) hx hb hml hown hts hkb hH hOX hks hE hS hA (s_LR_put l D cs kf T O X a0 (2) (0) t_a0 (hO.sub (by decide))) kw_642 kw_644 ks_9 kw_4 kw_645 (by decide +kernel) ⟨Nat.le_of_ble_eq_true rfl, Nat.le_of_ble_eq_true rfl⟩ (HT.recv (ci := 3) hkb hH t_a0 (hO.no t_a0 (by decide)) rfl) rfl rfl hl.1 (Nat.le_of_ble_eq_true rfl) dX3_readUnit_35 ⟨Nat.le_of_ble_eq_true rfl, Nat.le_of_ble_eq_true rfl⟩) (fun u H locs hz9 hH hS => ?_)
        have hz9 : u = (T, O, X) := hz9
        subst hz9
        have hH : HT D cs A T O X H := hH
        refine W.widen (k := 0) (n := 0) (Nat.le_of_ble_eq_true rfl) (Nat.le_of_ble_eq_true rfl) ?_
        refine lv_iconst (v := 1) hx hb dX3_readUnit_38 (by decide) ?_
        exact te_z hx hb hr hlocks (by rfl) hH hS (⟨rfl, by decide, by decide⟩) dX3_readUnit_39
      · skip
        have tc27 := f_eq (k := 0) (by decide) c27
        refine lv_iconst (v := 0) hx hb dX3_readUnit_30 (by decide) ?_
        exact te_z hx hb hr hlocks (by rfl) hH hS (⟨rfl, by decide, by decide⟩) dX3_readUnit_31
set_option maxHeartbeats 4000000 in
set_option maxRecDepth 100000 in
theorem s_LR_readBoth0 (l : Launch) (D : va_G) (cs : CS) (kf : KF) (T : TF) (O : List Nat) (X : va_W) (a0 : Nat) (x1 : Int32) (t_a0 : T a0 = some (13, 0, 0)) (l_x1 : 0 ≤ x1.toInt) (u_x1 : x1.toInt ≤ 0) (hO : okO T O [0, 1, 13, 17]) : TK l D cs kf yX3_readBoth cX3_readBoth 5 (some (.boolean)) { frames := 28, cells := 0, slots := 0, locals := 638 } [.ref a0, .int x1] T O X (Ti D cs (fun r u => u = (T, O, X) ∧ 0 ≤ r.toInt ∧ r.toInt ≤ 1)) := by
  refine tk_of (by decide) (Nat.le_of_ble_eq_true rfl) (fun p e s m below meth c ls A H locs hx hb hr hml hown hts hlocks hnm hkb hH hS hA hOX hks hE hl => ?_)
  have hown : s.vm.findClass RX3 = some m.cls := hown
  have hl : lv_has ls 5 [(0, .ref a0), (1, .int x1)] := hl
  refine lv_aload_n hx hb dX3_readBoth_0 rfl (lv_at hl 0 rfl) ?_
  refine lv_iload_n hx hb dX3_readBoth_1 rfl (lv_at hl 1 rfl) ?_
  refine tk_i hH hS hA (tr_V (n := 1) (As := [.int x1]) hx hb hml hown hts hkb hH hOX hks hE hS hA (s_LR_readUnit0 l D cs kf T O X a0 x1 t_a0 (by omega) (by omega) (hO.sub (by decide))) kw_630 kw_632 ks_7 kw_4 kw_633 (by decide +kernel) ⟨Nat.le_of_ble_eq_true rfl, Nat.le_of_ble_eq_true rfl⟩ (HT.recv (ci := 3) hkb hH t_a0 (hO.no t_a0 (by decide)) rfl) rfl rfl hl.1 (Nat.le_of_ble_eq_true rfl) dX3_readBoth_2 ⟨Nat.le_of_ble_eq_true rfl, Nat.le_of_ble_eq_true rfl⟩) (fun v2 u H locs hz9 hH hS => ?_)
  obtain ⟨rfl, l_v2, u_v2⟩ := hz9
  have hH : HT D cs A T O X H := hH
  refine W.widen (k := 0) (n := 0) (Nat.le_of_ble_eq_true rfl) (Nat.le_of_ble_eq_true rfl) ?_
  refine lv_istore_n (lv' := [(2, .int v2), (0, .ref a0), (1, .int x1)]) hx hb dX3_readBoth_5 rfl hl (by decide) rfl (fun ls hl => ?_)
  refine lv_iconst (v := 0) hx hb dX3_readBoth_6 (by decide) ?_
  have J8 : ∀ (n : Nat) (p8_3 : Int32) (p8_2 : Int32) (H : Heap) (locs : List Loc) (ls : Array Slot), (900 - p8_3.toInt).toNat = n → (0 ≤ p8_3.toInt) → (p8_3.toInt ≤ 900) → (0 ≤ p8_2.toInt) → (p8_2.toInt ≤ 1) → HT D cs A T O X H → va_S A s.heap H locs → lv_has ls 5 [(3, .int p8_3), (2, .int p8_2), (0, .ref a0), (1, .int x1)] → W p l e { frames := 28, cells := 0, slots := 0, locals := 638 } s m [.ref a0, .int x1].toArray below meth c H locs 0 0 (MQ below (Ti D cs (fun r u => u = (T, O, X) ∧ 0 ≤ r.toInt ∧ r.toInt ≤ 1) A) [.ref a0, .int x1].toArray s 0 0 A) (F0 m 8 ls []) := by
    intro n
    induction n using Nat.strongRecOn with
    | _ n ih8 =>
      intro p8_3 p8_2 H locs ls hm8 l_p8_3 u_p8_3 l_p8_2 u_p8_2 hH hS hl
      refine lv_iload_n hx hb dX3_readBoth_8 rfl (lv_at hl 0 rfl) ?_
      refine lv_sipush (v := 900) hx hb dX3_readBoth_9 (by decide) ?_
      have J68 : ∀  (H : Heap) (locs : List Loc) (ls : Array Slot), HT D cs A T O X H → va_S A s.heap H locs → lv_has ls 5 [(2, .int p8_2)] → W p l e { frames := 28, cells := 0, slots := 0, locals := 638 } s m [.ref a0, .int x1].toArray below meth c H locs 0 0 (MQ below (Ti D cs (fun r u => u = (T, O, X) ∧ 0 ≤ r.toInt ∧ r.toInt ≤ 1) A) [.ref a0, .int x1].toArray s 0 0 A) (F0 m 68 ls []) := by
        intro  H locs ls  hH hS hl
        refine lv_iload_n hx hb dX3_readBoth_68 rfl (lv_at hl 0 rfl) ?_
        exact te_z hx hb hr hlocks (nar01 (by omega) (by omega)) hH hS (⟨rfl, by omega, by omega⟩) dX3_readBoth_69
      refine lv_icmp_ge (tgt := 68) hx hb dX3_readBoth_12 (by decide) (fun c12 => ?_) (fun c12 => ?_)
      · skip
        have tc12 := f_ge (k := 900) (by decide) c12
        exact J68  _ _ _  hH hS (lv_sub hl [1] rfl)
      · skip
        have tc12 := f_nge (k := 900) (by decide) c12
        refine lv_iload_n hx hb dX3_readBoth_15 rfl (lv_at hl 1 rfl) ?_
        refine lv_if_eq (tgt := 68) hx hb dX3_readBoth_16 (by decide) (fun c16 => ?_) (fun c16 => ?_)
        · skip
          have tc16 := f_eq (k := 0) (by decide) c16
          exact J68  _ _ _  hH hS (lv_sub hl [1] rfl)
        · skip
          have tc16 := f_ne (k := 0) (by decide) c16
          refine lv_aload_n hx hb dX3_readBoth_19 rfl (lv_at hl 2 rfl) ?_
          refine t_get (ci := 3) (lst := ft3 0 0) (C := RX3) (F := TX3) (N := 3) hx hb hts uX3 hown hkb hH t_a0 (hO.no t_a0 (by decide)) (fun _ h9 => h9) rfl rfl 0 (by decide) rfl kw_82 (fun _ h9 => h9) dX3_readBoth_20 (fun v9 h9 => ?_)
          obtain ⟨v20, rfl, t_v20⟩ := h9
          refine va_ldcS (q := kf.1 15) hx hb hown (hks ("FootholdWall$LawReader", 63, "and", 15) (by decide +kernel)) dX3_readBoth_23 ?_
          refine tk_i hH hS hA (tr_V (n := 1) (As := [.ref (kf.1 15)]) hx hb hml hown hts hkb hH hOX hks hE hS hA (s_Tok_isWord l D cs kf T O X v20 15 t_v20 (by decide) (hO.sub (by decide))) kw_635 kw_551 kw_552 kw_3 kw_553 (by decide +kernel) ⟨Nat.le_of_ble_eq_true rfl, Nat.le_of_ble_eq_true rfl⟩ (HT.recv (ci := 7) hkb hH t_v20 (hO.no t_v20 (by decide)) rfl) rfl rfl hl.1 (Nat.le_of_ble_eq_true rfl) dX3_readBoth_25 ⟨Nat.le_of_ble_eq_true rfl, Nat.le_of_ble_eq_true rfl⟩) (fun v25 u H locs hz9 hH hS => ?_)
          obtain ⟨rfl, l_v25, u_v25⟩ := hz9
          have hH : HT D cs A T O X H := hH
          refine W.widen (k := 0) (n := 0) (Nat.le_of_ble_eq_true rfl) (Nat.le_of_ble_eq_true rfl) ?_
          refine lv_if_eq (tgt := 68) hx hb dX3_readBoth_28 (by decide) (fun c28 => ?_) (fun c28 => ?_)
          · skip
            have tc28 := f_eq (k := 0) (by decide) c28
            exact J68  _ _ _  hH hS (lv_sub hl [1] rfl)
          · skip
            have tc28 := f_ne (k := 0) (by decide) c28
            refine lv_aload_n hx hb dX3_readBoth_31 rfl (lv_at hl 2 rfl) ?_
            refine t_get (ci := 3) (lst := ft3 0 0) (C := RX3) (F := TX3) (N := 3) hx hb hts uX3 hown hkb hH t_a0 (hO.no t_a0 (by decide)) (fun _ h9 => h9) rfl rfl 0 (by decide) rfl kw_82 (fun _ h9 => h9) dX3_readBoth_32 (fun v9 h9 => ?_)
            obtain ⟨v32, rfl, t_v32⟩ := h9
            refine tk_v hH hS hA (tr_V (n := 0) (As := []) hx hb hml hown hts hkb hH hOX hks hE hS hA (s_Tok_go l D cs kf T O X v32 t_v32 (hO.sub (by decide))) kw_641 kw_453 kw_454 kw_3 kw_455 (by decide +kernel) ⟨Nat.le_of_ble_eq_true rfl, Nat.le_of_ble_eq_true rfl⟩ (HT.recv (ci := 7) hkb hH t_v32 (hO.no t_v32 (by decide)) rfl) rfl rfl hl.1 (Nat.le_of_ble_eq_true rfl) dX3_readBoth_35 ⟨Nat.le_of_ble_eq_true rfl, Nat.le_of_ble_eq_true rfl⟩) (fun u H locs hz9 hH hS => ?_)
            have hz9 : u = (T, O, X) := hz9
            subst hz9
            have hH : HT D cs A T O X H := hH
            refine W.widen (k := 0) (n := 0) (Nat.le_of_ble_eq_true rfl) (Nat.le_of_ble_eq_true rfl) ?_
            refine lv_aload_n hx hb dX3_readBoth_38 rfl (lv_at hl 2 rfl) ?_
            refine t_get (ci := 3) (lst := ft3 0 0) (C := RX3) (F := TX3) (N := 3) hx hb hts uX3 hown hkb hH t_a0 (hO.no t_a0 (by decide)) (fun _ h9 => h9) rfl rfl 2 (by decide) rfl kw_84 (fun _ h9 => h9) dX3_readBoth_39 (fun v9 h9 => ?_)
            obtain ⟨v39, rfl, l_v39, u_v39⟩ := h9
            refine lv_istore (lv' := [(4, .int v39), (3, .int p8_3), (2, .int p8_2), (0, .ref a0), (1, .int x1)]) hx hb dX3_readBoth_42 hl (by decide) rfl (fun ls hl => ?_)
            refine lv_aload_n hx hb dX3_readBoth_44 rfl (lv_at hl 3 rfl) ?_
            refine lv_iconst (v := 3) hx hb dX3_readBoth_45 (by decide) ?_
            refine lv_iconst (v := 0) hx hb dX3_readBoth_46 (by decide) ?_
            refine tk_v hH hS hA (tr_V (n := 2) (As := [.int 3, .int 0]) hx hb hml hown hts hkb hH hOX hks hE hS hA (s_LR_put l D cs kf T O X a0 (3) (0) t_a0 (hO.sub (by decide))) kw_642 kw_644 ks_9 kw_4 kw_645 (by decide +kernel) ⟨Nat.le_of_ble_eq_true rfl, Nat.le_of_ble_eq_true rfl⟩ (HT.recv (ci := 3) hkb hH t_a0 (hO.no t_a0 (by decide)) rfl) rfl rfl hl.1 (Nat.le_of_ble_eq_true rfl) dX3_readBoth_47 ⟨Nat.le_of_ble_eq_true rfl, Nat.le_of_ble_eq_true rfl⟩) (fun u H locs hz9 hH hS => ?_)
            have hz9 : u = (T, O, X) := hz9
            subst hz9
            have hH : HT D cs A T O X H := hH
            refine W.widen (k := 0) (n := 0) (Nat.le_of_ble_eq_true rfl) (Nat.le_of_ble_eq_true rfl) ?_
            refine lv_aload_n hx hb dX3_readBoth_50 rfl (lv_at hl 3 rfl) ?_
            refine lv_iload_n hx hb dX3_readBoth_51 rfl (lv_at hl 4 rfl) ?_
            refine tk_i hH hS hA (tr_V (n := 1) (As := [.int x1]) hx hb hml hown hts hkb hH hOX hks hE hS hA (s_LR_readUnit0 l D cs kf T O X a0 x1 t_a0 (by omega) (by omega) (hO.sub (by decide))) kw_630 kw_632 ks_7 kw_4 kw_633 (by decide +kernel) ⟨Nat.le_of_ble_eq_true rfl, Nat.le_of_ble_eq_true rfl⟩ (HT.recv (ci := 3) hkb hH t_a0 (hO.no t_a0 (by decide)) rfl) rfl rfl hl.1 (Nat.le_of_ble_eq_true rfl) dX3_readBoth_52 ⟨Nat.le_of_ble_eq_true rfl, Nat.le_of_ble_eq_true rfl⟩) (fun v52 u H locs hz9 hH hS => ?_)
            obtain ⟨rfl, l_v52, u_v52⟩ := hz9
            have hH : HT D cs A T O X H := hH
            refine W.widen (k := 0) (n := 0) (Nat.le_of_ble_eq_true rfl) (Nat.le_of_ble_eq_true rfl) ?_
            refine lv_istore_n (lv' := [(2, .int v52), (4, .int v39), (3, .int p8_3), (0, .ref a0), (1, .int x1)]) hx hb dX3_readBoth_55 rfl hl (by decide) rfl (fun ls hl => ?_)
            refine lv_aload_n hx hb dX3_readBoth_56 rfl (lv_at hl 3 rfl) ?_
            refine lv_iload hx hb dX3_readBoth_57 (lv_at hl 1 rfl) ?_
            refine tk_v hH hS hA (tr_V (n := 1) (As := [.int v39]) hx hb hml hown hts hkb hH hOX hks hE hS hA (s_LR_aimSkip l D cs kf T O X a0 v39 t_a0 (hO.sub (by decide))) kw_672 kw_674 ks_14 kw_4 kw_675 (by decide +kernel) ⟨Nat.le_of_ble_eq_true rfl, Nat.le_of_ble_eq_true rfl⟩ (HT.recv (ci := 3) hkb hH t_a0 (hO.no t_a0 (by decide)) rfl) rfl rfl hl.1 (Nat.le_of_ble_eq_true rfl) dX3_readBoth_59 ⟨Nat.le_of_ble_eq_true rfl, Nat.le_of_ble_eq_true rfl⟩) (fun u H locs hz9 hH hS => ?_)
            have hz9 : u = (T, O, X) := hz9
            subst hz9
            have hH : HT D cs A T O X H := hH
            refine W.widen (k := 0) (n := 0) (Nat.le_of_ble_eq_true rfl) (Nat.le_of_ble_eq_true rfl) ?_
            obtain ⟨v62, ev62⟩ : ∃ y : Int32, y = p8_3 + 1 := ⟨_, rfl⟩
            have tv62 : v62.toInt = p8_3.toInt + (1) := by rw [ev62]; exact add_i rfl (by decide) (by omega) (by omega)
            refine lv_iinc (v := v62) (lv' := [(3, .int v62), (2, .int v52), (4, .int v39), (0, .ref a0), (1, .int x1)]) hx hb dX3_readBoth_62 hl (k := 2) rfl (by rw [ev62]; rfl) (by decide) rfl (fun ls hl => ?_)
            refine lv_goto (tgt := 8) hx hb dX3_readBoth_65 (by decide) ?_
            exact ih8 _ (by omega) v62 v52 _ _ _ rfl (by omega) (by omega) (by omega) (by omega) hH hS (lv_sub hl [0, 1, 3, 4] rfl)
  refine lv_istore_n (lv' := [(3, .int 0), (2, .int v2), (0, .ref a0), (1, .int x1)]) hx hb dX3_readBoth_7 rfl hl (by decide) rfl (fun ls hl => ?_)
  exact J8 _ 0 v2 _ _ _ rfl (by decide) (by decide) (by omega) (by omega) hH hS (lv_sub hl [0, 1, 2, 3] rfl)
set_option maxHeartbeats 4000000 in
set_option maxRecDepth 100000 in
theorem s_LR_readTruth0 (l : Launch) (D : va_G) (cs : CS) (kf : KF) (T : TF) (O : List Nat) (X : va_W) (a0 : Nat) (x1 : Int32) (t_a0 : T a0 = some (13, 0, 0)) (l_x1 : 0 ≤ x1.toInt) (u_x1 : x1.toInt ≤ 0) (hO : okO T O [0, 1, 13, 17]) : TK l D cs kf yX3_readTruth cX3_readTruth 5 (some (.boolean)) { frames := 29, cells := 0, slots := 0, locals := 662 } [.ref a0, .int x1] T O X (Ti D cs (fun r u => u = (T, O, X) ∧ 0 ≤ r.toInt ∧ r.toInt ≤ 1)) := by
  refine tk_of (by decide) (Nat.le_of_ble_eq_true rfl) (fun p e s m below meth c ls A H locs hx hb hr hml hown hts hlocks hnm hkb hH hS hA hOX hks hE hl => ?_)
  have hown : s.vm.findClass RX3 = some m.cls := hown
  have hl : lv_has ls 5 [(0, .ref a0), (1, .int x1)] := hl
  refine lv_aload_n hx hb dX3_readTruth_0 rfl (lv_at hl 0 rfl) ?_
  refine lv_iload_n hx hb dX3_readTruth_1 rfl (lv_at hl 1 rfl) ?_
  refine tk_i hH hS hA (tr_V (n := 1) (As := [.int x1]) hx hb hml hown hts hkb hH hOX hks hE hS hA (s_LR_readBoth0 l D cs kf T O X a0 x1 t_a0 (by omega) (by omega) (hO.sub (by decide))) kw_626 kw_628 ks_6 kw_4 kw_629 (by decide +kernel) ⟨Nat.le_of_ble_eq_true rfl, Nat.le_of_ble_eq_true rfl⟩ (HT.recv (ci := 3) hkb hH t_a0 (hO.no t_a0 (by decide)) rfl) rfl rfl hl.1 (Nat.le_of_ble_eq_true rfl) dX3_readTruth_2 ⟨Nat.le_of_ble_eq_true rfl, Nat.le_of_ble_eq_true rfl⟩) (fun v2 u H locs hz9 hH hS => ?_)
  obtain ⟨rfl, l_v2, u_v2⟩ := hz9
  have hH : HT D cs A T O X H := hH
  refine W.widen (k := 0) (n := 0) (Nat.le_of_ble_eq_true rfl) (Nat.le_of_ble_eq_true rfl) ?_
  refine lv_istore_n (lv' := [(2, .int v2), (0, .ref a0), (1, .int x1)]) hx hb dX3_readTruth_5 rfl hl (by decide) rfl (fun ls hl => ?_)
  refine lv_iconst (v := 0) hx hb dX3_readTruth_6 (by decide) ?_
  have J8 : ∀ (n : Nat) (p8_3 : Int32) (p8_2 : Int32) (H : Heap) (locs : List Loc) (ls : Array Slot), (900 - p8_3.toInt).toNat = n → (0 ≤ p8_3.toInt) → (p8_3.toInt ≤ 900) → (0 ≤ p8_2.toInt) → (p8_2.toInt ≤ 1) → HT D cs A T O X H → va_S A s.heap H locs → lv_has ls 5 [(3, .int p8_3), (2, .int p8_2), (0, .ref a0), (1, .int x1)] → W p l e { frames := 29, cells := 0, slots := 0, locals := 662 } s m [.ref a0, .int x1].toArray below meth c H locs 0 0 (MQ below (Ti D cs (fun r u => u = (T, O, X) ∧ 0 ≤ r.toInt ∧ r.toInt ≤ 1) A) [.ref a0, .int x1].toArray s 0 0 A) (F0 m 8 ls []) := by
    intro n
    induction n using Nat.strongRecOn with
    | _ n ih8 =>
      intro p8_3 p8_2 H locs ls hm8 l_p8_3 u_p8_3 l_p8_2 u_p8_2 hH hS hl
      refine lv_iload_n hx hb dX3_readTruth_8 rfl (lv_at hl 0 rfl) ?_
      refine lv_sipush (v := 900) hx hb dX3_readTruth_9 (by decide) ?_
      have J68 : ∀  (H : Heap) (locs : List Loc) (ls : Array Slot), HT D cs A T O X H → va_S A s.heap H locs → lv_has ls 5 [(2, .int p8_2)] → W p l e { frames := 29, cells := 0, slots := 0, locals := 662 } s m [.ref a0, .int x1].toArray below meth c H locs 0 0 (MQ below (Ti D cs (fun r u => u = (T, O, X) ∧ 0 ≤ r.toInt ∧ r.toInt ≤ 1) A) [.ref a0, .int x1].toArray s 0 0 A) (F0 m 68 ls []) := by
        intro  H locs ls  hH hS hl
        refine lv_iload_n hx hb dX3_readTruth_68 rfl (lv_at hl 0 rfl) ?_
        exact te_z hx hb hr hlocks (nar01 (by omega) (by omega)) hH hS (⟨rfl, by omega, by omega⟩) dX3_readTruth_69
      refine lv_icmp_ge (tgt := 68) hx hb dX3_readTruth_12 (by decide) (fun c12 => ?_) (fun c12 => ?_)
      · skip
        have tc12 := f_ge (k := 900) (by decide) c12
        exact J68  _ _ _  hH hS (lv_sub hl [1] rfl)
      · skip
        have tc12 := f_nge (k := 900) (by decide) c12
        refine lv_iload_n hx hb dX3_readTruth_15 rfl (lv_at hl 1 rfl) ?_
        refine lv_if_eq (tgt := 68) hx hb dX3_readTruth_16 (by decide) (fun c16 => ?_) (fun c16 => ?_)
        · skip
          have tc16 := f_eq (k := 0) (by decide) c16
          exact J68  _ _ _  hH hS (lv_sub hl [1] rfl)
        · skip
          have tc16 := f_ne (k := 0) (by decide) c16
          refine lv_aload_n hx hb dX3_readTruth_19 rfl (lv_at hl 2 rfl) ?_
          refine t_get (ci := 3) (lst := ft3 0 0) (C := RX3) (F := TX3) (N := 3) hx hb hts uX3 hown hkb hH t_a0 (hO.no t_a0 (by decide)) (fun _ h9 => h9) rfl rfl 0 (by decide) rfl kw_82 (fun _ h9 => h9) dX3_readTruth_20 (fun v9 h9 => ?_)
          obtain ⟨v20, rfl, t_v20⟩ := h9
          refine va_ldcS (q := kf.1 16) hx hb hown (hks ("FootholdWall$LawReader", 41, "or", 16) (by decide +kernel)) dX3_readTruth_23 ?_
          refine tk_i hH hS hA (tr_V (n := 1) (As := [.ref (kf.1 16)]) hx hb hml hown hts hkb hH hOX hks hE hS hA (s_Tok_isWord l D cs kf T O X v20 16 t_v20 (by decide) (hO.sub (by decide))) kw_635 kw_551 kw_552 kw_3 kw_553 (by decide +kernel) ⟨Nat.le_of_ble_eq_true rfl, Nat.le_of_ble_eq_true rfl⟩ (HT.recv (ci := 7) hkb hH t_v20 (hO.no t_v20 (by decide)) rfl) rfl rfl hl.1 (Nat.le_of_ble_eq_true rfl) dX3_readTruth_25 ⟨Nat.le_of_ble_eq_true rfl, Nat.le_of_ble_eq_true rfl⟩) (fun v25 u H locs hz9 hH hS => ?_)
          obtain ⟨rfl, l_v25, u_v25⟩ := hz9
          have hH : HT D cs A T O X H := hH
          refine W.widen (k := 0) (n := 0) (Nat.le_of_ble_eq_true rfl) (Nat.le_of_ble_eq_true rfl) ?_
          refine lv_if_eq (tgt := 68) hx hb dX3_readTruth_28 (by decide) (fun c28 => ?_) (fun c28 => ?_)
          · skip
            have tc28 := f_eq (k := 0) (by decide) c28
            exact J68  _ _ _  hH hS (lv_sub hl [1] rfl)
          · skip
            have tc28 := f_ne (k := 0) (by decide) c28
            refine lv_aload_n hx hb dX3_readTruth_31 rfl (lv_at hl 2 rfl) ?_
            refine t_get (ci := 3) (lst := ft3 0 0) (C := RX3) (F := TX3) (N := 3) hx hb hts uX3 hown hkb hH t_a0 (hO.no t_a0 (by decide)) (fun _ h9 => h9) rfl rfl 0 (by decide) rfl kw_82 (fun _ h9 => h9) dX3_readTruth_32 (fun v9 h9 => ?_)
            obtain ⟨v32, rfl, t_v32⟩ := h9
            refine tk_v hH hS hA (tr_V (n := 0) (As := []) hx hb hml hown hts hkb hH hOX hks hE hS hA (s_Tok_go l D cs kf T O X v32 t_v32 (hO.sub (by decide))) kw_641 kw_453 kw_454 kw_3 kw_455 (by decide +kernel) ⟨Nat.le_of_ble_eq_true rfl, Nat.le_of_ble_eq_true rfl⟩ (HT.recv (ci := 7) hkb hH t_v32 (hO.no t_v32 (by decide)) rfl) rfl rfl hl.1 (Nat.le_of_ble_eq_true rfl) dX3_readTruth_35 ⟨Nat.le_of_ble_eq_true rfl, Nat.le_of_ble_eq_true rfl⟩) (fun u H locs hz9 hH hS => ?_)
            have hz9 : u = (T, O, X) := hz9
            subst hz9
            have hH : HT D cs A T O X H := hH
            refine W.widen (k := 0) (n := 0) (Nat.le_of_ble_eq_true rfl) (Nat.le_of_ble_eq_true rfl) ?_
            refine lv_aload_n hx hb dX3_readTruth_38 rfl (lv_at hl 2 rfl) ?_
            refine t_get (ci := 3) (lst := ft3 0 0) (C := RX3) (F := TX3) (N := 3) hx hb hts uX3 hown hkb hH t_a0 (hO.no t_a0 (by decide)) (fun _ h9 => h9) rfl rfl 2 (by decide) rfl kw_84 (fun _ h9 => h9) dX3_readTruth_39 (fun v9 h9 => ?_)
            obtain ⟨v39, rfl, l_v39, u_v39⟩ := h9
            refine lv_istore (lv' := [(4, .int v39), (3, .int p8_3), (2, .int p8_2), (0, .ref a0), (1, .int x1)]) hx hb dX3_readTruth_42 hl (by decide) rfl (fun ls hl => ?_)
            refine lv_aload_n hx hb dX3_readTruth_44 rfl (lv_at hl 3 rfl) ?_
            refine lv_iconst (v := 4) hx hb dX3_readTruth_45 (by decide) ?_
            refine lv_iconst (v := 0) hx hb dX3_readTruth_46 (by decide) ?_
            refine tk_v hH hS hA (tr_V (n := 2) (As := [.int 4, .int 0]) hx hb hml hown hts hkb hH hOX hks hE hS hA (s_LR_put l D cs kf T O X a0 (4) (0) t_a0 (hO.sub (by decide))) kw_642 kw_644 ks_9 kw_4 kw_645 (by decide +kernel) ⟨Nat.le_of_ble_eq_true rfl, Nat.le_of_ble_eq_true rfl⟩ (HT.recv (ci := 3) hkb hH t_a0 (hO.no t_a0 (by decide)) rfl) rfl rfl hl.1 (Nat.le_of_ble_eq_true rfl) dX3_readTruth_47 ⟨Nat.le_of_ble_eq_true rfl, Nat.le_of_ble_eq_true rfl⟩) (fun u H locs hz9 hH hS => ?_)
            have hz9 : u = (T, O, X) := hz9
            subst hz9
            have hH : HT D cs A T O X H := hH
            refine W.widen (k := 0) (n := 0) (Nat.le_of_ble_eq_true rfl) (Nat.le_of_ble_eq_true rfl) ?_
            refine lv_aload_n hx hb dX3_readTruth_50 rfl (lv_at hl 3 rfl) ?_
            refine lv_iload_n hx hb dX3_readTruth_51 rfl (lv_at hl 4 rfl) ?_
            refine tk_i hH hS hA (tr_V (n := 1) (As := [.int x1]) hx hb hml hown hts hkb hH hOX hks hE hS hA (s_LR_readBoth0 l D cs kf T O X a0 x1 t_a0 (by omega) (by omega) (hO.sub (by decide))) kw_626 kw_628 ks_6 kw_4 kw_629 (by decide +kernel) ⟨Nat.le_of_ble_eq_true rfl, Nat.le_of_ble_eq_true rfl⟩ (HT.recv (ci := 3) hkb hH t_a0 (hO.no t_a0 (by decide)) rfl) rfl rfl hl.1 (Nat.le_of_ble_eq_true rfl) dX3_readTruth_52 ⟨Nat.le_of_ble_eq_true rfl, Nat.le_of_ble_eq_true rfl⟩) (fun v52 u H locs hz9 hH hS => ?_)
            obtain ⟨rfl, l_v52, u_v52⟩ := hz9
            have hH : HT D cs A T O X H := hH
            refine W.widen (k := 0) (n := 0) (Nat.le_of_ble_eq_true rfl) (Nat.le_of_ble_eq_true rfl) ?_
            refine lv_istore_n (lv' := [(2, .int v52), (4, .int v39), (3, .int p8_3), (0, .ref a0), (1, .int x1)]) hx hb dX3_readTruth_55 rfl hl (by decide) rfl (fun ls hl => ?_)
            refine lv_aload_n hx hb dX3_readTruth_56 rfl (lv_at hl 3 rfl) ?_
            refine lv_iload hx hb dX3_readTruth_57 (lv_at hl 1 rfl) ?_
            refine tk_v hH hS hA (tr_V (n := 1) (As := [.int v39]) hx hb hml hown hts hkb hH hOX hks hE hS hA (s_LR_aimSkip l D cs kf T O X a0 v39 t_a0 (hO.sub (by decide))) kw_672 kw_674 ks_14 kw_4 kw_675 (by decide +kernel) ⟨Nat.le_of_ble_eq_true rfl, Nat.le_of_ble_eq_true rfl⟩ (HT.recv (ci := 3) hkb hH t_a0 (hO.no t_a0 (by decide)) rfl) rfl rfl hl.1 (Nat.le_of_ble_eq_true rfl) dX3_readTruth_59 ⟨Nat.le_of_ble_eq_true rfl, Nat.le_of_ble_eq_true rfl⟩) (fun u H locs hz9 hH hS => ?_)
            have hz9 : u = (T, O, X) := hz9
            subst hz9
            have hH : HT D cs A T O X H := hH
            refine W.widen (k := 0) (n := 0) (Nat.le_of_ble_eq_true rfl) (Nat.le_of_ble_eq_true rfl) ?_
            obtain ⟨v62, ev62⟩ : ∃ y : Int32, y = p8_3 + 1 := ⟨_, rfl⟩
            have tv62 : v62.toInt = p8_3.toInt + (1) := by rw [ev62]; exact add_i rfl (by decide) (by omega) (by omega)
            refine lv_iinc (v := v62) (lv' := [(3, .int v62), (2, .int v52), (4, .int v39), (0, .ref a0), (1, .int x1)]) hx hb dX3_readTruth_62 hl (k := 2) rfl (by rw [ev62]; rfl) (by decide) rfl (fun ls hl => ?_)
            refine lv_goto (tgt := 8) hx hb dX3_readTruth_65 (by decide) ?_
            exact ih8 _ (by omega) v62 v52 _ _ _ rfl (by omega) (by omega) (by omega) (by omega) hH hS (lv_sub hl [0, 1, 3, 4] rfl)
  refine lv_istore_n (lv' := [(3, .int 0), (2, .int v2), (0, .ref a0), (1, .int x1)]) hx hb dX3_readTruth_7 rfl hl (by decide) rfl (fun ls hl => ?_)
  exact J8 _ 0 v2 _ _ _ rfl (by decide) (by decide) (by omega) (by omega) hH hS (lv_sub hl [0, 1, 2, 3] rfl)
set_option maxHeartbeats 4000000 in
set_option maxRecDepth 100000 in
theorem s_LR_read (l : Launch) (D : va_G) (cs : CS) (kf : KF) (T : TF) (O : List Nat) (X : va_W) (a0 : Nat) (t_a0 : T a0 = some (13, 0, 0)) (hO : okO T O [0, 1, 13, 17]) : TK l D cs kf yX3_read cX3_read 1 (some (.boolean)) { frames := 30, cells := 0, slots := 0, locals := 686 } [.ref a0] T O X (Ti D cs (fun r u => u = (T, O, X) ∧ 0 ≤ r.toInt ∧ r.toInt ≤ 1)) := by
  refine tk_of (by decide) (Nat.le_of_ble_eq_true rfl) (fun p e s m below meth c ls A H locs hx hb hr hml hown hts hlocks hnm hkb hH hS hA hOX hks hE hl => ?_)
  have hown : s.vm.findClass RX3 = some m.cls := hown
  have hl : lv_has ls 1 [(0, .ref a0)] := hl
  refine lv_aload_n hx hb dX3_read_0 rfl (lv_at hl 0 rfl) ?_
  refine lv_iconst (v := 0) hx hb dX3_read_1 (by decide) ?_
  refine t_put (ci := 3) (lst := ft3 0 0) (v := .int 0) (ty := tyX3 2) (C := RX3) (F := TX3) (N := 3) hx hb hts uX3 tyX3 tyX3_ok nmX3 hown hkb hH hS t_a0 (hO.no t_a0 (by decide)) (fun _ => Iff.rfl) rfl rfl 2 (by decide) rfl (⟨_, rfl, by decide, by decide⟩) kw_84 (fun _ h9 => h9) rfl (tyX3_ok 2 (by decide)) rfl rfl dX3_read_2 (fun H locs hH hS => ?_)
  refine lv_aload_n hx hb dX3_read_5 rfl (lv_at hl 0 rfl) ?_
  refine lv_iconst (v := 0) hx hb dX3_read_6 (by decide) ?_
  refine tk_i hH hS hA (tr_V (n := 1) (As := [.int 0]) hx hb hml hown hts hkb hH hOX hks hE hS hA (s_LR_readTruth0 l D cs kf T O X a0 (0) t_a0 (by decide) (by decide) (hO.sub (by decide))) kw_622 kw_624 ks_5 kw_4 kw_625 (by decide +kernel) ⟨Nat.le_of_ble_eq_true rfl, Nat.le_of_ble_eq_true rfl⟩ (HT.recv (ci := 3) hkb hH t_a0 (hO.no t_a0 (by decide)) rfl) rfl rfl hl.1 (Nat.le_of_ble_eq_true rfl) dX3_read_7 ⟨Nat.le_of_ble_eq_true rfl, Nat.le_of_ble_eq_true rfl⟩) (fun v7 u H locs hz9 hH hS => ?_)
  obtain ⟨rfl, l_v7, u_v7⟩ := hz9
  have hH : HT D cs A T O X H := hH
  refine W.widen (k := 0) (n := 0) (Nat.le_of_ble_eq_true rfl) (Nat.le_of_ble_eq_true rfl) ?_
  exact te_z hx hb hr hlocks (nar01 (by omega) (by omega)) hH hS (⟨rfl, by omega, by omega⟩) dX3_read_10
