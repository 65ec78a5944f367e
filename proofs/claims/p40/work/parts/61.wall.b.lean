set_option maxHeartbeats 4000000 in
set_option maxRecDepth 100000 in
theorem s_FW_wall (l : Launch) (D : va_G) (cs : CS) (kf : KF) (T : TF) (O : List Nat) (X : va_W) (a0 w hw gw ch : Nat) (x1 : Int32) (t_a0 : T a0 = some (21, w, ch)) (t_w : isW T w hw gw) (hO : okO T O [0, 1, 12, 13, 14, 16, 17, 19, 21]) : TK l D cs kf yX11_wall cX11_wall 2 (some (.int)) { frames := 33, cells := 10, slots := 1001, locals := 749 } [.ref a0, .int x1] T O X (Ti D cs (fun r u => ∃ (T2 : TF) (w2 : Nat) (h2 : Nat) (g2 : Nat), u = (T2, O, X) ∧ (Tre T T2) ∧ (T2 a0 = some (21, w2, ch)) ∧ (isW T2 w2 h2 g2))) := by
  refine tk_of (by decide) (Nat.le_of_ble_eq_true rfl) (fun p e s m below meth c ls A H locs hx hb hr hml hown hts hlocks hnm hkb hH hS hA hOX hks hE hl => ?_)
  have hown : s.vm.findClass RX11 = some m.cls := hown
  have hl : lv_has ls 2 [(0, .ref a0), (1, .int x1)] := hl
  have b1_w := t_w.2.1
  have b2_w := t_w.2.2
  have hO0 := hO
  obtain ⟨fs9, ho9, hH⟩ := hH.take t_a0 (hO0.no t_a0 (by decide))
  have hp0 : okL T (ft11 w ch) fs9 := ho9
  clear ho9
  obtain ⟨v9, fs9, rfl, h9, hp1⟩ := okL_i hp0
  obtain ⟨q0_0, rfl, t_q0_0⟩ := h9
  obtain ⟨v9, fs9, rfl, h9, hp2⟩ := okL_i hp1
  obtain ⟨q0_1, rfl, l_q0_1, u_q0_1⟩ := h9
  obtain ⟨v9, fs9, rfl, h9, hp3⟩ := okL_i hp2
  obtain ⟨q0_2, dq0_2, rfl, t_q0_2, t_dq0_2⟩ := h9
  obtain ⟨v9, fs9, rfl, h9, hp4⟩ := okL_i hp3
  have h9 : v9 = .ref w := h9
  subst h9
  obtain ⟨v9, fs9, rfl, h9, hp5⟩ := okL_i hp4
  obtain ⟨q0_4, rfl, t_q0_4⟩ := h9
  obtain ⟨v9, fs9, rfl, h9, hp6⟩ := okL_i hp5
  obtain ⟨q0_5, rfl, t_q0_5⟩ := h9
  obtain ⟨v9, fs9, rfl, h9, hp7⟩ := okL_i hp6
  obtain ⟨q0_6, rfl, t_q0_6⟩ := h9
  obtain ⟨v9, fs9, rfl, h9, hp8⟩ := okL_i hp7
  obtain ⟨q0_7, rfl, l_q0_7, u_q0_7⟩ := h9
  obtain ⟨v9, fs9, rfl, h9, hp9⟩ := okL_i hp8
  obtain ⟨q0_8, rfl, l_q0_8, u_q0_8⟩ := h9
  obtain ⟨v9, fs9, rfl, h9, hp10⟩ := okL_i hp9
  obtain ⟨q0_9, rfl, t_q0_9⟩ := h9
  obtain ⟨v9, fs9, rfl, h9, hp11⟩ := okL_i hp10
  obtain ⟨q0_10, rfl, t_q0_10⟩ := h9
  obtain ⟨v9, fs9, rfl, h9, hp12⟩ := okL_i hp11
  obtain ⟨q0_11, rfl, t_q0_11⟩ := h9
  obtain ⟨v9, fs9, rfl, h9, hp13⟩ := okL_i hp12
  obtain ⟨q0_12, rfl, t_q0_12⟩ := h9
  obtain ⟨v9, fs9, rfl, h9, hp14⟩ := okL_i hp13
  obtain ⟨q0_13, rfl, t_q0_13⟩ := h9
  obtain ⟨v9, fs9, rfl, h9, hp15⟩ := okL_i hp14
  obtain ⟨q0_14, rfl, t_q0_14⟩ := h9
  obtain ⟨v9, fs9, rfl, h9, hp16⟩ := okL_i hp15
  obtain ⟨q0_15, rfl, t_q0_15⟩ := h9
  obtain ⟨v9, fs9, rfl, h9, hp17⟩ := okL_i hp16
  have h9 : v9 = .ref ch := h9
  subst h9
  obtain ⟨v9, fs9, rfl, h9, hp18⟩ := okL_i hp17
  obtain ⟨q0_17, rfl, t_q0_17⟩ := h9
  obtain ⟨v9, fs9, rfl, h9, hp19⟩ := okL_i hp18
  obtain ⟨q0_18, rfl, t_q0_18⟩ := h9
  obtain ⟨v9, fs9, rfl, h9, hp20⟩ := okL_i hp19
  obtain ⟨q0_19, rfl⟩ := h9
  have hpz := okL_z hp20
  subst hpz
  have hH : HT D cs A T (a0 :: O) ((a0, .inr (11, [.ref q0_0, .int q0_1, .ref q0_2, .ref w, .ref q0_4, .ref q0_5, .ref q0_6, .int q0_7, .int q0_8, .ref q0_9, .ref q0_10, .ref q0_11, .ref q0_12, .ref q0_13, .ref q0_14, .ref q0_15, .ref ch, .ref q0_17, .ref q0_18, .int q0_19])) :: X) H := hH
  have hO : okO T (a0 :: O) [0, 1, 12, 13, 14, 16, 17, 19] := okO.cons (hO0.sub (by decide)) t_a0 (by decide)
  refine lv_iload_n hx hb dX11_wall_0 rfl (lv_at hl 1 rfl) ?_
  have J12 : ∀  (H : Heap) (locs : List Loc) (ls : Array Slot), HT D cs A T (a0 :: O) ((a0, .inr (11, [.ref q0_0, .int q0_1, .ref q0_2, .ref w, .ref q0_4, .ref q0_5, .ref q0_6, .int q0_7, .int q0_8, .ref q0_9, .ref q0_10, .ref q0_11, .ref q0_12, .ref q0_13, .ref q0_14, .ref q0_15, .ref ch, .ref q0_17, .ref q0_18, .int q0_19])) :: X) H → va_S A s.heap H locs → lv_has ls 2 [] → W p l e { frames := 33, cells := 10, slots := 1001, locals := 749 } s m [.ref a0, .int x1].toArray below meth c H locs 0 0 (MQ below (Ti D cs (fun r u => ∃ (T2 : TF) (w2 : Nat) (h2 : Nat) (g2 : Nat), u = (T2, O, X) ∧ (Tre T T2) ∧ (T2 a0 = some (21, w2, ch)) ∧ (isW T2 w2 h2 g2)) A) [.ref a0, .int x1].toArray s 10 1001 A) (F0 m 12 ls []) := by
    intro  H locs ls  hH hS hl
    refine lv_bipush (v := (-3)) hx hb dX11_wall_12 (by decide) ?_
    have hH : HT D cs A T O X H := HT.lay (ci := 11) hH t_a0 (okL_c (⟨_, rfl, t_q0_0⟩) (okL_c (⟨_, rfl, by omega, by omega⟩) (okL_c (⟨_, _, rfl, t_q0_2, t_dq0_2⟩) (okL_c (rfl) (okL_c (⟨_, rfl, t_q0_4⟩) (okL_c (⟨_, rfl, t_q0_5⟩) (okL_c (⟨_, rfl, t_q0_6⟩) (okL_c (⟨_, rfl, by omega, by omega⟩) (okL_c (⟨_, rfl, by omega, by omega⟩) (okL_c (⟨_, rfl, t_q0_9⟩) (okL_c (⟨_, rfl, t_q0_10⟩) (okL_c (⟨_, rfl, t_q0_11⟩) (okL_c (⟨_, rfl, t_q0_12⟩) (okL_c (⟨_, rfl, t_q0_13⟩) (okL_c (⟨_, rfl, t_q0_14⟩) (okL_c (⟨_, rfl, t_q0_15⟩) (okL_c (rfl) (okL_c (⟨_, rfl, t_q0_17⟩) (okL_c (⟨_, rfl, t_q0_18⟩) (okL_c (⟨_, rfl⟩) (okL_n)))))))))))))))))))))
    have hO := hO0
    refine W.widen (k := 10) (n := 1001) (Nat.le_of_ble_eq_true rfl) (Nat.le_of_ble_eq_true rfl) ?_
    have z9_m3 : ((-3) : Int32).toInt = -3 := by decide
    exact te_i hx hb hr hlocks hH hS (⟨T, w, hw, gw, rfl, Tre.of Tgr.rf, t_a0, t_w⟩) dX11_wall_14
  refine lv_if_lt (tgt := 12) hx hb dX11_wall_1 (by decide) (fun c1 => ?_) (fun c1 => ?_)
  · skip
    have tc1 := f_lt (k := 0) (by decide) c1
    exact J12  _ _ _  hH hS (lv_sub hl [] rfl)
  · skip
    have tc1 := f_nlt (k := 0) (by decide) c1
    refine lv_iload_n hx hb dX11_wall_4 rfl (lv_at hl 1 rfl) ?_
    refine lv_aload_n hx hb dX11_wall_5 rfl (lv_at hl 0 rfl) ?_
    refine x_get (ci := 11) (C := RX11) (F := TX11) (N := 20) (v := .int q0_1) hx hb hts uX11 hown hkb hH rfl 1 (by decide) rfl kw_361 (fun _ h9 => h9) dX11_wall_6 ?_
    refine lv_icmp_le (tgt := 15) hx hb dX11_wall_9 (by decide) (fun c9 => ?_) (fun c9 => ?_)
    · skip
      have fuc9 := full_i x1
      have fvc9 := full_i q0_1
      have tc9 := g_le c9
      refine lv_aload_n hx hb dX11_wall_15 rfl (lv_at hl 0 rfl) ?_
      refine lv_iconst (v := 0) hx hb dX11_wall_16 (by decide) ?_
      refine x_put (ci := 11) (v := .int 0) (ty := tyX11 1) (C := RX11) (F := TX11) (N := 20) hx hb hts uX11 tyX11 tyX11_ok nmX11 hown hkb hH hS rfl 1 (by decide) kw_361 (fun _ h9 => h9) rfl (tyX11_ok 1 (by decide)) rfl rfl (Nat.le_of_ble_eq_true rfl) dX11_wall_17 (fun H locs hH hS => ?_)
      have hH : HT D cs A T (a0 :: O) ((a0, .inr (11, [.ref q0_0, .int 0, .ref q0_2, .ref w, .ref q0_4, .ref q0_5, .ref q0_6, .int q0_7, .int q0_8, .ref q0_9, .ref q0_10, .ref q0_11, .ref q0_12, .ref q0_13, .ref q0_14, .ref q0_15, .ref ch, .ref q0_17, .ref q0_18, .int q0_19])) :: X) H := hH
      refine lv_aload_n hx hb dX11_wall_20 rfl (lv_at hl 0 rfl) ?_
      refine x_get (ci := 11) (C := RX11) (F := TX11) (N := 20) (v := .ref q0_2) hx hb hts uX11 hown hkb hH rfl 2 (by decide) rfl kw_362 (fun _ h9 => h9) dX11_wall_21 ?_
      refine lv_aload_n hx hb dX11_wall_24 rfl (lv_at hl 0 rfl) ?_
      refine x_get (ci := 11) (C := RX11) (F := TX11) (N := 20) (v := .ref q0_0) hx hb hts uX11 hown hkb hH rfl 0 (by decide) rfl kw_360 (fun _ h9 => h9) dX11_wall_25 ?_
      refine lv_iload_n hx hb dX11_wall_28 rfl (lv_at hl 1 rfl) ?_
      refine tk_i hH hS hA (tr_V (n := 2) (As := [.ref q0_0, .int x1]) hx hb hml hown hts hkb hH (ox_c hOX) hks hE hS hA (s_RD_read l D cs kf T (a0 :: O) ((a0, .inr (11, [.ref q0_0, .int 0, .ref q0_2, .ref w, .ref q0_4, .ref q0_5, .ref q0_6, .int q0_7, .int q0_8, .ref q0_9, .ref q0_10, .ref q0_11, .ref q0_12, .ref q0_13, .ref q0_14, .ref q0_15, .ref ch, .ref q0_17, .ref q0_18, .int q0_19])) :: X) q0_2 dq0_2 q0_0 x1 t_q0_2 t_dq0_2 t_q0_0 (by omega) (by omega) (hO.sub (by decide))) kw_433 kw_434 kw_435 kw_2 kw_436 (by decide +kernel) ⟨Nat.le_of_ble_eq_true rfl, Nat.le_of_ble_eq_true rfl⟩ (HT.recv (ci := 4) hkb hH t_q0_2 (hO.no t_q0_2 (by decide)) rfl) rfl rfl hl.1 (Nat.le_of_ble_eq_true rfl) dX11_wall_29 ⟨Nat.le_of_ble_eq_true rfl, Nat.le_of_ble_eq_true rfl⟩) (fun v29 u H locs hz9 hH hS => ?_)
      obtain ⟨rfl, l_v29, u_v29⟩ := hz9
      have hH : HT D cs A T (a0 :: O) ((a0, .inr (11, [.ref q0_0, .int 0, .ref q0_2, .ref w, .ref q0_4, .ref q0_5, .ref q0_6, .int q0_7, .int q0_8, .ref q0_9, .ref q0_10, .ref q0_11, .ref q0_12, .ref q0_13, .ref q0_14, .ref q0_15, .ref ch, .ref q0_17, .ref q0_18, .int q0_19])) :: X) H := hH
      refine W.widen (k := 0) (n := 0) (Nat.le_of_ble_eq_true rfl) (Nat.le_of_ble_eq_true rfl) ?_
      refine lv_if_ne (tgt := 49) hx hb dX11_wall_32 (by decide) (fun c32 => ?_) (fun c32 => ?_)
      · skip
        have tc32 := f_ne (k := 0) (by decide) c32
        refine lv_aload_n hx hb dX11_wall_49 rfl (lv_at hl 0 rfl) ?_
        refine lv_aload_n hx hb dX11_wall_50 rfl (lv_at hl 0 rfl) ?_
        refine x_get (ci := 11) (C := RX11) (F := TX11) (N := 20) (v := .ref q0_2) hx hb hts uX11 hown hkb hH rfl 2 (by decide) rfl kw_362 (fun _ h9 => h9) dX11_wall_51 ?_
        refine tk_r hH hS hA (tr_V (n := 0) (As := []) hx hb hml hown hts hkb hH (ox_c hOX) hks hE hS hA (s_RD_made l D cs kf T (a0 :: O) ((a0, .inr (11, [.ref q0_0, .int 0, .ref q0_2, .ref w, .ref q0_4, .ref q0_5, .ref q0_6, .int q0_7, .int q0_8, .ref q0_9, .ref q0_10, .ref q0_11, .ref q0_12, .ref q0_13, .ref q0_14, .ref q0_15, .ref ch, .ref q0_17, .ref q0_18, .int q0_19])) :: X) q0_2 dq0_2 t_q0_2 t_dq0_2 (hO.sub (by decide))) kw_711 kw_712 kw_713 kw_2 kw_714 (by decide +kernel) ⟨Nat.le_of_ble_eq_true rfl, Nat.le_of_ble_eq_true rfl⟩ (HT.recv (ci := 4) hkb hH t_q0_2 (hO.no t_q0_2 (by decide)) rfl) rfl rfl hl.1 (Nat.le_of_ble_eq_true rfl) dX11_wall_54 ⟨Nat.le_of_ble_eq_true rfl, Nat.le_of_ble_eq_true rfl⟩) (fun v54 u H locs hz9 hH hS => ?_)
        obtain ⟨T54, le_T54, rfl, ⟨hv54, gv54, t_v54⟩⟩ := hz9
        have t_a0 := le_T54.1 _ _ t_a0
        have t_w := isW.le le_T54.1 t_w
        have t_q0_0 := le_T54.1 _ _ t_q0_0
        have t_q0_2 := le_T54.1 _ _ t_q0_2
        have t_dq0_2 := le_T54.1 _ _ t_dq0_2
        have t_q0_4 := le_T54.1 _ _ t_q0_4
        have t_q0_5 := le_T54.1 _ _ t_q0_5
        have t_q0_6 := le_T54.1 _ _ t_q0_6
        have t_q0_9 := le_T54.1 _ _ t_q0_9
        have t_q0_10 := le_T54.1 _ _ t_q0_10
        have t_q0_11 := le_T54.1 _ _ t_q0_11
        have t_q0_12 := le_T54.1 _ _ t_q0_12
        have t_q0_13 := le_T54.1 _ _ t_q0_13
        have t_q0_14 := le_T54.1 _ _ t_q0_14
        have t_q0_15 := le_T54.1 _ _ t_q0_15
        have t_q0_17 := le_T54.1 _ _ t_q0_17
        have t_q0_18 := le_T54.1 _ _ t_q0_18
        have hO := okO.le le_T54.1 hO
        have hO0 := okO.le le_T54.1 hO0
        have hH : HT D cs A T54 (a0 :: O) ((a0, .inr (11, [.ref q0_0, .int 0, .ref q0_2, .ref w, .ref q0_4, .ref q0_5, .ref q0_6, .int q0_7, .int q0_8, .ref q0_9, .ref q0_10, .ref q0_11, .ref q0_12, .ref q0_13, .ref q0_14, .ref q0_15, .ref ch, .ref q0_17, .ref q0_18, .int q0_19])) :: X) H := hH
        refine W.widen (k := 10) (n := 1001) (Nat.le_of_ble_eq_true rfl) (Nat.le_of_ble_eq_true rfl) ?_
        refine x_put (ci := 11) (v := .ref v54) (ty := tyX11 3) (C := RX11) (F := TX11) (N := 20) hx hb hts uX11 tyX11 tyX11_ok nmX11 hown hkb hH hS rfl 3 (by decide) kw_363 (fun _ h9 => h9) rfl (tyX11_ok 3 (by decide)) rfl rfl (Nat.le_of_ble_eq_true rfl) dX11_wall_57 (fun H locs hH hS => ?_)
        have hH : HT D cs A T54 (a0 :: O) ((a0, .inr (11, [.ref q0_0, .int 0, .ref q0_2, .ref v54, .ref q0_4, .ref q0_5, .ref q0_6, .int q0_7, .int q0_8, .ref q0_9, .ref q0_10, .ref q0_11, .ref q0_12, .ref q0_13, .ref q0_14, .ref q0_15, .ref ch, .ref q0_17, .ref q0_18, .int q0_19])) :: X) H := hH
        refine lv_aload_n hx hb dX11_wall_60 rfl (lv_at hl 0 rfl) ?_
        refine x_get (ci := 11) (C := RX11) (F := TX11) (N := 20) (v := .ref q0_4) hx hb hts uX11 hown hkb hH rfl 4 (by decide) rfl kw_364 (fun _ h9 => h9) dX11_wall_61 ?_
        refine lv_aload_n hx hb dX11_wall_64 rfl (lv_at hl 0 rfl) ?_
        refine x_get (ci := 11) (C := RX11) (F := TX11) (N := 20) (v := .ref q0_2) hx hb hts uX11 hown hkb hH rfl 2 (by decide) rfl kw_362 (fun _ h9 => h9) dX11_wall_65 ?_
        refine t_get (ci := 4) (lst := ft4 dq0_2 0) (C := RX4) (F := TX4) (N := 5) hx hb hts uX4 hown hkb hH t_q0_2 (hO.no t_q0_2 (by decide)) (fun _ h9 => h9) rfl rfl 4 (by decide) rfl kw_217 (fun _ h9 => h9) dX11_wall_68 (fun v9 h9 => ?_)
        obtain ⟨v68, rfl, t_v68⟩ := h9
        refine tk_v hH hS hA (tr_V (n := 1) (As := [.ref v68]) hx hb hml hown hts hkb hH (ox_c hOX) hks hE hS hA (s_State_take l D cs kf T54 (a0 :: O) ((a0, .inr (11, [.ref q0_0, .int 0, .ref q0_2, .ref v54, .ref q0_4, .ref q0_5, .ref q0_6, .int q0_7, .int q0_8, .ref q0_9, .ref q0_10, .ref q0_11, .ref q0_12, .ref q0_13, .ref q0_14, .ref q0_15, .ref ch, .ref q0_17, .ref q0_18, .int q0_19])) :: X) q0_4 v68 t_q0_4 t_v68 (hO.sub (by decide))) kw_757 kw_758 kw_759 kw_7 kw_760 (by decide +kernel) ⟨Nat.le_of_ble_eq_true rfl, Nat.le_of_ble_eq_true rfl⟩ (HT.recv (ci := 6) hkb hH t_q0_4 (hO.no t_q0_4 (by decide)) rfl) rfl rfl hl.1 (Nat.le_of_ble_eq_true rfl) dX11_wall_71 ⟨Nat.le_of_ble_eq_true rfl, Nat.le_of_ble_eq_true rfl⟩) (fun u H locs hz9 hH hS => ?_)
        have hz9 : u = (T54, a0 :: O, (a0, .inr (11, [.ref q0_0, .int 0, .ref q0_2, .ref v54, .ref q0_4, .ref q0_5, .ref q0_6, .int q0_7, .int q0_8, .ref q0_9, .ref q0_10, .ref q0_11, .ref q0_12, .ref q0_13, .ref q0_14, .ref q0_15, .ref ch, .ref q0_17, .ref q0_18, .int q0_19])) :: X) := hz9
        subst hz9
        have hH : HT D cs A T54 (a0 :: O) ((a0, .inr (11, [.ref q0_0, .int 0, .ref q0_2, .ref v54, .ref q0_4, .ref q0_5, .ref q0_6, .int q0_7, .int q0_8, .ref q0_9, .ref q0_10, .ref q0_11, .ref q0_12, .ref q0_13, .ref q0_14, .ref q0_15, .ref ch, .ref q0_17, .ref q0_18, .int q0_19])) :: X) H := hH
        refine W.widen (k := 10) (n := 1001) (Nat.le_of_ble_eq_true rfl) (Nat.le_of_ble_eq_true rfl) ?_
        refine lv_aload_n hx hb dX11_wall_74 rfl (lv_at hl 0 rfl) ?_
        refine lv_iconst (v := 0) hx hb dX11_wall_75 (by decide) ?_
        refine x_put (ci := 11) (v := .int 0) (ty := tyX11 7) (C := RX11) (F := TX11) (N := 20) hx hb hts uX11 tyX11 tyX11_ok nmX11 hown hkb hH hS rfl 7 (by decide) kw_367 (fun _ h9 => h9) rfl (tyX11_ok 7 (by decide)) rfl rfl (Nat.le_of_ble_eq_true rfl) dX11_wall_76 (fun H locs hH hS => ?_)
        have hH : HT D cs A T54 (a0 :: O) ((a0, .inr (11, [.ref q0_0, .int 0, .ref q0_2, .ref v54, .ref q0_4, .ref q0_5, .ref q0_6, .int 0, .int q0_8, .ref q0_9, .ref q0_10, .ref q0_11, .ref q0_12, .ref q0_13, .ref q0_14, .ref q0_15, .ref ch, .ref q0_17, .ref q0_18, .int q0_19])) :: X) H := hH
        refine lv_aload_n hx hb dX11_wall_79 rfl (lv_at hl 0 rfl) ?_
        refine x_get (ci := 11) (C := RX11) (F := TX11) (N := 20) (v := .ref v54) hx hb hts uX11 hown hkb hH rfl 3 (by decide) rfl kw_363 (fun _ h9 => h9) dX11_wall_80 ?_
        refine t_get (ci := 9) (lst := ft9w hv54 gv54) (C := RX9) (F := TX9) (N := 14) hx hb hts uX9 hown hkb hH t_v54.1 (hO.no t_v54.1 (by decide)) (fun fs => (ob9w t_v54 fs).mp) rfl rfl 2 (by decide) rfl kw_115 (fun _ h9 => h9) dX11_wall_83 (fun v9 h9 => ?_)
        obtain ⟨v83, rfl⟩ := h9
        obtain ⟨Tz, re_Tz, tz_a0, tz_w, hH⟩ : ∃ Tz, Tre T54 Tz ∧ Tz a0 = some (21, v54, ch) ∧ isW Tz v54 hv54 gv54 ∧ HT D cs A Tz O X H := ⟨Tadd T54 a0 (21, v54, ch), Tre.add t_a0, Tadd_r, isW.re t_a0 t_v54, HT.re (w2 := v54) hH t_a0 (okL_c (⟨_, rfl, t_q0_0⟩) (okL_c (⟨_, rfl, by decide, by decide⟩) (okL_c (⟨_, _, rfl, t_q0_2, t_dq0_2⟩) (okL_c (rfl) (okL_c (⟨_, rfl, t_q0_4⟩) (okL_c (⟨_, rfl, t_q0_5⟩) (okL_c (⟨_, rfl, t_q0_6⟩) (okL_c (⟨_, rfl, by decide, by decide⟩) (okL_c (⟨_, rfl, by omega, by omega⟩) (okL_c (⟨_, rfl, t_q0_9⟩) (okL_c (⟨_, rfl, t_q0_10⟩) (okL_c (⟨_, rfl, t_q0_11⟩) (okL_c (⟨_, rfl, t_q0_12⟩) (okL_c (⟨_, rfl, t_q0_13⟩) (okL_c (⟨_, rfl, t_q0_14⟩) (okL_c (⟨_, rfl, t_q0_15⟩) (okL_c (rfl) (okL_c (⟨_, rfl, t_q0_17⟩) (okL_c (⟨_, rfl, t_q0_18⟩) (okL_c (⟨_, rfl⟩) (okL_n)))))))))))))))))))))⟩
        exact te_i hx hb hr hlocks hH hS (⟨Tz, v54, hv54, gv54, rfl, Tre.tr (Tre.of le_T54) re_Tz, tz_a0, tz_w⟩) dX11_wall_86
      · skip
        have tc32 := f_eq (k := 0) (by decide) c32
        refine lv_bipush (v := (-30)) hx hb dX11_wall_35 (by decide) ?_
        refine lv_aload_n hx hb dX11_wall_37 rfl (lv_at hl 0 rfl) ?_
        refine x_get (ci := 11) (C := RX11) (F := TX11) (N := 20) (v := .ref q0_2) hx hb hts uX11 hown hkb hH rfl 2 (by decide) rfl kw_362 (fun _ h9 => h9) dX11_wall_38 ?_
        refine t_get (ci := 4) (lst := ft4 dq0_2 0) (C := RX4) (F := TX4) (N := 5) hx hb hts uX4 hown hkb hH t_q0_2 (hO.no t_q0_2 (by decide)) (fun _ h9 => h9) rfl rfl 0 (by decide) rfl kw_212 (fun _ h9 => h9) dX11_wall_41 (fun v9 h9 => ?_)
        obtain ⟨v41, rfl, t_v41⟩ := h9
        refine t_get (ci := 7) (lst := ft7 0 0) (C := RX7) (F := TX7) (N := 8) hx hb hts uX7 hown hkb hH t_v41 (hO.no t_v41 (by decide)) (fun _ h9 => ob7_ok h9) rfl rfl 6 (by decide) rfl kw_55 (fun _ h9 => h9) dX11_wall_44 (fun v9 h9 => ?_)
        obtain ⟨v44, rfl⟩ := h9
        refine lv_isub hx hb dX11_wall_47 ?_
        refine lv_topi (fun v47 ev47 => ?_)
        have hH : HT D cs A T O X H := HT.lay (ci := 11) hH t_a0 (okL_c (⟨_, rfl, t_q0_0⟩) (okL_c (⟨_, rfl, by decide, by decide⟩) (okL_c (⟨_, _, rfl, t_q0_2, t_dq0_2⟩) (okL_c (rfl) (okL_c (⟨_, rfl, t_q0_4⟩) (okL_c (⟨_, rfl, t_q0_5⟩) (okL_c (⟨_, rfl, t_q0_6⟩) (okL_c (⟨_, rfl, by omega, by omega⟩) (okL_c (⟨_, rfl, by omega, by omega⟩) (okL_c (⟨_, rfl, t_q0_9⟩) (okL_c (⟨_, rfl, t_q0_10⟩) (okL_c (⟨_, rfl, t_q0_11⟩) (okL_c (⟨_, rfl, t_q0_12⟩) (okL_c (⟨_, rfl, t_q0_13⟩) (okL_c (⟨_, rfl, t_q0_14⟩) (okL_c (⟨_, rfl, t_q0_15⟩) (okL_c (rfl) (okL_c (⟨_, rfl, t_q0_17⟩) (okL_c (⟨_, rfl, t_q0_18⟩) (okL_c (⟨_, rfl⟩) (okL_n)))))))))))))))))))))
        have hO := hO0
        refine W.widen (k := 10) (n := 1001) (Nat.le_of_ble_eq_true rfl) (Nat.le_of_ble_eq_true rfl) ?_
        exact te_i hx hb hr hlocks hH hS (⟨T, w, hw, gw, rfl, Tre.of Tgr.rf, t_a0, t_w⟩) dX11_wall_48
    · skip
      have fuc9 := full_i x1
      have fvc9 := full_i q0_1
      have tc9 := g_nle c9
      exact J12  _ _ _  hH hS (lv_sub hl [] rfl)
set_option maxHeartbeats 4000000 in
set_option maxRecDepth 100000 in
theorem s_FW_restore (l : Launch) (D : va_G) (cs : CS) (kf : KF) (T : TF) (O : List Nat) (X : va_W) (a0 w hw gw ch : Nat) (x1 : Int32) (t_a0 : T a0 = some (21, w, ch)) (t_w : isW T w hw gw) (hO : okO T O [1, 4, 5, 16, 21]) : TK l D cs kf yX11_restore cX11_restore 2 (some (.int)) { frames := 2, cells := 0, slots := 0, locals := 81 } [.ref a0, .int x1] T O X (Ti D cs (fun r u => ∃ (T2 : TF) (w2 : Nat) (h2 : Nat) (g2 : Nat), u = (T2, O, X) ∧ -5 ≤ r.toInt ∧ r.toInt ≤ 0 ∧ (Tre T T2) ∧ (T2 a0 = some (21, w2, ch)) ∧ (isW T2 w2 h2 g2))) := by
  refine tk_of (by decide) (Nat.le_of_ble_eq_true rfl) (fun p e s m below meth c ls A H locs hx hb hr hml hown hts hlocks hnm hkb hH hS hA hOX hks hE hl => ?_)
  have hown : s.vm.findClass RX11 = some m.cls := hown
  have hl : lv_has ls 2 [(0, .ref a0), (1, .int x1)] := hl
  have b1_w := t_w.2.1
  have b2_w := t_w.2.2
  have hO0 := hO
  obtain ⟨fs9, ho9, hH⟩ := hH.take t_a0 (hO0.no t_a0 (by decide))
  have hp0 : okL T (ft11 w ch) fs9 := ho9
  clear ho9
  obtain ⟨v9, fs9, rfl, h9, hp1⟩ := okL_i hp0
  obtain ⟨q0_0, rfl, t_q0_0⟩ := h9
  obtain ⟨v9, fs9, rfl, h9, hp2⟩ := okL_i hp1
  obtain ⟨q0_1, rfl, l_q0_1, u_q0_1⟩ := h9
  obtain ⟨v9, fs9, rfl, h9, hp3⟩ := okL_i hp2
  obtain ⟨q0_2, dq0_2, rfl, t_q0_2, t_dq0_2⟩ := h9
  obtain ⟨v9, fs9, rfl, h9, hp4⟩ := okL_i hp3
  have h9 : v9 = .ref w := h9
  subst h9
  obtain ⟨v9, fs9, rfl, h9, hp5⟩ := okL_i hp4
  obtain ⟨q0_4, rfl, t_q0_4⟩ := h9
  obtain ⟨v9, fs9, rfl, h9, hp6⟩ := okL_i hp5
  obtain ⟨q0_5, rfl, t_q0_5⟩ := h9
  obtain ⟨v9, fs9, rfl, h9, hp7⟩ := okL_i hp6
  obtain ⟨q0_6, rfl, t_q0_6⟩ := h9
  obtain ⟨v9, fs9, rfl, h9, hp8⟩ := okL_i hp7
  obtain ⟨q0_7, rfl, l_q0_7, u_q0_7⟩ := h9
  obtain ⟨v9, fs9, rfl, h9, hp9⟩ := okL_i hp8
  obtain ⟨q0_8, rfl, l_q0_8, u_q0_8⟩ := h9
  obtain ⟨v9, fs9, rfl, h9, hp10⟩ := okL_i hp9
  obtain ⟨q0_9, rfl, t_q0_9⟩ := h9
  obtain ⟨v9, fs9, rfl, h9, hp11⟩ := okL_i hp10
  obtain ⟨q0_10, rfl, t_q0_10⟩ := h9
  obtain ⟨v9, fs9, rfl, h9, hp12⟩ := okL_i hp11
  obtain ⟨q0_11, rfl, t_q0_11⟩ := h9
  obtain ⟨v9, fs9, rfl, h9, hp13⟩ := okL_i hp12
  obtain ⟨q0_12, rfl, t_q0_12⟩ := h9
  obtain ⟨v9, fs9, rfl, h9, hp14⟩ := okL_i hp13
  obtain ⟨q0_13, rfl, t_q0_13⟩ := h9
  obtain ⟨v9, fs9, rfl, h9, hp15⟩ := okL_i hp14
  obtain ⟨q0_14, rfl, t_q0_14⟩ := h9
  obtain ⟨v9, fs9, rfl, h9, hp16⟩ := okL_i hp15
  obtain ⟨q0_15, rfl, t_q0_15⟩ := h9
  obtain ⟨v9, fs9, rfl, h9, hp17⟩ := okL_i hp16
  have h9 : v9 = .ref ch := h9
  subst h9
  obtain ⟨v9, fs9, rfl, h9, hp18⟩ := okL_i hp17
  obtain ⟨q0_17, rfl, t_q0_17⟩ := h9
  obtain ⟨v9, fs9, rfl, h9, hp19⟩ := okL_i hp18
  obtain ⟨q0_18, rfl, t_q0_18⟩ := h9
  obtain ⟨v9, fs9, rfl, h9, hp20⟩ := okL_i hp19
  obtain ⟨q0_19, rfl⟩ := h9
  have hpz := okL_z hp20
  subst hpz
  have hH : HT D cs A T (a0 :: O) ((a0, .inr (11, [.ref q0_0, .int q0_1, .ref q0_2, .ref w, .ref q0_4, .ref q0_5, .ref q0_6, .int q0_7, .int q0_8, .ref q0_9, .ref q0_10, .ref q0_11, .ref q0_12, .ref q0_13, .ref q0_14, .ref q0_15, .ref ch, .ref q0_17, .ref q0_18, .int q0_19])) :: X) H := hH
  have hO : okO T (a0 :: O) [1, 4, 5, 16] := okO.cons (hO0.sub (by decide)) t_a0 (by decide)
  refine lv_iload_n hx hb dX11_restore_0 rfl (lv_at hl 1 rfl) ?_
  refine tk_i hH hS hA (tr_S (n := 1) (As := [.int x1]) hx hb hml hown hts hkb hH (ox_c hOX) hks hE hS hA (s_FW_isImage l D cs kf T (a0 :: O) ((a0, .inr (11, [.ref q0_0, .int q0_1, .ref q0_2, .ref w, .ref q0_4, .ref q0_5, .ref q0_6, .int q0_7, .int q0_8, .ref q0_9, .ref q0_10, .ref q0_11, .ref q0_12, .ref q0_13, .ref q0_14, .ref q0_15, .ref ch, .ref q0_17, .ref q0_18, .int q0_19])) :: X) x1  (hO.sub (by decide))) kw_1202 kw_1203 kw_1 kw_1204 (by decide +kernel) ⟨Nat.le_of_ble_eq_true rfl, Nat.le_of_ble_eq_true rfl⟩ rfl rfl hl.1 (Nat.le_of_ble_eq_true rfl) dX11_restore_1 ⟨Nat.le_of_ble_eq_true rfl, Nat.le_of_ble_eq_true rfl⟩) (fun v1 u H locs hz9 hH hS => ?_)
  obtain ⟨rfl, l_v1, u_v1, x_v10⟩ := hz9
  have hH : HT D cs A T (a0 :: O) ((a0, .inr (11, [.ref q0_0, .int q0_1, .ref q0_2, .ref w, .ref q0_4, .ref q0_5, .ref q0_6, .int q0_7, .int q0_8, .ref q0_9, .ref q0_10, .ref q0_11, .ref q0_12, .ref q0_13, .ref q0_14, .ref q0_15, .ref ch, .ref q0_17, .ref q0_18, .int q0_19])) :: X) H := hH
  refine W.widen (k := 0) (n := 0) (Nat.le_of_ble_eq_true rfl) (Nat.le_of_ble_eq_true rfl) ?_
  refine lv_if_ne (tgt := 10) hx hb dX11_restore_4 (by decide) (fun c4 => ?_) (fun c4 => ?_)
  · skip
    have tc4 := f_ne (k := 0) (by decide) c4
    obtain ⟨e9, hs9, hH⟩ := HT.takeA hH t_q0_9 (hO.no t_q0_9 (by decide))
    obtain ⟨f9, rfl, hsp9⟩ : ∃ f : Nat → Option Nat, e9 = .inl (cs.2.2.2.2.2.1, 2, .inr (.inr (.inr (.inr f)))) ∧ ∀ j a, f j = some a → ∃ h g, isW T a h g := hs9
    have hO : okO T (q0_9 :: a0 :: O) [1, 4, 16] := okO.cons (hO.sub (by decide)) t_q0_9 (by decide)
    refine lv_aload_n hx hb dX11_restore_10 rfl (lv_at hl 0 rfl) ?_
    refine x_getk (ci := 11) (C := RX11) (F := TX11) (N := 20) (v := .ref q0_9) hx hb hts uX11 hown hkb hH 1 rfl rfl 9 (by decide) rfl kw_369 (fun _ h9 => h9) dX11_restore_11 ?_
    refine lv_iload_n hx hb dX11_restore_14 rfl (lv_at hl 1 rfl) ?_
    refine xa_wld hx hb hkb hH 0 rfl hsp9 (by omega) (by omega) dX11_restore_15 (fun hel9 => ?_) (fun v15 hv15 gv15 hel9 t_v15 => ?_)
    · skip
      refine lv_ifnonnullN hx hb dX11_restore_16 ?_
      refine lv_bipush (v := (-5)) hx hb dX11_restore_19 (by decide) ?_
      have hH : HT D cs A T (a0 :: O) ((a0, .inr (11, [.ref q0_0, .int q0_1, .ref q0_2, .ref w, .ref q0_4, .ref q0_5, .ref q0_6, .int q0_7, .int q0_8, .ref q0_9, .ref q0_10, .ref q0_11, .ref q0_12, .ref q0_13, .ref q0_14, .ref q0_15, .ref ch, .ref q0_17, .ref q0_18, .int q0_19])) :: X) H := HT.layA hH t_q0_9 (show sp cs T (5, 2, 0) _ from ⟨f9, rfl, hsp9⟩)
      have hH : HT D cs A T O X H := HT.lay (ci := 11) hH t_a0 (okL_c (⟨_, rfl, t_q0_0⟩) (okL_c (⟨_, rfl, by omega, by omega⟩) (okL_c (⟨_, _, rfl, t_q0_2, t_dq0_2⟩) (okL_c (rfl) (okL_c (⟨_, rfl, t_q0_4⟩) (okL_c (⟨_, rfl, t_q0_5⟩) (okL_c (⟨_, rfl, t_q0_6⟩) (okL_c (⟨_, rfl, by omega, by omega⟩) (okL_c (⟨_, rfl, by omega, by omega⟩) (okL_c (⟨_, rfl, t_q0_9⟩) (okL_c (⟨_, rfl, t_q0_10⟩) (okL_c (⟨_, rfl, t_q0_11⟩) (okL_c (⟨_, rfl, t_q0_12⟩) (okL_c (⟨_, rfl, t_q0_13⟩) (okL_c (⟨_, rfl, t_q0_14⟩) (okL_c (⟨_, rfl, t_q0_15⟩) (okL_c (rfl) (okL_c (⟨_, rfl, t_q0_17⟩) (okL_c (⟨_, rfl, t_q0_18⟩) (okL_c (⟨_, rfl⟩) (okL_n)))))))))))))))))))))
      have hO := hO0
      have z9_m5 : ((-5) : Int32).toInt = -5 := by decide
      exact te_i hx hb hr hlocks hH hS (⟨T, w, hw, gw, rfl, by decide, by decide, Tre.of Tgr.rf, t_a0, t_w⟩) dX11_restore_21
    · skip
      refine lv_ifnonnull (tgt := 22) hx hb dX11_restore_16 (by decide) ?_
      refine lv_aload_n hx hb dX11_restore_22 rfl (lv_at hl 0 rfl) ?_
      refine lv_aload_n hx hb dX11_restore_23 rfl (lv_at hl 0 rfl) ?_
      refine x_getk (ci := 11) (C := RX11) (F := TX11) (N := 20) (v := .ref q0_9) hx hb hts uX11 hown hkb hH 1 rfl rfl 9 (by decide) rfl kw_369 (fun _ h9 => h9) dX11_restore_24 ?_
      refine lv_iload_n hx hb dX11_restore_27 rfl (lv_at hl 1 rfl) ?_
      refine xa_wld1 hx hb hkb hH 0 rfl (by omega) (by omega) hel9 dX11_restore_28 ?_
      refine x_putk (ci := 11) (v := .ref v15) (ty := tyX11 3) (C := RX11) (F := TX11) (N := 20) hx hb hts uX11 tyX11 tyX11_ok nmX11 hown hkb hH hS 1 rfl rfl 3 (by decide) kw_363 (fun _ h9 => h9) rfl (tyX11_ok 3 (by decide)) rfl rfl (Nat.le_of_ble_eq_true rfl) dX11_restore_29 (fun H locs hH hS => ?_)
      have hH : HT D cs A T (q0_9 :: a0 :: O) ((q0_9, .inl (cs.2.2.2.2.2.1, 2, .inr (.inr (.inr (.inr f9))))) :: (a0, .inr (11, [.ref q0_0, .int q0_1, .ref q0_2, .ref v15, .ref q0_4, .ref q0_5, .ref q0_6, .int q0_7, .int q0_8, .ref q0_9, .ref q0_10, .ref q0_11, .ref q0_12, .ref q0_13, .ref q0_14, .ref q0_15, .ref ch, .ref q0_17, .ref q0_18, .int q0_19])) :: X) H := hH
      refine lv_aload_n hx hb dX11_restore_32 rfl (lv_at hl 0 rfl) ?_
      refine x_getk (ci := 11) (C := RX11) (F := TX11) (N := 20) (v := .ref q0_4) hx hb hts uX11 hown hkb hH 1 rfl rfl 4 (by decide) rfl kw_364 (fun _ h9 => h9) dX11_restore_33 ?_
      refine lv_aload_n hx hb dX11_restore_36 rfl (lv_at hl 0 rfl) ?_
      refine x_getk (ci := 11) (C := RX11) (F := TX11) (N := 20) (v := .ref q0_10) hx hb hts uX11 hown hkb hH 1 rfl rfl 10 (by decide) rfl kw_370 (fun _ h9 => h9) dX11_restore_37 ?_
      refine lv_iload_n hx hb dX11_restore_40 rfl (lv_at hl 1 rfl) ?_
      refine t_qld4 hx hb hkb hH t_q0_10 (hO.no t_q0_10 (by decide)) (by omega) (by omega) dX11_restore_41 (fun v41 t_v41 => ?_)
      refine tk_v hH hS hA (tr_V (n := 1) (As := [.ref v41]) hx hb hml hown hts hkb hH (ox_c (ox_c hOX)) hks hE hS hA (s_State_take l D cs kf T (q0_9 :: a0 :: O) ((q0_9, .inl (cs.2.2.2.2.2.1, 2, .inr (.inr (.inr (.inr f9))))) :: (a0, .inr (11, [.ref q0_0, .int q0_1, .ref q0_2, .ref v15, .ref q0_4, .ref q0_5, .ref q0_6, .int q0_7, .int q0_8, .ref q0_9, .ref q0_10, .ref q0_11, .ref q0_12, .ref q0_13, .ref q0_14, .ref q0_15, .ref ch, .ref q0_17, .ref q0_18, .int q0_19])) :: X) q0_4 v41 t_q0_4 t_v41 (hO.sub (by decide))) kw_757 kw_758 kw_759 kw_7 kw_760 (by decide +kernel) ⟨Nat.le_of_ble_eq_true rfl, Nat.le_of_ble_eq_true rfl⟩ (HT.recv (ci := 6) hkb hH t_q0_4 (hO.no t_q0_4 (by decide)) rfl) rfl rfl hl.1 (Nat.le_of_ble_eq_true rfl) dX11_restore_42 ⟨Nat.le_of_ble_eq_true rfl, Nat.le_of_ble_eq_true rfl⟩) (fun u H locs hz9 hH hS => ?_)
      have hz9 : u = (T, q0_9 :: a0 :: O, (q0_9, .inl (cs.2.2.2.2.2.1, 2, .inr (.inr (.inr (.inr f9))))) :: (a0, .inr (11, [.ref q0_0, .int q0_1, .ref q0_2, .ref v15, .ref q0_4, .ref q0_5, .ref q0_6, .int q0_7, .int q0_8, .ref q0_9, .ref q0_10, .ref q0_11, .ref q0_12, .ref q0_13, .ref q0_14, .ref q0_15, .ref ch, .ref q0_17, .ref q0_18, .int q0_19])) :: X) := hz9
      subst hz9
      have hH : HT D cs A T (q0_9 :: a0 :: O) ((q0_9, .inl (cs.2.2.2.2.2.1, 2, .inr (.inr (.inr (.inr f9))))) :: (a0, .inr (11, [.ref q0_0, .int q0_1, .ref q0_2, .ref v15, .ref q0_4, .ref q0_5, .ref q0_6, .int q0_7, .int q0_8, .ref q0_9, .ref q0_10, .ref q0_11, .ref q0_12, .ref q0_13, .ref q0_14, .ref q0_15, .ref ch, .ref q0_17, .ref q0_18, .int q0_19])) :: X) H := hH
      refine W.widen (k := 0) (n := 0) (Nat.le_of_ble_eq_true rfl) (Nat.le_of_ble_eq_true rfl) ?_
      refine lv_aload_n hx hb dX11_restore_45 rfl (lv_at hl 0 rfl) ?_
      refine lv_iconst (v := 0) hx hb dX11_restore_46 (by decide) ?_
      refine x_putk (ci := 11) (v := .int 0) (ty := tyX11 7) (C := RX11) (F := TX11) (N := 20) hx hb hts uX11 tyX11 tyX11_ok nmX11 hown hkb hH hS 1 rfl rfl 7 (by decide) kw_367 (fun _ h9 => h9) rfl (tyX11_ok 7 (by decide)) rfl rfl (Nat.le_of_ble_eq_true rfl) dX11_restore_47 (fun H locs hH hS => ?_)
      have hH : HT D cs A T (q0_9 :: a0 :: O) ((q0_9, .inl (cs.2.2.2.2.2.1, 2, .inr (.inr (.inr (.inr f9))))) :: (a0, .inr (11, [.ref q0_0, .int q0_1, .ref q0_2, .ref v15, .ref q0_4, .ref q0_5, .ref q0_6, .int 0, .int q0_8, .ref q0_9, .ref q0_10, .ref q0_11, .ref q0_12, .ref q0_13, .ref q0_14, .ref q0_15, .ref ch, .ref q0_17, .ref q0_18, .int q0_19])) :: X) H := hH
      refine lv_iconst (v := 0) hx hb dX11_restore_50 (by decide) ?_
      have hH : HT D cs A T (a0 :: O) ((a0, .inr (11, [.ref q0_0, .int q0_1, .ref q0_2, .ref v15, .ref q0_4, .ref q0_5, .ref q0_6, .int 0, .int q0_8, .ref q0_9, .ref q0_10, .ref q0_11, .ref q0_12, .ref q0_13, .ref q0_14, .ref q0_15, .ref ch, .ref q0_17, .ref q0_18, .int q0_19])) :: X) H := HT.layA hH t_q0_9 (show sp cs T (5, 2, 0) _ from ⟨f9, rfl, hsp9⟩)
      obtain ⟨Tz, re_Tz, tz_a0, tz_w, hH⟩ : ∃ Tz, Tre T Tz ∧ Tz a0 = some (21, v15, ch) ∧ isW Tz v15 hv15 gv15 ∧ HT D cs A Tz O X H := ⟨Tadd T a0 (21, v15, ch), Tre.add t_a0, Tadd_r, isW.re t_a0 t_v15, HT.re (w2 := v15) hH t_a0 (okL_c (⟨_, rfl, t_q0_0⟩) (okL_c (⟨_, rfl, by omega, by omega⟩) (okL_c (⟨_, _, rfl, t_q0_2, t_dq0_2⟩) (okL_c (rfl) (okL_c (⟨_, rfl, t_q0_4⟩) (okL_c (⟨_, rfl, t_q0_5⟩) (okL_c (⟨_, rfl, t_q0_6⟩) (okL_c (⟨_, rfl, by decide, by decide⟩) (okL_c (⟨_, rfl, by omega, by omega⟩) (okL_c (⟨_, rfl, t_q0_9⟩) (okL_c (⟨_, rfl, t_q0_10⟩) (okL_c (⟨_, rfl, t_q0_11⟩) (okL_c (⟨_, rfl, t_q0_12⟩) (okL_c (⟨_, rfl, t_q0_13⟩) (okL_c (⟨_, rfl, t_q0_14⟩) (okL_c (⟨_, rfl, t_q0_15⟩) (okL_c (rfl) (okL_c (⟨_, rfl, t_q0_17⟩) (okL_c (⟨_, rfl, t_q0_18⟩) (okL_c (⟨_, rfl⟩) (okL_n)))))))))))))))))))))⟩
      have z9_0 : (0 : Int32).toInt = 0 := by decide
      exact te_i hx hb hr hlocks hH hS (⟨Tz, v15, hv15, gv15, rfl, by decide, by decide, Tre.tr (Tre.of Tgr.rf) re_Tz, tz_a0, tz_w⟩) dX11_restore_51
  · skip
    have tc4 := f_eq (k := 0) (by decide) c4
    refine lv_bipush (v := (-2)) hx hb dX11_restore_7 (by decide) ?_
    have hH : HT D cs A T O X H := HT.lay (ci := 11) hH t_a0 (okL_c (⟨_, rfl, t_q0_0⟩) (okL_c (⟨_, rfl, by omega, by omega⟩) (okL_c (⟨_, _, rfl, t_q0_2, t_dq0_2⟩) (okL_c (rfl) (okL_c (⟨_, rfl, t_q0_4⟩) (okL_c (⟨_, rfl, t_q0_5⟩) (okL_c (⟨_, rfl, t_q0_6⟩) (okL_c (⟨_, rfl, by omega, by omega⟩) (okL_c (⟨_, rfl, by omega, by omega⟩) (okL_c (⟨_, rfl, t_q0_9⟩) (okL_c (⟨_, rfl, t_q0_10⟩) (okL_c (⟨_, rfl, t_q0_11⟩) (okL_c (⟨_, rfl, t_q0_12⟩) (okL_c (⟨_, rfl, t_q0_13⟩) (okL_c (⟨_, rfl, t_q0_14⟩) (okL_c (⟨_, rfl, t_q0_15⟩) (okL_c (rfl) (okL_c (⟨_, rfl, t_q0_17⟩) (okL_c (⟨_, rfl, t_q0_18⟩) (okL_c (⟨_, rfl⟩) (okL_n)))))))))))))))))))))
    have hO := hO0
    have z9_m2 : ((-2) : Int32).toInt = -2 := by decide
    exact te_i hx hb hr hlocks hH hS (⟨T, w, hw, gw, rfl, by decide, by decide, Tre.of Tgr.rf, t_a0, t_w⟩) dX11_restore_9
