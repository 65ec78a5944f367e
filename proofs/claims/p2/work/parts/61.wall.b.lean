set_option maxHeartbeats 4000000 in
set_option maxRecDepth 100000 in
theorem s_FW_wall (l : Launch) (D : va_G) (cs : CS) (kf : KF) (T : TF) (O : List Nat) (X : va_W) (a0 w hw gw ch gq : Nat) (x1 : Int32) (t_a0 : T a0 = some (21, w, ch)) (t_w : isW T w hw gw) (t_ch : T ch = some (10, gq, 0)) (hU1 : ∀ (b : Nat) (tg : Tg), T b = some tg → tg.1 = 21 → b = a0) (hcO : ch ∈ O) (hO : okO T O [0, 1, 12, 13, 14, 16, 17, 19, 21]) : TK l D cs kf yX11_wall cX11_wall 2 (some (.int)) { frames := 33, cells := 10, slots := 1001, locals := 749 } [.ref a0, .int x1] T O X (Ti D cs (fun r u => ∃ (T2 : TF) (w2 : Nat) (h2 : Nat) (g2 : Nat) (gq2 : Nat), u = (T2, O, X) ∧ (Twl T T2 a0) ∧ (T2 a0 = some (21, w2, ch)) ∧ (isW T2 w2 h2 g2) ∧ (T2 ch = some (10, gq2, 0)) ∧ (WLF gq gq2 x1.toInt))) := by
  refine tk_of (by decide) (Nat.le_of_ble_eq_true rfl) (fun p e s m below meth c ls A H locs hx hb hr hml hown hts hlocks hnm hkb hH hS hA hOX hks hE hl => ?_)
  have hown : s.vm.findClass RX11 = some m.cls := hown
  have hl : lv_has ls 2 [(0, .ref a0), (1, .int x1)] := hl
  have b1_w := t_w.2.1
  have b2_w := t_w.2.2
  have hO0 := hO
  obtain ⟨fs9, ho9, hH⟩ := hH.take t_a0 (hO0.no t_a0 (by decide))
  have hp0 : okL T (ft11 w ch) fs9 := ho9
  clear ho9
  obtain ⟨v9, fs9, rfl, h9, hp1⟩ := okL_i hp0
  obtain ⟨q0_0, rfl, t_q0_0⟩ := h9
  obtain ⟨v9, fs9, rfl, h9, hp2⟩ := okL_i hp1
  obtain ⟨q0_1, rfl, l_q0_1, u_q0_1, gt_q0_1⟩ := h9
  have eg_q0_1 : q0_1.toInt = (gq : Int) := by have q9 := tl_eq gt_q0_1 t_ch; omega
  obtain ⟨v9, fs9, rfl, h9, hp3⟩ := okL_i hp2
  obtain ⟨q0_2, dq0_2, rfl, t_q0_2, t_dq0_2⟩ := h9
  obtain ⟨v9, fs9, rfl, h9, hp4⟩ := okL_i hp3
  have h9 : v9 = .ref w := h9
  subst h9
  obtain ⟨v9, fs9, rfl, h9, hp5⟩ := okL_i hp4
  obtain ⟨q0_4, rfl, t_q0_4⟩ := h9
  obtain ⟨v9, fs9, rfl, h9, hp6⟩ := okL_i hp5
  obtain ⟨q0_5, rfl, t_q0_5⟩ := h9
  obtain ⟨v9, fs9, rfl, h9, hp7⟩ := okL_i hp6
  obtain ⟨q0_6, rfl, t_q0_6⟩ := h9
  obtain ⟨v9, fs9, rfl, h9, hp8⟩ := okL_i hp7
  obtain ⟨q0_7, rfl, l_q0_7, u_q0_7⟩ := h9
  obtain ⟨v9, fs9, rfl, h9, hp9⟩ := okL_i hp8
  obtain ⟨q0_8, rfl, l_q0_8, u_q0_8⟩ := h9
  obtain ⟨v9, fs9, rfl, h9, hp10⟩ := okL_i hp9
  obtain ⟨q0_9, rfl, t_q0_9⟩ := h9
  obtain ⟨v9, fs9, rfl, h9, hp11⟩ := okL_i hp10
  obtain ⟨q0_10, rfl, t_q0_10⟩ := h9
  obtain ⟨v9, fs9, rfl, h9, hp12⟩ := okL_i hp11
  obtain ⟨q0_11, rfl, t_q0_11⟩ := h9
  obtain ⟨v9, fs9, rfl, h9, hp13⟩ := okL_i hp12
  obtain ⟨q0_12, rfl, t_q0_12⟩ := h9
  obtain ⟨v9, fs9, rfl, h9, hp14⟩ := okL_i hp13
  obtain ⟨q0_13, rfl, t_q0_13⟩ := h9
  obtain ⟨v9, fs9, rfl, h9, hp15⟩ := okL_i hp14
  obtain ⟨q0_14, rfl, t_q0_14⟩ := h9
  obtain ⟨v9, fs9, rfl, h9, hp16⟩ := okL_i hp15
  obtain ⟨q0_15, rfl, t_q0_15⟩ := h9
  obtain ⟨v9, fs9, rfl, h9, hp17⟩ := okL_i hp16
  have h9 : v9 = .ref ch := h9
  subst h9
  obtain ⟨v9, fs9, rfl, h9, hp18⟩ := okL_i hp17
  obtain ⟨q0_17, rfl, t_q0_17⟩ := h9
  obtain ⟨v9, fs9, rfl, h9, hp19⟩ := okL_i hp18
  obtain ⟨q0_18, rfl, t_q0_18⟩ := h9
  obtain ⟨v9, fs9, rfl, h9, hp20⟩ := okL_i hp19
  obtain ⟨q0_19, rfl⟩ := h9
  have hpz := okL_z hp20
  subst hpz
  have hH : HT D cs A T (a0 :: O) ((a0, .inr (11, [.ref q0_0, .int q0_1, .ref q0_2, .ref w, .ref q0_4, .ref q0_5, .ref q0_6, .int q0_7, .int q0_8, .ref q0_9, .ref q0_10, .ref q0_11, .ref q0_12, .ref q0_13, .ref q0_14, .ref q0_15, .ref ch, .ref q0_17, .ref q0_18, .int q0_19])) :: X) H := hH
  have hO : okO T (a0 :: O) [0, 1, 12, 13, 14, 16, 17, 19] := okO.cons (hO0.sub (by decide)) t_a0 (by decide)
  refine lv_iload_n hx hb dX11_wall_0 rfl (lv_at hl 1 rfl) ?_
  refine lv_if_lt (tgt := 12) hx hb dX11_wall_1 (by decide) (fun c1 => ?_) (fun c1 => ?_)
  · skip
    have tc1 := f_lt (k := 0) (by decide) c1
    refine lv_bipush (v := (-3)) hx hb dX11_wall_12 (by decide) ?_
    have hH : HT D cs A T O X H := HT.lay (ci := 11) hH t_a0 (okL_c (⟨_, rfl, t_q0_0⟩) (okL_c (⟨_, rfl, by omega, by omega, tl_of t_ch (by omega)⟩) (okL_c (⟨_, _, rfl, t_q0_2, t_dq0_2⟩) (okL_c (rfl) (okL_c (⟨_, rfl, t_q0_4⟩) (okL_c (⟨_, rfl, t_q0_5⟩) (okL_c (⟨_, rfl, t_q0_6⟩) (okL_c (⟨_, rfl, by omega, by omega⟩) (okL_c (⟨_, rfl, by omega, by omega⟩) (okL_c (⟨_, rfl, t_q0_9⟩) (okL_c (⟨_, rfl, t_q0_10⟩) (okL_c (⟨_, rfl, t_q0_11⟩) (okL_c (⟨_, rfl, t_q0_12⟩) (okL_c (⟨_, rfl, t_q0_13⟩) (okL_c (⟨_, rfl, t_q0_14⟩) (okL_c (⟨_, rfl, t_q0_15⟩) (okL_c (rfl) (okL_c (⟨_, rfl, t_q0_17⟩) (okL_c (⟨_, rfl, t_q0_18⟩) (okL_c (⟨_, rfl⟩) (okL_n)))))))))))))))))))))
    have hO := hO0
    refine W.widen (k := 10) (n := 1001) (Nat.le_of_ble_eq_true rfl) (Nat.le_of_ble_eq_true rfl) ?_
    have z9_m3 : ((-3) : Int32).toInt = -3 := by decide
    exact te_i hx hb hr hlocks hH hS (⟨T, w, hw, gw, gq, rfl, Twl.of Tgr.rf Tgc.rf Tre.rf, t_a0, t_w, t_ch, (by unfold WLF; omega)⟩) dX11_wall_14
  · skip
    have tc1 := f_nlt (k := 0) (by decide) c1
    refine lv_iload_n hx hb dX11_wall_4 rfl (lv_at hl 1 rfl) ?_
    refine lv_aload_n hx hb dX11_wall_5 rfl (lv_at hl 0 rfl) ?_
    refine x_get (ci := 11) (C := RX11) (F := TX11) (N := 20) (v := .int q0_1) hx hb hts uX11 hown hkb hH rfl 1 (by decide) rfl kw_361 (fun _ h9 => h9) dX11_wall_6 ?_
    refine lv_icmp_le (tgt := 15) hx hb dX11_wall_9 (by decide) (fun c9 => ?_) (fun c9 => ?_)
    · skip
      have fuc9 := full_i x1
      have fvc9 := full_i q0_1
      have tc9 := g_le c9
      refine lv_aload_n hx hb dX11_wall_15 rfl (lv_at hl 0 rfl) ?_
      refine lv_iconst (v := 0) hx hb dX11_wall_16 (by decide) ?_
      refine x_put (ci := 11) (v := .int 0) (ty := tyX11 1) (C := RX11) (F := TX11) (N := 20) hx hb hts uX11 tyX11 tyX11_ok nmX11 hown hkb hH hS rfl 1 (by decide) kw_361 (fun _ h9 => h9) rfl (tyX11_ok 1 (by decide)) rfl rfl (Nat.le_of_ble_eq_true rfl) dX11_wall_17 (fun H locs hH hS => ?_)
      have hH : HT D cs A T (a0 :: O) ((a0, .inr (11, [.ref q0_0, .int 0, .ref q0_2, .ref w, .ref q0_4, .ref q0_5, .ref q0_6, .int q0_7, .int q0_8, .ref q0_9, .ref q0_10, .ref q0_11, .ref q0_12, .ref q0_13, .ref q0_14, .ref q0_15, .ref ch, .ref q0_17, .ref q0_18, .int q0_19])) :: X) H := hH
      refine lv_aload_n hx hb dX11_wall_20 rfl (lv_at hl 0 rfl) ?_
      refine x_get (ci := 11) (C := RX11) (F := TX11) (N := 20) (v := .ref q0_2) hx hb hts uX11 hown hkb hH rfl 2 (by decide) rfl kw_362 (fun _ h9 => h9) dX11_wall_21 ?_
      refine lv_aload_n hx hb dX11_wall_24 rfl (lv_at hl 0 rfl) ?_
      refine x_get (ci := 11) (C := RX11) (F := TX11) (N := 20) (v := .ref q0_0) hx hb hts uX11 hown hkb hH rfl 0 (by decide) rfl kw_360 (fun _ h9 => h9) dX11_wall_25 ?_
      refine lv_iload_n hx hb dX11_wall_28 rfl (lv_at hl 1 rfl) ?_
      refine tk_i hH hS hA (tr_V (n := 2) (As := [.ref q0_0, .int x1]) hx hb hml hown hts hkb hH (ox_c hOX) hks hE hS hA (s_RD_read l D cs kf T (a0 :: O) ((a0, .inr (11, [.ref q0_0, .int 0, .ref q0_2, .ref w, .ref q0_4, .ref q0_5, .ref q0_6, .int q0_7, .int q0_8, .ref q0_9, .ref q0_10, .ref q0_11, .ref q0_12, .ref q0_13, .ref q0_14, .ref q0_15, .ref ch, .ref q0_17, .ref q0_18, .int q0_19])) :: X) q0_2 dq0_2 q0_0 x1 t_q0_2 t_dq0_2 t_q0_0 (by omega) (by omega) (hO.sub (by decide))) kw_433 kw_434 kw_435 kw_2 kw_436 (by decide +kernel) ⟨Nat.le_of_ble_eq_true rfl, Nat.le_of_ble_eq_true rfl⟩ (HT.recv (ci := 4) hkb hH t_q0_2 (hO.no t_q0_2 (by decide)) rfl) rfl rfl hl.1 (Nat.le_of_ble_eq_true rfl) dX11_wall_29 ⟨Nat.le_of_ble_eq_true rfl, Nat.le_of_ble_eq_true rfl⟩) (fun v29 u H locs hz9 hH hS => ?_)
      obtain ⟨rfl, l_v29, u_v29⟩ := hz9
      have hH : HT D cs A T (a0 :: O) ((a0, .inr (11, [.ref q0_0, .int 0, .ref q0_2, .ref w, .ref q0_4, .ref q0_5, .ref q0_6, .int q0_7, .int q0_8, .ref q0_9, .ref q0_10, .ref q0_11, .ref q0_12, .ref q0_13, .ref q0_14, .ref q0_15, .ref ch, .ref q0_17, .ref q0_18, .int q0_19])) :: X) H := hH
      refine W.widen (k := 0) (n := 0) (Nat.le_of_ble_eq_true rfl) (Nat.le_of_ble_eq_true rfl) ?_
      refine lv_if_ne (tgt := 49) hx hb dX11_wall_32 (by decide) (fun c32 => ?_) (fun c32 => ?_)
      · skip
        have tc32 := f_ne (k := 0) (by decide) c32
        refine lv_aload_n hx hb dX11_wall_49 rfl (lv_at hl 0 rfl) ?_
        refine lv_aload_n hx hb dX11_wall_50 rfl (lv_at hl 0 rfl) ?_
        refine x_get (ci := 11) (C := RX11) (F := TX11) (N := 20) (v := .ref q0_2) hx hb hts uX11 hown hkb hH rfl 2 (by decide) rfl kw_362 (fun _ h9 => h9) dX11_wall_51 ?_
        refine tk_r hH hS hA (tr_V (n := 0) (As := []) hx hb hml hown hts hkb hH (ox_c hOX) hks hE hS hA (s_RD_made l D cs kf T (a0 :: O) ((a0, .inr (11, [.ref q0_0, .int 0, .ref q0_2, .ref w, .ref q0_4, .ref q0_5, .ref q0_6, .int q0_7, .int q0_8, .ref q0_9, .ref q0_10, .ref q0_11, .ref q0_12, .ref q0_13, .ref q0_14, .ref q0_15, .ref ch, .ref q0_17, .ref q0_18, .int q0_19])) :: X) q0_2 dq0_2 t_q0_2 t_dq0_2 (hO.sub (by decide))) kw_711 kw_712 kw_713 kw_2 kw_714 (by decide +kernel) ⟨Nat.le_of_ble_eq_true rfl, Nat.le_of_ble_eq_true rfl⟩ (HT.recv (ci := 4) hkb hH t_q0_2 (hO.no t_q0_2 (by decide)) rfl) rfl rfl hl.1 (Nat.le_of_ble_eq_true rfl) dX11_wall_54 ⟨Nat.le_of_ble_eq_true rfl, Nat.le_of_ble_eq_true rfl⟩) (fun v54 u H locs hz9 hH hS => ?_)
        obtain ⟨T54, le_T54, rfl, ⟨hv54, gv54, t_v54⟩⟩ := hz9
        have t_a0 := le_T54.1 _ _ t_a0
        have t_w := isW.le le_T54.1 t_w
        have t_ch := le_T54.1 _ _ t_ch
        have t_q0_0 := le_T54.1 _ _ t_q0_0
        have t_q0_2 := le_T54.1 _ _ t_q0_2
        have t_dq0_2 := le_T54.1 _ _ t_dq0_2
        have t_q0_4 := le_T54.1 _ _ t_q0_4
        have t_q0_5 := le_T54.1 _ _ t_q0_5
        have t_q0_6 := le_T54.1 _ _ t_q0_6
        have t_q0_9 := le_T54.1 _ _ t_q0_9
        have t_q0_10 := le_T54.1 _ _ t_q0_10
        have t_q0_11 := le_T54.1 _ _ t_q0_11
        have t_q0_12 := le_T54.1 _ _ t_q0_12
        have t_q0_13 := le_T54.1 _ _ t_q0_13
        have t_q0_14 := le_T54.1 _ _ t_q0_14
        have t_q0_15 := le_T54.1 _ _ t_q0_15
        have t_q0_17 := le_T54.1 _ _ t_q0_17
        have t_q0_18 := le_T54.1 _ _ t_q0_18
        have hO := okO.le le_T54.1 hO
        have hO0 := okO.le le_T54.1 hO0
        have hH : HT D cs A T54 (a0 :: O) ((a0, .inr (11, [.ref q0_0, .int 0, .ref q0_2, .ref w, .ref q0_4, .ref q0_5, .ref q0_6, .int q0_7, .int q0_8, .ref q0_9, .ref q0_10, .ref q0_11, .ref q0_12, .ref q0_13, .ref q0_14, .ref q0_15, .ref ch, .ref q0_17, .ref q0_18, .int q0_19])) :: X) H := hH
        refine W.widen (k := 10) (n := 1001) (Nat.le_of_ble_eq_true rfl) (Nat.le_of_ble_eq_true rfl) ?_
        refine x_put (ci := 11) (v := .ref v54) (ty := tyX11 3) (C := RX11) (F := TX11) (N := 20) hx hb hts uX11 tyX11 tyX11_ok nmX11 hown hkb hH hS rfl 3 (by decide) kw_363 (fun _ h9 => h9) rfl (tyX11_ok 3 (by decide)) rfl rfl (Nat.le_of_ble_eq_true rfl) dX11_wall_57 (fun H locs hH hS => ?_)
        have hH : HT D cs A T54 (a0 :: O) ((a0, .inr (11, [.ref q0_0, .int 0, .ref q0_2, .ref v54, .ref q0_4, .ref q0_5, .ref q0_6, .int q0_7, .int q0_8, .ref q0_9, .ref q0_10, .ref q0_11, .ref q0_12, .ref q0_13, .ref q0_14, .ref q0_15, .ref ch, .ref q0_17, .ref q0_18, .int q0_19])) :: X) H := hH
        refine lv_aload_n hx hb dX11_wall_60 rfl (lv_at hl 0 rfl) ?_
        refine x_get (ci := 11) (C := RX11) (F := TX11) (N := 20) (v := .ref q0_4) hx hb hts uX11 hown hkb hH rfl 4 (by decide) rfl kw_364 (fun _ h9 => h9) dX11_wall_61 ?_
        refine lv_aload_n hx hb dX11_wall_64 rfl (lv_at hl 0 rfl) ?_
        refine x_get (ci := 11) (C := RX11) (F := TX11) (N := 20) (v := .ref q0_2) hx hb hts uX11 hown hkb hH rfl 2 (by decide) rfl kw_362 (fun _ h9 => h9) dX11_wall_65 ?_
        refine t_get (ci := 4) (lst := ft4 dq0_2 0) (C := RX4) (F := TX4) (N := 5) hx hb hts uX4 hown hkb hH t_q0_2 (hO.no t_q0_2 (by decide)) (fun _ h9 => h9) rfl rfl 4 (by decide) rfl kw_217 (fun _ h9 => h9) dX11_wall_68 (fun v9 h9 => ?_)
        obtain ⟨v68, rfl, t_v68⟩ := h9
        refine tk_v hH hS hA (tr_V (n := 1) (As := [.ref v68]) hx hb hml hown hts hkb hH (ox_c hOX) hks hE hS hA (s_State_take l D cs kf T54 (a0 :: O) ((a0, .inr (11, [.ref q0_0, .int 0, .ref q0_2, .ref v54, .ref q0_4, .ref q0_5, .ref q0_6, .int q0_7, .int q0_8, .ref q0_9, .ref q0_10, .ref q0_11, .ref q0_12, .ref q0_13, .ref q0_14, .ref q0_15, .ref ch, .ref q0_17, .ref q0_18, .int q0_19])) :: X) q0_4 v68 t_q0_4 t_v68 (hO.sub (by decide))) kw_757 kw_758 kw_759 kw_7 kw_760 (by decide +kernel) ⟨Nat.le_of_ble_eq_true rfl, Nat.le_of_ble_eq_true rfl⟩ (HT.recv (ci := 6) hkb hH t_q0_4 (hO.no t_q0_4 (by decide)) rfl) rfl rfl hl.1 (Nat.le_of_ble_eq_true rfl) dX11_wall_71 ⟨Nat.le_of_ble_eq_true rfl, Nat.le_of_ble_eq_true rfl⟩) (fun u H locs hz9 hH hS => ?_)
        have hz9 : u = (T54, a0 :: O, (a0, .inr (11, [.ref q0_0, .int 0, .ref q0_2, .ref v54, .ref q0_4, .ref q0_5, .ref q0_6, .int q0_7, .int q0_8, .ref q0_9, .ref q0_10, .ref q0_11, .ref q0_12, .ref q0_13, .ref q0_14, .ref q0_15, .ref ch, .ref q0_17, .ref q0_18, .int q0_19])) :: X) := hz9
        subst hz9
        have hH : HT D cs A T54 (a0 :: O) ((a0, .inr (11, [.ref q0_0, .int 0, .ref q0_2, .ref v54, .ref q0_4, .ref q0_5, .ref q0_6, .int q0_7, .int q0_8, .ref q0_9, .ref q0_10, .ref q0_11, .ref q0_12, .ref q0_13, .ref q0_14, .ref q0_15, .ref ch, .ref q0_17, .ref q0_18, .int q0_19])) :: X) H := hH
        refine W.widen (k := 10) (n := 1001) (Nat.le_of_ble_eq_true rfl) (Nat.le_of_ble_eq_true rfl) ?_
        refine lv_aload_n hx hb dX11_wall_74 rfl (lv_at hl 0 rfl) ?_
        refine lv_iconst (v := 0) hx hb dX11_wall_75 (by decide) ?_
        refine x_put (ci := 11) (v := .int 0) (ty := tyX11 7) (C := RX11) (F := TX11) (N := 20) hx hb hts uX11 tyX11 tyX11_ok nmX11 hown hkb hH hS rfl 7 (by decide) kw_367 (fun _ h9 => h9) rfl (tyX11_ok 7 (by decide)) rfl rfl (Nat.le_of_ble_eq_true rfl) dX11_wall_76 (fun H locs hH hS => ?_)
        have hH : HT D cs A T54 (a0 :: O) ((a0, .inr (11, [.ref q0_0, .int 0, .ref q0_2, .ref v54, .ref q0_4, .ref q0_5, .ref q0_6, .int 0, .int q0_8, .ref q0_9, .ref q0_10, .ref q0_11, .ref q0_12, .ref q0_13, .ref q0_14, .ref q0_15, .ref ch, .ref q0_17, .ref q0_18, .int q0_19])) :: X) H := hH
        refine lv_aload_n hx hb dX11_wall_79 rfl (lv_at hl 0 rfl) ?_
        refine x_get (ci := 11) (C := RX11) (F := TX11) (N := 20) (v := .ref v54) hx hb hts uX11 hown hkb hH rfl 3 (by decide) rfl kw_363 (fun _ h9 => h9) dX11_wall_80 ?_
        refine t_get (ci := 9) (lst := ft9w hv54 gv54) (C := RX9) (F := TX9) (N := 14) hx hb hts uX9 hown hkb hH t_v54.1 (hO.no t_v54.1 (by decide)) (fun fs => (ob9w t_v54 fs).mp) rfl rfl 2 (by decide) rfl kw_115 (fun _ h9 => h9) dX11_wall_83 (fun v9 h9 => ?_)
        obtain ⟨v83, rfl⟩ := h9
        obtain ⟨Tg, rc_Tg, tg_ch, hH⟩ : ∃ Tg, Tgc T54 Tg ∧ Tg ch = some (10, 0, 0) ∧ HT D cs A Tg (a0 :: O) ((a0, .inr (11, [.ref q0_0, .int 0, .ref q0_2, .ref v54, .ref q0_4, .ref q0_5, .ref q0_6, .int 0, .int q0_8, .ref q0_9, .ref q0_10, .ref q0_11, .ref q0_12, .ref q0_13, .ref q0_14, .ref q0_15, .ref ch, .ref q0_17, .ref q0_18, .int q0_19])) :: X) H := ⟨_, Tgc.add t_ch, Tadd_r, HT.gh (g2 := 0) hH t_ch (fun b tg hb hk => ((le_T54).2 b tg hb).elim (fun q9 => hU1 b tg q9 hk) (fun q9 => by omega)) (List.mem_cons_of_mem _ hcO) List.mem_cons_self⟩
        have t_q0_0 := rc_Tg.1 _ _ t_q0_0 (by show 0 ≠ 10; decide)
        have t_q0_2 := rc_Tg.1 _ _ t_q0_2 (by show 14 ≠ 10; decide)
        have t_dq0_2 := rc_Tg.1 _ _ t_dq0_2 (by show 19 ≠ 10; decide)
        have t_v54 := isW.gc rc_Tg.1 t_v54
        have t_q0_4 := rc_Tg.1 _ _ t_q0_4 (by show 16 ≠ 10; decide)
        have t_q0_5 := rc_Tg.1 _ _ t_q0_5 (by show 16 ≠ 10; decide)
        have t_q0_6 := rc_Tg.1 _ _ t_q0_6 (by show 4 ≠ 10; decide)
        have t_q0_9 := rc_Tg.1 _ _ t_q0_9 (by show 5 ≠ 10; decide)
        have t_q0_10 := rc_Tg.1 _ _ t_q0_10 (by show 4 ≠ 10; decide)
        have t_q0_11 := rc_Tg.1 _ _ t_q0_11 (by show 6 ≠ 10; decide)
        have t_q0_12 := rc_Tg.1 _ _ t_q0_12 (by show 7 ≠ 10; decide)
        have t_q0_13 := rc_Tg.1 _ _ t_q0_13 (by show 15 ≠ 10; decide)
        have t_q0_14 := rc_Tg.1 _ _ t_q0_14 (by show 20 ≠ 10; decide)
        have t_q0_15 := rc_Tg.1 _ _ t_q0_15 (by show 11 ≠ 10; decide)
        have t_q0_17 := rc_Tg.1 _ _ t_q0_17 (by show 1 ≠ 10; decide)
        have t_q0_18 := rc_Tg.1 _ _ t_q0_18 (by show 1 ≠ 10; decide)
        have t_w := isW.gc rc_Tg.1 t_w
        have t_a0 := rc_Tg.1 _ _ t_a0 (by show 21 ≠ 10; decide)
        have t_ch := tg_ch
        obtain ⟨Tz, re_Tz, tz_a0, tz_w, hH⟩ : ∃ Tz, Tre Tg Tz a0 ∧ Tz a0 = some (21, v54, ch) ∧ isW Tz v54 hv54 gv54 ∧ HT D cs A Tz O X H := ⟨Tadd Tg a0 (21, v54, ch), Tre.add t_a0, Tadd_r, isW.re t_a0 t_v54, HT.re (w2 := v54) hH t_a0 (okL_c (⟨_, rfl, t_q0_0⟩) (okL_c (⟨_, rfl, by decide, by decide, tl_of t_ch (by have k9 : (0 : Int32).toInt = 0 := (by decide); omega)⟩) (okL_c (⟨_, _, rfl, t_q0_2, t_dq0_2⟩) (okL_c (rfl) (okL_c (⟨_, rfl, t_q0_4⟩) (okL_c (⟨_, rfl, t_q0_5⟩) (okL_c (⟨_, rfl, t_q0_6⟩) (okL_c (⟨_, rfl, by decide, by decide⟩) (okL_c (⟨_, rfl, by omega, by omega⟩) (okL_c (⟨_, rfl, t_q0_9⟩) (okL_c (⟨_, rfl, t_q0_10⟩) (okL_c (⟨_, rfl, t_q0_11⟩) (okL_c (⟨_, rfl, t_q0_12⟩) (okL_c (⟨_, rfl, t_q0_13⟩) (okL_c (⟨_, rfl, t_q0_14⟩) (okL_c (⟨_, rfl, t_q0_15⟩) (okL_c (rfl) (okL_c (⟨_, rfl, t_q0_17⟩) (okL_c (⟨_, rfl, t_q0_18⟩) (okL_c (⟨_, rfl⟩) (okL_n)))))))))))))))))))))⟩
        exact te_i hx hb hr hlocks hH hS (⟨Tz, v54, hv54, gv54, 0, rfl, Twl.of le_T54 rc_Tg re_Tz, tz_a0, tz_w, re_Tz.1 _ _ t_ch (by show 10 ≠ 21; decide), (by unfold WLF; omega)⟩) dX11_wall_86
      · skip
        have tc32 := f_eq (k := 0) (by decide) c32
        refine lv_bipush (v := (-30)) hx hb dX11_wall_35 (by decide) ?_
        refine lv_aload_n hx hb dX11_wall_37 rfl (lv_at hl 0 rfl) ?_
        refine x_get (ci := 11) (C := RX11) (F := TX11) (N := 20) (v := .ref q0_2) hx hb hts uX11 hown hkb hH rfl 2 (by decide) rfl kw_362 (fun _ h9 => h9) dX11_wall_38 ?_
        refine t_get (ci := 4) (lst := ft4 dq0_2 0) (C := RX4) (F := TX4) (N := 5) hx hb hts uX4 hown hkb hH t_q0_2 (hO.no t_q0_2 (by decide)) (fun _ h9 => h9) rfl rfl 0 (by decide) rfl kw_212 (fun _ h9 => h9) dX11_wall_41 (fun v9 h9 => ?_)
        obtain ⟨v41, rfl, t_v41⟩ := h9
        refine t_get (ci := 7) (lst := ft7 0 0) (C := RX7) (F := TX7) (N := 8) hx hb hts uX7 hown hkb hH t_v41 (hO.no t_v41 (by decide)) (fun _ h9 => ob7_ok h9) rfl rfl 6 (by decide) rfl kw_55 (fun _ h9 => h9) dX11_wall_44 (fun v9 h9 => ?_)
        obtain ⟨v44, rfl⟩ := h9
        refine lv_isub hx hb dX11_wall_47 ?_
        refine lv_topi (fun v47 ev47 => ?_)
        obtain ⟨Tg, rc_Tg, tg_ch, hH⟩ : ∃ Tg, Tgc T Tg ∧ Tg ch = some (10, 0, 0) ∧ HT D cs A Tg (a0 :: O) ((a0, .inr (11, [.ref q0_0, .int 0, .ref q0_2, .ref w, .ref q0_4, .ref q0_5, .ref q0_6, .int q0_7, .int q0_8, .ref q0_9, .ref q0_10, .ref q0_11, .ref q0_12, .ref q0_13, .ref q0_14, .ref q0_15, .ref ch, .ref q0_17, .ref q0_18, .int q0_19])) :: X) H := ⟨_, Tgc.add t_ch, Tadd_r, HT.gh (g2 := 0) hH t_ch hU1 (List.mem_cons_of_mem _ hcO) List.mem_cons_self⟩
        have t_q0_0 := rc_Tg.1 _ _ t_q0_0 (by show 0 ≠ 10; decide)
        have t_q0_2 := rc_Tg.1 _ _ t_q0_2 (by show 14 ≠ 10; decide)
        have t_dq0_2 := rc_Tg.1 _ _ t_dq0_2 (by show 19 ≠ 10; decide)
        have t_w := isW.gc rc_Tg.1 t_w
        have t_q0_4 := rc_Tg.1 _ _ t_q0_4 (by show 16 ≠ 10; decide)
        have t_q0_5 := rc_Tg.1 _ _ t_q0_5 (by show 16 ≠ 10; decide)
        have t_q0_6 := rc_Tg.1 _ _ t_q0_6 (by show 4 ≠ 10; decide)
        have t_q0_9 := rc_Tg.1 _ _ t_q0_9 (by show 5 ≠ 10; decide)
        have t_q0_10 := rc_Tg.1 _ _ t_q0_10 (by show 4 ≠ 10; decide)
        have t_q0_11 := rc_Tg.1 _ _ t_q0_11 (by show 6 ≠ 10; decide)
        have t_q0_12 := rc_Tg.1 _ _ t_q0_12 (by show 7 ≠ 10; decide)
        have t_q0_13 := rc_Tg.1 _ _ t_q0_13 (by show 15 ≠ 10; decide)
        have t_q0_14 := rc_Tg.1 _ _ t_q0_14 (by show 20 ≠ 10; decide)
        have t_q0_15 := rc_Tg.1 _ _ t_q0_15 (by show 11 ≠ 10; decide)
        have t_q0_17 := rc_Tg.1 _ _ t_q0_17 (by show 1 ≠ 10; decide)
        have t_q0_18 := rc_Tg.1 _ _ t_q0_18 (by show 1 ≠ 10; decide)
        have t_a0 := rc_Tg.1 _ _ t_a0 (by show 21 ≠ 10; decide)
        have t_ch := tg_ch
        have hH : HT D cs A Tg O X H := HT.lay (ci := 11) hH t_a0 (okL_c (⟨_, rfl, t_q0_0⟩) (okL_c (⟨_, rfl, by decide, by decide, tl_of t_ch (by have k9 : (0 : Int32).toInt = 0 := (by decide); omega)⟩) (okL_c (⟨_, _, rfl, t_q0_2, t_dq0_2⟩) (okL_c (rfl) (okL_c (⟨_, rfl, t_q0_4⟩) (okL_c (⟨_, rfl, t_q0_5⟩) (okL_c (⟨_, rfl, t_q0_6⟩) (okL_c (⟨_, rfl, by omega, by omega⟩) (okL_c (⟨_, rfl, by omega, by omega⟩) (okL_c (⟨_, rfl, t_q0_9⟩) (okL_c (⟨_, rfl, t_q0_10⟩) (okL_c (⟨_, rfl, t_q0_11⟩) (okL_c (⟨_, rfl, t_q0_12⟩) (okL_c (⟨_, rfl, t_q0_13⟩) (okL_c (⟨_, rfl, t_q0_14⟩) (okL_c (⟨_, rfl, t_q0_15⟩) (okL_c (rfl) (okL_c (⟨_, rfl, t_q0_17⟩) (okL_c (⟨_, rfl, t_q0_18⟩) (okL_c (⟨_, rfl⟩) (okL_n)))))))))))))))))))))
        have hO := hO0
        refine W.widen (k := 10) (n := 1001) (Nat.le_of_ble_eq_true rfl) (Nat.le_of_ble_eq_true rfl) ?_
        exact te_i hx hb hr hlocks hH hS (⟨Tg, w, hw, gw, 0, rfl, Twl.of Tgr.rf rc_Tg Tre.rf, t_a0, t_w, t_ch, (by unfold WLF; omega)⟩) dX11_wall_48
    · skip
      have fuc9 := full_i x1
      have fvc9 := full_i q0_1
      have tc9 := g_nle c9
      refine lv_bipush (v := (-3)) hx hb dX11_wall_12 (by decide) ?_
      have hH : HT D cs A T O X H := HT.lay (ci := 11) hH t_a0 (okL_c (⟨_, rfl, t_q0_0⟩) (okL_c (⟨_, rfl, by omega, by omega, tl_of t_ch (by omega)⟩) (okL_c (⟨_, _, rfl, t_q0_2, t_dq0_2⟩) (okL_c (rfl) (okL_c (⟨_, rfl, t_q0_4⟩) (okL_c (⟨_, rfl, t_q0_5⟩) (okL_c (⟨_, rfl, t_q0_6⟩) (okL_c (⟨_, rfl, by omega, by omega⟩) (okL_c (⟨_, rfl, by omega, by omega⟩) (okL_c (⟨_, rfl, t_q0_9⟩) (okL_c (⟨_, rfl, t_q0_10⟩) (okL_c (⟨_, rfl, t_q0_11⟩) (okL_c (⟨_, rfl, t_q0_12⟩) (okL_c (⟨_, rfl, t_q0_13⟩) (okL_c (⟨_, rfl, t_q0_14⟩) (okL_c (⟨_, rfl, t_q0_15⟩) (okL_c (rfl) (okL_c (⟨_, rfl, t_q0_17⟩) (okL_c (⟨_, rfl, t_q0_18⟩) (okL_c (⟨_, rfl⟩) (okL_n)))))))))))))))))))))
      have hO := hO0
      refine W.widen (k := 10) (n := 1001) (Nat.le_of_ble_eq_true rfl) (Nat.le_of_ble_eq_true rfl) ?_
      have z9_m3 : ((-3) : Int32).toInt = -3 := by decide
      exact te_i hx hb hr hlocks hH hS (⟨T, w, hw, gw, gq, rfl, Twl.of Tgr.rf Tgc.rf Tre.rf, t_a0, t_w, t_ch, (by unfold WLF; omega)⟩) dX11_wall_14
set_option maxHeartbeats 4000000 in
set_option maxRecDepth 100000 in
theorem s_FW_putX (l : Launch) (D : va_G) (cs : CS) (kf : KF) (T : TF) (O : List Nat) (X : va_W) (a0 : Nat) (x1 : Int32) (y0 : Nat) (y1 : Int32) (tl : List Value) (w ch : Nat) (t_a0 : T a0 = some (21, w, ch)) (t_y0 : T y0 = some (0, 900, 0)) (l_y1 : 0 ≤ y1.toInt) (u_y1 : y1.toInt ≤ 900) (k1 : y1.toInt ≤ 896) (hO : okO T (a0 :: O) [0]) : TK l D cs kf yX11_putOnTape cX11_putOnTape 3 none { frames := 0, cells := 0, slots := 0, locals := 0 } [.ref a0, .int x1] T (a0 :: O) ((a0, .inr (11, (.ref y0) :: (.int y1) :: tl)) :: X) (Tv D cs (fun u => ∃ (n0_1 : Int32), u = (T, a0 :: O, (a0, .inr (11, (.ref y0) :: (.int n0_1) :: tl)) :: X) ∧ (n0_1.toInt = y1.toInt + 4))) := by
  refine tk_of (by decide) (Nat.le_of_ble_eq_true rfl) (fun p e s m below meth c ls A H locs hx hb hr hml hown hts hlocks hnm hkb hH hS hA hOX hks hE hl => ?_)
  have hown : s.vm.findClass RX11 = some m.cls := hown
  have hl : lv_has ls 3 [(0, .ref a0), (1, .int x1)] := hl
  have hOXf := hOX
  refine lv_bipush (v := 24) hx hb dX11_putOnTape_0 (by decide) ?_
  have J3 : ∀ (n : Nat) (p3_2 : Int32) (f3_101 : Int32) (H : Heap) (locs : List Loc) (ls : Array Slot), (p3_2.toInt - (-8)).toNat = n → (-8 ≤ p3_2.toInt) → (p3_2.toInt ≤ 24) → (0 ≤ f3_101.toInt) → (f3_101.toInt ≤ 900) → (8 * f3_101.toInt = 8 * y1.toInt + 24 - p3_2.toInt ∧ -8 ≤ p3_2.toInt ∧ p3_2.toInt ≤ 24) → HT D cs A T (a0 :: O) ((a0, .inr (11, (.ref y0) :: (.int f3_101) :: tl)) :: X) H → va_S A s.heap H locs → lv_has ls 3 [(2, .int p3_2), (0, .ref a0), (1, .int x1)] → W p l e { frames := 0, cells := 0, slots := 0, locals := 0 } s m [.ref a0, .int x1].toArray below meth c H locs 0 0 (MQ below (Tv D cs (fun u => ∃ (n0_1 : Int32), u = (T, a0 :: O, (a0, .inr (11, (.ref y0) :: (.int n0_1) :: tl)) :: X) ∧ (n0_1.toInt = y1.toInt + 4)) A) [.ref a0, .int x1].toArray s 0 0 A) (F0 m 3 ls []) := by
    intro n
    induction n using Nat.strongRecOn with
    | _ n ih3 =>
      intro p3_2 f3_101 H locs ls hm3 l_p3_2 u_p3_2 l_f3_101 u_f3_101 i3 hH hS hl
      refine lv_iload_n hx hb dX11_putOnTape_3 rfl (lv_at hl 0 rfl) ?_
      refine lv_if_lt (tgt := 46) hx hb dX11_putOnTape_4 (by decide) (fun c4 => ?_) (fun c4 => ?_)
      · skip
        have tc4 := f_lt (k := 0) (by decide) c4
        exact te_v hx hb hr hlocks hH hS (⟨f3_101, rfl, by omega⟩) dX11_putOnTape_46
      · skip
        have tc4 := f_nlt (k := 0) (by decide) c4
        refine lv_aload_n hx hb dX11_putOnTape_7 rfl (lv_at hl 1 rfl) ?_
        refine x_getk (ci := 11) (C := RX11) (F := TX11) (N := 20) (v := .int f3_101) hx hb hts uX11 hown hkb hH 0 rfl rfl 1 (by decide) rfl kw_361 (fun _ h9 => h9) dX11_putOnTape_8 ?_
        refine lv_sipush (v := 900) hx hb dX11_putOnTape_11 (by decide) ?_
        refine lv_icmp_ge (tgt := 46) hx hb dX11_putOnTape_14 (by decide) (fun c14 => ?_) (fun c14 => ?_)
        · skip
          have tc14 := f_ge (k := 900) (by decide) c14
          exact te_v hx hb hr hlocks hH hS (⟨f3_101, rfl, by omega⟩) dX11_putOnTape_46
        · skip
          have tc14 := f_nge (k := 900) (by decide) c14
          refine lv_aload_n hx hb dX11_putOnTape_17 rfl (lv_at hl 1 rfl) ?_
          refine x_getk (ci := 11) (C := RX11) (F := TX11) (N := 20) (v := .ref y0) hx hb hts uX11 hown hkb hH 0 rfl rfl 0 (by decide) rfl kw_360 (fun _ h9 => h9) dX11_putOnTape_18 ?_
          refine lv_aload_n hx hb dX11_putOnTape_21 rfl (lv_at hl 1 rfl) ?_
          refine x_getk (ci := 11) (C := RX11) (F := TX11) (N := 20) (v := .int f3_101) hx hb hts uX11 hown hkb hH 0 rfl rfl 1 (by decide) rfl kw_361 (fun _ h9 => h9) dX11_putOnTape_22 ?_
          refine lv_iload_n hx hb dX11_putOnTape_25 rfl (lv_at hl 2 rfl) ?_
          refine lv_iload_n hx hb dX11_putOnTape_26 rfl (lv_at hl 0 rfl) ?_
          refine lv_ishr hx hb dX11_putOnTape_27 ?_
          refine lv_topi (fun v27 ev27 => ?_)
          refine lv_i2b hx hb dX11_putOnTape_28 rfl ?_
          refine lv_topi (fun v28 ev28 => ?_)
          refine t_bst hx hb hkb hH hS t_y0 (hO.no t_y0 (by decide)) (by omega) (by omega) dX11_putOnTape_29 (fun H locs hH hS => ?_)
          refine lv_aload_n hx hb dX11_putOnTape_30 rfl (lv_at hl 1 rfl) ?_
          refine lv_dup hx hb dX11_putOnTape_31 rfl ?_
          refine x_getk (ci := 11) (C := RX11) (F := TX11) (N := 20) (v := .int f3_101) hx hb hts uX11 hown hkb hH 0 rfl rfl 1 (by decide) rfl kw_361 (fun _ h9 => h9) dX11_putOnTape_32 ?_
          refine lv_iconst (v := 1) hx hb dX11_putOnTape_35 (by decide) ?_
          refine lv_iadd hx hb dX11_putOnTape_36 ?_
          refine lv_topi (fun v36 ev36 => ?_)
          have tv36 : v36.toInt = f3_101.toInt + (1) := by rw [ev36]; exact add_i rfl (by decide : (1 : Int32).toInt = 1) (by omega) (by omega)
          refine x_putk (ci := 11) (v := .int v36) (ty := tyX11 1) (C := RX11) (F := TX11) (N := 20) hx hb hts uX11 tyX11 tyX11_ok nmX11 hown hkb hH hS 0 rfl rfl 1 (by decide) kw_361 (fun _ h9 => h9) rfl (tyX11_ok 1 (by decide)) rfl rfl (by show 1 < tl.length + 2; omega) dX11_putOnTape_37 (fun H locs hH hS => ?_)
          have hH : HT D cs A T (a0 :: O) ((a0, .inr (11, (.ref y0) :: (.int v36) :: tl)) :: X) H := hH
          obtain ⟨v40, ev40⟩ : ∃ y : Int32, y = p3_2 + (-8) := ⟨_, rfl⟩
          have tv40 : v40.toInt = p3_2.toInt + (-8) := by rw [ev40]; exact add_i rfl (by decide) (by omega) (by omega)
          refine lv_iinc (v := v40) (lv' := [(2, .int v40), (0, .ref a0), (1, .int x1)]) hx hb dX11_putOnTape_40 hl (k := 0) rfl (by rw [ev40]; rfl) (by decide) rfl (fun ls hl => ?_)
          refine lv_goto (tgt := 3) hx hb dX11_putOnTape_43 (by decide) ?_
          exact ih3 _ (by omega) v40 v36 _ _ _ rfl (by omega) (by omega) (by omega) (by omega) (by omega) hH hS (lv_sub hl [0, 1, 2] rfl)
  refine lv_istore_n (lv' := [(2, .int 24), (0, .ref a0), (1, .int x1)]) hx hb dX11_putOnTape_2 rfl hl (by decide) rfl (fun ls hl => ?_)
  have z_24 : (24 : Int32).toInt = 24 := by decide
  exact J3 _ 24 y1 _ _ _ rfl (by decide) (by decide) (by omega) (by omega) (by omega) hH hS (lv_sub hl [0, 1, 2] rfl)
set_option maxHeartbeats 4000000 in
set_option maxRecDepth 100000 in
theorem s_FW_feed (l : Launch) (D : va_G) (cs : CS) (kf : KF) (T : TF) (O : List Nat) (X : va_W) (a0 w hw gw ch gq : Nat) (x1 : Int32) (x2 : Int32) (x3 : Int32) (x4 : Int32) (x5 : Int32) (t_a0 : T a0 = some (21, w, ch)) (t_w : isW T w hw gw) (t_ch : T ch = some (10, gq, 0)) (hU1 : ∀ (b : Nat) (tg : Tg), T b = some tg → tg.1 = 21 → b = a0) (hcO : ch ∈ O) (hO : okO T O [0, 21]) : TK l D cs kf yX11_feed cX11_feed 6 (some (.int)) { frames := 1, cells := 0, slots := 0, locals := 22 } [.ref a0, .int x1, .int x2, .int x3, .int x4, .int x5] T O X (Ti D cs (fun r u => ∃ (T2 : TF) (gq2 : Nat), u = (T2, O, X) ∧ -5 ≤ r.toInt ∧ r.toInt ≤ 900 ∧ (Tgc T T2) ∧ (T2 ch = some (10, gq2, 0)) ∧ (FDF gq gq2 r.toInt))) := by
  refine tk_of (by decide) (Nat.le_of_ble_eq_true rfl) (fun p e s m below meth c ls A H locs hx hb hr hml hown hts hlocks hnm hkb hH hS hA hOX hks hE hl => ?_)
  have hown : s.vm.findClass RX11 = some m.cls := hown
  have hl : lv_has ls 6 [(0, .ref a0), (1, .int x1), (2, .int x2), (3, .int x3), (4, .int x4), (5, .int x5)] := hl
  have b1_w := t_w.2.1
  have b2_w := t_w.2.2
  have hO0 := hO
  obtain ⟨fs9, ho9, hH⟩ := hH.take t_a0 (hO0.no t_a0 (by decide))
  have hp0 : okL T (ft11 w ch) fs9 := ho9
  clear ho9
  obtain ⟨v9, fs9, rfl, h9, hp1⟩ := okL_i hp0
  obtain ⟨q0_0, rfl, t_q0_0⟩ := h9
  obtain ⟨v9, fs9, rfl, h9, hp2⟩ := okL_i hp1
  obtain ⟨q0_1, rfl, l_q0_1, u_q0_1, gt_q0_1⟩ := h9
  have eg_q0_1 : q0_1.toInt = (gq : Int) := by have q9 := tl_eq gt_q0_1 t_ch; omega
  obtain ⟨v9, fs9, rfl, h9, hp3⟩ := okL_i hp2
  obtain ⟨q0_2, dq0_2, rfl, t_q0_2, t_dq0_2⟩ := h9
  obtain ⟨v9, fs9, rfl, h9, hp4⟩ := okL_i hp3
  have h9 : v9 = .ref w := h9
  subst h9
  obtain ⟨v9, fs9, rfl, h9, hp5⟩ := okL_i hp4
  obtain ⟨q0_4, rfl, t_q0_4⟩ := h9
  obtain ⟨v9, fs9, rfl, h9, hp6⟩ := okL_i hp5
  obtain ⟨q0_5, rfl, t_q0_5⟩ := h9
  obtain ⟨v9, fs9, rfl, h9, hp7⟩ := okL_i hp6
  obtain ⟨q0_6, rfl, t_q0_6⟩ := h9
  obtain ⟨v9, fs9, rfl, h9, hp8⟩ := okL_i hp7
  obtain ⟨q0_7, rfl, l_q0_7, u_q0_7⟩ := h9
  obtain ⟨v9, fs9, rfl, h9, hp9⟩ := okL_i hp8
  obtain ⟨q0_8, rfl, l_q0_8, u_q0_8⟩ := h9
  obtain ⟨v9, fs9, rfl, h9, hp10⟩ := okL_i hp9
  obtain ⟨q0_9, rfl, t_q0_9⟩ := h9
  obtain ⟨v9, fs9, rfl, h9, hp11⟩ := okL_i hp10
  obtain ⟨q0_10, rfl, t_q0_10⟩ := h9
  obtain ⟨v9, fs9, rfl, h9, hp12⟩ := okL_i hp11
  obtain ⟨q0_11, rfl, t_q0_11⟩ := h9
  obtain ⟨v9, fs9, rfl, h9, hp13⟩ := okL_i hp12
  obtain ⟨q0_12, rfl, t_q0_12⟩ := h9
  obtain ⟨v9, fs9, rfl, h9, hp14⟩ := okL_i hp13
  obtain ⟨q0_13, rfl, t_q0_13⟩ := h9
  obtain ⟨v9, fs9, rfl, h9, hp15⟩ := okL_i hp14
  obtain ⟨q0_14, rfl, t_q0_14⟩ := h9
  obtain ⟨v9, fs9, rfl, h9, hp16⟩ := okL_i hp15
  obtain ⟨q0_15, rfl, t_q0_15⟩ := h9
  obtain ⟨v9, fs9, rfl, h9, hp17⟩ := okL_i hp16
  have h9 : v9 = .ref ch := h9
  subst h9
  obtain ⟨v9, fs9, rfl, h9, hp18⟩ := okL_i hp17
  obtain ⟨q0_17, rfl, t_q0_17⟩ := h9
  obtain ⟨v9, fs9, rfl, h9, hp19⟩ := okL_i hp18
  obtain ⟨q0_18, rfl, t_q0_18⟩ := h9
  obtain ⟨v9, fs9, rfl, h9, hp20⟩ := okL_i hp19
  obtain ⟨q0_19, rfl⟩ := h9
  have hpz := okL_z hp20
  subst hpz
  have hH : HT D cs A T (a0 :: O) ((a0, .inr (11, [.ref q0_0, .int q0_1, .ref q0_2, .ref w, .ref q0_4, .ref q0_5, .ref q0_6, .int q0_7, .int q0_8, .ref q0_9, .ref q0_10, .ref q0_11, .ref q0_12, .ref q0_13, .ref q0_14, .ref q0_15, .ref ch, .ref q0_17, .ref q0_18, .int q0_19])) :: X) H := hH
  have hO : okO T (a0 :: O) [0] := okO.cons (hO0.sub (by decide)) t_a0 (by decide)
  refine lv_aload_n hx hb dX11_feed_0 rfl (lv_at hl 0 rfl) ?_
  refine x_getk (ci := 11) (C := RX11) (F := TX11) (N := 20) (v := .int q0_1) hx hb hts uX11 hown hkb hH 0 rfl rfl 1 (by decide) rfl kw_361 (fun _ h9 => h9) dX11_feed_1 ?_
  refine lv_bipush (v := 20) hx hb dX11_feed_4 (by decide) ?_
  refine lv_iadd hx hb dX11_feed_6 ?_
  refine lv_topi (fun v6 ev6 => ?_)
  have tv6 : v6.toInt = q0_1.toInt + (20) := by rw [ev6]; exact add_i rfl (by decide : (20 : Int32).toInt = 20) (by omega) (by omega)
  refine lv_sipush (v := 900) hx hb dX11_feed_7 (by decide) ?_
  refine lv_icmp_le (tgt := 16) hx hb dX11_feed_10 (by decide) (fun c10 => ?_) (fun c10 => ?_)
  · skip
    have tc10 := f_le (k := 900) (by decide) c10
    refine lv_aload_n hx hb dX11_feed_16 rfl (lv_at hl 0 rfl) ?_
    refine lv_iload_n hx hb dX11_feed_17 rfl (lv_at hl 1 rfl) ?_
    refine tk_v hH hS hA (tr_V (n := 1) (As := [.int x1]) hx hb hml hown hts hkb hH (ox_c hOX) hks hE hS hA (s_FW_putX l D cs kf T O X a0 x1 q0_0 q0_1 [.ref q0_2, .ref w, .ref q0_4, .ref q0_5, .ref q0_6, .int q0_7, .int q0_8, .ref q0_9, .ref q0_10, .ref q0_11, .ref q0_12, .ref q0_13, .ref q0_14, .ref q0_15, .ref ch, .ref q0_17, .ref q0_18, .int q0_19] w ch t_a0 t_q0_0 (by omega) (by omega) (by omega) (hO.sub (by decide))) kw_425 kw_427 ks_0 kw_1 kw_428 (by decide +kernel) ⟨Nat.le_of_ble_eq_true rfl, Nat.le_of_ble_eq_true rfl⟩ (x_recv (ci := 11) hkb hH 0 rfl rfl) rfl rfl hl.1 (Nat.le_of_ble_eq_true rfl) dX11_feed_18 ⟨Nat.le_of_ble_eq_true rfl, Nat.le_of_ble_eq_true rfl⟩) (fun u H locs hz9 hH hS => ?_)
    obtain ⟨n18_0_1, rfl, x_v180⟩ := hz9
    have hH : HT D cs A T (a0 :: O) ((a0, .inr (11, [.ref q0_0, .int n18_0_1, .ref q0_2, .ref w, .ref q0_4, .ref q0_5, .ref q0_6, .int q0_7, .int q0_8, .ref q0_9, .ref q0_10, .ref q0_11, .ref q0_12, .ref q0_13, .ref q0_14, .ref q0_15, .ref ch, .ref q0_17, .ref q0_18, .int q0_19])) :: X) H := hH
    refine W.widen (k := 0) (n := 0) (Nat.le_of_ble_eq_true rfl) (Nat.le_of_ble_eq_true rfl) ?_
    refine lv_aload_n hx hb dX11_feed_21 rfl (lv_at hl 0 rfl) ?_
    refine lv_iload_n hx hb dX11_feed_22 rfl (lv_at hl 2 rfl) ?_
    refine tk_v hH hS hA (tr_V (n := 1) (As := [.int x2]) hx hb hml hown hts hkb hH (ox_c hOX) hks hE hS hA (s_FW_putX l D cs kf T O X a0 x2 q0_0 n18_0_1 [.ref q0_2, .ref w, .ref q0_4, .ref q0_5, .ref q0_6, .int q0_7, .int q0_8, .ref q0_9, .ref q0_10, .ref q0_11, .ref q0_12, .ref q0_13, .ref q0_14, .ref q0_15, .ref ch, .ref q0_17, .ref q0_18, .int q0_19] w ch t_a0 t_q0_0 (by omega) (by omega) (by omega) (hO.sub (by decide))) kw_425 kw_427 ks_0 kw_1 kw_428 (by decide +kernel) ⟨Nat.le_of_ble_eq_true rfl, Nat.le_of_ble_eq_true rfl⟩ (x_recv (ci := 11) hkb hH 0 rfl rfl) rfl rfl hl.1 (Nat.le_of_ble_eq_true rfl) dX11_feed_23 ⟨Nat.le_of_ble_eq_true rfl, Nat.le_of_ble_eq_true rfl⟩) (fun u H locs hz9 hH hS => ?_)
    obtain ⟨n23_0_1, rfl, x_v230⟩ := hz9
    have hH : HT D cs A T (a0 :: O) ((a0, .inr (11, [.ref q0_0, .int n23_0_1, .ref q0_2, .ref w, .ref q0_4, .ref q0_5, .ref q0_6, .int q0_7, .int q0_8, .ref q0_9, .ref q0_10, .ref q0_11, .ref q0_12, .ref q0_13, .ref q0_14, .ref q0_15, .ref ch, .ref q0_17, .ref q0_18, .int q0_19])) :: X) H := hH
    refine W.widen (k := 0) (n := 0) (Nat.le_of_ble_eq_true rfl) (Nat.le_of_ble_eq_true rfl) ?_
    refine lv_aload_n hx hb dX11_feed_26 rfl (lv_at hl 0 rfl) ?_
    refine lv_iload_n hx hb dX11_feed_27 rfl (lv_at hl 3 rfl) ?_
    refine tk_v hH hS hA (tr_V (n := 1) (As := [.int x3]) hx hb hml hown hts hkb hH (ox_c hOX) hks hE hS hA (s_FW_putX l D cs kf T O X a0 x3 q0_0 n23_0_1 [.ref q0_2, .ref w, .ref q0_4, .ref q0_5, .ref q0_6, .int q0_7, .int q0_8, .ref q0_9, .ref q0_10, .ref q0_11, .ref q0_12, .ref q0_13, .ref q0_14, .ref q0_15, .ref ch, .ref q0_17, .ref q0_18, .int q0_19] w ch t_a0 t_q0_0 (by omega) (by omega) (by omega) (hO.sub (by decide))) kw_425 kw_427 ks_0 kw_1 kw_428 (by decide +kernel) ⟨Nat.le_of_ble_eq_true rfl, Nat.le_of_ble_eq_true rfl⟩ (x_recv (ci := 11) hkb hH 0 rfl rfl) rfl rfl hl.1 (Nat.le_of_ble_eq_true rfl) dX11_feed_28 ⟨Nat.le_of_ble_eq_true rfl, Nat.le_of_ble_eq_true rfl⟩) (fun u H locs hz9 hH hS => ?_)
    obtain ⟨n28_0_1, rfl, x_v280⟩ := hz9
    have hH : HT D cs A T (a0 :: O) ((a0, .inr (11, [.ref q0_0, .int n28_0_1, .ref q0_2, .ref w, .ref q0_4, .ref q0_5, .ref q0_6, .int q0_7, .int q0_8, .ref q0_9, .ref q0_10, .ref q0_11, .ref q0_12, .ref q0_13, .ref q0_14, .ref q0_15, .ref ch, .ref q0_17, .ref q0_18, .int q0_19])) :: X) H := hH
    refine W.widen (k := 0) (n := 0) (Nat.le_of_ble_eq_true rfl) (Nat.le_of_ble_eq_true rfl) ?_
    refine lv_aload_n hx hb dX11_feed_31 rfl (lv_at hl 0 rfl) ?_
    refine lv_iload hx hb dX11_feed_32 (lv_at hl 4 rfl) ?_
    refine tk_v hH hS hA (tr_V (n := 1) (As := [.int x4]) hx hb hml hown hts hkb hH (ox_c hOX) hks hE hS hA (s_FW_putX l D cs kf T O X a0 x4 q0_0 n28_0_1 [.ref q0_2, .ref w, .ref q0_4, .ref q0_5, .ref q0_6, .int q0_7, .int q0_8, .ref q0_9, .ref q0_10, .ref q0_11, .ref q0_12, .ref q0_13, .ref q0_14, .ref q0_15, .ref ch, .ref q0_17, .ref q0_18, .int q0_19] w ch t_a0 t_q0_0 (by omega) (by omega) (by omega) (hO.sub (by decide))) kw_425 kw_427 ks_0 kw_1 kw_428 (by decide +kernel) ⟨Nat.le_of_ble_eq_true rfl, Nat.le_of_ble_eq_true rfl⟩ (x_recv (ci := 11) hkb hH 0 rfl rfl) rfl rfl hl.1 (Nat.le_of_ble_eq_true rfl) dX11_feed_34 ⟨Nat.le_of_ble_eq_true rfl, Nat.le_of_ble_eq_true rfl⟩) (fun u H locs hz9 hH hS => ?_)
    obtain ⟨n34_0_1, rfl, x_v340⟩ := hz9
    have hH : HT D cs A T (a0 :: O) ((a0, .inr (11, [.ref q0_0, .int n34_0_1, .ref q0_2, .ref w, .ref q0_4, .ref q0_5, .ref q0_6, .int q0_7, .int q0_8, .ref q0_9, .ref q0_10, .ref q0_11, .ref q0_12, .ref q0_13, .ref q0_14, .ref q0_15, .ref ch, .ref q0_17, .ref q0_18, .int q0_19])) :: X) H := hH
    refine W.widen (k := 0) (n := 0) (Nat.le_of_ble_eq_true rfl) (Nat.le_of_ble_eq_true rfl) ?_
    refine lv_aload_n hx hb dX11_feed_37 rfl (lv_at hl 0 rfl) ?_
    refine lv_iload hx hb dX11_feed_38 (lv_at hl 5 rfl) ?_
    refine tk_v hH hS hA (tr_V (n := 1) (As := [.int x5]) hx hb hml hown hts hkb hH (ox_c hOX) hks hE hS hA (s_FW_putX l D cs kf T O X a0 x5 q0_0 n34_0_1 [.ref q0_2, .ref w, .ref q0_4, .ref q0_5, .ref q0_6, .int q0_7, .int q0_8, .ref q0_9, .ref q0_10, .ref q0_11, .ref q0_12, .ref q0_13, .ref q0_14, .ref q0_15, .ref ch, .ref q0_17, .ref q0_18, .int q0_19] w ch t_a0 t_q0_0 (by omega) (by omega) (by omega) (hO.sub (by decide))) kw_425 kw_427 ks_0 kw_1 kw_428 (by decide +kernel) ⟨Nat.le_of_ble_eq_true rfl, Nat.le_of_ble_eq_true rfl⟩ (x_recv (ci := 11) hkb hH 0 rfl rfl) rfl rfl hl.1 (Nat.le_of_ble_eq_true rfl) dX11_feed_40 ⟨Nat.le_of_ble_eq_true rfl, Nat.le_of_ble_eq_true rfl⟩) (fun u H locs hz9 hH hS => ?_)
    obtain ⟨n40_0_1, rfl, x_v400⟩ := hz9
    have hH : HT D cs A T (a0 :: O) ((a0, .inr (11, [.ref q0_0, .int n40_0_1, .ref q0_2, .ref w, .ref q0_4, .ref q0_5, .ref q0_6, .int q0_7, .int q0_8, .ref q0_9, .ref q0_10, .ref q0_11, .ref q0_12, .ref q0_13, .ref q0_14, .ref q0_15, .ref ch, .ref q0_17, .ref q0_18, .int q0_19])) :: X) H := hH
    refine W.widen (k := 0) (n := 0) (Nat.le_of_ble_eq_true rfl) (Nat.le_of_ble_eq_true rfl) ?_
    refine lv_aload_n hx hb dX11_feed_43 rfl (lv_at hl 0 rfl) ?_
    refine x_getk (ci := 11) (C := RX11) (F := TX11) (N := 20) (v := .int n40_0_1) hx hb hts uX11 hown hkb hH 0 rfl rfl 1 (by decide) rfl kw_361 (fun _ h9 => h9) dX11_feed_44 ?_
    obtain ⟨Tg, rc_Tg, tg_ch, hH⟩ : ∃ Tg, Tgc T Tg ∧ Tg ch = some (10, (n40_0_1.toInt.toNat), 0) ∧ HT D cs A Tg (a0 :: O) ((a0, .inr (11, [.ref q0_0, .int n40_0_1, .ref q0_2, .ref w, .ref q0_4, .ref q0_5, .ref q0_6, .int q0_7, .int q0_8, .ref q0_9, .ref q0_10, .ref q0_11, .ref q0_12, .ref q0_13, .ref q0_14, .ref q0_15, .ref ch, .ref q0_17, .ref q0_18, .int q0_19])) :: X) H := ⟨_, Tgc.add t_ch, Tadd_r, HT.gh (g2 := (n40_0_1.toInt.toNat)) hH t_ch hU1 (List.mem_cons_of_mem _ hcO) List.mem_cons_self⟩
    have t_q0_0 := rc_Tg.1 _ _ t_q0_0 (by show 0 ≠ 10; decide)
    have t_q0_2 := rc_Tg.1 _ _ t_q0_2 (by show 14 ≠ 10; decide)
    have t_dq0_2 := rc_Tg.1 _ _ t_dq0_2 (by show 19 ≠ 10; decide)
    have t_w := isW.gc rc_Tg.1 t_w
    have t_q0_4 := rc_Tg.1 _ _ t_q0_4 (by show 16 ≠ 10; decide)
    have t_q0_5 := rc_Tg.1 _ _ t_q0_5 (by show 16 ≠ 10; decide)
    have t_q0_6 := rc_Tg.1 _ _ t_q0_6 (by show 4 ≠ 10; decide)
    have t_q0_9 := rc_Tg.1 _ _ t_q0_9 (by show 5 ≠ 10; decide)
    have t_q0_10 := rc_Tg.1 _ _ t_q0_10 (by show 4 ≠ 10; decide)
    have t_q0_11 := rc_Tg.1 _ _ t_q0_11 (by show 6 ≠ 10; decide)
    have t_q0_12 := rc_Tg.1 _ _ t_q0_12 (by show 7 ≠ 10; decide)
    have t_q0_13 := rc_Tg.1 _ _ t_q0_13 (by show 15 ≠ 10; decide)
    have t_q0_14 := rc_Tg.1 _ _ t_q0_14 (by show 20 ≠ 10; decide)
    have t_q0_15 := rc_Tg.1 _ _ t_q0_15 (by show 11 ≠ 10; decide)
    have t_q0_17 := rc_Tg.1 _ _ t_q0_17 (by show 1 ≠ 10; decide)
    have t_q0_18 := rc_Tg.1 _ _ t_q0_18 (by show 1 ≠ 10; decide)
    have t_a0 := rc_Tg.1 _ _ t_a0 (by show 21 ≠ 10; decide)
    have t_ch := tg_ch
    have hH : HT D cs A Tg O X H := HT.lay (ci := 11) hH t_a0 (okL_c (⟨_, rfl, t_q0_0⟩) (okL_c (⟨_, rfl, by omega, by omega, tl_of t_ch (by omega)⟩) (okL_c (⟨_, _, rfl, t_q0_2, t_dq0_2⟩) (okL_c (rfl) (okL_c (⟨_, rfl, t_q0_4⟩) (okL_c (⟨_, rfl, t_q0_5⟩) (okL_c (⟨_, rfl, t_q0_6⟩) (okL_c (⟨_, rfl, by omega, by omega⟩) (okL_c (⟨_, rfl, by omega, by omega⟩) (okL_c (⟨_, rfl, t_q0_9⟩) (okL_c (⟨_, rfl, t_q0_10⟩) (okL_c (⟨_, rfl, t_q0_11⟩) (okL_c (⟨_, rfl, t_q0_12⟩) (okL_c (⟨_, rfl, t_q0_13⟩) (okL_c (⟨_, rfl, t_q0_14⟩) (okL_c (⟨_, rfl, t_q0_15⟩) (okL_c (rfl) (okL_c (⟨_, rfl, t_q0_17⟩) (okL_c (⟨_, rfl, t_q0_18⟩) (okL_c (⟨_, rfl⟩) (okL_n)))))))))))))))))))))
    have hO := hO0
    exact te_i hx hb hr hlocks hH hS (⟨Tg, (n40_0_1.toInt.toNat), rfl, by omega, by omega, rc_Tg, t_ch, (by have k9 : (-5 : Int32).toInt = -5 := (by decide); unfold FDF; omega)⟩) dX11_feed_47
  · skip
    have tc10 := f_nle (k := 900) (by decide) c10
    refine lv_bipush (v := (-5)) hx hb dX11_feed_13 (by decide) ?_
    have hH : HT D cs A T O X H := HT.lay (ci := 11) hH t_a0 (okL_c (⟨_, rfl, t_q0_0⟩) (okL_c (⟨_, rfl, by omega, by omega, tl_of t_ch (by omega)⟩) (okL_c (⟨_, _, rfl, t_q0_2, t_dq0_2⟩) (okL_c (rfl) (okL_c (⟨_, rfl, t_q0_4⟩) (okL_c (⟨_, rfl, t_q0_5⟩) (okL_c (⟨_, rfl, t_q0_6⟩) (okL_c (⟨_, rfl, by omega, by omega⟩) (okL_c (⟨_, rfl, by omega, by omega⟩) (okL_c (⟨_, rfl, t_q0_9⟩) (okL_c (⟨_, rfl, t_q0_10⟩) (okL_c (⟨_, rfl, t_q0_11⟩) (okL_c (⟨_, rfl, t_q0_12⟩) (okL_c (⟨_, rfl, t_q0_13⟩) (okL_c (⟨_, rfl, t_q0_14⟩) (okL_c (⟨_, rfl, t_q0_15⟩) (okL_c (rfl) (okL_c (⟨_, rfl, t_q0_17⟩) (okL_c (⟨_, rfl, t_q0_18⟩) (okL_c (⟨_, rfl⟩) (okL_n)))))))))))))))))))))
    have hO := hO0
    have z9_m5 : ((-5) : Int32).toInt = -5 := by decide
    exact te_i hx hb hr hlocks hH hS (⟨T, gq, rfl, by decide, by decide, Tgc.rf, t_ch, (by have k9 : (-5 : Int32).toInt = -5 := (by decide); unfold FDF; omega)⟩) dX11_feed_15
set_option maxHeartbeats 4000000 in
set_option maxRecDepth 100000 in
theorem s_FW_restore (l : Launch) (D : va_G) (cs : CS) (kf : KF) (T : TF) (O : List Nat) (X : va_W) (a0 w hw gw ch gq : Nat) (x1 : Int32) (t_a0 : T a0 = some (21, w, ch)) (t_w : isW T w hw gw) (t_ch : T ch = some (10, gq, 0)) (hO : okO T O [1, 4, 5, 16, 21]) : TK l D cs kf yX11_restore cX11_restore 2 (some (.int)) { frames := 2, cells := 0, slots := 0, locals := 81 } [.ref a0, .int x1] T O X (Ti D cs (fun r u => ∃ (T2 : TF) (w2 : Nat) (h2 : Nat) (g2 : Nat), u = (T2, O, X) ∧ -5 ≤ r.toInt ∧ r.toInt ≤ 0 ∧ (Tre T T2 a0) ∧ (T2 a0 = some (21, w2, ch)) ∧ (isW T2 w2 h2 g2))) := by
  refine tk_of (by decide) (Nat.le_of_ble_eq_true rfl) (fun p e s m below meth c ls A H locs hx hb hr hml hown hts hlocks hnm hkb hH hS hA hOX hks hE hl => ?_)
  have hown : s.vm.findClass RX11 = some m.cls := hown
  have hl : lv_has ls 2 [(0, .ref a0), (1, .int x1)] := hl
  have b1_w := t_w.2.1
  have b2_w := t_w.2.2
  have hO0 := hO
  obtain ⟨fs9, ho9, hH⟩ := hH.take t_a0 (hO0.no t_a0 (by decide))
  have hp0 : okL T (ft11 w ch) fs9 := ho9
  clear ho9
  obtain ⟨v9, fs9, rfl, h9, hp1⟩ := okL_i hp0
  obtain ⟨q0_0, rfl, t_q0_0⟩ := h9
  obtain ⟨v9, fs9, rfl, h9, hp2⟩ := okL_i hp1
  obtain ⟨q0_1, rfl, l_q0_1, u_q0_1, gt_q0_1⟩ := h9
  have eg_q0_1 : q0_1.toInt = (gq : Int) := by have q9 := tl_eq gt_q0_1 t_ch; omega
  obtain ⟨v9, fs9, rfl, h9, hp3⟩ := okL_i hp2
  obtain ⟨q0_2, dq0_2, rfl, t_q0_2, t_dq0_2⟩ := h9
  obtain ⟨v9, fs9, rfl, h9, hp4⟩ := okL_i hp3
  have h9 : v9 = .ref w := h9
  subst h9
  obtain ⟨v9, fs9, rfl, h9, hp5⟩ := okL_i hp4
  obtain ⟨q0_4, rfl, t_q0_4⟩ := h9
  obtain ⟨v9, fs9, rfl, h9, hp6⟩ := okL_i hp5
  obtain ⟨q0_5, rfl, t_q0_5⟩ := h9
  obtain ⟨v9, fs9, rfl, h9, hp7⟩ := okL_i hp6
  obtain ⟨q0_6, rfl, t_q0_6⟩ := h9
  obtain ⟨v9, fs9, rfl, h9, hp8⟩ := okL_i hp7
  obtain ⟨q0_7, rfl, l_q0_7, u_q0_7⟩ := h9
  obtain ⟨v9, fs9, rfl, h9, hp9⟩ := okL_i hp8
  obtain ⟨q0_8, rfl, l_q0_8, u_q0_8⟩ := h9
  obtain ⟨v9, fs9, rfl, h9, hp10⟩ := okL_i hp9
  obtain ⟨q0_9, rfl, t_q0_9⟩ := h9
  obtain ⟨v9, fs9, rfl, h9, hp11⟩ := okL_i hp10
  obtain ⟨q0_10, rfl, t_q0_10⟩ := h9
  obtain ⟨v9, fs9, rfl, h9, hp12⟩ := okL_i hp11
  obtain ⟨q0_11, rfl, t_q0_11⟩ := h9
  obtain ⟨v9, fs9, rfl, h9, hp13⟩ := okL_i hp12
  obtain ⟨q0_12, rfl, t_q0_12⟩ := h9
  obtain ⟨v9, fs9, rfl, h9, hp14⟩ := okL_i hp13
  obtain ⟨q0_13, rfl, t_q0_13⟩ := h9
  obtain ⟨v9, fs9, rfl, h9, hp15⟩ := okL_i hp14
  obtain ⟨q0_14, rfl, t_q0_14⟩ := h9
  obtain ⟨v9, fs9, rfl, h9, hp16⟩ := okL_i hp15
  obtain ⟨q0_15, rfl, t_q0_15⟩ := h9
  obtain ⟨v9, fs9, rfl, h9, hp17⟩ := okL_i hp16
  have h9 : v9 = .ref ch := h9
  subst h9
  obtain ⟨v9, fs9, rfl, h9, hp18⟩ := okL_i hp17
  obtain ⟨q0_17, rfl, t_q0_17⟩ := h9
  obtain ⟨v9, fs9, rfl, h9, hp19⟩ := okL_i hp18
  obtain ⟨q0_18, rfl, t_q0_18⟩ := h9
  obtain ⟨v9, fs9, rfl, h9, hp20⟩ := okL_i hp19
  obtain ⟨q0_19, rfl⟩ := h9
  have hpz := okL_z hp20
  subst hpz
  have hH : HT D cs A T (a0 :: O) ((a0, .inr (11, [.ref q0_0, .int q0_1, .ref q0_2, .ref w, .ref q0_4, .ref q0_5, .ref q0_6, .int q0_7, .int q0_8, .ref q0_9, .ref q0_10, .ref q0_11, .ref q0_12, .ref q0_13, .ref q0_14, .ref q0_15, .ref ch, .ref q0_17, .ref q0_18, .int q0_19])) :: X) H := hH
  have hO : okO T (a0 :: O) [1, 4, 5, 16] := okO.cons (hO0.sub (by decide)) t_a0 (by decide)
  refine lv_iload_n hx hb dX11_restore_0 rfl (lv_at hl 1 rfl) ?_
  refine tk_i hH hS hA (tr_S (n := 1) (As := [.int x1]) hx hb hml hown hts hkb hH (ox_c hOX) hks hE hS hA (s_FW_isImage l D cs kf T (a0 :: O) ((a0, .inr (11, [.ref q0_0, .int q0_1, .ref q0_2, .ref w, .ref q0_4, .ref q0_5, .ref q0_6, .int q0_7, .int q0_8, .ref q0_9, .ref q0_10, .ref q0_11, .ref q0_12, .ref q0_13, .ref q0_14, .ref q0_15, .ref ch, .ref q0_17, .ref q0_18, .int q0_19])) :: X) x1  (hO.sub (by decide))) kw_1202 kw_1203 kw_1 kw_1204 (by decide +kernel) ⟨Nat.le_of_ble_eq_true rfl, Nat.le_of_ble_eq_true rfl⟩ rfl rfl hl.1 (Nat.le_of_ble_eq_true rfl) dX11_restore_1 ⟨Nat.le_of_ble_eq_true rfl, Nat.le_of_ble_eq_true rfl⟩) (fun v1 u H locs hz9 hH hS => ?_)
  obtain ⟨rfl, l_v1, u_v1, x_v10⟩ := hz9
  have hH : HT D cs A T (a0 :: O) ((a0, .inr (11, [.ref q0_0, .int q0_1, .ref q0_2, .ref w, .ref q0_4, .ref q0_5, .ref q0_6, .int q0_7, .int q0_8, .ref q0_9, .ref q0_10, .ref q0_11, .ref q0_12, .ref q0_13, .ref q0_14, .ref q0_15, .ref ch, .ref q0_17, .ref q0_18, .int q0_19])) :: X) H := hH
  refine W.widen (k := 0) (n := 0) (Nat.le_of_ble_eq_true rfl) (Nat.le_of_ble_eq_true rfl) ?_
  refine lv_if_ne (tgt := 10) hx hb dX11_restore_4 (by decide) (fun c4 => ?_) (fun c4 => ?_)
  · skip
    have tc4 := f_ne (k := 0) (by decide) c4
    obtain ⟨e9, hs9, hH⟩ := HT.takeA hH t_q0_9 (hO.no t_q0_9 (by decide))
    obtain ⟨f9, rfl, hsp9⟩ : ∃ f : Nat → Option Nat, e9 = .inl (cs.2.2.2.2.2.1, 2, .inr (.inr (.inr (.inr f)))) ∧ ∀ j a, f j = some a → ∃ h g, isW T a h g := hs9
    have hO : okO T (q0_9 :: a0 :: O) [1, 4, 16] := okO.cons (hO.sub (by decide)) t_q0_9 (by decide)
    refine lv_aload_n hx hb dX11_restore_10 rfl (lv_at hl 0 rfl) ?_
    refine x_getk (ci := 11) (C := RX11) (F := TX11) (N := 20) (v := .ref q0_9) hx hb hts uX11 hown hkb hH 1 rfl rfl 9 (by decide) rfl kw_369 (fun _ h9 => h9) dX11_restore_11 ?_
    refine lv_iload_n hx hb dX11_restore_14 rfl (lv_at hl 1 rfl) ?_
    refine xa_wld hx hb hkb hH 0 rfl hsp9 (by omega) (by omega) dX11_restore_15 (fun hel9 => ?_) (fun v15 hv15 gv15 hel9 t_v15 => ?_)
    · skip
      refine lv_ifnonnullN hx hb dX11_restore_16 ?_
      refine lv_bipush (v := (-5)) hx hb dX11_restore_19 (by decide) ?_
      have hH : HT D cs A T (a0 :: O) ((a0, .inr (11, [.ref q0_0, .int q0_1, .ref q0_2, .ref w, .ref q0_4, .ref q0_5, .ref q0_6, .int q0_7, .int q0_8, .ref q0_9, .ref q0_10, .ref q0_11, .ref q0_12, .ref q0_13, .ref q0_14, .ref q0_15, .ref ch, .ref q0_17, .ref q0_18, .int q0_19])) :: X) H := HT.layA hH t_q0_9 (show sp cs T (5, 2, 0) _ from ⟨f9, rfl, hsp9⟩)
      have hH : HT D cs A T O X H := HT.lay (ci := 11) hH t_a0 (okL_c (⟨_, rfl, t_q0_0⟩) (okL_c (⟨_, rfl, by omega, by omega, tl_of t_ch (by omega)⟩) (okL_c (⟨_, _, rfl, t_q0_2, t_dq0_2⟩) (okL_c (rfl) (okL_c (⟨_, rfl, t_q0_4⟩) (okL_c (⟨_, rfl, t_q0_5⟩) (okL_c (⟨_, rfl, t_q0_6⟩) (okL_c (⟨_, rfl, by omega, by omega⟩) (okL_c (⟨_, rfl, by omega, by omega⟩) (okL_c (⟨_, rfl, t_q0_9⟩) (okL_c (⟨_, rfl, t_q0_10⟩) (okL_c (⟨_, rfl, t_q0_11⟩) (okL_c (⟨_, rfl, t_q0_12⟩) (okL_c (⟨_, rfl, t_q0_13⟩) (okL_c (⟨_, rfl, t_q0_14⟩) (okL_c (⟨_, rfl, t_q0_15⟩) (okL_c (rfl) (okL_c (⟨_, rfl, t_q0_17⟩) (okL_c (⟨_, rfl, t_q0_18⟩) (okL_c (⟨_, rfl⟩) (okL_n)))))))))))))))))))))
      have hO := hO0
      have z9_m5 : ((-5) : Int32).toInt = -5 := by decide
      exact te_i hx hb hr hlocks hH hS (⟨T, w, hw, gw, rfl, by decide, by decide, Tre.of Tgr.rf, t_a0, t_w⟩) dX11_restore_21
    · skip
      refine lv_ifnonnull (tgt := 22) hx hb dX11_restore_16 (by decide) ?_
      refine lv_aload_n hx hb dX11_restore_22 rfl (lv_at hl 0 rfl) ?_
      refine lv_aload_n hx hb dX11_restore_23 rfl (lv_at hl 0 rfl) ?_
      refine x_getk (ci := 11) (C := RX11) (F := TX11) (N := 20) (v := .ref q0_9) hx hb hts uX11 hown hkb hH 1 rfl rfl 9 (by decide) rfl kw_369 (fun _ h9 => h9) dX11_restore_24 ?_
      refine lv_iload_n hx hb dX11_restore_27 rfl (lv_at hl 1 rfl) ?_
      refine xa_wld1 hx hb hkb hH 0 rfl (by omega) (by omega) hel9 dX11_restore_28 ?_
      refine x_putk (ci := 11) (v := .ref v15) (ty := tyX11 3) (C := RX11) (F := TX11) (N := 20) hx hb hts uX11 tyX11 tyX11_ok nmX11 hown hkb hH hS 1 rfl rfl 3 (by decide) kw_363 (fun _ h9 => h9) rfl (tyX11_ok 3 (by decide)) rfl rfl (Nat.le_of_ble_eq_true rfl) dX11_restore_29 (fun H locs hH hS => ?_)
      have hH : HT D cs A T (q0_9 :: a0 :: O) ((q0_9, .inl (cs.2.2.2.2.2.1, 2, .inr (.inr (.inr (.inr f9))))) :: (a0, .inr (11, [.ref q0_0, .int q0_1, .ref q0_2, .ref v15, .ref q0_4, .ref q0_5, .ref q0_6, .int q0_7, .int q0_8, .ref q0_9, .ref q0_10, .ref q0_11, .ref q0_12, .ref q0_13, .ref q0_14, .ref q0_15, .ref ch, .ref q0_17, .ref q0_18, .int q0_19])) :: X) H := hH
      refine lv_aload_n hx hb dX11_restore_32 rfl (lv_at hl 0 rfl) ?_
      refine x_getk (ci := 11) (C := RX11) (F := TX11) (N := 20) (v := .ref q0_4) hx hb hts uX11 hown hkb hH 1 rfl rfl 4 (by decide) rfl kw_364 (fun _ h9 => h9) dX11_restore_33 ?_
      refine lv_aload_n hx hb dX11_restore_36 rfl (lv_at hl 0 rfl) ?_
      refine x_getk (ci := 11) (C := RX11) (F := TX11) (N := 20) (v := .ref q0_10) hx hb hts uX11 hown hkb hH 1 rfl rfl 10 (by decide) rfl kw_370 (fun _ h9 => h9) dX11_restore_37 ?_
      refine lv_iload_n hx hb dX11_restore_40 rfl (lv_at hl 1 rfl) ?_
      refine t_qld4 hx hb hkb hH t_q0_10 (hO.no t_q0_10 (by decide)) (by omega) (by omega) dX11_restore_41 (fun v41 t_v41 => ?_)
      refine tk_v hH hS hA (tr_V (n := 1) (As := [.ref v41]) hx hb hml hown hts hkb hH (ox_c (ox_c hOX)) hks hE hS hA (s_State_take l D cs kf T (q0_9 :: a0 :: O) ((q0_9, .inl (cs.2.2.2.2.2.1, 2, .inr (.inr (.inr (.inr f9))))) :: (a0, .inr (11, [.ref q0_0, .int q0_1, .ref q0_2, .ref v15, .ref q0_4, .ref q0_5, .ref q0_6, .int q0_7, .int q0_8, .ref q0_9, .ref q0_10, .ref q0_11, .ref q0_12, .ref q0_13, .ref q0_14, .ref q0_15, .ref ch, .ref q0_17, .ref q0_18, .int q0_19])) :: X) q0_4 v41 t_q0_4 t_v41 (hO.sub (by decide))) kw_757 kw_758 kw_759 kw_7 kw_760 (by decide +kernel) ⟨Nat.le_of_ble_eq_true rfl, Nat.le_of_ble_eq_true rfl⟩ (HT.recv (ci := 6) hkb hH t_q0_4 (hO.no t_q0_4 (by decide)) rfl) rfl rfl hl.1 (Nat.le_of_ble_eq_true rfl) dX11_restore_42 ⟨Nat.le_of_ble_eq_true rfl, Nat.le_of_ble_eq_true rfl⟩) (fun u H locs hz9 hH hS => ?_)
      have hz9 : u = (T, q0_9 :: a0 :: O, (q0_9, .inl (cs.2.2.2.2.2.1, 2, .inr (.inr (.inr (.inr f9))))) :: (a0, .inr (11, [.ref q0_0, .int q0_1, .ref q0_2, .ref v15, .ref q0_4, .ref q0_5, .ref q0_6, .int q0_7, .int q0_8, .ref q0_9, .ref q0_10, .ref q0_11, .ref q0_12, .ref q0_13, .ref q0_14, .ref q0_15, .ref ch, .ref q0_17, .ref q0_18, .int q0_19])) :: X) := hz9
      subst hz9
      have hH : HT D cs A T (q0_9 :: a0 :: O) ((q0_9, .inl (cs.2.2.2.2.2.1, 2, .inr (.inr (.inr (.inr f9))))) :: (a0, .inr (11, [.ref q0_0, .int q0_1, .ref q0_2, .ref v15, .ref q0_4, .ref q0_5, .ref q0_6, .int q0_7, .int q0_8, .ref q0_9, .ref q0_10, .ref q0_11, .ref q0_12, .ref q0_13, .ref q0_14, .ref q0_15, .ref ch, .ref q0_17, .ref q0_18, .int q0_19])) :: X) H := hH
      refine W.widen (k := 0) (n := 0) (Nat.le_of_ble_eq_true rfl) (Nat.le_of_ble_eq_true rfl) ?_
      refine lv_aload_n hx hb dX11_restore_45 rfl (lv_at hl 0 rfl) ?_
      refine lv_iconst (v := 0) hx hb dX11_restore_46 (by decide) ?_
      refine x_putk (ci := 11) (v := .int 0) (ty := tyX11 7) (C := RX11) (F := TX11) (N := 20) hx hb hts uX11 tyX11 tyX11_ok nmX11 hown hkb hH hS 1 rfl rfl 7 (by decide) kw_367 (fun _ h9 => h9) rfl (tyX11_ok 7 (by decide)) rfl rfl (Nat.le_of_ble_eq_true rfl) dX11_restore_47 (fun H locs hH hS => ?_)
      have hH : HT D cs A T (q0_9 :: a0 :: O) ((q0_9, .inl (cs.2.2.2.2.2.1, 2, .inr (.inr (.inr (.inr f9))))) :: (a0, .inr (11, [.ref q0_0, .int q0_1, .ref q0_2, .ref v15, .ref q0_4, .ref q0_5, .ref q0_6, .int 0, .int q0_8, .ref q0_9, .ref q0_10, .ref q0_11, .ref q0_12, .ref q0_13, .ref q0_14, .ref q0_15, .ref ch, .ref q0_17, .ref q0_18, .int q0_19])) :: X) H := hH
      refine lv_iconst (v := 0) hx hb dX11_restore_50 (by decide) ?_
      have hH : HT D cs A T (a0 :: O) ((a0, .inr (11, [.ref q0_0, .int q0_1, .ref q0_2, .ref v15, .ref q0_4, .ref q0_5, .ref q0_6, .int 0, .int q0_8, .ref q0_9, .ref q0_10, .ref q0_11, .ref q0_12, .ref q0_13, .ref q0_14, .ref q0_15, .ref ch, .ref q0_17, .ref q0_18, .int q0_19])) :: X) H := HT.layA hH t_q0_9 (show sp cs T (5, 2, 0) _ from ⟨f9, rfl, hsp9⟩)
      obtain ⟨Tz, re_Tz, tz_a0, tz_w, hH⟩ : ∃ Tz, Tre T Tz a0 ∧ Tz a0 = some (21, v15, ch) ∧ isW Tz v15 hv15 gv15 ∧ HT D cs A Tz O X H := ⟨Tadd T a0 (21, v15, ch), Tre.add t_a0, Tadd_r, isW.re t_a0 t_v15, HT.re (w2 := v15) hH t_a0 (okL_c (⟨_, rfl, t_q0_0⟩) (okL_c (⟨_, rfl, by omega, by omega, tl_of t_ch (by omega)⟩) (okL_c (⟨_, _, rfl, t_q0_2, t_dq0_2⟩) (okL_c (rfl) (okL_c (⟨_, rfl, t_q0_4⟩) (okL_c (⟨_, rfl, t_q0_5⟩) (okL_c (⟨_, rfl, t_q0_6⟩) (okL_c (⟨_, rfl, by decide, by decide⟩) (okL_c (⟨_, rfl, by omega, by omega⟩) (okL_c (⟨_, rfl, t_q0_9⟩) (okL_c (⟨_, rfl, t_q0_10⟩) (okL_c (⟨_, rfl, t_q0_11⟩) (okL_c (⟨_, rfl, t_q0_12⟩) (okL_c (⟨_, rfl, t_q0_13⟩) (okL_c (⟨_, rfl, t_q0_14⟩) (okL_c (⟨_, rfl, t_q0_15⟩) (okL_c (rfl) (okL_c (⟨_, rfl, t_q0_17⟩) (okL_c (⟨_, rfl, t_q0_18⟩) (okL_c (⟨_, rfl⟩) (okL_n)))))))))))))))))))))⟩
      have z9_0 : (0 : Int32).toInt = 0 := by decide
      exact te_i hx hb hr hlocks hH hS (⟨Tz, v15, hv15, gv15, rfl, by decide, by decide, Tre.tr (Tre.of Tgr.rf) re_Tz, tz_a0, tz_w⟩) dX11_restore_51
  · skip
    have tc4 := f_eq (k := 0) (by decide) c4
    refine lv_bipush (v := (-2)) hx hb dX11_restore_7 (by decide) ?_
    have hH : HT D cs A T O X H := HT.lay (ci := 11) hH t_a0 (okL_c (⟨_, rfl, t_q0_0⟩) (okL_c (⟨_, rfl, by omega, by omega, tl_of t_ch (by omega)⟩) (okL_c (⟨_, _, rfl, t_q0_2, t_dq0_2⟩) (okL_c (rfl) (okL_c (⟨_, rfl, t_q0_4⟩) (okL_c (⟨_, rfl, t_q0_5⟩) (okL_c (⟨_, rfl, t_q0_6⟩) (okL_c (⟨_, rfl, by omega, by omega⟩) (okL_c (⟨_, rfl, by omega, by omega⟩) (okL_c (⟨_, rfl, t_q0_9⟩) (okL_c (⟨_, rfl, t_q0_10⟩) (okL_c (⟨_, rfl, t_q0_11⟩) (okL_c (⟨_, rfl, t_q0_12⟩) (okL_c (⟨_, rfl, t_q0_13⟩) (okL_c (⟨_, rfl, t_q0_14⟩) (okL_c (⟨_, rfl, t_q0_15⟩) (okL_c (rfl) (okL_c (⟨_, rfl, t_q0_17⟩) (okL_c (⟨_, rfl, t_q0_18⟩) (okL_c (⟨_, rfl⟩) (okL_n)))))))))))))))))))))
    have hO := hO0
    have z9_m2 : ((-2) : Int32).toInt = -2 := by decide
    exact te_i hx hb hr hlocks hH hS (⟨T, w, hw, gw, rfl, by decide, by decide, Tre.of Tgr.rf, t_a0, t_w⟩) dX11_restore_9
