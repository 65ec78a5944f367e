set_option maxHeartbeats 4000000 in
set_option maxRecDepth 100000 in
theorem s_Wall_mayStep (l : Launch) (D : va_G) (cs : CS) (kf : KF) (T : TF) (O : List Nat) (X : va_W) (a0 ha0 ga0 : Nat) (x1 : Int32) (x2 : Int32) (x3 : Int32) (x4 : Int32) (x5 : Int32) (t_a0 : isW T a0 ha0 ga0) (l_x1 : 0 ≤ x1.toInt) (u_x1 : x1.toInt < ha0) (l_x2 : 0 ≤ x2.toInt) (u_x2 : x2.toInt < ha0) (hO : okO T O [1, 12, 19]) : TK l D cs kf yX9_mayStep cX9_mayStep 10 (some (.boolean)) { frames := 2, cells := 0, slots := 0, locals := 48 } [.ref a0, .int x1, .int x2, .int x3, .int x4, .int x5] T O X (Ti D cs (fun r u => u = (T, O, X) ∧ 0 ≤ r.toInt ∧ r.toInt ≤ 1)) := by
  refine tk_of (by decide) (Nat.le_of_ble_eq_true rfl) (fun p e s m below meth c ls A H locs hx hb hr hml hown hts hlocks hnm hkb hH hS hA hOX hks hE hl => ?_)
  have hown : s.vm.findClass RX9 = some m.cls := hown
  have hl : lv_has ls 10 [(0, .ref a0), (1, .int x1), (2, .int x2), (3, .int x3), (4, .int x4), (5, .int x5)] := hl
  have b1_a0 := t_a0.2.1
  have b2_a0 := t_a0.2.2
  have hO0 := hO
  obtain ⟨fs9, ho9, hH⟩ := hH.take t_a0.1 (hO0.no t_a0.1 (by decide))
  have hp0 : okL T (ft9w ha0 ga0) fs9 := (fun fs => (ob9w t_a0 fs).mp) _ ho9
  clear ho9
  obtain ⟨v9, fs9, rfl, h9, hp1⟩ := okL_i hp0
  have h9 : v9 = .int (nI ha0) := h9
  subst h9
  have e_ha0 : (nI ha0).toInt = ha0 := nI_toInt (by have := t_a0.2.1; omega)
  have b_ha0 := t_a0.2.1
  obtain ⟨v9, fs9, rfl, h9, hp2⟩ := okL_i hp1
  have h9 : v9 = .int (nI ga0) := h9
  subst h9
  have e_ga0 : (nI ga0).toInt = ga0 := nI_toInt (by have := t_a0.2.2; omega)
  have b_ga0 := t_a0.2.2
  obtain ⟨v9, fs9, rfl, h9, hp3⟩ := okL_i hp2
  obtain ⟨q0_2, rfl⟩ := h9
  obtain ⟨v9, fs9, rfl, h9, hp4⟩ := okL_i hp3
  obtain ⟨q0_3, rfl, l_q0_3, u_q0_3⟩ := h9
  obtain ⟨v9, fs9, rfl, h9, hp5⟩ := okL_i hp4
  obtain ⟨q0_4, rfl, l_q0_4, u_q0_4⟩ := h9
  obtain ⟨v9, fs9, rfl, h9, hp6⟩ := okL_i hp5
  obtain ⟨q0_5, rfl, l_q0_5, u_q0_5⟩ := h9
  obtain ⟨v9, fs9, rfl, h9, hp7⟩ := okL_i hp6
  obtain ⟨q0_6, rfl, t_q0_6⟩ := h9
  obtain ⟨v9, fs9, rfl, h9, hp8⟩ := okL_i hp7
  obtain ⟨q0_7, rfl, t_q0_7⟩ := h9
  obtain ⟨v9, fs9, rfl, h9, hp9⟩ := okL_i hp8
  obtain ⟨q0_8, rfl, t_q0_8⟩ := h9
  obtain ⟨v9, fs9, rfl, h9, hp10⟩ := okL_i hp9
  obtain ⟨q0_9, rfl, t_q0_9⟩ := h9
  obtain ⟨v9, fs9, rfl, h9, hp11⟩ := okL_i hp10
  obtain ⟨q0_10, rfl, t_q0_10⟩ := h9
  obtain ⟨vL9, fs9, rfl, hL9, hp12⟩ := okL_i hp11
  obtain ⟨v9, fs9, rfl, h9, hp13⟩ := okL_i hp12
  obtain ⟨q0_12, rfl, l_q0_12, u_q0_12⟩ := h9
  obtain ⟨v9, fs9, rfl, h9, hp14⟩ := okL_i hp13
  obtain ⟨q0_13, rfl, l_q0_13, u_q0_13⟩ := h9
  have hpz := okL_z hp14
  subst hpz
  rcases hL9 with rfl | ⟨q0_11, nq0_11, rfl, t_q0_11, b_q0_11⟩
  · skip
    have hH : HT D cs A T (a0 :: O) ((a0, .inr (9, [.int (nI ha0), .int (nI ga0), .int q0_2, .int q0_3, .int q0_4, .int q0_5, .ref q0_6, .ref q0_7, .ref q0_8, .ref q0_9, .ref q0_10, .null, .int q0_12, .int q0_13])) :: X) H := hH
    have hO : okO T (a0 :: O) [1, 12] := okO.cons (hO0.sub (by decide)) t_a0.1 (by decide)
    refine lv_aload_n hx hb dX9_mayStep_0 rfl (lv_at hl 0 rfl) ?_
    refine x_get (ci := 9) (C := RX9) (F := TX9) (N := 14) (v := .ref q0_6) hx hb hts uX9 hown hkb hH rfl 6 (by decide) rfl kw_132 (fun _ h9 => h9) dX9_mayStep_1 ?_
    refine lv_iload_n hx hb dX9_mayStep_4 rfl (lv_at hl 2 rfl) ?_
    refine t_ild hx hb hkb hH t_q0_6 (hO.no t_q0_6 (by decide)) (by omega) (by omega) dX9_mayStep_5 (fun v5 h9 => ?_)
    refine lv_aload_n hx hb dX9_mayStep_6 rfl (lv_at hl 0 rfl) ?_
    refine x_get (ci := 9) (C := RX9) (F := TX9) (N := 14) (v := .ref q0_6) hx hb hts uX9 hown hkb hH rfl 6 (by decide) rfl kw_132 (fun _ h9 => h9) dX9_mayStep_7 ?_
    refine lv_iload_n hx hb dX9_mayStep_10 rfl (lv_at hl 1 rfl) ?_
    refine t_ild hx hb hkb hH t_q0_6 (hO.no t_q0_6 (by decide)) (by omega) (by omega) dX9_mayStep_11 (fun v11 h9 => ?_)
    refine lv_isub hx hb dX9_mayStep_12 ?_
    refine lv_topi (fun v12 ev12 => ?_)
    refine va_mabs hx hb (by rw [hml]; exact hl.1.symm) hown (hts _ kw_811) (hts _ kw_812) (hts _ kw_6) (hts _ kw_813) (Nat.le_of_ble_eq_true rfl) (Nat.le_of_ble_eq_true rfl) (Nat.le_of_ble_eq_true rfl) (Nat.le_of_ble_eq_true rfl) dX9_mayStep_13 ?_
    refine lv_topi (fun v13 ev13 => ?_)
    refine lv_istore (lv' := [(6, .int v13), (0, .ref a0), (1, .int x1), (2, .int x2), (3, .int x3), (4, .int x4), (5, .int x5)]) hx hb dX9_mayStep_16 hl (by decide) rfl (fun ls hl => ?_)
    refine lv_aload_n hx hb dX9_mayStep_18 rfl (lv_at hl 1 rfl) ?_
    refine x_get (ci := 9) (C := RX9) (F := TX9) (N := 14) (v := .ref q0_7) hx hb hts uX9 hown hkb hH rfl 7 (by decide) rfl kw_135 (fun _ h9 => h9) dX9_mayStep_19 ?_
    refine lv_iload_n hx hb dX9_mayStep_22 rfl (lv_at hl 3 rfl) ?_
    refine t_ild hx hb hkb hH t_q0_7 (hO.no t_q0_7 (by decide)) (by omega) (by omega) dX9_mayStep_23 (fun v23 h9 => ?_)
    refine lv_aload_n hx hb dX9_mayStep_24 rfl (lv_at hl 1 rfl) ?_
    refine x_get (ci := 9) (C := RX9) (F := TX9) (N := 14) (v := .ref q0_7) hx hb hts uX9 hown hkb hH rfl 7 (by decide) rfl kw_135 (fun _ h9 => h9) dX9_mayStep_25 ?_
    refine lv_iload_n hx hb dX9_mayStep_28 rfl (lv_at hl 2 rfl) ?_
    refine t_ild hx hb hkb hH t_q0_7 (hO.no t_q0_7 (by decide)) (by omega) (by omega) dX9_mayStep_29 (fun v29 h9 => ?_)
    refine lv_isub hx hb dX9_mayStep_30 ?_
    refine lv_topi (fun v30 ev30 => ?_)
    refine lv_istore (lv' := [(7, .int v30), (6, .int v13), (0, .ref a0), (1, .int x1), (2, .int x2), (3, .int x3), (4, .int x4), (5, .int x5)]) hx hb dX9_mayStep_31 hl (by decide) rfl (fun ls hl => ?_)
    refine lv_iload hx hb dX9_mayStep_33 (lv_at hl 1 rfl) ?_
    refine lv_iload hx hb dX9_mayStep_35 (lv_at hl 0 rfl) ?_
    refine va_mabs hx hb (by rw [hml]; exact hl.1.symm) hown (hts _ kw_811) (hts _ kw_812) (hts _ kw_6) (hts _ kw_813) (Nat.le_of_ble_eq_true rfl) (Nat.le_of_ble_eq_true rfl) (Nat.le_of_ble_eq_true rfl) (Nat.le_of_ble_eq_true rfl) dX9_mayStep_37 ?_
    refine lv_topi (fun v37 ev37 => ?_)
    refine lv_iadd hx hb dX9_mayStep_40 ?_
    refine lv_topi (fun v40 ev40 => ?_)
    refine lv_istore (lv' := [(8, .int v40), (7, .int v30), (6, .int v13), (0, .ref a0), (1, .int x1), (2, .int x2), (3, .int x3), (4, .int x4), (5, .int x5)]) hx hb dX9_mayStep_41 hl (by decide) rfl (fun ls hl => ?_)
    refine lv_aload_n hx hb dX9_mayStep_43 rfl (lv_at hl 3 rfl) ?_
    refine x_get (ci := 9) (C := RX9) (F := TX9) (N := 14) (v := .null) hx hb hts uX9 hown hkb hH rfl 11 (by decide) rfl kw_147 (fun _ h9 => h9) dX9_mayStep_44 ?_
    refine lv_ifnonnullN hx hb dX9_mayStep_47 ?_
    refine lv_iload hx hb dX9_mayStep_50 (lv_at hl 0 rfl) ?_
    refine lv_iload_n hx hb dX9_mayStep_52 rfl (lv_at hl 6 rfl) ?_
    have J61 : ∀ (k61_0 : Int32) (H : Heap) (locs : List Loc) (ls : Array Slot), (0 ≤ k61_0.toInt) → (k61_0.toInt ≤ 1) → HT D cs A T (a0 :: O) ((a0, .inr (9, [.int (nI ha0), .int (nI ga0), .int q0_2, .int q0_3, .int q0_4, .int q0_5, .ref q0_6, .ref q0_7, .ref q0_8, .ref q0_9, .ref q0_10, .null, .int q0_12, .int q0_13])) :: X) H → va_S A s.heap H locs → lv_has ls 10 [] → W p l e { frames := 2, cells := 0, slots := 0, locals := 48 } s m [.ref a0, .int x1, .int x2, .int x3, .int x4, .int x5].toArray below meth c H locs 0 0 (MQ below (Ti D cs (fun r u => u = (T, O, X) ∧ 0 ≤ r.toInt ∧ r.toInt ≤ 1) A) [.ref a0, .int x1, .int x2, .int x3, .int x4, .int x5].toArray s 0 0 A) (F0 m 61 ls [.int k61_0]) := by
      intro k61_0 H locs ls l_k61_0 u_k61_0 hH hS hl
      have hH : HT D cs A T O X H := HT.lay (ci := 9) hH t_a0.1 ((ob9w t_a0 _).mpr (okL_c (rfl) (okL_c (rfl) (okL_c (⟨_, rfl⟩) (okL_c (⟨_, rfl, by omega, by omega⟩) (okL_c (⟨_, rfl, by omega, by omega⟩) (okL_c (⟨_, rfl, by omega, by omega⟩) (okL_c (⟨_, rfl, t_q0_6⟩) (okL_c (⟨_, rfl, t_q0_7⟩) (okL_c (⟨_, rfl, t_q0_8⟩) (okL_c (⟨_, rfl, t_q0_9⟩) (okL_c (⟨_, rfl, t_q0_10⟩) (okL_c (Or.inl rfl) (okL_c (⟨_, rfl, by omega, by omega⟩) (okL_c (⟨_, rfl, by omega, by omega⟩) (okL_n))))))))))))))))
      have hO := hO0
      exact te_z hx hb hr hlocks (nar01 (by omega) (by omega)) hH hS (⟨rfl, by omega, by omega⟩) dX9_mayStep_61
    refine lv_icmp_gt (tgt := 60) hx hb dX9_mayStep_53 (by decide) (fun c53 => ?_) (fun c53 => ?_)
    · skip
      have fuc53 := full_i v40
      have fvc53 := full_i x3
      have tc53 := g_lt c53
      refine lv_iconst (v := 0) hx hb dX9_mayStep_60 (by decide) ?_
      exact J61 0 _ _ _ (by decide) (by decide) hH hS (lv_sub hl [] rfl)
    · skip
      have fuc53 := full_i v40
      have fvc53 := full_i x3
      have tc53 := g_nlt c53
      refine lv_iconst (v := 1) hx hb dX9_mayStep_56 (by decide) ?_
      refine lv_goto (tgt := 61) hx hb dX9_mayStep_57 (by decide) ?_
      exact J61 1 _ _ _ (by decide) (by decide) hH hS (lv_sub hl [] rfl)
  · skip
    have hH : HT D cs A T (a0 :: O) ((a0, .inr (9, [.int (nI ha0), .int (nI ga0), .int q0_2, .int q0_3, .int q0_4, .int q0_5, .ref q0_6, .ref q0_7, .ref q0_8, .ref q0_9, .ref q0_10, .ref q0_11, .int q0_12, .int q0_13])) :: X) H := hH
    have hO : okO T (a0 :: O) [1, 12] := okO.cons (hO0.sub (by decide)) t_a0.1 (by decide)
    refine lv_aload_n hx hb dX9_mayStep_0 rfl (lv_at hl 0 rfl) ?_
    refine x_get (ci := 9) (C := RX9) (F := TX9) (N := 14) (v := .ref q0_6) hx hb hts uX9 hown hkb hH rfl 6 (by decide) rfl kw_132 (fun _ h9 => h9) dX9_mayStep_1 ?_
    refine lv_iload_n hx hb dX9_mayStep_4 rfl (lv_at hl 2 rfl) ?_
    refine t_ild hx hb hkb hH t_q0_6 (hO.no t_q0_6 (by decide)) (by omega) (by omega) dX9_mayStep_5 (fun v5 h9 => ?_)
    refine lv_aload_n hx hb dX9_mayStep_6 rfl (lv_at hl 0 rfl) ?_
    refine x_get (ci := 9) (C := RX9) (F := TX9) (N := 14) (v := .ref q0_6) hx hb hts uX9 hown hkb hH rfl 6 (by decide) rfl kw_132 (fun _ h9 => h9) dX9_mayStep_7 ?_
    refine lv_iload_n hx hb dX9_mayStep_10 rfl (lv_at hl 1 rfl) ?_
    refine t_ild hx hb hkb hH t_q0_6 (hO.no t_q0_6 (by decide)) (by omega) (by omega) dX9_mayStep_11 (fun v11 h9 => ?_)
    refine lv_isub hx hb dX9_mayStep_12 ?_
    refine lv_topi (fun v12 ev12 => ?_)
    refine va_mabs hx hb (by rw [hml]; exact hl.1.symm) hown (hts _ kw_811) (hts _ kw_812) (hts _ kw_6) (hts _ kw_813) (Nat.le_of_ble_eq_true rfl) (Nat.le_of_ble_eq_true rfl) (Nat.le_of_ble_eq_true rfl) (Nat.le_of_ble_eq_true rfl) dX9_mayStep_13 ?_
    refine lv_topi (fun v13 ev13 => ?_)
    refine lv_istore (lv' := [(6, .int v13), (0, .ref a0), (1, .int x1), (2, .int x2), (3, .int x3), (4, .int x4), (5, .int x5)]) hx hb dX9_mayStep_16 hl (by decide) rfl (fun ls hl => ?_)
    refine lv_aload_n hx hb dX9_mayStep_18 rfl (lv_at hl 1 rfl) ?_
    refine x_get (ci := 9) (C := RX9) (F := TX9) (N := 14) (v := .ref q0_7) hx hb hts uX9 hown hkb hH rfl 7 (by decide) rfl kw_135 (fun _ h9 => h9) dX9_mayStep_19 ?_
    refine lv_iload_n hx hb dX9_mayStep_22 rfl (lv_at hl 3 rfl) ?_
    refine t_ild hx hb hkb hH t_q0_7 (hO.no t_q0_7 (by decide)) (by omega) (by omega) dX9_mayStep_23 (fun v23 h9 => ?_)
    refine lv_aload_n hx hb dX9_mayStep_24 rfl (lv_at hl 1 rfl) ?_
    refine x_get (ci := 9) (C := RX9) (F := TX9) (N := 14) (v := .ref q0_7) hx hb hts uX9 hown hkb hH rfl 7 (by decide) rfl kw_135 (fun _ h9 => h9) dX9_mayStep_25 ?_
    refine lv_iload_n hx hb dX9_mayStep_28 rfl (lv_at hl 2 rfl) ?_
    refine t_ild hx hb hkb hH t_q0_7 (hO.no t_q0_7 (by decide)) (by omega) (by omega) dX9_mayStep_29 (fun v29 h9 => ?_)
    refine lv_isub hx hb dX9_mayStep_30 ?_
    refine lv_topi (fun v30 ev30 => ?_)
    refine lv_istore (lv' := [(7, .int v30), (6, .int v13), (0, .ref a0), (1, .int x1), (2, .int x2), (3, .int x3), (4, .int x4), (5, .int x5)]) hx hb dX9_mayStep_31 hl (by decide) rfl (fun ls hl => ?_)
    refine lv_iload hx hb dX9_mayStep_33 (lv_at hl 1 rfl) ?_
    refine lv_iload hx hb dX9_mayStep_35 (lv_at hl 0 rfl) ?_
    refine va_mabs hx hb (by rw [hml]; exact hl.1.symm) hown (hts _ kw_811) (hts _ kw_812) (hts _ kw_6) (hts _ kw_813) (Nat.le_of_ble_eq_true rfl) (Nat.le_of_ble_eq_true rfl) (Nat.le_of_ble_eq_true rfl) (Nat.le_of_ble_eq_true rfl) dX9_mayStep_37 ?_
    refine lv_topi (fun v37 ev37 => ?_)
    refine lv_iadd hx hb dX9_mayStep_40 ?_
    refine lv_topi (fun v40 ev40 => ?_)
    refine lv_istore (lv' := [(8, .int v40), (7, .int v30), (6, .int v13), (0, .ref a0), (1, .int x1), (2, .int x2), (3, .int x3), (4, .int x4), (5, .int x5)]) hx hb dX9_mayStep_41 hl (by decide) rfl (fun ls hl => ?_)
    refine lv_aload_n hx hb dX9_mayStep_43 rfl (lv_at hl 3 rfl) ?_
    refine x_get (ci := 9) (C := RX9) (F := TX9) (N := 14) (v := .ref q0_11) hx hb hts uX9 hown hkb hH rfl 11 (by decide) rfl kw_147 (fun _ h9 => h9) dX9_mayStep_44 ?_
    refine lv_ifnonnull (tgt := 62) hx hb dX9_mayStep_47 (by decide) ?_
    refine lv_aload_n hx hb dX9_mayStep_62 rfl (lv_at hl 3 rfl) ?_
    refine x_get (ci := 9) (C := RX9) (F := TX9) (N := 14) (v := .ref q0_11) hx hb hts uX9 hown hkb hH rfl 11 (by decide) rfl kw_147 (fun _ h9 => h9) dX9_mayStep_63 ?_
    refine t_get (ci := 2) (lst := ft2 nq0_11 0) (C := RX2) (F := TX2) (N := 3) hx hb hts uX2 hown hkb hH t_q0_11 (hO.no t_q0_11 (by decide)) (fun _ h9 => h9) rfl rfl 1 (by decide) rfl kw_741 (fun _ h9 => h9) dX9_mayStep_66 (fun v9 h9 => ?_)
    obtain ⟨v66, rfl, t_v66⟩ := h9
    refine lv_astore (lv' := [(9, .ref v66), (8, .int v40), (7, .int v30), (6, .int v13), (0, .ref a0), (1, .int x1), (2, .int x2), (3, .int x3), (4, .int x4), (5, .int x5)]) hx hb dX9_mayStep_69 hl (by decide) rfl (fun ls hl => ?_)
    refine lv_aload hx hb dX9_mayStep_71 (lv_at hl 0 rfl) ?_
    refine lv_iconst (v := 0) hx hb dX9_mayStep_73 (by decide) ?_
    refine lv_iload hx hb dX9_mayStep_74 (lv_at hl 3 rfl) ?_
    refine t_ist hx hb hkb hH hS t_v66 (hO.no t_v66 (by decide)) (by decide) (by decide) (cp_0 _) dX9_mayStep_76 (fun H locs hH hS => ?_)
    refine lv_aload hx hb dX9_mayStep_77 (lv_at hl 0 rfl) ?_
    refine lv_iconst (v := 1) hx hb dX9_mayStep_79 (by decide) ?_
    refine lv_iload hx hb dX9_mayStep_80 (lv_at hl 2 rfl) ?_
    refine t_ist hx hb hkb hH hS t_v66 (hO.no t_v66 (by decide)) (by decide) (by decide) (cp_0 _) dX9_mayStep_82 (fun H locs hH hS => ?_)
    refine lv_aload hx hb dX9_mayStep_83 (lv_at hl 0 rfl) ?_
    refine lv_iconst (v := 2) hx hb dX9_mayStep_85 (by decide) ?_
    refine lv_iload hx hb dX9_mayStep_86 (lv_at hl 1 rfl) ?_
    refine t_ist hx hb hkb hH hS t_v66 (hO.no t_v66 (by decide)) (by decide) (by decide) (cp_0 _) dX9_mayStep_88 (fun H locs hH hS => ?_)
    refine lv_aload hx hb dX9_mayStep_89 (lv_at hl 0 rfl) ?_
    refine lv_iconst (v := 3) hx hb dX9_mayStep_91 (by decide) ?_
    refine lv_iload_n hx hb dX9_mayStep_92 rfl (lv_at hl 7 rfl) ?_
    refine t_ist hx hb hkb hH hS t_v66 (hO.no t_v66 (by decide)) (by decide) (by decide) (cp_0 _) dX9_mayStep_93 (fun H locs hH hS => ?_)
    refine lv_aload hx hb dX9_mayStep_94 (lv_at hl 0 rfl) ?_
    refine lv_iconst (v := 4) hx hb dX9_mayStep_96 (by decide) ?_
    refine lv_iload hx hb dX9_mayStep_97 (lv_at hl 8 rfl) ?_
    refine t_ist hx hb hkb hH hS t_v66 (hO.no t_v66 (by decide)) (by decide) (by decide) (cp_0 _) dX9_mayStep_99 (fun H locs hH hS => ?_)
    refine lv_aload hx hb dX9_mayStep_100 (lv_at hl 0 rfl) ?_
    refine lv_iconst (v := 5) hx hb dX9_mayStep_102 (by decide) ?_
    refine lv_aload_n hx hb dX9_mayStep_103 rfl (lv_at hl 4 rfl) ?_
    refine x_get (ci := 9) (C := RX9) (F := TX9) (N := 14) (v := .int q0_5) hx hb hts uX9 hown hkb hH rfl 5 (by decide) rfl kw_130 (fun _ h9 => h9) dX9_mayStep_104 ?_
    refine lv_iload_n hx hb dX9_mayStep_107 rfl (lv_at hl 6 rfl) ?_
    refine lv_ishr hx hb dX9_mayStep_108 ?_
    refine lv_topi (fun v108 ev108 => ?_)
    have tv108 : 0 ≤ v108.toInt ∧ v108.toInt ≤ q0_5.toInt := by rw [ev108]; exact shr_b (by omega)
    refine lv_iconst (v := 1) hx hb dX9_mayStep_109 (by decide) ?_
    refine lv_iand hx hb dX9_mayStep_110 ?_
    refine lv_topi (fun v110 ev110 => ?_)
    have tv110 : 0 ≤ v110.toInt ∧ v110.toInt ≤ 1 := by rw [ev110]; exact and_r (by decide)
    refine t_ist hx hb hkb hH hS t_v66 (hO.no t_v66 (by decide)) (by decide) (by decide) (cp_0 _) dX9_mayStep_111 (fun H locs hH hS => ?_)
    refine lv_aload hx hb dX9_mayStep_112 (lv_at hl 0 rfl) ?_
    refine lv_bipush (v := 6) hx hb dX9_mayStep_114 (by decide) ?_
    refine lv_iload hx hb dX9_mayStep_116 (lv_at hl 9 rfl) ?_
    refine t_ist hx hb hkb hH hS t_v66 (hO.no t_v66 (by decide)) (by decide) (by decide) (cp_0 _) dX9_mayStep_118 (fun H locs hH hS => ?_)
    refine lv_aload_n hx hb dX9_mayStep_119 rfl (lv_at hl 4 rfl) ?_
    refine x_get (ci := 9) (C := RX9) (F := TX9) (N := 14) (v := .ref q0_11) hx hb hts uX9 hown hkb hH rfl 11 (by decide) rfl kw_147 (fun _ h9 => h9) dX9_mayStep_120 ?_
    refine tk_i hH hS hA (tr_V (n := 0) (As := []) hx hb hml hown hts hkb hH (ox_c hOX) hks hE hS hA (s_Law_holds l D cs kf T (a0 :: O) ((a0, .inr (9, [.int (nI ha0), .int (nI ga0), .int q0_2, .int q0_3, .int q0_4, .int q0_5, .ref q0_6, .ref q0_7, .ref q0_8, .ref q0_9, .ref q0_10, .ref q0_11, .int q0_12, .int q0_13])) :: X) q0_11 nq0_11 t_q0_11 b_q0_11 (hO.sub (by decide))) kw_814 kw_815 kw_816 kw_21 kw_817 (by decide +kernel) ⟨Nat.le_of_ble_eq_true rfl, Nat.le_of_ble_eq_true rfl⟩ (HT.recv (ci := 2) hkb hH t_q0_11 (hO.no t_q0_11 (by decide)) rfl) rfl rfl hl.1 (Nat.le_of_ble_eq_true rfl) dX9_mayStep_123 ⟨Nat.le_of_ble_eq_true rfl, Nat.le_of_ble_eq_true rfl⟩) (fun v123 u H locs hz9 hH hS => ?_)
    obtain ⟨rfl, l_v123, u_v123⟩ := hz9
    have hH : HT D cs A T (a0 :: O) ((a0, .inr (9, [.int (nI ha0), .int (nI ga0), .int q0_2, .int q0_3, .int q0_4, .int q0_5, .ref q0_6, .ref q0_7, .ref q0_8, .ref q0_9, .ref q0_10, .ref q0_11, .int q0_12, .int q0_13])) :: X) H := hH
    refine W.widen (k := 0) (n := 0) (Nat.le_of_ble_eq_true rfl) (Nat.le_of_ble_eq_true rfl) ?_
    have hH : HT D cs A T O X H := HT.lay (ci := 9) hH t_a0.1 ((ob9w t_a0 _).mpr (okL_c (rfl) (okL_c (rfl) (okL_c (⟨_, rfl⟩) (okL_c (⟨_, rfl, by omega, by omega⟩) (okL_c (⟨_, rfl, by omega, by omega⟩) (okL_c (⟨_, rfl, by omega, by omega⟩) (okL_c (⟨_, rfl, t_q0_6⟩) (okL_c (⟨_, rfl, t_q0_7⟩) (okL_c (⟨_, rfl, t_q0_8⟩) (okL_c (⟨_, rfl, t_q0_9⟩) (okL_c (⟨_, rfl, t_q0_10⟩) (okL_c (Or.inr ⟨_, _, rfl, t_q0_11, b_q0_11⟩) (okL_c (⟨_, rfl, by omega, by omega⟩) (okL_c (⟨_, rfl, by omega, by omega⟩) (okL_n))))))))))))))))
    have hO := hO0
    exact te_z hx hb hr hlocks (nar01 (by omega) (by omega)) hH hS (⟨rfl, by omega, by omega⟩) dX9_mayStep_126
