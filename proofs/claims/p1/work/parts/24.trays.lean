set_option maxHeartbeats 4000000 in
set_option maxRecDepth 100000 in
theorem c_isMissing (l : Launch) (D : va_G) (cB cI cJ cZ cS cW cT cR : ClassId) (a_t0 : Nat) (a_n0 : Nat) : Kon l D (tyl cB cI cJ cZ cS cW cT cR) yX8_isMissing cX8_isMissing 1 (some (.boolean)) { frames := 0, cells := 0, slots := 0, locals := 0 } [.ref a_t0] [(a_t0, .inr (8, [.ref a_n0, .int 0, .int (-1)]))] (Qi D (fun r u => r = 1 ∧ u = [(a_t0, .inr (8, [.ref a_n0, .int 0, .int (-1)]))])) := by
  refine kon_of (by decide) (Nat.le_of_ble_eq_true rfl) (fun p e s m below meth c ls A hx hb hr hml hown hts hlocks hnm hkb hP hD hS hA hl => ?_)
  have hown : s.vm.findClass RX8 = some m.cls := hown
  have hl : lv_has ls 1 [(0, .ref a_t0)] := hl
  have hP : va_P D cls [(a_t0, .inr (8, [.ref a_n0, .int 0, .int (-1)]))] s.heap := hP
  refine lv_aload_n hx hb dX8_isMissing_0 rfl (lv_at hl 0 rfl) ?_
  refine va_get (D := D) (ci := 8) (v := .int (-1)) (C := RX8) (T := TX8) (N := 3) hx hb hts uX8 hown hkb.1 hP 0 rfl rfl 2 (by decide) (hts _ kw_351) (fun _ h9 => h9) rfl dX8_isMissing_1 ?_
  refine lv_iconst (v := (-1)) hx hb dX8_isMissing_4 (by decide) ?_
  refine lv_icmp_ne (tgt := 12) hx hb dX8_isMissing_5 (by decide) (fun c_1 => absurd c_1 (by decide)) (fun _ => ?_)
  refine lv_iconst (v := 1) hx hb dX8_isMissing_8 (by decide) ?_
  refine lv_goto (tgt := 13) hx hb dX8_isMissing_9 (by decide) ?_
  refine W.widen (k := 0) (n := 0) (Nat.le_of_ble_eq_true rfl) (Nat.le_of_ble_eq_true rfl) ?_
  exact e_z (u := [(a_t0, .inr (8, [.ref a_n0, .int 0, .int (-1)]))]) hx hb hr hlocks (by rfl) (hP.sub (ws' := [(a_t0, .inr (8, [.ref a_n0, .int 0, .int (-1)]))]) [0] rfl) (hD.sub (ws' := [(a_t0, .inr (8, [.ref a_n0, .int 0, .int (-1)]))]) [0] (by decide) rfl) hS ⟨rfl, rfl⟩ dX8_isMissing_13
set_option maxHeartbeats 4000000 in
set_option maxRecDepth 100000 in
theorem c_fill (l : Launch) (D : va_G) (cB cI cJ cZ cS cW cT cR : ClassId) (a_n : Nat) (g_n : Nat → Int64) : Kon l D (tyl cB cI cJ cZ cS cW cT cR) yJ7_fill_d0a16 cJ7_fill_d0a16 5 none { frames := 0, cells := 0, slots := 0, locals := 0 } [.ref a_n, .long 0] [(a_n, .inl (cJ, 40, .inr (.inl g_n)))] (Qv D (fun u => ∃ (f_6 : Nat → Int64), u = [(a_n, .inl (cJ, 40, .inr (.inl f_6)))])) := by
  refine kon_of (by decide) (Nat.le_of_ble_eq_true rfl) (fun p e s m below meth c ls A hx hb hr hml hown hts hlocks hnm hkb hP hD hS hA hl => ?_)
  have hown : s.vm.findClass RJ7 = some m.cls := hown
  have hl : lv_has ls 5 [(0, .ref a_n), (1, .long 0)] := hl
  have hP : va_P D cls [(a_n, .inl (cJ, 40, .inr (.inl g_n)))] s.heap := hP
  refine lv_iconst (v := 0) hx hb dJ7_fill_d0a16_0 (by decide) ?_
  refine lv_istore_n (lv' := [(3, .int 0), (0, .ref a_n), (1, .long 0)]) hx hb dJ7_fill_d0a16_1 rfl hl (by decide) rfl (fun ls hl => ?_)
  refine lv_aload_n hx hb dJ7_fill_d0a16_2 rfl (lv_at hl 1 rfl) ?_
  refine va_alen (v := 40) hx hb hkb.1 hP 0 2 rfl rfl (by rfl) dJ7_fill_d0a16_3 ?_
  refine lv_istore (lv' := [(4, .int 40), (3, .int 0), (0, .ref a_n), (1, .long 0)]) hx hb dJ7_fill_d0a16_4 hl (by decide) rfl (fun ls hl => ?_)
  have lp_5 : ∀ (n_1 k_2 : Nat) (x_3 : Int32) (f_6 : Nat → Int64) (H : Heap) (locs : List Loc) (ls : Array Slot), k_2 + n_1 = 40 → x_3 = nI k_2 → va_P D cls [(a_n, .inl (cJ, 40, .inr (.inl f_6)))] H → va_D A [(a_n, .inl (cJ, 40, .inr (.inl f_6)))] → va_S A s.heap H locs → lv_has ls 5 [(4, .int 40), (3, .int x_3), (0, .ref a_n), (1, .long 0)] → W p l e { frames := 0, cells := 0, slots := 0, locals := 0 } s m [.ref a_n, .long 0].toArray below meth c H locs 0 0 (MQ below (Qv D (fun u => ∃ (f_6 : Nat → Int64), u = [(a_n, .inl (cJ, 40, .inr (.inl f_6)))]) A) [.ref a_n, .long 0].toArray s 0 0 A) (F0 m 6 ls []) := by
    intro n_1
    induction n_1 with
    | zero =>
      intro k_2 x_3 f_6 H locs ls hk_4 hx_3  hP hD hS hl
      have hzx_3 : x_3.toInt = (k_2 : Int) := by rw [hx_3]; exact nI_toInt (by omega)
      refine lv_iload_n hx hb dJ7_fill_d0a16_6 rfl (lv_at hl 1 rfl) ?_
      refine lv_iload hx hb dJ7_fill_d0a16_7 (lv_at hl 0 rfl) ?_
      refine lv_icmp_ge (tgt := 22) hx hb dJ7_fill_d0a16_9 (by decide) (fun _ => ?_) (fun c_7 => by exfalso; have tc_7 := f_nge (k := 40) (by decide) c_7; omega)
      refine W.widen (k := 0) (n := 0) (Nat.le_of_ble_eq_true rfl) (Nat.le_of_ble_eq_true rfl) ?_
      exact e_v (u := [(a_n, .inl (cJ, 40, .inr (.inl f_6)))]) hx hb hr hlocks (hP.sub (ws' := [(a_n, .inl (cJ, 40, .inr (.inl f_6)))]) [0] rfl) (hD.sub (ws' := [(a_n, .inl (cJ, 40, .inr (.inl f_6)))]) [0] (by decide) rfl) hS ⟨f_6, rfl⟩ dJ7_fill_d0a16_22
    | succ n_1 ih =>
      intro k_2 x_3 f_6 H locs ls hk_4 hx_3  hP hD hS hl
      have hzx_3 : x_3.toInt = (k_2 : Int) := by rw [hx_3]; exact nI_toInt (by omega)
      refine lv_iload_n hx hb dJ7_fill_d0a16_6 rfl (lv_at hl 1 rfl) ?_
      refine lv_iload hx hb dJ7_fill_d0a16_7 (lv_at hl 0 rfl) ?_
      refine lv_icmp_ge (tgt := 22) hx hb dJ7_fill_d0a16_9 (by decide) (fun c_8 => by exfalso; have tc_8 := f_ge (k := 40) (by decide) c_8; omega) (fun _ => ?_)
      refine lv_aload_n hx hb dJ7_fill_d0a16_12 rfl (lv_at hl 2 rfl) ?_
      refine lv_iload_n hx hb dJ7_fill_d0a16_13 rfl (lv_at hl 1 rfl) ?_
      refine lv_lload_n hx hb dJ7_fill_d0a16_14 rfl (lv_at hl 3 rfl) ?_
      refine s_l 0 2 hx hb hkb.1 hP hD hS rfl rfl (in_k hx_3 (by omega) (by decide)) k_2 (by rw [hx_3]; exact nI_clamp (by omega)) dJ7_fill_d0a16_15 (fun H locs hP hD hS => ?_)
      have hP : va_P D cls [(a_n, .inl (cJ, 40, .inr (.inl (vp_updL f_6 k_2 0))))] H := hP
      have hD : va_D A [(a_n, .inl (cJ, 40, .inr (.inl (vp_updL f_6 k_2 0))))] := hD
      obtain ⟨v_9, ev_9⟩ : ∃ y : Int32, y = x_3 + 1 := ⟨_, rfl⟩
      refine lv_iinc (v := v_9) (lv' := [(3, .int v_9), (4, .int 40), (0, .ref a_n), (1, .long 0)]) hx hb dJ7_fill_d0a16_16 hl (k := 1) rfl (by rw [ev_9]; rfl) (by decide) rfl (fun ls hl => ?_)
      refine lv_goto (tgt := 6) hx hb dJ7_fill_d0a16_19 (by decide) ?_
      exact ih (k_2 + 1) v_9 (vp_updL f_6 k_2 0) _ _ _ (by omega) (by rw [ev_9, hx_3]; exact nI_1 k_2)  (hP.sub (ws' := [(a_n, .inl (cJ, 40, .inr (.inl (vp_updL f_6 k_2 0))))]) [0] rfl) (hD.sub (ws' := [(a_n, .inl (cJ, 40, .inr (.inl (vp_updL f_6 k_2 0))))]) [0] (by decide) rfl) hS (lv_sub hl [1, 0, 2, 3] rfl)
  exact lp_5 40 0 0 g_n _ _ _ (by rfl) nI_0.symm  (hP) (hD) hS (lv_sub hl [0, 1, 2, 3] rfl)
set_option maxHeartbeats 4000000 in
set_option maxRecDepth 100000 in
theorem c_lay (l : Launch) (D : va_G) (cB cI cJ cZ cS cW cT cR : ClassId) (a_t0 : Nat) (a_n0 : Nat) (i_s : Int32) (i_n : Int32) (g_n : Nat → Int64) : Kon l D (tyl cB cI cJ cZ cS cW cT cR) yX8_lay cX8_lay 3 none { frames := 1, cells := 0, slots := 0, locals := 24 } [.ref a_t0, .int i_s, .int i_n] [(a_t0, .inr (8, [.ref a_n0, .int 0, .int (-1)])), (a_n0, .inl (cJ, 40, .inr (.inl g_n)))] (Qv D (fun u => ∃ (f_1 : Nat → Int64), u = [(a_t0, .inr (8, [.ref a_n0, .int i_s, .int i_n])), (a_n0, .inl (cJ, 40, .inr (.inl f_1)))])) := by
  refine kon_of (by decide) (Nat.le_of_ble_eq_true rfl) (fun p e s m below meth c ls A hx hb hr hml hown hts hlocks hnm hkb hP hD hS hA hl => ?_)
  have hown : s.vm.findClass RX8 = some m.cls := hown
  have hl : lv_has ls 3 [(0, .ref a_t0), (1, .int i_s), (2, .int i_n)] := hl
  have hP : va_P D cls [(a_t0, .inr (8, [.ref a_n0, .int 0, .int (-1)])), (a_n0, .inl (cJ, 40, .inr (.inl g_n)))] s.heap := hP
  refine lv_aload_n hx hb dX8_lay_0 rfl (lv_at hl 0 rfl) ?_
  refine lv_iload_n hx hb dX8_lay_1 rfl (lv_at hl 1 rfl) ?_
  refine va_put (D := D) (ci := 8) (v := .int i_s) (ty := tyX8 1) (C := RX8) (T := TX8) (N := 3) hx hb hts uX8 tyX8 tyX8_ok nmX8 hown hkb.1 hP hD hS 0 rfl rfl 1 (by decide) (hts _ kw_350) (fun _ h9 => h9) rfl (tyX8_ok 1 (by decide)) rfl rfl (Nat.le_of_ble_eq_true rfl) dX8_lay_2 (fun H locs hP hD hS => ?_)
  have hP : va_P D cls [(a_t0, .inr (8, [.ref a_n0, .int i_s, .int (-1)])), (a_n0, .inl (cJ, 40, .inr (.inl g_n)))] H := hP
  have hD : va_D A [(a_t0, .inr (8, [.ref a_n0, .int i_s, .int (-1)])), (a_n0, .inl (cJ, 40, .inr (.inl g_n)))] := hD
  refine lv_aload_n hx hb dX8_lay_5 rfl (lv_at hl 0 rfl) ?_
  refine lv_iload_n hx hb dX8_lay_6 rfl (lv_at hl 2 rfl) ?_
  refine va_put (D := D) (ci := 8) (v := .int i_n) (ty := tyX8 2) (C := RX8) (T := TX8) (N := 3) hx hb hts uX8 tyX8 tyX8_ok nmX8 hown hkb.1 hP hD hS 0 rfl rfl 2 (by decide) (hts _ kw_351) (fun _ h9 => h9) rfl (tyX8_ok 2 (by decide)) rfl rfl (Nat.le_of_ble_eq_true rfl) dX8_lay_7 (fun H locs hP hD hS => ?_)
  have hP : va_P D cls [(a_t0, .inr (8, [.ref a_n0, .int i_s, .int i_n])), (a_n0, .inl (cJ, 40, .inr (.inl g_n)))] H := hP
  have hD : va_D A [(a_t0, .inr (8, [.ref a_n0, .int i_s, .int i_n])), (a_n0, .inl (cJ, 40, .inr (.inl g_n)))] := hD
  refine lv_aload_n hx hb dX8_lay_10 rfl (lv_at hl 0 rfl) ?_
  refine va_get (D := D) (ci := 8) (v := .ref a_n0) (C := RX8) (T := TX8) (N := 3) hx hb hts uX8 hown hkb.1 hP 0 rfl rfl 0 (by decide) (hts _ kw_349) (fun _ h9 => h9) rfl dX8_lay_11 ?_
  refine lv_lconst (v := 0) hx hb dX8_lay_14 (by decide) ?_
  have hPc := hP.sub (ws' := [(a_n0, .inl (cJ, 40, .inr (.inl g_n)))]) [1] rfl
  have hDc := hD.sub (ws' := [(a_n0, .inl (cJ, 40, .inr (.inl g_n)))]) [1] (by decide) rfl
  refine k_v (wc := [(a_n0, .inl (cJ, 40, .inr (.inl g_n)))]) (wr := [(a_t0, .inr (8, [.ref a_n0, .int i_s, .int i_n]))]) hP hD hS hA [1] [0] rfl rfl rfl (by decide) (r_S (n := 2) (As := [.ref a_n0, .long 0]) hx hb hml hown hts hkb hPc hDc (c_fill l D cB cI cJ cZ cS cW cT cR a_n0 g_n) kw_1181 kw_1182 kw_22 kw_1183 (by decide +kernel) ⟨Nat.le_of_ble_eq_true rfl, Nat.le_of_ble_eq_true rfl⟩ rfl rfl hl.1 (Nat.le_of_ble_eq_true rfl) dX8_lay_15 ⟨Nat.le_of_ble_eq_true rfl, Nat.le_of_ble_eq_true rfl⟩) (fun u H locs hw hP hD hS => ?_)
  obtain ⟨f_1, rfl⟩ := hw
  have hP : va_P D cls [(a_t0, .inr (8, [.ref a_n0, .int i_s, .int i_n])), (a_n0, .inl (cJ, 40, .inr (.inl f_1)))] H := hP
  have hD : va_D A [(a_t0, .inr (8, [.ref a_n0, .int i_s, .int i_n])), (a_n0, .inl (cJ, 40, .inr (.inl f_1)))] := hD
  refine W.widen (k := 0) (n := 0) (Nat.le_of_ble_eq_true rfl) (Nat.le_of_ble_eq_true rfl) ?_
  refine W.widen (k := 0) (n := 0) (Nat.le_of_ble_eq_true rfl) (Nat.le_of_ble_eq_true rfl) ?_
  exact e_v (u := [(a_t0, .inr (8, [.ref a_n0, .int i_s, .int i_n])), (a_n0, .inl (cJ, 40, .inr (.inl f_1)))]) hx hb hr hlocks (hP.sub (ws' := [(a_t0, .inr (8, [.ref a_n0, .int i_s, .int i_n])), (a_n0, .inl (cJ, 40, .inr (.inl f_1)))]) [0, 1] rfl) (hD.sub (ws' := [(a_t0, .inr (8, [.ref a_n0, .int i_s, .int i_n])), (a_n0, .inl (cJ, 40, .inr (.inl f_1)))]) [0, 1] (by decide) rfl) hS ⟨f_1, rfl⟩ dX8_lay_18
set_option maxHeartbeats 4000000 in
set_option maxRecDepth 100000 in
theorem x_judge (l : Launch) (D : va_G) (cB cI cJ cZ cS cW cT cR : ClassId) (h0 : Nat) (a_tr : Nat) (a_t0 : Nat) (a_t1 : Nat) (a_t2 : Nat) (a_t3 : Nat) (i_0 : Int32) (i_1 : Int32) (a_tp : Nat) (a_rd : Nat) (a_wl : Nat) (a_st : Nat) (a_bf : Nat) (a_ps : Nat) (a_iw : Nat) (a_is : Nat) (a_rw : Nat) (a_or : Nat) (a_wy : Nat) (a_ct : Nat) (a_ch : Nat) (a_tn : Nat) (a_bt : Nat) (a_n0 : Nat) (a_n1 : Nat) (a_n2 : Nat) (a_n3 : Nat) : Kon l D (tyl cB cI cJ cZ cS cW cT cR) yX11_judge cX11_judge 5 (some (.int)) { frames := 1, cells := 0, slots := 0, locals := 20 } [.ref h0, .int i_0, .int i_1] [(h0, .inr (11, [.ref a_tp, .int 0, .ref a_rd, .ref a_wl, .ref a_st, .ref a_bf, .ref a_ps, .int 0, .int 0, .ref a_iw, .ref a_is, .ref a_tr, .ref a_rw, .ref a_or, .ref a_wy, .ref a_ct, .ref a_ch, .ref a_tn, .ref a_bt, .int (-1)])), (a_tr, .inl (cT, 4, .inr (.inr (.inr (.inr (va_up (va_up (va_up (va_up (fun _ => none) 0 (some a_t0)) 1 (some a_t1)) 2 (some a_t2)) 3 (some a_t3))))))), (a_t0, .inr (8, [.ref a_n0, .int 0, .int (-1)])), (a_t1, .inr (8, [.ref a_n1, .int 0, .int (-1)])), (a_t2, .inr (8, [.ref a_n2, .int 0, .int (-1)])), (a_t3, .inr (8, [.ref a_n3, .int 0, .int (-1)]))] (Qi D (fun r u => r = F_judge i_0 i_1 ∧ u = [])) := by
  refine kon_of (by decide) (Nat.le_of_ble_eq_true rfl) (fun p e s m below meth c ls A hx hb hr hml hown hts hlocks hnm hkb hP hD hS hA hl => ?_)
  have hown : s.vm.findClass RX11 = some m.cls := hown
  have hl : lv_has ls 5 [(0, .ref h0), (1, .int i_0), (2, .int i_1)] := hl
  have hP : va_P D cls [(h0, .inr (11, [.ref a_tp, .int 0, .ref a_rd, .ref a_wl, .ref a_st, .ref a_bf, .ref a_ps, .int 0, .int 0, .ref a_iw, .ref a_is, .ref a_tr, .ref a_rw, .ref a_or, .ref a_wy, .ref a_ct, .ref a_ch, .ref a_tn, .ref a_bt, .int (-1)])), (a_tr, .inl (cT, 4, .inr (.inr (.inr (.inr (va_up (va_up (va_up (va_up (fun _ => none) 0 (some a_t0)) 1 (some a_t1)) 2 (some a_t2)) 3 (some a_t3))))))), (a_t0, .inr (8, [.ref a_n0, .int 0, .int (-1)])), (a_t1, .inr (8, [.ref a_n1, .int 0, .int (-1)])), (a_t2, .inr (8, [.ref a_n2, .int 0, .int (-1)])), (a_t3, .inr (8, [.ref a_n3, .int 0, .int (-1)]))] s.heap := hP
  refine lv_iload_n hx hb dX11_judge_0 rfl (lv_at hl 1 rfl) ?_
  have hPc := hP.sub (ws' := []) [] rfl
  have hDc := hD.sub (ws' := []) [] (by decide) rfl
  refine k_i (wc := []) (wr := [(h0, .inr (11, [.ref a_tp, .int 0, .ref a_rd, .ref a_wl, .ref a_st, .ref a_bf, .ref a_ps, .int 0, .int 0, .ref a_iw, .ref a_is, .ref a_tr, .ref a_rw, .ref a_or, .ref a_wy, .ref a_ct, .ref a_ch, .ref a_tn, .ref a_bt, .int (-1)])), (a_tr, .inl (cT, 4, .inr (.inr (.inr (.inr (va_up (va_up (va_up (va_up (fun _ => none) 0 (some a_t0)) 1 (some a_t1)) 2 (some a_t2)) 3 (some a_t3))))))), (a_t0, .inr (8, [.ref a_n0, .int 0, .int (-1)])), (a_t1, .inr (8, [.ref a_n1, .int 0, .int (-1)])), (a_t2, .inr (8, [.ref a_n2, .int 0, .int (-1)])), (a_t3, .inr (8, [.ref a_n3, .int 0, .int (-1)]))]) hP hD hS hA [] [0, 1, 2, 3, 4, 5] rfl rfl rfl (by decide) (r_S (n := 1) (As := [.int i_0]) hx hb hml hown hts hkb hPc hDc (c_isTray l D cB cI cJ cZ cS cW cT cR i_0) kw_871 kw_872 kw_1 kw_873 (by decide +kernel) ⟨Nat.le_of_ble_eq_true rfl, Nat.le_of_ble_eq_true rfl⟩ rfl rfl hl.1 (Nat.le_of_ble_eq_true rfl) dX11_judge_1 ⟨Nat.le_of_ble_eq_true rfl, Nat.le_of_ble_eq_true rfl⟩) (fun r_1 u H locs hw hP hD hS => ?_)
  obtain ⟨rfl, rfl⟩ := hw
  have hP : va_P D cls [(h0, .inr (11, [.ref a_tp, .int 0, .ref a_rd, .ref a_wl, .ref a_st, .ref a_bf, .ref a_ps, .int 0, .int 0, .ref a_iw, .ref a_is, .ref a_tr, .ref a_rw, .ref a_or, .ref a_wy, .ref a_ct, .ref a_ch, .ref a_tn, .ref a_bt, .int (-1)])), (a_tr, .inl (cT, 4, .inr (.inr (.inr (.inr (va_up (va_up (va_up (va_up (fun _ => none) 0 (some a_t0)) 1 (some a_t1)) 2 (some a_t2)) 3 (some a_t3))))))), (a_t0, .inr (8, [.ref a_n0, .int 0, .int (-1)])), (a_t1, .inr (8, [.ref a_n1, .int 0, .int (-1)])), (a_t2, .inr (8, [.ref a_n2, .int 0, .int (-1)])), (a_t3, .inr (8, [.ref a_n3, .int 0, .int (-1)]))] H := hP
  have hD : va_D A [(h0, .inr (11, [.ref a_tp, .int 0, .ref a_rd, .ref a_wl, .ref a_st, .ref a_bf, .ref a_ps, .int 0, .int 0, .ref a_iw, .ref a_is, .ref a_tr, .ref a_rw, .ref a_or, .ref a_wy, .ref a_ct, .ref a_ch, .ref a_tn, .ref a_bt, .int (-1)])), (a_tr, .inl (cT, 4, .inr (.inr (.inr (.inr (va_up (va_up (va_up (va_up (fun _ => none) 0 (some a_t0)) 1 (some a_t1)) 2 (some a_t2)) 3 (some a_t3))))))), (a_t0, .inr (8, [.ref a_n0, .int 0, .int (-1)])), (a_t1, .inr (8, [.ref a_n1, .int 0, .int (-1)])), (a_t2, .inr (8, [.ref a_n2, .int 0, .int (-1)])), (a_t3, .inr (8, [.ref a_n3, .int 0, .int (-1)]))] := hD
  refine W.widen (k := 0) (n := 0) (Nat.le_of_ble_eq_true rfl) (Nat.le_of_ble_eq_true rfl) ?_
  refine lv_if_eq (tgt := 16) hx hb dX11_judge_4 (by decide) (fun c_2 => ?_) (fun c_2 => ?_)
  · skip
    have tc_2 := F_isTray_0 c_2
    refine lv_bipush (v := (-2)) hx hb dX11_judge_16 (by decide) ?_
    refine W.widen (k := 0) (n := 0) (Nat.le_of_ble_eq_true rfl) (Nat.le_of_ble_eq_true rfl) ?_
    exact e_i (u := []) hx hb hr hlocks (hP.sub (ws' := []) [] rfl) (hD.sub (ws' := []) [] (by decide) rfl) hS ⟨(by unfold F_judge; (repeat' split) <;> first | rfl | (exfalso; omega)), rfl⟩ dX11_judge_18
  · skip
    have tc_2 := F_isTray_1 c_2
    refine lv_iload_n hx hb dX11_judge_7 rfl (lv_at hl 2 rfl) ?_
    refine lv_if_lt (tgt := 16) hx hb dX11_judge_8 (by decide) (fun c_3 => ?_) (fun c_3 => ?_)
    · skip
      have tc_3 := f_lt (k := 0) (by decide) c_3
      refine lv_bipush (v := (-2)) hx hb dX11_judge_16 (by decide) ?_
      refine W.widen (k := 0) (n := 0) (Nat.le_of_ble_eq_true rfl) (Nat.le_of_ble_eq_true rfl) ?_
      exact e_i (u := []) hx hb hr hlocks (hP.sub (ws' := []) [] rfl) (hD.sub (ws' := []) [] (by decide) rfl) hS ⟨(by unfold F_judge; (repeat' split) <;> first | rfl | (exfalso; omega)), rfl⟩ dX11_judge_18
    · skip
      have tc_3 := f_nlt (k := 0) (by decide) c_3
      refine lv_iload_n hx hb dX11_judge_11 rfl (lv_at hl 2 rfl) ?_
      refine lv_iconst (v := 2) hx hb dX11_judge_12 (by decide) ?_
      refine lv_icmp_le (tgt := 19) hx hb dX11_judge_13 (by decide) (fun c_4 => ?_) (fun c_4 => ?_)
      · skip
        have tc_4 := f_le (k := 2) (by decide) c_4
        by_cases c_5 : i_0 = 0
        · skip
          subst c_5
          have zc_5 : (0 : Int32).toInt = 0 := by decide
          refine lv_aload_n hx hb dX11_judge_19 rfl (lv_at hl 0 rfl) ?_
          refine va_get (D := D) (ci := 11) (v := .ref a_tr) (C := RX11) (T := TX11) (N := 20) hx hb hts uX11 hown hkb.1 hP 0 rfl rfl 11 (by decide) (hts _ kw_371) (fun _ h9 => h9) rfl dX11_judge_20 ?_
          refine lv_iload_n hx hb dX11_judge_23 rfl (lv_at hl 1 rfl) ?_
          refine va_aldq hx hb hkb.1 hP 1 6 rfl rfl (in_c (by decide +kernel)) dX11_judge_24 ?_
          refine lv_topcv (y := .ref a_t0) (by rfl) ?_
          refine lv_astore_n (lv' := [(3, .ref a_t0), (0, .ref h0), (1, .int 0), (2, .int i_1)]) hx hb dX11_judge_25 rfl hl (by decide) rfl (fun ls hl => ?_)
          refine lv_aload_n hx hb dX11_judge_26 rfl (lv_at hl 0 rfl) ?_
          have hPc := hP.sub (ws' := [(a_t0, .inr (8, [.ref a_n0, .int 0, .int (-1)]))]) [2] rfl
          have hDc := hD.sub (ws' := [(a_t0, .inr (8, [.ref a_n0, .int 0, .int (-1)]))]) [2] (by decide) rfl
          refine k_i (wc := [(a_t0, .inr (8, [.ref a_n0, .int 0, .int (-1)]))]) (wr := [(h0, .inr (11, [.ref a_tp, .int 0, .ref a_rd, .ref a_wl, .ref a_st, .ref a_bf, .ref a_ps, .int 0, .int 0, .ref a_iw, .ref a_is, .ref a_tr, .ref a_rw, .ref a_or, .ref a_wy, .ref a_ct, .ref a_ch, .ref a_tn, .ref a_bt, .int (-1)])), (a_tr, .inl (cT, 4, .inr (.inr (.inr (.inr (va_up (va_up (va_up (va_up (fun _ => none) 0 (some a_t0)) 1 (some a_t1)) 2 (some a_t2)) 3 (some a_t3))))))), (a_t1, .inr (8, [.ref a_n1, .int 0, .int (-1)])), (a_t2, .inr (8, [.ref a_n2, .int 0, .int (-1)])), (a_t3, .inr (8, [.ref a_n3, .int 0, .int (-1)]))]) hP hD hS hA [2] [0, 1, 3, 4, 5] rfl rfl rfl (by decide) (r_V (n := 0) (As := []) (ci := 8) (q0 := 0) hx hb hml hown hts hkb hPc hDc (c_isMissing l D cB cI cJ cZ cS cW cT cR a_t0 a_n0) kw_874 kw_875 kw_876 kw_12 kw_877 (by decide +kernel) ⟨Nat.le_of_ble_eq_true rfl, Nat.le_of_ble_eq_true rfl⟩ rfl rfl rfl rfl hl.1 (Nat.le_of_ble_eq_true rfl) dX11_judge_27 ⟨Nat.le_of_ble_eq_true rfl, Nat.le_of_ble_eq_true rfl⟩) (fun r_6 u H locs hw hP hD hS => ?_)
          obtain ⟨rfl, rfl⟩ := hw
          have hP : va_P D cls [(h0, .inr (11, [.ref a_tp, .int 0, .ref a_rd, .ref a_wl, .ref a_st, .ref a_bf, .ref a_ps, .int 0, .int 0, .ref a_iw, .ref a_is, .ref a_tr, .ref a_rw, .ref a_or, .ref a_wy, .ref a_ct, .ref a_ch, .ref a_tn, .ref a_bt, .int (-1)])), (a_tr, .inl (cT, 4, .inr (.inr (.inr (.inr (va_up (va_up (va_up (va_up (fun _ => none) 0 (some a_t0)) 1 (some a_t1)) 2 (some a_t2)) 3 (some a_t3))))))), (a_t1, .inr (8, [.ref a_n1, .int 0, .int (-1)])), (a_t2, .inr (8, [.ref a_n2, .int 0, .int (-1)])), (a_t3, .inr (8, [.ref a_n3, .int 0, .int (-1)])), (a_t0, .inr (8, [.ref a_n0, .int 0, .int (-1)]))] H := hP
          have hD : va_D A [(h0, .inr (11, [.ref a_tp, .int 0, .ref a_rd, .ref a_wl, .ref a_st, .ref a_bf, .ref a_ps, .int 0, .int 0, .ref a_iw, .ref a_is, .ref a_tr, .ref a_rw, .ref a_or, .ref a_wy, .ref a_ct, .ref a_ch, .ref a_tn, .ref a_bt, .int (-1)])), (a_tr, .inl (cT, 4, .inr (.inr (.inr (.inr (va_up (va_up (va_up (va_up (fun _ => none) 0 (some a_t0)) 1 (some a_t1)) 2 (some a_t2)) 3 (some a_t3))))))), (a_t1, .inr (8, [.ref a_n1, .int 0, .int (-1)])), (a_t2, .inr (8, [.ref a_n2, .int 0, .int (-1)])), (a_t3, .inr (8, [.ref a_n3, .int 0, .int (-1)])), (a_t0, .inr (8, [.ref a_n0, .int 0, .int (-1)]))] := hD
          refine W.widen (k := 0) (n := 0) (Nat.le_of_ble_eq_true rfl) (Nat.le_of_ble_eq_true rfl) ?_
          refine lv_if_eq (tgt := 36) hx hb dX11_judge_30 (by decide) (fun c_7 => absurd c_7 (by decide)) (fun _ => ?_)
          refine lv_bipush (v := (-6)) hx hb dX11_judge_33 (by decide) ?_
          refine W.widen (k := 0) (n := 0) (Nat.le_of_ble_eq_true rfl) (Nat.le_of_ble_eq_true rfl) ?_
          exact e_i (u := []) hx hb hr hlocks (hP.sub (ws' := []) [] rfl) (hD.sub (ws' := []) [] (by decide) rfl) hS ⟨(by unfold F_judge; (repeat' split) <;> first | rfl | (exfalso; omega)), rfl⟩ dX11_judge_35
        have tc_5 := f_ne (k := 0) (by decide) c_5
        by_cases c_8 : i_0 = 1
        · skip
          subst c_8
          have zc_8 : (1 : Int32).toInt = 1 := by decide
          refine lv_aload_n hx hb dX11_judge_19 rfl (lv_at hl 0 rfl) ?_
          refine va_get (D := D) (ci := 11) (v := .ref a_tr) (C := RX11) (T := TX11) (N := 20) hx hb hts uX11 hown hkb.1 hP 0 rfl rfl 11 (by decide) (hts _ kw_371) (fun _ h9 => h9) rfl dX11_judge_20 ?_
          refine lv_iload_n hx hb dX11_judge_23 rfl (lv_at hl 1 rfl) ?_
          refine va_aldq hx hb hkb.1 hP 1 6 rfl rfl (in_c (by decide +kernel)) dX11_judge_24 ?_
          refine lv_topcv (y := .ref a_t1) (by rfl) ?_
          refine lv_astore_n (lv' := [(3, .ref a_t1), (0, .ref h0), (1, .int 1), (2, .int i_1)]) hx hb dX11_judge_25 rfl hl (by decide) rfl (fun ls hl => ?_)
          refine lv_aload_n hx hb dX11_judge_26 rfl (lv_at hl 0 rfl) ?_
          have hPc := hP.sub (ws' := [(a_t1, .inr (8, [.ref a_n1, .int 0, .int (-1)]))]) [3] rfl
          have hDc := hD.sub (ws' := [(a_t1, .inr (8, [.ref a_n1, .int 0, .int (-1)]))]) [3] (by decide) rfl
          refine k_i (wc := [(a_t1, .inr (8, [.ref a_n1, .int 0, .int (-1)]))]) (wr := [(h0, .inr (11, [.ref a_tp, .int 0, .ref a_rd, .ref a_wl, .ref a_st, .ref a_bf, .ref a_ps, .int 0, .int 0, .ref a_iw, .ref a_is, .ref a_tr, .ref a_rw, .ref a_or, .ref a_wy, .ref a_ct, .ref a_ch, .ref a_tn, .ref a_bt, .int (-1)])), (a_tr, .inl (cT, 4, .inr (.inr (.inr (.inr (va_up (va_up (va_up (va_up (fun _ => none) 0 (some a_t0)) 1 (some a_t1)) 2 (some a_t2)) 3 (some a_t3))))))), (a_t0, .inr (8, [.ref a_n0, .int 0, .int (-1)])), (a_t2, .inr (8, [.ref a_n2, .int 0, .int (-1)])), (a_t3, .inr (8, [.ref a_n3, .int 0, .int (-1)]))]) hP hD hS hA [3] [0, 1, 2, 4, 5] rfl rfl rfl (by decide) (r_V (n := 0) (As := []) (ci := 8) (q0 := 0) hx hb hml hown hts hkb hPc hDc (c_isMissing l D cB cI cJ cZ cS cW cT cR a_t1 a_n1) kw_874 kw_875 kw_876 kw_12 kw_877 (by decide +kernel) ⟨Nat.le_of_ble_eq_true rfl, Nat.le_of_ble_eq_true rfl⟩ rfl rfl rfl rfl hl.1 (Nat.le_of_ble_eq_true rfl) dX11_judge_27 ⟨Nat.le_of_ble_eq_true rfl, Nat.le_of_ble_eq_true rfl⟩) (fun r_9 u H locs hw hP hD hS => ?_)
          obtain ⟨rfl, rfl⟩ := hw
          have hP : va_P D cls [(h0, .inr (11, [.ref a_tp, .int 0, .ref a_rd, .ref a_wl, .ref a_st, .ref a_bf, .ref a_ps, .int 0, .int 0, .ref a_iw, .ref a_is, .ref a_tr, .ref a_rw, .ref a_or, .ref a_wy, .ref a_ct, .ref a_ch, .ref a_tn, .ref a_bt, .int (-1)])), (a_tr, .inl (cT, 4, .inr (.inr (.inr (.inr (va_up (va_up (va_up (va_up (fun _ => none) 0 (some a_t0)) 1 (some a_t1)) 2 (some a_t2)) 3 (some a_t3))))))), (a_t0, .inr (8, [.ref a_n0, .int 0, .int (-1)])), (a_t2, .inr (8, [.ref a_n2, .int 0, .int (-1)])), (a_t3, .inr (8, [.ref a_n3, .int 0, .int (-1)])), (a_t1, .inr (8, [.ref a_n1, .int 0, .int (-1)]))] H := hP
          have hD : va_D A [(h0, .inr (11, [.ref a_tp, .int 0, .ref a_rd, .ref a_wl, .ref a_st, .ref a_bf, .ref a_ps, .int 0, .int 0, .ref a_iw, .ref a_is, .ref a_tr, .ref a_rw, .ref a_or, .ref a_wy, .ref a_ct, .ref a_ch, .ref a_tn, .ref a_bt, .int (-1)])), (a_tr, .inl (cT, 4, .inr (.inr (.inr (.inr (va_up (va_up (va_up (va_up (fun _ => none) 0 (some a_t0)) 1 (some a_t1)) 2 (some a_t2)) 3 (some a_t3))))))), (a_t0, .inr (8, [.ref a_n0, .int 0, .int (-1)])), (a_t2, .inr (8, [.ref a_n2, .int 0, .int (-1)])), (a_t3, .inr (8, [.ref a_n3, .int 0, .int (-1)])), (a_t1, .inr (8, [.ref a_n1, .int 0, .int (-1)]))] := hD
          refine W.widen (k := 0) (n := 0) (Nat.le_of_ble_eq_true rfl) (Nat.le_of_ble_eq_true rfl) ?_
          refine lv_if_eq (tgt := 36) hx hb dX11_judge_30 (by decide) (fun c_10 => absurd c_10 (by decide)) (fun _ => ?_)
          refine lv_bipush (v := (-6)) hx hb dX11_judge_33 (by decide) ?_
          refine W.widen (k := 0) (n := 0) (Nat.le_of_ble_eq_true rfl) (Nat.le_of_ble_eq_true rfl) ?_
          exact e_i (u := []) hx hb hr hlocks (hP.sub (ws' := []) [] rfl) (hD.sub (ws' := []) [] (by decide) rfl) hS ⟨(by unfold F_judge; (repeat' split) <;> first | rfl | (exfalso; omega)), rfl⟩ dX11_judge_35
        have tc_8 := f_ne (k := 1) (by decide) c_8
        by_cases c_11 : i_0 = 2
        · skip
          subst c_11
          have zc_11 : (2 : Int32).toInt = 2 := by decide
          refine lv_aload_n hx hb dX11_judge_19 rfl (lv_at hl 0 rfl) ?_
          refine va_get (D := D) (ci := 11) (v := .ref a_tr) (C := RX11) (T := TX11) (N := 20) hx hb hts uX11 hown hkb.1 hP 0 rfl rfl 11 (by decide) (hts _ kw_371) (fun _ h9 => h9) rfl dX11_judge_20 ?_
          refine lv_iload_n hx hb dX11_judge_23 rfl (lv_at hl 1 rfl) ?_
          refine va_aldq hx hb hkb.1 hP 1 6 rfl rfl (in_c (by decide +kernel)) dX11_judge_24 ?_
          refine lv_topcv (y := .ref a_t2) (by rfl) ?_
          refine lv_astore_n (lv' := [(3, .ref a_t2), (0, .ref h0), (1, .int 2), (2, .int i_1)]) hx hb dX11_judge_25 rfl hl (by decide) rfl (fun ls hl => ?_)
          refine lv_aload_n hx hb dX11_judge_26 rfl (lv_at hl 0 rfl) ?_
          have hPc := hP.sub (ws' := [(a_t2, .inr (8, [.ref a_n2, .int 0, .int (-1)]))]) [4] rfl
          have hDc := hD.sub (ws' := [(a_t2, .inr (8, [.ref a_n2, .int 0, .int (-1)]))]) [4] (by decide) rfl
          refine k_i (wc := [(a_t2, .inr (8, [.ref a_n2, .int 0, .int (-1)]))]) (wr := [(h0, .inr (11, [.ref a_tp, .int 0, .ref a_rd, .ref a_wl, .ref a_st, .ref a_bf, .ref a_ps, .int 0, .int 0, .ref a_iw, .ref a_is, .ref a_tr, .ref a_rw, .ref a_or, .ref a_wy, .ref a_ct, .ref a_ch, .ref a_tn, .ref a_bt, .int (-1)])), (a_tr, .inl (cT, 4, .inr (.inr (.inr (.inr (va_up (va_up (va_up (va_up (fun _ => none) 0 (some a_t0)) 1 (some a_t1)) 2 (some a_t2)) 3 (some a_t3))))))), (a_t0, .inr (8, [.ref a_n0, .int 0, .int (-1)])), (a_t1, .inr (8, [.ref a_n1, .int 0, .int (-1)])), (a_t3, .inr (8, [.ref a_n3, .int 0, .int (-1)]))]) hP hD hS hA [4] [0, 1, 2, 3, 5] rfl rfl rfl (by decide) (r_V (n := 0) (As := []) (ci := 8) (q0 := 0) hx hb hml hown hts hkb hPc hDc (c_isMissing l D cB cI cJ cZ cS cW cT cR a_t2 a_n2) kw_874 kw_875 kw_876 kw_12 kw_877 (by decide +kernel) ⟨Nat.le_of_ble_eq_true rfl, Nat.le_of_ble_eq_true rfl⟩ rfl rfl rfl rfl hl.1 (Nat.le_of_ble_eq_true rfl) dX11_judge_27 ⟨Nat.le_of_ble_eq_true rfl, Nat.le_of_ble_eq_true rfl⟩) (fun r_12 u H locs hw hP hD hS => ?_)
          obtain ⟨rfl, rfl⟩ := hw
          have hP : va_P D cls [(h0, .inr (11, [.ref a_tp, .int 0, .ref a_rd, .ref a_wl, .ref a_st, .ref a_bf, .ref a_ps, .int 0, .int 0, .ref a_iw, .ref a_is, .ref a_tr, .ref a_rw, .ref a_or, .ref a_wy, .ref a_ct, .ref a_ch, .ref a_tn, .ref a_bt, .int (-1)])), (a_tr, .inl (cT, 4, .inr (.inr (.inr (.inr (va_up (va_up (va_up (va_up (fun _ => none) 0 (some a_t0)) 1 (some a_t1)) 2 (some a_t2)) 3 (some a_t3))))))), (a_t0, .inr (8, [.ref a_n0, .int 0, .int (-1)])), (a_t1, .inr (8, [.ref a_n1, .int 0, .int (-1)])), (a_t3, .inr (8, [.ref a_n3, .int 0, .int (-1)])), (a_t2, .inr (8, [.ref a_n2, .int 0, .int (-1)]))] H := hP
          have hD : va_D A [(h0, .inr (11, [.ref a_tp, .int 0, .ref a_rd, .ref a_wl, .ref a_st, .ref a_bf, .ref a_ps, .int 0, .int 0, .ref a_iw, .ref a_is, .ref a_tr, .ref a_rw, .ref a_or, .ref a_wy, .ref a_ct, .ref a_ch, .ref a_tn, .ref a_bt, .int (-1)])), (a_tr, .inl (cT, 4, .inr (.inr (.inr (.inr (va_up (va_up (va_up (va_up (fun _ => none) 0 (some a_t0)) 1 (some a_t1)) 2 (some a_t2)) 3 (some a_t3))))))), (a_t0, .inr (8, [.ref a_n0, .int 0, .int (-1)])), (a_t1, .inr (8, [.ref a_n1, .int 0, .int (-1)])), (a_t3, .inr (8, [.ref a_n3, .int 0, .int (-1)])), (a_t2, .inr (8, [.ref a_n2, .int 0, .int (-1)]))] := hD
          refine W.widen (k := 0) (n := 0) (Nat.le_of_ble_eq_true rfl) (Nat.le_of_ble_eq_true rfl) ?_
          refine lv_if_eq (tgt := 36) hx hb dX11_judge_30 (by decide) (fun c_13 => absurd c_13 (by decide)) (fun _ => ?_)
          refine lv_bipush (v := (-6)) hx hb dX11_judge_33 (by decide) ?_
          refine W.widen (k := 0) (n := 0) (Nat.le_of_ble_eq_true rfl) (Nat.le_of_ble_eq_true rfl) ?_
          exact e_i (u := []) hx hb hr hlocks (hP.sub (ws' := []) [] rfl) (hD.sub (ws' := []) [] (by decide) rfl) hS ⟨(by unfold F_judge; (repeat' split) <;> first | rfl | (exfalso; omega)), rfl⟩ dX11_judge_35
        have tc_11 := f_ne (k := 2) (by decide) c_11
        by_cases c_14 : i_0 = 3
        · skip
          subst c_14
          have zc_14 : (3 : Int32).toInt = 3 := by decide
          refine lv_aload_n hx hb dX11_judge_19 rfl (lv_at hl 0 rfl) ?_
          refine va_get (D := D) (ci := 11) (v := .ref a_tr) (C := RX11) (T := TX11) (N := 20) hx hb hts uX11 hown hkb.1 hP 0 rfl rfl 11 (by decide) (hts _ kw_371) (fun _ h9 => h9) rfl dX11_judge_20 ?_
          refine lv_iload_n hx hb dX11_judge_23 rfl (lv_at hl 1 rfl) ?_
          refine va_aldq hx hb hkb.1 hP 1 6 rfl rfl (in_c (by decide +kernel)) dX11_judge_24 ?_
          refine lv_topcv (y := .ref a_t3) (by rfl) ?_
          refine lv_astore_n (lv' := [(3, .ref a_t3), (0, .ref h0), (1, .int 3), (2, .int i_1)]) hx hb dX11_judge_25 rfl hl (by decide) rfl (fun ls hl => ?_)
          refine lv_aload_n hx hb dX11_judge_26 rfl (lv_at hl 0 rfl) ?_
          have hPc := hP.sub (ws' := [(a_t3, .inr (8, [.ref a_n3, .int 0, .int (-1)]))]) [5] rfl
          have hDc := hD.sub (ws' := [(a_t3, .inr (8, [.ref a_n3, .int 0, .int (-1)]))]) [5] (by decide) rfl
          refine k_i (wc := [(a_t3, .inr (8, [.ref a_n3, .int 0, .int (-1)]))]) (wr := [(h0, .inr (11, [.ref a_tp, .int 0, .ref a_rd, .ref a_wl, .ref a_st, .ref a_bf, .ref a_ps, .int 0, .int 0, .ref a_iw, .ref a_is, .ref a_tr, .ref a_rw, .ref a_or, .ref a_wy, .ref a_ct, .ref a_ch, .ref a_tn, .ref a_bt, .int (-1)])), (a_tr, .inl (cT, 4, .inr (.inr (.inr (.inr (va_up (va_up (va_up (va_up (fun _ => none) 0 (some a_t0)) 1 (some a_t1)) 2 (some a_t2)) 3 (some a_t3))))))), (a_t0, .inr (8, [.ref a_n0, .int 0, .int (-1)])), (a_t1, .inr (8, [.ref a_n1, .int 0, .int (-1)])), (a_t2, .inr (8, [.ref a_n2, .int 0, .int (-1)]))]) hP hD hS hA [5] [0, 1, 2, 3, 4] rfl rfl rfl (by decide) (r_V (n := 0) (As := []) (ci := 8) (q0 := 0) hx hb hml hown hts hkb hPc hDc (c_isMissing l D cB cI cJ cZ cS cW cT cR a_t3 a_n3) kw_874 kw_875 kw_876 kw_12 kw_877 (by decide +kernel) ⟨Nat.le_of_ble_eq_true rfl, Nat.le_of_ble_eq_true rfl⟩ rfl rfl rfl rfl hl.1 (Nat.le_of_ble_eq_true rfl) dX11_judge_27 ⟨Nat.le_of_ble_eq_true rfl, Nat.le_of_ble_eq_true rfl⟩) (fun r_15 u H locs hw hP hD hS => ?_)
          obtain ⟨rfl, rfl⟩ := hw
          have hP : va_P D cls [(h0, .inr (11, [.ref a_tp, .int 0, .ref a_rd, .ref a_wl, .ref a_st, .ref a_bf, .ref a_ps, .int 0, .int 0, .ref a_iw, .ref a_is, .ref a_tr, .ref a_rw, .ref a_or, .ref a_wy, .ref a_ct, .ref a_ch, .ref a_tn, .ref a_bt, .int (-1)])), (a_tr, .inl (cT, 4, .inr (.inr (.inr (.inr (va_up (va_up (va_up (va_up (fun _ => none) 0 (some a_t0)) 1 (some a_t1)) 2 (some a_t2)) 3 (some a_t3))))))), (a_t0, .inr (8, [.ref a_n0, .int 0, .int (-1)])), (a_t1, .inr (8, [.ref a_n1, .int 0, .int (-1)])), (a_t2, .inr (8, [.ref a_n2, .int 0, .int (-1)])), (a_t3, .inr (8, [.ref a_n3, .int 0, .int (-1)]))] H := hP
          have hD : va_D A [(h0, .inr (11, [.ref a_tp, .int 0, .ref a_rd, .ref a_wl, .ref a_st, .ref a_bf, .ref a_ps, .int 0, .int 0, .ref a_iw, .ref a_is, .ref a_tr, .ref a_rw, .ref a_or, .ref a_wy, .ref a_ct, .ref a_ch, .ref a_tn, .ref a_bt, .int (-1)])), (a_tr, .inl (cT, 4, .inr (.inr (.inr (.inr (va_up (va_up (va_up (va_up (fun _ => none) 0 (some a_t0)) 1 (some a_t1)) 2 (some a_t2)) 3 (some a_t3))))))), (a_t0, .inr (8, [.ref a_n0, .int 0, .int (-1)])), (a_t1, .inr (8, [.ref a_n1, .int 0, .int (-1)])), (a_t2, .inr (8, [.ref a_n2, .int 0, .int (-1)])), (a_t3, .inr (8, [.ref a_n3, .int 0, .int (-1)]))] := hD
          refine W.widen (k := 0) (n := 0) (Nat.le_of_ble_eq_true rfl) (Nat.le_of_ble_eq_true rfl) ?_
          refine lv_if_eq (tgt := 36) hx hb dX11_judge_30 (by decide) (fun c_16 => absurd c_16 (by decide)) (fun _ => ?_)
          refine lv_bipush (v := (-6)) hx hb dX11_judge_33 (by decide) ?_
          refine W.widen (k := 0) (n := 0) (Nat.le_of_ble_eq_true rfl) (Nat.le_of_ble_eq_true rfl) ?_
          exact e_i (u := []) hx hb hr hlocks (hP.sub (ws' := []) [] rfl) (hD.sub (ws' := []) [] (by decide) rfl) hS ⟨(by unfold F_judge; (repeat' split) <;> first | rfl | (exfalso; omega)), rfl⟩ dX11_judge_35
        have tc_14 := f_ne (k := 3) (by decide) c_14
        exfalso; omega
      · skip
        have tc_4 := f_nle (k := 2) (by decide) c_4
        refine lv_bipush (v := (-2)) hx hb dX11_judge_16 (by decide) ?_
        refine W.widen (k := 0) (n := 0) (Nat.le_of_ble_eq_true rfl) (Nat.le_of_ble_eq_true rfl) ?_
        exact e_i (u := []) hx hb hr hlocks (hP.sub (ws' := []) [] rfl) (hD.sub (ws' := []) [] (by decide) rfl) hS ⟨(by unfold F_judge; (repeat' split) <;> first | rfl | (exfalso; omega)), rfl⟩ dX11_judge_18
set_option maxHeartbeats 4000000 in
set_option maxRecDepth 100000 in
theorem x_climb (l : Launch) (D : va_G) (cB cI cJ cZ cS cW cT cR : ClassId) (h0 : Nat) (a_tr : Nat) (a_t0 : Nat) (a_t1 : Nat) (a_t2 : Nat) (a_t3 : Nat) (i_0 : Int32) (a_tp : Nat) (a_rd : Nat) (a_wl : Nat) (a_st : Nat) (a_bf : Nat) (a_ps : Nat) (a_iw : Nat) (a_is : Nat) (a_rw : Nat) (a_or : Nat) (a_wy : Nat) (a_ct : Nat) (a_ch : Nat) (a_tn : Nat) (a_bt : Nat) (a_n0 : Nat) (a_n1 : Nat) (a_n2 : Nat) (a_n3 : Nat) : Kon l D (tyl cB cI cJ cZ cS cW cT cR) yX11_climb cX11_climb 4 (some (.int)) { frames := 1, cells := 0, slots := 0, locals := 20 } [.ref h0, .int i_0] [(h0, .inr (11, [.ref a_tp, .int 0, .ref a_rd, .ref a_wl, .ref a_st, .ref a_bf, .ref a_ps, .int 0, .int 0, .ref a_iw, .ref a_is, .ref a_tr, .ref a_rw, .ref a_or, .ref a_wy, .ref a_ct, .ref a_ch, .ref a_tn, .ref a_bt, .int (-1)])), (a_tr, .inl (cT, 4, .inr (.inr (.inr (.inr (va_up (va_up (va_up (va_up (fun _ => none) 0 (some a_t0)) 1 (some a_t1)) 2 (some a_t2)) 3 (some a_t3))))))), (a_t0, .inr (8, [.ref a_n0, .int 0, .int (-1)])), (a_t1, .inr (8, [.ref a_n1, .int 0, .int (-1)])), (a_t2, .inr (8, [.ref a_n2, .int 0, .int (-1)])), (a_t3, .inr (8, [.ref a_n3, .int 0, .int (-1)]))] (Qi D (fun r u => r = F_tray i_0 ∧ u = [])) := by
  refine kon_of (by decide) (Nat.le_of_ble_eq_true rfl) (fun p e s m below meth c ls A hx hb hr hml hown hts hlocks hnm hkb hP hD hS hA hl => ?_)
  have hown : s.vm.findClass RX11 = some m.cls := hown
  have hl : lv_has ls 4 [(0, .ref h0), (1, .int i_0)] := hl
  have hP : va_P D cls [(h0, .inr (11, [.ref a_tp, .int 0, .ref a_rd, .ref a_wl, .ref a_st, .ref a_bf, .ref a_ps, .int 0, .int 0, .ref a_iw, .ref a_is, .ref a_tr, .ref a_rw, .ref a_or, .ref a_wy, .ref a_ct, .ref a_ch, .ref a_tn, .ref a_bt, .int (-1)])), (a_tr, .inl (cT, 4, .inr (.inr (.inr (.inr (va_up (va_up (va_up (va_up (fun _ => none) 0 (some a_t0)) 1 (some a_t1)) 2 (some a_t2)) 3 (some a_t3))))))), (a_t0, .inr (8, [.ref a_n0, .int 0, .int (-1)])), (a_t1, .inr (8, [.ref a_n1, .int 0, .int (-1)])), (a_t2, .inr (8, [.ref a_n2, .int 0, .int (-1)])), (a_t3, .inr (8, [.ref a_n3, .int 0, .int (-1)]))] s.heap := hP
  refine lv_iload_n hx hb dX11_climb_0 rfl (lv_at hl 1 rfl) ?_
  have hPc := hP.sub (ws' := []) [] rfl
  have hDc := hD.sub (ws' := []) [] (by decide) rfl
  refine k_i (wc := []) (wr := [(h0, .inr (11, [.ref a_tp, .int 0, .ref a_rd, .ref a_wl, .ref a_st, .ref a_bf, .ref a_ps, .int 0, .int 0, .ref a_iw, .ref a_is, .ref a_tr, .ref a_rw, .ref a_or, .ref a_wy, .ref a_ct, .ref a_ch, .ref a_tn, .ref a_bt, .int (-1)])), (a_tr, .inl (cT, 4, .inr (.inr (.inr (.inr (va_up (va_up (va_up (va_up (fun _ => none) 0 (some a_t0)) 1 (some a_t1)) 2 (some a_t2)) 3 (some a_t3))))))), (a_t0, .inr (8, [.ref a_n0, .int 0, .int (-1)])), (a_t1, .inr (8, [.ref a_n1, .int 0, .int (-1)])), (a_t2, .inr (8, [.ref a_n2, .int 0, .int (-1)])), (a_t3, .inr (8, [.ref a_n3, .int 0, .int (-1)]))]) hP hD hS hA [] [0, 1, 2, 3, 4, 5] rfl rfl rfl (by decide) (r_S (n := 1) (As := [.int i_0]) hx hb hml hown hts hkb hPc hDc (c_isTray l D cB cI cJ cZ cS cW cT cR i_0) kw_871 kw_872 kw_1 kw_873 (by decide +kernel) ⟨Nat.le_of_ble_eq_true rfl, Nat.le_of_ble_eq_true rfl⟩ rfl rfl hl.1 (Nat.le_of_ble_eq_true rfl) dX11_climb_1 ⟨Nat.le_of_ble_eq_true rfl, Nat.le_of_ble_eq_true rfl⟩) (fun r_1 u H locs hw hP hD hS => ?_)
  obtain ⟨rfl, rfl⟩ := hw
  have hP : va_P D cls [(h0, .inr (11, [.ref a_tp, .int 0, .ref a_rd, .ref a_wl, .ref a_st, .ref a_bf, .ref a_ps, .int 0, .int 0, .ref a_iw, .ref a_is, .ref a_tr, .ref a_rw, .ref a_or, .ref a_wy, .ref a_ct, .ref a_ch, .ref a_tn, .ref a_bt, .int (-1)])), (a_tr, .inl (cT, 4, .inr (.inr (.inr (.inr (va_up (va_up (va_up (va_up (fun _ => none) 0 (some a_t0)) 1 (some a_t1)) 2 (some a_t2)) 3 (some a_t3))))))), (a_t0, .inr (8, [.ref a_n0, .int 0, .int (-1)])), (a_t1, .inr (8, [.ref a_n1, .int 0, .int (-1)])), (a_t2, .inr (8, [.ref a_n2, .int 0, .int (-1)])), (a_t3, .inr (8, [.ref a_n3, .int 0, .int (-1)]))] H := hP
  have hD : va_D A [(h0, .inr (11, [.ref a_tp, .int 0, .ref a_rd, .ref a_wl, .ref a_st, .ref a_bf, .ref a_ps, .int 0, .int 0, .ref a_iw, .ref a_is, .ref a_tr, .ref a_rw, .ref a_or, .ref a_wy, .ref a_ct, .ref a_ch, .ref a_tn, .ref a_bt, .int (-1)])), (a_tr, .inl (cT, 4, .inr (.inr (.inr (.inr (va_up (va_up (va_up (va_up (fun _ => none) 0 (some a_t0)) 1 (some a_t1)) 2 (some a_t2)) 3 (some a_t3))))))), (a_t0, .inr (8, [.ref a_n0, .int 0, .int (-1)])), (a_t1, .inr (8, [.ref a_n1, .int 0, .int (-1)])), (a_t2, .inr (8, [.ref a_n2, .int 0, .int (-1)])), (a_t3, .inr (8, [.ref a_n3, .int 0, .int (-1)]))] := hD
  refine W.widen (k := 0) (n := 0) (Nat.le_of_ble_eq_true rfl) (Nat.le_of_ble_eq_true rfl) ?_
  refine lv_if_ne (tgt := 10) hx hb dX11_climb_4 (by decide) (fun c_2 => ?_) (fun c_2 => ?_)
  · skip
    have tc_2 := F_isTray_1 c_2
    by_cases c_3 : i_0 = 0
    · skip
      subst c_3
      have zc_3 : (0 : Int32).toInt = 0 := by decide
      refine lv_aload_n hx hb dX11_climb_10 rfl (lv_at hl 0 rfl) ?_
      refine va_get (D := D) (ci := 11) (v := .ref a_tr) (C := RX11) (T := TX11) (N := 20) hx hb hts uX11 hown hkb.1 hP 0 rfl rfl 11 (by decide) (hts _ kw_371) (fun _ h9 => h9) rfl dX11_climb_11 ?_
      refine lv_iload_n hx hb dX11_climb_14 rfl (lv_at hl 1 rfl) ?_
      refine va_aldq hx hb hkb.1 hP 1 6 rfl rfl (in_c (by decide +kernel)) dX11_climb_15 ?_
      refine lv_topcv (y := .ref a_t0) (by rfl) ?_
      refine lv_astore_n (lv' := [(2, .ref a_t0), (0, .ref h0), (1, .int 0)]) hx hb dX11_climb_16 rfl hl (by decide) rfl (fun ls hl => ?_)
      refine lv_aload_n hx hb dX11_climb_17 rfl (lv_at hl 0 rfl) ?_
      have hPc := hP.sub (ws' := [(a_t0, .inr (8, [.ref a_n0, .int 0, .int (-1)]))]) [2] rfl
      have hDc := hD.sub (ws' := [(a_t0, .inr (8, [.ref a_n0, .int 0, .int (-1)]))]) [2] (by decide) rfl
      refine k_i (wc := [(a_t0, .inr (8, [.ref a_n0, .int 0, .int (-1)]))]) (wr := [(h0, .inr (11, [.ref a_tp, .int 0, .ref a_rd, .ref a_wl, .ref a_st, .ref a_bf, .ref a_ps, .int 0, .int 0, .ref a_iw, .ref a_is, .ref a_tr, .ref a_rw, .ref a_or, .ref a_wy, .ref a_ct, .ref a_ch, .ref a_tn, .ref a_bt, .int (-1)])), (a_tr, .inl (cT, 4, .inr (.inr (.inr (.inr (va_up (va_up (va_up (va_up (fun _ => none) 0 (some a_t0)) 1 (some a_t1)) 2 (some a_t2)) 3 (some a_t3))))))), (a_t1, .inr (8, [.ref a_n1, .int 0, .int (-1)])), (a_t2, .inr (8, [.ref a_n2, .int 0, .int (-1)])), (a_t3, .inr (8, [.ref a_n3, .int 0, .int (-1)]))]) hP hD hS hA [2] [0, 1, 3, 4, 5] rfl rfl rfl (by decide) (r_V (n := 0) (As := []) (ci := 8) (q0 := 0) hx hb hml hown hts hkb hPc hDc (c_isMissing l D cB cI cJ cZ cS cW cT cR a_t0 a_n0) kw_874 kw_875 kw_876 kw_12 kw_877 (by decide +kernel) ⟨Nat.le_of_ble_eq_true rfl, Nat.le_of_ble_eq_true rfl⟩ rfl rfl rfl rfl hl.1 (Nat.le_of_ble_eq_true rfl) dX11_climb_18 ⟨Nat.le_of_ble_eq_true rfl, Nat.le_of_ble_eq_true rfl⟩) (fun r_4 u H locs hw hP hD hS => ?_)
      obtain ⟨rfl, rfl⟩ := hw
      have hP : va_P D cls [(h0, .inr (11, [.ref a_tp, .int 0, .ref a_rd, .ref a_wl, .ref a_st, .ref a_bf, .ref a_ps, .int 0, .int 0, .ref a_iw, .ref a_is, .ref a_tr, .ref a_rw, .ref a_or, .ref a_wy, .ref a_ct, .ref a_ch, .ref a_tn, .ref a_bt, .int (-1)])), (a_tr, .inl (cT, 4, .inr (.inr (.inr (.inr (va_up (va_up (va_up (va_up (fun _ => none) 0 (some a_t0)) 1 (some a_t1)) 2 (some a_t2)) 3 (some a_t3))))))), (a_t1, .inr (8, [.ref a_n1, .int 0, .int (-1)])), (a_t2, .inr (8, [.ref a_n2, .int 0, .int (-1)])), (a_t3, .inr (8, [.ref a_n3, .int 0, .int (-1)])), (a_t0, .inr (8, [.ref a_n0, .int 0, .int (-1)]))] H := hP
      have hD : va_D A [(h0, .inr (11, [.ref a_tp, .int 0, .ref a_rd, .ref a_wl, .ref a_st, .ref a_bf, .ref a_ps, .int 0, .int 0, .ref a_iw, .ref a_is, .ref a_tr, .ref a_rw, .ref a_or, .ref a_wy, .ref a_ct, .ref a_ch, .ref a_tn, .ref a_bt, .int (-1)])), (a_tr, .inl (cT, 4, .inr (.inr (.inr (.inr (va_up (va_up (va_up (va_up (fun _ => none) 0 (some a_t0)) 1 (some a_t1)) 2 (some a_t2)) 3 (some a_t3))))))), (a_t1, .inr (8, [.ref a_n1, .int 0, .int (-1)])), (a_t2, .inr (8, [.ref a_n2, .int 0, .int (-1)])), (a_t3, .inr (8, [.ref a_n3, .int 0, .int (-1)])), (a_t0, .inr (8, [.ref a_n0, .int 0, .int (-1)]))] := hD
      refine W.widen (k := 0) (n := 0) (Nat.le_of_ble_eq_true rfl) (Nat.le_of_ble_eq_true rfl) ?_
      refine lv_if_eq (tgt := 27) hx hb dX11_climb_21 (by decide) (fun c_5 => absurd c_5 (by decide)) (fun _ => ?_)
      refine lv_bipush (v := (-6)) hx hb dX11_climb_24 (by decide) ?_
      refine W.widen (k := 0) (n := 0) (Nat.le_of_ble_eq_true rfl) (Nat.le_of_ble_eq_true rfl) ?_
      exact e_i (u := []) hx hb hr hlocks (hP.sub (ws' := []) [] rfl) (hD.sub (ws' := []) [] (by decide) rfl) hS ⟨(by unfold F_tray; (repeat' split) <;> first | rfl | (exfalso; omega)), rfl⟩ dX11_climb_26
    have tc_3 := f_ne (k := 0) (by decide) c_3
    by_cases c_6 : i_0 = 1
    · skip
      subst c_6
      have zc_6 : (1 : Int32).toInt = 1 := by decide
      refine lv_aload_n hx hb dX11_climb_10 rfl (lv_at hl 0 rfl) ?_
      refine va_get (D := D) (ci := 11) (v := .ref a_tr) (C := RX11) (T := TX11) (N := 20) hx hb hts uX11 hown hkb.1 hP 0 rfl rfl 11 (by decide) (hts _ kw_371) (fun _ h9 => h9) rfl dX11_climb_11 ?_
      refine lv_iload_n hx hb dX11_climb_14 rfl (lv_at hl 1 rfl) ?_
      refine va_aldq hx hb hkb.1 hP 1 6 rfl rfl (in_c (by decide +kernel)) dX11_climb_15 ?_
      refine lv_topcv (y := .ref a_t1) (by rfl) ?_
      refine lv_astore_n (lv' := [(2, .ref a_t1), (0, .ref h0), (1, .int 1)]) hx hb dX11_climb_16 rfl hl (by decide) rfl (fun ls hl => ?_)
      refine lv_aload_n hx hb dX11_climb_17 rfl (lv_at hl 0 rfl) ?_
      have hPc := hP.sub (ws' := [(a_t1, .inr (8, [.ref a_n1, .int 0, .int (-1)]))]) [3] rfl
      have hDc := hD.sub (ws' := [(a_t1, .inr (8, [.ref a_n1, .int 0, .int (-1)]))]) [3] (by decide) rfl
      refine k_i (wc := [(a_t1, .inr (8, [.ref a_n1, .int 0, .int (-1)]))]) (wr := [(h0, .inr (11, [.ref a_tp, .int 0, .ref a_rd, .ref a_wl, .ref a_st, .ref a_bf, .ref a_ps, .int 0, .int 0, .ref a_iw, .ref a_is, .ref a_tr, .ref a_rw, .ref a_or, .ref a_wy, .ref a_ct, .ref a_ch, .ref a_tn, .ref a_bt, .int (-1)])), (a_tr, .inl (cT, 4, .inr (.inr (.inr (.inr (va_up (va_up (va_up (va_up (fun _ => none) 0 (some a_t0)) 1 (some a_t1)) 2 (some a_t2)) 3 (some a_t3))))))), (a_t0, .inr (8, [.ref a_n0, .int 0, .int (-1)])), (a_t2, .inr (8, [.ref a_n2, .int 0, .int (-1)])), (a_t3, .inr (8, [.ref a_n3, .int 0, .int (-1)]))]) hP hD hS hA [3] [0, 1, 2, 4, 5] rfl rfl rfl (by decide) (r_V (n := 0) (As := []) (ci := 8) (q0 := 0) hx hb hml hown hts hkb hPc hDc (c_isMissing l D cB cI cJ cZ cS cW cT cR a_t1 a_n1) kw_874 kw_875 kw_876 kw_12 kw_877 (by decide +kernel) ⟨Nat.le_of_ble_eq_true rfl, Nat.le_of_ble_eq_true rfl⟩ rfl rfl rfl rfl hl.1 (Nat.le_of_ble_eq_true rfl) dX11_climb_18 ⟨Nat.le_of_ble_eq_true rfl, Nat.le_of_ble_eq_true rfl⟩) (fun r_7 u H locs hw hP hD hS => ?_)
      obtain ⟨rfl, rfl⟩ := hw
      have hP : va_P D cls [(h0, .inr (11, [.ref a_tp, .int 0, .ref a_rd, .ref a_wl, .ref a_st, .ref a_bf, .ref a_ps, .int 0, .int 0, .ref a_iw, .ref a_is, .ref a_tr, .ref a_rw, .ref a_or, .ref a_wy, .ref a_ct, .ref a_ch, .ref a_tn, .ref a_bt, .int (-1)])), (a_tr, .inl (cT, 4, .inr (.inr (.inr (.inr (va_up (va_up (va_up (va_up (fun _ => none) 0 (some a_t0)) 1 (some a_t1)) 2 (some a_t2)) 3 (some a_t3))))))), (a_t0, .inr (8, [.ref a_n0, .int 0, .int (-1)])), (a_t2, .inr (8, [.ref a_n2, .int 0, .int (-1)])), (a_t3, .inr (8, [.ref a_n3, .int 0, .int (-1)])), (a_t1, .inr (8, [.ref a_n1, .int 0, .int (-1)]))] H := hP
      have hD : va_D A [(h0, .inr (11, [.ref a_tp, .int 0, .ref a_rd, .ref a_wl, .ref a_st, .ref a_bf, .ref a_ps, .int 0, .int 0, .ref a_iw, .ref a_is, .ref a_tr, .ref a_rw, .ref a_or, .ref a_wy, .ref a_ct, .ref a_ch, .ref a_tn, .ref a_bt, .int (-1)])), (a_tr, .inl (cT, 4, .inr (.inr (.inr (.inr (va_up (va_up (va_up (va_up (fun _ => none) 0 (some a_t0)) 1 (some a_t1)) 2 (some a_t2)) 3 (some a_t3))))))), (a_t0, .inr (8, [.ref a_n0, .int 0, .int (-1)])), (a_t2, .inr (8, [.ref a_n2, .int 0, .int (-1)])), (a_t3, .inr (8, [.ref a_n3, .int 0, .int (-1)])), (a_t1, .inr (8, [.ref a_n1, .int 0, .int (-1)]))] := hD
      refine W.widen (k := 0) (n := 0) (Nat.le_of_ble_eq_true rfl) (Nat.le_of_ble_eq_true rfl) ?_
      refine lv_if_eq (tgt := 27) hx hb dX11_climb_21 (by decide) (fun c_8 => absurd c_8 (by decide)) (fun _ => ?_)
      refine lv_bipush (v := (-6)) hx hb dX11_climb_24 (by decide) ?_
      refine W.widen (k := 0) (n := 0) (Nat.le_of_ble_eq_true rfl) (Nat.le_of_ble_eq_true rfl) ?_
      exact e_i (u := []) hx hb hr hlocks (hP.sub (ws' := []) [] rfl) (hD.sub (ws' := []) [] (by decide) rfl) hS ⟨(by unfold F_tray; (repeat' split) <;> first | rfl | (exfalso; omega)), rfl⟩ dX11_climb_26
    have tc_6 := f_ne (k := 1) (by decide) c_6
    by_cases c_9 : i_0 = 2
    · skip
      subst c_9
      have zc_9 : (2 : Int32).toInt = 2 := by decide
      refine lv_aload_n hx hb dX11_climb_10 rfl (lv_at hl 0 rfl) ?_
      refine va_get (D := D) (ci := 11) (v := .ref a_tr) (C := RX11) (T := TX11) (N := 20) hx hb hts uX11 hown hkb.1 hP 0 rfl rfl 11 (by decide) (hts _ kw_371) (fun _ h9 => h9) rfl dX11_climb_11 ?_
      refine lv_iload_n hx hb dX11_climb_14 rfl (lv_at hl 1 rfl) ?_
      refine va_aldq hx hb hkb.1 hP 1 6 rfl rfl (in_c (by decide +kernel)) dX11_climb_15 ?_
      refine lv_topcv (y := .ref a_t2) (by rfl) ?_
      refine lv_astore_n (lv' := [(2, .ref a_t2), (0, .ref h0), (1, .int 2)]) hx hb dX11_climb_16 rfl hl (by decide) rfl (fun ls hl => ?_)
      refine lv_aload_n hx hb dX11_climb_17 rfl (lv_at hl 0 rfl) ?_
      have hPc := hP.sub (ws' := [(a_t2, .inr (8, [.ref a_n2, .int 0, .int (-1)]))]) [4] rfl
      have hDc := hD.sub (ws' := [(a_t2, .inr (8, [.ref a_n2, .int 0, .int (-1)]))]) [4] (by decide) rfl
      refine k_i (wc := [(a_t2, .inr (8, [.ref a_n2, .int 0, .int (-1)]))]) (wr := [(h0, .inr (11, [.ref a_tp, .int 0, .ref a_rd, .ref a_wl, .ref a_st, .ref a_bf, .ref a_ps, .int 0, .int 0, .ref a_iw, .ref a_is, .ref a_tr, .ref a_rw, .ref a_or, .ref a_wy, .ref a_ct, .ref a_ch, .ref a_tn, .ref a_bt, .int (-1)])), (a_tr, .inl (cT, 4, .inr (.inr (.inr (.inr (va_up (va_up (va_up (va_up (fun _ => none) 0 (some a_t0)) 1 (some a_t1)) 2 (some a_t2)) 3 (some a_t3))))))), (a_t0, .inr (8, [.ref a_n0, .int 0, .int (-1)])), (a_t1, .inr (8, [.ref a_n1, .int 0, .int (-1)])), (a_t3, .inr (8, [.ref a_n3, .int 0, .int (-1)]))]) hP hD hS hA [4] [0, 1, 2, 3, 5] rfl rfl rfl (by decide) (r_V (n := 0) (As := []) (ci := 8) (q0 := 0) hx hb hml hown hts hkb hPc hDc (c_isMissing l D cB cI cJ cZ cS cW cT cR a_t2 a_n2) kw_874 kw_875 kw_876 kw_12 kw_877 (by decide +kernel) ⟨Nat.le_of_ble_eq_true rfl, Nat.le_of_ble_eq_true rfl⟩ rfl rfl rfl rfl hl.1 (Nat.le_of_ble_eq_true rfl) dX11_climb_18 ⟨Nat.le_of_ble_eq_true rfl, Nat.le_of_ble_eq_true rfl⟩) (fun r_10 u H locs hw hP hD hS => ?_)
      obtain ⟨rfl, rfl⟩ := hw
      have hP : va_P D cls [(h0, .inr (11, [.ref a_tp, .int 0, .ref a_rd, .ref a_wl, .ref a_st, .ref a_bf, .ref a_ps, .int 0, .int 0, .ref a_iw, .ref a_is, .ref a_tr, .ref a_rw, .ref a_or, .ref a_wy, .ref a_ct, .ref a_ch, .ref a_tn, .ref a_bt, .int (-1)])), (a_tr, .inl (cT, 4, .inr (.inr (.inr (.inr (va_up (va_up (va_up (va_up (fun _ => none) 0 (some a_t0)) 1 (some a_t1)) 2 (some a_t2)) 3 (some a_t3))))))), (a_t0, .inr (8, [.ref a_n0, .int 0, .int (-1)])), (a_t1, .inr (8, [.ref a_n1, .int 0, .int (-1)])), (a_t3, .inr (8, [.ref a_n3, .int 0, .int (-1)])), (a_t2, .inr (8, [.ref a_n2, .int 0, .int (-1)]))] H := hP
      have hD : va_D A [(h0, .inr (11, [.ref a_tp, .int 0, .ref a_rd, .ref a_wl, .ref a_st, .ref a_bf, .ref a_ps, .int 0, .int 0, .ref a_iw, .ref a_is, .ref a_tr, .ref a_rw, .ref a_or, .ref a_wy, .ref a_ct, .ref a_ch, .ref a_tn, .ref a_bt, .int (-1)])), (a_tr, .inl (cT, 4, .inr (.inr (.inr (.inr (va_up (va_up (va_up (va_up (fun _ => none) 0 (some a_t0)) 1 (some a_t1)) 2 (some a_t2)) 3 (some a_t3))))))), (a_t0, .inr (8, [.ref a_n0, .int 0, .int (-1)])), (a_t1, .inr (8, [.ref a_n1, .int 0, .int (-1)])), (a_t3, .inr (8, [.ref a_n3, .int 0, .int (-1)])), (a_t2, .inr (8, [.ref a_n2, .int 0, .int (-1)]))] := hD
      refine W.widen (k := 0) (n := 0) (Nat.le_of_ble_eq_true rfl) (Nat.le_of_ble_eq_true rfl) ?_
      refine lv_if_eq (tgt := 27) hx hb dX11_climb_21 (by decide) (fun c_11 => absurd c_11 (by decide)) (fun _ => ?_)
      refine lv_bipush (v := (-6)) hx hb dX11_climb_24 (by decide) ?_
      refine W.widen (k := 0) (n := 0) (Nat.le_of_ble_eq_true rfl) (Nat.le_of_ble_eq_true rfl) ?_
      exact e_i (u := []) hx hb hr hlocks (hP.sub (ws' := []) [] rfl) (hD.sub (ws' := []) [] (by decide) rfl) hS ⟨(by unfold F_tray; (repeat' split) <;> first | rfl | (exfalso; omega)), rfl⟩ dX11_climb_26
    have tc_9 := f_ne (k := 2) (by decide) c_9
    by_cases c_12 : i_0 = 3
    · skip
      subst c_12
      have zc_12 : (3 : Int32).toInt = 3 := by decide
      refine lv_aload_n hx hb dX11_climb_10 rfl (lv_at hl 0 rfl) ?_
      refine va_get (D := D) (ci := 11) (v := .ref a_tr) (C := RX11) (T := TX11) (N := 20) hx hb hts uX11 hown hkb.1 hP 0 rfl rfl 11 (by decide) (hts _ kw_371) (fun _ h9 => h9) rfl dX11_climb_11 ?_
      refine lv_iload_n hx hb dX11_climb_14 rfl (lv_at hl 1 rfl) ?_
      refine va_aldq hx hb hkb.1 hP 1 6 rfl rfl (in_c (by decide +kernel)) dX11_climb_15 ?_
      refine lv_topcv (y := .ref a_t3) (by rfl) ?_
      refine lv_astore_n (lv' := [(2, .ref a_t3), (0, .ref h0), (1, .int 3)]) hx hb dX11_climb_16 rfl hl (by decide) rfl (fun ls hl => ?_)
      refine lv_aload_n hx hb dX11_climb_17 rfl (lv_at hl 0 rfl) ?_
      have hPc := hP.sub (ws' := [(a_t3, .inr (8, [.ref a_n3, .int 0, .int (-1)]))]) [5] rfl
      have hDc := hD.sub (ws' := [(a_t3, .inr (8, [.ref a_n3, .int 0, .int (-1)]))]) [5] (by decide) rfl
      refine k_i (wc := [(a_t3, .inr (8, [.ref a_n3, .int 0, .int (-1)]))]) (wr := [(h0, .inr (11, [.ref a_tp, .int 0, .ref a_rd, .ref a_wl, .ref a_st, .ref a_bf, .ref a_ps, .int 0, .int 0, .ref a_iw, .ref a_is, .ref a_tr, .ref a_rw, .ref a_or, .ref a_wy, .ref a_ct, .ref a_ch, .ref a_tn, .ref a_bt, .int (-1)])), (a_tr, .inl (cT, 4, .inr (.inr (.inr (.inr (va_up (va_up (va_up (va_up (fun _ => none) 0 (some a_t0)) 1 (some a_t1)) 2 (some a_t2)) 3 (some a_t3))))))), (a_t0, .inr (8, [.ref a_n0, .int 0, .int (-1)])), (a_t1, .inr (8, [.ref a_n1, .int 0, .int (-1)])), (a_t2, .inr (8, [.ref a_n2, .int 0, .int (-1)]))]) hP hD hS hA [5] [0, 1, 2, 3, 4] rfl rfl rfl (by decide) (r_V (n := 0) (As := []) (ci := 8) (q0 := 0) hx hb hml hown hts hkb hPc hDc (c_isMissing l D cB cI cJ cZ cS cW cT cR a_t3 a_n3) kw_874 kw_875 kw_876 kw_12 kw_877 (by decide +kernel) ⟨Nat.le_of_ble_eq_true rfl, Nat.le_of_ble_eq_true rfl⟩ rfl rfl rfl rfl hl.1 (Nat.le_of_ble_eq_true rfl) dX11_climb_18 ⟨Nat.le_of_ble_eq_true rfl, Nat.le_of_ble_eq_true rfl⟩) (fun r_13 u H locs hw hP hD hS => ?_)
      obtain ⟨rfl, rfl⟩ := hw
      have hP : va_P D cls [(h0, .inr (11, [.ref a_tp, .int 0, .ref a_rd, .ref a_wl, .ref a_st, .ref a_bf, .ref a_ps, .int 0, .int 0, .ref a_iw, .ref a_is, .ref a_tr, .ref a_rw, .ref a_or, .ref a_wy, .ref a_ct, .ref a_ch, .ref a_tn, .ref a_bt, .int (-1)])), (a_tr, .inl (cT, 4, .inr (.inr (.inr (.inr (va_up (va_up (va_up (va_up (fun _ => none) 0 (some a_t0)) 1 (some a_t1)) 2 (some a_t2)) 3 (some a_t3))))))), (a_t0, .inr (8, [.ref a_n0, .int 0, .int (-1)])), (a_t1, .inr (8, [.ref a_n1, .int 0, .int (-1)])), (a_t2, .inr (8, [.ref a_n2, .int 0, .int (-1)])), (a_t3, .inr (8, [.ref a_n3, .int 0, .int (-1)]))] H := hP
      have hD : va_D A [(h0, .inr (11, [.ref a_tp, .int 0, .ref a_rd, .ref a_wl, .ref a_st, .ref a_bf, .ref a_ps, .int 0, .int 0, .ref a_iw, .ref a_is, .ref a_tr, .ref a_rw, .ref a_or, .ref a_wy, .ref a_ct, .ref a_ch, .ref a_tn, .ref a_bt, .int (-1)])), (a_tr, .inl (cT, 4, .inr (.inr (.inr (.inr (va_up (va_up (va_up (va_up (fun _ => none) 0 (some a_t0)) 1 (some a_t1)) 2 (some a_t2)) 3 (some a_t3))))))), (a_t0, .inr (8, [.ref a_n0, .int 0, .int (-1)])), (a_t1, .inr (8, [.ref a_n1, .int 0, .int (-1)])), (a_t2, .inr (8, [.ref a_n2, .int 0, .int (-1)])), (a_t3, .inr (8, [.ref a_n3, .int 0, .int (-1)]))] := hD
      refine W.widen (k := 0) (n := 0) (Nat.le_of_ble_eq_true rfl) (Nat.le_of_ble_eq_true rfl) ?_
      refine lv_if_eq (tgt := 27) hx hb dX11_climb_21 (by decide) (fun c_14 => absurd c_14 (by decide)) (fun _ => ?_)
      refine lv_bipush (v := (-6)) hx hb dX11_climb_24 (by decide) ?_
      refine W.widen (k := 0) (n := 0) (Nat.le_of_ble_eq_true rfl) (Nat.le_of_ble_eq_true rfl) ?_
      exact e_i (u := []) hx hb hr hlocks (hP.sub (ws' := []) [] rfl) (hD.sub (ws' := []) [] (by decide) rfl) hS ⟨(by unfold F_tray; (repeat' split) <;> first | rfl | (exfalso; omega)), rfl⟩ dX11_climb_26
    have tc_12 := f_ne (k := 3) (by decide) c_12
    exfalso; omega
  · skip
    have tc_2 := F_isTray_0 c_2
    refine lv_bipush (v := (-2)) hx hb dX11_climb_7 (by decide) ?_
    refine W.widen (k := 0) (n := 0) (Nat.le_of_ble_eq_true rfl) (Nat.le_of_ble_eq_true rfl) ?_
    exact e_i (u := []) hx hb hr hlocks (hP.sub (ws' := []) [] rfl) (hD.sub (ws' := []) [] (by decide) rfl) hS ⟨(by unfold F_tray; (repeat' split) <;> first | rfl | (exfalso; omega)), rfl⟩ dX11_climb_9
set_option maxHeartbeats 4000000 in
set_option maxRecDepth 100000 in
theorem x_numbers (l : Launch) (D : va_G) (cB cI cJ cZ cS cW cT cR : ClassId) (h0 : Nat) (a_tr : Nat) (a_t0 : Nat) (a_t1 : Nat) (a_t2 : Nat) (a_t3 : Nat) (a_n0 : Nat) (a_n1 : Nat) (a_n2 : Nat) (a_n3 : Nat) (i_0 : Int32) (i_1 : Int32) (i_2 : Int32) (a_tp : Nat) (a_rd : Nat) (a_wl : Nat) (a_st : Nat) (a_bf : Nat) (a_ps : Nat) (a_iw : Nat) (a_is : Nat) (a_rw : Nat) (a_or : Nat) (a_wy : Nat) (a_ct : Nat) (a_ch : Nat) (a_tn : Nat) (a_bt : Nat) (g_n0 : Nat → Int64) (g_n1 : Nat → Int64) (g_n2 : Nat → Int64) (g_n3 : Nat → Int64) : Kon l D (tyl cB cI cJ cZ cS cW cT cR) yX11_numbers cX11_numbers 4 (some (.int)) { frames := 2, cells := 0, slots := 0, locals := 46 } [.ref h0, .int i_0, .int i_1, .int i_2] [(h0, .inr (11, [.ref a_tp, .int 0, .ref a_rd, .ref a_wl, .ref a_st, .ref a_bf, .ref a_ps, .int 0, .int 0, .ref a_iw, .ref a_is, .ref a_tr, .ref a_rw, .ref a_or, .ref a_wy, .ref a_ct, .ref a_ch, .ref a_tn, .ref a_bt, .int (-1)])), (a_tr, .inl (cT, 4, .inr (.inr (.inr (.inr (va_up (va_up (va_up (va_up (fun _ => none) 0 (some a_t0)) 1 (some a_t1)) 2 (some a_t2)) 3 (some a_t3))))))), (a_t0, .inr (8, [.ref a_n0, .int 0, .int (-1)])), (a_t1, .inr (8, [.ref a_n1, .int 0, .int (-1)])), (a_t2, .inr (8, [.ref a_n2, .int 0, .int (-1)])), (a_t3, .inr (8, [.ref a_n3, .int 0, .int (-1)])), (a_n0, .inl (cJ, 40, .inr (.inl g_n0))), (a_n1, .inl (cJ, 40, .inr (.inl g_n1))), (a_n2, .inl (cJ, 40, .inr (.inl g_n2))), (a_n3, .inl (cJ, 40, .inr (.inl g_n3)))] (Qi D (fun r u => r = F_numbers i_0 i_1 i_2 ∧ u = [])) := by
  refine kon_of (by decide) (Nat.le_of_ble_eq_true rfl) (fun p e s m below meth c ls A hx hb hr hml hown hts hlocks hnm hkb hP hD hS hA hl => ?_)
  have hown : s.vm.findClass RX11 = some m.cls := hown
  have hl : lv_has ls 4 [(0, .ref h0), (1, .int i_0), (2, .int i_1), (3, .int i_2)] := hl
  have hP : va_P D cls [(h0, .inr (11, [.ref a_tp, .int 0, .ref a_rd, .ref a_wl, .ref a_st, .ref a_bf, .ref a_ps, .int 0, .int 0, .ref a_iw, .ref a_is, .ref a_tr, .ref a_rw, .ref a_or, .ref a_wy, .ref a_ct, .ref a_ch, .ref a_tn, .ref a_bt, .int (-1)])), (a_tr, .inl (cT, 4, .inr (.inr (.inr (.inr (va_up (va_up (va_up (va_up (fun _ => none) 0 (some a_t0)) 1 (some a_t1)) 2 (some a_t2)) 3 (some a_t3))))))), (a_t0, .inr (8, [.ref a_n0, .int 0, .int (-1)])), (a_t1, .inr (8, [.ref a_n1, .int 0, .int (-1)])), (a_t2, .inr (8, [.ref a_n2, .int 0, .int (-1)])), (a_t3, .inr (8, [.ref a_n3, .int 0, .int (-1)])), (a_n0, .inl (cJ, 40, .inr (.inl g_n0))), (a_n1, .inl (cJ, 40, .inr (.inl g_n1))), (a_n2, .inl (cJ, 40, .inr (.inl g_n2))), (a_n3, .inl (cJ, 40, .inr (.inl g_n3)))] s.heap := hP
  refine lv_iload_n hx hb dX11_numbers_0 rfl (lv_at hl 1 rfl) ?_
  have hPc := hP.sub (ws' := []) [] rfl
  have hDc := hD.sub (ws' := []) [] (by decide) rfl
  refine k_i (wc := []) (wr := [(h0, .inr (11, [.ref a_tp, .int 0, .ref a_rd, .ref a_wl, .ref a_st, .ref a_bf, .ref a_ps, .int 0, .int 0, .ref a_iw, .ref a_is, .ref a_tr, .ref a_rw, .ref a_or, .ref a_wy, .ref a_ct, .ref a_ch, .ref a_tn, .ref a_bt, .int (-1)])), (a_tr, .inl (cT, 4, .inr (.inr (.inr (.inr (va_up (va_up (va_up (va_up (fun _ => none) 0 (some a_t0)) 1 (some a_t1)) 2 (some a_t2)) 3 (some a_t3))))))), (a_t0, .inr (8, [.ref a_n0, .int 0, .int (-1)])), (a_t1, .inr (8, [.ref a_n1, .int 0, .int (-1)])), (a_t2, .inr (8, [.ref a_n2, .int 0, .int (-1)])), (a_t3, .inr (8, [.ref a_n3, .int 0, .int (-1)])), (a_n0, .inl (cJ, 40, .inr (.inl g_n0))), (a_n1, .inl (cJ, 40, .inr (.inl g_n1))), (a_n2, .inl (cJ, 40, .inr (.inl g_n2))), (a_n3, .inl (cJ, 40, .inr (.inl g_n3)))]) hP hD hS hA [] [0, 1, 2, 3, 4, 5, 6, 7, 8, 9] rfl rfl rfl (by decide) (r_S (n := 1) (As := [.int i_0]) hx hb hml hown hts hkb hPc hDc (c_isTray l D cB cI cJ cZ cS cW cT cR i_0) kw_871 kw_872 kw_1 kw_873 (by decide +kernel) ⟨Nat.le_of_ble_eq_true rfl, Nat.le_of_ble_eq_true rfl⟩ rfl rfl hl.1 (Nat.le_of_ble_eq_true rfl) dX11_numbers_1 ⟨Nat.le_of_ble_eq_true rfl, Nat.le_of_ble_eq_true rfl⟩) (fun r_1 u H locs hw hP hD hS => ?_)
  obtain ⟨rfl, rfl⟩ := hw
  have hP : va_P D cls [(h0, .inr (11, [.ref a_tp, .int 0, .ref a_rd, .ref a_wl, .ref a_st, .ref a_bf, .ref a_ps, .int 0, .int 0, .ref a_iw, .ref a_is, .ref a_tr, .ref a_rw, .ref a_or, .ref a_wy, .ref a_ct, .ref a_ch, .ref a_tn, .ref a_bt, .int (-1)])), (a_tr, .inl (cT, 4, .inr (.inr (.inr (.inr (va_up (va_up (va_up (va_up (fun _ => none) 0 (some a_t0)) 1 (some a_t1)) 2 (some a_t2)) 3 (some a_t3))))))), (a_t0, .inr (8, [.ref a_n0, .int 0, .int (-1)])), (a_t1, .inr (8, [.ref a_n1, .int 0, .int (-1)])), (a_t2, .inr (8, [.ref a_n2, .int 0, .int (-1)])), (a_t3, .inr (8, [.ref a_n3, .int 0, .int (-1)])), (a_n0, .inl (cJ, 40, .inr (.inl g_n0))), (a_n1, .inl (cJ, 40, .inr (.inl g_n1))), (a_n2, .inl (cJ, 40, .inr (.inl g_n2))), (a_n3, .inl (cJ, 40, .inr (.inl g_n3)))] H := hP
  have hD : va_D A [(h0, .inr (11, [.ref a_tp, .int 0, .ref a_rd, .ref a_wl, .ref a_st, .ref a_bf, .ref a_ps, .int 0, .int 0, .ref a_iw, .ref a_is, .ref a_tr, .ref a_rw, .ref a_or, .ref a_wy, .ref a_ct, .ref a_ch, .ref a_tn, .ref a_bt, .int (-1)])), (a_tr, .inl (cT, 4, .inr (.inr (.inr (.inr (va_up (va_up (va_up (va_up (fun _ => none) 0 (some a_t0)) 1 (some a_t1)) 2 (some a_t2)) 3 (some a_t3))))))), (a_t0, .inr (8, [.ref a_n0, .int 0, .int (-1)])), (a_t1, .inr (8, [.ref a_n1, .int 0, .int (-1)])), (a_t2, .inr (8, [.ref a_n2, .int 0, .int (-1)])), (a_t3, .inr (8, [.ref a_n3, .int 0, .int (-1)])), (a_n0, .inl (cJ, 40, .inr (.inl g_n0))), (a_n1, .inl (cJ, 40, .inr (.inl g_n1))), (a_n2, .inl (cJ, 40, .inr (.inl g_n2))), (a_n3, .inl (cJ, 40, .inr (.inl g_n3)))] := hD
  refine W.widen (k := 0) (n := 0) (Nat.le_of_ble_eq_true rfl) (Nat.le_of_ble_eq_true rfl) ?_
  refine lv_if_eq (tgt := 16) hx hb dX11_numbers_4 (by decide) (fun c_2 => ?_) (fun c_2 => ?_)
  · skip
    have tc_2 := F_isTray_0 c_2
    refine lv_bipush (v := (-2)) hx hb dX11_numbers_16 (by decide) ?_
    refine W.widen (k := 0) (n := 0) (Nat.le_of_ble_eq_true rfl) (Nat.le_of_ble_eq_true rfl) ?_
    exact e_i (u := []) hx hb hr hlocks (hP.sub (ws' := []) [] rfl) (hD.sub (ws' := []) [] (by decide) rfl) hS ⟨(by unfold F_numbers; (repeat' split) <;> first | rfl | (exfalso; omega)), rfl⟩ dX11_numbers_18
  · skip
    have tc_2 := F_isTray_1 c_2
    refine lv_iload_n hx hb dX11_numbers_7 rfl (lv_at hl 2 rfl) ?_
    refine lv_if_lt (tgt := 16) hx hb dX11_numbers_8 (by decide) (fun c_3 => ?_) (fun c_3 => ?_)
    · skip
      have tc_3 := f_lt (k := 0) (by decide) c_3
      refine lv_bipush (v := (-2)) hx hb dX11_numbers_16 (by decide) ?_
      refine W.widen (k := 0) (n := 0) (Nat.le_of_ble_eq_true rfl) (Nat.le_of_ble_eq_true rfl) ?_
      exact e_i (u := []) hx hb hr hlocks (hP.sub (ws' := []) [] rfl) (hD.sub (ws' := []) [] (by decide) rfl) hS ⟨(by unfold F_numbers; (repeat' split) <;> first | rfl | (exfalso; omega)), rfl⟩ dX11_numbers_18
    · skip
      have tc_3 := f_nlt (k := 0) (by decide) c_3
      refine lv_iload_n hx hb dX11_numbers_11 rfl (lv_at hl 2 rfl) ?_
      refine lv_iconst (v := 3) hx hb dX11_numbers_12 (by decide) ?_
      refine lv_icmp_le (tgt := 19) hx hb dX11_numbers_13 (by decide) (fun c_4 => ?_) (fun c_4 => ?_)
      · skip
        have tc_4 := f_le (k := 3) (by decide) c_4
        refine lv_iload_n hx hb dX11_numbers_19 rfl (lv_at hl 3 rfl) ?_
        refine lv_if_lt (tgt := 29) hx hb dX11_numbers_20 (by decide) (fun c_5 => ?_) (fun c_5 => ?_)
        · skip
          have tc_5 := f_lt (k := 0) (by decide) c_5
          refine lv_bipush (v := (-3)) hx hb dX11_numbers_29 (by decide) ?_
          refine W.widen (k := 0) (n := 0) (Nat.le_of_ble_eq_true rfl) (Nat.le_of_ble_eq_true rfl) ?_
          exact e_i (u := []) hx hb hr hlocks (hP.sub (ws' := []) [] rfl) (hD.sub (ws' := []) [] (by decide) rfl) hS ⟨(by unfold F_numbers; (repeat' split) <;> first | rfl | (exfalso; omega)), rfl⟩ dX11_numbers_31
        · skip
          have tc_5 := f_nlt (k := 0) (by decide) c_5
          refine lv_iload_n hx hb dX11_numbers_23 rfl (lv_at hl 3 rfl) ?_
          refine lv_bipush (v := 40) hx hb dX11_numbers_24 (by decide) ?_
          refine lv_icmp_le (tgt := 32) hx hb dX11_numbers_26 (by decide) (fun c_6 => ?_) (fun c_6 => ?_)
          · skip
            have tc_6 := f_le (k := 40) (by decide) c_6
            by_cases c_7 : i_0 = 0
            · skip
              subst c_7
              have zc_7 : (0 : Int32).toInt = 0 := by decide
              refine lv_aload_n hx hb dX11_numbers_32 rfl (lv_at hl 0 rfl) ?_
              refine va_get (D := D) (ci := 11) (v := .ref a_tr) (C := RX11) (T := TX11) (N := 20) hx hb hts uX11 hown hkb.1 hP 0 rfl rfl 11 (by decide) (hts _ kw_371) (fun _ h9 => h9) rfl dX11_numbers_33 ?_
              refine lv_iload_n hx hb dX11_numbers_36 rfl (lv_at hl 1 rfl) ?_
              refine va_aldq hx hb hkb.1 hP 1 6 rfl rfl (in_c (by decide +kernel)) dX11_numbers_37 ?_
              refine lv_topcv (y := .ref a_t0) (by rfl) ?_
              refine lv_iload_n hx hb dX11_numbers_38 rfl (lv_at hl 2 rfl) ?_
              refine lv_iload_n hx hb dX11_numbers_39 rfl (lv_at hl 3 rfl) ?_
              have hPc := hP.sub (ws' := [(a_t0, .inr (8, [.ref a_n0, .int 0, .int (-1)])), (a_n0, .inl (cJ, 40, .inr (.inl g_n0)))]) [2, 6] rfl
              have hDc := hD.sub (ws' := [(a_t0, .inr (8, [.ref a_n0, .int 0, .int (-1)])), (a_n0, .inl (cJ, 40, .inr (.inl g_n0)))]) [2, 6] (by decide) rfl
              refine k_v (wc := [(a_t0, .inr (8, [.ref a_n0, .int 0, .int (-1)])), (a_n0, .inl (cJ, 40, .inr (.inl g_n0)))]) (wr := [(h0, .inr (11, [.ref a_tp, .int 0, .ref a_rd, .ref a_wl, .ref a_st, .ref a_bf, .ref a_ps, .int 0, .int 0, .ref a_iw, .ref a_is, .ref a_tr, .ref a_rw, .ref a_or, .ref a_wy, .ref a_ct, .ref a_ch, .ref a_tn, .ref a_bt, .int (-1)])), (a_tr, .inl (cT, 4, .inr (.inr (.inr (.inr (va_up (va_up (va_up (va_up (fun _ => none) 0 (some a_t0)) 1 (some a_t1)) 2 (some a_t2)) 3 (some a_t3))))))), (a_t1, .inr (8, [.ref a_n1, .int 0, .int (-1)])), (a_t2, .inr (8, [.ref a_n2, .int 0, .int (-1)])), (a_t3, .inr (8, [.ref a_n3, .int 0, .int (-1)])), (a_n1, .inl (cJ, 40, .inr (.inl g_n1))), (a_n2, .inl (cJ, 40, .inr (.inl g_n2))), (a_n3, .inl (cJ, 40, .inr (.inl g_n3)))]) hP hD hS hA [2, 6] [0, 1, 3, 4, 5, 7, 8, 9] rfl rfl rfl (by decide) (r_V (n := 2) (As := [.int i_1, .int i_2]) (ci := 8) (q0 := 0) hx hb hml hown hts hkb hPc hDc (c_lay l D cB cI cJ cZ cS cW cT cR a_t0 a_n0 i_1 i_2 g_n0) kw_1177 kw_1178 kw_1179 kw_12 kw_1180 (by decide +kernel) ⟨Nat.le_of_ble_eq_true rfl, Nat.le_of_ble_eq_true rfl⟩ rfl rfl rfl rfl hl.1 (Nat.le_of_ble_eq_true rfl) dX11_numbers_40 ⟨Nat.le_of_ble_eq_true rfl, Nat.le_of_ble_eq_true rfl⟩) (fun u H locs hw hP hD hS => ?_)
              obtain ⟨f_8, rfl⟩ := hw
              have hP : va_P D cls [(h0, .inr (11, [.ref a_tp, .int 0, .ref a_rd, .ref a_wl, .ref a_st, .ref a_bf, .ref a_ps, .int 0, .int 0, .ref a_iw, .ref a_is, .ref a_tr, .ref a_rw, .ref a_or, .ref a_wy, .ref a_ct, .ref a_ch, .ref a_tn, .ref a_bt, .int (-1)])), (a_tr, .inl (cT, 4, .inr (.inr (.inr (.inr (va_up (va_up (va_up (va_up (fun _ => none) 0 (some a_t0)) 1 (some a_t1)) 2 (some a_t2)) 3 (some a_t3))))))), (a_t1, .inr (8, [.ref a_n1, .int 0, .int (-1)])), (a_t2, .inr (8, [.ref a_n2, .int 0, .int (-1)])), (a_t3, .inr (8, [.ref a_n3, .int 0, .int (-1)])), (a_n1, .inl (cJ, 40, .inr (.inl g_n1))), (a_n2, .inl (cJ, 40, .inr (.inl g_n2))), (a_n3, .inl (cJ, 40, .inr (.inl g_n3))), (a_t0, .inr (8, [.ref a_n0, .int i_1, .int i_2])), (a_n0, .inl (cJ, 40, .inr (.inl f_8)))] H := hP
              have hD : va_D A [(h0, .inr (11, [.ref a_tp, .int 0, .ref a_rd, .ref a_wl, .ref a_st, .ref a_bf, .ref a_ps, .int 0, .int 0, .ref a_iw, .ref a_is, .ref a_tr, .ref a_rw, .ref a_or, .ref a_wy, .ref a_ct, .ref a_ch, .ref a_tn, .ref a_bt, .int (-1)])), (a_tr, .inl (cT, 4, .inr (.inr (.inr (.inr (va_up (va_up (va_up (va_up (fun _ => none) 0 (some a_t0)) 1 (some a_t1)) 2 (some a_t2)) 3 (some a_t3))))))), (a_t1, .inr (8, [.ref a_n1, .int 0, .int (-1)])), (a_t2, .inr (8, [.ref a_n2, .int 0, .int (-1)])), (a_t3, .inr (8, [.ref a_n3, .int 0, .int (-1)])), (a_n1, .inl (cJ, 40, .inr (.inl g_n1))), (a_n2, .inl (cJ, 40, .inr (.inl g_n2))), (a_n3, .inl (cJ, 40, .inr (.inl g_n3))), (a_t0, .inr (8, [.ref a_n0, .int i_1, .int i_2])), (a_n0, .inl (cJ, 40, .inr (.inl f_8)))] := hD
              refine W.widen (k := 0) (n := 0) (Nat.le_of_ble_eq_true rfl) (Nat.le_of_ble_eq_true rfl) ?_
              refine lv_iconst (v := 0) hx hb dX11_numbers_43 (by decide) ?_
              refine W.widen (k := 0) (n := 0) (Nat.le_of_ble_eq_true rfl) (Nat.le_of_ble_eq_true rfl) ?_
              exact e_i (u := []) hx hb hr hlocks (hP.sub (ws' := []) [] rfl) (hD.sub (ws' := []) [] (by decide) rfl) hS ⟨(by unfold F_numbers; (repeat' split) <;> first | rfl | (exfalso; omega)), rfl⟩ dX11_numbers_44
            have tc_7 := f_ne (k := 0) (by decide) c_7
            by_cases c_10 : i_0 = 1
            · skip
              subst c_10
              have zc_10 : (1 : Int32).toInt = 1 := by decide
              refine lv_aload_n hx hb dX11_numbers_32 rfl (lv_at hl 0 rfl) ?_
              refine va_get (D := D) (ci := 11) (v := .ref a_tr) (C := RX11) (T := TX11) (N := 20) hx hb hts uX11 hown hkb.1 hP 0 rfl rfl 11 (by decide) (hts _ kw_371) (fun _ h9 => h9) rfl dX11_numbers_33 ?_
              refine lv_iload_n hx hb dX11_numbers_36 rfl (lv_at hl 1 rfl) ?_
              refine va_aldq hx hb hkb.1 hP 1 6 rfl rfl (in_c (by decide +kernel)) dX11_numbers_37 ?_
              refine lv_topcv (y := .ref a_t1) (by rfl) ?_
              refine lv_iload_n hx hb dX11_numbers_38 rfl (lv_at hl 2 rfl) ?_
              refine lv_iload_n hx hb dX11_numbers_39 rfl (lv_at hl 3 rfl) ?_
              have hPc := hP.sub (ws' := [(a_t1, .inr (8, [.ref a_n1, .int 0, .int (-1)])), (a_n1, .inl (cJ, 40, .inr (.inl g_n1)))]) [3, 7] rfl
              have hDc := hD.sub (ws' := [(a_t1, .inr (8, [.ref a_n1, .int 0, .int (-1)])), (a_n1, .inl (cJ, 40, .inr (.inl g_n1)))]) [3, 7] (by decide) rfl
              refine k_v (wc := [(a_t1, .inr (8, [.ref a_n1, .int 0, .int (-1)])), (a_n1, .inl (cJ, 40, .inr (.inl g_n1)))]) (wr := [(h0, .inr (11, [.ref a_tp, .int 0, .ref a_rd, .ref a_wl, .ref a_st, .ref a_bf, .ref a_ps, .int 0, .int 0, .ref a_iw, .ref a_is, .ref a_tr, .ref a_rw, .ref a_or, .ref a_wy, .ref a_ct, .ref a_ch, .ref a_tn, .ref a_bt, .int (-1)])), (a_tr, .inl (cT, 4, .inr (.inr (.inr (.inr (va_up (va_up (va_up (va_up (fun _ => none) 0 (some a_t0)) 1 (some a_t1)) 2 (some a_t2)) 3 (some a_t3))))))), (a_t0, .inr (8, [.ref a_n0, .int 0, .int (-1)])), (a_t2, .inr (8, [.ref a_n2, .int 0, .int (-1)])), (a_t3, .inr (8, [.ref a_n3, .int 0, .int (-1)])), (a_n0, .inl (cJ, 40, .inr (.inl g_n0))), (a_n2, .inl (cJ, 40, .inr (.inl g_n2))), (a_n3, .inl (cJ, 40, .inr (.inl g_n3)))]) hP hD hS hA [3, 7] [0, 1, 2, 4, 5, 6, 8, 9] rfl rfl rfl (by decide) (r_V (n := 2) (As := [.int i_1, .int i_2]) (ci := 8) (q0 := 0) hx hb hml hown hts hkb hPc hDc (c_lay l D cB cI cJ cZ cS cW cT cR a_t1 a_n1 i_1 i_2 g_n1) kw_1177 kw_1178 kw_1179 kw_12 kw_1180 (by decide +kernel) ⟨Nat.le_of_ble_eq_true rfl, Nat.le_of_ble_eq_true rfl⟩ rfl rfl rfl rfl hl.1 (Nat.le_of_ble_eq_true rfl) dX11_numbers_40 ⟨Nat.le_of_ble_eq_true rfl, Nat.le_of_ble_eq_true rfl⟩) (fun u H locs hw hP hD hS => ?_)
              obtain ⟨f_11, rfl⟩ := hw
              have hP : va_P D cls [(h0, .inr (11, [.ref a_tp, .int 0, .ref a_rd, .ref a_wl, .ref a_st, .ref a_bf, .ref a_ps, .int 0, .int 0, .ref a_iw, .ref a_is, .ref a_tr, .ref a_rw, .ref a_or, .ref a_wy, .ref a_ct, .ref a_ch, .ref a_tn, .ref a_bt, .int (-1)])), (a_tr, .inl (cT, 4, .inr (.inr (.inr (.inr (va_up (va_up (va_up (va_up (fun _ => none) 0 (some a_t0)) 1 (some a_t1)) 2 (some a_t2)) 3 (some a_t3))))))), (a_t0, .inr (8, [.ref a_n0, .int 0, .int (-1)])), (a_t2, .inr (8, [.ref a_n2, .int 0, .int (-1)])), (a_t3, .inr (8, [.ref a_n3, .int 0, .int (-1)])), (a_n0, .inl (cJ, 40, .inr (.inl g_n0))), (a_n2, .inl (cJ, 40, .inr (.inl g_n2))), (a_n3, .inl (cJ, 40, .inr (.inl g_n3))), (a_t1, .inr (8, [.ref a_n1, .int i_1, .int i_2])), (a_n1, .inl (cJ, 40, .inr (.inl f_11)))] H := hP
              have hD : va_D A [(h0, .inr (11, [.ref a_tp, .int 0, .ref a_rd, .ref a_wl, .ref a_st, .ref a_bf, .ref a_ps, .int 0, .int 0, .ref a_iw, .ref a_is, .ref a_tr, .ref a_rw, .ref a_or, .ref a_wy, .ref a_ct, .ref a_ch, .ref a_tn, .ref a_bt, .int (-1)])), (a_tr, .inl (cT, 4, .inr (.inr (.inr (.inr (va_up (va_up (va_up (va_up (fun _ => none) 0 (some a_t0)) 1 (some a_t1)) 2 (some a_t2)) 3 (some a_t3))))))), (a_t0, .inr (8, [.ref a_n0, .int 0, .int (-1)])), (a_t2, .inr (8, [.ref a_n2, .int 0, .int (-1)])), (a_t3, .inr (8, [.ref a_n3, .int 0, .int (-1)])), (a_n0, .inl (cJ, 40, .inr (.inl g_n0))), (a_n2, .inl (cJ, 40, .inr (.inl g_n2))), (a_n3, .inl (cJ, 40, .inr (.inl g_n3))), (a_t1, .inr (8, [.ref a_n1, .int i_1, .int i_2])), (a_n1, .inl (cJ, 40, .inr (.inl f_11)))] := hD
              refine W.widen (k := 0) (n := 0) (Nat.le_of_ble_eq_true rfl) (Nat.le_of_ble_eq_true rfl) ?_
              refine lv_iconst (v := 0) hx hb dX11_numbers_43 (by decide) ?_
              refine W.widen (k := 0) (n := 0) (Nat.le_of_ble_eq_true rfl) (Nat.le_of_ble_eq_true rfl) ?_
              exact e_i (u := []) hx hb hr hlocks (hP.sub (ws' := []) [] rfl) (hD.sub (ws' := []) [] (by decide) rfl) hS ⟨(by unfold F_numbers; (repeat' split) <;> first | rfl | (exfalso; omega)), rfl⟩ dX11_numbers_44
            have tc_10 := f_ne (k := 1) (by decide) c_10
            by_cases c_13 : i_0 = 2
            · skip
              subst c_13
              have zc_13 : (2 : Int32).toInt = 2 := by decide
              refine lv_aload_n hx hb dX11_numbers_32 rfl (lv_at hl 0 rfl) ?_
              refine va_get (D := D) (ci := 11) (v := .ref a_tr) (C := RX11) (T := TX11) (N := 20) hx hb hts uX11 hown hkb.1 hP 0 rfl rfl 11 (by decide) (hts _ kw_371) (fun _ h9 => h9) rfl dX11_numbers_33 ?_
              refine lv_iload_n hx hb dX11_numbers_36 rfl (lv_at hl 1 rfl) ?_
              refine va_aldq hx hb hkb.1 hP 1 6 rfl rfl (in_c (by decide +kernel)) dX11_numbers_37 ?_
              refine lv_topcv (y := .ref a_t2) (by rfl) ?_
              refine lv_iload_n hx hb dX11_numbers_38 rfl (lv_at hl 2 rfl) ?_
              refine lv_iload_n hx hb dX11_numbers_39 rfl (lv_at hl 3 rfl) ?_
              have hPc := hP.sub (ws' := [(a_t2, .inr (8, [.ref a_n2, .int 0, .int (-1)])), (a_n2, .inl (cJ, 40, .inr (.inl g_n2)))]) [4, 8] rfl
              have hDc := hD.sub (ws' := [(a_t2, .inr (8, [.ref a_n2, .int 0, .int (-1)])), (a_n2, .inl (cJ, 40, .inr (.inl g_n2)))]) [4, 8] (by decide) rfl
              refine k_v (wc := [(a_t2, .inr (8, [.ref a_n2, .int 0, .int (-1)])), (a_n2, .inl (cJ, 40, .inr (.inl g_n2)))]) (wr := [(h0, .inr (11, [.ref a_tp, .int 0, .ref a_rd, .ref a_wl, .ref a_st, .ref a_bf, .ref a_ps, .int 0, .int 0, .ref a_iw, .ref a_is, .ref a_tr, .ref a_rw, .ref a_or, .ref a_wy, .ref a_ct, .ref a_ch, .ref a_tn, .ref a_bt, .int (-1)])), (a_tr, .inl (cT, 4, .inr (.inr (.inr (.inr (va_up (va_up (va_up (va_up (fun _ => none) 0 (some a_t0)) 1 (some a_t1)) 2 (some a_t2)) 3 (some a_t3))))))), (a_t0, .inr (8, [.ref a_n0, .int 0, .int (-1)])), (a_t1, .inr (8, [.ref a_n1, .int 0, .int (-1)])), (a_t3, .inr (8, [.ref a_n3, .int 0, .int (-1)])), (a_n0, .inl (cJ, 40, .inr (.inl g_n0))), (a_n1, .inl (cJ, 40, .inr (.inl g_n1))), (a_n3, .inl (cJ, 40, .inr (.inl g_n3)))]) hP hD hS hA [4, 8] [0, 1, 2, 3, 5, 6, 7, 9] rfl rfl rfl (by decide) (r_V (n := 2) (As := [.int i_1, .int i_2]) (ci := 8) (q0 := 0) hx hb hml hown hts hkb hPc hDc (c_lay l D cB cI cJ cZ cS cW cT cR a_t2 a_n2 i_1 i_2 g_n2) kw_1177 kw_1178 kw_1179 kw_12 kw_1180 (by decide +kernel) ⟨Nat.le_of_ble_eq_true rfl, Nat.le_of_ble_eq_true rfl⟩ rfl rfl rfl rfl hl.1 (Nat.le_of_ble_eq_true rfl) dX11_numbers_40 ⟨Nat.le_of_ble_eq_true rfl, Nat.le_of_ble_eq_true rfl⟩) (fun u H locs hw hP hD hS => ?_)
              obtain ⟨f_14, rfl⟩ := hw
              have hP : va_P D cls [(h0, .inr (11, [.ref a_tp, .int 0, .ref a_rd, .ref a_wl, .ref a_st, .ref a_bf, .ref a_ps, .int 0, .int 0, .ref a_iw, .ref a_is, .ref a_tr, .ref a_rw, .ref a_or, .ref a_wy, .ref a_ct, .ref a_ch, .ref a_tn, .ref a_bt, .int (-1)])), (a_tr, .inl (cT, 4, .inr (.inr (.inr (.inr (va_up (va_up (va_up (va_up (fun _ => none) 0 (some a_t0)) 1 (some a_t1)) 2 (some a_t2)) 3 (some a_t3))))))), (a_t0, .inr (8, [.ref a_n0, .int 0, .int (-1)])), (a_t1, .inr (8, [.ref a_n1, .int 0, .int (-1)])), (a_t3, .inr (8, [.ref a_n3, .int 0, .int (-1)])), (a_n0, .inl (cJ, 40, .inr (.inl g_n0))), (a_n1, .inl (cJ, 40, .inr (.inl g_n1))), (a_n3, .inl (cJ, 40, .inr (.inl g_n3))), (a_t2, .inr (8, [.ref a_n2, .int i_1, .int i_2])), (a_n2, .inl (cJ, 40, .inr (.inl f_14)))] H := hP
              have hD : va_D A [(h0, .inr (11, [.ref a_tp, .int 0, .ref a_rd, .ref a_wl, .ref a_st, .ref a_bf, .ref a_ps, .int 0, .int 0, .ref a_iw, .ref a_is, .ref a_tr, .ref a_rw, .ref a_or, .ref a_wy, .ref a_ct, .ref a_ch, .ref a_tn, .ref a_bt, .int (-1)])), (a_tr, .inl (cT, 4, .inr (.inr (.inr (.inr (va_up (va_up (va_up (va_up (fun _ => none) 0 (some a_t0)) 1 (some a_t1)) 2 (some a_t2)) 3 (some a_t3))))))), (a_t0, .inr (8, [.ref a_n0, .int 0, .int (-1)])), (a_t1, .inr (8, [.ref a_n1, .int 0, .int (-1)])), (a_t3, .inr (8, [.ref a_n3, .int 0, .int (-1)])), (a_n0, .inl (cJ, 40, .inr (.inl g_n0))), (a_n1, .inl (cJ, 40, .inr (.inl g_n1))), (a_n3, .inl (cJ, 40, .inr (.inl g_n3))), (a_t2, .inr (8, [.ref a_n2, .int i_1, .int i_2])), (a_n2, .inl (cJ, 40, .inr (.inl f_14)))] := hD
              refine W.widen (k := 0) (n := 0) (Nat.le_of_ble_eq_true rfl) (Nat.le_of_ble_eq_true rfl) ?_
              refine lv_iconst (v := 0) hx hb dX11_numbers_43 (by decide) ?_
              refine W.widen (k := 0) (n := 0) (Nat.le_of_ble_eq_true rfl) (Nat.le_of_ble_eq_true rfl) ?_
              exact e_i (u := []) hx hb hr hlocks (hP.sub (ws' := []) [] rfl) (hD.sub (ws' := []) [] (by decide) rfl) hS ⟨(by unfold F_numbers; (repeat' split) <;> first | rfl | (exfalso; omega)), rfl⟩ dX11_numbers_44
            have tc_13 := f_ne (k := 2) (by decide) c_13
            by_cases c_16 : i_0 = 3
            · skip
              subst c_16
              have zc_16 : (3 : Int32).toInt = 3 := by decide
              refine lv_aload_n hx hb dX11_numbers_32 rfl (lv_at hl 0 rfl) ?_
              refine va_get (D := D) (ci := 11) (v := .ref a_tr) (C := RX11) (T := TX11) (N := 20) hx hb hts uX11 hown hkb.1 hP 0 rfl rfl 11 (by decide) (hts _ kw_371) (fun _ h9 => h9) rfl dX11_numbers_33 ?_
              refine lv_iload_n hx hb dX11_numbers_36 rfl (lv_at hl 1 rfl) ?_
              refine va_aldq hx hb hkb.1 hP 1 6 rfl rfl (in_c (by decide +kernel)) dX11_numbers_37 ?_
              refine lv_topcv (y := .ref a_t3) (by rfl) ?_
              refine lv_iload_n hx hb dX11_numbers_38 rfl (lv_at hl 2 rfl) ?_
              refine lv_iload_n hx hb dX11_numbers_39 rfl (lv_at hl 3 rfl) ?_
              have hPc := hP.sub (ws' := [(a_t3, .inr (8, [.ref a_n3, .int 0, .int (-1)])), (a_n3, .inl (cJ, 40, .inr (.inl g_n3)))]) [5, 9] rfl
              have hDc := hD.sub (ws' := [(a_t3, .inr (8, [.ref a_n3, .int 0, .int (-1)])), (a_n3, .inl (cJ, 40, .inr (.inl g_n3)))]) [5, 9] (by decide) rfl
              refine k_v (wc := [(a_t3, .inr (8, [.ref a_n3, .int 0, .int (-1)])), (a_n3, .inl (cJ, 40, .inr (.inl g_n3)))]) (wr := [(h0, .inr (11, [.ref a_tp, .int 0, .ref a_rd, .ref a_wl, .ref a_st, .ref a_bf, .ref a_ps, .int 0, .int 0, .ref a_iw, .ref a_is, .ref a_tr, .ref a_rw, .ref a_or, .ref a_wy, .ref a_ct, .ref a_ch, .ref a_tn, .ref a_bt, .int (-1)])), (a_tr, .inl (cT, 4, .inr (.inr (.inr (.inr (va_up (va_up (va_up (va_up (fun _ => none) 0 (some a_t0)) 1 (some a_t1)) 2 (some a_t2)) 3 (some a_t3))))))), (a_t0, .inr (8, [.ref a_n0, .int 0, .int (-1)])), (a_t1, .inr (8, [.ref a_n1, .int 0, .int (-1)])), (a_t2, .inr (8, [.ref a_n2, .int 0, .int (-1)])), (a_n0, .inl (cJ, 40, .inr (.inl g_n0))), (a_n1, .inl (cJ, 40, .inr (.inl g_n1))), (a_n2, .inl (cJ, 40, .inr (.inl g_n2)))]) hP hD hS hA [5, 9] [0, 1, 2, 3, 4, 6, 7, 8] rfl rfl rfl (by decide) (r_V (n := 2) (As := [.int i_1, .int i_2]) (ci := 8) (q0 := 0) hx hb hml hown hts hkb hPc hDc (c_lay l D cB cI cJ cZ cS cW cT cR a_t3 a_n3 i_1 i_2 g_n3) kw_1177 kw_1178 kw_1179 kw_12 kw_1180 (by decide +kernel) ⟨Nat.le_of_ble_eq_true rfl, Nat.le_of_ble_eq_true rfl⟩ rfl rfl rfl rfl hl.1 (Nat.le_of_ble_eq_true rfl) dX11_numbers_40 ⟨Nat.le_of_ble_eq_true rfl, Nat.le_of_ble_eq_true rfl⟩) (fun u H locs hw hP hD hS => ?_)
              obtain ⟨f_17, rfl⟩ := hw
              have hP : va_P D cls [(h0, .inr (11, [.ref a_tp, .int 0, .ref a_rd, .ref a_wl, .ref a_st, .ref a_bf, .ref a_ps, .int 0, .int 0, .ref a_iw, .ref a_is, .ref a_tr, .ref a_rw, .ref a_or, .ref a_wy, .ref a_ct, .ref a_ch, .ref a_tn, .ref a_bt, .int (-1)])), (a_tr, .inl (cT, 4, .inr (.inr (.inr (.inr (va_up (va_up (va_up (va_up (fun _ => none) 0 (some a_t0)) 1 (some a_t1)) 2 (some a_t2)) 3 (some a_t3))))))), (a_t0, .inr (8, [.ref a_n0, .int 0, .int (-1)])), (a_t1, .inr (8, [.ref a_n1, .int 0, .int (-1)])), (a_t2, .inr (8, [.ref a_n2, .int 0, .int (-1)])), (a_n0, .inl (cJ, 40, .inr (.inl g_n0))), (a_n1, .inl (cJ, 40, .inr (.inl g_n1))), (a_n2, .inl (cJ, 40, .inr (.inl g_n2))), (a_t3, .inr (8, [.ref a_n3, .int i_1, .int i_2])), (a_n3, .inl (cJ, 40, .inr (.inl f_17)))] H := hP
              have hD : va_D A [(h0, .inr (11, [.ref a_tp, .int 0, .ref a_rd, .ref a_wl, .ref a_st, .ref a_bf, .ref a_ps, .int 0, .int 0, .ref a_iw, .ref a_is, .ref a_tr, .ref a_rw, .ref a_or, .ref a_wy, .ref a_ct, .ref a_ch, .ref a_tn, .ref a_bt, .int (-1)])), (a_tr, .inl (cT, 4, .inr (.inr (.inr (.inr (va_up (va_up (va_up (va_up (fun _ => none) 0 (some a_t0)) 1 (some a_t1)) 2 (some a_t2)) 3 (some a_t3))))))), (a_t0, .inr (8, [.ref a_n0, .int 0, .int (-1)])), (a_t1, .inr (8, [.ref a_n1, .int 0, .int (-1)])), (a_t2, .inr (8, [.ref a_n2, .int 0, .int (-1)])), (a_n0, .inl (cJ, 40, .inr (.inl g_n0))), (a_n1, .inl (cJ, 40, .inr (.inl g_n1))), (a_n2, .inl (cJ, 40, .inr (.inl g_n2))), (a_t3, .inr (8, [.ref a_n3, .int i_1, .int i_2])), (a_n3, .inl (cJ, 40, .inr (.inl f_17)))] := hD
              refine W.widen (k := 0) (n := 0) (Nat.le_of_ble_eq_true rfl) (Nat.le_of_ble_eq_true rfl) ?_
              refine lv_iconst (v := 0) hx hb dX11_numbers_43 (by decide) ?_
              refine W.widen (k := 0) (n := 0) (Nat.le_of_ble_eq_true rfl) (Nat.le_of_ble_eq_true rfl) ?_
              exact e_i (u := []) hx hb hr hlocks (hP.sub (ws' := []) [] rfl) (hD.sub (ws' := []) [] (by decide) rfl) hS ⟨(by unfold F_numbers; (repeat' split) <;> first | rfl | (exfalso; omega)), rfl⟩ dX11_numbers_44
            have tc_16 := f_ne (k := 3) (by decide) c_16
            exfalso; omega
          · skip
            have tc_6 := f_nle (k := 40) (by decide) c_6
            refine lv_bipush (v := (-3)) hx hb dX11_numbers_29 (by decide) ?_
            refine W.widen (k := 0) (n := 0) (Nat.le_of_ble_eq_true rfl) (Nat.le_of_ble_eq_true rfl) ?_
            exact e_i (u := []) hx hb hr hlocks (hP.sub (ws' := []) [] rfl) (hD.sub (ws' := []) [] (by decide) rfl) hS ⟨(by unfold F_numbers; (repeat' split) <;> first | rfl | (exfalso; omega)), rfl⟩ dX11_numbers_31
      · skip
        have tc_4 := f_nle (k := 3) (by decide) c_4
        refine lv_bipush (v := (-2)) hx hb dX11_numbers_16 (by decide) ?_
        refine W.widen (k := 0) (n := 0) (Nat.le_of_ble_eq_true rfl) (Nat.le_of_ble_eq_true rfl) ?_
        exact e_i (u := []) hx hb hr hlocks (hP.sub (ws' := []) [] rfl) (hD.sub (ws' := []) [] (by decide) rfl) hS ⟨(by unfold F_numbers; (repeat' split) <;> first | rfl | (exfalso; omega)), rfl⟩ dX11_numbers_18
set_option maxHeartbeats 4000000 in
set_option maxRecDepth 100000 in
theorem x_write (l : Launch) (D : va_G) (cB cI cJ cZ cS cW cT cR : ClassId) (h0 : Nat) (a_tr : Nat) (a_t0 : Nat) (a_t1 : Nat) (a_t2 : Nat) (a_t3 : Nat) (i_0 : Int32) (i_1 : Int32) (j_2 : Int64) (a_tp : Nat) (a_rd : Nat) (a_wl : Nat) (a_st : Nat) (a_bf : Nat) (a_ps : Nat) (a_iw : Nat) (a_is : Nat) (a_rw : Nat) (a_or : Nat) (a_wy : Nat) (a_ct : Nat) (a_ch : Nat) (a_tn : Nat) (a_bt : Nat) (a_n0 : Nat) (a_n1 : Nat) (a_n2 : Nat) (a_n3 : Nat) : Kon l D (tyl cB cI cJ cZ cS cW cT cR) yX11_write cX11_write 6 (some (.long)) { frames := 1, cells := 0, slots := 0, locals := 20 } [.ref h0, .int i_0, .int i_1, .long j_2] [(h0, .inr (11, [.ref a_tp, .int 0, .ref a_rd, .ref a_wl, .ref a_st, .ref a_bf, .ref a_ps, .int 0, .int 0, .ref a_iw, .ref a_is, .ref a_tr, .ref a_rw, .ref a_or, .ref a_wy, .ref a_ct, .ref a_ch, .ref a_tn, .ref a_bt, .int (-1)])), (a_tr, .inl (cT, 4, .inr (.inr (.inr (.inr (va_up (va_up (va_up (va_up (fun _ => none) 0 (some a_t0)) 1 (some a_t1)) 2 (some a_t2)) 3 (some a_t3))))))), (a_t0, .inr (8, [.ref a_n0, .int 0, .int (-1)])), (a_t1, .inr (8, [.ref a_n1, .int 0, .int (-1)])), (a_t2, .inr (8, [.ref a_n2, .int 0, .int (-1)])), (a_t3, .inr (8, [.ref a_n3, .int 0, .int (-1)]))] (Ql D (fun r u => r = F_write i_0 ∧ u = [])) := by
  refine kon_of (by decide) (Nat.le_of_ble_eq_true rfl) (fun p e s m below meth c ls A hx hb hr hml hown hts hlocks hnm hkb hP hD hS hA hl => ?_)
  have hown : s.vm.findClass RX11 = some m.cls := hown
  have hl : lv_has ls 6 [(0, .ref h0), (1, .int i_0), (2, .int i_1), (3, .long j_2)] := hl
  have hP : va_P D cls [(h0, .inr (11, [.ref a_tp, .int 0, .ref a_rd, .ref a_wl, .ref a_st, .ref a_bf, .ref a_ps, .int 0, .int 0, .ref a_iw, .ref a_is, .ref a_tr, .ref a_rw, .ref a_or, .ref a_wy, .ref a_ct, .ref a_ch, .ref a_tn, .ref a_bt, .int (-1)])), (a_tr, .inl (cT, 4, .inr (.inr (.inr (.inr (va_up (va_up (va_up (va_up (fun _ => none) 0 (some a_t0)) 1 (some a_t1)) 2 (some a_t2)) 3 (some a_t3))))))), (a_t0, .inr (8, [.ref a_n0, .int 0, .int (-1)])), (a_t1, .inr (8, [.ref a_n1, .int 0, .int (-1)])), (a_t2, .inr (8, [.ref a_n2, .int 0, .int (-1)])), (a_t3, .inr (8, [.ref a_n3, .int 0, .int (-1)]))] s.heap := hP
  refine lv_iload_n hx hb dX11_write_0 rfl (lv_at hl 1 rfl) ?_
  have hPc := hP.sub (ws' := []) [] rfl
  have hDc := hD.sub (ws' := []) [] (by decide) rfl
  refine k_i (wc := []) (wr := [(h0, .inr (11, [.ref a_tp, .int 0, .ref a_rd, .ref a_wl, .ref a_st, .ref a_bf, .ref a_ps, .int 0, .int 0, .ref a_iw, .ref a_is, .ref a_tr, .ref a_rw, .ref a_or, .ref a_wy, .ref a_ct, .ref a_ch, .ref a_tn, .ref a_bt, .int (-1)])), (a_tr, .inl (cT, 4, .inr (.inr (.inr (.inr (va_up (va_up (va_up (va_up (fun _ => none) 0 (some a_t0)) 1 (some a_t1)) 2 (some a_t2)) 3 (some a_t3))))))), (a_t0, .inr (8, [.ref a_n0, .int 0, .int (-1)])), (a_t1, .inr (8, [.ref a_n1, .int 0, .int (-1)])), (a_t2, .inr (8, [.ref a_n2, .int 0, .int (-1)])), (a_t3, .inr (8, [.ref a_n3, .int 0, .int (-1)]))]) hP hD hS hA [] [0, 1, 2, 3, 4, 5] rfl rfl rfl (by decide) (r_S (n := 1) (As := [.int i_0]) hx hb hml hown hts hkb hPc hDc (c_isTray l D cB cI cJ cZ cS cW cT cR i_0) kw_871 kw_872 kw_1 kw_873 (by decide +kernel) ⟨Nat.le_of_ble_eq_true rfl, Nat.le_of_ble_eq_true rfl⟩ rfl rfl hl.1 (Nat.le_of_ble_eq_true rfl) dX11_write_1 ⟨Nat.le_of_ble_eq_true rfl, Nat.le_of_ble_eq_true rfl⟩) (fun r_1 u H locs hw hP hD hS => ?_)
  obtain ⟨rfl, rfl⟩ := hw
  have hP : va_P D cls [(h0, .inr (11, [.ref a_tp, .int 0, .ref a_rd, .ref a_wl, .ref a_st, .ref a_bf, .ref a_ps, .int 0, .int 0, .ref a_iw, .ref a_is, .ref a_tr, .ref a_rw, .ref a_or, .ref a_wy, .ref a_ct, .ref a_ch, .ref a_tn, .ref a_bt, .int (-1)])), (a_tr, .inl (cT, 4, .inr (.inr (.inr (.inr (va_up (va_up (va_up (va_up (fun _ => none) 0 (some a_t0)) 1 (some a_t1)) 2 (some a_t2)) 3 (some a_t3))))))), (a_t0, .inr (8, [.ref a_n0, .int 0, .int (-1)])), (a_t1, .inr (8, [.ref a_n1, .int 0, .int (-1)])), (a_t2, .inr (8, [.ref a_n2, .int 0, .int (-1)])), (a_t3, .inr (8, [.ref a_n3, .int 0, .int (-1)]))] H := hP
  have hD : va_D A [(h0, .inr (11, [.ref a_tp, .int 0, .ref a_rd, .ref a_wl, .ref a_st, .ref a_bf, .ref a_ps, .int 0, .int 0, .ref a_iw, .ref a_is, .ref a_tr, .ref a_rw, .ref a_or, .ref a_wy, .ref a_ct, .ref a_ch, .ref a_tn, .ref a_bt, .int (-1)])), (a_tr, .inl (cT, 4, .inr (.inr (.inr (.inr (va_up (va_up (va_up (va_up (fun _ => none) 0 (some a_t0)) 1 (some a_t1)) 2 (some a_t2)) 3 (some a_t3))))))), (a_t0, .inr (8, [.ref a_n0, .int 0, .int (-1)])), (a_t1, .inr (8, [.ref a_n1, .int 0, .int (-1)])), (a_t2, .inr (8, [.ref a_n2, .int 0, .int (-1)])), (a_t3, .inr (8, [.ref a_n3, .int 0, .int (-1)]))] := hD
  refine W.widen (k := 0) (n := 0) (Nat.le_of_ble_eq_true rfl) (Nat.le_of_ble_eq_true rfl) ?_
  refine lv_if_ne (tgt := 11) hx hb dX11_write_4 (by decide) (fun c_2 => ?_) (fun c_2 => ?_)
  · skip
    have tc_2 := F_isTray_1 c_2
    by_cases c_3 : i_0 = 0
    · skip
      subst c_3
      have zc_3 : (0 : Int32).toInt = 0 := by decide
      refine lv_aload_n hx hb dX11_write_11 rfl (lv_at hl 0 rfl) ?_
      refine va_get (D := D) (ci := 11) (v := .ref a_tr) (C := RX11) (T := TX11) (N := 20) hx hb hts uX11 hown hkb.1 hP 0 rfl rfl 11 (by decide) (hts _ kw_371) (fun _ h9 => h9) rfl dX11_write_12 ?_
      refine lv_iload_n hx hb dX11_write_15 rfl (lv_at hl 1 rfl) ?_
      refine va_aldq hx hb hkb.1 hP 1 6 rfl rfl (in_c (by decide +kernel)) dX11_write_16 ?_
      refine lv_topcv (y := .ref a_t0) (by rfl) ?_
      refine lv_astore (lv' := [(5, .ref a_t0), (0, .ref h0), (1, .int 0), (2, .int i_1), (3, .long j_2)]) hx hb dX11_write_17 hl (by decide) rfl (fun ls hl => ?_)
      refine lv_aload hx hb dX11_write_19 (lv_at hl 0 rfl) ?_
      have hPc := hP.sub (ws' := [(a_t0, .inr (8, [.ref a_n0, .int 0, .int (-1)]))]) [2] rfl
      have hDc := hD.sub (ws' := [(a_t0, .inr (8, [.ref a_n0, .int 0, .int (-1)]))]) [2] (by decide) rfl
      refine k_i (wc := [(a_t0, .inr (8, [.ref a_n0, .int 0, .int (-1)]))]) (wr := [(h0, .inr (11, [.ref a_tp, .int 0, .ref a_rd, .ref a_wl, .ref a_st, .ref a_bf, .ref a_ps, .int 0, .int 0, .ref a_iw, .ref a_is, .ref a_tr, .ref a_rw, .ref a_or, .ref a_wy, .ref a_ct, .ref a_ch, .ref a_tn, .ref a_bt, .int (-1)])), (a_tr, .inl (cT, 4, .inr (.inr (.inr (.inr (va_up (va_up (va_up (va_up (fun _ => none) 0 (some a_t0)) 1 (some a_t1)) 2 (some a_t2)) 3 (some a_t3))))))), (a_t1, .inr (8, [.ref a_n1, .int 0, .int (-1)])), (a_t2, .inr (8, [.ref a_n2, .int 0, .int (-1)])), (a_t3, .inr (8, [.ref a_n3, .int 0, .int (-1)]))]) hP hD hS hA [2] [0, 1, 3, 4, 5] rfl rfl rfl (by decide) (r_V (n := 0) (As := []) (ci := 8) (q0 := 0) hx hb hml hown hts hkb hPc hDc (c_isMissing l D cB cI cJ cZ cS cW cT cR a_t0 a_n0) kw_874 kw_875 kw_876 kw_12 kw_877 (by decide +kernel) ⟨Nat.le_of_ble_eq_true rfl, Nat.le_of_ble_eq_true rfl⟩ rfl rfl rfl rfl hl.1 (Nat.le_of_ble_eq_true rfl) dX11_write_21 ⟨Nat.le_of_ble_eq_true rfl, Nat.le_of_ble_eq_true rfl⟩) (fun r_4 u H locs hw hP hD hS => ?_)
      obtain ⟨rfl, rfl⟩ := hw
      have hP : va_P D cls [(h0, .inr (11, [.ref a_tp, .int 0, .ref a_rd, .ref a_wl, .ref a_st, .ref a_bf, .ref a_ps, .int 0, .int 0, .ref a_iw, .ref a_is, .ref a_tr, .ref a_rw, .ref a_or, .ref a_wy, .ref a_ct, .ref a_ch, .ref a_tn, .ref a_bt, .int (-1)])), (a_tr, .inl (cT, 4, .inr (.inr (.inr (.inr (va_up (va_up (va_up (va_up (fun _ => none) 0 (some a_t0)) 1 (some a_t1)) 2 (some a_t2)) 3 (some a_t3))))))), (a_t1, .inr (8, [.ref a_n1, .int 0, .int (-1)])), (a_t2, .inr (8, [.ref a_n2, .int 0, .int (-1)])), (a_t3, .inr (8, [.ref a_n3, .int 0, .int (-1)])), (a_t0, .inr (8, [.ref a_n0, .int 0, .int (-1)]))] H := hP
      have hD : va_D A [(h0, .inr (11, [.ref a_tp, .int 0, .ref a_rd, .ref a_wl, .ref a_st, .ref a_bf, .ref a_ps, .int 0, .int 0, .ref a_iw, .ref a_is, .ref a_tr, .ref a_rw, .ref a_or, .ref a_wy, .ref a_ct, .ref a_ch, .ref a_tn, .ref a_bt, .int (-1)])), (a_tr, .inl (cT, 4, .inr (.inr (.inr (.inr (va_up (va_up (va_up (va_up (fun _ => none) 0 (some a_t0)) 1 (some a_t1)) 2 (some a_t2)) 3 (some a_t3))))))), (a_t1, .inr (8, [.ref a_n1, .int 0, .int (-1)])), (a_t2, .inr (8, [.ref a_n2, .int 0, .int (-1)])), (a_t3, .inr (8, [.ref a_n3, .int 0, .int (-1)])), (a_t0, .inr (8, [.ref a_n0, .int 0, .int (-1)]))] := hD
      refine W.widen (k := 0) (n := 0) (Nat.le_of_ble_eq_true rfl) (Nat.le_of_ble_eq_true rfl) ?_
      refine lv_if_eq (tgt := 31) hx hb dX11_write_24 (by decide) (fun c_5 => absurd c_5 (by decide)) (fun _ => ?_)
      refine lv_ldc2 hx hb hown (hts _ kw_1188) dX11_write_27 ?_
      refine W.widen (k := 0) (n := 0) (Nat.le_of_ble_eq_true rfl) (Nat.le_of_ble_eq_true rfl) ?_
      exact e_l (u := []) hx hb hr hlocks (hP.sub (ws' := []) [] rfl) (hD.sub (ws' := []) [] (by decide) rfl) hS ⟨(by unfold F_write F_tray; (repeat' split) <;> first | rfl | (exfalso; omega)), rfl⟩ dX11_write_30
    have tc_3 := f_ne (k := 0) (by decide) c_3
    by_cases c_6 : i_0 = 1
    · skip
      subst c_6
      have zc_6 : (1 : Int32).toInt = 1 := by decide
      refine lv_aload_n hx hb dX11_write_11 rfl (lv_at hl 0 rfl) ?_
      refine va_get (D := D) (ci := 11) (v := .ref a_tr) (C := RX11) (T := TX11) (N := 20) hx hb hts uX11 hown hkb.1 hP 0 rfl rfl 11 (by decide) (hts _ kw_371) (fun _ h9 => h9) rfl dX11_write_12 ?_
      refine lv_iload_n hx hb dX11_write_15 rfl (lv_at hl 1 rfl) ?_
      refine va_aldq hx hb hkb.1 hP 1 6 rfl rfl (in_c (by decide +kernel)) dX11_write_16 ?_
      refine lv_topcv (y := .ref a_t1) (by rfl) ?_
      refine lv_astore (lv' := [(5, .ref a_t1), (0, .ref h0), (1, .int 1), (2, .int i_1), (3, .long j_2)]) hx hb dX11_write_17 hl (by decide) rfl (fun ls hl => ?_)
      refine lv_aload hx hb dX11_write_19 (lv_at hl 0 rfl) ?_
      have hPc := hP.sub (ws' := [(a_t1, .inr (8, [.ref a_n1, .int 0, .int (-1)]))]) [3] rfl
      have hDc := hD.sub (ws' := [(a_t1, .inr (8, [.ref a_n1, .int 0, .int (-1)]))]) [3] (by decide) rfl
      refine k_i (wc := [(a_t1, .inr (8, [.ref a_n1, .int 0, .int (-1)]))]) (wr := [(h0, .inr (11, [.ref a_tp, .int 0, .ref a_rd, .ref a_wl, .ref a_st, .ref a_bf, .ref a_ps, .int 0, .int 0, .ref a_iw, .ref a_is, .ref a_tr, .ref a_rw, .ref a_or, .ref a_wy, .ref a_ct, .ref a_ch, .ref a_tn, .ref a_bt, .int (-1)])), (a_tr, .inl (cT, 4, .inr (.inr (.inr (.inr (va_up (va_up (va_up (va_up (fun _ => none) 0 (some a_t0)) 1 (some a_t1)) 2 (some a_t2)) 3 (some a_t3))))))), (a_t0, .inr (8, [.ref a_n0, .int 0, .int (-1)])), (a_t2, .inr (8, [.ref a_n2, .int 0, .int (-1)])), (a_t3, .inr (8, [.ref a_n3, .int 0, .int (-1)]))]) hP hD hS hA [3] [0, 1, 2, 4, 5] rfl rfl rfl (by decide) (r_V (n := 0) (As := []) (ci := 8) (q0 := 0) hx hb hml hown hts hkb hPc hDc (c_isMissing l D cB cI cJ cZ cS cW cT cR a_t1 a_n1) kw_874 kw_875 kw_876 kw_12 kw_877 (by decide +kernel) ⟨Nat.le_of_ble_eq_true rfl, Nat.le_of_ble_eq_true rfl⟩ rfl rfl rfl rfl hl.1 (Nat.le_of_ble_eq_true rfl) dX11_write_21 ⟨Nat.le_of_ble_eq_true rfl, Nat.le_of_ble_eq_true rfl⟩) (fun r_7 u H locs hw hP hD hS => ?_)
      obtain ⟨rfl, rfl⟩ := hw
      have hP : va_P D cls [(h0, .inr (11, [.ref a_tp, .int 0, .ref a_rd, .ref a_wl, .ref a_st, .ref a_bf, .ref a_ps, .int 0, .int 0, .ref a_iw, .ref a_is, .ref a_tr, .ref a_rw, .ref a_or, .ref a_wy, .ref a_ct, .ref a_ch, .ref a_tn, .ref a_bt, .int (-1)])), (a_tr, .inl (cT, 4, .inr (.inr (.inr (.inr (va_up (va_up (va_up (va_up (fun _ => none) 0 (some a_t0)) 1 (some a_t1)) 2 (some a_t2)) 3 (some a_t3))))))), (a_t0, .inr (8, [.ref a_n0, .int 0, .int (-1)])), (a_t2, .inr (8, [.ref a_n2, .int 0, .int (-1)])), (a_t3, .inr (8, [.ref a_n3, .int 0, .int (-1)])), (a_t1, .inr (8, [.ref a_n1, .int 0, .int (-1)]))] H := hP
      have hD : va_D A [(h0, .inr (11, [.ref a_tp, .int 0, .ref a_rd, .ref a_wl, .ref a_st, .ref a_bf, .ref a_ps, .int 0, .int 0, .ref a_iw, .ref a_is, .ref a_tr, .ref a_rw, .ref a_or, .ref a_wy, .ref a_ct, .ref a_ch, .ref a_tn, .ref a_bt, .int (-1)])), (a_tr, .inl (cT, 4, .inr (.inr (.inr (.inr (va_up (va_up (va_up (va_up (fun _ => none) 0 (some a_t0)) 1 (some a_t1)) 2 (some a_t2)) 3 (some a_t3))))))), (a_t0, .inr (8, [.ref a_n0, .int 0, .int (-1)])), (a_t2, .inr (8, [.ref a_n2, .int 0, .int (-1)])), (a_t3, .inr (8, [.ref a_n3, .int 0, .int (-1)])), (a_t1, .inr (8, [.ref a_n1, .int 0, .int (-1)]))] := hD
      refine W.widen (k := 0) (n := 0) (Nat.le_of_ble_eq_true rfl) (Nat.le_of_ble_eq_true rfl) ?_
      refine lv_if_eq (tgt := 31) hx hb dX11_write_24 (by decide) (fun c_8 => absurd c_8 (by decide)) (fun _ => ?_)
      refine lv_ldc2 hx hb hown (hts _ kw_1188) dX11_write_27 ?_
      refine W.widen (k := 0) (n := 0) (Nat.le_of_ble_eq_true rfl) (Nat.le_of_ble_eq_true rfl) ?_
      exact e_l (u := []) hx hb hr hlocks (hP.sub (ws' := []) [] rfl) (hD.sub (ws' := []) [] (by decide) rfl) hS ⟨(by unfold F_write F_tray; (repeat' split) <;> first | rfl | (exfalso; omega)), rfl⟩ dX11_write_30
    have tc_6 := f_ne (k := 1) (by decide) c_6
    by_cases c_9 : i_0 = 2
    · skip
      subst c_9
      have zc_9 : (2 : Int32).toInt = 2 := by decide
      refine lv_aload_n hx hb dX11_write_11 rfl (lv_at hl 0 rfl) ?_
      refine va_get (D := D) (ci := 11) (v := .ref a_tr) (C := RX11) (T := TX11) (N := 20) hx hb hts uX11 hown hkb.1 hP 0 rfl rfl 11 (by decide) (hts _ kw_371) (fun _ h9 => h9) rfl dX11_write_12 ?_
      refine lv_iload_n hx hb dX11_write_15 rfl (lv_at hl 1 rfl) ?_
      refine va_aldq hx hb hkb.1 hP 1 6 rfl rfl (in_c (by decide +kernel)) dX11_write_16 ?_
      refine lv_topcv (y := .ref a_t2) (by rfl) ?_
      refine lv_astore (lv' := [(5, .ref a_t2), (0, .ref h0), (1, .int 2), (2, .int i_1), (3, .long j_2)]) hx hb dX11_write_17 hl (by decide) rfl (fun ls hl => ?_)
      refine lv_aload hx hb dX11_write_19 (lv_at hl 0 rfl) ?_
      have hPc := hP.sub (ws' := [(a_t2, .inr (8, [.ref a_n2, .int 0, .int (-1)]))]) [4] rfl
      have hDc := hD.sub (ws' := [(a_t2, .inr (8, [.ref a_n2, .int 0, .int (-1)]))]) [4] (by decide) rfl
      refine k_i (wc := [(a_t2, .inr (8, [.ref a_n2, .int 0, .int (-1)]))]) (wr := [(h0, .inr (11, [.ref a_tp, .int 0, .ref a_rd, .ref a_wl, .ref a_st, .ref a_bf, .ref a_ps, .int 0, .int 0, .ref a_iw, .ref a_is, .ref a_tr, .ref a_rw, .ref a_or, .ref a_wy, .ref a_ct, .ref a_ch, .ref a_tn, .ref a_bt, .int (-1)])), (a_tr, .inl (cT, 4, .inr (.inr (.inr (.inr (va_up (va_up (va_up (va_up (fun _ => none) 0 (some a_t0)) 1 (some a_t1)) 2 (some a_t2)) 3 (some a_t3))))))), (a_t0, .inr (8, [.ref a_n0, .int 0, .int (-1)])), (a_t1, .inr (8, [.ref a_n1, .int 0, .int (-1)])), (a_t3, .inr (8, [.ref a_n3, .int 0, .int (-1)]))]) hP hD hS hA [4] [0, 1, 2, 3, 5] rfl rfl rfl (by decide) (r_V (n := 0) (As := []) (ci := 8) (q0 := 0) hx hb hml hown hts hkb hPc hDc (c_isMissing l D cB cI cJ cZ cS cW cT cR a_t2 a_n2) kw_874 kw_875 kw_876 kw_12 kw_877 (by decide +kernel) ⟨Nat.le_of_ble_eq_true rfl, Nat.le_of_ble_eq_true rfl⟩ rfl rfl rfl rfl hl.1 (Nat.le_of_ble_eq_true rfl) dX11_write_21 ⟨Nat.le_of_ble_eq_true rfl, Nat.le_of_ble_eq_true rfl⟩) (fun r_10 u H locs hw hP hD hS => ?_)
      obtain ⟨rfl, rfl⟩ := hw
      have hP : va_P D cls [(h0, .inr (11, [.ref a_tp, .int 0, .ref a_rd, .ref a_wl, .ref a_st, .ref a_bf, .ref a_ps, .int 0, .int 0, .ref a_iw, .ref a_is, .ref a_tr, .ref a_rw, .ref a_or, .ref a_wy, .ref a_ct, .ref a_ch, .ref a_tn, .ref a_bt, .int (-1)])), (a_tr, .inl (cT, 4, .inr (.inr (.inr (.inr (va_up (va_up (va_up (va_up (fun _ => none) 0 (some a_t0)) 1 (some a_t1)) 2 (some a_t2)) 3 (some a_t3))))))), (a_t0, .inr (8, [.ref a_n0, .int 0, .int (-1)])), (a_t1, .inr (8, [.ref a_n1, .int 0, .int (-1)])), (a_t3, .inr (8, [.ref a_n3, .int 0, .int (-1)])), (a_t2, .inr (8, [.ref a_n2, .int 0, .int (-1)]))] H := hP
      have hD : va_D A [(h0, .inr (11, [.ref a_tp, .int 0, .ref a_rd, .ref a_wl, .ref a_st, .ref a_bf, .ref a_ps, .int 0, .int 0, .ref a_iw, .ref a_is, .ref a_tr, .ref a_rw, .ref a_or, .ref a_wy, .ref a_ct, .ref a_ch, .ref a_tn, .ref a_bt, .int (-1)])), (a_tr, .inl (cT, 4, .inr (.inr (.inr (.inr (va_up (va_up (va_up (va_up (fun _ => none) 0 (some a_t0)) 1 (some a_t1)) 2 (some a_t2)) 3 (some a_t3))))))), (a_t0, .inr (8, [.ref a_n0, .int 0, .int (-1)])), (a_t1, .inr (8, [.ref a_n1, .int 0, .int (-1)])), (a_t3, .inr (8, [.ref a_n3, .int 0, .int (-1)])), (a_t2, .inr (8, [.ref a_n2, .int 0, .int (-1)]))] := hD
      refine W.widen (k := 0) (n := 0) (Nat.le_of_ble_eq_true rfl) (Nat.le_of_ble_eq_true rfl) ?_
      refine lv_if_eq (tgt := 31) hx hb dX11_write_24 (by decide) (fun c_11 => absurd c_11 (by decide)) (fun _ => ?_)
      refine lv_ldc2 hx hb hown (hts _ kw_1188) dX11_write_27 ?_
      refine W.widen (k := 0) (n := 0) (Nat.le_of_ble_eq_true rfl) (Nat.le_of_ble_eq_true rfl) ?_
      exact e_l (u := []) hx hb hr hlocks (hP.sub (ws' := []) [] rfl) (hD.sub (ws' := []) [] (by decide) rfl) hS ⟨(by unfold F_write F_tray; (repeat' split) <;> first | rfl | (exfalso; omega)), rfl⟩ dX11_write_30
    have tc_9 := f_ne (k := 2) (by decide) c_9
    by_cases c_12 : i_0 = 3
    · skip
      subst c_12
      have zc_12 : (3 : Int32).toInt = 3 := by decide
      refine lv_aload_n hx hb dX11_write_11 rfl (lv_at hl 0 rfl) ?_
      refine va_get (D := D) (ci := 11) (v := .ref a_tr) (C := RX11) (T := TX11) (N := 20) hx hb hts uX11 hown hkb.1 hP 0 rfl rfl 11 (by decide) (hts _ kw_371) (fun _ h9 => h9) rfl dX11_write_12 ?_
      refine lv_iload_n hx hb dX11_write_15 rfl (lv_at hl 1 rfl) ?_
      refine va_aldq hx hb hkb.1 hP 1 6 rfl rfl (in_c (by decide +kernel)) dX11_write_16 ?_
      refine lv_topcv (y := .ref a_t3) (by rfl) ?_
      refine lv_astore (lv' := [(5, .ref a_t3), (0, .ref h0), (1, .int 3), (2, .int i_1), (3, .long j_2)]) hx hb dX11_write_17 hl (by decide) rfl (fun ls hl => ?_)
      refine lv_aload hx hb dX11_write_19 (lv_at hl 0 rfl) ?_
      have hPc := hP.sub (ws' := [(a_t3, .inr (8, [.ref a_n3, .int 0, .int (-1)]))]) [5] rfl
      have hDc := hD.sub (ws' := [(a_t3, .inr (8, [.ref a_n3, .int 0, .int (-1)]))]) [5] (by decide) rfl
      refine k_i (wc := [(a_t3, .inr (8, [.ref a_n3, .int 0, .int (-1)]))]) (wr := [(h0, .inr (11, [.ref a_tp, .int 0, .ref a_rd, .ref a_wl, .ref a_st, .ref a_bf, .ref a_ps, .int 0, .int 0, .ref a_iw, .ref a_is, .ref a_tr, .ref a_rw, .ref a_or, .ref a_wy, .ref a_ct, .ref a_ch, .ref a_tn, .ref a_bt, .int (-1)])), (a_tr, .inl (cT, 4, .inr (.inr (.inr (.inr (va_up (va_up (va_up (va_up (fun _ => none) 0 (some a_t0)) 1 (some a_t1)) 2 (some a_t2)) 3 (some a_t3))))))), (a_t0, .inr (8, [.ref a_n0, .int 0, .int (-1)])), (a_t1, .inr (8, [.ref a_n1, .int 0, .int (-1)])), (a_t2, .inr (8, [.ref a_n2, .int 0, .int (-1)]))]) hP hD hS hA [5] [0, 1, 2, 3, 4] rfl rfl rfl (by decide) (r_V (n := 0) (As := []) (ci := 8) (q0 := 0) hx hb hml hown hts hkb hPc hDc (c_isMissing l D cB cI cJ cZ cS cW cT cR a_t3 a_n3) kw_874 kw_875 kw_876 kw_12 kw_877 (by decide +kernel) ⟨Nat.le_of_ble_eq_true rfl, Nat.le_of_ble_eq_true rfl⟩ rfl rfl rfl rfl hl.1 (Nat.le_of_ble_eq_true rfl) dX11_write_21 ⟨Nat.le_of_ble_eq_true rfl, Nat.le_of_ble_eq_true rfl⟩) (fun r_13 u H locs hw hP hD hS => ?_)
      obtain ⟨rfl, rfl⟩ := hw
      have hP : va_P D cls [(h0, .inr (11, [.ref a_tp, .int 0, .ref a_rd, .ref a_wl, .ref a_st, .ref a_bf, .ref a_ps, .int 0, .int 0, .ref a_iw, .ref a_is, .ref a_tr, .ref a_rw, .ref a_or, .ref a_wy, .ref a_ct, .ref a_ch, .ref a_tn, .ref a_bt, .int (-1)])), (a_tr, .inl (cT, 4, .inr (.inr (.inr (.inr (va_up (va_up (va_up (va_up (fun _ => none) 0 (some a_t0)) 1 (some a_t1)) 2 (some a_t2)) 3 (some a_t3))))))), (a_t0, .inr (8, [.ref a_n0, .int 0, .int (-1)])), (a_t1, .inr (8, [.ref a_n1, .int 0, .int (-1)])), (a_t2, .inr (8, [.ref a_n2, .int 0, .int (-1)])), (a_t3, .inr (8, [.ref a_n3, .int 0, .int (-1)]))] H := hP
      have hD : va_D A [(h0, .inr (11, [.ref a_tp, .int 0, .ref a_rd, .ref a_wl, .ref a_st, .ref a_bf, .ref a_ps, .int 0, .int 0, .ref a_iw, .ref a_is, .ref a_tr, .ref a_rw, .ref a_or, .ref a_wy, .ref a_ct, .ref a_ch, .ref a_tn, .ref a_bt, .int (-1)])), (a_tr, .inl (cT, 4, .inr (.inr (.inr (.inr (va_up (va_up (va_up (va_up (fun _ => none) 0 (some a_t0)) 1 (some a_t1)) 2 (some a_t2)) 3 (some a_t3))))))), (a_t0, .inr (8, [.ref a_n0, .int 0, .int (-1)])), (a_t1, .inr (8, [.ref a_n1, .int 0, .int (-1)])), (a_t2, .inr (8, [.ref a_n2, .int 0, .int (-1)])), (a_t3, .inr (8, [.ref a_n3, .int 0, .int (-1)]))] := hD
      refine W.widen (k := 0) (n := 0) (Nat.le_of_ble_eq_true rfl) (Nat.le_of_ble_eq_true rfl) ?_
      refine lv_if_eq (tgt := 31) hx hb dX11_write_24 (by decide) (fun c_14 => absurd c_14 (by decide)) (fun _ => ?_)
      refine lv_ldc2 hx hb hown (hts _ kw_1188) dX11_write_27 ?_
      refine W.widen (k := 0) (n := 0) (Nat.le_of_ble_eq_true rfl) (Nat.le_of_ble_eq_true rfl) ?_
      exact e_l (u := []) hx hb hr hlocks (hP.sub (ws' := []) [] rfl) (hD.sub (ws' := []) [] (by decide) rfl) hS ⟨(by unfold F_write F_tray; (repeat' split) <;> first | rfl | (exfalso; omega)), rfl⟩ dX11_write_30
    have tc_12 := f_ne (k := 3) (by decide) c_12
    exfalso; omega
  · skip
    have tc_2 := F_isTray_0 c_2
    refine lv_ldc2 hx hb hown (hts _ kw_988) dX11_write_7 ?_
    refine W.widen (k := 0) (n := 0) (Nat.le_of_ble_eq_true rfl) (Nat.le_of_ble_eq_true rfl) ?_
    exact e_l (u := []) hx hb hr hlocks (hP.sub (ws' := []) [] rfl) (hD.sub (ws' := []) [] (by decide) rfl) hS ⟨(by unfold F_write F_tray; (repeat' split) <;> first | rfl | (exfalso; omega)), rfl⟩ dX11_write_10
set_option maxHeartbeats 4000000 in
set_option maxRecDepth 100000 in
theorem x_image (l : Launch) (D : va_G) (cB cI cJ cZ cS cW cT cR : ClassId) (h0 : Nat) (a_wl : Nat) (a_iw : Nat) (a_is : Nat) (a_i0 : Nat) (a_i0b : Nat) (a_i0s : Nat) (a_i1 : Nat) (a_i1b : Nat) (a_i1s : Nat) (a_st : Nat) (a_sb : Nat) (a_ss : Nat) (i_0 : Int32) (a_tp : Nat) (a_rd : Nat) (a_bf : Nat) (a_ps : Nat) (a_tr : Nat) (a_rw : Nat) (a_or : Nat) (a_wy : Nat) (a_ct : Nat) (a_ch : Nat) (a_tn : Nat) (a_bt : Nat) (a_wax : Nat) (a_way : Nat) (a_wai : Nat) (a_wal : Nat) (a_waw : Nat) (f_i0b : Nat → Int32) (f_i0s : Nat → Int32) (f_i1b : Nat → Int32) (f_i1s : Nat → Int32) (f_sb : Nat → Int32) (f_ss : Nat → Int32) : Kon l D (tyl cB cI cJ cZ cS cW cT cR) yX11_image cX11_image 2 (some (.int)) { frames := 2, cells := 0, slots := 0, locals := 81 } [.ref h0, .int i_0] [(h0, .inr (11, [.ref a_tp, .int 0, .ref a_rd, .ref a_wl, .ref a_st, .ref a_bf, .ref a_ps, .int 0, .int 0, .ref a_iw, .ref a_is, .ref a_tr, .ref a_rw, .ref a_or, .ref a_wy, .ref a_ct, .ref a_ch, .ref a_tn, .ref a_bt, .int (-1)])), (a_wl, .inr (9, [.int 0, .int 0, .int 0, .int 0, .int 0, .int 0, .ref a_wax, .ref a_way, .ref a_wai, .ref a_wal, .ref a_waw, .null, .int 0, .int 1])), (a_iw, .inl (cW, 2, .inr (.inr (.inr (.inr (fun _ => none)))))), (a_is, .inl (cS, 2, .inr (.inr (.inr (.inr (va_up (va_up (fun _ => none) 0 (some a_i0)) 1 (some a_i1))))))), (a_i0, .inr (6, [.int 0, .int 0, .int 0, .int 0, .ref a_i0b, .ref a_i0s])), (a_i0b, .inl (cI, 14, .inl f_i0b)), (a_i0s, .inl (cI, 14, .inl f_i0s)), (a_i1, .inr (6, [.int 0, .int 0, .int 0, .int 0, .ref a_i1b, .ref a_i1s])), (a_i1b, .inl (cI, 14, .inl f_i1b)), (a_i1s, .inl (cI, 14, .inl f_i1s)), (a_st, .inr (6, [.int 0, .int 0, .int 0, .int 0, .ref a_sb, .ref a_ss])), (a_sb, .inl (cI, 14, .inl f_sb)), (a_ss, .inl (cI, 14, .inl f_ss))] (Qi D (fun r u => r = F_image i_0 ∧ u = [])) := by
  refine kon_of (by decide) (Nat.le_of_ble_eq_true rfl) (fun p e s m below meth c ls A hx hb hr hml hown hts hlocks hnm hkb hP hD hS hA hl => ?_)
  have hown : s.vm.findClass RX11 = some m.cls := hown
  have hl : lv_has ls 2 [(0, .ref h0), (1, .int i_0)] := hl
  have hP : va_P D cls [(h0, .inr (11, [.ref a_tp, .int 0, .ref a_rd, .ref a_wl, .ref a_st, .ref a_bf, .ref a_ps, .int 0, .int 0, .ref a_iw, .ref a_is, .ref a_tr, .ref a_rw, .ref a_or, .ref a_wy, .ref a_ct, .ref a_ch, .ref a_tn, .ref a_bt, .int (-1)])), (a_wl, .inr (9, [.int 0, .int 0, .int 0, .int 0, .int 0, .int 0, .ref a_wax, .ref a_way, .ref a_wai, .ref a_wal, .ref a_waw, .null, .int 0, .int 1])), (a_iw, .inl (cW, 2, .inr (.inr (.inr (.inr (fun _ => none)))))), (a_is, .inl (cS, 2, .inr (.inr (.inr (.inr (va_up (va_up (fun _ => none) 0 (some a_i0)) 1 (some a_i1))))))), (a_i0, .inr (6, [.int 0, .int 0, .int 0, .int 0, .ref a_i0b, .ref a_i0s])), (a_i0b, .inl (cI, 14, .inl f_i0b)), (a_i0s, .inl (cI, 14, .inl f_i0s)), (a_i1, .inr (6, [.int 0, .int 0, .int 0, .int 0, .ref a_i1b, .ref a_i1s])), (a_i1b, .inl (cI, 14, .inl f_i1b)), (a_i1s, .inl (cI, 14, .inl f_i1s)), (a_st, .inr (6, [.int 0, .int 0, .int 0, .int 0, .ref a_sb, .ref a_ss])), (a_sb, .inl (cI, 14, .inl f_sb)), (a_ss, .inl (cI, 14, .inl f_ss))] s.heap := hP
  refine lv_iload_n hx hb dX11_image_0 rfl (lv_at hl 1 rfl) ?_
  have hPc := hP.sub (ws' := []) [] rfl
  have hDc := hD.sub (ws' := []) [] (by decide) rfl
  refine k_i (wc := []) (wr := [(h0, .inr (11, [.ref a_tp, .int 0, .ref a_rd, .ref a_wl, .ref a_st, .ref a_bf, .ref a_ps, .int 0, .int 0, .ref a_iw, .ref a_is, .ref a_tr, .ref a_rw, .ref a_or, .ref a_wy, .ref a_ct, .ref a_ch, .ref a_tn, .ref a_bt, .int (-1)])), (a_wl, .inr (9, [.int 0, .int 0, .int 0, .int 0, .int 0, .int 0, .ref a_wax, .ref a_way, .ref a_wai, .ref a_wal, .ref a_waw, .null, .int 0, .int 1])), (a_iw, .inl (cW, 2, .inr (.inr (.inr (.inr (fun _ => none)))))), (a_is, .inl (cS, 2, .inr (.inr (.inr (.inr (va_up (va_up (fun _ => none) 0 (some a_i0)) 1 (some a_i1))))))), (a_i0, .inr (6, [.int 0, .int 0, .int 0, .int 0, .ref a_i0b, .ref a_i0s])), (a_i0b, .inl (cI, 14, .inl f_i0b)), (a_i0s, .inl (cI, 14, .inl f_i0s)), (a_i1, .inr (6, [.int 0, .int 0, .int 0, .int 0, .ref a_i1b, .ref a_i1s])), (a_i1b, .inl (cI, 14, .inl f_i1b)), (a_i1s, .inl (cI, 14, .inl f_i1s)), (a_st, .inr (6, [.int 0, .int 0, .int 0, .int 0, .ref a_sb, .ref a_ss])), (a_sb, .inl (cI, 14, .inl f_sb)), (a_ss, .inl (cI, 14, .inl f_ss))]) hP hD hS hA [] [0, 1, 2, 3, 4, 5, 6, 7, 8, 9, 10, 11, 12] rfl rfl rfl (by decide) (r_S (n := 1) (As := [.int i_0]) hx hb hml hown hts hkb hPc hDc (c_isImage l D cB cI cJ cZ cS cW cT cR i_0) kw_1202 kw_1203 kw_1 kw_1204 (by decide +kernel) ⟨Nat.le_of_ble_eq_true rfl, Nat.le_of_ble_eq_true rfl⟩ rfl rfl hl.1 (Nat.le_of_ble_eq_true rfl) dX11_image_1 ⟨Nat.le_of_ble_eq_true rfl, Nat.le_of_ble_eq_true rfl⟩) (fun r_1 u H locs hw hP hD hS => ?_)
  obtain ⟨rfl, rfl⟩ := hw
  have hP : va_P D cls [(h0, .inr (11, [.ref a_tp, .int 0, .ref a_rd, .ref a_wl, .ref a_st, .ref a_bf, .ref a_ps, .int 0, .int 0, .ref a_iw, .ref a_is, .ref a_tr, .ref a_rw, .ref a_or, .ref a_wy, .ref a_ct, .ref a_ch, .ref a_tn, .ref a_bt, .int (-1)])), (a_wl, .inr (9, [.int 0, .int 0, .int 0, .int 0, .int 0, .int 0, .ref a_wax, .ref a_way, .ref a_wai, .ref a_wal, .ref a_waw, .null, .int 0, .int 1])), (a_iw, .inl (cW, 2, .inr (.inr (.inr (.inr (fun _ => none)))))), (a_is, .inl (cS, 2, .inr (.inr (.inr (.inr (va_up (va_up (fun _ => none) 0 (some a_i0)) 1 (some a_i1))))))), (a_i0, .inr (6, [.int 0, .int 0, .int 0, .int 0, .ref a_i0b, .ref a_i0s])), (a_i0b, .inl (cI, 14, .inl f_i0b)), (a_i0s, .inl (cI, 14, .inl f_i0s)), (a_i1, .inr (6, [.int 0, .int 0, .int 0, .int 0, .ref a_i1b, .ref a_i1s])), (a_i1b, .inl (cI, 14, .inl f_i1b)), (a_i1s, .inl (cI, 14, .inl f_i1s)), (a_st, .inr (6, [.int 0, .int 0, .int 0, .int 0, .ref a_sb, .ref a_ss])), (a_sb, .inl (cI, 14, .inl f_sb)), (a_ss, .inl (cI, 14, .inl f_ss))] H := hP
  have hD : va_D A [(h0, .inr (11, [.ref a_tp, .int 0, .ref a_rd, .ref a_wl, .ref a_st, .ref a_bf, .ref a_ps, .int 0, .int 0, .ref a_iw, .ref a_is, .ref a_tr, .ref a_rw, .ref a_or, .ref a_wy, .ref a_ct, .ref a_ch, .ref a_tn, .ref a_bt, .int (-1)])), (a_wl, .inr (9, [.int 0, .int 0, .int 0, .int 0, .int 0, .int 0, .ref a_wax, .ref a_way, .ref a_wai, .ref a_wal, .ref a_waw, .null, .int 0, .int 1])), (a_iw, .inl (cW, 2, .inr (.inr (.inr (.inr (fun _ => none)))))), (a_is, .inl (cS, 2, .inr (.inr (.inr (.inr (va_up (va_up (fun _ => none) 0 (some a_i0)) 1 (some a_i1))))))), (a_i0, .inr (6, [.int 0, .int 0, .int 0, .int 0, .ref a_i0b, .ref a_i0s])), (a_i0b, .inl (cI, 14, .inl f_i0b)), (a_i0s, .inl (cI, 14, .inl f_i0s)), (a_i1, .inr (6, [.int 0, .int 0, .int 0, .int 0, .ref a_i1b, .ref a_i1s])), (a_i1b, .inl (cI, 14, .inl f_i1b)), (a_i1s, .inl (cI, 14, .inl f_i1s)), (a_st, .inr (6, [.int 0, .int 0, .int 0, .int 0, .ref a_sb, .ref a_ss])), (a_sb, .inl (cI, 14, .inl f_sb)), (a_ss, .inl (cI, 14, .inl f_ss))] := hD
  refine W.widen (k := 0) (n := 0) (Nat.le_of_ble_eq_true rfl) (Nat.le_of_ble_eq_true rfl) ?_
  refine lv_if_ne (tgt := 10) hx hb dX11_image_4 (by decide) (fun c_2 => ?_) (fun c_2 => ?_)
  · skip
    have tc_2 := F_isImage_1 c_2
    by_cases c_3 : i_0 = 0
    · skip
      subst c_3
      have zc_3 : (0 : Int32).toInt = 0 := by decide
      refine lv_aload_n hx hb dX11_image_10 rfl (lv_at hl 0 rfl) ?_
      refine va_get (D := D) (ci := 11) (v := .ref a_iw) (C := RX11) (T := TX11) (N := 20) hx hb hts uX11 hown hkb.1 hP 0 rfl rfl 9 (by decide) (hts _ kw_369) (fun _ h9 => h9) rfl dX11_image_11 ?_
      refine lv_iload_n hx hb dX11_image_14 rfl (lv_at hl 1 rfl) ?_
      refine lv_aload_n hx hb dX11_image_15 rfl (lv_at hl 0 rfl) ?_
      refine va_get (D := D) (ci := 11) (v := .ref a_wl) (C := RX11) (T := TX11) (N := 20) hx hb hts uX11 hown hkb.1 hP 0 rfl rfl 3 (by decide) (hts _ kw_363) (fun _ h9 => h9) rfl dX11_image_16 ?_
      refine s_q 2 5 1 9 hx hb hkb.1 hP hD hS rfl rfl rfl rfl (in_c (by decide +kernel)) 0 (by decide +kernel) dX11_image_19 (fun H locs hP hD hS => ?_)
      have hP : va_P D cls [(h0, .inr (11, [.ref a_tp, .int 0, .ref a_rd, .ref a_wl, .ref a_st, .ref a_bf, .ref a_ps, .int 0, .int 0, .ref a_iw, .ref a_is, .ref a_tr, .ref a_rw, .ref a_or, .ref a_wy, .ref a_ct, .ref a_ch, .ref a_tn, .ref a_bt, .int (-1)])), (a_wl, .inr (9, [.int 0, .int 0, .int 0, .int 0, .int 0, .int 0, .ref a_wax, .ref a_way, .ref a_wai, .ref a_wal, .ref a_waw, .null, .int 0, .int 1])), (a_iw, .inl (cW, 2, .inr (.inr (.inr (.inr (va_up (fun _ => none) 0 (some a_wl))))))), (a_is, .inl (cS, 2, .inr (.inr (.inr (.inr (va_up (va_up (fun _ => none) 0 (some a_i0)) 1 (some a_i1))))))), (a_i0, .inr (6, [.int 0, .int 0, .int 0, .int 0, .ref a_i0b, .ref a_i0s])), (a_i0b, .inl (cI, 14, .inl f_i0b)), (a_i0s, .inl (cI, 14, .inl f_i0s)), (a_i1, .inr (6, [.int 0, .int 0, .int 0, .int 0, .ref a_i1b, .ref a_i1s])), (a_i1b, .inl (cI, 14, .inl f_i1b)), (a_i1s, .inl (cI, 14, .inl f_i1s)), (a_st, .inr (6, [.int 0, .int 0, .int 0, .int 0, .ref a_sb, .ref a_ss])), (a_sb, .inl (cI, 14, .inl f_sb)), (a_ss, .inl (cI, 14, .inl f_ss))] H := hP
      have hD : va_D A [(h0, .inr (11, [.ref a_tp, .int 0, .ref a_rd, .ref a_wl, .ref a_st, .ref a_bf, .ref a_ps, .int 0, .int 0, .ref a_iw, .ref a_is, .ref a_tr, .ref a_rw, .ref a_or, .ref a_wy, .ref a_ct, .ref a_ch, .ref a_tn, .ref a_bt, .int (-1)])), (a_wl, .inr (9, [.int 0, .int 0, .int 0, .int 0, .int 0, .int 0, .ref a_wax, .ref a_way, .ref a_wai, .ref a_wal, .ref a_waw, .null, .int 0, .int 1])), (a_iw, .inl (cW, 2, .inr (.inr (.inr (.inr (va_up (fun _ => none) 0 (some a_wl))))))), (a_is, .inl (cS, 2, .inr (.inr (.inr (.inr (va_up (va_up (fun _ => none) 0 (some a_i0)) 1 (some a_i1))))))), (a_i0, .inr (6, [.int 0, .int 0, .int 0, .int 0, .ref a_i0b, .ref a_i0s])), (a_i0b, .inl (cI, 14, .inl f_i0b)), (a_i0s, .inl (cI, 14, .inl f_i0s)), (a_i1, .inr (6, [.int 0, .int 0, .int 0, .int 0, .ref a_i1b, .ref a_i1s])), (a_i1b, .inl (cI, 14, .inl f_i1b)), (a_i1s, .inl (cI, 14, .inl f_i1s)), (a_st, .inr (6, [.int 0, .int 0, .int 0, .int 0, .ref a_sb, .ref a_ss])), (a_sb, .inl (cI, 14, .inl f_sb)), (a_ss, .inl (cI, 14, .inl f_ss))] := hD
      refine lv_aload_n hx hb dX11_image_20 rfl (lv_at hl 0 rfl) ?_
      refine va_get (D := D) (ci := 11) (v := .ref a_is) (C := RX11) (T := TX11) (N := 20) hx hb hts uX11 hown hkb.1 hP 0 rfl rfl 10 (by decide) (hts _ kw_370) (fun _ h9 => h9) rfl dX11_image_21 ?_
      refine lv_iload_n hx hb dX11_image_24 rfl (lv_at hl 1 rfl) ?_
      refine va_aldq hx hb hkb.1 hP 3 4 rfl rfl (in_c (by decide +kernel)) dX11_image_25 ?_
      refine lv_topcv (y := .ref a_i0) (by rfl) ?_
      refine lv_aload_n hx hb dX11_image_26 rfl (lv_at hl 0 rfl) ?_
      refine va_get (D := D) (ci := 11) (v := .ref a_st) (C := RX11) (T := TX11) (N := 20) hx hb hts uX11 hown hkb.1 hP 0 rfl rfl 4 (by decide) (hts _ kw_364) (fun _ h9 => h9) rfl dX11_image_27 ?_
      have hPc := hP.sub (ws' := [(a_i0, .inr (6, [.int 0, .int 0, .int 0, .int 0, .ref a_i0b, .ref a_i0s])), (a_i0b, .inl (cI, 14, .inl f_i0b)), (a_i0s, .inl (cI, 14, .inl f_i0s)), (a_st, .inr (6, [.int 0, .int 0, .int 0, .int 0, .ref a_sb, .ref a_ss])), (a_sb, .inl (cI, 14, .inl f_sb)), (a_ss, .inl (cI, 14, .inl f_ss))]) [4, 5, 6, 10, 11, 12] rfl
      have hDc := hD.sub (ws' := [(a_i0, .inr (6, [.int 0, .int 0, .int 0, .int 0, .ref a_i0b, .ref a_i0s])), (a_i0b, .inl (cI, 14, .inl f_i0b)), (a_i0s, .inl (cI, 14, .inl f_i0s)), (a_st, .inr (6, [.int 0, .int 0, .int 0, .int 0, .ref a_sb, .ref a_ss])), (a_sb, .inl (cI, 14, .inl f_sb)), (a_ss, .inl (cI, 14, .inl f_ss))]) [4, 5, 6, 10, 11, 12] (by decide) rfl
      refine k_v (wc := [(a_i0, .inr (6, [.int 0, .int 0, .int 0, .int 0, .ref a_i0b, .ref a_i0s])), (a_i0b, .inl (cI, 14, .inl f_i0b)), (a_i0s, .inl (cI, 14, .inl f_i0s)), (a_st, .inr (6, [.int 0, .int 0, .int 0, .int 0, .ref a_sb, .ref a_ss])), (a_sb, .inl (cI, 14, .inl f_sb)), (a_ss, .inl (cI, 14, .inl f_ss))]) (wr := [(h0, .inr (11, [.ref a_tp, .int 0, .ref a_rd, .ref a_wl, .ref a_st, .ref a_bf, .ref a_ps, .int 0, .int 0, .ref a_iw, .ref a_is, .ref a_tr, .ref a_rw, .ref a_or, .ref a_wy, .ref a_ct, .ref a_ch, .ref a_tn, .ref a_bt, .int (-1)])), (a_wl, .inr (9, [.int 0, .int 0, .int 0, .int 0, .int 0, .int 0, .ref a_wax, .ref a_way, .ref a_wai, .ref a_wal, .ref a_waw, .null, .int 0, .int 1])), (a_iw, .inl (cW, 2, .inr (.inr (.inr (.inr (va_up (fun _ => none) 0 (some a_wl))))))), (a_is, .inl (cS, 2, .inr (.inr (.inr (.inr (va_up (va_up (fun _ => none) 0 (some a_i0)) 1 (some a_i1))))))), (a_i1, .inr (6, [.int 0, .int 0, .int 0, .int 0, .ref a_i1b, .ref a_i1s])), (a_i1b, .inl (cI, 14, .inl f_i1b)), (a_i1s, .inl (cI, 14, .inl f_i1s))]) hP hD hS hA [4, 5, 6, 10, 11, 12] [0, 1, 2, 3, 7, 8, 9] rfl rfl rfl (by decide) (r_V (n := 1) (As := [.ref a_st]) (ci := 6) (q0 := 0) hx hb hml hown hts hkb hPc hDc (c_take l D cB cI cJ cZ cS cW cT cR a_i0 a_i0b a_i0s a_st a_sb a_ss 0 0 0 0 f_i0b f_i0s 0 0 0 0 f_sb f_ss) kw_757 kw_758 kw_759 kw_7 kw_760 (by decide +kernel) ⟨Nat.le_of_ble_eq_true rfl, Nat.le_of_ble_eq_true rfl⟩ rfl rfl rfl rfl hl.1 (Nat.le_of_ble_eq_true rfl) dX11_image_30 ⟨Nat.le_of_ble_eq_true rfl, Nat.le_of_ble_eq_true rfl⟩) (fun u H locs hw hP hD hS => ?_)
      obtain ⟨f_4, f_5, rfl⟩ := hw
      have hP : va_P D cls [(h0, .inr (11, [.ref a_tp, .int 0, .ref a_rd, .ref a_wl, .ref a_st, .ref a_bf, .ref a_ps, .int 0, .int 0, .ref a_iw, .ref a_is, .ref a_tr, .ref a_rw, .ref a_or, .ref a_wy, .ref a_ct, .ref a_ch, .ref a_tn, .ref a_bt, .int (-1)])), (a_wl, .inr (9, [.int 0, .int 0, .int 0, .int 0, .int 0, .int 0, .ref a_wax, .ref a_way, .ref a_wai, .ref a_wal, .ref a_waw, .null, .int 0, .int 1])), (a_iw, .inl (cW, 2, .inr (.inr (.inr (.inr (va_up (fun _ => none) 0 (some a_wl))))))), (a_is, .inl (cS, 2, .inr (.inr (.inr (.inr (va_up (va_up (fun _ => none) 0 (some a_i0)) 1 (some a_i1))))))), (a_i1, .inr (6, [.int 0, .int 0, .int 0, .int 0, .ref a_i1b, .ref a_i1s])), (a_i1b, .inl (cI, 14, .inl f_i1b)), (a_i1s, .inl (cI, 14, .inl f_i1s)), (a_i0, .inr (6, [.int 0, .int 0, .int 0, .int 0, .ref a_i0b, .ref a_i0s])), (a_i0b, .inl (cI, 14, .inl f_4)), (a_i0s, .inl (cI, 14, .inl f_5)), (a_st, .inr (6, [.int 0, .int 0, .int 0, .int 0, .ref a_sb, .ref a_ss])), (a_sb, .inl (cI, 14, .inl f_sb)), (a_ss, .inl (cI, 14, .inl f_ss))] H := hP
      have hD : va_D A [(h0, .inr (11, [.ref a_tp, .int 0, .ref a_rd, .ref a_wl, .ref a_st, .ref a_bf, .ref a_ps, .int 0, .int 0, .ref a_iw, .ref a_is, .ref a_tr, .ref a_rw, .ref a_or, .ref a_wy, .ref a_ct, .ref a_ch, .ref a_tn, .ref a_bt, .int (-1)])), (a_wl, .inr (9, [.int 0, .int 0, .int 0, .int 0, .int 0, .int 0, .ref a_wax, .ref a_way, .ref a_wai, .ref a_wal, .ref a_waw, .null, .int 0, .int 1])), (a_iw, .inl (cW, 2, .inr (.inr (.inr (.inr (va_up (fun _ => none) 0 (some a_wl))))))), (a_is, .inl (cS, 2, .inr (.inr (.inr (.inr (va_up (va_up (fun _ => none) 0 (some a_i0)) 1 (some a_i1))))))), (a_i1, .inr (6, [.int 0, .int 0, .int 0, .int 0, .ref a_i1b, .ref a_i1s])), (a_i1b, .inl (cI, 14, .inl f_i1b)), (a_i1s, .inl (cI, 14, .inl f_i1s)), (a_i0, .inr (6, [.int 0, .int 0, .int 0, .int 0, .ref a_i0b, .ref a_i0s])), (a_i0b, .inl (cI, 14, .inl f_4)), (a_i0s, .inl (cI, 14, .inl f_5)), (a_st, .inr (6, [.int 0, .int 0, .int 0, .int 0, .ref a_sb, .ref a_ss])), (a_sb, .inl (cI, 14, .inl f_sb)), (a_ss, .inl (cI, 14, .inl f_ss))] := hD
      refine W.widen (k := 0) (n := 0) (Nat.le_of_ble_eq_true rfl) (Nat.le_of_ble_eq_true rfl) ?_
      refine lv_iconst (v := 0) hx hb dX11_image_33 (by decide) ?_
      refine W.widen (k := 0) (n := 0) (Nat.le_of_ble_eq_true rfl) (Nat.le_of_ble_eq_true rfl) ?_
      exact e_i (u := []) hx hb hr hlocks (hP.sub (ws' := []) [] rfl) (hD.sub (ws' := []) [] (by decide) rfl) hS ⟨(by unfold F_image; (repeat' split) <;> first | rfl | (exfalso; omega)), rfl⟩ dX11_image_34
    have tc_3 := f_ne (k := 0) (by decide) c_3
    by_cases c_7 : i_0 = 1
    · skip
      subst c_7
      have zc_7 : (1 : Int32).toInt = 1 := by decide
      refine lv_aload_n hx hb dX11_image_10 rfl (lv_at hl 0 rfl) ?_
      refine va_get (D := D) (ci := 11) (v := .ref a_iw) (C := RX11) (T := TX11) (N := 20) hx hb hts uX11 hown hkb.1 hP 0 rfl rfl 9 (by decide) (hts _ kw_369) (fun _ h9 => h9) rfl dX11_image_11 ?_
      refine lv_iload_n hx hb dX11_image_14 rfl (lv_at hl 1 rfl) ?_
      refine lv_aload_n hx hb dX11_image_15 rfl (lv_at hl 0 rfl) ?_
      refine va_get (D := D) (ci := 11) (v := .ref a_wl) (C := RX11) (T := TX11) (N := 20) hx hb hts uX11 hown hkb.1 hP 0 rfl rfl 3 (by decide) (hts _ kw_363) (fun _ h9 => h9) rfl dX11_image_16 ?_
      refine s_q 2 5 1 9 hx hb hkb.1 hP hD hS rfl rfl rfl rfl (in_c (by decide +kernel)) 1 (by decide +kernel) dX11_image_19 (fun H locs hP hD hS => ?_)
      have hP : va_P D cls [(h0, .inr (11, [.ref a_tp, .int 0, .ref a_rd, .ref a_wl, .ref a_st, .ref a_bf, .ref a_ps, .int 0, .int 0, .ref a_iw, .ref a_is, .ref a_tr, .ref a_rw, .ref a_or, .ref a_wy, .ref a_ct, .ref a_ch, .ref a_tn, .ref a_bt, .int (-1)])), (a_wl, .inr (9, [.int 0, .int 0, .int 0, .int 0, .int 0, .int 0, .ref a_wax, .ref a_way, .ref a_wai, .ref a_wal, .ref a_waw, .null, .int 0, .int 1])), (a_iw, .inl (cW, 2, .inr (.inr (.inr (.inr (va_up (fun _ => none) 1 (some a_wl))))))), (a_is, .inl (cS, 2, .inr (.inr (.inr (.inr (va_up (va_up (fun _ => none) 0 (some a_i0)) 1 (some a_i1))))))), (a_i0, .inr (6, [.int 0, .int 0, .int 0, .int 0, .ref a_i0b, .ref a_i0s])), (a_i0b, .inl (cI, 14, .inl f_i0b)), (a_i0s, .inl (cI, 14, .inl f_i0s)), (a_i1, .inr (6, [.int 0, .int 0, .int 0, .int 0, .ref a_i1b, .ref a_i1s])), (a_i1b, .inl (cI, 14, .inl f_i1b)), (a_i1s, .inl (cI, 14, .inl f_i1s)), (a_st, .inr (6, [.int 0, .int 0, .int 0, .int 0, .ref a_sb, .ref a_ss])), (a_sb, .inl (cI, 14, .inl f_sb)), (a_ss, .inl (cI, 14, .inl f_ss))] H := hP
      have hD : va_D A [(h0, .inr (11, [.ref a_tp, .int 0, .ref a_rd, .ref a_wl, .ref a_st, .ref a_bf, .ref a_ps, .int 0, .int 0, .ref a_iw, .ref a_is, .ref a_tr, .ref a_rw, .ref a_or, .ref a_wy, .ref a_ct, .ref a_ch, .ref a_tn, .ref a_bt, .int (-1)])), (a_wl, .inr (9, [.int 0, .int 0, .int 0, .int 0, .int 0, .int 0, .ref a_wax, .ref a_way, .ref a_wai, .ref a_wal, .ref a_waw, .null, .int 0, .int 1])), (a_iw, .inl (cW, 2, .inr (.inr (.inr (.inr (va_up (fun _ => none) 1 (some a_wl))))))), (a_is, .inl (cS, 2, .inr (.inr (.inr (.inr (va_up (va_up (fun _ => none) 0 (some a_i0)) 1 (some a_i1))))))), (a_i0, .inr (6, [.int 0, .int 0, .int 0, .int 0, .ref a_i0b, .ref a_i0s])), (a_i0b, .inl (cI, 14, .inl f_i0b)), (a_i0s, .inl (cI, 14, .inl f_i0s)), (a_i1, .inr (6, [.int 0, .int 0, .int 0, .int 0, .ref a_i1b, .ref a_i1s])), (a_i1b, .inl (cI, 14, .inl f_i1b)), (a_i1s, .inl (cI, 14, .inl f_i1s)), (a_st, .inr (6, [.int 0, .int 0, .int 0, .int 0, .ref a_sb, .ref a_ss])), (a_sb, .inl (cI, 14, .inl f_sb)), (a_ss, .inl (cI, 14, .inl f_ss))] := hD
      refine lv_aload_n hx hb dX11_image_20 rfl (lv_at hl 0 rfl) ?_
      refine va_get (D := D) (ci := 11) (v := .ref a_is) (C := RX11) (T := TX11) (N := 20) hx hb hts uX11 hown hkb.1 hP 0 rfl rfl 10 (by decide) (hts _ kw_370) (fun _ h9 => h9) rfl dX11_image_21 ?_
      refine lv_iload_n hx hb dX11_image_24 rfl (lv_at hl 1 rfl) ?_
      refine va_aldq hx hb hkb.1 hP 3 4 rfl rfl (in_c (by decide +kernel)) dX11_image_25 ?_
      refine lv_topcv (y := .ref a_i1) (by rfl) ?_
      refine lv_aload_n hx hb dX11_image_26 rfl (lv_at hl 0 rfl) ?_
      refine va_get (D := D) (ci := 11) (v := .ref a_st) (C := RX11) (T := TX11) (N := 20) hx hb hts uX11 hown hkb.1 hP 0 rfl rfl 4 (by decide) (hts _ kw_364) (fun _ h9 => h9) rfl dX11_image_27 ?_
      have hPc := hP.sub (ws' := [(a_i1, .inr (6, [.int 0, .int 0, .int 0, .int 0, .ref a_i1b, .ref a_i1s])), (a_i1b, .inl (cI, 14, .inl f_i1b)), (a_i1s, .inl (cI, 14, .inl f_i1s)), (a_st, .inr (6, [.int 0, .int 0, .int 0, .int 0, .ref a_sb, .ref a_ss])), (a_sb, .inl (cI, 14, .inl f_sb)), (a_ss, .inl (cI, 14, .inl f_ss))]) [7, 8, 9, 10, 11, 12] rfl
      have hDc := hD.sub (ws' := [(a_i1, .inr (6, [.int 0, .int 0, .int 0, .int 0, .ref a_i1b, .ref a_i1s])), (a_i1b, .inl (cI, 14, .inl f_i1b)), (a_i1s, .inl (cI, 14, .inl f_i1s)), (a_st, .inr (6, [.int 0, .int 0, .int 0, .int 0, .ref a_sb, .ref a_ss])), (a_sb, .inl (cI, 14, .inl f_sb)), (a_ss, .inl (cI, 14, .inl f_ss))]) [7, 8, 9, 10, 11, 12] (by decide) rfl
      refine k_v (wc := [(a_i1, .inr (6, [.int 0, .int 0, .int 0, .int 0, .ref a_i1b, .ref a_i1s])), (a_i1b, .inl (cI, 14, .inl f_i1b)), (a_i1s, .inl (cI, 14, .inl f_i1s)), (a_st, .inr (6, [.int 0, .int 0, .int 0, .int 0, .ref a_sb, .ref a_ss])), (a_sb, .inl (cI, 14, .inl f_sb)), (a_ss, .inl (cI, 14, .inl f_ss))]) (wr := [(h0, .inr (11, [.ref a_tp, .int 0, .ref a_rd, .ref a_wl, .ref a_st, .ref a_bf, .ref a_ps, .int 0, .int 0, .ref a_iw, .ref a_is, .ref a_tr, .ref a_rw, .ref a_or, .ref a_wy, .ref a_ct, .ref a_ch, .ref a_tn, .ref a_bt, .int (-1)])), (a_wl, .inr (9, [.int 0, .int 0, .int 0, .int 0, .int 0, .int 0, .ref a_wax, .ref a_way, .ref a_wai, .ref a_wal, .ref a_waw, .null, .int 0, .int 1])), (a_iw, .inl (cW, 2, .inr (.inr (.inr (.inr (va_up (fun _ => none) 1 (some a_wl))))))), (a_is, .inl (cS, 2, .inr (.inr (.inr (.inr (va_up (va_up (fun _ => none) 0 (some a_i0)) 1 (some a_i1))))))), (a_i0, .inr (6, [.int 0, .int 0, .int 0, .int 0, .ref a_i0b, .ref a_i0s])), (a_i0b, .inl (cI, 14, .inl f_i0b)), (a_i0s, .inl (cI, 14, .inl f_i0s))]) hP hD hS hA [7, 8, 9, 10, 11, 12] [0, 1, 2, 3, 4, 5, 6] rfl rfl rfl (by decide) (r_V (n := 1) (As := [.ref a_st]) (ci := 6) (q0 := 0) hx hb hml hown hts hkb hPc hDc (c_take l D cB cI cJ cZ cS cW cT cR a_i1 a_i1b a_i1s a_st a_sb a_ss 0 0 0 0 f_i1b f_i1s 0 0 0 0 f_sb f_ss) kw_757 kw_758 kw_759 kw_7 kw_760 (by decide +kernel) ⟨Nat.le_of_ble_eq_true rfl, Nat.le_of_ble_eq_true rfl⟩ rfl rfl rfl rfl hl.1 (Nat.le_of_ble_eq_true rfl) dX11_image_30 ⟨Nat.le_of_ble_eq_true rfl, Nat.le_of_ble_eq_true rfl⟩) (fun u H locs hw hP hD hS => ?_)
      obtain ⟨f_8, f_9, rfl⟩ := hw
      have hP : va_P D cls [(h0, .inr (11, [.ref a_tp, .int 0, .ref a_rd, .ref a_wl, .ref a_st, .ref a_bf, .ref a_ps, .int 0, .int 0, .ref a_iw, .ref a_is, .ref a_tr, .ref a_rw, .ref a_or, .ref a_wy, .ref a_ct, .ref a_ch, .ref a_tn, .ref a_bt, .int (-1)])), (a_wl, .inr (9, [.int 0, .int 0, .int 0, .int 0, .int 0, .int 0, .ref a_wax, .ref a_way, .ref a_wai, .ref a_wal, .ref a_waw, .null, .int 0, .int 1])), (a_iw, .inl (cW, 2, .inr (.inr (.inr (.inr (va_up (fun _ => none) 1 (some a_wl))))))), (a_is, .inl (cS, 2, .inr (.inr (.inr (.inr (va_up (va_up (fun _ => none) 0 (some a_i0)) 1 (some a_i1))))))), (a_i0, .inr (6, [.int 0, .int 0, .int 0, .int 0, .ref a_i0b, .ref a_i0s])), (a_i0b, .inl (cI, 14, .inl f_i0b)), (a_i0s, .inl (cI, 14, .inl f_i0s)), (a_i1, .inr (6, [.int 0, .int 0, .int 0, .int 0, .ref a_i1b, .ref a_i1s])), (a_i1b, .inl (cI, 14, .inl f_8)), (a_i1s, .inl (cI, 14, .inl f_9)), (a_st, .inr (6, [.int 0, .int 0, .int 0, .int 0, .ref a_sb, .ref a_ss])), (a_sb, .inl (cI, 14, .inl f_sb)), (a_ss, .inl (cI, 14, .inl f_ss))] H := hP
      have hD : va_D A [(h0, .inr (11, [.ref a_tp, .int 0, .ref a_rd, .ref a_wl, .ref a_st, .ref a_bf, .ref a_ps, .int 0, .int 0, .ref a_iw, .ref a_is, .ref a_tr, .ref a_rw, .ref a_or, .ref a_wy, .ref a_ct, .ref a_ch, .ref a_tn, .ref a_bt, .int (-1)])), (a_wl, .inr (9, [.int 0, .int 0, .int 0, .int 0, .int 0, .int 0, .ref a_wax, .ref a_way, .ref a_wai, .ref a_wal, .ref a_waw, .null, .int 0, .int 1])), (a_iw, .inl (cW, 2, .inr (.inr (.inr (.inr (va_up (fun _ => none) 1 (some a_wl))))))), (a_is, .inl (cS, 2, .inr (.inr (.inr (.inr (va_up (va_up (fun _ => none) 0 (some a_i0)) 1 (some a_i1))))))), (a_i0, .inr (6, [.int 0, .int 0, .int 0, .int 0, .ref a_i0b, .ref a_i0s])), (a_i0b, .inl (cI, 14, .inl f_i0b)), (a_i0s, .inl (cI, 14, .inl f_i0s)), (a_i1, .inr (6, [.int 0, .int 0, .int 0, .int 0, .ref a_i1b, .ref a_i1s])), (a_i1b, .inl (cI, 14, .inl f_8)), (a_i1s, .inl (cI, 14, .inl f_9)), (a_st, .inr (6, [.int 0, .int 0, .int 0, .int 0, .ref a_sb, .ref a_ss])), (a_sb, .inl (cI, 14, .inl f_sb)), (a_ss, .inl (cI, 14, .inl f_ss))] := hD
      refine W.widen (k := 0) (n := 0) (Nat.le_of_ble_eq_true rfl) (Nat.le_of_ble_eq_true rfl) ?_
      refine lv_iconst (v := 0) hx hb dX11_image_33 (by decide) ?_
      refine W.widen (k := 0) (n := 0) (Nat.le_of_ble_eq_true rfl) (Nat.le_of_ble_eq_true rfl) ?_
      exact e_i (u := []) hx hb hr hlocks (hP.sub (ws' := []) [] rfl) (hD.sub (ws' := []) [] (by decide) rfl) hS ⟨(by unfold F_image; (repeat' split) <;> first | rfl | (exfalso; omega)), rfl⟩ dX11_image_34
    have tc_7 := f_ne (k := 1) (by decide) c_7
    exfalso; omega
  · skip
    have tc_2 := F_isImage_0 c_2
    refine lv_bipush (v := (-2)) hx hb dX11_image_7 (by decide) ?_
    refine W.widen (k := 0) (n := 0) (Nat.le_of_ble_eq_true rfl) (Nat.le_of_ble_eq_true rfl) ?_
    exact e_i (u := []) hx hb hr hlocks (hP.sub (ws' := []) [] rfl) (hD.sub (ws' := []) [] (by decide) rfl) hS ⟨(by unfold F_image; (repeat' split) <;> first | rfl | (exfalso; omega)), rfl⟩ dX11_image_9
set_option maxHeartbeats 4000000 in
set_option maxRecDepth 100000 in
theorem x_restore (l : Launch) (D : va_G) (cB cI cJ cZ cS cW cT cR : ClassId) (h0 : Nat) (a_iw : Nat) (i_0 : Int32) (a_tp : Nat) (a_rd : Nat) (a_wl : Nat) (a_st : Nat) (a_bf : Nat) (a_ps : Nat) (a_is : Nat) (a_tr : Nat) (a_rw : Nat) (a_or : Nat) (a_wy : Nat) (a_ct : Nat) (a_ch : Nat) (a_tn : Nat) (a_bt : Nat) : Kon l D (tyl cB cI cJ cZ cS cW cT cR) yX11_restore cX11_restore 2 (some (.int)) { frames := 1, cells := 0, slots := 0, locals := 20 } [.ref h0, .int i_0] [(h0, .inr (11, [.ref a_tp, .int 0, .ref a_rd, .ref a_wl, .ref a_st, .ref a_bf, .ref a_ps, .int 0, .int 0, .ref a_iw, .ref a_is, .ref a_tr, .ref a_rw, .ref a_or, .ref a_wy, .ref a_ct, .ref a_ch, .ref a_tn, .ref a_bt, .int (-1)])), (a_iw, .inl (cW, 2, .inr (.inr (.inr (.inr (fun _ => none))))))] (Qi D (fun r u => r = F_restore i_0 ∧ u = [])) := by
  refine kon_of (by decide) (Nat.le_of_ble_eq_true rfl) (fun p e s m below meth c ls A hx hb hr hml hown hts hlocks hnm hkb hP hD hS hA hl => ?_)
  have hown : s.vm.findClass RX11 = some m.cls := hown
  have hl : lv_has ls 2 [(0, .ref h0), (1, .int i_0)] := hl
  have hP : va_P D cls [(h0, .inr (11, [.ref a_tp, .int 0, .ref a_rd, .ref a_wl, .ref a_st, .ref a_bf, .ref a_ps, .int 0, .int 0, .ref a_iw, .ref a_is, .ref a_tr, .ref a_rw, .ref a_or, .ref a_wy, .ref a_ct, .ref a_ch, .ref a_tn, .ref a_bt, .int (-1)])), (a_iw, .inl (cW, 2, .inr (.inr (.inr (.inr (fun _ => none))))))] s.heap := hP
  refine lv_iload_n hx hb dX11_restore_0 rfl (lv_at hl 1 rfl) ?_
  have hPc := hP.sub (ws' := []) [] rfl
  have hDc := hD.sub (ws' := []) [] (by decide) rfl
  refine k_i (wc := []) (wr := [(h0, .inr (11, [.ref a_tp, .int 0, .ref a_rd, .ref a_wl, .ref a_st, .ref a_bf, .ref a_ps, .int 0, .int 0, .ref a_iw, .ref a_is, .ref a_tr, .ref a_rw, .ref a_or, .ref a_wy, .ref a_ct, .ref a_ch, .ref a_tn, .ref a_bt, .int (-1)])), (a_iw, .inl (cW, 2, .inr (.inr (.inr (.inr (fun _ => none))))))]) hP hD hS hA [] [0, 1] rfl rfl rfl (by decide) (r_S (n := 1) (As := [.int i_0]) hx hb hml hown hts hkb hPc hDc (c_isImage l D cB cI cJ cZ cS cW cT cR i_0) kw_1202 kw_1203 kw_1 kw_1204 (by decide +kernel) ⟨Nat.le_of_ble_eq_true rfl, Nat.le_of_ble_eq_true rfl⟩ rfl rfl hl.1 (Nat.le_of_ble_eq_true rfl) dX11_restore_1 ⟨Nat.le_of_ble_eq_true rfl, Nat.le_of_ble_eq_true rfl⟩) (fun r_1 u H locs hw hP hD hS => ?_)
  obtain ⟨rfl, rfl⟩ := hw
  have hP : va_P D cls [(h0, .inr (11, [.ref a_tp, .int 0, .ref a_rd, .ref a_wl, .ref a_st, .ref a_bf, .ref a_ps, .int 0, .int 0, .ref a_iw, .ref a_is, .ref a_tr, .ref a_rw, .ref a_or, .ref a_wy, .ref a_ct, .ref a_ch, .ref a_tn, .ref a_bt, .int (-1)])), (a_iw, .inl (cW, 2, .inr (.inr (.inr (.inr (fun _ => none))))))] H := hP
  have hD : va_D A [(h0, .inr (11, [.ref a_tp, .int 0, .ref a_rd, .ref a_wl, .ref a_st, .ref a_bf, .ref a_ps, .int 0, .int 0, .ref a_iw, .ref a_is, .ref a_tr, .ref a_rw, .ref a_or, .ref a_wy, .ref a_ct, .ref a_ch, .ref a_tn, .ref a_bt, .int (-1)])), (a_iw, .inl (cW, 2, .inr (.inr (.inr (.inr (fun _ => none))))))] := hD
  refine W.widen (k := 0) (n := 0) (Nat.le_of_ble_eq_true rfl) (Nat.le_of_ble_eq_true rfl) ?_
  refine lv_if_ne (tgt := 10) hx hb dX11_restore_4 (by decide) (fun c_2 => ?_) (fun c_2 => ?_)
  · skip
    have tc_2 := F_isImage_1 c_2
    by_cases c_3 : i_0 = 0
    · skip
      subst c_3
      have zc_3 : (0 : Int32).toInt = 0 := by decide
      refine lv_aload_n hx hb dX11_restore_10 rfl (lv_at hl 0 rfl) ?_
      refine va_get (D := D) (ci := 11) (v := .ref a_iw) (C := RX11) (T := TX11) (N := 20) hx hb hts uX11 hown hkb.1 hP 0 rfl rfl 9 (by decide) (hts _ kw_369) (fun _ h9 => h9) rfl dX11_restore_11 ?_
      refine lv_iload_n hx hb dX11_restore_14 rfl (lv_at hl 1 rfl) ?_
      refine va_aldq hx hb hkb.1 hP 1 5 rfl rfl (in_c (by decide +kernel)) dX11_restore_15 ?_
      refine lv_topcv (y := .null) (by rfl) ?_
      refine lv_ifnonnullN hx hb dX11_restore_16 ?_
      refine lv_bipush (v := (-5)) hx hb dX11_restore_19 (by decide) ?_
      refine W.widen (k := 0) (n := 0) (Nat.le_of_ble_eq_true rfl) (Nat.le_of_ble_eq_true rfl) ?_
      exact e_i (u := []) hx hb hr hlocks (hP.sub (ws' := []) [] rfl) (hD.sub (ws' := []) [] (by decide) rfl) hS ⟨(by unfold F_restore; (repeat' split) <;> first | rfl | (exfalso; omega)), rfl⟩ dX11_restore_21
    have tc_3 := f_ne (k := 0) (by decide) c_3
    by_cases c_4 : i_0 = 1
    · skip
      subst c_4
      have zc_4 : (1 : Int32).toInt = 1 := by decide
      refine lv_aload_n hx hb dX11_restore_10 rfl (lv_at hl 0 rfl) ?_
      refine va_get (D := D) (ci := 11) (v := .ref a_iw) (C := RX11) (T := TX11) (N := 20) hx hb hts uX11 hown hkb.1 hP 0 rfl rfl 9 (by decide) (hts _ kw_369) (fun _ h9 => h9) rfl dX11_restore_11 ?_
      refine lv_iload_n hx hb dX11_restore_14 rfl (lv_at hl 1 rfl) ?_
      refine va_aldq hx hb hkb.1 hP 1 5 rfl rfl (in_c (by decide +kernel)) dX11_restore_15 ?_
      refine lv_topcv (y := .null) (by rfl) ?_
      refine lv_ifnonnullN hx hb dX11_restore_16 ?_
      refine lv_bipush (v := (-5)) hx hb dX11_restore_19 (by decide) ?_
      refine W.widen (k := 0) (n := 0) (Nat.le_of_ble_eq_true rfl) (Nat.le_of_ble_eq_true rfl) ?_
      exact e_i (u := []) hx hb hr hlocks (hP.sub (ws' := []) [] rfl) (hD.sub (ws' := []) [] (by decide) rfl) hS ⟨(by unfold F_restore; (repeat' split) <;> first | rfl | (exfalso; omega)), rfl⟩ dX11_restore_21
    have tc_4 := f_ne (k := 1) (by decide) c_4
    exfalso; omega
  · skip
    have tc_2 := F_isImage_0 c_2
    refine lv_bipush (v := (-2)) hx hb dX11_restore_7 (by decide) ?_
    refine W.widen (k := 0) (n := 0) (Nat.le_of_ble_eq_true rfl) (Nat.le_of_ble_eq_true rfl) ?_
    exact e_i (u := []) hx hb hr hlocks (hP.sub (ws' := []) [] rfl) (hD.sub (ws' := []) [] (by decide) rfl) hS ⟨(by unfold F_restore; (repeat' split) <;> first | rfl | (exfalso; omega)), rfl⟩ dX11_restore_9
