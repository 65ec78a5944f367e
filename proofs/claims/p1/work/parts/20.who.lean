set_option maxHeartbeats 4000000 in
set_option maxRecDepth 100000 in
theorem c_isHold (l : Launch) (D : va_G) (cB cI cJ cZ cS cW cT cR : ClassId) (h0 : Nat) (a_wl : Nat) (i_h : Int32) (a_tp : Nat) (a_rd : Nat) (a_st : Nat) (a_bf : Nat) (a_ps : Nat) (a_iw : Nat) (a_is : Nat) (a_tr : Nat) (a_rw : Nat) (a_or : Nat) (a_wy : Nat) (a_ct : Nat) (a_ch : Nat) (a_tn : Nat) (a_bt : Nat) (a_wax : Nat) (a_way : Nat) (a_wai : Nat) (a_wal : Nat) (a_waw : Nat) : Kon l D (tyl cB cI cJ cZ cS cW cT cR) yX11_isHold cX11_isHold 2 (some (.boolean)) { frames := 0, cells := 0, slots := 0, locals := 0 } [.ref h0, .int i_h] [(h0, .inr (11, [.ref a_tp, .int 0, .ref a_rd, .ref a_wl, .ref a_st, .ref a_bf, .ref a_ps, .int 0, .int 0, .ref a_iw, .ref a_is, .ref a_tr, .ref a_rw, .ref a_or, .ref a_wy, .ref a_ct, .ref a_ch, .ref a_tn, .ref a_bt, .int (-1)])), (a_wl, .inr (9, [.int 0, .int 0, .int 0, .int 0, .int 0, .int 0, .ref a_wax, .ref a_way, .ref a_wai, .ref a_wal, .ref a_waw, .null, .int 0, .int 1]))] (Qi D (fun r u => r = 0 ∧ u = [(h0, .inr (11, [.ref a_tp, .int 0, .ref a_rd, .ref a_wl, .ref a_st, .ref a_bf, .ref a_ps, .int 0, .int 0, .ref a_iw, .ref a_is, .ref a_tr, .ref a_rw, .ref a_or, .ref a_wy, .ref a_ct, .ref a_ch, .ref a_tn, .ref a_bt, .int (-1)])), (a_wl, .inr (9, [.int 0, .int 0, .int 0, .int 0, .int 0, .int 0, .ref a_wax, .ref a_way, .ref a_wai, .ref a_wal, .ref a_waw, .null, .int 0, .int 1]))])) := by
  refine kon_of (by decide) (Nat.le_of_ble_eq_true rfl) (fun p e s m below meth c ls A hx hb hr hml hown hts hlocks hnm hkb hP hD hS hA hl => ?_)
  have hown : s.vm.findClass RX11 = some m.cls := hown
  have hl : lv_has ls 2 [(0, .ref h0), (1, .int i_h)] := hl
  have hP : va_P D cls [(h0, .inr (11, [.ref a_tp, .int 0, .ref a_rd, .ref a_wl, .ref a_st, .ref a_bf, .ref a_ps, .int 0, .int 0, .ref a_iw, .ref a_is, .ref a_tr, .ref a_rw, .ref a_or, .ref a_wy, .ref a_ct, .ref a_ch, .ref a_tn, .ref a_bt, .int (-1)])), (a_wl, .inr (9, [.int 0, .int 0, .int 0, .int 0, .int 0, .int 0, .ref a_wax, .ref a_way, .ref a_wai, .ref a_wal, .ref a_waw, .null, .int 0, .int 1]))] s.heap := hP
  refine lv_iload_n hx hb dX11_isHold_0 rfl (lv_at hl 1 rfl) ?_
  refine lv_if_lt (tgt := 19) hx hb dX11_isHold_1 (by decide) (fun c_1 => ?_) (fun c_1 => ?_)
  · skip
    have tc_1 := f_lt (k := 0) (by decide) c_1
    refine lv_iconst (v := 0) hx hb dX11_isHold_19 (by decide) ?_
    refine W.widen (k := 0) (n := 0) (Nat.le_of_ble_eq_true rfl) (Nat.le_of_ble_eq_true rfl) ?_
    exact e_z (u := [(h0, .inr (11, [.ref a_tp, .int 0, .ref a_rd, .ref a_wl, .ref a_st, .ref a_bf, .ref a_ps, .int 0, .int 0, .ref a_iw, .ref a_is, .ref a_tr, .ref a_rw, .ref a_or, .ref a_wy, .ref a_ct, .ref a_ch, .ref a_tn, .ref a_bt, .int (-1)])), (a_wl, .inr (9, [.int 0, .int 0, .int 0, .int 0, .int 0, .int 0, .ref a_wax, .ref a_way, .ref a_wai, .ref a_wal, .ref a_waw, .null, .int 0, .int 1]))]) hx hb hr hlocks (by rfl) (hP.sub (ws' := [(h0, .inr (11, [.ref a_tp, .int 0, .ref a_rd, .ref a_wl, .ref a_st, .ref a_bf, .ref a_ps, .int 0, .int 0, .ref a_iw, .ref a_is, .ref a_tr, .ref a_rw, .ref a_or, .ref a_wy, .ref a_ct, .ref a_ch, .ref a_tn, .ref a_bt, .int (-1)])), (a_wl, .inr (9, [.int 0, .int 0, .int 0, .int 0, .int 0, .int 0, .ref a_wax, .ref a_way, .ref a_wai, .ref a_wal, .ref a_waw, .null, .int 0, .int 1]))]) [0, 1] rfl) (hD.sub (ws' := [(h0, .inr (11, [.ref a_tp, .int 0, .ref a_rd, .ref a_wl, .ref a_st, .ref a_bf, .ref a_ps, .int 0, .int 0, .ref a_iw, .ref a_is, .ref a_tr, .ref a_rw, .ref a_or, .ref a_wy, .ref a_ct, .ref a_ch, .ref a_tn, .ref a_bt, .int (-1)])), (a_wl, .inr (9, [.int 0, .int 0, .int 0, .int 0, .int 0, .int 0, .ref a_wax, .ref a_way, .ref a_wai, .ref a_wal, .ref a_waw, .null, .int 0, .int 1]))]) [0, 1] (by decide) rfl) hS ⟨(by first | rfl | (exfalso; omega)), rfl⟩ dX11_isHold_20
  · skip
    have tc_1 := f_nlt (k := 0) (by decide) c_1
    refine lv_iload_n hx hb dX11_isHold_4 rfl (lv_at hl 1 rfl) ?_
    refine lv_aload_n hx hb dX11_isHold_5 rfl (lv_at hl 0 rfl) ?_
    refine va_get (D := D) (ci := 11) (v := .ref a_wl) (C := RX11) (T := TX11) (N := 20) hx hb hts uX11 hown hkb.1 hP 0 rfl rfl 3 (by decide) (hts _ kw_363) (fun _ h9 => h9) rfl dX11_isHold_6 ?_
    refine va_get (D := D) (ci := 9) (v := .int 0) (C := RX9) (T := TX9) (N := 14) hx hb hts uX9 hown hkb.1 hP 1 rfl rfl 0 (by decide) (hts _ kw_109) (fun _ h9 => h9) rfl dX11_isHold_9 ?_
    refine lv_icmp_ge (tgt := 19) hx hb dX11_isHold_12 (by decide) (fun c_2 => ?_) (fun c_2 => ?_)
    · skip
      have tc_2 := f_ge (k := 0) (by decide) c_2
      refine lv_iconst (v := 0) hx hb dX11_isHold_19 (by decide) ?_
      refine W.widen (k := 0) (n := 0) (Nat.le_of_ble_eq_true rfl) (Nat.le_of_ble_eq_true rfl) ?_
      exact e_z (u := [(h0, .inr (11, [.ref a_tp, .int 0, .ref a_rd, .ref a_wl, .ref a_st, .ref a_bf, .ref a_ps, .int 0, .int 0, .ref a_iw, .ref a_is, .ref a_tr, .ref a_rw, .ref a_or, .ref a_wy, .ref a_ct, .ref a_ch, .ref a_tn, .ref a_bt, .int (-1)])), (a_wl, .inr (9, [.int 0, .int 0, .int 0, .int 0, .int 0, .int 0, .ref a_wax, .ref a_way, .ref a_wai, .ref a_wal, .ref a_waw, .null, .int 0, .int 1]))]) hx hb hr hlocks (by rfl) (hP.sub (ws' := [(h0, .inr (11, [.ref a_tp, .int 0, .ref a_rd, .ref a_wl, .ref a_st, .ref a_bf, .ref a_ps, .int 0, .int 0, .ref a_iw, .ref a_is, .ref a_tr, .ref a_rw, .ref a_or, .ref a_wy, .ref a_ct, .ref a_ch, .ref a_tn, .ref a_bt, .int (-1)])), (a_wl, .inr (9, [.int 0, .int 0, .int 0, .int 0, .int 0, .int 0, .ref a_wax, .ref a_way, .ref a_wai, .ref a_wal, .ref a_waw, .null, .int 0, .int 1]))]) [0, 1] rfl) (hD.sub (ws' := [(h0, .inr (11, [.ref a_tp, .int 0, .ref a_rd, .ref a_wl, .ref a_st, .ref a_bf, .ref a_ps, .int 0, .int 0, .ref a_iw, .ref a_is, .ref a_tr, .ref a_rw, .ref a_or, .ref a_wy, .ref a_ct, .ref a_ch, .ref a_tn, .ref a_bt, .int (-1)])), (a_wl, .inr (9, [.int 0, .int 0, .int 0, .int 0, .int 0, .int 0, .ref a_wax, .ref a_way, .ref a_wai, .ref a_wal, .ref a_waw, .null, .int 0, .int 1]))]) [0, 1] (by decide) rfl) hS ⟨(by first | rfl | (exfalso; omega)), rfl⟩ dX11_isHold_20
    · skip
      have tc_2 := f_nge (k := 0) (by decide) c_2
      exfalso; omega
set_option maxHeartbeats 4000000 in
set_option maxRecDepth 100000 in
theorem c_isGuide (l : Launch) (D : va_G) (cB cI cJ cZ cS cW cT cR : ClassId) (h0 : Nat) (a_wl : Nat) (i_g : Int32) (a_tp : Nat) (a_rd : Nat) (a_st : Nat) (a_bf : Nat) (a_ps : Nat) (a_iw : Nat) (a_is : Nat) (a_tr : Nat) (a_rw : Nat) (a_or : Nat) (a_wy : Nat) (a_ct : Nat) (a_ch : Nat) (a_tn : Nat) (a_bt : Nat) (a_wax : Nat) (a_way : Nat) (a_wai : Nat) (a_wal : Nat) (a_waw : Nat) : Kon l D (tyl cB cI cJ cZ cS cW cT cR) yX11_isGuide cX11_isGuide 2 (some (.boolean)) { frames := 0, cells := 0, slots := 0, locals := 0 } [.ref h0, .int i_g] [(h0, .inr (11, [.ref a_tp, .int 0, .ref a_rd, .ref a_wl, .ref a_st, .ref a_bf, .ref a_ps, .int 0, .int 0, .ref a_iw, .ref a_is, .ref a_tr, .ref a_rw, .ref a_or, .ref a_wy, .ref a_ct, .ref a_ch, .ref a_tn, .ref a_bt, .int (-1)])), (a_wl, .inr (9, [.int 0, .int 0, .int 0, .int 0, .int 0, .int 0, .ref a_wax, .ref a_way, .ref a_wai, .ref a_wal, .ref a_waw, .null, .int 0, .int 1]))] (Qi D (fun r u => r = 0 ∧ u = [(h0, .inr (11, [.ref a_tp, .int 0, .ref a_rd, .ref a_wl, .ref a_st, .ref a_bf, .ref a_ps, .int 0, .int 0, .ref a_iw, .ref a_is, .ref a_tr, .ref a_rw, .ref a_or, .ref a_wy, .ref a_ct, .ref a_ch, .ref a_tn, .ref a_bt, .int (-1)])), (a_wl, .inr (9, [.int 0, .int 0, .int 0, .int 0, .int 0, .int 0, .ref a_wax, .ref a_way, .ref a_wai, .ref a_wal, .ref a_waw, .null, .int 0, .int 1]))])) := by
  refine kon_of (by decide) (Nat.le_of_ble_eq_true rfl) (fun p e s m below meth c ls A hx hb hr hml hown hts hlocks hnm hkb hP hD hS hA hl => ?_)
  have hown : s.vm.findClass RX11 = some m.cls := hown
  have hl : lv_has ls 2 [(0, .ref h0), (1, .int i_g)] := hl
  have hP : va_P D cls [(h0, .inr (11, [.ref a_tp, .int 0, .ref a_rd, .ref a_wl, .ref a_st, .ref a_bf, .ref a_ps, .int 0, .int 0, .ref a_iw, .ref a_is, .ref a_tr, .ref a_rw, .ref a_or, .ref a_wy, .ref a_ct, .ref a_ch, .ref a_tn, .ref a_bt, .int (-1)])), (a_wl, .inr (9, [.int 0, .int 0, .int 0, .int 0, .int 0, .int 0, .ref a_wax, .ref a_way, .ref a_wai, .ref a_wal, .ref a_waw, .null, .int 0, .int 1]))] s.heap := hP
  refine lv_iload_n hx hb dX11_isGuide_0 rfl (lv_at hl 1 rfl) ?_
  refine lv_if_lt (tgt := 19) hx hb dX11_isGuide_1 (by decide) (fun c_1 => ?_) (fun c_1 => ?_)
  · skip
    have tc_1 := f_lt (k := 0) (by decide) c_1
    refine lv_iconst (v := 0) hx hb dX11_isGuide_19 (by decide) ?_
    refine W.widen (k := 0) (n := 0) (Nat.le_of_ble_eq_true rfl) (Nat.le_of_ble_eq_true rfl) ?_
    exact e_z (u := [(h0, .inr (11, [.ref a_tp, .int 0, .ref a_rd, .ref a_wl, .ref a_st, .ref a_bf, .ref a_ps, .int 0, .int 0, .ref a_iw, .ref a_is, .ref a_tr, .ref a_rw, .ref a_or, .ref a_wy, .ref a_ct, .ref a_ch, .ref a_tn, .ref a_bt, .int (-1)])), (a_wl, .inr (9, [.int 0, .int 0, .int 0, .int 0, .int 0, .int 0, .ref a_wax, .ref a_way, .ref a_wai, .ref a_wal, .ref a_waw, .null, .int 0, .int 1]))]) hx hb hr hlocks (by rfl) (hP.sub (ws' := [(h0, .inr (11, [.ref a_tp, .int 0, .ref a_rd, .ref a_wl, .ref a_st, .ref a_bf, .ref a_ps, .int 0, .int 0, .ref a_iw, .ref a_is, .ref a_tr, .ref a_rw, .ref a_or, .ref a_wy, .ref a_ct, .ref a_ch, .ref a_tn, .ref a_bt, .int (-1)])), (a_wl, .inr (9, [.int 0, .int 0, .int 0, .int 0, .int 0, .int 0, .ref a_wax, .ref a_way, .ref a_wai, .ref a_wal, .ref a_waw, .null, .int 0, .int 1]))]) [0, 1] rfl) (hD.sub (ws' := [(h0, .inr (11, [.ref a_tp, .int 0, .ref a_rd, .ref a_wl, .ref a_st, .ref a_bf, .ref a_ps, .int 0, .int 0, .ref a_iw, .ref a_is, .ref a_tr, .ref a_rw, .ref a_or, .ref a_wy, .ref a_ct, .ref a_ch, .ref a_tn, .ref a_bt, .int (-1)])), (a_wl, .inr (9, [.int 0, .int 0, .int 0, .int 0, .int 0, .int 0, .ref a_wax, .ref a_way, .ref a_wai, .ref a_wal, .ref a_waw, .null, .int 0, .int 1]))]) [0, 1] (by decide) rfl) hS ⟨(by first | rfl | (exfalso; omega)), rfl⟩ dX11_isGuide_20
  · skip
    have tc_1 := f_nlt (k := 0) (by decide) c_1
    refine lv_iload_n hx hb dX11_isGuide_4 rfl (lv_at hl 1 rfl) ?_
    refine lv_aload_n hx hb dX11_isGuide_5 rfl (lv_at hl 0 rfl) ?_
    refine va_get (D := D) (ci := 11) (v := .ref a_wl) (C := RX11) (T := TX11) (N := 20) hx hb hts uX11 hown hkb.1 hP 0 rfl rfl 3 (by decide) (hts _ kw_363) (fun _ h9 => h9) rfl dX11_isGuide_6 ?_
    refine va_get (D := D) (ci := 9) (v := .int 0) (C := RX9) (T := TX9) (N := 14) hx hb hts uX9 hown hkb.1 hP 1 rfl rfl 1 (by decide) (hts _ kw_112) (fun _ h9 => h9) rfl dX11_isGuide_9 ?_
    refine lv_icmp_ge (tgt := 19) hx hb dX11_isGuide_12 (by decide) (fun c_2 => ?_) (fun c_2 => ?_)
    · skip
      have tc_2 := f_ge (k := 0) (by decide) c_2
      refine lv_iconst (v := 0) hx hb dX11_isGuide_19 (by decide) ?_
      refine W.widen (k := 0) (n := 0) (Nat.le_of_ble_eq_true rfl) (Nat.le_of_ble_eq_true rfl) ?_
      exact e_z (u := [(h0, .inr (11, [.ref a_tp, .int 0, .ref a_rd, .ref a_wl, .ref a_st, .ref a_bf, .ref a_ps, .int 0, .int 0, .ref a_iw, .ref a_is, .ref a_tr, .ref a_rw, .ref a_or, .ref a_wy, .ref a_ct, .ref a_ch, .ref a_tn, .ref a_bt, .int (-1)])), (a_wl, .inr (9, [.int 0, .int 0, .int 0, .int 0, .int 0, .int 0, .ref a_wax, .ref a_way, .ref a_wai, .ref a_wal, .ref a_waw, .null, .int 0, .int 1]))]) hx hb hr hlocks (by rfl) (hP.sub (ws' := [(h0, .inr (11, [.ref a_tp, .int 0, .ref a_rd, .ref a_wl, .ref a_st, .ref a_bf, .ref a_ps, .int 0, .int 0, .ref a_iw, .ref a_is, .ref a_tr, .ref a_rw, .ref a_or, .ref a_wy, .ref a_ct, .ref a_ch, .ref a_tn, .ref a_bt, .int (-1)])), (a_wl, .inr (9, [.int 0, .int 0, .int 0, .int 0, .int 0, .int 0, .ref a_wax, .ref a_way, .ref a_wai, .ref a_wal, .ref a_waw, .null, .int 0, .int 1]))]) [0, 1] rfl) (hD.sub (ws' := [(h0, .inr (11, [.ref a_tp, .int 0, .ref a_rd, .ref a_wl, .ref a_st, .ref a_bf, .ref a_ps, .int 0, .int 0, .ref a_iw, .ref a_is, .ref a_tr, .ref a_rw, .ref a_or, .ref a_wy, .ref a_ct, .ref a_ch, .ref a_tn, .ref a_bt, .int (-1)])), (a_wl, .inr (9, [.int 0, .int 0, .int 0, .int 0, .int 0, .int 0, .ref a_wax, .ref a_way, .ref a_wai, .ref a_wal, .ref a_waw, .null, .int 0, .int 1]))]) [0, 1] (by decide) rfl) hS ⟨(by first | rfl | (exfalso; omega)), rfl⟩ dX11_isGuide_20
    · skip
      have tc_2 := f_nge (k := 0) (by decide) c_2
      exfalso; omega
set_option maxHeartbeats 4000000 in
set_option maxRecDepth 100000 in
theorem c_isTray (l : Launch) (D : va_G) (cB cI cJ cZ cS cW cT cR : ClassId) (i_t : Int32) : Kon l D (tyl cB cI cJ cZ cS cW cT cR) yX11_isTray cX11_isTray 1 (some (.boolean)) { frames := 0, cells := 0, slots := 0, locals := 0 } [.int i_t] [] (Qi D (fun r u => r = F_isTray i_t ∧ u = [])) := by
  refine kon_of (by decide) (Nat.le_of_ble_eq_true rfl) (fun p e s m below meth c ls A hx hb hr hml hown hts hlocks hnm hkb hP hD hS hA hl => ?_)
  have hown : s.vm.findClass RX11 = some m.cls := hown
  have hl : lv_has ls 1 [(0, .int i_t)] := hl
  have hP : va_P D cls [] s.heap := hP
  refine lv_iload_n hx hb dX11_isTray_0 rfl (lv_at hl 0 rfl) ?_
  refine lv_if_lt (tgt := 13) hx hb dX11_isTray_1 (by decide) (fun c_1 => ?_) (fun c_1 => ?_)
  · skip
    have tc_1 := f_lt (k := 0) (by decide) c_1
    refine lv_iconst (v := 0) hx hb dX11_isTray_13 (by decide) ?_
    refine W.widen (k := 0) (n := 0) (Nat.le_of_ble_eq_true rfl) (Nat.le_of_ble_eq_true rfl) ?_
    exact e_z (u := []) hx hb hr hlocks (by rfl) (hP.sub (ws' := []) [] rfl) (hD.sub (ws' := []) [] (by decide) rfl) hS ⟨(by unfold F_isTray; (repeat' split) <;> first | rfl | (exfalso; omega)), rfl⟩ dX11_isTray_14
  · skip
    have tc_1 := f_nlt (k := 0) (by decide) c_1
    refine lv_iload_n hx hb dX11_isTray_4 rfl (lv_at hl 0 rfl) ?_
    refine lv_iconst (v := 4) hx hb dX11_isTray_5 (by decide) ?_
    refine lv_icmp_ge (tgt := 13) hx hb dX11_isTray_6 (by decide) (fun c_2 => ?_) (fun c_2 => ?_)
    · skip
      have tc_2 := f_ge (k := 4) (by decide) c_2
      refine lv_iconst (v := 0) hx hb dX11_isTray_13 (by decide) ?_
      refine W.widen (k := 0) (n := 0) (Nat.le_of_ble_eq_true rfl) (Nat.le_of_ble_eq_true rfl) ?_
      exact e_z (u := []) hx hb hr hlocks (by rfl) (hP.sub (ws' := []) [] rfl) (hD.sub (ws' := []) [] (by decide) rfl) hS ⟨(by unfold F_isTray; (repeat' split) <;> first | rfl | (exfalso; omega)), rfl⟩ dX11_isTray_14
    · skip
      have tc_2 := f_nge (k := 4) (by decide) c_2
      refine lv_iconst (v := 1) hx hb dX11_isTray_9 (by decide) ?_
      refine lv_goto (tgt := 14) hx hb dX11_isTray_10 (by decide) ?_
      refine W.widen (k := 0) (n := 0) (Nat.le_of_ble_eq_true rfl) (Nat.le_of_ble_eq_true rfl) ?_
      exact e_z (u := []) hx hb hr hlocks (by rfl) (hP.sub (ws' := []) [] rfl) (hD.sub (ws' := []) [] (by decide) rfl) hS ⟨(by unfold F_isTray; (repeat' split) <;> first | rfl | (exfalso; omega)), rfl⟩ dX11_isTray_14
set_option maxHeartbeats 4000000 in
set_option maxRecDepth 100000 in
theorem c_isImage (l : Launch) (D : va_G) (cB cI cJ cZ cS cW cT cR : ClassId) (i_t : Int32) : Kon l D (tyl cB cI cJ cZ cS cW cT cR) yX11_isImage cX11_isImage 1 (some (.boolean)) { frames := 0, cells := 0, slots := 0, locals := 0 } [.int i_t] [] (Qi D (fun r u => r = F_isImage i_t ∧ u = [])) := by
  refine kon_of (by decide) (Nat.le_of_ble_eq_true rfl) (fun p e s m below meth c ls A hx hb hr hml hown hts hlocks hnm hkb hP hD hS hA hl => ?_)
  have hown : s.vm.findClass RX11 = some m.cls := hown
  have hl : lv_has ls 1 [(0, .int i_t)] := hl
  have hP : va_P D cls [] s.heap := hP
  refine lv_iload_n hx hb dX11_isImage_0 rfl (lv_at hl 0 rfl) ?_
  refine lv_if_lt (tgt := 13) hx hb dX11_isImage_1 (by decide) (fun c_1 => ?_) (fun c_1 => ?_)
  · skip
    have tc_1 := f_lt (k := 0) (by decide) c_1
    refine lv_iconst (v := 0) hx hb dX11_isImage_13 (by decide) ?_
    refine W.widen (k := 0) (n := 0) (Nat.le_of_ble_eq_true rfl) (Nat.le_of_ble_eq_true rfl) ?_
    exact e_z (u := []) hx hb hr hlocks (by rfl) (hP.sub (ws' := []) [] rfl) (hD.sub (ws' := []) [] (by decide) rfl) hS ⟨(by unfold F_isImage; (repeat' split) <;> first | rfl | (exfalso; omega)), rfl⟩ dX11_isImage_14
  · skip
    have tc_1 := f_nlt (k := 0) (by decide) c_1
    refine lv_iload_n hx hb dX11_isImage_4 rfl (lv_at hl 0 rfl) ?_
    refine lv_iconst (v := 2) hx hb dX11_isImage_5 (by decide) ?_
    refine lv_icmp_ge (tgt := 13) hx hb dX11_isImage_6 (by decide) (fun c_2 => ?_) (fun c_2 => ?_)
    · skip
      have tc_2 := f_ge (k := 2) (by decide) c_2
      refine lv_iconst (v := 0) hx hb dX11_isImage_13 (by decide) ?_
      refine W.widen (k := 0) (n := 0) (Nat.le_of_ble_eq_true rfl) (Nat.le_of_ble_eq_true rfl) ?_
      exact e_z (u := []) hx hb hr hlocks (by rfl) (hP.sub (ws' := []) [] rfl) (hD.sub (ws' := []) [] (by decide) rfl) hS ⟨(by unfold F_isImage; (repeat' split) <;> first | rfl | (exfalso; omega)), rfl⟩ dX11_isImage_14
    · skip
      have tc_2 := f_nge (k := 2) (by decide) c_2
      refine lv_iconst (v := 1) hx hb dX11_isImage_9 (by decide) ?_
      refine lv_goto (tgt := 14) hx hb dX11_isImage_10 (by decide) ?_
      refine W.widen (k := 0) (n := 0) (Nat.le_of_ble_eq_true rfl) (Nat.le_of_ble_eq_true rfl) ?_
      exact e_z (u := []) hx hb hr hlocks (by rfl) (hP.sub (ws' := []) [] rfl) (hD.sub (ws' := []) [] (by decide) rfl) hS ⟨(by unfold F_isImage; (repeat' split) <;> first | rfl | (exfalso; omega)), rfl⟩ dX11_isImage_14
set_option maxHeartbeats 4000000 in
set_option maxRecDepth 100000 in
theorem c_asksRow5 (l : Launch) (D : va_G) (cB cI cJ cZ cS cW cT cR : ClassId) (i_w : Int32) : Kon l D (tyl cB cI cJ cZ cS cW cT cR) yX11_asksRow cX11_asksRow 2 (some (.boolean)) { frames := 0, cells := 0, slots := 0, locals := 0 } [.int i_w, .int 5] [] (Qi D (fun r u => r = F_asks5 i_w ∧ u = [])) := by
  refine kon_of (by decide) (Nat.le_of_ble_eq_true rfl) (fun p e s m below meth c ls A hx hb hr hml hown hts hlocks hnm hkb hP hD hS hA hl => ?_)
  have hown : s.vm.findClass RX11 = some m.cls := hown
  have hl : lv_has ls 2 [(0, .int i_w), (1, .int 5)] := hl
  have hP : va_P D cls [] s.heap := hP
  refine lv_iload_n hx hb dX11_asksRow_0 rfl (lv_at hl 0 rfl) ?_
  refine lv_if_eq (tgt := 18) hx hb dX11_asksRow_1 (by decide) (fun c_1 => ?_) (fun c_1 => ?_)
  · skip
    have tc_1 := f_eq (k := 0) (by decide) c_1
    refine lv_iconst (v := 1) hx hb dX11_asksRow_18 (by decide) ?_
    refine lv_goto (tgt := 23) hx hb dX11_asksRow_19 (by decide) ?_
    refine W.widen (k := 0) (n := 0) (Nat.le_of_ble_eq_true rfl) (Nat.le_of_ble_eq_true rfl) ?_
    exact e_z (u := []) hx hb hr hlocks (by rfl) (hP.sub (ws' := []) [] rfl) (hD.sub (ws' := []) [] (by decide) rfl) hS ⟨(by unfold F_asks5; (repeat' split) <;> first | rfl | (exfalso; omega)), rfl⟩ dX11_asksRow_23
  · skip
    have tc_1 := f_ne (k := 0) (by decide) c_1
    refine lv_iload_n hx hb dX11_asksRow_4 rfl (lv_at hl 0 rfl) ?_
    refine lv_bipush (v := 10) hx hb dX11_asksRow_5 (by decide) ?_
    refine lv_icmp_lt (tgt := 22) hx hb dX11_asksRow_7 (by decide) (fun c_2 => ?_) (fun c_2 => ?_)
    · skip
      have tc_2 := f_lt (k := 10) (by decide) c_2
      refine lv_iconst (v := 0) hx hb dX11_asksRow_22 (by decide) ?_
      refine W.widen (k := 0) (n := 0) (Nat.le_of_ble_eq_true rfl) (Nat.le_of_ble_eq_true rfl) ?_
      exact e_z (u := []) hx hb hr hlocks (by rfl) (hP.sub (ws' := []) [] rfl) (hD.sub (ws' := []) [] (by decide) rfl) hS ⟨(by unfold F_asks5; (repeat' split) <;> first | rfl | (exfalso; omega)), rfl⟩ dX11_asksRow_23
    · skip
      have tc_2 := f_nlt (k := 10) (by decide) c_2
      refine lv_iload_n hx hb dX11_asksRow_10 rfl (lv_at hl 0 rfl) ?_
      refine lv_bipush (v := 10) hx hb dX11_asksRow_11 (by decide) ?_
      refine lv_iload_n hx hb dX11_asksRow_13 rfl (lv_at hl 1 rfl) ?_
      refine lv_iadd hx hb dX11_asksRow_14 ?_
      refine lv_topc (y := 15) (by decide +kernel) ?_
      refine lv_icmp_ge (tgt := 22) hx hb dX11_asksRow_15 (by decide) (fun c_3 => ?_) (fun c_3 => ?_)
      · skip
        have tc_3 := f_ge (k := 15) (by decide) c_3
        refine lv_iconst (v := 0) hx hb dX11_asksRow_22 (by decide) ?_
        refine W.widen (k := 0) (n := 0) (Nat.le_of_ble_eq_true rfl) (Nat.le_of_ble_eq_true rfl) ?_
        exact e_z (u := []) hx hb hr hlocks (by rfl) (hP.sub (ws' := []) [] rfl) (hD.sub (ws' := []) [] (by decide) rfl) hS ⟨(by unfold F_asks5; (repeat' split) <;> first | rfl | (exfalso; omega)), rfl⟩ dX11_asksRow_23
      · skip
        have tc_3 := f_nge (k := 15) (by decide) c_3
        refine lv_iconst (v := 1) hx hb dX11_asksRow_18 (by decide) ?_
        refine lv_goto (tgt := 23) hx hb dX11_asksRow_19 (by decide) ?_
        refine W.widen (k := 0) (n := 0) (Nat.le_of_ble_eq_true rfl) (Nat.le_of_ble_eq_true rfl) ?_
        exact e_z (u := []) hx hb hr hlocks (by rfl) (hP.sub (ws' := []) [] rfl) (hD.sub (ws' := []) [] (by decide) rfl) hS ⟨(by unfold F_asks5; (repeat' split) <;> first | rfl | (exfalso; omega)), rfl⟩ dX11_asksRow_23
set_option maxHeartbeats 4000000 in
set_option maxRecDepth 100000 in
theorem c_bitCount0 (l : Launch) (D : va_G) (cB cI cJ cZ cS cW cT cR : ClassId) : Kon l D (tyl cB cI cJ cZ cS cW cT cR) yJ6_bitCount_0f7a4 cJ6_bitCount_0f7a4 1 (some (.int)) { frames := 0, cells := 0, slots := 0, locals := 0 } [.int 0] [] (Qi D (fun r u => r = 0 ∧ u = [])) := by
  refine kon_of (by decide) (Nat.le_of_ble_eq_true rfl) (fun p e s m below meth c ls A hx hb hr hml hown hts hlocks hnm hkb hP hD hS hA hl => ?_)
  have hown : s.vm.findClass RJ6 = some m.cls := hown
  have hl : lv_has ls 1 [(0, .int 0)] := hl
  have hP : va_P D cls [] s.heap := hP
  refine lv_iload_n hx hb dJ6_bitCount_0f7a4_0 rfl (lv_at hl 0 rfl) ?_
  refine lv_iload_n hx hb dJ6_bitCount_0f7a4_1 rfl (lv_at hl 0 rfl) ?_
  refine lv_iconst (v := 1) hx hb dJ6_bitCount_0f7a4_2 (by decide) ?_
  refine lv_iushr hx hb dJ6_bitCount_0f7a4_3 rfl ?_
  refine lv_topc (y := 0) (by decide +kernel) ?_
  refine lv_ldcw hx hb hown (hts _ kw_694) dJ6_bitCount_0f7a4_4 ?_
  refine lv_iand hx hb dJ6_bitCount_0f7a4_7 ?_
  refine lv_topc (y := 0) (by decide +kernel) ?_
  refine lv_isub hx hb dJ6_bitCount_0f7a4_8 ?_
  refine lv_topc (y := 0) (by decide +kernel) ?_
  refine lv_istore_n (lv' := [(0, .int 0)]) hx hb dJ6_bitCount_0f7a4_9 rfl hl (by decide) rfl (fun ls hl => ?_)
  refine lv_iload_n hx hb dJ6_bitCount_0f7a4_10 rfl (lv_at hl 0 rfl) ?_
  refine lv_ldcw hx hb hown (hts _ kw_695) dJ6_bitCount_0f7a4_11 ?_
  refine lv_iand hx hb dJ6_bitCount_0f7a4_14 ?_
  refine lv_topc (y := 0) (by decide +kernel) ?_
  refine lv_iload_n hx hb dJ6_bitCount_0f7a4_15 rfl (lv_at hl 0 rfl) ?_
  refine lv_iconst (v := 2) hx hb dJ6_bitCount_0f7a4_16 (by decide) ?_
  refine lv_iushr hx hb dJ6_bitCount_0f7a4_17 rfl ?_
  refine lv_topc (y := 0) (by decide +kernel) ?_
  refine lv_ldcw hx hb hown (hts _ kw_695) dJ6_bitCount_0f7a4_18 ?_
  refine lv_iand hx hb dJ6_bitCount_0f7a4_21 ?_
  refine lv_topc (y := 0) (by decide +kernel) ?_
  refine lv_iadd hx hb dJ6_bitCount_0f7a4_22 ?_
  refine lv_topc (y := 0) (by decide +kernel) ?_
  refine lv_istore_n (lv' := [(0, .int 0)]) hx hb dJ6_bitCount_0f7a4_23 rfl hl (by decide) rfl (fun ls hl => ?_)
  refine lv_iload_n hx hb dJ6_bitCount_0f7a4_24 rfl (lv_at hl 0 rfl) ?_
  refine lv_iload_n hx hb dJ6_bitCount_0f7a4_25 rfl (lv_at hl 0 rfl) ?_
  refine lv_iconst (v := 4) hx hb dJ6_bitCount_0f7a4_26 (by decide) ?_
  refine lv_iushr hx hb dJ6_bitCount_0f7a4_27 rfl ?_
  refine lv_topc (y := 0) (by decide +kernel) ?_
  refine lv_iadd hx hb dJ6_bitCount_0f7a4_28 ?_
  refine lv_topc (y := 0) (by decide +kernel) ?_
  refine lv_ldcw hx hb hown (hts _ kw_696) dJ6_bitCount_0f7a4_29 ?_
  refine lv_iand hx hb dJ6_bitCount_0f7a4_32 ?_
  refine lv_topc (y := 0) (by decide +kernel) ?_
  refine lv_istore_n (lv' := [(0, .int 0)]) hx hb dJ6_bitCount_0f7a4_33 rfl hl (by decide) rfl (fun ls hl => ?_)
  refine lv_iload_n hx hb dJ6_bitCount_0f7a4_34 rfl (lv_at hl 0 rfl) ?_
  refine lv_iload_n hx hb dJ6_bitCount_0f7a4_35 rfl (lv_at hl 0 rfl) ?_
  refine lv_bipush (v := 8) hx hb dJ6_bitCount_0f7a4_36 (by decide) ?_
  refine lv_iushr hx hb dJ6_bitCount_0f7a4_38 rfl ?_
  refine lv_topc (y := 0) (by decide +kernel) ?_
  refine lv_iadd hx hb dJ6_bitCount_0f7a4_39 ?_
  refine lv_topc (y := 0) (by decide +kernel) ?_
  refine lv_istore_n (lv' := [(0, .int 0)]) hx hb dJ6_bitCount_0f7a4_40 rfl hl (by decide) rfl (fun ls hl => ?_)
  refine lv_iload_n hx hb dJ6_bitCount_0f7a4_41 rfl (lv_at hl 0 rfl) ?_
  refine lv_iload_n hx hb dJ6_bitCount_0f7a4_42 rfl (lv_at hl 0 rfl) ?_
  refine lv_bipush (v := 16) hx hb dJ6_bitCount_0f7a4_43 (by decide) ?_
  refine lv_iushr hx hb dJ6_bitCount_0f7a4_45 rfl ?_
  refine lv_topc (y := 0) (by decide +kernel) ?_
  refine lv_iadd hx hb dJ6_bitCount_0f7a4_46 ?_
  refine lv_topc (y := 0) (by decide +kernel) ?_
  refine lv_istore_n (lv' := [(0, .int 0)]) hx hb dJ6_bitCount_0f7a4_47 rfl hl (by decide) rfl (fun ls hl => ?_)
  refine lv_iload_n hx hb dJ6_bitCount_0f7a4_48 rfl (lv_at hl 0 rfl) ?_
  refine lv_bipush (v := 63) hx hb dJ6_bitCount_0f7a4_49 (by decide) ?_
  refine lv_iand hx hb dJ6_bitCount_0f7a4_51 ?_
  refine lv_topc (y := 0) (by decide +kernel) ?_
  refine W.widen (k := 0) (n := 0) (Nat.le_of_ble_eq_true rfl) (Nat.le_of_ble_eq_true rfl) ?_
  exact e_i (u := []) hx hb hr hlocks (hP.sub (ws' := []) [] rfl) (hD.sub (ws' := []) [] (by decide) rfl) hS ⟨rfl, rfl⟩ dJ6_bitCount_0f7a4_52
set_option maxHeartbeats 4000000 in
set_option maxRecDepth 100000 in
theorem c_ofRow0 (l : Launch) (D : va_G) (cB cI cJ cZ cS cW cT cR : ClassId) (a_r : Nat) (i_w : Int32) : Kon l D (tyl cB cI cJ cZ cS cW cT cR) yX11_ofRow cX11_ofRow 4 (some (.int)) { frames := 0, cells := 0, slots := 0, locals := 0 } [.ref a_r, .int 0, .int i_w] [] (Qi D (fun r u => r = (-1) ∧ u = [])) := by
  refine kon_of (by decide) (Nat.le_of_ble_eq_true rfl) (fun p e s m below meth c ls A hx hb hr hml hown hts hlocks hnm hkb hP hD hS hA hl => ?_)
  have hown : s.vm.findClass RX11 = some m.cls := hown
  have hl : lv_has ls 4 [(0, .ref a_r), (1, .int 0), (2, .int i_w)] := hl
  have hP : va_P D cls [] s.heap := hP
  refine lv_iload_n hx hb dX11_ofRow_0 rfl (lv_at hl 1 rfl) ?_
  refine lv_if_ne (tgt := 6) hx hb dX11_ofRow_1 (by decide) (fun c_1 => absurd c_1 (by decide)) (fun _ => ?_)
  refine lv_iconst (v := (-1)) hx hb dX11_ofRow_4 (by decide) ?_
  refine W.widen (k := 0) (n := 0) (Nat.le_of_ble_eq_true rfl) (Nat.le_of_ble_eq_true rfl) ?_
  exact e_i (u := []) hx hb hr hlocks (hP.sub (ws' := []) [] rfl) (hD.sub (ws' := []) [] (by decide) rfl) hS ⟨rfl, rfl⟩ dX11_ofRow_5
