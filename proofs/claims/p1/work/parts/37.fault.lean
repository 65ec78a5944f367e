set_option maxHeartbeats 4000000 in
set_option maxRecDepth 100000 in
theorem x_fault (l : Launch) (D : va_G) (cB cI cJ cZ cS cW cT cR : ClassId) (h0 : Nat) (a_rd : Nat) (a_tk : Nat) (i_0 : Int32) (a_tp : Nat) (a_wl : Nat) (a_st : Nat) (a_bf : Nat) (a_ps : Nat) (a_iw : Nat) (a_is : Nat) (a_tr : Nat) (a_rw : Nat) (a_or : Nat) (a_wy : Nat) (a_ct : Nat) (a_ch : Nat) (a_tn : Nat) (a_bt : Nat) (a_lr : Nat) (a_dr : Nat) (a_td : Nat) (a_tx : Nat) : Kon l D (tyl cB cI cJ cZ cS cW cT cR) yX11_fault cX11_fault 2 (some (.int)) { frames := 0, cells := 0, slots := 0, locals := 0 } [.ref h0, .int i_0] [(h0, .inr (11, [.ref a_tp, .int 0, .ref a_rd, .ref a_wl, .ref a_st, .ref a_bf, .ref a_ps, .int 0, .int 0, .ref a_iw, .ref a_is, .ref a_tr, .ref a_rw, .ref a_or, .ref a_wy, .ref a_ct, .ref a_ch, .ref a_tn, .ref a_bt, .int (-1)])), (a_rd, .inr (4, [.ref a_tk, .ref a_lr, .ref a_dr, .int 0, .ref a_td])), (a_tk, .inr (7, [.ref a_tx, .int 0, .int 0, .int 0, .int 0, .int 0, .int 0, .int (-1)]))] (Qi D (fun r u => r = F_fault i_0 ∧ u = [])) := by
  refine kon_of (by decide) (Nat.le_of_ble_eq_true rfl) (fun p e s m below meth c ls A hx hb hr hml hown hts hlocks hnm hkb hP hD hS hA hl => ?_)
  have hown : s.vm.findClass RX11 = some m.cls := hown
  have hl : lv_has ls 2 [(0, .ref h0), (1, .int i_0)] := hl
  have hP : va_P D cls [(h0, .inr (11, [.ref a_tp, .int 0, .ref a_rd, .ref a_wl, .ref a_st, .ref a_bf, .ref a_ps, .int 0, .int 0, .ref a_iw, .ref a_is, .ref a_tr, .ref a_rw, .ref a_or, .ref a_wy, .ref a_ct, .ref a_ch, .ref a_tn, .ref a_bt, .int (-1)])), (a_rd, .inr (4, [.ref a_tk, .ref a_lr, .ref a_dr, .int 0, .ref a_td])), (a_tk, .inr (7, [.ref a_tx, .int 0, .int 0, .int 0, .int 0, .int 0, .int 0, .int (-1)]))] s.heap := hP
  refine lv_iload_n hx hb dX11_fault_0 rfl (lv_at hl 1 rfl) ?_
  refine lv_if_ne (tgt := 15) hx hb dX11_fault_1 (by decide) (fun c_1 => ?_) (fun c_1 => ?_)
  · skip
    have tc_1 := f_ne (k := 0) (by decide) c_1
    refine lv_iload_n hx hb dX11_fault_15 rfl (lv_at hl 1 rfl) ?_
    refine lv_iconst (v := 1) hx hb dX11_fault_16 (by decide) ?_
    refine lv_icmp_ne (tgt := 33) hx hb dX11_fault_17 (by decide) (fun c_2 => ?_) (fun c_2 => ?_)
    · skip
      have tc_2 := f_ne (k := 1) (by decide) c_2
      refine lv_iconst (v := (-1)) hx hb dX11_fault_33 (by decide) ?_
      refine W.widen (k := 0) (n := 0) (Nat.le_of_ble_eq_true rfl) (Nat.le_of_ble_eq_true rfl) ?_
      exact e_i (u := []) hx hb hr hlocks (hP.sub (ws' := []) [] rfl) (hD.sub (ws' := []) [] (by decide) rfl) hS ⟨(by unfold F_fault; (repeat' split) <;> first | rfl | (exfalso; omega)), rfl⟩ dX11_fault_34
    · skip
      have tc_2 := f_eq (k := 1) (by decide) c_2
      refine lv_aload_n hx hb dX11_fault_20 rfl (lv_at hl 0 rfl) ?_
      refine va_get (D := D) (ci := 11) (v := .ref a_rd) (C := RX11) (T := TX11) (N := 20) hx hb hts uX11 hown hkb.1 hP 0 rfl rfl 2 (by decide) (hts _ kw_362) (fun _ h9 => h9) rfl dX11_fault_21 ?_
      refine va_get (D := D) (ci := 4) (v := .ref a_tk) (C := RX4) (T := TX4) (N := 5) hx hb hts uX4 hown hkb.1 hP 1 rfl rfl 0 (by decide) (hts _ kw_212) (fun _ h9 => h9) rfl dX11_fault_24 ?_
      refine va_get (D := D) (ci := 7) (v := .int (-1)) (C := RX7) (T := TX7) (N := 8) hx hb hts uX7 hown hkb.1 hP 2 rfl rfl 7 (by decide) (hts _ kw_57) (fun _ h9 => h9) rfl dX11_fault_27 ?_
      refine lv_goto (tgt := 34) hx hb dX11_fault_30 (by decide) ?_
      refine W.widen (k := 0) (n := 0) (Nat.le_of_ble_eq_true rfl) (Nat.le_of_ble_eq_true rfl) ?_
      exact e_i (u := []) hx hb hr hlocks (hP.sub (ws' := []) [] rfl) (hD.sub (ws' := []) [] (by decide) rfl) hS ⟨(by unfold F_fault; (repeat' split) <;> first | rfl | (exfalso; omega)), rfl⟩ dX11_fault_34
  · skip
    have tc_1 := f_eq (k := 0) (by decide) c_1
    refine lv_aload_n hx hb dX11_fault_4 rfl (lv_at hl 0 rfl) ?_
    refine va_get (D := D) (ci := 11) (v := .ref a_rd) (C := RX11) (T := TX11) (N := 20) hx hb hts uX11 hown hkb.1 hP 0 rfl rfl 2 (by decide) (hts _ kw_362) (fun _ h9 => h9) rfl dX11_fault_5 ?_
    refine va_get (D := D) (ci := 4) (v := .ref a_tk) (C := RX4) (T := TX4) (N := 5) hx hb hts uX4 hown hkb.1 hP 1 rfl rfl 0 (by decide) (hts _ kw_212) (fun _ h9 => h9) rfl dX11_fault_8 ?_
    refine va_get (D := D) (ci := 7) (v := .int 0) (C := RX7) (T := TX7) (N := 8) hx hb hts uX7 hown hkb.1 hP 2 rfl rfl 6 (by decide) (hts _ kw_55) (fun _ h9 => h9) rfl dX11_fault_11 ?_
    refine W.widen (k := 0) (n := 0) (Nat.le_of_ble_eq_true rfl) (Nat.le_of_ble_eq_true rfl) ?_
    exact e_i (u := []) hx hb hr hlocks (hP.sub (ws' := []) [] rfl) (hD.sub (ws' := []) [] (by decide) rfl) hS ⟨(by unfold F_fault; (repeat' split) <;> first | rfl | (exfalso; omega)), rfl⟩ dX11_fault_14
