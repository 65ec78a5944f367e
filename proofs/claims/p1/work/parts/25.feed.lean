set_option maxHeartbeats 4000000 in
set_option maxRecDepth 100000 in
theorem c_tape0 (l : Launch) (D : va_G) (cB cI cJ cZ cS cW cT cR : ClassId) (h0 : Nat) (a_tp : Nat) (i_v : Int32) (a_rd : Nat) (a_wl : Nat) (a_st : Nat) (a_bf : Nat) (a_ps : Nat) (a_iw : Nat) (a_is : Nat) (a_tr : Nat) (a_rw : Nat) (a_or : Nat) (a_wy : Nat) (a_ct : Nat) (a_ch : Nat) (a_tn : Nat) (a_bt : Nat) (f_tp : Nat → Int32) : Kon l D (tyl cB cI cJ cZ cS cW cT cR) yX11_putOnTape cX11_putOnTape 3 none { frames := 0, cells := 0, slots := 0, locals := 0 } [.ref h0, .int i_v] [(h0, .inr (11, [.ref a_tp, .int 0, .ref a_rd, .ref a_wl, .ref a_st, .ref a_bf, .ref a_ps, .int 0, .int 0, .ref a_iw, .ref a_is, .ref a_tr, .ref a_rw, .ref a_or, .ref a_wy, .ref a_ct, .ref a_ch, .ref a_tn, .ref a_bt, .int (-1)])), (a_tp, .inl (cB, 900, .inl f_tp))] (Qv D (fun u => ∃ (f_20 : Nat → Int32), u = [(h0, .inr (11, [.ref a_tp, .int 4, .ref a_rd, .ref a_wl, .ref a_st, .ref a_bf, .ref a_ps, .int 0, .int 0, .ref a_iw, .ref a_is, .ref a_tr, .ref a_rw, .ref a_or, .ref a_wy, .ref a_ct, .ref a_ch, .ref a_tn, .ref a_bt, .int (-1)])), (a_tp, .inl (cB, 900, .inl f_20))])) := by
  refine kon_of (by decide) (Nat.le_of_ble_eq_true rfl) (fun p e s m below meth c ls A hx hb hr hml hown hts hlocks hnm hkb hP hD hS hA hl => ?_)
  have hown : s.vm.findClass RX11 = some m.cls := hown
  have hl : lv_has ls 3 [(0, .ref h0), (1, .int i_v)] := hl
  have hP : va_P D cls [(h0, .inr (11, [.ref a_tp, .int 0, .ref a_rd, .ref a_wl, .ref a_st, .ref a_bf, .ref a_ps, .int 0, .int 0, .ref a_iw, .ref a_is, .ref a_tr, .ref a_rw, .ref a_or, .ref a_wy, .ref a_ct, .ref a_ch, .ref a_tn, .ref a_bt, .int (-1)])), (a_tp, .inl (cB, 900, .inl f_tp))] s.heap := hP
  refine lv_bipush (v := 24) hx hb dX11_putOnTape_0 (by decide) ?_
  refine lv_istore_n (lv' := [(2, .int 24), (0, .ref h0), (1, .int i_v)]) hx hb dX11_putOnTape_2 rfl hl (by decide) rfl (fun ls hl => ?_)
  refine lv_iload_n hx hb dX11_putOnTape_3 rfl (lv_at hl 0 rfl) ?_
  refine lv_if_lt (tgt := 46) hx hb dX11_putOnTape_4 (by decide) (fun c_1 => absurd c_1 (by decide)) (fun _ => ?_)
  refine lv_aload_n hx hb dX11_putOnTape_7 rfl (lv_at hl 1 rfl) ?_
  refine va_get (D := D) (ci := 11) (v := .int 0) (C := RX11) (T := TX11) (N := 20) hx hb hts uX11 hown hkb.1 hP 0 rfl rfl 1 (by decide) (hts _ kw_361) (fun _ h9 => h9) rfl dX11_putOnTape_8 ?_
  refine lv_sipush (v := 900) hx hb dX11_putOnTape_11 (by decide) ?_
  refine lv_icmp_ge (tgt := 46) hx hb dX11_putOnTape_14 (by decide) (fun c_2 => absurd c_2 (by decide)) (fun _ => ?_)
  refine lv_aload_n hx hb dX11_putOnTape_17 rfl (lv_at hl 1 rfl) ?_
  refine va_get (D := D) (ci := 11) (v := .ref a_tp) (C := RX11) (T := TX11) (N := 20) hx hb hts uX11 hown hkb.1 hP 0 rfl rfl 0 (by decide) (hts _ kw_360) (fun _ h9 => h9) rfl dX11_putOnTape_18 ?_
  refine lv_aload_n hx hb dX11_putOnTape_21 rfl (lv_at hl 1 rfl) ?_
  refine va_get (D := D) (ci := 11) (v := .int 0) (C := RX11) (T := TX11) (N := 20) hx hb hts uX11 hown hkb.1 hP 0 rfl rfl 1 (by decide) (hts _ kw_361) (fun _ h9 => h9) rfl dX11_putOnTape_22 ?_
  refine lv_iload_n hx hb dX11_putOnTape_25 rfl (lv_at hl 2 rfl) ?_
  refine lv_iload_n hx hb dX11_putOnTape_26 rfl (lv_at hl 0 rfl) ?_
  refine lv_ishr hx hb dX11_putOnTape_27 ?_
  refine lv_topi (fun v_3 ev_3 => ?_)
  refine lv_i2b hx hb dX11_putOnTape_28 rfl ?_
  refine lv_topi (fun v_4 ev_4 => ?_)
  refine s_b 1 0 hx hb hkb.1 hP hD hS rfl rfl (in_c (by decide +kernel)) 0 (by decide +kernel) dX11_putOnTape_29 (fun H locs hP hD hS => ?_)
  have hP : va_P D cls [(h0, .inr (11, [.ref a_tp, .int 0, .ref a_rd, .ref a_wl, .ref a_st, .ref a_bf, .ref a_ps, .int 0, .int 0, .ref a_iw, .ref a_is, .ref a_tr, .ref a_rw, .ref a_or, .ref a_wy, .ref a_ct, .ref a_ch, .ref a_tn, .ref a_bt, .int (-1)])), (a_tp, .inl (cB, 900, .inl (upd f_tp 0 (vp_nar .byte v_4))))] H := hP
  have hD : va_D A [(h0, .inr (11, [.ref a_tp, .int 0, .ref a_rd, .ref a_wl, .ref a_st, .ref a_bf, .ref a_ps, .int 0, .int 0, .ref a_iw, .ref a_is, .ref a_tr, .ref a_rw, .ref a_or, .ref a_wy, .ref a_ct, .ref a_ch, .ref a_tn, .ref a_bt, .int (-1)])), (a_tp, .inl (cB, 900, .inl (upd f_tp 0 (vp_nar .byte v_4))))] := hD
  generalize hq9 : upd f_tp 0 (vp_nar .byte v_4) = f_5 at hP hD; clear hq9
  have hP : va_P D cls [(h0, .inr (11, [.ref a_tp, .int 0, .ref a_rd, .ref a_wl, .ref a_st, .ref a_bf, .ref a_ps, .int 0, .int 0, .ref a_iw, .ref a_is, .ref a_tr, .ref a_rw, .ref a_or, .ref a_wy, .ref a_ct, .ref a_ch, .ref a_tn, .ref a_bt, .int (-1)])), (a_tp, .inl (cB, 900, .inl f_5))] H := hP
  have hD : va_D A [(h0, .inr (11, [.ref a_tp, .int 0, .ref a_rd, .ref a_wl, .ref a_st, .ref a_bf, .ref a_ps, .int 0, .int 0, .ref a_iw, .ref a_is, .ref a_tr, .ref a_rw, .ref a_or, .ref a_wy, .ref a_ct, .ref a_ch, .ref a_tn, .ref a_bt, .int (-1)])), (a_tp, .inl (cB, 900, .inl f_5))] := hD
  refine lv_aload_n hx hb dX11_putOnTape_30 rfl (lv_at hl 1 rfl) ?_
  refine lv_dup hx hb dX11_putOnTape_31 rfl ?_
  refine va_get (D := D) (ci := 11) (v := .int 0) (C := RX11) (T := TX11) (N := 20) hx hb hts uX11 hown hkb.1 hP 0 rfl rfl 1 (by decide) (hts _ kw_361) (fun _ h9 => h9) rfl dX11_putOnTape_32 ?_
  refine lv_iconst (v := 1) hx hb dX11_putOnTape_35 (by decide) ?_
  refine lv_iadd hx hb dX11_putOnTape_36 ?_
  refine lv_topc (y := 1) (by decide +kernel) ?_
  refine va_put (D := D) (ci := 11) (v := .int 1) (ty := tyX11 1) (C := RX11) (T := TX11) (N := 20) hx hb hts uX11 tyX11 tyX11_ok nmX11 hown hkb.1 hP hD hS 0 rfl rfl 1 (by decide) (hts _ kw_361) (fun _ h9 => h9) rfl (tyX11_ok 1 (by decide)) rfl rfl (Nat.le_of_ble_eq_true rfl) dX11_putOnTape_37 (fun H locs hP hD hS => ?_)
  have hP : va_P D cls [(h0, .inr (11, [.ref a_tp, .int 1, .ref a_rd, .ref a_wl, .ref a_st, .ref a_bf, .ref a_ps, .int 0, .int 0, .ref a_iw, .ref a_is, .ref a_tr, .ref a_rw, .ref a_or, .ref a_wy, .ref a_ct, .ref a_ch, .ref a_tn, .ref a_bt, .int (-1)])), (a_tp, .inl (cB, 900, .inl f_5))] H := hP
  have hD : va_D A [(h0, .inr (11, [.ref a_tp, .int 1, .ref a_rd, .ref a_wl, .ref a_st, .ref a_bf, .ref a_ps, .int 0, .int 0, .ref a_iw, .ref a_is, .ref a_tr, .ref a_rw, .ref a_or, .ref a_wy, .ref a_ct, .ref a_ch, .ref a_tn, .ref a_bt, .int (-1)])), (a_tp, .inl (cB, 900, .inl f_5))] := hD
  refine lv_iinc (v := 16) (lv' := [(2, .int 16), (0, .ref h0), (1, .int i_v)]) hx hb dX11_putOnTape_40 hl (k := 0) rfl (by decide) (by decide) rfl (fun ls hl => ?_)
  refine lv_goto (tgt := 3) hx hb dX11_putOnTape_43 (by decide) ?_
  refine lv_iload_n hx hb dX11_putOnTape_3 rfl (lv_at hl 0 rfl) ?_
  refine lv_if_lt (tgt := 46) hx hb dX11_putOnTape_4 (by decide) (fun c_6 => absurd c_6 (by decide)) (fun _ => ?_)
  refine lv_aload_n hx hb dX11_putOnTape_7 rfl (lv_at hl 1 rfl) ?_
  refine va_get (D := D) (ci := 11) (v := .int 1) (C := RX11) (T := TX11) (N := 20) hx hb hts uX11 hown hkb.1 hP 0 rfl rfl 1 (by decide) (hts _ kw_361) (fun _ h9 => h9) rfl dX11_putOnTape_8 ?_
  refine lv_sipush (v := 900) hx hb dX11_putOnTape_11 (by decide) ?_
  refine lv_icmp_ge (tgt := 46) hx hb dX11_putOnTape_14 (by decide) (fun c_7 => absurd c_7 (by decide)) (fun _ => ?_)
  refine lv_aload_n hx hb dX11_putOnTape_17 rfl (lv_at hl 1 rfl) ?_
  refine va_get (D := D) (ci := 11) (v := .ref a_tp) (C := RX11) (T := TX11) (N := 20) hx hb hts uX11 hown hkb.1 hP 0 rfl rfl 0 (by decide) (hts _ kw_360) (fun _ h9 => h9) rfl dX11_putOnTape_18 ?_
  refine lv_aload_n hx hb dX11_putOnTape_21 rfl (lv_at hl 1 rfl) ?_
  refine va_get (D := D) (ci := 11) (v := .int 1) (C := RX11) (T := TX11) (N := 20) hx hb hts uX11 hown hkb.1 hP 0 rfl rfl 1 (by decide) (hts _ kw_361) (fun _ h9 => h9) rfl dX11_putOnTape_22 ?_
  refine lv_iload_n hx hb dX11_putOnTape_25 rfl (lv_at hl 2 rfl) ?_
  refine lv_iload_n hx hb dX11_putOnTape_26 rfl (lv_at hl 0 rfl) ?_
  refine lv_ishr hx hb dX11_putOnTape_27 ?_
  refine lv_topi (fun v_8 ev_8 => ?_)
  refine lv_i2b hx hb dX11_putOnTape_28 rfl ?_
  refine lv_topi (fun v_9 ev_9 => ?_)
  refine s_b 1 0 hx hb hkb.1 hP hD hS rfl rfl (in_c (by decide +kernel)) 1 (by decide +kernel) dX11_putOnTape_29 (fun H locs hP hD hS => ?_)
  have hP : va_P D cls [(h0, .inr (11, [.ref a_tp, .int 1, .ref a_rd, .ref a_wl, .ref a_st, .ref a_bf, .ref a_ps, .int 0, .int 0, .ref a_iw, .ref a_is, .ref a_tr, .ref a_rw, .ref a_or, .ref a_wy, .ref a_ct, .ref a_ch, .ref a_tn, .ref a_bt, .int (-1)])), (a_tp, .inl (cB, 900, .inl (upd f_5 1 (vp_nar .byte v_9))))] H := hP
  have hD : va_D A [(h0, .inr (11, [.ref a_tp, .int 1, .ref a_rd, .ref a_wl, .ref a_st, .ref a_bf, .ref a_ps, .int 0, .int 0, .ref a_iw, .ref a_is, .ref a_tr, .ref a_rw, .ref a_or, .ref a_wy, .ref a_ct, .ref a_ch, .ref a_tn, .ref a_bt, .int (-1)])), (a_tp, .inl (cB, 900, .inl (upd f_5 1 (vp_nar .byte v_9))))] := hD
  generalize hq9 : upd f_5 1 (vp_nar .byte v_9) = f_10 at hP hD; clear hq9
  have hP : va_P D cls [(h0, .inr (11, [.ref a_tp, .int 1, .ref a_rd, .ref a_wl, .ref a_st, .ref a_bf, .ref a_ps, .int 0, .int 0, .ref a_iw, .ref a_is, .ref a_tr, .ref a_rw, .ref a_or, .ref a_wy, .ref a_ct, .ref a_ch, .ref a_tn, .ref a_bt, .int (-1)])), (a_tp, .inl (cB, 900, .inl f_10))] H := hP
  have hD : va_D A [(h0, .inr (11, [.ref a_tp, .int 1, .ref a_rd, .ref a_wl, .ref a_st, .ref a_bf, .ref a_ps, .int 0, .int 0, .ref a_iw, .ref a_is, .ref a_tr, .ref a_rw, .ref a_or, .ref a_wy, .ref a_ct, .ref a_ch, .ref a_tn, .ref a_bt, .int (-1)])), (a_tp, .inl (cB, 900, .inl f_10))] := hD
  refine lv_aload_n hx hb dX11_putOnTape_30 rfl (lv_at hl 1 rfl) ?_
  refine lv_dup hx hb dX11_putOnTape_31 rfl ?_
  refine va_get (D := D) (ci := 11) (v := .int 1) (C := RX11) (T := TX11) (N := 20) hx hb hts uX11 hown hkb.1 hP 0 rfl rfl 1 (by decide) (hts _ kw_361) (fun _ h9 => h9) rfl dX11_putOnTape_32 ?_
  refine lv_iconst (v := 1) hx hb dX11_putOnTape_35 (by decide) ?_
  refine lv_iadd hx hb dX11_putOnTape_36 ?_
  refine lv_topc (y := 2) (by decide +kernel) ?_
  refine va_put (D := D) (ci := 11) (v := .int 2) (ty := tyX11 1) (C := RX11) (T := TX11) (N := 20) hx hb hts uX11 tyX11 tyX11_ok nmX11 hown hkb.1 hP hD hS 0 rfl rfl 1 (by decide) (hts _ kw_361) (fun _ h9 => h9) rfl (tyX11_ok 1 (by decide)) rfl rfl (Nat.le_of_ble_eq_true rfl) dX11_putOnTape_37 (fun H locs hP hD hS => ?_)
  have hP : va_P D cls [(h0, .inr (11, [.ref a_tp, .int 2, .ref a_rd, .ref a_wl, .ref a_st, .ref a_bf, .ref a_ps, .int 0, .int 0, .ref a_iw, .ref a_is, .ref a_tr, .ref a_rw, .ref a_or, .ref a_wy, .ref a_ct, .ref a_ch, .ref a_tn, .ref a_bt, .int (-1)])), (a_tp, .inl (cB, 900, .inl f_10))] H := hP
  have hD : va_D A [(h0, .inr (11, [.ref a_tp, .int 2, .ref a_rd, .ref a_wl, .ref a_st, .ref a_bf, .ref a_ps, .int 0, .int 0, .ref a_iw, .ref a_is, .ref a_tr, .ref a_rw, .ref a_or, .ref a_wy, .ref a_ct, .ref a_ch, .ref a_tn, .ref a_bt, .int (-1)])), (a_tp, .inl (cB, 900, .inl f_10))] := hD
  refine lv_iinc (v := 8) (lv' := [(2, .int 8), (0, .ref h0), (1, .int i_v)]) hx hb dX11_putOnTape_40 hl (k := 0) rfl (by decide) (by decide) rfl (fun ls hl => ?_)
  refine lv_goto (tgt := 3) hx hb dX11_putOnTape_43 (by decide) ?_
  refine lv_iload_n hx hb dX11_putOnTape_3 rfl (lv_at hl 0 rfl) ?_
  refine lv_if_lt (tgt := 46) hx hb dX11_putOnTape_4 (by decide) (fun c_11 => absurd c_11 (by decide)) (fun _ => ?_)
  refine lv_aload_n hx hb dX11_putOnTape_7 rfl (lv_at hl 1 rfl) ?_
  refine va_get (D := D) (ci := 11) (v := .int 2) (C := RX11) (T := TX11) (N := 20) hx hb hts uX11 hown hkb.1 hP 0 rfl rfl 1 (by decide) (hts _ kw_361) (fun _ h9 => h9) rfl dX11_putOnTape_8 ?_
  refine lv_sipush (v := 900) hx hb dX11_putOnTape_11 (by decide) ?_
  refine lv_icmp_ge (tgt := 46) hx hb dX11_putOnTape_14 (by decide) (fun c_12 => absurd c_12 (by decide)) (fun _ => ?_)
  refine lv_aload_n hx hb dX11_putOnTape_17 rfl (lv_at hl 1 rfl) ?_
  refine va_get (D := D) (ci := 11) (v := .ref a_tp) (C := RX11) (T := TX11) (N := 20) hx hb hts uX11 hown hkb.1 hP 0 rfl rfl 0 (by decide) (hts _ kw_360) (fun _ h9 => h9) rfl dX11_putOnTape_18 ?_
  refine lv_aload_n hx hb dX11_putOnTape_21 rfl (lv_at hl 1 rfl) ?_
  refine va_get (D := D) (ci := 11) (v := .int 2) (C := RX11) (T := TX11) (N := 20) hx hb hts uX11 hown hkb.1 hP 0 rfl rfl 1 (by decide) (hts _ kw_361) (fun _ h9 => h9) rfl dX11_putOnTape_22 ?_
  refine lv_iload_n hx hb dX11_putOnTape_25 rfl (lv_at hl 2 rfl) ?_
  refine lv_iload_n hx hb dX11_putOnTape_26 rfl (lv_at hl 0 rfl) ?_
  refine lv_ishr hx hb dX11_putOnTape_27 ?_
  refine lv_topi (fun v_13 ev_13 => ?_)
  refine lv_i2b hx hb dX11_putOnTape_28 rfl ?_
  refine lv_topi (fun v_14 ev_14 => ?_)
  refine s_b 1 0 hx hb hkb.1 hP hD hS rfl rfl (in_c (by decide +kernel)) 2 (by decide +kernel) dX11_putOnTape_29 (fun H locs hP hD hS => ?_)
  have hP : va_P D cls [(h0, .inr (11, [.ref a_tp, .int 2, .ref a_rd, .ref a_wl, .ref a_st, .ref a_bf, .ref a_ps, .int 0, .int 0, .ref a_iw, .ref a_is, .ref a_tr, .ref a_rw, .ref a_or, .ref a_wy, .ref a_ct, .ref a_ch, .ref a_tn, .ref a_bt, .int (-1)])), (a_tp, .inl (cB, 900, .inl (upd f_10 2 (vp_nar .byte v_14))))] H := hP
  have hD : va_D A [(h0, .inr (11, [.ref a_tp, .int 2, .ref a_rd, .ref a_wl, .ref a_st, .ref a_bf, .ref a_ps, .int 0, .int 0, .ref a_iw, .ref a_is, .ref a_tr, .ref a_rw, .ref a_or, .ref a_wy, .ref a_ct, .ref a_ch, .ref a_tn, .ref a_bt, .int (-1)])), (a_tp, .inl (cB, 900, .inl (upd f_10 2 (vp_nar .byte v_14))))] := hD
  generalize hq9 : upd f_10 2 (vp_nar .byte v_14) = f_15 at hP hD; clear hq9
  have hP : va_P D cls [(h0, .inr (11, [.ref a_tp, .int 2, .ref a_rd, .ref a_wl, .ref a_st, .ref a_bf, .ref a_ps, .int 0, .int 0, .ref a_iw, .ref a_is, .ref a_tr, .ref a_rw, .ref a_or, .ref a_wy, .ref a_ct, .ref a_ch, .ref a_tn, .ref a_bt, .int (-1)])), (a_tp, .inl (cB, 900, .inl f_15))] H := hP
  have hD : va_D A [(h0, .inr (11, [.ref a_tp, .int 2, .ref a_rd, .ref a_wl, .ref a_st, .ref a_bf, .ref a_ps, .int 0, .int 0, .ref a_iw, .ref a_is, .ref a_tr, .ref a_rw, .ref a_or, .ref a_wy, .ref a_ct, .ref a_ch, .ref a_tn, .ref a_bt, .int (-1)])), (a_tp, .inl (cB, 900, .inl f_15))] := hD
  refine lv_aload_n hx hb dX11_putOnTape_30 rfl (lv_at hl 1 rfl) ?_
  refine lv_dup hx hb dX11_putOnTape_31 rfl ?_
  refine va_get (D := D) (ci := 11) (v := .int 2) (C := RX11) (T := TX11) (N := 20) hx hb hts uX11 hown hkb.1 hP 0 rfl rfl 1 (by decide) (hts _ kw_361) (fun _ h9 => h9) rfl dX11_putOnTape_32 ?_
  refine lv_iconst (v := 1) hx hb dX11_putOnTape_35 (by decide) ?_
  refine lv_iadd hx hb dX11_putOnTape_36 ?_
  refine lv_topc (y := 3) (by decide +kernel) ?_
  refine va_put (D := D) (ci := 11) (v := .int 3) (ty := tyX11 1) (C := RX11) (T := TX11) (N := 20) hx hb hts uX11 tyX11 tyX11_ok nmX11 hown hkb.1 hP hD hS 0 rfl rfl 1 (by decide) (hts _ kw_361) (fun _ h9 => h9) rfl (tyX11_ok 1 (by decide)) rfl rfl (Nat.le_of_ble_eq_true rfl) dX11_putOnTape_37 (fun H locs hP hD hS => ?_)
  have hP : va_P D cls [(h0, .inr (11, [.ref a_tp, .int 3, .ref a_rd, .ref a_wl, .ref a_st, .ref a_bf, .ref a_ps, .int 0, .int 0, .ref a_iw, .ref a_is, .ref a_tr, .ref a_rw, .ref a_or, .ref a_wy, .ref a_ct, .ref a_ch, .ref a_tn, .ref a_bt, .int (-1)])), (a_tp, .inl (cB, 900, .inl f_15))] H := hP
  have hD : va_D A [(h0, .inr (11, [.ref a_tp, .int 3, .ref a_rd, .ref a_wl, .ref a_st, .ref a_bf, .ref a_ps, .int 0, .int 0, .ref a_iw, .ref a_is, .ref a_tr, .ref a_rw, .ref a_or, .ref a_wy, .ref a_ct, .ref a_ch, .ref a_tn, .ref a_bt, .int (-1)])), (a_tp, .inl (cB, 900, .inl f_15))] := hD
  refine lv_iinc (v := 0) (lv' := [(2, .int 0), (0, .ref h0), (1, .int i_v)]) hx hb dX11_putOnTape_40 hl (k := 0) rfl (by decide) (by decide) rfl (fun ls hl => ?_)
  refine lv_goto (tgt := 3) hx hb dX11_putOnTape_43 (by decide) ?_
  refine lv_iload_n hx hb dX11_putOnTape_3 rfl (lv_at hl 0 rfl) ?_
  refine lv_if_lt (tgt := 46) hx hb dX11_putOnTape_4 (by decide) (fun c_16 => absurd c_16 (by decide)) (fun _ => ?_)
  refine lv_aload_n hx hb dX11_putOnTape_7 rfl (lv_at hl 1 rfl) ?_
  refine va_get (D := D) (ci := 11) (v := .int 3) (C := RX11) (T := TX11) (N := 20) hx hb hts uX11 hown hkb.1 hP 0 rfl rfl 1 (by decide) (hts _ kw_361) (fun _ h9 => h9) rfl dX11_putOnTape_8 ?_
  refine lv_sipush (v := 900) hx hb dX11_putOnTape_11 (by decide) ?_
  refine lv_icmp_ge (tgt := 46) hx hb dX11_putOnTape_14 (by decide) (fun c_17 => absurd c_17 (by decide)) (fun _ => ?_)
  refine lv_aload_n hx hb dX11_putOnTape_17 rfl (lv_at hl 1 rfl) ?_
  refine va_get (D := D) (ci := 11) (v := .ref a_tp) (C := RX11) (T := TX11) (N := 20) hx hb hts uX11 hown hkb.1 hP 0 rfl rfl 0 (by decide) (hts _ kw_360) (fun _ h9 => h9) rfl dX11_putOnTape_18 ?_
  refine lv_aload_n hx hb dX11_putOnTape_21 rfl (lv_at hl 1 rfl) ?_
  refine va_get (D := D) (ci := 11) (v := .int 3) (C := RX11) (T := TX11) (N := 20) hx hb hts uX11 hown hkb.1 hP 0 rfl rfl 1 (by decide) (hts _ kw_361) (fun _ h9 => h9) rfl dX11_putOnTape_22 ?_
  refine lv_iload_n hx hb dX11_putOnTape_25 rfl (lv_at hl 2 rfl) ?_
  refine lv_iload_n hx hb dX11_putOnTape_26 rfl (lv_at hl 0 rfl) ?_
  refine lv_ishr hx hb dX11_putOnTape_27 ?_
  refine lv_topi (fun v_18 ev_18 => ?_)
  refine lv_i2b hx hb dX11_putOnTape_28 rfl ?_
  refine lv_topi (fun v_19 ev_19 => ?_)
  refine s_b 1 0 hx hb hkb.1 hP hD hS rfl rfl (in_c (by decide +kernel)) 3 (by decide +kernel) dX11_putOnTape_29 (fun H locs hP hD hS => ?_)
  have hP : va_P D cls [(h0, .inr (11, [.ref a_tp, .int 3, .ref a_rd, .ref a_wl, .ref a_st, .ref a_bf, .ref a_ps, .int 0, .int 0, .ref a_iw, .ref a_is, .ref a_tr, .ref a_rw, .ref a_or, .ref a_wy, .ref a_ct, .ref a_ch, .ref a_tn, .ref a_bt, .int (-1)])), (a_tp, .inl (cB, 900, .inl (upd f_15 3 (vp_nar .byte v_19))))] H := hP
  have hD : va_D A [(h0, .inr (11, [.ref a_tp, .int 3, .ref a_rd, .ref a_wl, .ref a_st, .ref a_bf, .ref a_ps, .int 0, .int 0, .ref a_iw, .ref a_is, .ref a_tr, .ref a_rw, .ref a_or, .ref a_wy, .ref a_ct, .ref a_ch, .ref a_tn, .ref a_bt, .int (-1)])), (a_tp, .inl (cB, 900, .inl (upd f_15 3 (vp_nar .byte v_19))))] := hD
  generalize hq9 : upd f_15 3 (vp_nar .byte v_19) = f_20 at hP hD; clear hq9
  have hP : va_P D cls [(h0, .inr (11, [.ref a_tp, .int 3, .ref a_rd, .ref a_wl, .ref a_st, .ref a_bf, .ref a_ps, .int 0, .int 0, .ref a_iw, .ref a_is, .ref a_tr, .ref a_rw, .ref a_or, .ref a_wy, .ref a_ct, .ref a_ch, .ref a_tn, .ref a_bt, .int (-1)])), (a_tp, .inl (cB, 900, .inl f_20))] H := hP
  have hD : va_D A [(h0, .inr (11, [.ref a_tp, .int 3, .ref a_rd, .ref a_wl, .ref a_st, .ref a_bf, .ref a_ps, .int 0, .int 0, .ref a_iw, .ref a_is, .ref a_tr, .ref a_rw, .ref a_or, .ref a_wy, .ref a_ct, .ref a_ch, .ref a_tn, .ref a_bt, .int (-1)])), (a_tp, .inl (cB, 900, .inl f_20))] := hD
  refine lv_aload_n hx hb dX11_putOnTape_30 rfl (lv_at hl 1 rfl) ?_
  refine lv_dup hx hb dX11_putOnTape_31 rfl ?_
  refine va_get (D := D) (ci := 11) (v := .int 3) (C := RX11) (T := TX11) (N := 20) hx hb hts uX11 hown hkb.1 hP 0 rfl rfl 1 (by decide) (hts _ kw_361) (fun _ h9 => h9) rfl dX11_putOnTape_32 ?_
  refine lv_iconst (v := 1) hx hb dX11_putOnTape_35 (by decide) ?_
  refine lv_iadd hx hb dX11_putOnTape_36 ?_
  refine lv_topc (y := 4) (by decide +kernel) ?_
  refine va_put (D := D) (ci := 11) (v := .int 4) (ty := tyX11 1) (C := RX11) (T := TX11) (N := 20) hx hb hts uX11 tyX11 tyX11_ok nmX11 hown hkb.1 hP hD hS 0 rfl rfl 1 (by decide) (hts _ kw_361) (fun _ h9 => h9) rfl (tyX11_ok 1 (by decide)) rfl rfl (Nat.le_of_ble_eq_true rfl) dX11_putOnTape_37 (fun H locs hP hD hS => ?_)
  have hP : va_P D cls [(h0, .inr (11, [.ref a_tp, .int 4, .ref a_rd, .ref a_wl, .ref a_st, .ref a_bf, .ref a_ps, .int 0, .int 0, .ref a_iw, .ref a_is, .ref a_tr, .ref a_rw, .ref a_or, .ref a_wy, .ref a_ct, .ref a_ch, .ref a_tn, .ref a_bt, .int (-1)])), (a_tp, .inl (cB, 900, .inl f_20))] H := hP
  have hD : va_D A [(h0, .inr (11, [.ref a_tp, .int 4, .ref a_rd, .ref a_wl, .ref a_st, .ref a_bf, .ref a_ps, .int 0, .int 0, .ref a_iw, .ref a_is, .ref a_tr, .ref a_rw, .ref a_or, .ref a_wy, .ref a_ct, .ref a_ch, .ref a_tn, .ref a_bt, .int (-1)])), (a_tp, .inl (cB, 900, .inl f_20))] := hD
  refine lv_iinc (v := (-8)) (lv' := [(2, .int (-8)), (0, .ref h0), (1, .int i_v)]) hx hb dX11_putOnTape_40 hl (k := 0) rfl (by decide) (by decide) rfl (fun ls hl => ?_)
  refine lv_goto (tgt := 3) hx hb dX11_putOnTape_43 (by decide) ?_
  refine lv_iload_n hx hb dX11_putOnTape_3 rfl (lv_at hl 0 rfl) ?_
  refine lv_if_lt (tgt := 46) hx hb dX11_putOnTape_4 (by decide) (fun _ => ?_) (fun c_21 => absurd c_21 (by decide))
  refine W.widen (k := 0) (n := 0) (Nat.le_of_ble_eq_true rfl) (Nat.le_of_ble_eq_true rfl) ?_
  exact e_v (u := [(h0, .inr (11, [.ref a_tp, .int 4, .ref a_rd, .ref a_wl, .ref a_st, .ref a_bf, .ref a_ps, .int 0, .int 0, .ref a_iw, .ref a_is, .ref a_tr, .ref a_rw, .ref a_or, .ref a_wy, .ref a_ct, .ref a_ch, .ref a_tn, .ref a_bt, .int (-1)])), (a_tp, .inl (cB, 900, .inl f_20))]) hx hb hr hlocks (hP.sub (ws' := [(h0, .inr (11, [.ref a_tp, .int 4, .ref a_rd, .ref a_wl, .ref a_st, .ref a_bf, .ref a_ps, .int 0, .int 0, .ref a_iw, .ref a_is, .ref a_tr, .ref a_rw, .ref a_or, .ref a_wy, .ref a_ct, .ref a_ch, .ref a_tn, .ref a_bt, .int (-1)])), (a_tp, .inl (cB, 900, .inl f_20))]) [0, 1] rfl) (hD.sub (ws' := [(h0, .inr (11, [.ref a_tp, .int 4, .ref a_rd, .ref a_wl, .ref a_st, .ref a_bf, .ref a_ps, .int 0, .int 0, .ref a_iw, .ref a_is, .ref a_tr, .ref a_rw, .ref a_or, .ref a_wy, .ref a_ct, .ref a_ch, .ref a_tn, .ref a_bt, .int (-1)])), (a_tp, .inl (cB, 900, .inl f_20))]) [0, 1] (by decide) rfl) hS ⟨f_20, rfl⟩ dX11_putOnTape_46
set_option maxHeartbeats 4000000 in
set_option maxRecDepth 100000 in
theorem c_tape4 (l : Launch) (D : va_G) (cB cI cJ cZ cS cW cT cR : ClassId) (h0 : Nat) (a_tp : Nat) (i_v : Int32) (a_rd : Nat) (a_wl : Nat) (a_st : Nat) (a_bf : Nat) (a_ps : Nat) (a_iw : Nat) (a_is : Nat) (a_tr : Nat) (a_rw : Nat) (a_or : Nat) (a_wy : Nat) (a_ct : Nat) (a_ch : Nat) (a_tn : Nat) (a_bt : Nat) (f_tp : Nat → Int32) : Kon l D (tyl cB cI cJ cZ cS cW cT cR) yX11_putOnTape cX11_putOnTape 3 none { frames := 0, cells := 0, slots := 0, locals := 0 } [.ref h0, .int i_v] [(h0, .inr (11, [.ref a_tp, .int 4, .ref a_rd, .ref a_wl, .ref a_st, .ref a_bf, .ref a_ps, .int 0, .int 0, .ref a_iw, .ref a_is, .ref a_tr, .ref a_rw, .ref a_or, .ref a_wy, .ref a_ct, .ref a_ch, .ref a_tn, .ref a_bt, .int (-1)])), (a_tp, .inl (cB, 900, .inl f_tp))] (Qv D (fun u => ∃ (f_20 : Nat → Int32), u = [(h0, .inr (11, [.ref a_tp, .int 8, .ref a_rd, .ref a_wl, .ref a_st, .ref a_bf, .ref a_ps, .int 0, .int 0, .ref a_iw, .ref a_is, .ref a_tr, .ref a_rw, .ref a_or, .ref a_wy, .ref a_ct, .ref a_ch, .ref a_tn, .ref a_bt, .int (-1)])), (a_tp, .inl (cB, 900, .inl f_20))])) := by
  refine kon_of (by decide) (Nat.le_of_ble_eq_true rfl) (fun p e s m below meth c ls A hx hb hr hml hown hts hlocks hnm hkb hP hD hS hA hl => ?_)
  have hown : s.vm.findClass RX11 = some m.cls := hown
  have hl : lv_has ls 3 [(0, .ref h0), (1, .int i_v)] := hl
  have hP : va_P D cls [(h0, .inr (11, [.ref a_tp, .int 4, .ref a_rd, .ref a_wl, .ref a_st, .ref a_bf, .ref a_ps, .int 0, .int 0, .ref a_iw, .ref a_is, .ref a_tr, .ref a_rw, .ref a_or, .ref a_wy, .ref a_ct, .ref a_ch, .ref a_tn, .ref a_bt, .int (-1)])), (a_tp, .inl (cB, 900, .inl f_tp))] s.heap := hP
  refine lv_bipush (v := 24) hx hb dX11_putOnTape_0 (by decide) ?_
  refine lv_istore_n (lv' := [(2, .int 24), (0, .ref h0), (1, .int i_v)]) hx hb dX11_putOnTape_2 rfl hl (by decide) rfl (fun ls hl => ?_)
  refine lv_iload_n hx hb dX11_putOnTape_3 rfl (lv_at hl 0 rfl) ?_
  refine lv_if_lt (tgt := 46) hx hb dX11_putOnTape_4 (by decide) (fun c_1 => absurd c_1 (by decide)) (fun _ => ?_)
  refine lv_aload_n hx hb dX11_putOnTape_7 rfl (lv_at hl 1 rfl) ?_
  refine va_get (D := D) (ci := 11) (v := .int 4) (C := RX11) (T := TX11) (N := 20) hx hb hts uX11 hown hkb.1 hP 0 rfl rfl 1 (by decide) (hts _ kw_361) (fun _ h9 => h9) rfl dX11_putOnTape_8 ?_
  refine lv_sipush (v := 900) hx hb dX11_putOnTape_11 (by decide) ?_
  refine lv_icmp_ge (tgt := 46) hx hb dX11_putOnTape_14 (by decide) (fun c_2 => absurd c_2 (by decide)) (fun _ => ?_)
  refine lv_aload_n hx hb dX11_putOnTape_17 rfl (lv_at hl 1 rfl) ?_
  refine va_get (D := D) (ci := 11) (v := .ref a_tp) (C := RX11) (T := TX11) (N := 20) hx hb hts uX11 hown hkb.1 hP 0 rfl rfl 0 (by decide) (hts _ kw_360) (fun _ h9 => h9) rfl dX11_putOnTape_18 ?_
  refine lv_aload_n hx hb dX11_putOnTape_21 rfl (lv_at hl 1 rfl) ?_
  refine va_get (D := D) (ci := 11) (v := .int 4) (C := RX11) (T := TX11) (N := 20) hx hb hts uX11 hown hkb.1 hP 0 rfl rfl 1 (by decide) (hts _ kw_361) (fun _ h9 => h9) rfl dX11_putOnTape_22 ?_
  refine lv_iload_n hx hb dX11_putOnTape_25 rfl (lv_at hl 2 rfl) ?_
  refine lv_iload_n hx hb dX11_putOnTape_26 rfl (lv_at hl 0 rfl) ?_
  refine lv_ishr hx hb dX11_putOnTape_27 ?_
  refine lv_topi (fun v_3 ev_3 => ?_)
  refine lv_i2b hx hb dX11_putOnTape_28 rfl ?_
  refine lv_topi (fun v_4 ev_4 => ?_)
  refine s_b 1 0 hx hb hkb.1 hP hD hS rfl rfl (in_c (by decide +kernel)) 4 (by decide +kernel) dX11_putOnTape_29 (fun H locs hP hD hS => ?_)
  have hP : va_P D cls [(h0, .inr (11, [.ref a_tp, .int 4, .ref a_rd, .ref a_wl, .ref a_st, .ref a_bf, .ref a_ps, .int 0, .int 0, .ref a_iw, .ref a_is, .ref a_tr, .ref a_rw, .ref a_or, .ref a_wy, .ref a_ct, .ref a_ch, .ref a_tn, .ref a_bt, .int (-1)])), (a_tp, .inl (cB, 900, .inl (upd f_tp 4 (vp_nar .byte v_4))))] H := hP
  have hD : va_D A [(h0, .inr (11, [.ref a_tp, .int 4, .ref a_rd, .ref a_wl, .ref a_st, .ref a_bf, .ref a_ps, .int 0, .int 0, .ref a_iw, .ref a_is, .ref a_tr, .ref a_rw, .ref a_or, .ref a_wy, .ref a_ct, .ref a_ch, .ref a_tn, .ref a_bt, .int (-1)])), (a_tp, .inl (cB, 900, .inl (upd f_tp 4 (vp_nar .byte v_4))))] := hD
  generalize hq9 : upd f_tp 4 (vp_nar .byte v_4) = f_5 at hP hD; clear hq9
  have hP : va_P D cls [(h0, .inr (11, [.ref a_tp, .int 4, .ref a_rd, .ref a_wl, .ref a_st, .ref a_bf, .ref a_ps, .int 0, .int 0, .ref a_iw, .ref a_is, .ref a_tr, .ref a_rw, .ref a_or, .ref a_wy, .ref a_ct, .ref a_ch, .ref a_tn, .ref a_bt, .int (-1)])), (a_tp, .inl (cB, 900, .inl f_5))] H := hP
  have hD : va_D A [(h0, .inr (11, [.ref a_tp, .int 4, .ref a_rd, .ref a_wl, .ref a_st, .ref a_bf, .ref a_ps, .int 0, .int 0, .ref a_iw, .ref a_is, .ref a_tr, .ref a_rw, .ref a_or, .ref a_wy, .ref a_ct, .ref a_ch, .ref a_tn, .ref a_bt, .int (-1)])), (a_tp, .inl (cB, 900, .inl f_5))] := hD
  refine lv_aload_n hx hb dX11_putOnTape_30 rfl (lv_at hl 1 rfl) ?_
  refine lv_dup hx hb dX11_putOnTape_31 rfl ?_
  refine va_get (D := D) (ci := 11) (v := .int 4) (C := RX11) (T := TX11) (N := 20) hx hb hts uX11 hown hkb.1 hP 0 rfl rfl 1 (by decide) (hts _ kw_361) (fun _ h9 => h9) rfl dX11_putOnTape_32 ?_
  refine lv_iconst (v := 1) hx hb dX11_putOnTape_35 (by decide) ?_
  refine lv_iadd hx hb dX11_putOnTape_36 ?_
  refine lv_topc (y := 5) (by decide +kernel) ?_
  refine va_put (D := D) (ci := 11) (v := .int 5) (ty := tyX11 1) (C := RX11) (T := TX11) (N := 20) hx hb hts uX11 tyX11 tyX11_ok nmX11 hown hkb.1 hP hD hS 0 rfl rfl 1 (by decide) (hts _ kw_361) (fun _ h9 => h9) rfl (tyX11_ok 1 (by decide)) rfl rfl (Nat.le_of_ble_eq_true rfl) dX11_putOnTape_37 (fun H locs hP hD hS => ?_)
  have hP : va_P D cls [(h0, .inr (11, [.ref a_tp, .int 5, .ref a_rd, .ref a_wl, .ref a_st, .ref a_bf, .ref a_ps, .int 0, .int 0, .ref a_iw, .ref a_is, .ref a_tr, .ref a_rw, .ref a_or, .ref a_wy, .ref a_ct, .ref a_ch, .ref a_tn, .ref a_bt, .int (-1)])), (a_tp, .inl (cB, 900, .inl f_5))] H := hP
  have hD : va_D A [(h0, .inr (11, [.ref a_tp, .int 5, .ref a_rd, .ref a_wl, .ref a_st, .ref a_bf, .ref a_ps, .int 0, .int 0, .ref a_iw, .ref a_is, .ref a_tr, .ref a_rw, .ref a_or, .ref a_wy, .ref a_ct, .ref a_ch, .ref a_tn, .ref a_bt, .int (-1)])), (a_tp, .inl (cB, 900, .inl f_5))] := hD
  refine lv_iinc (v := 16) (lv' := [(2, .int 16), (0, .ref h0), (1, .int i_v)]) hx hb dX11_putOnTape_40 hl (k := 0) rfl (by decide) (by decide) rfl (fun ls hl => ?_)
  refine lv_goto (tgt := 3) hx hb dX11_putOnTape_43 (by decide) ?_
  refine lv_iload_n hx hb dX11_putOnTape_3 rfl (lv_at hl 0 rfl) ?_
  refine lv_if_lt (tgt := 46) hx hb dX11_putOnTape_4 (by decide) (fun c_6 => absurd c_6 (by decide)) (fun _ => ?_)
  refine lv_aload_n hx hb dX11_putOnTape_7 rfl (lv_at hl 1 rfl) ?_
  refine va_get (D := D) (ci := 11) (v := .int 5) (C := RX11) (T := TX11) (N := 20) hx hb hts uX11 hown hkb.1 hP 0 rfl rfl 1 (by decide) (hts _ kw_361) (fun _ h9 => h9) rfl dX11_putOnTape_8 ?_
  refine lv_sipush (v := 900) hx hb dX11_putOnTape_11 (by decide) ?_
  refine lv_icmp_ge (tgt := 46) hx hb dX11_putOnTape_14 (by decide) (fun c_7 => absurd c_7 (by decide)) (fun _ => ?_)
  refine lv_aload_n hx hb dX11_putOnTape_17 rfl (lv_at hl 1 rfl) ?_
  refine va_get (D := D) (ci := 11) (v := .ref a_tp) (C := RX11) (T := TX11) (N := 20) hx hb hts uX11 hown hkb.1 hP 0 rfl rfl 0 (by decide) (hts _ kw_360) (fun _ h9 => h9) rfl dX11_putOnTape_18 ?_
  refine lv_aload_n hx hb dX11_putOnTape_21 rfl (lv_at hl 1 rfl) ?_
  refine va_get (D := D) (ci := 11) (v := .int 5) (C := RX11) (T := TX11) (N := 20) hx hb hts uX11 hown hkb.1 hP 0 rfl rfl 1 (by decide) (hts _ kw_361) (fun _ h9 => h9) rfl dX11_putOnTape_22 ?_
  refine lv_iload_n hx hb dX11_putOnTape_25 rfl (lv_at hl 2 rfl) ?_
  refine lv_iload_n hx hb dX11_putOnTape_26 rfl (lv_at hl 0 rfl) ?_
  refine lv_ishr hx hb dX11_putOnTape_27 ?_
  refine lv_topi (fun v_8 ev_8 => ?_)
  refine lv_i2b hx hb dX11_putOnTape_28 rfl ?_
  refine lv_topi (fun v_9 ev_9 => ?_)
  refine s_b 1 0 hx hb hkb.1 hP hD hS rfl rfl (in_c (by decide +kernel)) 5 (by decide +kernel) dX11_putOnTape_29 (fun H locs hP hD hS => ?_)
  have hP : va_P D cls [(h0, .inr (11, [.ref a_tp, .int 5, .ref a_rd, .ref a_wl, .ref a_st, .ref a_bf, .ref a_ps, .int 0, .int 0, .ref a_iw, .ref a_is, .ref a_tr, .ref a_rw, .ref a_or, .ref a_wy, .ref a_ct, .ref a_ch, .ref a_tn, .ref a_bt, .int (-1)])), (a_tp, .inl (cB, 900, .inl (upd f_5 5 (vp_nar .byte v_9))))] H := hP
  have hD : va_D A [(h0, .inr (11, [.ref a_tp, .int 5, .ref a_rd, .ref a_wl, .ref a_st, .ref a_bf, .ref a_ps, .int 0, .int 0, .ref a_iw, .ref a_is, .ref a_tr, .ref a_rw, .ref a_or, .ref a_wy, .ref a_ct, .ref a_ch, .ref a_tn, .ref a_bt, .int (-1)])), (a_tp, .inl (cB, 900, .inl (upd f_5 5 (vp_nar .byte v_9))))] := hD
  generalize hq9 : upd f_5 5 (vp_nar .byte v_9) = f_10 at hP hD; clear hq9
  have hP : va_P D cls [(h0, .inr (11, [.ref a_tp, .int 5, .ref a_rd, .ref a_wl, .ref a_st, .ref a_bf, .ref a_ps, .int 0, .int 0, .ref a_iw, .ref a_is, .ref a_tr, .ref a_rw, .ref a_or, .ref a_wy, .ref a_ct, .ref a_ch, .ref a_tn, .ref a_bt, .int (-1)])), (a_tp, .inl (cB, 900, .inl f_10))] H := hP
  have hD : va_D A [(h0, .inr (11, [.ref a_tp, .int 5, .ref a_rd, .ref a_wl, .ref a_st, .ref a_bf, .ref a_ps, .int 0, .int 0, .ref a_iw, .ref a_is, .ref a_tr, .ref a_rw, .ref a_or, .ref a_wy, .ref a_ct, .ref a_ch, .ref a_tn, .ref a_bt, .int (-1)])), (a_tp, .inl (cB, 900, .inl f_10))] := hD
  refine lv_aload_n hx hb dX11_putOnTape_30 rfl (lv_at hl 1 rfl) ?_
  refine lv_dup hx hb dX11_putOnTape_31 rfl ?_
  refine va_get (D := D) (ci := 11) (v := .int 5) (C := RX11) (T := TX11) (N := 20) hx hb hts uX11 hown hkb.1 hP 0 rfl rfl 1 (by decide) (hts _ kw_361) (fun _ h9 => h9) rfl dX11_putOnTape_32 ?_
  refine lv_iconst (v := 1) hx hb dX11_putOnTape_35 (by decide) ?_
  refine lv_iadd hx hb dX11_putOnTape_36 ?_
  refine lv_topc (y := 6) (by decide +kernel) ?_
  refine va_put (D := D) (ci := 11) (v := .int 6) (ty := tyX11 1) (C := RX11) (T := TX11) (N := 20) hx hb hts uX11 tyX11 tyX11_ok nmX11 hown hkb.1 hP hD hS 0 rfl rfl 1 (by decide) (hts _ kw_361) (fun _ h9 => h9) rfl (tyX11_ok 1 (by decide)) rfl rfl (Nat.le_of_ble_eq_true rfl) dX11_putOnTape_37 (fun H locs hP hD hS => ?_)
  have hP : va_P D cls [(h0, .inr (11, [.ref a_tp, .int 6, .ref a_rd, .ref a_wl, .ref a_st, .ref a_bf, .ref a_ps, .int 0, .int 0, .ref a_iw, .ref a_is, .ref a_tr, .ref a_rw, .ref a_or, .ref a_wy, .ref a_ct, .ref a_ch, .ref a_tn, .ref a_bt, .int (-1)])), (a_tp, .inl (cB, 900, .inl f_10))] H := hP
  have hD : va_D A [(h0, .inr (11, [.ref a_tp, .int 6, .ref a_rd, .ref a_wl, .ref a_st, .ref a_bf, .ref a_ps, .int 0, .int 0, .ref a_iw, .ref a_is, .ref a_tr, .ref a_rw, .ref a_or, .ref a_wy, .ref a_ct, .ref a_ch, .ref a_tn, .ref a_bt, .int (-1)])), (a_tp, .inl (cB, 900, .inl f_10))] := hD
  refine lv_iinc (v := 8) (lv' := [(2, .int 8), (0, .ref h0), (1, .int i_v)]) hx hb dX11_putOnTape_40 hl (k := 0) rfl (by decide) (by decide) rfl (fun ls hl => ?_)
  refine lv_goto (tgt := 3) hx hb dX11_putOnTape_43 (by decide) ?_
  refine lv_iload_n hx hb dX11_putOnTape_3 rfl (lv_at hl 0 rfl) ?_
  refine lv_if_lt (tgt := 46) hx hb dX11_putOnTape_4 (by decide) (fun c_11 => absurd c_11 (by decide)) (fun _ => ?_)
  refine lv_aload_n hx hb dX11_putOnTape_7 rfl (lv_at hl 1 rfl) ?_
  refine va_get (D := D) (ci := 11) (v := .int 6) (C := RX11) (T := TX11) (N := 20) hx hb hts uX11 hown hkb.1 hP 0 rfl rfl 1 (by decide) (hts _ kw_361) (fun _ h9 => h9) rfl dX11_putOnTape_8 ?_
  refine lv_sipush (v := 900) hx hb dX11_putOnTape_11 (by decide) ?_
  refine lv_icmp_ge (tgt := 46) hx hb dX11_putOnTape_14 (by decide) (fun c_12 => absurd c_12 (by decide)) (fun _ => ?_)
  refine lv_aload_n hx hb dX11_putOnTape_17 rfl (lv_at hl 1 rfl) ?_
  refine va_get (D := D) (ci := 11) (v := .ref a_tp) (C := RX11) (T := TX11) (N := 20) hx hb hts uX11 hown hkb.1 hP 0 rfl rfl 0 (by decide) (hts _ kw_360) (fun _ h9 => h9) rfl dX11_putOnTape_18 ?_
  refine lv_aload_n hx hb dX11_putOnTape_21 rfl (lv_at hl 1 rfl) ?_
  refine va_get (D := D) (ci := 11) (v := .int 6) (C := RX11) (T := TX11) (N := 20) hx hb hts uX11 hown hkb.1 hP 0 rfl rfl 1 (by decide) (hts _ kw_361) (fun _ h9 => h9) rfl dX11_putOnTape_22 ?_
  refine lv_iload_n hx hb dX11_putOnTape_25 rfl (lv_at hl 2 rfl) ?_
  refine lv_iload_n hx hb dX11_putOnTape_26 rfl (lv_at hl 0 rfl) ?_
  refine lv_ishr hx hb dX11_putOnTape_27 ?_
  refine lv_topi (fun v_13 ev_13 => ?_)
  refine lv_i2b hx hb dX11_putOnTape_28 rfl ?_
  refine lv_topi (fun v_14 ev_14 => ?_)
  refine s_b 1 0 hx hb hkb.1 hP hD hS rfl rfl (in_c (by decide +kernel)) 6 (by decide +kernel) dX11_putOnTape_29 (fun H locs hP hD hS => ?_)
  have hP : va_P D cls [(h0, .inr (11, [.ref a_tp, .int 6, .ref a_rd, .ref a_wl, .ref a_st, .ref a_bf, .ref a_ps, .int 0, .int 0, .ref a_iw, .ref a_is, .ref a_tr, .ref a_rw, .ref a_or, .ref a_wy, .ref a_ct, .ref a_ch, .ref a_tn, .ref a_bt, .int (-1)])), (a_tp, .inl (cB, 900, .inl (upd f_10 6 (vp_nar .byte v_14))))] H := hP
  have hD : va_D A [(h0, .inr (11, [.ref a_tp, .int 6, .ref a_rd, .ref a_wl, .ref a_st, .ref a_bf, .ref a_ps, .int 0, .int 0, .ref a_iw, .ref a_is, .ref a_tr, .ref a_rw, .ref a_or, .ref a_wy, .ref a_ct, .ref a_ch, .ref a_tn, .ref a_bt, .int (-1)])), (a_tp, .inl (cB, 900, .inl (upd f_10 6 (vp_nar .byte v_14))))] := hD
  generalize hq9 : upd f_10 6 (vp_nar .byte v_14) = f_15 at hP hD; clear hq9
  have hP : va_P D cls [(h0, .inr (11, [.ref a_tp, .int 6, .ref a_rd, .ref a_wl, .ref a_st, .ref a_bf, .ref a_ps, .int 0, .int 0, .ref a_iw, .ref a_is, .ref a_tr, .ref a_rw, .ref a_or, .ref a_wy, .ref a_ct, .ref a_ch, .ref a_tn, .ref a_bt, .int (-1)])), (a_tp, .inl (cB, 900, .inl f_15))] H := hP
  have hD : va_D A [(h0, .inr (11, [.ref a_tp, .int 6, .ref a_rd, .ref a_wl, .ref a_st, .ref a_bf, .ref a_ps, .int 0, .int 0, .ref a_iw, .ref a_is, .ref a_tr, .ref a_rw, .ref a_or, .ref a_wy, .ref a_ct, .ref a_ch, .ref a_tn, .ref a_bt, .int (-1)])), (a_tp, .inl (cB, 900, .inl f_15))] := hD
  refine lv_aload_n hx hb dX11_putOnTape_30 rfl (lv_at hl 1 rfl) ?_
  refine lv_dup hx hb dX11_putOnTape_31 rfl ?_
  refine va_get (D := D) (ci := 11) (v := .int 6) (C := RX11) (T := TX11) (N := 20) hx hb hts uX11 hown hkb.1 hP 0 rfl rfl 1 (by decide) (hts _ kw_361) (fun _ h9 => h9) rfl dX11_putOnTape_32 ?_
  refine lv_iconst (v := 1) hx hb dX11_putOnTape_35 (by decide) ?_
  refine lv_iadd hx hb dX11_putOnTape_36 ?_
  refine lv_topc (y := 7) (by decide +kernel) ?_
  refine va_put (D := D) (ci := 11) (v := .int 7) (ty := tyX11 1) (C := RX11) (T := TX11) (N := 20) hx hb hts uX11 tyX11 tyX11_ok nmX11 hown hkb.1 hP hD hS 0 rfl rfl 1 (by decide) (hts _ kw_361) (fun _ h9 => h9) rfl (tyX11_ok 1 (by decide)) rfl rfl (Nat.le_of_ble_eq_true rfl) dX11_putOnTape_37 (fun H locs hP hD hS => ?_)
  have hP : va_P D cls [(h0, .inr (11, [.ref a_tp, .int 7, .ref a_rd, .ref a_wl, .ref a_st, .ref a_bf, .ref a_ps, .int 0, .int 0, .ref a_iw, .ref a_is, .ref a_tr, .ref a_rw, .ref a_or, .ref a_wy, .ref a_ct, .ref a_ch, .ref a_tn, .ref a_bt, .int (-1)])), (a_tp, .inl (cB, 900, .inl f_15))] H := hP
  have hD : va_D A [(h0, .inr (11, [.ref a_tp, .int 7, .ref a_rd, .ref a_wl, .ref a_st, .ref a_bf, .ref a_ps, .int 0, .int 0, .ref a_iw, .ref a_is, .ref a_tr, .ref a_rw, .ref a_or, .ref a_wy, .ref a_ct, .ref a_ch, .ref a_tn, .ref a_bt, .int (-1)])), (a_tp, .inl (cB, 900, .inl f_15))] := hD
  refine lv_iinc (v := 0) (lv' := [(2, .int 0), (0, .ref h0), (1, .int i_v)]) hx hb dX11_putOnTape_40 hl (k := 0) rfl (by decide) (by decide) rfl (fun ls hl => ?_)
  refine lv_goto (tgt := 3) hx hb dX11_putOnTape_43 (by decide) ?_
  refine lv_iload_n hx hb dX11_putOnTape_3 rfl (lv_at hl 0 rfl) ?_
  refine lv_if_lt (tgt := 46) hx hb dX11_putOnTape_4 (by decide) (fun c_16 => absurd c_16 (by decide)) (fun _ => ?_)
  refine lv_aload_n hx hb dX11_putOnTape_7 rfl (lv_at hl 1 rfl) ?_
  refine va_get (D := D) (ci := 11) (v := .int 7) (C := RX11) (T := TX11) (N := 20) hx hb hts uX11 hown hkb.1 hP 0 rfl rfl 1 (by decide) (hts _ kw_361) (fun _ h9 => h9) rfl dX11_putOnTape_8 ?_
  refine lv_sipush (v := 900) hx hb dX11_putOnTape_11 (by decide) ?_
  refine lv_icmp_ge (tgt := 46) hx hb dX11_putOnTape_14 (by decide) (fun c_17 => absurd c_17 (by decide)) (fun _ => ?_)
  refine lv_aload_n hx hb dX11_putOnTape_17 rfl (lv_at hl 1 rfl) ?_
  refine va_get (D := D) (ci := 11) (v := .ref a_tp) (C := RX11) (T := TX11) (N := 20) hx hb hts uX11 hown hkb.1 hP 0 rfl rfl 0 (by decide) (hts _ kw_360) (fun _ h9 => h9) rfl dX11_putOnTape_18 ?_
  refine lv_aload_n hx hb dX11_putOnTape_21 rfl (lv_at hl 1 rfl) ?_
  refine va_get (D := D) (ci := 11) (v := .int 7) (C := RX11) (T := TX11) (N := 20) hx hb hts uX11 hown hkb.1 hP 0 rfl rfl 1 (by decide) (hts _ kw_361) (fun _ h9 => h9) rfl dX11_putOnTape_22 ?_
  refine lv_iload_n hx hb dX11_putOnTape_25 rfl (lv_at hl 2 rfl) ?_
  refine lv_iload_n hx hb dX11_putOnTape_26 rfl (lv_at hl 0 rfl) ?_
  refine lv_ishr hx hb dX11_putOnTape_27 ?_
  refine lv_topi (fun v_18 ev_18 => ?_)
  refine lv_i2b hx hb dX11_putOnTape_28 rfl ?_
  refine lv_topi (fun v_19 ev_19 => ?_)
  refine s_b 1 0 hx hb hkb.1 hP hD hS rfl rfl (in_c (by decide +kernel)) 7 (by decide +kernel) dX11_putOnTape_29 (fun H locs hP hD hS => ?_)
  have hP : va_P D cls [(h0, .inr (11, [.ref a_tp, .int 7, .ref a_rd, .ref a_wl, .ref a_st, .ref a_bf, .ref a_ps, .int 0, .int 0, .ref a_iw, .ref a_is, .ref a_tr, .ref a_rw, .ref a_or, .ref a_wy, .ref a_ct, .ref a_ch, .ref a_tn, .ref a_bt, .int (-1)])), (a_tp, .inl (cB, 900, .inl (upd f_15 7 (vp_nar .byte v_19))))] H := hP
  have hD : va_D A [(h0, .inr (11, [.ref a_tp, .int 7, .ref a_rd, .ref a_wl, .ref a_st, .ref a_bf, .ref a_ps, .int 0, .int 0, .ref a_iw, .ref a_is, .ref a_tr, .ref a_rw, .ref a_or, .ref a_wy, .ref a_ct, .ref a_ch, .ref a_tn, .ref a_bt, .int (-1)])), (a_tp, .inl (cB, 900, .inl (upd f_15 7 (vp_nar .byte v_19))))] := hD
  generalize hq9 : upd f_15 7 (vp_nar .byte v_19) = f_20 at hP hD; clear hq9
  have hP : va_P D cls [(h0, .inr (11, [.ref a_tp, .int 7, .ref a_rd, .ref a_wl, .ref a_st, .ref a_bf, .ref a_ps, .int 0, .int 0, .ref a_iw, .ref a_is, .ref a_tr, .ref a_rw, .ref a_or, .ref a_wy, .ref a_ct, .ref a_ch, .ref a_tn, .ref a_bt, .int (-1)])), (a_tp, .inl (cB, 900, .inl f_20))] H := hP
  have hD : va_D A [(h0, .inr (11, [.ref a_tp, .int 7, .ref a_rd, .ref a_wl, .ref a_st, .ref a_bf, .ref a_ps, .int 0, .int 0, .ref a_iw, .ref a_is, .ref a_tr, .ref a_rw, .ref a_or, .ref a_wy, .ref a_ct, .ref a_ch, .ref a_tn, .ref a_bt, .int (-1)])), (a_tp, .inl (cB, 900, .inl f_20))] := hD
  refine lv_aload_n hx hb dX11_putOnTape_30 rfl (lv_at hl 1 rfl) ?_
  refine lv_dup hx hb dX11_putOnTape_31 rfl ?_
  refine va_get (D := D) (ci := 11) (v := .int 7) (C := RX11) (T := TX11) (N := 20) hx hb hts uX11 hown hkb.1 hP 0 rfl rfl 1 (by decide) (hts _ kw_361) (fun _ h9 => h9) rfl dX11_putOnTape_32 ?_
  refine lv_iconst (v := 1) hx hb dX11_putOnTape_35 (by decide) ?_
  refine lv_iadd hx hb dX11_putOnTape_36 ?_
  refine lv_topc (y := 8) (by decide +kernel) ?_
  refine va_put (D := D) (ci := 11) (v := .int 8) (ty := tyX11 1) (C := RX11) (T := TX11) (N := 20) hx hb hts uX11 tyX11 tyX11_ok nmX11 hown hkb.1 hP hD hS 0 rfl rfl 1 (by decide) (hts _ kw_361) (fun _ h9 => h9) rfl (tyX11_ok 1 (by decide)) rfl rfl (Nat.le_of_ble_eq_true rfl) dX11_putOnTape_37 (fun H locs hP hD hS => ?_)
  have hP : va_P D cls [(h0, .inr (11, [.ref a_tp, .int 8, .ref a_rd, .ref a_wl, .ref a_st, .ref a_bf, .ref a_ps, .int 0, .int 0, .ref a_iw, .ref a_is, .ref a_tr, .ref a_rw, .ref a_or, .ref a_wy, .ref a_ct, .ref a_ch, .ref a_tn, .ref a_bt, .int (-1)])), (a_tp, .inl (cB, 900, .inl f_20))] H := hP
  have hD : va_D A [(h0, .inr (11, [.ref a_tp, .int 8, .ref a_rd, .ref a_wl, .ref a_st, .ref a_bf, .ref a_ps, .int 0, .int 0, .ref a_iw, .ref a_is, .ref a_tr, .ref a_rw, .ref a_or, .ref a_wy, .ref a_ct, .ref a_ch, .ref a_tn, .ref a_bt, .int (-1)])), (a_tp, .inl (cB, 900, .inl f_20))] := hD
  refine lv_iinc (v := (-8)) (lv' := [(2, .int (-8)), (0, .ref h0), (1, .int i_v)]) hx hb dX11_putOnTape_40 hl (k := 0) rfl (by decide) (by decide) rfl (fun ls hl => ?_)
  refine lv_goto (tgt := 3) hx hb dX11_putOnTape_43 (by decide) ?_
  refine lv_iload_n hx hb dX11_putOnTape_3 rfl (lv_at hl 0 rfl) ?_
  refine lv_if_lt (tgt := 46) hx hb dX11_putOnTape_4 (by decide) (fun _ => ?_) (fun c_21 => absurd c_21 (by decide))
  refine W.widen (k := 0) (n := 0) (Nat.le_of_ble_eq_true rfl) (Nat.le_of_ble_eq_true rfl) ?_
  exact e_v (u := [(h0, .inr (11, [.ref a_tp, .int 8, .ref a_rd, .ref a_wl, .ref a_st, .ref a_bf, .ref a_ps, .int 0, .int 0, .ref a_iw, .ref a_is, .ref a_tr, .ref a_rw, .ref a_or, .ref a_wy, .ref a_ct, .ref a_ch, .ref a_tn, .ref a_bt, .int (-1)])), (a_tp, .inl (cB, 900, .inl f_20))]) hx hb hr hlocks (hP.sub (ws' := [(h0, .inr (11, [.ref a_tp, .int 8, .ref a_rd, .ref a_wl, .ref a_st, .ref a_bf, .ref a_ps, .int 0, .int 0, .ref a_iw, .ref a_is, .ref a_tr, .ref a_rw, .ref a_or, .ref a_wy, .ref a_ct, .ref a_ch, .ref a_tn, .ref a_bt, .int (-1)])), (a_tp, .inl (cB, 900, .inl f_20))]) [0, 1] rfl) (hD.sub (ws' := [(h0, .inr (11, [.ref a_tp, .int 8, .ref a_rd, .ref a_wl, .ref a_st, .ref a_bf, .ref a_ps, .int 0, .int 0, .ref a_iw, .ref a_is, .ref a_tr, .ref a_rw, .ref a_or, .ref a_wy, .ref a_ct, .ref a_ch, .ref a_tn, .ref a_bt, .int (-1)])), (a_tp, .inl (cB, 900, .inl f_20))]) [0, 1] (by decide) rfl) hS ⟨f_20, rfl⟩ dX11_putOnTape_46
set_option maxHeartbeats 4000000 in
set_option maxRecDepth 100000 in
theorem c_tape8 (l : Launch) (D : va_G) (cB cI cJ cZ cS cW cT cR : ClassId) (h0 : Nat) (a_tp : Nat) (i_v : Int32) (a_rd : Nat) (a_wl : Nat) (a_st : Nat) (a_bf : Nat) (a_ps : Nat) (a_iw : Nat) (a_is : Nat) (a_tr : Nat) (a_rw : Nat) (a_or : Nat) (a_wy : Nat) (a_ct : Nat) (a_ch : Nat) (a_tn : Nat) (a_bt : Nat) (f_tp : Nat → Int32) : Kon l D (tyl cB cI cJ cZ cS cW cT cR) yX11_putOnTape cX11_putOnTape 3 none { frames := 0, cells := 0, slots := 0, locals := 0 } [.ref h0, .int i_v] [(h0, .inr (11, [.ref a_tp, .int 8, .ref a_rd, .ref a_wl, .ref a_st, .ref a_bf, .ref a_ps, .int 0, .int 0, .ref a_iw, .ref a_is, .ref a_tr, .ref a_rw, .ref a_or, .ref a_wy, .ref a_ct, .ref a_ch, .ref a_tn, .ref a_bt, .int (-1)])), (a_tp, .inl (cB, 900, .inl f_tp))] (Qv D (fun u => ∃ (f_20 : Nat → Int32), u = [(h0, .inr (11, [.ref a_tp, .int 12, .ref a_rd, .ref a_wl, .ref a_st, .ref a_bf, .ref a_ps, .int 0, .int 0, .ref a_iw, .ref a_is, .ref a_tr, .ref a_rw, .ref a_or, .ref a_wy, .ref a_ct, .ref a_ch, .ref a_tn, .ref a_bt, .int (-1)])), (a_tp, .inl (cB, 900, .inl f_20))])) := by
  refine kon_of (by decide) (Nat.le_of_ble_eq_true rfl) (fun p e s m below meth c ls A hx hb hr hml hown hts hlocks hnm hkb hP hD hS hA hl => ?_)
  have hown : s.vm.findClass RX11 = some m.cls := hown
  have hl : lv_has ls 3 [(0, .ref h0), (1, .int i_v)] := hl
  have hP : va_P D cls [(h0, .inr (11, [.ref a_tp, .int 8, .ref a_rd, .ref a_wl, .ref a_st, .ref a_bf, .ref a_ps, .int 0, .int 0, .ref a_iw, .ref a_is, .ref a_tr, .ref a_rw, .ref a_or, .ref a_wy, .ref a_ct, .ref a_ch, .ref a_tn, .ref a_bt, .int (-1)])), (a_tp, .inl (cB, 900, .inl f_tp))] s.heap := hP
  refine lv_bipush (v := 24) hx hb dX11_putOnTape_0 (by decide) ?_
  refine lv_istore_n (lv' := [(2, .int 24), (0, .ref h0), (1, .int i_v)]) hx hb dX11_putOnTape_2 rfl hl (by decide) rfl (fun ls hl => ?_)
  refine lv_iload_n hx hb dX11_putOnTape_3 rfl (lv_at hl 0 rfl) ?_
  refine lv_if_lt (tgt := 46) hx hb dX11_putOnTape_4 (by decide) (fun c_1 => absurd c_1 (by decide)) (fun _ => ?_)
  refine lv_aload_n hx hb dX11_putOnTape_7 rfl (lv_at hl 1 rfl) ?_
  refine va_get (D := D) (ci := 11) (v := .int 8) (C := RX11) (T := TX11) (N := 20) hx hb hts uX11 hown hkb.1 hP 0 rfl rfl 1 (by decide) (hts _ kw_361) (fun _ h9 => h9) rfl dX11_putOnTape_8 ?_
  refine lv_sipush (v := 900) hx hb dX11_putOnTape_11 (by decide) ?_
  refine lv_icmp_ge (tgt := 46) hx hb dX11_putOnTape_14 (by decide) (fun c_2 => absurd c_2 (by decide)) (fun _ => ?_)
  refine lv_aload_n hx hb dX11_putOnTape_17 rfl (lv_at hl 1 rfl) ?_
  refine va_get (D := D) (ci := 11) (v := .ref a_tp) (C := RX11) (T := TX11) (N := 20) hx hb hts uX11 hown hkb.1 hP 0 rfl rfl 0 (by decide) (hts _ kw_360) (fun _ h9 => h9) rfl dX11_putOnTape_18 ?_
  refine lv_aload_n hx hb dX11_putOnTape_21 rfl (lv_at hl 1 rfl) ?_
  refine va_get (D := D) (ci := 11) (v := .int 8) (C := RX11) (T := TX11) (N := 20) hx hb hts uX11 hown hkb.1 hP 0 rfl rfl 1 (by decide) (hts _ kw_361) (fun _ h9 => h9) rfl dX11_putOnTape_22 ?_
  refine lv_iload_n hx hb dX11_putOnTape_25 rfl (lv_at hl 2 rfl) ?_
  refine lv_iload_n hx hb dX11_putOnTape_26 rfl (lv_at hl 0 rfl) ?_
  refine lv_ishr hx hb dX11_putOnTape_27 ?_
  refine lv_topi (fun v_3 ev_3 => ?_)
  refine lv_i2b hx hb dX11_putOnTape_28 rfl ?_
  refine lv_topi (fun v_4 ev_4 => ?_)
  refine s_b 1 0 hx hb hkb.1 hP hD hS rfl rfl (in_c (by decide +kernel)) 8 (by decide +kernel) dX11_putOnTape_29 (fun H locs hP hD hS => ?_)
  have hP : va_P D cls [(h0, .inr (11, [.ref a_tp, .int 8, .ref a_rd, .ref a_wl, .ref a_st, .ref a_bf, .ref a_ps, .int 0, .int 0, .ref a_iw, .ref a_is, .ref a_tr, .ref a_rw, .ref a_or, .ref a_wy, .ref a_ct, .ref a_ch, .ref a_tn, .ref a_bt, .int (-1)])), (a_tp, .inl (cB, 900, .inl (upd f_tp 8 (vp_nar .byte v_4))))] H := hP
  have hD : va_D A [(h0, .inr (11, [.ref a_tp, .int 8, .ref a_rd, .ref a_wl, .ref a_st, .ref a_bf, .ref a_ps, .int 0, .int 0, .ref a_iw, .ref a_is, .ref a_tr, .ref a_rw, .ref a_or, .ref a_wy, .ref a_ct, .ref a_ch, .ref a_tn, .ref a_bt, .int (-1)])), (a_tp, .inl (cB, 900, .inl (upd f_tp 8 (vp_nar .byte v_4))))] := hD
  generalize hq9 : upd f_tp 8 (vp_nar .byte v_4) = f_5 at hP hD; clear hq9
  have hP : va_P D cls [(h0, .inr (11, [.ref a_tp, .int 8, .ref a_rd, .ref a_wl, .ref a_st, .ref a_bf, .ref a_ps, .int 0, .int 0, .ref a_iw, .ref a_is, .ref a_tr, .ref a_rw, .ref a_or, .ref a_wy, .ref a_ct, .ref a_ch, .ref a_tn, .ref a_bt, .int (-1)])), (a_tp, .inl (cB, 900, .inl f_5))] H := hP
  have hD : va_D A [(h0, .inr (11, [.ref a_tp, .int 8, .ref a_rd, .ref a_wl, .ref a_st, .ref a_bf, .ref a_ps, .int 0, .int 0, .ref a_iw, .ref a_is, .ref a_tr, .ref a_rw, .ref a_or, .ref a_wy, .ref a_ct, .ref a_ch, .ref a_tn, .ref a_bt, .int (-1)])), (a_tp, .inl (cB, 900, .inl f_5))] := hD
  refine lv_aload_n hx hb dX11_putOnTape_30 rfl (lv_at hl 1 rfl) ?_
  refine lv_dup hx hb dX11_putOnTape_31 rfl ?_
  refine va_get (D := D) (ci := 11) (v := .int 8) (C := RX11) (T := TX11) (N := 20) hx hb hts uX11 hown hkb.1 hP 0 rfl rfl 1 (by decide) (hts _ kw_361) (fun _ h9 => h9) rfl dX11_putOnTape_32 ?_
  refine lv_iconst (v := 1) hx hb dX11_putOnTape_35 (by decide) ?_
  refine lv_iadd hx hb dX11_putOnTape_36 ?_
  refine lv_topc (y := 9) (by decide +kernel) ?_
  refine va_put (D := D) (ci := 11) (v := .int 9) (ty := tyX11 1) (C := RX11) (T := TX11) (N := 20) hx hb hts uX11 tyX11 tyX11_ok nmX11 hown hkb.1 hP hD hS 0 rfl rfl 1 (by decide) (hts _ kw_361) (fun _ h9 => h9) rfl (tyX11_ok 1 (by decide)) rfl rfl (Nat.le_of_ble_eq_true rfl) dX11_putOnTape_37 (fun H locs hP hD hS => ?_)
  have hP : va_P D cls [(h0, .inr (11, [.ref a_tp, .int 9, .ref a_rd, .ref a_wl, .ref a_st, .ref a_bf, .ref a_ps, .int 0, .int 0, .ref a_iw, .ref a_is, .ref a_tr, .ref a_rw, .ref a_or, .ref a_wy, .ref a_ct, .ref a_ch, .ref a_tn, .ref a_bt, .int (-1)])), (a_tp, .inl (cB, 900, .inl f_5))] H := hP
  have hD : va_D A [(h0, .inr (11, [.ref a_tp, .int 9, .ref a_rd, .ref a_wl, .ref a_st, .ref a_bf, .ref a_ps, .int 0, .int 0, .ref a_iw, .ref a_is, .ref a_tr, .ref a_rw, .ref a_or, .ref a_wy, .ref a_ct, .ref a_ch, .ref a_tn, .ref a_bt, .int (-1)])), (a_tp, .inl (cB, 900, .inl f_5))] := hD
  refine lv_iinc (v := 16) (lv' := [(2, .int 16), (0, .ref h0), (1, .int i_v)]) hx hb dX11_putOnTape_40 hl (k := 0) rfl (by decide) (by decide) rfl (fun ls hl => ?_)
  refine lv_goto (tgt := 3) hx hb dX11_putOnTape_43 (by decide) ?_
  refine lv_iload_n hx hb dX11_putOnTape_3 rfl (lv_at hl 0 rfl) ?_
  refine lv_if_lt (tgt := 46) hx hb dX11_putOnTape_4 (by decide) (fun c_6 => absurd c_6 (by decide)) (fun _ => ?_)
  refine lv_aload_n hx hb dX11_putOnTape_7 rfl (lv_at hl 1 rfl) ?_
  refine va_get (D := D) (ci := 11) (v := .int 9) (C := RX11) (T := TX11) (N := 20) hx hb hts uX11 hown hkb.1 hP 0 rfl rfl 1 (by decide) (hts _ kw_361) (fun _ h9 => h9) rfl dX11_putOnTape_8 ?_
  refine lv_sipush (v := 900) hx hb dX11_putOnTape_11 (by decide) ?_
  refine lv_icmp_ge (tgt := 46) hx hb dX11_putOnTape_14 (by decide) (fun c_7 => absurd c_7 (by decide)) (fun _ => ?_)
  refine lv_aload_n hx hb dX11_putOnTape_17 rfl (lv_at hl 1 rfl) ?_
  refine va_get (D := D) (ci := 11) (v := .ref a_tp) (C := RX11) (T := TX11) (N := 20) hx hb hts uX11 hown hkb.1 hP 0 rfl rfl 0 (by decide) (hts _ kw_360) (fun _ h9 => h9) rfl dX11_putOnTape_18 ?_
  refine lv_aload_n hx hb dX11_putOnTape_21 rfl (lv_at hl 1 rfl) ?_
  refine va_get (D := D) (ci := 11) (v := .int 9) (C := RX11) (T := TX11) (N := 20) hx hb hts uX11 hown hkb.1 hP 0 rfl rfl 1 (by decide) (hts _ kw_361) (fun _ h9 => h9) rfl dX11_putOnTape_22 ?_
  refine lv_iload_n hx hb dX11_putOnTape_25 rfl (lv_at hl 2 rfl) ?_
  refine lv_iload_n hx hb dX11_putOnTape_26 rfl (lv_at hl 0 rfl) ?_
  refine lv_ishr hx hb dX11_putOnTape_27 ?_
  refine lv_topi (fun v_8 ev_8 => ?_)
  refine lv_i2b hx hb dX11_putOnTape_28 rfl ?_
  refine lv_topi (fun v_9 ev_9 => ?_)
  refine s_b 1 0 hx hb hkb.1 hP hD hS rfl rfl (in_c (by decide +kernel)) 9 (by decide +kernel) dX11_putOnTape_29 (fun H locs hP hD hS => ?_)
  have hP : va_P D cls [(h0, .inr (11, [.ref a_tp, .int 9, .ref a_rd, .ref a_wl, .ref a_st, .ref a_bf, .ref a_ps, .int 0, .int 0, .ref a_iw, .ref a_is, .ref a_tr, .ref a_rw, .ref a_or, .ref a_wy, .ref a_ct, .ref a_ch, .ref a_tn, .ref a_bt, .int (-1)])), (a_tp, .inl (cB, 900, .inl (upd f_5 9 (vp_nar .byte v_9))))] H := hP
  have hD : va_D A [(h0, .inr (11, [.ref a_tp, .int 9, .ref a_rd, .ref a_wl, .ref a_st, .ref a_bf, .ref a_ps, .int 0, .int 0, .ref a_iw, .ref a_is, .ref a_tr, .ref a_rw, .ref a_or, .ref a_wy, .ref a_ct, .ref a_ch, .ref a_tn, .ref a_bt, .int (-1)])), (a_tp, .inl (cB, 900, .inl (upd f_5 9 (vp_nar .byte v_9))))] := hD
  generalize hq9 : upd f_5 9 (vp_nar .byte v_9) = f_10 at hP hD; clear hq9
  have hP : va_P D cls [(h0, .inr (11, [.ref a_tp, .int 9, .ref a_rd, .ref a_wl, .ref a_st, .ref a_bf, .ref a_ps, .int 0, .int 0, .ref a_iw, .ref a_is, .ref a_tr, .ref a_rw, .ref a_or, .ref a_wy, .ref a_ct, .ref a_ch, .ref a_tn, .ref a_bt, .int (-1)])), (a_tp, .inl (cB, 900, .inl f_10))] H := hP
  have hD : va_D A [(h0, .inr (11, [.ref a_tp, .int 9, .ref a_rd, .ref a_wl, .ref a_st, .ref a_bf, .ref a_ps, .int 0, .int 0, .ref a_iw, .ref a_is, .ref a_tr, .ref a_rw, .ref a_or, .ref a_wy, .ref a_ct, .ref a_ch, .ref a_tn, .ref a_bt, .int (-1)])), (a_tp, .inl (cB, 900, .inl f_10))] := hD
  refine lv_aload_n hx hb dX11_putOnTape_30 rfl (lv_at hl 1 rfl) ?_
  refine lv_dup hx hb dX11_putOnTape_31 rfl ?_
  refine va_get (D := D) (ci := 11) (v := .int 9) (C := RX11) (T := TX11) (N := 20) hx hb hts uX11 hown hkb.1 hP 0 rfl rfl 1 (by decide) (hts _ kw_361) (fun _ h9 => h9) rfl dX11_putOnTape_32 ?_
  refine lv_iconst (v := 1) hx hb dX11_putOnTape_35 (by decide) ?_
  refine lv_iadd hx hb dX11_putOnTape_36 ?_
  refine lv_topc (y := 10) (by decide +kernel) ?_
  refine va_put (D := D) (ci := 11) (v := .int 10) (ty := tyX11 1) (C := RX11) (T := TX11) (N := 20) hx hb hts uX11 tyX11 tyX11_ok nmX11 hown hkb.1 hP hD hS 0 rfl rfl 1 (by decide) (hts _ kw_361) (fun _ h9 => h9) rfl (tyX11_ok 1 (by decide)) rfl rfl (Nat.le_of_ble_eq_true rfl) dX11_putOnTape_37 (fun H locs hP hD hS => ?_)
  have hP : va_P D cls [(h0, .inr (11, [.ref a_tp, .int 10, .ref a_rd, .ref a_wl, .ref a_st, .ref a_bf, .ref a_ps, .int 0, .int 0, .ref a_iw, .ref a_is, .ref a_tr, .ref a_rw, .ref a_or, .ref a_wy, .ref a_ct, .ref a_ch, .ref a_tn, .ref a_bt, .int (-1)])), (a_tp, .inl (cB, 900, .inl f_10))] H := hP
  have hD : va_D A [(h0, .inr (11, [.ref a_tp, .int 10, .ref a_rd, .ref a_wl, .ref a_st, .ref a_bf, .ref a_ps, .int 0, .int 0, .ref a_iw, .ref a_is, .ref a_tr, .ref a_rw, .ref a_or, .ref a_wy, .ref a_ct, .ref a_ch, .ref a_tn, .ref a_bt, .int (-1)])), (a_tp, .inl (cB, 900, .inl f_10))] := hD
  refine lv_iinc (v := 8) (lv' := [(2, .int 8), (0, .ref h0), (1, .int i_v)]) hx hb dX11_putOnTape_40 hl (k := 0) rfl (by decide) (by decide) rfl (fun ls hl => ?_)
  refine lv_goto (tgt := 3) hx hb dX11_putOnTape_43 (by decide) ?_
  refine lv_iload_n hx hb dX11_putOnTape_3 rfl (lv_at hl 0 rfl) ?_
  refine lv_if_lt (tgt := 46) hx hb dX11_putOnTape_4 (by decide) (fun c_11 => absurd c_11 (by decide)) (fun _ => ?_)
  refine lv_aload_n hx hb dX11_putOnTape_7 rfl (lv_at hl 1 rfl) ?_
  refine va_get (D := D) (ci := 11) (v := .int 10) (C := RX11) (T := TX11) (N := 20) hx hb hts uX11 hown hkb.1 hP 0 rfl rfl 1 (by decide) (hts _ kw_361) (fun _ h9 => h9) rfl dX11_putOnTape_8 ?_
  refine lv_sipush (v := 900) hx hb dX11_putOnTape_11 (by decide) ?_
  refine lv_icmp_ge (tgt := 46) hx hb dX11_putOnTape_14 (by decide) (fun c_12 => absurd c_12 (by decide)) (fun _ => ?_)
  refine lv_aload_n hx hb dX11_putOnTape_17 rfl (lv_at hl 1 rfl) ?_
  refine va_get (D := D) (ci := 11) (v := .ref a_tp) (C := RX11) (T := TX11) (N := 20) hx hb hts uX11 hown hkb.1 hP 0 rfl rfl 0 (by decide) (hts _ kw_360) (fun _ h9 => h9) rfl dX11_putOnTape_18 ?_
  refine lv_aload_n hx hb dX11_putOnTape_21 rfl (lv_at hl 1 rfl) ?_
  refine va_get (D := D) (ci := 11) (v := .int 10) (C := RX11) (T := TX11) (N := 20) hx hb hts uX11 hown hkb.1 hP 0 rfl rfl 1 (by decide) (hts _ kw_361) (fun _ h9 => h9) rfl dX11_putOnTape_22 ?_
  refine lv_iload_n hx hb dX11_putOnTape_25 rfl (lv_at hl 2 rfl) ?_
  refine lv_iload_n hx hb dX11_putOnTape_26 rfl (lv_at hl 0 rfl) ?_
  refine lv_ishr hx hb dX11_putOnTape_27 ?_
  refine lv_topi (fun v_13 ev_13 => ?_)
  refine lv_i2b hx hb dX11_putOnTape_28 rfl ?_
  refine lv_topi (fun v_14 ev_14 => ?_)
  refine s_b 1 0 hx hb hkb.1 hP hD hS rfl rfl (in_c (by decide +kernel)) 10 (by decide +kernel) dX11_putOnTape_29 (fun H locs hP hD hS => ?_)
  have hP : va_P D cls [(h0, .inr (11, [.ref a_tp, .int 10, .ref a_rd, .ref a_wl, .ref a_st, .ref a_bf, .ref a_ps, .int 0, .int 0, .ref a_iw, .ref a_is, .ref a_tr, .ref a_rw, .ref a_or, .ref a_wy, .ref a_ct, .ref a_ch, .ref a_tn, .ref a_bt, .int (-1)])), (a_tp, .inl (cB, 900, .inl (upd f_10 10 (vp_nar .byte v_14))))] H := hP
  have hD : va_D A [(h0, .inr (11, [.ref a_tp, .int 10, .ref a_rd, .ref a_wl, .ref a_st, .ref a_bf, .ref a_ps, .int 0, .int 0, .ref a_iw, .ref a_is, .ref a_tr, .ref a_rw, .ref a_or, .ref a_wy, .ref a_ct, .ref a_ch, .ref a_tn, .ref a_bt, .int (-1)])), (a_tp, .inl (cB, 900, .inl (upd f_10 10 (vp_nar .byte v_14))))] := hD
  generalize hq9 : upd f_10 10 (vp_nar .byte v_14) = f_15 at hP hD; clear hq9
  have hP : va_P D cls [(h0, .inr (11, [.ref a_tp, .int 10, .ref a_rd, .ref a_wl, .ref a_st, .ref a_bf, .ref a_ps, .int 0, .int 0, .ref a_iw, .ref a_is, .ref a_tr, .ref a_rw, .ref a_or, .ref a_wy, .ref a_ct, .ref a_ch, .ref a_tn, .ref a_bt, .int (-1)])), (a_tp, .inl (cB, 900, .inl f_15))] H := hP
  have hD : va_D A [(h0, .inr (11, [.ref a_tp, .int 10, .ref a_rd, .ref a_wl, .ref a_st, .ref a_bf, .ref a_ps, .int 0, .int 0, .ref a_iw, .ref a_is, .ref a_tr, .ref a_rw, .ref a_or, .ref a_wy, .ref a_ct, .ref a_ch, .ref a_tn, .ref a_bt, .int (-1)])), (a_tp, .inl (cB, 900, .inl f_15))] := hD
  refine lv_aload_n hx hb dX11_putOnTape_30 rfl (lv_at hl 1 rfl) ?_
  refine lv_dup hx hb dX11_putOnTape_31 rfl ?_
  refine va_get (D := D) (ci := 11) (v := .int 10) (C := RX11) (T := TX11) (N := 20) hx hb hts uX11 hown hkb.1 hP 0 rfl rfl 1 (by decide) (hts _ kw_361) (fun _ h9 => h9) rfl dX11_putOnTape_32 ?_
  refine lv_iconst (v := 1) hx hb dX11_putOnTape_35 (by decide) ?_
  refine lv_iadd hx hb dX11_putOnTape_36 ?_
  refine lv_topc (y := 11) (by decide +kernel) ?_
  refine va_put (D := D) (ci := 11) (v := .int 11) (ty := tyX11 1) (C := RX11) (T := TX11) (N := 20) hx hb hts uX11 tyX11 tyX11_ok nmX11 hown hkb.1 hP hD hS 0 rfl rfl 1 (by decide) (hts _ kw_361) (fun _ h9 => h9) rfl (tyX11_ok 1 (by decide)) rfl rfl (Nat.le_of_ble_eq_true rfl) dX11_putOnTape_37 (fun H locs hP hD hS => ?_)
  have hP : va_P D cls [(h0, .inr (11, [.ref a_tp, .int 11, .ref a_rd, .ref a_wl, .ref a_st, .ref a_bf, .ref a_ps, .int 0, .int 0, .ref a_iw, .ref a_is, .ref a_tr, .ref a_rw, .ref a_or, .ref a_wy, .ref a_ct, .ref a_ch, .ref a_tn, .ref a_bt, .int (-1)])), (a_tp, .inl (cB, 900, .inl f_15))] H := hP
  have hD : va_D A [(h0, .inr (11, [.ref a_tp, .int 11, .ref a_rd, .ref a_wl, .ref a_st, .ref a_bf, .ref a_ps, .int 0, .int 0, .ref a_iw, .ref a_is, .ref a_tr, .ref a_rw, .ref a_or, .ref a_wy, .ref a_ct, .ref a_ch, .ref a_tn, .ref a_bt, .int (-1)])), (a_tp, .inl (cB, 900, .inl f_15))] := hD
  refine lv_iinc (v := 0) (lv' := [(2, .int 0), (0, .ref h0), (1, .int i_v)]) hx hb dX11_putOnTape_40 hl (k := 0) rfl (by decide) (by decide) rfl (fun ls hl => ?_)
  refine lv_goto (tgt := 3) hx hb dX11_putOnTape_43 (by decide) ?_
  refine lv_iload_n hx hb dX11_putOnTape_3 rfl (lv_at hl 0 rfl) ?_
  refine lv_if_lt (tgt := 46) hx hb dX11_putOnTape_4 (by decide) (fun c_16 => absurd c_16 (by decide)) (fun _ => ?_)
  refine lv_aload_n hx hb dX11_putOnTape_7 rfl (lv_at hl 1 rfl) ?_
  refine va_get (D := D) (ci := 11) (v := .int 11) (C := RX11) (T := TX11) (N := 20) hx hb hts uX11 hown hkb.1 hP 0 rfl rfl 1 (by decide) (hts _ kw_361) (fun _ h9 => h9) rfl dX11_putOnTape_8 ?_
  refine lv_sipush (v := 900) hx hb dX11_putOnTape_11 (by decide) ?_
  refine lv_icmp_ge (tgt := 46) hx hb dX11_putOnTape_14 (by decide) (fun c_17 => absurd c_17 (by decide)) (fun _ => ?_)
  refine lv_aload_n hx hb dX11_putOnTape_17 rfl (lv_at hl 1 rfl) ?_
  refine va_get (D := D) (ci := 11) (v := .ref a_tp) (C := RX11) (T := TX11) (N := 20) hx hb hts uX11 hown hkb.1 hP 0 rfl rfl 0 (by decide) (hts _ kw_360) (fun _ h9 => h9) rfl dX11_putOnTape_18 ?_
  refine lv_aload_n hx hb dX11_putOnTape_21 rfl (lv_at hl 1 rfl) ?_
  refine va_get (D := D) (ci := 11) (v := .int 11) (C := RX11) (T := TX11) (N := 20) hx hb hts uX11 hown hkb.1 hP 0 rfl rfl 1 (by decide) (hts _ kw_361) (fun _ h9 => h9) rfl dX11_putOnTape_22 ?_
  refine lv_iload_n hx hb dX11_putOnTape_25 rfl (lv_at hl 2 rfl) ?_
  refine lv_iload_n hx hb dX11_putOnTape_26 rfl (lv_at hl 0 rfl) ?_
  refine lv_ishr hx hb dX11_putOnTape_27 ?_
  refine lv_topi (fun v_18 ev_18 => ?_)
  refine lv_i2b hx hb dX11_putOnTape_28 rfl ?_
  refine lv_topi (fun v_19 ev_19 => ?_)
  refine s_b 1 0 hx hb hkb.1 hP hD hS rfl rfl (in_c (by decide +kernel)) 11 (by decide +kernel) dX11_putOnTape_29 (fun H locs hP hD hS => ?_)
  have hP : va_P D cls [(h0, .inr (11, [.ref a_tp, .int 11, .ref a_rd, .ref a_wl, .ref a_st, .ref a_bf, .ref a_ps, .int 0, .int 0, .ref a_iw, .ref a_is, .ref a_tr, .ref a_rw, .ref a_or, .ref a_wy, .ref a_ct, .ref a_ch, .ref a_tn, .ref a_bt, .int (-1)])), (a_tp, .inl (cB, 900, .inl (upd f_15 11 (vp_nar .byte v_19))))] H := hP
  have hD : va_D A [(h0, .inr (11, [.ref a_tp, .int 11, .ref a_rd, .ref a_wl, .ref a_st, .ref a_bf, .ref a_ps, .int 0, .int 0, .ref a_iw, .ref a_is, .ref a_tr, .ref a_rw, .ref a_or, .ref a_wy, .ref a_ct, .ref a_ch, .ref a_tn, .ref a_bt, .int (-1)])), (a_tp, .inl (cB, 900, .inl (upd f_15 11 (vp_nar .byte v_19))))] := hD
  generalize hq9 : upd f_15 11 (vp_nar .byte v_19) = f_20 at hP hD; clear hq9
  have hP : va_P D cls [(h0, .inr (11, [.ref a_tp, .int 11, .ref a_rd, .ref a_wl, .ref a_st, .ref a_bf, .ref a_ps, .int 0, .int 0, .ref a_iw, .ref a_is, .ref a_tr, .ref a_rw, .ref a_or, .ref a_wy, .ref a_ct, .ref a_ch, .ref a_tn, .ref a_bt, .int (-1)])), (a_tp, .inl (cB, 900, .inl f_20))] H := hP
  have hD : va_D A [(h0, .inr (11, [.ref a_tp, .int 11, .ref a_rd, .ref a_wl, .ref a_st, .ref a_bf, .ref a_ps, .int 0, .int 0, .ref a_iw, .ref a_is, .ref a_tr, .ref a_rw, .ref a_or, .ref a_wy, .ref a_ct, .ref a_ch, .ref a_tn, .ref a_bt, .int (-1)])), (a_tp, .inl (cB, 900, .inl f_20))] := hD
  refine lv_aload_n hx hb dX11_putOnTape_30 rfl (lv_at hl 1 rfl) ?_
  refine lv_dup hx hb dX11_putOnTape_31 rfl ?_
  refine va_get (D := D) (ci := 11) (v := .int 11) (C := RX11) (T := TX11) (N := 20) hx hb hts uX11 hown hkb.1 hP 0 rfl rfl 1 (by decide) (hts _ kw_361) (fun _ h9 => h9) rfl dX11_putOnTape_32 ?_
  refine lv_iconst (v := 1) hx hb dX11_putOnTape_35 (by decide) ?_
  refine lv_iadd hx hb dX11_putOnTape_36 ?_
  refine lv_topc (y := 12) (by decide +kernel) ?_
  refine va_put (D := D) (ci := 11) (v := .int 12) (ty := tyX11 1) (C := RX11) (T := TX11) (N := 20) hx hb hts uX11 tyX11 tyX11_ok nmX11 hown hkb.1 hP hD hS 0 rfl rfl 1 (by decide) (hts _ kw_361) (fun _ h9 => h9) rfl (tyX11_ok 1 (by decide)) rfl rfl (Nat.le_of_ble_eq_true rfl) dX11_putOnTape_37 (fun H locs hP hD hS => ?_)
  have hP : va_P D cls [(h0, .inr (11, [.ref a_tp, .int 12, .ref a_rd, .ref a_wl, .ref a_st, .ref a_bf, .ref a_ps, .int 0, .int 0, .ref a_iw, .ref a_is, .ref a_tr, .ref a_rw, .ref a_or, .ref a_wy, .ref a_ct, .ref a_ch, .ref a_tn, .ref a_bt, .int (-1)])), (a_tp, .inl (cB, 900, .inl f_20))] H := hP
  have hD : va_D A [(h0, .inr (11, [.ref a_tp, .int 12, .ref a_rd, .ref a_wl, .ref a_st, .ref a_bf, .ref a_ps, .int 0, .int 0, .ref a_iw, .ref a_is, .ref a_tr, .ref a_rw, .ref a_or, .ref a_wy, .ref a_ct, .ref a_ch, .ref a_tn, .ref a_bt, .int (-1)])), (a_tp, .inl (cB, 900, .inl f_20))] := hD
  refine lv_iinc (v := (-8)) (lv' := [(2, .int (-8)), (0, .ref h0), (1, .int i_v)]) hx hb dX11_putOnTape_40 hl (k := 0) rfl (by decide) (by decide) rfl (fun ls hl => ?_)
  refine lv_goto (tgt := 3) hx hb dX11_putOnTape_43 (by decide) ?_
  refine lv_iload_n hx hb dX11_putOnTape_3 rfl (lv_at hl 0 rfl) ?_
  refine lv_if_lt (tgt := 46) hx hb dX11_putOnTape_4 (by decide) (fun _ => ?_) (fun c_21 => absurd c_21 (by decide))
  refine W.widen (k := 0) (n := 0) (Nat.le_of_ble_eq_true rfl) (Nat.le_of_ble_eq_true rfl) ?_
  exact e_v (u := [(h0, .inr (11, [.ref a_tp, .int 12, .ref a_rd, .ref a_wl, .ref a_st, .ref a_bf, .ref a_ps, .int 0, .int 0, .ref a_iw, .ref a_is, .ref a_tr, .ref a_rw, .ref a_or, .ref a_wy, .ref a_ct, .ref a_ch, .ref a_tn, .ref a_bt, .int (-1)])), (a_tp, .inl (cB, 900, .inl f_20))]) hx hb hr hlocks (hP.sub (ws' := [(h0, .inr (11, [.ref a_tp, .int 12, .ref a_rd, .ref a_wl, .ref a_st, .ref a_bf, .ref a_ps, .int 0, .int 0, .ref a_iw, .ref a_is, .ref a_tr, .ref a_rw, .ref a_or, .ref a_wy, .ref a_ct, .ref a_ch, .ref a_tn, .ref a_bt, .int (-1)])), (a_tp, .inl (cB, 900, .inl f_20))]) [0, 1] rfl) (hD.sub (ws' := [(h0, .inr (11, [.ref a_tp, .int 12, .ref a_rd, .ref a_wl, .ref a_st, .ref a_bf, .ref a_ps, .int 0, .int 0, .ref a_iw, .ref a_is, .ref a_tr, .ref a_rw, .ref a_or, .ref a_wy, .ref a_ct, .ref a_ch, .ref a_tn, .ref a_bt, .int (-1)])), (a_tp, .inl (cB, 900, .inl f_20))]) [0, 1] (by decide) rfl) hS ⟨f_20, rfl⟩ dX11_putOnTape_46
set_option maxHeartbeats 4000000 in
set_option maxRecDepth 100000 in
theorem c_tape12 (l : Launch) (D : va_G) (cB cI cJ cZ cS cW cT cR : ClassId) (h0 : Nat) (a_tp : Nat) (i_v : Int32) (a_rd : Nat) (a_wl : Nat) (a_st : Nat) (a_bf : Nat) (a_ps : Nat) (a_iw : Nat) (a_is : Nat) (a_tr : Nat) (a_rw : Nat) (a_or : Nat) (a_wy : Nat) (a_ct : Nat) (a_ch : Nat) (a_tn : Nat) (a_bt : Nat) (f_tp : Nat → Int32) : Kon l D (tyl cB cI cJ cZ cS cW cT cR) yX11_putOnTape cX11_putOnTape 3 none { frames := 0, cells := 0, slots := 0, locals := 0 } [.ref h0, .int i_v] [(h0, .inr (11, [.ref a_tp, .int 12, .ref a_rd, .ref a_wl, .ref a_st, .ref a_bf, .ref a_ps, .int 0, .int 0, .ref a_iw, .ref a_is, .ref a_tr, .ref a_rw, .ref a_or, .ref a_wy, .ref a_ct, .ref a_ch, .ref a_tn, .ref a_bt, .int (-1)])), (a_tp, .inl (cB, 900, .inl f_tp))] (Qv D (fun u => ∃ (f_20 : Nat → Int32), u = [(h0, .inr (11, [.ref a_tp, .int 16, .ref a_rd, .ref a_wl, .ref a_st, .ref a_bf, .ref a_ps, .int 0, .int 0, .ref a_iw, .ref a_is, .ref a_tr, .ref a_rw, .ref a_or, .ref a_wy, .ref a_ct, .ref a_ch, .ref a_tn, .ref a_bt, .int (-1)])), (a_tp, .inl (cB, 900, .inl f_20))])) := by
  refine kon_of (by decide) (Nat.le_of_ble_eq_true rfl) (fun p e s m below meth c ls A hx hb hr hml hown hts hlocks hnm hkb hP hD hS hA hl => ?_)
  have hown : s.vm.findClass RX11 = some m.cls := hown
  have hl : lv_has ls 3 [(0, .ref h0), (1, .int i_v)] := hl
  have hP : va_P D cls [(h0, .inr (11, [.ref a_tp, .int 12, .ref a_rd, .ref a_wl, .ref a_st, .ref a_bf, .ref a_ps, .int 0, .int 0, .ref a_iw, .ref a_is, .ref a_tr, .ref a_rw, .ref a_or, .ref a_wy, .ref a_ct, .ref a_ch, .ref a_tn, .ref a_bt, .int (-1)])), (a_tp, .inl (cB, 900, .inl f_tp))] s.heap := hP
  refine lv_bipush (v := 24) hx hb dX11_putOnTape_0 (by decide) ?_
  refine lv_istore_n (lv' := [(2, .int 24), (0, .ref h0), (1, .int i_v)]) hx hb dX11_putOnTape_2 rfl hl (by decide) rfl (fun ls hl => ?_)
  refine lv_iload_n hx hb dX11_putOnTape_3 rfl (lv_at hl 0 rfl) ?_
  refine lv_if_lt (tgt := 46) hx hb dX11_putOnTape_4 (by decide) (fun c_1 => absurd c_1 (by decide)) (fun _ => ?_)
  refine lv_aload_n hx hb dX11_putOnTape_7 rfl (lv_at hl 1 rfl) ?_
  refine va_get (D := D) (ci := 11) (v := .int 12) (C := RX11) (T := TX11) (N := 20) hx hb hts uX11 hown hkb.1 hP 0 rfl rfl 1 (by decide) (hts _ kw_361) (fun _ h9 => h9) rfl dX11_putOnTape_8 ?_
  refine lv_sipush (v := 900) hx hb dX11_putOnTape_11 (by decide) ?_
  refine lv_icmp_ge (tgt := 46) hx hb dX11_putOnTape_14 (by decide) (fun c_2 => absurd c_2 (by decide)) (fun _ => ?_)
  refine lv_aload_n hx hb dX11_putOnTape_17 rfl (lv_at hl 1 rfl) ?_
  refine va_get (D := D) (ci := 11) (v := .ref a_tp) (C := RX11) (T := TX11) (N := 20) hx hb hts uX11 hown hkb.1 hP 0 rfl rfl 0 (by decide) (hts _ kw_360) (fun _ h9 => h9) rfl dX11_putOnTape_18 ?_
  refine lv_aload_n hx hb dX11_putOnTape_21 rfl (lv_at hl 1 rfl) ?_
  refine va_get (D := D) (ci := 11) (v := .int 12) (C := RX11) (T := TX11) (N := 20) hx hb hts uX11 hown hkb.1 hP 0 rfl rfl 1 (by decide) (hts _ kw_361) (fun _ h9 => h9) rfl dX11_putOnTape_22 ?_
  refine lv_iload_n hx hb dX11_putOnTape_25 rfl (lv_at hl 2 rfl) ?_
  refine lv_iload_n hx hb dX11_putOnTape_26 rfl (lv_at hl 0 rfl) ?_
  refine lv_ishr hx hb dX11_putOnTape_27 ?_
  refine lv_topi (fun v_3 ev_3 => ?_)
  refine lv_i2b hx hb dX11_putOnTape_28 rfl ?_
  refine lv_topi (fun v_4 ev_4 => ?_)
  refine s_b 1 0 hx hb hkb.1 hP hD hS rfl rfl (in_c (by decide +kernel)) 12 (by decide +kernel) dX11_putOnTape_29 (fun H locs hP hD hS => ?_)
  have hP : va_P D cls [(h0, .inr (11, [.ref a_tp, .int 12, .ref a_rd, .ref a_wl, .ref a_st, .ref a_bf, .ref a_ps, .int 0, .int 0, .ref a_iw, .ref a_is, .ref a_tr, .ref a_rw, .ref a_or, .ref a_wy, .ref a_ct, .ref a_ch, .ref a_tn, .ref a_bt, .int (-1)])), (a_tp, .inl (cB, 900, .inl (upd f_tp 12 (vp_nar .byte v_4))))] H := hP
  have hD : va_D A [(h0, .inr (11, [.ref a_tp, .int 12, .ref a_rd, .ref a_wl, .ref a_st, .ref a_bf, .ref a_ps, .int 0, .int 0, .ref a_iw, .ref a_is, .ref a_tr, .ref a_rw, .ref a_or, .ref a_wy, .ref a_ct, .ref a_ch, .ref a_tn, .ref a_bt, .int (-1)])), (a_tp, .inl (cB, 900, .inl (upd f_tp 12 (vp_nar .byte v_4))))] := hD
  generalize hq9 : upd f_tp 12 (vp_nar .byte v_4) = f_5 at hP hD; clear hq9
  have hP : va_P D cls [(h0, .inr (11, [.ref a_tp, .int 12, .ref a_rd, .ref a_wl, .ref a_st, .ref a_bf, .ref a_ps, .int 0, .int 0, .ref a_iw, .ref a_is, .ref a_tr, .ref a_rw, .ref a_or, .ref a_wy, .ref a_ct, .ref a_ch, .ref a_tn, .ref a_bt, .int (-1)])), (a_tp, .inl (cB, 900, .inl f_5))] H := hP
  have hD : va_D A [(h0, .inr (11, [.ref a_tp, .int 12, .ref a_rd, .ref a_wl, .ref a_st, .ref a_bf, .ref a_ps, .int 0, .int 0, .ref a_iw, .ref a_is, .ref a_tr, .ref a_rw, .ref a_or, .ref a_wy, .ref a_ct, .ref a_ch, .ref a_tn, .ref a_bt, .int (-1)])), (a_tp, .inl (cB, 900, .inl f_5))] := hD
  refine lv_aload_n hx hb dX11_putOnTape_30 rfl (lv_at hl 1 rfl) ?_
  refine lv_dup hx hb dX11_putOnTape_31 rfl ?_
  refine va_get (D := D) (ci := 11) (v := .int 12) (C := RX11) (T := TX11) (N := 20) hx hb hts uX11 hown hkb.1 hP 0 rfl rfl 1 (by decide) (hts _ kw_361) (fun _ h9 => h9) rfl dX11_putOnTape_32 ?_
  refine lv_iconst (v := 1) hx hb dX11_putOnTape_35 (by decide) ?_
  refine lv_iadd hx hb dX11_putOnTape_36 ?_
  refine lv_topc (y := 13) (by decide +kernel) ?_
  refine va_put (D := D) (ci := 11) (v := .int 13) (ty := tyX11 1) (C := RX11) (T := TX11) (N := 20) hx hb hts uX11 tyX11 tyX11_ok nmX11 hown hkb.1 hP hD hS 0 rfl rfl 1 (by decide) (hts _ kw_361) (fun _ h9 => h9) rfl (tyX11_ok 1 (by decide)) rfl rfl (Nat.le_of_ble_eq_true rfl) dX11_putOnTape_37 (fun H locs hP hD hS => ?_)
  have hP : va_P D cls [(h0, .inr (11, [.ref a_tp, .int 13, .ref a_rd, .ref a_wl, .ref a_st, .ref a_bf, .ref a_ps, .int 0, .int 0, .ref a_iw, .ref a_is, .ref a_tr, .ref a_rw, .ref a_or, .ref a_wy, .ref a_ct, .ref a_ch, .ref a_tn, .ref a_bt, .int (-1)])), (a_tp, .inl (cB, 900, .inl f_5))] H := hP
  have hD : va_D A [(h0, .inr (11, [.ref a_tp, .int 13, .ref a_rd, .ref a_wl, .ref a_st, .ref a_bf, .ref a_ps, .int 0, .int 0, .ref a_iw, .ref a_is, .ref a_tr, .ref a_rw, .ref a_or, .ref a_wy, .ref a_ct, .ref a_ch, .ref a_tn, .ref a_bt, .int (-1)])), (a_tp, .inl (cB, 900, .inl f_5))] := hD
  refine lv_iinc (v := 16) (lv' := [(2, .int 16), (0, .ref h0), (1, .int i_v)]) hx hb dX11_putOnTape_40 hl (k := 0) rfl (by decide) (by decide) rfl (fun ls hl => ?_)
  refine lv_goto (tgt := 3) hx hb dX11_putOnTape_43 (by decide) ?_
  refine lv_iload_n hx hb dX11_putOnTape_3 rfl (lv_at hl 0 rfl) ?_
  refine lv_if_lt (tgt := 46) hx hb dX11_putOnTape_4 (by decide) (fun c_6 => absurd c_6 (by decide)) (fun _ => ?_)
  refine lv_aload_n hx hb dX11_putOnTape_7 rfl (lv_at hl 1 rfl) ?_
  refine va_get (D := D) (ci := 11) (v := .int 13) (C := RX11) (T := TX11) (N := 20) hx hb hts uX11 hown hkb.1 hP 0 rfl rfl 1 (by decide) (hts _ kw_361) (fun _ h9 => h9) rfl dX11_putOnTape_8 ?_
  refine lv_sipush (v := 900) hx hb dX11_putOnTape_11 (by decide) ?_
  refine lv_icmp_ge (tgt := 46) hx hb dX11_putOnTape_14 (by decide) (fun c_7 => absurd c_7 (by decide)) (fun _ => ?_)
  refine lv_aload_n hx hb dX11_putOnTape_17 rfl (lv_at hl 1 rfl) ?_
  refine va_get (D := D) (ci := 11) (v := .ref a_tp) (C := RX11) (T := TX11) (N := 20) hx hb hts uX11 hown hkb.1 hP 0 rfl rfl 0 (by decide) (hts _ kw_360) (fun _ h9 => h9) rfl dX11_putOnTape_18 ?_
  refine lv_aload_n hx hb dX11_putOnTape_21 rfl (lv_at hl 1 rfl) ?_
  refine va_get (D := D) (ci := 11) (v := .int 13) (C := RX11) (T := TX11) (N := 20) hx hb hts uX11 hown hkb.1 hP 0 rfl rfl 1 (by decide) (hts _ kw_361) (fun _ h9 => h9) rfl dX11_putOnTape_22 ?_
  refine lv_iload_n hx hb dX11_putOnTape_25 rfl (lv_at hl 2 rfl) ?_
  refine lv_iload_n hx hb dX11_putOnTape_26 rfl (lv_at hl 0 rfl) ?_
  refine lv_ishr hx hb dX11_putOnTape_27 ?_
  refine lv_topi (fun v_8 ev_8 => ?_)
  refine lv_i2b hx hb dX11_putOnTape_28 rfl ?_
  refine lv_topi (fun v_9 ev_9 => ?_)
  refine s_b 1 0 hx hb hkb.1 hP hD hS rfl rfl (in_c (by decide +kernel)) 13 (by decide +kernel) dX11_putOnTape_29 (fun H locs hP hD hS => ?_)
  have hP : va_P D cls [(h0, .inr (11, [.ref a_tp, .int 13, .ref a_rd, .ref a_wl, .ref a_st, .ref a_bf, .ref a_ps, .int 0, .int 0, .ref a_iw, .ref a_is, .ref a_tr, .ref a_rw, .ref a_or, .ref a_wy, .ref a_ct, .ref a_ch, .ref a_tn, .ref a_bt, .int (-1)])), (a_tp, .inl (cB, 900, .inl (upd f_5 13 (vp_nar .byte v_9))))] H := hP
  have hD : va_D A [(h0, .inr (11, [.ref a_tp, .int 13, .ref a_rd, .ref a_wl, .ref a_st, .ref a_bf, .ref a_ps, .int 0, .int 0, .ref a_iw, .ref a_is, .ref a_tr, .ref a_rw, .ref a_or, .ref a_wy, .ref a_ct, .ref a_ch, .ref a_tn, .ref a_bt, .int (-1)])), (a_tp, .inl (cB, 900, .inl (upd f_5 13 (vp_nar .byte v_9))))] := hD
  generalize hq9 : upd f_5 13 (vp_nar .byte v_9) = f_10 at hP hD; clear hq9
  have hP : va_P D cls [(h0, .inr (11, [.ref a_tp, .int 13, .ref a_rd, .ref a_wl, .ref a_st, .ref a_bf, .ref a_ps, .int 0, .int 0, .ref a_iw, .ref a_is, .ref a_tr, .ref a_rw, .ref a_or, .ref a_wy, .ref a_ct, .ref a_ch, .ref a_tn, .ref a_bt, .int (-1)])), (a_tp, .inl (cB, 900, .inl f_10))] H := hP
  have hD : va_D A [(h0, .inr (11, [.ref a_tp, .int 13, .ref a_rd, .ref a_wl, .ref a_st, .ref a_bf, .ref a_ps, .int 0, .int 0, .ref a_iw, .ref a_is, .ref a_tr, .ref a_rw, .ref a_or, .ref a_wy, .ref a_ct, .ref a_ch, .ref a_tn, .ref a_bt, .int (-1)])), (a_tp, .inl (cB, 900, .inl f_10))] := hD
  refine lv_aload_n hx hb dX11_putOnTape_30 rfl (lv_at hl 1 rfl) ?_
  refine lv_dup hx hb dX11_putOnTape_31 rfl ?_
  refine va_get (D := D) (ci := 11) (v := .int 13) (C := RX11) (T := TX11) (N := 20) hx hb hts uX11 hown hkb.1 hP 0 rfl rfl 1 (by decide) (hts _ kw_361) (fun _ h9 => h9) rfl dX11_putOnTape_32 ?_
  refine lv_iconst (v := 1) hx hb dX11_putOnTape_35 (by decide) ?_
  refine lv_iadd hx hb dX11_putOnTape_36 ?_
  refine lv_topc (y := 14) (by decide +kernel) ?_
  refine va_put (D := D) (ci := 11) (v := .int 14) (ty := tyX11 1) (C := RX11) (T := TX11) (N := 20) hx hb hts uX11 tyX11 tyX11_ok nmX11 hown hkb.1 hP hD hS 0 rfl rfl 1 (by decide) (hts _ kw_361) (fun _ h9 => h9) rfl (tyX11_ok 1 (by decide)) rfl rfl (Nat.le_of_ble_eq_true rfl) dX11_putOnTape_37 (fun H locs hP hD hS => ?_)
  have hP : va_P D cls [(h0, .inr (11, [.ref a_tp, .int 14, .ref a_rd, .ref a_wl, .ref a_st, .ref a_bf, .ref a_ps, .int 0, .int 0, .ref a_iw, .ref a_is, .ref a_tr, .ref a_rw, .ref a_or, .ref a_wy, .ref a_ct, .ref a_ch, .ref a_tn, .ref a_bt, .int (-1)])), (a_tp, .inl (cB, 900, .inl f_10))] H := hP
  have hD : va_D A [(h0, .inr (11, [.ref a_tp, .int 14, .ref a_rd, .ref a_wl, .ref a_st, .ref a_bf, .ref a_ps, .int 0, .int 0, .ref a_iw, .ref a_is, .ref a_tr, .ref a_rw, .ref a_or, .ref a_wy, .ref a_ct, .ref a_ch, .ref a_tn, .ref a_bt, .int (-1)])), (a_tp, .inl (cB, 900, .inl f_10))] := hD
  refine lv_iinc (v := 8) (lv' := [(2, .int 8), (0, .ref h0), (1, .int i_v)]) hx hb dX11_putOnTape_40 hl (k := 0) rfl (by decide) (by decide) rfl (fun ls hl => ?_)
  refine lv_goto (tgt := 3) hx hb dX11_putOnTape_43 (by decide) ?_
  refine lv_iload_n hx hb dX11_putOnTape_3 rfl (lv_at hl 0 rfl) ?_
  refine lv_if_lt (tgt := 46) hx hb dX11_putOnTape_4 (by decide) (fun c_11 => absurd c_11 (by decide)) (fun _ => ?_)
  refine lv_aload_n hx hb dX11_putOnTape_7 rfl (lv_at hl 1 rfl) ?_
  refine va_get (D := D) (ci := 11) (v := .int 14) (C := RX11) (T := TX11) (N := 20) hx hb hts uX11 hown hkb.1 hP 0 rfl rfl 1 (by decide) (hts _ kw_361) (fun _ h9 => h9) rfl dX11_putOnTape_8 ?_
  refine lv_sipush (v := 900) hx hb dX11_putOnTape_11 (by decide) ?_
  refine lv_icmp_ge (tgt := 46) hx hb dX11_putOnTape_14 (by decide) (fun c_12 => absurd c_12 (by decide)) (fun _ => ?_)
  refine lv_aload_n hx hb dX11_putOnTape_17 rfl (lv_at hl 1 rfl) ?_
  refine va_get (D := D) (ci := 11) (v := .ref a_tp) (C := RX11) (T := TX11) (N := 20) hx hb hts uX11 hown hkb.1 hP 0 rfl rfl 0 (by decide) (hts _ kw_360) (fun _ h9 => h9) rfl dX11_putOnTape_18 ?_
  refine lv_aload_n hx hb dX11_putOnTape_21 rfl (lv_at hl 1 rfl) ?_
  refine va_get (D := D) (ci := 11) (v := .int 14) (C := RX11) (T := TX11) (N := 20) hx hb hts uX11 hown hkb.1 hP 0 rfl rfl 1 (by decide) (hts _ kw_361) (fun _ h9 => h9) rfl dX11_putOnTape_22 ?_
  refine lv_iload_n hx hb dX11_putOnTape_25 rfl (lv_at hl 2 rfl) ?_
  refine lv_iload_n hx hb dX11_putOnTape_26 rfl (lv_at hl 0 rfl) ?_
  refine lv_ishr hx hb dX11_putOnTape_27 ?_
  refine lv_topi (fun v_13 ev_13 => ?_)
  refine lv_i2b hx hb dX11_putOnTape_28 rfl ?_
  refine lv_topi (fun v_14 ev_14 => ?_)
  refine s_b 1 0 hx hb hkb.1 hP hD hS rfl rfl (in_c (by decide +kernel)) 14 (by decide +kernel) dX11_putOnTape_29 (fun H locs hP hD hS => ?_)
  have hP : va_P D cls [(h0, .inr (11, [.ref a_tp, .int 14, .ref a_rd, .ref a_wl, .ref a_st, .ref a_bf, .ref a_ps, .int 0, .int 0, .ref a_iw, .ref a_is, .ref a_tr, .ref a_rw, .ref a_or, .ref a_wy, .ref a_ct, .ref a_ch, .ref a_tn, .ref a_bt, .int (-1)])), (a_tp, .inl (cB, 900, .inl (upd f_10 14 (vp_nar .byte v_14))))] H := hP
  have hD : va_D A [(h0, .inr (11, [.ref a_tp, .int 14, .ref a_rd, .ref a_wl, .ref a_st, .ref a_bf, .ref a_ps, .int 0, .int 0, .ref a_iw, .ref a_is, .ref a_tr, .ref a_rw, .ref a_or, .ref a_wy, .ref a_ct, .ref a_ch, .ref a_tn, .ref a_bt, .int (-1)])), (a_tp, .inl (cB, 900, .inl (upd f_10 14 (vp_nar .byte v_14))))] := hD
  generalize hq9 : upd f_10 14 (vp_nar .byte v_14) = f_15 at hP hD; clear hq9
  have hP : va_P D cls [(h0, .inr (11, [.ref a_tp, .int 14, .ref a_rd, .ref a_wl, .ref a_st, .ref a_bf, .ref a_ps, .int 0, .int 0, .ref a_iw, .ref a_is, .ref a_tr, .ref a_rw, .ref a_or, .ref a_wy, .ref a_ct, .ref a_ch, .ref a_tn, .ref a_bt, .int (-1)])), (a_tp, .inl (cB, 900, .inl f_15))] H := hP
  have hD : va_D A [(h0, .inr (11, [.ref a_tp, .int 14, .ref a_rd, .ref a_wl, .ref a_st, .ref a_bf, .ref a_ps, .int 0, .int 0, .ref a_iw, .ref a_is, .ref a_tr, .ref a_rw, .ref a_or, .ref a_wy, .ref a_ct, .ref a_ch, .ref a_tn, .ref a_bt, .int (-1)])), (a_tp, .inl (cB, 900, .inl f_15))] := hD
  refine lv_aload_n hx hb dX11_putOnTape_30 rfl (lv_at hl 1 rfl) ?_
  refine lv_dup hx hb dX11_putOnTape_31 rfl ?_
  refine va_get (D := D) (ci := 11) (v := .int 14) (C := RX11) (T := TX11) (N := 20) hx hb hts uX11 hown hkb.1 hP 0 rfl rfl 1 (by decide) (hts _ kw_361) (fun _ h9 => h9) rfl dX11_putOnTape_32 ?_
  refine lv_iconst (v := 1) hx hb dX11_putOnTape_35 (by decide) ?_
  refine lv_iadd hx hb dX11_putOnTape_36 ?_
  refine lv_topc (y := 15) (by decide +kernel) ?_
  refine va_put (D := D) (ci := 11) (v := .int 15) (ty := tyX11 1) (C := RX11) (T := TX11) (N := 20) hx hb hts uX11 tyX11 tyX11_ok nmX11 hown hkb.1 hP hD hS 0 rfl rfl 1 (by decide) (hts _ kw_361) (fun _ h9 => h9) rfl (tyX11_ok 1 (by decide)) rfl rfl (Nat.le_of_ble_eq_true rfl) dX11_putOnTape_37 (fun H locs hP hD hS => ?_)
  have hP : va_P D cls [(h0, .inr (11, [.ref a_tp, .int 15, .ref a_rd, .ref a_wl, .ref a_st, .ref a_bf, .ref a_ps, .int 0, .int 0, .ref a_iw, .ref a_is, .ref a_tr, .ref a_rw, .ref a_or, .ref a_wy, .ref a_ct, .ref a_ch, .ref a_tn, .ref a_bt, .int (-1)])), (a_tp, .inl (cB, 900, .inl f_15))] H := hP
  have hD : va_D A [(h0, .inr (11, [.ref a_tp, .int 15, .ref a_rd, .ref a_wl, .ref a_st, .ref a_bf, .ref a_ps, .int 0, .int 0, .ref a_iw, .ref a_is, .ref a_tr, .ref a_rw, .ref a_or, .ref a_wy, .ref a_ct, .ref a_ch, .ref a_tn, .ref a_bt, .int (-1)])), (a_tp, .inl (cB, 900, .inl f_15))] := hD
  refine lv_iinc (v := 0) (lv' := [(2, .int 0), (0, .ref h0), (1, .int i_v)]) hx hb dX11_putOnTape_40 hl (k := 0) rfl (by decide) (by decide) rfl (fun ls hl => ?_)
  refine lv_goto (tgt := 3) hx hb dX11_putOnTape_43 (by decide) ?_
  refine lv_iload_n hx hb dX11_putOnTape_3 rfl (lv_at hl 0 rfl) ?_
  refine lv_if_lt (tgt := 46) hx hb dX11_putOnTape_4 (by decide) (fun c_16 => absurd c_16 (by decide)) (fun _ => ?_)
  refine lv_aload_n hx hb dX11_putOnTape_7 rfl (lv_at hl 1 rfl) ?_
  refine va_get (D := D) (ci := 11) (v := .int 15) (C := RX11) (T := TX11) (N := 20) hx hb hts uX11 hown hkb.1 hP 0 rfl rfl 1 (by decide) (hts _ kw_361) (fun _ h9 => h9) rfl dX11_putOnTape_8 ?_
  refine lv_sipush (v := 900) hx hb dX11_putOnTape_11 (by decide) ?_
  refine lv_icmp_ge (tgt := 46) hx hb dX11_putOnTape_14 (by decide) (fun c_17 => absurd c_17 (by decide)) (fun _ => ?_)
  refine lv_aload_n hx hb dX11_putOnTape_17 rfl (lv_at hl 1 rfl) ?_
  refine va_get (D := D) (ci := 11) (v := .ref a_tp) (C := RX11) (T := TX11) (N := 20) hx hb hts uX11 hown hkb.1 hP 0 rfl rfl 0 (by decide) (hts _ kw_360) (fun _ h9 => h9) rfl dX11_putOnTape_18 ?_
  refine lv_aload_n hx hb dX11_putOnTape_21 rfl (lv_at hl 1 rfl) ?_
  refine va_get (D := D) (ci := 11) (v := .int 15) (C := RX11) (T := TX11) (N := 20) hx hb hts uX11 hown hkb.1 hP 0 rfl rfl 1 (by decide) (hts _ kw_361) (fun _ h9 => h9) rfl dX11_putOnTape_22 ?_
  refine lv_iload_n hx hb dX11_putOnTape_25 rfl (lv_at hl 2 rfl) ?_
  refine lv_iload_n hx hb dX11_putOnTape_26 rfl (lv_at hl 0 rfl) ?_
  refine lv_ishr hx hb dX11_putOnTape_27 ?_
  refine lv_topi (fun v_18 ev_18 => ?_)
  refine lv_i2b hx hb dX11_putOnTape_28 rfl ?_
  refine lv_topi (fun v_19 ev_19 => ?_)
  refine s_b 1 0 hx hb hkb.1 hP hD hS rfl rfl (in_c (by decide +kernel)) 15 (by decide +kernel) dX11_putOnTape_29 (fun H locs hP hD hS => ?_)
  have hP : va_P D cls [(h0, .inr (11, [.ref a_tp, .int 15, .ref a_rd, .ref a_wl, .ref a_st, .ref a_bf, .ref a_ps, .int 0, .int 0, .ref a_iw, .ref a_is, .ref a_tr, .ref a_rw, .ref a_or, .ref a_wy, .ref a_ct, .ref a_ch, .ref a_tn, .ref a_bt, .int (-1)])), (a_tp, .inl (cB, 900, .inl (upd f_15 15 (vp_nar .byte v_19))))] H := hP
  have hD : va_D A [(h0, .inr (11, [.ref a_tp, .int 15, .ref a_rd, .ref a_wl, .ref a_st, .ref a_bf, .ref a_ps, .int 0, .int 0, .ref a_iw, .ref a_is, .ref a_tr, .ref a_rw, .ref a_or, .ref a_wy, .ref a_ct, .ref a_ch, .ref a_tn, .ref a_bt, .int (-1)])), (a_tp, .inl (cB, 900, .inl (upd f_15 15 (vp_nar .byte v_19))))] := hD
  generalize hq9 : upd f_15 15 (vp_nar .byte v_19) = f_20 at hP hD; clear hq9
  have hP : va_P D cls [(h0, .inr (11, [.ref a_tp, .int 15, .ref a_rd, .ref a_wl, .ref a_st, .ref a_bf, .ref a_ps, .int 0, .int 0, .ref a_iw, .ref a_is, .ref a_tr, .ref a_rw, .ref a_or, .ref a_wy, .ref a_ct, .ref a_ch, .ref a_tn, .ref a_bt, .int (-1)])), (a_tp, .inl (cB, 900, .inl f_20))] H := hP
  have hD : va_D A [(h0, .inr (11, [.ref a_tp, .int 15, .ref a_rd, .ref a_wl, .ref a_st, .ref a_bf, .ref a_ps, .int 0, .int 0, .ref a_iw, .ref a_is, .ref a_tr, .ref a_rw, .ref a_or, .ref a_wy, .ref a_ct, .ref a_ch, .ref a_tn, .ref a_bt, .int (-1)])), (a_tp, .inl (cB, 900, .inl f_20))] := hD
  refine lv_aload_n hx hb dX11_putOnTape_30 rfl (lv_at hl 1 rfl) ?_
  refine lv_dup hx hb dX11_putOnTape_31 rfl ?_
  refine va_get (D := D) (ci := 11) (v := .int 15) (C := RX11) (T := TX11) (N := 20) hx hb hts uX11 hown hkb.1 hP 0 rfl rfl 1 (by decide) (hts _ kw_361) (fun _ h9 => h9) rfl dX11_putOnTape_32 ?_
  refine lv_iconst (v := 1) hx hb dX11_putOnTape_35 (by decide) ?_
  refine lv_iadd hx hb dX11_putOnTape_36 ?_
  refine lv_topc (y := 16) (by decide +kernel) ?_
  refine va_put (D := D) (ci := 11) (v := .int 16) (ty := tyX11 1) (C := RX11) (T := TX11) (N := 20) hx hb hts uX11 tyX11 tyX11_ok nmX11 hown hkb.1 hP hD hS 0 rfl rfl 1 (by decide) (hts _ kw_361) (fun _ h9 => h9) rfl (tyX11_ok 1 (by decide)) rfl rfl (Nat.le_of_ble_eq_true rfl) dX11_putOnTape_37 (fun H locs hP hD hS => ?_)
  have hP : va_P D cls [(h0, .inr (11, [.ref a_tp, .int 16, .ref a_rd, .ref a_wl, .ref a_st, .ref a_bf, .ref a_ps, .int 0, .int 0, .ref a_iw, .ref a_is, .ref a_tr, .ref a_rw, .ref a_or, .ref a_wy, .ref a_ct, .ref a_ch, .ref a_tn, .ref a_bt, .int (-1)])), (a_tp, .inl (cB, 900, .inl f_20))] H := hP
  have hD : va_D A [(h0, .inr (11, [.ref a_tp, .int 16, .ref a_rd, .ref a_wl, .ref a_st, .ref a_bf, .ref a_ps, .int 0, .int 0, .ref a_iw, .ref a_is, .ref a_tr, .ref a_rw, .ref a_or, .ref a_wy, .ref a_ct, .ref a_ch, .ref a_tn, .ref a_bt, .int (-1)])), (a_tp, .inl (cB, 900, .inl f_20))] := hD
  refine lv_iinc (v := (-8)) (lv' := [(2, .int (-8)), (0, .ref h0), (1, .int i_v)]) hx hb dX11_putOnTape_40 hl (k := 0) rfl (by decide) (by decide) rfl (fun ls hl => ?_)
  refine lv_goto (tgt := 3) hx hb dX11_putOnTape_43 (by decide) ?_
  refine lv_iload_n hx hb dX11_putOnTape_3 rfl (lv_at hl 0 rfl) ?_
  refine lv_if_lt (tgt := 46) hx hb dX11_putOnTape_4 (by decide) (fun _ => ?_) (fun c_21 => absurd c_21 (by decide))
  refine W.widen (k := 0) (n := 0) (Nat.le_of_ble_eq_true rfl) (Nat.le_of_ble_eq_true rfl) ?_
  exact e_v (u := [(h0, .inr (11, [.ref a_tp, .int 16, .ref a_rd, .ref a_wl, .ref a_st, .ref a_bf, .ref a_ps, .int 0, .int 0, .ref a_iw, .ref a_is, .ref a_tr, .ref a_rw, .ref a_or, .ref a_wy, .ref a_ct, .ref a_ch, .ref a_tn, .ref a_bt, .int (-1)])), (a_tp, .inl (cB, 900, .inl f_20))]) hx hb hr hlocks (hP.sub (ws' := [(h0, .inr (11, [.ref a_tp, .int 16, .ref a_rd, .ref a_wl, .ref a_st, .ref a_bf, .ref a_ps, .int 0, .int 0, .ref a_iw, .ref a_is, .ref a_tr, .ref a_rw, .ref a_or, .ref a_wy, .ref a_ct, .ref a_ch, .ref a_tn, .ref a_bt, .int (-1)])), (a_tp, .inl (cB, 900, .inl f_20))]) [0, 1] rfl) (hD.sub (ws' := [(h0, .inr (11, [.ref a_tp, .int 16, .ref a_rd, .ref a_wl, .ref a_st, .ref a_bf, .ref a_ps, .int 0, .int 0, .ref a_iw, .ref a_is, .ref a_tr, .ref a_rw, .ref a_or, .ref a_wy, .ref a_ct, .ref a_ch, .ref a_tn, .ref a_bt, .int (-1)])), (a_tp, .inl (cB, 900, .inl f_20))]) [0, 1] (by decide) rfl) hS ⟨f_20, rfl⟩ dX11_putOnTape_46
set_option maxHeartbeats 4000000 in
set_option maxRecDepth 100000 in
theorem c_tape16 (l : Launch) (D : va_G) (cB cI cJ cZ cS cW cT cR : ClassId) (h0 : Nat) (a_tp : Nat) (i_v : Int32) (a_rd : Nat) (a_wl : Nat) (a_st : Nat) (a_bf : Nat) (a_ps : Nat) (a_iw : Nat) (a_is : Nat) (a_tr : Nat) (a_rw : Nat) (a_or : Nat) (a_wy : Nat) (a_ct : Nat) (a_ch : Nat) (a_tn : Nat) (a_bt : Nat) (f_tp : Nat → Int32) : Kon l D (tyl cB cI cJ cZ cS cW cT cR) yX11_putOnTape cX11_putOnTape 3 none { frames := 0, cells := 0, slots := 0, locals := 0 } [.ref h0, .int i_v] [(h0, .inr (11, [.ref a_tp, .int 16, .ref a_rd, .ref a_wl, .ref a_st, .ref a_bf, .ref a_ps, .int 0, .int 0, .ref a_iw, .ref a_is, .ref a_tr, .ref a_rw, .ref a_or, .ref a_wy, .ref a_ct, .ref a_ch, .ref a_tn, .ref a_bt, .int (-1)])), (a_tp, .inl (cB, 900, .inl f_tp))] (Qv D (fun u => ∃ (f_20 : Nat → Int32), u = [(h0, .inr (11, [.ref a_tp, .int 20, .ref a_rd, .ref a_wl, .ref a_st, .ref a_bf, .ref a_ps, .int 0, .int 0, .ref a_iw, .ref a_is, .ref a_tr, .ref a_rw, .ref a_or, .ref a_wy, .ref a_ct, .ref a_ch, .ref a_tn, .ref a_bt, .int (-1)])), (a_tp, .inl (cB, 900, .inl f_20))])) := by
  refine kon_of (by decide) (Nat.le_of_ble_eq_true rfl) (fun p e s m below meth c ls A hx hb hr hml hown hts hlocks hnm hkb hP hD hS hA hl => ?_)
  have hown : s.vm.findClass RX11 = some m.cls := hown
  have hl : lv_has ls 3 [(0, .ref h0), (1, .int i_v)] := hl
  have hP : va_P D cls [(h0, .inr (11, [.ref a_tp, .int 16, .ref a_rd, .ref a_wl, .ref a_st, .ref a_bf, .ref a_ps, .int 0, .int 0, .ref a_iw, .ref a_is, .ref a_tr, .ref a_rw, .ref a_or, .ref a_wy, .ref a_ct, .ref a_ch, .ref a_tn, .ref a_bt, .int (-1)])), (a_tp, .inl (cB, 900, .inl f_tp))] s.heap := hP
  refine lv_bipush (v := 24) hx hb dX11_putOnTape_0 (by decide) ?_
  refine lv_istore_n (lv' := [(2, .int 24), (0, .ref h0), (1, .int i_v)]) hx hb dX11_putOnTape_2 rfl hl (by decide) rfl (fun ls hl => ?_)
  refine lv_iload_n hx hb dX11_putOnTape_3 rfl (lv_at hl 0 rfl) ?_
  refine lv_if_lt (tgt := 46) hx hb dX11_putOnTape_4 (by decide) (fun c_1 => absurd c_1 (by decide)) (fun _ => ?_)
  refine lv_aload_n hx hb dX11_putOnTape_7 rfl (lv_at hl 1 rfl) ?_
  refine va_get (D := D) (ci := 11) (v := .int 16) (C := RX11) (T := TX11) (N := 20) hx hb hts uX11 hown hkb.1 hP 0 rfl rfl 1 (by decide) (hts _ kw_361) (fun _ h9 => h9) rfl dX11_putOnTape_8 ?_
  refine lv_sipush (v := 900) hx hb dX11_putOnTape_11 (by decide) ?_
  refine lv_icmp_ge (tgt := 46) hx hb dX11_putOnTape_14 (by decide) (fun c_2 => absurd c_2 (by decide)) (fun _ => ?_)
  refine lv_aload_n hx hb dX11_putOnTape_17 rfl (lv_at hl 1 rfl) ?_
  refine va_get (D := D) (ci := 11) (v := .ref a_tp) (C := RX11) (T := TX11) (N := 20) hx hb hts uX11 hown hkb.1 hP 0 rfl rfl 0 (by decide) (hts _ kw_360) (fun _ h9 => h9) rfl dX11_putOnTape_18 ?_
  refine lv_aload_n hx hb dX11_putOnTape_21 rfl (lv_at hl 1 rfl) ?_
  refine va_get (D := D) (ci := 11) (v := .int 16) (C := RX11) (T := TX11) (N := 20) hx hb hts uX11 hown hkb.1 hP 0 rfl rfl 1 (by decide) (hts _ kw_361) (fun _ h9 => h9) rfl dX11_putOnTape_22 ?_
  refine lv_iload_n hx hb dX11_putOnTape_25 rfl (lv_at hl 2 rfl) ?_
  refine lv_iload_n hx hb dX11_putOnTape_26 rfl (lv_at hl 0 rfl) ?_
  refine lv_ishr hx hb dX11_putOnTape_27 ?_
  refine lv_topi (fun v_3 ev_3 => ?_)
  refine lv_i2b hx hb dX11_putOnTape_28 rfl ?_
  refine lv_topi (fun v_4 ev_4 => ?_)
  refine s_b 1 0 hx hb hkb.1 hP hD hS rfl rfl (in_c (by decide +kernel)) 16 (by decide +kernel) dX11_putOnTape_29 (fun H locs hP hD hS => ?_)
  have hP : va_P D cls [(h0, .inr (11, [.ref a_tp, .int 16, .ref a_rd, .ref a_wl, .ref a_st, .ref a_bf, .ref a_ps, .int 0, .int 0, .ref a_iw, .ref a_is, .ref a_tr, .ref a_rw, .ref a_or, .ref a_wy, .ref a_ct, .ref a_ch, .ref a_tn, .ref a_bt, .int (-1)])), (a_tp, .inl (cB, 900, .inl (upd f_tp 16 (vp_nar .byte v_4))))] H := hP
  have hD : va_D A [(h0, .inr (11, [.ref a_tp, .int 16, .ref a_rd, .ref a_wl, .ref a_st, .ref a_bf, .ref a_ps, .int 0, .int 0, .ref a_iw, .ref a_is, .ref a_tr, .ref a_rw, .ref a_or, .ref a_wy, .ref a_ct, .ref a_ch, .ref a_tn, .ref a_bt, .int (-1)])), (a_tp, .inl (cB, 900, .inl (upd f_tp 16 (vp_nar .byte v_4))))] := hD
  generalize hq9 : upd f_tp 16 (vp_nar .byte v_4) = f_5 at hP hD; clear hq9
  have hP : va_P D cls [(h0, .inr (11, [.ref a_tp, .int 16, .ref a_rd, .ref a_wl, .ref a_st, .ref a_bf, .ref a_ps, .int 0, .int 0, .ref a_iw, .ref a_is, .ref a_tr, .ref a_rw, .ref a_or, .ref a_wy, .ref a_ct, .ref a_ch, .ref a_tn, .ref a_bt, .int (-1)])), (a_tp, .inl (cB, 900, .inl f_5))] H := hP
  have hD : va_D A [(h0, .inr (11, [.ref a_tp, .int 16, .ref a_rd, .ref a_wl, .ref a_st, .ref a_bf, .ref a_ps, .int 0, .int 0, .ref a_iw, .ref a_is, .ref a_tr, .ref a_rw, .ref a_or, .ref a_wy, .ref a_ct, .ref a_ch, .ref a_tn, .ref a_bt, .int (-1)])), (a_tp, .inl (cB, 900, .inl f_5))] := hD
  refine lv_aload_n hx hb dX11_putOnTape_30 rfl (lv_at hl 1 rfl) ?_
  refine lv_dup hx hb dX11_putOnTape_31 rfl ?_
  refine va_get (D := D) (ci := 11) (v := .int 16) (C := RX11) (T := TX11) (N := 20) hx hb hts uX11 hown hkb.1 hP 0 rfl rfl 1 (by decide) (hts _ kw_361) (fun _ h9 => h9) rfl dX11_putOnTape_32 ?_
  refine lv_iconst (v := 1) hx hb dX11_putOnTape_35 (by decide) ?_
  refine lv_iadd hx hb dX11_putOnTape_36 ?_
  refine lv_topc (y := 17) (by decide +kernel) ?_
  refine va_put (D := D) (ci := 11) (v := .int 17) (ty := tyX11 1) (C := RX11) (T := TX11) (N := 20) hx hb hts uX11 tyX11 tyX11_ok nmX11 hown hkb.1 hP hD hS 0 rfl rfl 1 (by decide) (hts _ kw_361) (fun _ h9 => h9) rfl (tyX11_ok 1 (by decide)) rfl rfl (Nat.le_of_ble_eq_true rfl) dX11_putOnTape_37 (fun H locs hP hD hS => ?_)
  have hP : va_P D cls [(h0, .inr (11, [.ref a_tp, .int 17, .ref a_rd, .ref a_wl, .ref a_st, .ref a_bf, .ref a_ps, .int 0, .int 0, .ref a_iw, .ref a_is, .ref a_tr, .ref a_rw, .ref a_or, .ref a_wy, .ref a_ct, .ref a_ch, .ref a_tn, .ref a_bt, .int (-1)])), (a_tp, .inl (cB, 900, .inl f_5))] H := hP
  have hD : va_D A [(h0, .inr (11, [.ref a_tp, .int 17, .ref a_rd, .ref a_wl, .ref a_st, .ref a_bf, .ref a_ps, .int 0, .int 0, .ref a_iw, .ref a_is, .ref a_tr, .ref a_rw, .ref a_or, .ref a_wy, .ref a_ct, .ref a_ch, .ref a_tn, .ref a_bt, .int (-1)])), (a_tp, .inl (cB, 900, .inl f_5))] := hD
  refine lv_iinc (v := 16) (lv' := [(2, .int 16), (0, .ref h0), (1, .int i_v)]) hx hb dX11_putOnTape_40 hl (k := 0) rfl (by decide) (by decide) rfl (fun ls hl => ?_)
  refine lv_goto (tgt := 3) hx hb dX11_putOnTape_43 (by decide) ?_
  refine lv_iload_n hx hb dX11_putOnTape_3 rfl (lv_at hl 0 rfl) ?_
  refine lv_if_lt (tgt := 46) hx hb dX11_putOnTape_4 (by decide) (fun c_6 => absurd c_6 (by decide)) (fun _ => ?_)
  refine lv_aload_n hx hb dX11_putOnTape_7 rfl (lv_at hl 1 rfl) ?_
  refine va_get (D := D) (ci := 11) (v := .int 17) (C := RX11) (T := TX11) (N := 20) hx hb hts uX11 hown hkb.1 hP 0 rfl rfl 1 (by decide) (hts _ kw_361) (fun _ h9 => h9) rfl dX11_putOnTape_8 ?_
  refine lv_sipush (v := 900) hx hb dX11_putOnTape_11 (by decide) ?_
  refine lv_icmp_ge (tgt := 46) hx hb dX11_putOnTape_14 (by decide) (fun c_7 => absurd c_7 (by decide)) (fun _ => ?_)
  refine lv_aload_n hx hb dX11_putOnTape_17 rfl (lv_at hl 1 rfl) ?_
  refine va_get (D := D) (ci := 11) (v := .ref a_tp) (C := RX11) (T := TX11) (N := 20) hx hb hts uX11 hown hkb.1 hP 0 rfl rfl 0 (by decide) (hts _ kw_360) (fun _ h9 => h9) rfl dX11_putOnTape_18 ?_
  refine lv_aload_n hx hb dX11_putOnTape_21 rfl (lv_at hl 1 rfl) ?_
  refine va_get (D := D) (ci := 11) (v := .int 17) (C := RX11) (T := TX11) (N := 20) hx hb hts uX11 hown hkb.1 hP 0 rfl rfl 1 (by decide) (hts _ kw_361) (fun _ h9 => h9) rfl dX11_putOnTape_22 ?_
  refine lv_iload_n hx hb dX11_putOnTape_25 rfl (lv_at hl 2 rfl) ?_
  refine lv_iload_n hx hb dX11_putOnTape_26 rfl (lv_at hl 0 rfl) ?_
  refine lv_ishr hx hb dX11_putOnTape_27 ?_
  refine lv_topi (fun v_8 ev_8 => ?_)
  refine lv_i2b hx hb dX11_putOnTape_28 rfl ?_
  refine lv_topi (fun v_9 ev_9 => ?_)
  refine s_b 1 0 hx hb hkb.1 hP hD hS rfl rfl (in_c (by decide +kernel)) 17 (by decide +kernel) dX11_putOnTape_29 (fun H locs hP hD hS => ?_)
  have hP : va_P D cls [(h0, .inr (11, [.ref a_tp, .int 17, .ref a_rd, .ref a_wl, .ref a_st, .ref a_bf, .ref a_ps, .int 0, .int 0, .ref a_iw, .ref a_is, .ref a_tr, .ref a_rw, .ref a_or, .ref a_wy, .ref a_ct, .ref a_ch, .ref a_tn, .ref a_bt, .int (-1)])), (a_tp, .inl (cB, 900, .inl (upd f_5 17 (vp_nar .byte v_9))))] H := hP
  have hD : va_D A [(h0, .inr (11, [.ref a_tp, .int 17, .ref a_rd, .ref a_wl, .ref a_st, .ref a_bf, .ref a_ps, .int 0, .int 0, .ref a_iw, .ref a_is, .ref a_tr, .ref a_rw, .ref a_or, .ref a_wy, .ref a_ct, .ref a_ch, .ref a_tn, .ref a_bt, .int (-1)])), (a_tp, .inl (cB, 900, .inl (upd f_5 17 (vp_nar .byte v_9))))] := hD
  generalize hq9 : upd f_5 17 (vp_nar .byte v_9) = f_10 at hP hD; clear hq9
  have hP : va_P D cls [(h0, .inr (11, [.ref a_tp, .int 17, .ref a_rd, .ref a_wl, .ref a_st, .ref a_bf, .ref a_ps, .int 0, .int 0, .ref a_iw, .ref a_is, .ref a_tr, .ref a_rw, .ref a_or, .ref a_wy, .ref a_ct, .ref a_ch, .ref a_tn, .ref a_bt, .int (-1)])), (a_tp, .inl (cB, 900, .inl f_10))] H := hP
  have hD : va_D A [(h0, .inr (11, [.ref a_tp, .int 17, .ref a_rd, .ref a_wl, .ref a_st, .ref a_bf, .ref a_ps, .int 0, .int 0, .ref a_iw, .ref a_is, .ref a_tr, .ref a_rw, .ref a_or, .ref a_wy, .ref a_ct, .ref a_ch, .ref a_tn, .ref a_bt, .int (-1)])), (a_tp, .inl (cB, 900, .inl f_10))] := hD
  refine lv_aload_n hx hb dX11_putOnTape_30 rfl (lv_at hl 1 rfl) ?_
  refine lv_dup hx hb dX11_putOnTape_31 rfl ?_
  refine va_get (D := D) (ci := 11) (v := .int 17) (C := RX11) (T := TX11) (N := 20) hx hb hts uX11 hown hkb.1 hP 0 rfl rfl 1 (by decide) (hts _ kw_361) (fun _ h9 => h9) rfl dX11_putOnTape_32 ?_
  refine lv_iconst (v := 1) hx hb dX11_putOnTape_35 (by decide) ?_
  refine lv_iadd hx hb dX11_putOnTape_36 ?_
  refine lv_topc (y := 18) (by decide +kernel) ?_
  refine va_put (D := D) (ci := 11) (v := .int 18) (ty := tyX11 1) (C := RX11) (T := TX11) (N := 20) hx hb hts uX11 tyX11 tyX11_ok nmX11 hown hkb.1 hP hD hS 0 rfl rfl 1 (by decide) (hts _ kw_361) (fun _ h9 => h9) rfl (tyX11_ok 1 (by decide)) rfl rfl (Nat.le_of_ble_eq_true rfl) dX11_putOnTape_37 (fun H locs hP hD hS => ?_)
  have hP : va_P D cls [(h0, .inr (11, [.ref a_tp, .int 18, .ref a_rd, .ref a_wl, .ref a_st, .ref a_bf, .ref a_ps, .int 0, .int 0, .ref a_iw, .ref a_is, .ref a_tr, .ref a_rw, .ref a_or, .ref a_wy, .ref a_ct, .ref a_ch, .ref a_tn, .ref a_bt, .int (-1)])), (a_tp, .inl (cB, 900, .inl f_10))] H := hP
  have hD : va_D A [(h0, .inr (11, [.ref a_tp, .int 18, .ref a_rd, .ref a_wl, .ref a_st, .ref a_bf, .ref a_ps, .int 0, .int 0, .ref a_iw, .ref a_is, .ref a_tr, .ref a_rw, .ref a_or, .ref a_wy, .ref a_ct, .ref a_ch, .ref a_tn, .ref a_bt, .int (-1)])), (a_tp, .inl (cB, 900, .inl f_10))] := hD
  refine lv_iinc (v := 8) (lv' := [(2, .int 8), (0, .ref h0), (1, .int i_v)]) hx hb dX11_putOnTape_40 hl (k := 0) rfl (by decide) (by decide) rfl (fun ls hl => ?_)
  refine lv_goto (tgt := 3) hx hb dX11_putOnTape_43 (by decide) ?_
  refine lv_iload_n hx hb dX11_putOnTape_3 rfl (lv_at hl 0 rfl) ?_
  refine lv_if_lt (tgt := 46) hx hb dX11_putOnTape_4 (by decide) (fun c_11 => absurd c_11 (by decide)) (fun _ => ?_)
  refine lv_aload_n hx hb dX11_putOnTape_7 rfl (lv_at hl 1 rfl) ?_
  refine va_get (D := D) (ci := 11) (v := .int 18) (C := RX11) (T := TX11) (N := 20) hx hb hts uX11 hown hkb.1 hP 0 rfl rfl 1 (by decide) (hts _ kw_361) (fun _ h9 => h9) rfl dX11_putOnTape_8 ?_
  refine lv_sipush (v := 900) hx hb dX11_putOnTape_11 (by decide) ?_
  refine lv_icmp_ge (tgt := 46) hx hb dX11_putOnTape_14 (by decide) (fun c_12 => absurd c_12 (by decide)) (fun _ => ?_)
  refine lv_aload_n hx hb dX11_putOnTape_17 rfl (lv_at hl 1 rfl) ?_
  refine va_get (D := D) (ci := 11) (v := .ref a_tp) (C := RX11) (T := TX11) (N := 20) hx hb hts uX11 hown hkb.1 hP 0 rfl rfl 0 (by decide) (hts _ kw_360) (fun _ h9 => h9) rfl dX11_putOnTape_18 ?_
  refine lv_aload_n hx hb dX11_putOnTape_21 rfl (lv_at hl 1 rfl) ?_
  refine va_get (D := D) (ci := 11) (v := .int 18) (C := RX11) (T := TX11) (N := 20) hx hb hts uX11 hown hkb.1 hP 0 rfl rfl 1 (by decide) (hts _ kw_361) (fun _ h9 => h9) rfl dX11_putOnTape_22 ?_
  refine lv_iload_n hx hb dX11_putOnTape_25 rfl (lv_at hl 2 rfl) ?_
  refine lv_iload_n hx hb dX11_putOnTape_26 rfl (lv_at hl 0 rfl) ?_
  refine lv_ishr hx hb dX11_putOnTape_27 ?_
  refine lv_topi (fun v_13 ev_13 => ?_)
  refine lv_i2b hx hb dX11_putOnTape_28 rfl ?_
  refine lv_topi (fun v_14 ev_14 => ?_)
  refine s_b 1 0 hx hb hkb.1 hP hD hS rfl rfl (in_c (by decide +kernel)) 18 (by decide +kernel) dX11_putOnTape_29 (fun H locs hP hD hS => ?_)
  have hP : va_P D cls [(h0, .inr (11, [.ref a_tp, .int 18, .ref a_rd, .ref a_wl, .ref a_st, .ref a_bf, .ref a_ps, .int 0, .int 0, .ref a_iw, .ref a_is, .ref a_tr, .ref a_rw, .ref a_or, .ref a_wy, .ref a_ct, .ref a_ch, .ref a_tn, .ref a_bt, .int (-1)])), (a_tp, .inl (cB, 900, .inl (upd f_10 18 (vp_nar .byte v_14))))] H := hP
  have hD : va_D A [(h0, .inr (11, [.ref a_tp, .int 18, .ref a_rd, .ref a_wl, .ref a_st, .ref a_bf, .ref a_ps, .int 0, .int 0, .ref a_iw, .ref a_is, .ref a_tr, .ref a_rw, .ref a_or, .ref a_wy, .ref a_ct, .ref a_ch, .ref a_tn, .ref a_bt, .int (-1)])), (a_tp, .inl (cB, 900, .inl (upd f_10 18 (vp_nar .byte v_14))))] := hD
  generalize hq9 : upd f_10 18 (vp_nar .byte v_14) = f_15 at hP hD; clear hq9
  have hP : va_P D cls [(h0, .inr (11, [.ref a_tp, .int 18, .ref a_rd, .ref a_wl, .ref a_st, .ref a_bf, .ref a_ps, .int 0, .int 0, .ref a_iw, .ref a_is, .ref a_tr, .ref a_rw, .ref a_or, .ref a_wy, .ref a_ct, .ref a_ch, .ref a_tn, .ref a_bt, .int (-1)])), (a_tp, .inl (cB, 900, .inl f_15))] H := hP
  have hD : va_D A [(h0, .inr (11, [.ref a_tp, .int 18, .ref a_rd, .ref a_wl, .ref a_st, .ref a_bf, .ref a_ps, .int 0, .int 0, .ref a_iw, .ref a_is, .ref a_tr, .ref a_rw, .ref a_or, .ref a_wy, .ref a_ct, .ref a_ch, .ref a_tn, .ref a_bt, .int (-1)])), (a_tp, .inl (cB, 900, .inl f_15))] := hD
  refine lv_aload_n hx hb dX11_putOnTape_30 rfl (lv_at hl 1 rfl) ?_
  refine lv_dup hx hb dX11_putOnTape_31 rfl ?_
  refine va_get (D := D) (ci := 11) (v := .int 18) (C := RX11) (T := TX11) (N := 20) hx hb hts uX11 hown hkb.1 hP 0 rfl rfl 1 (by decide) (hts _ kw_361) (fun _ h9 => h9) rfl dX11_putOnTape_32 ?_
  refine lv_iconst (v := 1) hx hb dX11_putOnTape_35 (by decide) ?_
  refine lv_iadd hx hb dX11_putOnTape_36 ?_
  refine lv_topc (y := 19) (by decide +kernel) ?_
  refine va_put (D := D) (ci := 11) (v := .int 19) (ty := tyX11 1) (C := RX11) (T := TX11) (N := 20) hx hb hts uX11 tyX11 tyX11_ok nmX11 hown hkb.1 hP hD hS 0 rfl rfl 1 (by decide) (hts _ kw_361) (fun _ h9 => h9) rfl (tyX11_ok 1 (by decide)) rfl rfl (Nat.le_of_ble_eq_true rfl) dX11_putOnTape_37 (fun H locs hP hD hS => ?_)
  have hP : va_P D cls [(h0, .inr (11, [.ref a_tp, .int 19, .ref a_rd, .ref a_wl, .ref a_st, .ref a_bf, .ref a_ps, .int 0, .int 0, .ref a_iw, .ref a_is, .ref a_tr, .ref a_rw, .ref a_or, .ref a_wy, .ref a_ct, .ref a_ch, .ref a_tn, .ref a_bt, .int (-1)])), (a_tp, .inl (cB, 900, .inl f_15))] H := hP
  have hD : va_D A [(h0, .inr (11, [.ref a_tp, .int 19, .ref a_rd, .ref a_wl, .ref a_st, .ref a_bf, .ref a_ps, .int 0, .int 0, .ref a_iw, .ref a_is, .ref a_tr, .ref a_rw, .ref a_or, .ref a_wy, .ref a_ct, .ref a_ch, .ref a_tn, .ref a_bt, .int (-1)])), (a_tp, .inl (cB, 900, .inl f_15))] := hD
  refine lv_iinc (v := 0) (lv' := [(2, .int 0), (0, .ref h0), (1, .int i_v)]) hx hb dX11_putOnTape_40 hl (k := 0) rfl (by decide) (by decide) rfl (fun ls hl => ?_)
  refine lv_goto (tgt := 3) hx hb dX11_putOnTape_43 (by decide) ?_
  refine lv_iload_n hx hb dX11_putOnTape_3 rfl (lv_at hl 0 rfl) ?_
  refine lv_if_lt (tgt := 46) hx hb dX11_putOnTape_4 (by decide) (fun c_16 => absurd c_16 (by decide)) (fun _ => ?_)
  refine lv_aload_n hx hb dX11_putOnTape_7 rfl (lv_at hl 1 rfl) ?_
  refine va_get (D := D) (ci := 11) (v := .int 19) (C := RX11) (T := TX11) (N := 20) hx hb hts uX11 hown hkb.1 hP 0 rfl rfl 1 (by decide) (hts _ kw_361) (fun _ h9 => h9) rfl dX11_putOnTape_8 ?_
  refine lv_sipush (v := 900) hx hb dX11_putOnTape_11 (by decide) ?_
  refine lv_icmp_ge (tgt := 46) hx hb dX11_putOnTape_14 (by decide) (fun c_17 => absurd c_17 (by decide)) (fun _ => ?_)
  refine lv_aload_n hx hb dX11_putOnTape_17 rfl (lv_at hl 1 rfl) ?_
  refine va_get (D := D) (ci := 11) (v := .ref a_tp) (C := RX11) (T := TX11) (N := 20) hx hb hts uX11 hown hkb.1 hP 0 rfl rfl 0 (by decide) (hts _ kw_360) (fun _ h9 => h9) rfl dX11_putOnTape_18 ?_
  refine lv_aload_n hx hb dX11_putOnTape_21 rfl (lv_at hl 1 rfl) ?_
  refine va_get (D := D) (ci := 11) (v := .int 19) (C := RX11) (T := TX11) (N := 20) hx hb hts uX11 hown hkb.1 hP 0 rfl rfl 1 (by decide) (hts _ kw_361) (fun _ h9 => h9) rfl dX11_putOnTape_22 ?_
  refine lv_iload_n hx hb dX11_putOnTape_25 rfl (lv_at hl 2 rfl) ?_
  refine lv_iload_n hx hb dX11_putOnTape_26 rfl (lv_at hl 0 rfl) ?_
  refine lv_ishr hx hb dX11_putOnTape_27 ?_
  refine lv_topi (fun v_18 ev_18 => ?_)
  refine lv_i2b hx hb dX11_putOnTape_28 rfl ?_
  refine lv_topi (fun v_19 ev_19 => ?_)
  refine s_b 1 0 hx hb hkb.1 hP hD hS rfl rfl (in_c (by decide +kernel)) 19 (by decide +kernel) dX11_putOnTape_29 (fun H locs hP hD hS => ?_)
  have hP : va_P D cls [(h0, .inr (11, [.ref a_tp, .int 19, .ref a_rd, .ref a_wl, .ref a_st, .ref a_bf, .ref a_ps, .int 0, .int 0, .ref a_iw, .ref a_is, .ref a_tr, .ref a_rw, .ref a_or, .ref a_wy, .ref a_ct, .ref a_ch, .ref a_tn, .ref a_bt, .int (-1)])), (a_tp, .inl (cB, 900, .inl (upd f_15 19 (vp_nar .byte v_19))))] H := hP
  have hD : va_D A [(h0, .inr (11, [.ref a_tp, .int 19, .ref a_rd, .ref a_wl, .ref a_st, .ref a_bf, .ref a_ps, .int 0, .int 0, .ref a_iw, .ref a_is, .ref a_tr, .ref a_rw, .ref a_or, .ref a_wy, .ref a_ct, .ref a_ch, .ref a_tn, .ref a_bt, .int (-1)])), (a_tp, .inl (cB, 900, .inl (upd f_15 19 (vp_nar .byte v_19))))] := hD
  generalize hq9 : upd f_15 19 (vp_nar .byte v_19) = f_20 at hP hD; clear hq9
  have hP : va_P D cls [(h0, .inr (11, [.ref a_tp, .int 19, .ref a_rd, .ref a_wl, .ref a_st, .ref a_bf, .ref a_ps, .int 0, .int 0, .ref a_iw, .ref a_is, .ref a_tr, .ref a_rw, .ref a_or, .ref a_wy, .ref a_ct, .ref a_ch, .ref a_tn, .ref a_bt, .int (-1)])), (a_tp, .inl (cB, 900, .inl f_20))] H := hP
  have hD : va_D A [(h0, .inr (11, [.ref a_tp, .int 19, .ref a_rd, .ref a_wl, .ref a_st, .ref a_bf, .ref a_ps, .int 0, .int 0, .ref a_iw, .ref a_is, .ref a_tr, .ref a_rw, .ref a_or, .ref a_wy, .ref a_ct, .ref a_ch, .ref a_tn, .ref a_bt, .int (-1)])), (a_tp, .inl (cB, 900, .inl f_20))] := hD
  refine lv_aload_n hx hb dX11_putOnTape_30 rfl (lv_at hl 1 rfl) ?_
  refine lv_dup hx hb dX11_putOnTape_31 rfl ?_
  refine va_get (D := D) (ci := 11) (v := .int 19) (C := RX11) (T := TX11) (N := 20) hx hb hts uX11 hown hkb.1 hP 0 rfl rfl 1 (by decide) (hts _ kw_361) (fun _ h9 => h9) rfl dX11_putOnTape_32 ?_
  refine lv_iconst (v := 1) hx hb dX11_putOnTape_35 (by decide) ?_
  refine lv_iadd hx hb dX11_putOnTape_36 ?_
  refine lv_topc (y := 20) (by decide +kernel) ?_
  refine va_put (D := D) (ci := 11) (v := .int 20) (ty := tyX11 1) (C := RX11) (T := TX11) (N := 20) hx hb hts uX11 tyX11 tyX11_ok nmX11 hown hkb.1 hP hD hS 0 rfl rfl 1 (by decide) (hts _ kw_361) (fun _ h9 => h9) rfl (tyX11_ok 1 (by decide)) rfl rfl (Nat.le_of_ble_eq_true rfl) dX11_putOnTape_37 (fun H locs hP hD hS => ?_)
  have hP : va_P D cls [(h0, .inr (11, [.ref a_tp, .int 20, .ref a_rd, .ref a_wl, .ref a_st, .ref a_bf, .ref a_ps, .int 0, .int 0, .ref a_iw, .ref a_is, .ref a_tr, .ref a_rw, .ref a_or, .ref a_wy, .ref a_ct, .ref a_ch, .ref a_tn, .ref a_bt, .int (-1)])), (a_tp, .inl (cB, 900, .inl f_20))] H := hP
  have hD : va_D A [(h0, .inr (11, [.ref a_tp, .int 20, .ref a_rd, .ref a_wl, .ref a_st, .ref a_bf, .ref a_ps, .int 0, .int 0, .ref a_iw, .ref a_is, .ref a_tr, .ref a_rw, .ref a_or, .ref a_wy, .ref a_ct, .ref a_ch, .ref a_tn, .ref a_bt, .int (-1)])), (a_tp, .inl (cB, 900, .inl f_20))] := hD
  refine lv_iinc (v := (-8)) (lv' := [(2, .int (-8)), (0, .ref h0), (1, .int i_v)]) hx hb dX11_putOnTape_40 hl (k := 0) rfl (by decide) (by decide) rfl (fun ls hl => ?_)
  refine lv_goto (tgt := 3) hx hb dX11_putOnTape_43 (by decide) ?_
  refine lv_iload_n hx hb dX11_putOnTape_3 rfl (lv_at hl 0 rfl) ?_
  refine lv_if_lt (tgt := 46) hx hb dX11_putOnTape_4 (by decide) (fun _ => ?_) (fun c_21 => absurd c_21 (by decide))
  refine W.widen (k := 0) (n := 0) (Nat.le_of_ble_eq_true rfl) (Nat.le_of_ble_eq_true rfl) ?_
  exact e_v (u := [(h0, .inr (11, [.ref a_tp, .int 20, .ref a_rd, .ref a_wl, .ref a_st, .ref a_bf, .ref a_ps, .int 0, .int 0, .ref a_iw, .ref a_is, .ref a_tr, .ref a_rw, .ref a_or, .ref a_wy, .ref a_ct, .ref a_ch, .ref a_tn, .ref a_bt, .int (-1)])), (a_tp, .inl (cB, 900, .inl f_20))]) hx hb hr hlocks (hP.sub (ws' := [(h0, .inr (11, [.ref a_tp, .int 20, .ref a_rd, .ref a_wl, .ref a_st, .ref a_bf, .ref a_ps, .int 0, .int 0, .ref a_iw, .ref a_is, .ref a_tr, .ref a_rw, .ref a_or, .ref a_wy, .ref a_ct, .ref a_ch, .ref a_tn, .ref a_bt, .int (-1)])), (a_tp, .inl (cB, 900, .inl f_20))]) [0, 1] rfl) (hD.sub (ws' := [(h0, .inr (11, [.ref a_tp, .int 20, .ref a_rd, .ref a_wl, .ref a_st, .ref a_bf, .ref a_ps, .int 0, .int 0, .ref a_iw, .ref a_is, .ref a_tr, .ref a_rw, .ref a_or, .ref a_wy, .ref a_ct, .ref a_ch, .ref a_tn, .ref a_bt, .int (-1)])), (a_tp, .inl (cB, 900, .inl f_20))]) [0, 1] (by decide) rfl) hS ⟨f_20, rfl⟩ dX11_putOnTape_46
set_option maxHeartbeats 4000000 in
set_option maxRecDepth 100000 in
theorem x_feed (l : Launch) (D : va_G) (cB cI cJ cZ cS cW cT cR : ClassId) (h0 : Nat) (a_tp : Nat) (i_0 : Int32) (i_1 : Int32) (i_2 : Int32) (i_3 : Int32) (i_4 : Int32) (a_rd : Nat) (a_wl : Nat) (a_st : Nat) (a_bf : Nat) (a_ps : Nat) (a_iw : Nat) (a_is : Nat) (a_tr : Nat) (a_rw : Nat) (a_or : Nat) (a_wy : Nat) (a_ct : Nat) (a_ch : Nat) (a_tn : Nat) (a_bt : Nat) (f_tp : Nat → Int32) : Kon l D (tyl cB cI cJ cZ cS cW cT cR) yX11_feed cX11_feed 6 (some (.int)) { frames := 1, cells := 0, slots := 0, locals := 22 } [.ref h0, .int i_0, .int i_1, .int i_2, .int i_3, .int i_4] [(h0, .inr (11, [.ref a_tp, .int 0, .ref a_rd, .ref a_wl, .ref a_st, .ref a_bf, .ref a_ps, .int 0, .int 0, .ref a_iw, .ref a_is, .ref a_tr, .ref a_rw, .ref a_or, .ref a_wy, .ref a_ct, .ref a_ch, .ref a_tn, .ref a_bt, .int (-1)])), (a_tp, .inl (cB, 900, .inl f_tp))] (Qi D (fun r u => r = 20 ∧ u = [])) := by
  refine kon_of (by decide) (Nat.le_of_ble_eq_true rfl) (fun p e s m below meth c ls A hx hb hr hml hown hts hlocks hnm hkb hP hD hS hA hl => ?_)
  have hown : s.vm.findClass RX11 = some m.cls := hown
  have hl : lv_has ls 6 [(0, .ref h0), (1, .int i_0), (2, .int i_1), (3, .int i_2), (4, .int i_3), (5, .int i_4)] := hl
  have hP : va_P D cls [(h0, .inr (11, [.ref a_tp, .int 0, .ref a_rd, .ref a_wl, .ref a_st, .ref a_bf, .ref a_ps, .int 0, .int 0, .ref a_iw, .ref a_is, .ref a_tr, .ref a_rw, .ref a_or, .ref a_wy, .ref a_ct, .ref a_ch, .ref a_tn, .ref a_bt, .int (-1)])), (a_tp, .inl (cB, 900, .inl f_tp))] s.heap := hP
  refine lv_aload_n hx hb dX11_feed_0 rfl (lv_at hl 0 rfl) ?_
  refine va_get (D := D) (ci := 11) (v := .int 0) (C := RX11) (T := TX11) (N := 20) hx hb hts uX11 hown hkb.1 hP 0 rfl rfl 1 (by decide) (hts _ kw_361) (fun _ h9 => h9) rfl dX11_feed_1 ?_
  refine lv_bipush (v := 20) hx hb dX11_feed_4 (by decide) ?_
  refine lv_iadd hx hb dX11_feed_6 ?_
  refine lv_topc (y := 20) (by decide +kernel) ?_
  refine lv_sipush (v := 900) hx hb dX11_feed_7 (by decide) ?_
  refine lv_icmp_le (tgt := 16) hx hb dX11_feed_10 (by decide) (fun _ => ?_) (fun c_1 => absurd c_1 (by decide))
  refine lv_aload_n hx hb dX11_feed_16 rfl (lv_at hl 0 rfl) ?_
  refine lv_iload_n hx hb dX11_feed_17 rfl (lv_at hl 1 rfl) ?_
  have hPc := hP.sub (ws' := [(h0, .inr (11, [.ref a_tp, .int 0, .ref a_rd, .ref a_wl, .ref a_st, .ref a_bf, .ref a_ps, .int 0, .int 0, .ref a_iw, .ref a_is, .ref a_tr, .ref a_rw, .ref a_or, .ref a_wy, .ref a_ct, .ref a_ch, .ref a_tn, .ref a_bt, .int (-1)])), (a_tp, .inl (cB, 900, .inl f_tp))]) [0, 1] rfl
  have hDc := hD.sub (ws' := [(h0, .inr (11, [.ref a_tp, .int 0, .ref a_rd, .ref a_wl, .ref a_st, .ref a_bf, .ref a_ps, .int 0, .int 0, .ref a_iw, .ref a_is, .ref a_tr, .ref a_rw, .ref a_or, .ref a_wy, .ref a_ct, .ref a_ch, .ref a_tn, .ref a_bt, .int (-1)])), (a_tp, .inl (cB, 900, .inl f_tp))]) [0, 1] (by decide) rfl
  refine k_v (wc := [(h0, .inr (11, [.ref a_tp, .int 0, .ref a_rd, .ref a_wl, .ref a_st, .ref a_bf, .ref a_ps, .int 0, .int 0, .ref a_iw, .ref a_is, .ref a_tr, .ref a_rw, .ref a_or, .ref a_wy, .ref a_ct, .ref a_ch, .ref a_tn, .ref a_bt, .int (-1)])), (a_tp, .inl (cB, 900, .inl f_tp))]) (wr := []) hP hD hS hA [0, 1] [] rfl rfl rfl (by decide) (r_V (n := 1) (As := [.int i_0]) (ci := 11) (q0 := 0) hx hb hml hown hts hkb hPc hDc (c_tape0 l D cB cI cJ cZ cS cW cT cR h0 a_tp i_0 a_rd a_wl a_st a_bf a_ps a_iw a_is a_tr a_rw a_or a_wy a_ct a_ch a_tn a_bt f_tp) kw_425 kw_427 ks_0 kw_1 kw_428 (by decide +kernel) ⟨Nat.le_of_ble_eq_true rfl, Nat.le_of_ble_eq_true rfl⟩ rfl rfl rfl rfl hl.1 (Nat.le_of_ble_eq_true rfl) dX11_feed_18 ⟨Nat.le_of_ble_eq_true rfl, Nat.le_of_ble_eq_true rfl⟩) (fun u H locs hw hP hD hS => ?_)
  obtain ⟨f_2, rfl⟩ := hw
  have hP : va_P D cls [(h0, .inr (11, [.ref a_tp, .int 4, .ref a_rd, .ref a_wl, .ref a_st, .ref a_bf, .ref a_ps, .int 0, .int 0, .ref a_iw, .ref a_is, .ref a_tr, .ref a_rw, .ref a_or, .ref a_wy, .ref a_ct, .ref a_ch, .ref a_tn, .ref a_bt, .int (-1)])), (a_tp, .inl (cB, 900, .inl f_2))] H := hP
  have hD : va_D A [(h0, .inr (11, [.ref a_tp, .int 4, .ref a_rd, .ref a_wl, .ref a_st, .ref a_bf, .ref a_ps, .int 0, .int 0, .ref a_iw, .ref a_is, .ref a_tr, .ref a_rw, .ref a_or, .ref a_wy, .ref a_ct, .ref a_ch, .ref a_tn, .ref a_bt, .int (-1)])), (a_tp, .inl (cB, 900, .inl f_2))] := hD
  refine W.widen (k := 0) (n := 0) (Nat.le_of_ble_eq_true rfl) (Nat.le_of_ble_eq_true rfl) ?_
  refine lv_aload_n hx hb dX11_feed_21 rfl (lv_at hl 0 rfl) ?_
  refine lv_iload_n hx hb dX11_feed_22 rfl (lv_at hl 2 rfl) ?_
  have hPc := hP.sub (ws' := [(h0, .inr (11, [.ref a_tp, .int 4, .ref a_rd, .ref a_wl, .ref a_st, .ref a_bf, .ref a_ps, .int 0, .int 0, .ref a_iw, .ref a_is, .ref a_tr, .ref a_rw, .ref a_or, .ref a_wy, .ref a_ct, .ref a_ch, .ref a_tn, .ref a_bt, .int (-1)])), (a_tp, .inl (cB, 900, .inl f_2))]) [0, 1] rfl
  have hDc := hD.sub (ws' := [(h0, .inr (11, [.ref a_tp, .int 4, .ref a_rd, .ref a_wl, .ref a_st, .ref a_bf, .ref a_ps, .int 0, .int 0, .ref a_iw, .ref a_is, .ref a_tr, .ref a_rw, .ref a_or, .ref a_wy, .ref a_ct, .ref a_ch, .ref a_tn, .ref a_bt, .int (-1)])), (a_tp, .inl (cB, 900, .inl f_2))]) [0, 1] (by decide) rfl
  refine k_v (wc := [(h0, .inr (11, [.ref a_tp, .int 4, .ref a_rd, .ref a_wl, .ref a_st, .ref a_bf, .ref a_ps, .int 0, .int 0, .ref a_iw, .ref a_is, .ref a_tr, .ref a_rw, .ref a_or, .ref a_wy, .ref a_ct, .ref a_ch, .ref a_tn, .ref a_bt, .int (-1)])), (a_tp, .inl (cB, 900, .inl f_2))]) (wr := []) hP hD hS hA [0, 1] [] rfl rfl rfl (by decide) (r_V (n := 1) (As := [.int i_1]) (ci := 11) (q0 := 0) hx hb hml hown hts hkb hPc hDc (c_tape4 l D cB cI cJ cZ cS cW cT cR h0 a_tp i_1 a_rd a_wl a_st a_bf a_ps a_iw a_is a_tr a_rw a_or a_wy a_ct a_ch a_tn a_bt f_2) kw_425 kw_427 ks_0 kw_1 kw_428 (by decide +kernel) ⟨Nat.le_of_ble_eq_true rfl, Nat.le_of_ble_eq_true rfl⟩ rfl rfl rfl rfl hl.1 (Nat.le_of_ble_eq_true rfl) dX11_feed_23 ⟨Nat.le_of_ble_eq_true rfl, Nat.le_of_ble_eq_true rfl⟩) (fun u H locs hw hP hD hS => ?_)
  obtain ⟨f_4, rfl⟩ := hw
  have hP : va_P D cls [(h0, .inr (11, [.ref a_tp, .int 8, .ref a_rd, .ref a_wl, .ref a_st, .ref a_bf, .ref a_ps, .int 0, .int 0, .ref a_iw, .ref a_is, .ref a_tr, .ref a_rw, .ref a_or, .ref a_wy, .ref a_ct, .ref a_ch, .ref a_tn, .ref a_bt, .int (-1)])), (a_tp, .inl (cB, 900, .inl f_4))] H := hP
  have hD : va_D A [(h0, .inr (11, [.ref a_tp, .int 8, .ref a_rd, .ref a_wl, .ref a_st, .ref a_bf, .ref a_ps, .int 0, .int 0, .ref a_iw, .ref a_is, .ref a_tr, .ref a_rw, .ref a_or, .ref a_wy, .ref a_ct, .ref a_ch, .ref a_tn, .ref a_bt, .int (-1)])), (a_tp, .inl (cB, 900, .inl f_4))] := hD
  refine W.widen (k := 0) (n := 0) (Nat.le_of_ble_eq_true rfl) (Nat.le_of_ble_eq_true rfl) ?_
  refine lv_aload_n hx hb dX11_feed_26 rfl (lv_at hl 0 rfl) ?_
  refine lv_iload_n hx hb dX11_feed_27 rfl (lv_at hl 3 rfl) ?_
  have hPc := hP.sub (ws' := [(h0, .inr (11, [.ref a_tp, .int 8, .ref a_rd, .ref a_wl, .ref a_st, .ref a_bf, .ref a_ps, .int 0, .int 0, .ref a_iw, .ref a_is, .ref a_tr, .ref a_rw, .ref a_or, .ref a_wy, .ref a_ct, .ref a_ch, .ref a_tn, .ref a_bt, .int (-1)])), (a_tp, .inl (cB, 900, .inl f_4))]) [0, 1] rfl
  have hDc := hD.sub (ws' := [(h0, .inr (11, [.ref a_tp, .int 8, .ref a_rd, .ref a_wl, .ref a_st, .ref a_bf, .ref a_ps, .int 0, .int 0, .ref a_iw, .ref a_is, .ref a_tr, .ref a_rw, .ref a_or, .ref a_wy, .ref a_ct, .ref a_ch, .ref a_tn, .ref a_bt, .int (-1)])), (a_tp, .inl (cB, 900, .inl f_4))]) [0, 1] (by decide) rfl
  refine k_v (wc := [(h0, .inr (11, [.ref a_tp, .int 8, .ref a_rd, .ref a_wl, .ref a_st, .ref a_bf, .ref a_ps, .int 0, .int 0, .ref a_iw, .ref a_is, .ref a_tr, .ref a_rw, .ref a_or, .ref a_wy, .ref a_ct, .ref a_ch, .ref a_tn, .ref a_bt, .int (-1)])), (a_tp, .inl (cB, 900, .inl f_4))]) (wr := []) hP hD hS hA [0, 1] [] rfl rfl rfl (by decide) (r_V (n := 1) (As := [.int i_2]) (ci := 11) (q0 := 0) hx hb hml hown hts hkb hPc hDc (c_tape8 l D cB cI cJ cZ cS cW cT cR h0 a_tp i_2 a_rd a_wl a_st a_bf a_ps a_iw a_is a_tr a_rw a_or a_wy a_ct a_ch a_tn a_bt f_4) kw_425 kw_427 ks_0 kw_1 kw_428 (by decide +kernel) ⟨Nat.le_of_ble_eq_true rfl, Nat.le_of_ble_eq_true rfl⟩ rfl rfl rfl rfl hl.1 (Nat.le_of_ble_eq_true rfl) dX11_feed_28 ⟨Nat.le_of_ble_eq_true rfl, Nat.le_of_ble_eq_true rfl⟩) (fun u H locs hw hP hD hS => ?_)
  obtain ⟨f_6, rfl⟩ := hw
  have hP : va_P D cls [(h0, .inr (11, [.ref a_tp, .int 12, .ref a_rd, .ref a_wl, .ref a_st, .ref a_bf, .ref a_ps, .int 0, .int 0, .ref a_iw, .ref a_is, .ref a_tr, .ref a_rw, .ref a_or, .ref a_wy, .ref a_ct, .ref a_ch, .ref a_tn, .ref a_bt, .int (-1)])), (a_tp, .inl (cB, 900, .inl f_6))] H := hP
  have hD : va_D A [(h0, .inr (11, [.ref a_tp, .int 12, .ref a_rd, .ref a_wl, .ref a_st, .ref a_bf, .ref a_ps, .int 0, .int 0, .ref a_iw, .ref a_is, .ref a_tr, .ref a_rw, .ref a_or, .ref a_wy, .ref a_ct, .ref a_ch, .ref a_tn, .ref a_bt, .int (-1)])), (a_tp, .inl (cB, 900, .inl f_6))] := hD
  refine W.widen (k := 0) (n := 0) (Nat.le_of_ble_eq_true rfl) (Nat.le_of_ble_eq_true rfl) ?_
  refine lv_aload_n hx hb dX11_feed_31 rfl (lv_at hl 0 rfl) ?_
  refine lv_iload hx hb dX11_feed_32 (lv_at hl 4 rfl) ?_
  have hPc := hP.sub (ws' := [(h0, .inr (11, [.ref a_tp, .int 12, .ref a_rd, .ref a_wl, .ref a_st, .ref a_bf, .ref a_ps, .int 0, .int 0, .ref a_iw, .ref a_is, .ref a_tr, .ref a_rw, .ref a_or, .ref a_wy, .ref a_ct, .ref a_ch, .ref a_tn, .ref a_bt, .int (-1)])), (a_tp, .inl (cB, 900, .inl f_6))]) [0, 1] rfl
  have hDc := hD.sub (ws' := [(h0, .inr (11, [.ref a_tp, .int 12, .ref a_rd, .ref a_wl, .ref a_st, .ref a_bf, .ref a_ps, .int 0, .int 0, .ref a_iw, .ref a_is, .ref a_tr, .ref a_rw, .ref a_or, .ref a_wy, .ref a_ct, .ref a_ch, .ref a_tn, .ref a_bt, .int (-1)])), (a_tp, .inl (cB, 900, .inl f_6))]) [0, 1] (by decide) rfl
  refine k_v (wc := [(h0, .inr (11, [.ref a_tp, .int 12, .ref a_rd, .ref a_wl, .ref a_st, .ref a_bf, .ref a_ps, .int 0, .int 0, .ref a_iw, .ref a_is, .ref a_tr, .ref a_rw, .ref a_or, .ref a_wy, .ref a_ct, .ref a_ch, .ref a_tn, .ref a_bt, .int (-1)])), (a_tp, .inl (cB, 900, .inl f_6))]) (wr := []) hP hD hS hA [0, 1] [] rfl rfl rfl (by decide) (r_V (n := 1) (As := [.int i_3]) (ci := 11) (q0 := 0) hx hb hml hown hts hkb hPc hDc (c_tape12 l D cB cI cJ cZ cS cW cT cR h0 a_tp i_3 a_rd a_wl a_st a_bf a_ps a_iw a_is a_tr a_rw a_or a_wy a_ct a_ch a_tn a_bt f_6) kw_425 kw_427 ks_0 kw_1 kw_428 (by decide +kernel) ⟨Nat.le_of_ble_eq_true rfl, Nat.le_of_ble_eq_true rfl⟩ rfl rfl rfl rfl hl.1 (Nat.le_of_ble_eq_true rfl) dX11_feed_34 ⟨Nat.le_of_ble_eq_true rfl, Nat.le_of_ble_eq_true rfl⟩) (fun u H locs hw hP hD hS => ?_)
  obtain ⟨f_8, rfl⟩ := hw
  have hP : va_P D cls [(h0, .inr (11, [.ref a_tp, .int 16, .ref a_rd, .ref a_wl, .ref a_st, .ref a_bf, .ref a_ps, .int 0, .int 0, .ref a_iw, .ref a_is, .ref a_tr, .ref a_rw, .ref a_or, .ref a_wy, .ref a_ct, .ref a_ch, .ref a_tn, .ref a_bt, .int (-1)])), (a_tp, .inl (cB, 900, .inl f_8))] H := hP
  have hD : va_D A [(h0, .inr (11, [.ref a_tp, .int 16, .ref a_rd, .ref a_wl, .ref a_st, .ref a_bf, .ref a_ps, .int 0, .int 0, .ref a_iw, .ref a_is, .ref a_tr, .ref a_rw, .ref a_or, .ref a_wy, .ref a_ct, .ref a_ch, .ref a_tn, .ref a_bt, .int (-1)])), (a_tp, .inl (cB, 900, .inl f_8))] := hD
  refine W.widen (k := 0) (n := 0) (Nat.le_of_ble_eq_true rfl) (Nat.le_of_ble_eq_true rfl) ?_
  refine lv_aload_n hx hb dX11_feed_37 rfl (lv_at hl 0 rfl) ?_
  refine lv_iload hx hb dX11_feed_38 (lv_at hl 5 rfl) ?_
  have hPc := hP.sub (ws' := [(h0, .inr (11, [.ref a_tp, .int 16, .ref a_rd, .ref a_wl, .ref a_st, .ref a_bf, .ref a_ps, .int 0, .int 0, .ref a_iw, .ref a_is, .ref a_tr, .ref a_rw, .ref a_or, .ref a_wy, .ref a_ct, .ref a_ch, .ref a_tn, .ref a_bt, .int (-1)])), (a_tp, .inl (cB, 900, .inl f_8))]) [0, 1] rfl
  have hDc := hD.sub (ws' := [(h0, .inr (11, [.ref a_tp, .int 16, .ref a_rd, .ref a_wl, .ref a_st, .ref a_bf, .ref a_ps, .int 0, .int 0, .ref a_iw, .ref a_is, .ref a_tr, .ref a_rw, .ref a_or, .ref a_wy, .ref a_ct, .ref a_ch, .ref a_tn, .ref a_bt, .int (-1)])), (a_tp, .inl (cB, 900, .inl f_8))]) [0, 1] (by decide) rfl
  refine k_v (wc := [(h0, .inr (11, [.ref a_tp, .int 16, .ref a_rd, .ref a_wl, .ref a_st, .ref a_bf, .ref a_ps, .int 0, .int 0, .ref a_iw, .ref a_is, .ref a_tr, .ref a_rw, .ref a_or, .ref a_wy, .ref a_ct, .ref a_ch, .ref a_tn, .ref a_bt, .int (-1)])), (a_tp, .inl (cB, 900, .inl f_8))]) (wr := []) hP hD hS hA [0, 1] [] rfl rfl rfl (by decide) (r_V (n := 1) (As := [.int i_4]) (ci := 11) (q0 := 0) hx hb hml hown hts hkb hPc hDc (c_tape16 l D cB cI cJ cZ cS cW cT cR h0 a_tp i_4 a_rd a_wl a_st a_bf a_ps a_iw a_is a_tr a_rw a_or a_wy a_ct a_ch a_tn a_bt f_8) kw_425 kw_427 ks_0 kw_1 kw_428 (by decide +kernel) ⟨Nat.le_of_ble_eq_true rfl, Nat.le_of_ble_eq_true rfl⟩ rfl rfl rfl rfl hl.1 (Nat.le_of_ble_eq_true rfl) dX11_feed_40 ⟨Nat.le_of_ble_eq_true rfl, Nat.le_of_ble_eq_true rfl⟩) (fun u H locs hw hP hD hS => ?_)
  obtain ⟨f_10, rfl⟩ := hw
  have hP : va_P D cls [(h0, .inr (11, [.ref a_tp, .int 20, .ref a_rd, .ref a_wl, .ref a_st, .ref a_bf, .ref a_ps, .int 0, .int 0, .ref a_iw, .ref a_is, .ref a_tr, .ref a_rw, .ref a_or, .ref a_wy, .ref a_ct, .ref a_ch, .ref a_tn, .ref a_bt, .int (-1)])), (a_tp, .inl (cB, 900, .inl f_10))] H := hP
  have hD : va_D A [(h0, .inr (11, [.ref a_tp, .int 20, .ref a_rd, .ref a_wl, .ref a_st, .ref a_bf, .ref a_ps, .int 0, .int 0, .ref a_iw, .ref a_is, .ref a_tr, .ref a_rw, .ref a_or, .ref a_wy, .ref a_ct, .ref a_ch, .ref a_tn, .ref a_bt, .int (-1)])), (a_tp, .inl (cB, 900, .inl f_10))] := hD
  refine W.widen (k := 0) (n := 0) (Nat.le_of_ble_eq_true rfl) (Nat.le_of_ble_eq_true rfl) ?_
  refine lv_aload_n hx hb dX11_feed_43 rfl (lv_at hl 0 rfl) ?_
  refine va_get (D := D) (ci := 11) (v := .int 20) (C := RX11) (T := TX11) (N := 20) hx hb hts uX11 hown hkb.1 hP 0 rfl rfl 1 (by decide) (hts _ kw_361) (fun _ h9 => h9) rfl dX11_feed_44 ?_
  refine W.widen (k := 0) (n := 0) (Nat.le_of_ble_eq_true rfl) (Nat.le_of_ble_eq_true rfl) ?_
  exact e_i (u := []) hx hb hr hlocks (hP.sub (ws' := []) [] rfl) (hD.sub (ws' := []) [] (by decide) rfl) hS ⟨(by first | rfl | (exfalso; omega)), rfl⟩ dX11_feed_47
