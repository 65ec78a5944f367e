set_option maxHeartbeats 4000000 in
set_option maxRecDepth 100000 in
theorem c_comeBy (l : Launch) (D : va_G) (cB cI cJ cZ cS cW cT cR : ClassId) (a_wl : Nat) (a_wax : Nat) (a_way : Nat) (a_wai : Nat) (a_wal : Nat) (a_waw : Nat) : Kon l D (tyl cB cI cJ cZ cS cW cT cR) yX9_comeBy cX9_comeBy 4 (some (.int)) { frames := 0, cells := 0, slots := 0, locals := 0 } [.ref a_wl, .int 0] [(a_wl, .inr (9, [.int 0, .int 0, .int 0, .int 0, .int 0, .int 0, .ref a_wax, .ref a_way, .ref a_wai, .ref a_wal, .ref a_waw, .null, .int 0, .int 1]))] (Qi D (fun r u => r = 0 ∧ u = [(a_wl, .inr (9, [.int 0, .int 0, .int 0, .int 0, .int 0, .int 0, .ref a_wax, .ref a_way, .ref a_wai, .ref a_wal, .ref a_waw, .null, .int 0, .int 1]))])) := by
  refine kon_of (by decide) (Nat.le_of_ble_eq_true rfl) (fun p e s m below meth c ls A hx hb hr hml hown hts hlocks hnm hkb hP hD hS hA hl => ?_)
  have hown : s.vm.findClass RX9 = some m.cls := hown
  have hl : lv_has ls 4 [(0, .ref a_wl), (1, .int 0)] := hl
  have hP : va_P D cls [(a_wl, .inr (9, [.int 0, .int 0, .int 0, .int 0, .int 0, .int 0, .ref a_wax, .ref a_way, .ref a_wai, .ref a_wal, .ref a_waw, .null, .int 0, .int 1]))] s.heap := hP
  refine lv_iconst (v := 0) hx hb dX9_comeBy_0 (by decide) ?_
  refine lv_istore_n (lv' := [(2, .int 0), (0, .ref a_wl), (1, .int 0)]) hx hb dX9_comeBy_1 rfl hl (by decide) rfl (fun ls hl => ?_)
  refine lv_iconst (v := 0) hx hb dX9_comeBy_2 (by decide) ?_
  refine lv_istore_n (lv' := [(3, .int 0), (2, .int 0), (0, .ref a_wl), (1, .int 0)]) hx hb dX9_comeBy_3 rfl hl (by decide) rfl (fun ls hl => ?_)
  refine lv_iload_n hx hb dX9_comeBy_4 rfl (lv_at hl 0 rfl) ?_
  refine lv_aload_n hx hb dX9_comeBy_5 rfl (lv_at hl 2 rfl) ?_
  refine va_get (D := D) (ci := 9) (v := .int 0) (C := RX9) (T := TX9) (N := 14) hx hb hts uX9 hown hkb.1 hP 0 rfl rfl 0 (by decide) (hts _ kw_106) (fun _ h9 => h9) rfl dX9_comeBy_6 ?_
  refine lv_icmp_ge (tgt := 34) hx hb dX9_comeBy_9 (by decide) (fun _ => ?_) (fun c_1 => absurd c_1 (by decide))
  refine lv_iload_n hx hb dX9_comeBy_34 rfl (lv_at hl 1 rfl) ?_
  refine W.widen (k := 0) (n := 0) (Nat.le_of_ble_eq_true rfl) (Nat.le_of_ble_eq_true rfl) ?_
  exact e_i (u := [(a_wl, .inr (9, [.int 0, .int 0, .int 0, .int 0, .int 0, .int 0, .ref a_wax, .ref a_way, .ref a_wai, .ref a_wal, .ref a_waw, .null, .int 0, .int 1]))]) hx hb hr hlocks (hP.sub (ws' := [(a_wl, .inr (9, [.int 0, .int 0, .int 0, .int 0, .int 0, .int 0, .ref a_wax, .ref a_way, .ref a_wai, .ref a_wal, .ref a_waw, .null, .int 0, .int 1]))]) [0] rfl) (hD.sub (ws' := [(a_wl, .inr (9, [.int 0, .int 0, .int 0, .int 0, .int 0, .int 0, .ref a_wax, .ref a_way, .ref a_wai, .ref a_wal, .ref a_waw, .null, .int 0, .int 1]))]) [0] (by decide) rfl) hS ⟨rfl, rfl⟩ dX9_comeBy_35
set_option maxHeartbeats 4000000 in
set_option maxRecDepth 100000 in
theorem c_middles (l : Launch) (D : va_G) (cB cI cJ cZ cS cW cT cR : ClassId) (a_wl : Nat) (a_wax : Nat) (a_way : Nat) (a_wai : Nat) (a_wal : Nat) (a_waw : Nat) : Kon l D (tyl cB cI cJ cZ cS cW cT cR) yX9_middles cX9_middles 1 (some (.int)) { frames := 0, cells := 0, slots := 0, locals := 0 } [.ref a_wl] [(a_wl, .inr (9, [.int 0, .int 0, .int 0, .int 0, .int 0, .int 0, .ref a_wax, .ref a_way, .ref a_wai, .ref a_wal, .ref a_waw, .null, .int 0, .int 1]))] (Qi D (fun r u => r = 0 ∧ u = [(a_wl, .inr (9, [.int 0, .int 0, .int 0, .int 0, .int 0, .int 0, .ref a_wax, .ref a_way, .ref a_wai, .ref a_wal, .ref a_waw, .null, .int 0, .int 1]))])) := by
  refine kon_of (by decide) (Nat.le_of_ble_eq_true rfl) (fun p e s m below meth c ls A hx hb hr hml hown hts hlocks hnm hkb hP hD hS hA hl => ?_)
  have hown : s.vm.findClass RX9 = some m.cls := hown
  have hl : lv_has ls 1 [(0, .ref a_wl)] := hl
  have hP : va_P D cls [(a_wl, .inr (9, [.int 0, .int 0, .int 0, .int 0, .int 0, .int 0, .ref a_wax, .ref a_way, .ref a_wai, .ref a_wal, .ref a_waw, .null, .int 0, .int 1]))] s.heap := hP
  refine lv_iconst (v := 1) hx hb dX9_middles_0 (by decide) ?_
  refine lv_aload_n hx hb dX9_middles_1 rfl (lv_at hl 0 rfl) ?_
  refine va_get (D := D) (ci := 9) (v := .int 0) (C := RX9) (T := TX9) (N := 14) hx hb hts uX9 hown hkb.1 hP 0 rfl rfl 0 (by decide) (hts _ kw_106) (fun _ h9 => h9) rfl dX9_middles_2 ?_
  refine lv_ishl hx hb dX9_middles_5 ?_
  refine lv_topc (y := 1) (by decide +kernel) ?_
  refine lv_iconst (v := 1) hx hb dX9_middles_6 (by decide) ?_
  refine lv_isub hx hb dX9_middles_7 ?_
  refine lv_topc (y := 0) (by decide +kernel) ?_
  refine lv_aload_n hx hb dX9_middles_8 rfl (lv_at hl 0 rfl) ?_
  refine va_get (D := D) (ci := 9) (v := .int 0) (C := RX9) (T := TX9) (N := 14) hx hb hts uX9 hown hkb.1 hP 0 rfl rfl 3 (by decide) (hts _ kw_116) (fun _ h9 => h9) rfl dX9_middles_9 ?_
  refine lv_iconst (v := (-1)) hx hb dX9_middles_12 (by decide) ?_
  refine lv_ixor hx hb dX9_middles_13 ?_
  refine lv_topc (y := (-1)) (by decide +kernel) ?_
  refine lv_iand hx hb dX9_middles_14 ?_
  refine lv_topc (y := 0) (by decide +kernel) ?_
  refine lv_aload_n hx hb dX9_middles_15 rfl (lv_at hl 0 rfl) ?_
  refine va_get (D := D) (ci := 9) (v := .int 0) (C := RX9) (T := TX9) (N := 14) hx hb hts uX9 hown hkb.1 hP 0 rfl rfl 4 (by decide) (hts _ kw_123) (fun _ h9 => h9) rfl dX9_middles_16 ?_
  refine lv_iconst (v := (-1)) hx hb dX9_middles_19 (by decide) ?_
  refine lv_ixor hx hb dX9_middles_20 ?_
  refine lv_topc (y := (-1)) (by decide +kernel) ?_
  refine lv_iand hx hb dX9_middles_21 ?_
  refine lv_topc (y := 0) (by decide +kernel) ?_
  refine W.widen (k := 0) (n := 0) (Nat.le_of_ble_eq_true rfl) (Nat.le_of_ble_eq_true rfl) ?_
  exact e_i (u := [(a_wl, .inr (9, [.int 0, .int 0, .int 0, .int 0, .int 0, .int 0, .ref a_wax, .ref a_way, .ref a_wai, .ref a_wal, .ref a_waw, .null, .int 0, .int 1]))]) hx hb hr hlocks (hP.sub (ws' := [(a_wl, .inr (9, [.int 0, .int 0, .int 0, .int 0, .int 0, .int 0, .ref a_wax, .ref a_way, .ref a_wai, .ref a_wal, .ref a_waw, .null, .int 0, .int 1]))]) [0] rfl) (hD.sub (ws' := [(a_wl, .inr (9, [.int 0, .int 0, .int 0, .int 0, .int 0, .int 0, .ref a_wax, .ref a_way, .ref a_wai, .ref a_wal, .ref a_waw, .null, .int 0, .int 1]))]) [0] (by decide) rfl) hS ⟨rfl, rfl⟩ dX9_middles_22
set_option maxHeartbeats 4000000 in
set_option maxRecDepth 100000 in
theorem c_thereOn (l : Launch) (D : va_G) (cB cI cJ cZ cS cW cT cR : ClassId) (h0 : Nat) (a_wl : Nat) (a_st : Nat) (a_tp : Nat) (a_rd : Nat) (a_bf : Nat) (a_ps : Nat) (a_iw : Nat) (a_is : Nat) (a_tr : Nat) (a_rw : Nat) (a_or : Nat) (a_wy : Nat) (a_ct : Nat) (a_ch : Nat) (a_tn : Nat) (a_bt : Nat) (a_wax : Nat) (a_way : Nat) (a_wai : Nat) (a_wal : Nat) (a_waw : Nat) (a_sb : Nat) (a_ss : Nat) : Kon l D (tyl cB cI cJ cZ cS cW cT cR) yX11_thereOn cX11_thereOn 2 (some (.int)) { frames := 1, cells := 0, slots := 0, locals := 23 } [.ref h0, .int 0] [(h0, .inr (11, [.ref a_tp, .int 0, .ref a_rd, .ref a_wl, .ref a_st, .ref a_bf, .ref a_ps, .int 0, .int 0, .ref a_iw, .ref a_is, .ref a_tr, .ref a_rw, .ref a_or, .ref a_wy, .ref a_ct, .ref a_ch, .ref a_tn, .ref a_bt, .int (-1)])), (a_wl, .inr (9, [.int 0, .int 0, .int 0, .int 0, .int 0, .int 0, .ref a_wax, .ref a_way, .ref a_wai, .ref a_wal, .ref a_waw, .null, .int 0, .int 1])), (a_st, .inr (6, [.int 0, .int 0, .int 0, .int 0, .ref a_sb, .ref a_ss]))] (Qi D (fun r u => r = 0 ∧ u = [(h0, .inr (11, [.ref a_tp, .int 0, .ref a_rd, .ref a_wl, .ref a_st, .ref a_bf, .ref a_ps, .int 0, .int 0, .ref a_iw, .ref a_is, .ref a_tr, .ref a_rw, .ref a_or, .ref a_wy, .ref a_ct, .ref a_ch, .ref a_tn, .ref a_bt, .int (-1)])), (a_wl, .inr (9, [.int 0, .int 0, .int 0, .int 0, .int 0, .int 0, .ref a_wax, .ref a_way, .ref a_wai, .ref a_wal, .ref a_waw, .null, .int 0, .int 1])), (a_st, .inr (6, [.int 0, .int 0, .int 0, .int 0, .ref a_sb, .ref a_ss]))])) := by
  refine kon_of (by decide) (Nat.le_of_ble_eq_true rfl) (fun p e s m below meth c ls A hx hb hr hml hown hts hlocks hnm hkb hP hD hS hA hl => ?_)
  have hown : s.vm.findClass RX11 = some m.cls := hown
  have hl : lv_has ls 2 [(0, .ref h0), (1, .int 0)] := hl
  have hP : va_P D cls [(h0, .inr (11, [.ref a_tp, .int 0, .ref a_rd, .ref a_wl, .ref a_st, .ref a_bf, .ref a_ps, .int 0, .int 0, .ref a_iw, .ref a_is, .ref a_tr, .ref a_rw, .ref a_or, .ref a_wy, .ref a_ct, .ref a_ch, .ref a_tn, .ref a_bt, .int (-1)])), (a_wl, .inr (9, [.int 0, .int 0, .int 0, .int 0, .int 0, .int 0, .ref a_wax, .ref a_way, .ref a_wai, .ref a_wal, .ref a_waw, .null, .int 0, .int 1])), (a_st, .inr (6, [.int 0, .int 0, .int 0, .int 0, .ref a_sb, .ref a_ss]))] s.heap := hP
  refine lv_aload_n hx hb dX11_thereOn_0 rfl (lv_at hl 0 rfl) ?_
  refine va_get (D := D) (ci := 11) (v := .ref a_wl) (C := RX11) (T := TX11) (N := 20) hx hb hts uX11 hown hkb.1 hP 0 rfl rfl 3 (by decide) (hts _ kw_363) (fun _ h9 => h9) rfl dX11_thereOn_1 ?_
  refine lv_iload_n hx hb dX11_thereOn_4 rfl (lv_at hl 1 rfl) ?_
  have hPc := hP.sub (ws' := [(a_wl, .inr (9, [.int 0, .int 0, .int 0, .int 0, .int 0, .int 0, .ref a_wax, .ref a_way, .ref a_wai, .ref a_wal, .ref a_waw, .null, .int 0, .int 1]))]) [1] rfl
  have hDc := hD.sub (ws' := [(a_wl, .inr (9, [.int 0, .int 0, .int 0, .int 0, .int 0, .int 0, .ref a_wax, .ref a_way, .ref a_wai, .ref a_wal, .ref a_waw, .null, .int 0, .int 1]))]) [1] (by decide) rfl
  refine k_i (wc := [(a_wl, .inr (9, [.int 0, .int 0, .int 0, .int 0, .int 0, .int 0, .ref a_wax, .ref a_way, .ref a_wai, .ref a_wal, .ref a_waw, .null, .int 0, .int 1]))]) (wr := [(h0, .inr (11, [.ref a_tp, .int 0, .ref a_rd, .ref a_wl, .ref a_st, .ref a_bf, .ref a_ps, .int 0, .int 0, .ref a_iw, .ref a_is, .ref a_tr, .ref a_rw, .ref a_or, .ref a_wy, .ref a_ct, .ref a_ch, .ref a_tn, .ref a_bt, .int (-1)])), (a_st, .inr (6, [.int 0, .int 0, .int 0, .int 0, .ref a_sb, .ref a_ss]))]) hP hD hS hA [1] [0, 2] rfl rfl rfl (by decide) (r_V (n := 1) (As := [.int 0]) (ci := 9) (q0 := 0) hx hb hml hown hts hkb hPc hDc (c_comeBy l D cB cI cJ cZ cS cW cT cR a_wl a_wax a_way a_wai a_wal a_waw) kw_778 kw_779 kw_780 kw_5 kw_781 (by decide +kernel) ⟨Nat.le_of_ble_eq_true rfl, Nat.le_of_ble_eq_true rfl⟩ rfl rfl rfl rfl hl.1 (Nat.le_of_ble_eq_true rfl) dX11_thereOn_5 ⟨Nat.le_of_ble_eq_true rfl, Nat.le_of_ble_eq_true rfl⟩) (fun r_1 u H locs hw hP hD hS => ?_)
  obtain ⟨rfl, rfl⟩ := hw
  have hP : va_P D cls [(h0, .inr (11, [.ref a_tp, .int 0, .ref a_rd, .ref a_wl, .ref a_st, .ref a_bf, .ref a_ps, .int 0, .int 0, .ref a_iw, .ref a_is, .ref a_tr, .ref a_rw, .ref a_or, .ref a_wy, .ref a_ct, .ref a_ch, .ref a_tn, .ref a_bt, .int (-1)])), (a_st, .inr (6, [.int 0, .int 0, .int 0, .int 0, .ref a_sb, .ref a_ss])), (a_wl, .inr (9, [.int 0, .int 0, .int 0, .int 0, .int 0, .int 0, .ref a_wax, .ref a_way, .ref a_wai, .ref a_wal, .ref a_waw, .null, .int 0, .int 1]))] H := hP
  have hD : va_D A [(h0, .inr (11, [.ref a_tp, .int 0, .ref a_rd, .ref a_wl, .ref a_st, .ref a_bf, .ref a_ps, .int 0, .int 0, .ref a_iw, .ref a_is, .ref a_tr, .ref a_rw, .ref a_or, .ref a_wy, .ref a_ct, .ref a_ch, .ref a_tn, .ref a_bt, .int (-1)])), (a_st, .inr (6, [.int 0, .int 0, .int 0, .int 0, .ref a_sb, .ref a_ss])), (a_wl, .inr (9, [.int 0, .int 0, .int 0, .int 0, .int 0, .int 0, .ref a_wax, .ref a_way, .ref a_wai, .ref a_wal, .ref a_waw, .null, .int 0, .int 1]))] := hD
  refine W.widen (k := 0) (n := 0) (Nat.le_of_ble_eq_true rfl) (Nat.le_of_ble_eq_true rfl) ?_
  refine lv_aload_n hx hb dX11_thereOn_8 rfl (lv_at hl 0 rfl) ?_
  refine va_get (D := D) (ci := 11) (v := .ref a_st) (C := RX11) (T := TX11) (N := 20) hx hb hts uX11 hown hkb.1 hP 0 rfl rfl 4 (by decide) (hts _ kw_364) (fun _ h9 => h9) rfl dX11_thereOn_9 ?_
  refine va_get (D := D) (ci := 6) (v := .int 0) (C := RX6) (T := TX6) (N := 6) hx hb hts uX6 hown hkb.1 hP 1 rfl rfl 1 (by decide) (hts _ kw_188) (fun _ h9 => h9) rfl dX11_thereOn_12 ?_
  refine lv_iconst (v := (-1)) hx hb dX11_thereOn_15 (by decide) ?_
  refine lv_ixor hx hb dX11_thereOn_16 ?_
  refine lv_topc (y := (-1)) (by decide +kernel) ?_
  refine lv_iand hx hb dX11_thereOn_17 ?_
  refine lv_topc (y := 0) (by decide +kernel) ?_
  refine W.widen (k := 0) (n := 0) (Nat.le_of_ble_eq_true rfl) (Nat.le_of_ble_eq_true rfl) ?_
  exact e_i (u := [(h0, .inr (11, [.ref a_tp, .int 0, .ref a_rd, .ref a_wl, .ref a_st, .ref a_bf, .ref a_ps, .int 0, .int 0, .ref a_iw, .ref a_is, .ref a_tr, .ref a_rw, .ref a_or, .ref a_wy, .ref a_ct, .ref a_ch, .ref a_tn, .ref a_bt, .int (-1)])), (a_wl, .inr (9, [.int 0, .int 0, .int 0, .int 0, .int 0, .int 0, .ref a_wax, .ref a_way, .ref a_wai, .ref a_wal, .ref a_waw, .null, .int 0, .int 1])), (a_st, .inr (6, [.int 0, .int 0, .int 0, .int 0, .ref a_sb, .ref a_ss]))]) hx hb hr hlocks (hP.sub (ws' := [(h0, .inr (11, [.ref a_tp, .int 0, .ref a_rd, .ref a_wl, .ref a_st, .ref a_bf, .ref a_ps, .int 0, .int 0, .ref a_iw, .ref a_is, .ref a_tr, .ref a_rw, .ref a_or, .ref a_wy, .ref a_ct, .ref a_ch, .ref a_tn, .ref a_bt, .int (-1)])), (a_wl, .inr (9, [.int 0, .int 0, .int 0, .int 0, .int 0, .int 0, .ref a_wax, .ref a_way, .ref a_wai, .ref a_wal, .ref a_waw, .null, .int 0, .int 1])), (a_st, .inr (6, [.int 0, .int 0, .int 0, .int 0, .ref a_sb, .ref a_ss]))]) [0, 2, 1] rfl) (hD.sub (ws' := [(h0, .inr (11, [.ref a_tp, .int 0, .ref a_rd, .ref a_wl, .ref a_st, .ref a_bf, .ref a_ps, .int 0, .int 0, .ref a_iw, .ref a_is, .ref a_tr, .ref a_rw, .ref a_or, .ref a_wy, .ref a_ct, .ref a_ch, .ref a_tn, .ref a_bt, .int (-1)])), (a_wl, .inr (9, [.int 0, .int 0, .int 0, .int 0, .int 0, .int 0, .ref a_wax, .ref a_way, .ref a_wai, .ref a_wal, .ref a_waw, .null, .int 0, .int 1])), (a_st, .inr (6, [.int 0, .int 0, .int 0, .int 0, .ref a_sb, .ref a_ss]))]) [0, 2, 1] (by decide) rfl) hS ⟨rfl, rfl⟩ dX11_thereOn_18
set_option maxHeartbeats 4000000 in
set_option maxRecDepth 100000 in
theorem c_openOn (l : Launch) (D : va_G) (cB cI cJ cZ cS cW cT cR : ClassId) (h0 : Nat) (a_wl : Nat) (a_st : Nat) (a_tp : Nat) (a_rd : Nat) (a_bf : Nat) (a_ps : Nat) (a_iw : Nat) (a_is : Nat) (a_tr : Nat) (a_rw : Nat) (a_or : Nat) (a_wy : Nat) (a_ct : Nat) (a_ch : Nat) (a_tn : Nat) (a_bt : Nat) (a_wax : Nat) (a_way : Nat) (a_wai : Nat) (a_wal : Nat) (a_waw : Nat) (a_sb : Nat) (a_ss : Nat) : Kon l D (tyl cB cI cJ cZ cS cW cT cR) yX11_openOn cX11_openOn 2 (some (.int)) { frames := 2, cells := 0, slots := 0, locals := 44 } [.ref h0, .int 0] [(h0, .inr (11, [.ref a_tp, .int 0, .ref a_rd, .ref a_wl, .ref a_st, .ref a_bf, .ref a_ps, .int 0, .int 0, .ref a_iw, .ref a_is, .ref a_tr, .ref a_rw, .ref a_or, .ref a_wy, .ref a_ct, .ref a_ch, .ref a_tn, .ref a_bt, .int (-1)])), (a_wl, .inr (9, [.int 0, .int 0, .int 0, .int 0, .int 0, .int 0, .ref a_wax, .ref a_way, .ref a_wai, .ref a_wal, .ref a_waw, .null, .int 0, .int 1])), (a_st, .inr (6, [.int 0, .int 0, .int 0, .int 0, .ref a_sb, .ref a_ss]))] (Qi D (fun r u => r = 0 ∧ u = [(h0, .inr (11, [.ref a_tp, .int 0, .ref a_rd, .ref a_wl, .ref a_st, .ref a_bf, .ref a_ps, .int 0, .int 0, .ref a_iw, .ref a_is, .ref a_tr, .ref a_rw, .ref a_or, .ref a_wy, .ref a_ct, .ref a_ch, .ref a_tn, .ref a_bt, .int (-1)])), (a_wl, .inr (9, [.int 0, .int 0, .int 0, .int 0, .int 0, .int 0, .ref a_wax, .ref a_way, .ref a_wai, .ref a_wal, .ref a_waw, .null, .int 0, .int 1])), (a_st, .inr (6, [.int 0, .int 0, .int 0, .int 0, .ref a_sb, .ref a_ss]))])) := by
  refine kon_of (by decide) (Nat.le_of_ble_eq_true rfl) (fun p e s m below meth c ls A hx hb hr hml hown hts hlocks hnm hkb hP hD hS hA hl => ?_)
  have hown : s.vm.findClass RX11 = some m.cls := hown
  have hl : lv_has ls 2 [(0, .ref h0), (1, .int 0)] := hl
  have hP : va_P D cls [(h0, .inr (11, [.ref a_tp, .int 0, .ref a_rd, .ref a_wl, .ref a_st, .ref a_bf, .ref a_ps, .int 0, .int 0, .ref a_iw, .ref a_is, .ref a_tr, .ref a_rw, .ref a_or, .ref a_wy, .ref a_ct, .ref a_ch, .ref a_tn, .ref a_bt, .int (-1)])), (a_wl, .inr (9, [.int 0, .int 0, .int 0, .int 0, .int 0, .int 0, .ref a_wax, .ref a_way, .ref a_wai, .ref a_wal, .ref a_waw, .null, .int 0, .int 1])), (a_st, .inr (6, [.int 0, .int 0, .int 0, .int 0, .ref a_sb, .ref a_ss]))] s.heap := hP
  refine lv_aload_n hx hb dX11_openOn_0 rfl (lv_at hl 0 rfl) ?_
  refine lv_iload_n hx hb dX11_openOn_1 rfl (lv_at hl 1 rfl) ?_
  have hPc := hP.sub (ws' := [(h0, .inr (11, [.ref a_tp, .int 0, .ref a_rd, .ref a_wl, .ref a_st, .ref a_bf, .ref a_ps, .int 0, .int 0, .ref a_iw, .ref a_is, .ref a_tr, .ref a_rw, .ref a_or, .ref a_wy, .ref a_ct, .ref a_ch, .ref a_tn, .ref a_bt, .int (-1)])), (a_wl, .inr (9, [.int 0, .int 0, .int 0, .int 0, .int 0, .int 0, .ref a_wax, .ref a_way, .ref a_wai, .ref a_wal, .ref a_waw, .null, .int 0, .int 1])), (a_st, .inr (6, [.int 0, .int 0, .int 0, .int 0, .ref a_sb, .ref a_ss]))]) [0, 1, 2] rfl
  have hDc := hD.sub (ws' := [(h0, .inr (11, [.ref a_tp, .int 0, .ref a_rd, .ref a_wl, .ref a_st, .ref a_bf, .ref a_ps, .int 0, .int 0, .ref a_iw, .ref a_is, .ref a_tr, .ref a_rw, .ref a_or, .ref a_wy, .ref a_ct, .ref a_ch, .ref a_tn, .ref a_bt, .int (-1)])), (a_wl, .inr (9, [.int 0, .int 0, .int 0, .int 0, .int 0, .int 0, .ref a_wax, .ref a_way, .ref a_wai, .ref a_wal, .ref a_waw, .null, .int 0, .int 1])), (a_st, .inr (6, [.int 0, .int 0, .int 0, .int 0, .ref a_sb, .ref a_ss]))]) [0, 1, 2] (by decide) rfl
  refine k_i (wc := [(h0, .inr (11, [.ref a_tp, .int 0, .ref a_rd, .ref a_wl, .ref a_st, .ref a_bf, .ref a_ps, .int 0, .int 0, .ref a_iw, .ref a_is, .ref a_tr, .ref a_rw, .ref a_or, .ref a_wy, .ref a_ct, .ref a_ch, .ref a_tn, .ref a_bt, .int (-1)])), (a_wl, .inr (9, [.int 0, .int 0, .int 0, .int 0, .int 0, .int 0, .ref a_wax, .ref a_way, .ref a_wai, .ref a_wal, .ref a_waw, .null, .int 0, .int 1])), (a_st, .inr (6, [.int 0, .int 0, .int 0, .int 0, .ref a_sb, .ref a_ss]))]) (wr := []) hP hD hS hA [0, 1, 2] [] rfl rfl rfl (by decide) (r_V (n := 1) (As := [.int 0]) (ci := 11) (q0 := 0) hx hb hml hown hts hkb hPc hDc (c_thereOn l D cB cI cJ cZ cS cW cT cR h0 a_wl a_st a_tp a_rd a_bf a_ps a_iw a_is a_tr a_rw a_or a_wy a_ct a_ch a_tn a_bt a_wax a_way a_wai a_wal a_waw a_sb a_ss) kw_774 kw_776 ks_18 kw_1 kw_777 (by decide +kernel) ⟨Nat.le_of_ble_eq_true rfl, Nat.le_of_ble_eq_true rfl⟩ rfl rfl rfl rfl hl.1 (Nat.le_of_ble_eq_true rfl) dX11_openOn_2 ⟨Nat.le_of_ble_eq_true rfl, Nat.le_of_ble_eq_true rfl⟩) (fun r_1 u H locs hw hP hD hS => ?_)
  obtain ⟨rfl, rfl⟩ := hw
  have hP : va_P D cls [(h0, .inr (11, [.ref a_tp, .int 0, .ref a_rd, .ref a_wl, .ref a_st, .ref a_bf, .ref a_ps, .int 0, .int 0, .ref a_iw, .ref a_is, .ref a_tr, .ref a_rw, .ref a_or, .ref a_wy, .ref a_ct, .ref a_ch, .ref a_tn, .ref a_bt, .int (-1)])), (a_wl, .inr (9, [.int 0, .int 0, .int 0, .int 0, .int 0, .int 0, .ref a_wax, .ref a_way, .ref a_wai, .ref a_wal, .ref a_waw, .null, .int 0, .int 1])), (a_st, .inr (6, [.int 0, .int 0, .int 0, .int 0, .ref a_sb, .ref a_ss]))] H := hP
  have hD : va_D A [(h0, .inr (11, [.ref a_tp, .int 0, .ref a_rd, .ref a_wl, .ref a_st, .ref a_bf, .ref a_ps, .int 0, .int 0, .ref a_iw, .ref a_is, .ref a_tr, .ref a_rw, .ref a_or, .ref a_wy, .ref a_ct, .ref a_ch, .ref a_tn, .ref a_bt, .int (-1)])), (a_wl, .inr (9, [.int 0, .int 0, .int 0, .int 0, .int 0, .int 0, .ref a_wax, .ref a_way, .ref a_wai, .ref a_wal, .ref a_waw, .null, .int 0, .int 1])), (a_st, .inr (6, [.int 0, .int 0, .int 0, .int 0, .ref a_sb, .ref a_ss]))] := hD
  refine W.widen (k := 0) (n := 0) (Nat.le_of_ble_eq_true rfl) (Nat.le_of_ble_eq_true rfl) ?_
  refine lv_aload_n hx hb dX11_openOn_5 rfl (lv_at hl 0 rfl) ?_
  refine va_get (D := D) (ci := 11) (v := .ref a_st) (C := RX11) (T := TX11) (N := 20) hx hb hts uX11 hown hkb.1 hP 0 rfl rfl 4 (by decide) (hts _ kw_364) (fun _ h9 => h9) rfl dX11_openOn_6 ?_
  refine va_get (D := D) (ci := 6) (v := .int 0) (C := RX6) (T := TX6) (N := 6) hx hb hts uX6 hown hkb.1 hP 2 rfl rfl 0 (by decide) (hts _ kw_186) (fun _ h9 => h9) rfl dX11_openOn_9 ?_
  refine lv_iconst (v := (-1)) hx hb dX11_openOn_12 (by decide) ?_
  refine lv_ixor hx hb dX11_openOn_13 ?_
  refine lv_topc (y := (-1)) (by decide +kernel) ?_
  refine lv_iand hx hb dX11_openOn_14 ?_
  refine lv_topc (y := 0) (by decide +kernel) ?_
  refine W.widen (k := 0) (n := 0) (Nat.le_of_ble_eq_true rfl) (Nat.le_of_ble_eq_true rfl) ?_
  exact e_i (u := [(h0, .inr (11, [.ref a_tp, .int 0, .ref a_rd, .ref a_wl, .ref a_st, .ref a_bf, .ref a_ps, .int 0, .int 0, .ref a_iw, .ref a_is, .ref a_tr, .ref a_rw, .ref a_or, .ref a_wy, .ref a_ct, .ref a_ch, .ref a_tn, .ref a_bt, .int (-1)])), (a_wl, .inr (9, [.int 0, .int 0, .int 0, .int 0, .int 0, .int 0, .ref a_wax, .ref a_way, .ref a_wai, .ref a_wal, .ref a_waw, .null, .int 0, .int 1])), (a_st, .inr (6, [.int 0, .int 0, .int 0, .int 0, .ref a_sb, .ref a_ss]))]) hx hb hr hlocks (hP.sub (ws' := [(h0, .inr (11, [.ref a_tp, .int 0, .ref a_rd, .ref a_wl, .ref a_st, .ref a_bf, .ref a_ps, .int 0, .int 0, .ref a_iw, .ref a_is, .ref a_tr, .ref a_rw, .ref a_or, .ref a_wy, .ref a_ct, .ref a_ch, .ref a_tn, .ref a_bt, .int (-1)])), (a_wl, .inr (9, [.int 0, .int 0, .int 0, .int 0, .int 0, .int 0, .ref a_wax, .ref a_way, .ref a_wai, .ref a_wal, .ref a_waw, .null, .int 0, .int 1])), (a_st, .inr (6, [.int 0, .int 0, .int 0, .int 0, .ref a_sb, .ref a_ss]))]) [0, 1, 2] rfl) (hD.sub (ws' := [(h0, .inr (11, [.ref a_tp, .int 0, .ref a_rd, .ref a_wl, .ref a_st, .ref a_bf, .ref a_ps, .int 0, .int 0, .ref a_iw, .ref a_is, .ref a_tr, .ref a_rw, .ref a_or, .ref a_wy, .ref a_ct, .ref a_ch, .ref a_tn, .ref a_bt, .int (-1)])), (a_wl, .inr (9, [.int 0, .int 0, .int 0, .int 0, .int 0, .int 0, .ref a_wax, .ref a_way, .ref a_wai, .ref a_wal, .ref a_waw, .null, .int 0, .int 1])), (a_st, .inr (6, [.int 0, .int 0, .int 0, .int 0, .ref a_sb, .ref a_ss]))]) [0, 1, 2] (by decide) rfl) hS ⟨rfl, rfl⟩ dX11_openOn_15
set_option maxHeartbeats 4000000 in
set_option maxRecDepth 100000 in
theorem c_openNow (l : Launch) (D : va_G) (cB cI cJ cZ cS cW cT cR : ClassId) (h0 : Nat) (a_wl : Nat) (a_st : Nat) (a_tp : Nat) (a_rd : Nat) (a_bf : Nat) (a_ps : Nat) (a_iw : Nat) (a_is : Nat) (a_tr : Nat) (a_rw : Nat) (a_or : Nat) (a_wy : Nat) (a_ct : Nat) (a_ch : Nat) (a_tn : Nat) (a_bt : Nat) (a_wax : Nat) (a_way : Nat) (a_wai : Nat) (a_wal : Nat) (a_waw : Nat) (a_sb : Nat) (a_ss : Nat) : Kon l D (tyl cB cI cJ cZ cS cW cT cR) yX11_openNow cX11_openNow 1 (some (.int)) { frames := 3, cells := 0, slots := 0, locals := 65 } [.ref h0] [(h0, .inr (11, [.ref a_tp, .int 0, .ref a_rd, .ref a_wl, .ref a_st, .ref a_bf, .ref a_ps, .int 0, .int 0, .ref a_iw, .ref a_is, .ref a_tr, .ref a_rw, .ref a_or, .ref a_wy, .ref a_ct, .ref a_ch, .ref a_tn, .ref a_bt, .int (-1)])), (a_wl, .inr (9, [.int 0, .int 0, .int 0, .int 0, .int 0, .int 0, .ref a_wax, .ref a_way, .ref a_wai, .ref a_wal, .ref a_waw, .null, .int 0, .int 1])), (a_st, .inr (6, [.int 0, .int 0, .int 0, .int 0, .ref a_sb, .ref a_ss]))] (Qi D (fun r u => r = 0 ∧ u = [(h0, .inr (11, [.ref a_tp, .int 0, .ref a_rd, .ref a_wl, .ref a_st, .ref a_bf, .ref a_ps, .int 0, .int 0, .ref a_iw, .ref a_is, .ref a_tr, .ref a_rw, .ref a_or, .ref a_wy, .ref a_ct, .ref a_ch, .ref a_tn, .ref a_bt, .int (-1)])), (a_wl, .inr (9, [.int 0, .int 0, .int 0, .int 0, .int 0, .int 0, .ref a_wax, .ref a_way, .ref a_wai, .ref a_wal, .ref a_waw, .null, .int 0, .int 1])), (a_st, .inr (6, [.int 0, .int 0, .int 0, .int 0, .ref a_sb, .ref a_ss]))])) := by
  refine kon_of (by decide) (Nat.le_of_ble_eq_true rfl) (fun p e s m below meth c ls A hx hb hr hml hown hts hlocks hnm hkb hP hD hS hA hl => ?_)
  have hown : s.vm.findClass RX11 = some m.cls := hown
  have hl : lv_has ls 1 [(0, .ref h0)] := hl
  have hP : va_P D cls [(h0, .inr (11, [.ref a_tp, .int 0, .ref a_rd, .ref a_wl, .ref a_st, .ref a_bf, .ref a_ps, .int 0, .int 0, .ref a_iw, .ref a_is, .ref a_tr, .ref a_rw, .ref a_or, .ref a_wy, .ref a_ct, .ref a_ch, .ref a_tn, .ref a_bt, .int (-1)])), (a_wl, .inr (9, [.int 0, .int 0, .int 0, .int 0, .int 0, .int 0, .ref a_wax, .ref a_way, .ref a_wai, .ref a_wal, .ref a_waw, .null, .int 0, .int 1])), (a_st, .inr (6, [.int 0, .int 0, .int 0, .int 0, .ref a_sb, .ref a_ss]))] s.heap := hP
  refine lv_aload_n hx hb dX11_openNow_0 rfl (lv_at hl 0 rfl) ?_
  refine lv_aload_n hx hb dX11_openNow_1 rfl (lv_at hl 0 rfl) ?_
  refine va_get (D := D) (ci := 11) (v := .ref a_st) (C := RX11) (T := TX11) (N := 20) hx hb hts uX11 hown hkb.1 hP 0 rfl rfl 4 (by decide) (hts _ kw_364) (fun _ h9 => h9) rfl dX11_openNow_2 ?_
  refine va_get (D := D) (ci := 6) (v := .int 0) (C := RX6) (T := TX6) (N := 6) hx hb hts uX6 hown hkb.1 hP 2 rfl rfl 2 (by decide) (hts _ kw_191) (fun _ h9 => h9) rfl dX11_openNow_5 ?_
  have hPc := hP.sub (ws' := [(h0, .inr (11, [.ref a_tp, .int 0, .ref a_rd, .ref a_wl, .ref a_st, .ref a_bf, .ref a_ps, .int 0, .int 0, .ref a_iw, .ref a_is, .ref a_tr, .ref a_rw, .ref a_or, .ref a_wy, .ref a_ct, .ref a_ch, .ref a_tn, .ref a_bt, .int (-1)])), (a_wl, .inr (9, [.int 0, .int 0, .int 0, .int 0, .int 0, .int 0, .ref a_wax, .ref a_way, .ref a_wai, .ref a_wal, .ref a_waw, .null, .int 0, .int 1])), (a_st, .inr (6, [.int 0, .int 0, .int 0, .int 0, .ref a_sb, .ref a_ss]))]) [0, 1, 2] rfl
  have hDc := hD.sub (ws' := [(h0, .inr (11, [.ref a_tp, .int 0, .ref a_rd, .ref a_wl, .ref a_st, .ref a_bf, .ref a_ps, .int 0, .int 0, .ref a_iw, .ref a_is, .ref a_tr, .ref a_rw, .ref a_or, .ref a_wy, .ref a_ct, .ref a_ch, .ref a_tn, .ref a_bt, .int (-1)])), (a_wl, .inr (9, [.int 0, .int 0, .int 0, .int 0, .int 0, .int 0, .ref a_wax, .ref a_way, .ref a_wai, .ref a_wal, .ref a_waw, .null, .int 0, .int 1])), (a_st, .inr (6, [.int 0, .int 0, .int 0, .int 0, .ref a_sb, .ref a_ss]))]) [0, 1, 2] (by decide) rfl
  refine k_i (wc := [(h0, .inr (11, [.ref a_tp, .int 0, .ref a_rd, .ref a_wl, .ref a_st, .ref a_bf, .ref a_ps, .int 0, .int 0, .ref a_iw, .ref a_is, .ref a_tr, .ref a_rw, .ref a_or, .ref a_wy, .ref a_ct, .ref a_ch, .ref a_tn, .ref a_bt, .int (-1)])), (a_wl, .inr (9, [.int 0, .int 0, .int 0, .int 0, .int 0, .int 0, .ref a_wax, .ref a_way, .ref a_wai, .ref a_wal, .ref a_waw, .null, .int 0, .int 1])), (a_st, .inr (6, [.int 0, .int 0, .int 0, .int 0, .ref a_sb, .ref a_ss]))]) (wr := []) hP hD hS hA [0, 1, 2] [] rfl rfl rfl (by decide) (r_V (n := 1) (As := [.int 0]) (ci := 11) (q0 := 0) hx hb hml hown hts hkb hPc hDc (c_openOn l D cB cI cJ cZ cS cW cT cR h0 a_wl a_st a_tp a_rd a_bf a_ps a_iw a_is a_tr a_rw a_or a_wy a_ct a_ch a_tn a_bt a_wax a_way a_wai a_wal a_waw a_sb a_ss) kw_782 kw_784 ks_19 kw_1 kw_785 (by decide +kernel) ⟨Nat.le_of_ble_eq_true rfl, Nat.le_of_ble_eq_true rfl⟩ rfl rfl rfl rfl hl.1 (Nat.le_of_ble_eq_true rfl) dX11_openNow_8 ⟨Nat.le_of_ble_eq_true rfl, Nat.le_of_ble_eq_true rfl⟩) (fun r_1 u H locs hw hP hD hS => ?_)
  obtain ⟨rfl, rfl⟩ := hw
  have hP : va_P D cls [(h0, .inr (11, [.ref a_tp, .int 0, .ref a_rd, .ref a_wl, .ref a_st, .ref a_bf, .ref a_ps, .int 0, .int 0, .ref a_iw, .ref a_is, .ref a_tr, .ref a_rw, .ref a_or, .ref a_wy, .ref a_ct, .ref a_ch, .ref a_tn, .ref a_bt, .int (-1)])), (a_wl, .inr (9, [.int 0, .int 0, .int 0, .int 0, .int 0, .int 0, .ref a_wax, .ref a_way, .ref a_wai, .ref a_wal, .ref a_waw, .null, .int 0, .int 1])), (a_st, .inr (6, [.int 0, .int 0, .int 0, .int 0, .ref a_sb, .ref a_ss]))] H := hP
  have hD : va_D A [(h0, .inr (11, [.ref a_tp, .int 0, .ref a_rd, .ref a_wl, .ref a_st, .ref a_bf, .ref a_ps, .int 0, .int 0, .ref a_iw, .ref a_is, .ref a_tr, .ref a_rw, .ref a_or, .ref a_wy, .ref a_ct, .ref a_ch, .ref a_tn, .ref a_bt, .int (-1)])), (a_wl, .inr (9, [.int 0, .int 0, .int 0, .int 0, .int 0, .int 0, .ref a_wax, .ref a_way, .ref a_wai, .ref a_wal, .ref a_waw, .null, .int 0, .int 1])), (a_st, .inr (6, [.int 0, .int 0, .int 0, .int 0, .ref a_sb, .ref a_ss]))] := hD
  refine W.widen (k := 0) (n := 0) (Nat.le_of_ble_eq_true rfl) (Nat.le_of_ble_eq_true rfl) ?_
  refine W.widen (k := 0) (n := 0) (Nat.le_of_ble_eq_true rfl) (Nat.le_of_ble_eq_true rfl) ?_
  exact e_i (u := [(h0, .inr (11, [.ref a_tp, .int 0, .ref a_rd, .ref a_wl, .ref a_st, .ref a_bf, .ref a_ps, .int 0, .int 0, .ref a_iw, .ref a_is, .ref a_tr, .ref a_rw, .ref a_or, .ref a_wy, .ref a_ct, .ref a_ch, .ref a_tn, .ref a_bt, .int (-1)])), (a_wl, .inr (9, [.int 0, .int 0, .int 0, .int 0, .int 0, .int 0, .ref a_wax, .ref a_way, .ref a_wai, .ref a_wal, .ref a_waw, .null, .int 0, .int 1])), (a_st, .inr (6, [.int 0, .int 0, .int 0, .int 0, .ref a_sb, .ref a_ss]))]) hx hb hr hlocks (hP.sub (ws' := [(h0, .inr (11, [.ref a_tp, .int 0, .ref a_rd, .ref a_wl, .ref a_st, .ref a_bf, .ref a_ps, .int 0, .int 0, .ref a_iw, .ref a_is, .ref a_tr, .ref a_rw, .ref a_or, .ref a_wy, .ref a_ct, .ref a_ch, .ref a_tn, .ref a_bt, .int (-1)])), (a_wl, .inr (9, [.int 0, .int 0, .int 0, .int 0, .int 0, .int 0, .ref a_wax, .ref a_way, .ref a_wai, .ref a_wal, .ref a_waw, .null, .int 0, .int 1])), (a_st, .inr (6, [.int 0, .int 0, .int 0, .int 0, .ref a_sb, .ref a_ss]))]) [0, 1, 2] rfl) (hD.sub (ws' := [(h0, .inr (11, [.ref a_tp, .int 0, .ref a_rd, .ref a_wl, .ref a_st, .ref a_bf, .ref a_ps, .int 0, .int 0, .ref a_iw, .ref a_is, .ref a_tr, .ref a_rw, .ref a_or, .ref a_wy, .ref a_ct, .ref a_ch, .ref a_tn, .ref a_bt, .int (-1)])), (a_wl, .inr (9, [.int 0, .int 0, .int 0, .int 0, .int 0, .int 0, .ref a_wax, .ref a_way, .ref a_wai, .ref a_wal, .ref a_waw, .null, .int 0, .int 1])), (a_st, .inr (6, [.int 0, .int 0, .int 0, .int 0, .ref a_sb, .ref a_ss]))]) [0, 1, 2] (by decide) rfl) hS ⟨rfl, rfl⟩ dX11_openNow_11
set_option maxHeartbeats 4000000 in
set_option maxRecDepth 100000 in
theorem x_whose (l : Launch) (D : va_G) (cB cI cJ cZ cS cW cT cR : ClassId) (h0 : Nat) (a_wl : Nat) (a_st : Nat) (i_0 : Int32) (a_tp : Nat) (a_rd : Nat) (a_bf : Nat) (a_ps : Nat) (a_iw : Nat) (a_is : Nat) (a_tr : Nat) (a_rw : Nat) (a_or : Nat) (a_wy : Nat) (a_ct : Nat) (a_ch : Nat) (a_tn : Nat) (a_bt : Nat) (a_wax : Nat) (a_way : Nat) (a_wai : Nat) (a_wal : Nat) (a_waw : Nat) (a_sb : Nat) (a_ss : Nat) : Kon l D (tyl cB cI cJ cZ cS cW cT cR) yX11_whose cX11_whose 5 (some (.int)) { frames := 2, cells := 0, slots := 0, locals := 44 } [.ref h0, .int i_0] [(h0, .inr (11, [.ref a_tp, .int 0, .ref a_rd, .ref a_wl, .ref a_st, .ref a_bf, .ref a_ps, .int 0, .int 0, .ref a_iw, .ref a_is, .ref a_tr, .ref a_rw, .ref a_or, .ref a_wy, .ref a_ct, .ref a_ch, .ref a_tn, .ref a_bt, .int (-1)])), (a_wl, .inr (9, [.int 0, .int 0, .int 0, .int 0, .int 0, .int 0, .ref a_wax, .ref a_way, .ref a_wai, .ref a_wal, .ref a_waw, .null, .int 0, .int 1])), (a_st, .inr (6, [.int 0, .int 0, .int 0, .int 0, .ref a_sb, .ref a_ss]))] (Qi D (fun r u => r = F_whose i_0 ∧ u = [])) := by
  refine kon_of (by decide) (Nat.le_of_ble_eq_true rfl) (fun p e s m below meth c ls A hx hb hr hml hown hts hlocks hnm hkb hP hD hS hA hl => ?_)
  have hown : s.vm.findClass RX11 = some m.cls := hown
  have hl : lv_has ls 5 [(0, .ref h0), (1, .int i_0)] := hl
  have hP : va_P D cls [(h0, .inr (11, [.ref a_tp, .int 0, .ref a_rd, .ref a_wl, .ref a_st, .ref a_bf, .ref a_ps, .int 0, .int 0, .ref a_iw, .ref a_is, .ref a_tr, .ref a_rw, .ref a_or, .ref a_wy, .ref a_ct, .ref a_ch, .ref a_tn, .ref a_bt, .int (-1)])), (a_wl, .inr (9, [.int 0, .int 0, .int 0, .int 0, .int 0, .int 0, .ref a_wax, .ref a_way, .ref a_wai, .ref a_wal, .ref a_waw, .null, .int 0, .int 1])), (a_st, .inr (6, [.int 0, .int 0, .int 0, .int 0, .ref a_sb, .ref a_ss]))] s.heap := hP
  refine lv_aload_n hx hb dX11_whose_0 rfl (lv_at hl 0 rfl) ?_
  refine lv_aload_n hx hb dX11_whose_1 rfl (lv_at hl 0 rfl) ?_
  refine va_get (D := D) (ci := 11) (v := .ref a_st) (C := RX11) (T := TX11) (N := 20) hx hb hts uX11 hown hkb.1 hP 0 rfl rfl 4 (by decide) (hts _ kw_364) (fun _ h9 => h9) rfl dX11_whose_2 ?_
  refine va_get (D := D) (ci := 6) (v := .int 0) (C := RX6) (T := TX6) (N := 6) hx hb hts uX6 hown hkb.1 hP 2 rfl rfl 2 (by decide) (hts _ kw_191) (fun _ h9 => h9) rfl dX11_whose_5 ?_
  have hPc := hP.sub (ws' := [(h0, .inr (11, [.ref a_tp, .int 0, .ref a_rd, .ref a_wl, .ref a_st, .ref a_bf, .ref a_ps, .int 0, .int 0, .ref a_iw, .ref a_is, .ref a_tr, .ref a_rw, .ref a_or, .ref a_wy, .ref a_ct, .ref a_ch, .ref a_tn, .ref a_bt, .int (-1)])), (a_wl, .inr (9, [.int 0, .int 0, .int 0, .int 0, .int 0, .int 0, .ref a_wax, .ref a_way, .ref a_wai, .ref a_wal, .ref a_waw, .null, .int 0, .int 1])), (a_st, .inr (6, [.int 0, .int 0, .int 0, .int 0, .ref a_sb, .ref a_ss]))]) [0, 1, 2] rfl
  have hDc := hD.sub (ws' := [(h0, .inr (11, [.ref a_tp, .int 0, .ref a_rd, .ref a_wl, .ref a_st, .ref a_bf, .ref a_ps, .int 0, .int 0, .ref a_iw, .ref a_is, .ref a_tr, .ref a_rw, .ref a_or, .ref a_wy, .ref a_ct, .ref a_ch, .ref a_tn, .ref a_bt, .int (-1)])), (a_wl, .inr (9, [.int 0, .int 0, .int 0, .int 0, .int 0, .int 0, .ref a_wax, .ref a_way, .ref a_wai, .ref a_wal, .ref a_waw, .null, .int 0, .int 1])), (a_st, .inr (6, [.int 0, .int 0, .int 0, .int 0, .ref a_sb, .ref a_ss]))]) [0, 1, 2] (by decide) rfl
  refine k_i (wc := [(h0, .inr (11, [.ref a_tp, .int 0, .ref a_rd, .ref a_wl, .ref a_st, .ref a_bf, .ref a_ps, .int 0, .int 0, .ref a_iw, .ref a_is, .ref a_tr, .ref a_rw, .ref a_or, .ref a_wy, .ref a_ct, .ref a_ch, .ref a_tn, .ref a_bt, .int (-1)])), (a_wl, .inr (9, [.int 0, .int 0, .int 0, .int 0, .int 0, .int 0, .ref a_wax, .ref a_way, .ref a_wai, .ref a_wal, .ref a_waw, .null, .int 0, .int 1])), (a_st, .inr (6, [.int 0, .int 0, .int 0, .int 0, .ref a_sb, .ref a_ss]))]) (wr := []) hP hD hS hA [0, 1, 2] [] rfl rfl rfl (by decide) (r_V (n := 1) (As := [.int 0]) (ci := 11) (q0 := 0) hx hb hml hown hts hkb hPc hDc (c_thereOn l D cB cI cJ cZ cS cW cT cR h0 a_wl a_st a_tp a_rd a_bf a_ps a_iw a_is a_tr a_rw a_or a_wy a_ct a_ch a_tn a_bt a_wax a_way a_wai a_wal a_waw a_sb a_ss) kw_774 kw_776 ks_18 kw_1 kw_777 (by decide +kernel) ⟨Nat.le_of_ble_eq_true rfl, Nat.le_of_ble_eq_true rfl⟩ rfl rfl rfl rfl hl.1 (Nat.le_of_ble_eq_true rfl) dX11_whose_8 ⟨Nat.le_of_ble_eq_true rfl, Nat.le_of_ble_eq_true rfl⟩) (fun r_1 u H locs hw hP hD hS => ?_)
  obtain ⟨rfl, rfl⟩ := hw
  have hP : va_P D cls [(h0, .inr (11, [.ref a_tp, .int 0, .ref a_rd, .ref a_wl, .ref a_st, .ref a_bf, .ref a_ps, .int 0, .int 0, .ref a_iw, .ref a_is, .ref a_tr, .ref a_rw, .ref a_or, .ref a_wy, .ref a_ct, .ref a_ch, .ref a_tn, .ref a_bt, .int (-1)])), (a_wl, .inr (9, [.int 0, .int 0, .int 0, .int 0, .int 0, .int 0, .ref a_wax, .ref a_way, .ref a_wai, .ref a_wal, .ref a_waw, .null, .int 0, .int 1])), (a_st, .inr (6, [.int 0, .int 0, .int 0, .int 0, .ref a_sb, .ref a_ss]))] H := hP
  have hD : va_D A [(h0, .inr (11, [.ref a_tp, .int 0, .ref a_rd, .ref a_wl, .ref a_st, .ref a_bf, .ref a_ps, .int 0, .int 0, .ref a_iw, .ref a_is, .ref a_tr, .ref a_rw, .ref a_or, .ref a_wy, .ref a_ct, .ref a_ch, .ref a_tn, .ref a_bt, .int (-1)])), (a_wl, .inr (9, [.int 0, .int 0, .int 0, .int 0, .int 0, .int 0, .ref a_wax, .ref a_way, .ref a_wai, .ref a_wal, .ref a_waw, .null, .int 0, .int 1])), (a_st, .inr (6, [.int 0, .int 0, .int 0, .int 0, .ref a_sb, .ref a_ss]))] := hD
  refine W.widen (k := 0) (n := 0) (Nat.le_of_ble_eq_true rfl) (Nat.le_of_ble_eq_true rfl) ?_
  refine lv_istore_n (lv' := [(2, .int 0), (0, .ref h0), (1, .int i_0)]) hx hb dX11_whose_11 rfl hl (by decide) rfl (fun ls hl => ?_)
  refine lv_iload_n hx hb dX11_whose_12 rfl (lv_at hl 2 rfl) ?_
  refine lv_iload_n hx hb dX11_whose_13 rfl (lv_at hl 0 rfl) ?_
  refine lv_aload_n hx hb dX11_whose_14 rfl (lv_at hl 1 rfl) ?_
  refine va_get (D := D) (ci := 11) (v := .ref a_wl) (C := RX11) (T := TX11) (N := 20) hx hb hts uX11 hown hkb.1 hP 0 rfl rfl 3 (by decide) (hts _ kw_363) (fun _ h9 => h9) rfl dX11_whose_15 ?_
  have hPc := hP.sub (ws' := [(a_wl, .inr (9, [.int 0, .int 0, .int 0, .int 0, .int 0, .int 0, .ref a_wax, .ref a_way, .ref a_wai, .ref a_wal, .ref a_waw, .null, .int 0, .int 1]))]) [1] rfl
  have hDc := hD.sub (ws' := [(a_wl, .inr (9, [.int 0, .int 0, .int 0, .int 0, .int 0, .int 0, .ref a_wax, .ref a_way, .ref a_wai, .ref a_wal, .ref a_waw, .null, .int 0, .int 1]))]) [1] (by decide) rfl
  refine k_i (wc := [(a_wl, .inr (9, [.int 0, .int 0, .int 0, .int 0, .int 0, .int 0, .ref a_wax, .ref a_way, .ref a_wai, .ref a_wal, .ref a_waw, .null, .int 0, .int 1]))]) (wr := [(h0, .inr (11, [.ref a_tp, .int 0, .ref a_rd, .ref a_wl, .ref a_st, .ref a_bf, .ref a_ps, .int 0, .int 0, .ref a_iw, .ref a_is, .ref a_tr, .ref a_rw, .ref a_or, .ref a_wy, .ref a_ct, .ref a_ch, .ref a_tn, .ref a_bt, .int (-1)])), (a_st, .inr (6, [.int 0, .int 0, .int 0, .int 0, .ref a_sb, .ref a_ss]))]) hP hD hS hA [1] [0, 2] rfl rfl rfl (by decide) (r_V (n := 0) (As := []) (ci := 9) (q0 := 0) hx hb hml hown hts hkb hPc hDc (c_middles l D cB cI cJ cZ cS cW cT cR a_wl a_wax a_way a_wai a_wal a_waw) kw_892 kw_683 kw_684 kw_5 kw_685 (by decide +kernel) ⟨Nat.le_of_ble_eq_true rfl, Nat.le_of_ble_eq_true rfl⟩ rfl rfl rfl rfl hl.1 (Nat.le_of_ble_eq_true rfl) dX11_whose_18 ⟨Nat.le_of_ble_eq_true rfl, Nat.le_of_ble_eq_true rfl⟩) (fun r_2 u H locs hw hP hD hS => ?_)
  obtain ⟨rfl, rfl⟩ := hw
  have hP : va_P D cls [(h0, .inr (11, [.ref a_tp, .int 0, .ref a_rd, .ref a_wl, .ref a_st, .ref a_bf, .ref a_ps, .int 0, .int 0, .ref a_iw, .ref a_is, .ref a_tr, .ref a_rw, .ref a_or, .ref a_wy, .ref a_ct, .ref a_ch, .ref a_tn, .ref a_bt, .int (-1)])), (a_st, .inr (6, [.int 0, .int 0, .int 0, .int 0, .ref a_sb, .ref a_ss])), (a_wl, .inr (9, [.int 0, .int 0, .int 0, .int 0, .int 0, .int 0, .ref a_wax, .ref a_way, .ref a_wai, .ref a_wal, .ref a_waw, .null, .int 0, .int 1]))] H := hP
  have hD : va_D A [(h0, .inr (11, [.ref a_tp, .int 0, .ref a_rd, .ref a_wl, .ref a_st, .ref a_bf, .ref a_ps, .int 0, .int 0, .ref a_iw, .ref a_is, .ref a_tr, .ref a_rw, .ref a_or, .ref a_wy, .ref a_ct, .ref a_ch, .ref a_tn, .ref a_bt, .int (-1)])), (a_st, .inr (6, [.int 0, .int 0, .int 0, .int 0, .ref a_sb, .ref a_ss])), (a_wl, .inr (9, [.int 0, .int 0, .int 0, .int 0, .int 0, .int 0, .ref a_wax, .ref a_way, .ref a_wai, .ref a_wal, .ref a_waw, .null, .int 0, .int 1]))] := hD
  refine W.widen (k := 0) (n := 0) (Nat.le_of_ble_eq_true rfl) (Nat.le_of_ble_eq_true rfl) ?_
  refine lv_iand hx hb dX11_whose_21 ?_
  refine lv_topc (y := 0) (by decide +kernel) ?_
  refine lv_iconst (v := (-1)) hx hb dX11_whose_22 (by decide) ?_
  refine lv_ixor hx hb dX11_whose_23 ?_
  refine lv_topc (y := (-1)) (by decide +kernel) ?_
  refine lv_iand hx hb dX11_whose_24 ?_
  refine lv_topc (y := i_0) (and_m1 _) ?_
  refine lv_if_eq (tgt := 31) hx hb dX11_whose_25 (by decide) (fun c_3 => ?_) (fun c_3 => ?_)
  · skip
    have tc_3 := f_eq (k := 0) (by decide) c_3
    refine lv_iconst (v := 0) hx hb dX11_whose_31 (by decide) ?_
    refine lv_istore_n (lv' := [(3, .int 0), (2, .int 0), (0, .ref h0), (1, .int i_0)]) hx hb dX11_whose_32 rfl hl (by decide) rfl (fun ls hl => ?_)
    refine lv_iconst (v := 0) hx hb dX11_whose_33 (by decide) ?_
    refine lv_istore (lv' := [(4, .int 0), (3, .int 0), (2, .int 0), (0, .ref h0), (1, .int i_0)]) hx hb dX11_whose_34 hl (by decide) rfl (fun ls hl => ?_)
    refine lv_iload hx hb dX11_whose_36 (lv_at hl 0 rfl) ?_
    refine lv_aload_n hx hb dX11_whose_38 rfl (lv_at hl 3 rfl) ?_
    refine va_get (D := D) (ci := 11) (v := .ref a_wl) (C := RX11) (T := TX11) (N := 20) hx hb hts uX11 hown hkb.1 hP 0 rfl rfl 3 (by decide) (hts _ kw_363) (fun _ h9 => h9) rfl dX11_whose_39 ?_
    refine va_get (D := D) (ci := 9) (v := .int 0) (C := RX9) (T := TX9) (N := 14) hx hb hts uX9 hown hkb.1 hP 2 rfl rfl 1 (by decide) (hts _ kw_112) (fun _ h9 => h9) rfl dX11_whose_42 ?_
    refine lv_icmp_ge (tgt := 80) hx hb dX11_whose_45 (by decide) (fun _ => ?_) (fun c_4 => absurd c_4 (by decide))
    refine lv_iload_n hx hb dX11_whose_80 rfl (lv_at hl 1 rfl) ?_
    refine W.widen (k := 0) (n := 0) (Nat.le_of_ble_eq_true rfl) (Nat.le_of_ble_eq_true rfl) ?_
    exact e_i (u := []) hx hb hr hlocks (hP.sub (ws' := []) [] rfl) (hD.sub (ws' := []) [] (by decide) rfl) hS ⟨(by unfold F_whose; (repeat' split) <;> first | rfl | (exfalso; omega)), rfl⟩ dX11_whose_81
  · skip
    have tc_3 := f_ne (k := 0) (by decide) c_3
    refine lv_bipush (v := (-3)) hx hb dX11_whose_28 (by decide) ?_
    refine W.widen (k := 0) (n := 0) (Nat.le_of_ble_eq_true rfl) (Nat.le_of_ble_eq_true rfl) ?_
    exact e_i (u := []) hx hb hr hlocks (hP.sub (ws' := []) [] rfl) (hD.sub (ws' := []) [] (by decide) rfl) hS ⟨(by unfold F_whose; (repeat' split) <;> first | rfl | (exfalso; omega)), rfl⟩ dX11_whose_30
set_option maxHeartbeats 4000000 in
set_option maxRecDepth 100000 in
theorem x_count (l : Launch) (D : va_G) (cB cI cJ cZ cS cW cT cR : ClassId) (h0 : Nat) (a_wl : Nat) (a_st : Nat) (i_0 : Int32) (a_tp : Nat) (a_rd : Nat) (a_bf : Nat) (a_ps : Nat) (a_iw : Nat) (a_is : Nat) (a_tr : Nat) (a_rw : Nat) (a_or : Nat) (a_wy : Nat) (a_ct : Nat) (a_ch : Nat) (a_tn : Nat) (a_bt : Nat) (a_wax : Nat) (a_way : Nat) (a_wai : Nat) (a_wal : Nat) (a_waw : Nat) (a_sb : Nat) (a_ss : Nat) : Kon l D (tyl cB cI cJ cZ cS cW cT cR) yX11_count cX11_count 2 (some (.int)) { frames := 4, cells := 0, slots := 0, locals := 85 } [.ref h0, .int i_0] [(h0, .inr (11, [.ref a_tp, .int 0, .ref a_rd, .ref a_wl, .ref a_st, .ref a_bf, .ref a_ps, .int 0, .int 0, .ref a_iw, .ref a_is, .ref a_tr, .ref a_rw, .ref a_or, .ref a_wy, .ref a_ct, .ref a_ch, .ref a_tn, .ref a_bt, .int (-1)])), (a_wl, .inr (9, [.int 0, .int 0, .int 0, .int 0, .int 0, .int 0, .ref a_wax, .ref a_way, .ref a_wai, .ref a_wal, .ref a_waw, .null, .int 0, .int 1])), (a_st, .inr (6, [.int 0, .int 0, .int 0, .int 0, .ref a_sb, .ref a_ss]))] (Qi D (fun r u => r = F_count i_0 ∧ u = [])) := by
  refine kon_of (by decide) (Nat.le_of_ble_eq_true rfl) (fun p e s m below meth c ls A hx hb hr hml hown hts hlocks hnm hkb hP hD hS hA hl => ?_)
  have hown : s.vm.findClass RX11 = some m.cls := hown
  have hl : lv_has ls 2 [(0, .ref h0), (1, .int i_0)] := hl
  have hP : va_P D cls [(h0, .inr (11, [.ref a_tp, .int 0, .ref a_rd, .ref a_wl, .ref a_st, .ref a_bf, .ref a_ps, .int 0, .int 0, .ref a_iw, .ref a_is, .ref a_tr, .ref a_rw, .ref a_or, .ref a_wy, .ref a_ct, .ref a_ch, .ref a_tn, .ref a_bt, .int (-1)])), (a_wl, .inr (9, [.int 0, .int 0, .int 0, .int 0, .int 0, .int 0, .ref a_wax, .ref a_way, .ref a_wai, .ref a_wal, .ref a_waw, .null, .int 0, .int 1])), (a_st, .inr (6, [.int 0, .int 0, .int 0, .int 0, .ref a_sb, .ref a_ss]))] s.heap := hP
  refine lv_iload_n hx hb dX11_count_0 rfl (lv_at hl 1 rfl) ?_
  by_cases c_1 : i_0 = 0
  · skip
    refine lv_topc c_1 ?_
    have tc_1 := f_eq (k := 0) (by decide) c_1
    refine lv_tableIn (off := 55) (tgt := 56) hx hb dX11_count_1 (by decide) (by decide) (by decide) (by decide) ?_
    refine lv_aload_n hx hb dX11_count_56 rfl (lv_at hl 0 rfl) ?_
    refine va_get (D := D) (ci := 11) (v := .ref a_wl) (C := RX11) (T := TX11) (N := 20) hx hb hts uX11 hown hkb.1 hP 0 rfl rfl 3 (by decide) (hts _ kw_363) (fun _ h9 => h9) rfl dX11_count_57 ?_
    refine va_get (D := D) (ci := 9) (v := .int 0) (C := RX9) (T := TX9) (N := 14) hx hb hts uX9 hown hkb.1 hP 1 rfl rfl 0 (by decide) (hts _ kw_109) (fun _ h9 => h9) rfl dX11_count_60 ?_
    refine W.widen (k := 0) (n := 0) (Nat.le_of_ble_eq_true rfl) (Nat.le_of_ble_eq_true rfl) ?_
    exact e_i (u := []) hx hb hr hlocks (hP.sub (ws' := []) [] rfl) (hD.sub (ws' := []) [] (by decide) rfl) hS ⟨(by unfold F_count; (repeat' split) <;> first | rfl | (exfalso; omega)), rfl⟩ dX11_count_63
  have tc_1 := f_ne (k := 0) (by decide) c_1
  by_cases c_2 : i_0 = 1
  · skip
    refine lv_topc c_2 ?_
    have tc_2 := f_eq (k := 1) (by decide) c_2
    refine lv_tableIn (off := 63) (tgt := 64) hx hb dX11_count_1 (by decide) (by decide) (by decide) (by decide) ?_
    refine lv_aload_n hx hb dX11_count_64 rfl (lv_at hl 0 rfl) ?_
    refine va_get (D := D) (ci := 11) (v := .ref a_wl) (C := RX11) (T := TX11) (N := 20) hx hb hts uX11 hown hkb.1 hP 0 rfl rfl 3 (by decide) (hts _ kw_363) (fun _ h9 => h9) rfl dX11_count_65 ?_
    refine va_get (D := D) (ci := 9) (v := .int 0) (C := RX9) (T := TX9) (N := 14) hx hb hts uX9 hown hkb.1 hP 1 rfl rfl 1 (by decide) (hts _ kw_112) (fun _ h9 => h9) rfl dX11_count_68 ?_
    refine W.widen (k := 0) (n := 0) (Nat.le_of_ble_eq_true rfl) (Nat.le_of_ble_eq_true rfl) ?_
    exact e_i (u := []) hx hb hr hlocks (hP.sub (ws' := []) [] rfl) (hD.sub (ws' := []) [] (by decide) rfl) hS ⟨(by unfold F_count; (repeat' split) <;> first | rfl | (exfalso; omega)), rfl⟩ dX11_count_71
  have tc_2 := f_ne (k := 1) (by decide) c_2
  by_cases c_3 : i_0 = 2
  · skip
    refine lv_topc c_3 ?_
    have tc_3 := f_eq (k := 2) (by decide) c_3
    refine lv_tableIn (off := 71) (tgt := 72) hx hb dX11_count_1 (by decide) (by decide) (by decide) (by decide) ?_
    refine lv_aload_n hx hb dX11_count_72 rfl (lv_at hl 0 rfl) ?_
    refine va_get (D := D) (ci := 11) (v := .ref a_st) (C := RX11) (T := TX11) (N := 20) hx hb hts uX11 hown hkb.1 hP 0 rfl rfl 4 (by decide) (hts _ kw_364) (fun _ h9 => h9) rfl dX11_count_73 ?_
    refine va_get (D := D) (ci := 6) (v := .int 0) (C := RX6) (T := TX6) (N := 6) hx hb hts uX6 hown hkb.1 hP 2 rfl rfl 2 (by decide) (hts _ kw_191) (fun _ h9 => h9) rfl dX11_count_76 ?_
    refine W.widen (k := 0) (n := 0) (Nat.le_of_ble_eq_true rfl) (Nat.le_of_ble_eq_true rfl) ?_
    exact e_i (u := []) hx hb hr hlocks (hP.sub (ws' := []) [] rfl) (hD.sub (ws' := []) [] (by decide) rfl) hS ⟨(by unfold F_count; (repeat' split) <;> first | rfl | (exfalso; omega)), rfl⟩ dX11_count_79
  have tc_3 := f_ne (k := 2) (by decide) c_3
  by_cases c_4 : i_0 = 3
  · skip
    refine lv_topc c_4 ?_
    have tc_4 := f_eq (k := 3) (by decide) c_4
    refine lv_tableIn (off := 79) (tgt := 80) hx hb dX11_count_1 (by decide) (by decide) (by decide) (by decide) ?_
    refine lv_aload_n hx hb dX11_count_80 rfl (lv_at hl 0 rfl) ?_
    refine va_get (D := D) (ci := 11) (v := .ref a_st) (C := RX11) (T := TX11) (N := 20) hx hb hts uX11 hown hkb.1 hP 0 rfl rfl 4 (by decide) (hts _ kw_364) (fun _ h9 => h9) rfl dX11_count_81 ?_
    refine va_get (D := D) (ci := 6) (v := .int 0) (C := RX6) (T := TX6) (N := 6) hx hb hts uX6 hown hkb.1 hP 2 rfl rfl 3 (by decide) (hts _ kw_193) (fun _ h9 => h9) rfl dX11_count_84 ?_
    refine W.widen (k := 0) (n := 0) (Nat.le_of_ble_eq_true rfl) (Nat.le_of_ble_eq_true rfl) ?_
    exact e_i (u := []) hx hb hr hlocks (hP.sub (ws' := []) [] rfl) (hD.sub (ws' := []) [] (by decide) rfl) hS ⟨(by unfold F_count; (repeat' split) <;> first | rfl | (exfalso; omega)), rfl⟩ dX11_count_87
  have tc_4 := f_ne (k := 3) (by decide) c_4
  by_cases c_5 : i_0 = 4
  · skip
    refine lv_topc c_5 ?_
    have tc_5 := f_eq (k := 4) (by decide) c_5
    refine lv_tableIn (off := 87) (tgt := 88) hx hb dX11_count_1 (by decide) (by decide) (by decide) (by decide) ?_
    refine lv_aload_n hx hb dX11_count_88 rfl (lv_at hl 0 rfl) ?_
    refine va_get (D := D) (ci := 11) (v := .ref a_st) (C := RX11) (T := TX11) (N := 20) hx hb hts uX11 hown hkb.1 hP 0 rfl rfl 4 (by decide) (hts _ kw_364) (fun _ h9 => h9) rfl dX11_count_89 ?_
    refine va_get (D := D) (ci := 6) (v := .int 0) (C := RX6) (T := TX6) (N := 6) hx hb hts uX6 hown hkb.1 hP 2 rfl rfl 0 (by decide) (hts _ kw_186) (fun _ h9 => h9) rfl dX11_count_92 ?_
    have hPc := hP.sub (ws' := []) [] rfl
    have hDc := hD.sub (ws' := []) [] (by decide) rfl
    refine k_i (wc := []) (wr := [(h0, .inr (11, [.ref a_tp, .int 0, .ref a_rd, .ref a_wl, .ref a_st, .ref a_bf, .ref a_ps, .int 0, .int 0, .ref a_iw, .ref a_is, .ref a_tr, .ref a_rw, .ref a_or, .ref a_wy, .ref a_ct, .ref a_ch, .ref a_tn, .ref a_bt, .int (-1)])), (a_wl, .inr (9, [.int 0, .int 0, .int 0, .int 0, .int 0, .int 0, .ref a_wax, .ref a_way, .ref a_wai, .ref a_wal, .ref a_waw, .null, .int 0, .int 1])), (a_st, .inr (6, [.int 0, .int 0, .int 0, .int 0, .ref a_sb, .ref a_ss]))]) hP hD hS hA [] [0, 1, 2] rfl rfl rfl (by decide) (r_S (n := 1) (As := [.int 0]) hx hb hml hown hts hkb hPc hDc (c_bitCount0 l D cB cI cJ cZ cS cW cT cR) kw_893 kw_692 kw_20 kw_693 (by decide +kernel) ⟨Nat.le_of_ble_eq_true rfl, Nat.le_of_ble_eq_true rfl⟩ rfl rfl hl.1 (Nat.le_of_ble_eq_true rfl) dX11_count_95 ⟨Nat.le_of_ble_eq_true rfl, Nat.le_of_ble_eq_true rfl⟩) (fun r_6 u H locs hw hP hD hS => ?_)
    obtain ⟨rfl, rfl⟩ := hw
    have hP : va_P D cls [(h0, .inr (11, [.ref a_tp, .int 0, .ref a_rd, .ref a_wl, .ref a_st, .ref a_bf, .ref a_ps, .int 0, .int 0, .ref a_iw, .ref a_is, .ref a_tr, .ref a_rw, .ref a_or, .ref a_wy, .ref a_ct, .ref a_ch, .ref a_tn, .ref a_bt, .int (-1)])), (a_wl, .inr (9, [.int 0, .int 0, .int 0, .int 0, .int 0, .int 0, .ref a_wax, .ref a_way, .ref a_wai, .ref a_wal, .ref a_waw, .null, .int 0, .int 1])), (a_st, .inr (6, [.int 0, .int 0, .int 0, .int 0, .ref a_sb, .ref a_ss]))] H := hP
    have hD : va_D A [(h0, .inr (11, [.ref a_tp, .int 0, .ref a_rd, .ref a_wl, .ref a_st, .ref a_bf, .ref a_ps, .int 0, .int 0, .ref a_iw, .ref a_is, .ref a_tr, .ref a_rw, .ref a_or, .ref a_wy, .ref a_ct, .ref a_ch, .ref a_tn, .ref a_bt, .int (-1)])), (a_wl, .inr (9, [.int 0, .int 0, .int 0, .int 0, .int 0, .int 0, .ref a_wax, .ref a_way, .ref a_wai, .ref a_wal, .ref a_waw, .null, .int 0, .int 1])), (a_st, .inr (6, [.int 0, .int 0, .int 0, .int 0, .ref a_sb, .ref a_ss]))] := hD
    refine W.widen (k := 0) (n := 0) (Nat.le_of_ble_eq_true rfl) (Nat.le_of_ble_eq_true rfl) ?_
    refine W.widen (k := 0) (n := 0) (Nat.le_of_ble_eq_true rfl) (Nat.le_of_ble_eq_true rfl) ?_
    exact e_i (u := []) hx hb hr hlocks (hP.sub (ws' := []) [] rfl) (hD.sub (ws' := []) [] (by decide) rfl) hS ⟨(by unfold F_count; (repeat' split) <;> first | rfl | (exfalso; omega)), rfl⟩ dX11_count_98
  have tc_5 := f_ne (k := 4) (by decide) c_5
  by_cases c_7 : i_0 = 5
  · skip
    refine lv_topc c_7 ?_
    have tc_7 := f_eq (k := 5) (by decide) c_7
    refine lv_tableIn (off := 98) (tgt := 99) hx hb dX11_count_1 (by decide) (by decide) (by decide) (by decide) ?_
    refine lv_aload_n hx hb dX11_count_99 rfl (lv_at hl 0 rfl) ?_
    have hPc := hP.sub (ws' := [(h0, .inr (11, [.ref a_tp, .int 0, .ref a_rd, .ref a_wl, .ref a_st, .ref a_bf, .ref a_ps, .int 0, .int 0, .ref a_iw, .ref a_is, .ref a_tr, .ref a_rw, .ref a_or, .ref a_wy, .ref a_ct, .ref a_ch, .ref a_tn, .ref a_bt, .int (-1)])), (a_wl, .inr (9, [.int 0, .int 0, .int 0, .int 0, .int 0, .int 0, .ref a_wax, .ref a_way, .ref a_wai, .ref a_wal, .ref a_waw, .null, .int 0, .int 1])), (a_st, .inr (6, [.int 0, .int 0, .int 0, .int 0, .ref a_sb, .ref a_ss]))]) [0, 1, 2] rfl
    have hDc := hD.sub (ws' := [(h0, .inr (11, [.ref a_tp, .int 0, .ref a_rd, .ref a_wl, .ref a_st, .ref a_bf, .ref a_ps, .int 0, .int 0, .ref a_iw, .ref a_is, .ref a_tr, .ref a_rw, .ref a_or, .ref a_wy, .ref a_ct, .ref a_ch, .ref a_tn, .ref a_bt, .int (-1)])), (a_wl, .inr (9, [.int 0, .int 0, .int 0, .int 0, .int 0, .int 0, .ref a_wax, .ref a_way, .ref a_wai, .ref a_wal, .ref a_waw, .null, .int 0, .int 1])), (a_st, .inr (6, [.int 0, .int 0, .int 0, .int 0, .ref a_sb, .ref a_ss]))]) [0, 1, 2] (by decide) rfl
    refine k_i (wc := [(h0, .inr (11, [.ref a_tp, .int 0, .ref a_rd, .ref a_wl, .ref a_st, .ref a_bf, .ref a_ps, .int 0, .int 0, .ref a_iw, .ref a_is, .ref a_tr, .ref a_rw, .ref a_or, .ref a_wy, .ref a_ct, .ref a_ch, .ref a_tn, .ref a_bt, .int (-1)])), (a_wl, .inr (9, [.int 0, .int 0, .int 0, .int 0, .int 0, .int 0, .ref a_wax, .ref a_way, .ref a_wai, .ref a_wal, .ref a_waw, .null, .int 0, .int 1])), (a_st, .inr (6, [.int 0, .int 0, .int 0, .int 0, .ref a_sb, .ref a_ss]))]) (wr := []) hP hD hS hA [0, 1, 2] [] rfl rfl rfl (by decide) (r_V (n := 0) (As := []) (ci := 11) (q0 := 0) hx hb hml hown hts hkb hPc hDc (c_openNow l D cB cI cJ cZ cS cW cT cR h0 a_wl a_st a_tp a_rd a_bf a_ps a_iw a_is a_tr a_rw a_or a_wy a_ct a_ch a_tn a_bt a_wax a_way a_wai a_wal a_waw a_sb a_ss) kw_846 kw_848 ks_22 kw_1 kw_849 (by decide +kernel) ⟨Nat.le_of_ble_eq_true rfl, Nat.le_of_ble_eq_true rfl⟩ rfl rfl rfl rfl hl.1 (Nat.le_of_ble_eq_true rfl) dX11_count_100 ⟨Nat.le_of_ble_eq_true rfl, Nat.le_of_ble_eq_true rfl⟩) (fun r_8 u H locs hw hP hD hS => ?_)
    obtain ⟨rfl, rfl⟩ := hw
    have hP : va_P D cls [(h0, .inr (11, [.ref a_tp, .int 0, .ref a_rd, .ref a_wl, .ref a_st, .ref a_bf, .ref a_ps, .int 0, .int 0, .ref a_iw, .ref a_is, .ref a_tr, .ref a_rw, .ref a_or, .ref a_wy, .ref a_ct, .ref a_ch, .ref a_tn, .ref a_bt, .int (-1)])), (a_wl, .inr (9, [.int 0, .int 0, .int 0, .int 0, .int 0, .int 0, .ref a_wax, .ref a_way, .ref a_wai, .ref a_wal, .ref a_waw, .null, .int 0, .int 1])), (a_st, .inr (6, [.int 0, .int 0, .int 0, .int 0, .ref a_sb, .ref a_ss]))] H := hP
    have hD : va_D A [(h0, .inr (11, [.ref a_tp, .int 0, .ref a_rd, .ref a_wl, .ref a_st, .ref a_bf, .ref a_ps, .int 0, .int 0, .ref a_iw, .ref a_is, .ref a_tr, .ref a_rw, .ref a_or, .ref a_wy, .ref a_ct, .ref a_ch, .ref a_tn, .ref a_bt, .int (-1)])), (a_wl, .inr (9, [.int 0, .int 0, .int 0, .int 0, .int 0, .int 0, .ref a_wax, .ref a_way, .ref a_wai, .ref a_wal, .ref a_waw, .null, .int 0, .int 1])), (a_st, .inr (6, [.int 0, .int 0, .int 0, .int 0, .ref a_sb, .ref a_ss]))] := hD
    refine W.widen (k := 0) (n := 0) (Nat.le_of_ble_eq_true rfl) (Nat.le_of_ble_eq_true rfl) ?_
    have hPc := hP.sub (ws' := []) [] rfl
    have hDc := hD.sub (ws' := []) [] (by decide) rfl
    refine k_i (wc := []) (wr := [(h0, .inr (11, [.ref a_tp, .int 0, .ref a_rd, .ref a_wl, .ref a_st, .ref a_bf, .ref a_ps, .int 0, .int 0, .ref a_iw, .ref a_is, .ref a_tr, .ref a_rw, .ref a_or, .ref a_wy, .ref a_ct, .ref a_ch, .ref a_tn, .ref a_bt, .int (-1)])), (a_wl, .inr (9, [.int 0, .int 0, .int 0, .int 0, .int 0, .int 0, .ref a_wax, .ref a_way, .ref a_wai, .ref a_wal, .ref a_waw, .null, .int 0, .int 1])), (a_st, .inr (6, [.int 0, .int 0, .int 0, .int 0, .ref a_sb, .ref a_ss]))]) hP hD hS hA [] [0, 1, 2] rfl rfl rfl (by decide) (r_S (n := 1) (As := [.int 0]) hx hb hml hown hts hkb hPc hDc (c_bitCount0 l D cB cI cJ cZ cS cW cT cR) kw_893 kw_692 kw_20 kw_693 (by decide +kernel) ⟨Nat.le_of_ble_eq_true rfl, Nat.le_of_ble_eq_true rfl⟩ rfl rfl hl.1 (Nat.le_of_ble_eq_true rfl) dX11_count_103 ⟨Nat.le_of_ble_eq_true rfl, Nat.le_of_ble_eq_true rfl⟩) (fun r_9 u H locs hw hP hD hS => ?_)
    obtain ⟨rfl, rfl⟩ := hw
    have hP : va_P D cls [(h0, .inr (11, [.ref a_tp, .int 0, .ref a_rd, .ref a_wl, .ref a_st, .ref a_bf, .ref a_ps, .int 0, .int 0, .ref a_iw, .ref a_is, .ref a_tr, .ref a_rw, .ref a_or, .ref a_wy, .ref a_ct, .ref a_ch, .ref a_tn, .ref a_bt, .int (-1)])), (a_wl, .inr (9, [.int 0, .int 0, .int 0, .int 0, .int 0, .int 0, .ref a_wax, .ref a_way, .ref a_wai, .ref a_wal, .ref a_waw, .null, .int 0, .int 1])), (a_st, .inr (6, [.int 0, .int 0, .int 0, .int 0, .ref a_sb, .ref a_ss]))] H := hP
    have hD : va_D A [(h0, .inr (11, [.ref a_tp, .int 0, .ref a_rd, .ref a_wl, .ref a_st, .ref a_bf, .ref a_ps, .int 0, .int 0, .ref a_iw, .ref a_is, .ref a_tr, .ref a_rw, .ref a_or, .ref a_wy, .ref a_ct, .ref a_ch, .ref a_tn, .ref a_bt, .int (-1)])), (a_wl, .inr (9, [.int 0, .int 0, .int 0, .int 0, .int 0, .int 0, .ref a_wax, .ref a_way, .ref a_wai, .ref a_wal, .ref a_waw, .null, .int 0, .int 1])), (a_st, .inr (6, [.int 0, .int 0, .int 0, .int 0, .ref a_sb, .ref a_ss]))] := hD
    refine W.widen (k := 0) (n := 0) (Nat.le_of_ble_eq_true rfl) (Nat.le_of_ble_eq_true rfl) ?_
    refine W.widen (k := 0) (n := 0) (Nat.le_of_ble_eq_true rfl) (Nat.le_of_ble_eq_true rfl) ?_
    exact e_i (u := []) hx hb hr hlocks (hP.sub (ws' := []) [] rfl) (hD.sub (ws' := []) [] (by decide) rfl) hS ⟨(by unfold F_count; (repeat' split) <;> first | rfl | (exfalso; omega)), rfl⟩ dX11_count_106
  have tc_7 := f_ne (k := 5) (by decide) c_7
  by_cases c_10 : i_0 = 6
  · skip
    refine lv_topc c_10 ?_
    have tc_10 := f_eq (k := 6) (by decide) c_10
    refine lv_tableIn (off := 106) (tgt := 107) hx hb dX11_count_1 (by decide) (by decide) (by decide) (by decide) ?_
    refine lv_aload_n hx hb dX11_count_107 rfl (lv_at hl 0 rfl) ?_
    refine va_get (D := D) (ci := 11) (v := .int 0) (C := RX11) (T := TX11) (N := 20) hx hb hts uX11 hown hkb.1 hP 0 rfl rfl 7 (by decide) (hts _ kw_367) (fun _ h9 => h9) rfl dX11_count_108 ?_
    refine W.widen (k := 0) (n := 0) (Nat.le_of_ble_eq_true rfl) (Nat.le_of_ble_eq_true rfl) ?_
    exact e_i (u := []) hx hb hr hlocks (hP.sub (ws' := []) [] rfl) (hD.sub (ws' := []) [] (by decide) rfl) hS ⟨(by unfold F_count; (repeat' split) <;> first | rfl | (exfalso; omega)), rfl⟩ dX11_count_111
  have tc_10 := f_ne (k := 6) (by decide) c_10
  by_cases c_11 : i_0 = 7
  · skip
    refine lv_topc c_11 ?_
    have tc_11 := f_eq (k := 7) (by decide) c_11
    refine lv_tableIn (off := 111) (tgt := 112) hx hb dX11_count_1 (by decide) (by decide) (by decide) (by decide) ?_
    refine lv_aload_n hx hb dX11_count_112 rfl (lv_at hl 0 rfl) ?_
    refine va_get (D := D) (ci := 11) (v := .int 0) (C := RX11) (T := TX11) (N := 20) hx hb hts uX11 hown hkb.1 hP 0 rfl rfl 1 (by decide) (hts _ kw_361) (fun _ h9 => h9) rfl dX11_count_113 ?_
    refine W.widen (k := 0) (n := 0) (Nat.le_of_ble_eq_true rfl) (Nat.le_of_ble_eq_true rfl) ?_
    exact e_i (u := []) hx hb hr hlocks (hP.sub (ws' := []) [] rfl) (hD.sub (ws' := []) [] (by decide) rfl) hS ⟨(by unfold F_count; (repeat' split) <;> first | rfl | (exfalso; omega)), rfl⟩ dX11_count_116
  have tc_11 := f_ne (k := 7) (by decide) c_11
  by_cases c_12 : i_0 = 8
  · skip
    refine lv_topc c_12 ?_
    have tc_12 := f_eq (k := 8) (by decide) c_12
    refine lv_tableIn (off := 116) (tgt := 117) hx hb dX11_count_1 (by decide) (by decide) (by decide) (by decide) ?_
    refine lv_aload_n hx hb dX11_count_117 rfl (lv_at hl 0 rfl) ?_
    refine va_get (D := D) (ci := 11) (v := .ref a_wl) (C := RX11) (T := TX11) (N := 20) hx hb hts uX11 hown hkb.1 hP 0 rfl rfl 3 (by decide) (hts _ kw_363) (fun _ h9 => h9) rfl dX11_count_118 ?_
    refine va_get (D := D) (ci := 9) (v := .int 0) (C := RX9) (T := TX9) (N := 14) hx hb hts uX9 hown hkb.1 hP 1 rfl rfl 2 (by decide) (hts _ kw_115) (fun _ h9 => h9) rfl dX11_count_121 ?_
    refine W.widen (k := 0) (n := 0) (Nat.le_of_ble_eq_true rfl) (Nat.le_of_ble_eq_true rfl) ?_
    exact e_i (u := []) hx hb hr hlocks (hP.sub (ws' := []) [] rfl) (hD.sub (ws' := []) [] (by decide) rfl) hS ⟨(by unfold F_count; (repeat' split) <;> first | rfl | (exfalso; omega)), rfl⟩ dX11_count_124
  have tc_12 := f_ne (k := 8) (by decide) c_12
  by_cases c_13 : i_0 = 9
  · skip
    refine lv_topc c_13 ?_
    have tc_13 := f_eq (k := 9) (by decide) c_13
    refine lv_tableIn (off := 124) (tgt := 125) hx hb dX11_count_1 (by decide) (by decide) (by decide) (by decide) ?_
    refine lv_aload_n hx hb dX11_count_125 rfl (lv_at hl 0 rfl) ?_
    refine va_get (D := D) (ci := 11) (v := .ref a_st) (C := RX11) (T := TX11) (N := 20) hx hb hts uX11 hown hkb.1 hP 0 rfl rfl 4 (by decide) (hts _ kw_364) (fun _ h9 => h9) rfl dX11_count_126 ?_
    refine va_get (D := D) (ci := 6) (v := .int 0) (C := RX6) (T := TX6) (N := 6) hx hb hts uX6 hown hkb.1 hP 2 rfl rfl 1 (by decide) (hts _ kw_188) (fun _ h9 => h9) rfl dX11_count_129 ?_
    have hPc := hP.sub (ws' := []) [] rfl
    have hDc := hD.sub (ws' := []) [] (by decide) rfl
    refine k_i (wc := []) (wr := [(h0, .inr (11, [.ref a_tp, .int 0, .ref a_rd, .ref a_wl, .ref a_st, .ref a_bf, .ref a_ps, .int 0, .int 0, .ref a_iw, .ref a_is, .ref a_tr, .ref a_rw, .ref a_or, .ref a_wy, .ref a_ct, .ref a_ch, .ref a_tn, .ref a_bt, .int (-1)])), (a_wl, .inr (9, [.int 0, .int 0, .int 0, .int 0, .int 0, .int 0, .ref a_wax, .ref a_way, .ref a_wai, .ref a_wal, .ref a_waw, .null, .int 0, .int 1])), (a_st, .inr (6, [.int 0, .int 0, .int 0, .int 0, .ref a_sb, .ref a_ss]))]) hP hD hS hA [] [0, 1, 2] rfl rfl rfl (by decide) (r_S (n := 1) (As := [.int 0]) hx hb hml hown hts hkb hPc hDc (c_bitCount0 l D cB cI cJ cZ cS cW cT cR) kw_893 kw_692 kw_20 kw_693 (by decide +kernel) ⟨Nat.le_of_ble_eq_true rfl, Nat.le_of_ble_eq_true rfl⟩ rfl rfl hl.1 (Nat.le_of_ble_eq_true rfl) dX11_count_132 ⟨Nat.le_of_ble_eq_true rfl, Nat.le_of_ble_eq_true rfl⟩) (fun r_14 u H locs hw hP hD hS => ?_)
    obtain ⟨rfl, rfl⟩ := hw
    have hP : va_P D cls [(h0, .inr (11, [.ref a_tp, .int 0, .ref a_rd, .ref a_wl, .ref a_st, .ref a_bf, .ref a_ps, .int 0, .int 0, .ref a_iw, .ref a_is, .ref a_tr, .ref a_rw, .ref a_or, .ref a_wy, .ref a_ct, .ref a_ch, .ref a_tn, .ref a_bt, .int (-1)])), (a_wl, .inr (9, [.int 0, .int 0, .int 0, .int 0, .int 0, .int 0, .ref a_wax, .ref a_way, .ref a_wai, .ref a_wal, .ref a_waw, .null, .int 0, .int 1])), (a_st, .inr (6, [.int 0, .int 0, .int 0, .int 0, .ref a_sb, .ref a_ss]))] H := hP
    have hD : va_D A [(h0, .inr (11, [.ref a_tp, .int 0, .ref a_rd, .ref a_wl, .ref a_st, .ref a_bf, .ref a_ps, .int 0, .int 0, .ref a_iw, .ref a_is, .ref a_tr, .ref a_rw, .ref a_or, .ref a_wy, .ref a_ct, .ref a_ch, .ref a_tn, .ref a_bt, .int (-1)])), (a_wl, .inr (9, [.int 0, .int 0, .int 0, .int 0, .int 0, .int 0, .ref a_wax, .ref a_way, .ref a_wai, .ref a_wal, .ref a_waw, .null, .int 0, .int 1])), (a_st, .inr (6, [.int 0, .int 0, .int 0, .int 0, .ref a_sb, .ref a_ss]))] := hD
    refine W.widen (k := 0) (n := 0) (Nat.le_of_ble_eq_true rfl) (Nat.le_of_ble_eq_true rfl) ?_
    refine W.widen (k := 0) (n := 0) (Nat.le_of_ble_eq_true rfl) (Nat.le_of_ble_eq_true rfl) ?_
    exact e_i (u := []) hx hb hr hlocks (hP.sub (ws' := []) [] rfl) (hD.sub (ws' := []) [] (by decide) rfl) hS ⟨(by unfold F_count; (repeat' split) <;> first | rfl | (exfalso; omega)), rfl⟩ dX11_count_135
  have tc_13 := f_ne (k := 9) (by decide) c_13
  refine lv_tableOut (tgt := 136) hx hb dX11_count_1 (by omega) (by decide) ?_
  refine lv_iconst (v := (-1)) hx hb dX11_count_136 (by decide) ?_
  refine W.widen (k := 0) (n := 0) (Nat.le_of_ble_eq_true rfl) (Nat.le_of_ble_eq_true rfl) ?_
  exact e_i (u := []) hx hb hr hlocks (hP.sub (ws' := []) [] rfl) (hD.sub (ws' := []) [] (by decide) rfl) hS ⟨(by unfold F_count; (repeat' split) <;> first | rfl | (exfalso; omega)), rfl⟩ dX11_count_137
set_option maxHeartbeats 4000000 in
set_option maxRecDepth 100000 in
theorem c_takeTurns (l : Launch) (D : va_G) (cB cI cJ cZ cS cW cT cR : ClassId) (h0 : Nat) (a_tn : Nat) (a_bt : Nat) (a_tp : Nat) (a_rd : Nat) (a_wl : Nat) (a_st : Nat) (a_bf : Nat) (a_ps : Nat) (a_iw : Nat) (a_is : Nat) (a_tr : Nat) (a_rw : Nat) (a_or : Nat) (a_wy : Nat) (a_ct : Nat) (a_ch : Nat) (f_tn : Nat → Int32) (f_bt : Nat → Int32) : Kon l D (tyl cB cI cJ cZ cS cW cT cR) yX11_takeTurns cX11_takeTurns 8 none { frames := 1, cells := 0, slots := 0, locals := 60 } [.ref h0, .int 0, .int 0, .int 0, .int 0] [(h0, .inr (11, [.ref a_tp, .int 0, .ref a_rd, .ref a_wl, .ref a_st, .ref a_bf, .ref a_ps, .int 0, .int 0, .ref a_iw, .ref a_is, .ref a_tr, .ref a_rw, .ref a_or, .ref a_wy, .ref a_ct, .ref a_ch, .ref a_tn, .ref a_bt, .int (-1)])), (a_tn, .inl (cI, 5, .inl f_tn)), (a_bt, .inl (cI, 5, .inl f_bt))] (Qv D (fun u => ∃ (f_4 : Nat → Int32), u = [(h0, .inr (11, [.ref a_tp, .int 0, .ref a_rd, .ref a_wl, .ref a_st, .ref a_bf, .ref a_ps, .int 0, .int 0, .ref a_iw, .ref a_is, .ref a_tr, .ref a_rw, .ref a_or, .ref a_wy, .ref a_ct, .ref a_ch, .ref a_tn, .ref a_bt, .int 0])), (a_tn, .inl (cI, 5, .inl f_tn)), (a_bt, .inl (cI, 5, .inl f_4))])) := by
  refine kon_of (by decide) (Nat.le_of_ble_eq_true rfl) (fun p e s m below meth c ls A hx hb hr hml hown hts hlocks hnm hkb hP hD hS hA hl => ?_)
  have hown : s.vm.findClass RX11 = some m.cls := hown
  have hl : lv_has ls 8 [(0, .ref h0), (1, .int 0), (2, .int 0), (3, .int 0), (4, .int 0)] := hl
  have hP : va_P D cls [(h0, .inr (11, [.ref a_tp, .int 0, .ref a_rd, .ref a_wl, .ref a_st, .ref a_bf, .ref a_ps, .int 0, .int 0, .ref a_iw, .ref a_is, .ref a_tr, .ref a_rw, .ref a_or, .ref a_wy, .ref a_ct, .ref a_ch, .ref a_tn, .ref a_bt, .int (-1)])), (a_tn, .inl (cI, 5, .inl f_tn)), (a_bt, .inl (cI, 5, .inl f_bt))] s.heap := hP
  refine lv_iload hx hb dX11_takeTurns_0 (lv_at hl 4 rfl) ?_
  refine lv_iload_n hx hb dX11_takeTurns_2 rfl (lv_at hl 2 rfl) ?_
  have hPc := hP.sub (ws' := []) [] rfl
  have hDc := hD.sub (ws' := []) [] (by decide) rfl
  refine k_i (wc := []) (wr := [(h0, .inr (11, [.ref a_tp, .int 0, .ref a_rd, .ref a_wl, .ref a_st, .ref a_bf, .ref a_ps, .int 0, .int 0, .ref a_iw, .ref a_is, .ref a_tr, .ref a_rw, .ref a_or, .ref a_wy, .ref a_ct, .ref a_ch, .ref a_tn, .ref a_bt, .int (-1)])), (a_tn, .inl (cI, 5, .inl f_tn)), (a_bt, .inl (cI, 5, .inl f_bt))]) hP hD hS hA [] [0, 1, 2] rfl rfl rfl (by decide) (r_S (n := 1) (As := [.int 0]) hx hb hml hown hts hkb hPc hDc (c_bitCount0 l D cB cI cJ cZ cS cW cT cR) kw_893 kw_692 kw_20 kw_693 (by decide +kernel) ⟨Nat.le_of_ble_eq_true rfl, Nat.le_of_ble_eq_true rfl⟩ rfl rfl hl.1 (Nat.le_of_ble_eq_true rfl) dX11_takeTurns_3 ⟨Nat.le_of_ble_eq_true rfl, Nat.le_of_ble_eq_true rfl⟩) (fun r_1 u H locs hw hP hD hS => ?_)
  obtain ⟨rfl, rfl⟩ := hw
  have hP : va_P D cls [(h0, .inr (11, [.ref a_tp, .int 0, .ref a_rd, .ref a_wl, .ref a_st, .ref a_bf, .ref a_ps, .int 0, .int 0, .ref a_iw, .ref a_is, .ref a_tr, .ref a_rw, .ref a_or, .ref a_wy, .ref a_ct, .ref a_ch, .ref a_tn, .ref a_bt, .int (-1)])), (a_tn, .inl (cI, 5, .inl f_tn)), (a_bt, .inl (cI, 5, .inl f_bt))] H := hP
  have hD : va_D A [(h0, .inr (11, [.ref a_tp, .int 0, .ref a_rd, .ref a_wl, .ref a_st, .ref a_bf, .ref a_ps, .int 0, .int 0, .ref a_iw, .ref a_is, .ref a_tr, .ref a_rw, .ref a_or, .ref a_wy, .ref a_ct, .ref a_ch, .ref a_tn, .ref a_bt, .int (-1)])), (a_tn, .inl (cI, 5, .inl f_tn)), (a_bt, .inl (cI, 5, .inl f_bt))] := hD
  refine W.widen (k := 0) (n := 0) (Nat.le_of_ble_eq_true rfl) (Nat.le_of_ble_eq_true rfl) ?_
  refine lv_iadd hx hb dX11_takeTurns_6 ?_
  refine lv_topc (y := 0) (by decide +kernel) ?_
  refine lv_aload_n hx hb dX11_takeTurns_7 rfl (lv_at hl 0 rfl) ?_
  refine va_get (D := D) (ci := 11) (v := .int (-1)) (C := RX11) (T := TX11) (N := 20) hx hb hts uX11 hown hkb.1 hP 0 rfl rfl 19 (by decide) (hts _ kw_379) (fun _ h9 => h9) rfl dX11_takeTurns_8 ?_
  refine lv_icmp_gt (tgt := 15) hx hb dX11_takeTurns_11 (by decide) (fun _ => ?_) (fun c_2 => absurd c_2 (by decide))
  refine lv_iload_n hx hb dX11_takeTurns_15 rfl (lv_at hl 2 rfl) ?_
  refine lv_if_eq (tgt := 24) hx hb dX11_takeTurns_16 (by decide) (fun _ => ?_) (fun c_3 => absurd c_3 (by decide))
  refine lv_aload_n hx hb dX11_takeTurns_24 rfl (lv_at hl 0 rfl) ?_
  refine lv_iload hx hb dX11_takeTurns_25 (lv_at hl 4 rfl) ?_
  refine va_put (D := D) (ci := 11) (v := .int 0) (ty := tyX11 19) (C := RX11) (T := TX11) (N := 20) hx hb hts uX11 tyX11 tyX11_ok nmX11 hown hkb.1 hP hD hS 0 rfl rfl 19 (by decide) (hts _ kw_379) (fun _ h9 => h9) rfl (tyX11_ok 19 (by decide)) rfl rfl (Nat.le_of_ble_eq_true rfl) dX11_takeTurns_27 (fun H locs hP hD hS => ?_)
  have hP : va_P D cls [(h0, .inr (11, [.ref a_tp, .int 0, .ref a_rd, .ref a_wl, .ref a_st, .ref a_bf, .ref a_ps, .int 0, .int 0, .ref a_iw, .ref a_is, .ref a_tr, .ref a_rw, .ref a_or, .ref a_wy, .ref a_ct, .ref a_ch, .ref a_tn, .ref a_bt, .int 0])), (a_tn, .inl (cI, 5, .inl f_tn)), (a_bt, .inl (cI, 5, .inl f_bt))] H := hP
  have hD : va_D A [(h0, .inr (11, [.ref a_tp, .int 0, .ref a_rd, .ref a_wl, .ref a_st, .ref a_bf, .ref a_ps, .int 0, .int 0, .ref a_iw, .ref a_is, .ref a_tr, .ref a_rw, .ref a_or, .ref a_wy, .ref a_ct, .ref a_ch, .ref a_tn, .ref a_bt, .int 0])), (a_tn, .inl (cI, 5, .inl f_tn)), (a_bt, .inl (cI, 5, .inl f_bt))] := hD
  refine lv_aload_n hx hb dX11_takeTurns_30 rfl (lv_at hl 0 rfl) ?_
  refine va_get (D := D) (ci := 11) (v := .ref a_tn) (C := RX11) (T := TX11) (N := 20) hx hb hts uX11 hown hkb.1 hP 0 rfl rfl 17 (by decide) (hts _ kw_377) (fun _ h9 => h9) rfl dX11_takeTurns_31 ?_
  refine lv_iconst (v := 0) hx hb dX11_takeTurns_34 (by decide) ?_
  refine lv_aload_n hx hb dX11_takeTurns_35 rfl (lv_at hl 0 rfl) ?_
  refine va_get (D := D) (ci := 11) (v := .ref a_bt) (C := RX11) (T := TX11) (N := 20) hx hb hts uX11 hown hkb.1 hP 0 rfl rfl 18 (by decide) (hts _ kw_378) (fun _ h9 => h9) rfl dX11_takeTurns_36 ?_
  refine lv_iconst (v := 0) hx hb dX11_takeTurns_39 (by decide) ?_
  refine lv_iconst (v := 5) hx hb dX11_takeTurns_40 (by decide) ?_
  refine va_copyi (f := f_tn) (g := f_bt) hx hb (by rw [hml]; exact hl.1.symm) hown (hts _ kw_1172) (hts _ kw_734) (hts _ kw_733) (hts _ kw_23) hkb.1 hP hD hS 1 2 1 1 rfl rfl rfl rfl rfl (by decide) (by decide) (by decide) (by decide +kernel) (by decide +kernel) (fun _ _ => rfl) (Nat.le_of_ble_eq_true rfl) (Nat.le_of_ble_eq_true rfl) dX11_takeTurns_41 (fun H locs hP hD hS => ?_)
  have hP : va_P D cls [(h0, .inr (11, [.ref a_tp, .int 0, .ref a_rd, .ref a_wl, .ref a_st, .ref a_bf, .ref a_ps, .int 0, .int 0, .ref a_iw, .ref a_is, .ref a_tr, .ref a_rw, .ref a_or, .ref a_wy, .ref a_ct, .ref a_ch, .ref a_tn, .ref a_bt, .int 0])), (a_tn, .inl (cI, 5, .inl f_tn)), (a_bt, .inl (cI, 5, .inl (va_cpy f_tn f_bt 0 0 5)))] H := hP
  have hD : va_D A [(h0, .inr (11, [.ref a_tp, .int 0, .ref a_rd, .ref a_wl, .ref a_st, .ref a_bf, .ref a_ps, .int 0, .int 0, .ref a_iw, .ref a_is, .ref a_tr, .ref a_rw, .ref a_or, .ref a_wy, .ref a_ct, .ref a_ch, .ref a_tn, .ref a_bt, .int 0])), (a_tn, .inl (cI, 5, .inl f_tn)), (a_bt, .inl (cI, 5, .inl (va_cpy f_tn f_bt 0 0 5)))] := hD
  generalize hq9 : va_cpy f_tn f_bt 0 0 5 = f_4 at hP hD; clear hq9
  have hP : va_P D cls [(h0, .inr (11, [.ref a_tp, .int 0, .ref a_rd, .ref a_wl, .ref a_st, .ref a_bf, .ref a_ps, .int 0, .int 0, .ref a_iw, .ref a_is, .ref a_tr, .ref a_rw, .ref a_or, .ref a_wy, .ref a_ct, .ref a_ch, .ref a_tn, .ref a_bt, .int 0])), (a_tn, .inl (cI, 5, .inl f_tn)), (a_bt, .inl (cI, 5, .inl f_4))] H := hP
  have hD : va_D A [(h0, .inr (11, [.ref a_tp, .int 0, .ref a_rd, .ref a_wl, .ref a_st, .ref a_bf, .ref a_ps, .int 0, .int 0, .ref a_iw, .ref a_is, .ref a_tr, .ref a_rw, .ref a_or, .ref a_wy, .ref a_ct, .ref a_ch, .ref a_tn, .ref a_bt, .int 0])), (a_tn, .inl (cI, 5, .inl f_tn)), (a_bt, .inl (cI, 5, .inl f_4))] := hD
  refine W.widen (k := 0) (n := 0) (Nat.le_of_ble_eq_true rfl) (Nat.le_of_ble_eq_true rfl) ?_
  exact e_v (u := [(h0, .inr (11, [.ref a_tp, .int 0, .ref a_rd, .ref a_wl, .ref a_st, .ref a_bf, .ref a_ps, .int 0, .int 0, .ref a_iw, .ref a_is, .ref a_tr, .ref a_rw, .ref a_or, .ref a_wy, .ref a_ct, .ref a_ch, .ref a_tn, .ref a_bt, .int 0])), (a_tn, .inl (cI, 5, .inl f_tn)), (a_bt, .inl (cI, 5, .inl f_4))]) hx hb hr hlocks (hP.sub (ws' := [(h0, .inr (11, [.ref a_tp, .int 0, .ref a_rd, .ref a_wl, .ref a_st, .ref a_bf, .ref a_ps, .int 0, .int 0, .ref a_iw, .ref a_is, .ref a_tr, .ref a_rw, .ref a_or, .ref a_wy, .ref a_ct, .ref a_ch, .ref a_tn, .ref a_bt, .int 0])), (a_tn, .inl (cI, 5, .inl f_tn)), (a_bt, .inl (cI, 5, .inl f_4))]) [0, 1, 2] rfl) (hD.sub (ws' := [(h0, .inr (11, [.ref a_tp, .int 0, .ref a_rd, .ref a_wl, .ref a_st, .ref a_bf, .ref a_ps, .int 0, .int 0, .ref a_iw, .ref a_is, .ref a_tr, .ref a_rw, .ref a_or, .ref a_wy, .ref a_ct, .ref a_ch, .ref a_tn, .ref a_bt, .int 0])), (a_tn, .inl (cI, 5, .inl f_tn)), (a_bt, .inl (cI, 5, .inl f_4))]) [0, 1, 2] (by decide) rfl) hS ⟨f_4, rfl⟩ dX11_takeTurns_44
set_option maxHeartbeats 4000000 in
set_option maxRecDepth 100000 in
theorem x_inTurn (l : Launch) (D : va_G) (cB cI cJ cZ cS cW cT cR : ClassId) (h0 : Nat) (a_wl : Nat) (a_st : Nat) (a_tn : Nat) (a_bt : Nat) (i_0 : Int32) (i_1 : Int32) (a_tp : Nat) (a_rd : Nat) (a_bf : Nat) (a_ps : Nat) (a_iw : Nat) (a_is : Nat) (a_tr : Nat) (a_rw : Nat) (a_or : Nat) (a_wy : Nat) (a_ct : Nat) (a_ch : Nat) (a_wax : Nat) (a_way : Nat) (a_wai : Nat) (a_wal : Nat) (a_waw : Nat) (a_sb : Nat) (a_ss : Nat) (f_tn : Nat → Int32) (f_bt : Nat → Int32) : Kon l D (tyl cB cI cJ cZ cS cW cT cR) yX11_inTurn cX11_inTurn 3 (some (.int)) { frames := 4, cells := 0, slots := 0, locals := 87 } [.ref h0, .int i_0, .int i_1] [(h0, .inr (11, [.ref a_tp, .int 0, .ref a_rd, .ref a_wl, .ref a_st, .ref a_bf, .ref a_ps, .int 0, .int 0, .ref a_iw, .ref a_is, .ref a_tr, .ref a_rw, .ref a_or, .ref a_wy, .ref a_ct, .ref a_ch, .ref a_tn, .ref a_bt, .int (-1)])), (a_wl, .inr (9, [.int 0, .int 0, .int 0, .int 0, .int 0, .int 0, .ref a_wax, .ref a_way, .ref a_wai, .ref a_wal, .ref a_waw, .null, .int 0, .int 1])), (a_st, .inr (6, [.int 0, .int 0, .int 0, .int 0, .ref a_sb, .ref a_ss])), (a_tn, .inl (cI, 5, .inl f_tn)), (a_bt, .inl (cI, 5, .inl f_bt))] (Qi D (fun r u => r = F_inTurn i_0 i_1 ∧ u = [])) := by
  refine kon_of (by decide) (Nat.le_of_ble_eq_true rfl) (fun p e s m below meth c ls A hx hb hr hml hown hts hlocks hnm hkb hP hD hS hA hl => ?_)
  have hown : s.vm.findClass RX11 = some m.cls := hown
  have hl : lv_has ls 3 [(0, .ref h0), (1, .int i_0), (2, .int i_1)] := hl
  have hP : va_P D cls [(h0, .inr (11, [.ref a_tp, .int 0, .ref a_rd, .ref a_wl, .ref a_st, .ref a_bf, .ref a_ps, .int 0, .int 0, .ref a_iw, .ref a_is, .ref a_tr, .ref a_rw, .ref a_or, .ref a_wy, .ref a_ct, .ref a_ch, .ref a_tn, .ref a_bt, .int (-1)])), (a_wl, .inr (9, [.int 0, .int 0, .int 0, .int 0, .int 0, .int 0, .ref a_wax, .ref a_way, .ref a_wai, .ref a_wal, .ref a_waw, .null, .int 0, .int 1])), (a_st, .inr (6, [.int 0, .int 0, .int 0, .int 0, .ref a_sb, .ref a_ss])), (a_tn, .inl (cI, 5, .inl f_tn)), (a_bt, .inl (cI, 5, .inl f_bt))] s.heap := hP
  refine lv_iload_n hx hb dX11_inTurn_0 rfl (lv_at hl 1 rfl) ?_
  refine lv_aload_n hx hb dX11_inTurn_1 rfl (lv_at hl 0 rfl) ?_
  refine va_get (D := D) (ci := 11) (v := .ref a_wl) (C := RX11) (T := TX11) (N := 20) hx hb hts uX11 hown hkb.1 hP 0 rfl rfl 3 (by decide) (hts _ kw_363) (fun _ h9 => h9) rfl dX11_inTurn_2 ?_
  refine va_get (D := D) (ci := 9) (v := .int 0) (C := RX9) (T := TX9) (N := 14) hx hb hts uX9 hown hkb.1 hP 1 rfl rfl 1 (by decide) (hts _ kw_112) (fun _ h9 => h9) rfl dX11_inTurn_5 ?_
  refine lv_iushr hx hb dX11_inTurn_8 rfl ?_
  refine lv_topc (y := i_0) (ush_0 _) ?_
  refine lv_if_eq (tgt := 15) hx hb dX11_inTurn_9 (by decide) (fun c_1 => ?_) (fun c_1 => ?_)
  · skip
    have tc_1 := f_eq (k := 0) (by decide) c_1
    by_cases c_2 : i_0 = 0
    · skip
      subst c_2
      have zc_2 : (0 : Int32).toInt = 0 := by decide
      refine lv_iload_n hx hb dX11_inTurn_15 rfl (lv_at hl 2 rfl) ?_
      refine lv_iconst (v := 5) hx hb dX11_inTurn_16 (by decide) ?_
      have hPc := hP.sub (ws' := []) [] rfl
      have hDc := hD.sub (ws' := []) [] (by decide) rfl
      refine k_i (wc := []) (wr := [(h0, .inr (11, [.ref a_tp, .int 0, .ref a_rd, .ref a_wl, .ref a_st, .ref a_bf, .ref a_ps, .int 0, .int 0, .ref a_iw, .ref a_is, .ref a_tr, .ref a_rw, .ref a_or, .ref a_wy, .ref a_ct, .ref a_ch, .ref a_tn, .ref a_bt, .int (-1)])), (a_wl, .inr (9, [.int 0, .int 0, .int 0, .int 0, .int 0, .int 0, .ref a_wax, .ref a_way, .ref a_wai, .ref a_wal, .ref a_waw, .null, .int 0, .int 1])), (a_st, .inr (6, [.int 0, .int 0, .int 0, .int 0, .ref a_sb, .ref a_ss])), (a_tn, .inl (cI, 5, .inl f_tn)), (a_bt, .inl (cI, 5, .inl f_bt))]) hP hD hS hA [] [0, 1, 2, 3, 4] rfl rfl rfl (by decide) (r_S (n := 2) (As := [.int i_1, .int 5]) hx hb hml hown hts hkb hPc hDc (c_asksRow5 l D cB cI cJ cZ cS cW cT cR i_1) kw_970 kw_971 kw_1 kw_972 (by decide +kernel) ⟨Nat.le_of_ble_eq_true rfl, Nat.le_of_ble_eq_true rfl⟩ rfl rfl hl.1 (Nat.le_of_ble_eq_true rfl) dX11_inTurn_17 ⟨Nat.le_of_ble_eq_true rfl, Nat.le_of_ble_eq_true rfl⟩) (fun r_3 u H locs hw hP hD hS => ?_)
      obtain ⟨rfl, rfl⟩ := hw
      have hP : va_P D cls [(h0, .inr (11, [.ref a_tp, .int 0, .ref a_rd, .ref a_wl, .ref a_st, .ref a_bf, .ref a_ps, .int 0, .int 0, .ref a_iw, .ref a_is, .ref a_tr, .ref a_rw, .ref a_or, .ref a_wy, .ref a_ct, .ref a_ch, .ref a_tn, .ref a_bt, .int (-1)])), (a_wl, .inr (9, [.int 0, .int 0, .int 0, .int 0, .int 0, .int 0, .ref a_wax, .ref a_way, .ref a_wai, .ref a_wal, .ref a_waw, .null, .int 0, .int 1])), (a_st, .inr (6, [.int 0, .int 0, .int 0, .int 0, .ref a_sb, .ref a_ss])), (a_tn, .inl (cI, 5, .inl f_tn)), (a_bt, .inl (cI, 5, .inl f_bt))] H := hP
      have hD : va_D A [(h0, .inr (11, [.ref a_tp, .int 0, .ref a_rd, .ref a_wl, .ref a_st, .ref a_bf, .ref a_ps, .int 0, .int 0, .ref a_iw, .ref a_is, .ref a_tr, .ref a_rw, .ref a_or, .ref a_wy, .ref a_ct, .ref a_ch, .ref a_tn, .ref a_bt, .int (-1)])), (a_wl, .inr (9, [.int 0, .int 0, .int 0, .int 0, .int 0, .int 0, .ref a_wax, .ref a_way, .ref a_wai, .ref a_wal, .ref a_waw, .null, .int 0, .int 1])), (a_st, .inr (6, [.int 0, .int 0, .int 0, .int 0, .ref a_sb, .ref a_ss])), (a_tn, .inl (cI, 5, .inl f_tn)), (a_bt, .inl (cI, 5, .inl f_bt))] := hD
      refine W.widen (k := 0) (n := 0) (Nat.le_of_ble_eq_true rfl) (Nat.le_of_ble_eq_true rfl) ?_
      refine lv_if_ne (tgt := 26) hx hb dX11_inTurn_20 (by decide) (fun c_4 => ?_) (fun c_4 => ?_)
      · skip
        have tc_4 := F_asks5_1 c_4
        refine lv_aload_n hx hb dX11_inTurn_26 rfl (lv_at hl 0 rfl) ?_
        refine lv_iconst (v := (-1)) hx hb dX11_inTurn_27 (by decide) ?_
        refine va_put (D := D) (ci := 11) (v := .int (-1)) (ty := tyX11 19) (C := RX11) (T := TX11) (N := 20) hx hb hts uX11 tyX11 tyX11_ok nmX11 hown hkb.1 hP hD hS 0 rfl rfl 19 (by decide) (hts _ kw_379) (fun _ h9 => h9) rfl (tyX11_ok 19 (by decide)) rfl rfl (Nat.le_of_ble_eq_true rfl) dX11_inTurn_28 (fun H locs hP hD hS => ?_)
        have hP : va_P D cls [(h0, .inr (11, [.ref a_tp, .int 0, .ref a_rd, .ref a_wl, .ref a_st, .ref a_bf, .ref a_ps, .int 0, .int 0, .ref a_iw, .ref a_is, .ref a_tr, .ref a_rw, .ref a_or, .ref a_wy, .ref a_ct, .ref a_ch, .ref a_tn, .ref a_bt, .int (-1)])), (a_wl, .inr (9, [.int 0, .int 0, .int 0, .int 0, .int 0, .int 0, .ref a_wax, .ref a_way, .ref a_wai, .ref a_wal, .ref a_waw, .null, .int 0, .int 1])), (a_st, .inr (6, [.int 0, .int 0, .int 0, .int 0, .ref a_sb, .ref a_ss])), (a_tn, .inl (cI, 5, .inl f_tn)), (a_bt, .inl (cI, 5, .inl f_bt))] H := hP
        have hD : va_D A [(h0, .inr (11, [.ref a_tp, .int 0, .ref a_rd, .ref a_wl, .ref a_st, .ref a_bf, .ref a_ps, .int 0, .int 0, .ref a_iw, .ref a_is, .ref a_tr, .ref a_rw, .ref a_or, .ref a_wy, .ref a_ct, .ref a_ch, .ref a_tn, .ref a_bt, .int (-1)])), (a_wl, .inr (9, [.int 0, .int 0, .int 0, .int 0, .int 0, .int 0, .ref a_wax, .ref a_way, .ref a_wai, .ref a_wal, .ref a_waw, .null, .int 0, .int 1])), (a_st, .inr (6, [.int 0, .int 0, .int 0, .int 0, .ref a_sb, .ref a_ss])), (a_tn, .inl (cI, 5, .inl f_tn)), (a_bt, .inl (cI, 5, .inl f_bt))] := hD
        refine lv_aload_n hx hb dX11_inTurn_31 rfl (lv_at hl 0 rfl) ?_
        refine lv_iconst (v := 0) hx hb dX11_inTurn_32 (by decide) ?_
        refine lv_iload_n hx hb dX11_inTurn_33 rfl (lv_at hl 1 rfl) ?_
        refine lv_aload_n hx hb dX11_inTurn_34 rfl (lv_at hl 0 rfl) ?_
        have hPc := hP.sub (ws' := [(h0, .inr (11, [.ref a_tp, .int 0, .ref a_rd, .ref a_wl, .ref a_st, .ref a_bf, .ref a_ps, .int 0, .int 0, .ref a_iw, .ref a_is, .ref a_tr, .ref a_rw, .ref a_or, .ref a_wy, .ref a_ct, .ref a_ch, .ref a_tn, .ref a_bt, .int (-1)])), (a_wl, .inr (9, [.int 0, .int 0, .int 0, .int 0, .int 0, .int 0, .ref a_wax, .ref a_way, .ref a_wai, .ref a_wal, .ref a_waw, .null, .int 0, .int 1])), (a_st, .inr (6, [.int 0, .int 0, .int 0, .int 0, .ref a_sb, .ref a_ss]))]) [0, 1, 2] rfl
        have hDc := hD.sub (ws' := [(h0, .inr (11, [.ref a_tp, .int 0, .ref a_rd, .ref a_wl, .ref a_st, .ref a_bf, .ref a_ps, .int 0, .int 0, .ref a_iw, .ref a_is, .ref a_tr, .ref a_rw, .ref a_or, .ref a_wy, .ref a_ct, .ref a_ch, .ref a_tn, .ref a_bt, .int (-1)])), (a_wl, .inr (9, [.int 0, .int 0, .int 0, .int 0, .int 0, .int 0, .ref a_wax, .ref a_way, .ref a_wai, .ref a_wal, .ref a_waw, .null, .int 0, .int 1])), (a_st, .inr (6, [.int 0, .int 0, .int 0, .int 0, .ref a_sb, .ref a_ss]))]) [0, 1, 2] (by decide) rfl
        refine k_i (wc := [(h0, .inr (11, [.ref a_tp, .int 0, .ref a_rd, .ref a_wl, .ref a_st, .ref a_bf, .ref a_ps, .int 0, .int 0, .ref a_iw, .ref a_is, .ref a_tr, .ref a_rw, .ref a_or, .ref a_wy, .ref a_ct, .ref a_ch, .ref a_tn, .ref a_bt, .int (-1)])), (a_wl, .inr (9, [.int 0, .int 0, .int 0, .int 0, .int 0, .int 0, .ref a_wax, .ref a_way, .ref a_wai, .ref a_wal, .ref a_waw, .null, .int 0, .int 1])), (a_st, .inr (6, [.int 0, .int 0, .int 0, .int 0, .ref a_sb, .ref a_ss]))]) (wr := [(a_tn, .inl (cI, 5, .inl f_tn)), (a_bt, .inl (cI, 5, .inl f_bt))]) hP hD hS hA [0, 1, 2] [3, 4] rfl rfl rfl (by decide) (r_V (n := 0) (As := []) (ci := 11) (q0 := 0) hx hb hml hown hts hkb hPc hDc (c_openNow l D cB cI cJ cZ cS cW cT cR h0 a_wl a_st a_tp a_rd a_bf a_ps a_iw a_is a_tr a_rw a_or a_wy a_ct a_ch a_tn a_bt a_wax a_way a_wai a_wal a_waw a_sb a_ss) kw_846 kw_848 ks_22 kw_1 kw_849 (by decide +kernel) ⟨Nat.le_of_ble_eq_true rfl, Nat.le_of_ble_eq_true rfl⟩ rfl rfl rfl rfl hl.1 (Nat.le_of_ble_eq_true rfl) dX11_inTurn_35 ⟨Nat.le_of_ble_eq_true rfl, Nat.le_of_ble_eq_true rfl⟩) (fun r_5 u H locs hw hP hD hS => ?_)
        obtain ⟨rfl, rfl⟩ := hw
        have hP : va_P D cls [(a_tn, .inl (cI, 5, .inl f_tn)), (a_bt, .inl (cI, 5, .inl f_bt)), (h0, .inr (11, [.ref a_tp, .int 0, .ref a_rd, .ref a_wl, .ref a_st, .ref a_bf, .ref a_ps, .int 0, .int 0, .ref a_iw, .ref a_is, .ref a_tr, .ref a_rw, .ref a_or, .ref a_wy, .ref a_ct, .ref a_ch, .ref a_tn, .ref a_bt, .int (-1)])), (a_wl, .inr (9, [.int 0, .int 0, .int 0, .int 0, .int 0, .int 0, .ref a_wax, .ref a_way, .ref a_wai, .ref a_wal, .ref a_waw, .null, .int 0, .int 1])), (a_st, .inr (6, [.int 0, .int 0, .int 0, .int 0, .ref a_sb, .ref a_ss]))] H := hP
        have hD : va_D A [(a_tn, .inl (cI, 5, .inl f_tn)), (a_bt, .inl (cI, 5, .inl f_bt)), (h0, .inr (11, [.ref a_tp, .int 0, .ref a_rd, .ref a_wl, .ref a_st, .ref a_bf, .ref a_ps, .int 0, .int 0, .ref a_iw, .ref a_is, .ref a_tr, .ref a_rw, .ref a_or, .ref a_wy, .ref a_ct, .ref a_ch, .ref a_tn, .ref a_bt, .int (-1)])), (a_wl, .inr (9, [.int 0, .int 0, .int 0, .int 0, .int 0, .int 0, .ref a_wax, .ref a_way, .ref a_wai, .ref a_wal, .ref a_waw, .null, .int 0, .int 1])), (a_st, .inr (6, [.int 0, .int 0, .int 0, .int 0, .ref a_sb, .ref a_ss]))] := hD
        refine W.widen (k := 0) (n := 0) (Nat.le_of_ble_eq_true rfl) (Nat.le_of_ble_eq_true rfl) ?_
        refine lv_iconst (v := 0) hx hb dX11_inTurn_38 (by decide) ?_
        have hPc := hP.sub (ws' := [(h0, .inr (11, [.ref a_tp, .int 0, .ref a_rd, .ref a_wl, .ref a_st, .ref a_bf, .ref a_ps, .int 0, .int 0, .ref a_iw, .ref a_is, .ref a_tr, .ref a_rw, .ref a_or, .ref a_wy, .ref a_ct, .ref a_ch, .ref a_tn, .ref a_bt, .int (-1)])), (a_tn, .inl (cI, 5, .inl f_tn)), (a_bt, .inl (cI, 5, .inl f_bt))]) [2, 0, 1] rfl
        have hDc := hD.sub (ws' := [(h0, .inr (11, [.ref a_tp, .int 0, .ref a_rd, .ref a_wl, .ref a_st, .ref a_bf, .ref a_ps, .int 0, .int 0, .ref a_iw, .ref a_is, .ref a_tr, .ref a_rw, .ref a_or, .ref a_wy, .ref a_ct, .ref a_ch, .ref a_tn, .ref a_bt, .int (-1)])), (a_tn, .inl (cI, 5, .inl f_tn)), (a_bt, .inl (cI, 5, .inl f_bt))]) [2, 0, 1] (by decide) rfl
        refine k_v (wc := [(h0, .inr (11, [.ref a_tp, .int 0, .ref a_rd, .ref a_wl, .ref a_st, .ref a_bf, .ref a_ps, .int 0, .int 0, .ref a_iw, .ref a_is, .ref a_tr, .ref a_rw, .ref a_or, .ref a_wy, .ref a_ct, .ref a_ch, .ref a_tn, .ref a_bt, .int (-1)])), (a_tn, .inl (cI, 5, .inl f_tn)), (a_bt, .inl (cI, 5, .inl f_bt))]) (wr := [(a_wl, .inr (9, [.int 0, .int 0, .int 0, .int 0, .int 0, .int 0, .ref a_wax, .ref a_way, .ref a_wai, .ref a_wal, .ref a_waw, .null, .int 0, .int 1])), (a_st, .inr (6, [.int 0, .int 0, .int 0, .int 0, .ref a_sb, .ref a_ss]))]) hP hD hS hA [2, 0, 1] [3, 4] rfl rfl rfl (by decide) (r_V (n := 4) (As := [.int 0, .int 0, .int 0, .int 0]) (ci := 11) (q0 := 0) hx hb hml hown hts hkb hPc hDc (c_takeTurns l D cB cI cJ cZ cS cW cT cR h0 a_tn a_bt a_tp a_rd a_wl a_st a_bf a_ps a_iw a_is a_tr a_rw a_or a_wy a_ct a_ch f_tn f_bt) kw_1168 kw_1170 ks_42 kw_1 kw_1171 (by decide +kernel) ⟨Nat.le_of_ble_eq_true rfl, Nat.le_of_ble_eq_true rfl⟩ rfl rfl rfl rfl hl.1 (Nat.le_of_ble_eq_true rfl) dX11_inTurn_39 ⟨Nat.le_of_ble_eq_true rfl, Nat.le_of_ble_eq_true rfl⟩) (fun u H locs hw hP hD hS => ?_)
        obtain ⟨f_6, rfl⟩ := hw
        have hP : va_P D cls [(a_wl, .inr (9, [.int 0, .int 0, .int 0, .int 0, .int 0, .int 0, .ref a_wax, .ref a_way, .ref a_wai, .ref a_wal, .ref a_waw, .null, .int 0, .int 1])), (a_st, .inr (6, [.int 0, .int 0, .int 0, .int 0, .ref a_sb, .ref a_ss])), (h0, .inr (11, [.ref a_tp, .int 0, .ref a_rd, .ref a_wl, .ref a_st, .ref a_bf, .ref a_ps, .int 0, .int 0, .ref a_iw, .ref a_is, .ref a_tr, .ref a_rw, .ref a_or, .ref a_wy, .ref a_ct, .ref a_ch, .ref a_tn, .ref a_bt, .int 0])), (a_tn, .inl (cI, 5, .inl f_tn)), (a_bt, .inl (cI, 5, .inl f_6))] H := hP
        have hD : va_D A [(a_wl, .inr (9, [.int 0, .int 0, .int 0, .int 0, .int 0, .int 0, .ref a_wax, .ref a_way, .ref a_wai, .ref a_wal, .ref a_waw, .null, .int 0, .int 1])), (a_st, .inr (6, [.int 0, .int 0, .int 0, .int 0, .ref a_sb, .ref a_ss])), (h0, .inr (11, [.ref a_tp, .int 0, .ref a_rd, .ref a_wl, .ref a_st, .ref a_bf, .ref a_ps, .int 0, .int 0, .ref a_iw, .ref a_is, .ref a_tr, .ref a_rw, .ref a_or, .ref a_wy, .ref a_ct, .ref a_ch, .ref a_tn, .ref a_bt, .int 0])), (a_tn, .inl (cI, 5, .inl f_tn)), (a_bt, .inl (cI, 5, .inl f_6))] := hD
        refine W.widen (k := 0) (n := 0) (Nat.le_of_ble_eq_true rfl) (Nat.le_of_ble_eq_true rfl) ?_
        refine lv_iload_n hx hb dX11_inTurn_42 rfl (lv_at hl 2 rfl) ?_
        refine lv_if_ne (tgt := 51) hx hb dX11_inTurn_43 (by decide) (fun c_8 => ?_) (fun c_8 => ?_)
        · skip
          have tc_8 := f_ne (k := 0) (by decide) c_8
          refine lv_aload_n hx hb dX11_inTurn_51 rfl (lv_at hl 0 rfl) ?_
          refine va_get (D := D) (ci := 11) (v := .ref a_bt) (C := RX11) (T := TX11) (N := 20) hx hb hts uX11 hown hkb.1 hP 2 rfl rfl 18 (by decide) (hts _ kw_378) (fun _ h9 => h9) rfl dX11_inTurn_52 ?_
          refine lv_iload_n hx hb dX11_inTurn_55 rfl (lv_at hl 1 rfl) ?_
          have hPc := hP.sub (ws' := []) [] rfl
          have hDc := hD.sub (ws' := []) [] (by decide) rfl
          refine k_i (wc := []) (wr := [(a_wl, .inr (9, [.int 0, .int 0, .int 0, .int 0, .int 0, .int 0, .ref a_wax, .ref a_way, .ref a_wai, .ref a_wal, .ref a_waw, .null, .int 0, .int 1])), (a_st, .inr (6, [.int 0, .int 0, .int 0, .int 0, .ref a_sb, .ref a_ss])), (h0, .inr (11, [.ref a_tp, .int 0, .ref a_rd, .ref a_wl, .ref a_st, .ref a_bf, .ref a_ps, .int 0, .int 0, .ref a_iw, .ref a_is, .ref a_tr, .ref a_rw, .ref a_or, .ref a_wy, .ref a_ct, .ref a_ch, .ref a_tn, .ref a_bt, .int 0])), (a_tn, .inl (cI, 5, .inl f_tn)), (a_bt, .inl (cI, 5, .inl f_6))]) hP hD hS hA [] [0, 1, 2, 3, 4] rfl rfl rfl (by decide) (r_S (n := 1) (As := [.int 0]) hx hb hml hown hts hkb hPc hDc (c_bitCount0 l D cB cI cJ cZ cS cW cT cR) kw_893 kw_692 kw_20 kw_693 (by decide +kernel) ⟨Nat.le_of_ble_eq_true rfl, Nat.le_of_ble_eq_true rfl⟩ rfl rfl hl.1 (Nat.le_of_ble_eq_true rfl) dX11_inTurn_56 ⟨Nat.le_of_ble_eq_true rfl, Nat.le_of_ble_eq_true rfl⟩) (fun r_9 u H locs hw hP hD hS => ?_)
          obtain ⟨rfl, rfl⟩ := hw
          have hP : va_P D cls [(a_wl, .inr (9, [.int 0, .int 0, .int 0, .int 0, .int 0, .int 0, .ref a_wax, .ref a_way, .ref a_wai, .ref a_wal, .ref a_waw, .null, .int 0, .int 1])), (a_st, .inr (6, [.int 0, .int 0, .int 0, .int 0, .ref a_sb, .ref a_ss])), (h0, .inr (11, [.ref a_tp, .int 0, .ref a_rd, .ref a_wl, .ref a_st, .ref a_bf, .ref a_ps, .int 0, .int 0, .ref a_iw, .ref a_is, .ref a_tr, .ref a_rw, .ref a_or, .ref a_wy, .ref a_ct, .ref a_ch, .ref a_tn, .ref a_bt, .int 0])), (a_tn, .inl (cI, 5, .inl f_tn)), (a_bt, .inl (cI, 5, .inl f_6))] H := hP
          have hD : va_D A [(a_wl, .inr (9, [.int 0, .int 0, .int 0, .int 0, .int 0, .int 0, .ref a_wax, .ref a_way, .ref a_wai, .ref a_wal, .ref a_waw, .null, .int 0, .int 1])), (a_st, .inr (6, [.int 0, .int 0, .int 0, .int 0, .ref a_sb, .ref a_ss])), (h0, .inr (11, [.ref a_tp, .int 0, .ref a_rd, .ref a_wl, .ref a_st, .ref a_bf, .ref a_ps, .int 0, .int 0, .ref a_iw, .ref a_is, .ref a_tr, .ref a_rw, .ref a_or, .ref a_wy, .ref a_ct, .ref a_ch, .ref a_tn, .ref a_bt, .int 0])), (a_tn, .inl (cI, 5, .inl f_tn)), (a_bt, .inl (cI, 5, .inl f_6))] := hD
          refine W.widen (k := 0) (n := 0) (Nat.le_of_ble_eq_true rfl) (Nat.le_of_ble_eq_true rfl) ?_
          refine lv_iload_n hx hb dX11_inTurn_59 rfl (lv_at hl 2 rfl) ?_
          have hPc := hP.sub (ws' := []) [] rfl
          have hDc := hD.sub (ws' := []) [] (by decide) rfl
          refine k_i (wc := []) (wr := [(a_wl, .inr (9, [.int 0, .int 0, .int 0, .int 0, .int 0, .int 0, .ref a_wax, .ref a_way, .ref a_wai, .ref a_wal, .ref a_waw, .null, .int 0, .int 1])), (a_st, .inr (6, [.int 0, .int 0, .int 0, .int 0, .ref a_sb, .ref a_ss])), (h0, .inr (11, [.ref a_tp, .int 0, .ref a_rd, .ref a_wl, .ref a_st, .ref a_bf, .ref a_ps, .int 0, .int 0, .ref a_iw, .ref a_is, .ref a_tr, .ref a_rw, .ref a_or, .ref a_wy, .ref a_ct, .ref a_ch, .ref a_tn, .ref a_bt, .int 0])), (a_tn, .inl (cI, 5, .inl f_tn)), (a_bt, .inl (cI, 5, .inl f_6))]) hP hD hS hA [] [0, 1, 2, 3, 4] rfl rfl rfl (by decide) (r_S (n := 3) (As := [.ref a_bt, .int 0, .int i_1]) hx hb hml hown hts hkb hPc hDc (c_ofRow0 l D cB cI cJ cZ cS cW cT cR a_bt i_1) kw_973 kw_974 kw_1 kw_975 (by decide +kernel) ⟨Nat.le_of_ble_eq_true rfl, Nat.le_of_ble_eq_true rfl⟩ rfl rfl hl.1 (Nat.le_of_ble_eq_true rfl) dX11_inTurn_60 ⟨Nat.le_of_ble_eq_true rfl, Nat.le_of_ble_eq_true rfl⟩) (fun r_10 u H locs hw hP hD hS => ?_)
          obtain ⟨rfl, rfl⟩ := hw
          have hP : va_P D cls [(a_wl, .inr (9, [.int 0, .int 0, .int 0, .int 0, .int 0, .int 0, .ref a_wax, .ref a_way, .ref a_wai, .ref a_wal, .ref a_waw, .null, .int 0, .int 1])), (a_st, .inr (6, [.int 0, .int 0, .int 0, .int 0, .ref a_sb, .ref a_ss])), (h0, .inr (11, [.ref a_tp, .int 0, .ref a_rd, .ref a_wl, .ref a_st, .ref a_bf, .ref a_ps, .int 0, .int 0, .ref a_iw, .ref a_is, .ref a_tr, .ref a_rw, .ref a_or, .ref a_wy, .ref a_ct, .ref a_ch, .ref a_tn, .ref a_bt, .int 0])), (a_tn, .inl (cI, 5, .inl f_tn)), (a_bt, .inl (cI, 5, .inl f_6))] H := hP
          have hD : va_D A [(a_wl, .inr (9, [.int 0, .int 0, .int 0, .int 0, .int 0, .int 0, .ref a_wax, .ref a_way, .ref a_wai, .ref a_wal, .ref a_waw, .null, .int 0, .int 1])), (a_st, .inr (6, [.int 0, .int 0, .int 0, .int 0, .ref a_sb, .ref a_ss])), (h0, .inr (11, [.ref a_tp, .int 0, .ref a_rd, .ref a_wl, .ref a_st, .ref a_bf, .ref a_ps, .int 0, .int 0, .ref a_iw, .ref a_is, .ref a_tr, .ref a_rw, .ref a_or, .ref a_wy, .ref a_ct, .ref a_ch, .ref a_tn, .ref a_bt, .int 0])), (a_tn, .inl (cI, 5, .inl f_tn)), (a_bt, .inl (cI, 5, .inl f_6))] := hD
          refine W.widen (k := 0) (n := 0) (Nat.le_of_ble_eq_true rfl) (Nat.le_of_ble_eq_true rfl) ?_
          refine W.widen (k := 0) (n := 0) (Nat.le_of_ble_eq_true rfl) (Nat.le_of_ble_eq_true rfl) ?_
          exact e_i (u := []) hx hb hr hlocks (hP.sub (ws' := []) [] rfl) (hD.sub (ws' := []) [] (by decide) rfl) hS ⟨(by unfold F_inTurn; (repeat' split) <;> first | rfl | (exfalso; omega)), rfl⟩ dX11_inTurn_63
        · skip
          have tc_8 := f_eq (k := 0) (by decide) c_8
          refine lv_aload_n hx hb dX11_inTurn_46 rfl (lv_at hl 0 rfl) ?_
          refine va_get (D := D) (ci := 11) (v := .int 0) (C := RX11) (T := TX11) (N := 20) hx hb hts uX11 hown hkb.1 hP 2 rfl rfl 19 (by decide) (hts _ kw_379) (fun _ h9 => h9) rfl dX11_inTurn_47 ?_
          refine W.widen (k := 0) (n := 0) (Nat.le_of_ble_eq_true rfl) (Nat.le_of_ble_eq_true rfl) ?_
          exact e_i (u := []) hx hb hr hlocks (hP.sub (ws' := []) [] rfl) (hD.sub (ws' := []) [] (by decide) rfl) hS ⟨(by unfold F_inTurn; (repeat' split) <;> first | rfl | (exfalso; omega)), rfl⟩ dX11_inTurn_50
      · skip
        have tc_4 := F_asks5_0 c_4
        refine lv_bipush (v := (-2)) hx hb dX11_inTurn_23 (by decide) ?_
        refine W.widen (k := 0) (n := 0) (Nat.le_of_ble_eq_true rfl) (Nat.le_of_ble_eq_true rfl) ?_
        exact e_i (u := []) hx hb hr hlocks (hP.sub (ws' := []) [] rfl) (hD.sub (ws' := []) [] (by decide) rfl) hS ⟨(by unfold F_inTurn; (repeat' split) <;> first | rfl | (exfalso; omega)), rfl⟩ dX11_inTurn_25
    have tc_2 := f_ne (k := 0) (by decide) c_2
    exfalso; omega
  · skip
    have tc_1 := f_ne (k := 0) (by decide) c_1
    refine lv_bipush (v := (-3)) hx hb dX11_inTurn_12 (by decide) ?_
    refine W.widen (k := 0) (n := 0) (Nat.le_of_ble_eq_true rfl) (Nat.le_of_ble_eq_true rfl) ?_
    exact e_i (u := []) hx hb hr hlocks (hP.sub (ws' := []) [] rfl) (hD.sub (ws' := []) [] (by decide) rfl) hS ⟨(by unfold F_inTurn; (repeat' split) <;> first | rfl | (exfalso; omega)), rfl⟩ dX11_inTurn_14
