set_option maxHeartbeats 4000000 in
set_option maxRecDepth 100000 in
theorem y_feed (l : Launch) (D : va_G) (cB cI cJ cZ cS cW cT cR : ClassId) (h0 : Nat) (a_mt : Nat) (i_0 : Int32) (i_1 : Int32) (i_2 : Int32) (i_3 : Int32) (i_4 : Int32) (a_al : Nat) (a_hi : Nat) (a_fr : Nat) (a_rk : Nat) (a_on : Nat) (a_aw : Nat) (a_ro : Nat) (a_ws : Nat) (a_ah : Nat) (a_cl : Nat) (a_us : Nat) (a_mo : Nat) (a_to : Nat) (a_mb : Nat) (a_le : Nat) (a_rs : Nat) (a_rm : Nat) (a_nu : Nat) (f_mt : Nat → Int32) : Kon l D (tyl cB cI cJ cZ cS cW cT cR) yX12_feed cX12_feed 8 (some (.int)) { frames := 0, cells := 0, slots := 0, locals := 0 } [.ref h0, .int i_0, .int i_1, .int i_2, .int i_3, .int i_4] [(h0, .inr (12, [.int 0, .ref a_al, .ref a_hi, .ref a_mt, .ref a_fr, .int 0, .int 0, .int 0, .int 0, .int 0, .int 0, .int 0, .int 0, .int 0, .int (-1), .ref a_rk, .int 0, .ref a_on, .ref a_aw, .ref a_ro, .int 0, .ref a_ws, .ref a_ah, .int 0, .int 0, .int 0, .ref a_cl, .ref a_us, .ref a_mo, .ref a_to, .ref a_mb, .ref a_le, .int 0, .ref a_rs, .ref a_rm, .ref a_nu])), (a_mt, .inl (cI, 900, .inl f_mt))] (Qi D (fun r u => r = 20 ∧ u = [])) := by
  refine kon_of (by decide) (Nat.le_of_ble_eq_true rfl) (fun p e s m below meth c ls A hx hb hr hml hown hts hlocks hnm hkb hP hD hS hA hl => ?_)
  have hown : s.vm.findClass RX12 = some m.cls := hown
  have hl : lv_has ls 8 [(0, .ref h0), (1, .int i_0), (2, .int i_1), (3, .int i_2), (4, .int i_3), (5, .int i_4)] := hl
  have hP : va_P D cls [(h0, .inr (12, [.int 0, .ref a_al, .ref a_hi, .ref a_mt, .ref a_fr, .int 0, .int 0, .int 0, .int 0, .int 0, .int 0, .int 0, .int 0, .int 0, .int (-1), .ref a_rk, .int 0, .ref a_on, .ref a_aw, .ref a_ro, .int 0, .ref a_ws, .ref a_ah, .int 0, .int 0, .int 0, .ref a_cl, .ref a_us, .ref a_mo, .ref a_to, .ref a_mb, .ref a_le, .int 0, .ref a_rs, .ref a_rm, .ref a_nu])), (a_mt, .inl (cI, 900, .inl f_mt))] s.heap := hP
  refine lv_aload_n hx hb dX12_feed_0 rfl (lv_at hl 0 rfl) ?_
  refine lv_iconst (v := 0) hx hb dX12_feed_1 (by decide) ?_
  refine va_put (D := D) (ci := 12) (v := .int 0) (ty := tyX12 0) (C := RX12) (T := TX12) (N := 36) hx hb hts uX12 tyX12 tyX12_ok nmX12 hown hkb.1 hP hD hS 0 rfl rfl 0 (by decide) (hts _ kw_1223) (fun _ h9 => h9) rfl (tyX12_ok 0 (by decide)) rfl rfl (Nat.le_of_ble_eq_true rfl) dX12_feed_2 (fun H locs hP hD hS => ?_)
  have hP : va_P D cls [(h0, .inr (12, [.int 0, .ref a_al, .ref a_hi, .ref a_mt, .ref a_fr, .int 0, .int 0, .int 0, .int 0, .int 0, .int 0, .int 0, .int 0, .int 0, .int (-1), .ref a_rk, .int 0, .ref a_on, .ref a_aw, .ref a_ro, .int 0, .ref a_ws, .ref a_ah, .int 0, .int 0, .int 0, .ref a_cl, .ref a_us, .ref a_mo, .ref a_to, .ref a_mb, .ref a_le, .int 0, .ref a_rs, .ref a_rm, .ref a_nu])), (a_mt, .inl (cI, 900, .inl f_mt))] H := hP
  have hD : va_D A [(h0, .inr (12, [.int 0, .ref a_al, .ref a_hi, .ref a_mt, .ref a_fr, .int 0, .int 0, .int 0, .int 0, .int 0, .int 0, .int 0, .int 0, .int 0, .int (-1), .ref a_rk, .int 0, .ref a_on, .ref a_aw, .ref a_ro, .int 0, .ref a_ws, .ref a_ah, .int 0, .int 0, .int 0, .ref a_cl, .ref a_us, .ref a_mo, .ref a_to, .ref a_mb, .ref a_le, .int 0, .ref a_rs, .ref a_rm, .ref a_nu])), (a_mt, .inl (cI, 900, .inl f_mt))] := hD
  refine lv_aload_n hx hb dX12_feed_5 rfl (lv_at hl 0 rfl) ?_
  refine va_get (D := D) (ci := 12) (v := .int 0) (C := RX12) (T := TX12) (N := 36) hx hb hts uX12 hown hkb.1 hP 0 rfl rfl 5 (by decide) (hts _ kw_1228) (fun _ h9 => h9) rfl dX12_feed_6 ?_
  refine lv_bipush (v := 20) hx hb dX12_feed_9 (by decide) ?_
  refine lv_iadd hx hb dX12_feed_11 ?_
  refine lv_topc (y := 20) (by decide +kernel) ?_
  refine lv_sipush (v := 900) hx hb dX12_feed_12 (by decide) ?_
  refine lv_icmp_le (tgt := 21) hx hb dX12_feed_15 (by decide) (fun _ => ?_) (fun c_1 => absurd c_1 (by decide))
  refine lv_iconst (v := 0) hx hb dX12_feed_21 (by decide) ?_
  refine lv_istore (lv' := [(6, .int 0), (0, .ref h0), (1, .int i_0), (2, .int i_1), (3, .int i_2), (4, .int i_3), (5, .int i_4)]) hx hb dX12_feed_22 hl (by decide) rfl (fun ls hl => ?_)
  refine lv_iload hx hb dX12_feed_24 (lv_at hl 0 rfl) ?_
  refine lv_bipush (v := 20) hx hb dX12_feed_26 (by decide) ?_
  refine lv_icmp_ge (tgt := 121) hx hb dX12_feed_28 (by decide) (fun c_2 => absurd c_2 (by decide)) (fun _ => ?_)
  refine lv_iload hx hb dX12_feed_31 (lv_at hl 0 rfl) ?_
  refine lv_iconst (v := 4) hx hb dX12_feed_33 (by decide) ?_
  refine lv_icmp_ge (tgt := 41) hx hb dX12_feed_34 (by decide) (fun c_3 => absurd c_3 (by decide)) (fun _ => ?_)
  refine lv_iload_n hx hb dX12_feed_37 rfl (lv_at hl 2 rfl) ?_
  refine lv_goto (tgt := 77) hx hb dX12_feed_38 (by decide) ?_
  refine lv_istore (lv' := [(7, .int i_0), (6, .int 0), (0, .ref h0), (1, .int i_0), (2, .int i_1), (3, .int i_2), (4, .int i_3), (5, .int i_4)]) hx hb dX12_feed_77 hl (by decide) rfl (fun ls hl => ?_)
  refine lv_aload_n hx hb dX12_feed_79 rfl (lv_at hl 2 rfl) ?_
  refine va_get (D := D) (ci := 12) (v := .ref a_mt) (C := RX12) (T := TX12) (N := 36) hx hb hts uX12 hown hkb.1 hP 0 rfl rfl 3 (by decide) (hts _ kw_1226) (fun _ h9 => h9) rfl dX12_feed_80 ?_
  refine lv_aload_n hx hb dX12_feed_83 rfl (lv_at hl 2 rfl) ?_
  refine va_get (D := D) (ci := 12) (v := .int 0) (C := RX12) (T := TX12) (N := 36) hx hb hts uX12 hown hkb.1 hP 0 rfl rfl 5 (by decide) (hts _ kw_1228) (fun _ h9 => h9) rfl dX12_feed_84 ?_
  refine lv_iload hx hb dX12_feed_87 (lv_at hl 0 rfl) ?_
  refine lv_bipush (v := 24) hx hb dX12_feed_89 (by decide) ?_
  refine lv_bipush (v := 8) hx hb dX12_feed_91 (by decide) ?_
  refine lv_iload hx hb dX12_feed_93 (lv_at hl 1 rfl) ?_
  refine lv_iconst (v := 4) hx hb dX12_feed_95 (by decide) ?_
  refine lv_irem hx hb dX12_feed_96 (by decide) ?_
  refine lv_topc (y := 0) (by decide +kernel) ?_
  refine lv_imul hx hb dX12_feed_97 ?_
  refine lv_topc (y := 0) (by decide +kernel) ?_
  refine lv_isub hx hb dX12_feed_98 ?_
  refine lv_topc (y := 24) (by decide +kernel) ?_
  refine lv_ishr hx hb dX12_feed_99 ?_
  refine lv_topi (fun v_4 ev_4 => ?_)
  refine lv_sipush (v := 255) hx hb dX12_feed_100 (by decide) ?_
  refine lv_iand hx hb dX12_feed_103 ?_
  refine lv_topi (fun v_5 ev_5 => ?_)
  refine s_i 1 1 hx hb hkb.1 hP hD hS rfl rfl (in_c (by decide +kernel)) 0 (by decide +kernel) dX12_feed_104 (fun H locs hP hD hS => ?_)
  have hP : va_P D cls [(h0, .inr (12, [.int 0, .ref a_al, .ref a_hi, .ref a_mt, .ref a_fr, .int 0, .int 0, .int 0, .int 0, .int 0, .int 0, .int 0, .int 0, .int 0, .int (-1), .ref a_rk, .int 0, .ref a_on, .ref a_aw, .ref a_ro, .int 0, .ref a_ws, .ref a_ah, .int 0, .int 0, .int 0, .ref a_cl, .ref a_us, .ref a_mo, .ref a_to, .ref a_mb, .ref a_le, .int 0, .ref a_rs, .ref a_rm, .ref a_nu])), (a_mt, .inl (cI, 900, .inl (upd f_mt 0 v_5)))] H := hP
  have hD : va_D A [(h0, .inr (12, [.int 0, .ref a_al, .ref a_hi, .ref a_mt, .ref a_fr, .int 0, .int 0, .int 0, .int 0, .int 0, .int 0, .int 0, .int 0, .int 0, .int (-1), .ref a_rk, .int 0, .ref a_on, .ref a_aw, .ref a_ro, .int 0, .ref a_ws, .ref a_ah, .int 0, .int 0, .int 0, .ref a_cl, .ref a_us, .ref a_mo, .ref a_to, .ref a_mb, .ref a_le, .int 0, .ref a_rs, .ref a_rm, .ref a_nu])), (a_mt, .inl (cI, 900, .inl (upd f_mt 0 v_5)))] := hD
  generalize hq9 : upd f_mt 0 v_5 = f_6 at hP hD; clear hq9
  have hP : va_P D cls [(h0, .inr (12, [.int 0, .ref a_al, .ref a_hi, .ref a_mt, .ref a_fr, .int 0, .int 0, .int 0, .int 0, .int 0, .int 0, .int 0, .int 0, .int 0, .int (-1), .ref a_rk, .int 0, .ref a_on, .ref a_aw, .ref a_ro, .int 0, .ref a_ws, .ref a_ah, .int 0, .int 0, .int 0, .ref a_cl, .ref a_us, .ref a_mo, .ref a_to, .ref a_mb, .ref a_le, .int 0, .ref a_rs, .ref a_rm, .ref a_nu])), (a_mt, .inl (cI, 900, .inl f_6))] H := hP
  have hD : va_D A [(h0, .inr (12, [.int 0, .ref a_al, .ref a_hi, .ref a_mt, .ref a_fr, .int 0, .int 0, .int 0, .int 0, .int 0, .int 0, .int 0, .int 0, .int 0, .int (-1), .ref a_rk, .int 0, .ref a_on, .ref a_aw, .ref a_ro, .int 0, .ref a_ws, .ref a_ah, .int 0, .int 0, .int 0, .ref a_cl, .ref a_us, .ref a_mo, .ref a_to, .ref a_mb, .ref a_le, .int 0, .ref a_rs, .ref a_rm, .ref a_nu])), (a_mt, .inl (cI, 900, .inl f_6))] := hD
  refine lv_aload_n hx hb dX12_feed_105 rfl (lv_at hl 2 rfl) ?_
  refine lv_dup hx hb dX12_feed_106 rfl ?_
  refine va_get (D := D) (ci := 12) (v := .int 0) (C := RX12) (T := TX12) (N := 36) hx hb hts uX12 hown hkb.1 hP 0 rfl rfl 5 (by decide) (hts _ kw_1228) (fun _ h9 => h9) rfl dX12_feed_107 ?_
  refine lv_iconst (v := 1) hx hb dX12_feed_110 (by decide) ?_
  refine lv_iadd hx hb dX12_feed_111 ?_
  refine lv_topc (y := 1) (by decide +kernel) ?_
  refine va_put (D := D) (ci := 12) (v := .int 1) (ty := tyX12 5) (C := RX12) (T := TX12) (N := 36) hx hb hts uX12 tyX12 tyX12_ok nmX12 hown hkb.1 hP hD hS 0 rfl rfl 5 (by decide) (hts _ kw_1228) (fun _ h9 => h9) rfl (tyX12_ok 5 (by decide)) rfl rfl (Nat.le_of_ble_eq_true rfl) dX12_feed_112 (fun H locs hP hD hS => ?_)
  have hP : va_P D cls [(h0, .inr (12, [.int 0, .ref a_al, .ref a_hi, .ref a_mt, .ref a_fr, .int 1, .int 0, .int 0, .int 0, .int 0, .int 0, .int 0, .int 0, .int 0, .int (-1), .ref a_rk, .int 0, .ref a_on, .ref a_aw, .ref a_ro, .int 0, .ref a_ws, .ref a_ah, .int 0, .int 0, .int 0, .ref a_cl, .ref a_us, .ref a_mo, .ref a_to, .ref a_mb, .ref a_le, .int 0, .ref a_rs, .ref a_rm, .ref a_nu])), (a_mt, .inl (cI, 900, .inl f_6))] H := hP
  have hD : va_D A [(h0, .inr (12, [.int 0, .ref a_al, .ref a_hi, .ref a_mt, .ref a_fr, .int 1, .int 0, .int 0, .int 0, .int 0, .int 0, .int 0, .int 0, .int 0, .int (-1), .ref a_rk, .int 0, .ref a_on, .ref a_aw, .ref a_ro, .int 0, .ref a_ws, .ref a_ah, .int 0, .int 0, .int 0, .ref a_cl, .ref a_us, .ref a_mo, .ref a_to, .ref a_mb, .ref a_le, .int 0, .ref a_rs, .ref a_rm, .ref a_nu])), (a_mt, .inl (cI, 900, .inl f_6))] := hD
  refine lv_iinc (v := 1) (lv' := [(6, .int 1), (7, .int i_0), (0, .ref h0), (1, .int i_0), (2, .int i_1), (3, .int i_2), (4, .int i_3), (5, .int i_4)]) hx hb dX12_feed_115 hl (k := 1) rfl (by decide) (by decide) rfl (fun ls hl => ?_)
  refine lv_goto (tgt := 24) hx hb dX12_feed_118 (by decide) ?_
  refine lv_iload hx hb dX12_feed_24 (lv_at hl 0 rfl) ?_
  refine lv_bipush (v := 20) hx hb dX12_feed_26 (by decide) ?_
  refine lv_icmp_ge (tgt := 121) hx hb dX12_feed_28 (by decide) (fun c_7 => absurd c_7 (by decide)) (fun _ => ?_)
  refine lv_iload hx hb dX12_feed_31 (lv_at hl 0 rfl) ?_
  refine lv_iconst (v := 4) hx hb dX12_feed_33 (by decide) ?_
  refine lv_icmp_ge (tgt := 41) hx hb dX12_feed_34 (by decide) (fun c_8 => absurd c_8 (by decide)) (fun _ => ?_)
  refine lv_iload_n hx hb dX12_feed_37 rfl (lv_at hl 3 rfl) ?_
  refine lv_goto (tgt := 77) hx hb dX12_feed_38 (by decide) ?_
  refine lv_istore (lv' := [(7, .int i_0), (6, .int 1), (0, .ref h0), (1, .int i_0), (2, .int i_1), (3, .int i_2), (4, .int i_3), (5, .int i_4)]) hx hb dX12_feed_77 hl (by decide) rfl (fun ls hl => ?_)
  refine lv_aload_n hx hb dX12_feed_79 rfl (lv_at hl 2 rfl) ?_
  refine va_get (D := D) (ci := 12) (v := .ref a_mt) (C := RX12) (T := TX12) (N := 36) hx hb hts uX12 hown hkb.1 hP 0 rfl rfl 3 (by decide) (hts _ kw_1226) (fun _ h9 => h9) rfl dX12_feed_80 ?_
  refine lv_aload_n hx hb dX12_feed_83 rfl (lv_at hl 2 rfl) ?_
  refine va_get (D := D) (ci := 12) (v := .int 1) (C := RX12) (T := TX12) (N := 36) hx hb hts uX12 hown hkb.1 hP 0 rfl rfl 5 (by decide) (hts _ kw_1228) (fun _ h9 => h9) rfl dX12_feed_84 ?_
  refine lv_iload hx hb dX12_feed_87 (lv_at hl 0 rfl) ?_
  refine lv_bipush (v := 24) hx hb dX12_feed_89 (by decide) ?_
  refine lv_bipush (v := 8) hx hb dX12_feed_91 (by decide) ?_
  refine lv_iload hx hb dX12_feed_93 (lv_at hl 1 rfl) ?_
  refine lv_iconst (v := 4) hx hb dX12_feed_95 (by decide) ?_
  refine lv_irem hx hb dX12_feed_96 (by decide) ?_
  refine lv_topc (y := 1) (by decide +kernel) ?_
  refine lv_imul hx hb dX12_feed_97 ?_
  refine lv_topc (y := 8) (by decide +kernel) ?_
  refine lv_isub hx hb dX12_feed_98 ?_
  refine lv_topc (y := 16) (by decide +kernel) ?_
  refine lv_ishr hx hb dX12_feed_99 ?_
  refine lv_topi (fun v_9 ev_9 => ?_)
  refine lv_sipush (v := 255) hx hb dX12_feed_100 (by decide) ?_
  refine lv_iand hx hb dX12_feed_103 ?_
  refine lv_topi (fun v_10 ev_10 => ?_)
  refine s_i 1 1 hx hb hkb.1 hP hD hS rfl rfl (in_c (by decide +kernel)) 1 (by decide +kernel) dX12_feed_104 (fun H locs hP hD hS => ?_)
  have hP : va_P D cls [(h0, .inr (12, [.int 0, .ref a_al, .ref a_hi, .ref a_mt, .ref a_fr, .int 1, .int 0, .int 0, .int 0, .int 0, .int 0, .int 0, .int 0, .int 0, .int (-1), .ref a_rk, .int 0, .ref a_on, .ref a_aw, .ref a_ro, .int 0, .ref a_ws, .ref a_ah, .int 0, .int 0, .int 0, .ref a_cl, .ref a_us, .ref a_mo, .ref a_to, .ref a_mb, .ref a_le, .int 0, .ref a_rs, .ref a_rm, .ref a_nu])), (a_mt, .inl (cI, 900, .inl (upd f_6 1 v_10)))] H := hP
  have hD : va_D A [(h0, .inr (12, [.int 0, .ref a_al, .ref a_hi, .ref a_mt, .ref a_fr, .int 1, .int 0, .int 0, .int 0, .int 0, .int 0, .int 0, .int 0, .int 0, .int (-1), .ref a_rk, .int 0, .ref a_on, .ref a_aw, .ref a_ro, .int 0, .ref a_ws, .ref a_ah, .int 0, .int 0, .int 0, .ref a_cl, .ref a_us, .ref a_mo, .ref a_to, .ref a_mb, .ref a_le, .int 0, .ref a_rs, .ref a_rm, .ref a_nu])), (a_mt, .inl (cI, 900, .inl (upd f_6 1 v_10)))] := hD
  generalize hq9 : upd f_6 1 v_10 = f_11 at hP hD; clear hq9
  have hP : va_P D cls [(h0, .inr (12, [.int 0, .ref a_al, .ref a_hi, .ref a_mt, .ref a_fr, .int 1, .int 0, .int 0, .int 0, .int 0, .int 0, .int 0, .int 0, .int 0, .int (-1), .ref a_rk, .int 0, .ref a_on, .ref a_aw, .ref a_ro, .int 0, .ref a_ws, .ref a_ah, .int 0, .int 0, .int 0, .ref a_cl, .ref a_us, .ref a_mo, .ref a_to, .ref a_mb, .ref a_le, .int 0, .ref a_rs, .ref a_rm, .ref a_nu])), (a_mt, .inl (cI, 900, .inl f_11))] H := hP
  have hD : va_D A [(h0, .inr (12, [.int 0, .ref a_al, .ref a_hi, .ref a_mt, .ref a_fr, .int 1, .int 0, .int 0, .int 0, .int 0, .int 0, .int 0, .int 0, .int 0, .int (-1), .ref a_rk, .int 0, .ref a_on, .ref a_aw, .ref a_ro, .int 0, .ref a_ws, .ref a_ah, .int 0, .int 0, .int 0, .ref a_cl, .ref a_us, .ref a_mo, .ref a_to, .ref a_mb, .ref a_le, .int 0, .ref a_rs, .ref a_rm, .ref a_nu])), (a_mt, .inl (cI, 900, .inl f_11))] := hD
  refine lv_aload_n hx hb dX12_feed_105 rfl (lv_at hl 2 rfl) ?_
  refine lv_dup hx hb dX12_feed_106 rfl ?_
  refine va_get (D := D) (ci := 12) (v := .int 1) (C := RX12) (T := TX12) (N := 36) hx hb hts uX12 hown hkb.1 hP 0 rfl rfl 5 (by decide) (hts _ kw_1228) (fun _ h9 => h9) rfl dX12_feed_107 ?_
  refine lv_iconst (v := 1) hx hb dX12_feed_110 (by decide) ?_
  refine lv_iadd hx hb dX12_feed_111 ?_
  refine lv_topc (y := 2) (by decide +kernel) ?_
  refine va_put (D := D) (ci := 12) (v := .int 2) (ty := tyX12 5) (C := RX12) (T := TX12) (N := 36) hx hb hts uX12 tyX12 tyX12_ok nmX12 hown hkb.1 hP hD hS 0 rfl rfl 5 (by decide) (hts _ kw_1228) (fun _ h9 => h9) rfl (tyX12_ok 5 (by decide)) rfl rfl (Nat.le_of_ble_eq_true rfl) dX12_feed_112 (fun H locs hP hD hS => ?_)
  have hP : va_P D cls [(h0, .inr (12, [.int 0, .ref a_al, .ref a_hi, .ref a_mt, .ref a_fr, .int 2, .int 0, .int 0, .int 0, .int 0, .int 0, .int 0, .int 0, .int 0, .int (-1), .ref a_rk, .int 0, .ref a_on, .ref a_aw, .ref a_ro, .int 0, .ref a_ws, .ref a_ah, .int 0, .int 0, .int 0, .ref a_cl, .ref a_us, .ref a_mo, .ref a_to, .ref a_mb, .ref a_le, .int 0, .ref a_rs, .ref a_rm, .ref a_nu])), (a_mt, .inl (cI, 900, .inl f_11))] H := hP
  have hD : va_D A [(h0, .inr (12, [.int 0, .ref a_al, .ref a_hi, .ref a_mt, .ref a_fr, .int 2, .int 0, .int 0, .int 0, .int 0, .int 0, .int 0, .int 0, .int 0, .int (-1), .ref a_rk, .int 0, .ref a_on, .ref a_aw, .ref a_ro, .int 0, .ref a_ws, .ref a_ah, .int 0, .int 0, .int 0, .ref a_cl, .ref a_us, .ref a_mo, .ref a_to, .ref a_mb, .ref a_le, .int 0, .ref a_rs, .ref a_rm, .ref a_nu])), (a_mt, .inl (cI, 900, .inl f_11))] := hD
  refine lv_iinc (v := 2) (lv' := [(6, .int 2), (7, .int i_0), (0, .ref h0), (1, .int i_0), (2, .int i_1), (3, .int i_2), (4, .int i_3), (5, .int i_4)]) hx hb dX12_feed_115 hl (k := 1) rfl (by decide) (by decide) rfl (fun ls hl => ?_)
  refine lv_goto (tgt := 24) hx hb dX12_feed_118 (by decide) ?_
  refine lv_iload hx hb dX12_feed_24 (lv_at hl 0 rfl) ?_
  refine lv_bipush (v := 20) hx hb dX12_feed_26 (by decide) ?_
  refine lv_icmp_ge (tgt := 121) hx hb dX12_feed_28 (by decide) (fun c_12 => absurd c_12 (by decide)) (fun _ => ?_)
  refine lv_iload hx hb dX12_feed_31 (lv_at hl 0 rfl) ?_
  refine lv_iconst (v := 4) hx hb dX12_feed_33 (by decide) ?_
  refine lv_icmp_ge (tgt := 41) hx hb dX12_feed_34 (by decide) (fun c_13 => absurd c_13 (by decide)) (fun _ => ?_)
  refine lv_iload_n hx hb dX12_feed_37 rfl (lv_at hl 3 rfl) ?_
  refine lv_goto (tgt := 77) hx hb dX12_feed_38 (by decide) ?_
  refine lv_istore (lv' := [(7, .int i_0), (6, .int 2), (0, .ref h0), (1, .int i_0), (2, .int i_1), (3, .int i_2), (4, .int i_3), (5, .int i_4)]) hx hb dX12_feed_77 hl (by decide) rfl (fun ls hl => ?_)
  refine lv_aload_n hx hb dX12_feed_79 rfl (lv_at hl 2 rfl) ?_
  refine va_get (D := D) (ci := 12) (v := .ref a_mt) (C := RX12) (T := TX12) (N := 36) hx hb hts uX12 hown hkb.1 hP 0 rfl rfl 3 (by decide) (hts _ kw_1226) (fun _ h9 => h9) rfl dX12_feed_80 ?_
  refine lv_aload_n hx hb dX12_feed_83 rfl (lv_at hl 2 rfl) ?_
  refine va_get (D := D) (ci := 12) (v := .int 2) (C := RX12) (T := TX12) (N := 36) hx hb hts uX12 hown hkb.1 hP 0 rfl rfl 5 (by decide) (hts _ kw_1228) (fun _ h9 => h9) rfl dX12_feed_84 ?_
  refine lv_iload hx hb dX12_feed_87 (lv_at hl 0 rfl) ?_
  refine lv_bipush (v := 24) hx hb dX12_feed_89 (by decide) ?_
  refine lv_bipush (v := 8) hx hb dX12_feed_91 (by decide) ?_
  refine lv_iload hx hb dX12_feed_93 (lv_at hl 1 rfl) ?_
  refine lv_iconst (v := 4) hx hb dX12_feed_95 (by decide) ?_
  refine lv_irem hx hb dX12_feed_96 (by decide) ?_
  refine lv_topc (y := 2) (by decide +kernel) ?_
  refine lv_imul hx hb dX12_feed_97 ?_
  refine lv_topc (y := 16) (by decide +kernel) ?_
  refine lv_isub hx hb dX12_feed_98 ?_
  refine lv_topc (y := 8) (by decide +kernel) ?_
  refine lv_ishr hx hb dX12_feed_99 ?_
  refine lv_topi (fun v_14 ev_14 => ?_)
  refine lv_sipush (v := 255) hx hb dX12_feed_100 (by decide) ?_
  refine lv_iand hx hb dX12_feed_103 ?_
  refine lv_topi (fun v_15 ev_15 => ?_)
  refine s_i 1 1 hx hb hkb.1 hP hD hS rfl rfl (in_c (by decide +kernel)) 2 (by decide +kernel) dX12_feed_104 (fun H locs hP hD hS => ?_)
  have hP : va_P D cls [(h0, .inr (12, [.int 0, .ref a_al, .ref a_hi, .ref a_mt, .ref a_fr, .int 2, .int 0, .int 0, .int 0, .int 0, .int 0, .int 0, .int 0, .int 0, .int (-1), .ref a_rk, .int 0, .ref a_on, .ref a_aw, .ref a_ro, .int 0, .ref a_ws, .ref a_ah, .int 0, .int 0, .int 0, .ref a_cl, .ref a_us, .ref a_mo, .ref a_to, .ref a_mb, .ref a_le, .int 0, .ref a_rs, .ref a_rm, .ref a_nu])), (a_mt, .inl (cI, 900, .inl (upd f_11 2 v_15)))] H := hP
  have hD : va_D A [(h0, .inr (12, [.int 0, .ref a_al, .ref a_hi, .ref a_mt, .ref a_fr, .int 2, .int 0, .int 0, .int 0, .int 0, .int 0, .int 0, .int 0, .int 0, .int (-1), .ref a_rk, .int 0, .ref a_on, .ref a_aw, .ref a_ro, .int 0, .ref a_ws, .ref a_ah, .int 0, .int 0, .int 0, .ref a_cl, .ref a_us, .ref a_mo, .ref a_to, .ref a_mb, .ref a_le, .int 0, .ref a_rs, .ref a_rm, .ref a_nu])), (a_mt, .inl (cI, 900, .inl (upd f_11 2 v_15)))] := hD
  generalize hq9 : upd f_11 2 v_15 = f_16 at hP hD; clear hq9
  have hP : va_P D cls [(h0, .inr (12, [.int 0, .ref a_al, .ref a_hi, .ref a_mt, .ref a_fr, .int 2, .int 0, .int 0, .int 0, .int 0, .int 0, .int 0, .int 0, .int 0, .int (-1), .ref a_rk, .int 0, .ref a_on, .ref a_aw, .ref a_ro, .int 0, .ref a_ws, .ref a_ah, .int 0, .int 0, .int 0, .ref a_cl, .ref a_us, .ref a_mo, .ref a_to, .ref a_mb, .ref a_le, .int 0, .ref a_rs, .ref a_rm, .ref a_nu])), (a_mt, .inl (cI, 900, .inl f_16))] H := hP
  have hD : va_D A [(h0, .inr (12, [.int 0, .ref a_al, .ref a_hi, .ref a_mt, .ref a_fr, .int 2, .int 0, .int 0, .int 0, .int 0, .int 0, .int 0, .int 0, .int 0, .int (-1), .ref a_rk, .int 0, .ref a_on, .ref a_aw, .ref a_ro, .int 0, .ref a_ws, .ref a_ah, .int 0, .int 0, .int 0, .ref a_cl, .ref a_us, .ref a_mo, .ref a_to, .ref a_mb, .ref a_le, .int 0, .ref a_rs, .ref a_rm, .ref a_nu])), (a_mt, .inl (cI, 900, .inl f_16))] := hD
  refine lv_aload_n hx hb dX12_feed_105 rfl (lv_at hl 2 rfl) ?_
  refine lv_dup hx hb dX12_feed_106 rfl ?_
  refine va_get (D := D) (ci := 12) (v := .int 2) (C := RX12) (T := TX12) (N := 36) hx hb hts uX12 hown hkb.1 hP 0 rfl rfl 5 (by decide) (hts _ kw_1228) (fun _ h9 => h9) rfl dX12_feed_107 ?_
  refine lv_iconst (v := 1) hx hb dX12_feed_110 (by decide) ?_
  refine lv_iadd hx hb dX12_feed_111 ?_
  refine lv_topc (y := 3) (by decide +kernel) ?_
  refine va_put (D := D) (ci := 12) (v := .int 3) (ty := tyX12 5) (C := RX12) (T := TX12) (N := 36) hx hb hts uX12 tyX12 tyX12_ok nmX12 hown hkb.1 hP hD hS 0 rfl rfl 5 (by decide) (hts _ kw_1228) (fun _ h9 => h9) rfl (tyX12_ok 5 (by decide)) rfl rfl (Nat.le_of_ble_eq_true rfl) dX12_feed_112 (fun H locs hP hD hS => ?_)
  have hP : va_P D cls [(h0, .inr (12, [.int 0, .ref a_al, .ref a_hi, .ref a_mt, .ref a_fr, .int 3, .int 0, .int 0, .int 0, .int 0, .int 0, .int 0, .int 0, .int 0, .int (-1), .ref a_rk, .int 0, .ref a_on, .ref a_aw, .ref a_ro, .int 0, .ref a_ws, .ref a_ah, .int 0, .int 0, .int 0, .ref a_cl, .ref a_us, .ref a_mo, .ref a_to, .ref a_mb, .ref a_le, .int 0, .ref a_rs, .ref a_rm, .ref a_nu])), (a_mt, .inl (cI, 900, .inl f_16))] H := hP
  have hD : va_D A [(h0, .inr (12, [.int 0, .ref a_al, .ref a_hi, .ref a_mt, .ref a_fr, .int 3, .int 0, .int 0, .int 0, .int 0, .int 0, .int 0, .int 0, .int 0, .int (-1), .ref a_rk, .int 0, .ref a_on, .ref a_aw, .ref a_ro, .int 0, .ref a_ws, .ref a_ah, .int 0, .int 0, .int 0, .ref a_cl, .ref a_us, .ref a_mo, .ref a_to, .ref a_mb, .ref a_le, .int 0, .ref a_rs, .ref a_rm, .ref a_nu])), (a_mt, .inl (cI, 900, .inl f_16))] := hD
  refine lv_iinc (v := 3) (lv' := [(6, .int 3), (7, .int i_0), (0, .ref h0), (1, .int i_0), (2, .int i_1), (3, .int i_2), (4, .int i_3), (5, .int i_4)]) hx hb dX12_feed_115 hl (k := 1) rfl (by decide) (by decide) rfl (fun ls hl => ?_)
  refine lv_goto (tgt := 24) hx hb dX12_feed_118 (by decide) ?_
  refine lv_iload hx hb dX12_feed_24 (lv_at hl 0 rfl) ?_
  refine lv_bipush (v := 20) hx hb dX12_feed_26 (by decide) ?_
  refine lv_icmp_ge (tgt := 121) hx hb dX12_feed_28 (by decide) (fun c_17 => absurd c_17 (by decide)) (fun _ => ?_)
  refine lv_iload hx hb dX12_feed_31 (lv_at hl 0 rfl) ?_
  refine lv_iconst (v := 4) hx hb dX12_feed_33 (by decide) ?_
  refine lv_icmp_ge (tgt := 41) hx hb dX12_feed_34 (by decide) (fun c_18 => absurd c_18 (by decide)) (fun _ => ?_)
  refine lv_iload_n hx hb dX12_feed_37 rfl (lv_at hl 3 rfl) ?_
  refine lv_goto (tgt := 77) hx hb dX12_feed_38 (by decide) ?_
  refine lv_istore (lv' := [(7, .int i_0), (6, .int 3), (0, .ref h0), (1, .int i_0), (2, .int i_1), (3, .int i_2), (4, .int i_3), (5, .int i_4)]) hx hb dX12_feed_77 hl (by decide) rfl (fun ls hl => ?_)
  refine lv_aload_n hx hb dX12_feed_79 rfl (lv_at hl 2 rfl) ?_
  refine va_get (D := D) (ci := 12) (v := .ref a_mt) (C := RX12) (T := TX12) (N := 36) hx hb hts uX12 hown hkb.1 hP 0 rfl rfl 3 (by decide) (hts _ kw_1226) (fun _ h9 => h9) rfl dX12_feed_80 ?_
  refine lv_aload_n hx hb dX12_feed_83 rfl (lv_at hl 2 rfl) ?_
  refine va_get (D := D) (ci := 12) (v := .int 3) (C := RX12) (T := TX12) (N := 36) hx hb hts uX12 hown hkb.1 hP 0 rfl rfl 5 (by decide) (hts _ kw_1228) (fun _ h9 => h9) rfl dX12_feed_84 ?_
  refine lv_iload hx hb dX12_feed_87 (lv_at hl 0 rfl) ?_
  refine lv_bipush (v := 24) hx hb dX12_feed_89 (by decide) ?_
  refine lv_bipush (v := 8) hx hb dX12_feed_91 (by decide) ?_
  refine lv_iload hx hb dX12_feed_93 (lv_at hl 1 rfl) ?_
  refine lv_iconst (v := 4) hx hb dX12_feed_95 (by decide) ?_
  refine lv_irem hx hb dX12_feed_96 (by decide) ?_
  refine lv_topc (y := 3) (by decide +kernel) ?_
  refine lv_imul hx hb dX12_feed_97 ?_
  refine lv_topc (y := 24) (by decide +kernel) ?_
  refine lv_isub hx hb dX12_feed_98 ?_
  refine lv_topc (y := 0) (by decide +kernel) ?_
  refine lv_ishr hx hb dX12_feed_99 ?_
  refine lv_topi (fun v_19 ev_19 => ?_)
  refine lv_sipush (v := 255) hx hb dX12_feed_100 (by decide) ?_
  refine lv_iand hx hb dX12_feed_103 ?_
  refine lv_topi (fun v_20 ev_20 => ?_)
  refine s_i 1 1 hx hb hkb.1 hP hD hS rfl rfl (in_c (by decide +kernel)) 3 (by decide +kernel) dX12_feed_104 (fun H locs hP hD hS => ?_)
  have hP : va_P D cls [(h0, .inr (12, [.int 0, .ref a_al, .ref a_hi, .ref a_mt, .ref a_fr, .int 3, .int 0, .int 0, .int 0, .int 0, .int 0, .int 0, .int 0, .int 0, .int (-1), .ref a_rk, .int 0, .ref a_on, .ref a_aw, .ref a_ro, .int 0, .ref a_ws, .ref a_ah, .int 0, .int 0, .int 0, .ref a_cl, .ref a_us, .ref a_mo, .ref a_to, .ref a_mb, .ref a_le, .int 0, .ref a_rs, .ref a_rm, .ref a_nu])), (a_mt, .inl (cI, 900, .inl (upd f_16 3 v_20)))] H := hP
  have hD : va_D A [(h0, .inr (12, [.int 0, .ref a_al, .ref a_hi, .ref a_mt, .ref a_fr, .int 3, .int 0, .int 0, .int 0, .int 0, .int 0, .int 0, .int 0, .int 0, .int (-1), .ref a_rk, .int 0, .ref a_on, .ref a_aw, .ref a_ro, .int 0, .ref a_ws, .ref a_ah, .int 0, .int 0, .int 0, .ref a_cl, .ref a_us, .ref a_mo, .ref a_to, .ref a_mb, .ref a_le, .int 0, .ref a_rs, .ref a_rm, .ref a_nu])), (a_mt, .inl (cI, 900, .inl (upd f_16 3 v_20)))] := hD
  generalize hq9 : upd f_16 3 v_20 = f_21 at hP hD; clear hq9
  have hP : va_P D cls [(h0, .inr (12, [.int 0, .ref a_al, .ref a_hi, .ref a_mt, .ref a_fr, .int 3, .int 0, .int 0, .int 0, .int 0, .int 0, .int 0, .int 0, .int 0, .int (-1), .ref a_rk, .int 0, .ref a_on, .ref a_aw, .ref a_ro, .int 0, .ref a_ws, .ref a_ah, .int 0, .int 0, .int 0, .ref a_cl, .ref a_us, .ref a_mo, .ref a_to, .ref a_mb, .ref a_le, .int 0, .ref a_rs, .ref a_rm, .ref a_nu])), (a_mt, .inl (cI, 900, .inl f_21))] H := hP
  have hD : va_D A [(h0, .inr (12, [.int 0, .ref a_al, .ref a_hi, .ref a_mt, .ref a_fr, .int 3, .int 0, .int 0, .int 0, .int 0, .int 0, .int 0, .int 0, .int 0, .int (-1), .ref a_rk, .int 0, .ref a_on, .ref a_aw, .ref a_ro, .int 0, .ref a_ws, .ref a_ah, .int 0, .int 0, .int 0, .ref a_cl, .ref a_us, .ref a_mo, .ref a_to, .ref a_mb, .ref a_le, .int 0, .ref a_rs, .ref a_rm, .ref a_nu])), (a_mt, .inl (cI, 900, .inl f_21))] := hD
  refine lv_aload_n hx hb dX12_feed_105 rfl (lv_at hl 2 rfl) ?_
  refine lv_dup hx hb dX12_feed_106 rfl ?_
  refine va_get (D := D) (ci := 12) (v := .int 3) (C := RX12) (T := TX12) (N := 36) hx hb hts uX12 hown hkb.1 hP 0 rfl rfl 5 (by decide) (hts _ kw_1228) (fun _ h9 => h9) rfl dX12_feed_107 ?_
  refine lv_iconst (v := 1) hx hb dX12_feed_110 (by decide) ?_
  refine lv_iadd hx hb dX12_feed_111 ?_
  refine lv_topc (y := 4) (by decide +kernel) ?_
  refine va_put (D := D) (ci := 12) (v := .int 4) (ty := tyX12 5) (C := RX12) (T := TX12) (N := 36) hx hb hts uX12 tyX12 tyX12_ok nmX12 hown hkb.1 hP hD hS 0 rfl rfl 5 (by decide) (hts _ kw_1228) (fun _ h9 => h9) rfl (tyX12_ok 5 (by decide)) rfl rfl (Nat.le_of_ble_eq_true rfl) dX12_feed_112 (fun H locs hP hD hS => ?_)
  have hP : va_P D cls [(h0, .inr (12, [.int 0, .ref a_al, .ref a_hi, .ref a_mt, .ref a_fr, .int 4, .int 0, .int 0, .int 0, .int 0, .int 0, .int 0, .int 0, .int 0, .int (-1), .ref a_rk, .int 0, .ref a_on, .ref a_aw, .ref a_ro, .int 0, .ref a_ws, .ref a_ah, .int 0, .int 0, .int 0, .ref a_cl, .ref a_us, .ref a_mo, .ref a_to, .ref a_mb, .ref a_le, .int 0, .ref a_rs, .ref a_rm, .ref a_nu])), (a_mt, .inl (cI, 900, .inl f_21))] H := hP
  have hD : va_D A [(h0, .inr (12, [.int 0, .ref a_al, .ref a_hi, .ref a_mt, .ref a_fr, .int 4, .int 0, .int 0, .int 0, .int 0, .int 0, .int 0, .int 0, .int 0, .int (-1), .ref a_rk, .int 0, .ref a_on, .ref a_aw, .ref a_ro, .int 0, .ref a_ws, .ref a_ah, .int 0, .int 0, .int 0, .ref a_cl, .ref a_us, .ref a_mo, .ref a_to, .ref a_mb, .ref a_le, .int 0, .ref a_rs, .ref a_rm, .ref a_nu])), (a_mt, .inl (cI, 900, .inl f_21))] := hD
  refine lv_iinc (v := 4) (lv' := [(6, .int 4), (7, .int i_0), (0, .ref h0), (1, .int i_0), (2, .int i_1), (3, .int i_2), (4, .int i_3), (5, .int i_4)]) hx hb dX12_feed_115 hl (k := 1) rfl (by decide) (by decide) rfl (fun ls hl => ?_)
  refine lv_goto (tgt := 24) hx hb dX12_feed_118 (by decide) ?_
  refine lv_iload hx hb dX12_feed_24 (lv_at hl 0 rfl) ?_
  refine lv_bipush (v := 20) hx hb dX12_feed_26 (by decide) ?_
  refine lv_icmp_ge (tgt := 121) hx hb dX12_feed_28 (by decide) (fun c_22 => absurd c_22 (by decide)) (fun _ => ?_)
  refine lv_iload hx hb dX12_feed_31 (lv_at hl 0 rfl) ?_
  refine lv_iconst (v := 4) hx hb dX12_feed_33 (by decide) ?_
  refine lv_icmp_ge (tgt := 41) hx hb dX12_feed_34 (by decide) (fun _ => ?_) (fun c_23 => absurd c_23 (by decide))
  refine lv_iload hx hb dX12_feed_41 (lv_at hl 0 rfl) ?_
  refine lv_bipush (v := 8) hx hb dX12_feed_43 (by decide) ?_
  refine lv_icmp_ge (tgt := 52) hx hb dX12_feed_45 (by decide) (fun c_24 => absurd c_24 (by decide)) (fun _ => ?_)
  refine lv_iload_n hx hb dX12_feed_48 rfl (lv_at hl 4 rfl) ?_
  refine lv_goto (tgt := 77) hx hb dX12_feed_49 (by decide) ?_
  refine lv_istore (lv' := [(7, .int i_1), (6, .int 4), (0, .ref h0), (1, .int i_0), (2, .int i_1), (3, .int i_2), (4, .int i_3), (5, .int i_4)]) hx hb dX12_feed_77 hl (by decide) rfl (fun ls hl => ?_)
  refine lv_aload_n hx hb dX12_feed_79 rfl (lv_at hl 2 rfl) ?_
  refine va_get (D := D) (ci := 12) (v := .ref a_mt) (C := RX12) (T := TX12) (N := 36) hx hb hts uX12 hown hkb.1 hP 0 rfl rfl 3 (by decide) (hts _ kw_1226) (fun _ h9 => h9) rfl dX12_feed_80 ?_
  refine lv_aload_n hx hb dX12_feed_83 rfl (lv_at hl 2 rfl) ?_
  refine va_get (D := D) (ci := 12) (v := .int 4) (C := RX12) (T := TX12) (N := 36) hx hb hts uX12 hown hkb.1 hP 0 rfl rfl 5 (by decide) (hts _ kw_1228) (fun _ h9 => h9) rfl dX12_feed_84 ?_
  refine lv_iload hx hb dX12_feed_87 (lv_at hl 0 rfl) ?_
  refine lv_bipush (v := 24) hx hb dX12_feed_89 (by decide) ?_
  refine lv_bipush (v := 8) hx hb dX12_feed_91 (by decide) ?_
  refine lv_iload hx hb dX12_feed_93 (lv_at hl 1 rfl) ?_
  refine lv_iconst (v := 4) hx hb dX12_feed_95 (by decide) ?_
  refine lv_irem hx hb dX12_feed_96 (by decide) ?_
  refine lv_topc (y := 0) (by decide +kernel) ?_
  refine lv_imul hx hb dX12_feed_97 ?_
  refine lv_topc (y := 0) (by decide +kernel) ?_
  refine lv_isub hx hb dX12_feed_98 ?_
  refine lv_topc (y := 24) (by decide +kernel) ?_
  refine lv_ishr hx hb dX12_feed_99 ?_
  refine lv_topi (fun v_25 ev_25 => ?_)
  refine lv_sipush (v := 255) hx hb dX12_feed_100 (by decide) ?_
  refine lv_iand hx hb dX12_feed_103 ?_
  refine lv_topi (fun v_26 ev_26 => ?_)
  refine s_i 1 1 hx hb hkb.1 hP hD hS rfl rfl (in_c (by decide +kernel)) 4 (by decide +kernel) dX12_feed_104 (fun H locs hP hD hS => ?_)
  have hP : va_P D cls [(h0, .inr (12, [.int 0, .ref a_al, .ref a_hi, .ref a_mt, .ref a_fr, .int 4, .int 0, .int 0, .int 0, .int 0, .int 0, .int 0, .int 0, .int 0, .int (-1), .ref a_rk, .int 0, .ref a_on, .ref a_aw, .ref a_ro, .int 0, .ref a_ws, .ref a_ah, .int 0, .int 0, .int 0, .ref a_cl, .ref a_us, .ref a_mo, .ref a_to, .ref a_mb, .ref a_le, .int 0, .ref a_rs, .ref a_rm, .ref a_nu])), (a_mt, .inl (cI, 900, .inl (upd f_21 4 v_26)))] H := hP
  have hD : va_D A [(h0, .inr (12, [.int 0, .ref a_al, .ref a_hi, .ref a_mt, .ref a_fr, .int 4, .int 0, .int 0, .int 0, .int 0, .int 0, .int 0, .int 0, .int 0, .int (-1), .ref a_rk, .int 0, .ref a_on, .ref a_aw, .ref a_ro, .int 0, .ref a_ws, .ref a_ah, .int 0, .int 0, .int 0, .ref a_cl, .ref a_us, .ref a_mo, .ref a_to, .ref a_mb, .ref a_le, .int 0, .ref a_rs, .ref a_rm, .ref a_nu])), (a_mt, .inl (cI, 900, .inl (upd f_21 4 v_26)))] := hD
  generalize hq9 : upd f_21 4 v_26 = f_27 at hP hD; clear hq9
  have hP : va_P D cls [(h0, .inr (12, [.int 0, .ref a_al, .ref a_hi, .ref a_mt, .ref a_fr, .int 4, .int 0, .int 0, .int 0, .int 0, .int 0, .int 0, .int 0, .int 0, .int (-1), .ref a_rk, .int 0, .ref a_on, .ref a_aw, .ref a_ro, .int 0, .ref a_ws, .ref a_ah, .int 0, .int 0, .int 0, .ref a_cl, .ref a_us, .ref a_mo, .ref a_to, .ref a_mb, .ref a_le, .int 0, .ref a_rs, .ref a_rm, .ref a_nu])), (a_mt, .inl (cI, 900, .inl f_27))] H := hP
  have hD : va_D A [(h0, .inr (12, [.int 0, .ref a_al, .ref a_hi, .ref a_mt, .ref a_fr, .int 4, .int 0, .int 0, .int 0, .int 0, .int 0, .int 0, .int 0, .int 0, .int (-1), .ref a_rk, .int 0, .ref a_on, .ref a_aw, .ref a_ro, .int 0, .ref a_ws, .ref a_ah, .int 0, .int 0, .int 0, .ref a_cl, .ref a_us, .ref a_mo, .ref a_to, .ref a_mb, .ref a_le, .int 0, .ref a_rs, .ref a_rm, .ref a_nu])), (a_mt, .inl (cI, 900, .inl f_27))] := hD
  refine lv_aload_n hx hb dX12_feed_105 rfl (lv_at hl 2 rfl) ?_
  refine lv_dup hx hb dX12_feed_106 rfl ?_
  refine va_get (D := D) (ci := 12) (v := .int 4) (C := RX12) (T := TX12) (N := 36) hx hb hts uX12 hown hkb.1 hP 0 rfl rfl 5 (by decide) (hts _ kw_1228) (fun _ h9 => h9) rfl dX12_feed_107 ?_
  refine lv_iconst (v := 1) hx hb dX12_feed_110 (by decide) ?_
  refine lv_iadd hx hb dX12_feed_111 ?_
  refine lv_topc (y := 5) (by decide +kernel) ?_
  refine va_put (D := D) (ci := 12) (v := .int 5) (ty := tyX12 5) (C := RX12) (T := TX12) (N := 36) hx hb hts uX12 tyX12 tyX12_ok nmX12 hown hkb.1 hP hD hS 0 rfl rfl 5 (by decide) (hts _ kw_1228) (fun _ h9 => h9) rfl (tyX12_ok 5 (by decide)) rfl rfl (Nat.le_of_ble_eq_true rfl) dX12_feed_112 (fun H locs hP hD hS => ?_)
  have hP : va_P D cls [(h0, .inr (12, [.int 0, .ref a_al, .ref a_hi, .ref a_mt, .ref a_fr, .int 5, .int 0, .int 0, .int 0, .int 0, .int 0, .int 0, .int 0, .int 0, .int (-1), .ref a_rk, .int 0, .ref a_on, .ref a_aw, .ref a_ro, .int 0, .ref a_ws, .ref a_ah, .int 0, .int 0, .int 0, .ref a_cl, .ref a_us, .ref a_mo, .ref a_to, .ref a_mb, .ref a_le, .int 0, .ref a_rs, .ref a_rm, .ref a_nu])), (a_mt, .inl (cI, 900, .inl f_27))] H := hP
  have hD : va_D A [(h0, .inr (12, [.int 0, .ref a_al, .ref a_hi, .ref a_mt, .ref a_fr, .int 5, .int 0, .int 0, .int 0, .int 0, .int 0, .int 0, .int 0, .int 0, .int (-1), .ref a_rk, .int 0, .ref a_on, .ref a_aw, .ref a_ro, .int 0, .ref a_ws, .ref a_ah, .int 0, .int 0, .int 0, .ref a_cl, .ref a_us, .ref a_mo, .ref a_to, .ref a_mb, .ref a_le, .int 0, .ref a_rs, .ref a_rm, .ref a_nu])), (a_mt, .inl (cI, 900, .inl f_27))] := hD
  refine lv_iinc (v := 5) (lv' := [(6, .int 5), (7, .int i_1), (0, .ref h0), (1, .int i_0), (2, .int i_1), (3, .int i_2), (4, .int i_3), (5, .int i_4)]) hx hb dX12_feed_115 hl (k := 1) rfl (by decide) (by decide) rfl (fun ls hl => ?_)
  refine lv_goto (tgt := 24) hx hb dX12_feed_118 (by decide) ?_
  refine lv_iload hx hb dX12_feed_24 (lv_at hl 0 rfl) ?_
  refine lv_bipush (v := 20) hx hb dX12_feed_26 (by decide) ?_
  refine lv_icmp_ge (tgt := 121) hx hb dX12_feed_28 (by decide) (fun c_28 => absurd c_28 (by decide)) (fun _ => ?_)
  refine lv_iload hx hb dX12_feed_31 (lv_at hl 0 rfl) ?_
  refine lv_iconst (v := 4) hx hb dX12_feed_33 (by decide) ?_
  refine lv_icmp_ge (tgt := 41) hx hb dX12_feed_34 (by decide) (fun _ => ?_) (fun c_29 => absurd c_29 (by decide))
  refine lv_iload hx hb dX12_feed_41 (lv_at hl 0 rfl) ?_
  refine lv_bipush (v := 8) hx hb dX12_feed_43 (by decide) ?_
  refine lv_icmp_ge (tgt := 52) hx hb dX12_feed_45 (by decide) (fun c_30 => absurd c_30 (by decide)) (fun _ => ?_)
  refine lv_iload_n hx hb dX12_feed_48 rfl (lv_at hl 4 rfl) ?_
  refine lv_goto (tgt := 77) hx hb dX12_feed_49 (by decide) ?_
  refine lv_istore (lv' := [(7, .int i_1), (6, .int 5), (0, .ref h0), (1, .int i_0), (2, .int i_1), (3, .int i_2), (4, .int i_3), (5, .int i_4)]) hx hb dX12_feed_77 hl (by decide) rfl (fun ls hl => ?_)
  refine lv_aload_n hx hb dX12_feed_79 rfl (lv_at hl 2 rfl) ?_
  refine va_get (D := D) (ci := 12) (v := .ref a_mt) (C := RX12) (T := TX12) (N := 36) hx hb hts uX12 hown hkb.1 hP 0 rfl rfl 3 (by decide) (hts _ kw_1226) (fun _ h9 => h9) rfl dX12_feed_80 ?_
  refine lv_aload_n hx hb dX12_feed_83 rfl (lv_at hl 2 rfl) ?_
  refine va_get (D := D) (ci := 12) (v := .int 5) (C := RX12) (T := TX12) (N := 36) hx hb hts uX12 hown hkb.1 hP 0 rfl rfl 5 (by decide) (hts _ kw_1228) (fun _ h9 => h9) rfl dX12_feed_84 ?_
  refine lv_iload hx hb dX12_feed_87 (lv_at hl 0 rfl) ?_
  refine lv_bipush (v := 24) hx hb dX12_feed_89 (by decide) ?_
  refine lv_bipush (v := 8) hx hb dX12_feed_91 (by decide) ?_
  refine lv_iload hx hb dX12_feed_93 (lv_at hl 1 rfl) ?_
  refine lv_iconst (v := 4) hx hb dX12_feed_95 (by decide) ?_
  refine lv_irem hx hb dX12_feed_96 (by decide) ?_
  refine lv_topc (y := 1) (by decide +kernel) ?_
  refine lv_imul hx hb dX12_feed_97 ?_
  refine lv_topc (y := 8) (by decide +kernel) ?_
  refine lv_isub hx hb dX12_feed_98 ?_
  refine lv_topc (y := 16) (by decide +kernel) ?_
  refine lv_ishr hx hb dX12_feed_99 ?_
  refine lv_topi (fun v_31 ev_31 => ?_)
  refine lv_sipush (v := 255) hx hb dX12_feed_100 (by decide) ?_
  refine lv_iand hx hb dX12_feed_103 ?_
  refine lv_topi (fun v_32 ev_32 => ?_)
  refine s_i 1 1 hx hb hkb.1 hP hD hS rfl rfl (in_c (by decide +kernel)) 5 (by decide +kernel) dX12_feed_104 (fun H locs hP hD hS => ?_)
  have hP : va_P D cls [(h0, .inr (12, [.int 0, .ref a_al, .ref a_hi, .ref a_mt, .ref a_fr, .int 5, .int 0, .int 0, .int 0, .int 0, .int 0, .int 0, .int 0, .int 0, .int (-1), .ref a_rk, .int 0, .ref a_on, .ref a_aw, .ref a_ro, .int 0, .ref a_ws, .ref a_ah, .int 0, .int 0, .int 0, .ref a_cl, .ref a_us, .ref a_mo, .ref a_to, .ref a_mb, .ref a_le, .int 0, .ref a_rs, .ref a_rm, .ref a_nu])), (a_mt, .inl (cI, 900, .inl (upd f_27 5 v_32)))] H := hP
  have hD : va_D A [(h0, .inr (12, [.int 0, .ref a_al, .ref a_hi, .ref a_mt, .ref a_fr, .int 5, .int 0, .int 0, .int 0, .int 0, .int 0, .int 0, .int 0, .int 0, .int (-1), .ref a_rk, .int 0, .ref a_on, .ref a_aw, .ref a_ro, .int 0, .ref a_ws, .ref a_ah, .int 0, .int 0, .int 0, .ref a_cl, .ref a_us, .ref a_mo, .ref a_to, .ref a_mb, .ref a_le, .int 0, .ref a_rs, .ref a_rm, .ref a_nu])), (a_mt, .inl (cI, 900, .inl (upd f_27 5 v_32)))] := hD
  generalize hq9 : upd f_27 5 v_32 = f_33 at hP hD; clear hq9
  have hP : va_P D cls [(h0, .inr (12, [.int 0, .ref a_al, .ref a_hi, .ref a_mt, .ref a_fr, .int 5, .int 0, .int 0, .int 0, .int 0, .int 0, .int 0, .int 0, .int 0, .int (-1), .ref a_rk, .int 0, .ref a_on, .ref a_aw, .ref a_ro, .int 0, .ref a_ws, .ref a_ah, .int 0, .int 0, .int 0, .ref a_cl, .ref a_us, .ref a_mo, .ref a_to, .ref a_mb, .ref a_le, .int 0, .ref a_rs, .ref a_rm, .ref a_nu])), (a_mt, .inl (cI, 900, .inl f_33))] H := hP
  have hD : va_D A [(h0, .inr (12, [.int 0, .ref a_al, .ref a_hi, .ref a_mt, .ref a_fr, .int 5, .int 0, .int 0, .int 0, .int 0, .int 0, .int 0, .int 0, .int 0, .int (-1), .ref a_rk, .int 0, .ref a_on, .ref a_aw, .ref a_ro, .int 0, .ref a_ws, .ref a_ah, .int 0, .int 0, .int 0, .ref a_cl, .ref a_us, .ref a_mo, .ref a_to, .ref a_mb, .ref a_le, .int 0, .ref a_rs, .ref a_rm, .ref a_nu])), (a_mt, .inl (cI, 900, .inl f_33))] := hD
  refine lv_aload_n hx hb dX12_feed_105 rfl (lv_at hl 2 rfl) ?_
  refine lv_dup hx hb dX12_feed_106 rfl ?_
  refine va_get (D := D) (ci := 12) (v := .int 5) (C := RX12) (T := TX12) (N := 36) hx hb hts uX12 hown hkb.1 hP 0 rfl rfl 5 (by decide) (hts _ kw_1228) (fun _ h9 => h9) rfl dX12_feed_107 ?_
  refine lv_iconst (v := 1) hx hb dX12_feed_110 (by decide) ?_
  refine lv_iadd hx hb dX12_feed_111 ?_
  refine lv_topc (y := 6) (by decide +kernel) ?_
  refine va_put (D := D) (ci := 12) (v := .int 6) (ty := tyX12 5) (C := RX12) (T := TX12) (N := 36) hx hb hts uX12 tyX12 tyX12_ok nmX12 hown hkb.1 hP hD hS 0 rfl rfl 5 (by decide) (hts _ kw_1228) (fun _ h9 => h9) rfl (tyX12_ok 5 (by decide)) rfl rfl (Nat.le_of_ble_eq_true rfl) dX12_feed_112 (fun H locs hP hD hS => ?_)
  have hP : va_P D cls [(h0, .inr (12, [.int 0, .ref a_al, .ref a_hi, .ref a_mt, .ref a_fr, .int 6, .int 0, .int 0, .int 0, .int 0, .int 0, .int 0, .int 0, .int 0, .int (-1), .ref a_rk, .int 0, .ref a_on, .ref a_aw, .ref a_ro, .int 0, .ref a_ws, .ref a_ah, .int 0, .int 0, .int 0, .ref a_cl, .ref a_us, .ref a_mo, .ref a_to, .ref a_mb, .ref a_le, .int 0, .ref a_rs, .ref a_rm, .ref a_nu])), (a_mt, .inl (cI, 900, .inl f_33))] H := hP
  have hD : va_D A [(h0, .inr (12, [.int 0, .ref a_al, .ref a_hi, .ref a_mt, .ref a_fr, .int 6, .int 0, .int 0, .int 0, .int 0, .int 0, .int 0, .int 0, .int 0, .int (-1), .ref a_rk, .int 0, .ref a_on, .ref a_aw, .ref a_ro, .int 0, .ref a_ws, .ref a_ah, .int 0, .int 0, .int 0, .ref a_cl, .ref a_us, .ref a_mo, .ref a_to, .ref a_mb, .ref a_le, .int 0, .ref a_rs, .ref a_rm, .ref a_nu])), (a_mt, .inl (cI, 900, .inl f_33))] := hD
  refine lv_iinc (v := 6) (lv' := [(6, .int 6), (7, .int i_1), (0, .ref h0), (1, .int i_0), (2, .int i_1), (3, .int i_2), (4, .int i_3), (5, .int i_4)]) hx hb dX12_feed_115 hl (k := 1) rfl (by decide) (by decide) rfl (fun ls hl => ?_)
  refine lv_goto (tgt := 24) hx hb dX12_feed_118 (by decide) ?_
  refine lv_iload hx hb dX12_feed_24 (lv_at hl 0 rfl) ?_
  refine lv_bipush (v := 20) hx hb dX12_feed_26 (by decide) ?_
  refine lv_icmp_ge (tgt := 121) hx hb dX12_feed_28 (by decide) (fun c_34 => absurd c_34 (by decide)) (fun _ => ?_)
  refine lv_iload hx hb dX12_feed_31 (lv_at hl 0 rfl) ?_
  refine lv_iconst (v := 4) hx hb dX12_feed_33 (by decide) ?_
  refine lv_icmp_ge (tgt := 41) hx hb dX12_feed_34 (by decide) (fun _ => ?_) (fun c_35 => absurd c_35 (by decide))
  refine lv_iload hx hb dX12_feed_41 (lv_at hl 0 rfl) ?_
  refine lv_bipush (v := 8) hx hb dX12_feed_43 (by decide) ?_
  refine lv_icmp_ge (tgt := 52) hx hb dX12_feed_45 (by decide) (fun c_36 => absurd c_36 (by decide)) (fun _ => ?_)
  refine lv_iload_n hx hb dX12_feed_48 rfl (lv_at hl 4 rfl) ?_
  refine lv_goto (tgt := 77) hx hb dX12_feed_49 (by decide) ?_
  refine lv_istore (lv' := [(7, .int i_1), (6, .int 6), (0, .ref h0), (1, .int i_0), (2, .int i_1), (3, .int i_2), (4, .int i_3), (5, .int i_4)]) hx hb dX12_feed_77 hl (by decide) rfl (fun ls hl => ?_)
  refine lv_aload_n hx hb dX12_feed_79 rfl (lv_at hl 2 rfl) ?_
  refine va_get (D := D) (ci := 12) (v := .ref a_mt) (C := RX12) (T := TX12) (N := 36) hx hb hts uX12 hown hkb.1 hP 0 rfl rfl 3 (by decide) (hts _ kw_1226) (fun _ h9 => h9) rfl dX12_feed_80 ?_
  refine lv_aload_n hx hb dX12_feed_83 rfl (lv_at hl 2 rfl) ?_
  refine va_get (D := D) (ci := 12) (v := .int 6) (C := RX12) (T := TX12) (N := 36) hx hb hts uX12 hown hkb.1 hP 0 rfl rfl 5 (by decide) (hts _ kw_1228) (fun _ h9 => h9) rfl dX12_feed_84 ?_
  refine lv_iload hx hb dX12_feed_87 (lv_at hl 0 rfl) ?_
  refine lv_bipush (v := 24) hx hb dX12_feed_89 (by decide) ?_
  refine lv_bipush (v := 8) hx hb dX12_feed_91 (by decide) ?_
  refine lv_iload hx hb dX12_feed_93 (lv_at hl 1 rfl) ?_
  refine lv_iconst (v := 4) hx hb dX12_feed_95 (by decide) ?_
  refine lv_irem hx hb dX12_feed_96 (by decide) ?_
  refine lv_topc (y := 2) (by decide +kernel) ?_
  refine lv_imul hx hb dX12_feed_97 ?_
  refine lv_topc (y := 16) (by decide +kernel) ?_
  refine lv_isub hx hb dX12_feed_98 ?_
  refine lv_topc (y := 8) (by decide +kernel) ?_
  refine lv_ishr hx hb dX12_feed_99 ?_
  refine lv_topi (fun v_37 ev_37 => ?_)
  refine lv_sipush (v := 255) hx hb dX12_feed_100 (by decide) ?_
  refine lv_iand hx hb dX12_feed_103 ?_
  refine lv_topi (fun v_38 ev_38 => ?_)
  refine s_i 1 1 hx hb hkb.1 hP hD hS rfl rfl (in_c (by decide +kernel)) 6 (by decide +kernel) dX12_feed_104 (fun H locs hP hD hS => ?_)
  have hP : va_P D cls [(h0, .inr (12, [.int 0, .ref a_al, .ref a_hi, .ref a_mt, .ref a_fr, .int 6, .int 0, .int 0, .int 0, .int 0, .int 0, .int 0, .int 0, .int 0, .int (-1), .ref a_rk, .int 0, .ref a_on, .ref a_aw, .ref a_ro, .int 0, .ref a_ws, .ref a_ah, .int 0, .int 0, .int 0, .ref a_cl, .ref a_us, .ref a_mo, .ref a_to, .ref a_mb, .ref a_le, .int 0, .ref a_rs, .ref a_rm, .ref a_nu])), (a_mt, .inl (cI, 900, .inl (upd f_33 6 v_38)))] H := hP
  have hD : va_D A [(h0, .inr (12, [.int 0, .ref a_al, .ref a_hi, .ref a_mt, .ref a_fr, .int 6, .int 0, .int 0, .int 0, .int 0, .int 0, .int 0, .int 0, .int 0, .int (-1), .ref a_rk, .int 0, .ref a_on, .ref a_aw, .ref a_ro, .int 0, .ref a_ws, .ref a_ah, .int 0, .int 0, .int 0, .ref a_cl, .ref a_us, .ref a_mo, .ref a_to, .ref a_mb, .ref a_le, .int 0, .ref a_rs, .ref a_rm, .ref a_nu])), (a_mt, .inl (cI, 900, .inl (upd f_33 6 v_38)))] := hD
  generalize hq9 : upd f_33 6 v_38 = f_39 at hP hD; clear hq9
  have hP : va_P D cls [(h0, .inr (12, [.int 0, .ref a_al, .ref a_hi, .ref a_mt, .ref a_fr, .int 6, .int 0, .int 0, .int 0, .int 0, .int 0, .int 0, .int 0, .int 0, .int (-1), .ref a_rk, .int 0, .ref a_on, .ref a_aw, .ref a_ro, .int 0, .ref a_ws, .ref a_ah, .int 0, .int 0, .int 0, .ref a_cl, .ref a_us, .ref a_mo, .ref a_to, .ref a_mb, .ref a_le, .int 0, .ref a_rs, .ref a_rm, .ref a_nu])), (a_mt, .inl (cI, 900, .inl f_39))] H := hP
  have hD : va_D A [(h0, .inr (12, [.int 0, .ref a_al, .ref a_hi, .ref a_mt, .ref a_fr, .int 6, .int 0, .int 0, .int 0, .int 0, .int 0, .int 0, .int 0, .int 0, .int (-1), .ref a_rk, .int 0, .ref a_on, .ref a_aw, .ref a_ro, .int 0, .ref a_ws, .ref a_ah, .int 0, .int 0, .int 0, .ref a_cl, .ref a_us, .ref a_mo, .ref a_to, .ref a_mb, .ref a_le, .int 0, .ref a_rs, .ref a_rm, .ref a_nu])), (a_mt, .inl (cI, 900, .inl f_39))] := hD
  refine lv_aload_n hx hb dX12_feed_105 rfl (lv_at hl 2 rfl) ?_
  refine lv_dup hx hb dX12_feed_106 rfl ?_
  refine va_get (D := D) (ci := 12) (v := .int 6) (C := RX12) (T := TX12) (N := 36) hx hb hts uX12 hown hkb.1 hP 0 rfl rfl 5 (by decide) (hts _ kw_1228) (fun _ h9 => h9) rfl dX12_feed_107 ?_
  refine lv_iconst (v := 1) hx hb dX12_feed_110 (by decide) ?_
  refine lv_iadd hx hb dX12_feed_111 ?_
  refine lv_topc (y := 7) (by decide +kernel) ?_
  refine va_put (D := D) (ci := 12) (v := .int 7) (ty := tyX12 5) (C := RX12) (T := TX12) (N := 36) hx hb hts uX12 tyX12 tyX12_ok nmX12 hown hkb.1 hP hD hS 0 rfl rfl 5 (by decide) (hts _ kw_1228) (fun _ h9 => h9) rfl (tyX12_ok 5 (by decide)) rfl rfl (Nat.le_of_ble_eq_true rfl) dX12_feed_112 (fun H locs hP hD hS => ?_)
  have hP : va_P D cls [(h0, .inr (12, [.int 0, .ref a_al, .ref a_hi, .ref a_mt, .ref a_fr, .int 7, .int 0, .int 0, .int 0, .int 0, .int 0, .int 0, .int 0, .int 0, .int (-1), .ref a_rk, .int 0, .ref a_on, .ref a_aw, .ref a_ro, .int 0, .ref a_ws, .ref a_ah, .int 0, .int 0, .int 0, .ref a_cl, .ref a_us, .ref a_mo, .ref a_to, .ref a_mb, .ref a_le, .int 0, .ref a_rs, .ref a_rm, .ref a_nu])), (a_mt, .inl (cI, 900, .inl f_39))] H := hP
  have hD : va_D A [(h0, .inr (12, [.int 0, .ref a_al, .ref a_hi, .ref a_mt, .ref a_fr, .int 7, .int 0, .int 0, .int 0, .int 0, .int 0, .int 0, .int 0, .int 0, .int (-1), .ref a_rk, .int 0, .ref a_on, .ref a_aw, .ref a_ro, .int 0, .ref a_ws, .ref a_ah, .int 0, .int 0, .int 0, .ref a_cl, .ref a_us, .ref a_mo, .ref a_to, .ref a_mb, .ref a_le, .int 0, .ref a_rs, .ref a_rm, .ref a_nu])), (a_mt, .inl (cI, 900, .inl f_39))] := hD
  refine lv_iinc (v := 7) (lv' := [(6, .int 7), (7, .int i_1), (0, .ref h0), (1, .int i_0), (2, .int i_1), (3, .int i_2), (4, .int i_3), (5, .int i_4)]) hx hb dX12_feed_115 hl (k := 1) rfl (by decide) (by decide) rfl (fun ls hl => ?_)
  refine lv_goto (tgt := 24) hx hb dX12_feed_118 (by decide) ?_
  refine lv_iload hx hb dX12_feed_24 (lv_at hl 0 rfl) ?_
  refine lv_bipush (v := 20) hx hb dX12_feed_26 (by decide) ?_
  refine lv_icmp_ge (tgt := 121) hx hb dX12_feed_28 (by decide) (fun c_40 => absurd c_40 (by decide)) (fun _ => ?_)
  refine lv_iload hx hb dX12_feed_31 (lv_at hl 0 rfl) ?_
  refine lv_iconst (v := 4) hx hb dX12_feed_33 (by decide) ?_
  refine lv_icmp_ge (tgt := 41) hx hb dX12_feed_34 (by decide) (fun _ => ?_) (fun c_41 => absurd c_41 (by decide))
  refine lv_iload hx hb dX12_feed_41 (lv_at hl 0 rfl) ?_
  refine lv_bipush (v := 8) hx hb dX12_feed_43 (by decide) ?_
  refine lv_icmp_ge (tgt := 52) hx hb dX12_feed_45 (by decide) (fun c_42 => absurd c_42 (by decide)) (fun _ => ?_)
  refine lv_iload_n hx hb dX12_feed_48 rfl (lv_at hl 4 rfl) ?_
  refine lv_goto (tgt := 77) hx hb dX12_feed_49 (by decide) ?_
  refine lv_istore (lv' := [(7, .int i_1), (6, .int 7), (0, .ref h0), (1, .int i_0), (2, .int i_1), (3, .int i_2), (4, .int i_3), (5, .int i_4)]) hx hb dX12_feed_77 hl (by decide) rfl (fun ls hl => ?_)
  refine lv_aload_n hx hb dX12_feed_79 rfl (lv_at hl 2 rfl) ?_
  refine va_get (D := D) (ci := 12) (v := .ref a_mt) (C := RX12) (T := TX12) (N := 36) hx hb hts uX12 hown hkb.1 hP 0 rfl rfl 3 (by decide) (hts _ kw_1226) (fun _ h9 => h9) rfl dX12_feed_80 ?_
  refine lv_aload_n hx hb dX12_feed_83 rfl (lv_at hl 2 rfl) ?_
  refine va_get (D := D) (ci := 12) (v := .int 7) (C := RX12) (T := TX12) (N := 36) hx hb hts uX12 hown hkb.1 hP 0 rfl rfl 5 (by decide) (hts _ kw_1228) (fun _ h9 => h9) rfl dX12_feed_84 ?_
  refine lv_iload hx hb dX12_feed_87 (lv_at hl 0 rfl) ?_
  refine lv_bipush (v := 24) hx hb dX12_feed_89 (by decide) ?_
  refine lv_bipush (v := 8) hx hb dX12_feed_91 (by decide) ?_
  refine lv_iload hx hb dX12_feed_93 (lv_at hl 1 rfl) ?_
  refine lv_iconst (v := 4) hx hb dX12_feed_95 (by decide) ?_
  refine lv_irem hx hb dX12_feed_96 (by decide) ?_
  refine lv_topc (y := 3) (by decide +kernel) ?_
  refine lv_imul hx hb dX12_feed_97 ?_
  refine lv_topc (y := 24) (by decide +kernel) ?_
  refine lv_isub hx hb dX12_feed_98 ?_
  refine lv_topc (y := 0) (by decide +kernel) ?_
  refine lv_ishr hx hb dX12_feed_99 ?_
  refine lv_topi (fun v_43 ev_43 => ?_)
  refine lv_sipush (v := 255) hx hb dX12_feed_100 (by decide) ?_
  refine lv_iand hx hb dX12_feed_103 ?_
  refine lv_topi (fun v_44 ev_44 => ?_)
  refine s_i 1 1 hx hb hkb.1 hP hD hS rfl rfl (in_c (by decide +kernel)) 7 (by decide +kernel) dX12_feed_104 (fun H locs hP hD hS => ?_)
  have hP : va_P D cls [(h0, .inr (12, [.int 0, .ref a_al, .ref a_hi, .ref a_mt, .ref a_fr, .int 7, .int 0, .int 0, .int 0, .int 0, .int 0, .int 0, .int 0, .int 0, .int (-1), .ref a_rk, .int 0, .ref a_on, .ref a_aw, .ref a_ro, .int 0, .ref a_ws, .ref a_ah, .int 0, .int 0, .int 0, .ref a_cl, .ref a_us, .ref a_mo, .ref a_to, .ref a_mb, .ref a_le, .int 0, .ref a_rs, .ref a_rm, .ref a_nu])), (a_mt, .inl (cI, 900, .inl (upd f_39 7 v_44)))] H := hP
  have hD : va_D A [(h0, .inr (12, [.int 0, .ref a_al, .ref a_hi, .ref a_mt, .ref a_fr, .int 7, .int 0, .int 0, .int 0, .int 0, .int 0, .int 0, .int 0, .int 0, .int (-1), .ref a_rk, .int 0, .ref a_on, .ref a_aw, .ref a_ro, .int 0, .ref a_ws, .ref a_ah, .int 0, .int 0, .int 0, .ref a_cl, .ref a_us, .ref a_mo, .ref a_to, .ref a_mb, .ref a_le, .int 0, .ref a_rs, .ref a_rm, .ref a_nu])), (a_mt, .inl (cI, 900, .inl (upd f_39 7 v_44)))] := hD
  generalize hq9 : upd f_39 7 v_44 = f_45 at hP hD; clear hq9
  have hP : va_P D cls [(h0, .inr (12, [.int 0, .ref a_al, .ref a_hi, .ref a_mt, .ref a_fr, .int 7, .int 0, .int 0, .int 0, .int 0, .int 0, .int 0, .int 0, .int 0, .int (-1), .ref a_rk, .int 0, .ref a_on, .ref a_aw, .ref a_ro, .int 0, .ref a_ws, .ref a_ah, .int 0, .int 0, .int 0, .ref a_cl, .ref a_us, .ref a_mo, .ref a_to, .ref a_mb, .ref a_le, .int 0, .ref a_rs, .ref a_rm, .ref a_nu])), (a_mt, .inl (cI, 900, .inl f_45))] H := hP
  have hD : va_D A [(h0, .inr (12, [.int 0, .ref a_al, .ref a_hi, .ref a_mt, .ref a_fr, .int 7, .int 0, .int 0, .int 0, .int 0, .int 0, .int 0, .int 0, .int 0, .int (-1), .ref a_rk, .int 0, .ref a_on, .ref a_aw, .ref a_ro, .int 0, .ref a_ws, .ref a_ah, .int 0, .int 0, .int 0, .ref a_cl, .ref a_us, .ref a_mo, .ref a_to, .ref a_mb, .ref a_le, .int 0, .ref a_rs, .ref a_rm, .ref a_nu])), (a_mt, .inl (cI, 900, .inl f_45))] := hD
  refine lv_aload_n hx hb dX12_feed_105 rfl (lv_at hl 2 rfl) ?_
  refine lv_dup hx hb dX12_feed_106 rfl ?_
  refine va_get (D := D) (ci := 12) (v := .int 7) (C := RX12) (T := TX12) (N := 36) hx hb hts uX12 hown hkb.1 hP 0 rfl rfl 5 (by decide) (hts _ kw_1228) (fun _ h9 => h9) rfl dX12_feed_107 ?_
  refine lv_iconst (v := 1) hx hb dX12_feed_110 (by decide) ?_
  refine lv_iadd hx hb dX12_feed_111 ?_
  refine lv_topc (y := 8) (by decide +kernel) ?_
  refine va_put (D := D) (ci := 12) (v := .int 8) (ty := tyX12 5) (C := RX12) (T := TX12) (N := 36) hx hb hts uX12 tyX12 tyX12_ok nmX12 hown hkb.1 hP hD hS 0 rfl rfl 5 (by decide) (hts _ kw_1228) (fun _ h9 => h9) rfl (tyX12_ok 5 (by decide)) rfl rfl (Nat.le_of_ble_eq_true rfl) dX12_feed_112 (fun H locs hP hD hS => ?_)
  have hP : va_P D cls [(h0, .inr (12, [.int 0, .ref a_al, .ref a_hi, .ref a_mt, .ref a_fr, .int 8, .int 0, .int 0, .int 0, .int 0, .int 0, .int 0, .int 0, .int 0, .int (-1), .ref a_rk, .int 0, .ref a_on, .ref a_aw, .ref a_ro, .int 0, .ref a_ws, .ref a_ah, .int 0, .int 0, .int 0, .ref a_cl, .ref a_us, .ref a_mo, .ref a_to, .ref a_mb, .ref a_le, .int 0, .ref a_rs, .ref a_rm, .ref a_nu])), (a_mt, .inl (cI, 900, .inl f_45))] H := hP
  have hD : va_D A [(h0, .inr (12, [.int 0, .ref a_al, .ref a_hi, .ref a_mt, .ref a_fr, .int 8, .int 0, .int 0, .int 0, .int 0, .int 0, .int 0, .int 0, .int 0, .int (-1), .ref a_rk, .int 0, .ref a_on, .ref a_aw, .ref a_ro, .int 0, .ref a_ws, .ref a_ah, .int 0, .int 0, .int 0, .ref a_cl, .ref a_us, .ref a_mo, .ref a_to, .ref a_mb, .ref a_le, .int 0, .ref a_rs, .ref a_rm, .ref a_nu])), (a_mt, .inl (cI, 900, .inl f_45))] := hD
  refine lv_iinc (v := 8) (lv' := [(6, .int 8), (7, .int i_1), (0, .ref h0), (1, .int i_0), (2, .int i_1), (3, .int i_2), (4, .int i_3), (5, .int i_4)]) hx hb dX12_feed_115 hl (k := 1) rfl (by decide) (by decide) rfl (fun ls hl => ?_)
  refine lv_goto (tgt := 24) hx hb dX12_feed_118 (by decide) ?_
  refine lv_iload hx hb dX12_feed_24 (lv_at hl 0 rfl) ?_
  refine lv_bipush (v := 20) hx hb dX12_feed_26 (by decide) ?_
  refine lv_icmp_ge (tgt := 121) hx hb dX12_feed_28 (by decide) (fun c_46 => absurd c_46 (by decide)) (fun _ => ?_)
  refine lv_iload hx hb dX12_feed_31 (lv_at hl 0 rfl) ?_
  refine lv_iconst (v := 4) hx hb dX12_feed_33 (by decide) ?_
  refine lv_icmp_ge (tgt := 41) hx hb dX12_feed_34 (by decide) (fun _ => ?_) (fun c_47 => absurd c_47 (by decide))
  refine lv_iload hx hb dX12_feed_41 (lv_at hl 0 rfl) ?_
  refine lv_bipush (v := 8) hx hb dX12_feed_43 (by decide) ?_
  refine lv_icmp_ge (tgt := 52) hx hb dX12_feed_45 (by decide) (fun _ => ?_) (fun c_48 => absurd c_48 (by decide))
  refine lv_iload hx hb dX12_feed_52 (lv_at hl 0 rfl) ?_
  refine lv_bipush (v := 12) hx hb dX12_feed_54 (by decide) ?_
  refine lv_icmp_ge (tgt := 63) hx hb dX12_feed_56 (by decide) (fun c_49 => absurd c_49 (by decide)) (fun _ => ?_)
  refine lv_iload_n hx hb dX12_feed_59 rfl (lv_at hl 5 rfl) ?_
  refine lv_goto (tgt := 77) hx hb dX12_feed_60 (by decide) ?_
  refine lv_istore (lv' := [(7, .int i_2), (6, .int 8), (0, .ref h0), (1, .int i_0), (2, .int i_1), (3, .int i_2), (4, .int i_3), (5, .int i_4)]) hx hb dX12_feed_77 hl (by decide) rfl (fun ls hl => ?_)
  refine lv_aload_n hx hb dX12_feed_79 rfl (lv_at hl 2 rfl) ?_
  refine va_get (D := D) (ci := 12) (v := .ref a_mt) (C := RX12) (T := TX12) (N := 36) hx hb hts uX12 hown hkb.1 hP 0 rfl rfl 3 (by decide) (hts _ kw_1226) (fun _ h9 => h9) rfl dX12_feed_80 ?_
  refine lv_aload_n hx hb dX12_feed_83 rfl (lv_at hl 2 rfl) ?_
  refine va_get (D := D) (ci := 12) (v := .int 8) (C := RX12) (T := TX12) (N := 36) hx hb hts uX12 hown hkb.1 hP 0 rfl rfl 5 (by decide) (hts _ kw_1228) (fun _ h9 => h9) rfl dX12_feed_84 ?_
  refine lv_iload hx hb dX12_feed_87 (lv_at hl 0 rfl) ?_
  refine lv_bipush (v := 24) hx hb dX12_feed_89 (by decide) ?_
  refine lv_bipush (v := 8) hx hb dX12_feed_91 (by decide) ?_
  refine lv_iload hx hb dX12_feed_93 (lv_at hl 1 rfl) ?_
  refine lv_iconst (v := 4) hx hb dX12_feed_95 (by decide) ?_
  refine lv_irem hx hb dX12_feed_96 (by decide) ?_
  refine lv_topc (y := 0) (by decide +kernel) ?_
  refine lv_imul hx hb dX12_feed_97 ?_
  refine lv_topc (y := 0) (by decide +kernel) ?_
  refine lv_isub hx hb dX12_feed_98 ?_
  refine lv_topc (y := 24) (by decide +kernel) ?_
  refine lv_ishr hx hb dX12_feed_99 ?_
  refine lv_topi (fun v_50 ev_50 => ?_)
  refine lv_sipush (v := 255) hx hb dX12_feed_100 (by decide) ?_
  refine lv_iand hx hb dX12_feed_103 ?_
  refine lv_topi (fun v_51 ev_51 => ?_)
  refine s_i 1 1 hx hb hkb.1 hP hD hS rfl rfl (in_c (by decide +kernel)) 8 (by decide +kernel) dX12_feed_104 (fun H locs hP hD hS => ?_)
  have hP : va_P D cls [(h0, .inr (12, [.int 0, .ref a_al, .ref a_hi, .ref a_mt, .ref a_fr, .int 8, .int 0, .int 0, .int 0, .int 0, .int 0, .int 0, .int 0, .int 0, .int (-1), .ref a_rk, .int 0, .ref a_on, .ref a_aw, .ref a_ro, .int 0, .ref a_ws, .ref a_ah, .int 0, .int 0, .int 0, .ref a_cl, .ref a_us, .ref a_mo, .ref a_to, .ref a_mb, .ref a_le, .int 0, .ref a_rs, .ref a_rm, .ref a_nu])), (a_mt, .inl (cI, 900, .inl (upd f_45 8 v_51)))] H := hP
  have hD : va_D A [(h0, .inr (12, [.int 0, .ref a_al, .ref a_hi, .ref a_mt, .ref a_fr, .int 8, .int 0, .int 0, .int 0, .int 0, .int 0, .int 0, .int 0, .int 0, .int (-1), .ref a_rk, .int 0, .ref a_on, .ref a_aw, .ref a_ro, .int 0, .ref a_ws, .ref a_ah, .int 0, .int 0, .int 0, .ref a_cl, .ref a_us, .ref a_mo, .ref a_to, .ref a_mb, .ref a_le, .int 0, .ref a_rs, .ref a_rm, .ref a_nu])), (a_mt, .inl (cI, 900, .inl (upd f_45 8 v_51)))] := hD
  generalize hq9 : upd f_45 8 v_51 = f_52 at hP hD; clear hq9
  have hP : va_P D cls [(h0, .inr (12, [.int 0, .ref a_al, .ref a_hi, .ref a_mt, .ref a_fr, .int 8, .int 0, .int 0, .int 0, .int 0, .int 0, .int 0, .int 0, .int 0, .int (-1), .ref a_rk, .int 0, .ref a_on, .ref a_aw, .ref a_ro, .int 0, .ref a_ws, .ref a_ah, .int 0, .int 0, .int 0, .ref a_cl, .ref a_us, .ref a_mo, .ref a_to, .ref a_mb, .ref a_le, .int 0, .ref a_rs, .ref a_rm, .ref a_nu])), (a_mt, .inl (cI, 900, .inl f_52))] H := hP
  have hD : va_D A [(h0, .inr (12, [.int 0, .ref a_al, .ref a_hi, .ref a_mt, .ref a_fr, .int 8, .int 0, .int 0, .int 0, .int 0, .int 0, .int 0, .int 0, .int 0, .int (-1), .ref a_rk, .int 0, .ref a_on, .ref a_aw, .ref a_ro, .int 0, .ref a_ws, .ref a_ah, .int 0, .int 0, .int 0, .ref a_cl, .ref a_us, .ref a_mo, .ref a_to, .ref a_mb, .ref a_le, .int 0, .ref a_rs, .ref a_rm, .ref a_nu])), (a_mt, .inl (cI, 900, .inl f_52))] := hD
  refine lv_aload_n hx hb dX12_feed_105 rfl (lv_at hl 2 rfl) ?_
  refine lv_dup hx hb dX12_feed_106 rfl ?_
  refine va_get (D := D) (ci := 12) (v := .int 8) (C := RX12) (T := TX12) (N := 36) hx hb hts uX12 hown hkb.1 hP 0 rfl rfl 5 (by decide) (hts _ kw_1228) (fun _ h9 => h9) rfl dX12_feed_107 ?_
  refine lv_iconst (v := 1) hx hb dX12_feed_110 (by decide) ?_
  refine lv_iadd hx hb dX12_feed_111 ?_
  refine lv_topc (y := 9) (by decide +kernel) ?_
  refine va_put (D := D) (ci := 12) (v := .int 9) (ty := tyX12 5) (C := RX12) (T := TX12) (N := 36) hx hb hts uX12 tyX12 tyX12_ok nmX12 hown hkb.1 hP hD hS 0 rfl rfl 5 (by decide) (hts _ kw_1228) (fun _ h9 => h9) rfl (tyX12_ok 5 (by decide)) rfl rfl (Nat.le_of_ble_eq_true rfl) dX12_feed_112 (fun H locs hP hD hS => ?_)
  have hP : va_P D cls [(h0, .inr (12, [.int 0, .ref a_al, .ref a_hi, .ref a_mt, .ref a_fr, .int 9, .int 0, .int 0, .int 0, .int 0, .int 0, .int 0, .int 0, .int 0, .int (-1), .ref a_rk, .int 0, .ref a_on, .ref a_aw, .ref a_ro, .int 0, .ref a_ws, .ref a_ah, .int 0, .int 0, .int 0, .ref a_cl, .ref a_us, .ref a_mo, .ref a_to, .ref a_mb, .ref a_le, .int 0, .ref a_rs, .ref a_rm, .ref a_nu])), (a_mt, .inl (cI, 900, .inl f_52))] H := hP
  have hD : va_D A [(h0, .inr (12, [.int 0, .ref a_al, .ref a_hi, .ref a_mt, .ref a_fr, .int 9, .int 0, .int 0, .int 0, .int 0, .int 0, .int 0, .int 0, .int 0, .int (-1), .ref a_rk, .int 0, .ref a_on, .ref a_aw, .ref a_ro, .int 0, .ref a_ws, .ref a_ah, .int 0, .int 0, .int 0, .ref a_cl, .ref a_us, .ref a_mo, .ref a_to, .ref a_mb, .ref a_le, .int 0, .ref a_rs, .ref a_rm, .ref a_nu])), (a_mt, .inl (cI, 900, .inl f_52))] := hD
  refine lv_iinc (v := 9) (lv' := [(6, .int 9), (7, .int i_2), (0, .ref h0), (1, .int i_0), (2, .int i_1), (3, .int i_2), (4, .int i_3), (5, .int i_4)]) hx hb dX12_feed_115 hl (k := 1) rfl (by decide) (by decide) rfl (fun ls hl => ?_)
  refine lv_goto (tgt := 24) hx hb dX12_feed_118 (by decide) ?_
  refine lv_iload hx hb dX12_feed_24 (lv_at hl 0 rfl) ?_
  refine lv_bipush (v := 20) hx hb dX12_feed_26 (by decide) ?_
  refine lv_icmp_ge (tgt := 121) hx hb dX12_feed_28 (by decide) (fun c_53 => absurd c_53 (by decide)) (fun _ => ?_)
  refine lv_iload hx hb dX12_feed_31 (lv_at hl 0 rfl) ?_
  refine lv_iconst (v := 4) hx hb dX12_feed_33 (by decide) ?_
  refine lv_icmp_ge (tgt := 41) hx hb dX12_feed_34 (by decide) (fun _ => ?_) (fun c_54 => absurd c_54 (by decide))
  refine lv_iload hx hb dX12_feed_41 (lv_at hl 0 rfl) ?_
  refine lv_bipush (v := 8) hx hb dX12_feed_43 (by decide) ?_
  refine lv_icmp_ge (tgt := 52) hx hb dX12_feed_45 (by decide) (fun _ => ?_) (fun c_55 => absurd c_55 (by decide))
  refine lv_iload hx hb dX12_feed_52 (lv_at hl 0 rfl) ?_
  refine lv_bipush (v := 12) hx hb dX12_feed_54 (by decide) ?_
  refine lv_icmp_ge (tgt := 63) hx hb dX12_feed_56 (by decide) (fun c_56 => absurd c_56 (by decide)) (fun _ => ?_)
  refine lv_iload_n hx hb dX12_feed_59 rfl (lv_at hl 5 rfl) ?_
  refine lv_goto (tgt := 77) hx hb dX12_feed_60 (by decide) ?_
  refine lv_istore (lv' := [(7, .int i_2), (6, .int 9), (0, .ref h0), (1, .int i_0), (2, .int i_1), (3, .int i_2), (4, .int i_3), (5, .int i_4)]) hx hb dX12_feed_77 hl (by decide) rfl (fun ls hl => ?_)
  refine lv_aload_n hx hb dX12_feed_79 rfl (lv_at hl 2 rfl) ?_
  refine va_get (D := D) (ci := 12) (v := .ref a_mt) (C := RX12) (T := TX12) (N := 36) hx hb hts uX12 hown hkb.1 hP 0 rfl rfl 3 (by decide) (hts _ kw_1226) (fun _ h9 => h9) rfl dX12_feed_80 ?_
  refine lv_aload_n hx hb dX12_feed_83 rfl (lv_at hl 2 rfl) ?_
  refine va_get (D := D) (ci := 12) (v := .int 9) (C := RX12) (T := TX12) (N := 36) hx hb hts uX12 hown hkb.1 hP 0 rfl rfl 5 (by decide) (hts _ kw_1228) (fun _ h9 => h9) rfl dX12_feed_84 ?_
  refine lv_iload hx hb dX12_feed_87 (lv_at hl 0 rfl) ?_
  refine lv_bipush (v := 24) hx hb dX12_feed_89 (by decide) ?_
  refine lv_bipush (v := 8) hx hb dX12_feed_91 (by decide) ?_
  refine lv_iload hx hb dX12_feed_93 (lv_at hl 1 rfl) ?_
  refine lv_iconst (v := 4) hx hb dX12_feed_95 (by decide) ?_
  refine lv_irem hx hb dX12_feed_96 (by decide) ?_
  refine lv_topc (y := 1) (by decide +kernel) ?_
  refine lv_imul hx hb dX12_feed_97 ?_
  refine lv_topc (y := 8) (by decide +kernel) ?_
  refine lv_isub hx hb dX12_feed_98 ?_
  refine lv_topc (y := 16) (by decide +kernel) ?_
  refine lv_ishr hx hb dX12_feed_99 ?_
  refine lv_topi (fun v_57 ev_57 => ?_)
  refine lv_sipush (v := 255) hx hb dX12_feed_100 (by decide) ?_
  refine lv_iand hx hb dX12_feed_103 ?_
  refine lv_topi (fun v_58 ev_58 => ?_)
  refine s_i 1 1 hx hb hkb.1 hP hD hS rfl rfl (in_c (by decide +kernel)) 9 (by decide +kernel) dX12_feed_104 (fun H locs hP hD hS => ?_)
  have hP : va_P D cls [(h0, .inr (12, [.int 0, .ref a_al, .ref a_hi, .ref a_mt, .ref a_fr, .int 9, .int 0, .int 0, .int 0, .int 0, .int 0, .int 0, .int 0, .int 0, .int (-1), .ref a_rk, .int 0, .ref a_on, .ref a_aw, .ref a_ro, .int 0, .ref a_ws, .ref a_ah, .int 0, .int 0, .int 0, .ref a_cl, .ref a_us, .ref a_mo, .ref a_to, .ref a_mb, .ref a_le, .int 0, .ref a_rs, .ref a_rm, .ref a_nu])), (a_mt, .inl (cI, 900, .inl (upd f_52 9 v_58)))] H := hP
  have hD : va_D A [(h0, .inr (12, [.int 0, .ref a_al, .ref a_hi, .ref a_mt, .ref a_fr, .int 9, .int 0, .int 0, .int 0, .int 0, .int 0, .int 0, .int 0, .int 0, .int (-1), .ref a_rk, .int 0, .ref a_on, .ref a_aw, .ref a_ro, .int 0, .ref a_ws, .ref a_ah, .int 0, .int 0, .int 0, .ref a_cl, .ref a_us, .ref a_mo, .ref a_to, .ref a_mb, .ref a_le, .int 0, .ref a_rs, .ref a_rm, .ref a_nu])), (a_mt, .inl (cI, 900, .inl (upd f_52 9 v_58)))] := hD
  generalize hq9 : upd f_52 9 v_58 = f_59 at hP hD; clear hq9
  have hP : va_P D cls [(h0, .inr (12, [.int 0, .ref a_al, .ref a_hi, .ref a_mt, .ref a_fr, .int 9, .int 0, .int 0, .int 0, .int 0, .int 0, .int 0, .int 0, .int 0, .int (-1), .ref a_rk, .int 0, .ref a_on, .ref a_aw, .ref a_ro, .int 0, .ref a_ws, .ref a_ah, .int 0, .int 0, .int 0, .ref a_cl, .ref a_us, .ref a_mo, .ref a_to, .ref a_mb, .ref a_le, .int 0, .ref a_rs, .ref a_rm, .ref a_nu])), (a_mt, .inl (cI, 900, .inl f_59))] H := hP
  have hD : va_D A [(h0, .inr (12, [.int 0, .ref a_al, .ref a_hi, .ref a_mt, .ref a_fr, .int 9, .int 0, .int 0, .int 0, .int 0, .int 0, .int 0, .int 0, .int 0, .int (-1), .ref a_rk, .int 0, .ref a_on, .ref a_aw, .ref a_ro, .int 0, .ref a_ws, .ref a_ah, .int 0, .int 0, .int 0, .ref a_cl, .ref a_us, .ref a_mo, .ref a_to, .ref a_mb, .ref a_le, .int 0, .ref a_rs, .ref a_rm, .ref a_nu])), (a_mt, .inl (cI, 900, .inl f_59))] := hD
  refine lv_aload_n hx hb dX12_feed_105 rfl (lv_at hl 2 rfl) ?_
  refine lv_dup hx hb dX12_feed_106 rfl ?_
  refine va_get (D := D) (ci := 12) (v := .int 9) (C := RX12) (T := TX12) (N := 36) hx hb hts uX12 hown hkb.1 hP 0 rfl rfl 5 (by decide) (hts _ kw_1228) (fun _ h9 => h9) rfl dX12_feed_107 ?_
  refine lv_iconst (v := 1) hx hb dX12_feed_110 (by decide) ?_
  refine lv_iadd hx hb dX12_feed_111 ?_
  refine lv_topc (y := 10) (by decide +kernel) ?_
  refine va_put (D := D) (ci := 12) (v := .int 10) (ty := tyX12 5) (C := RX12) (T := TX12) (N := 36) hx hb hts uX12 tyX12 tyX12_ok nmX12 hown hkb.1 hP hD hS 0 rfl rfl 5 (by decide) (hts _ kw_1228) (fun _ h9 => h9) rfl (tyX12_ok 5 (by decide)) rfl rfl (Nat.le_of_ble_eq_true rfl) dX12_feed_112 (fun H locs hP hD hS => ?_)
  have hP : va_P D cls [(h0, .inr (12, [.int 0, .ref a_al, .ref a_hi, .ref a_mt, .ref a_fr, .int 10, .int 0, .int 0, .int 0, .int 0, .int 0, .int 0, .int 0, .int 0, .int (-1), .ref a_rk, .int 0, .ref a_on, .ref a_aw, .ref a_ro, .int 0, .ref a_ws, .ref a_ah, .int 0, .int 0, .int 0, .ref a_cl, .ref a_us, .ref a_mo, .ref a_to, .ref a_mb, .ref a_le, .int 0, .ref a_rs, .ref a_rm, .ref a_nu])), (a_mt, .inl (cI, 900, .inl f_59))] H := hP
  have hD : va_D A [(h0, .inr (12, [.int 0, .ref a_al, .ref a_hi, .ref a_mt, .ref a_fr, .int 10, .int 0, .int 0, .int 0, .int 0, .int 0, .int 0, .int 0, .int 0, .int (-1), .ref a_rk, .int 0, .ref a_on, .ref a_aw, .ref a_ro, .int 0, .ref a_ws, .ref a_ah, .int 0, .int 0, .int 0, .ref a_cl, .ref a_us, .ref a_mo, .ref a_to, .ref a_mb, .ref a_le, .int 0, .ref a_rs, .ref a_rm, .ref a_nu])), (a_mt, .inl (cI, 900, .inl f_59))] := hD
  refine lv_iinc (v := 10) (lv' := [(6, .int 10), (7, .int i_2), (0, .ref h0), (1, .int i_0), (2, .int i_1), (3, .int i_2), (4, .int i_3), (5, .int i_4)]) hx hb dX12_feed_115 hl (k := 1) rfl (by decide) (by decide) rfl (fun ls hl => ?_)
  refine lv_goto (tgt := 24) hx hb dX12_feed_118 (by decide) ?_
  refine lv_iload hx hb dX12_feed_24 (lv_at hl 0 rfl) ?_
  refine lv_bipush (v := 20) hx hb dX12_feed_26 (by decide) ?_
  refine lv_icmp_ge (tgt := 121) hx hb dX12_feed_28 (by decide) (fun c_60 => absurd c_60 (by decide)) (fun _ => ?_)
  refine lv_iload hx hb dX12_feed_31 (lv_at hl 0 rfl) ?_
  refine lv_iconst (v := 4) hx hb dX12_feed_33 (by decide) ?_
  refine lv_icmp_ge (tgt := 41) hx hb dX12_feed_34 (by decide) (fun _ => ?_) (fun c_61 => absurd c_61 (by decide))
  refine lv_iload hx hb dX12_feed_41 (lv_at hl 0 rfl) ?_
  refine lv_bipush (v := 8) hx hb dX12_feed_43 (by decide) ?_
  refine lv_icmp_ge (tgt := 52) hx hb dX12_feed_45 (by decide) (fun _ => ?_) (fun c_62 => absurd c_62 (by decide))
  refine lv_iload hx hb dX12_feed_52 (lv_at hl 0 rfl) ?_
  refine lv_bipush (v := 12) hx hb dX12_feed_54 (by decide) ?_
  refine lv_icmp_ge (tgt := 63) hx hb dX12_feed_56 (by decide) (fun c_63 => absurd c_63 (by decide)) (fun _ => ?_)
  refine lv_iload_n hx hb dX12_feed_59 rfl (lv_at hl 5 rfl) ?_
  refine lv_goto (tgt := 77) hx hb dX12_feed_60 (by decide) ?_
  refine lv_istore (lv' := [(7, .int i_2), (6, .int 10), (0, .ref h0), (1, .int i_0), (2, .int i_1), (3, .int i_2), (4, .int i_3), (5, .int i_4)]) hx hb dX12_feed_77 hl (by decide) rfl (fun ls hl => ?_)
  refine lv_aload_n hx hb dX12_feed_79 rfl (lv_at hl 2 rfl) ?_
  refine va_get (D := D) (ci := 12) (v := .ref a_mt) (C := RX12) (T := TX12) (N := 36) hx hb hts uX12 hown hkb.1 hP 0 rfl rfl 3 (by decide) (hts _ kw_1226) (fun _ h9 => h9) rfl dX12_feed_80 ?_
  refine lv_aload_n hx hb dX12_feed_83 rfl (lv_at hl 2 rfl) ?_
  refine va_get (D := D) (ci := 12) (v := .int 10) (C := RX12) (T := TX12) (N := 36) hx hb hts uX12 hown hkb.1 hP 0 rfl rfl 5 (by decide) (hts _ kw_1228) (fun _ h9 => h9) rfl dX12_feed_84 ?_
  refine lv_iload hx hb dX12_feed_87 (lv_at hl 0 rfl) ?_
  refine lv_bipush (v := 24) hx hb dX12_feed_89 (by decide) ?_
  refine lv_bipush (v := 8) hx hb dX12_feed_91 (by decide) ?_
  refine lv_iload hx hb dX12_feed_93 (lv_at hl 1 rfl) ?_
  refine lv_iconst (v := 4) hx hb dX12_feed_95 (by decide) ?_
  refine lv_irem hx hb dX12_feed_96 (by decide) ?_
  refine lv_topc (y := 2) (by decide +kernel) ?_
  refine lv_imul hx hb dX12_feed_97 ?_
  refine lv_topc (y := 16) (by decide +kernel) ?_
  refine lv_isub hx hb dX12_feed_98 ?_
  refine lv_topc (y := 8) (by decide +kernel) ?_
  refine lv_ishr hx hb dX12_feed_99 ?_
  refine lv_topi (fun v_64 ev_64 => ?_)
  refine lv_sipush (v := 255) hx hb dX12_feed_100 (by decide) ?_
  refine lv_iand hx hb dX12_feed_103 ?_
  refine lv_topi (fun v_65 ev_65 => ?_)
  refine s_i 1 1 hx hb hkb.1 hP hD hS rfl rfl (in_c (by decide +kernel)) 10 (by decide +kernel) dX12_feed_104 (fun H locs hP hD hS => ?_)
  have hP : va_P D cls [(h0, .inr (12, [.int 0, .ref a_al, .ref a_hi, .ref a_mt, .ref a_fr, .int 10, .int 0, .int 0, .int 0, .int 0, .int 0, .int 0, .int 0, .int 0, .int (-1), .ref a_rk, .int 0, .ref a_on, .ref a_aw, .ref a_ro, .int 0, .ref a_ws, .ref a_ah, .int 0, .int 0, .int 0, .ref a_cl, .ref a_us, .ref a_mo, .ref a_to, .ref a_mb, .ref a_le, .int 0, .ref a_rs, .ref a_rm, .ref a_nu])), (a_mt, .inl (cI, 900, .inl (upd f_59 10 v_65)))] H := hP
  have hD : va_D A [(h0, .inr (12, [.int 0, .ref a_al, .ref a_hi, .ref a_mt, .ref a_fr, .int 10, .int 0, .int 0, .int 0, .int 0, .int 0, .int 0, .int 0, .int 0, .int (-1), .ref a_rk, .int 0, .ref a_on, .ref a_aw, .ref a_ro, .int 0, .ref a_ws, .ref a_ah, .int 0, .int 0, .int 0, .ref a_cl, .ref a_us, .ref a_mo, .ref a_to, .ref a_mb, .ref a_le, .int 0, .ref a_rs, .ref a_rm, .ref a_nu])), (a_mt, .inl (cI, 900, .inl (upd f_59 10 v_65)))] := hD
  generalize hq9 : upd f_59 10 v_65 = f_66 at hP hD; clear hq9
  have hP : va_P D cls [(h0, .inr (12, [.int 0, .ref a_al, .ref a_hi, .ref a_mt, .ref a_fr, .int 10, .int 0, .int 0, .int 0, .int 0, .int 0, .int 0, .int 0, .int 0, .int (-1), .ref a_rk, .int 0, .ref a_on, .ref a_aw, .ref a_ro, .int 0, .ref a_ws, .ref a_ah, .int 0, .int 0, .int 0, .ref a_cl, .ref a_us, .ref a_mo, .ref a_to, .ref a_mb, .ref a_le, .int 0, .ref a_rs, .ref a_rm, .ref a_nu])), (a_mt, .inl (cI, 900, .inl f_66))] H := hP
  have hD : va_D A [(h0, .inr (12, [.int 0, .ref a_al, .ref a_hi, .ref a_mt, .ref a_fr, .int 10, .int 0, .int 0, .int 0, .int 0, .int 0, .int 0, .int 0, .int 0, .int (-1), .ref a_rk, .int 0, .ref a_on, .ref a_aw, .ref a_ro, .int 0, .ref a_ws, .ref a_ah, .int 0, .int 0, .int 0, .ref a_cl, .ref a_us, .ref a_mo, .ref a_to, .ref a_mb, .ref a_le, .int 0, .ref a_rs, .ref a_rm, .ref a_nu])), (a_mt, .inl (cI, 900, .inl f_66))] := hD
  refine lv_aload_n hx hb dX12_feed_105 rfl (lv_at hl 2 rfl) ?_
  refine lv_dup hx hb dX12_feed_106 rfl ?_
  refine va_get (D := D) (ci := 12) (v := .int 10) (C := RX12) (T := TX12) (N := 36) hx hb hts uX12 hown hkb.1 hP 0 rfl rfl 5 (by decide) (hts _ kw_1228) (fun _ h9 => h9) rfl dX12_feed_107 ?_
  refine lv_iconst (v := 1) hx hb dX12_feed_110 (by decide) ?_
  refine lv_iadd hx hb dX12_feed_111 ?_
  refine lv_topc (y := 11) (by decide +kernel) ?_
  refine va_put (D := D) (ci := 12) (v := .int 11) (ty := tyX12 5) (C := RX12) (T := TX12) (N := 36) hx hb hts uX12 tyX12 tyX12_ok nmX12 hown hkb.1 hP hD hS 0 rfl rfl 5 (by decide) (hts _ kw_1228) (fun _ h9 => h9) rfl (tyX12_ok 5 (by decide)) rfl rfl (Nat.le_of_ble_eq_true rfl) dX12_feed_112 (fun H locs hP hD hS => ?_)
  have hP : va_P D cls [(h0, .inr (12, [.int 0, .ref a_al, .ref a_hi, .ref a_mt, .ref a_fr, .int 11, .int 0, .int 0, .int 0, .int 0, .int 0, .int 0, .int 0, .int 0, .int (-1), .ref a_rk, .int 0, .ref a_on, .ref a_aw, .ref a_ro, .int 0, .ref a_ws, .ref a_ah, .int 0, .int 0, .int 0, .ref a_cl, .ref a_us, .ref a_mo, .ref a_to, .ref a_mb, .ref a_le, .int 0, .ref a_rs, .ref a_rm, .ref a_nu])), (a_mt, .inl (cI, 900, .inl f_66))] H := hP
  have hD : va_D A [(h0, .inr (12, [.int 0, .ref a_al, .ref a_hi, .ref a_mt, .ref a_fr, .int 11, .int 0, .int 0, .int 0, .int 0, .int 0, .int 0, .int 0, .int 0, .int (-1), .ref a_rk, .int 0, .ref a_on, .ref a_aw, .ref a_ro, .int 0, .ref a_ws, .ref a_ah, .int 0, .int 0, .int 0, .ref a_cl, .ref a_us, .ref a_mo, .ref a_to, .ref a_mb, .ref a_le, .int 0, .ref a_rs, .ref a_rm, .ref a_nu])), (a_mt, .inl (cI, 900, .inl f_66))] := hD
  refine lv_iinc (v := 11) (lv' := [(6, .int 11), (7, .int i_2), (0, .ref h0), (1, .int i_0), (2, .int i_1), (3, .int i_2), (4, .int i_3), (5, .int i_4)]) hx hb dX12_feed_115 hl (k := 1) rfl (by decide) (by decide) rfl (fun ls hl => ?_)
  refine lv_goto (tgt := 24) hx hb dX12_feed_118 (by decide) ?_
  refine lv_iload hx hb dX12_feed_24 (lv_at hl 0 rfl) ?_
  refine lv_bipush (v := 20) hx hb dX12_feed_26 (by decide) ?_
  refine lv_icmp_ge (tgt := 121) hx hb dX12_feed_28 (by decide) (fun c_67 => absurd c_67 (by decide)) (fun _ => ?_)
  refine lv_iload hx hb dX12_feed_31 (lv_at hl 0 rfl) ?_
  refine lv_iconst (v := 4) hx hb dX12_feed_33 (by decide) ?_
  refine lv_icmp_ge (tgt := 41) hx hb dX12_feed_34 (by decide) (fun _ => ?_) (fun c_68 => absurd c_68 (by decide))
  refine lv_iload hx hb dX12_feed_41 (lv_at hl 0 rfl) ?_
  refine lv_bipush (v := 8) hx hb dX12_feed_43 (by decide) ?_
  refine lv_icmp_ge (tgt := 52) hx hb dX12_feed_45 (by decide) (fun _ => ?_) (fun c_69 => absurd c_69 (by decide))
  refine lv_iload hx hb dX12_feed_52 (lv_at hl 0 rfl) ?_
  refine lv_bipush (v := 12) hx hb dX12_feed_54 (by decide) ?_
  refine lv_icmp_ge (tgt := 63) hx hb dX12_feed_56 (by decide) (fun c_70 => absurd c_70 (by decide)) (fun _ => ?_)
  refine lv_iload_n hx hb dX12_feed_59 rfl (lv_at hl 5 rfl) ?_
  refine lv_goto (tgt := 77) hx hb dX12_feed_60 (by decide) ?_
  refine lv_istore (lv' := [(7, .int i_2), (6, .int 11), (0, .ref h0), (1, .int i_0), (2, .int i_1), (3, .int i_2), (4, .int i_3), (5, .int i_4)]) hx hb dX12_feed_77 hl (by decide) rfl (fun ls hl => ?_)
  refine lv_aload_n hx hb dX12_feed_79 rfl (lv_at hl 2 rfl) ?_
  refine va_get (D := D) (ci := 12) (v := .ref a_mt) (C := RX12) (T := TX12) (N := 36) hx hb hts uX12 hown hkb.1 hP 0 rfl rfl 3 (by decide) (hts _ kw_1226) (fun _ h9 => h9) rfl dX12_feed_80 ?_
  refine lv_aload_n hx hb dX12_feed_83 rfl (lv_at hl 2 rfl) ?_
  refine va_get (D := D) (ci := 12) (v := .int 11) (C := RX12) (T := TX12) (N := 36) hx hb hts uX12 hown hkb.1 hP 0 rfl rfl 5 (by decide) (hts _ kw_1228) (fun _ h9 => h9) rfl dX12_feed_84 ?_
  refine lv_iload hx hb dX12_feed_87 (lv_at hl 0 rfl) ?_
  refine lv_bipush (v := 24) hx hb dX12_feed_89 (by decide) ?_
  refine lv_bipush (v := 8) hx hb dX12_feed_91 (by decide) ?_
  refine lv_iload hx hb dX12_feed_93 (lv_at hl 1 rfl) ?_
  refine lv_iconst (v := 4) hx hb dX12_feed_95 (by decide) ?_
  refine lv_irem hx hb dX12_feed_96 (by decide) ?_
  refine lv_topc (y := 3) (by decide +kernel) ?_
  refine lv_imul hx hb dX12_feed_97 ?_
  refine lv_topc (y := 24) (by decide +kernel) ?_
  refine lv_isub hx hb dX12_feed_98 ?_
  refine lv_topc (y := 0) (by decide +kernel) ?_
  refine lv_ishr hx hb dX12_feed_99 ?_
  refine lv_topi (fun v_71 ev_71 => ?_)
  refine lv_sipush (v := 255) hx hb dX12_feed_100 (by decide) ?_
  refine lv_iand hx hb dX12_feed_103 ?_
  refine lv_topi (fun v_72 ev_72 => ?_)
  refine s_i 1 1 hx hb hkb.1 hP hD hS rfl rfl (in_c (by decide +kernel)) 11 (by decide +kernel) dX12_feed_104 (fun H locs hP hD hS => ?_)
  have hP : va_P D cls [(h0, .inr (12, [.int 0, .ref a_al, .ref a_hi, .ref a_mt, .ref a_fr, .int 11, .int 0, .int 0, .int 0, .int 0, .int 0, .int 0, .int 0, .int 0, .int (-1), .ref a_rk, .int 0, .ref a_on, .ref a_aw, .ref a_ro, .int 0, .ref a_ws, .ref a_ah, .int 0, .int 0, .int 0, .ref a_cl, .ref a_us, .ref a_mo, .ref a_to, .ref a_mb, .ref a_le, .int 0, .ref a_rs, .ref a_rm, .ref a_nu])), (a_mt, .inl (cI, 900, .inl (upd f_66 11 v_72)))] H := hP
  have hD : va_D A [(h0, .inr (12, [.int 0, .ref a_al, .ref a_hi, .ref a_mt, .ref a_fr, .int 11, .int 0, .int 0, .int 0, .int 0, .int 0, .int 0, .int 0, .int 0, .int (-1), .ref a_rk, .int 0, .ref a_on, .ref a_aw, .ref a_ro, .int 0, .ref a_ws, .ref a_ah, .int 0, .int 0, .int 0, .ref a_cl, .ref a_us, .ref a_mo, .ref a_to, .ref a_mb, .ref a_le, .int 0, .ref a_rs, .ref a_rm, .ref a_nu])), (a_mt, .inl (cI, 900, .inl (upd f_66 11 v_72)))] := hD
  generalize hq9 : upd f_66 11 v_72 = f_73 at hP hD; clear hq9
  have hP : va_P D cls [(h0, .inr (12, [.int 0, .ref a_al, .ref a_hi, .ref a_mt, .ref a_fr, .int 11, .int 0, .int 0, .int 0, .int 0, .int 0, .int 0, .int 0, .int 0, .int (-1), .ref a_rk, .int 0, .ref a_on, .ref a_aw, .ref a_ro, .int 0, .ref a_ws, .ref a_ah, .int 0, .int 0, .int 0, .ref a_cl, .ref a_us, .ref a_mo, .ref a_to, .ref a_mb, .ref a_le, .int 0, .ref a_rs, .ref a_rm, .ref a_nu])), (a_mt, .inl (cI, 900, .inl f_73))] H := hP
  have hD : va_D A [(h0, .inr (12, [.int 0, .ref a_al, .ref a_hi, .ref a_mt, .ref a_fr, .int 11, .int 0, .int 0, .int 0, .int 0, .int 0, .int 0, .int 0, .int 0, .int (-1), .ref a_rk, .int 0, .ref a_on, .ref a_aw, .ref a_ro, .int 0, .ref a_ws, .ref a_ah, .int 0, .int 0, .int 0, .ref a_cl, .ref a_us, .ref a_mo, .ref a_to, .ref a_mb, .ref a_le, .int 0, .ref a_rs, .ref a_rm, .ref a_nu])), (a_mt, .inl (cI, 900, .inl f_73))] := hD
  refine lv_aload_n hx hb dX12_feed_105 rfl (lv_at hl 2 rfl) ?_
  refine lv_dup hx hb dX12_feed_106 rfl ?_
  refine va_get (D := D) (ci := 12) (v := .int 11) (C := RX12) (T := TX12) (N := 36) hx hb hts uX12 hown hkb.1 hP 0 rfl rfl 5 (by decide) (hts _ kw_1228) (fun _ h9 => h9) rfl dX12_feed_107 ?_
  refine lv_iconst (v := 1) hx hb dX12_feed_110 (by decide) ?_
  refine lv_iadd hx hb dX12_feed_111 ?_
  refine lv_topc (y := 12) (by decide +kernel) ?_
  refine va_put (D := D) (ci := 12) (v := .int 12) (ty := tyX12 5) (C := RX12) (T := TX12) (N := 36) hx hb hts uX12 tyX12 tyX12_ok nmX12 hown hkb.1 hP hD hS 0 rfl rfl 5 (by decide) (hts _ kw_1228) (fun _ h9 => h9) rfl (tyX12_ok 5 (by decide)) rfl rfl (Nat.le_of_ble_eq_true rfl) dX12_feed_112 (fun H locs hP hD hS => ?_)
  have hP : va_P D cls [(h0, .inr (12, [.int 0, .ref a_al, .ref a_hi, .ref a_mt, .ref a_fr, .int 12, .int 0, .int 0, .int 0, .int 0, .int 0, .int 0, .int 0, .int 0, .int (-1), .ref a_rk, .int 0, .ref a_on, .ref a_aw, .ref a_ro, .int 0, .ref a_ws, .ref a_ah, .int 0, .int 0, .int 0, .ref a_cl, .ref a_us, .ref a_mo, .ref a_to, .ref a_mb, .ref a_le, .int 0, .ref a_rs, .ref a_rm, .ref a_nu])), (a_mt, .inl (cI, 900, .inl f_73))] H := hP
  have hD : va_D A [(h0, .inr (12, [.int 0, .ref a_al, .ref a_hi, .ref a_mt, .ref a_fr, .int 12, .int 0, .int 0, .int 0, .int 0, .int 0, .int 0, .int 0, .int 0, .int (-1), .ref a_rk, .int 0, .ref a_on, .ref a_aw, .ref a_ro, .int 0, .ref a_ws, .ref a_ah, .int 0, .int 0, .int 0, .ref a_cl, .ref a_us, .ref a_mo, .ref a_to, .ref a_mb, .ref a_le, .int 0, .ref a_rs, .ref a_rm, .ref a_nu])), (a_mt, .inl (cI, 900, .inl f_73))] := hD
  refine lv_iinc (v := 12) (lv' := [(6, .int 12), (7, .int i_2), (0, .ref h0), (1, .int i_0), (2, .int i_1), (3, .int i_2), (4, .int i_3), (5, .int i_4)]) hx hb dX12_feed_115 hl (k := 1) rfl (by decide) (by decide) rfl (fun ls hl => ?_)
  refine lv_goto (tgt := 24) hx hb dX12_feed_118 (by decide) ?_
  refine lv_iload hx hb dX12_feed_24 (lv_at hl 0 rfl) ?_
  refine lv_bipush (v := 20) hx hb dX12_feed_26 (by decide) ?_
  refine lv_icmp_ge (tgt := 121) hx hb dX12_feed_28 (by decide) (fun c_74 => absurd c_74 (by decide)) (fun _ => ?_)
  refine lv_iload hx hb dX12_feed_31 (lv_at hl 0 rfl) ?_
  refine lv_iconst (v := 4) hx hb dX12_feed_33 (by decide) ?_
  refine lv_icmp_ge (tgt := 41) hx hb dX12_feed_34 (by decide) (fun _ => ?_) (fun c_75 => absurd c_75 (by decide))
  refine lv_iload hx hb dX12_feed_41 (lv_at hl 0 rfl) ?_
  refine lv_bipush (v := 8) hx hb dX12_feed_43 (by decide) ?_
  refine lv_icmp_ge (tgt := 52) hx hb dX12_feed_45 (by decide) (fun _ => ?_) (fun c_76 => absurd c_76 (by decide))
  refine lv_iload hx hb dX12_feed_52 (lv_at hl 0 rfl) ?_
  refine lv_bipush (v := 12) hx hb dX12_feed_54 (by decide) ?_
  refine lv_icmp_ge (tgt := 63) hx hb dX12_feed_56 (by decide) (fun _ => ?_) (fun c_77 => absurd c_77 (by decide))
  refine lv_iload hx hb dX12_feed_63 (lv_at hl 0 rfl) ?_
  refine lv_bipush (v := 16) hx hb dX12_feed_65 (by decide) ?_
  refine lv_icmp_ge (tgt := 75) hx hb dX12_feed_67 (by decide) (fun c_78 => absurd c_78 (by decide)) (fun _ => ?_)
  refine lv_iload hx hb dX12_feed_70 (lv_at hl 6 rfl) ?_
  refine lv_goto (tgt := 77) hx hb dX12_feed_72 (by decide) ?_
  refine lv_istore (lv' := [(7, .int i_3), (6, .int 12), (0, .ref h0), (1, .int i_0), (2, .int i_1), (3, .int i_2), (4, .int i_3), (5, .int i_4)]) hx hb dX12_feed_77 hl (by decide) rfl (fun ls hl => ?_)
  refine lv_aload_n hx hb dX12_feed_79 rfl (lv_at hl 2 rfl) ?_
  refine va_get (D := D) (ci := 12) (v := .ref a_mt) (C := RX12) (T := TX12) (N := 36) hx hb hts uX12 hown hkb.1 hP 0 rfl rfl 3 (by decide) (hts _ kw_1226) (fun _ h9 => h9) rfl dX12_feed_80 ?_
  refine lv_aload_n hx hb dX12_feed_83 rfl (lv_at hl 2 rfl) ?_
  refine va_get (D := D) (ci := 12) (v := .int 12) (C := RX12) (T := TX12) (N := 36) hx hb hts uX12 hown hkb.1 hP 0 rfl rfl 5 (by decide) (hts _ kw_1228) (fun _ h9 => h9) rfl dX12_feed_84 ?_
  refine lv_iload hx hb dX12_feed_87 (lv_at hl 0 rfl) ?_
  refine lv_bipush (v := 24) hx hb dX12_feed_89 (by decide) ?_
  refine lv_bipush (v := 8) hx hb dX12_feed_91 (by decide) ?_
  refine lv_iload hx hb dX12_feed_93 (lv_at hl 1 rfl) ?_
  refine lv_iconst (v := 4) hx hb dX12_feed_95 (by decide) ?_
  refine lv_irem hx hb dX12_feed_96 (by decide) ?_
  refine lv_topc (y := 0) (by decide +kernel) ?_
  refine lv_imul hx hb dX12_feed_97 ?_
  refine lv_topc (y := 0) (by decide +kernel) ?_
  refine lv_isub hx hb dX12_feed_98 ?_
  refine lv_topc (y := 24) (by decide +kernel) ?_
  refine lv_ishr hx hb dX12_feed_99 ?_
  refine lv_topi (fun v_79 ev_79 => ?_)
  refine lv_sipush (v := 255) hx hb dX12_feed_100 (by decide) ?_
  refine lv_iand hx hb dX12_feed_103 ?_
  refine lv_topi (fun v_80 ev_80 => ?_)
  refine s_i 1 1 hx hb hkb.1 hP hD hS rfl rfl (in_c (by decide +kernel)) 12 (by decide +kernel) dX12_feed_104 (fun H locs hP hD hS => ?_)
  have hP : va_P D cls [(h0, .inr (12, [.int 0, .ref a_al, .ref a_hi, .ref a_mt, .ref a_fr, .int 12, .int 0, .int 0, .int 0, .int 0, .int 0, .int 0, .int 0, .int 0, .int (-1), .ref a_rk, .int 0, .ref a_on, .ref a_aw, .ref a_ro, .int 0, .ref a_ws, .ref a_ah, .int 0, .int 0, .int 0, .ref a_cl, .ref a_us, .ref a_mo, .ref a_to, .ref a_mb, .ref a_le, .int 0, .ref a_rs, .ref a_rm, .ref a_nu])), (a_mt, .inl (cI, 900, .inl (upd f_73 12 v_80)))] H := hP
  have hD : va_D A [(h0, .inr (12, [.int 0, .ref a_al, .ref a_hi, .ref a_mt, .ref a_fr, .int 12, .int 0, .int 0, .int 0, .int 0, .int 0, .int 0, .int 0, .int 0, .int (-1), .ref a_rk, .int 0, .ref a_on, .ref a_aw, .ref a_ro, .int 0, .ref a_ws, .ref a_ah, .int 0, .int 0, .int 0, .ref a_cl, .ref a_us, .ref a_mo, .ref a_to, .ref a_mb, .ref a_le, .int 0, .ref a_rs, .ref a_rm, .ref a_nu])), (a_mt, .inl (cI, 900, .inl (upd f_73 12 v_80)))] := hD
  generalize hq9 : upd f_73 12 v_80 = f_81 at hP hD; clear hq9
  have hP : va_P D cls [(h0, .inr (12, [.int 0, .ref a_al, .ref a_hi, .ref a_mt, .ref a_fr, .int 12, .int 0, .int 0, .int 0, .int 0, .int 0, .int 0, .int 0, .int 0, .int (-1), .ref a_rk, .int 0, .ref a_on, .ref a_aw, .ref a_ro, .int 0, .ref a_ws, .ref a_ah, .int 0, .int 0, .int 0, .ref a_cl, .ref a_us, .ref a_mo, .ref a_to, .ref a_mb, .ref a_le, .int 0, .ref a_rs, .ref a_rm, .ref a_nu])), (a_mt, .inl (cI, 900, .inl f_81))] H := hP
  have hD : va_D A [(h0, .inr (12, [.int 0, .ref a_al, .ref a_hi, .ref a_mt, .ref a_fr, .int 12, .int 0, .int 0, .int 0, .int 0, .int 0, .int 0, .int 0, .int 0, .int (-1), .ref a_rk, .int 0, .ref a_on, .ref a_aw, .ref a_ro, .int 0, .ref a_ws, .ref a_ah, .int 0, .int 0, .int 0, .ref a_cl, .ref a_us, .ref a_mo, .ref a_to, .ref a_mb, .ref a_le, .int 0, .ref a_rs, .ref a_rm, .ref a_nu])), (a_mt, .inl (cI, 900, .inl f_81))] := hD
  refine lv_aload_n hx hb dX12_feed_105 rfl (lv_at hl 2 rfl) ?_
  refine lv_dup hx hb dX12_feed_106 rfl ?_
  refine va_get (D := D) (ci := 12) (v := .int 12) (C := RX12) (T := TX12) (N := 36) hx hb hts uX12 hown hkb.1 hP 0 rfl rfl 5 (by decide) (hts _ kw_1228) (fun _ h9 => h9) rfl dX12_feed_107 ?_
  refine lv_iconst (v := 1) hx hb dX12_feed_110 (by decide) ?_
  refine lv_iadd hx hb dX12_feed_111 ?_
  refine lv_topc (y := 13) (by decide +kernel) ?_
  refine va_put (D := D) (ci := 12) (v := .int 13) (ty := tyX12 5) (C := RX12) (T := TX12) (N := 36) hx hb hts uX12 tyX12 tyX12_ok nmX12 hown hkb.1 hP hD hS 0 rfl rfl 5 (by decide) (hts _ kw_1228) (fun _ h9 => h9) rfl (tyX12_ok 5 (by decide)) rfl rfl (Nat.le_of_ble_eq_true rfl) dX12_feed_112 (fun H locs hP hD hS => ?_)
  have hP : va_P D cls [(h0, .inr (12, [.int 0, .ref a_al, .ref a_hi, .ref a_mt, .ref a_fr, .int 13, .int 0, .int 0, .int 0, .int 0, .int 0, .int 0, .int 0, .int 0, .int (-1), .ref a_rk, .int 0, .ref a_on, .ref a_aw, .ref a_ro, .int 0, .ref a_ws, .ref a_ah, .int 0, .int 0, .int 0, .ref a_cl, .ref a_us, .ref a_mo, .ref a_to, .ref a_mb, .ref a_le, .int 0, .ref a_rs, .ref a_rm, .ref a_nu])), (a_mt, .inl (cI, 900, .inl f_81))] H := hP
  have hD : va_D A [(h0, .inr (12, [.int 0, .ref a_al, .ref a_hi, .ref a_mt, .ref a_fr, .int 13, .int 0, .int 0, .int 0, .int 0, .int 0, .int 0, .int 0, .int 0, .int (-1), .ref a_rk, .int 0, .ref a_on, .ref a_aw, .ref a_ro, .int 0, .ref a_ws, .ref a_ah, .int 0, .int 0, .int 0, .ref a_cl, .ref a_us, .ref a_mo, .ref a_to, .ref a_mb, .ref a_le, .int 0, .ref a_rs, .ref a_rm, .ref a_nu])), (a_mt, .inl (cI, 900, .inl f_81))] := hD
  refine lv_iinc (v := 13) (lv' := [(6, .int 13), (7, .int i_3), (0, .ref h0), (1, .int i_0), (2, .int i_1), (3, .int i_2), (4, .int i_3), (5, .int i_4)]) hx hb dX12_feed_115 hl (k := 1) rfl (by decide) (by decide) rfl (fun ls hl => ?_)
  refine lv_goto (tgt := 24) hx hb dX12_feed_118 (by decide) ?_
  refine lv_iload hx hb dX12_feed_24 (lv_at hl 0 rfl) ?_
  refine lv_bipush (v := 20) hx hb dX12_feed_26 (by decide) ?_
  refine lv_icmp_ge (tgt := 121) hx hb dX12_feed_28 (by decide) (fun c_82 => absurd c_82 (by decide)) (fun _ => ?_)
  refine lv_iload hx hb dX12_feed_31 (lv_at hl 0 rfl) ?_
  refine lv_iconst (v := 4) hx hb dX12_feed_33 (by decide) ?_
  refine lv_icmp_ge (tgt := 41) hx hb dX12_feed_34 (by decide) (fun _ => ?_) (fun c_83 => absurd c_83 (by decide))
  refine lv_iload hx hb dX12_feed_41 (lv_at hl 0 rfl) ?_
  refine lv_bipush (v := 8) hx hb dX12_feed_43 (by decide) ?_
  refine lv_icmp_ge (tgt := 52) hx hb dX12_feed_45 (by decide) (fun _ => ?_) (fun c_84 => absurd c_84 (by decide))
  refine lv_iload hx hb dX12_feed_52 (lv_at hl 0 rfl) ?_
  refine lv_bipush (v := 12) hx hb dX12_feed_54 (by decide) ?_
  refine lv_icmp_ge (tgt := 63) hx hb dX12_feed_56 (by decide) (fun _ => ?_) (fun c_85 => absurd c_85 (by decide))
  refine lv_iload hx hb dX12_feed_63 (lv_at hl 0 rfl) ?_
  refine lv_bipush (v := 16) hx hb dX12_feed_65 (by decide) ?_
  refine lv_icmp_ge (tgt := 75) hx hb dX12_feed_67 (by decide) (fun c_86 => absurd c_86 (by decide)) (fun _ => ?_)
  refine lv_iload hx hb dX12_feed_70 (lv_at hl 6 rfl) ?_
  refine lv_goto (tgt := 77) hx hb dX12_feed_72 (by decide) ?_
  refine lv_istore (lv' := [(7, .int i_3), (6, .int 13), (0, .ref h0), (1, .int i_0), (2, .int i_1), (3, .int i_2), (4, .int i_3), (5, .int i_4)]) hx hb dX12_feed_77 hl (by decide) rfl (fun ls hl => ?_)
  refine lv_aload_n hx hb dX12_feed_79 rfl (lv_at hl 2 rfl) ?_
  refine va_get (D := D) (ci := 12) (v := .ref a_mt) (C := RX12) (T := TX12) (N := 36) hx hb hts uX12 hown hkb.1 hP 0 rfl rfl 3 (by decide) (hts _ kw_1226) (fun _ h9 => h9) rfl dX12_feed_80 ?_
  refine lv_aload_n hx hb dX12_feed_83 rfl (lv_at hl 2 rfl) ?_
  refine va_get (D := D) (ci := 12) (v := .int 13) (C := RX12) (T := TX12) (N := 36) hx hb hts uX12 hown hkb.1 hP 0 rfl rfl 5 (by decide) (hts _ kw_1228) (fun _ h9 => h9) rfl dX12_feed_84 ?_
  refine lv_iload hx hb dX12_feed_87 (lv_at hl 0 rfl) ?_
  refine lv_bipush (v := 24) hx hb dX12_feed_89 (by decide) ?_
  refine lv_bipush (v := 8) hx hb dX12_feed_91 (by decide) ?_
  refine lv_iload hx hb dX12_feed_93 (lv_at hl 1 rfl) ?_
  refine lv_iconst (v := 4) hx hb dX12_feed_95 (by decide) ?_
  refine lv_irem hx hb dX12_feed_96 (by decide) ?_
  refine lv_topc (y := 1) (by decide +kernel) ?_
  refine lv_imul hx hb dX12_feed_97 ?_
  refine lv_topc (y := 8) (by decide +kernel) ?_
  refine lv_isub hx hb dX12_feed_98 ?_
  refine lv_topc (y := 16) (by decide +kernel) ?_
  refine lv_ishr hx hb dX12_feed_99 ?_
  refine lv_topi (fun v_87 ev_87 => ?_)
  refine lv_sipush (v := 255) hx hb dX12_feed_100 (by decide) ?_
  refine lv_iand hx hb dX12_feed_103 ?_
  refine lv_topi (fun v_88 ev_88 => ?_)
  refine s_i 1 1 hx hb hkb.1 hP hD hS rfl rfl (in_c (by decide +kernel)) 13 (by decide +kernel) dX12_feed_104 (fun H locs hP hD hS => ?_)
  have hP : va_P D cls [(h0, .inr (12, [.int 0, .ref a_al, .ref a_hi, .ref a_mt, .ref a_fr, .int 13, .int 0, .int 0, .int 0, .int 0, .int 0, .int 0, .int 0, .int 0, .int (-1), .ref a_rk, .int 0, .ref a_on, .ref a_aw, .ref a_ro, .int 0, .ref a_ws, .ref a_ah, .int 0, .int 0, .int 0, .ref a_cl, .ref a_us, .ref a_mo, .ref a_to, .ref a_mb, .ref a_le, .int 0, .ref a_rs, .ref a_rm, .ref a_nu])), (a_mt, .inl (cI, 900, .inl (upd f_81 13 v_88)))] H := hP
  have hD : va_D A [(h0, .inr (12, [.int 0, .ref a_al, .ref a_hi, .ref a_mt, .ref a_fr, .int 13, .int 0, .int 0, .int 0, .int 0, .int 0, .int 0, .int 0, .int 0, .int (-1), .ref a_rk, .int 0, .ref a_on, .ref a_aw, .ref a_ro, .int 0, .ref a_ws, .ref a_ah, .int 0, .int 0, .int 0, .ref a_cl, .ref a_us, .ref a_mo, .ref a_to, .ref a_mb, .ref a_le, .int 0, .ref a_rs, .ref a_rm, .ref a_nu])), (a_mt, .inl (cI, 900, .inl (upd f_81 13 v_88)))] := hD
  generalize hq9 : upd f_81 13 v_88 = f_89 at hP hD; clear hq9
  have hP : va_P D cls [(h0, .inr (12, [.int 0, .ref a_al, .ref a_hi, .ref a_mt, .ref a_fr, .int 13, .int 0, .int 0, .int 0, .int 0, .int 0, .int 0, .int 0, .int 0, .int (-1), .ref a_rk, .int 0, .ref a_on, .ref a_aw, .ref a_ro, .int 0, .ref a_ws, .ref a_ah, .int 0, .int 0, .int 0, .ref a_cl, .ref a_us, .ref a_mo, .ref a_to, .ref a_mb, .ref a_le, .int 0, .ref a_rs, .ref a_rm, .ref a_nu])), (a_mt, .inl (cI, 900, .inl f_89))] H := hP
  have hD : va_D A [(h0, .inr (12, [.int 0, .ref a_al, .ref a_hi, .ref a_mt, .ref a_fr, .int 13, .int 0, .int 0, .int 0, .int 0, .int 0, .int 0, .int 0, .int 0, .int (-1), .ref a_rk, .int 0, .ref a_on, .ref a_aw, .ref a_ro, .int 0, .ref a_ws, .ref a_ah, .int 0, .int 0, .int 0, .ref a_cl, .ref a_us, .ref a_mo, .ref a_to, .ref a_mb, .ref a_le, .int 0, .ref a_rs, .ref a_rm, .ref a_nu])), (a_mt, .inl (cI, 900, .inl f_89))] := hD
  refine lv_aload_n hx hb dX12_feed_105 rfl (lv_at hl 2 rfl) ?_
  refine lv_dup hx hb dX12_feed_106 rfl ?_
  refine va_get (D := D) (ci := 12) (v := .int 13) (C := RX12) (T := TX12) (N := 36) hx hb hts uX12 hown hkb.1 hP 0 rfl rfl 5 (by decide) (hts _ kw_1228) (fun _ h9 => h9) rfl dX12_feed_107 ?_
  refine lv_iconst (v := 1) hx hb dX12_feed_110 (by decide) ?_
  refine lv_iadd hx hb dX12_feed_111 ?_
  refine lv_topc (y := 14) (by decide +kernel) ?_
  refine va_put (D := D) (ci := 12) (v := .int 14) (ty := tyX12 5) (C := RX12) (T := TX12) (N := 36) hx hb hts uX12 tyX12 tyX12_ok nmX12 hown hkb.1 hP hD hS 0 rfl rfl 5 (by decide) (hts _ kw_1228) (fun _ h9 => h9) rfl (tyX12_ok 5 (by decide)) rfl rfl (Nat.le_of_ble_eq_true rfl) dX12_feed_112 (fun H locs hP hD hS => ?_)
  have hP : va_P D cls [(h0, .inr (12, [.int 0, .ref a_al, .ref a_hi, .ref a_mt, .ref a_fr, .int 14, .int 0, .int 0, .int 0, .int 0, .int 0, .int 0, .int 0, .int 0, .int (-1), .ref a_rk, .int 0, .ref a_on, .ref a_aw, .ref a_ro, .int 0, .ref a_ws, .ref a_ah, .int 0, .int 0, .int 0, .ref a_cl, .ref a_us, .ref a_mo, .ref a_to, .ref a_mb, .ref a_le, .int 0, .ref a_rs, .ref a_rm, .ref a_nu])), (a_mt, .inl (cI, 900, .inl f_89))] H := hP
  have hD : va_D A [(h0, .inr (12, [.int 0, .ref a_al, .ref a_hi, .ref a_mt, .ref a_fr, .int 14, .int 0, .int 0, .int 0, .int 0, .int 0, .int 0, .int 0, .int 0, .int (-1), .ref a_rk, .int 0, .ref a_on, .ref a_aw, .ref a_ro, .int 0, .ref a_ws, .ref a_ah, .int 0, .int 0, .int 0, .ref a_cl, .ref a_us, .ref a_mo, .ref a_to, .ref a_mb, .ref a_le, .int 0, .ref a_rs, .ref a_rm, .ref a_nu])), (a_mt, .inl (cI, 900, .inl f_89))] := hD
  refine lv_iinc (v := 14) (lv' := [(6, .int 14), (7, .int i_3), (0, .ref h0), (1, .int i_0), (2, .int i_1), (3, .int i_2), (4, .int i_3), (5, .int i_4)]) hx hb dX12_feed_115 hl (k := 1) rfl (by decide) (by decide) rfl (fun ls hl => ?_)
  refine lv_goto (tgt := 24) hx hb dX12_feed_118 (by decide) ?_
  refine lv_iload hx hb dX12_feed_24 (lv_at hl 0 rfl) ?_
  refine lv_bipush (v := 20) hx hb dX12_feed_26 (by decide) ?_
  refine lv_icmp_ge (tgt := 121) hx hb dX12_feed_28 (by decide) (fun c_90 => absurd c_90 (by decide)) (fun _ => ?_)
  refine lv_iload hx hb dX12_feed_31 (lv_at hl 0 rfl) ?_
  refine lv_iconst (v := 4) hx hb dX12_feed_33 (by decide) ?_
  refine lv_icmp_ge (tgt := 41) hx hb dX12_feed_34 (by decide) (fun _ => ?_) (fun c_91 => absurd c_91 (by decide))
  refine lv_iload hx hb dX12_feed_41 (lv_at hl 0 rfl) ?_
  refine lv_bipush (v := 8) hx hb dX12_feed_43 (by decide) ?_
  refine lv_icmp_ge (tgt := 52) hx hb dX12_feed_45 (by decide) (fun _ => ?_) (fun c_92 => absurd c_92 (by decide))
  refine lv_iload hx hb dX12_feed_52 (lv_at hl 0 rfl) ?_
  refine lv_bipush (v := 12) hx hb dX12_feed_54 (by decide) ?_
  refine lv_icmp_ge (tgt := 63) hx hb dX12_feed_56 (by decide) (fun _ => ?_) (fun c_93 => absurd c_93 (by decide))
  refine lv_iload hx hb dX12_feed_63 (lv_at hl 0 rfl) ?_
  refine lv_bipush (v := 16) hx hb dX12_feed_65 (by decide) ?_
  refine lv_icmp_ge (tgt := 75) hx hb dX12_feed_67 (by decide) (fun c_94 => absurd c_94 (by decide)) (fun _ => ?_)
  refine lv_iload hx hb dX12_feed_70 (lv_at hl 6 rfl) ?_
  refine lv_goto (tgt := 77) hx hb dX12_feed_72 (by decide) ?_
  refine lv_istore (lv' := [(7, .int i_3), (6, .int 14), (0, .ref h0), (1, .int i_0), (2, .int i_1), (3, .int i_2), (4, .int i_3), (5, .int i_4)]) hx hb dX12_feed_77 hl (by decide) rfl (fun ls hl => ?_)
  refine lv_aload_n hx hb dX12_feed_79 rfl (lv_at hl 2 rfl) ?_
  refine va_get (D := D) (ci := 12) (v := .ref a_mt) (C := RX12) (T := TX12) (N := 36) hx hb hts uX12 hown hkb.1 hP 0 rfl rfl 3 (by decide) (hts _ kw_1226) (fun _ h9 => h9) rfl dX12_feed_80 ?_
  refine lv_aload_n hx hb dX12_feed_83 rfl (lv_at hl 2 rfl) ?_
  refine va_get (D := D) (ci := 12) (v := .int 14) (C := RX12) (T := TX12) (N := 36) hx hb hts uX12 hown hkb.1 hP 0 rfl rfl 5 (by decide) (hts _ kw_1228) (fun _ h9 => h9) rfl dX12_feed_84 ?_
  refine lv_iload hx hb dX12_feed_87 (lv_at hl 0 rfl) ?_
  refine lv_bipush (v := 24) hx hb dX12_feed_89 (by decide) ?_
  refine lv_bipush (v := 8) hx hb dX12_feed_91 (by decide) ?_
  refine lv_iload hx hb dX12_feed_93 (lv_at hl 1 rfl) ?_
  refine lv_iconst (v := 4) hx hb dX12_feed_95 (by decide) ?_
  refine lv_irem hx hb dX12_feed_96 (by decide) ?_
  refine lv_topc (y := 2) (by decide +kernel) ?_
  refine lv_imul hx hb dX12_feed_97 ?_
  refine lv_topc (y := 16) (by decide +kernel) ?_
  refine lv_isub hx hb dX12_feed_98 ?_
  refine lv_topc (y := 8) (by decide +kernel) ?_
  refine lv_ishr hx hb dX12_feed_99 ?_
  refine lv_topi (fun v_95 ev_95 => ?_)
  refine lv_sipush (v := 255) hx hb dX12_feed_100 (by decide) ?_
  refine lv_iand hx hb dX12_feed_103 ?_
  refine lv_topi (fun v_96 ev_96 => ?_)
  refine s_i 1 1 hx hb hkb.1 hP hD hS rfl rfl (in_c (by decide +kernel)) 14 (by decide +kernel) dX12_feed_104 (fun H locs hP hD hS => ?_)
  have hP : va_P D cls [(h0, .inr (12, [.int 0, .ref a_al, .ref a_hi, .ref a_mt, .ref a_fr, .int 14, .int 0, .int 0, .int 0, .int 0, .int 0, .int 0, .int 0, .int 0, .int (-1), .ref a_rk, .int 0, .ref a_on, .ref a_aw, .ref a_ro, .int 0, .ref a_ws, .ref a_ah, .int 0, .int 0, .int 0, .ref a_cl, .ref a_us, .ref a_mo, .ref a_to, .ref a_mb, .ref a_le, .int 0, .ref a_rs, .ref a_rm, .ref a_nu])), (a_mt, .inl (cI, 900, .inl (upd f_89 14 v_96)))] H := hP
  have hD : va_D A [(h0, .inr (12, [.int 0, .ref a_al, .ref a_hi, .ref a_mt, .ref a_fr, .int 14, .int 0, .int 0, .int 0, .int 0, .int 0, .int 0, .int 0, .int 0, .int (-1), .ref a_rk, .int 0, .ref a_on, .ref a_aw, .ref a_ro, .int 0, .ref a_ws, .ref a_ah, .int 0, .int 0, .int 0, .ref a_cl, .ref a_us, .ref a_mo, .ref a_to, .ref a_mb, .ref a_le, .int 0, .ref a_rs, .ref a_rm, .ref a_nu])), (a_mt, .inl (cI, 900, .inl (upd f_89 14 v_96)))] := hD
  generalize hq9 : upd f_89 14 v_96 = f_97 at hP hD; clear hq9
  have hP : va_P D cls [(h0, .inr (12, [.int 0, .ref a_al, .ref a_hi, .ref a_mt, .ref a_fr, .int 14, .int 0, .int 0, .int 0, .int 0, .int 0, .int 0, .int 0, .int 0, .int (-1), .ref a_rk, .int 0, .ref a_on, .ref a_aw, .ref a_ro, .int 0, .ref a_ws, .ref a_ah, .int 0, .int 0, .int 0, .ref a_cl, .ref a_us, .ref a_mo, .ref a_to, .ref a_mb, .ref a_le, .int 0, .ref a_rs, .ref a_rm, .ref a_nu])), (a_mt, .inl (cI, 900, .inl f_97))] H := hP
  have hD : va_D A [(h0, .inr (12, [.int 0, .ref a_al, .ref a_hi, .ref a_mt, .ref a_fr, .int 14, .int 0, .int 0, .int 0, .int 0, .int 0, .int 0, .int 0, .int 0, .int (-1), .ref a_rk, .int 0, .ref a_on, .ref a_aw, .ref a_ro, .int 0, .ref a_ws, .ref a_ah, .int 0, .int 0, .int 0, .ref a_cl, .ref a_us, .ref a_mo, .ref a_to, .ref a_mb, .ref a_le, .int 0, .ref a_rs, .ref a_rm, .ref a_nu])), (a_mt, .inl (cI, 900, .inl f_97))] := hD
  refine lv_aload_n hx hb dX12_feed_105 rfl (lv_at hl 2 rfl) ?_
  refine lv_dup hx hb dX12_feed_106 rfl ?_
  refine va_get (D := D) (ci := 12) (v := .int 14) (C := RX12) (T := TX12) (N := 36) hx hb hts uX12 hown hkb.1 hP 0 rfl rfl 5 (by decide) (hts _ kw_1228) (fun _ h9 => h9) rfl dX12_feed_107 ?_
  refine lv_iconst (v := 1) hx hb dX12_feed_110 (by decide) ?_
  refine lv_iadd hx hb dX12_feed_111 ?_
  refine lv_topc (y := 15) (by decide +kernel) ?_
  refine va_put (D := D) (ci := 12) (v := .int 15) (ty := tyX12 5) (C := RX12) (T := TX12) (N := 36) hx hb hts uX12 tyX12 tyX12_ok nmX12 hown hkb.1 hP hD hS 0 rfl rfl 5 (by decide) (hts _ kw_1228) (fun _ h9 => h9) rfl (tyX12_ok 5 (by decide)) rfl rfl (Nat.le_of_ble_eq_true rfl) dX12_feed_112 (fun H locs hP hD hS => ?_)
  have hP : va_P D cls [(h0, .inr (12, [.int 0, .ref a_al, .ref a_hi, .ref a_mt, .ref a_fr, .int 15, .int 0, .int 0, .int 0, .int 0, .int 0, .int 0, .int 0, .int 0, .int (-1), .ref a_rk, .int 0, .ref a_on, .ref a_aw, .ref a_ro, .int 0, .ref a_ws, .ref a_ah, .int 0, .int 0, .int 0, .ref a_cl, .ref a_us, .ref a_mo, .ref a_to, .ref a_mb, .ref a_le, .int 0, .ref a_rs, .ref a_rm, .ref a_nu])), (a_mt, .inl (cI, 900, .inl f_97))] H := hP
  have hD : va_D A [(h0, .inr (12, [.int 0, .ref a_al, .ref a_hi, .ref a_mt, .ref a_fr, .int 15, .int 0, .int 0, .int 0, .int 0, .int 0, .int 0, .int 0, .int 0, .int (-1), .ref a_rk, .int 0, .ref a_on, .ref a_aw, .ref a_ro, .int 0, .ref a_ws, .ref a_ah, .int 0, .int 0, .int 0, .ref a_cl, .ref a_us, .ref a_mo, .ref a_to, .ref a_mb, .ref a_le, .int 0, .ref a_rs, .ref a_rm, .ref a_nu])), (a_mt, .inl (cI, 900, .inl f_97))] := hD
  refine lv_iinc (v := 15) (lv' := [(6, .int 15), (7, .int i_3), (0, .ref h0), (1, .int i_0), (2, .int i_1), (3, .int i_2), (4, .int i_3), (5, .int i_4)]) hx hb dX12_feed_115 hl (k := 1) rfl (by decide) (by decide) rfl (fun ls hl => ?_)
  refine lv_goto (tgt := 24) hx hb dX12_feed_118 (by decide) ?_
  refine lv_iload hx hb dX12_feed_24 (lv_at hl 0 rfl) ?_
  refine lv_bipush (v := 20) hx hb dX12_feed_26 (by decide) ?_
  refine lv_icmp_ge (tgt := 121) hx hb dX12_feed_28 (by decide) (fun c_98 => absurd c_98 (by decide)) (fun _ => ?_)
  refine lv_iload hx hb dX12_feed_31 (lv_at hl 0 rfl) ?_
  refine lv_iconst (v := 4) hx hb dX12_feed_33 (by decide) ?_
  refine lv_icmp_ge (tgt := 41) hx hb dX12_feed_34 (by decide) (fun _ => ?_) (fun c_99 => absurd c_99 (by decide))
  refine lv_iload hx hb dX12_feed_41 (lv_at hl 0 rfl) ?_
  refine lv_bipush (v := 8) hx hb dX12_feed_43 (by decide) ?_
  refine lv_icmp_ge (tgt := 52) hx hb dX12_feed_45 (by decide) (fun _ => ?_) (fun c_100 => absurd c_100 (by decide))
  refine lv_iload hx hb dX12_feed_52 (lv_at hl 0 rfl) ?_
  refine lv_bipush (v := 12) hx hb dX12_feed_54 (by decide) ?_
  refine lv_icmp_ge (tgt := 63) hx hb dX12_feed_56 (by decide) (fun _ => ?_) (fun c_101 => absurd c_101 (by decide))
  refine lv_iload hx hb dX12_feed_63 (lv_at hl 0 rfl) ?_
  refine lv_bipush (v := 16) hx hb dX12_feed_65 (by decide) ?_
  refine lv_icmp_ge (tgt := 75) hx hb dX12_feed_67 (by decide) (fun c_102 => absurd c_102 (by decide)) (fun _ => ?_)
  refine lv_iload hx hb dX12_feed_70 (lv_at hl 6 rfl) ?_
  refine lv_goto (tgt := 77) hx hb dX12_feed_72 (by decide) ?_
  refine lv_istore (lv' := [(7, .int i_3), (6, .int 15), (0, .ref h0), (1, .int i_0), (2, .int i_1), (3, .int i_2), (4, .int i_3), (5, .int i_4)]) hx hb dX12_feed_77 hl (by decide) rfl (fun ls hl => ?_)
  refine lv_aload_n hx hb dX12_feed_79 rfl (lv_at hl 2 rfl) ?_
  refine va_get (D := D) (ci := 12) (v := .ref a_mt) (C := RX12) (T := TX12) (N := 36) hx hb hts uX12 hown hkb.1 hP 0 rfl rfl 3 (by decide) (hts _ kw_1226) (fun _ h9 => h9) rfl dX12_feed_80 ?_
  refine lv_aload_n hx hb dX12_feed_83 rfl (lv_at hl 2 rfl) ?_
  refine va_get (D := D) (ci := 12) (v := .int 15) (C := RX12) (T := TX12) (N := 36) hx hb hts uX12 hown hkb.1 hP 0 rfl rfl 5 (by decide) (hts _ kw_1228) (fun _ h9 => h9) rfl dX12_feed_84 ?_
  refine lv_iload hx hb dX12_feed_87 (lv_at hl 0 rfl) ?_
  refine lv_bipush (v := 24) hx hb dX12_feed_89 (by decide) ?_
  refine lv_bipush (v := 8) hx hb dX12_feed_91 (by decide) ?_
  refine lv_iload hx hb dX12_feed_93 (lv_at hl 1 rfl) ?_
  refine lv_iconst (v := 4) hx hb dX12_feed_95 (by decide) ?_
  refine lv_irem hx hb dX12_feed_96 (by decide) ?_
  refine lv_topc (y := 3) (by decide +kernel) ?_
  refine lv_imul hx hb dX12_feed_97 ?_
  refine lv_topc (y := 24) (by decide +kernel) ?_
  refine lv_isub hx hb dX12_feed_98 ?_
  refine lv_topc (y := 0) (by decide +kernel) ?_
  refine lv_ishr hx hb dX12_feed_99 ?_
  refine lv_topi (fun v_103 ev_103 => ?_)
  refine lv_sipush (v := 255) hx hb dX12_feed_100 (by decide) ?_
  refine lv_iand hx hb dX12_feed_103 ?_
  refine lv_topi (fun v_104 ev_104 => ?_)
  refine s_i 1 1 hx hb hkb.1 hP hD hS rfl rfl (in_c (by decide +kernel)) 15 (by decide +kernel) dX12_feed_104 (fun H locs hP hD hS => ?_)
  have hP : va_P D cls [(h0, .inr (12, [.int 0, .ref a_al, .ref a_hi, .ref a_mt, .ref a_fr, .int 15, .int 0, .int 0, .int 0, .int 0, .int 0, .int 0, .int 0, .int 0, .int (-1), .ref a_rk, .int 0, .ref a_on, .ref a_aw, .ref a_ro, .int 0, .ref a_ws, .ref a_ah, .int 0, .int 0, .int 0, .ref a_cl, .ref a_us, .ref a_mo, .ref a_to, .ref a_mb, .ref a_le, .int 0, .ref a_rs, .ref a_rm, .ref a_nu])), (a_mt, .inl (cI, 900, .inl (upd f_97 15 v_104)))] H := hP
  have hD : va_D A [(h0, .inr (12, [.int 0, .ref a_al, .ref a_hi, .ref a_mt, .ref a_fr, .int 15, .int 0, .int 0, .int 0, .int 0, .int 0, .int 0, .int 0, .int 0, .int (-1), .ref a_rk, .int 0, .ref a_on, .ref a_aw, .ref a_ro, .int 0, .ref a_ws, .ref a_ah, .int 0, .int 0, .int 0, .ref a_cl, .ref a_us, .ref a_mo, .ref a_to, .ref a_mb, .ref a_le, .int 0, .ref a_rs, .ref a_rm, .ref a_nu])), (a_mt, .inl (cI, 900, .inl (upd f_97 15 v_104)))] := hD
  generalize hq9 : upd f_97 15 v_104 = f_105 at hP hD; clear hq9
  have hP : va_P D cls [(h0, .inr (12, [.int 0, .ref a_al, .ref a_hi, .ref a_mt, .ref a_fr, .int 15, .int 0, .int 0, .int 0, .int 0, .int 0, .int 0, .int 0, .int 0, .int (-1), .ref a_rk, .int 0, .ref a_on, .ref a_aw, .ref a_ro, .int 0, .ref a_ws, .ref a_ah, .int 0, .int 0, .int 0, .ref a_cl, .ref a_us, .ref a_mo, .ref a_to, .ref a_mb, .ref a_le, .int 0, .ref a_rs, .ref a_rm, .ref a_nu])), (a_mt, .inl (cI, 900, .inl f_105))] H := hP
  have hD : va_D A [(h0, .inr (12, [.int 0, .ref a_al, .ref a_hi, .ref a_mt, .ref a_fr, .int 15, .int 0, .int 0, .int 0, .int 0, .int 0, .int 0, .int 0, .int 0, .int (-1), .ref a_rk, .int 0, .ref a_on, .ref a_aw, .ref a_ro, .int 0, .ref a_ws, .ref a_ah, .int 0, .int 0, .int 0, .ref a_cl, .ref a_us, .ref a_mo, .ref a_to, .ref a_mb, .ref a_le, .int 0, .ref a_rs, .ref a_rm, .ref a_nu])), (a_mt, .inl (cI, 900, .inl f_105))] := hD
  refine lv_aload_n hx hb dX12_feed_105 rfl (lv_at hl 2 rfl) ?_
  refine lv_dup hx hb dX12_feed_106 rfl ?_
  refine va_get (D := D) (ci := 12) (v := .int 15) (C := RX12) (T := TX12) (N := 36) hx hb hts uX12 hown hkb.1 hP 0 rfl rfl 5 (by decide) (hts _ kw_1228) (fun _ h9 => h9) rfl dX12_feed_107 ?_
  refine lv_iconst (v := 1) hx hb dX12_feed_110 (by decide) ?_
  refine lv_iadd hx hb dX12_feed_111 ?_
  refine lv_topc (y := 16) (by decide +kernel) ?_
  refine va_put (D := D) (ci := 12) (v := .int 16) (ty := tyX12 5) (C := RX12) (T := TX12) (N := 36) hx hb hts uX12 tyX12 tyX12_ok nmX12 hown hkb.1 hP hD hS 0 rfl rfl 5 (by decide) (hts _ kw_1228) (fun _ h9 => h9) rfl (tyX12_ok 5 (by decide)) rfl rfl (Nat.le_of_ble_eq_true rfl) dX12_feed_112 (fun H locs hP hD hS => ?_)
  have hP : va_P D cls [(h0, .inr (12, [.int 0, .ref a_al, .ref a_hi, .ref a_mt, .ref a_fr, .int 16, .int 0, .int 0, .int 0, .int 0, .int 0, .int 0, .int 0, .int 0, .int (-1), .ref a_rk, .int 0, .ref a_on, .ref a_aw, .ref a_ro, .int 0, .ref a_ws, .ref a_ah, .int 0, .int 0, .int 0, .ref a_cl, .ref a_us, .ref a_mo, .ref a_to, .ref a_mb, .ref a_le, .int 0, .ref a_rs, .ref a_rm, .ref a_nu])), (a_mt, .inl (cI, 900, .inl f_105))] H := hP
  have hD : va_D A [(h0, .inr (12, [.int 0, .ref a_al, .ref a_hi, .ref a_mt, .ref a_fr, .int 16, .int 0, .int 0, .int 0, .int 0, .int 0, .int 0, .int 0, .int 0, .int (-1), .ref a_rk, .int 0, .ref a_on, .ref a_aw, .ref a_ro, .int 0, .ref a_ws, .ref a_ah, .int 0, .int 0, .int 0, .ref a_cl, .ref a_us, .ref a_mo, .ref a_to, .ref a_mb, .ref a_le, .int 0, .ref a_rs, .ref a_rm, .ref a_nu])), (a_mt, .inl (cI, 900, .inl f_105))] := hD
  refine lv_iinc (v := 16) (lv' := [(6, .int 16), (7, .int i_3), (0, .ref h0), (1, .int i_0), (2, .int i_1), (3, .int i_2), (4, .int i_3), (5, .int i_4)]) hx hb dX12_feed_115 hl (k := 1) rfl (by decide) (by decide) rfl (fun ls hl => ?_)
  refine lv_goto (tgt := 24) hx hb dX12_feed_118 (by decide) ?_
  refine lv_iload hx hb dX12_feed_24 (lv_at hl 0 rfl) ?_
  refine lv_bipush (v := 20) hx hb dX12_feed_26 (by decide) ?_
  refine lv_icmp_ge (tgt := 121) hx hb dX12_feed_28 (by decide) (fun c_106 => absurd c_106 (by decide)) (fun _ => ?_)
  refine lv_iload hx hb dX12_feed_31 (lv_at hl 0 rfl) ?_
  refine lv_iconst (v := 4) hx hb dX12_feed_33 (by decide) ?_
  refine lv_icmp_ge (tgt := 41) hx hb dX12_feed_34 (by decide) (fun _ => ?_) (fun c_107 => absurd c_107 (by decide))
  refine lv_iload hx hb dX12_feed_41 (lv_at hl 0 rfl) ?_
  refine lv_bipush (v := 8) hx hb dX12_feed_43 (by decide) ?_
  refine lv_icmp_ge (tgt := 52) hx hb dX12_feed_45 (by decide) (fun _ => ?_) (fun c_108 => absurd c_108 (by decide))
  refine lv_iload hx hb dX12_feed_52 (lv_at hl 0 rfl) ?_
  refine lv_bipush (v := 12) hx hb dX12_feed_54 (by decide) ?_
  refine lv_icmp_ge (tgt := 63) hx hb dX12_feed_56 (by decide) (fun _ => ?_) (fun c_109 => absurd c_109 (by decide))
  refine lv_iload hx hb dX12_feed_63 (lv_at hl 0 rfl) ?_
  refine lv_bipush (v := 16) hx hb dX12_feed_65 (by decide) ?_
  refine lv_icmp_ge (tgt := 75) hx hb dX12_feed_67 (by decide) (fun _ => ?_) (fun c_110 => absurd c_110 (by decide))
  refine lv_iload hx hb dX12_feed_75 (lv_at hl 7 rfl) ?_
  refine lv_istore (lv' := [(7, .int i_4), (6, .int 16), (0, .ref h0), (1, .int i_0), (2, .int i_1), (3, .int i_2), (4, .int i_3), (5, .int i_4)]) hx hb dX12_feed_77 hl (by decide) rfl (fun ls hl => ?_)
  refine lv_aload_n hx hb dX12_feed_79 rfl (lv_at hl 2 rfl) ?_
  refine va_get (D := D) (ci := 12) (v := .ref a_mt) (C := RX12) (T := TX12) (N := 36) hx hb hts uX12 hown hkb.1 hP 0 rfl rfl 3 (by decide) (hts _ kw_1226) (fun _ h9 => h9) rfl dX12_feed_80 ?_
  refine lv_aload_n hx hb dX12_feed_83 rfl (lv_at hl 2 rfl) ?_
  refine va_get (D := D) (ci := 12) (v := .int 16) (C := RX12) (T := TX12) (N := 36) hx hb hts uX12 hown hkb.1 hP 0 rfl rfl 5 (by decide) (hts _ kw_1228) (fun _ h9 => h9) rfl dX12_feed_84 ?_
  refine lv_iload hx hb dX12_feed_87 (lv_at hl 0 rfl) ?_
  refine lv_bipush (v := 24) hx hb dX12_feed_89 (by decide) ?_
  refine lv_bipush (v := 8) hx hb dX12_feed_91 (by decide) ?_
  refine lv_iload hx hb dX12_feed_93 (lv_at hl 1 rfl) ?_
  refine lv_iconst (v := 4) hx hb dX12_feed_95 (by decide) ?_
  refine lv_irem hx hb dX12_feed_96 (by decide) ?_
  refine lv_topc (y := 0) (by decide +kernel) ?_
  refine lv_imul hx hb dX12_feed_97 ?_
  refine lv_topc (y := 0) (by decide +kernel) ?_
  refine lv_isub hx hb dX12_feed_98 ?_
  refine lv_topc (y := 24) (by decide +kernel) ?_
  refine lv_ishr hx hb dX12_feed_99 ?_
  refine lv_topi (fun v_111 ev_111 => ?_)
  refine lv_sipush (v := 255) hx hb dX12_feed_100 (by decide) ?_
  refine lv_iand hx hb dX12_feed_103 ?_
  refine lv_topi (fun v_112 ev_112 => ?_)
  refine s_i 1 1 hx hb hkb.1 hP hD hS rfl rfl (in_c (by decide +kernel)) 16 (by decide +kernel) dX12_feed_104 (fun H locs hP hD hS => ?_)
  have hP : va_P D cls [(h0, .inr (12, [.int 0, .ref a_al, .ref a_hi, .ref a_mt, .ref a_fr, .int 16, .int 0, .int 0, .int 0, .int 0, .int 0, .int 0, .int 0, .int 0, .int (-1), .ref a_rk, .int 0, .ref a_on, .ref a_aw, .ref a_ro, .int 0, .ref a_ws, .ref a_ah, .int 0, .int 0, .int 0, .ref a_cl, .ref a_us, .ref a_mo, .ref a_to, .ref a_mb, .ref a_le, .int 0, .ref a_rs, .ref a_rm, .ref a_nu])), (a_mt, .inl (cI, 900, .inl (upd f_105 16 v_112)))] H := hP
  have hD : va_D A [(h0, .inr (12, [.int 0, .ref a_al, .ref a_hi, .ref a_mt, .ref a_fr, .int 16, .int 0, .int 0, .int 0, .int 0, .int 0, .int 0, .int 0, .int 0, .int (-1), .ref a_rk, .int 0, .ref a_on, .ref a_aw, .ref a_ro, .int 0, .ref a_ws, .ref a_ah, .int 0, .int 0, .int 0, .ref a_cl, .ref a_us, .ref a_mo, .ref a_to, .ref a_mb, .ref a_le, .int 0, .ref a_rs, .ref a_rm, .ref a_nu])), (a_mt, .inl (cI, 900, .inl (upd f_105 16 v_112)))] := hD
  generalize hq9 : upd f_105 16 v_112 = f_113 at hP hD; clear hq9
  have hP : va_P D cls [(h0, .inr (12, [.int 0, .ref a_al, .ref a_hi, .ref a_mt, .ref a_fr, .int 16, .int 0, .int 0, .int 0, .int 0, .int 0, .int 0, .int 0, .int 0, .int (-1), .ref a_rk, .int 0, .ref a_on, .ref a_aw, .ref a_ro, .int 0, .ref a_ws, .ref a_ah, .int 0, .int 0, .int 0, .ref a_cl, .ref a_us, .ref a_mo, .ref a_to, .ref a_mb, .ref a_le, .int 0, .ref a_rs, .ref a_rm, .ref a_nu])), (a_mt, .inl (cI, 900, .inl f_113))] H := hP
  have hD : va_D A [(h0, .inr (12, [.int 0, .ref a_al, .ref a_hi, .ref a_mt, .ref a_fr, .int 16, .int 0, .int 0, .int 0, .int 0, .int 0, .int 0, .int 0, .int 0, .int (-1), .ref a_rk, .int 0, .ref a_on, .ref a_aw, .ref a_ro, .int 0, .ref a_ws, .ref a_ah, .int 0, .int 0, .int 0, .ref a_cl, .ref a_us, .ref a_mo, .ref a_to, .ref a_mb, .ref a_le, .int 0, .ref a_rs, .ref a_rm, .ref a_nu])), (a_mt, .inl (cI, 900, .inl f_113))] := hD
  refine lv_aload_n hx hb dX12_feed_105 rfl (lv_at hl 2 rfl) ?_
  refine lv_dup hx hb dX12_feed_106 rfl ?_
  refine va_get (D := D) (ci := 12) (v := .int 16) (C := RX12) (T := TX12) (N := 36) hx hb hts uX12 hown hkb.1 hP 0 rfl rfl 5 (by decide) (hts _ kw_1228) (fun _ h9 => h9) rfl dX12_feed_107 ?_
  refine lv_iconst (v := 1) hx hb dX12_feed_110 (by decide) ?_
  refine lv_iadd hx hb dX12_feed_111 ?_
  refine lv_topc (y := 17) (by decide +kernel) ?_
  refine va_put (D := D) (ci := 12) (v := .int 17) (ty := tyX12 5) (C := RX12) (T := TX12) (N := 36) hx hb hts uX12 tyX12 tyX12_ok nmX12 hown hkb.1 hP hD hS 0 rfl rfl 5 (by decide) (hts _ kw_1228) (fun _ h9 => h9) rfl (tyX12_ok 5 (by decide)) rfl rfl (Nat.le_of_ble_eq_true rfl) dX12_feed_112 (fun H locs hP hD hS => ?_)
  have hP : va_P D cls [(h0, .inr (12, [.int 0, .ref a_al, .ref a_hi, .ref a_mt, .ref a_fr, .int 17, .int 0, .int 0, .int 0, .int 0, .int 0, .int 0, .int 0, .int 0, .int (-1), .ref a_rk, .int 0, .ref a_on, .ref a_aw, .ref a_ro, .int 0, .ref a_ws, .ref a_ah, .int 0, .int 0, .int 0, .ref a_cl, .ref a_us, .ref a_mo, .ref a_to, .ref a_mb, .ref a_le, .int 0, .ref a_rs, .ref a_rm, .ref a_nu])), (a_mt, .inl (cI, 900, .inl f_113))] H := hP
  have hD : va_D A [(h0, .inr (12, [.int 0, .ref a_al, .ref a_hi, .ref a_mt, .ref a_fr, .int 17, .int 0, .int 0, .int 0, .int 0, .int 0, .int 0, .int 0, .int 0, .int (-1), .ref a_rk, .int 0, .ref a_on, .ref a_aw, .ref a_ro, .int 0, .ref a_ws, .ref a_ah, .int 0, .int 0, .int 0, .ref a_cl, .ref a_us, .ref a_mo, .ref a_to, .ref a_mb, .ref a_le, .int 0, .ref a_rs, .ref a_rm, .ref a_nu])), (a_mt, .inl (cI, 900, .inl f_113))] := hD
  refine lv_iinc (v := 17) (lv' := [(6, .int 17), (7, .int i_4), (0, .ref h0), (1, .int i_0), (2, .int i_1), (3, .int i_2), (4, .int i_3), (5, .int i_4)]) hx hb dX12_feed_115 hl (k := 1) rfl (by decide) (by decide) rfl (fun ls hl => ?_)
  refine lv_goto (tgt := 24) hx hb dX12_feed_118 (by decide) ?_
  refine lv_iload hx hb dX12_feed_24 (lv_at hl 0 rfl) ?_
  refine lv_bipush (v := 20) hx hb dX12_feed_26 (by decide) ?_
  refine lv_icmp_ge (tgt := 121) hx hb dX12_feed_28 (by decide) (fun c_114 => absurd c_114 (by decide)) (fun _ => ?_)
  refine lv_iload hx hb dX12_feed_31 (lv_at hl 0 rfl) ?_
  refine lv_iconst (v := 4) hx hb dX12_feed_33 (by decide) ?_
  refine lv_icmp_ge (tgt := 41) hx hb dX12_feed_34 (by decide) (fun _ => ?_) (fun c_115 => absurd c_115 (by decide))
  refine lv_iload hx hb dX12_feed_41 (lv_at hl 0 rfl) ?_
  refine lv_bipush (v := 8) hx hb dX12_feed_43 (by decide) ?_
  refine lv_icmp_ge (tgt := 52) hx hb dX12_feed_45 (by decide) (fun _ => ?_) (fun c_116 => absurd c_116 (by decide))
  refine lv_iload hx hb dX12_feed_52 (lv_at hl 0 rfl) ?_
  refine lv_bipush (v := 12) hx hb dX12_feed_54 (by decide) ?_
  refine lv_icmp_ge (tgt := 63) hx hb dX12_feed_56 (by decide) (fun _ => ?_) (fun c_117 => absurd c_117 (by decide))
  refine lv_iload hx hb dX12_feed_63 (lv_at hl 0 rfl) ?_
  refine lv_bipush (v := 16) hx hb dX12_feed_65 (by decide) ?_
  refine lv_icmp_ge (tgt := 75) hx hb dX12_feed_67 (by decide) (fun _ => ?_) (fun c_118 => absurd c_118 (by decide))
  refine lv_iload hx hb dX12_feed_75 (lv_at hl 7 rfl) ?_
  refine lv_istore (lv' := [(7, .int i_4), (6, .int 17), (0, .ref h0), (1, .int i_0), (2, .int i_1), (3, .int i_2), (4, .int i_3), (5, .int i_4)]) hx hb dX12_feed_77 hl (by decide) rfl (fun ls hl => ?_)
  refine lv_aload_n hx hb dX12_feed_79 rfl (lv_at hl 2 rfl) ?_
  refine va_get (D := D) (ci := 12) (v := .ref a_mt) (C := RX12) (T := TX12) (N := 36) hx hb hts uX12 hown hkb.1 hP 0 rfl rfl 3 (by decide) (hts _ kw_1226) (fun _ h9 => h9) rfl dX12_feed_80 ?_
  refine lv_aload_n hx hb dX12_feed_83 rfl (lv_at hl 2 rfl) ?_
  refine va_get (D := D) (ci := 12) (v := .int 17) (C := RX12) (T := TX12) (N := 36) hx hb hts uX12 hown hkb.1 hP 0 rfl rfl 5 (by decide) (hts _ kw_1228) (fun _ h9 => h9) rfl dX12_feed_84 ?_
  refine lv_iload hx hb dX12_feed_87 (lv_at hl 0 rfl) ?_
  refine lv_bipush (v := 24) hx hb dX12_feed_89 (by decide) ?_
  refine lv_bipush (v := 8) hx hb dX12_feed_91 (by decide) ?_
  refine lv_iload hx hb dX12_feed_93 (lv_at hl 1 rfl) ?_
  refine lv_iconst (v := 4) hx hb dX12_feed_95 (by decide) ?_
  refine lv_irem hx hb dX12_feed_96 (by decide) ?_
  refine lv_topc (y := 1) (by decide +kernel) ?_
  refine lv_imul hx hb dX12_feed_97 ?_
  refine lv_topc (y := 8) (by decide +kernel) ?_
  refine lv_isub hx hb dX12_feed_98 ?_
  refine lv_topc (y := 16) (by decide +kernel) ?_
  refine lv_ishr hx hb dX12_feed_99 ?_
  refine lv_topi (fun v_119 ev_119 => ?_)
  refine lv_sipush (v := 255) hx hb dX12_feed_100 (by decide) ?_
  refine lv_iand hx hb dX12_feed_103 ?_
  refine lv_topi (fun v_120 ev_120 => ?_)
  refine s_i 1 1 hx hb hkb.1 hP hD hS rfl rfl (in_c (by decide +kernel)) 17 (by decide +kernel) dX12_feed_104 (fun H locs hP hD hS => ?_)
  have hP : va_P D cls [(h0, .inr (12, [.int 0, .ref a_al, .ref a_hi, .ref a_mt, .ref a_fr, .int 17, .int 0, .int 0, .int 0, .int 0, .int 0, .int 0, .int 0, .int 0, .int (-1), .ref a_rk, .int 0, .ref a_on, .ref a_aw, .ref a_ro, .int 0, .ref a_ws, .ref a_ah, .int 0, .int 0, .int 0, .ref a_cl, .ref a_us, .ref a_mo, .ref a_to, .ref a_mb, .ref a_le, .int 0, .ref a_rs, .ref a_rm, .ref a_nu])), (a_mt, .inl (cI, 900, .inl (upd f_113 17 v_120)))] H := hP
  have hD : va_D A [(h0, .inr (12, [.int 0, .ref a_al, .ref a_hi, .ref a_mt, .ref a_fr, .int 17, .int 0, .int 0, .int 0, .int 0, .int 0, .int 0, .int 0, .int 0, .int (-1), .ref a_rk, .int 0, .ref a_on, .ref a_aw, .ref a_ro, .int 0, .ref a_ws, .ref a_ah, .int 0, .int 0, .int 0, .ref a_cl, .ref a_us, .ref a_mo, .ref a_to, .ref a_mb, .ref a_le, .int 0, .ref a_rs, .ref a_rm, .ref a_nu])), (a_mt, .inl (cI, 900, .inl (upd f_113 17 v_120)))] := hD
  generalize hq9 : upd f_113 17 v_120 = f_121 at hP hD; clear hq9
  have hP : va_P D cls [(h0, .inr (12, [.int 0, .ref a_al, .ref a_hi, .ref a_mt, .ref a_fr, .int 17, .int 0, .int 0, .int 0, .int 0, .int 0, .int 0, .int 0, .int 0, .int (-1), .ref a_rk, .int 0, .ref a_on, .ref a_aw, .ref a_ro, .int 0, .ref a_ws, .ref a_ah, .int 0, .int 0, .int 0, .ref a_cl, .ref a_us, .ref a_mo, .ref a_to, .ref a_mb, .ref a_le, .int 0, .ref a_rs, .ref a_rm, .ref a_nu])), (a_mt, .inl (cI, 900, .inl f_121))] H := hP
  have hD : va_D A [(h0, .inr (12, [.int 0, .ref a_al, .ref a_hi, .ref a_mt, .ref a_fr, .int 17, .int 0, .int 0, .int 0, .int 0, .int 0, .int 0, .int 0, .int 0, .int (-1), .ref a_rk, .int 0, .ref a_on, .ref a_aw, .ref a_ro, .int 0, .ref a_ws, .ref a_ah, .int 0, .int 0, .int 0, .ref a_cl, .ref a_us, .ref a_mo, .ref a_to, .ref a_mb, .ref a_le, .int 0, .ref a_rs, .ref a_rm, .ref a_nu])), (a_mt, .inl (cI, 900, .inl f_121))] := hD
  refine lv_aload_n hx hb dX12_feed_105 rfl (lv_at hl 2 rfl) ?_
  refine lv_dup hx hb dX12_feed_106 rfl ?_
  refine va_get (D := D) (ci := 12) (v := .int 17) (C := RX12) (T := TX12) (N := 36) hx hb hts uX12 hown hkb.1 hP 0 rfl rfl 5 (by decide) (hts _ kw_1228) (fun _ h9 => h9) rfl dX12_feed_107 ?_
  refine lv_iconst (v := 1) hx hb dX12_feed_110 (by decide) ?_
  refine lv_iadd hx hb dX12_feed_111 ?_
  refine lv_topc (y := 18) (by decide +kernel) ?_
  refine va_put (D := D) (ci := 12) (v := .int 18) (ty := tyX12 5) (C := RX12) (T := TX12) (N := 36) hx hb hts uX12 tyX12 tyX12_ok nmX12 hown hkb.1 hP hD hS 0 rfl rfl 5 (by decide) (hts _ kw_1228) (fun _ h9 => h9) rfl (tyX12_ok 5 (by decide)) rfl rfl (Nat.le_of_ble_eq_true rfl) dX12_feed_112 (fun H locs hP hD hS => ?_)
  have hP : va_P D cls [(h0, .inr (12, [.int 0, .ref a_al, .ref a_hi, .ref a_mt, .ref a_fr, .int 18, .int 0, .int 0, .int 0, .int 0, .int 0, .int 0, .int 0, .int 0, .int (-1), .ref a_rk, .int 0, .ref a_on, .ref a_aw, .ref a_ro, .int 0, .ref a_ws, .ref a_ah, .int 0, .int 0, .int 0, .ref a_cl, .ref a_us, .ref a_mo, .ref a_to, .ref a_mb, .ref a_le, .int 0, .ref a_rs, .ref a_rm, .ref a_nu])), (a_mt, .inl (cI, 900, .inl f_121))] H := hP
  have hD : va_D A [(h0, .inr (12, [.int 0, .ref a_al, .ref a_hi, .ref a_mt, .ref a_fr, .int 18, .int 0, .int 0, .int 0, .int 0, .int 0, .int 0, .int 0, .int 0, .int (-1), .ref a_rk, .int 0, .ref a_on, .ref a_aw, .ref a_ro, .int 0, .ref a_ws, .ref a_ah, .int 0, .int 0, .int 0, .ref a_cl, .ref a_us, .ref a_mo, .ref a_to, .ref a_mb, .ref a_le, .int 0, .ref a_rs, .ref a_rm, .ref a_nu])), (a_mt, .inl (cI, 900, .inl f_121))] := hD
  refine lv_iinc (v := 18) (lv' := [(6, .int 18), (7, .int i_4), (0, .ref h0), (1, .int i_0), (2, .int i_1), (3, .int i_2), (4, .int i_3), (5, .int i_4)]) hx hb dX12_feed_115 hl (k := 1) rfl (by decide) (by decide) rfl (fun ls hl => ?_)
  refine lv_goto (tgt := 24) hx hb dX12_feed_118 (by decide) ?_
  refine lv_iload hx hb dX12_feed_24 (lv_at hl 0 rfl) ?_
  refine lv_bipush (v := 20) hx hb dX12_feed_26 (by decide) ?_
  refine lv_icmp_ge (tgt := 121) hx hb dX12_feed_28 (by decide) (fun c_122 => absurd c_122 (by decide)) (fun _ => ?_)
  refine lv_iload hx hb dX12_feed_31 (lv_at hl 0 rfl) ?_
  refine lv_iconst (v := 4) hx hb dX12_feed_33 (by decide) ?_
  refine lv_icmp_ge (tgt := 41) hx hb dX12_feed_34 (by decide) (fun _ => ?_) (fun c_123 => absurd c_123 (by decide))
  refine lv_iload hx hb dX12_feed_41 (lv_at hl 0 rfl) ?_
  refine lv_bipush (v := 8) hx hb dX12_feed_43 (by decide) ?_
  refine lv_icmp_ge (tgt := 52) hx hb dX12_feed_45 (by decide) (fun _ => ?_) (fun c_124 => absurd c_124 (by decide))
  refine lv_iload hx hb dX12_feed_52 (lv_at hl 0 rfl) ?_
  refine lv_bipush (v := 12) hx hb dX12_feed_54 (by decide) ?_
  refine lv_icmp_ge (tgt := 63) hx hb dX12_feed_56 (by decide) (fun _ => ?_) (fun c_125 => absurd c_125 (by decide))
  refine lv_iload hx hb dX12_feed_63 (lv_at hl 0 rfl) ?_
  refine lv_bipush (v := 16) hx hb dX12_feed_65 (by decide) ?_
  refine lv_icmp_ge (tgt := 75) hx hb dX12_feed_67 (by decide) (fun _ => ?_) (fun c_126 => absurd c_126 (by decide))
  refine lv_iload hx hb dX12_feed_75 (lv_at hl 7 rfl) ?_
  refine lv_istore (lv' := [(7, .int i_4), (6, .int 18), (0, .ref h0), (1, .int i_0), (2, .int i_1), (3, .int i_2), (4, .int i_3), (5, .int i_4)]) hx hb dX12_feed_77 hl (by decide) rfl (fun ls hl => ?_)
  refine lv_aload_n hx hb dX12_feed_79 rfl (lv_at hl 2 rfl) ?_
  refine va_get (D := D) (ci := 12) (v := .ref a_mt) (C := RX12) (T := TX12) (N := 36) hx hb hts uX12 hown hkb.1 hP 0 rfl rfl 3 (by decide) (hts _ kw_1226) (fun _ h9 => h9) rfl dX12_feed_80 ?_
  refine lv_aload_n hx hb dX12_feed_83 rfl (lv_at hl 2 rfl) ?_
  refine va_get (D := D) (ci := 12) (v := .int 18) (C := RX12) (T := TX12) (N := 36) hx hb hts uX12 hown hkb.1 hP 0 rfl rfl 5 (by decide) (hts _ kw_1228) (fun _ h9 => h9) rfl dX12_feed_84 ?_
  refine lv_iload hx hb dX12_feed_87 (lv_at hl 0 rfl) ?_
  refine lv_bipush (v := 24) hx hb dX12_feed_89 (by decide) ?_
  refine lv_bipush (v := 8) hx hb dX12_feed_91 (by decide) ?_
  refine lv_iload hx hb dX12_feed_93 (lv_at hl 1 rfl) ?_
  refine lv_iconst (v := 4) hx hb dX12_feed_95 (by decide) ?_
  refine lv_irem hx hb dX12_feed_96 (by decide) ?_
  refine lv_topc (y := 2) (by decide +kernel) ?_
  refine lv_imul hx hb dX12_feed_97 ?_
  refine lv_topc (y := 16) (by decide +kernel) ?_
  refine lv_isub hx hb dX12_feed_98 ?_
  refine lv_topc (y := 8) (by decide +kernel) ?_
  refine lv_ishr hx hb dX12_feed_99 ?_
  refine lv_topi (fun v_127 ev_127 => ?_)
  refine lv_sipush (v := 255) hx hb dX12_feed_100 (by decide) ?_
  refine lv_iand hx hb dX12_feed_103 ?_
  refine lv_topi (fun v_128 ev_128 => ?_)
  refine s_i 1 1 hx hb hkb.1 hP hD hS rfl rfl (in_c (by decide +kernel)) 18 (by decide +kernel) dX12_feed_104 (fun H locs hP hD hS => ?_)
  have hP : va_P D cls [(h0, .inr (12, [.int 0, .ref a_al, .ref a_hi, .ref a_mt, .ref a_fr, .int 18, .int 0, .int 0, .int 0, .int 0, .int 0, .int 0, .int 0, .int 0, .int (-1), .ref a_rk, .int 0, .ref a_on, .ref a_aw, .ref a_ro, .int 0, .ref a_ws, .ref a_ah, .int 0, .int 0, .int 0, .ref a_cl, .ref a_us, .ref a_mo, .ref a_to, .ref a_mb, .ref a_le, .int 0, .ref a_rs, .ref a_rm, .ref a_nu])), (a_mt, .inl (cI, 900, .inl (upd f_121 18 v_128)))] H := hP
  have hD : va_D A [(h0, .inr (12, [.int 0, .ref a_al, .ref a_hi, .ref a_mt, .ref a_fr, .int 18, .int 0, .int 0, .int 0, .int 0, .int 0, .int 0, .int 0, .int 0, .int (-1), .ref a_rk, .int 0, .ref a_on, .ref a_aw, .ref a_ro, .int 0, .ref a_ws, .ref a_ah, .int 0, .int 0, .int 0, .ref a_cl, .ref a_us, .ref a_mo, .ref a_to, .ref a_mb, .ref a_le, .int 0, .ref a_rs, .ref a_rm, .ref a_nu])), (a_mt, .inl (cI, 900, .inl (upd f_121 18 v_128)))] := hD
  generalize hq9 : upd f_121 18 v_128 = f_129 at hP hD; clear hq9
  have hP : va_P D cls [(h0, .inr (12, [.int 0, .ref a_al, .ref a_hi, .ref a_mt, .ref a_fr, .int 18, .int 0, .int 0, .int 0, .int 0, .int 0, .int 0, .int 0, .int 0, .int (-1), .ref a_rk, .int 0, .ref a_on, .ref a_aw, .ref a_ro, .int 0, .ref a_ws, .ref a_ah, .int 0, .int 0, .int 0, .ref a_cl, .ref a_us, .ref a_mo, .ref a_to, .ref a_mb, .ref a_le, .int 0, .ref a_rs, .ref a_rm, .ref a_nu])), (a_mt, .inl (cI, 900, .inl f_129))] H := hP
  have hD : va_D A [(h0, .inr (12, [.int 0, .ref a_al, .ref a_hi, .ref a_mt, .ref a_fr, .int 18, .int 0, .int 0, .int 0, .int 0, .int 0, .int 0, .int 0, .int 0, .int (-1), .ref a_rk, .int 0, .ref a_on, .ref a_aw, .ref a_ro, .int 0, .ref a_ws, .ref a_ah, .int 0, .int 0, .int 0, .ref a_cl, .ref a_us, .ref a_mo, .ref a_to, .ref a_mb, .ref a_le, .int 0, .ref a_rs, .ref a_rm, .ref a_nu])), (a_mt, .inl (cI, 900, .inl f_129))] := hD
  refine lv_aload_n hx hb dX12_feed_105 rfl (lv_at hl 2 rfl) ?_
  refine lv_dup hx hb dX12_feed_106 rfl ?_
  refine va_get (D := D) (ci := 12) (v := .int 18) (C := RX12) (T := TX12) (N := 36) hx hb hts uX12 hown hkb.1 hP 0 rfl rfl 5 (by decide) (hts _ kw_1228) (fun _ h9 => h9) rfl dX12_feed_107 ?_
  refine lv_iconst (v := 1) hx hb dX12_feed_110 (by decide) ?_
  refine lv_iadd hx hb dX12_feed_111 ?_
  refine lv_topc (y := 19) (by decide +kernel) ?_
  refine va_put (D := D) (ci := 12) (v := .int 19) (ty := tyX12 5) (C := RX12) (T := TX12) (N := 36) hx hb hts uX12 tyX12 tyX12_ok nmX12 hown hkb.1 hP hD hS 0 rfl rfl 5 (by decide) (hts _ kw_1228) (fun _ h9 => h9) rfl (tyX12_ok 5 (by decide)) rfl rfl (Nat.le_of_ble_eq_true rfl) dX12_feed_112 (fun H locs hP hD hS => ?_)
  have hP : va_P D cls [(h0, .inr (12, [.int 0, .ref a_al, .ref a_hi, .ref a_mt, .ref a_fr, .int 19, .int 0, .int 0, .int 0, .int 0, .int 0, .int 0, .int 0, .int 0, .int (-1), .ref a_rk, .int 0, .ref a_on, .ref a_aw, .ref a_ro, .int 0, .ref a_ws, .ref a_ah, .int 0, .int 0, .int 0, .ref a_cl, .ref a_us, .ref a_mo, .ref a_to, .ref a_mb, .ref a_le, .int 0, .ref a_rs, .ref a_rm, .ref a_nu])), (a_mt, .inl (cI, 900, .inl f_129))] H := hP
  have hD : va_D A [(h0, .inr (12, [.int 0, .ref a_al, .ref a_hi, .ref a_mt, .ref a_fr, .int 19, .int 0, .int 0, .int 0, .int 0, .int 0, .int 0, .int 0, .int 0, .int (-1), .ref a_rk, .int 0, .ref a_on, .ref a_aw, .ref a_ro, .int 0, .ref a_ws, .ref a_ah, .int 0, .int 0, .int 0, .ref a_cl, .ref a_us, .ref a_mo, .ref a_to, .ref a_mb, .ref a_le, .int 0, .ref a_rs, .ref a_rm, .ref a_nu])), (a_mt, .inl (cI, 900, .inl f_129))] := hD
  refine lv_iinc (v := 19) (lv' := [(6, .int 19), (7, .int i_4), (0, .ref h0), (1, .int i_0), (2, .int i_1), (3, .int i_2), (4, .int i_3), (5, .int i_4)]) hx hb dX12_feed_115 hl (k := 1) rfl (by decide) (by decide) rfl (fun ls hl => ?_)
  refine lv_goto (tgt := 24) hx hb dX12_feed_118 (by decide) ?_
  refine lv_iload hx hb dX12_feed_24 (lv_at hl 0 rfl) ?_
  refine lv_bipush (v := 20) hx hb dX12_feed_26 (by decide) ?_
  refine lv_icmp_ge (tgt := 121) hx hb dX12_feed_28 (by decide) (fun c_130 => absurd c_130 (by decide)) (fun _ => ?_)
  refine lv_iload hx hb dX12_feed_31 (lv_at hl 0 rfl) ?_
  refine lv_iconst (v := 4) hx hb dX12_feed_33 (by decide) ?_
  refine lv_icmp_ge (tgt := 41) hx hb dX12_feed_34 (by decide) (fun _ => ?_) (fun c_131 => absurd c_131 (by decide))
  refine lv_iload hx hb dX12_feed_41 (lv_at hl 0 rfl) ?_
  refine lv_bipush (v := 8) hx hb dX12_feed_43 (by decide) ?_
  refine lv_icmp_ge (tgt := 52) hx hb dX12_feed_45 (by decide) (fun _ => ?_) (fun c_132 => absurd c_132 (by decide))
  refine lv_iload hx hb dX12_feed_52 (lv_at hl 0 rfl) ?_
  refine lv_bipush (v := 12) hx hb dX12_feed_54 (by decide) ?_
  refine lv_icmp_ge (tgt := 63) hx hb dX12_feed_56 (by decide) (fun _ => ?_) (fun c_133 => absurd c_133 (by decide))
  refine lv_iload hx hb dX12_feed_63 (lv_at hl 0 rfl) ?_
  refine lv_bipush (v := 16) hx hb dX12_feed_65 (by decide) ?_
  refine lv_icmp_ge (tgt := 75) hx hb dX12_feed_67 (by decide) (fun _ => ?_) (fun c_134 => absurd c_134 (by decide))
  refine lv_iload hx hb dX12_feed_75 (lv_at hl 7 rfl) ?_
  refine lv_istore (lv' := [(7, .int i_4), (6, .int 19), (0, .ref h0), (1, .int i_0), (2, .int i_1), (3, .int i_2), (4, .int i_3), (5, .int i_4)]) hx hb dX12_feed_77 hl (by decide) rfl (fun ls hl => ?_)
  refine lv_aload_n hx hb dX12_feed_79 rfl (lv_at hl 2 rfl) ?_
  refine va_get (D := D) (ci := 12) (v := .ref a_mt) (C := RX12) (T := TX12) (N := 36) hx hb hts uX12 hown hkb.1 hP 0 rfl rfl 3 (by decide) (hts _ kw_1226) (fun _ h9 => h9) rfl dX12_feed_80 ?_
  refine lv_aload_n hx hb dX12_feed_83 rfl (lv_at hl 2 rfl) ?_
  refine va_get (D := D) (ci := 12) (v := .int 19) (C := RX12) (T := TX12) (N := 36) hx hb hts uX12 hown hkb.1 hP 0 rfl rfl 5 (by decide) (hts _ kw_1228) (fun _ h9 => h9) rfl dX12_feed_84 ?_
  refine lv_iload hx hb dX12_feed_87 (lv_at hl 0 rfl) ?_
  refine lv_bipush (v := 24) hx hb dX12_feed_89 (by decide) ?_
  refine lv_bipush (v := 8) hx hb dX12_feed_91 (by decide) ?_
  refine lv_iload hx hb dX12_feed_93 (lv_at hl 1 rfl) ?_
  refine lv_iconst (v := 4) hx hb dX12_feed_95 (by decide) ?_
  refine lv_irem hx hb dX12_feed_96 (by decide) ?_
  refine lv_topc (y := 3) (by decide +kernel) ?_
  refine lv_imul hx hb dX12_feed_97 ?_
  refine lv_topc (y := 24) (by decide +kernel) ?_
  refine lv_isub hx hb dX12_feed_98 ?_
  refine lv_topc (y := 0) (by decide +kernel) ?_
  refine lv_ishr hx hb dX12_feed_99 ?_
  refine lv_topi (fun v_135 ev_135 => ?_)
  refine lv_sipush (v := 255) hx hb dX12_feed_100 (by decide) ?_
  refine lv_iand hx hb dX12_feed_103 ?_
  refine lv_topi (fun v_136 ev_136 => ?_)
  refine s_i 1 1 hx hb hkb.1 hP hD hS rfl rfl (in_c (by decide +kernel)) 19 (by decide +kernel) dX12_feed_104 (fun H locs hP hD hS => ?_)
  have hP : va_P D cls [(h0, .inr (12, [.int 0, .ref a_al, .ref a_hi, .ref a_mt, .ref a_fr, .int 19, .int 0, .int 0, .int 0, .int 0, .int 0, .int 0, .int 0, .int 0, .int (-1), .ref a_rk, .int 0, .ref a_on, .ref a_aw, .ref a_ro, .int 0, .ref a_ws, .ref a_ah, .int 0, .int 0, .int 0, .ref a_cl, .ref a_us, .ref a_mo, .ref a_to, .ref a_mb, .ref a_le, .int 0, .ref a_rs, .ref a_rm, .ref a_nu])), (a_mt, .inl (cI, 900, .inl (upd f_129 19 v_136)))] H := hP
  have hD : va_D A [(h0, .inr (12, [.int 0, .ref a_al, .ref a_hi, .ref a_mt, .ref a_fr, .int 19, .int 0, .int 0, .int 0, .int 0, .int 0, .int 0, .int 0, .int 0, .int (-1), .ref a_rk, .int 0, .ref a_on, .ref a_aw, .ref a_ro, .int 0, .ref a_ws, .ref a_ah, .int 0, .int 0, .int 0, .ref a_cl, .ref a_us, .ref a_mo, .ref a_to, .ref a_mb, .ref a_le, .int 0, .ref a_rs, .ref a_rm, .ref a_nu])), (a_mt, .inl (cI, 900, .inl (upd f_129 19 v_136)))] := hD
  generalize hq9 : upd f_129 19 v_136 = f_137 at hP hD; clear hq9
  have hP : va_P D cls [(h0, .inr (12, [.int 0, .ref a_al, .ref a_hi, .ref a_mt, .ref a_fr, .int 19, .int 0, .int 0, .int 0, .int 0, .int 0, .int 0, .int 0, .int 0, .int (-1), .ref a_rk, .int 0, .ref a_on, .ref a_aw, .ref a_ro, .int 0, .ref a_ws, .ref a_ah, .int 0, .int 0, .int 0, .ref a_cl, .ref a_us, .ref a_mo, .ref a_to, .ref a_mb, .ref a_le, .int 0, .ref a_rs, .ref a_rm, .ref a_nu])), (a_mt, .inl (cI, 900, .inl f_137))] H := hP
  have hD : va_D A [(h0, .inr (12, [.int 0, .ref a_al, .ref a_hi, .ref a_mt, .ref a_fr, .int 19, .int 0, .int 0, .int 0, .int 0, .int 0, .int 0, .int 0, .int 0, .int (-1), .ref a_rk, .int 0, .ref a_on, .ref a_aw, .ref a_ro, .int 0, .ref a_ws, .ref a_ah, .int 0, .int 0, .int 0, .ref a_cl, .ref a_us, .ref a_mo, .ref a_to, .ref a_mb, .ref a_le, .int 0, .ref a_rs, .ref a_rm, .ref a_nu])), (a_mt, .inl (cI, 900, .inl f_137))] := hD
  refine lv_aload_n hx hb dX12_feed_105 rfl (lv_at hl 2 rfl) ?_
  refine lv_dup hx hb dX12_feed_106 rfl ?_
  refine va_get (D := D) (ci := 12) (v := .int 19) (C := RX12) (T := TX12) (N := 36) hx hb hts uX12 hown hkb.1 hP 0 rfl rfl 5 (by decide) (hts _ kw_1228) (fun _ h9 => h9) rfl dX12_feed_107 ?_
  refine lv_iconst (v := 1) hx hb dX12_feed_110 (by decide) ?_
  refine lv_iadd hx hb dX12_feed_111 ?_
  refine lv_topc (y := 20) (by decide +kernel) ?_
  refine va_put (D := D) (ci := 12) (v := .int 20) (ty := tyX12 5) (C := RX12) (T := TX12) (N := 36) hx hb hts uX12 tyX12 tyX12_ok nmX12 hown hkb.1 hP hD hS 0 rfl rfl 5 (by decide) (hts _ kw_1228) (fun _ h9 => h9) rfl (tyX12_ok 5 (by decide)) rfl rfl (Nat.le_of_ble_eq_true rfl) dX12_feed_112 (fun H locs hP hD hS => ?_)
  have hP : va_P D cls [(h0, .inr (12, [.int 0, .ref a_al, .ref a_hi, .ref a_mt, .ref a_fr, .int 20, .int 0, .int 0, .int 0, .int 0, .int 0, .int 0, .int 0, .int 0, .int (-1), .ref a_rk, .int 0, .ref a_on, .ref a_aw, .ref a_ro, .int 0, .ref a_ws, .ref a_ah, .int 0, .int 0, .int 0, .ref a_cl, .ref a_us, .ref a_mo, .ref a_to, .ref a_mb, .ref a_le, .int 0, .ref a_rs, .ref a_rm, .ref a_nu])), (a_mt, .inl (cI, 900, .inl f_137))] H := hP
  have hD : va_D A [(h0, .inr (12, [.int 0, .ref a_al, .ref a_hi, .ref a_mt, .ref a_fr, .int 20, .int 0, .int 0, .int 0, .int 0, .int 0, .int 0, .int 0, .int 0, .int (-1), .ref a_rk, .int 0, .ref a_on, .ref a_aw, .ref a_ro, .int 0, .ref a_ws, .ref a_ah, .int 0, .int 0, .int 0, .ref a_cl, .ref a_us, .ref a_mo, .ref a_to, .ref a_mb, .ref a_le, .int 0, .ref a_rs, .ref a_rm, .ref a_nu])), (a_mt, .inl (cI, 900, .inl f_137))] := hD
  refine lv_iinc (v := 20) (lv' := [(6, .int 20), (7, .int i_4), (0, .ref h0), (1, .int i_0), (2, .int i_1), (3, .int i_2), (4, .int i_3), (5, .int i_4)]) hx hb dX12_feed_115 hl (k := 1) rfl (by decide) (by decide) rfl (fun ls hl => ?_)
  refine lv_goto (tgt := 24) hx hb dX12_feed_118 (by decide) ?_
  refine lv_iload hx hb dX12_feed_24 (lv_at hl 0 rfl) ?_
  refine lv_bipush (v := 20) hx hb dX12_feed_26 (by decide) ?_
  refine lv_icmp_ge (tgt := 121) hx hb dX12_feed_28 (by decide) (fun _ => ?_) (fun c_138 => absurd c_138 (by decide))
  refine lv_aload_n hx hb dX12_feed_121 rfl (lv_at hl 2 rfl) ?_
  refine va_get (D := D) (ci := 12) (v := .int 20) (C := RX12) (T := TX12) (N := 36) hx hb hts uX12 hown hkb.1 hP 0 rfl rfl 5 (by decide) (hts _ kw_1228) (fun _ h9 => h9) rfl dX12_feed_122 ?_
  refine W.widen (k := 0) (n := 0) (Nat.le_of_ble_eq_true rfl) (Nat.le_of_ble_eq_true rfl) ?_
  exact e_i (u := []) hx hb hr hlocks (hP.sub (ws' := []) [] rfl) (hD.sub (ws' := []) [] (by decide) rfl) hS ⟨(by first | rfl | (exfalso; omega)), rfl⟩ dX12_feed_125
