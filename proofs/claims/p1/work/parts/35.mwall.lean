set_option maxHeartbeats 4000000 in
set_option maxRecDepth 100000 in
theorem y_image (l : Launch) (D : va_G) (cB cI cJ cZ cS cW cT cR : ClassId) (h0 : Nat) (a_al : Nat) (a_hi : Nat) (i_0 : Int32) (a_mt : Nat) (a_fr : Nat) (a_rk : Nat) (a_on : Nat) (a_aw : Nat) (a_ro : Nat) (a_ws : Nat) (a_ah : Nat) (a_cl : Nat) (a_us : Nat) (a_mo : Nat) (a_to : Nat) (a_mb : Nat) (a_le : Nat) (a_rs : Nat) (a_rm : Nat) (a_nu : Nat) : Kon l D (tyl cB cI cJ cZ cS cW cT cR) yX12_image cX12_image 3 (some (.int)) { frames := 1, cells := 0, slots := 0, locals := 25 } [.ref h0, .int i_0] [(h0, .inr (12, [.int 0, .ref a_al, .ref a_hi, .ref a_mt, .ref a_fr, .int 0, .int 0, .int 0, .int 0, .int 0, .int 0, .int 0, .int 0, .int 0, .int (-1), .ref a_rk, .int 0, .ref a_on, .ref a_aw, .ref a_ro, .int 0, .ref a_ws, .ref a_ah, .int 0, .int 0, .int 0, .ref a_cl, .ref a_us, .ref a_mo, .ref a_to, .ref a_mb, .ref a_le, .int 0, .ref a_rs, .ref a_rm, .ref a_nu])), (a_al, .inl (cI, 3906, .inl plc)), (a_hi, .inl (cZ, 2, .inl (fun _ => 0)))] (Qi D (fun r u => r = F_image i_0 ∧ u = [])) := by
  refine kon_of (by decide) (Nat.le_of_ble_eq_true rfl) (fun p e s m below meth c ls A hx hb hr hml hown hts hlocks hnm hkb hP hD hS hA hl => ?_)
  have hown : s.vm.findClass RX12 = some m.cls := hown
  have hl : lv_has ls 3 [(0, .ref h0), (1, .int i_0)] := hl
  have hP : va_P D cls [(h0, .inr (12, [.int 0, .ref a_al, .ref a_hi, .ref a_mt, .ref a_fr, .int 0, .int 0, .int 0, .int 0, .int 0, .int 0, .int 0, .int 0, .int 0, .int (-1), .ref a_rk, .int 0, .ref a_on, .ref a_aw, .ref a_ro, .int 0, .ref a_ws, .ref a_ah, .int 0, .int 0, .int 0, .ref a_cl, .ref a_us, .ref a_mo, .ref a_to, .ref a_mb, .ref a_le, .int 0, .ref a_rs, .ref a_rm, .ref a_nu])), (a_al, .inl (cI, 3906, .inl plc)), (a_hi, .inl (cZ, 2, .inl (fun _ => 0)))] s.heap := hP
  refine lv_aload_n hx hb dX12_image_0 rfl (lv_at hl 0 rfl) ?_
  refine lv_iconst (v := 0) hx hb dX12_image_1 (by decide) ?_
  refine va_put (D := D) (ci := 12) (v := .int 0) (ty := tyX12 0) (C := RX12) (T := TX12) (N := 36) hx hb hts uX12 tyX12 tyX12_ok nmX12 hown hkb.1 hP hD hS 0 rfl rfl 0 (by decide) (hts _ kw_1223) (fun _ h9 => h9) rfl (tyX12_ok 0 (by decide)) rfl rfl (Nat.le_of_ble_eq_true rfl) dX12_image_2 (fun H locs hP hD hS => ?_)
  have hP : va_P D cls [(h0, .inr (12, [.int 0, .ref a_al, .ref a_hi, .ref a_mt, .ref a_fr, .int 0, .int 0, .int 0, .int 0, .int 0, .int 0, .int 0, .int 0, .int 0, .int (-1), .ref a_rk, .int 0, .ref a_on, .ref a_aw, .ref a_ro, .int 0, .ref a_ws, .ref a_ah, .int 0, .int 0, .int 0, .ref a_cl, .ref a_us, .ref a_mo, .ref a_to, .ref a_mb, .ref a_le, .int 0, .ref a_rs, .ref a_rm, .ref a_nu])), (a_al, .inl (cI, 3906, .inl plc)), (a_hi, .inl (cZ, 2, .inl (fun _ => 0)))] H := hP
  have hD : va_D A [(h0, .inr (12, [.int 0, .ref a_al, .ref a_hi, .ref a_mt, .ref a_fr, .int 0, .int 0, .int 0, .int 0, .int 0, .int 0, .int 0, .int 0, .int 0, .int (-1), .ref a_rk, .int 0, .ref a_on, .ref a_aw, .ref a_ro, .int 0, .ref a_ws, .ref a_ah, .int 0, .int 0, .int 0, .ref a_cl, .ref a_us, .ref a_mo, .ref a_to, .ref a_mb, .ref a_le, .int 0, .ref a_rs, .ref a_rm, .ref a_nu])), (a_al, .inl (cI, 3906, .inl plc)), (a_hi, .inl (cZ, 2, .inl (fun _ => 0)))] := hD
  refine lv_iload_n hx hb dX12_image_5 rfl (lv_at hl 1 rfl) ?_
  refine lv_i2l hx hb dX12_image_6 rfl ?_
  refine lv_lconst (v := 0) hx hb dX12_image_7 (by decide) ?_
  refine lv_lconst (v := 1) hx hb dX12_image_8 (by decide) ?_
  have hPc := hP.sub (ws' := []) [] rfl
  have hDc := hD.sub (ws' := []) [] (by decide) rfl
  refine k_i (wc := []) (wr := [(h0, .inr (12, [.int 0, .ref a_al, .ref a_hi, .ref a_mt, .ref a_fr, .int 0, .int 0, .int 0, .int 0, .int 0, .int 0, .int 0, .int 0, .int 0, .int (-1), .ref a_rk, .int 0, .ref a_on, .ref a_aw, .ref a_ro, .int 0, .ref a_ws, .ref a_ah, .int 0, .int 0, .int 0, .ref a_cl, .ref a_us, .ref a_mo, .ref a_to, .ref a_mb, .ref a_le, .int 0, .ref a_rs, .ref a_rm, .ref a_nu])), (a_al, .inl (cI, 3906, .inl plc)), (a_hi, .inl (cZ, 2, .inl (fun _ => 0)))]) hP hD hS hA [] [0, 1, 2] rfl rfl rfl (by decide) (r_S (n := 3) (As := [.long i_0.toInt64, .long 0, .long 1]) hx hb hml hown hts hkb hPc hDc (c_within l D cB cI cJ cZ cS cW cT cR i_0.toInt64 0 1) kw_1341 kw_1342 kw_13 kw_1343 (by decide +kernel) ⟨Nat.le_of_ble_eq_true rfl, Nat.le_of_ble_eq_true rfl⟩ rfl rfl hl.1 (Nat.le_of_ble_eq_true rfl) dX12_image_9 ⟨Nat.le_of_ble_eq_true rfl, Nat.le_of_ble_eq_true rfl⟩) (fun r_1 u H locs hw hP hD hS => ?_)
  obtain ⟨rfl, rfl⟩ := hw
  have hP : va_P D cls [(h0, .inr (12, [.int 0, .ref a_al, .ref a_hi, .ref a_mt, .ref a_fr, .int 0, .int 0, .int 0, .int 0, .int 0, .int 0, .int 0, .int 0, .int 0, .int (-1), .ref a_rk, .int 0, .ref a_on, .ref a_aw, .ref a_ro, .int 0, .ref a_ws, .ref a_ah, .int 0, .int 0, .int 0, .ref a_cl, .ref a_us, .ref a_mo, .ref a_to, .ref a_mb, .ref a_le, .int 0, .ref a_rs, .ref a_rm, .ref a_nu])), (a_al, .inl (cI, 3906, .inl plc)), (a_hi, .inl (cZ, 2, .inl (fun _ => 0)))] H := hP
  have hD : va_D A [(h0, .inr (12, [.int 0, .ref a_al, .ref a_hi, .ref a_mt, .ref a_fr, .int 0, .int 0, .int 0, .int 0, .int 0, .int 0, .int 0, .int 0, .int 0, .int (-1), .ref a_rk, .int 0, .ref a_on, .ref a_aw, .ref a_ro, .int 0, .ref a_ws, .ref a_ah, .int 0, .int 0, .int 0, .ref a_cl, .ref a_us, .ref a_mo, .ref a_to, .ref a_mb, .ref a_le, .int 0, .ref a_rs, .ref a_rm, .ref a_nu])), (a_al, .inl (cI, 3906, .inl plc)), (a_hi, .inl (cZ, 2, .inl (fun _ => 0)))] := hD
  refine W.widen (k := 0) (n := 0) (Nat.le_of_ble_eq_true rfl) (Nat.le_of_ble_eq_true rfl) ?_
  refine lv_if_ne (tgt := 18) hx hb dX12_image_12 (by decide) (fun c_2 => ?_) (fun c_2 => ?_)
  · skip
    have tc_2 := wi_1 (a := 0) (b := 1) (by decide) (by decide) c_2
    by_cases c_3 : i_0 = 0
    · skip
      subst c_3
      have zc_3 : (0 : Int32).toInt = 0 := by decide
      refine lv_iconst (v := 0) hx hb dX12_image_18 (by decide) ?_
      refine lv_istore_n (lv' := [(2, .int 0), (0, .ref h0), (1, .int 0)]) hx hb dX12_image_19 rfl hl (by decide) rfl (fun ls hl => ?_)
      have lp_8 : ∀ (n_4 k_5 : Nat) (x_6 : Int32) (f_9 : Nat → Int32) (H : Heap) (locs : List Loc) (ls : Array Slot), k_5 + n_4 = 1302 → x_6 = nI k_5 → va_P D cls [(h0, .inr (12, [.int 0, .ref a_al, .ref a_hi, .ref a_mt, .ref a_fr, .int 0, .int 0, .int 0, .int 0, .int 0, .int 0, .int 0, .int 0, .int 0, .int (-1), .ref a_rk, .int 0, .ref a_on, .ref a_aw, .ref a_ro, .int 0, .ref a_ws, .ref a_ah, .int 0, .int 0, .int 0, .ref a_cl, .ref a_us, .ref a_mo, .ref a_to, .ref a_mb, .ref a_le, .int 0, .ref a_rs, .ref a_rm, .ref a_nu])), (a_al, .inl (cI, 3906, .inl f_9)), (a_hi, .inl (cZ, 2, .inl (fun _ => 0)))] H → va_D A [(h0, .inr (12, [.int 0, .ref a_al, .ref a_hi, .ref a_mt, .ref a_fr, .int 0, .int 0, .int 0, .int 0, .int 0, .int 0, .int 0, .int 0, .int 0, .int (-1), .ref a_rk, .int 0, .ref a_on, .ref a_aw, .ref a_ro, .int 0, .ref a_ws, .ref a_ah, .int 0, .int 0, .int 0, .ref a_cl, .ref a_us, .ref a_mo, .ref a_to, .ref a_mb, .ref a_le, .int 0, .ref a_rs, .ref a_rm, .ref a_nu])), (a_al, .inl (cI, 3906, .inl f_9)), (a_hi, .inl (cZ, 2, .inl (fun _ => 0)))] → va_S A s.heap H locs → lv_has ls 3 [(2, .int x_6), (0, .ref h0), (1, .int 0)] → W p l e { frames := 1, cells := 0, slots := 0, locals := 25 } s m [.ref h0, .int 0].toArray below meth c H locs 0 0 (MQ below (Qi D (fun r u => r = F_image 0 ∧ u = []) A) [.ref h0, .int 0].toArray s 0 0 A) (F0 m 20 ls []) := by
        intro n_4
        induction n_4 with
        | zero =>
          intro k_5 x_6 f_9 H locs ls hk_7 hx_6  hP hD hS hl
          have hzx_6 : x_6.toInt = (k_5 : Int) := by rw [hx_6]; exact nI_toInt (by omega)
          refine lv_iload_n hx hb dX12_image_20 rfl (lv_at hl 0 rfl) ?_
          refine lv_sipush (v := 1302) hx hb dX12_image_21 (by decide) ?_
          refine lv_icmp_ge (tgt := 53) hx hb dX12_image_24 (by decide) (fun _ => ?_) (fun c_10 => by exfalso; have tc_10 := f_nge (k := 1302) (by decide) c_10; omega)
          refine lv_aload_n hx hb dX12_image_53 rfl (lv_at hl 1 rfl) ?_
          refine va_get (D := D) (ci := 12) (v := .ref a_hi) (C := RX12) (T := TX12) (N := 36) hx hb hts uX12 hown hkb.1 hP 0 rfl rfl 2 (by decide) (hts _ kw_1225) (fun _ h9 => h9) rfl dX12_image_54 ?_
          refine lv_iload_n hx hb dX12_image_57 rfl (lv_at hl 2 rfl) ?_
          refine lv_iconst (v := 1) hx hb dX12_image_58 (by decide) ?_
          refine s_z 2 3 hx hb hkb.1 hP hD hS rfl rfl (in_c (by decide +kernel)) 0 (by decide +kernel) dX12_image_59 (fun H locs hP hD hS => ?_)
          have hP : va_P D cls [(h0, .inr (12, [.int 0, .ref a_al, .ref a_hi, .ref a_mt, .ref a_fr, .int 0, .int 0, .int 0, .int 0, .int 0, .int 0, .int 0, .int 0, .int 0, .int (-1), .ref a_rk, .int 0, .ref a_on, .ref a_aw, .ref a_ro, .int 0, .ref a_ws, .ref a_ah, .int 0, .int 0, .int 0, .ref a_cl, .ref a_us, .ref a_mo, .ref a_to, .ref a_mb, .ref a_le, .int 0, .ref a_rs, .ref a_rm, .ref a_nu])), (a_al, .inl (cI, 3906, .inl f_9)), (a_hi, .inl (cZ, 2, .inl (upd (fun _ => 0) 0 (vp_nar .boolean 1))))] H := hP
          have hD : va_D A [(h0, .inr (12, [.int 0, .ref a_al, .ref a_hi, .ref a_mt, .ref a_fr, .int 0, .int 0, .int 0, .int 0, .int 0, .int 0, .int 0, .int 0, .int 0, .int (-1), .ref a_rk, .int 0, .ref a_on, .ref a_aw, .ref a_ro, .int 0, .ref a_ws, .ref a_ah, .int 0, .int 0, .int 0, .ref a_cl, .ref a_us, .ref a_mo, .ref a_to, .ref a_mb, .ref a_le, .int 0, .ref a_rs, .ref a_rm, .ref a_nu])), (a_al, .inl (cI, 3906, .inl f_9)), (a_hi, .inl (cZ, 2, .inl (upd (fun _ => 0) 0 (vp_nar .boolean 1))))] := hD
          refine lv_iconst (v := 0) hx hb dX12_image_60 (by decide) ?_
          refine W.widen (k := 0) (n := 0) (Nat.le_of_ble_eq_true rfl) (Nat.le_of_ble_eq_true rfl) ?_
          exact e_i (u := []) hx hb hr hlocks (hP.sub (ws' := []) [] rfl) (hD.sub (ws' := []) [] (by decide) rfl) hS ⟨(by unfold F_image; (repeat' split) <;> first | rfl | (exfalso; omega)), rfl⟩ dX12_image_61
        | succ n_4 ih =>
          intro k_5 x_6 f_9 H locs ls hk_7 hx_6  hP hD hS hl
          have hzx_6 : x_6.toInt = (k_5 : Int) := by rw [hx_6]; exact nI_toInt (by omega)
          refine lv_iload_n hx hb dX12_image_20 rfl (lv_at hl 0 rfl) ?_
          refine lv_sipush (v := 1302) hx hb dX12_image_21 (by decide) ?_
          refine lv_icmp_ge (tgt := 53) hx hb dX12_image_24 (by decide) (fun c_11 => by exfalso; have tc_11 := f_ge (k := 1302) (by decide) c_11; omega) (fun _ => ?_)
          refine lv_aload_n hx hb dX12_image_27 rfl (lv_at hl 1 rfl) ?_
          refine va_get (D := D) (ci := 12) (v := .ref a_al) (C := RX12) (T := TX12) (N := 36) hx hb hts uX12 hown hkb.1 hP 0 rfl rfl 1 (by decide) (hts _ kw_1224) (fun _ h9 => h9) rfl dX12_image_28 ?_
          refine lv_sipush (v := 1302) hx hb dX12_image_31 (by decide) ?_
          refine lv_iload_n hx hb dX12_image_34 rfl (lv_at hl 2 rfl) ?_
          refine lv_iconst (v := 1) hx hb dX12_image_35 (by decide) ?_
          refine lv_iadd hx hb dX12_image_36 ?_
          refine lv_topc (y := 1) (by decide +kernel) ?_
          refine lv_imul hx hb dX12_image_37 ?_
          refine lv_topc (y := 1302) (by decide +kernel) ?_
          refine lv_iload_n hx hb dX12_image_38 rfl (lv_at hl 0 rfl) ?_
          refine lv_iadd hx hb dX12_image_39 ?_
          refine lv_topc (y := nI (1302 + k_5)) (by rw [hx_6]; exact nI_add 1302 k_5) ?_
          refine lv_aload_n hx hb dX12_image_40 rfl (lv_at hl 1 rfl) ?_
          refine va_get (D := D) (ci := 12) (v := .ref a_al) (C := RX12) (T := TX12) (N := 36) hx hb hts uX12 hown hkb.1 hP 0 rfl rfl 1 (by decide) (hts _ kw_1224) (fun _ h9 => h9) rfl dX12_image_41 ?_
          refine lv_iload_n hx hb dX12_image_44 rfl (lv_at hl 0 rfl) ?_
          refine va_iald hx hb hkb.1 hP 1 1 rfl rfl (in_k hx_6 (by omega) (by decide)) dX12_image_45 ?_
          refine lv_topi (fun v_12 ev_12 => ?_)
          refine s_i 1 1 hx hb hkb.1 hP hD hS rfl rfl (in_n (by omega) (by decide)) (1302 + k_5) (nI_clamp (by omega)) dX12_image_46 (fun H locs hP hD hS => ?_)
          have hP : va_P D cls [(h0, .inr (12, [.int 0, .ref a_al, .ref a_hi, .ref a_mt, .ref a_fr, .int 0, .int 0, .int 0, .int 0, .int 0, .int 0, .int 0, .int 0, .int 0, .int (-1), .ref a_rk, .int 0, .ref a_on, .ref a_aw, .ref a_ro, .int 0, .ref a_ws, .ref a_ah, .int 0, .int 0, .int 0, .ref a_cl, .ref a_us, .ref a_mo, .ref a_to, .ref a_mb, .ref a_le, .int 0, .ref a_rs, .ref a_rm, .ref a_nu])), (a_al, .inl (cI, 3906, .inl (upd f_9 (1302 + k_5) v_12))), (a_hi, .inl (cZ, 2, .inl (fun _ => 0)))] H := hP
          have hD : va_D A [(h0, .inr (12, [.int 0, .ref a_al, .ref a_hi, .ref a_mt, .ref a_fr, .int 0, .int 0, .int 0, .int 0, .int 0, .int 0, .int 0, .int 0, .int 0, .int (-1), .ref a_rk, .int 0, .ref a_on, .ref a_aw, .ref a_ro, .int 0, .ref a_ws, .ref a_ah, .int 0, .int 0, .int 0, .ref a_cl, .ref a_us, .ref a_mo, .ref a_to, .ref a_mb, .ref a_le, .int 0, .ref a_rs, .ref a_rm, .ref a_nu])), (a_al, .inl (cI, 3906, .inl (upd f_9 (1302 + k_5) v_12))), (a_hi, .inl (cZ, 2, .inl (fun _ => 0)))] := hD
          obtain ⟨v_13, ev_13⟩ : ∃ y : Int32, y = x_6 + 1 := ⟨_, rfl⟩
          refine lv_iinc (v := v_13) (lv' := [(2, .int v_13), (0, .ref h0), (1, .int 0)]) hx hb dX12_image_47 hl (k := 0) rfl (by rw [ev_13]; rfl) (by decide) rfl (fun ls hl => ?_)
          refine lv_goto (tgt := 20) hx hb dX12_image_50 (by decide) ?_
          exact ih (k_5 + 1) v_13 (upd f_9 (1302 + k_5) v_12) _ _ _ (by omega) (by rw [ev_13, hx_6]; exact nI_1 k_5)  (hP.sub (ws' := [(h0, .inr (12, [.int 0, .ref a_al, .ref a_hi, .ref a_mt, .ref a_fr, .int 0, .int 0, .int 0, .int 0, .int 0, .int 0, .int 0, .int 0, .int 0, .int (-1), .ref a_rk, .int 0, .ref a_on, .ref a_aw, .ref a_ro, .int 0, .ref a_ws, .ref a_ah, .int 0, .int 0, .int 0, .ref a_cl, .ref a_us, .ref a_mo, .ref a_to, .ref a_mb, .ref a_le, .int 0, .ref a_rs, .ref a_rm, .ref a_nu])), (a_al, .inl (cI, 3906, .inl (upd f_9 (1302 + k_5) v_12))), (a_hi, .inl (cZ, 2, .inl (fun _ => 0)))]) [0, 1, 2] rfl) (hD.sub (ws' := [(h0, .inr (12, [.int 0, .ref a_al, .ref a_hi, .ref a_mt, .ref a_fr, .int 0, .int 0, .int 0, .int 0, .int 0, .int 0, .int 0, .int 0, .int 0, .int (-1), .ref a_rk, .int 0, .ref a_on, .ref a_aw, .ref a_ro, .int 0, .ref a_ws, .ref a_ah, .int 0, .int 0, .int 0, .ref a_cl, .ref a_us, .ref a_mo, .ref a_to, .ref a_mb, .ref a_le, .int 0, .ref a_rs, .ref a_rm, .ref a_nu])), (a_al, .inl (cI, 3906, .inl (upd f_9 (1302 + k_5) v_12))), (a_hi, .inl (cZ, 2, .inl (fun _ => 0)))]) [0, 1, 2] (by decide) rfl) hS (lv_sub hl [0, 1, 2] rfl)
      exact lp_8 1302 0 0 plc _ _ _ (by rfl) nI_0.symm  (hP) (hD) hS (lv_sub hl [0, 1, 2] rfl)
    have tc_3 := f_ne (k := 0) (by decide) c_3
    by_cases c_14 : i_0 = 1
    · skip
      subst c_14
      have zc_14 : (1 : Int32).toInt = 1 := by decide
      refine lv_iconst (v := 0) hx hb dX12_image_18 (by decide) ?_
      refine lv_istore_n (lv' := [(2, .int 0), (0, .ref h0), (1, .int 1)]) hx hb dX12_image_19 rfl hl (by decide) rfl (fun ls hl => ?_)
      have lp_19 : ∀ (n_15 k_16 : Nat) (x_17 : Int32) (f_20 : Nat → Int32) (H : Heap) (locs : List Loc) (ls : Array Slot), k_16 + n_15 = 1302 → x_17 = nI k_16 → va_P D cls [(h0, .inr (12, [.int 0, .ref a_al, .ref a_hi, .ref a_mt, .ref a_fr, .int 0, .int 0, .int 0, .int 0, .int 0, .int 0, .int 0, .int 0, .int 0, .int (-1), .ref a_rk, .int 0, .ref a_on, .ref a_aw, .ref a_ro, .int 0, .ref a_ws, .ref a_ah, .int 0, .int 0, .int 0, .ref a_cl, .ref a_us, .ref a_mo, .ref a_to, .ref a_mb, .ref a_le, .int 0, .ref a_rs, .ref a_rm, .ref a_nu])), (a_al, .inl (cI, 3906, .inl f_20)), (a_hi, .inl (cZ, 2, .inl (fun _ => 0)))] H → va_D A [(h0, .inr (12, [.int 0, .ref a_al, .ref a_hi, .ref a_mt, .ref a_fr, .int 0, .int 0, .int 0, .int 0, .int 0, .int 0, .int 0, .int 0, .int 0, .int (-1), .ref a_rk, .int 0, .ref a_on, .ref a_aw, .ref a_ro, .int 0, .ref a_ws, .ref a_ah, .int 0, .int 0, .int 0, .ref a_cl, .ref a_us, .ref a_mo, .ref a_to, .ref a_mb, .ref a_le, .int 0, .ref a_rs, .ref a_rm, .ref a_nu])), (a_al, .inl (cI, 3906, .inl f_20)), (a_hi, .inl (cZ, 2, .inl (fun _ => 0)))] → va_S A s.heap H locs → lv_has ls 3 [(2, .int x_17), (0, .ref h0), (1, .int 1)] → W p l e { frames := 1, cells := 0, slots := 0, locals := 25 } s m [.ref h0, .int 1].toArray below meth c H locs 0 0 (MQ below (Qi D (fun r u => r = F_image 1 ∧ u = []) A) [.ref h0, .int 1].toArray s 0 0 A) (F0 m 20 ls []) := by
        intro n_15
        induction n_15 with
        | zero =>
          intro k_16 x_17 f_20 H locs ls hk_18 hx_17  hP hD hS hl
          have hzx_17 : x_17.toInt = (k_16 : Int) := by rw [hx_17]; exact nI_toInt (by omega)
          refine lv_iload_n hx hb dX12_image_20 rfl (lv_at hl 0 rfl) ?_
          refine lv_sipush (v := 1302) hx hb dX12_image_21 (by decide) ?_
          refine lv_icmp_ge (tgt := 53) hx hb dX12_image_24 (by decide) (fun _ => ?_) (fun c_21 => by exfalso; have tc_21 := f_nge (k := 1302) (by decide) c_21; omega)
          refine lv_aload_n hx hb dX12_image_53 rfl (lv_at hl 1 rfl) ?_
          refine va_get (D := D) (ci := 12) (v := .ref a_hi) (C := RX12) (T := TX12) (N := 36) hx hb hts uX12 hown hkb.1 hP 0 rfl rfl 2 (by decide) (hts _ kw_1225) (fun _ h9 => h9) rfl dX12_image_54 ?_
          refine lv_iload_n hx hb dX12_image_57 rfl (lv_at hl 2 rfl) ?_
          refine lv_iconst (v := 1) hx hb dX12_image_58 (by decide) ?_
          refine s_z 2 3 hx hb hkb.1 hP hD hS rfl rfl (in_c (by decide +kernel)) 1 (by decide +kernel) dX12_image_59 (fun H locs hP hD hS => ?_)
          have hP : va_P D cls [(h0, .inr (12, [.int 0, .ref a_al, .ref a_hi, .ref a_mt, .ref a_fr, .int 0, .int 0, .int 0, .int 0, .int 0, .int 0, .int 0, .int 0, .int 0, .int (-1), .ref a_rk, .int 0, .ref a_on, .ref a_aw, .ref a_ro, .int 0, .ref a_ws, .ref a_ah, .int 0, .int 0, .int 0, .ref a_cl, .ref a_us, .ref a_mo, .ref a_to, .ref a_mb, .ref a_le, .int 0, .ref a_rs, .ref a_rm, .ref a_nu])), (a_al, .inl (cI, 3906, .inl f_20)), (a_hi, .inl (cZ, 2, .inl (upd (fun _ => 0) 1 (vp_nar .boolean 1))))] H := hP
          have hD : va_D A [(h0, .inr (12, [.int 0, .ref a_al, .ref a_hi, .ref a_mt, .ref a_fr, .int 0, .int 0, .int 0, .int 0, .int 0, .int 0, .int 0, .int 0, .int 0, .int (-1), .ref a_rk, .int 0, .ref a_on, .ref a_aw, .ref a_ro, .int 0, .ref a_ws, .ref a_ah, .int 0, .int 0, .int 0, .ref a_cl, .ref a_us, .ref a_mo, .ref a_to, .ref a_mb, .ref a_le, .int 0, .ref a_rs, .ref a_rm, .ref a_nu])), (a_al, .inl (cI, 3906, .inl f_20)), (a_hi, .inl (cZ, 2, .inl (upd (fun _ => 0) 1 (vp_nar .boolean 1))))] := hD
          refine lv_iconst (v := 0) hx hb dX12_image_60 (by decide) ?_
          refine W.widen (k := 0) (n := 0) (Nat.le_of_ble_eq_true rfl) (Nat.le_of_ble_eq_true rfl) ?_
          exact e_i (u := []) hx hb hr hlocks (hP.sub (ws' := []) [] rfl) (hD.sub (ws' := []) [] (by decide) rfl) hS ⟨(by unfold F_image; (repeat' split) <;> first | rfl | (exfalso; omega)), rfl⟩ dX12_image_61
        | succ n_15 ih =>
          intro k_16 x_17 f_20 H locs ls hk_18 hx_17  hP hD hS hl
          have hzx_17 : x_17.toInt = (k_16 : Int) := by rw [hx_17]; exact nI_toInt (by omega)
          refine lv_iload_n hx hb dX12_image_20 rfl (lv_at hl 0 rfl) ?_
          refine lv_sipush (v := 1302) hx hb dX12_image_21 (by decide) ?_
          refine lv_icmp_ge (tgt := 53) hx hb dX12_image_24 (by decide) (fun c_22 => by exfalso; have tc_22 := f_ge (k := 1302) (by decide) c_22; omega) (fun _ => ?_)
          refine lv_aload_n hx hb dX12_image_27 rfl (lv_at hl 1 rfl) ?_
          refine va_get (D := D) (ci := 12) (v := .ref a_al) (C := RX12) (T := TX12) (N := 36) hx hb hts uX12 hown hkb.1 hP 0 rfl rfl 1 (by decide) (hts _ kw_1224) (fun _ h9 => h9) rfl dX12_image_28 ?_
          refine lv_sipush (v := 1302) hx hb dX12_image_31 (by decide) ?_
          refine lv_iload_n hx hb dX12_image_34 rfl (lv_at hl 2 rfl) ?_
          refine lv_iconst (v := 1) hx hb dX12_image_35 (by decide) ?_
          refine lv_iadd hx hb dX12_image_36 ?_
          refine lv_topc (y := 2) (by decide +kernel) ?_
          refine lv_imul hx hb dX12_image_37 ?_
          refine lv_topc (y := 2604) (by decide +kernel) ?_
          refine lv_iload_n hx hb dX12_image_38 rfl (lv_at hl 0 rfl) ?_
          refine lv_iadd hx hb dX12_image_39 ?_
          refine lv_topc (y := nI (2604 + k_16)) (by rw [hx_17]; exact nI_add 2604 k_16) ?_
          refine lv_aload_n hx hb dX12_image_40 rfl (lv_at hl 1 rfl) ?_
          refine va_get (D := D) (ci := 12) (v := .ref a_al) (C := RX12) (T := TX12) (N := 36) hx hb hts uX12 hown hkb.1 hP 0 rfl rfl 1 (by decide) (hts _ kw_1224) (fun _ h9 => h9) rfl dX12_image_41 ?_
          refine lv_iload_n hx hb dX12_image_44 rfl (lv_at hl 0 rfl) ?_
          refine va_iald hx hb hkb.1 hP 1 1 rfl rfl (in_k hx_17 (by omega) (by decide)) dX12_image_45 ?_
          refine lv_topi (fun v_23 ev_23 => ?_)
          refine s_i 1 1 hx hb hkb.1 hP hD hS rfl rfl (in_n (by omega) (by decide)) (2604 + k_16) (nI_clamp (by omega)) dX12_image_46 (fun H locs hP hD hS => ?_)
          have hP : va_P D cls [(h0, .inr (12, [.int 0, .ref a_al, .ref a_hi, .ref a_mt, .ref a_fr, .int 0, .int 0, .int 0, .int 0, .int 0, .int 0, .int 0, .int 0, .int 0, .int (-1), .ref a_rk, .int 0, .ref a_on, .ref a_aw, .ref a_ro, .int 0, .ref a_ws, .ref a_ah, .int 0, .int 0, .int 0, .ref a_cl, .ref a_us, .ref a_mo, .ref a_to, .ref a_mb, .ref a_le, .int 0, .ref a_rs, .ref a_rm, .ref a_nu])), (a_al, .inl (cI, 3906, .inl (upd f_20 (2604 + k_16) v_23))), (a_hi, .inl (cZ, 2, .inl (fun _ => 0)))] H := hP
          have hD : va_D A [(h0, .inr (12, [.int 0, .ref a_al, .ref a_hi, .ref a_mt, .ref a_fr, .int 0, .int 0, .int 0, .int 0, .int 0, .int 0, .int 0, .int 0, .int 0, .int (-1), .ref a_rk, .int 0, .ref a_on, .ref a_aw, .ref a_ro, .int 0, .ref a_ws, .ref a_ah, .int 0, .int 0, .int 0, .ref a_cl, .ref a_us, .ref a_mo, .ref a_to, .ref a_mb, .ref a_le, .int 0, .ref a_rs, .ref a_rm, .ref a_nu])), (a_al, .inl (cI, 3906, .inl (upd f_20 (2604 + k_16) v_23))), (a_hi, .inl (cZ, 2, .inl (fun _ => 0)))] := hD
          obtain ⟨v_24, ev_24⟩ : ∃ y : Int32, y = x_17 + 1 := ⟨_, rfl⟩
          refine lv_iinc (v := v_24) (lv' := [(2, .int v_24), (0, .ref h0), (1, .int 1)]) hx hb dX12_image_47 hl (k := 0) rfl (by rw [ev_24]; rfl) (by decide) rfl (fun ls hl => ?_)
          refine lv_goto (tgt := 20) hx hb dX12_image_50 (by decide) ?_
          exact ih (k_16 + 1) v_24 (upd f_20 (2604 + k_16) v_23) _ _ _ (by omega) (by rw [ev_24, hx_17]; exact nI_1 k_16)  (hP.sub (ws' := [(h0, .inr (12, [.int 0, .ref a_al, .ref a_hi, .ref a_mt, .ref a_fr, .int 0, .int 0, .int 0, .int 0, .int 0, .int 0, .int 0, .int 0, .int 0, .int (-1), .ref a_rk, .int 0, .ref a_on, .ref a_aw, .ref a_ro, .int 0, .ref a_ws, .ref a_ah, .int 0, .int 0, .int 0, .ref a_cl, .ref a_us, .ref a_mo, .ref a_to, .ref a_mb, .ref a_le, .int 0, .ref a_rs, .ref a_rm, .ref a_nu])), (a_al, .inl (cI, 3906, .inl (upd f_20 (2604 + k_16) v_23))), (a_hi, .inl (cZ, 2, .inl (fun _ => 0)))]) [0, 1, 2] rfl) (hD.sub (ws' := [(h0, .inr (12, [.int 0, .ref a_al, .ref a_hi, .ref a_mt, .ref a_fr, .int 0, .int 0, .int 0, .int 0, .int 0, .int 0, .int 0, .int 0, .int 0, .int (-1), .ref a_rk, .int 0, .ref a_on, .ref a_aw, .ref a_ro, .int 0, .ref a_ws, .ref a_ah, .int 0, .int 0, .int 0, .ref a_cl, .ref a_us, .ref a_mo, .ref a_to, .ref a_mb, .ref a_le, .int 0, .ref a_rs, .ref a_rm, .ref a_nu])), (a_al, .inl (cI, 3906, .inl (upd f_20 (2604 + k_16) v_23))), (a_hi, .inl (cZ, 2, .inl (fun _ => 0)))]) [0, 1, 2] (by decide) rfl) hS (lv_sub hl [0, 1, 2] rfl)
      exact lp_19 1302 0 0 plc _ _ _ (by rfl) nI_0.symm  (hP) (hD) hS (lv_sub hl [0, 1, 2] rfl)
    have tc_14 := f_ne (k := 1) (by decide) c_14
    exfalso; omega
  · skip
    have tc_2 := wi_0 (a := 0) (b := 1) (by decide) (by decide) c_2
    refine lv_bipush (v := (-2)) hx hb dX12_image_15 (by decide) ?_
    refine W.widen (k := 0) (n := 0) (Nat.le_of_ble_eq_true rfl) (Nat.le_of_ble_eq_true rfl) ?_
    exact e_i (u := []) hx hb hr hlocks (hP.sub (ws' := []) [] rfl) (hD.sub (ws' := []) [] (by decide) rfl) hS ⟨(by unfold F_image; (repeat' split) <;> first | rfl | (exfalso; omega)), rfl⟩ dX12_image_17
set_option maxHeartbeats 4000000 in
set_option maxRecDepth 100000 in
theorem c_plain3906 (l : Launch) (D : va_G) (cB cI cJ cZ cS cW cT cR : ClassId) (a_to : Nat) : Kon l D (tyl cB cI cJ cZ cS cW cT cR) yX12_plain cX12_plain 2 none { frames := 0, cells := 0, slots := 0, locals := 0 } [.ref a_to] [(a_to, .inl (cI, 3906, .inl (fun _ => 0)))] (Qv D (fun u => u = [(a_to, .inl (cI, 3906, .inl plc))])) := by
  refine kon_of (by decide) (Nat.le_of_ble_eq_true rfl) (fun p e s m below meth c ls A hx hb hr hml hown hts hlocks hnm hkb hP hD hS hA hl => ?_)
  have hown : s.vm.findClass RX12 = some m.cls := hown
  have hl : lv_has ls 2 [(0, .ref a_to)] := hl
  have hP : va_P D cls [(a_to, .inl (cI, 3906, .inl (fun _ => 0)))] s.heap := hP
  refine lv_iconst (v := 0) hx hb dX12_plain_0 (by decide) ?_
  refine lv_istore_n (lv' := [(1, .int 0), (0, .ref a_to)]) hx hb dX12_plain_1 rfl hl (by decide) rfl (fun ls hl => ?_)
  have lp_5 : ∀ (n_1 k_2 : Nat) (x_3 : Int32) (H : Heap) (locs : List Loc) (ls : Array Slot), k_2 + n_1 = 1302 → x_3 = nI k_2 → va_P D cls [(a_to, .inl (cI, 3906, .inl (fun _ => 0)))] H → va_D A [(a_to, .inl (cI, 3906, .inl (fun _ => 0)))] → va_S A s.heap H locs → lv_has ls 2 [(1, .int x_3), (0, .ref a_to)] → W p l e { frames := 0, cells := 0, slots := 0, locals := 0 } s m [.ref a_to].toArray below meth c H locs 0 0 (MQ below (Qv D (fun u => u = [(a_to, .inl (cI, 3906, .inl plc))]) A) [.ref a_to].toArray s 0 0 A) (F0 m 2 ls []) := by
    intro n_1
    induction n_1 with
    | zero =>
      intro k_2 x_3  H locs ls hk_4 hx_3  hP hD hS hl
      have hzx_3 : x_3.toInt = (k_2 : Int) := by rw [hx_3]; exact nI_toInt (by omega)
      refine lv_iload_n hx hb dX12_plain_2 rfl (lv_at hl 0 rfl) ?_
      refine lv_sipush (v := 1302) hx hb dX12_plain_3 (by decide) ?_
      refine lv_icmp_ge (tgt := 19) hx hb dX12_plain_6 (by decide) (fun _ => ?_) (fun c_6 => by exfalso; have tc_6 := f_nge (k := 1302) (by decide) c_6; omega)
      refine lv_iconst (v := 0) hx hb dX12_plain_19 (by decide) ?_
      refine lv_istore_n (lv' := [(1, .int 0), (0, .ref a_to)]) hx hb dX12_plain_20 rfl hl (by decide) rfl (fun ls hl => ?_)
      have lp_11 : ∀ (n_7 k_8 : Nat) (x_9 : Int32) (H : Heap) (locs : List Loc) (ls : Array Slot), k_8 + n_7 = 14 → x_9 = nI k_8 → va_P D cls [(a_to, .inl (cI, 3906, .inl (plh k_8)))] H → va_D A [(a_to, .inl (cI, 3906, .inl (plh k_8)))] → va_S A s.heap H locs → lv_has ls 2 [(1, .int x_9), (0, .ref a_to)] → W p l e { frames := 0, cells := 0, slots := 0, locals := 0 } s m [.ref a_to].toArray below meth c H locs 0 0 (MQ below (Qv D (fun u => u = [(a_to, .inl (cI, 3906, .inl plc))]) A) [.ref a_to].toArray s 0 0 A) (F0 m 21 ls []) := by
        intro n_7
        induction n_7 with
        | zero =>
          intro k_8 x_9  H locs ls hk_10 hx_9  hP hD hS hl
          have hzx_9 : x_9.toInt = (k_8 : Int) := by rw [hx_9]; exact nI_toInt (by omega)
          obtain rfl : k_8 = 14 := by omega
          have hP : va_P D cls [(a_to, .inl (cI, 3906, .inl plc))] H := hP
          have hD : va_D A [(a_to, .inl (cI, 3906, .inl plc))] := hD
          refine lv_iload_n hx hb dX12_plain_21 rfl (lv_at hl 0 rfl) ?_
          refine lv_bipush (v := 14) hx hb dX12_plain_22 (by decide) ?_
          refine lv_icmp_ge (tgt := 47) hx hb dX12_plain_24 (by decide) (fun _ => ?_) (fun c_12 => by exfalso; have tc_12 := f_nge (k := 14) (by decide) c_12; omega)
          refine W.widen (k := 0) (n := 0) (Nat.le_of_ble_eq_true rfl) (Nat.le_of_ble_eq_true rfl) ?_
          exact e_v (u := [(a_to, .inl (cI, 3906, .inl plc))]) hx hb hr hlocks (hP.sub (ws' := [(a_to, .inl (cI, 3906, .inl plc))]) [0] rfl) (hD.sub (ws' := [(a_to, .inl (cI, 3906, .inl plc))]) [0] (by decide) rfl) hS rfl dX12_plain_47
        | succ n_7 ih =>
          intro k_8 x_9  H locs ls hk_10 hx_9  hP hD hS hl
          have hzx_9 : x_9.toInt = (k_8 : Int) := by rw [hx_9]; exact nI_toInt (by omega)
          refine lv_iload_n hx hb dX12_plain_21 rfl (lv_at hl 0 rfl) ?_
          refine lv_bipush (v := 14) hx hb dX12_plain_22 (by decide) ?_
          refine lv_icmp_ge (tgt := 47) hx hb dX12_plain_24 (by decide) (fun c_13 => by exfalso; have tc_13 := f_ge (k := 14) (by decide) c_13; omega) (fun _ => ?_)
          refine lv_aload_n hx hb dX12_plain_27 rfl (lv_at hl 1 rfl) ?_
          refine lv_bipush (v := 59) hx hb dX12_plain_28 (by decide) ?_
          refine lv_iload_n hx hb dX12_plain_30 rfl (lv_at hl 0 rfl) ?_
          refine lv_iadd hx hb dX12_plain_31 ?_
          refine lv_topc (y := nI (59 + k_8)) (by rw [hx_9]; exact nI_add 59 k_8) ?_
          refine lv_iconst (v := (-1)) hx hb dX12_plain_32 (by decide) ?_
          refine s_i 0 1 hx hb hkb.1 hP hD hS rfl rfl (in_n (by omega) (by decide)) (59 + k_8) (nI_clamp (by omega)) dX12_plain_33 (fun H locs hP hD hS => ?_)
          have hP : va_P D cls [(a_to, .inl (cI, 3906, .inl (upd (plh k_8) (59 + k_8) (-1))))] H := hP
          have hD : va_D A [(a_to, .inl (cI, 3906, .inl (upd (plh k_8) (59 + k_8) (-1))))] := hD
          refine lv_aload_n hx hb dX12_plain_34 rfl (lv_at hl 1 rfl) ?_
          refine lv_bipush (v := 73) hx hb dX12_plain_35 (by decide) ?_
          refine lv_iload_n hx hb dX12_plain_37 rfl (lv_at hl 0 rfl) ?_
          refine lv_iadd hx hb dX12_plain_38 ?_
          refine lv_topc (y := nI (73 + k_8)) (by rw [hx_9]; exact nI_add 73 k_8) ?_
          refine lv_iconst (v := (-1)) hx hb dX12_plain_39 (by decide) ?_
          refine s_i 0 1 hx hb hkb.1 hP hD hS rfl rfl (in_n (by omega) (by decide)) (73 + k_8) (nI_clamp (by omega)) dX12_plain_40 (fun H locs hP hD hS => ?_)
          have hP : va_P D cls [(a_to, .inl (cI, 3906, .inl (upd (upd (plh k_8) (59 + k_8) (-1)) (73 + k_8) (-1))))] H := hP
          have hD : va_D A [(a_to, .inl (cI, 3906, .inl (upd (upd (plh k_8) (59 + k_8) (-1)) (73 + k_8) (-1))))] := hD
          obtain ⟨v_14, ev_14⟩ : ∃ y : Int32, y = x_9 + 1 := ⟨_, rfl⟩
          refine lv_iinc (v := v_14) (lv' := [(1, .int v_14), (0, .ref a_to)]) hx hb dX12_plain_41 hl (k := 0) rfl (by rw [ev_14]; rfl) (by decide) rfl (fun ls hl => ?_)
          refine lv_goto (tgt := 21) hx hb dX12_plain_44 (by decide) ?_
          rw [plh_s] at hP hD
          have hP : va_P D cls [(a_to, .inl (cI, 3906, .inl (plh (k_8 + 1))))] H := hP
          have hD : va_D A [(a_to, .inl (cI, 3906, .inl (plh (k_8 + 1))))] := hD
          exact ih (k_8 + 1) v_14  _ _ _ (by omega) (by rw [ev_14, hx_9]; exact nI_1 k_8)  (hP.sub (ws' := [(a_to, .inl (cI, 3906, .inl (plh (k_8 + 1))))]) [0] rfl) (hD.sub (ws' := [(a_to, .inl (cI, 3906, .inl (plh (k_8 + 1))))]) [0] (by decide) rfl) hS (lv_sub hl [0, 1] rfl)
      exact lp_11 14 0 0  _ _ _ (by rfl) nI_0.symm  (by rw [← plh_0]; exact hP) (by rw [← plh_0]; exact hD) hS (lv_sub hl [0, 1] rfl)
    | succ n_1 ih =>
      intro k_2 x_3  H locs ls hk_4 hx_3  hP hD hS hl
      have hzx_3 : x_3.toInt = (k_2 : Int) := by rw [hx_3]; exact nI_toInt (by omega)
      refine lv_iload_n hx hb dX12_plain_2 rfl (lv_at hl 0 rfl) ?_
      refine lv_sipush (v := 1302) hx hb dX12_plain_3 (by decide) ?_
      refine lv_icmp_ge (tgt := 19) hx hb dX12_plain_6 (by decide) (fun c_15 => by exfalso; have tc_15 := f_ge (k := 1302) (by decide) c_15; omega) (fun _ => ?_)
      refine lv_aload_n hx hb dX12_plain_9 rfl (lv_at hl 1 rfl) ?_
      refine lv_iload_n hx hb dX12_plain_10 rfl (lv_at hl 0 rfl) ?_
      refine lv_iconst (v := 0) hx hb dX12_plain_11 (by decide) ?_
      refine s_i 0 1 hx hb hkb.1 hP hD hS rfl rfl (in_k hx_3 (by omega) (by decide)) k_2 (by rw [hx_3]; exact nI_clamp (by omega)) dX12_plain_12 (fun H locs hP hD hS => ?_)
      have hP : va_P D cls [(a_to, .inl (cI, 3906, .inl (upd (fun _ => 0) k_2 0)))] H := hP
      have hD : va_D A [(a_to, .inl (cI, 3906, .inl (upd (fun _ => 0) k_2 0)))] := hD
      obtain ⟨v_16, ev_16⟩ : ∃ y : Int32, y = x_3 + 1 := ⟨_, rfl⟩
      refine lv_iinc (v := v_16) (lv' := [(1, .int v_16), (0, .ref a_to)]) hx hb dX12_plain_13 hl (k := 0) rfl (by rw [ev_16]; rfl) (by decide) rfl (fun ls hl => ?_)
      refine lv_goto (tgt := 2) hx hb dX12_plain_16 (by decide) ?_
      rw [upd_z] at hP hD
      have hP : va_P D cls [(a_to, .inl (cI, 3906, .inl (fun _ => 0)))] H := hP
      have hD : va_D A [(a_to, .inl (cI, 3906, .inl (fun _ => 0)))] := hD
      exact ih (k_2 + 1) v_16  _ _ _ (by omega) (by rw [ev_16, hx_3]; exact nI_1 k_2)  (hP.sub (ws' := [(a_to, .inl (cI, 3906, .inl (fun _ => 0)))]) [0] rfl) (hD.sub (ws' := [(a_to, .inl (cI, 3906, .inl (fun _ => 0)))]) [0] (by decide) rfl) hS (lv_sub hl [0, 1] rfl)
  exact lp_5 1302 0 0  _ _ _ (by rfl) nI_0.symm  (hP) (hD) hS (lv_sub hl [0, 1] rfl)
set_option maxHeartbeats 4000000 in
set_option maxRecDepth 100000 in
theorem c_plain1302 (l : Launch) (D : va_G) (cB cI cJ cZ cS cW cT cR : ClassId) (a_to : Nat) : Kon l D (tyl cB cI cJ cZ cS cW cT cR) yX12_plain cX12_plain 2 none { frames := 0, cells := 0, slots := 0, locals := 0 } [.ref a_to] [(a_to, .inl (cI, 1302, .inl (fun _ => 0)))] (Qv D (fun u => u = [(a_to, .inl (cI, 1302, .inl plc))])) := by
  refine kon_of (by decide) (Nat.le_of_ble_eq_true rfl) (fun p e s m below meth c ls A hx hb hr hml hown hts hlocks hnm hkb hP hD hS hA hl => ?_)
  have hown : s.vm.findClass RX12 = some m.cls := hown
  have hl : lv_has ls 2 [(0, .ref a_to)] := hl
  have hP : va_P D cls [(a_to, .inl (cI, 1302, .inl (fun _ => 0)))] s.heap := hP
  refine lv_iconst (v := 0) hx hb dX12_plain_0 (by decide) ?_
  refine lv_istore_n (lv' := [(1, .int 0), (0, .ref a_to)]) hx hb dX12_plain_1 rfl hl (by decide) rfl (fun ls hl => ?_)
  have lp_5 : ∀ (n_1 k_2 : Nat) (x_3 : Int32) (H : Heap) (locs : List Loc) (ls : Array Slot), k_2 + n_1 = 1302 → x_3 = nI k_2 → va_P D cls [(a_to, .inl (cI, 1302, .inl (fun _ => 0)))] H → va_D A [(a_to, .inl (cI, 1302, .inl (fun _ => 0)))] → va_S A s.heap H locs → lv_has ls 2 [(1, .int x_3), (0, .ref a_to)] → W p l e { frames := 0, cells := 0, slots := 0, locals := 0 } s m [.ref a_to].toArray below meth c H locs 0 0 (MQ below (Qv D (fun u => u = [(a_to, .inl (cI, 1302, .inl plc))]) A) [.ref a_to].toArray s 0 0 A) (F0 m 2 ls []) := by
    intro n_1
    induction n_1 with
    | zero =>
      intro k_2 x_3  H locs ls hk_4 hx_3  hP hD hS hl
      have hzx_3 : x_3.toInt = (k_2 : Int) := by rw [hx_3]; exact nI_toInt (by omega)
      refine lv_iload_n hx hb dX12_plain_2 rfl (lv_at hl 0 rfl) ?_
      refine lv_sipush (v := 1302) hx hb dX12_plain_3 (by decide) ?_
      refine lv_icmp_ge (tgt := 19) hx hb dX12_plain_6 (by decide) (fun _ => ?_) (fun c_6 => by exfalso; have tc_6 := f_nge (k := 1302) (by decide) c_6; omega)
      refine lv_iconst (v := 0) hx hb dX12_plain_19 (by decide) ?_
      refine lv_istore_n (lv' := [(1, .int 0), (0, .ref a_to)]) hx hb dX12_plain_20 rfl hl (by decide) rfl (fun ls hl => ?_)
      have lp_11 : ∀ (n_7 k_8 : Nat) (x_9 : Int32) (H : Heap) (locs : List Loc) (ls : Array Slot), k_8 + n_7 = 14 → x_9 = nI k_8 → va_P D cls [(a_to, .inl (cI, 1302, .inl (plh k_8)))] H → va_D A [(a_to, .inl (cI, 1302, .inl (plh k_8)))] → va_S A s.heap H locs → lv_has ls 2 [(1, .int x_9), (0, .ref a_to)] → W p l e { frames := 0, cells := 0, slots := 0, locals := 0 } s m [.ref a_to].toArray below meth c H locs 0 0 (MQ below (Qv D (fun u => u = [(a_to, .inl (cI, 1302, .inl plc))]) A) [.ref a_to].toArray s 0 0 A) (F0 m 21 ls []) := by
        intro n_7
        induction n_7 with
        | zero =>
          intro k_8 x_9  H locs ls hk_10 hx_9  hP hD hS hl
          have hzx_9 : x_9.toInt = (k_8 : Int) := by rw [hx_9]; exact nI_toInt (by omega)
          obtain rfl : k_8 = 14 := by omega
          have hP : va_P D cls [(a_to, .inl (cI, 1302, .inl plc))] H := hP
          have hD : va_D A [(a_to, .inl (cI, 1302, .inl plc))] := hD
          refine lv_iload_n hx hb dX12_plain_21 rfl (lv_at hl 0 rfl) ?_
          refine lv_bipush (v := 14) hx hb dX12_plain_22 (by decide) ?_
          refine lv_icmp_ge (tgt := 47) hx hb dX12_plain_24 (by decide) (fun _ => ?_) (fun c_12 => by exfalso; have tc_12 := f_nge (k := 14) (by decide) c_12; omega)
          refine W.widen (k := 0) (n := 0) (Nat.le_of_ble_eq_true rfl) (Nat.le_of_ble_eq_true rfl) ?_
          exact e_v (u := [(a_to, .inl (cI, 1302, .inl plc))]) hx hb hr hlocks (hP.sub (ws' := [(a_to, .inl (cI, 1302, .inl plc))]) [0] rfl) (hD.sub (ws' := [(a_to, .inl (cI, 1302, .inl plc))]) [0] (by decide) rfl) hS rfl dX12_plain_47
        | succ n_7 ih =>
          intro k_8 x_9  H locs ls hk_10 hx_9  hP hD hS hl
          have hzx_9 : x_9.toInt = (k_8 : Int) := by rw [hx_9]; exact nI_toInt (by omega)
          refine lv_iload_n hx hb dX12_plain_21 rfl (lv_at hl 0 rfl) ?_
          refine lv_bipush (v := 14) hx hb dX12_plain_22 (by decide) ?_
          refine lv_icmp_ge (tgt := 47) hx hb dX12_plain_24 (by decide) (fun c_13 => by exfalso; have tc_13 := f_ge (k := 14) (by decide) c_13; omega) (fun _ => ?_)
          refine lv_aload_n hx hb dX12_plain_27 rfl (lv_at hl 1 rfl) ?_
          refine lv_bipush (v := 59) hx hb dX12_plain_28 (by decide) ?_
          refine lv_iload_n hx hb dX12_plain_30 rfl (lv_at hl 0 rfl) ?_
          refine lv_iadd hx hb dX12_plain_31 ?_
          refine lv_topc (y := nI (59 + k_8)) (by rw [hx_9]; exact nI_add 59 k_8) ?_
          refine lv_iconst (v := (-1)) hx hb dX12_plain_32 (by decide) ?_
          refine s_i 0 1 hx hb hkb.1 hP hD hS rfl rfl (in_n (by omega) (by decide)) (59 + k_8) (nI_clamp (by omega)) dX12_plain_33 (fun H locs hP hD hS => ?_)
          have hP : va_P D cls [(a_to, .inl (cI, 1302, .inl (upd (plh k_8) (59 + k_8) (-1))))] H := hP
          have hD : va_D A [(a_to, .inl (cI, 1302, .inl (upd (plh k_8) (59 + k_8) (-1))))] := hD
          refine lv_aload_n hx hb dX12_plain_34 rfl (lv_at hl 1 rfl) ?_
          refine lv_bipush (v := 73) hx hb dX12_plain_35 (by decide) ?_
          refine lv_iload_n hx hb dX12_plain_37 rfl (lv_at hl 0 rfl) ?_
          refine lv_iadd hx hb dX12_plain_38 ?_
          refine lv_topc (y := nI (73 + k_8)) (by rw [hx_9]; exact nI_add 73 k_8) ?_
          refine lv_iconst (v := (-1)) hx hb dX12_plain_39 (by decide) ?_
          refine s_i 0 1 hx hb hkb.1 hP hD hS rfl rfl (in_n (by omega) (by decide)) (73 + k_8) (nI_clamp (by omega)) dX12_plain_40 (fun H locs hP hD hS => ?_)
          have hP : va_P D cls [(a_to, .inl (cI, 1302, .inl (upd (upd (plh k_8) (59 + k_8) (-1)) (73 + k_8) (-1))))] H := hP
          have hD : va_D A [(a_to, .inl (cI, 1302, .inl (upd (upd (plh k_8) (59 + k_8) (-1)) (73 + k_8) (-1))))] := hD
          obtain ⟨v_14, ev_14⟩ : ∃ y : Int32, y = x_9 + 1 := ⟨_, rfl⟩
          refine lv_iinc (v := v_14) (lv' := [(1, .int v_14), (0, .ref a_to)]) hx hb dX12_plain_41 hl (k := 0) rfl (by rw [ev_14]; rfl) (by decide) rfl (fun ls hl => ?_)
          refine lv_goto (tgt := 21) hx hb dX12_plain_44 (by decide) ?_
          rw [plh_s] at hP hD
          have hP : va_P D cls [(a_to, .inl (cI, 1302, .inl (plh (k_8 + 1))))] H := hP
          have hD : va_D A [(a_to, .inl (cI, 1302, .inl (plh (k_8 + 1))))] := hD
          exact ih (k_8 + 1) v_14  _ _ _ (by omega) (by rw [ev_14, hx_9]; exact nI_1 k_8)  (hP.sub (ws' := [(a_to, .inl (cI, 1302, .inl (plh (k_8 + 1))))]) [0] rfl) (hD.sub (ws' := [(a_to, .inl (cI, 1302, .inl (plh (k_8 + 1))))]) [0] (by decide) rfl) hS (lv_sub hl [0, 1] rfl)
      exact lp_11 14 0 0  _ _ _ (by rfl) nI_0.symm  (by rw [← plh_0]; exact hP) (by rw [← plh_0]; exact hD) hS (lv_sub hl [0, 1] rfl)
    | succ n_1 ih =>
      intro k_2 x_3  H locs ls hk_4 hx_3  hP hD hS hl
      have hzx_3 : x_3.toInt = (k_2 : Int) := by rw [hx_3]; exact nI_toInt (by omega)
      refine lv_iload_n hx hb dX12_plain_2 rfl (lv_at hl 0 rfl) ?_
      refine lv_sipush (v := 1302) hx hb dX12_plain_3 (by decide) ?_
      refine lv_icmp_ge (tgt := 19) hx hb dX12_plain_6 (by decide) (fun c_15 => by exfalso; have tc_15 := f_ge (k := 1302) (by decide) c_15; omega) (fun _ => ?_)
      refine lv_aload_n hx hb dX12_plain_9 rfl (lv_at hl 1 rfl) ?_
      refine lv_iload_n hx hb dX12_plain_10 rfl (lv_at hl 0 rfl) ?_
      refine lv_iconst (v := 0) hx hb dX12_plain_11 (by decide) ?_
      refine s_i 0 1 hx hb hkb.1 hP hD hS rfl rfl (in_k hx_3 (by omega) (by decide)) k_2 (by rw [hx_3]; exact nI_clamp (by omega)) dX12_plain_12 (fun H locs hP hD hS => ?_)
      have hP : va_P D cls [(a_to, .inl (cI, 1302, .inl (upd (fun _ => 0) k_2 0)))] H := hP
      have hD : va_D A [(a_to, .inl (cI, 1302, .inl (upd (fun _ => 0) k_2 0)))] := hD
      obtain ⟨v_16, ev_16⟩ : ∃ y : Int32, y = x_3 + 1 := ⟨_, rfl⟩
      refine lv_iinc (v := v_16) (lv' := [(1, .int v_16), (0, .ref a_to)]) hx hb dX12_plain_13 hl (k := 0) rfl (by rw [ev_16]; rfl) (by decide) rfl (fun ls hl => ?_)
      refine lv_goto (tgt := 2) hx hb dX12_plain_16 (by decide) ?_
      rw [upd_z] at hP hD
      have hP : va_P D cls [(a_to, .inl (cI, 1302, .inl (fun _ => 0)))] H := hP
      have hD : va_D A [(a_to, .inl (cI, 1302, .inl (fun _ => 0)))] := hD
      exact ih (k_2 + 1) v_16  _ _ _ (by omega) (by rw [ev_16, hx_3]; exact nI_1 k_2)  (hP.sub (ws' := [(a_to, .inl (cI, 1302, .inl (fun _ => 0)))]) [0] rfl) (hD.sub (ws' := [(a_to, .inl (cI, 1302, .inl (fun _ => 0)))]) [0] (by decide) rfl) hS (lv_sub hl [0, 1] rfl)
  exact lp_5 1302 0 0  _ _ _ (by rfl) nI_0.symm  (hP) (hD) hS (lv_sub hl [0, 1] rfl)
set_option maxHeartbeats 4000000 in
set_option maxRecDepth 100000 in
theorem c_see0 (l : Launch) (D : va_G) (cB cI cJ cZ cS cW cT cR : ClassId) (h0 : Nat) (a_al : Nat) (a_hi : Nat) (a_mt : Nat) (a_fr : Nat) (a_rk : Nat) (a_on : Nat) (a_aw : Nat) (a_ro : Nat) (a_ws : Nat) (a_ah : Nat) (a_cl : Nat) (a_us : Nat) (a_mo : Nat) (a_to : Nat) (a_mb : Nat) (a_le : Nat) (a_rs : Nat) (a_rm : Nat) (a_nu : Nat) : Kon l D (tyl cB cI cJ cZ cS cW cT cR) yX12_see cX12_see 2 (some (.int)) { frames := 0, cells := 0, slots := 0, locals := 0 } [.ref h0, .int 0] [(h0, .inr (12, [.int 0, .ref a_al, .ref a_hi, .ref a_mt, .ref a_fr, .int 0, .int 0, .int 0, .int 0, .int 0, .int 0, .int 0, .int 0, .int 0, .int (-1), .ref a_rk, .int 0, .ref a_on, .ref a_aw, .ref a_ro, .int 0, .ref a_ws, .ref a_ah, .int 0, .int 0, .int 0, .ref a_cl, .ref a_us, .ref a_mo, .ref a_to, .ref a_mb, .ref a_le, .int 0, .ref a_rs, .ref a_rm, .ref a_nu]))] (Qi D (fun r u => r = (-1) ∧ u = [(h0, .inr (12, [.int 0, .ref a_al, .ref a_hi, .ref a_mt, .ref a_fr, .int 0, .int 0, .int 0, .int 0, .int 0, .int 0, .int 0, .int 0, .int 0, .int (-1), .ref a_rk, .int 0, .ref a_on, .ref a_aw, .ref a_ro, .int 0, .ref a_ws, .ref a_ah, .int 0, .int 0, .int 0, .ref a_cl, .ref a_us, .ref a_mo, .ref a_to, .ref a_mb, .ref a_le, .int 0, .ref a_rs, .ref a_rm, .ref a_nu]))])) := by
  refine kon_of (by decide) (Nat.le_of_ble_eq_true rfl) (fun p e s m below meth c ls A hx hb hr hml hown hts hlocks hnm hkb hP hD hS hA hl => ?_)
  have hown : s.vm.findClass RX12 = some m.cls := hown
  have hl : lv_has ls 2 [(0, .ref h0), (1, .int 0)] := hl
  have hP : va_P D cls [(h0, .inr (12, [.int 0, .ref a_al, .ref a_hi, .ref a_mt, .ref a_fr, .int 0, .int 0, .int 0, .int 0, .int 0, .int 0, .int 0, .int 0, .int 0, .int (-1), .ref a_rk, .int 0, .ref a_on, .ref a_aw, .ref a_ro, .int 0, .ref a_ws, .ref a_ah, .int 0, .int 0, .int 0, .ref a_cl, .ref a_us, .ref a_mo, .ref a_to, .ref a_mb, .ref a_le, .int 0, .ref a_rs, .ref a_rm, .ref a_nu]))] s.heap := hP
  refine lv_iload_n hx hb dX12_see_0 rfl (lv_at hl 1 rfl) ?_
  refine lv_aload_n hx hb dX12_see_1 rfl (lv_at hl 0 rfl) ?_
  refine va_get (D := D) (ci := 12) (v := .int 0) (C := RX12) (T := TX12) (N := 36) hx hb hts uX12 hown hkb.1 hP 0 rfl rfl 8 (by decide) (hts _ kw_1231) (fun _ h9 => h9) rfl dX12_see_2 ?_
  refine lv_icmp_ge (tgt := 17) hx hb dX12_see_5 (by decide) (fun _ => ?_) (fun c_1 => absurd c_1 (by decide))
  refine lv_iconst (v := (-1)) hx hb dX12_see_17 (by decide) ?_
  refine W.widen (k := 0) (n := 0) (Nat.le_of_ble_eq_true rfl) (Nat.le_of_ble_eq_true rfl) ?_
  exact e_i (u := [(h0, .inr (12, [.int 0, .ref a_al, .ref a_hi, .ref a_mt, .ref a_fr, .int 0, .int 0, .int 0, .int 0, .int 0, .int 0, .int 0, .int 0, .int 0, .int (-1), .ref a_rk, .int 0, .ref a_on, .ref a_aw, .ref a_ro, .int 0, .ref a_ws, .ref a_ah, .int 0, .int 0, .int 0, .ref a_cl, .ref a_us, .ref a_mo, .ref a_to, .ref a_mb, .ref a_le, .int 0, .ref a_rs, .ref a_rm, .ref a_nu]))]) hx hb hr hlocks (hP.sub (ws' := [(h0, .inr (12, [.int 0, .ref a_al, .ref a_hi, .ref a_mt, .ref a_fr, .int 0, .int 0, .int 0, .int 0, .int 0, .int 0, .int 0, .int 0, .int 0, .int (-1), .ref a_rk, .int 0, .ref a_on, .ref a_aw, .ref a_ro, .int 0, .ref a_ws, .ref a_ah, .int 0, .int 0, .int 0, .ref a_cl, .ref a_us, .ref a_mo, .ref a_to, .ref a_mb, .ref a_le, .int 0, .ref a_rs, .ref a_rm, .ref a_nu]))]) [0] rfl) (hD.sub (ws' := [(h0, .inr (12, [.int 0, .ref a_al, .ref a_hi, .ref a_mt, .ref a_fr, .int 0, .int 0, .int 0, .int 0, .int 0, .int 0, .int 0, .int 0, .int 0, .int (-1), .ref a_rk, .int 0, .ref a_on, .ref a_aw, .ref a_ro, .int 0, .ref a_ws, .ref a_ah, .int 0, .int 0, .int 0, .ref a_cl, .ref a_us, .ref a_mo, .ref a_to, .ref a_mb, .ref a_le, .int 0, .ref a_rs, .ref a_rm, .ref a_nu]))]) [0] (by decide) rfl) hS ⟨rfl, rfl⟩ dX12_see_18
set_option maxHeartbeats 4000000 in
set_option maxRecDepth 100000 in
theorem c_next0 (l : Launch) (D : va_G) (cB cI cJ cZ cS cW cT cR : ClassId) (h0 : Nat) (a_al : Nat) (a_hi : Nat) (a_mt : Nat) (a_fr : Nat) (a_rk : Nat) (a_on : Nat) (a_aw : Nat) (a_ro : Nat) (a_ws : Nat) (a_ah : Nat) (a_cl : Nat) (a_us : Nat) (a_mo : Nat) (a_to : Nat) (a_mb : Nat) (a_le : Nat) (a_rs : Nat) (a_rm : Nat) (a_nu : Nat) : Kon l D (tyl cB cI cJ cZ cS cW cT cR) yX12_next cX12_next 2 none { frames := 1, cells := 0, slots := 0, locals := 21 } [.ref h0] [(h0, .inr (12, [.int 0, .ref a_al, .ref a_hi, .ref a_mt, .ref a_fr, .int 0, .int 0, .int 0, .int 0, .int 0, .int 0, .int 0, .int 0, .int 0, .int (-1), .ref a_rk, .int 0, .ref a_on, .ref a_aw, .ref a_ro, .int 0, .ref a_ws, .ref a_ah, .int 0, .int 0, .int 0, .ref a_cl, .ref a_us, .ref a_mo, .ref a_to, .ref a_mb, .ref a_le, .int 0, .ref a_rs, .ref a_rm, .ref a_nu]))] (Qv D (fun u => u = [(h0, .inr (12, [.int 0, .ref a_al, .ref a_hi, .ref a_mt, .ref a_fr, .int 0, .int 0, .int 0, .int 0, .int 22, .int 0, .int 0, .int 0, .int 0, .int (-1), .ref a_rk, .int 0, .ref a_on, .ref a_aw, .ref a_ro, .int 0, .ref a_ws, .ref a_ah, .int 0, .int 0, .int 0, .ref a_cl, .ref a_us, .ref a_mo, .ref a_to, .ref a_mb, .ref a_le, .int 0, .ref a_rs, .ref a_rm, .ref a_nu]))])) := by
  refine kon_of (by decide) (Nat.le_of_ble_eq_true rfl) (fun p e s m below meth c ls A hx hb hr hml hown hts hlocks hnm hkb hP hD hS hA hl => ?_)
  have hown : s.vm.findClass RX12 = some m.cls := hown
  have hl : lv_has ls 2 [(0, .ref h0)] := hl
  have hP : va_P D cls [(h0, .inr (12, [.int 0, .ref a_al, .ref a_hi, .ref a_mt, .ref a_fr, .int 0, .int 0, .int 0, .int 0, .int 0, .int 0, .int 0, .int 0, .int 0, .int (-1), .ref a_rk, .int 0, .ref a_on, .ref a_aw, .ref a_ro, .int 0, .ref a_ws, .ref a_ah, .int 0, .int 0, .int 0, .ref a_cl, .ref a_us, .ref a_mo, .ref a_to, .ref a_mb, .ref a_le, .int 0, .ref a_rs, .ref a_rm, .ref a_nu]))] s.heap := hP
  refine lv_aload_n hx hb dX12_next_0 rfl (lv_at hl 0 rfl) ?_
  refine lv_aload_n hx hb dX12_next_1 rfl (lv_at hl 0 rfl) ?_
  refine va_get (D := D) (ci := 12) (v := .int 0) (C := RX12) (T := TX12) (N := 36) hx hb hts uX12 hown hkb.1 hP 0 rfl rfl 7 (by decide) (hts _ kw_1230) (fun _ h9 => h9) rfl dX12_next_2 ?_
  refine va_put (D := D) (ci := 12) (v := .int 0) (ty := tyX12 6) (C := RX12) (T := TX12) (N := 36) hx hb hts uX12 tyX12 tyX12_ok nmX12 hown hkb.1 hP hD hS 0 rfl rfl 6 (by decide) (hts _ kw_1229) (fun _ h9 => h9) rfl (tyX12_ok 6 (by decide)) rfl rfl (Nat.le_of_ble_eq_true rfl) dX12_next_5 (fun H locs hP hD hS => ?_)
  have hP : va_P D cls [(h0, .inr (12, [.int 0, .ref a_al, .ref a_hi, .ref a_mt, .ref a_fr, .int 0, .int 0, .int 0, .int 0, .int 0, .int 0, .int 0, .int 0, .int 0, .int (-1), .ref a_rk, .int 0, .ref a_on, .ref a_aw, .ref a_ro, .int 0, .ref a_ws, .ref a_ah, .int 0, .int 0, .int 0, .ref a_cl, .ref a_us, .ref a_mo, .ref a_to, .ref a_mb, .ref a_le, .int 0, .ref a_rs, .ref a_rm, .ref a_nu]))] H := hP
  have hD : va_D A [(h0, .inr (12, [.int 0, .ref a_al, .ref a_hi, .ref a_mt, .ref a_fr, .int 0, .int 0, .int 0, .int 0, .int 0, .int 0, .int 0, .int 0, .int 0, .int (-1), .ref a_rk, .int 0, .ref a_on, .ref a_aw, .ref a_ro, .int 0, .ref a_ws, .ref a_ah, .int 0, .int 0, .int 0, .ref a_cl, .ref a_us, .ref a_mo, .ref a_to, .ref a_mb, .ref a_le, .int 0, .ref a_rs, .ref a_rm, .ref a_nu]))] := hD
  refine lv_aload_n hx hb dX12_next_8 rfl (lv_at hl 0 rfl) ?_
  refine lv_aload_n hx hb dX12_next_9 rfl (lv_at hl 0 rfl) ?_
  refine va_get (D := D) (ci := 12) (v := .int 0) (C := RX12) (T := TX12) (N := 36) hx hb hts uX12 hown hkb.1 hP 0 rfl rfl 6 (by decide) (hts _ kw_1229) (fun _ h9 => h9) rfl dX12_next_10 ?_
  have hPc := hP.sub (ws' := [(h0, .inr (12, [.int 0, .ref a_al, .ref a_hi, .ref a_mt, .ref a_fr, .int 0, .int 0, .int 0, .int 0, .int 0, .int 0, .int 0, .int 0, .int 0, .int (-1), .ref a_rk, .int 0, .ref a_on, .ref a_aw, .ref a_ro, .int 0, .ref a_ws, .ref a_ah, .int 0, .int 0, .int 0, .ref a_cl, .ref a_us, .ref a_mo, .ref a_to, .ref a_mb, .ref a_le, .int 0, .ref a_rs, .ref a_rm, .ref a_nu]))]) [0] rfl
  have hDc := hD.sub (ws' := [(h0, .inr (12, [.int 0, .ref a_al, .ref a_hi, .ref a_mt, .ref a_fr, .int 0, .int 0, .int 0, .int 0, .int 0, .int 0, .int 0, .int 0, .int 0, .int (-1), .ref a_rk, .int 0, .ref a_on, .ref a_aw, .ref a_ro, .int 0, .ref a_ws, .ref a_ah, .int 0, .int 0, .int 0, .ref a_cl, .ref a_us, .ref a_mo, .ref a_to, .ref a_mb, .ref a_le, .int 0, .ref a_rs, .ref a_rm, .ref a_nu]))]) [0] (by decide) rfl
  refine k_i (wc := [(h0, .inr (12, [.int 0, .ref a_al, .ref a_hi, .ref a_mt, .ref a_fr, .int 0, .int 0, .int 0, .int 0, .int 0, .int 0, .int 0, .int 0, .int 0, .int (-1), .ref a_rk, .int 0, .ref a_on, .ref a_aw, .ref a_ro, .int 0, .ref a_ws, .ref a_ah, .int 0, .int 0, .int 0, .ref a_cl, .ref a_us, .ref a_mo, .ref a_to, .ref a_mb, .ref a_le, .int 0, .ref a_rs, .ref a_rm, .ref a_nu]))]) (wr := []) hP hD hS hA [0] [] rfl rfl rfl (by decide) (r_V (n := 1) (As := [.int 0]) (ci := 12) (q0 := 0) hx hb hml hown hts hkb hPc hDc (c_see0 l D cB cI cJ cZ cS cW cT cR h0 a_al a_hi a_mt a_fr a_rk a_on a_aw a_ro a_ws a_ah a_cl a_us a_mo a_to a_mb a_le a_rs a_rm a_nu) kw_1348 kw_1350 ks_44 kw_13 kw_1351 (by decide +kernel) ⟨Nat.le_of_ble_eq_true rfl, Nat.le_of_ble_eq_true rfl⟩ rfl rfl rfl rfl hl.1 (Nat.le_of_ble_eq_true rfl) dX12_next_13 ⟨Nat.le_of_ble_eq_true rfl, Nat.le_of_ble_eq_true rfl⟩) (fun r_1 u H locs hw hP hD hS => ?_)
  obtain ⟨rfl, rfl⟩ := hw
  have hP : va_P D cls [(h0, .inr (12, [.int 0, .ref a_al, .ref a_hi, .ref a_mt, .ref a_fr, .int 0, .int 0, .int 0, .int 0, .int 0, .int 0, .int 0, .int 0, .int 0, .int (-1), .ref a_rk, .int 0, .ref a_on, .ref a_aw, .ref a_ro, .int 0, .ref a_ws, .ref a_ah, .int 0, .int 0, .int 0, .ref a_cl, .ref a_us, .ref a_mo, .ref a_to, .ref a_mb, .ref a_le, .int 0, .ref a_rs, .ref a_rm, .ref a_nu]))] H := hP
  have hD : va_D A [(h0, .inr (12, [.int 0, .ref a_al, .ref a_hi, .ref a_mt, .ref a_fr, .int 0, .int 0, .int 0, .int 0, .int 0, .int 0, .int 0, .int 0, .int 0, .int (-1), .ref a_rk, .int 0, .ref a_on, .ref a_aw, .ref a_ro, .int 0, .ref a_ws, .ref a_ah, .int 0, .int 0, .int 0, .ref a_cl, .ref a_us, .ref a_mo, .ref a_to, .ref a_mb, .ref a_le, .int 0, .ref a_rs, .ref a_rm, .ref a_nu]))] := hD
  refine W.widen (k := 0) (n := 0) (Nat.le_of_ble_eq_true rfl) (Nat.le_of_ble_eq_true rfl) ?_
  refine lv_bipush (v := 10) hx hb dX12_next_16 (by decide) ?_
  refine lv_icmp_eq (tgt := 34) hx hb dX12_next_18 (by decide) (fun c_2 => absurd c_2 (by decide)) (fun _ => ?_)
  refine lv_aload_n hx hb dX12_next_21 rfl (lv_at hl 0 rfl) ?_
  refine lv_aload_n hx hb dX12_next_22 rfl (lv_at hl 0 rfl) ?_
  refine va_get (D := D) (ci := 12) (v := .int 0) (C := RX12) (T := TX12) (N := 36) hx hb hts uX12 hown hkb.1 hP 0 rfl rfl 6 (by decide) (hts _ kw_1229) (fun _ h9 => h9) rfl dX12_next_23 ?_
  have hPc := hP.sub (ws' := [(h0, .inr (12, [.int 0, .ref a_al, .ref a_hi, .ref a_mt, .ref a_fr, .int 0, .int 0, .int 0, .int 0, .int 0, .int 0, .int 0, .int 0, .int 0, .int (-1), .ref a_rk, .int 0, .ref a_on, .ref a_aw, .ref a_ro, .int 0, .ref a_ws, .ref a_ah, .int 0, .int 0, .int 0, .ref a_cl, .ref a_us, .ref a_mo, .ref a_to, .ref a_mb, .ref a_le, .int 0, .ref a_rs, .ref a_rm, .ref a_nu]))]) [0] rfl
  have hDc := hD.sub (ws' := [(h0, .inr (12, [.int 0, .ref a_al, .ref a_hi, .ref a_mt, .ref a_fr, .int 0, .int 0, .int 0, .int 0, .int 0, .int 0, .int 0, .int 0, .int 0, .int (-1), .ref a_rk, .int 0, .ref a_on, .ref a_aw, .ref a_ro, .int 0, .ref a_ws, .ref a_ah, .int 0, .int 0, .int 0, .ref a_cl, .ref a_us, .ref a_mo, .ref a_to, .ref a_mb, .ref a_le, .int 0, .ref a_rs, .ref a_rm, .ref a_nu]))]) [0] (by decide) rfl
  refine k_i (wc := [(h0, .inr (12, [.int 0, .ref a_al, .ref a_hi, .ref a_mt, .ref a_fr, .int 0, .int 0, .int 0, .int 0, .int 0, .int 0, .int 0, .int 0, .int 0, .int (-1), .ref a_rk, .int 0, .ref a_on, .ref a_aw, .ref a_ro, .int 0, .ref a_ws, .ref a_ah, .int 0, .int 0, .int 0, .ref a_cl, .ref a_us, .ref a_mo, .ref a_to, .ref a_mb, .ref a_le, .int 0, .ref a_rs, .ref a_rm, .ref a_nu]))]) (wr := []) hP hD hS hA [0] [] rfl rfl rfl (by decide) (r_V (n := 1) (As := [.int 0]) (ci := 12) (q0 := 0) hx hb hml hown hts hkb hPc hDc (c_see0 l D cB cI cJ cZ cS cW cT cR h0 a_al a_hi a_mt a_fr a_rk a_on a_aw a_ro a_ws a_ah a_cl a_us a_mo a_to a_mb a_le a_rs a_rm a_nu) kw_1348 kw_1350 ks_44 kw_13 kw_1351 (by decide +kernel) ⟨Nat.le_of_ble_eq_true rfl, Nat.le_of_ble_eq_true rfl⟩ rfl rfl rfl rfl hl.1 (Nat.le_of_ble_eq_true rfl) dX12_next_26 ⟨Nat.le_of_ble_eq_true rfl, Nat.le_of_ble_eq_true rfl⟩) (fun r_3 u H locs hw hP hD hS => ?_)
  obtain ⟨rfl, rfl⟩ := hw
  have hP : va_P D cls [(h0, .inr (12, [.int 0, .ref a_al, .ref a_hi, .ref a_mt, .ref a_fr, .int 0, .int 0, .int 0, .int 0, .int 0, .int 0, .int 0, .int 0, .int 0, .int (-1), .ref a_rk, .int 0, .ref a_on, .ref a_aw, .ref a_ro, .int 0, .ref a_ws, .ref a_ah, .int 0, .int 0, .int 0, .ref a_cl, .ref a_us, .ref a_mo, .ref a_to, .ref a_mb, .ref a_le, .int 0, .ref a_rs, .ref a_rm, .ref a_nu]))] H := hP
  have hD : va_D A [(h0, .inr (12, [.int 0, .ref a_al, .ref a_hi, .ref a_mt, .ref a_fr, .int 0, .int 0, .int 0, .int 0, .int 0, .int 0, .int 0, .int 0, .int 0, .int (-1), .ref a_rk, .int 0, .ref a_on, .ref a_aw, .ref a_ro, .int 0, .ref a_ws, .ref a_ah, .int 0, .int 0, .int 0, .ref a_cl, .ref a_us, .ref a_mo, .ref a_to, .ref a_mb, .ref a_le, .int 0, .ref a_rs, .ref a_rm, .ref a_nu]))] := hD
  refine W.widen (k := 0) (n := 0) (Nat.le_of_ble_eq_true rfl) (Nat.le_of_ble_eq_true rfl) ?_
  refine lv_bipush (v := 32) hx hb dX12_next_29 (by decide) ?_
  refine lv_icmp_ne (tgt := 47) hx hb dX12_next_31 (by decide) (fun _ => ?_) (fun c_4 => absurd c_4 (by decide))
  refine lv_aload_n hx hb dX12_next_47 rfl (lv_at hl 0 rfl) ?_
  refine lv_aload_n hx hb dX12_next_48 rfl (lv_at hl 0 rfl) ?_
  refine va_get (D := D) (ci := 12) (v := .int 0) (C := RX12) (T := TX12) (N := 36) hx hb hts uX12 hown hkb.1 hP 0 rfl rfl 6 (by decide) (hts _ kw_1229) (fun _ h9 => h9) rfl dX12_next_49 ?_
  refine va_put (D := D) (ci := 12) (v := .int 0) (ty := tyX12 7) (C := RX12) (T := TX12) (N := 36) hx hb hts uX12 tyX12 tyX12_ok nmX12 hown hkb.1 hP hD hS 0 rfl rfl 7 (by decide) (hts _ kw_1230) (fun _ h9 => h9) rfl (tyX12_ok 7 (by decide)) rfl rfl (Nat.le_of_ble_eq_true rfl) dX12_next_52 (fun H locs hP hD hS => ?_)
  have hP : va_P D cls [(h0, .inr (12, [.int 0, .ref a_al, .ref a_hi, .ref a_mt, .ref a_fr, .int 0, .int 0, .int 0, .int 0, .int 0, .int 0, .int 0, .int 0, .int 0, .int (-1), .ref a_rk, .int 0, .ref a_on, .ref a_aw, .ref a_ro, .int 0, .ref a_ws, .ref a_ah, .int 0, .int 0, .int 0, .ref a_cl, .ref a_us, .ref a_mo, .ref a_to, .ref a_mb, .ref a_le, .int 0, .ref a_rs, .ref a_rm, .ref a_nu]))] H := hP
  have hD : va_D A [(h0, .inr (12, [.int 0, .ref a_al, .ref a_hi, .ref a_mt, .ref a_fr, .int 0, .int 0, .int 0, .int 0, .int 0, .int 0, .int 0, .int 0, .int 0, .int (-1), .ref a_rk, .int 0, .ref a_on, .ref a_aw, .ref a_ro, .int 0, .ref a_ws, .ref a_ah, .int 0, .int 0, .int 0, .ref a_cl, .ref a_us, .ref a_mo, .ref a_to, .ref a_mb, .ref a_le, .int 0, .ref a_rs, .ref a_rm, .ref a_nu]))] := hD
  refine lv_aload_n hx hb dX12_next_55 rfl (lv_at hl 0 rfl) ?_
  refine va_get (D := D) (ci := 12) (v := .int 0) (C := RX12) (T := TX12) (N := 36) hx hb hts uX12 hown hkb.1 hP 0 rfl rfl 6 (by decide) (hts _ kw_1229) (fun _ h9 => h9) rfl dX12_next_56 ?_
  refine lv_aload_n hx hb dX12_next_59 rfl (lv_at hl 0 rfl) ?_
  refine va_get (D := D) (ci := 12) (v := .int 0) (C := RX12) (T := TX12) (N := 36) hx hb hts uX12 hown hkb.1 hP 0 rfl rfl 8 (by decide) (hts _ kw_1231) (fun _ h9 => h9) rfl dX12_next_60 ?_
  refine lv_icmp_lt (tgt := 75) hx hb dX12_next_63 (by decide) (fun c_5 => absurd c_5 (by decide)) (fun _ => ?_)
  refine lv_aload_n hx hb dX12_next_66 rfl (lv_at hl 0 rfl) ?_
  refine lv_bipush (v := 22) hx hb dX12_next_67 (by decide) ?_
  refine va_put (D := D) (ci := 12) (v := .int 22) (ty := tyX12 9) (C := RX12) (T := TX12) (N := 36) hx hb hts uX12 tyX12 tyX12_ok nmX12 hown hkb.1 hP hD hS 0 rfl rfl 9 (by decide) (hts _ kw_1232) (fun _ h9 => h9) rfl (tyX12_ok 9 (by decide)) rfl rfl (Nat.le_of_ble_eq_true rfl) dX12_next_69 (fun H locs hP hD hS => ?_)
  have hP : va_P D cls [(h0, .inr (12, [.int 0, .ref a_al, .ref a_hi, .ref a_mt, .ref a_fr, .int 0, .int 0, .int 0, .int 0, .int 22, .int 0, .int 0, .int 0, .int 0, .int (-1), .ref a_rk, .int 0, .ref a_on, .ref a_aw, .ref a_ro, .int 0, .ref a_ws, .ref a_ah, .int 0, .int 0, .int 0, .ref a_cl, .ref a_us, .ref a_mo, .ref a_to, .ref a_mb, .ref a_le, .int 0, .ref a_rs, .ref a_rm, .ref a_nu]))] H := hP
  have hD : va_D A [(h0, .inr (12, [.int 0, .ref a_al, .ref a_hi, .ref a_mt, .ref a_fr, .int 0, .int 0, .int 0, .int 0, .int 22, .int 0, .int 0, .int 0, .int 0, .int (-1), .ref a_rk, .int 0, .ref a_on, .ref a_aw, .ref a_ro, .int 0, .ref a_ws, .ref a_ah, .int 0, .int 0, .int 0, .ref a_cl, .ref a_us, .ref a_mo, .ref a_to, .ref a_mb, .ref a_le, .int 0, .ref a_rs, .ref a_rm, .ref a_nu]))] := hD
  refine lv_goto (tgt := 294) hx hb dX12_next_72 (by decide) ?_
  refine W.widen (k := 0) (n := 0) (Nat.le_of_ble_eq_true rfl) (Nat.le_of_ble_eq_true rfl) ?_
  exact e_v (u := [(h0, .inr (12, [.int 0, .ref a_al, .ref a_hi, .ref a_mt, .ref a_fr, .int 0, .int 0, .int 0, .int 0, .int 22, .int 0, .int 0, .int 0, .int 0, .int (-1), .ref a_rk, .int 0, .ref a_on, .ref a_aw, .ref a_ro, .int 0, .ref a_ws, .ref a_ah, .int 0, .int 0, .int 0, .ref a_cl, .ref a_us, .ref a_mo, .ref a_to, .ref a_mb, .ref a_le, .int 0, .ref a_rs, .ref a_rm, .ref a_nu]))]) hx hb hr hlocks (hP.sub (ws' := [(h0, .inr (12, [.int 0, .ref a_al, .ref a_hi, .ref a_mt, .ref a_fr, .int 0, .int 0, .int 0, .int 0, .int 22, .int 0, .int 0, .int 0, .int 0, .int (-1), .ref a_rk, .int 0, .ref a_on, .ref a_aw, .ref a_ro, .int 0, .ref a_ws, .ref a_ah, .int 0, .int 0, .int 0, .ref a_cl, .ref a_us, .ref a_mo, .ref a_to, .ref a_mb, .ref a_le, .int 0, .ref a_rs, .ref a_rm, .ref a_nu]))]) [0] rfl) (hD.sub (ws' := [(h0, .inr (12, [.int 0, .ref a_al, .ref a_hi, .ref a_mt, .ref a_fr, .int 0, .int 0, .int 0, .int 0, .int 22, .int 0, .int 0, .int 0, .int 0, .int (-1), .ref a_rk, .int 0, .ref a_on, .ref a_aw, .ref a_ro, .int 0, .ref a_ws, .ref a_ah, .int 0, .int 0, .int 0, .ref a_cl, .ref a_us, .ref a_mo, .ref a_to, .ref a_mb, .ref a_le, .int 0, .ref a_rs, .ref a_rm, .ref a_nu]))]) [0] (by decide) rfl) hS rfl dX12_next_294
set_option maxHeartbeats 4000000 in
set_option maxRecDepth 100000 in
theorem y_wall (l : Launch) (D : va_G) (cB cI cJ cZ cS cW cT cR : ClassId) (h0 : Nat) (a_al : Nat) (a_fr : Nat) (i_0 : Int32) (a_hi : Nat) (a_mt : Nat) (a_rk : Nat) (a_on : Nat) (a_aw : Nat) (a_ro : Nat) (a_ws : Nat) (a_ah : Nat) (a_cl : Nat) (a_us : Nat) (a_mo : Nat) (a_to : Nat) (a_mb : Nat) (a_le : Nat) (a_rs : Nat) (a_rm : Nat) (a_nu : Nat) : Kon l D (tyl cB cI cJ cZ cS cW cT cR) yX12_wall cX12_wall 3 (some (.int)) { frames := 2, cells := 0, slots := 0, locals := 42 } [.ref h0, .int i_0] [(h0, .inr (12, [.int 0, .ref a_al, .ref a_hi, .ref a_mt, .ref a_fr, .int 0, .int 0, .int 0, .int 0, .int 0, .int 0, .int 0, .int 0, .int 0, .int (-1), .ref a_rk, .int 0, .ref a_on, .ref a_aw, .ref a_ro, .int 0, .ref a_ws, .ref a_ah, .int 0, .int 0, .int 0, .ref a_cl, .ref a_us, .ref a_mo, .ref a_to, .ref a_mb, .ref a_le, .int 0, .ref a_rs, .ref a_rm, .ref a_nu])), (a_al, .inl (cI, 3906, .inl plc)), (a_fr, .inl (cI, 1302, .inl (fun _ => 0)))] (Qi D (fun r u => r = F_wall i_0 ∧ u = [])) := by
  refine kon_of (by decide) (Nat.le_of_ble_eq_true rfl) (fun p e s m below meth c ls A hx hb hr hml hown hts hlocks hnm hkb hP hD hS hA hl => ?_)
  have hown : s.vm.findClass RX12 = some m.cls := hown
  have hl : lv_has ls 3 [(0, .ref h0), (1, .int i_0)] := hl
  have hP : va_P D cls [(h0, .inr (12, [.int 0, .ref a_al, .ref a_hi, .ref a_mt, .ref a_fr, .int 0, .int 0, .int 0, .int 0, .int 0, .int 0, .int 0, .int 0, .int 0, .int (-1), .ref a_rk, .int 0, .ref a_on, .ref a_aw, .ref a_ro, .int 0, .ref a_ws, .ref a_ah, .int 0, .int 0, .int 0, .ref a_cl, .ref a_us, .ref a_mo, .ref a_to, .ref a_mb, .ref a_le, .int 0, .ref a_rs, .ref a_rm, .ref a_nu])), (a_al, .inl (cI, 3906, .inl plc)), (a_fr, .inl (cI, 1302, .inl (fun _ => 0)))] s.heap := hP
  refine lv_aload_n hx hb dX12_wall_0 rfl (lv_at hl 0 rfl) ?_
  refine lv_iconst (v := 0) hx hb dX12_wall_1 (by decide) ?_
  refine va_put (D := D) (ci := 12) (v := .int 0) (ty := tyX12 0) (C := RX12) (T := TX12) (N := 36) hx hb hts uX12 tyX12 tyX12_ok nmX12 hown hkb.1 hP hD hS 0 rfl rfl 0 (by decide) (hts _ kw_1223) (fun _ h9 => h9) rfl (tyX12_ok 0 (by decide)) rfl rfl (Nat.le_of_ble_eq_true rfl) dX12_wall_2 (fun H locs hP hD hS => ?_)
  have hP : va_P D cls [(h0, .inr (12, [.int 0, .ref a_al, .ref a_hi, .ref a_mt, .ref a_fr, .int 0, .int 0, .int 0, .int 0, .int 0, .int 0, .int 0, .int 0, .int 0, .int (-1), .ref a_rk, .int 0, .ref a_on, .ref a_aw, .ref a_ro, .int 0, .ref a_ws, .ref a_ah, .int 0, .int 0, .int 0, .ref a_cl, .ref a_us, .ref a_mo, .ref a_to, .ref a_mb, .ref a_le, .int 0, .ref a_rs, .ref a_rm, .ref a_nu])), (a_al, .inl (cI, 3906, .inl plc)), (a_fr, .inl (cI, 1302, .inl (fun _ => 0)))] H := hP
  have hD : va_D A [(h0, .inr (12, [.int 0, .ref a_al, .ref a_hi, .ref a_mt, .ref a_fr, .int 0, .int 0, .int 0, .int 0, .int 0, .int 0, .int 0, .int 0, .int 0, .int (-1), .ref a_rk, .int 0, .ref a_on, .ref a_aw, .ref a_ro, .int 0, .ref a_ws, .ref a_ah, .int 0, .int 0, .int 0, .ref a_cl, .ref a_us, .ref a_mo, .ref a_to, .ref a_mb, .ref a_le, .int 0, .ref a_rs, .ref a_rm, .ref a_nu])), (a_al, .inl (cI, 3906, .inl plc)), (a_fr, .inl (cI, 1302, .inl (fun _ => 0)))] := hD
  refine lv_iload_n hx hb dX12_wall_5 rfl (lv_at hl 1 rfl) ?_
  refine lv_i2l hx hb dX12_wall_6 rfl ?_
  refine lv_lconst (v := 0) hx hb dX12_wall_7 (by decide) ?_
  refine lv_aload_n hx hb dX12_wall_8 rfl (lv_at hl 0 rfl) ?_
  refine va_get (D := D) (ci := 12) (v := .int 0) (C := RX12) (T := TX12) (N := 36) hx hb hts uX12 hown hkb.1 hP 0 rfl rfl 5 (by decide) (hts _ kw_1228) (fun _ h9 => h9) rfl dX12_wall_9 ?_
  refine lv_i2l (v := 0) hx hb dX12_wall_12 (by decide +kernel) ?_
  have hPc := hP.sub (ws' := []) [] rfl
  have hDc := hD.sub (ws' := []) [] (by decide) rfl
  refine k_i (wc := []) (wr := [(h0, .inr (12, [.int 0, .ref a_al, .ref a_hi, .ref a_mt, .ref a_fr, .int 0, .int 0, .int 0, .int 0, .int 0, .int 0, .int 0, .int 0, .int 0, .int (-1), .ref a_rk, .int 0, .ref a_on, .ref a_aw, .ref a_ro, .int 0, .ref a_ws, .ref a_ah, .int 0, .int 0, .int 0, .ref a_cl, .ref a_us, .ref a_mo, .ref a_to, .ref a_mb, .ref a_le, .int 0, .ref a_rs, .ref a_rm, .ref a_nu])), (a_al, .inl (cI, 3906, .inl plc)), (a_fr, .inl (cI, 1302, .inl (fun _ => 0)))]) hP hD hS hA [] [0, 1, 2] rfl rfl rfl (by decide) (r_S (n := 3) (As := [.long i_0.toInt64, .long 0, .long 0]) hx hb hml hown hts hkb hPc hDc (c_within l D cB cI cJ cZ cS cW cT cR i_0.toInt64 0 0) kw_1341 kw_1342 kw_13 kw_1343 (by decide +kernel) ⟨Nat.le_of_ble_eq_true rfl, Nat.le_of_ble_eq_true rfl⟩ rfl rfl hl.1 (Nat.le_of_ble_eq_true rfl) dX12_wall_13 ⟨Nat.le_of_ble_eq_true rfl, Nat.le_of_ble_eq_true rfl⟩) (fun r_1 u H locs hw hP hD hS => ?_)
  obtain ⟨rfl, rfl⟩ := hw
  have hP : va_P D cls [(h0, .inr (12, [.int 0, .ref a_al, .ref a_hi, .ref a_mt, .ref a_fr, .int 0, .int 0, .int 0, .int 0, .int 0, .int 0, .int 0, .int 0, .int 0, .int (-1), .ref a_rk, .int 0, .ref a_on, .ref a_aw, .ref a_ro, .int 0, .ref a_ws, .ref a_ah, .int 0, .int 0, .int 0, .ref a_cl, .ref a_us, .ref a_mo, .ref a_to, .ref a_mb, .ref a_le, .int 0, .ref a_rs, .ref a_rm, .ref a_nu])), (a_al, .inl (cI, 3906, .inl plc)), (a_fr, .inl (cI, 1302, .inl (fun _ => 0)))] H := hP
  have hD : va_D A [(h0, .inr (12, [.int 0, .ref a_al, .ref a_hi, .ref a_mt, .ref a_fr, .int 0, .int 0, .int 0, .int 0, .int 0, .int 0, .int 0, .int 0, .int 0, .int (-1), .ref a_rk, .int 0, .ref a_on, .ref a_aw, .ref a_ro, .int 0, .ref a_ws, .ref a_ah, .int 0, .int 0, .int 0, .ref a_cl, .ref a_us, .ref a_mo, .ref a_to, .ref a_mb, .ref a_le, .int 0, .ref a_rs, .ref a_rm, .ref a_nu])), (a_al, .inl (cI, 3906, .inl plc)), (a_fr, .inl (cI, 1302, .inl (fun _ => 0)))] := hD
  refine W.widen (k := 0) (n := 0) (Nat.le_of_ble_eq_true rfl) (Nat.le_of_ble_eq_true rfl) ?_
  refine lv_if_ne (tgt := 22) hx hb dX12_wall_16 (by decide) (fun c_2 => ?_) (fun c_2 => ?_)
  · skip
    have tc_2 := wi_1 (a := 0) (b := 0) (by decide) (by decide) c_2
    by_cases c_3 : i_0 = 0
    · skip
      subst c_3
      have zc_3 : (0 : Int32).toInt = 0 := by decide
      refine lv_aload_n hx hb dX12_wall_22 rfl (lv_at hl 0 rfl) ?_
      refine lv_iload_n hx hb dX12_wall_23 rfl (lv_at hl 1 rfl) ?_
      refine va_put (D := D) (ci := 12) (v := .int 0) (ty := tyX12 8) (C := RX12) (T := TX12) (N := 36) hx hb hts uX12 tyX12 tyX12_ok nmX12 hown hkb.1 hP hD hS 0 rfl rfl 8 (by decide) (hts _ kw_1231) (fun _ h9 => h9) rfl (tyX12_ok 8 (by decide)) rfl rfl (Nat.le_of_ble_eq_true rfl) dX12_wall_24 (fun H locs hP hD hS => ?_)
      have hP : va_P D cls [(h0, .inr (12, [.int 0, .ref a_al, .ref a_hi, .ref a_mt, .ref a_fr, .int 0, .int 0, .int 0, .int 0, .int 0, .int 0, .int 0, .int 0, .int 0, .int (-1), .ref a_rk, .int 0, .ref a_on, .ref a_aw, .ref a_ro, .int 0, .ref a_ws, .ref a_ah, .int 0, .int 0, .int 0, .ref a_cl, .ref a_us, .ref a_mo, .ref a_to, .ref a_mb, .ref a_le, .int 0, .ref a_rs, .ref a_rm, .ref a_nu])), (a_al, .inl (cI, 3906, .inl plc)), (a_fr, .inl (cI, 1302, .inl (fun _ => 0)))] H := hP
      have hD : va_D A [(h0, .inr (12, [.int 0, .ref a_al, .ref a_hi, .ref a_mt, .ref a_fr, .int 0, .int 0, .int 0, .int 0, .int 0, .int 0, .int 0, .int 0, .int 0, .int (-1), .ref a_rk, .int 0, .ref a_on, .ref a_aw, .ref a_ro, .int 0, .ref a_ws, .ref a_ah, .int 0, .int 0, .int 0, .ref a_cl, .ref a_us, .ref a_mo, .ref a_to, .ref a_mb, .ref a_le, .int 0, .ref a_rs, .ref a_rm, .ref a_nu])), (a_al, .inl (cI, 3906, .inl plc)), (a_fr, .inl (cI, 1302, .inl (fun _ => 0)))] := hD
      refine lv_aload_n hx hb dX12_wall_27 rfl (lv_at hl 0 rfl) ?_
      refine lv_iconst (v := 0) hx hb dX12_wall_28 (by decide) ?_
      refine va_put (D := D) (ci := 12) (v := .int 0) (ty := tyX12 5) (C := RX12) (T := TX12) (N := 36) hx hb hts uX12 tyX12 tyX12_ok nmX12 hown hkb.1 hP hD hS 0 rfl rfl 5 (by decide) (hts _ kw_1228) (fun _ h9 => h9) rfl (tyX12_ok 5 (by decide)) rfl rfl (Nat.le_of_ble_eq_true rfl) dX12_wall_29 (fun H locs hP hD hS => ?_)
      have hP : va_P D cls [(h0, .inr (12, [.int 0, .ref a_al, .ref a_hi, .ref a_mt, .ref a_fr, .int 0, .int 0, .int 0, .int 0, .int 0, .int 0, .int 0, .int 0, .int 0, .int (-1), .ref a_rk, .int 0, .ref a_on, .ref a_aw, .ref a_ro, .int 0, .ref a_ws, .ref a_ah, .int 0, .int 0, .int 0, .ref a_cl, .ref a_us, .ref a_mo, .ref a_to, .ref a_mb, .ref a_le, .int 0, .ref a_rs, .ref a_rm, .ref a_nu])), (a_al, .inl (cI, 3906, .inl plc)), (a_fr, .inl (cI, 1302, .inl (fun _ => 0)))] H := hP
      have hD : va_D A [(h0, .inr (12, [.int 0, .ref a_al, .ref a_hi, .ref a_mt, .ref a_fr, .int 0, .int 0, .int 0, .int 0, .int 0, .int 0, .int 0, .int 0, .int 0, .int (-1), .ref a_rk, .int 0, .ref a_on, .ref a_aw, .ref a_ro, .int 0, .ref a_ws, .ref a_ah, .int 0, .int 0, .int 0, .ref a_cl, .ref a_us, .ref a_mo, .ref a_to, .ref a_mb, .ref a_le, .int 0, .ref a_rs, .ref a_rm, .ref a_nu])), (a_al, .inl (cI, 3906, .inl plc)), (a_fr, .inl (cI, 1302, .inl (fun _ => 0)))] := hD
      refine lv_aload_n hx hb dX12_wall_32 rfl (lv_at hl 0 rfl) ?_
      refine lv_iconst (v := 0) hx hb dX12_wall_33 (by decide) ?_
      refine va_put (D := D) (ci := 12) (v := .int 0) (ty := tyX12 7) (C := RX12) (T := TX12) (N := 36) hx hb hts uX12 tyX12 tyX12_ok nmX12 hown hkb.1 hP hD hS 0 rfl rfl 7 (by decide) (hts _ kw_1230) (fun _ h9 => h9) rfl (tyX12_ok 7 (by decide)) rfl rfl (Nat.le_of_ble_eq_true rfl) dX12_wall_34 (fun H locs hP hD hS => ?_)
      have hP : va_P D cls [(h0, .inr (12, [.int 0, .ref a_al, .ref a_hi, .ref a_mt, .ref a_fr, .int 0, .int 0, .int 0, .int 0, .int 0, .int 0, .int 0, .int 0, .int 0, .int (-1), .ref a_rk, .int 0, .ref a_on, .ref a_aw, .ref a_ro, .int 0, .ref a_ws, .ref a_ah, .int 0, .int 0, .int 0, .ref a_cl, .ref a_us, .ref a_mo, .ref a_to, .ref a_mb, .ref a_le, .int 0, .ref a_rs, .ref a_rm, .ref a_nu])), (a_al, .inl (cI, 3906, .inl plc)), (a_fr, .inl (cI, 1302, .inl (fun _ => 0)))] H := hP
      have hD : va_D A [(h0, .inr (12, [.int 0, .ref a_al, .ref a_hi, .ref a_mt, .ref a_fr, .int 0, .int 0, .int 0, .int 0, .int 0, .int 0, .int 0, .int 0, .int 0, .int (-1), .ref a_rk, .int 0, .ref a_on, .ref a_aw, .ref a_ro, .int 0, .ref a_ws, .ref a_ah, .int 0, .int 0, .int 0, .ref a_cl, .ref a_us, .ref a_mo, .ref a_to, .ref a_mb, .ref a_le, .int 0, .ref a_rs, .ref a_rm, .ref a_nu])), (a_al, .inl (cI, 3906, .inl plc)), (a_fr, .inl (cI, 1302, .inl (fun _ => 0)))] := hD
      refine lv_aload_n hx hb dX12_wall_37 rfl (lv_at hl 0 rfl) ?_
      refine lv_iconst (v := 0) hx hb dX12_wall_38 (by decide) ?_
      refine va_put (D := D) (ci := 12) (v := .int 0) (ty := tyX12 11) (C := RX12) (T := TX12) (N := 36) hx hb hts uX12 tyX12 tyX12_ok nmX12 hown hkb.1 hP hD hS 0 rfl rfl 11 (by decide) (hts _ kw_1234) (fun _ h9 => h9) rfl (tyX12_ok 11 (by decide)) rfl rfl (Nat.le_of_ble_eq_true rfl) dX12_wall_39 (fun H locs hP hD hS => ?_)
      have hP : va_P D cls [(h0, .inr (12, [.int 0, .ref a_al, .ref a_hi, .ref a_mt, .ref a_fr, .int 0, .int 0, .int 0, .int 0, .int 0, .int 0, .int 0, .int 0, .int 0, .int (-1), .ref a_rk, .int 0, .ref a_on, .ref a_aw, .ref a_ro, .int 0, .ref a_ws, .ref a_ah, .int 0, .int 0, .int 0, .ref a_cl, .ref a_us, .ref a_mo, .ref a_to, .ref a_mb, .ref a_le, .int 0, .ref a_rs, .ref a_rm, .ref a_nu])), (a_al, .inl (cI, 3906, .inl plc)), (a_fr, .inl (cI, 1302, .inl (fun _ => 0)))] H := hP
      have hD : va_D A [(h0, .inr (12, [.int 0, .ref a_al, .ref a_hi, .ref a_mt, .ref a_fr, .int 0, .int 0, .int 0, .int 0, .int 0, .int 0, .int 0, .int 0, .int 0, .int (-1), .ref a_rk, .int 0, .ref a_on, .ref a_aw, .ref a_ro, .int 0, .ref a_ws, .ref a_ah, .int 0, .int 0, .int 0, .ref a_cl, .ref a_us, .ref a_mo, .ref a_to, .ref a_mb, .ref a_le, .int 0, .ref a_rs, .ref a_rm, .ref a_nu])), (a_al, .inl (cI, 3906, .inl plc)), (a_fr, .inl (cI, 1302, .inl (fun _ => 0)))] := hD
      refine lv_aload_n hx hb dX12_wall_42 rfl (lv_at hl 0 rfl) ?_
      refine va_get (D := D) (ci := 12) (v := .ref a_fr) (C := RX12) (T := TX12) (N := 36) hx hb hts uX12 hown hkb.1 hP 0 rfl rfl 4 (by decide) (hts _ kw_1227) (fun _ h9 => h9) rfl dX12_wall_43 ?_
      have hPc := hP.sub (ws' := [(a_fr, .inl (cI, 1302, .inl (fun _ => 0)))]) [2] rfl
      have hDc := hD.sub (ws' := [(a_fr, .inl (cI, 1302, .inl (fun _ => 0)))]) [2] (by decide) rfl
      refine k_v (wc := [(a_fr, .inl (cI, 1302, .inl (fun _ => 0)))]) (wr := [(h0, .inr (12, [.int 0, .ref a_al, .ref a_hi, .ref a_mt, .ref a_fr, .int 0, .int 0, .int 0, .int 0, .int 0, .int 0, .int 0, .int 0, .int 0, .int (-1), .ref a_rk, .int 0, .ref a_on, .ref a_aw, .ref a_ro, .int 0, .ref a_ws, .ref a_ah, .int 0, .int 0, .int 0, .ref a_cl, .ref a_us, .ref a_mo, .ref a_to, .ref a_mb, .ref a_le, .int 0, .ref a_rs, .ref a_rm, .ref a_nu])), (a_al, .inl (cI, 3906, .inl plc))]) hP hD hS hA [2] [0, 1] rfl rfl rfl (by decide) (r_S (n := 1) (As := [.ref a_fr]) hx hb hml hown hts hkb hPc hDc (c_plain1302 l D cB cI cJ cZ cS cW cT cR a_fr) kw_1220 kw_1221 kw_13 kw_1222 (by decide +kernel) ⟨Nat.le_of_ble_eq_true rfl, Nat.le_of_ble_eq_true rfl⟩ rfl rfl hl.1 (Nat.le_of_ble_eq_true rfl) dX12_wall_46 ⟨Nat.le_of_ble_eq_true rfl, Nat.le_of_ble_eq_true rfl⟩) (fun u H locs hw hP hD hS => ?_)
      obtain ⟨rfl⟩ := hw
      have hP : va_P D cls [(h0, .inr (12, [.int 0, .ref a_al, .ref a_hi, .ref a_mt, .ref a_fr, .int 0, .int 0, .int 0, .int 0, .int 0, .int 0, .int 0, .int 0, .int 0, .int (-1), .ref a_rk, .int 0, .ref a_on, .ref a_aw, .ref a_ro, .int 0, .ref a_ws, .ref a_ah, .int 0, .int 0, .int 0, .ref a_cl, .ref a_us, .ref a_mo, .ref a_to, .ref a_mb, .ref a_le, .int 0, .ref a_rs, .ref a_rm, .ref a_nu])), (a_al, .inl (cI, 3906, .inl plc)), (a_fr, .inl (cI, 1302, .inl plc))] H := hP
      have hD : va_D A [(h0, .inr (12, [.int 0, .ref a_al, .ref a_hi, .ref a_mt, .ref a_fr, .int 0, .int 0, .int 0, .int 0, .int 0, .int 0, .int 0, .int 0, .int 0, .int (-1), .ref a_rk, .int 0, .ref a_on, .ref a_aw, .ref a_ro, .int 0, .ref a_ws, .ref a_ah, .int 0, .int 0, .int 0, .ref a_cl, .ref a_us, .ref a_mo, .ref a_to, .ref a_mb, .ref a_le, .int 0, .ref a_rs, .ref a_rm, .ref a_nu])), (a_al, .inl (cI, 3906, .inl plc)), (a_fr, .inl (cI, 1302, .inl plc))] := hD
      refine W.widen (k := 0) (n := 0) (Nat.le_of_ble_eq_true rfl) (Nat.le_of_ble_eq_true rfl) ?_
      refine lv_aload_n hx hb dX12_wall_49 rfl (lv_at hl 0 rfl) ?_
      have hPc := hP.sub (ws' := [(h0, .inr (12, [.int 0, .ref a_al, .ref a_hi, .ref a_mt, .ref a_fr, .int 0, .int 0, .int 0, .int 0, .int 0, .int 0, .int 0, .int 0, .int 0, .int (-1), .ref a_rk, .int 0, .ref a_on, .ref a_aw, .ref a_ro, .int 0, .ref a_ws, .ref a_ah, .int 0, .int 0, .int 0, .ref a_cl, .ref a_us, .ref a_mo, .ref a_to, .ref a_mb, .ref a_le, .int 0, .ref a_rs, .ref a_rm, .ref a_nu]))]) [0] rfl
      have hDc := hD.sub (ws' := [(h0, .inr (12, [.int 0, .ref a_al, .ref a_hi, .ref a_mt, .ref a_fr, .int 0, .int 0, .int 0, .int 0, .int 0, .int 0, .int 0, .int 0, .int 0, .int (-1), .ref a_rk, .int 0, .ref a_on, .ref a_aw, .ref a_ro, .int 0, .ref a_ws, .ref a_ah, .int 0, .int 0, .int 0, .ref a_cl, .ref a_us, .ref a_mo, .ref a_to, .ref a_mb, .ref a_le, .int 0, .ref a_rs, .ref a_rm, .ref a_nu]))]) [0] (by decide) rfl
      refine k_v (wc := [(h0, .inr (12, [.int 0, .ref a_al, .ref a_hi, .ref a_mt, .ref a_fr, .int 0, .int 0, .int 0, .int 0, .int 0, .int 0, .int 0, .int 0, .int 0, .int (-1), .ref a_rk, .int 0, .ref a_on, .ref a_aw, .ref a_ro, .int 0, .ref a_ws, .ref a_ah, .int 0, .int 0, .int 0, .ref a_cl, .ref a_us, .ref a_mo, .ref a_to, .ref a_mb, .ref a_le, .int 0, .ref a_rs, .ref a_rm, .ref a_nu]))]) (wr := [(a_al, .inl (cI, 3906, .inl plc)), (a_fr, .inl (cI, 1302, .inl plc))]) hP hD hS hA [0] [1, 2] rfl rfl rfl (by decide) (r_V (n := 0) (As := []) (ci := 12) (q0 := 0) hx hb hml hown hts hkb hPc hDc (c_next0 l D cB cI cJ cZ cS cW cT cR h0 a_al a_hi a_mt a_fr a_rk a_on a_aw a_ro a_ws a_ah a_cl a_us a_mo a_to a_mb a_le a_rs a_rm a_nu) kw_1344 kw_1346 ks_43 kw_13 kw_1347 (by decide +kernel) ⟨Nat.le_of_ble_eq_true rfl, Nat.le_of_ble_eq_true rfl⟩ rfl rfl rfl rfl hl.1 (Nat.le_of_ble_eq_true rfl) dX12_wall_50 ⟨Nat.le_of_ble_eq_true rfl, Nat.le_of_ble_eq_true rfl⟩) (fun u H locs hw hP hD hS => ?_)
      obtain ⟨rfl⟩ := hw
      have hP : va_P D cls [(a_al, .inl (cI, 3906, .inl plc)), (a_fr, .inl (cI, 1302, .inl plc)), (h0, .inr (12, [.int 0, .ref a_al, .ref a_hi, .ref a_mt, .ref a_fr, .int 0, .int 0, .int 0, .int 0, .int 22, .int 0, .int 0, .int 0, .int 0, .int (-1), .ref a_rk, .int 0, .ref a_on, .ref a_aw, .ref a_ro, .int 0, .ref a_ws, .ref a_ah, .int 0, .int 0, .int 0, .ref a_cl, .ref a_us, .ref a_mo, .ref a_to, .ref a_mb, .ref a_le, .int 0, .ref a_rs, .ref a_rm, .ref a_nu]))] H := hP
      have hD : va_D A [(a_al, .inl (cI, 3906, .inl plc)), (a_fr, .inl (cI, 1302, .inl plc)), (h0, .inr (12, [.int 0, .ref a_al, .ref a_hi, .ref a_mt, .ref a_fr, .int 0, .int 0, .int 0, .int 0, .int 22, .int 0, .int 0, .int 0, .int 0, .int (-1), .ref a_rk, .int 0, .ref a_on, .ref a_aw, .ref a_ro, .int 0, .ref a_ws, .ref a_ah, .int 0, .int 0, .int 0, .ref a_cl, .ref a_us, .ref a_mo, .ref a_to, .ref a_mb, .ref a_le, .int 0, .ref a_rs, .ref a_rm, .ref a_nu]))] := hD
      refine W.widen (k := 0) (n := 0) (Nat.le_of_ble_eq_true rfl) (Nat.le_of_ble_eq_true rfl) ?_
      refine lv_aload_n hx hb dX12_wall_53 rfl (lv_at hl 0 rfl) ?_
      refine va_get (D := D) (ci := 12) (v := .int 0) (C := RX12) (T := TX12) (N := 36) hx hb hts uX12 hown hkb.1 hP 2 rfl rfl 11 (by decide) (hts _ kw_1234) (fun _ h9 => h9) rfl dX12_wall_54 ?_
      refine lv_if_ne (tgt := 100) hx hb dX12_wall_57 (by decide) (fun c_6 => absurd c_6 (by decide)) (fun _ => ?_)
      refine lv_aload_n hx hb dX12_wall_60 rfl (lv_at hl 0 rfl) ?_
      refine va_get (D := D) (ci := 12) (v := .int 22) (C := RX12) (T := TX12) (N := 36) hx hb hts uX12 hown hkb.1 hP 2 rfl rfl 9 (by decide) (hts _ kw_1232) (fun _ h9 => h9) rfl dX12_wall_61 ?_
      refine lv_bipush (v := 22) hx hb dX12_wall_64 (by decide) ?_
      refine lv_icmp_eq (tgt := 100) hx hb dX12_wall_66 (by decide) (fun _ => ?_) (fun c_7 => absurd c_7 (by decide))
      refine lv_aload_n hx hb dX12_wall_100 rfl (lv_at hl 0 rfl) ?_
      refine lv_aload_n hx hb dX12_wall_101 rfl (lv_at hl 0 rfl) ?_
      refine va_get (D := D) (ci := 12) (v := .int 0) (C := RX12) (T := TX12) (N := 36) hx hb hts uX12 hown hkb.1 hP 2 rfl rfl 11 (by decide) (hts _ kw_1234) (fun _ h9 => h9) rfl dX12_wall_102 ?_
      refine va_put (D := D) (ci := 12) (v := .int 0) (ty := tyX12 13) (C := RX12) (T := TX12) (N := 36) hx hb hts uX12 tyX12 tyX12_ok nmX12 hown hkb.1 hP hD hS 2 rfl rfl 13 (by decide) (hts _ kw_1236) (fun _ h9 => h9) rfl (tyX12_ok 13 (by decide)) rfl rfl (Nat.le_of_ble_eq_true rfl) dX12_wall_105 (fun H locs hP hD hS => ?_)
      have hP : va_P D cls [(a_al, .inl (cI, 3906, .inl plc)), (a_fr, .inl (cI, 1302, .inl plc)), (h0, .inr (12, [.int 0, .ref a_al, .ref a_hi, .ref a_mt, .ref a_fr, .int 0, .int 0, .int 0, .int 0, .int 22, .int 0, .int 0, .int 0, .int 0, .int (-1), .ref a_rk, .int 0, .ref a_on, .ref a_aw, .ref a_ro, .int 0, .ref a_ws, .ref a_ah, .int 0, .int 0, .int 0, .ref a_cl, .ref a_us, .ref a_mo, .ref a_to, .ref a_mb, .ref a_le, .int 0, .ref a_rs, .ref a_rm, .ref a_nu]))] H := hP
      have hD : va_D A [(a_al, .inl (cI, 3906, .inl plc)), (a_fr, .inl (cI, 1302, .inl plc)), (h0, .inr (12, [.int 0, .ref a_al, .ref a_hi, .ref a_mt, .ref a_fr, .int 0, .int 0, .int 0, .int 0, .int 22, .int 0, .int 0, .int 0, .int 0, .int (-1), .ref a_rk, .int 0, .ref a_on, .ref a_aw, .ref a_ro, .int 0, .ref a_ws, .ref a_ah, .int 0, .int 0, .int 0, .ref a_cl, .ref a_us, .ref a_mo, .ref a_to, .ref a_mb, .ref a_le, .int 0, .ref a_rs, .ref a_rm, .ref a_nu]))] := hD
      refine lv_aload_n hx hb dX12_wall_108 rfl (lv_at hl 0 rfl) ?_
      refine lv_aload_n hx hb dX12_wall_109 rfl (lv_at hl 0 rfl) ?_
      refine va_get (D := D) (ci := 12) (v := .int 0) (C := RX12) (T := TX12) (N := 36) hx hb hts uX12 hown hkb.1 hP 2 rfl rfl 11 (by decide) (hts _ kw_1234) (fun _ h9 => h9) rfl dX12_wall_110 ?_
      refine lv_if_ne (tgt := 120) hx hb dX12_wall_113 (by decide) (fun c_8 => absurd c_8 (by decide)) (fun _ => ?_)
      refine lv_iconst (v := (-1)) hx hb dX12_wall_116 (by decide) ?_
      refine lv_goto (tgt := 124) hx hb dX12_wall_117 (by decide) ?_
      refine va_put (D := D) (ci := 12) (v := .int (-1)) (ty := tyX12 14) (C := RX12) (T := TX12) (N := 36) hx hb hts uX12 tyX12 tyX12_ok nmX12 hown hkb.1 hP hD hS 2 rfl rfl 14 (by decide) (hts _ kw_1237) (fun _ h9 => h9) rfl (tyX12_ok 14 (by decide)) rfl rfl (Nat.le_of_ble_eq_true rfl) dX12_wall_124 (fun H locs hP hD hS => ?_)
      have hP : va_P D cls [(a_al, .inl (cI, 3906, .inl plc)), (a_fr, .inl (cI, 1302, .inl plc)), (h0, .inr (12, [.int 0, .ref a_al, .ref a_hi, .ref a_mt, .ref a_fr, .int 0, .int 0, .int 0, .int 0, .int 22, .int 0, .int 0, .int 0, .int 0, .int (-1), .ref a_rk, .int 0, .ref a_on, .ref a_aw, .ref a_ro, .int 0, .ref a_ws, .ref a_ah, .int 0, .int 0, .int 0, .ref a_cl, .ref a_us, .ref a_mo, .ref a_to, .ref a_mb, .ref a_le, .int 0, .ref a_rs, .ref a_rm, .ref a_nu]))] H := hP
      have hD : va_D A [(a_al, .inl (cI, 3906, .inl plc)), (a_fr, .inl (cI, 1302, .inl plc)), (h0, .inr (12, [.int 0, .ref a_al, .ref a_hi, .ref a_mt, .ref a_fr, .int 0, .int 0, .int 0, .int 0, .int 22, .int 0, .int 0, .int 0, .int 0, .int (-1), .ref a_rk, .int 0, .ref a_on, .ref a_aw, .ref a_ro, .int 0, .ref a_ws, .ref a_ah, .int 0, .int 0, .int 0, .ref a_cl, .ref a_us, .ref a_mo, .ref a_to, .ref a_mb, .ref a_le, .int 0, .ref a_rs, .ref a_rm, .ref a_nu]))] := hD
      refine lv_aload_n hx hb dX12_wall_127 rfl (lv_at hl 0 rfl) ?_
      refine va_get (D := D) (ci := 12) (v := .int 0) (C := RX12) (T := TX12) (N := 36) hx hb hts uX12 hown hkb.1 hP 2 rfl rfl 11 (by decide) (hts _ kw_1234) (fun _ h9 => h9) rfl dX12_wall_128 ?_
      refine lv_if_eq (tgt := 142) hx hb dX12_wall_131 (by decide) (fun _ => ?_) (fun c_9 => absurd c_9 (by decide))
      refine lv_iconst (v := 0) hx hb dX12_wall_142 (by decide) ?_
      refine lv_istore_n (lv' := [(2, .int 0), (0, .ref h0), (1, .int 0)]) hx hb dX12_wall_143 rfl hl (by decide) rfl (fun ls hl => ?_)
      have lp_14 : ∀ (n_10 k_11 : Nat) (x_12 : Int32) (f_15 : Nat → Int32) (H : Heap) (locs : List Loc) (ls : Array Slot), k_11 + n_10 = 1302 → x_12 = nI k_11 → (∀ j : Nat, j < k_11 → f_15 j = plc j) → va_P D cls [(a_al, .inl (cI, 3906, .inl f_15)), (a_fr, .inl (cI, 1302, .inl plc)), (h0, .inr (12, [.int 0, .ref a_al, .ref a_hi, .ref a_mt, .ref a_fr, .int 0, .int 0, .int 0, .int 0, .int 22, .int 0, .int 0, .int 0, .int 0, .int (-1), .ref a_rk, .int 0, .ref a_on, .ref a_aw, .ref a_ro, .int 0, .ref a_ws, .ref a_ah, .int 0, .int 0, .int 0, .ref a_cl, .ref a_us, .ref a_mo, .ref a_to, .ref a_mb, .ref a_le, .int 0, .ref a_rs, .ref a_rm, .ref a_nu]))] H → va_D A [(a_al, .inl (cI, 3906, .inl f_15)), (a_fr, .inl (cI, 1302, .inl plc)), (h0, .inr (12, [.int 0, .ref a_al, .ref a_hi, .ref a_mt, .ref a_fr, .int 0, .int 0, .int 0, .int 0, .int 22, .int 0, .int 0, .int 0, .int 0, .int (-1), .ref a_rk, .int 0, .ref a_on, .ref a_aw, .ref a_ro, .int 0, .ref a_ws, .ref a_ah, .int 0, .int 0, .int 0, .ref a_cl, .ref a_us, .ref a_mo, .ref a_to, .ref a_mb, .ref a_le, .int 0, .ref a_rs, .ref a_rm, .ref a_nu]))] → va_S A s.heap H locs → lv_has ls 3 [(2, .int x_12), (0, .ref h0), (1, .int 0)] → W p l e { frames := 2, cells := 0, slots := 0, locals := 42 } s m [.ref h0, .int 0].toArray below meth c H locs 0 0 (MQ below (Qi D (fun r u => r = F_wall 0 ∧ u = []) A) [.ref h0, .int 0].toArray s 0 0 A) (F0 m 144 ls []) := by
        intro n_10
        induction n_10 with
        | zero =>
          intro k_11 x_12 f_15 H locs ls hk_13 hx_12 hi_16 hP hD hS hl
          have hzx_12 : x_12.toInt = (k_11 : Int) := by rw [hx_12]; exact nI_toInt (by omega)
          refine lv_iload_n hx hb dX12_wall_144 rfl (lv_at hl 0 rfl) ?_
          refine lv_sipush (v := 1302) hx hb dX12_wall_145 (by decide) ?_
          refine lv_icmp_ge (tgt := 169) hx hb dX12_wall_148 (by decide) (fun _ => ?_) (fun c_17 => by exfalso; have tc_17 := f_nge (k := 1302) (by decide) c_17; omega)
          refine lv_iconst (v := 0) hx hb dX12_wall_169 (by decide) ?_
          refine lv_istore_n (lv' := [(2, .int 0), (0, .ref h0), (1, .int 0)]) hx hb dX12_wall_170 rfl hl (by decide) rfl (fun ls hl => ?_)
          refine lv_iload_n hx hb dX12_wall_171 rfl (lv_at hl 0 rfl) ?_
          refine lv_aload_n hx hb dX12_wall_172 rfl (lv_at hl 1 rfl) ?_
          refine va_get (D := D) (ci := 12) (v := .ref a_al) (C := RX12) (T := TX12) (N := 36) hx hb hts uX12 hown hkb.1 hP 2 rfl rfl 1 (by decide) (hts _ kw_1224) (fun _ h9 => h9) rfl dX12_wall_173 ?_
          refine lv_iconst (v := 1) hx hb dX12_wall_176 (by decide) ?_
          refine va_iald hx hb hkb.1 hP 0 1 rfl rfl (in_c (by decide +kernel)) dX12_wall_177 ?_
          refine lv_topc (y := 0) (hi_16 1 (by omega)) ?_
          refine lv_icmp_ge (tgt := 216) hx hb dX12_wall_178 (by decide) (fun _ => ?_) (fun c_18 => absurd c_18 (by decide))
          refine lv_aload_n hx hb dX12_wall_216 rfl (lv_at hl 1 rfl) ?_
          refine va_get (D := D) (ci := 12) (v := .ref a_al) (C := RX12) (T := TX12) (N := 36) hx hb hts uX12 hown hkb.1 hP 2 rfl rfl 1 (by decide) (hts _ kw_1224) (fun _ h9 => h9) rfl dX12_wall_217 ?_
          refine lv_iconst (v := 0) hx hb dX12_wall_220 (by decide) ?_
          refine va_iald hx hb hkb.1 hP 0 1 rfl rfl (in_c (by decide +kernel)) dX12_wall_221 ?_
          refine lv_topc (y := 0) (hi_16 0 (by omega)) ?_
          refine W.widen (k := 0) (n := 0) (Nat.le_of_ble_eq_true rfl) (Nat.le_of_ble_eq_true rfl) ?_
          exact e_i (u := []) hx hb hr hlocks (hP.sub (ws' := []) [] rfl) (hD.sub (ws' := []) [] (by decide) rfl) hS ⟨(by unfold F_wall; (repeat' split) <;> first | rfl | (exfalso; omega)), rfl⟩ dX12_wall_222
        | succ n_10 ih =>
          intro k_11 x_12 f_15 H locs ls hk_13 hx_12 hi_16 hP hD hS hl
          have hzx_12 : x_12.toInt = (k_11 : Int) := by rw [hx_12]; exact nI_toInt (by omega)
          refine lv_iload_n hx hb dX12_wall_144 rfl (lv_at hl 0 rfl) ?_
          refine lv_sipush (v := 1302) hx hb dX12_wall_145 (by decide) ?_
          refine lv_icmp_ge (tgt := 169) hx hb dX12_wall_148 (by decide) (fun c_19 => by exfalso; have tc_19 := f_ge (k := 1302) (by decide) c_19; omega) (fun _ => ?_)
          refine lv_aload_n hx hb dX12_wall_151 rfl (lv_at hl 1 rfl) ?_
          refine va_get (D := D) (ci := 12) (v := .ref a_al) (C := RX12) (T := TX12) (N := 36) hx hb hts uX12 hown hkb.1 hP 2 rfl rfl 1 (by decide) (hts _ kw_1224) (fun _ h9 => h9) rfl dX12_wall_152 ?_
          refine lv_iload_n hx hb dX12_wall_155 rfl (lv_at hl 0 rfl) ?_
          refine lv_aload_n hx hb dX12_wall_156 rfl (lv_at hl 1 rfl) ?_
          refine va_get (D := D) (ci := 12) (v := .ref a_fr) (C := RX12) (T := TX12) (N := 36) hx hb hts uX12 hown hkb.1 hP 2 rfl rfl 4 (by decide) (hts _ kw_1227) (fun _ h9 => h9) rfl dX12_wall_157 ?_
          refine lv_iload_n hx hb dX12_wall_160 rfl (lv_at hl 0 rfl) ?_
          refine va_iald hx hb hkb.1 hP 1 1 rfl rfl (in_k hx_12 (by omega) (by decide)) dX12_wall_161 ?_
          refine lv_topi (fun v_20 ev_20 => ?_)
          refine s_i 0 1 hx hb hkb.1 hP hD hS rfl rfl (in_k hx_12 (by omega) (by decide)) k_11 (by rw [hx_12]; exact nI_clamp (by omega)) dX12_wall_162 (fun H locs hP hD hS => ?_)
          have hP : va_P D cls [(a_al, .inl (cI, 3906, .inl (upd f_15 k_11 v_20))), (a_fr, .inl (cI, 1302, .inl plc)), (h0, .inr (12, [.int 0, .ref a_al, .ref a_hi, .ref a_mt, .ref a_fr, .int 0, .int 0, .int 0, .int 0, .int 22, .int 0, .int 0, .int 0, .int 0, .int (-1), .ref a_rk, .int 0, .ref a_on, .ref a_aw, .ref a_ro, .int 0, .ref a_ws, .ref a_ah, .int 0, .int 0, .int 0, .ref a_cl, .ref a_us, .ref a_mo, .ref a_to, .ref a_mb, .ref a_le, .int 0, .ref a_rs, .ref a_rm, .ref a_nu]))] H := hP
          have hD : va_D A [(a_al, .inl (cI, 3906, .inl (upd f_15 k_11 v_20))), (a_fr, .inl (cI, 1302, .inl plc)), (h0, .inr (12, [.int 0, .ref a_al, .ref a_hi, .ref a_mt, .ref a_fr, .int 0, .int 0, .int 0, .int 0, .int 22, .int 0, .int 0, .int 0, .int 0, .int (-1), .ref a_rk, .int 0, .ref a_on, .ref a_aw, .ref a_ro, .int 0, .ref a_ws, .ref a_ah, .int 0, .int 0, .int 0, .ref a_cl, .ref a_us, .ref a_mo, .ref a_to, .ref a_mb, .ref a_le, .int 0, .ref a_rs, .ref a_rm, .ref a_nu]))] := hD
          obtain ⟨v_21, ev_21⟩ : ∃ y : Int32, y = x_12 + 1 := ⟨_, rfl⟩
          refine lv_iinc (v := v_21) (lv' := [(2, .int v_21), (0, .ref h0), (1, .int 0)]) hx hb dX12_wall_163 hl (k := 0) rfl (by rw [ev_21]; rfl) (by decide) rfl (fun ls hl => ?_)
          refine lv_goto (tgt := 144) hx hb dX12_wall_166 (by decide) ?_
          exact ih (k_11 + 1) v_21 (upd f_15 k_11 v_20) _ _ _ (by omega) (by rw [ev_21, hx_12]; exact nI_1 k_11) (fun j hj => by unfold upd; by_cases q : j = k_11; (rw [if_pos q, ev_20, hx_12, nI_clamp (by omega), q]); (rw [if_neg q]; exact hi_16 j (by omega))) (hP.sub (ws' := [(a_al, .inl (cI, 3906, .inl (upd f_15 k_11 v_20))), (a_fr, .inl (cI, 1302, .inl plc)), (h0, .inr (12, [.int 0, .ref a_al, .ref a_hi, .ref a_mt, .ref a_fr, .int 0, .int 0, .int 0, .int 0, .int 22, .int 0, .int 0, .int 0, .int 0, .int (-1), .ref a_rk, .int 0, .ref a_on, .ref a_aw, .ref a_ro, .int 0, .ref a_ws, .ref a_ah, .int 0, .int 0, .int 0, .ref a_cl, .ref a_us, .ref a_mo, .ref a_to, .ref a_mb, .ref a_le, .int 0, .ref a_rs, .ref a_rm, .ref a_nu]))]) [0, 1, 2] rfl) (hD.sub (ws' := [(a_al, .inl (cI, 3906, .inl (upd f_15 k_11 v_20))), (a_fr, .inl (cI, 1302, .inl plc)), (h0, .inr (12, [.int 0, .ref a_al, .ref a_hi, .ref a_mt, .ref a_fr, .int 0, .int 0, .int 0, .int 0, .int 22, .int 0, .int 0, .int 0, .int 0, .int (-1), .ref a_rk, .int 0, .ref a_on, .ref a_aw, .ref a_ro, .int 0, .ref a_ws, .ref a_ah, .int 0, .int 0, .int 0, .ref a_cl, .ref a_us, .ref a_mo, .ref a_to, .ref a_mb, .ref a_le, .int 0, .ref a_rs, .ref a_rm, .ref a_nu]))]) [0, 1, 2] (by decide) rfl) hS (lv_sub hl [0, 1, 2] rfl)
      exact lp_14 1302 0 0 plc _ _ _ (by rfl) nI_0.symm (fun _ h => absurd h (Nat.not_lt_zero _)) (hP) (hD) hS (lv_sub hl [0, 1, 2] rfl)
    have tc_3 := f_ne (k := 0) (by decide) c_3
    exfalso; omega
  · skip
    have tc_2 := wi_0 (a := 0) (b := 0) (by decide) (by decide) c_2
    refine lv_bipush (v := (-3)) hx hb dX12_wall_19 (by decide) ?_
    refine W.widen (k := 0) (n := 0) (Nat.le_of_ble_eq_true rfl) (Nat.le_of_ble_eq_true rfl) ?_
    exact e_i (u := []) hx hb hr hlocks (hP.sub (ws' := []) [] rfl) (hD.sub (ws' := []) [] (by decide) rfl) hS ⟨(by unfold F_wall; (repeat' split) <;> first | rfl | (exfalso; omega)), rfl⟩ dX12_wall_21
