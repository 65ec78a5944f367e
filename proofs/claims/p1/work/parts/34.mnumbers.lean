set_option maxHeartbeats 4000000 in
set_option maxRecDepth 100000 in
theorem y_numbers (l : Launch) (D : va_G) (cB cI cJ cZ cS cW cT cR : ClassId) (h0 : Nat) (a_rs : Nat) (a_rm : Nat) (a_nu : Nat) (i_0 : Int32) (i_1 : Int32) (i_2 : Int32) (a_al : Nat) (a_hi : Nat) (a_mt : Nat) (a_fr : Nat) (a_rk : Nat) (a_on : Nat) (a_aw : Nat) (a_ro : Nat) (a_ws : Nat) (a_ah : Nat) (a_cl : Nat) (a_us : Nat) (a_mo : Nat) (a_to : Nat) (a_mb : Nat) (a_le : Nat) (g_nu : Nat → Int64) : Kon l D (tyl cB cI cJ cZ cS cW cT cR) yX12_numbers cX12_numbers 5 (some (.int)) { frames := 1, cells := 0, slots := 0, locals := 25 } [.ref h0, .int i_0, .int i_1, .int i_2] [(h0, .inr (12, [.int 0, .ref a_al, .ref a_hi, .ref a_mt, .ref a_fr, .int 0, .int 0, .int 0, .int 0, .int 0, .int 0, .int 0, .int 0, .int 0, .int (-1), .ref a_rk, .int 0, .ref a_on, .ref a_aw, .ref a_ro, .int 0, .ref a_ws, .ref a_ah, .int 0, .int 0, .int 0, .ref a_cl, .ref a_us, .ref a_mo, .ref a_to, .ref a_mb, .ref a_le, .int 0, .ref a_rs, .ref a_rm, .ref a_nu])), (a_rs, .inl (cI, 4, .inl rs4)), (a_rm, .inl (cI, 4, .inl (fun _ => 0))), (a_nu, .inl (cJ, 160, .inr (.inl g_nu)))] (Qi D (fun r u => r = F_numbers i_0 i_1 i_2 ∧ u = [])) := by
  refine kon_of (by decide) (Nat.le_of_ble_eq_true rfl) (fun p e s m below meth c ls A hx hb hr hml hown hts hlocks hnm hkb hP hD hS hA hl => ?_)
  have hown : s.vm.findClass RX12 = some m.cls := hown
  have hl : lv_has ls 5 [(0, .ref h0), (1, .int i_0), (2, .int i_1), (3, .int i_2)] := hl
  have hP : va_P D cls [(h0, .inr (12, [.int 0, .ref a_al, .ref a_hi, .ref a_mt, .ref a_fr, .int 0, .int 0, .int 0, .int 0, .int 0, .int 0, .int 0, .int 0, .int 0, .int (-1), .ref a_rk, .int 0, .ref a_on, .ref a_aw, .ref a_ro, .int 0, .ref a_ws, .ref a_ah, .int 0, .int 0, .int 0, .ref a_cl, .ref a_us, .ref a_mo, .ref a_to, .ref a_mb, .ref a_le, .int 0, .ref a_rs, .ref a_rm, .ref a_nu])), (a_rs, .inl (cI, 4, .inl rs4)), (a_rm, .inl (cI, 4, .inl (fun _ => 0))), (a_nu, .inl (cJ, 160, .inr (.inl g_nu)))] s.heap := hP
  refine lv_aload_n hx hb dX12_numbers_0 rfl (lv_at hl 0 rfl) ?_
  refine lv_iconst (v := 0) hx hb dX12_numbers_1 (by decide) ?_
  refine va_put (D := D) (ci := 12) (v := .int 0) (ty := tyX12 0) (C := RX12) (T := TX12) (N := 36) hx hb hts uX12 tyX12 tyX12_ok nmX12 hown hkb.1 hP hD hS 0 rfl rfl 0 (by decide) (hts _ kw_1223) (fun _ h9 => h9) rfl (tyX12_ok 0 (by decide)) rfl rfl (Nat.le_of_ble_eq_true rfl) dX12_numbers_2 (fun H locs hP hD hS => ?_)
  have hP : va_P D cls [(h0, .inr (12, [.int 0, .ref a_al, .ref a_hi, .ref a_mt, .ref a_fr, .int 0, .int 0, .int 0, .int 0, .int 0, .int 0, .int 0, .int 0, .int 0, .int (-1), .ref a_rk, .int 0, .ref a_on, .ref a_aw, .ref a_ro, .int 0, .ref a_ws, .ref a_ah, .int 0, .int 0, .int 0, .ref a_cl, .ref a_us, .ref a_mo, .ref a_to, .ref a_mb, .ref a_le, .int 0, .ref a_rs, .ref a_rm, .ref a_nu])), (a_rs, .inl (cI, 4, .inl rs4)), (a_rm, .inl (cI, 4, .inl (fun _ => 0))), (a_nu, .inl (cJ, 160, .inr (.inl g_nu)))] H := hP
  have hD : va_D A [(h0, .inr (12, [.int 0, .ref a_al, .ref a_hi, .ref a_mt, .ref a_fr, .int 0, .int 0, .int 0, .int 0, .int 0, .int 0, .int 0, .int 0, .int 0, .int (-1), .ref a_rk, .int 0, .ref a_on, .ref a_aw, .ref a_ro, .int 0, .ref a_ws, .ref a_ah, .int 0, .int 0, .int 0, .ref a_cl, .ref a_us, .ref a_mo, .ref a_to, .ref a_mb, .ref a_le, .int 0, .ref a_rs, .ref a_rm, .ref a_nu])), (a_rs, .inl (cI, 4, .inl rs4)), (a_rm, .inl (cI, 4, .inl (fun _ => 0))), (a_nu, .inl (cJ, 160, .inr (.inl g_nu)))] := hD
  refine lv_iload_n hx hb dX12_numbers_5 rfl (lv_at hl 1 rfl) ?_
  refine lv_i2l hx hb dX12_numbers_6 rfl ?_
  refine lv_lconst (v := 0) hx hb dX12_numbers_7 (by decide) ?_
  refine lv_ldc2 hx hb hown (hts _ kw_1527) dX12_numbers_8 ?_
  have hPc := hP.sub (ws' := []) [] rfl
  have hDc := hD.sub (ws' := []) [] (by decide) rfl
  refine k_i (wc := []) (wr := [(h0, .inr (12, [.int 0, .ref a_al, .ref a_hi, .ref a_mt, .ref a_fr, .int 0, .int 0, .int 0, .int 0, .int 0, .int 0, .int 0, .int 0, .int 0, .int (-1), .ref a_rk, .int 0, .ref a_on, .ref a_aw, .ref a_ro, .int 0, .ref a_ws, .ref a_ah, .int 0, .int 0, .int 0, .ref a_cl, .ref a_us, .ref a_mo, .ref a_to, .ref a_mb, .ref a_le, .int 0, .ref a_rs, .ref a_rm, .ref a_nu])), (a_rs, .inl (cI, 4, .inl rs4)), (a_rm, .inl (cI, 4, .inl (fun _ => 0))), (a_nu, .inl (cJ, 160, .inr (.inl g_nu)))]) hP hD hS hA [] [0, 1, 2, 3] rfl rfl rfl (by decide) (r_S (n := 3) (As := [.long i_0.toInt64, .long 0, .long 3]) hx hb hml hown hts hkb hPc hDc (c_within l D cB cI cJ cZ cS cW cT cR i_0.toInt64 0 3) kw_1341 kw_1342 kw_13 kw_1343 (by decide +kernel) ⟨Nat.le_of_ble_eq_true rfl, Nat.le_of_ble_eq_true rfl⟩ rfl rfl hl.1 (Nat.le_of_ble_eq_true rfl) dX12_numbers_11 ⟨Nat.le_of_ble_eq_true rfl, Nat.le_of_ble_eq_true rfl⟩) (fun r_1 u H locs hw hP hD hS => ?_)
  obtain ⟨rfl, rfl⟩ := hw
  have hP : va_P D cls [(h0, .inr (12, [.int 0, .ref a_al, .ref a_hi, .ref a_mt, .ref a_fr, .int 0, .int 0, .int 0, .int 0, .int 0, .int 0, .int 0, .int 0, .int 0, .int (-1), .ref a_rk, .int 0, .ref a_on, .ref a_aw, .ref a_ro, .int 0, .ref a_ws, .ref a_ah, .int 0, .int 0, .int 0, .ref a_cl, .ref a_us, .ref a_mo, .ref a_to, .ref a_mb, .ref a_le, .int 0, .ref a_rs, .ref a_rm, .ref a_nu])), (a_rs, .inl (cI, 4, .inl rs4)), (a_rm, .inl (cI, 4, .inl (fun _ => 0))), (a_nu, .inl (cJ, 160, .inr (.inl g_nu)))] H := hP
  have hD : va_D A [(h0, .inr (12, [.int 0, .ref a_al, .ref a_hi, .ref a_mt, .ref a_fr, .int 0, .int 0, .int 0, .int 0, .int 0, .int 0, .int 0, .int 0, .int 0, .int (-1), .ref a_rk, .int 0, .ref a_on, .ref a_aw, .ref a_ro, .int 0, .ref a_ws, .ref a_ah, .int 0, .int 0, .int 0, .ref a_cl, .ref a_us, .ref a_mo, .ref a_to, .ref a_mb, .ref a_le, .int 0, .ref a_rs, .ref a_rm, .ref a_nu])), (a_rs, .inl (cI, 4, .inl rs4)), (a_rm, .inl (cI, 4, .inl (fun _ => 0))), (a_nu, .inl (cJ, 160, .inr (.inl g_nu)))] := hD
  refine W.widen (k := 0) (n := 0) (Nat.le_of_ble_eq_true rfl) (Nat.le_of_ble_eq_true rfl) ?_
  refine lv_if_eq (tgt := 29) hx hb dX12_numbers_14 (by decide) (fun c_2 => ?_) (fun c_2 => ?_)
  · skip
    have tc_2 := wi_0 (a := 0) (b := 3) (by decide) (by decide) c_2
    refine lv_bipush (v := (-2)) hx hb dX12_numbers_29 (by decide) ?_
    refine W.widen (k := 0) (n := 0) (Nat.le_of_ble_eq_true rfl) (Nat.le_of_ble_eq_true rfl) ?_
    exact e_i (u := []) hx hb hr hlocks (hP.sub (ws' := []) [] rfl) (hD.sub (ws' := []) [] (by decide) rfl) hS ⟨(by unfold F_numbers; (repeat' split) <;> first | rfl | (exfalso; omega)), rfl⟩ dX12_numbers_31
  · skip
    have tc_2 := wi_1 (a := 0) (b := 3) (by decide) (by decide) c_2
    refine lv_iload_n hx hb dX12_numbers_17 rfl (lv_at hl 2 rfl) ?_
    refine lv_i2l hx hb dX12_numbers_18 rfl ?_
    refine lv_lconst (v := 0) hx hb dX12_numbers_19 (by decide) ?_
    refine lv_ldc2 hx hb hown (hts _ kw_1527) dX12_numbers_20 ?_
    have hPc := hP.sub (ws' := []) [] rfl
    have hDc := hD.sub (ws' := []) [] (by decide) rfl
    refine k_i (wc := []) (wr := [(h0, .inr (12, [.int 0, .ref a_al, .ref a_hi, .ref a_mt, .ref a_fr, .int 0, .int 0, .int 0, .int 0, .int 0, .int 0, .int 0, .int 0, .int 0, .int (-1), .ref a_rk, .int 0, .ref a_on, .ref a_aw, .ref a_ro, .int 0, .ref a_ws, .ref a_ah, .int 0, .int 0, .int 0, .ref a_cl, .ref a_us, .ref a_mo, .ref a_to, .ref a_mb, .ref a_le, .int 0, .ref a_rs, .ref a_rm, .ref a_nu])), (a_rs, .inl (cI, 4, .inl rs4)), (a_rm, .inl (cI, 4, .inl (fun _ => 0))), (a_nu, .inl (cJ, 160, .inr (.inl g_nu)))]) hP hD hS hA [] [0, 1, 2, 3] rfl rfl rfl (by decide) (r_S (n := 3) (As := [.long i_1.toInt64, .long 0, .long 3]) hx hb hml hown hts hkb hPc hDc (c_within l D cB cI cJ cZ cS cW cT cR i_1.toInt64 0 3) kw_1341 kw_1342 kw_13 kw_1343 (by decide +kernel) ⟨Nat.le_of_ble_eq_true rfl, Nat.le_of_ble_eq_true rfl⟩ rfl rfl hl.1 (Nat.le_of_ble_eq_true rfl) dX12_numbers_23 ⟨Nat.le_of_ble_eq_true rfl, Nat.le_of_ble_eq_true rfl⟩) (fun r_3 u H locs hw hP hD hS => ?_)
    obtain ⟨rfl, rfl⟩ := hw
    have hP : va_P D cls [(h0, .inr (12, [.int 0, .ref a_al, .ref a_hi, .ref a_mt, .ref a_fr, .int 0, .int 0, .int 0, .int 0, .int 0, .int 0, .int 0, .int 0, .int 0, .int (-1), .ref a_rk, .int 0, .ref a_on, .ref a_aw, .ref a_ro, .int 0, .ref a_ws, .ref a_ah, .int 0, .int 0, .int 0, .ref a_cl, .ref a_us, .ref a_mo, .ref a_to, .ref a_mb, .ref a_le, .int 0, .ref a_rs, .ref a_rm, .ref a_nu])), (a_rs, .inl (cI, 4, .inl rs4)), (a_rm, .inl (cI, 4, .inl (fun _ => 0))), (a_nu, .inl (cJ, 160, .inr (.inl g_nu)))] H := hP
    have hD : va_D A [(h0, .inr (12, [.int 0, .ref a_al, .ref a_hi, .ref a_mt, .ref a_fr, .int 0, .int 0, .int 0, .int 0, .int 0, .int 0, .int 0, .int 0, .int 0, .int (-1), .ref a_rk, .int 0, .ref a_on, .ref a_aw, .ref a_ro, .int 0, .ref a_ws, .ref a_ah, .int 0, .int 0, .int 0, .ref a_cl, .ref a_us, .ref a_mo, .ref a_to, .ref a_mb, .ref a_le, .int 0, .ref a_rs, .ref a_rm, .ref a_nu])), (a_rs, .inl (cI, 4, .inl rs4)), (a_rm, .inl (cI, 4, .inl (fun _ => 0))), (a_nu, .inl (cJ, 160, .inr (.inl g_nu)))] := hD
    refine W.widen (k := 0) (n := 0) (Nat.le_of_ble_eq_true rfl) (Nat.le_of_ble_eq_true rfl) ?_
    refine lv_if_ne (tgt := 32) hx hb dX12_numbers_26 (by decide) (fun c_4 => ?_) (fun c_4 => ?_)
    · skip
      have tc_4 := wi_1 (a := 0) (b := 3) (by decide) (by decide) c_4
      refine lv_iload_n hx hb dX12_numbers_32 rfl (lv_at hl 3 rfl) ?_
      refine lv_i2l hx hb dX12_numbers_33 rfl ?_
      refine lv_lconst (v := 0) hx hb dX12_numbers_34 (by decide) ?_
      refine lv_ldc2 hx hb hown (hts _ kw_1607) dX12_numbers_35 ?_
      have hPc := hP.sub (ws' := []) [] rfl
      have hDc := hD.sub (ws' := []) [] (by decide) rfl
      refine k_i (wc := []) (wr := [(h0, .inr (12, [.int 0, .ref a_al, .ref a_hi, .ref a_mt, .ref a_fr, .int 0, .int 0, .int 0, .int 0, .int 0, .int 0, .int 0, .int 0, .int 0, .int (-1), .ref a_rk, .int 0, .ref a_on, .ref a_aw, .ref a_ro, .int 0, .ref a_ws, .ref a_ah, .int 0, .int 0, .int 0, .ref a_cl, .ref a_us, .ref a_mo, .ref a_to, .ref a_mb, .ref a_le, .int 0, .ref a_rs, .ref a_rm, .ref a_nu])), (a_rs, .inl (cI, 4, .inl rs4)), (a_rm, .inl (cI, 4, .inl (fun _ => 0))), (a_nu, .inl (cJ, 160, .inr (.inl g_nu)))]) hP hD hS hA [] [0, 1, 2, 3] rfl rfl rfl (by decide) (r_S (n := 3) (As := [.long i_2.toInt64, .long 0, .long 40]) hx hb hml hown hts hkb hPc hDc (c_within l D cB cI cJ cZ cS cW cT cR i_2.toInt64 0 40) kw_1341 kw_1342 kw_13 kw_1343 (by decide +kernel) ⟨Nat.le_of_ble_eq_true rfl, Nat.le_of_ble_eq_true rfl⟩ rfl rfl hl.1 (Nat.le_of_ble_eq_true rfl) dX12_numbers_38 ⟨Nat.le_of_ble_eq_true rfl, Nat.le_of_ble_eq_true rfl⟩) (fun r_5 u H locs hw hP hD hS => ?_)
      obtain ⟨rfl, rfl⟩ := hw
      have hP : va_P D cls [(h0, .inr (12, [.int 0, .ref a_al, .ref a_hi, .ref a_mt, .ref a_fr, .int 0, .int 0, .int 0, .int 0, .int 0, .int 0, .int 0, .int 0, .int 0, .int (-1), .ref a_rk, .int 0, .ref a_on, .ref a_aw, .ref a_ro, .int 0, .ref a_ws, .ref a_ah, .int 0, .int 0, .int 0, .ref a_cl, .ref a_us, .ref a_mo, .ref a_to, .ref a_mb, .ref a_le, .int 0, .ref a_rs, .ref a_rm, .ref a_nu])), (a_rs, .inl (cI, 4, .inl rs4)), (a_rm, .inl (cI, 4, .inl (fun _ => 0))), (a_nu, .inl (cJ, 160, .inr (.inl g_nu)))] H := hP
      have hD : va_D A [(h0, .inr (12, [.int 0, .ref a_al, .ref a_hi, .ref a_mt, .ref a_fr, .int 0, .int 0, .int 0, .int 0, .int 0, .int 0, .int 0, .int 0, .int 0, .int (-1), .ref a_rk, .int 0, .ref a_on, .ref a_aw, .ref a_ro, .int 0, .ref a_ws, .ref a_ah, .int 0, .int 0, .int 0, .ref a_cl, .ref a_us, .ref a_mo, .ref a_to, .ref a_mb, .ref a_le, .int 0, .ref a_rs, .ref a_rm, .ref a_nu])), (a_rs, .inl (cI, 4, .inl rs4)), (a_rm, .inl (cI, 4, .inl (fun _ => 0))), (a_nu, .inl (cJ, 160, .inr (.inl g_nu)))] := hD
      refine W.widen (k := 0) (n := 0) (Nat.le_of_ble_eq_true rfl) (Nat.le_of_ble_eq_true rfl) ?_
      refine lv_if_ne (tgt := 47) hx hb dX12_numbers_41 (by decide) (fun c_6 => ?_) (fun c_6 => ?_)
      · skip
        have tc_6 := wi_1 (a := 0) (b := 40) (by decide) (by decide) c_6
        refine lv_aload_n hx hb dX12_numbers_47 rfl (lv_at hl 0 rfl) ?_
        refine va_get (D := D) (ci := 12) (v := .ref a_rs) (C := RX12) (T := TX12) (N := 36) hx hb hts uX12 hown hkb.1 hP 0 rfl rfl 33 (by decide) (hts _ kw_1256) (fun _ h9 => h9) rfl dX12_numbers_48 ?_
        refine lv_iload_n hx hb dX12_numbers_51 rfl (lv_at hl 1 rfl) ?_
        refine lv_iload_n hx hb dX12_numbers_52 rfl (lv_at hl 2 rfl) ?_
        refine s_i 1 1 hx hb hkb.1 hP hD hS rfl rfl (in_t (by omega) (by omega)) (Int32.toNatClampNeg i_0) (rfl) dX12_numbers_53 (fun H locs hP hD hS => ?_)
        have hP : va_P D cls [(h0, .inr (12, [.int 0, .ref a_al, .ref a_hi, .ref a_mt, .ref a_fr, .int 0, .int 0, .int 0, .int 0, .int 0, .int 0, .int 0, .int 0, .int 0, .int (-1), .ref a_rk, .int 0, .ref a_on, .ref a_aw, .ref a_ro, .int 0, .ref a_ws, .ref a_ah, .int 0, .int 0, .int 0, .ref a_cl, .ref a_us, .ref a_mo, .ref a_to, .ref a_mb, .ref a_le, .int 0, .ref a_rs, .ref a_rm, .ref a_nu])), (a_rs, .inl (cI, 4, .inl (upd rs4 (Int32.toNatClampNeg i_0) i_1))), (a_rm, .inl (cI, 4, .inl (fun _ => 0))), (a_nu, .inl (cJ, 160, .inr (.inl g_nu)))] H := hP
        have hD : va_D A [(h0, .inr (12, [.int 0, .ref a_al, .ref a_hi, .ref a_mt, .ref a_fr, .int 0, .int 0, .int 0, .int 0, .int 0, .int 0, .int 0, .int 0, .int 0, .int (-1), .ref a_rk, .int 0, .ref a_on, .ref a_aw, .ref a_ro, .int 0, .ref a_ws, .ref a_ah, .int 0, .int 0, .int 0, .ref a_cl, .ref a_us, .ref a_mo, .ref a_to, .ref a_mb, .ref a_le, .int 0, .ref a_rs, .ref a_rm, .ref a_nu])), (a_rs, .inl (cI, 4, .inl (upd rs4 (Int32.toNatClampNeg i_0) i_1))), (a_rm, .inl (cI, 4, .inl (fun _ => 0))), (a_nu, .inl (cJ, 160, .inr (.inl g_nu)))] := hD
        generalize hq9 : upd rs4 (Int32.toNatClampNeg i_0) i_1 = f_7 at hP hD; clear hq9
        have hP : va_P D cls [(h0, .inr (12, [.int 0, .ref a_al, .ref a_hi, .ref a_mt, .ref a_fr, .int 0, .int 0, .int 0, .int 0, .int 0, .int 0, .int 0, .int 0, .int 0, .int (-1), .ref a_rk, .int 0, .ref a_on, .ref a_aw, .ref a_ro, .int 0, .ref a_ws, .ref a_ah, .int 0, .int 0, .int 0, .ref a_cl, .ref a_us, .ref a_mo, .ref a_to, .ref a_mb, .ref a_le, .int 0, .ref a_rs, .ref a_rm, .ref a_nu])), (a_rs, .inl (cI, 4, .inl f_7)), (a_rm, .inl (cI, 4, .inl (fun _ => 0))), (a_nu, .inl (cJ, 160, .inr (.inl g_nu)))] H := hP
        have hD : va_D A [(h0, .inr (12, [.int 0, .ref a_al, .ref a_hi, .ref a_mt, .ref a_fr, .int 0, .int 0, .int 0, .int 0, .int 0, .int 0, .int 0, .int 0, .int 0, .int (-1), .ref a_rk, .int 0, .ref a_on, .ref a_aw, .ref a_ro, .int 0, .ref a_ws, .ref a_ah, .int 0, .int 0, .int 0, .ref a_cl, .ref a_us, .ref a_mo, .ref a_to, .ref a_mb, .ref a_le, .int 0, .ref a_rs, .ref a_rm, .ref a_nu])), (a_rs, .inl (cI, 4, .inl f_7)), (a_rm, .inl (cI, 4, .inl (fun _ => 0))), (a_nu, .inl (cJ, 160, .inr (.inl g_nu)))] := hD
        refine lv_aload_n hx hb dX12_numbers_54 rfl (lv_at hl 0 rfl) ?_
        refine va_get (D := D) (ci := 12) (v := .ref a_rm) (C := RX12) (T := TX12) (N := 36) hx hb hts uX12 hown hkb.1 hP 0 rfl rfl 34 (by decide) (hts _ kw_1257) (fun _ h9 => h9) rfl dX12_numbers_55 ?_
        refine lv_iload_n hx hb dX12_numbers_58 rfl (lv_at hl 1 rfl) ?_
        refine lv_iload_n hx hb dX12_numbers_59 rfl (lv_at hl 3 rfl) ?_
        refine s_i 2 1 hx hb hkb.1 hP hD hS rfl rfl (in_t (by omega) (by omega)) (Int32.toNatClampNeg i_0) (rfl) dX12_numbers_60 (fun H locs hP hD hS => ?_)
        have hP : va_P D cls [(h0, .inr (12, [.int 0, .ref a_al, .ref a_hi, .ref a_mt, .ref a_fr, .int 0, .int 0, .int 0, .int 0, .int 0, .int 0, .int 0, .int 0, .int 0, .int (-1), .ref a_rk, .int 0, .ref a_on, .ref a_aw, .ref a_ro, .int 0, .ref a_ws, .ref a_ah, .int 0, .int 0, .int 0, .ref a_cl, .ref a_us, .ref a_mo, .ref a_to, .ref a_mb, .ref a_le, .int 0, .ref a_rs, .ref a_rm, .ref a_nu])), (a_rs, .inl (cI, 4, .inl f_7)), (a_rm, .inl (cI, 4, .inl (upd (fun _ => 0) (Int32.toNatClampNeg i_0) i_2))), (a_nu, .inl (cJ, 160, .inr (.inl g_nu)))] H := hP
        have hD : va_D A [(h0, .inr (12, [.int 0, .ref a_al, .ref a_hi, .ref a_mt, .ref a_fr, .int 0, .int 0, .int 0, .int 0, .int 0, .int 0, .int 0, .int 0, .int 0, .int (-1), .ref a_rk, .int 0, .ref a_on, .ref a_aw, .ref a_ro, .int 0, .ref a_ws, .ref a_ah, .int 0, .int 0, .int 0, .ref a_cl, .ref a_us, .ref a_mo, .ref a_to, .ref a_mb, .ref a_le, .int 0, .ref a_rs, .ref a_rm, .ref a_nu])), (a_rs, .inl (cI, 4, .inl f_7)), (a_rm, .inl (cI, 4, .inl (upd (fun _ => 0) (Int32.toNatClampNeg i_0) i_2))), (a_nu, .inl (cJ, 160, .inr (.inl g_nu)))] := hD
        generalize hq9 : upd (fun _ => 0) (Int32.toNatClampNeg i_0) i_2 = f_8 at hP hD; clear hq9
        have hP : va_P D cls [(h0, .inr (12, [.int 0, .ref a_al, .ref a_hi, .ref a_mt, .ref a_fr, .int 0, .int 0, .int 0, .int 0, .int 0, .int 0, .int 0, .int 0, .int 0, .int (-1), .ref a_rk, .int 0, .ref a_on, .ref a_aw, .ref a_ro, .int 0, .ref a_ws, .ref a_ah, .int 0, .int 0, .int 0, .ref a_cl, .ref a_us, .ref a_mo, .ref a_to, .ref a_mb, .ref a_le, .int 0, .ref a_rs, .ref a_rm, .ref a_nu])), (a_rs, .inl (cI, 4, .inl f_7)), (a_rm, .inl (cI, 4, .inl f_8)), (a_nu, .inl (cJ, 160, .inr (.inl g_nu)))] H := hP
        have hD : va_D A [(h0, .inr (12, [.int 0, .ref a_al, .ref a_hi, .ref a_mt, .ref a_fr, .int 0, .int 0, .int 0, .int 0, .int 0, .int 0, .int 0, .int 0, .int 0, .int (-1), .ref a_rk, .int 0, .ref a_on, .ref a_aw, .ref a_ro, .int 0, .ref a_ws, .ref a_ah, .int 0, .int 0, .int 0, .ref a_cl, .ref a_us, .ref a_mo, .ref a_to, .ref a_mb, .ref a_le, .int 0, .ref a_rs, .ref a_rm, .ref a_nu])), (a_rs, .inl (cI, 4, .inl f_7)), (a_rm, .inl (cI, 4, .inl f_8)), (a_nu, .inl (cJ, 160, .inr (.inl g_nu)))] := hD
        refine lv_iconst (v := 0) hx hb dX12_numbers_61 (by decide) ?_
        refine lv_istore (lv' := [(4, .int 0), (0, .ref h0), (1, .int i_0), (2, .int i_1), (3, .int i_2)]) hx hb dX12_numbers_62 hl (by decide) rfl (fun ls hl => ?_)
        refine lv_iload hx hb dX12_numbers_64 (lv_at hl 0 rfl) ?_
        refine lv_iload_n hx hb dX12_numbers_66 rfl (lv_at hl 4 rfl) ?_
        refine lv_icmp_ge (tgt := 89) hx hb dX12_numbers_67 (by decide) (fun c_9 => ?_) (fun c_9 => ?_)
        · skip
          have tc_9 := f_le (k := 0) (by decide) c_9
          refine lv_iconst (v := 0) hx hb dX12_numbers_89 (by decide) ?_
          refine W.widen (k := 0) (n := 0) (Nat.le_of_ble_eq_true rfl) (Nat.le_of_ble_eq_true rfl) ?_
          exact e_i (u := []) hx hb hr hlocks (hP.sub (ws' := []) [] rfl) (hD.sub (ws' := []) [] (by decide) rfl) hS ⟨(by unfold F_numbers; (repeat' split) <;> first | rfl | (exfalso; omega)), rfl⟩ dX12_numbers_90
        · skip
          have tc_9 := f_nle (k := 0) (by decide) c_9
          refine lv_aload_n hx hb dX12_numbers_70 rfl (lv_at hl 1 rfl) ?_
          refine va_get (D := D) (ci := 12) (v := .ref a_nu) (C := RX12) (T := TX12) (N := 36) hx hb hts uX12 hown hkb.1 hP 0 rfl rfl 35 (by decide) (hts _ kw_1258) (fun _ h9 => h9) rfl dX12_numbers_71 ?_
          refine lv_bipush (v := 40) hx hb dX12_numbers_74 (by decide) ?_
          refine lv_iload_n hx hb dX12_numbers_76 rfl (lv_at hl 2 rfl) ?_
          refine lv_imul hx hb dX12_numbers_77 ?_
          refine lv_topi (fun v_10 ev_10 => ?_)
          refine lv_iload hx hb dX12_numbers_78 (lv_at hl 0 rfl) ?_
          refine lv_iadd hx hb dX12_numbers_80 ?_
          refine lv_topi (fun v_11 ev_11 => ?_)
          refine lv_lconst (v := 0) hx hb dX12_numbers_81 (by decide) ?_
          refine s_l 3 2 hx hb hkb.1 hP hD hS rfl rfl (in40 (by omega) (by omega) ev_10 ev_11 (by decide +kernel)) (Int32.toNatClampNeg v_11) (rfl) dX12_numbers_82 (fun H locs hP hD hS => ?_)
          have hP : va_P D cls [(h0, .inr (12, [.int 0, .ref a_al, .ref a_hi, .ref a_mt, .ref a_fr, .int 0, .int 0, .int 0, .int 0, .int 0, .int 0, .int 0, .int 0, .int 0, .int (-1), .ref a_rk, .int 0, .ref a_on, .ref a_aw, .ref a_ro, .int 0, .ref a_ws, .ref a_ah, .int 0, .int 0, .int 0, .ref a_cl, .ref a_us, .ref a_mo, .ref a_to, .ref a_mb, .ref a_le, .int 0, .ref a_rs, .ref a_rm, .ref a_nu])), (a_rs, .inl (cI, 4, .inl f_7)), (a_rm, .inl (cI, 4, .inl f_8)), (a_nu, .inl (cJ, 160, .inr (.inl (vp_updL g_nu (Int32.toNatClampNeg v_11) 0))))] H := hP
          have hD : va_D A [(h0, .inr (12, [.int 0, .ref a_al, .ref a_hi, .ref a_mt, .ref a_fr, .int 0, .int 0, .int 0, .int 0, .int 0, .int 0, .int 0, .int 0, .int 0, .int (-1), .ref a_rk, .int 0, .ref a_on, .ref a_aw, .ref a_ro, .int 0, .ref a_ws, .ref a_ah, .int 0, .int 0, .int 0, .ref a_cl, .ref a_us, .ref a_mo, .ref a_to, .ref a_mb, .ref a_le, .int 0, .ref a_rs, .ref a_rm, .ref a_nu])), (a_rs, .inl (cI, 4, .inl f_7)), (a_rm, .inl (cI, 4, .inl f_8)), (a_nu, .inl (cJ, 160, .inr (.inl (vp_updL g_nu (Int32.toNatClampNeg v_11) 0))))] := hD
          generalize hq9 : vp_updL g_nu (Int32.toNatClampNeg v_11) 0 = f_12 at hP hD; clear hq9
          have hP : va_P D cls [(h0, .inr (12, [.int 0, .ref a_al, .ref a_hi, .ref a_mt, .ref a_fr, .int 0, .int 0, .int 0, .int 0, .int 0, .int 0, .int 0, .int 0, .int 0, .int (-1), .ref a_rk, .int 0, .ref a_on, .ref a_aw, .ref a_ro, .int 0, .ref a_ws, .ref a_ah, .int 0, .int 0, .int 0, .ref a_cl, .ref a_us, .ref a_mo, .ref a_to, .ref a_mb, .ref a_le, .int 0, .ref a_rs, .ref a_rm, .ref a_nu])), (a_rs, .inl (cI, 4, .inl f_7)), (a_rm, .inl (cI, 4, .inl f_8)), (a_nu, .inl (cJ, 160, .inr (.inl f_12)))] H := hP
          have hD : va_D A [(h0, .inr (12, [.int 0, .ref a_al, .ref a_hi, .ref a_mt, .ref a_fr, .int 0, .int 0, .int 0, .int 0, .int 0, .int 0, .int 0, .int 0, .int 0, .int (-1), .ref a_rk, .int 0, .ref a_on, .ref a_aw, .ref a_ro, .int 0, .ref a_ws, .ref a_ah, .int 0, .int 0, .int 0, .ref a_cl, .ref a_us, .ref a_mo, .ref a_to, .ref a_mb, .ref a_le, .int 0, .ref a_rs, .ref a_rm, .ref a_nu])), (a_rs, .inl (cI, 4, .inl f_7)), (a_rm, .inl (cI, 4, .inl f_8)), (a_nu, .inl (cJ, 160, .inr (.inl f_12)))] := hD
          refine lv_iinc (v := 1) (lv' := [(4, .int 1), (0, .ref h0), (1, .int i_0), (2, .int i_1), (3, .int i_2)]) hx hb dX12_numbers_83 hl (k := 0) rfl (by decide) (by decide) rfl (fun ls hl => ?_)
          refine lv_goto (tgt := 64) hx hb dX12_numbers_86 (by decide) ?_
          refine lv_iload hx hb dX12_numbers_64 (lv_at hl 0 rfl) ?_
          refine lv_iload_n hx hb dX12_numbers_66 rfl (lv_at hl 4 rfl) ?_
          refine lv_icmp_ge (tgt := 89) hx hb dX12_numbers_67 (by decide) (fun c_13 => ?_) (fun c_13 => ?_)
          · skip
            have tc_13 := f_le (k := 1) (by decide) c_13
            refine lv_iconst (v := 0) hx hb dX12_numbers_89 (by decide) ?_
            refine W.widen (k := 0) (n := 0) (Nat.le_of_ble_eq_true rfl) (Nat.le_of_ble_eq_true rfl) ?_
            exact e_i (u := []) hx hb hr hlocks (hP.sub (ws' := []) [] rfl) (hD.sub (ws' := []) [] (by decide) rfl) hS ⟨(by unfold F_numbers; (repeat' split) <;> first | rfl | (exfalso; omega)), rfl⟩ dX12_numbers_90
          · skip
            have tc_13 := f_nle (k := 1) (by decide) c_13
            refine lv_aload_n hx hb dX12_numbers_70 rfl (lv_at hl 1 rfl) ?_
            refine va_get (D := D) (ci := 12) (v := .ref a_nu) (C := RX12) (T := TX12) (N := 36) hx hb hts uX12 hown hkb.1 hP 0 rfl rfl 35 (by decide) (hts _ kw_1258) (fun _ h9 => h9) rfl dX12_numbers_71 ?_
            refine lv_bipush (v := 40) hx hb dX12_numbers_74 (by decide) ?_
            refine lv_iload_n hx hb dX12_numbers_76 rfl (lv_at hl 2 rfl) ?_
            refine lv_imul hx hb dX12_numbers_77 ?_
            refine lv_topi (fun v_14 ev_14 => ?_)
            refine lv_iload hx hb dX12_numbers_78 (lv_at hl 0 rfl) ?_
            refine lv_iadd hx hb dX12_numbers_80 ?_
            refine lv_topi (fun v_15 ev_15 => ?_)
            refine lv_lconst (v := 0) hx hb dX12_numbers_81 (by decide) ?_
            refine s_l 3 2 hx hb hkb.1 hP hD hS rfl rfl (in40 (by omega) (by omega) ev_14 ev_15 (by decide +kernel)) (Int32.toNatClampNeg v_15) (rfl) dX12_numbers_82 (fun H locs hP hD hS => ?_)
            have hP : va_P D cls [(h0, .inr (12, [.int 0, .ref a_al, .ref a_hi, .ref a_mt, .ref a_fr, .int 0, .int 0, .int 0, .int 0, .int 0, .int 0, .int 0, .int 0, .int 0, .int (-1), .ref a_rk, .int 0, .ref a_on, .ref a_aw, .ref a_ro, .int 0, .ref a_ws, .ref a_ah, .int 0, .int 0, .int 0, .ref a_cl, .ref a_us, .ref a_mo, .ref a_to, .ref a_mb, .ref a_le, .int 0, .ref a_rs, .ref a_rm, .ref a_nu])), (a_rs, .inl (cI, 4, .inl f_7)), (a_rm, .inl (cI, 4, .inl f_8)), (a_nu, .inl (cJ, 160, .inr (.inl (vp_updL f_12 (Int32.toNatClampNeg v_15) 0))))] H := hP
            have hD : va_D A [(h0, .inr (12, [.int 0, .ref a_al, .ref a_hi, .ref a_mt, .ref a_fr, .int 0, .int 0, .int 0, .int 0, .int 0, .int 0, .int 0, .int 0, .int 0, .int (-1), .ref a_rk, .int 0, .ref a_on, .ref a_aw, .ref a_ro, .int 0, .ref a_ws, .ref a_ah, .int 0, .int 0, .int 0, .ref a_cl, .ref a_us, .ref a_mo, .ref a_to, .ref a_mb, .ref a_le, .int 0, .ref a_rs, .ref a_rm, .ref a_nu])), (a_rs, .inl (cI, 4, .inl f_7)), (a_rm, .inl (cI, 4, .inl f_8)), (a_nu, .inl (cJ, 160, .inr (.inl (vp_updL f_12 (Int32.toNatClampNeg v_15) 0))))] := hD
            generalize hq9 : vp_updL f_12 (Int32.toNatClampNeg v_15) 0 = f_16 at hP hD; clear hq9
            have hP : va_P D cls [(h0, .inr (12, [.int 0, .ref a_al, .ref a_hi, .ref a_mt, .ref a_fr, .int 0, .int 0, .int 0, .int 0, .int 0, .int 0, .int 0, .int 0, .int 0, .int (-1), .ref a_rk, .int 0, .ref a_on, .ref a_aw, .ref a_ro, .int 0, .ref a_ws, .ref a_ah, .int 0, .int 0, .int 0, .ref a_cl, .ref a_us, .ref a_mo, .ref a_to, .ref a_mb, .ref a_le, .int 0, .ref a_rs, .ref a_rm, .ref a_nu])), (a_rs, .inl (cI, 4, .inl f_7)), (a_rm, .inl (cI, 4, .inl f_8)), (a_nu, .inl (cJ, 160, .inr (.inl f_16)))] H := hP
            have hD : va_D A [(h0, .inr (12, [.int 0, .ref a_al, .ref a_hi, .ref a_mt, .ref a_fr, .int 0, .int 0, .int 0, .int 0, .int 0, .int 0, .int 0, .int 0, .int 0, .int (-1), .ref a_rk, .int 0, .ref a_on, .ref a_aw, .ref a_ro, .int 0, .ref a_ws, .ref a_ah, .int 0, .int 0, .int 0, .ref a_cl, .ref a_us, .ref a_mo, .ref a_to, .ref a_mb, .ref a_le, .int 0, .ref a_rs, .ref a_rm, .ref a_nu])), (a_rs, .inl (cI, 4, .inl f_7)), (a_rm, .inl (cI, 4, .inl f_8)), (a_nu, .inl (cJ, 160, .inr (.inl f_16)))] := hD
            refine lv_iinc (v := 2) (lv' := [(4, .int 2), (0, .ref h0), (1, .int i_0), (2, .int i_1), (3, .int i_2)]) hx hb dX12_numbers_83 hl (k := 0) rfl (by decide) (by decide) rfl (fun ls hl => ?_)
            refine lv_goto (tgt := 64) hx hb dX12_numbers_86 (by decide) ?_
            refine lv_iload hx hb dX12_numbers_64 (lv_at hl 0 rfl) ?_
            refine lv_iload_n hx hb dX12_numbers_66 rfl (lv_at hl 4 rfl) ?_
            refine lv_icmp_ge (tgt := 89) hx hb dX12_numbers_67 (by decide) (fun c_17 => ?_) (fun c_17 => ?_)
            · skip
              have tc_17 := f_le (k := 2) (by decide) c_17
              refine lv_iconst (v := 0) hx hb dX12_numbers_89 (by decide) ?_
              refine W.widen (k := 0) (n := 0) (Nat.le_of_ble_eq_true rfl) (Nat.le_of_ble_eq_true rfl) ?_
              exact e_i (u := []) hx hb hr hlocks (hP.sub (ws' := []) [] rfl) (hD.sub (ws' := []) [] (by decide) rfl) hS ⟨(by unfold F_numbers; (repeat' split) <;> first | rfl | (exfalso; omega)), rfl⟩ dX12_numbers_90
            · skip
              have tc_17 := f_nle (k := 2) (by decide) c_17
              refine lv_aload_n hx hb dX12_numbers_70 rfl (lv_at hl 1 rfl) ?_
              refine va_get (D := D) (ci := 12) (v := .ref a_nu) (C := RX12) (T := TX12) (N := 36) hx hb hts uX12 hown hkb.1 hP 0 rfl rfl 35 (by decide) (hts _ kw_1258) (fun _ h9 => h9) rfl dX12_numbers_71 ?_
              refine lv_bipush (v := 40) hx hb dX12_numbers_74 (by decide) ?_
              refine lv_iload_n hx hb dX12_numbers_76 rfl (lv_at hl 2 rfl) ?_
              refine lv_imul hx hb dX12_numbers_77 ?_
              refine lv_topi (fun v_18 ev_18 => ?_)
              refine lv_iload hx hb dX12_numbers_78 (lv_at hl 0 rfl) ?_
              refine lv_iadd hx hb dX12_numbers_80 ?_
              refine lv_topi (fun v_19 ev_19 => ?_)
              refine lv_lconst (v := 0) hx hb dX12_numbers_81 (by decide) ?_
              refine s_l 3 2 hx hb hkb.1 hP hD hS rfl rfl (in40 (by omega) (by omega) ev_18 ev_19 (by decide +kernel)) (Int32.toNatClampNeg v_19) (rfl) dX12_numbers_82 (fun H locs hP hD hS => ?_)
              have hP : va_P D cls [(h0, .inr (12, [.int 0, .ref a_al, .ref a_hi, .ref a_mt, .ref a_fr, .int 0, .int 0, .int 0, .int 0, .int 0, .int 0, .int 0, .int 0, .int 0, .int (-1), .ref a_rk, .int 0, .ref a_on, .ref a_aw, .ref a_ro, .int 0, .ref a_ws, .ref a_ah, .int 0, .int 0, .int 0, .ref a_cl, .ref a_us, .ref a_mo, .ref a_to, .ref a_mb, .ref a_le, .int 0, .ref a_rs, .ref a_rm, .ref a_nu])), (a_rs, .inl (cI, 4, .inl f_7)), (a_rm, .inl (cI, 4, .inl f_8)), (a_nu, .inl (cJ, 160, .inr (.inl (vp_updL f_16 (Int32.toNatClampNeg v_19) 0))))] H := hP
              have hD : va_D A [(h0, .inr (12, [.int 0, .ref a_al, .ref a_hi, .ref a_mt, .ref a_fr, .int 0, .int 0, .int 0, .int 0, .int 0, .int 0, .int 0, .int 0, .int 0, .int (-1), .ref a_rk, .int 0, .ref a_on, .ref a_aw, .ref a_ro, .int 0, .ref a_ws, .ref a_ah, .int 0, .int 0, .int 0, .ref a_cl, .ref a_us, .ref a_mo, .ref a_to, .ref a_mb, .ref a_le, .int 0, .ref a_rs, .ref a_rm, .ref a_nu])), (a_rs, .inl (cI, 4, .inl f_7)), (a_rm, .inl (cI, 4, .inl f_8)), (a_nu, .inl (cJ, 160, .inr (.inl (vp_updL f_16 (Int32.toNatClampNeg v_19) 0))))] := hD
              generalize hq9 : vp_updL f_16 (Int32.toNatClampNeg v_19) 0 = f_20 at hP hD; clear hq9
              have hP : va_P D cls [(h0, .inr (12, [.int 0, .ref a_al, .ref a_hi, .ref a_mt, .ref a_fr, .int 0, .int 0, .int 0, .int 0, .int 0, .int 0, .int 0, .int 0, .int 0, .int (-1), .ref a_rk, .int 0, .ref a_on, .ref a_aw, .ref a_ro, .int 0, .ref a_ws, .ref a_ah, .int 0, .int 0, .int 0, .ref a_cl, .ref a_us, .ref a_mo, .ref a_to, .ref a_mb, .ref a_le, .int 0, .ref a_rs, .ref a_rm, .ref a_nu])), (a_rs, .inl (cI, 4, .inl f_7)), (a_rm, .inl (cI, 4, .inl f_8)), (a_nu, .inl (cJ, 160, .inr (.inl f_20)))] H := hP
              have hD : va_D A [(h0, .inr (12, [.int 0, .ref a_al, .ref a_hi, .ref a_mt, .ref a_fr, .int 0, .int 0, .int 0, .int 0, .int 0, .int 0, .int 0, .int 0, .int 0, .int (-1), .ref a_rk, .int 0, .ref a_on, .ref a_aw, .ref a_ro, .int 0, .ref a_ws, .ref a_ah, .int 0, .int 0, .int 0, .ref a_cl, .ref a_us, .ref a_mo, .ref a_to, .ref a_mb, .ref a_le, .int 0, .ref a_rs, .ref a_rm, .ref a_nu])), (a_rs, .inl (cI, 4, .inl f_7)), (a_rm, .inl (cI, 4, .inl f_8)), (a_nu, .inl (cJ, 160, .inr (.inl f_20)))] := hD
              refine lv_iinc (v := 3) (lv' := [(4, .int 3), (0, .ref h0), (1, .int i_0), (2, .int i_1), (3, .int i_2)]) hx hb dX12_numbers_83 hl (k := 0) rfl (by decide) (by decide) rfl (fun ls hl => ?_)
              refine lv_goto (tgt := 64) hx hb dX12_numbers_86 (by decide) ?_
              refine lv_iload hx hb dX12_numbers_64 (lv_at hl 0 rfl) ?_
              refine lv_iload_n hx hb dX12_numbers_66 rfl (lv_at hl 4 rfl) ?_
              refine lv_icmp_ge (tgt := 89) hx hb dX12_numbers_67 (by decide) (fun c_21 => ?_) (fun c_21 => ?_)
              · skip
                have tc_21 := f_le (k := 3) (by decide) c_21
                refine lv_iconst (v := 0) hx hb dX12_numbers_89 (by decide) ?_
                refine W.widen (k := 0) (n := 0) (Nat.le_of_ble_eq_true rfl) (Nat.le_of_ble_eq_true rfl) ?_
                exact e_i (u := []) hx hb hr hlocks (hP.sub (ws' := []) [] rfl) (hD.sub (ws' := []) [] (by decide) rfl) hS ⟨(by unfold F_numbers; (repeat' split) <;> first | rfl | (exfalso; omega)), rfl⟩ dX12_numbers_90
              · skip
                have tc_21 := f_nle (k := 3) (by decide) c_21
                refine lv_aload_n hx hb dX12_numbers_70 rfl (lv_at hl 1 rfl) ?_
                refine va_get (D := D) (ci := 12) (v := .ref a_nu) (C := RX12) (T := TX12) (N := 36) hx hb hts uX12 hown hkb.1 hP 0 rfl rfl 35 (by decide) (hts _ kw_1258) (fun _ h9 => h9) rfl dX12_numbers_71 ?_
                refine lv_bipush (v := 40) hx hb dX12_numbers_74 (by decide) ?_
                refine lv_iload_n hx hb dX12_numbers_76 rfl (lv_at hl 2 rfl) ?_
                refine lv_imul hx hb dX12_numbers_77 ?_
                refine lv_topi (fun v_22 ev_22 => ?_)
                refine lv_iload hx hb dX12_numbers_78 (lv_at hl 0 rfl) ?_
                refine lv_iadd hx hb dX12_numbers_80 ?_
                refine lv_topi (fun v_23 ev_23 => ?_)
                refine lv_lconst (v := 0) hx hb dX12_numbers_81 (by decide) ?_
                refine s_l 3 2 hx hb hkb.1 hP hD hS rfl rfl (in40 (by omega) (by omega) ev_22 ev_23 (by decide +kernel)) (Int32.toNatClampNeg v_23) (rfl) dX12_numbers_82 (fun H locs hP hD hS => ?_)
                have hP : va_P D cls [(h0, .inr (12, [.int 0, .ref a_al, .ref a_hi, .ref a_mt, .ref a_fr, .int 0, .int 0, .int 0, .int 0, .int 0, .int 0, .int 0, .int 0, .int 0, .int (-1), .ref a_rk, .int 0, .ref a_on, .ref a_aw, .ref a_ro, .int 0, .ref a_ws, .ref a_ah, .int 0, .int 0, .int 0, .ref a_cl, .ref a_us, .ref a_mo, .ref a_to, .ref a_mb, .ref a_le, .int 0, .ref a_rs, .ref a_rm, .ref a_nu])), (a_rs, .inl (cI, 4, .inl f_7)), (a_rm, .inl (cI, 4, .inl f_8)), (a_nu, .inl (cJ, 160, .inr (.inl (vp_updL f_20 (Int32.toNatClampNeg v_23) 0))))] H := hP
                have hD : va_D A [(h0, .inr (12, [.int 0, .ref a_al, .ref a_hi, .ref a_mt, .ref a_fr, .int 0, .int 0, .int 0, .int 0, .int 0, .int 0, .int 0, .int 0, .int 0, .int (-1), .ref a_rk, .int 0, .ref a_on, .ref a_aw, .ref a_ro, .int 0, .ref a_ws, .ref a_ah, .int 0, .int 0, .int 0, .ref a_cl, .ref a_us, .ref a_mo, .ref a_to, .ref a_mb, .ref a_le, .int 0, .ref a_rs, .ref a_rm, .ref a_nu])), (a_rs, .inl (cI, 4, .inl f_7)), (a_rm, .inl (cI, 4, .inl f_8)), (a_nu, .inl (cJ, 160, .inr (.inl (vp_updL f_20 (Int32.toNatClampNeg v_23) 0))))] := hD
                generalize hq9 : vp_updL f_20 (Int32.toNatClampNeg v_23) 0 = f_24 at hP hD; clear hq9
                have hP : va_P D cls [(h0, .inr (12, [.int 0, .ref a_al, .ref a_hi, .ref a_mt, .ref a_fr, .int 0, .int 0, .int 0, .int 0, .int 0, .int 0, .int 0, .int 0, .int 0, .int (-1), .ref a_rk, .int 0, .ref a_on, .ref a_aw, .ref a_ro, .int 0, .ref a_ws, .ref a_ah, .int 0, .int 0, .int 0, .ref a_cl, .ref a_us, .ref a_mo, .ref a_to, .ref a_mb, .ref a_le, .int 0, .ref a_rs, .ref a_rm, .ref a_nu])), (a_rs, .inl (cI, 4, .inl f_7)), (a_rm, .inl (cI, 4, .inl f_8)), (a_nu, .inl (cJ, 160, .inr (.inl f_24)))] H := hP
                have hD : va_D A [(h0, .inr (12, [.int 0, .ref a_al, .ref a_hi, .ref a_mt, .ref a_fr, .int 0, .int 0, .int 0, .int 0, .int 0, .int 0, .int 0, .int 0, .int 0, .int (-1), .ref a_rk, .int 0, .ref a_on, .ref a_aw, .ref a_ro, .int 0, .ref a_ws, .ref a_ah, .int 0, .int 0, .int 0, .ref a_cl, .ref a_us, .ref a_mo, .ref a_to, .ref a_mb, .ref a_le, .int 0, .ref a_rs, .ref a_rm, .ref a_nu])), (a_rs, .inl (cI, 4, .inl f_7)), (a_rm, .inl (cI, 4, .inl f_8)), (a_nu, .inl (cJ, 160, .inr (.inl f_24)))] := hD
                refine lv_iinc (v := 4) (lv' := [(4, .int 4), (0, .ref h0), (1, .int i_0), (2, .int i_1), (3, .int i_2)]) hx hb dX12_numbers_83 hl (k := 0) rfl (by decide) (by decide) rfl (fun ls hl => ?_)
                refine lv_goto (tgt := 64) hx hb dX12_numbers_86 (by decide) ?_
                refine lv_iload hx hb dX12_numbers_64 (lv_at hl 0 rfl) ?_
                refine lv_iload_n hx hb dX12_numbers_66 rfl (lv_at hl 4 rfl) ?_
                refine lv_icmp_ge (tgt := 89) hx hb dX12_numbers_67 (by decide) (fun c_25 => ?_) (fun c_25 => ?_)
                · skip
                  have tc_25 := f_le (k := 4) (by decide) c_25
                  refine lv_iconst (v := 0) hx hb dX12_numbers_89 (by decide) ?_
                  refine W.widen (k := 0) (n := 0) (Nat.le_of_ble_eq_true rfl) (Nat.le_of_ble_eq_true rfl) ?_
                  exact e_i (u := []) hx hb hr hlocks (hP.sub (ws' := []) [] rfl) (hD.sub (ws' := []) [] (by decide) rfl) hS ⟨(by unfold F_numbers; (repeat' split) <;> first | rfl | (exfalso; omega)), rfl⟩ dX12_numbers_90
                · skip
                  have tc_25 := f_nle (k := 4) (by decide) c_25
                  refine lv_aload_n hx hb dX12_numbers_70 rfl (lv_at hl 1 rfl) ?_
                  refine va_get (D := D) (ci := 12) (v := .ref a_nu) (C := RX12) (T := TX12) (N := 36) hx hb hts uX12 hown hkb.1 hP 0 rfl rfl 35 (by decide) (hts _ kw_1258) (fun _ h9 => h9) rfl dX12_numbers_71 ?_
                  refine lv_bipush (v := 40) hx hb dX12_numbers_74 (by decide) ?_
                  refine lv_iload_n hx hb dX12_numbers_76 rfl (lv_at hl 2 rfl) ?_
                  refine lv_imul hx hb dX12_numbers_77 ?_
                  refine lv_topi (fun v_26 ev_26 => ?_)
                  refine lv_iload hx hb dX12_numbers_78 (lv_at hl 0 rfl) ?_
                  refine lv_iadd hx hb dX12_numbers_80 ?_
                  refine lv_topi (fun v_27 ev_27 => ?_)
                  refine lv_lconst (v := 0) hx hb dX12_numbers_81 (by decide) ?_
                  refine s_l 3 2 hx hb hkb.1 hP hD hS rfl rfl (in40 (by omega) (by omega) ev_26 ev_27 (by decide +kernel)) (Int32.toNatClampNeg v_27) (rfl) dX12_numbers_82 (fun H locs hP hD hS => ?_)
                  have hP : va_P D cls [(h0, .inr (12, [.int 0, .ref a_al, .ref a_hi, .ref a_mt, .ref a_fr, .int 0, .int 0, .int 0, .int 0, .int 0, .int 0, .int 0, .int 0, .int 0, .int (-1), .ref a_rk, .int 0, .ref a_on, .ref a_aw, .ref a_ro, .int 0, .ref a_ws, .ref a_ah, .int 0, .int 0, .int 0, .ref a_cl, .ref a_us, .ref a_mo, .ref a_to, .ref a_mb, .ref a_le, .int 0, .ref a_rs, .ref a_rm, .ref a_nu])), (a_rs, .inl (cI, 4, .inl f_7)), (a_rm, .inl (cI, 4, .inl f_8)), (a_nu, .inl (cJ, 160, .inr (.inl (vp_updL f_24 (Int32.toNatClampNeg v_27) 0))))] H := hP
                  have hD : va_D A [(h0, .inr (12, [.int 0, .ref a_al, .ref a_hi, .ref a_mt, .ref a_fr, .int 0, .int 0, .int 0, .int 0, .int 0, .int 0, .int 0, .int 0, .int 0, .int (-1), .ref a_rk, .int 0, .ref a_on, .ref a_aw, .ref a_ro, .int 0, .ref a_ws, .ref a_ah, .int 0, .int 0, .int 0, .ref a_cl, .ref a_us, .ref a_mo, .ref a_to, .ref a_mb, .ref a_le, .int 0, .ref a_rs, .ref a_rm, .ref a_nu])), (a_rs, .inl (cI, 4, .inl f_7)), (a_rm, .inl (cI, 4, .inl f_8)), (a_nu, .inl (cJ, 160, .inr (.inl (vp_updL f_24 (Int32.toNatClampNeg v_27) 0))))] := hD
                  generalize hq9 : vp_updL f_24 (Int32.toNatClampNeg v_27) 0 = f_28 at hP hD; clear hq9
                  have hP : va_P D cls [(h0, .inr (12, [.int 0, .ref a_al, .ref a_hi, .ref a_mt, .ref a_fr, .int 0, .int 0, .int 0, .int 0, .int 0, .int 0, .int 0, .int 0, .int 0, .int (-1), .ref a_rk, .int 0, .ref a_on, .ref a_aw, .ref a_ro, .int 0, .ref a_ws, .ref a_ah, .int 0, .int 0, .int 0, .ref a_cl, .ref a_us, .ref a_mo, .ref a_to, .ref a_mb, .ref a_le, .int 0, .ref a_rs, .ref a_rm, .ref a_nu])), (a_rs, .inl (cI, 4, .inl f_7)), (a_rm, .inl (cI, 4, .inl f_8)), (a_nu, .inl (cJ, 160, .inr (.inl f_28)))] H := hP
                  have hD : va_D A [(h0, .inr (12, [.int 0, .ref a_al, .ref a_hi, .ref a_mt, .ref a_fr, .int 0, .int 0, .int 0, .int 0, .int 0, .int 0, .int 0, .int 0, .int 0, .int (-1), .ref a_rk, .int 0, .ref a_on, .ref a_aw, .ref a_ro, .int 0, .ref a_ws, .ref a_ah, .int 0, .int 0, .int 0, .ref a_cl, .ref a_us, .ref a_mo, .ref a_to, .ref a_mb, .ref a_le, .int 0, .ref a_rs, .ref a_rm, .ref a_nu])), (a_rs, .inl (cI, 4, .inl f_7)), (a_rm, .inl (cI, 4, .inl f_8)), (a_nu, .inl (cJ, 160, .inr (.inl f_28)))] := hD
                  refine lv_iinc (v := 5) (lv' := [(4, .int 5), (0, .ref h0), (1, .int i_0), (2, .int i_1), (3, .int i_2)]) hx hb dX12_numbers_83 hl (k := 0) rfl (by decide) (by decide) rfl (fun ls hl => ?_)
                  refine lv_goto (tgt := 64) hx hb dX12_numbers_86 (by decide) ?_
                  refine lv_iload hx hb dX12_numbers_64 (lv_at hl 0 rfl) ?_
                  refine lv_iload_n hx hb dX12_numbers_66 rfl (lv_at hl 4 rfl) ?_
                  refine lv_icmp_ge (tgt := 89) hx hb dX12_numbers_67 (by decide) (fun c_29 => ?_) (fun c_29 => ?_)
                  · skip
                    have tc_29 := f_le (k := 5) (by decide) c_29
                    refine lv_iconst (v := 0) hx hb dX12_numbers_89 (by decide) ?_
                    refine W.widen (k := 0) (n := 0) (Nat.le_of_ble_eq_true rfl) (Nat.le_of_ble_eq_true rfl) ?_
                    exact e_i (u := []) hx hb hr hlocks (hP.sub (ws' := []) [] rfl) (hD.sub (ws' := []) [] (by decide) rfl) hS ⟨(by unfold F_numbers; (repeat' split) <;> first | rfl | (exfalso; omega)), rfl⟩ dX12_numbers_90
                  · skip
                    have tc_29 := f_nle (k := 5) (by decide) c_29
                    refine lv_aload_n hx hb dX12_numbers_70 rfl (lv_at hl 1 rfl) ?_
                    refine va_get (D := D) (ci := 12) (v := .ref a_nu) (C := RX12) (T := TX12) (N := 36) hx hb hts uX12 hown hkb.1 hP 0 rfl rfl 35 (by decide) (hts _ kw_1258) (fun _ h9 => h9) rfl dX12_numbers_71 ?_
                    refine lv_bipush (v := 40) hx hb dX12_numbers_74 (by decide) ?_
                    refine lv_iload_n hx hb dX12_numbers_76 rfl (lv_at hl 2 rfl) ?_
                    refine lv_imul hx hb dX12_numbers_77 ?_
                    refine lv_topi (fun v_30 ev_30 => ?_)
                    refine lv_iload hx hb dX12_numbers_78 (lv_at hl 0 rfl) ?_
                    refine lv_iadd hx hb dX12_numbers_80 ?_
                    refine lv_topi (fun v_31 ev_31 => ?_)
                    refine lv_lconst (v := 0) hx hb dX12_numbers_81 (by decide) ?_
                    refine s_l 3 2 hx hb hkb.1 hP hD hS rfl rfl (in40 (by omega) (by omega) ev_30 ev_31 (by decide +kernel)) (Int32.toNatClampNeg v_31) (rfl) dX12_numbers_82 (fun H locs hP hD hS => ?_)
                    have hP : va_P D cls [(h0, .inr (12, [.int 0, .ref a_al, .ref a_hi, .ref a_mt, .ref a_fr, .int 0, .int 0, .int 0, .int 0, .int 0, .int 0, .int 0, .int 0, .int 0, .int (-1), .ref a_rk, .int 0, .ref a_on, .ref a_aw, .ref a_ro, .int 0, .ref a_ws, .ref a_ah, .int 0, .int 0, .int 0, .ref a_cl, .ref a_us, .ref a_mo, .ref a_to, .ref a_mb, .ref a_le, .int 0, .ref a_rs, .ref a_rm, .ref a_nu])), (a_rs, .inl (cI, 4, .inl f_7)), (a_rm, .inl (cI, 4, .inl f_8)), (a_nu, .inl (cJ, 160, .inr (.inl (vp_updL f_28 (Int32.toNatClampNeg v_31) 0))))] H := hP
                    have hD : va_D A [(h0, .inr (12, [.int 0, .ref a_al, .ref a_hi, .ref a_mt, .ref a_fr, .int 0, .int 0, .int 0, .int 0, .int 0, .int 0, .int 0, .int 0, .int 0, .int (-1), .ref a_rk, .int 0, .ref a_on, .ref a_aw, .ref a_ro, .int 0, .ref a_ws, .ref a_ah, .int 0, .int 0, .int 0, .ref a_cl, .ref a_us, .ref a_mo, .ref a_to, .ref a_mb, .ref a_le, .int 0, .ref a_rs, .ref a_rm, .ref a_nu])), (a_rs, .inl (cI, 4, .inl f_7)), (a_rm, .inl (cI, 4, .inl f_8)), (a_nu, .inl (cJ, 160, .inr (.inl (vp_updL f_28 (Int32.toNatClampNeg v_31) 0))))] := hD
                    generalize hq9 : vp_updL f_28 (Int32.toNatClampNeg v_31) 0 = f_32 at hP hD; clear hq9
                    have hP : va_P D cls [(h0, .inr (12, [.int 0, .ref a_al, .ref a_hi, .ref a_mt, .ref a_fr, .int 0, .int 0, .int 0, .int 0, .int 0, .int 0, .int 0, .int 0, .int 0, .int (-1), .ref a_rk, .int 0, .ref a_on, .ref a_aw, .ref a_ro, .int 0, .ref a_ws, .ref a_ah, .int 0, .int 0, .int 0, .ref a_cl, .ref a_us, .ref a_mo, .ref a_to, .ref a_mb, .ref a_le, .int 0, .ref a_rs, .ref a_rm, .ref a_nu])), (a_rs, .inl (cI, 4, .inl f_7)), (a_rm, .inl (cI, 4, .inl f_8)), (a_nu, .inl (cJ, 160, .inr (.inl f_32)))] H := hP
                    have hD : va_D A [(h0, .inr (12, [.int 0, .ref a_al, .ref a_hi, .ref a_mt, .ref a_fr, .int 0, .int 0, .int 0, .int 0, .int 0, .int 0, .int 0, .int 0, .int 0, .int (-1), .ref a_rk, .int 0, .ref a_on, .ref a_aw, .ref a_ro, .int 0, .ref a_ws, .ref a_ah, .int 0, .int 0, .int 0, .ref a_cl, .ref a_us, .ref a_mo, .ref a_to, .ref a_mb, .ref a_le, .int 0, .ref a_rs, .ref a_rm, .ref a_nu])), (a_rs, .inl (cI, 4, .inl f_7)), (a_rm, .inl (cI, 4, .inl f_8)), (a_nu, .inl (cJ, 160, .inr (.inl f_32)))] := hD
                    refine lv_iinc (v := 6) (lv' := [(4, .int 6), (0, .ref h0), (1, .int i_0), (2, .int i_1), (3, .int i_2)]) hx hb dX12_numbers_83 hl (k := 0) rfl (by decide) (by decide) rfl (fun ls hl => ?_)
                    refine lv_goto (tgt := 64) hx hb dX12_numbers_86 (by decide) ?_
                    refine lv_iload hx hb dX12_numbers_64 (lv_at hl 0 rfl) ?_
                    refine lv_iload_n hx hb dX12_numbers_66 rfl (lv_at hl 4 rfl) ?_
                    refine lv_icmp_ge (tgt := 89) hx hb dX12_numbers_67 (by decide) (fun c_33 => ?_) (fun c_33 => ?_)
                    · skip
                      have tc_33 := f_le (k := 6) (by decide) c_33
                      refine lv_iconst (v := 0) hx hb dX12_numbers_89 (by decide) ?_
                      refine W.widen (k := 0) (n := 0) (Nat.le_of_ble_eq_true rfl) (Nat.le_of_ble_eq_true rfl) ?_
                      exact e_i (u := []) hx hb hr hlocks (hP.sub (ws' := []) [] rfl) (hD.sub (ws' := []) [] (by decide) rfl) hS ⟨(by unfold F_numbers; (repeat' split) <;> first | rfl | (exfalso; omega)), rfl⟩ dX12_numbers_90
                    · skip
                      have tc_33 := f_nle (k := 6) (by decide) c_33
                      refine lv_aload_n hx hb dX12_numbers_70 rfl (lv_at hl 1 rfl) ?_
                      refine va_get (D := D) (ci := 12) (v := .ref a_nu) (C := RX12) (T := TX12) (N := 36) hx hb hts uX12 hown hkb.1 hP 0 rfl rfl 35 (by decide) (hts _ kw_1258) (fun _ h9 => h9) rfl dX12_numbers_71 ?_
                      refine lv_bipush (v := 40) hx hb dX12_numbers_74 (by decide) ?_
                      refine lv_iload_n hx hb dX12_numbers_76 rfl (lv_at hl 2 rfl) ?_
                      refine lv_imul hx hb dX12_numbers_77 ?_
                      refine lv_topi (fun v_34 ev_34 => ?_)
                      refine lv_iload hx hb dX12_numbers_78 (lv_at hl 0 rfl) ?_
                      refine lv_iadd hx hb dX12_numbers_80 ?_
                      refine lv_topi (fun v_35 ev_35 => ?_)
                      refine lv_lconst (v := 0) hx hb dX12_numbers_81 (by decide) ?_
                      refine s_l 3 2 hx hb hkb.1 hP hD hS rfl rfl (in40 (by omega) (by omega) ev_34 ev_35 (by decide +kernel)) (Int32.toNatClampNeg v_35) (rfl) dX12_numbers_82 (fun H locs hP hD hS => ?_)
                      have hP : va_P D cls [(h0, .inr (12, [.int 0, .ref a_al, .ref a_hi, .ref a_mt, .ref a_fr, .int 0, .int 0, .int 0, .int 0, .int 0, .int 0, .int 0, .int 0, .int 0, .int (-1), .ref a_rk, .int 0, .ref a_on, .ref a_aw, .ref a_ro, .int 0, .ref a_ws, .ref a_ah, .int 0, .int 0, .int 0, .ref a_cl, .ref a_us, .ref a_mo, .ref a_to, .ref a_mb, .ref a_le, .int 0, .ref a_rs, .ref a_rm, .ref a_nu])), (a_rs, .inl (cI, 4, .inl f_7)), (a_rm, .inl (cI, 4, .inl f_8)), (a_nu, .inl (cJ, 160, .inr (.inl (vp_updL f_32 (Int32.toNatClampNeg v_35) 0))))] H := hP
                      have hD : va_D A [(h0, .inr (12, [.int 0, .ref a_al, .ref a_hi, .ref a_mt, .ref a_fr, .int 0, .int 0, .int 0, .int 0, .int 0, .int 0, .int 0, .int 0, .int 0, .int (-1), .ref a_rk, .int 0, .ref a_on, .ref a_aw, .ref a_ro, .int 0, .ref a_ws, .ref a_ah, .int 0, .int 0, .int 0, .ref a_cl, .ref a_us, .ref a_mo, .ref a_to, .ref a_mb, .ref a_le, .int 0, .ref a_rs, .ref a_rm, .ref a_nu])), (a_rs, .inl (cI, 4, .inl f_7)), (a_rm, .inl (cI, 4, .inl f_8)), (a_nu, .inl (cJ, 160, .inr (.inl (vp_updL f_32 (Int32.toNatClampNeg v_35) 0))))] := hD
                      generalize hq9 : vp_updL f_32 (Int32.toNatClampNeg v_35) 0 = f_36 at hP hD; clear hq9
                      have hP : va_P D cls [(h0, .inr (12, [.int 0, .ref a_al, .ref a_hi, .ref a_mt, .ref a_fr, .int 0, .int 0, .int 0, .int 0, .int 0, .int 0, .int 0, .int 0, .int 0, .int (-1), .ref a_rk, .int 0, .ref a_on, .ref a_aw, .ref a_ro, .int 0, .ref a_ws, .ref a_ah, .int 0, .int 0, .int 0, .ref a_cl, .ref a_us, .ref a_mo, .ref a_to, .ref a_mb, .ref a_le, .int 0, .ref a_rs, .ref a_rm, .ref a_nu])), (a_rs, .inl (cI, 4, .inl f_7)), (a_rm, .inl (cI, 4, .inl f_8)), (a_nu, .inl (cJ, 160, .inr (.inl f_36)))] H := hP
                      have hD : va_D A [(h0, .inr (12, [.int 0, .ref a_al, .ref a_hi, .ref a_mt, .ref a_fr, .int 0, .int 0, .int 0, .int 0, .int 0, .int 0, .int 0, .int 0, .int 0, .int (-1), .ref a_rk, .int 0, .ref a_on, .ref a_aw, .ref a_ro, .int 0, .ref a_ws, .ref a_ah, .int 0, .int 0, .int 0, .ref a_cl, .ref a_us, .ref a_mo, .ref a_to, .ref a_mb, .ref a_le, .int 0, .ref a_rs, .ref a_rm, .ref a_nu])), (a_rs, .inl (cI, 4, .inl f_7)), (a_rm, .inl (cI, 4, .inl f_8)), (a_nu, .inl (cJ, 160, .inr (.inl f_36)))] := hD
                      refine lv_iinc (v := 7) (lv' := [(4, .int 7), (0, .ref h0), (1, .int i_0), (2, .int i_1), (3, .int i_2)]) hx hb dX12_numbers_83 hl (k := 0) rfl (by decide) (by decide) rfl (fun ls hl => ?_)
                      refine lv_goto (tgt := 64) hx hb dX12_numbers_86 (by decide) ?_
                      refine lv_iload hx hb dX12_numbers_64 (lv_at hl 0 rfl) ?_
                      refine lv_iload_n hx hb dX12_numbers_66 rfl (lv_at hl 4 rfl) ?_
                      refine lv_icmp_ge (tgt := 89) hx hb dX12_numbers_67 (by decide) (fun c_37 => ?_) (fun c_37 => ?_)
                      · skip
                        have tc_37 := f_le (k := 7) (by decide) c_37
                        refine lv_iconst (v := 0) hx hb dX12_numbers_89 (by decide) ?_
                        refine W.widen (k := 0) (n := 0) (Nat.le_of_ble_eq_true rfl) (Nat.le_of_ble_eq_true rfl) ?_
                        exact e_i (u := []) hx hb hr hlocks (hP.sub (ws' := []) [] rfl) (hD.sub (ws' := []) [] (by decide) rfl) hS ⟨(by unfold F_numbers; (repeat' split) <;> first | rfl | (exfalso; omega)), rfl⟩ dX12_numbers_90
                      · skip
                        have tc_37 := f_nle (k := 7) (by decide) c_37
                        refine lv_aload_n hx hb dX12_numbers_70 rfl (lv_at hl 1 rfl) ?_
                        refine va_get (D := D) (ci := 12) (v := .ref a_nu) (C := RX12) (T := TX12) (N := 36) hx hb hts uX12 hown hkb.1 hP 0 rfl rfl 35 (by decide) (hts _ kw_1258) (fun _ h9 => h9) rfl dX12_numbers_71 ?_
                        refine lv_bipush (v := 40) hx hb dX12_numbers_74 (by decide) ?_
                        refine lv_iload_n hx hb dX12_numbers_76 rfl (lv_at hl 2 rfl) ?_
                        refine lv_imul hx hb dX12_numbers_77 ?_
                        refine lv_topi (fun v_38 ev_38 => ?_)
                        refine lv_iload hx hb dX12_numbers_78 (lv_at hl 0 rfl) ?_
                        refine lv_iadd hx hb dX12_numbers_80 ?_
                        refine lv_topi (fun v_39 ev_39 => ?_)
                        refine lv_lconst (v := 0) hx hb dX12_numbers_81 (by decide) ?_
                        refine s_l 3 2 hx hb hkb.1 hP hD hS rfl rfl (in40 (by omega) (by omega) ev_38 ev_39 (by decide +kernel)) (Int32.toNatClampNeg v_39) (rfl) dX12_numbers_82 (fun H locs hP hD hS => ?_)
                        have hP : va_P D cls [(h0, .inr (12, [.int 0, .ref a_al, .ref a_hi, .ref a_mt, .ref a_fr, .int 0, .int 0, .int 0, .int 0, .int 0, .int 0, .int 0, .int 0, .int 0, .int (-1), .ref a_rk, .int 0, .ref a_on, .ref a_aw, .ref a_ro, .int 0, .ref a_ws, .ref a_ah, .int 0, .int 0, .int 0, .ref a_cl, .ref a_us, .ref a_mo, .ref a_to, .ref a_mb, .ref a_le, .int 0, .ref a_rs, .ref a_rm, .ref a_nu])), (a_rs, .inl (cI, 4, .inl f_7)), (a_rm, .inl (cI, 4, .inl f_8)), (a_nu, .inl (cJ, 160, .inr (.inl (vp_updL f_36 (Int32.toNatClampNeg v_39) 0))))] H := hP
                        have hD : va_D A [(h0, .inr (12, [.int 0, .ref a_al, .ref a_hi, .ref a_mt, .ref a_fr, .int 0, .int 0, .int 0, .int 0, .int 0, .int 0, .int 0, .int 0, .int 0, .int (-1), .ref a_rk, .int 0, .ref a_on, .ref a_aw, .ref a_ro, .int 0, .ref a_ws, .ref a_ah, .int 0, .int 0, .int 0, .ref a_cl, .ref a_us, .ref a_mo, .ref a_to, .ref a_mb, .ref a_le, .int 0, .ref a_rs, .ref a_rm, .ref a_nu])), (a_rs, .inl (cI, 4, .inl f_7)), (a_rm, .inl (cI, 4, .inl f_8)), (a_nu, .inl (cJ, 160, .inr (.inl (vp_updL f_36 (Int32.toNatClampNeg v_39) 0))))] := hD
                        generalize hq9 : vp_updL f_36 (Int32.toNatClampNeg v_39) 0 = f_40 at hP hD; clear hq9
                        have hP : va_P D cls [(h0, .inr (12, [.int 0, .ref a_al, .ref a_hi, .ref a_mt, .ref a_fr, .int 0, .int 0, .int 0, .int 0, .int 0, .int 0, .int 0, .int 0, .int 0, .int (-1), .ref a_rk, .int 0, .ref a_on, .ref a_aw, .ref a_ro, .int 0, .ref a_ws, .ref a_ah, .int 0, .int 0, .int 0, .ref a_cl, .ref a_us, .ref a_mo, .ref a_to, .ref a_mb, .ref a_le, .int 0, .ref a_rs, .ref a_rm, .ref a_nu])), (a_rs, .inl (cI, 4, .inl f_7)), (a_rm, .inl (cI, 4, .inl f_8)), (a_nu, .inl (cJ, 160, .inr (.inl f_40)))] H := hP
                        have hD : va_D A [(h0, .inr (12, [.int 0, .ref a_al, .ref a_hi, .ref a_mt, .ref a_fr, .int 0, .int 0, .int 0, .int 0, .int 0, .int 0, .int 0, .int 0, .int 0, .int (-1), .ref a_rk, .int 0, .ref a_on, .ref a_aw, .ref a_ro, .int 0, .ref a_ws, .ref a_ah, .int 0, .int 0, .int 0, .ref a_cl, .ref a_us, .ref a_mo, .ref a_to, .ref a_mb, .ref a_le, .int 0, .ref a_rs, .ref a_rm, .ref a_nu])), (a_rs, .inl (cI, 4, .inl f_7)), (a_rm, .inl (cI, 4, .inl f_8)), (a_nu, .inl (cJ, 160, .inr (.inl f_40)))] := hD
                        refine lv_iinc (v := 8) (lv' := [(4, .int 8), (0, .ref h0), (1, .int i_0), (2, .int i_1), (3, .int i_2)]) hx hb dX12_numbers_83 hl (k := 0) rfl (by decide) (by decide) rfl (fun ls hl => ?_)
                        refine lv_goto (tgt := 64) hx hb dX12_numbers_86 (by decide) ?_
                        refine lv_iload hx hb dX12_numbers_64 (lv_at hl 0 rfl) ?_
                        refine lv_iload_n hx hb dX12_numbers_66 rfl (lv_at hl 4 rfl) ?_
                        refine lv_icmp_ge (tgt := 89) hx hb dX12_numbers_67 (by decide) (fun c_41 => ?_) (fun c_41 => ?_)
                        · skip
                          have tc_41 := f_le (k := 8) (by decide) c_41
                          refine lv_iconst (v := 0) hx hb dX12_numbers_89 (by decide) ?_
                          refine W.widen (k := 0) (n := 0) (Nat.le_of_ble_eq_true rfl) (Nat.le_of_ble_eq_true rfl) ?_
                          exact e_i (u := []) hx hb hr hlocks (hP.sub (ws' := []) [] rfl) (hD.sub (ws' := []) [] (by decide) rfl) hS ⟨(by unfold F_numbers; (repeat' split) <;> first | rfl | (exfalso; omega)), rfl⟩ dX12_numbers_90
                        · skip
                          have tc_41 := f_nle (k := 8) (by decide) c_41
                          refine lv_aload_n hx hb dX12_numbers_70 rfl (lv_at hl 1 rfl) ?_
                          refine va_get (D := D) (ci := 12) (v := .ref a_nu) (C := RX12) (T := TX12) (N := 36) hx hb hts uX12 hown hkb.1 hP 0 rfl rfl 35 (by decide) (hts _ kw_1258) (fun _ h9 => h9) rfl dX12_numbers_71 ?_
                          refine lv_bipush (v := 40) hx hb dX12_numbers_74 (by decide) ?_
                          refine lv_iload_n hx hb dX12_numbers_76 rfl (lv_at hl 2 rfl) ?_
                          refine lv_imul hx hb dX12_numbers_77 ?_
                          refine lv_topi (fun v_42 ev_42 => ?_)
                          refine lv_iload hx hb dX12_numbers_78 (lv_at hl 0 rfl) ?_
                          refine lv_iadd hx hb dX12_numbers_80 ?_
                          refine lv_topi (fun v_43 ev_43 => ?_)
                          refine lv_lconst (v := 0) hx hb dX12_numbers_81 (by decide) ?_
                          refine s_l 3 2 hx hb hkb.1 hP hD hS rfl rfl (in40 (by omega) (by omega) ev_42 ev_43 (by decide +kernel)) (Int32.toNatClampNeg v_43) (rfl) dX12_numbers_82 (fun H locs hP hD hS => ?_)
                          have hP : va_P D cls [(h0, .inr (12, [.int 0, .ref a_al, .ref a_hi, .ref a_mt, .ref a_fr, .int 0, .int 0, .int 0, .int 0, .int 0, .int 0, .int 0, .int 0, .int 0, .int (-1), .ref a_rk, .int 0, .ref a_on, .ref a_aw, .ref a_ro, .int 0, .ref a_ws, .ref a_ah, .int 0, .int 0, .int 0, .ref a_cl, .ref a_us, .ref a_mo, .ref a_to, .ref a_mb, .ref a_le, .int 0, .ref a_rs, .ref a_rm, .ref a_nu])), (a_rs, .inl (cI, 4, .inl f_7)), (a_rm, .inl (cI, 4, .inl f_8)), (a_nu, .inl (cJ, 160, .inr (.inl (vp_updL f_40 (Int32.toNatClampNeg v_43) 0))))] H := hP
                          have hD : va_D A [(h0, .inr (12, [.int 0, .ref a_al, .ref a_hi, .ref a_mt, .ref a_fr, .int 0, .int 0, .int 0, .int 0, .int 0, .int 0, .int 0, .int 0, .int 0, .int (-1), .ref a_rk, .int 0, .ref a_on, .ref a_aw, .ref a_ro, .int 0, .ref a_ws, .ref a_ah, .int 0, .int 0, .int 0, .ref a_cl, .ref a_us, .ref a_mo, .ref a_to, .ref a_mb, .ref a_le, .int 0, .ref a_rs, .ref a_rm, .ref a_nu])), (a_rs, .inl (cI, 4, .inl f_7)), (a_rm, .inl (cI, 4, .inl f_8)), (a_nu, .inl (cJ, 160, .inr (.inl (vp_updL f_40 (Int32.toNatClampNeg v_43) 0))))] := hD
                          generalize hq9 : vp_updL f_40 (Int32.toNatClampNeg v_43) 0 = f_44 at hP hD; clear hq9
                          have hP : va_P D cls [(h0, .inr (12, [.int 0, .ref a_al, .ref a_hi, .ref a_mt, .ref a_fr, .int 0, .int 0, .int 0, .int 0, .int 0, .int 0, .int 0, .int 0, .int 0, .int (-1), .ref a_rk, .int 0, .ref a_on, .ref a_aw, .ref a_ro, .int 0, .ref a_ws, .ref a_ah, .int 0, .int 0, .int 0, .ref a_cl, .ref a_us, .ref a_mo, .ref a_to, .ref a_mb, .ref a_le, .int 0, .ref a_rs, .ref a_rm, .ref a_nu])), (a_rs, .inl (cI, 4, .inl f_7)), (a_rm, .inl (cI, 4, .inl f_8)), (a_nu, .inl (cJ, 160, .inr (.inl f_44)))] H := hP
                          have hD : va_D A [(h0, .inr (12, [.int 0, .ref a_al, .ref a_hi, .ref a_mt, .ref a_fr, .int 0, .int 0, .int 0, .int 0, .int 0, .int 0, .int 0, .int 0, .int 0, .int (-1), .ref a_rk, .int 0, .ref a_on, .ref a_aw, .ref a_ro, .int 0, .ref a_ws, .ref a_ah, .int 0, .int 0, .int 0, .ref a_cl, .ref a_us, .ref a_mo, .ref a_to, .ref a_mb, .ref a_le, .int 0, .ref a_rs, .ref a_rm, .ref a_nu])), (a_rs, .inl (cI, 4, .inl f_7)), (a_rm, .inl (cI, 4, .inl f_8)), (a_nu, .inl (cJ, 160, .inr (.inl f_44)))] := hD
                          refine lv_iinc (v := 9) (lv' := [(4, .int 9), (0, .ref h0), (1, .int i_0), (2, .int i_1), (3, .int i_2)]) hx hb dX12_numbers_83 hl (k := 0) rfl (by decide) (by decide) rfl (fun ls hl => ?_)
                          refine lv_goto (tgt := 64) hx hb dX12_numbers_86 (by decide) ?_
                          refine lv_iload hx hb dX12_numbers_64 (lv_at hl 0 rfl) ?_
                          refine lv_iload_n hx hb dX12_numbers_66 rfl (lv_at hl 4 rfl) ?_
                          refine lv_icmp_ge (tgt := 89) hx hb dX12_numbers_67 (by decide) (fun c_45 => ?_) (fun c_45 => ?_)
                          · skip
                            have tc_45 := f_le (k := 9) (by decide) c_45
                            refine lv_iconst (v := 0) hx hb dX12_numbers_89 (by decide) ?_
                            refine W.widen (k := 0) (n := 0) (Nat.le_of_ble_eq_true rfl) (Nat.le_of_ble_eq_true rfl) ?_
                            exact e_i (u := []) hx hb hr hlocks (hP.sub (ws' := []) [] rfl) (hD.sub (ws' := []) [] (by decide) rfl) hS ⟨(by unfold F_numbers; (repeat' split) <;> first | rfl | (exfalso; omega)), rfl⟩ dX12_numbers_90
                          · skip
                            have tc_45 := f_nle (k := 9) (by decide) c_45
                            refine lv_aload_n hx hb dX12_numbers_70 rfl (lv_at hl 1 rfl) ?_
                            refine va_get (D := D) (ci := 12) (v := .ref a_nu) (C := RX12) (T := TX12) (N := 36) hx hb hts uX12 hown hkb.1 hP 0 rfl rfl 35 (by decide) (hts _ kw_1258) (fun _ h9 => h9) rfl dX12_numbers_71 ?_
                            refine lv_bipush (v := 40) hx hb dX12_numbers_74 (by decide) ?_
                            refine lv_iload_n hx hb dX12_numbers_76 rfl (lv_at hl 2 rfl) ?_
                            refine lv_imul hx hb dX12_numbers_77 ?_
                            refine lv_topi (fun v_46 ev_46 => ?_)
                            refine lv_iload hx hb dX12_numbers_78 (lv_at hl 0 rfl) ?_
                            refine lv_iadd hx hb dX12_numbers_80 ?_
                            refine lv_topi (fun v_47 ev_47 => ?_)
                            refine lv_lconst (v := 0) hx hb dX12_numbers_81 (by decide) ?_
                            refine s_l 3 2 hx hb hkb.1 hP hD hS rfl rfl (in40 (by omega) (by omega) ev_46 ev_47 (by decide +kernel)) (Int32.toNatClampNeg v_47) (rfl) dX12_numbers_82 (fun H locs hP hD hS => ?_)
                            have hP : va_P D cls [(h0, .inr (12, [.int 0, .ref a_al, .ref a_hi, .ref a_mt, .ref a_fr, .int 0, .int 0, .int 0, .int 0, .int 0, .int 0, .int 0, .int 0, .int 0, .int (-1), .ref a_rk, .int 0, .ref a_on, .ref a_aw, .ref a_ro, .int 0, .ref a_ws, .ref a_ah, .int 0, .int 0, .int 0, .ref a_cl, .ref a_us, .ref a_mo, .ref a_to, .ref a_mb, .ref a_le, .int 0, .ref a_rs, .ref a_rm, .ref a_nu])), (a_rs, .inl (cI, 4, .inl f_7)), (a_rm, .inl (cI, 4, .inl f_8)), (a_nu, .inl (cJ, 160, .inr (.inl (vp_updL f_44 (Int32.toNatClampNeg v_47) 0))))] H := hP
                            have hD : va_D A [(h0, .inr (12, [.int 0, .ref a_al, .ref a_hi, .ref a_mt, .ref a_fr, .int 0, .int 0, .int 0, .int 0, .int 0, .int 0, .int 0, .int 0, .int 0, .int (-1), .ref a_rk, .int 0, .ref a_on, .ref a_aw, .ref a_ro, .int 0, .ref a_ws, .ref a_ah, .int 0, .int 0, .int 0, .ref a_cl, .ref a_us, .ref a_mo, .ref a_to, .ref a_mb, .ref a_le, .int 0, .ref a_rs, .ref a_rm, .ref a_nu])), (a_rs, .inl (cI, 4, .inl f_7)), (a_rm, .inl (cI, 4, .inl f_8)), (a_nu, .inl (cJ, 160, .inr (.inl (vp_updL f_44 (Int32.toNatClampNeg v_47) 0))))] := hD
                            generalize hq9 : vp_updL f_44 (Int32.toNatClampNeg v_47) 0 = f_48 at hP hD; clear hq9
                            have hP : va_P D cls [(h0, .inr (12, [.int 0, .ref a_al, .ref a_hi, .ref a_mt, .ref a_fr, .int 0, .int 0, .int 0, .int 0, .int 0, .int 0, .int 0, .int 0, .int 0, .int (-1), .ref a_rk, .int 0, .ref a_on, .ref a_aw, .ref a_ro, .int 0, .ref a_ws, .ref a_ah, .int 0, .int 0, .int 0, .ref a_cl, .ref a_us, .ref a_mo, .ref a_to, .ref a_mb, .ref a_le, .int 0, .ref a_rs, .ref a_rm, .ref a_nu])), (a_rs, .inl (cI, 4, .inl f_7)), (a_rm, .inl (cI, 4, .inl f_8)), (a_nu, .inl (cJ, 160, .inr (.inl f_48)))] H := hP
                            have hD : va_D A [(h0, .inr (12, [.int 0, .ref a_al, .ref a_hi, .ref a_mt, .ref a_fr, .int 0, .int 0, .int 0, .int 0, .int 0, .int 0, .int 0, .int 0, .int 0, .int (-1), .ref a_rk, .int 0, .ref a_on, .ref a_aw, .ref a_ro, .int 0, .ref a_ws, .ref a_ah, .int 0, .int 0, .int 0, .ref a_cl, .ref a_us, .ref a_mo, .ref a_to, .ref a_mb, .ref a_le, .int 0, .ref a_rs, .ref a_rm, .ref a_nu])), (a_rs, .inl (cI, 4, .inl f_7)), (a_rm, .inl (cI, 4, .inl f_8)), (a_nu, .inl (cJ, 160, .inr (.inl f_48)))] := hD
                            refine lv_iinc (v := 10) (lv' := [(4, .int 10), (0, .ref h0), (1, .int i_0), (2, .int i_1), (3, .int i_2)]) hx hb dX12_numbers_83 hl (k := 0) rfl (by decide) (by decide) rfl (fun ls hl => ?_)
                            refine lv_goto (tgt := 64) hx hb dX12_numbers_86 (by decide) ?_
                            refine lv_iload hx hb dX12_numbers_64 (lv_at hl 0 rfl) ?_
                            refine lv_iload_n hx hb dX12_numbers_66 rfl (lv_at hl 4 rfl) ?_
                            refine lv_icmp_ge (tgt := 89) hx hb dX12_numbers_67 (by decide) (fun c_49 => ?_) (fun c_49 => ?_)
                            · skip
                              have tc_49 := f_le (k := 10) (by decide) c_49
                              refine lv_iconst (v := 0) hx hb dX12_numbers_89 (by decide) ?_
                              refine W.widen (k := 0) (n := 0) (Nat.le_of_ble_eq_true rfl) (Nat.le_of_ble_eq_true rfl) ?_
                              exact e_i (u := []) hx hb hr hlocks (hP.sub (ws' := []) [] rfl) (hD.sub (ws' := []) [] (by decide) rfl) hS ⟨(by unfold F_numbers; (repeat' split) <;> first | rfl | (exfalso; omega)), rfl⟩ dX12_numbers_90
                            · skip
                              have tc_49 := f_nle (k := 10) (by decide) c_49
                              refine lv_aload_n hx hb dX12_numbers_70 rfl (lv_at hl 1 rfl) ?_
                              refine va_get (D := D) (ci := 12) (v := .ref a_nu) (C := RX12) (T := TX12) (N := 36) hx hb hts uX12 hown hkb.1 hP 0 rfl rfl 35 (by decide) (hts _ kw_1258) (fun _ h9 => h9) rfl dX12_numbers_71 ?_
                              refine lv_bipush (v := 40) hx hb dX12_numbers_74 (by decide) ?_
                              refine lv_iload_n hx hb dX12_numbers_76 rfl (lv_at hl 2 rfl) ?_
                              refine lv_imul hx hb dX12_numbers_77 ?_
                              refine lv_topi (fun v_50 ev_50 => ?_)
                              refine lv_iload hx hb dX12_numbers_78 (lv_at hl 0 rfl) ?_
                              refine lv_iadd hx hb dX12_numbers_80 ?_
                              refine lv_topi (fun v_51 ev_51 => ?_)
                              refine lv_lconst (v := 0) hx hb dX12_numbers_81 (by decide) ?_
                              refine s_l 3 2 hx hb hkb.1 hP hD hS rfl rfl (in40 (by omega) (by omega) ev_50 ev_51 (by decide +kernel)) (Int32.toNatClampNeg v_51) (rfl) dX12_numbers_82 (fun H locs hP hD hS => ?_)
                              have hP : va_P D cls [(h0, .inr (12, [.int 0, .ref a_al, .ref a_hi, .ref a_mt, .ref a_fr, .int 0, .int 0, .int 0, .int 0, .int 0, .int 0, .int 0, .int 0, .int 0, .int (-1), .ref a_rk, .int 0, .ref a_on, .ref a_aw, .ref a_ro, .int 0, .ref a_ws, .ref a_ah, .int 0, .int 0, .int 0, .ref a_cl, .ref a_us, .ref a_mo, .ref a_to, .ref a_mb, .ref a_le, .int 0, .ref a_rs, .ref a_rm, .ref a_nu])), (a_rs, .inl (cI, 4, .inl f_7)), (a_rm, .inl (cI, 4, .inl f_8)), (a_nu, .inl (cJ, 160, .inr (.inl (vp_updL f_48 (Int32.toNatClampNeg v_51) 0))))] H := hP
                              have hD : va_D A [(h0, .inr (12, [.int 0, .ref a_al, .ref a_hi, .ref a_mt, .ref a_fr, .int 0, .int 0, .int 0, .int 0, .int 0, .int 0, .int 0, .int 0, .int 0, .int (-1), .ref a_rk, .int 0, .ref a_on, .ref a_aw, .ref a_ro, .int 0, .ref a_ws, .ref a_ah, .int 0, .int 0, .int 0, .ref a_cl, .ref a_us, .ref a_mo, .ref a_to, .ref a_mb, .ref a_le, .int 0, .ref a_rs, .ref a_rm, .ref a_nu])), (a_rs, .inl (cI, 4, .inl f_7)), (a_rm, .inl (cI, 4, .inl f_8)), (a_nu, .inl (cJ, 160, .inr (.inl (vp_updL f_48 (Int32.toNatClampNeg v_51) 0))))] := hD
                              generalize hq9 : vp_updL f_48 (Int32.toNatClampNeg v_51) 0 = f_52 at hP hD; clear hq9
                              have hP : va_P D cls [(h0, .inr (12, [.int 0, .ref a_al, .ref a_hi, .ref a_mt, .ref a_fr, .int 0, .int 0, .int 0, .int 0, .int 0, .int 0, .int 0, .int 0, .int 0, .int (-1), .ref a_rk, .int 0, .ref a_on, .ref a_aw, .ref a_ro, .int 0, .ref a_ws, .ref a_ah, .int 0, .int 0, .int 0, .ref a_cl, .ref a_us, .ref a_mo, .ref a_to, .ref a_mb, .ref a_le, .int 0, .ref a_rs, .ref a_rm, .ref a_nu])), (a_rs, .inl (cI, 4, .inl f_7)), (a_rm, .inl (cI, 4, .inl f_8)), (a_nu, .inl (cJ, 160, .inr (.inl f_52)))] H := hP
                              have hD : va_D A [(h0, .inr (12, [.int 0, .ref a_al, .ref a_hi, .ref a_mt, .ref a_fr, .int 0, .int 0, .int 0, .int 0, .int 0, .int 0, .int 0, .int 0, .int 0, .int (-1), .ref a_rk, .int 0, .ref a_on, .ref a_aw, .ref a_ro, .int 0, .ref a_ws, .ref a_ah, .int 0, .int 0, .int 0, .ref a_cl, .ref a_us, .ref a_mo, .ref a_to, .ref a_mb, .ref a_le, .int 0, .ref a_rs, .ref a_rm, .ref a_nu])), (a_rs, .inl (cI, 4, .inl f_7)), (a_rm, .inl (cI, 4, .inl f_8)), (a_nu, .inl (cJ, 160, .inr (.inl f_52)))] := hD
                              refine lv_iinc (v := 11) (lv' := [(4, .int 11), (0, .ref h0), (1, .int i_0), (2, .int i_1), (3, .int i_2)]) hx hb dX12_numbers_83 hl (k := 0) rfl (by decide) (by decide) rfl (fun ls hl => ?_)
                              refine lv_goto (tgt := 64) hx hb dX12_numbers_86 (by decide) ?_
                              refine lv_iload hx hb dX12_numbers_64 (lv_at hl 0 rfl) ?_
                              refine lv_iload_n hx hb dX12_numbers_66 rfl (lv_at hl 4 rfl) ?_
                              refine lv_icmp_ge (tgt := 89) hx hb dX12_numbers_67 (by decide) (fun c_53 => ?_) (fun c_53 => ?_)
                              · skip
                                have tc_53 := f_le (k := 11) (by decide) c_53
                                refine lv_iconst (v := 0) hx hb dX12_numbers_89 (by decide) ?_
                                refine W.widen (k := 0) (n := 0) (Nat.le_of_ble_eq_true rfl) (Nat.le_of_ble_eq_true rfl) ?_
                                exact e_i (u := []) hx hb hr hlocks (hP.sub (ws' := []) [] rfl) (hD.sub (ws' := []) [] (by decide) rfl) hS ⟨(by unfold F_numbers; (repeat' split) <;> first | rfl | (exfalso; omega)), rfl⟩ dX12_numbers_90
                              · skip
                                have tc_53 := f_nle (k := 11) (by decide) c_53
                                refine lv_aload_n hx hb dX12_numbers_70 rfl (lv_at hl 1 rfl) ?_
                                refine va_get (D := D) (ci := 12) (v := .ref a_nu) (C := RX12) (T := TX12) (N := 36) hx hb hts uX12 hown hkb.1 hP 0 rfl rfl 35 (by decide) (hts _ kw_1258) (fun _ h9 => h9) rfl dX12_numbers_71 ?_
                                refine lv_bipush (v := 40) hx hb dX12_numbers_74 (by decide) ?_
                                refine lv_iload_n hx hb dX12_numbers_76 rfl (lv_at hl 2 rfl) ?_
                                refine lv_imul hx hb dX12_numbers_77 ?_
                                refine lv_topi (fun v_54 ev_54 => ?_)
                                refine lv_iload hx hb dX12_numbers_78 (lv_at hl 0 rfl) ?_
                                refine lv_iadd hx hb dX12_numbers_80 ?_
                                refine lv_topi (fun v_55 ev_55 => ?_)
                                refine lv_lconst (v := 0) hx hb dX12_numbers_81 (by decide) ?_
                                refine s_l 3 2 hx hb hkb.1 hP hD hS rfl rfl (in40 (by omega) (by omega) ev_54 ev_55 (by decide +kernel)) (Int32.toNatClampNeg v_55) (rfl) dX12_numbers_82 (fun H locs hP hD hS => ?_)
                                have hP : va_P D cls [(h0, .inr (12, [.int 0, .ref a_al, .ref a_hi, .ref a_mt, .ref a_fr, .int 0, .int 0, .int 0, .int 0, .int 0, .int 0, .int 0, .int 0, .int 0, .int (-1), .ref a_rk, .int 0, .ref a_on, .ref a_aw, .ref a_ro, .int 0, .ref a_ws, .ref a_ah, .int 0, .int 0, .int 0, .ref a_cl, .ref a_us, .ref a_mo, .ref a_to, .ref a_mb, .ref a_le, .int 0, .ref a_rs, .ref a_rm, .ref a_nu])), (a_rs, .inl (cI, 4, .inl f_7)), (a_rm, .inl (cI, 4, .inl f_8)), (a_nu, .inl (cJ, 160, .inr (.inl (vp_updL f_52 (Int32.toNatClampNeg v_55) 0))))] H := hP
                                have hD : va_D A [(h0, .inr (12, [.int 0, .ref a_al, .ref a_hi, .ref a_mt, .ref a_fr, .int 0, .int 0, .int 0, .int 0, .int 0, .int 0, .int 0, .int 0, .int 0, .int (-1), .ref a_rk, .int 0, .ref a_on, .ref a_aw, .ref a_ro, .int 0, .ref a_ws, .ref a_ah, .int 0, .int 0, .int 0, .ref a_cl, .ref a_us, .ref a_mo, .ref a_to, .ref a_mb, .ref a_le, .int 0, .ref a_rs, .ref a_rm, .ref a_nu])), (a_rs, .inl (cI, 4, .inl f_7)), (a_rm, .inl (cI, 4, .inl f_8)), (a_nu, .inl (cJ, 160, .inr (.inl (vp_updL f_52 (Int32.toNatClampNeg v_55) 0))))] := hD
                                generalize hq9 : vp_updL f_52 (Int32.toNatClampNeg v_55) 0 = f_56 at hP hD; clear hq9
                                have hP : va_P D cls [(h0, .inr (12, [.int 0, .ref a_al, .ref a_hi, .ref a_mt, .ref a_fr, .int 0, .int 0, .int 0, .int 0, .int 0, .int 0, .int 0, .int 0, .int 0, .int (-1), .ref a_rk, .int 0, .ref a_on, .ref a_aw, .ref a_ro, .int 0, .ref a_ws, .ref a_ah, .int 0, .int 0, .int 0, .ref a_cl, .ref a_us, .ref a_mo, .ref a_to, .ref a_mb, .ref a_le, .int 0, .ref a_rs, .ref a_rm, .ref a_nu])), (a_rs, .inl (cI, 4, .inl f_7)), (a_rm, .inl (cI, 4, .inl f_8)), (a_nu, .inl (cJ, 160, .inr (.inl f_56)))] H := hP
                                have hD : va_D A [(h0, .inr (12, [.int 0, .ref a_al, .ref a_hi, .ref a_mt, .ref a_fr, .int 0, .int 0, .int 0, .int 0, .int 0, .int 0, .int 0, .int 0, .int 0, .int (-1), .ref a_rk, .int 0, .ref a_on, .ref a_aw, .ref a_ro, .int 0, .ref a_ws, .ref a_ah, .int 0, .int 0, .int 0, .ref a_cl, .ref a_us, .ref a_mo, .ref a_to, .ref a_mb, .ref a_le, .int 0, .ref a_rs, .ref a_rm, .ref a_nu])), (a_rs, .inl (cI, 4, .inl f_7)), (a_rm, .inl (cI, 4, .inl f_8)), (a_nu, .inl (cJ, 160, .inr (.inl f_56)))] := hD
                                refine lv_iinc (v := 12) (lv' := [(4, .int 12), (0, .ref h0), (1, .int i_0), (2, .int i_1), (3, .int i_2)]) hx hb dX12_numbers_83 hl (k := 0) rfl (by decide) (by decide) rfl (fun ls hl => ?_)
                                refine lv_goto (tgt := 64) hx hb dX12_numbers_86 (by decide) ?_
                                refine lv_iload hx hb dX12_numbers_64 (lv_at hl 0 rfl) ?_
                                refine lv_iload_n hx hb dX12_numbers_66 rfl (lv_at hl 4 rfl) ?_
                                refine lv_icmp_ge (tgt := 89) hx hb dX12_numbers_67 (by decide) (fun c_57 => ?_) (fun c_57 => ?_)
                                · skip
                                  have tc_57 := f_le (k := 12) (by decide) c_57
                                  refine lv_iconst (v := 0) hx hb dX12_numbers_89 (by decide) ?_
                                  refine W.widen (k := 0) (n := 0) (Nat.le_of_ble_eq_true rfl) (Nat.le_of_ble_eq_true rfl) ?_
                                  exact e_i (u := []) hx hb hr hlocks (hP.sub (ws' := []) [] rfl) (hD.sub (ws' := []) [] (by decide) rfl) hS ⟨(by unfold F_numbers; (repeat' split) <;> first | rfl | (exfalso; omega)), rfl⟩ dX12_numbers_90
                                · skip
                                  have tc_57 := f_nle (k := 12) (by decide) c_57
                                  refine lv_aload_n hx hb dX12_numbers_70 rfl (lv_at hl 1 rfl) ?_
                                  refine va_get (D := D) (ci := 12) (v := .ref a_nu) (C := RX12) (T := TX12) (N := 36) hx hb hts uX12 hown hkb.1 hP 0 rfl rfl 35 (by decide) (hts _ kw_1258) (fun _ h9 => h9) rfl dX12_numbers_71 ?_
                                  refine lv_bipush (v := 40) hx hb dX12_numbers_74 (by decide) ?_
                                  refine lv_iload_n hx hb dX12_numbers_76 rfl (lv_at hl 2 rfl) ?_
                                  refine lv_imul hx hb dX12_numbers_77 ?_
                                  refine lv_topi (fun v_58 ev_58 => ?_)
                                  refine lv_iload hx hb dX12_numbers_78 (lv_at hl 0 rfl) ?_
                                  refine lv_iadd hx hb dX12_numbers_80 ?_
                                  refine lv_topi (fun v_59 ev_59 => ?_)
                                  refine lv_lconst (v := 0) hx hb dX12_numbers_81 (by decide) ?_
                                  refine s_l 3 2 hx hb hkb.1 hP hD hS rfl rfl (in40 (by omega) (by omega) ev_58 ev_59 (by decide +kernel)) (Int32.toNatClampNeg v_59) (rfl) dX12_numbers_82 (fun H locs hP hD hS => ?_)
                                  have hP : va_P D cls [(h0, .inr (12, [.int 0, .ref a_al, .ref a_hi, .ref a_mt, .ref a_fr, .int 0, .int 0, .int 0, .int 0, .int 0, .int 0, .int 0, .int 0, .int 0, .int (-1), .ref a_rk, .int 0, .ref a_on, .ref a_aw, .ref a_ro, .int 0, .ref a_ws, .ref a_ah, .int 0, .int 0, .int 0, .ref a_cl, .ref a_us, .ref a_mo, .ref a_to, .ref a_mb, .ref a_le, .int 0, .ref a_rs, .ref a_rm, .ref a_nu])), (a_rs, .inl (cI, 4, .inl f_7)), (a_rm, .inl (cI, 4, .inl f_8)), (a_nu, .inl (cJ, 160, .inr (.inl (vp_updL f_56 (Int32.toNatClampNeg v_59) 0))))] H := hP
                                  have hD : va_D A [(h0, .inr (12, [.int 0, .ref a_al, .ref a_hi, .ref a_mt, .ref a_fr, .int 0, .int 0, .int 0, .int 0, .int 0, .int 0, .int 0, .int 0, .int 0, .int (-1), .ref a_rk, .int 0, .ref a_on, .ref a_aw, .ref a_ro, .int 0, .ref a_ws, .ref a_ah, .int 0, .int 0, .int 0, .ref a_cl, .ref a_us, .ref a_mo, .ref a_to, .ref a_mb, .ref a_le, .int 0, .ref a_rs, .ref a_rm, .ref a_nu])), (a_rs, .inl (cI, 4, .inl f_7)), (a_rm, .inl (cI, 4, .inl f_8)), (a_nu, .inl (cJ, 160, .inr (.inl (vp_updL f_56 (Int32.toNatClampNeg v_59) 0))))] := hD
                                  generalize hq9 : vp_updL f_56 (Int32.toNatClampNeg v_59) 0 = f_60 at hP hD; clear hq9
                                  have hP : va_P D cls [(h0, .inr (12, [.int 0, .ref a_al, .ref a_hi, .ref a_mt, .ref a_fr, .int 0, .int 0, .int 0, .int 0, .int 0, .int 0, .int 0, .int 0, .int 0, .int (-1), .ref a_rk, .int 0, .ref a_on, .ref a_aw, .ref a_ro, .int 0, .ref a_ws, .ref a_ah, .int 0, .int 0, .int 0, .ref a_cl, .ref a_us, .ref a_mo, .ref a_to, .ref a_mb, .ref a_le, .int 0, .ref a_rs, .ref a_rm, .ref a_nu])), (a_rs, .inl (cI, 4, .inl f_7)), (a_rm, .inl (cI, 4, .inl f_8)), (a_nu, .inl (cJ, 160, .inr (.inl f_60)))] H := hP
                                  have hD : va_D A [(h0, .inr (12, [.int 0, .ref a_al, .ref a_hi, .ref a_mt, .ref a_fr, .int 0, .int 0, .int 0, .int 0, .int 0, .int 0, .int 0, .int 0, .int 0, .int (-1), .ref a_rk, .int 0, .ref a_on, .ref a_aw, .ref a_ro, .int 0, .ref a_ws, .ref a_ah, .int 0, .int 0, .int 0, .ref a_cl, .ref a_us, .ref a_mo, .ref a_to, .ref a_mb, .ref a_le, .int 0, .ref a_rs, .ref a_rm, .ref a_nu])), (a_rs, .inl (cI, 4, .inl f_7)), (a_rm, .inl (cI, 4, .inl f_8)), (a_nu, .inl (cJ, 160, .inr (.inl f_60)))] := hD
                                  refine lv_iinc (v := 13) (lv' := [(4, .int 13), (0, .ref h0), (1, .int i_0), (2, .int i_1), (3, .int i_2)]) hx hb dX12_numbers_83 hl (k := 0) rfl (by decide) (by decide) rfl (fun ls hl => ?_)
                                  refine lv_goto (tgt := 64) hx hb dX12_numbers_86 (by decide) ?_
                                  refine lv_iload hx hb dX12_numbers_64 (lv_at hl 0 rfl) ?_
                                  refine lv_iload_n hx hb dX12_numbers_66 rfl (lv_at hl 4 rfl) ?_
                                  refine lv_icmp_ge (tgt := 89) hx hb dX12_numbers_67 (by decide) (fun c_61 => ?_) (fun c_61 => ?_)
                                  · skip
                                    have tc_61 := f_le (k := 13) (by decide) c_61
                                    refine lv_iconst (v := 0) hx hb dX12_numbers_89 (by decide) ?_
                                    refine W.widen (k := 0) (n := 0) (Nat.le_of_ble_eq_true rfl) (Nat.le_of_ble_eq_true rfl) ?_
                                    exact e_i (u := []) hx hb hr hlocks (hP.sub (ws' := []) [] rfl) (hD.sub (ws' := []) [] (by decide) rfl) hS ⟨(by unfold F_numbers; (repeat' split) <;> first | rfl | (exfalso; omega)), rfl⟩ dX12_numbers_90
                                  · skip
                                    have tc_61 := f_nle (k := 13) (by decide) c_61
                                    refine lv_aload_n hx hb dX12_numbers_70 rfl (lv_at hl 1 rfl) ?_
                                    refine va_get (D := D) (ci := 12) (v := .ref a_nu) (C := RX12) (T := TX12) (N := 36) hx hb hts uX12 hown hkb.1 hP 0 rfl rfl 35 (by decide) (hts _ kw_1258) (fun _ h9 => h9) rfl dX12_numbers_71 ?_
                                    refine lv_bipush (v := 40) hx hb dX12_numbers_74 (by decide) ?_
                                    refine lv_iload_n hx hb dX12_numbers_76 rfl (lv_at hl 2 rfl) ?_
                                    refine lv_imul hx hb dX12_numbers_77 ?_
                                    refine lv_topi (fun v_62 ev_62 => ?_)
                                    refine lv_iload hx hb dX12_numbers_78 (lv_at hl 0 rfl) ?_
                                    refine lv_iadd hx hb dX12_numbers_80 ?_
                                    refine lv_topi (fun v_63 ev_63 => ?_)
                                    refine lv_lconst (v := 0) hx hb dX12_numbers_81 (by decide) ?_
                                    refine s_l 3 2 hx hb hkb.1 hP hD hS rfl rfl (in40 (by omega) (by omega) ev_62 ev_63 (by decide +kernel)) (Int32.toNatClampNeg v_63) (rfl) dX12_numbers_82 (fun H locs hP hD hS => ?_)
                                    have hP : va_P D cls [(h0, .inr (12, [.int 0, .ref a_al, .ref a_hi, .ref a_mt, .ref a_fr, .int 0, .int 0, .int 0, .int 0, .int 0, .int 0, .int 0, .int 0, .int 0, .int (-1), .ref a_rk, .int 0, .ref a_on, .ref a_aw, .ref a_ro, .int 0, .ref a_ws, .ref a_ah, .int 0, .int 0, .int 0, .ref a_cl, .ref a_us, .ref a_mo, .ref a_to, .ref a_mb, .ref a_le, .int 0, .ref a_rs, .ref a_rm, .ref a_nu])), (a_rs, .inl (cI, 4, .inl f_7)), (a_rm, .inl (cI, 4, .inl f_8)), (a_nu, .inl (cJ, 160, .inr (.inl (vp_updL f_60 (Int32.toNatClampNeg v_63) 0))))] H := hP
                                    have hD : va_D A [(h0, .inr (12, [.int 0, .ref a_al, .ref a_hi, .ref a_mt, .ref a_fr, .int 0, .int 0, .int 0, .int 0, .int 0, .int 0, .int 0, .int 0, .int 0, .int (-1), .ref a_rk, .int 0, .ref a_on, .ref a_aw, .ref a_ro, .int 0, .ref a_ws, .ref a_ah, .int 0, .int 0, .int 0, .ref a_cl, .ref a_us, .ref a_mo, .ref a_to, .ref a_mb, .ref a_le, .int 0, .ref a_rs, .ref a_rm, .ref a_nu])), (a_rs, .inl (cI, 4, .inl f_7)), (a_rm, .inl (cI, 4, .inl f_8)), (a_nu, .inl (cJ, 160, .inr (.inl (vp_updL f_60 (Int32.toNatClampNeg v_63) 0))))] := hD
                                    generalize hq9 : vp_updL f_60 (Int32.toNatClampNeg v_63) 0 = f_64 at hP hD; clear hq9
                                    have hP : va_P D cls [(h0, .inr (12, [.int 0, .ref a_al, .ref a_hi, .ref a_mt, .ref a_fr, .int 0, .int 0, .int 0, .int 0, .int 0, .int 0, .int 0, .int 0, .int 0, .int (-1), .ref a_rk, .int 0, .ref a_on, .ref a_aw, .ref a_ro, .int 0, .ref a_ws, .ref a_ah, .int 0, .int 0, .int 0, .ref a_cl, .ref a_us, .ref a_mo, .ref a_to, .ref a_mb, .ref a_le, .int 0, .ref a_rs, .ref a_rm, .ref a_nu])), (a_rs, .inl (cI, 4, .inl f_7)), (a_rm, .inl (cI, 4, .inl f_8)), (a_nu, .inl (cJ, 160, .inr (.inl f_64)))] H := hP
                                    have hD : va_D A [(h0, .inr (12, [.int 0, .ref a_al, .ref a_hi, .ref a_mt, .ref a_fr, .int 0, .int 0, .int 0, .int 0, .int 0, .int 0, .int 0, .int 0, .int 0, .int (-1), .ref a_rk, .int 0, .ref a_on, .ref a_aw, .ref a_ro, .int 0, .ref a_ws, .ref a_ah, .int 0, .int 0, .int 0, .ref a_cl, .ref a_us, .ref a_mo, .ref a_to, .ref a_mb, .ref a_le, .int 0, .ref a_rs, .ref a_rm, .ref a_nu])), (a_rs, .inl (cI, 4, .inl f_7)), (a_rm, .inl (cI, 4, .inl f_8)), (a_nu, .inl (cJ, 160, .inr (.inl f_64)))] := hD
                                    refine lv_iinc (v := 14) (lv' := [(4, .int 14), (0, .ref h0), (1, .int i_0), (2, .int i_1), (3, .int i_2)]) hx hb dX12_numbers_83 hl (k := 0) rfl (by decide) (by decide) rfl (fun ls hl => ?_)
                                    refine lv_goto (tgt := 64) hx hb dX12_numbers_86 (by decide) ?_
                                    refine lv_iload hx hb dX12_numbers_64 (lv_at hl 0 rfl) ?_
                                    refine lv_iload_n hx hb dX12_numbers_66 rfl (lv_at hl 4 rfl) ?_
                                    refine lv_icmp_ge (tgt := 89) hx hb dX12_numbers_67 (by decide) (fun c_65 => ?_) (fun c_65 => ?_)
                                    · skip
                                      have tc_65 := f_le (k := 14) (by decide) c_65
                                      refine lv_iconst (v := 0) hx hb dX12_numbers_89 (by decide) ?_
                                      refine W.widen (k := 0) (n := 0) (Nat.le_of_ble_eq_true rfl) (Nat.le_of_ble_eq_true rfl) ?_
                                      exact e_i (u := []) hx hb hr hlocks (hP.sub (ws' := []) [] rfl) (hD.sub (ws' := []) [] (by decide) rfl) hS ⟨(by unfold F_numbers; (repeat' split) <;> first | rfl | (exfalso; omega)), rfl⟩ dX12_numbers_90
                                    · skip
                                      have tc_65 := f_nle (k := 14) (by decide) c_65
                                      refine lv_aload_n hx hb dX12_numbers_70 rfl (lv_at hl 1 rfl) ?_
                                      refine va_get (D := D) (ci := 12) (v := .ref a_nu) (C := RX12) (T := TX12) (N := 36) hx hb hts uX12 hown hkb.1 hP 0 rfl rfl 35 (by decide) (hts _ kw_1258) (fun _ h9 => h9) rfl dX12_numbers_71 ?_
                                      refine lv_bipush (v := 40) hx hb dX12_numbers_74 (by decide) ?_
                                      refine lv_iload_n hx hb dX12_numbers_76 rfl (lv_at hl 2 rfl) ?_
                                      refine lv_imul hx hb dX12_numbers_77 ?_
                                      refine lv_topi (fun v_66 ev_66 => ?_)
                                      refine lv_iload hx hb dX12_numbers_78 (lv_at hl 0 rfl) ?_
                                      refine lv_iadd hx hb dX12_numbers_80 ?_
                                      refine lv_topi (fun v_67 ev_67 => ?_)
                                      refine lv_lconst (v := 0) hx hb dX12_numbers_81 (by decide) ?_
                                      refine s_l 3 2 hx hb hkb.1 hP hD hS rfl rfl (in40 (by omega) (by omega) ev_66 ev_67 (by decide +kernel)) (Int32.toNatClampNeg v_67) (rfl) dX12_numbers_82 (fun H locs hP hD hS => ?_)
                                      have hP : va_P D cls [(h0, .inr (12, [.int 0, .ref a_al, .ref a_hi, .ref a_mt, .ref a_fr, .int 0, .int 0, .int 0, .int 0, .int 0, .int 0, .int 0, .int 0, .int 0, .int (-1), .ref a_rk, .int 0, .ref a_on, .ref a_aw, .ref a_ro, .int 0, .ref a_ws, .ref a_ah, .int 0, .int 0, .int 0, .ref a_cl, .ref a_us, .ref a_mo, .ref a_to, .ref a_mb, .ref a_le, .int 0, .ref a_rs, .ref a_rm, .ref a_nu])), (a_rs, .inl (cI, 4, .inl f_7)), (a_rm, .inl (cI, 4, .inl f_8)), (a_nu, .inl (cJ, 160, .inr (.inl (vp_updL f_64 (Int32.toNatClampNeg v_67) 0))))] H := hP
                                      have hD : va_D A [(h0, .inr (12, [.int 0, .ref a_al, .ref a_hi, .ref a_mt, .ref a_fr, .int 0, .int 0, .int 0, .int 0, .int 0, .int 0, .int 0, .int 0, .int 0, .int (-1), .ref a_rk, .int 0, .ref a_on, .ref a_aw, .ref a_ro, .int 0, .ref a_ws, .ref a_ah, .int 0, .int 0, .int 0, .ref a_cl, .ref a_us, .ref a_mo, .ref a_to, .ref a_mb, .ref a_le, .int 0, .ref a_rs, .ref a_rm, .ref a_nu])), (a_rs, .inl (cI, 4, .inl f_7)), (a_rm, .inl (cI, 4, .inl f_8)), (a_nu, .inl (cJ, 160, .inr (.inl (vp_updL f_64 (Int32.toNatClampNeg v_67) 0))))] := hD
                                      generalize hq9 : vp_updL f_64 (Int32.toNatClampNeg v_67) 0 = f_68 at hP hD; clear hq9
                                      have hP : va_P D cls [(h0, .inr (12, [.int 0, .ref a_al, .ref a_hi, .ref a_mt, .ref a_fr, .int 0, .int 0, .int 0, .int 0, .int 0, .int 0, .int 0, .int 0, .int 0, .int (-1), .ref a_rk, .int 0, .ref a_on, .ref a_aw, .ref a_ro, .int 0, .ref a_ws, .ref a_ah, .int 0, .int 0, .int 0, .ref a_cl, .ref a_us, .ref a_mo, .ref a_to, .ref a_mb, .ref a_le, .int 0, .ref a_rs, .ref a_rm, .ref a_nu])), (a_rs, .inl (cI, 4, .inl f_7)), (a_rm, .inl (cI, 4, .inl f_8)), (a_nu, .inl (cJ, 160, .inr (.inl f_68)))] H := hP
                                      have hD : va_D A [(h0, .inr (12, [.int 0, .ref a_al, .ref a_hi, .ref a_mt, .ref a_fr, .int 0, .int 0, .int 0, .int 0, .int 0, .int 0, .int 0, .int 0, .int 0, .int (-1), .ref a_rk, .int 0, .ref a_on, .ref a_aw, .ref a_ro, .int 0, .ref a_ws, .ref a_ah, .int 0, .int 0, .int 0, .ref a_cl, .ref a_us, .ref a_mo, .ref a_to, .ref a_mb, .ref a_le, .int 0, .ref a_rs, .ref a_rm, .ref a_nu])), (a_rs, .inl (cI, 4, .inl f_7)), (a_rm, .inl (cI, 4, .inl f_8)), (a_nu, .inl (cJ, 160, .inr (.inl f_68)))] := hD
                                      refine lv_iinc (v := 15) (lv' := [(4, .int 15), (0, .ref h0), (1, .int i_0), (2, .int i_1), (3, .int i_2)]) hx hb dX12_numbers_83 hl (k := 0) rfl (by decide) (by decide) rfl (fun ls hl => ?_)
                                      refine lv_goto (tgt := 64) hx hb dX12_numbers_86 (by decide) ?_
                                      refine lv_iload hx hb dX12_numbers_64 (lv_at hl 0 rfl) ?_
                                      refine lv_iload_n hx hb dX12_numbers_66 rfl (lv_at hl 4 rfl) ?_
                                      refine lv_icmp_ge (tgt := 89) hx hb dX12_numbers_67 (by decide) (fun c_69 => ?_) (fun c_69 => ?_)
                                      · skip
                                        have tc_69 := f_le (k := 15) (by decide) c_69
                                        refine lv_iconst (v := 0) hx hb dX12_numbers_89 (by decide) ?_
                                        refine W.widen (k := 0) (n := 0) (Nat.le_of_ble_eq_true rfl) (Nat.le_of_ble_eq_true rfl) ?_
                                        exact e_i (u := []) hx hb hr hlocks (hP.sub (ws' := []) [] rfl) (hD.sub (ws' := []) [] (by decide) rfl) hS ⟨(by unfold F_numbers; (repeat' split) <;> first | rfl | (exfalso; omega)), rfl⟩ dX12_numbers_90
                                      · skip
                                        have tc_69 := f_nle (k := 15) (by decide) c_69
                                        refine lv_aload_n hx hb dX12_numbers_70 rfl (lv_at hl 1 rfl) ?_
                                        refine va_get (D := D) (ci := 12) (v := .ref a_nu) (C := RX12) (T := TX12) (N := 36) hx hb hts uX12 hown hkb.1 hP 0 rfl rfl 35 (by decide) (hts _ kw_1258) (fun _ h9 => h9) rfl dX12_numbers_71 ?_
                                        refine lv_bipush (v := 40) hx hb dX12_numbers_74 (by decide) ?_
                                        refine lv_iload_n hx hb dX12_numbers_76 rfl (lv_at hl 2 rfl) ?_
                                        refine lv_imul hx hb dX12_numbers_77 ?_
                                        refine lv_topi (fun v_70 ev_70 => ?_)
                                        refine lv_iload hx hb dX12_numbers_78 (lv_at hl 0 rfl) ?_
                                        refine lv_iadd hx hb dX12_numbers_80 ?_
                                        refine lv_topi (fun v_71 ev_71 => ?_)
                                        refine lv_lconst (v := 0) hx hb dX12_numbers_81 (by decide) ?_
                                        refine s_l 3 2 hx hb hkb.1 hP hD hS rfl rfl (in40 (by omega) (by omega) ev_70 ev_71 (by decide +kernel)) (Int32.toNatClampNeg v_71) (rfl) dX12_numbers_82 (fun H locs hP hD hS => ?_)
                                        have hP : va_P D cls [(h0, .inr (12, [.int 0, .ref a_al, .ref a_hi, .ref a_mt, .ref a_fr, .int 0, .int 0, .int 0, .int 0, .int 0, .int 0, .int 0, .int 0, .int 0, .int (-1), .ref a_rk, .int 0, .ref a_on, .ref a_aw, .ref a_ro, .int 0, .ref a_ws, .ref a_ah, .int 0, .int 0, .int 0, .ref a_cl, .ref a_us, .ref a_mo, .ref a_to, .ref a_mb, .ref a_le, .int 0, .ref a_rs, .ref a_rm, .ref a_nu])), (a_rs, .inl (cI, 4, .inl f_7)), (a_rm, .inl (cI, 4, .inl f_8)), (a_nu, .inl (cJ, 160, .inr (.inl (vp_updL f_68 (Int32.toNatClampNeg v_71) 0))))] H := hP
                                        have hD : va_D A [(h0, .inr (12, [.int 0, .ref a_al, .ref a_hi, .ref a_mt, .ref a_fr, .int 0, .int 0, .int 0, .int 0, .int 0, .int 0, .int 0, .int 0, .int 0, .int (-1), .ref a_rk, .int 0, .ref a_on, .ref a_aw, .ref a_ro, .int 0, .ref a_ws, .ref a_ah, .int 0, .int 0, .int 0, .ref a_cl, .ref a_us, .ref a_mo, .ref a_to, .ref a_mb, .ref a_le, .int 0, .ref a_rs, .ref a_rm, .ref a_nu])), (a_rs, .inl (cI, 4, .inl f_7)), (a_rm, .inl (cI, 4, .inl f_8)), (a_nu, .inl (cJ, 160, .inr (.inl (vp_updL f_68 (Int32.toNatClampNeg v_71) 0))))] := hD
                                        generalize hq9 : vp_updL f_68 (Int32.toNatClampNeg v_71) 0 = f_72 at hP hD; clear hq9
                                        have hP : va_P D cls [(h0, .inr (12, [.int 0, .ref a_al, .ref a_hi, .ref a_mt, .ref a_fr, .int 0, .int 0, .int 0, .int 0, .int 0, .int 0, .int 0, .int 0, .int 0, .int (-1), .ref a_rk, .int 0, .ref a_on, .ref a_aw, .ref a_ro, .int 0, .ref a_ws, .ref a_ah, .int 0, .int 0, .int 0, .ref a_cl, .ref a_us, .ref a_mo, .ref a_to, .ref a_mb, .ref a_le, .int 0, .ref a_rs, .ref a_rm, .ref a_nu])), (a_rs, .inl (cI, 4, .inl f_7)), (a_rm, .inl (cI, 4, .inl f_8)), (a_nu, .inl (cJ, 160, .inr (.inl f_72)))] H := hP
                                        have hD : va_D A [(h0, .inr (12, [.int 0, .ref a_al, .ref a_hi, .ref a_mt, .ref a_fr, .int 0, .int 0, .int 0, .int 0, .int 0, .int 0, .int 0, .int 0, .int 0, .int (-1), .ref a_rk, .int 0, .ref a_on, .ref a_aw, .ref a_ro, .int 0, .ref a_ws, .ref a_ah, .int 0, .int 0, .int 0, .ref a_cl, .ref a_us, .ref a_mo, .ref a_to, .ref a_mb, .ref a_le, .int 0, .ref a_rs, .ref a_rm, .ref a_nu])), (a_rs, .inl (cI, 4, .inl f_7)), (a_rm, .inl (cI, 4, .inl f_8)), (a_nu, .inl (cJ, 160, .inr (.inl f_72)))] := hD
                                        refine lv_iinc (v := 16) (lv' := [(4, .int 16), (0, .ref h0), (1, .int i_0), (2, .int i_1), (3, .int i_2)]) hx hb dX12_numbers_83 hl (k := 0) rfl (by decide) (by decide) rfl (fun ls hl => ?_)
                                        refine lv_goto (tgt := 64) hx hb dX12_numbers_86 (by decide) ?_
                                        refine lv_iload hx hb dX12_numbers_64 (lv_at hl 0 rfl) ?_
                                        refine lv_iload_n hx hb dX12_numbers_66 rfl (lv_at hl 4 rfl) ?_
                                        refine lv_icmp_ge (tgt := 89) hx hb dX12_numbers_67 (by decide) (fun c_73 => ?_) (fun c_73 => ?_)
                                        · skip
                                          have tc_73 := f_le (k := 16) (by decide) c_73
                                          refine lv_iconst (v := 0) hx hb dX12_numbers_89 (by decide) ?_
                                          refine W.widen (k := 0) (n := 0) (Nat.le_of_ble_eq_true rfl) (Nat.le_of_ble_eq_true rfl) ?_
                                          exact e_i (u := []) hx hb hr hlocks (hP.sub (ws' := []) [] rfl) (hD.sub (ws' := []) [] (by decide) rfl) hS ⟨(by unfold F_numbers; (repeat' split) <;> first | rfl | (exfalso; omega)), rfl⟩ dX12_numbers_90
                                        · skip
                                          have tc_73 := f_nle (k := 16) (by decide) c_73
                                          refine lv_aload_n hx hb dX12_numbers_70 rfl (lv_at hl 1 rfl) ?_
                                          refine va_get (D := D) (ci := 12) (v := .ref a_nu) (C := RX12) (T := TX12) (N := 36) hx hb hts uX12 hown hkb.1 hP 0 rfl rfl 35 (by decide) (hts _ kw_1258) (fun _ h9 => h9) rfl dX12_numbers_71 ?_
                                          refine lv_bipush (v := 40) hx hb dX12_numbers_74 (by decide) ?_
                                          refine lv_iload_n hx hb dX12_numbers_76 rfl (lv_at hl 2 rfl) ?_
                                          refine lv_imul hx hb dX12_numbers_77 ?_
                                          refine lv_topi (fun v_74 ev_74 => ?_)
                                          refine lv_iload hx hb dX12_numbers_78 (lv_at hl 0 rfl) ?_
                                          refine lv_iadd hx hb dX12_numbers_80 ?_
                                          refine lv_topi (fun v_75 ev_75 => ?_)
                                          refine lv_lconst (v := 0) hx hb dX12_numbers_81 (by decide) ?_
                                          refine s_l 3 2 hx hb hkb.1 hP hD hS rfl rfl (in40 (by omega) (by omega) ev_74 ev_75 (by decide +kernel)) (Int32.toNatClampNeg v_75) (rfl) dX12_numbers_82 (fun H locs hP hD hS => ?_)
                                          have hP : va_P D cls [(h0, .inr (12, [.int 0, .ref a_al, .ref a_hi, .ref a_mt, .ref a_fr, .int 0, .int 0, .int 0, .int 0, .int 0, .int 0, .int 0, .int 0, .int 0, .int (-1), .ref a_rk, .int 0, .ref a_on, .ref a_aw, .ref a_ro, .int 0, .ref a_ws, .ref a_ah, .int 0, .int 0, .int 0, .ref a_cl, .ref a_us, .ref a_mo, .ref a_to, .ref a_mb, .ref a_le, .int 0, .ref a_rs, .ref a_rm, .ref a_nu])), (a_rs, .inl (cI, 4, .inl f_7)), (a_rm, .inl (cI, 4, .inl f_8)), (a_nu, .inl (cJ, 160, .inr (.inl (vp_updL f_72 (Int32.toNatClampNeg v_75) 0))))] H := hP
                                          have hD : va_D A [(h0, .inr (12, [.int 0, .ref a_al, .ref a_hi, .ref a_mt, .ref a_fr, .int 0, .int 0, .int 0, .int 0, .int 0, .int 0, .int 0, .int 0, .int 0, .int (-1), .ref a_rk, .int 0, .ref a_on, .ref a_aw, .ref a_ro, .int 0, .ref a_ws, .ref a_ah, .int 0, .int 0, .int 0, .ref a_cl, .ref a_us, .ref a_mo, .ref a_to, .ref a_mb, .ref a_le, .int 0, .ref a_rs, .ref a_rm, .ref a_nu])), (a_rs, .inl (cI, 4, .inl f_7)), (a_rm, .inl (cI, 4, .inl f_8)), (a_nu, .inl (cJ, 160, .inr (.inl (vp_updL f_72 (Int32.toNatClampNeg v_75) 0))))] := hD
                                          generalize hq9 : vp_updL f_72 (Int32.toNatClampNeg v_75) 0 = f_76 at hP hD; clear hq9
                                          have hP : va_P D cls [(h0, .inr (12, [.int 0, .ref a_al, .ref a_hi, .ref a_mt, .ref a_fr, .int 0, .int 0, .int 0, .int 0, .int 0, .int 0, .int 0, .int 0, .int 0, .int (-1), .ref a_rk, .int 0, .ref a_on, .ref a_aw, .ref a_ro, .int 0, .ref a_ws, .ref a_ah, .int 0, .int 0, .int 0, .ref a_cl, .ref a_us, .ref a_mo, .ref a_to, .ref a_mb, .ref a_le, .int 0, .ref a_rs, .ref a_rm, .ref a_nu])), (a_rs, .inl (cI, 4, .inl f_7)), (a_rm, .inl (cI, 4, .inl f_8)), (a_nu, .inl (cJ, 160, .inr (.inl f_76)))] H := hP
                                          have hD : va_D A [(h0, .inr (12, [.int 0, .ref a_al, .ref a_hi, .ref a_mt, .ref a_fr, .int 0, .int 0, .int 0, .int 0, .int 0, .int 0, .int 0, .int 0, .int 0, .int (-1), .ref a_rk, .int 0, .ref a_on, .ref a_aw, .ref a_ro, .int 0, .ref a_ws, .ref a_ah, .int 0, .int 0, .int 0, .ref a_cl, .ref a_us, .ref a_mo, .ref a_to, .ref a_mb, .ref a_le, .int 0, .ref a_rs, .ref a_rm, .ref a_nu])), (a_rs, .inl (cI, 4, .inl f_7)), (a_rm, .inl (cI, 4, .inl f_8)), (a_nu, .inl (cJ, 160, .inr (.inl f_76)))] := hD
                                          refine lv_iinc (v := 17) (lv' := [(4, .int 17), (0, .ref h0), (1, .int i_0), (2, .int i_1), (3, .int i_2)]) hx hb dX12_numbers_83 hl (k := 0) rfl (by decide) (by decide) rfl (fun ls hl => ?_)
                                          refine lv_goto (tgt := 64) hx hb dX12_numbers_86 (by decide) ?_
                                          refine lv_iload hx hb dX12_numbers_64 (lv_at hl 0 rfl) ?_
                                          refine lv_iload_n hx hb dX12_numbers_66 rfl (lv_at hl 4 rfl) ?_
                                          refine lv_icmp_ge (tgt := 89) hx hb dX12_numbers_67 (by decide) (fun c_77 => ?_) (fun c_77 => ?_)
                                          · skip
                                            have tc_77 := f_le (k := 17) (by decide) c_77
                                            refine lv_iconst (v := 0) hx hb dX12_numbers_89 (by decide) ?_
                                            refine W.widen (k := 0) (n := 0) (Nat.le_of_ble_eq_true rfl) (Nat.le_of_ble_eq_true rfl) ?_
                                            exact e_i (u := []) hx hb hr hlocks (hP.sub (ws' := []) [] rfl) (hD.sub (ws' := []) [] (by decide) rfl) hS ⟨(by unfold F_numbers; (repeat' split) <;> first | rfl | (exfalso; omega)), rfl⟩ dX12_numbers_90
                                          · skip
                                            have tc_77 := f_nle (k := 17) (by decide) c_77
                                            refine lv_aload_n hx hb dX12_numbers_70 rfl (lv_at hl 1 rfl) ?_
                                            refine va_get (D := D) (ci := 12) (v := .ref a_nu) (C := RX12) (T := TX12) (N := 36) hx hb hts uX12 hown hkb.1 hP 0 rfl rfl 35 (by decide) (hts _ kw_1258) (fun _ h9 => h9) rfl dX12_numbers_71 ?_
                                            refine lv_bipush (v := 40) hx hb dX12_numbers_74 (by decide) ?_
                                            refine lv_iload_n hx hb dX12_numbers_76 rfl (lv_at hl 2 rfl) ?_
                                            refine lv_imul hx hb dX12_numbers_77 ?_
                                            refine lv_topi (fun v_78 ev_78 => ?_)
                                            refine lv_iload hx hb dX12_numbers_78 (lv_at hl 0 rfl) ?_
                                            refine lv_iadd hx hb dX12_numbers_80 ?_
                                            refine lv_topi (fun v_79 ev_79 => ?_)
                                            refine lv_lconst (v := 0) hx hb dX12_numbers_81 (by decide) ?_
                                            refine s_l 3 2 hx hb hkb.1 hP hD hS rfl rfl (in40 (by omega) (by omega) ev_78 ev_79 (by decide +kernel)) (Int32.toNatClampNeg v_79) (rfl) dX12_numbers_82 (fun H locs hP hD hS => ?_)
                                            have hP : va_P D cls [(h0, .inr (12, [.int 0, .ref a_al, .ref a_hi, .ref a_mt, .ref a_fr, .int 0, .int 0, .int 0, .int 0, .int 0, .int 0, .int 0, .int 0, .int 0, .int (-1), .ref a_rk, .int 0, .ref a_on, .ref a_aw, .ref a_ro, .int 0, .ref a_ws, .ref a_ah, .int 0, .int 0, .int 0, .ref a_cl, .ref a_us, .ref a_mo, .ref a_to, .ref a_mb, .ref a_le, .int 0, .ref a_rs, .ref a_rm, .ref a_nu])), (a_rs, .inl (cI, 4, .inl f_7)), (a_rm, .inl (cI, 4, .inl f_8)), (a_nu, .inl (cJ, 160, .inr (.inl (vp_updL f_76 (Int32.toNatClampNeg v_79) 0))))] H := hP
                                            have hD : va_D A [(h0, .inr (12, [.int 0, .ref a_al, .ref a_hi, .ref a_mt, .ref a_fr, .int 0, .int 0, .int 0, .int 0, .int 0, .int 0, .int 0, .int 0, .int 0, .int (-1), .ref a_rk, .int 0, .ref a_on, .ref a_aw, .ref a_ro, .int 0, .ref a_ws, .ref a_ah, .int 0, .int 0, .int 0, .ref a_cl, .ref a_us, .ref a_mo, .ref a_to, .ref a_mb, .ref a_le, .int 0, .ref a_rs, .ref a_rm, .ref a_nu])), (a_rs, .inl (cI, 4, .inl f_7)), (a_rm, .inl (cI, 4, .inl f_8)), (a_nu, .inl (cJ, 160, .inr (.inl (vp_updL f_76 (Int32.toNatClampNeg v_79) 0))))] := hD
                                            generalize hq9 : vp_updL f_76 (Int32.toNatClampNeg v_79) 0 = f_80 at hP hD; clear hq9
                                            have hP : va_P D cls [(h0, .inr (12, [.int 0, .ref a_al, .ref a_hi, .ref a_mt, .ref a_fr, .int 0, .int 0, .int 0, .int 0, .int 0, .int 0, .int 0, .int 0, .int 0, .int (-1), .ref a_rk, .int 0, .ref a_on, .ref a_aw, .ref a_ro, .int 0, .ref a_ws, .ref a_ah, .int 0, .int 0, .int 0, .ref a_cl, .ref a_us, .ref a_mo, .ref a_to, .ref a_mb, .ref a_le, .int 0, .ref a_rs, .ref a_rm, .ref a_nu])), (a_rs, .inl (cI, 4, .inl f_7)), (a_rm, .inl (cI, 4, .inl f_8)), (a_nu, .inl (cJ, 160, .inr (.inl f_80)))] H := hP
                                            have hD : va_D A [(h0, .inr (12, [.int 0, .ref a_al, .ref a_hi, .ref a_mt, .ref a_fr, .int 0, .int 0, .int 0, .int 0, .int 0, .int 0, .int 0, .int 0, .int 0, .int (-1), .ref a_rk, .int 0, .ref a_on, .ref a_aw, .ref a_ro, .int 0, .ref a_ws, .ref a_ah, .int 0, .int 0, .int 0, .ref a_cl, .ref a_us, .ref a_mo, .ref a_to, .ref a_mb, .ref a_le, .int 0, .ref a_rs, .ref a_rm, .ref a_nu])), (a_rs, .inl (cI, 4, .inl f_7)), (a_rm, .inl (cI, 4, .inl f_8)), (a_nu, .inl (cJ, 160, .inr (.inl f_80)))] := hD
                                            refine lv_iinc (v := 18) (lv' := [(4, .int 18), (0, .ref h0), (1, .int i_0), (2, .int i_1), (3, .int i_2)]) hx hb dX12_numbers_83 hl (k := 0) rfl (by decide) (by decide) rfl (fun ls hl => ?_)
                                            refine lv_goto (tgt := 64) hx hb dX12_numbers_86 (by decide) ?_
                                            refine lv_iload hx hb dX12_numbers_64 (lv_at hl 0 rfl) ?_
                                            refine lv_iload_n hx hb dX12_numbers_66 rfl (lv_at hl 4 rfl) ?_
                                            refine lv_icmp_ge (tgt := 89) hx hb dX12_numbers_67 (by decide) (fun c_81 => ?_) (fun c_81 => ?_)
                                            · skip
                                              have tc_81 := f_le (k := 18) (by decide) c_81
                                              refine lv_iconst (v := 0) hx hb dX12_numbers_89 (by decide) ?_
                                              refine W.widen (k := 0) (n := 0) (Nat.le_of_ble_eq_true rfl) (Nat.le_of_ble_eq_true rfl) ?_
                                              exact e_i (u := []) hx hb hr hlocks (hP.sub (ws' := []) [] rfl) (hD.sub (ws' := []) [] (by decide) rfl) hS ⟨(by unfold F_numbers; (repeat' split) <;> first | rfl | (exfalso; omega)), rfl⟩ dX12_numbers_90
                                            · skip
                                              have tc_81 := f_nle (k := 18) (by decide) c_81
                                              refine lv_aload_n hx hb dX12_numbers_70 rfl (lv_at hl 1 rfl) ?_
                                              refine va_get (D := D) (ci := 12) (v := .ref a_nu) (C := RX12) (T := TX12) (N := 36) hx hb hts uX12 hown hkb.1 hP 0 rfl rfl 35 (by decide) (hts _ kw_1258) (fun _ h9 => h9) rfl dX12_numbers_71 ?_
                                              refine lv_bipush (v := 40) hx hb dX12_numbers_74 (by decide) ?_
                                              refine lv_iload_n hx hb dX12_numbers_76 rfl (lv_at hl 2 rfl) ?_
                                              refine lv_imul hx hb dX12_numbers_77 ?_
                                              refine lv_topi (fun v_82 ev_82 => ?_)
                                              refine lv_iload hx hb dX12_numbers_78 (lv_at hl 0 rfl) ?_
                                              refine lv_iadd hx hb dX12_numbers_80 ?_
                                              refine lv_topi (fun v_83 ev_83 => ?_)
                                              refine lv_lconst (v := 0) hx hb dX12_numbers_81 (by decide) ?_
                                              refine s_l 3 2 hx hb hkb.1 hP hD hS rfl rfl (in40 (by omega) (by omega) ev_82 ev_83 (by decide +kernel)) (Int32.toNatClampNeg v_83) (rfl) dX12_numbers_82 (fun H locs hP hD hS => ?_)
                                              have hP : va_P D cls [(h0, .inr (12, [.int 0, .ref a_al, .ref a_hi, .ref a_mt, .ref a_fr, .int 0, .int 0, .int 0, .int 0, .int 0, .int 0, .int 0, .int 0, .int 0, .int (-1), .ref a_rk, .int 0, .ref a_on, .ref a_aw, .ref a_ro, .int 0, .ref a_ws, .ref a_ah, .int 0, .int 0, .int 0, .ref a_cl, .ref a_us, .ref a_mo, .ref a_to, .ref a_mb, .ref a_le, .int 0, .ref a_rs, .ref a_rm, .ref a_nu])), (a_rs, .inl (cI, 4, .inl f_7)), (a_rm, .inl (cI, 4, .inl f_8)), (a_nu, .inl (cJ, 160, .inr (.inl (vp_updL f_80 (Int32.toNatClampNeg v_83) 0))))] H := hP
                                              have hD : va_D A [(h0, .inr (12, [.int 0, .ref a_al, .ref a_hi, .ref a_mt, .ref a_fr, .int 0, .int 0, .int 0, .int 0, .int 0, .int 0, .int 0, .int 0, .int 0, .int (-1), .ref a_rk, .int 0, .ref a_on, .ref a_aw, .ref a_ro, .int 0, .ref a_ws, .ref a_ah, .int 0, .int 0, .int 0, .ref a_cl, .ref a_us, .ref a_mo, .ref a_to, .ref a_mb, .ref a_le, .int 0, .ref a_rs, .ref a_rm, .ref a_nu])), (a_rs, .inl (cI, 4, .inl f_7)), (a_rm, .inl (cI, 4, .inl f_8)), (a_nu, .inl (cJ, 160, .inr (.inl (vp_updL f_80 (Int32.toNatClampNeg v_83) 0))))] := hD
                                              generalize hq9 : vp_updL f_80 (Int32.toNatClampNeg v_83) 0 = f_84 at hP hD; clear hq9
                                              have hP : va_P D cls [(h0, .inr (12, [.int 0, .ref a_al, .ref a_hi, .ref a_mt, .ref a_fr, .int 0, .int 0, .int 0, .int 0, .int 0, .int 0, .int 0, .int 0, .int 0, .int (-1), .ref a_rk, .int 0, .ref a_on, .ref a_aw, .ref a_ro, .int 0, .ref a_ws, .ref a_ah, .int 0, .int 0, .int 0, .ref a_cl, .ref a_us, .ref a_mo, .ref a_to, .ref a_mb, .ref a_le, .int 0, .ref a_rs, .ref a_rm, .ref a_nu])), (a_rs, .inl (cI, 4, .inl f_7)), (a_rm, .inl (cI, 4, .inl f_8)), (a_nu, .inl (cJ, 160, .inr (.inl f_84)))] H := hP
                                              have hD : va_D A [(h0, .inr (12, [.int 0, .ref a_al, .ref a_hi, .ref a_mt, .ref a_fr, .int 0, .int 0, .int 0, .int 0, .int 0, .int 0, .int 0, .int 0, .int 0, .int (-1), .ref a_rk, .int 0, .ref a_on, .ref a_aw, .ref a_ro, .int 0, .ref a_ws, .ref a_ah, .int 0, .int 0, .int 0, .ref a_cl, .ref a_us, .ref a_mo, .ref a_to, .ref a_mb, .ref a_le, .int 0, .ref a_rs, .ref a_rm, .ref a_nu])), (a_rs, .inl (cI, 4, .inl f_7)), (a_rm, .inl (cI, 4, .inl f_8)), (a_nu, .inl (cJ, 160, .inr (.inl f_84)))] := hD
                                              refine lv_iinc (v := 19) (lv' := [(4, .int 19), (0, .ref h0), (1, .int i_0), (2, .int i_1), (3, .int i_2)]) hx hb dX12_numbers_83 hl (k := 0) rfl (by decide) (by decide) rfl (fun ls hl => ?_)
                                              refine lv_goto (tgt := 64) hx hb dX12_numbers_86 (by decide) ?_
                                              refine lv_iload hx hb dX12_numbers_64 (lv_at hl 0 rfl) ?_
                                              refine lv_iload_n hx hb dX12_numbers_66 rfl (lv_at hl 4 rfl) ?_
                                              refine lv_icmp_ge (tgt := 89) hx hb dX12_numbers_67 (by decide) (fun c_85 => ?_) (fun c_85 => ?_)
                                              · skip
                                                have tc_85 := f_le (k := 19) (by decide) c_85
                                                refine lv_iconst (v := 0) hx hb dX12_numbers_89 (by decide) ?_
                                                refine W.widen (k := 0) (n := 0) (Nat.le_of_ble_eq_true rfl) (Nat.le_of_ble_eq_true rfl) ?_
                                                exact e_i (u := []) hx hb hr hlocks (hP.sub (ws' := []) [] rfl) (hD.sub (ws' := []) [] (by decide) rfl) hS ⟨(by unfold F_numbers; (repeat' split) <;> first | rfl | (exfalso; omega)), rfl⟩ dX12_numbers_90
                                              · skip
                                                have tc_85 := f_nle (k := 19) (by decide) c_85
                                                refine lv_aload_n hx hb dX12_numbers_70 rfl (lv_at hl 1 rfl) ?_
                                                refine va_get (D := D) (ci := 12) (v := .ref a_nu) (C := RX12) (T := TX12) (N := 36) hx hb hts uX12 hown hkb.1 hP 0 rfl rfl 35 (by decide) (hts _ kw_1258) (fun _ h9 => h9) rfl dX12_numbers_71 ?_
                                                refine lv_bipush (v := 40) hx hb dX12_numbers_74 (by decide) ?_
                                                refine lv_iload_n hx hb dX12_numbers_76 rfl (lv_at hl 2 rfl) ?_
                                                refine lv_imul hx hb dX12_numbers_77 ?_
                                                refine lv_topi (fun v_86 ev_86 => ?_)
                                                refine lv_iload hx hb dX12_numbers_78 (lv_at hl 0 rfl) ?_
                                                refine lv_iadd hx hb dX12_numbers_80 ?_
                                                refine lv_topi (fun v_87 ev_87 => ?_)
                                                refine lv_lconst (v := 0) hx hb dX12_numbers_81 (by decide) ?_
                                                refine s_l 3 2 hx hb hkb.1 hP hD hS rfl rfl (in40 (by omega) (by omega) ev_86 ev_87 (by decide +kernel)) (Int32.toNatClampNeg v_87) (rfl) dX12_numbers_82 (fun H locs hP hD hS => ?_)
                                                have hP : va_P D cls [(h0, .inr (12, [.int 0, .ref a_al, .ref a_hi, .ref a_mt, .ref a_fr, .int 0, .int 0, .int 0, .int 0, .int 0, .int 0, .int 0, .int 0, .int 0, .int (-1), .ref a_rk, .int 0, .ref a_on, .ref a_aw, .ref a_ro, .int 0, .ref a_ws, .ref a_ah, .int 0, .int 0, .int 0, .ref a_cl, .ref a_us, .ref a_mo, .ref a_to, .ref a_mb, .ref a_le, .int 0, .ref a_rs, .ref a_rm, .ref a_nu])), (a_rs, .inl (cI, 4, .inl f_7)), (a_rm, .inl (cI, 4, .inl f_8)), (a_nu, .inl (cJ, 160, .inr (.inl (vp_updL f_84 (Int32.toNatClampNeg v_87) 0))))] H := hP
                                                have hD : va_D A [(h0, .inr (12, [.int 0, .ref a_al, .ref a_hi, .ref a_mt, .ref a_fr, .int 0, .int 0, .int 0, .int 0, .int 0, .int 0, .int 0, .int 0, .int 0, .int (-1), .ref a_rk, .int 0, .ref a_on, .ref a_aw, .ref a_ro, .int 0, .ref a_ws, .ref a_ah, .int 0, .int 0, .int 0, .ref a_cl, .ref a_us, .ref a_mo, .ref a_to, .ref a_mb, .ref a_le, .int 0, .ref a_rs, .ref a_rm, .ref a_nu])), (a_rs, .inl (cI, 4, .inl f_7)), (a_rm, .inl (cI, 4, .inl f_8)), (a_nu, .inl (cJ, 160, .inr (.inl (vp_updL f_84 (Int32.toNatClampNeg v_87) 0))))] := hD
                                                generalize hq9 : vp_updL f_84 (Int32.toNatClampNeg v_87) 0 = f_88 at hP hD; clear hq9
                                                have hP : va_P D cls [(h0, .inr (12, [.int 0, .ref a_al, .ref a_hi, .ref a_mt, .ref a_fr, .int 0, .int 0, .int 0, .int 0, .int 0, .int 0, .int 0, .int 0, .int 0, .int (-1), .ref a_rk, .int 0, .ref a_on, .ref a_aw, .ref a_ro, .int 0, .ref a_ws, .ref a_ah, .int 0, .int 0, .int 0, .ref a_cl, .ref a_us, .ref a_mo, .ref a_to, .ref a_mb, .ref a_le, .int 0, .ref a_rs, .ref a_rm, .ref a_nu])), (a_rs, .inl (cI, 4, .inl f_7)), (a_rm, .inl (cI, 4, .inl f_8)), (a_nu, .inl (cJ, 160, .inr (.inl f_88)))] H := hP
                                                have hD : va_D A [(h0, .inr (12, [.int 0, .ref a_al, .ref a_hi, .ref a_mt, .ref a_fr, .int 0, .int 0, .int 0, .int 0, .int 0, .int 0, .int 0, .int 0, .int 0, .int (-1), .ref a_rk, .int 0, .ref a_on, .ref a_aw, .ref a_ro, .int 0, .ref a_ws, .ref a_ah, .int 0, .int 0, .int 0, .ref a_cl, .ref a_us, .ref a_mo, .ref a_to, .ref a_mb, .ref a_le, .int 0, .ref a_rs, .ref a_rm, .ref a_nu])), (a_rs, .inl (cI, 4, .inl f_7)), (a_rm, .inl (cI, 4, .inl f_8)), (a_nu, .inl (cJ, 160, .inr (.inl f_88)))] := hD
                                                refine lv_iinc (v := 20) (lv' := [(4, .int 20), (0, .ref h0), (1, .int i_0), (2, .int i_1), (3, .int i_2)]) hx hb dX12_numbers_83 hl (k := 0) rfl (by decide) (by decide) rfl (fun ls hl => ?_)
                                                refine lv_goto (tgt := 64) hx hb dX12_numbers_86 (by decide) ?_
                                                refine lv_iload hx hb dX12_numbers_64 (lv_at hl 0 rfl) ?_
                                                refine lv_iload_n hx hb dX12_numbers_66 rfl (lv_at hl 4 rfl) ?_
                                                refine lv_icmp_ge (tgt := 89) hx hb dX12_numbers_67 (by decide) (fun c_89 => ?_) (fun c_89 => ?_)
                                                · skip
                                                  have tc_89 := f_le (k := 20) (by decide) c_89
                                                  refine lv_iconst (v := 0) hx hb dX12_numbers_89 (by decide) ?_
                                                  refine W.widen (k := 0) (n := 0) (Nat.le_of_ble_eq_true rfl) (Nat.le_of_ble_eq_true rfl) ?_
                                                  exact e_i (u := []) hx hb hr hlocks (hP.sub (ws' := []) [] rfl) (hD.sub (ws' := []) [] (by decide) rfl) hS ⟨(by unfold F_numbers; (repeat' split) <;> first | rfl | (exfalso; omega)), rfl⟩ dX12_numbers_90
                                                · skip
                                                  have tc_89 := f_nle (k := 20) (by decide) c_89
                                                  refine lv_aload_n hx hb dX12_numbers_70 rfl (lv_at hl 1 rfl) ?_
                                                  refine va_get (D := D) (ci := 12) (v := .ref a_nu) (C := RX12) (T := TX12) (N := 36) hx hb hts uX12 hown hkb.1 hP 0 rfl rfl 35 (by decide) (hts _ kw_1258) (fun _ h9 => h9) rfl dX12_numbers_71 ?_
                                                  refine lv_bipush (v := 40) hx hb dX12_numbers_74 (by decide) ?_
                                                  refine lv_iload_n hx hb dX12_numbers_76 rfl (lv_at hl 2 rfl) ?_
                                                  refine lv_imul hx hb dX12_numbers_77 ?_
                                                  refine lv_topi (fun v_90 ev_90 => ?_)
                                                  refine lv_iload hx hb dX12_numbers_78 (lv_at hl 0 rfl) ?_
                                                  refine lv_iadd hx hb dX12_numbers_80 ?_
                                                  refine lv_topi (fun v_91 ev_91 => ?_)
                                                  refine lv_lconst (v := 0) hx hb dX12_numbers_81 (by decide) ?_
                                                  refine s_l 3 2 hx hb hkb.1 hP hD hS rfl rfl (in40 (by omega) (by omega) ev_90 ev_91 (by decide +kernel)) (Int32.toNatClampNeg v_91) (rfl) dX12_numbers_82 (fun H locs hP hD hS => ?_)
                                                  have hP : va_P D cls [(h0, .inr (12, [.int 0, .ref a_al, .ref a_hi, .ref a_mt, .ref a_fr, .int 0, .int 0, .int 0, .int 0, .int 0, .int 0, .int 0, .int 0, .int 0, .int (-1), .ref a_rk, .int 0, .ref a_on, .ref a_aw, .ref a_ro, .int 0, .ref a_ws, .ref a_ah, .int 0, .int 0, .int 0, .ref a_cl, .ref a_us, .ref a_mo, .ref a_to, .ref a_mb, .ref a_le, .int 0, .ref a_rs, .ref a_rm, .ref a_nu])), (a_rs, .inl (cI, 4, .inl f_7)), (a_rm, .inl (cI, 4, .inl f_8)), (a_nu, .inl (cJ, 160, .inr (.inl (vp_updL f_88 (Int32.toNatClampNeg v_91) 0))))] H := hP
                                                  have hD : va_D A [(h0, .inr (12, [.int 0, .ref a_al, .ref a_hi, .ref a_mt, .ref a_fr, .int 0, .int 0, .int 0, .int 0, .int 0, .int 0, .int 0, .int 0, .int 0, .int (-1), .ref a_rk, .int 0, .ref a_on, .ref a_aw, .ref a_ro, .int 0, .ref a_ws, .ref a_ah, .int 0, .int 0, .int 0, .ref a_cl, .ref a_us, .ref a_mo, .ref a_to, .ref a_mb, .ref a_le, .int 0, .ref a_rs, .ref a_rm, .ref a_nu])), (a_rs, .inl (cI, 4, .inl f_7)), (a_rm, .inl (cI, 4, .inl f_8)), (a_nu, .inl (cJ, 160, .inr (.inl (vp_updL f_88 (Int32.toNatClampNeg v_91) 0))))] := hD
                                                  generalize hq9 : vp_updL f_88 (Int32.toNatClampNeg v_91) 0 = f_92 at hP hD; clear hq9
                                                  have hP : va_P D cls [(h0, .inr (12, [.int 0, .ref a_al, .ref a_hi, .ref a_mt, .ref a_fr, .int 0, .int 0, .int 0, .int 0, .int 0, .int 0, .int 0, .int 0, .int 0, .int (-1), .ref a_rk, .int 0, .ref a_on, .ref a_aw, .ref a_ro, .int 0, .ref a_ws, .ref a_ah, .int 0, .int 0, .int 0, .ref a_cl, .ref a_us, .ref a_mo, .ref a_to, .ref a_mb, .ref a_le, .int 0, .ref a_rs, .ref a_rm, .ref a_nu])), (a_rs, .inl (cI, 4, .inl f_7)), (a_rm, .inl (cI, 4, .inl f_8)), (a_nu, .inl (cJ, 160, .inr (.inl f_92)))] H := hP
                                                  have hD : va_D A [(h0, .inr (12, [.int 0, .ref a_al, .ref a_hi, .ref a_mt, .ref a_fr, .int 0, .int 0, .int 0, .int 0, .int 0, .int 0, .int 0, .int 0, .int 0, .int (-1), .ref a_rk, .int 0, .ref a_on, .ref a_aw, .ref a_ro, .int 0, .ref a_ws, .ref a_ah, .int 0, .int 0, .int 0, .ref a_cl, .ref a_us, .ref a_mo, .ref a_to, .ref a_mb, .ref a_le, .int 0, .ref a_rs, .ref a_rm, .ref a_nu])), (a_rs, .inl (cI, 4, .inl f_7)), (a_rm, .inl (cI, 4, .inl f_8)), (a_nu, .inl (cJ, 160, .inr (.inl f_92)))] := hD
                                                  refine lv_iinc (v := 21) (lv' := [(4, .int 21), (0, .ref h0), (1, .int i_0), (2, .int i_1), (3, .int i_2)]) hx hb dX12_numbers_83 hl (k := 0) rfl (by decide) (by decide) rfl (fun ls hl => ?_)
                                                  refine lv_goto (tgt := 64) hx hb dX12_numbers_86 (by decide) ?_
                                                  refine lv_iload hx hb dX12_numbers_64 (lv_at hl 0 rfl) ?_
                                                  refine lv_iload_n hx hb dX12_numbers_66 rfl (lv_at hl 4 rfl) ?_
                                                  refine lv_icmp_ge (tgt := 89) hx hb dX12_numbers_67 (by decide) (fun c_93 => ?_) (fun c_93 => ?_)
                                                  · skip
                                                    have tc_93 := f_le (k := 21) (by decide) c_93
                                                    refine lv_iconst (v := 0) hx hb dX12_numbers_89 (by decide) ?_
                                                    refine W.widen (k := 0) (n := 0) (Nat.le_of_ble_eq_true rfl) (Nat.le_of_ble_eq_true rfl) ?_
                                                    exact e_i (u := []) hx hb hr hlocks (hP.sub (ws' := []) [] rfl) (hD.sub (ws' := []) [] (by decide) rfl) hS ⟨(by unfold F_numbers; (repeat' split) <;> first | rfl | (exfalso; omega)), rfl⟩ dX12_numbers_90
                                                  · skip
                                                    have tc_93 := f_nle (k := 21) (by decide) c_93
                                                    refine lv_aload_n hx hb dX12_numbers_70 rfl (lv_at hl 1 rfl) ?_
                                                    refine va_get (D := D) (ci := 12) (v := .ref a_nu) (C := RX12) (T := TX12) (N := 36) hx hb hts uX12 hown hkb.1 hP 0 rfl rfl 35 (by decide) (hts _ kw_1258) (fun _ h9 => h9) rfl dX12_numbers_71 ?_
                                                    refine lv_bipush (v := 40) hx hb dX12_numbers_74 (by decide) ?_
                                                    refine lv_iload_n hx hb dX12_numbers_76 rfl (lv_at hl 2 rfl) ?_
                                                    refine lv_imul hx hb dX12_numbers_77 ?_
                                                    refine lv_topi (fun v_94 ev_94 => ?_)
                                                    refine lv_iload hx hb dX12_numbers_78 (lv_at hl 0 rfl) ?_
                                                    refine lv_iadd hx hb dX12_numbers_80 ?_
                                                    refine lv_topi (fun v_95 ev_95 => ?_)
                                                    refine lv_lconst (v := 0) hx hb dX12_numbers_81 (by decide) ?_
                                                    refine s_l 3 2 hx hb hkb.1 hP hD hS rfl rfl (in40 (by omega) (by omega) ev_94 ev_95 (by decide +kernel)) (Int32.toNatClampNeg v_95) (rfl) dX12_numbers_82 (fun H locs hP hD hS => ?_)
                                                    have hP : va_P D cls [(h0, .inr (12, [.int 0, .ref a_al, .ref a_hi, .ref a_mt, .ref a_fr, .int 0, .int 0, .int 0, .int 0, .int 0, .int 0, .int 0, .int 0, .int 0, .int (-1), .ref a_rk, .int 0, .ref a_on, .ref a_aw, .ref a_ro, .int 0, .ref a_ws, .ref a_ah, .int 0, .int 0, .int 0, .ref a_cl, .ref a_us, .ref a_mo, .ref a_to, .ref a_mb, .ref a_le, .int 0, .ref a_rs, .ref a_rm, .ref a_nu])), (a_rs, .inl (cI, 4, .inl f_7)), (a_rm, .inl (cI, 4, .inl f_8)), (a_nu, .inl (cJ, 160, .inr (.inl (vp_updL f_92 (Int32.toNatClampNeg v_95) 0))))] H := hP
                                                    have hD : va_D A [(h0, .inr (12, [.int 0, .ref a_al, .ref a_hi, .ref a_mt, .ref a_fr, .int 0, .int 0, .int 0, .int 0, .int 0, .int 0, .int 0, .int 0, .int 0, .int (-1), .ref a_rk, .int 0, .ref a_on, .ref a_aw, .ref a_ro, .int 0, .ref a_ws, .ref a_ah, .int 0, .int 0, .int 0, .ref a_cl, .ref a_us, .ref a_mo, .ref a_to, .ref a_mb, .ref a_le, .int 0, .ref a_rs, .ref a_rm, .ref a_nu])), (a_rs, .inl (cI, 4, .inl f_7)), (a_rm, .inl (cI, 4, .inl f_8)), (a_nu, .inl (cJ, 160, .inr (.inl (vp_updL f_92 (Int32.toNatClampNeg v_95) 0))))] := hD
                                                    generalize hq9 : vp_updL f_92 (Int32.toNatClampNeg v_95) 0 = f_96 at hP hD; clear hq9
                                                    have hP : va_P D cls [(h0, .inr (12, [.int 0, .ref a_al, .ref a_hi, .ref a_mt, .ref a_fr, .int 0, .int 0, .int 0, .int 0, .int 0, .int 0, .int 0, .int 0, .int 0, .int (-1), .ref a_rk, .int 0, .ref a_on, .ref a_aw, .ref a_ro, .int 0, .ref a_ws, .ref a_ah, .int 0, .int 0, .int 0, .ref a_cl, .ref a_us, .ref a_mo, .ref a_to, .ref a_mb, .ref a_le, .int 0, .ref a_rs, .ref a_rm, .ref a_nu])), (a_rs, .inl (cI, 4, .inl f_7)), (a_rm, .inl (cI, 4, .inl f_8)), (a_nu, .inl (cJ, 160, .inr (.inl f_96)))] H := hP
                                                    have hD : va_D A [(h0, .inr (12, [.int 0, .ref a_al, .ref a_hi, .ref a_mt, .ref a_fr, .int 0, .int 0, .int 0, .int 0, .int 0, .int 0, .int 0, .int 0, .int 0, .int (-1), .ref a_rk, .int 0, .ref a_on, .ref a_aw, .ref a_ro, .int 0, .ref a_ws, .ref a_ah, .int 0, .int 0, .int 0, .ref a_cl, .ref a_us, .ref a_mo, .ref a_to, .ref a_mb, .ref a_le, .int 0, .ref a_rs, .ref a_rm, .ref a_nu])), (a_rs, .inl (cI, 4, .inl f_7)), (a_rm, .inl (cI, 4, .inl f_8)), (a_nu, .inl (cJ, 160, .inr (.inl f_96)))] := hD
                                                    refine lv_iinc (v := 22) (lv' := [(4, .int 22), (0, .ref h0), (1, .int i_0), (2, .int i_1), (3, .int i_2)]) hx hb dX12_numbers_83 hl (k := 0) rfl (by decide) (by decide) rfl (fun ls hl => ?_)
                                                    refine lv_goto (tgt := 64) hx hb dX12_numbers_86 (by decide) ?_
                                                    refine lv_iload hx hb dX12_numbers_64 (lv_at hl 0 rfl) ?_
                                                    refine lv_iload_n hx hb dX12_numbers_66 rfl (lv_at hl 4 rfl) ?_
                                                    refine lv_icmp_ge (tgt := 89) hx hb dX12_numbers_67 (by decide) (fun c_97 => ?_) (fun c_97 => ?_)
                                                    · skip
                                                      have tc_97 := f_le (k := 22) (by decide) c_97
                                                      refine lv_iconst (v := 0) hx hb dX12_numbers_89 (by decide) ?_
                                                      refine W.widen (k := 0) (n := 0) (Nat.le_of_ble_eq_true rfl) (Nat.le_of_ble_eq_true rfl) ?_
                                                      exact e_i (u := []) hx hb hr hlocks (hP.sub (ws' := []) [] rfl) (hD.sub (ws' := []) [] (by decide) rfl) hS ⟨(by unfold F_numbers; (repeat' split) <;> first | rfl | (exfalso; omega)), rfl⟩ dX12_numbers_90
                                                    · skip
                                                      have tc_97 := f_nle (k := 22) (by decide) c_97
                                                      refine lv_aload_n hx hb dX12_numbers_70 rfl (lv_at hl 1 rfl) ?_
                                                      refine va_get (D := D) (ci := 12) (v := .ref a_nu) (C := RX12) (T := TX12) (N := 36) hx hb hts uX12 hown hkb.1 hP 0 rfl rfl 35 (by decide) (hts _ kw_1258) (fun _ h9 => h9) rfl dX12_numbers_71 ?_
                                                      refine lv_bipush (v := 40) hx hb dX12_numbers_74 (by decide) ?_
                                                      refine lv_iload_n hx hb dX12_numbers_76 rfl (lv_at hl 2 rfl) ?_
                                                      refine lv_imul hx hb dX12_numbers_77 ?_
                                                      refine lv_topi (fun v_98 ev_98 => ?_)
                                                      refine lv_iload hx hb dX12_numbers_78 (lv_at hl 0 rfl) ?_
                                                      refine lv_iadd hx hb dX12_numbers_80 ?_
                                                      refine lv_topi (fun v_99 ev_99 => ?_)
                                                      refine lv_lconst (v := 0) hx hb dX12_numbers_81 (by decide) ?_
                                                      refine s_l 3 2 hx hb hkb.1 hP hD hS rfl rfl (in40 (by omega) (by omega) ev_98 ev_99 (by decide +kernel)) (Int32.toNatClampNeg v_99) (rfl) dX12_numbers_82 (fun H locs hP hD hS => ?_)
                                                      have hP : va_P D cls [(h0, .inr (12, [.int 0, .ref a_al, .ref a_hi, .ref a_mt, .ref a_fr, .int 0, .int 0, .int 0, .int 0, .int 0, .int 0, .int 0, .int 0, .int 0, .int (-1), .ref a_rk, .int 0, .ref a_on, .ref a_aw, .ref a_ro, .int 0, .ref a_ws, .ref a_ah, .int 0, .int 0, .int 0, .ref a_cl, .ref a_us, .ref a_mo, .ref a_to, .ref a_mb, .ref a_le, .int 0, .ref a_rs, .ref a_rm, .ref a_nu])), (a_rs, .inl (cI, 4, .inl f_7)), (a_rm, .inl (cI, 4, .inl f_8)), (a_nu, .inl (cJ, 160, .inr (.inl (vp_updL f_96 (Int32.toNatClampNeg v_99) 0))))] H := hP
                                                      have hD : va_D A [(h0, .inr (12, [.int 0, .ref a_al, .ref a_hi, .ref a_mt, .ref a_fr, .int 0, .int 0, .int 0, .int 0, .int 0, .int 0, .int 0, .int 0, .int 0, .int (-1), .ref a_rk, .int 0, .ref a_on, .ref a_aw, .ref a_ro, .int 0, .ref a_ws, .ref a_ah, .int 0, .int 0, .int 0, .ref a_cl, .ref a_us, .ref a_mo, .ref a_to, .ref a_mb, .ref a_le, .int 0, .ref a_rs, .ref a_rm, .ref a_nu])), (a_rs, .inl (cI, 4, .inl f_7)), (a_rm, .inl (cI, 4, .inl f_8)), (a_nu, .inl (cJ, 160, .inr (.inl (vp_updL f_96 (Int32.toNatClampNeg v_99) 0))))] := hD
                                                      generalize hq9 : vp_updL f_96 (Int32.toNatClampNeg v_99) 0 = f_100 at hP hD; clear hq9
                                                      have hP : va_P D cls [(h0, .inr (12, [.int 0, .ref a_al, .ref a_hi, .ref a_mt, .ref a_fr, .int 0, .int 0, .int 0, .int 0, .int 0, .int 0, .int 0, .int 0, .int 0, .int (-1), .ref a_rk, .int 0, .ref a_on, .ref a_aw, .ref a_ro, .int 0, .ref a_ws, .ref a_ah, .int 0, .int 0, .int 0, .ref a_cl, .ref a_us, .ref a_mo, .ref a_to, .ref a_mb, .ref a_le, .int 0, .ref a_rs, .ref a_rm, .ref a_nu])), (a_rs, .inl (cI, 4, .inl f_7)), (a_rm, .inl (cI, 4, .inl f_8)), (a_nu, .inl (cJ, 160, .inr (.inl f_100)))] H := hP
                                                      have hD : va_D A [(h0, .inr (12, [.int 0, .ref a_al, .ref a_hi, .ref a_mt, .ref a_fr, .int 0, .int 0, .int 0, .int 0, .int 0, .int 0, .int 0, .int 0, .int 0, .int (-1), .ref a_rk, .int 0, .ref a_on, .ref a_aw, .ref a_ro, .int 0, .ref a_ws, .ref a_ah, .int 0, .int 0, .int 0, .ref a_cl, .ref a_us, .ref a_mo, .ref a_to, .ref a_mb, .ref a_le, .int 0, .ref a_rs, .ref a_rm, .ref a_nu])), (a_rs, .inl (cI, 4, .inl f_7)), (a_rm, .inl (cI, 4, .inl f_8)), (a_nu, .inl (cJ, 160, .inr (.inl f_100)))] := hD
                                                      refine lv_iinc (v := 23) (lv' := [(4, .int 23), (0, .ref h0), (1, .int i_0), (2, .int i_1), (3, .int i_2)]) hx hb dX12_numbers_83 hl (k := 0) rfl (by decide) (by decide) rfl (fun ls hl => ?_)
                                                      refine lv_goto (tgt := 64) hx hb dX12_numbers_86 (by decide) ?_
                                                      refine lv_iload hx hb dX12_numbers_64 (lv_at hl 0 rfl) ?_
                                                      refine lv_iload_n hx hb dX12_numbers_66 rfl (lv_at hl 4 rfl) ?_
                                                      refine lv_icmp_ge (tgt := 89) hx hb dX12_numbers_67 (by decide) (fun c_101 => ?_) (fun c_101 => ?_)
                                                      · skip
                                                        have tc_101 := f_le (k := 23) (by decide) c_101
                                                        refine lv_iconst (v := 0) hx hb dX12_numbers_89 (by decide) ?_
                                                        refine W.widen (k := 0) (n := 0) (Nat.le_of_ble_eq_true rfl) (Nat.le_of_ble_eq_true rfl) ?_
                                                        exact e_i (u := []) hx hb hr hlocks (hP.sub (ws' := []) [] rfl) (hD.sub (ws' := []) [] (by decide) rfl) hS ⟨(by unfold F_numbers; (repeat' split) <;> first | rfl | (exfalso; omega)), rfl⟩ dX12_numbers_90
                                                      · skip
                                                        have tc_101 := f_nle (k := 23) (by decide) c_101
                                                        refine lv_aload_n hx hb dX12_numbers_70 rfl (lv_at hl 1 rfl) ?_
                                                        refine va_get (D := D) (ci := 12) (v := .ref a_nu) (C := RX12) (T := TX12) (N := 36) hx hb hts uX12 hown hkb.1 hP 0 rfl rfl 35 (by decide) (hts _ kw_1258) (fun _ h9 => h9) rfl dX12_numbers_71 ?_
                                                        refine lv_bipush (v := 40) hx hb dX12_numbers_74 (by decide) ?_
                                                        refine lv_iload_n hx hb dX12_numbers_76 rfl (lv_at hl 2 rfl) ?_
                                                        refine lv_imul hx hb dX12_numbers_77 ?_
                                                        refine lv_topi (fun v_102 ev_102 => ?_)
                                                        refine lv_iload hx hb dX12_numbers_78 (lv_at hl 0 rfl) ?_
                                                        refine lv_iadd hx hb dX12_numbers_80 ?_
                                                        refine lv_topi (fun v_103 ev_103 => ?_)
                                                        refine lv_lconst (v := 0) hx hb dX12_numbers_81 (by decide) ?_
                                                        refine s_l 3 2 hx hb hkb.1 hP hD hS rfl rfl (in40 (by omega) (by omega) ev_102 ev_103 (by decide +kernel)) (Int32.toNatClampNeg v_103) (rfl) dX12_numbers_82 (fun H locs hP hD hS => ?_)
                                                        have hP : va_P D cls [(h0, .inr (12, [.int 0, .ref a_al, .ref a_hi, .ref a_mt, .ref a_fr, .int 0, .int 0, .int 0, .int 0, .int 0, .int 0, .int 0, .int 0, .int 0, .int (-1), .ref a_rk, .int 0, .ref a_on, .ref a_aw, .ref a_ro, .int 0, .ref a_ws, .ref a_ah, .int 0, .int 0, .int 0, .ref a_cl, .ref a_us, .ref a_mo, .ref a_to, .ref a_mb, .ref a_le, .int 0, .ref a_rs, .ref a_rm, .ref a_nu])), (a_rs, .inl (cI, 4, .inl f_7)), (a_rm, .inl (cI, 4, .inl f_8)), (a_nu, .inl (cJ, 160, .inr (.inl (vp_updL f_100 (Int32.toNatClampNeg v_103) 0))))] H := hP
                                                        have hD : va_D A [(h0, .inr (12, [.int 0, .ref a_al, .ref a_hi, .ref a_mt, .ref a_fr, .int 0, .int 0, .int 0, .int 0, .int 0, .int 0, .int 0, .int 0, .int 0, .int (-1), .ref a_rk, .int 0, .ref a_on, .ref a_aw, .ref a_ro, .int 0, .ref a_ws, .ref a_ah, .int 0, .int 0, .int 0, .ref a_cl, .ref a_us, .ref a_mo, .ref a_to, .ref a_mb, .ref a_le, .int 0, .ref a_rs, .ref a_rm, .ref a_nu])), (a_rs, .inl (cI, 4, .inl f_7)), (a_rm, .inl (cI, 4, .inl f_8)), (a_nu, .inl (cJ, 160, .inr (.inl (vp_updL f_100 (Int32.toNatClampNeg v_103) 0))))] := hD
                                                        generalize hq9 : vp_updL f_100 (Int32.toNatClampNeg v_103) 0 = f_104 at hP hD; clear hq9
                                                        have hP : va_P D cls [(h0, .inr (12, [.int 0, .ref a_al, .ref a_hi, .ref a_mt, .ref a_fr, .int 0, .int 0, .int 0, .int 0, .int 0, .int 0, .int 0, .int 0, .int 0, .int (-1), .ref a_rk, .int 0, .ref a_on, .ref a_aw, .ref a_ro, .int 0, .ref a_ws, .ref a_ah, .int 0, .int 0, .int 0, .ref a_cl, .ref a_us, .ref a_mo, .ref a_to, .ref a_mb, .ref a_le, .int 0, .ref a_rs, .ref a_rm, .ref a_nu])), (a_rs, .inl (cI, 4, .inl f_7)), (a_rm, .inl (cI, 4, .inl f_8)), (a_nu, .inl (cJ, 160, .inr (.inl f_104)))] H := hP
                                                        have hD : va_D A [(h0, .inr (12, [.int 0, .ref a_al, .ref a_hi, .ref a_mt, .ref a_fr, .int 0, .int 0, .int 0, .int 0, .int 0, .int 0, .int 0, .int 0, .int 0, .int (-1), .ref a_rk, .int 0, .ref a_on, .ref a_aw, .ref a_ro, .int 0, .ref a_ws, .ref a_ah, .int 0, .int 0, .int 0, .ref a_cl, .ref a_us, .ref a_mo, .ref a_to, .ref a_mb, .ref a_le, .int 0, .ref a_rs, .ref a_rm, .ref a_nu])), (a_rs, .inl (cI, 4, .inl f_7)), (a_rm, .inl (cI, 4, .inl f_8)), (a_nu, .inl (cJ, 160, .inr (.inl f_104)))] := hD
                                                        refine lv_iinc (v := 24) (lv' := [(4, .int 24), (0, .ref h0), (1, .int i_0), (2, .int i_1), (3, .int i_2)]) hx hb dX12_numbers_83 hl (k := 0) rfl (by decide) (by decide) rfl (fun ls hl => ?_)
                                                        refine lv_goto (tgt := 64) hx hb dX12_numbers_86 (by decide) ?_
                                                        refine lv_iload hx hb dX12_numbers_64 (lv_at hl 0 rfl) ?_
                                                        refine lv_iload_n hx hb dX12_numbers_66 rfl (lv_at hl 4 rfl) ?_
                                                        refine lv_icmp_ge (tgt := 89) hx hb dX12_numbers_67 (by decide) (fun c_105 => ?_) (fun c_105 => ?_)
                                                        · skip
                                                          have tc_105 := f_le (k := 24) (by decide) c_105
                                                          refine lv_iconst (v := 0) hx hb dX12_numbers_89 (by decide) ?_
                                                          refine W.widen (k := 0) (n := 0) (Nat.le_of_ble_eq_true rfl) (Nat.le_of_ble_eq_true rfl) ?_
                                                          exact e_i (u := []) hx hb hr hlocks (hP.sub (ws' := []) [] rfl) (hD.sub (ws' := []) [] (by decide) rfl) hS ⟨(by unfold F_numbers; (repeat' split) <;> first | rfl | (exfalso; omega)), rfl⟩ dX12_numbers_90
                                                        · skip
                                                          have tc_105 := f_nle (k := 24) (by decide) c_105
                                                          refine lv_aload_n hx hb dX12_numbers_70 rfl (lv_at hl 1 rfl) ?_
                                                          refine va_get (D := D) (ci := 12) (v := .ref a_nu) (C := RX12) (T := TX12) (N := 36) hx hb hts uX12 hown hkb.1 hP 0 rfl rfl 35 (by decide) (hts _ kw_1258) (fun _ h9 => h9) rfl dX12_numbers_71 ?_
                                                          refine lv_bipush (v := 40) hx hb dX12_numbers_74 (by decide) ?_
                                                          refine lv_iload_n hx hb dX12_numbers_76 rfl (lv_at hl 2 rfl) ?_
                                                          refine lv_imul hx hb dX12_numbers_77 ?_
                                                          refine lv_topi (fun v_106 ev_106 => ?_)
                                                          refine lv_iload hx hb dX12_numbers_78 (lv_at hl 0 rfl) ?_
                                                          refine lv_iadd hx hb dX12_numbers_80 ?_
                                                          refine lv_topi (fun v_107 ev_107 => ?_)
                                                          refine lv_lconst (v := 0) hx hb dX12_numbers_81 (by decide) ?_
                                                          refine s_l 3 2 hx hb hkb.1 hP hD hS rfl rfl (in40 (by omega) (by omega) ev_106 ev_107 (by decide +kernel)) (Int32.toNatClampNeg v_107) (rfl) dX12_numbers_82 (fun H locs hP hD hS => ?_)
                                                          have hP : va_P D cls [(h0, .inr (12, [.int 0, .ref a_al, .ref a_hi, .ref a_mt, .ref a_fr, .int 0, .int 0, .int 0, .int 0, .int 0, .int 0, .int 0, .int 0, .int 0, .int (-1), .ref a_rk, .int 0, .ref a_on, .ref a_aw, .ref a_ro, .int 0, .ref a_ws, .ref a_ah, .int 0, .int 0, .int 0, .ref a_cl, .ref a_us, .ref a_mo, .ref a_to, .ref a_mb, .ref a_le, .int 0, .ref a_rs, .ref a_rm, .ref a_nu])), (a_rs, .inl (cI, 4, .inl f_7)), (a_rm, .inl (cI, 4, .inl f_8)), (a_nu, .inl (cJ, 160, .inr (.inl (vp_updL f_104 (Int32.toNatClampNeg v_107) 0))))] H := hP
                                                          have hD : va_D A [(h0, .inr (12, [.int 0, .ref a_al, .ref a_hi, .ref a_mt, .ref a_fr, .int 0, .int 0, .int 0, .int 0, .int 0, .int 0, .int 0, .int 0, .int 0, .int (-1), .ref a_rk, .int 0, .ref a_on, .ref a_aw, .ref a_ro, .int 0, .ref a_ws, .ref a_ah, .int 0, .int 0, .int 0, .ref a_cl, .ref a_us, .ref a_mo, .ref a_to, .ref a_mb, .ref a_le, .int 0, .ref a_rs, .ref a_rm, .ref a_nu])), (a_rs, .inl (cI, 4, .inl f_7)), (a_rm, .inl (cI, 4, .inl f_8)), (a_nu, .inl (cJ, 160, .inr (.inl (vp_updL f_104 (Int32.toNatClampNeg v_107) 0))))] := hD
                                                          generalize hq9 : vp_updL f_104 (Int32.toNatClampNeg v_107) 0 = f_108 at hP hD; clear hq9
                                                          have hP : va_P D cls [(h0, .inr (12, [.int 0, .ref a_al, .ref a_hi, .ref a_mt, .ref a_fr, .int 0, .int 0, .int 0, .int 0, .int 0, .int 0, .int 0, .int 0, .int 0, .int (-1), .ref a_rk, .int 0, .ref a_on, .ref a_aw, .ref a_ro, .int 0, .ref a_ws, .ref a_ah, .int 0, .int 0, .int 0, .ref a_cl, .ref a_us, .ref a_mo, .ref a_to, .ref a_mb, .ref a_le, .int 0, .ref a_rs, .ref a_rm, .ref a_nu])), (a_rs, .inl (cI, 4, .inl f_7)), (a_rm, .inl (cI, 4, .inl f_8)), (a_nu, .inl (cJ, 160, .inr (.inl f_108)))] H := hP
                                                          have hD : va_D A [(h0, .inr (12, [.int 0, .ref a_al, .ref a_hi, .ref a_mt, .ref a_fr, .int 0, .int 0, .int 0, .int 0, .int 0, .int 0, .int 0, .int 0, .int 0, .int (-1), .ref a_rk, .int 0, .ref a_on, .ref a_aw, .ref a_ro, .int 0, .ref a_ws, .ref a_ah, .int 0, .int 0, .int 0, .ref a_cl, .ref a_us, .ref a_mo, .ref a_to, .ref a_mb, .ref a_le, .int 0, .ref a_rs, .ref a_rm, .ref a_nu])), (a_rs, .inl (cI, 4, .inl f_7)), (a_rm, .inl (cI, 4, .inl f_8)), (a_nu, .inl (cJ, 160, .inr (.inl f_108)))] := hD
                                                          refine lv_iinc (v := 25) (lv' := [(4, .int 25), (0, .ref h0), (1, .int i_0), (2, .int i_1), (3, .int i_2)]) hx hb dX12_numbers_83 hl (k := 0) rfl (by decide) (by decide) rfl (fun ls hl => ?_)
                                                          refine lv_goto (tgt := 64) hx hb dX12_numbers_86 (by decide) ?_
                                                          refine lv_iload hx hb dX12_numbers_64 (lv_at hl 0 rfl) ?_
                                                          refine lv_iload_n hx hb dX12_numbers_66 rfl (lv_at hl 4 rfl) ?_
                                                          refine lv_icmp_ge (tgt := 89) hx hb dX12_numbers_67 (by decide) (fun c_109 => ?_) (fun c_109 => ?_)
                                                          · skip
                                                            have tc_109 := f_le (k := 25) (by decide) c_109
                                                            refine lv_iconst (v := 0) hx hb dX12_numbers_89 (by decide) ?_
                                                            refine W.widen (k := 0) (n := 0) (Nat.le_of_ble_eq_true rfl) (Nat.le_of_ble_eq_true rfl) ?_
                                                            exact e_i (u := []) hx hb hr hlocks (hP.sub (ws' := []) [] rfl) (hD.sub (ws' := []) [] (by decide) rfl) hS ⟨(by unfold F_numbers; (repeat' split) <;> first | rfl | (exfalso; omega)), rfl⟩ dX12_numbers_90
                                                          · skip
                                                            have tc_109 := f_nle (k := 25) (by decide) c_109
                                                            refine lv_aload_n hx hb dX12_numbers_70 rfl (lv_at hl 1 rfl) ?_
                                                            refine va_get (D := D) (ci := 12) (v := .ref a_nu) (C := RX12) (T := TX12) (N := 36) hx hb hts uX12 hown hkb.1 hP 0 rfl rfl 35 (by decide) (hts _ kw_1258) (fun _ h9 => h9) rfl dX12_numbers_71 ?_
                                                            refine lv_bipush (v := 40) hx hb dX12_numbers_74 (by decide) ?_
                                                            refine lv_iload_n hx hb dX12_numbers_76 rfl (lv_at hl 2 rfl) ?_
                                                            refine lv_imul hx hb dX12_numbers_77 ?_
                                                            refine lv_topi (fun v_110 ev_110 => ?_)
                                                            refine lv_iload hx hb dX12_numbers_78 (lv_at hl 0 rfl) ?_
                                                            refine lv_iadd hx hb dX12_numbers_80 ?_
                                                            refine lv_topi (fun v_111 ev_111 => ?_)
                                                            refine lv_lconst (v := 0) hx hb dX12_numbers_81 (by decide) ?_
                                                            refine s_l 3 2 hx hb hkb.1 hP hD hS rfl rfl (in40 (by omega) (by omega) ev_110 ev_111 (by decide +kernel)) (Int32.toNatClampNeg v_111) (rfl) dX12_numbers_82 (fun H locs hP hD hS => ?_)
                                                            have hP : va_P D cls [(h0, .inr (12, [.int 0, .ref a_al, .ref a_hi, .ref a_mt, .ref a_fr, .int 0, .int 0, .int 0, .int 0, .int 0, .int 0, .int 0, .int 0, .int 0, .int (-1), .ref a_rk, .int 0, .ref a_on, .ref a_aw, .ref a_ro, .int 0, .ref a_ws, .ref a_ah, .int 0, .int 0, .int 0, .ref a_cl, .ref a_us, .ref a_mo, .ref a_to, .ref a_mb, .ref a_le, .int 0, .ref a_rs, .ref a_rm, .ref a_nu])), (a_rs, .inl (cI, 4, .inl f_7)), (a_rm, .inl (cI, 4, .inl f_8)), (a_nu, .inl (cJ, 160, .inr (.inl (vp_updL f_108 (Int32.toNatClampNeg v_111) 0))))] H := hP
                                                            have hD : va_D A [(h0, .inr (12, [.int 0, .ref a_al, .ref a_hi, .ref a_mt, .ref a_fr, .int 0, .int 0, .int 0, .int 0, .int 0, .int 0, .int 0, .int 0, .int 0, .int (-1), .ref a_rk, .int 0, .ref a_on, .ref a_aw, .ref a_ro, .int 0, .ref a_ws, .ref a_ah, .int 0, .int 0, .int 0, .ref a_cl, .ref a_us, .ref a_mo, .ref a_to, .ref a_mb, .ref a_le, .int 0, .ref a_rs, .ref a_rm, .ref a_nu])), (a_rs, .inl (cI, 4, .inl f_7)), (a_rm, .inl (cI, 4, .inl f_8)), (a_nu, .inl (cJ, 160, .inr (.inl (vp_updL f_108 (Int32.toNatClampNeg v_111) 0))))] := hD
                                                            generalize hq9 : vp_updL f_108 (Int32.toNatClampNeg v_111) 0 = f_112 at hP hD; clear hq9
                                                            have hP : va_P D cls [(h0, .inr (12, [.int 0, .ref a_al, .ref a_hi, .ref a_mt, .ref a_fr, .int 0, .int 0, .int 0, .int 0, .int 0, .int 0, .int 0, .int 0, .int 0, .int (-1), .ref a_rk, .int 0, .ref a_on, .ref a_aw, .ref a_ro, .int 0, .ref a_ws, .ref a_ah, .int 0, .int 0, .int 0, .ref a_cl, .ref a_us, .ref a_mo, .ref a_to, .ref a_mb, .ref a_le, .int 0, .ref a_rs, .ref a_rm, .ref a_nu])), (a_rs, .inl (cI, 4, .inl f_7)), (a_rm, .inl (cI, 4, .inl f_8)), (a_nu, .inl (cJ, 160, .inr (.inl f_112)))] H := hP
                                                            have hD : va_D A [(h0, .inr (12, [.int 0, .ref a_al, .ref a_hi, .ref a_mt, .ref a_fr, .int 0, .int 0, .int 0, .int 0, .int 0, .int 0, .int 0, .int 0, .int 0, .int (-1), .ref a_rk, .int 0, .ref a_on, .ref a_aw, .ref a_ro, .int 0, .ref a_ws, .ref a_ah, .int 0, .int 0, .int 0, .ref a_cl, .ref a_us, .ref a_mo, .ref a_to, .ref a_mb, .ref a_le, .int 0, .ref a_rs, .ref a_rm, .ref a_nu])), (a_rs, .inl (cI, 4, .inl f_7)), (a_rm, .inl (cI, 4, .inl f_8)), (a_nu, .inl (cJ, 160, .inr (.inl f_112)))] := hD
                                                            refine lv_iinc (v := 26) (lv' := [(4, .int 26), (0, .ref h0), (1, .int i_0), (2, .int i_1), (3, .int i_2)]) hx hb dX12_numbers_83 hl (k := 0) rfl (by decide) (by decide) rfl (fun ls hl => ?_)
                                                            refine lv_goto (tgt := 64) hx hb dX12_numbers_86 (by decide) ?_
                                                            refine lv_iload hx hb dX12_numbers_64 (lv_at hl 0 rfl) ?_
                                                            refine lv_iload_n hx hb dX12_numbers_66 rfl (lv_at hl 4 rfl) ?_
                                                            refine lv_icmp_ge (tgt := 89) hx hb dX12_numbers_67 (by decide) (fun c_113 => ?_) (fun c_113 => ?_)
                                                            · skip
                                                              have tc_113 := f_le (k := 26) (by decide) c_113
                                                              refine lv_iconst (v := 0) hx hb dX12_numbers_89 (by decide) ?_
                                                              refine W.widen (k := 0) (n := 0) (Nat.le_of_ble_eq_true rfl) (Nat.le_of_ble_eq_true rfl) ?_
                                                              exact e_i (u := []) hx hb hr hlocks (hP.sub (ws' := []) [] rfl) (hD.sub (ws' := []) [] (by decide) rfl) hS ⟨(by unfold F_numbers; (repeat' split) <;> first | rfl | (exfalso; omega)), rfl⟩ dX12_numbers_90
                                                            · skip
                                                              have tc_113 := f_nle (k := 26) (by decide) c_113
                                                              refine lv_aload_n hx hb dX12_numbers_70 rfl (lv_at hl 1 rfl) ?_
                                                              refine va_get (D := D) (ci := 12) (v := .ref a_nu) (C := RX12) (T := TX12) (N := 36) hx hb hts uX12 hown hkb.1 hP 0 rfl rfl 35 (by decide) (hts _ kw_1258) (fun _ h9 => h9) rfl dX12_numbers_71 ?_
                                                              refine lv_bipush (v := 40) hx hb dX12_numbers_74 (by decide) ?_
                                                              refine lv_iload_n hx hb dX12_numbers_76 rfl (lv_at hl 2 rfl) ?_
                                                              refine lv_imul hx hb dX12_numbers_77 ?_
                                                              refine lv_topi (fun v_114 ev_114 => ?_)
                                                              refine lv_iload hx hb dX12_numbers_78 (lv_at hl 0 rfl) ?_
                                                              refine lv_iadd hx hb dX12_numbers_80 ?_
                                                              refine lv_topi (fun v_115 ev_115 => ?_)
                                                              refine lv_lconst (v := 0) hx hb dX12_numbers_81 (by decide) ?_
                                                              refine s_l 3 2 hx hb hkb.1 hP hD hS rfl rfl (in40 (by omega) (by omega) ev_114 ev_115 (by decide +kernel)) (Int32.toNatClampNeg v_115) (rfl) dX12_numbers_82 (fun H locs hP hD hS => ?_)
                                                              have hP : va_P D cls [(h0, .inr (12, [.int 0, .ref a_al, .ref a_hi, .ref a_mt, .ref a_fr, .int 0, .int 0, .int 0, .int 0, .int 0, .int 0, .int 0, .int 0, .int 0, .int (-1), .ref a_rk, .int 0, .ref a_on, .ref a_aw, .ref a_ro, .int 0, .ref a_ws, .ref a_ah, .int 0, .int 0, .int 0, .ref a_cl, .ref a_us, .ref a_mo, .ref a_to, .ref a_mb, .ref a_le, .int 0, .ref a_rs, .ref a_rm, .ref a_nu])), (a_rs, .inl (cI, 4, .inl f_7)), (a_rm, .inl (cI, 4, .inl f_8)), (a_nu, .inl (cJ, 160, .inr (.inl (vp_updL f_112 (Int32.toNatClampNeg v_115) 0))))] H := hP
                                                              have hD : va_D A [(h0, .inr (12, [.int 0, .ref a_al, .ref a_hi, .ref a_mt, .ref a_fr, .int 0, .int 0, .int 0, .int 0, .int 0, .int 0, .int 0, .int 0, .int 0, .int (-1), .ref a_rk, .int 0, .ref a_on, .ref a_aw, .ref a_ro, .int 0, .ref a_ws, .ref a_ah, .int 0, .int 0, .int 0, .ref a_cl, .ref a_us, .ref a_mo, .ref a_to, .ref a_mb, .ref a_le, .int 0, .ref a_rs, .ref a_rm, .ref a_nu])), (a_rs, .inl (cI, 4, .inl f_7)), (a_rm, .inl (cI, 4, .inl f_8)), (a_nu, .inl (cJ, 160, .inr (.inl (vp_updL f_112 (Int32.toNatClampNeg v_115) 0))))] := hD
                                                              generalize hq9 : vp_updL f_112 (Int32.toNatClampNeg v_115) 0 = f_116 at hP hD; clear hq9
                                                              have hP : va_P D cls [(h0, .inr (12, [.int 0, .ref a_al, .ref a_hi, .ref a_mt, .ref a_fr, .int 0, .int 0, .int 0, .int 0, .int 0, .int 0, .int 0, .int 0, .int 0, .int (-1), .ref a_rk, .int 0, .ref a_on, .ref a_aw, .ref a_ro, .int 0, .ref a_ws, .ref a_ah, .int 0, .int 0, .int 0, .ref a_cl, .ref a_us, .ref a_mo, .ref a_to, .ref a_mb, .ref a_le, .int 0, .ref a_rs, .ref a_rm, .ref a_nu])), (a_rs, .inl (cI, 4, .inl f_7)), (a_rm, .inl (cI, 4, .inl f_8)), (a_nu, .inl (cJ, 160, .inr (.inl f_116)))] H := hP
                                                              have hD : va_D A [(h0, .inr (12, [.int 0, .ref a_al, .ref a_hi, .ref a_mt, .ref a_fr, .int 0, .int 0, .int 0, .int 0, .int 0, .int 0, .int 0, .int 0, .int 0, .int (-1), .ref a_rk, .int 0, .ref a_on, .ref a_aw, .ref a_ro, .int 0, .ref a_ws, .ref a_ah, .int 0, .int 0, .int 0, .ref a_cl, .ref a_us, .ref a_mo, .ref a_to, .ref a_mb, .ref a_le, .int 0, .ref a_rs, .ref a_rm, .ref a_nu])), (a_rs, .inl (cI, 4, .inl f_7)), (a_rm, .inl (cI, 4, .inl f_8)), (a_nu, .inl (cJ, 160, .inr (.inl f_116)))] := hD
                                                              refine lv_iinc (v := 27) (lv' := [(4, .int 27), (0, .ref h0), (1, .int i_0), (2, .int i_1), (3, .int i_2)]) hx hb dX12_numbers_83 hl (k := 0) rfl (by decide) (by decide) rfl (fun ls hl => ?_)
                                                              refine lv_goto (tgt := 64) hx hb dX12_numbers_86 (by decide) ?_
                                                              refine lv_iload hx hb dX12_numbers_64 (lv_at hl 0 rfl) ?_
                                                              refine lv_iload_n hx hb dX12_numbers_66 rfl (lv_at hl 4 rfl) ?_
                                                              refine lv_icmp_ge (tgt := 89) hx hb dX12_numbers_67 (by decide) (fun c_117 => ?_) (fun c_117 => ?_)
                                                              · skip
                                                                have tc_117 := f_le (k := 27) (by decide) c_117
                                                                refine lv_iconst (v := 0) hx hb dX12_numbers_89 (by decide) ?_
                                                                refine W.widen (k := 0) (n := 0) (Nat.le_of_ble_eq_true rfl) (Nat.le_of_ble_eq_true rfl) ?_
                                                                exact e_i (u := []) hx hb hr hlocks (hP.sub (ws' := []) [] rfl) (hD.sub (ws' := []) [] (by decide) rfl) hS ⟨(by unfold F_numbers; (repeat' split) <;> first | rfl | (exfalso; omega)), rfl⟩ dX12_numbers_90
                                                              · skip
                                                                have tc_117 := f_nle (k := 27) (by decide) c_117
                                                                refine lv_aload_n hx hb dX12_numbers_70 rfl (lv_at hl 1 rfl) ?_
                                                                refine va_get (D := D) (ci := 12) (v := .ref a_nu) (C := RX12) (T := TX12) (N := 36) hx hb hts uX12 hown hkb.1 hP 0 rfl rfl 35 (by decide) (hts _ kw_1258) (fun _ h9 => h9) rfl dX12_numbers_71 ?_
                                                                refine lv_bipush (v := 40) hx hb dX12_numbers_74 (by decide) ?_
                                                                refine lv_iload_n hx hb dX12_numbers_76 rfl (lv_at hl 2 rfl) ?_
                                                                refine lv_imul hx hb dX12_numbers_77 ?_
                                                                refine lv_topi (fun v_118 ev_118 => ?_)
                                                                refine lv_iload hx hb dX12_numbers_78 (lv_at hl 0 rfl) ?_
                                                                refine lv_iadd hx hb dX12_numbers_80 ?_
                                                                refine lv_topi (fun v_119 ev_119 => ?_)
                                                                refine lv_lconst (v := 0) hx hb dX12_numbers_81 (by decide) ?_
                                                                refine s_l 3 2 hx hb hkb.1 hP hD hS rfl rfl (in40 (by omega) (by omega) ev_118 ev_119 (by decide +kernel)) (Int32.toNatClampNeg v_119) (rfl) dX12_numbers_82 (fun H locs hP hD hS => ?_)
                                                                have hP : va_P D cls [(h0, .inr (12, [.int 0, .ref a_al, .ref a_hi, .ref a_mt, .ref a_fr, .int 0, .int 0, .int 0, .int 0, .int 0, .int 0, .int 0, .int 0, .int 0, .int (-1), .ref a_rk, .int 0, .ref a_on, .ref a_aw, .ref a_ro, .int 0, .ref a_ws, .ref a_ah, .int 0, .int 0, .int 0, .ref a_cl, .ref a_us, .ref a_mo, .ref a_to, .ref a_mb, .ref a_le, .int 0, .ref a_rs, .ref a_rm, .ref a_nu])), (a_rs, .inl (cI, 4, .inl f_7)), (a_rm, .inl (cI, 4, .inl f_8)), (a_nu, .inl (cJ, 160, .inr (.inl (vp_updL f_116 (Int32.toNatClampNeg v_119) 0))))] H := hP
                                                                have hD : va_D A [(h0, .inr (12, [.int 0, .ref a_al, .ref a_hi, .ref a_mt, .ref a_fr, .int 0, .int 0, .int 0, .int 0, .int 0, .int 0, .int 0, .int 0, .int 0, .int (-1), .ref a_rk, .int 0, .ref a_on, .ref a_aw, .ref a_ro, .int 0, .ref a_ws, .ref a_ah, .int 0, .int 0, .int 0, .ref a_cl, .ref a_us, .ref a_mo, .ref a_to, .ref a_mb, .ref a_le, .int 0, .ref a_rs, .ref a_rm, .ref a_nu])), (a_rs, .inl (cI, 4, .inl f_7)), (a_rm, .inl (cI, 4, .inl f_8)), (a_nu, .inl (cJ, 160, .inr (.inl (vp_updL f_116 (Int32.toNatClampNeg v_119) 0))))] := hD
                                                                generalize hq9 : vp_updL f_116 (Int32.toNatClampNeg v_119) 0 = f_120 at hP hD; clear hq9
                                                                have hP : va_P D cls [(h0, .inr (12, [.int 0, .ref a_al, .ref a_hi, .ref a_mt, .ref a_fr, .int 0, .int 0, .int 0, .int 0, .int 0, .int 0, .int 0, .int 0, .int 0, .int (-1), .ref a_rk, .int 0, .ref a_on, .ref a_aw, .ref a_ro, .int 0, .ref a_ws, .ref a_ah, .int 0, .int 0, .int 0, .ref a_cl, .ref a_us, .ref a_mo, .ref a_to, .ref a_mb, .ref a_le, .int 0, .ref a_rs, .ref a_rm, .ref a_nu])), (a_rs, .inl (cI, 4, .inl f_7)), (a_rm, .inl (cI, 4, .inl f_8)), (a_nu, .inl (cJ, 160, .inr (.inl f_120)))] H := hP
                                                                have hD : va_D A [(h0, .inr (12, [.int 0, .ref a_al, .ref a_hi, .ref a_mt, .ref a_fr, .int 0, .int 0, .int 0, .int 0, .int 0, .int 0, .int 0, .int 0, .int 0, .int (-1), .ref a_rk, .int 0, .ref a_on, .ref a_aw, .ref a_ro, .int 0, .ref a_ws, .ref a_ah, .int 0, .int 0, .int 0, .ref a_cl, .ref a_us, .ref a_mo, .ref a_to, .ref a_mb, .ref a_le, .int 0, .ref a_rs, .ref a_rm, .ref a_nu])), (a_rs, .inl (cI, 4, .inl f_7)), (a_rm, .inl (cI, 4, .inl f_8)), (a_nu, .inl (cJ, 160, .inr (.inl f_120)))] := hD
                                                                refine lv_iinc (v := 28) (lv' := [(4, .int 28), (0, .ref h0), (1, .int i_0), (2, .int i_1), (3, .int i_2)]) hx hb dX12_numbers_83 hl (k := 0) rfl (by decide) (by decide) rfl (fun ls hl => ?_)
                                                                refine lv_goto (tgt := 64) hx hb dX12_numbers_86 (by decide) ?_
                                                                refine lv_iload hx hb dX12_numbers_64 (lv_at hl 0 rfl) ?_
                                                                refine lv_iload_n hx hb dX12_numbers_66 rfl (lv_at hl 4 rfl) ?_
                                                                refine lv_icmp_ge (tgt := 89) hx hb dX12_numbers_67 (by decide) (fun c_121 => ?_) (fun c_121 => ?_)
                                                                · skip
                                                                  have tc_121 := f_le (k := 28) (by decide) c_121
                                                                  refine lv_iconst (v := 0) hx hb dX12_numbers_89 (by decide) ?_
                                                                  refine W.widen (k := 0) (n := 0) (Nat.le_of_ble_eq_true rfl) (Nat.le_of_ble_eq_true rfl) ?_
                                                                  exact e_i (u := []) hx hb hr hlocks (hP.sub (ws' := []) [] rfl) (hD.sub (ws' := []) [] (by decide) rfl) hS ⟨(by unfold F_numbers; (repeat' split) <;> first | rfl | (exfalso; omega)), rfl⟩ dX12_numbers_90
                                                                · skip
                                                                  have tc_121 := f_nle (k := 28) (by decide) c_121
                                                                  refine lv_aload_n hx hb dX12_numbers_70 rfl (lv_at hl 1 rfl) ?_
                                                                  refine va_get (D := D) (ci := 12) (v := .ref a_nu) (C := RX12) (T := TX12) (N := 36) hx hb hts uX12 hown hkb.1 hP 0 rfl rfl 35 (by decide) (hts _ kw_1258) (fun _ h9 => h9) rfl dX12_numbers_71 ?_
                                                                  refine lv_bipush (v := 40) hx hb dX12_numbers_74 (by decide) ?_
                                                                  refine lv_iload_n hx hb dX12_numbers_76 rfl (lv_at hl 2 rfl) ?_
                                                                  refine lv_imul hx hb dX12_numbers_77 ?_
                                                                  refine lv_topi (fun v_122 ev_122 => ?_)
                                                                  refine lv_iload hx hb dX12_numbers_78 (lv_at hl 0 rfl) ?_
                                                                  refine lv_iadd hx hb dX12_numbers_80 ?_
                                                                  refine lv_topi (fun v_123 ev_123 => ?_)
                                                                  refine lv_lconst (v := 0) hx hb dX12_numbers_81 (by decide) ?_
                                                                  refine s_l 3 2 hx hb hkb.1 hP hD hS rfl rfl (in40 (by omega) (by omega) ev_122 ev_123 (by decide +kernel)) (Int32.toNatClampNeg v_123) (rfl) dX12_numbers_82 (fun H locs hP hD hS => ?_)
                                                                  have hP : va_P D cls [(h0, .inr (12, [.int 0, .ref a_al, .ref a_hi, .ref a_mt, .ref a_fr, .int 0, .int 0, .int 0, .int 0, .int 0, .int 0, .int 0, .int 0, .int 0, .int (-1), .ref a_rk, .int 0, .ref a_on, .ref a_aw, .ref a_ro, .int 0, .ref a_ws, .ref a_ah, .int 0, .int 0, .int 0, .ref a_cl, .ref a_us, .ref a_mo, .ref a_to, .ref a_mb, .ref a_le, .int 0, .ref a_rs, .ref a_rm, .ref a_nu])), (a_rs, .inl (cI, 4, .inl f_7)), (a_rm, .inl (cI, 4, .inl f_8)), (a_nu, .inl (cJ, 160, .inr (.inl (vp_updL f_120 (Int32.toNatClampNeg v_123) 0))))] H := hP
                                                                  have hD : va_D A [(h0, .inr (12, [.int 0, .ref a_al, .ref a_hi, .ref a_mt, .ref a_fr, .int 0, .int 0, .int 0, .int 0, .int 0, .int 0, .int 0, .int 0, .int 0, .int (-1), .ref a_rk, .int 0, .ref a_on, .ref a_aw, .ref a_ro, .int 0, .ref a_ws, .ref a_ah, .int 0, .int 0, .int 0, .ref a_cl, .ref a_us, .ref a_mo, .ref a_to, .ref a_mb, .ref a_le, .int 0, .ref a_rs, .ref a_rm, .ref a_nu])), (a_rs, .inl (cI, 4, .inl f_7)), (a_rm, .inl (cI, 4, .inl f_8)), (a_nu, .inl (cJ, 160, .inr (.inl (vp_updL f_120 (Int32.toNatClampNeg v_123) 0))))] := hD
                                                                  generalize hq9 : vp_updL f_120 (Int32.toNatClampNeg v_123) 0 = f_124 at hP hD; clear hq9
                                                                  have hP : va_P D cls [(h0, .inr (12, [.int 0, .ref a_al, .ref a_hi, .ref a_mt, .ref a_fr, .int 0, .int 0, .int 0, .int 0, .int 0, .int 0, .int 0, .int 0, .int 0, .int (-1), .ref a_rk, .int 0, .ref a_on, .ref a_aw, .ref a_ro, .int 0, .ref a_ws, .ref a_ah, .int 0, .int 0, .int 0, .ref a_cl, .ref a_us, .ref a_mo, .ref a_to, .ref a_mb, .ref a_le, .int 0, .ref a_rs, .ref a_rm, .ref a_nu])), (a_rs, .inl (cI, 4, .inl f_7)), (a_rm, .inl (cI, 4, .inl f_8)), (a_nu, .inl (cJ, 160, .inr (.inl f_124)))] H := hP
                                                                  have hD : va_D A [(h0, .inr (12, [.int 0, .ref a_al, .ref a_hi, .ref a_mt, .ref a_fr, .int 0, .int 0, .int 0, .int 0, .int 0, .int 0, .int 0, .int 0, .int 0, .int (-1), .ref a_rk, .int 0, .ref a_on, .ref a_aw, .ref a_ro, .int 0, .ref a_ws, .ref a_ah, .int 0, .int 0, .int 0, .ref a_cl, .ref a_us, .ref a_mo, .ref a_to, .ref a_mb, .ref a_le, .int 0, .ref a_rs, .ref a_rm, .ref a_nu])), (a_rs, .inl (cI, 4, .inl f_7)), (a_rm, .inl (cI, 4, .inl f_8)), (a_nu, .inl (cJ, 160, .inr (.inl f_124)))] := hD
                                                                  refine lv_iinc (v := 29) (lv' := [(4, .int 29), (0, .ref h0), (1, .int i_0), (2, .int i_1), (3, .int i_2)]) hx hb dX12_numbers_83 hl (k := 0) rfl (by decide) (by decide) rfl (fun ls hl => ?_)
                                                                  refine lv_goto (tgt := 64) hx hb dX12_numbers_86 (by decide) ?_
                                                                  refine lv_iload hx hb dX12_numbers_64 (lv_at hl 0 rfl) ?_
                                                                  refine lv_iload_n hx hb dX12_numbers_66 rfl (lv_at hl 4 rfl) ?_
                                                                  refine lv_icmp_ge (tgt := 89) hx hb dX12_numbers_67 (by decide) (fun c_125 => ?_) (fun c_125 => ?_)
                                                                  · skip
                                                                    have tc_125 := f_le (k := 29) (by decide) c_125
                                                                    refine lv_iconst (v := 0) hx hb dX12_numbers_89 (by decide) ?_
                                                                    refine W.widen (k := 0) (n := 0) (Nat.le_of_ble_eq_true rfl) (Nat.le_of_ble_eq_true rfl) ?_
                                                                    exact e_i (u := []) hx hb hr hlocks (hP.sub (ws' := []) [] rfl) (hD.sub (ws' := []) [] (by decide) rfl) hS ⟨(by unfold F_numbers; (repeat' split) <;> first | rfl | (exfalso; omega)), rfl⟩ dX12_numbers_90
                                                                  · skip
                                                                    have tc_125 := f_nle (k := 29) (by decide) c_125
                                                                    refine lv_aload_n hx hb dX12_numbers_70 rfl (lv_at hl 1 rfl) ?_
                                                                    refine va_get (D := D) (ci := 12) (v := .ref a_nu) (C := RX12) (T := TX12) (N := 36) hx hb hts uX12 hown hkb.1 hP 0 rfl rfl 35 (by decide) (hts _ kw_1258) (fun _ h9 => h9) rfl dX12_numbers_71 ?_
                                                                    refine lv_bipush (v := 40) hx hb dX12_numbers_74 (by decide) ?_
                                                                    refine lv_iload_n hx hb dX12_numbers_76 rfl (lv_at hl 2 rfl) ?_
                                                                    refine lv_imul hx hb dX12_numbers_77 ?_
                                                                    refine lv_topi (fun v_126 ev_126 => ?_)
                                                                    refine lv_iload hx hb dX12_numbers_78 (lv_at hl 0 rfl) ?_
                                                                    refine lv_iadd hx hb dX12_numbers_80 ?_
                                                                    refine lv_topi (fun v_127 ev_127 => ?_)
                                                                    refine lv_lconst (v := 0) hx hb dX12_numbers_81 (by decide) ?_
                                                                    refine s_l 3 2 hx hb hkb.1 hP hD hS rfl rfl (in40 (by omega) (by omega) ev_126 ev_127 (by decide +kernel)) (Int32.toNatClampNeg v_127) (rfl) dX12_numbers_82 (fun H locs hP hD hS => ?_)
                                                                    have hP : va_P D cls [(h0, .inr (12, [.int 0, .ref a_al, .ref a_hi, .ref a_mt, .ref a_fr, .int 0, .int 0, .int 0, .int 0, .int 0, .int 0, .int 0, .int 0, .int 0, .int (-1), .ref a_rk, .int 0, .ref a_on, .ref a_aw, .ref a_ro, .int 0, .ref a_ws, .ref a_ah, .int 0, .int 0, .int 0, .ref a_cl, .ref a_us, .ref a_mo, .ref a_to, .ref a_mb, .ref a_le, .int 0, .ref a_rs, .ref a_rm, .ref a_nu])), (a_rs, .inl (cI, 4, .inl f_7)), (a_rm, .inl (cI, 4, .inl f_8)), (a_nu, .inl (cJ, 160, .inr (.inl (vp_updL f_124 (Int32.toNatClampNeg v_127) 0))))] H := hP
                                                                    have hD : va_D A [(h0, .inr (12, [.int 0, .ref a_al, .ref a_hi, .ref a_mt, .ref a_fr, .int 0, .int 0, .int 0, .int 0, .int 0, .int 0, .int 0, .int 0, .int 0, .int (-1), .ref a_rk, .int 0, .ref a_on, .ref a_aw, .ref a_ro, .int 0, .ref a_ws, .ref a_ah, .int 0, .int 0, .int 0, .ref a_cl, .ref a_us, .ref a_mo, .ref a_to, .ref a_mb, .ref a_le, .int 0, .ref a_rs, .ref a_rm, .ref a_nu])), (a_rs, .inl (cI, 4, .inl f_7)), (a_rm, .inl (cI, 4, .inl f_8)), (a_nu, .inl (cJ, 160, .inr (.inl (vp_updL f_124 (Int32.toNatClampNeg v_127) 0))))] := hD
                                                                    generalize hq9 : vp_updL f_124 (Int32.toNatClampNeg v_127) 0 = f_128 at hP hD; clear hq9
                                                                    have hP : va_P D cls [(h0, .inr (12, [.int 0, .ref a_al, .ref a_hi, .ref a_mt, .ref a_fr, .int 0, .int 0, .int 0, .int 0, .int 0, .int 0, .int 0, .int 0, .int 0, .int (-1), .ref a_rk, .int 0, .ref a_on, .ref a_aw, .ref a_ro, .int 0, .ref a_ws, .ref a_ah, .int 0, .int 0, .int 0, .ref a_cl, .ref a_us, .ref a_mo, .ref a_to, .ref a_mb, .ref a_le, .int 0, .ref a_rs, .ref a_rm, .ref a_nu])), (a_rs, .inl (cI, 4, .inl f_7)), (a_rm, .inl (cI, 4, .inl f_8)), (a_nu, .inl (cJ, 160, .inr (.inl f_128)))] H := hP
                                                                    have hD : va_D A [(h0, .inr (12, [.int 0, .ref a_al, .ref a_hi, .ref a_mt, .ref a_fr, .int 0, .int 0, .int 0, .int 0, .int 0, .int 0, .int 0, .int 0, .int 0, .int (-1), .ref a_rk, .int 0, .ref a_on, .ref a_aw, .ref a_ro, .int 0, .ref a_ws, .ref a_ah, .int 0, .int 0, .int 0, .ref a_cl, .ref a_us, .ref a_mo, .ref a_to, .ref a_mb, .ref a_le, .int 0, .ref a_rs, .ref a_rm, .ref a_nu])), (a_rs, .inl (cI, 4, .inl f_7)), (a_rm, .inl (cI, 4, .inl f_8)), (a_nu, .inl (cJ, 160, .inr (.inl f_128)))] := hD
                                                                    refine lv_iinc (v := 30) (lv' := [(4, .int 30), (0, .ref h0), (1, .int i_0), (2, .int i_1), (3, .int i_2)]) hx hb dX12_numbers_83 hl (k := 0) rfl (by decide) (by decide) rfl (fun ls hl => ?_)
                                                                    refine lv_goto (tgt := 64) hx hb dX12_numbers_86 (by decide) ?_
                                                                    refine lv_iload hx hb dX12_numbers_64 (lv_at hl 0 rfl) ?_
                                                                    refine lv_iload_n hx hb dX12_numbers_66 rfl (lv_at hl 4 rfl) ?_
                                                                    refine lv_icmp_ge (tgt := 89) hx hb dX12_numbers_67 (by decide) (fun c_129 => ?_) (fun c_129 => ?_)
                                                                    · skip
                                                                      have tc_129 := f_le (k := 30) (by decide) c_129
                                                                      refine lv_iconst (v := 0) hx hb dX12_numbers_89 (by decide) ?_
                                                                      refine W.widen (k := 0) (n := 0) (Nat.le_of_ble_eq_true rfl) (Nat.le_of_ble_eq_true rfl) ?_
                                                                      exact e_i (u := []) hx hb hr hlocks (hP.sub (ws' := []) [] rfl) (hD.sub (ws' := []) [] (by decide) rfl) hS ⟨(by unfold F_numbers; (repeat' split) <;> first | rfl | (exfalso; omega)), rfl⟩ dX12_numbers_90
                                                                    · skip
                                                                      have tc_129 := f_nle (k := 30) (by decide) c_129
                                                                      refine lv_aload_n hx hb dX12_numbers_70 rfl (lv_at hl 1 rfl) ?_
                                                                      refine va_get (D := D) (ci := 12) (v := .ref a_nu) (C := RX12) (T := TX12) (N := 36) hx hb hts uX12 hown hkb.1 hP 0 rfl rfl 35 (by decide) (hts _ kw_1258) (fun _ h9 => h9) rfl dX12_numbers_71 ?_
                                                                      refine lv_bipush (v := 40) hx hb dX12_numbers_74 (by decide) ?_
                                                                      refine lv_iload_n hx hb dX12_numbers_76 rfl (lv_at hl 2 rfl) ?_
                                                                      refine lv_imul hx hb dX12_numbers_77 ?_
                                                                      refine lv_topi (fun v_130 ev_130 => ?_)
                                                                      refine lv_iload hx hb dX12_numbers_78 (lv_at hl 0 rfl) ?_
                                                                      refine lv_iadd hx hb dX12_numbers_80 ?_
                                                                      refine lv_topi (fun v_131 ev_131 => ?_)
                                                                      refine lv_lconst (v := 0) hx hb dX12_numbers_81 (by decide) ?_
                                                                      refine s_l 3 2 hx hb hkb.1 hP hD hS rfl rfl (in40 (by omega) (by omega) ev_130 ev_131 (by decide +kernel)) (Int32.toNatClampNeg v_131) (rfl) dX12_numbers_82 (fun H locs hP hD hS => ?_)
                                                                      have hP : va_P D cls [(h0, .inr (12, [.int 0, .ref a_al, .ref a_hi, .ref a_mt, .ref a_fr, .int 0, .int 0, .int 0, .int 0, .int 0, .int 0, .int 0, .int 0, .int 0, .int (-1), .ref a_rk, .int 0, .ref a_on, .ref a_aw, .ref a_ro, .int 0, .ref a_ws, .ref a_ah, .int 0, .int 0, .int 0, .ref a_cl, .ref a_us, .ref a_mo, .ref a_to, .ref a_mb, .ref a_le, .int 0, .ref a_rs, .ref a_rm, .ref a_nu])), (a_rs, .inl (cI, 4, .inl f_7)), (a_rm, .inl (cI, 4, .inl f_8)), (a_nu, .inl (cJ, 160, .inr (.inl (vp_updL f_128 (Int32.toNatClampNeg v_131) 0))))] H := hP
                                                                      have hD : va_D A [(h0, .inr (12, [.int 0, .ref a_al, .ref a_hi, .ref a_mt, .ref a_fr, .int 0, .int 0, .int 0, .int 0, .int 0, .int 0, .int 0, .int 0, .int 0, .int (-1), .ref a_rk, .int 0, .ref a_on, .ref a_aw, .ref a_ro, .int 0, .ref a_ws, .ref a_ah, .int 0, .int 0, .int 0, .ref a_cl, .ref a_us, .ref a_mo, .ref a_to, .ref a_mb, .ref a_le, .int 0, .ref a_rs, .ref a_rm, .ref a_nu])), (a_rs, .inl (cI, 4, .inl f_7)), (a_rm, .inl (cI, 4, .inl f_8)), (a_nu, .inl (cJ, 160, .inr (.inl (vp_updL f_128 (Int32.toNatClampNeg v_131) 0))))] := hD
                                                                      generalize hq9 : vp_updL f_128 (Int32.toNatClampNeg v_131) 0 = f_132 at hP hD; clear hq9
                                                                      have hP : va_P D cls [(h0, .inr (12, [.int 0, .ref a_al, .ref a_hi, .ref a_mt, .ref a_fr, .int 0, .int 0, .int 0, .int 0, .int 0, .int 0, .int 0, .int 0, .int 0, .int (-1), .ref a_rk, .int 0, .ref a_on, .ref a_aw, .ref a_ro, .int 0, .ref a_ws, .ref a_ah, .int 0, .int 0, .int 0, .ref a_cl, .ref a_us, .ref a_mo, .ref a_to, .ref a_mb, .ref a_le, .int 0, .ref a_rs, .ref a_rm, .ref a_nu])), (a_rs, .inl (cI, 4, .inl f_7)), (a_rm, .inl (cI, 4, .inl f_8)), (a_nu, .inl (cJ, 160, .inr (.inl f_132)))] H := hP
                                                                      have hD : va_D A [(h0, .inr (12, [.int 0, .ref a_al, .ref a_hi, .ref a_mt, .ref a_fr, .int 0, .int 0, .int 0, .int 0, .int 0, .int 0, .int 0, .int 0, .int 0, .int (-1), .ref a_rk, .int 0, .ref a_on, .ref a_aw, .ref a_ro, .int 0, .ref a_ws, .ref a_ah, .int 0, .int 0, .int 0, .ref a_cl, .ref a_us, .ref a_mo, .ref a_to, .ref a_mb, .ref a_le, .int 0, .ref a_rs, .ref a_rm, .ref a_nu])), (a_rs, .inl (cI, 4, .inl f_7)), (a_rm, .inl (cI, 4, .inl f_8)), (a_nu, .inl (cJ, 160, .inr (.inl f_132)))] := hD
                                                                      refine lv_iinc (v := 31) (lv' := [(4, .int 31), (0, .ref h0), (1, .int i_0), (2, .int i_1), (3, .int i_2)]) hx hb dX12_numbers_83 hl (k := 0) rfl (by decide) (by decide) rfl (fun ls hl => ?_)
                                                                      refine lv_goto (tgt := 64) hx hb dX12_numbers_86 (by decide) ?_
                                                                      refine lv_iload hx hb dX12_numbers_64 (lv_at hl 0 rfl) ?_
                                                                      refine lv_iload_n hx hb dX12_numbers_66 rfl (lv_at hl 4 rfl) ?_
                                                                      refine lv_icmp_ge (tgt := 89) hx hb dX12_numbers_67 (by decide) (fun c_133 => ?_) (fun c_133 => ?_)
                                                                      · skip
                                                                        have tc_133 := f_le (k := 31) (by decide) c_133
                                                                        refine lv_iconst (v := 0) hx hb dX12_numbers_89 (by decide) ?_
                                                                        refine W.widen (k := 0) (n := 0) (Nat.le_of_ble_eq_true rfl) (Nat.le_of_ble_eq_true rfl) ?_
                                                                        exact e_i (u := []) hx hb hr hlocks (hP.sub (ws' := []) [] rfl) (hD.sub (ws' := []) [] (by decide) rfl) hS ⟨(by unfold F_numbers; (repeat' split) <;> first | rfl | (exfalso; omega)), rfl⟩ dX12_numbers_90
                                                                      · skip
                                                                        have tc_133 := f_nle (k := 31) (by decide) c_133
                                                                        refine lv_aload_n hx hb dX12_numbers_70 rfl (lv_at hl 1 rfl) ?_
                                                                        refine va_get (D := D) (ci := 12) (v := .ref a_nu) (C := RX12) (T := TX12) (N := 36) hx hb hts uX12 hown hkb.1 hP 0 rfl rfl 35 (by decide) (hts _ kw_1258) (fun _ h9 => h9) rfl dX12_numbers_71 ?_
                                                                        refine lv_bipush (v := 40) hx hb dX12_numbers_74 (by decide) ?_
                                                                        refine lv_iload_n hx hb dX12_numbers_76 rfl (lv_at hl 2 rfl) ?_
                                                                        refine lv_imul hx hb dX12_numbers_77 ?_
                                                                        refine lv_topi (fun v_134 ev_134 => ?_)
                                                                        refine lv_iload hx hb dX12_numbers_78 (lv_at hl 0 rfl) ?_
                                                                        refine lv_iadd hx hb dX12_numbers_80 ?_
                                                                        refine lv_topi (fun v_135 ev_135 => ?_)
                                                                        refine lv_lconst (v := 0) hx hb dX12_numbers_81 (by decide) ?_
                                                                        refine s_l 3 2 hx hb hkb.1 hP hD hS rfl rfl (in40 (by omega) (by omega) ev_134 ev_135 (by decide +kernel)) (Int32.toNatClampNeg v_135) (rfl) dX12_numbers_82 (fun H locs hP hD hS => ?_)
                                                                        have hP : va_P D cls [(h0, .inr (12, [.int 0, .ref a_al, .ref a_hi, .ref a_mt, .ref a_fr, .int 0, .int 0, .int 0, .int 0, .int 0, .int 0, .int 0, .int 0, .int 0, .int (-1), .ref a_rk, .int 0, .ref a_on, .ref a_aw, .ref a_ro, .int 0, .ref a_ws, .ref a_ah, .int 0, .int 0, .int 0, .ref a_cl, .ref a_us, .ref a_mo, .ref a_to, .ref a_mb, .ref a_le, .int 0, .ref a_rs, .ref a_rm, .ref a_nu])), (a_rs, .inl (cI, 4, .inl f_7)), (a_rm, .inl (cI, 4, .inl f_8)), (a_nu, .inl (cJ, 160, .inr (.inl (vp_updL f_132 (Int32.toNatClampNeg v_135) 0))))] H := hP
                                                                        have hD : va_D A [(h0, .inr (12, [.int 0, .ref a_al, .ref a_hi, .ref a_mt, .ref a_fr, .int 0, .int 0, .int 0, .int 0, .int 0, .int 0, .int 0, .int 0, .int 0, .int (-1), .ref a_rk, .int 0, .ref a_on, .ref a_aw, .ref a_ro, .int 0, .ref a_ws, .ref a_ah, .int 0, .int 0, .int 0, .ref a_cl, .ref a_us, .ref a_mo, .ref a_to, .ref a_mb, .ref a_le, .int 0, .ref a_rs, .ref a_rm, .ref a_nu])), (a_rs, .inl (cI, 4, .inl f_7)), (a_rm, .inl (cI, 4, .inl f_8)), (a_nu, .inl (cJ, 160, .inr (.inl (vp_updL f_132 (Int32.toNatClampNeg v_135) 0))))] := hD
                                                                        generalize hq9 : vp_updL f_132 (Int32.toNatClampNeg v_135) 0 = f_136 at hP hD; clear hq9
                                                                        have hP : va_P D cls [(h0, .inr (12, [.int 0, .ref a_al, .ref a_hi, .ref a_mt, .ref a_fr, .int 0, .int 0, .int 0, .int 0, .int 0, .int 0, .int 0, .int 0, .int 0, .int (-1), .ref a_rk, .int 0, .ref a_on, .ref a_aw, .ref a_ro, .int 0, .ref a_ws, .ref a_ah, .int 0, .int 0, .int 0, .ref a_cl, .ref a_us, .ref a_mo, .ref a_to, .ref a_mb, .ref a_le, .int 0, .ref a_rs, .ref a_rm, .ref a_nu])), (a_rs, .inl (cI, 4, .inl f_7)), (a_rm, .inl (cI, 4, .inl f_8)), (a_nu, .inl (cJ, 160, .inr (.inl f_136)))] H := hP
                                                                        have hD : va_D A [(h0, .inr (12, [.int 0, .ref a_al, .ref a_hi, .ref a_mt, .ref a_fr, .int 0, .int 0, .int 0, .int 0, .int 0, .int 0, .int 0, .int 0, .int 0, .int (-1), .ref a_rk, .int 0, .ref a_on, .ref a_aw, .ref a_ro, .int 0, .ref a_ws, .ref a_ah, .int 0, .int 0, .int 0, .ref a_cl, .ref a_us, .ref a_mo, .ref a_to, .ref a_mb, .ref a_le, .int 0, .ref a_rs, .ref a_rm, .ref a_nu])), (a_rs, .inl (cI, 4, .inl f_7)), (a_rm, .inl (cI, 4, .inl f_8)), (a_nu, .inl (cJ, 160, .inr (.inl f_136)))] := hD
                                                                        refine lv_iinc (v := 32) (lv' := [(4, .int 32), (0, .ref h0), (1, .int i_0), (2, .int i_1), (3, .int i_2)]) hx hb dX12_numbers_83 hl (k := 0) rfl (by decide) (by decide) rfl (fun ls hl => ?_)
                                                                        refine lv_goto (tgt := 64) hx hb dX12_numbers_86 (by decide) ?_
                                                                        refine lv_iload hx hb dX12_numbers_64 (lv_at hl 0 rfl) ?_
                                                                        refine lv_iload_n hx hb dX12_numbers_66 rfl (lv_at hl 4 rfl) ?_
                                                                        refine lv_icmp_ge (tgt := 89) hx hb dX12_numbers_67 (by decide) (fun c_137 => ?_) (fun c_137 => ?_)
                                                                        · skip
                                                                          have tc_137 := f_le (k := 32) (by decide) c_137
                                                                          refine lv_iconst (v := 0) hx hb dX12_numbers_89 (by decide) ?_
                                                                          refine W.widen (k := 0) (n := 0) (Nat.le_of_ble_eq_true rfl) (Nat.le_of_ble_eq_true rfl) ?_
                                                                          exact e_i (u := []) hx hb hr hlocks (hP.sub (ws' := []) [] rfl) (hD.sub (ws' := []) [] (by decide) rfl) hS ⟨(by unfold F_numbers; (repeat' split) <;> first | rfl | (exfalso; omega)), rfl⟩ dX12_numbers_90
                                                                        · skip
                                                                          have tc_137 := f_nle (k := 32) (by decide) c_137
                                                                          refine lv_aload_n hx hb dX12_numbers_70 rfl (lv_at hl 1 rfl) ?_
                                                                          refine va_get (D := D) (ci := 12) (v := .ref a_nu) (C := RX12) (T := TX12) (N := 36) hx hb hts uX12 hown hkb.1 hP 0 rfl rfl 35 (by decide) (hts _ kw_1258) (fun _ h9 => h9) rfl dX12_numbers_71 ?_
                                                                          refine lv_bipush (v := 40) hx hb dX12_numbers_74 (by decide) ?_
                                                                          refine lv_iload_n hx hb dX12_numbers_76 rfl (lv_at hl 2 rfl) ?_
                                                                          refine lv_imul hx hb dX12_numbers_77 ?_
                                                                          refine lv_topi (fun v_138 ev_138 => ?_)
                                                                          refine lv_iload hx hb dX12_numbers_78 (lv_at hl 0 rfl) ?_
                                                                          refine lv_iadd hx hb dX12_numbers_80 ?_
                                                                          refine lv_topi (fun v_139 ev_139 => ?_)
                                                                          refine lv_lconst (v := 0) hx hb dX12_numbers_81 (by decide) ?_
                                                                          refine s_l 3 2 hx hb hkb.1 hP hD hS rfl rfl (in40 (by omega) (by omega) ev_138 ev_139 (by decide +kernel)) (Int32.toNatClampNeg v_139) (rfl) dX12_numbers_82 (fun H locs hP hD hS => ?_)
                                                                          have hP : va_P D cls [(h0, .inr (12, [.int 0, .ref a_al, .ref a_hi, .ref a_mt, .ref a_fr, .int 0, .int 0, .int 0, .int 0, .int 0, .int 0, .int 0, .int 0, .int 0, .int (-1), .ref a_rk, .int 0, .ref a_on, .ref a_aw, .ref a_ro, .int 0, .ref a_ws, .ref a_ah, .int 0, .int 0, .int 0, .ref a_cl, .ref a_us, .ref a_mo, .ref a_to, .ref a_mb, .ref a_le, .int 0, .ref a_rs, .ref a_rm, .ref a_nu])), (a_rs, .inl (cI, 4, .inl f_7)), (a_rm, .inl (cI, 4, .inl f_8)), (a_nu, .inl (cJ, 160, .inr (.inl (vp_updL f_136 (Int32.toNatClampNeg v_139) 0))))] H := hP
                                                                          have hD : va_D A [(h0, .inr (12, [.int 0, .ref a_al, .ref a_hi, .ref a_mt, .ref a_fr, .int 0, .int 0, .int 0, .int 0, .int 0, .int 0, .int 0, .int 0, .int 0, .int (-1), .ref a_rk, .int 0, .ref a_on, .ref a_aw, .ref a_ro, .int 0, .ref a_ws, .ref a_ah, .int 0, .int 0, .int 0, .ref a_cl, .ref a_us, .ref a_mo, .ref a_to, .ref a_mb, .ref a_le, .int 0, .ref a_rs, .ref a_rm, .ref a_nu])), (a_rs, .inl (cI, 4, .inl f_7)), (a_rm, .inl (cI, 4, .inl f_8)), (a_nu, .inl (cJ, 160, .inr (.inl (vp_updL f_136 (Int32.toNatClampNeg v_139) 0))))] := hD
                                                                          generalize hq9 : vp_updL f_136 (Int32.toNatClampNeg v_139) 0 = f_140 at hP hD; clear hq9
                                                                          have hP : va_P D cls [(h0, .inr (12, [.int 0, .ref a_al, .ref a_hi, .ref a_mt, .ref a_fr, .int 0, .int 0, .int 0, .int 0, .int 0, .int 0, .int 0, .int 0, .int 0, .int (-1), .ref a_rk, .int 0, .ref a_on, .ref a_aw, .ref a_ro, .int 0, .ref a_ws, .ref a_ah, .int 0, .int 0, .int 0, .ref a_cl, .ref a_us, .ref a_mo, .ref a_to, .ref a_mb, .ref a_le, .int 0, .ref a_rs, .ref a_rm, .ref a_nu])), (a_rs, .inl (cI, 4, .inl f_7)), (a_rm, .inl (cI, 4, .inl f_8)), (a_nu, .inl (cJ, 160, .inr (.inl f_140)))] H := hP
                                                                          have hD : va_D A [(h0, .inr (12, [.int 0, .ref a_al, .ref a_hi, .ref a_mt, .ref a_fr, .int 0, .int 0, .int 0, .int 0, .int 0, .int 0, .int 0, .int 0, .int 0, .int (-1), .ref a_rk, .int 0, .ref a_on, .ref a_aw, .ref a_ro, .int 0, .ref a_ws, .ref a_ah, .int 0, .int 0, .int 0, .ref a_cl, .ref a_us, .ref a_mo, .ref a_to, .ref a_mb, .ref a_le, .int 0, .ref a_rs, .ref a_rm, .ref a_nu])), (a_rs, .inl (cI, 4, .inl f_7)), (a_rm, .inl (cI, 4, .inl f_8)), (a_nu, .inl (cJ, 160, .inr (.inl f_140)))] := hD
                                                                          refine lv_iinc (v := 33) (lv' := [(4, .int 33), (0, .ref h0), (1, .int i_0), (2, .int i_1), (3, .int i_2)]) hx hb dX12_numbers_83 hl (k := 0) rfl (by decide) (by decide) rfl (fun ls hl => ?_)
                                                                          refine lv_goto (tgt := 64) hx hb dX12_numbers_86 (by decide) ?_
                                                                          refine lv_iload hx hb dX12_numbers_64 (lv_at hl 0 rfl) ?_
                                                                          refine lv_iload_n hx hb dX12_numbers_66 rfl (lv_at hl 4 rfl) ?_
                                                                          refine lv_icmp_ge (tgt := 89) hx hb dX12_numbers_67 (by decide) (fun c_141 => ?_) (fun c_141 => ?_)
                                                                          · skip
                                                                            have tc_141 := f_le (k := 33) (by decide) c_141
                                                                            refine lv_iconst (v := 0) hx hb dX12_numbers_89 (by decide) ?_
                                                                            refine W.widen (k := 0) (n := 0) (Nat.le_of_ble_eq_true rfl) (Nat.le_of_ble_eq_true rfl) ?_
                                                                            exact e_i (u := []) hx hb hr hlocks (hP.sub (ws' := []) [] rfl) (hD.sub (ws' := []) [] (by decide) rfl) hS ⟨(by unfold F_numbers; (repeat' split) <;> first | rfl | (exfalso; omega)), rfl⟩ dX12_numbers_90
                                                                          · skip
                                                                            have tc_141 := f_nle (k := 33) (by decide) c_141
                                                                            refine lv_aload_n hx hb dX12_numbers_70 rfl (lv_at hl 1 rfl) ?_
                                                                            refine va_get (D := D) (ci := 12) (v := .ref a_nu) (C := RX12) (T := TX12) (N := 36) hx hb hts uX12 hown hkb.1 hP 0 rfl rfl 35 (by decide) (hts _ kw_1258) (fun _ h9 => h9) rfl dX12_numbers_71 ?_
                                                                            refine lv_bipush (v := 40) hx hb dX12_numbers_74 (by decide) ?_
                                                                            refine lv_iload_n hx hb dX12_numbers_76 rfl (lv_at hl 2 rfl) ?_
                                                                            refine lv_imul hx hb dX12_numbers_77 ?_
                                                                            refine lv_topi (fun v_142 ev_142 => ?_)
                                                                            refine lv_iload hx hb dX12_numbers_78 (lv_at hl 0 rfl) ?_
                                                                            refine lv_iadd hx hb dX12_numbers_80 ?_
                                                                            refine lv_topi (fun v_143 ev_143 => ?_)
                                                                            refine lv_lconst (v := 0) hx hb dX12_numbers_81 (by decide) ?_
                                                                            refine s_l 3 2 hx hb hkb.1 hP hD hS rfl rfl (in40 (by omega) (by omega) ev_142 ev_143 (by decide +kernel)) (Int32.toNatClampNeg v_143) (rfl) dX12_numbers_82 (fun H locs hP hD hS => ?_)
                                                                            have hP : va_P D cls [(h0, .inr (12, [.int 0, .ref a_al, .ref a_hi, .ref a_mt, .ref a_fr, .int 0, .int 0, .int 0, .int 0, .int 0, .int 0, .int 0, .int 0, .int 0, .int (-1), .ref a_rk, .int 0, .ref a_on, .ref a_aw, .ref a_ro, .int 0, .ref a_ws, .ref a_ah, .int 0, .int 0, .int 0, .ref a_cl, .ref a_us, .ref a_mo, .ref a_to, .ref a_mb, .ref a_le, .int 0, .ref a_rs, .ref a_rm, .ref a_nu])), (a_rs, .inl (cI, 4, .inl f_7)), (a_rm, .inl (cI, 4, .inl f_8)), (a_nu, .inl (cJ, 160, .inr (.inl (vp_updL f_140 (Int32.toNatClampNeg v_143) 0))))] H := hP
                                                                            have hD : va_D A [(h0, .inr (12, [.int 0, .ref a_al, .ref a_hi, .ref a_mt, .ref a_fr, .int 0, .int 0, .int 0, .int 0, .int 0, .int 0, .int 0, .int 0, .int 0, .int (-1), .ref a_rk, .int 0, .ref a_on, .ref a_aw, .ref a_ro, .int 0, .ref a_ws, .ref a_ah, .int 0, .int 0, .int 0, .ref a_cl, .ref a_us, .ref a_mo, .ref a_to, .ref a_mb, .ref a_le, .int 0, .ref a_rs, .ref a_rm, .ref a_nu])), (a_rs, .inl (cI, 4, .inl f_7)), (a_rm, .inl (cI, 4, .inl f_8)), (a_nu, .inl (cJ, 160, .inr (.inl (vp_updL f_140 (Int32.toNatClampNeg v_143) 0))))] := hD
                                                                            generalize hq9 : vp_updL f_140 (Int32.toNatClampNeg v_143) 0 = f_144 at hP hD; clear hq9
                                                                            have hP : va_P D cls [(h0, .inr (12, [.int 0, .ref a_al, .ref a_hi, .ref a_mt, .ref a_fr, .int 0, .int 0, .int 0, .int 0, .int 0, .int 0, .int 0, .int 0, .int 0, .int (-1), .ref a_rk, .int 0, .ref a_on, .ref a_aw, .ref a_ro, .int 0, .ref a_ws, .ref a_ah, .int 0, .int 0, .int 0, .ref a_cl, .ref a_us, .ref a_mo, .ref a_to, .ref a_mb, .ref a_le, .int 0, .ref a_rs, .ref a_rm, .ref a_nu])), (a_rs, .inl (cI, 4, .inl f_7)), (a_rm, .inl (cI, 4, .inl f_8)), (a_nu, .inl (cJ, 160, .inr (.inl f_144)))] H := hP
                                                                            have hD : va_D A [(h0, .inr (12, [.int 0, .ref a_al, .ref a_hi, .ref a_mt, .ref a_fr, .int 0, .int 0, .int 0, .int 0, .int 0, .int 0, .int 0, .int 0, .int 0, .int (-1), .ref a_rk, .int 0, .ref a_on, .ref a_aw, .ref a_ro, .int 0, .ref a_ws, .ref a_ah, .int 0, .int 0, .int 0, .ref a_cl, .ref a_us, .ref a_mo, .ref a_to, .ref a_mb, .ref a_le, .int 0, .ref a_rs, .ref a_rm, .ref a_nu])), (a_rs, .inl (cI, 4, .inl f_7)), (a_rm, .inl (cI, 4, .inl f_8)), (a_nu, .inl (cJ, 160, .inr (.inl f_144)))] := hD
                                                                            refine lv_iinc (v := 34) (lv' := [(4, .int 34), (0, .ref h0), (1, .int i_0), (2, .int i_1), (3, .int i_2)]) hx hb dX12_numbers_83 hl (k := 0) rfl (by decide) (by decide) rfl (fun ls hl => ?_)
                                                                            refine lv_goto (tgt := 64) hx hb dX12_numbers_86 (by decide) ?_
                                                                            refine lv_iload hx hb dX12_numbers_64 (lv_at hl 0 rfl) ?_
                                                                            refine lv_iload_n hx hb dX12_numbers_66 rfl (lv_at hl 4 rfl) ?_
                                                                            refine lv_icmp_ge (tgt := 89) hx hb dX12_numbers_67 (by decide) (fun c_145 => ?_) (fun c_145 => ?_)
                                                                            · skip
                                                                              have tc_145 := f_le (k := 34) (by decide) c_145
                                                                              refine lv_iconst (v := 0) hx hb dX12_numbers_89 (by decide) ?_
                                                                              refine W.widen (k := 0) (n := 0) (Nat.le_of_ble_eq_true rfl) (Nat.le_of_ble_eq_true rfl) ?_
                                                                              exact e_i (u := []) hx hb hr hlocks (hP.sub (ws' := []) [] rfl) (hD.sub (ws' := []) [] (by decide) rfl) hS ⟨(by unfold F_numbers; (repeat' split) <;> first | rfl | (exfalso; omega)), rfl⟩ dX12_numbers_90
                                                                            · skip
                                                                              have tc_145 := f_nle (k := 34) (by decide) c_145
                                                                              refine lv_aload_n hx hb dX12_numbers_70 rfl (lv_at hl 1 rfl) ?_
                                                                              refine va_get (D := D) (ci := 12) (v := .ref a_nu) (C := RX12) (T := TX12) (N := 36) hx hb hts uX12 hown hkb.1 hP 0 rfl rfl 35 (by decide) (hts _ kw_1258) (fun _ h9 => h9) rfl dX12_numbers_71 ?_
                                                                              refine lv_bipush (v := 40) hx hb dX12_numbers_74 (by decide) ?_
                                                                              refine lv_iload_n hx hb dX12_numbers_76 rfl (lv_at hl 2 rfl) ?_
                                                                              refine lv_imul hx hb dX12_numbers_77 ?_
                                                                              refine lv_topi (fun v_146 ev_146 => ?_)
                                                                              refine lv_iload hx hb dX12_numbers_78 (lv_at hl 0 rfl) ?_
                                                                              refine lv_iadd hx hb dX12_numbers_80 ?_
                                                                              refine lv_topi (fun v_147 ev_147 => ?_)
                                                                              refine lv_lconst (v := 0) hx hb dX12_numbers_81 (by decide) ?_
                                                                              refine s_l 3 2 hx hb hkb.1 hP hD hS rfl rfl (in40 (by omega) (by omega) ev_146 ev_147 (by decide +kernel)) (Int32.toNatClampNeg v_147) (rfl) dX12_numbers_82 (fun H locs hP hD hS => ?_)
                                                                              have hP : va_P D cls [(h0, .inr (12, [.int 0, .ref a_al, .ref a_hi, .ref a_mt, .ref a_fr, .int 0, .int 0, .int 0, .int 0, .int 0, .int 0, .int 0, .int 0, .int 0, .int (-1), .ref a_rk, .int 0, .ref a_on, .ref a_aw, .ref a_ro, .int 0, .ref a_ws, .ref a_ah, .int 0, .int 0, .int 0, .ref a_cl, .ref a_us, .ref a_mo, .ref a_to, .ref a_mb, .ref a_le, .int 0, .ref a_rs, .ref a_rm, .ref a_nu])), (a_rs, .inl (cI, 4, .inl f_7)), (a_rm, .inl (cI, 4, .inl f_8)), (a_nu, .inl (cJ, 160, .inr (.inl (vp_updL f_144 (Int32.toNatClampNeg v_147) 0))))] H := hP
                                                                              have hD : va_D A [(h0, .inr (12, [.int 0, .ref a_al, .ref a_hi, .ref a_mt, .ref a_fr, .int 0, .int 0, .int 0, .int 0, .int 0, .int 0, .int 0, .int 0, .int 0, .int (-1), .ref a_rk, .int 0, .ref a_on, .ref a_aw, .ref a_ro, .int 0, .ref a_ws, .ref a_ah, .int 0, .int 0, .int 0, .ref a_cl, .ref a_us, .ref a_mo, .ref a_to, .ref a_mb, .ref a_le, .int 0, .ref a_rs, .ref a_rm, .ref a_nu])), (a_rs, .inl (cI, 4, .inl f_7)), (a_rm, .inl (cI, 4, .inl f_8)), (a_nu, .inl (cJ, 160, .inr (.inl (vp_updL f_144 (Int32.toNatClampNeg v_147) 0))))] := hD
                                                                              generalize hq9 : vp_updL f_144 (Int32.toNatClampNeg v_147) 0 = f_148 at hP hD; clear hq9
                                                                              have hP : va_P D cls [(h0, .inr (12, [.int 0, .ref a_al, .ref a_hi, .ref a_mt, .ref a_fr, .int 0, .int 0, .int 0, .int 0, .int 0, .int 0, .int 0, .int 0, .int 0, .int (-1), .ref a_rk, .int 0, .ref a_on, .ref a_aw, .ref a_ro, .int 0, .ref a_ws, .ref a_ah, .int 0, .int 0, .int 0, .ref a_cl, .ref a_us, .ref a_mo, .ref a_to, .ref a_mb, .ref a_le, .int 0, .ref a_rs, .ref a_rm, .ref a_nu])), (a_rs, .inl (cI, 4, .inl f_7)), (a_rm, .inl (cI, 4, .inl f_8)), (a_nu, .inl (cJ, 160, .inr (.inl f_148)))] H := hP
                                                                              have hD : va_D A [(h0, .inr (12, [.int 0, .ref a_al, .ref a_hi, .ref a_mt, .ref a_fr, .int 0, .int 0, .int 0, .int 0, .int 0, .int 0, .int 0, .int 0, .int 0, .int (-1), .ref a_rk, .int 0, .ref a_on, .ref a_aw, .ref a_ro, .int 0, .ref a_ws, .ref a_ah, .int 0, .int 0, .int 0, .ref a_cl, .ref a_us, .ref a_mo, .ref a_to, .ref a_mb, .ref a_le, .int 0, .ref a_rs, .ref a_rm, .ref a_nu])), (a_rs, .inl (cI, 4, .inl f_7)), (a_rm, .inl (cI, 4, .inl f_8)), (a_nu, .inl (cJ, 160, .inr (.inl f_148)))] := hD
                                                                              refine lv_iinc (v := 35) (lv' := [(4, .int 35), (0, .ref h0), (1, .int i_0), (2, .int i_1), (3, .int i_2)]) hx hb dX12_numbers_83 hl (k := 0) rfl (by decide) (by decide) rfl (fun ls hl => ?_)
                                                                              refine lv_goto (tgt := 64) hx hb dX12_numbers_86 (by decide) ?_
                                                                              refine lv_iload hx hb dX12_numbers_64 (lv_at hl 0 rfl) ?_
                                                                              refine lv_iload_n hx hb dX12_numbers_66 rfl (lv_at hl 4 rfl) ?_
                                                                              refine lv_icmp_ge (tgt := 89) hx hb dX12_numbers_67 (by decide) (fun c_149 => ?_) (fun c_149 => ?_)
                                                                              · skip
                                                                                have tc_149 := f_le (k := 35) (by decide) c_149
                                                                                refine lv_iconst (v := 0) hx hb dX12_numbers_89 (by decide) ?_
                                                                                refine W.widen (k := 0) (n := 0) (Nat.le_of_ble_eq_true rfl) (Nat.le_of_ble_eq_true rfl) ?_
                                                                                exact e_i (u := []) hx hb hr hlocks (hP.sub (ws' := []) [] rfl) (hD.sub (ws' := []) [] (by decide) rfl) hS ⟨(by unfold F_numbers; (repeat' split) <;> first | rfl | (exfalso; omega)), rfl⟩ dX12_numbers_90
                                                                              · skip
                                                                                have tc_149 := f_nle (k := 35) (by decide) c_149
                                                                                refine lv_aload_n hx hb dX12_numbers_70 rfl (lv_at hl 1 rfl) ?_
                                                                                refine va_get (D := D) (ci := 12) (v := .ref a_nu) (C := RX12) (T := TX12) (N := 36) hx hb hts uX12 hown hkb.1 hP 0 rfl rfl 35 (by decide) (hts _ kw_1258) (fun _ h9 => h9) rfl dX12_numbers_71 ?_
                                                                                refine lv_bipush (v := 40) hx hb dX12_numbers_74 (by decide) ?_
                                                                                refine lv_iload_n hx hb dX12_numbers_76 rfl (lv_at hl 2 rfl) ?_
                                                                                refine lv_imul hx hb dX12_numbers_77 ?_
                                                                                refine lv_topi (fun v_150 ev_150 => ?_)
                                                                                refine lv_iload hx hb dX12_numbers_78 (lv_at hl 0 rfl) ?_
                                                                                refine lv_iadd hx hb dX12_numbers_80 ?_
                                                                                refine lv_topi (fun v_151 ev_151 => ?_)
                                                                                refine lv_lconst (v := 0) hx hb dX12_numbers_81 (by decide) ?_
                                                                                refine s_l 3 2 hx hb hkb.1 hP hD hS rfl rfl (in40 (by omega) (by omega) ev_150 ev_151 (by decide +kernel)) (Int32.toNatClampNeg v_151) (rfl) dX12_numbers_82 (fun H locs hP hD hS => ?_)
                                                                                have hP : va_P D cls [(h0, .inr (12, [.int 0, .ref a_al, .ref a_hi, .ref a_mt, .ref a_fr, .int 0, .int 0, .int 0, .int 0, .int 0, .int 0, .int 0, .int 0, .int 0, .int (-1), .ref a_rk, .int 0, .ref a_on, .ref a_aw, .ref a_ro, .int 0, .ref a_ws, .ref a_ah, .int 0, .int 0, .int 0, .ref a_cl, .ref a_us, .ref a_mo, .ref a_to, .ref a_mb, .ref a_le, .int 0, .ref a_rs, .ref a_rm, .ref a_nu])), (a_rs, .inl (cI, 4, .inl f_7)), (a_rm, .inl (cI, 4, .inl f_8)), (a_nu, .inl (cJ, 160, .inr (.inl (vp_updL f_148 (Int32.toNatClampNeg v_151) 0))))] H := hP
                                                                                have hD : va_D A [(h0, .inr (12, [.int 0, .ref a_al, .ref a_hi, .ref a_mt, .ref a_fr, .int 0, .int 0, .int 0, .int 0, .int 0, .int 0, .int 0, .int 0, .int 0, .int (-1), .ref a_rk, .int 0, .ref a_on, .ref a_aw, .ref a_ro, .int 0, .ref a_ws, .ref a_ah, .int 0, .int 0, .int 0, .ref a_cl, .ref a_us, .ref a_mo, .ref a_to, .ref a_mb, .ref a_le, .int 0, .ref a_rs, .ref a_rm, .ref a_nu])), (a_rs, .inl (cI, 4, .inl f_7)), (a_rm, .inl (cI, 4, .inl f_8)), (a_nu, .inl (cJ, 160, .inr (.inl (vp_updL f_148 (Int32.toNatClampNeg v_151) 0))))] := hD
                                                                                generalize hq9 : vp_updL f_148 (Int32.toNatClampNeg v_151) 0 = f_152 at hP hD; clear hq9
                                                                                have hP : va_P D cls [(h0, .inr (12, [.int 0, .ref a_al, .ref a_hi, .ref a_mt, .ref a_fr, .int 0, .int 0, .int 0, .int 0, .int 0, .int 0, .int 0, .int 0, .int 0, .int (-1), .ref a_rk, .int 0, .ref a_on, .ref a_aw, .ref a_ro, .int 0, .ref a_ws, .ref a_ah, .int 0, .int 0, .int 0, .ref a_cl, .ref a_us, .ref a_mo, .ref a_to, .ref a_mb, .ref a_le, .int 0, .ref a_rs, .ref a_rm, .ref a_nu])), (a_rs, .inl (cI, 4, .inl f_7)), (a_rm, .inl (cI, 4, .inl f_8)), (a_nu, .inl (cJ, 160, .inr (.inl f_152)))] H := hP
                                                                                have hD : va_D A [(h0, .inr (12, [.int 0, .ref a_al, .ref a_hi, .ref a_mt, .ref a_fr, .int 0, .int 0, .int 0, .int 0, .int 0, .int 0, .int 0, .int 0, .int 0, .int (-1), .ref a_rk, .int 0, .ref a_on, .ref a_aw, .ref a_ro, .int 0, .ref a_ws, .ref a_ah, .int 0, .int 0, .int 0, .ref a_cl, .ref a_us, .ref a_mo, .ref a_to, .ref a_mb, .ref a_le, .int 0, .ref a_rs, .ref a_rm, .ref a_nu])), (a_rs, .inl (cI, 4, .inl f_7)), (a_rm, .inl (cI, 4, .inl f_8)), (a_nu, .inl (cJ, 160, .inr (.inl f_152)))] := hD
                                                                                refine lv_iinc (v := 36) (lv' := [(4, .int 36), (0, .ref h0), (1, .int i_0), (2, .int i_1), (3, .int i_2)]) hx hb dX12_numbers_83 hl (k := 0) rfl (by decide) (by decide) rfl (fun ls hl => ?_)
                                                                                refine lv_goto (tgt := 64) hx hb dX12_numbers_86 (by decide) ?_
                                                                                refine lv_iload hx hb dX12_numbers_64 (lv_at hl 0 rfl) ?_
                                                                                refine lv_iload_n hx hb dX12_numbers_66 rfl (lv_at hl 4 rfl) ?_
                                                                                refine lv_icmp_ge (tgt := 89) hx hb dX12_numbers_67 (by decide) (fun c_153 => ?_) (fun c_153 => ?_)
                                                                                · skip
                                                                                  have tc_153 := f_le (k := 36) (by decide) c_153
                                                                                  refine lv_iconst (v := 0) hx hb dX12_numbers_89 (by decide) ?_
                                                                                  refine W.widen (k := 0) (n := 0) (Nat.le_of_ble_eq_true rfl) (Nat.le_of_ble_eq_true rfl) ?_
                                                                                  exact e_i (u := []) hx hb hr hlocks (hP.sub (ws' := []) [] rfl) (hD.sub (ws' := []) [] (by decide) rfl) hS ⟨(by unfold F_numbers; (repeat' split) <;> first | rfl | (exfalso; omega)), rfl⟩ dX12_numbers_90
                                                                                · skip
                                                                                  have tc_153 := f_nle (k := 36) (by decide) c_153
                                                                                  refine lv_aload_n hx hb dX12_numbers_70 rfl (lv_at hl 1 rfl) ?_
                                                                                  refine va_get (D := D) (ci := 12) (v := .ref a_nu) (C := RX12) (T := TX12) (N := 36) hx hb hts uX12 hown hkb.1 hP 0 rfl rfl 35 (by decide) (hts _ kw_1258) (fun _ h9 => h9) rfl dX12_numbers_71 ?_
                                                                                  refine lv_bipush (v := 40) hx hb dX12_numbers_74 (by decide) ?_
                                                                                  refine lv_iload_n hx hb dX12_numbers_76 rfl (lv_at hl 2 rfl) ?_
                                                                                  refine lv_imul hx hb dX12_numbers_77 ?_
                                                                                  refine lv_topi (fun v_154 ev_154 => ?_)
                                                                                  refine lv_iload hx hb dX12_numbers_78 (lv_at hl 0 rfl) ?_
                                                                                  refine lv_iadd hx hb dX12_numbers_80 ?_
                                                                                  refine lv_topi (fun v_155 ev_155 => ?_)
                                                                                  refine lv_lconst (v := 0) hx hb dX12_numbers_81 (by decide) ?_
                                                                                  refine s_l 3 2 hx hb hkb.1 hP hD hS rfl rfl (in40 (by omega) (by omega) ev_154 ev_155 (by decide +kernel)) (Int32.toNatClampNeg v_155) (rfl) dX12_numbers_82 (fun H locs hP hD hS => ?_)
                                                                                  have hP : va_P D cls [(h0, .inr (12, [.int 0, .ref a_al, .ref a_hi, .ref a_mt, .ref a_fr, .int 0, .int 0, .int 0, .int 0, .int 0, .int 0, .int 0, .int 0, .int 0, .int (-1), .ref a_rk, .int 0, .ref a_on, .ref a_aw, .ref a_ro, .int 0, .ref a_ws, .ref a_ah, .int 0, .int 0, .int 0, .ref a_cl, .ref a_us, .ref a_mo, .ref a_to, .ref a_mb, .ref a_le, .int 0, .ref a_rs, .ref a_rm, .ref a_nu])), (a_rs, .inl (cI, 4, .inl f_7)), (a_rm, .inl (cI, 4, .inl f_8)), (a_nu, .inl (cJ, 160, .inr (.inl (vp_updL f_152 (Int32.toNatClampNeg v_155) 0))))] H := hP
                                                                                  have hD : va_D A [(h0, .inr (12, [.int 0, .ref a_al, .ref a_hi, .ref a_mt, .ref a_fr, .int 0, .int 0, .int 0, .int 0, .int 0, .int 0, .int 0, .int 0, .int 0, .int (-1), .ref a_rk, .int 0, .ref a_on, .ref a_aw, .ref a_ro, .int 0, .ref a_ws, .ref a_ah, .int 0, .int 0, .int 0, .ref a_cl, .ref a_us, .ref a_mo, .ref a_to, .ref a_mb, .ref a_le, .int 0, .ref a_rs, .ref a_rm, .ref a_nu])), (a_rs, .inl (cI, 4, .inl f_7)), (a_rm, .inl (cI, 4, .inl f_8)), (a_nu, .inl (cJ, 160, .inr (.inl (vp_updL f_152 (Int32.toNatClampNeg v_155) 0))))] := hD
                                                                                  generalize hq9 : vp_updL f_152 (Int32.toNatClampNeg v_155) 0 = f_156 at hP hD; clear hq9
                                                                                  have hP : va_P D cls [(h0, .inr (12, [.int 0, .ref a_al, .ref a_hi, .ref a_mt, .ref a_fr, .int 0, .int 0, .int 0, .int 0, .int 0, .int 0, .int 0, .int 0, .int 0, .int (-1), .ref a_rk, .int 0, .ref a_on, .ref a_aw, .ref a_ro, .int 0, .ref a_ws, .ref a_ah, .int 0, .int 0, .int 0, .ref a_cl, .ref a_us, .ref a_mo, .ref a_to, .ref a_mb, .ref a_le, .int 0, .ref a_rs, .ref a_rm, .ref a_nu])), (a_rs, .inl (cI, 4, .inl f_7)), (a_rm, .inl (cI, 4, .inl f_8)), (a_nu, .inl (cJ, 160, .inr (.inl f_156)))] H := hP
                                                                                  have hD : va_D A [(h0, .inr (12, [.int 0, .ref a_al, .ref a_hi, .ref a_mt, .ref a_fr, .int 0, .int 0, .int 0, .int 0, .int 0, .int 0, .int 0, .int 0, .int 0, .int (-1), .ref a_rk, .int 0, .ref a_on, .ref a_aw, .ref a_ro, .int 0, .ref a_ws, .ref a_ah, .int 0, .int 0, .int 0, .ref a_cl, .ref a_us, .ref a_mo, .ref a_to, .ref a_mb, .ref a_le, .int 0, .ref a_rs, .ref a_rm, .ref a_nu])), (a_rs, .inl (cI, 4, .inl f_7)), (a_rm, .inl (cI, 4, .inl f_8)), (a_nu, .inl (cJ, 160, .inr (.inl f_156)))] := hD
                                                                                  refine lv_iinc (v := 37) (lv' := [(4, .int 37), (0, .ref h0), (1, .int i_0), (2, .int i_1), (3, .int i_2)]) hx hb dX12_numbers_83 hl (k := 0) rfl (by decide) (by decide) rfl (fun ls hl => ?_)
                                                                                  refine lv_goto (tgt := 64) hx hb dX12_numbers_86 (by decide) ?_
                                                                                  refine lv_iload hx hb dX12_numbers_64 (lv_at hl 0 rfl) ?_
                                                                                  refine lv_iload_n hx hb dX12_numbers_66 rfl (lv_at hl 4 rfl) ?_
                                                                                  refine lv_icmp_ge (tgt := 89) hx hb dX12_numbers_67 (by decide) (fun c_157 => ?_) (fun c_157 => ?_)
                                                                                  · skip
                                                                                    have tc_157 := f_le (k := 37) (by decide) c_157
                                                                                    refine lv_iconst (v := 0) hx hb dX12_numbers_89 (by decide) ?_
                                                                                    refine W.widen (k := 0) (n := 0) (Nat.le_of_ble_eq_true rfl) (Nat.le_of_ble_eq_true rfl) ?_
                                                                                    exact e_i (u := []) hx hb hr hlocks (hP.sub (ws' := []) [] rfl) (hD.sub (ws' := []) [] (by decide) rfl) hS ⟨(by unfold F_numbers; (repeat' split) <;> first | rfl | (exfalso; omega)), rfl⟩ dX12_numbers_90
                                                                                  · skip
                                                                                    have tc_157 := f_nle (k := 37) (by decide) c_157
                                                                                    refine lv_aload_n hx hb dX12_numbers_70 rfl (lv_at hl 1 rfl) ?_
                                                                                    refine va_get (D := D) (ci := 12) (v := .ref a_nu) (C := RX12) (T := TX12) (N := 36) hx hb hts uX12 hown hkb.1 hP 0 rfl rfl 35 (by decide) (hts _ kw_1258) (fun _ h9 => h9) rfl dX12_numbers_71 ?_
                                                                                    refine lv_bipush (v := 40) hx hb dX12_numbers_74 (by decide) ?_
                                                                                    refine lv_iload_n hx hb dX12_numbers_76 rfl (lv_at hl 2 rfl) ?_
                                                                                    refine lv_imul hx hb dX12_numbers_77 ?_
                                                                                    refine lv_topi (fun v_158 ev_158 => ?_)
                                                                                    refine lv_iload hx hb dX12_numbers_78 (lv_at hl 0 rfl) ?_
                                                                                    refine lv_iadd hx hb dX12_numbers_80 ?_
                                                                                    refine lv_topi (fun v_159 ev_159 => ?_)
                                                                                    refine lv_lconst (v := 0) hx hb dX12_numbers_81 (by decide) ?_
                                                                                    refine s_l 3 2 hx hb hkb.1 hP hD hS rfl rfl (in40 (by omega) (by omega) ev_158 ev_159 (by decide +kernel)) (Int32.toNatClampNeg v_159) (rfl) dX12_numbers_82 (fun H locs hP hD hS => ?_)
                                                                                    have hP : va_P D cls [(h0, .inr (12, [.int 0, .ref a_al, .ref a_hi, .ref a_mt, .ref a_fr, .int 0, .int 0, .int 0, .int 0, .int 0, .int 0, .int 0, .int 0, .int 0, .int (-1), .ref a_rk, .int 0, .ref a_on, .ref a_aw, .ref a_ro, .int 0, .ref a_ws, .ref a_ah, .int 0, .int 0, .int 0, .ref a_cl, .ref a_us, .ref a_mo, .ref a_to, .ref a_mb, .ref a_le, .int 0, .ref a_rs, .ref a_rm, .ref a_nu])), (a_rs, .inl (cI, 4, .inl f_7)), (a_rm, .inl (cI, 4, .inl f_8)), (a_nu, .inl (cJ, 160, .inr (.inl (vp_updL f_156 (Int32.toNatClampNeg v_159) 0))))] H := hP
                                                                                    have hD : va_D A [(h0, .inr (12, [.int 0, .ref a_al, .ref a_hi, .ref a_mt, .ref a_fr, .int 0, .int 0, .int 0, .int 0, .int 0, .int 0, .int 0, .int 0, .int 0, .int (-1), .ref a_rk, .int 0, .ref a_on, .ref a_aw, .ref a_ro, .int 0, .ref a_ws, .ref a_ah, .int 0, .int 0, .int 0, .ref a_cl, .ref a_us, .ref a_mo, .ref a_to, .ref a_mb, .ref a_le, .int 0, .ref a_rs, .ref a_rm, .ref a_nu])), (a_rs, .inl (cI, 4, .inl f_7)), (a_rm, .inl (cI, 4, .inl f_8)), (a_nu, .inl (cJ, 160, .inr (.inl (vp_updL f_156 (Int32.toNatClampNeg v_159) 0))))] := hD
                                                                                    generalize hq9 : vp_updL f_156 (Int32.toNatClampNeg v_159) 0 = f_160 at hP hD; clear hq9
                                                                                    have hP : va_P D cls [(h0, .inr (12, [.int 0, .ref a_al, .ref a_hi, .ref a_mt, .ref a_fr, .int 0, .int 0, .int 0, .int 0, .int 0, .int 0, .int 0, .int 0, .int 0, .int (-1), .ref a_rk, .int 0, .ref a_on, .ref a_aw, .ref a_ro, .int 0, .ref a_ws, .ref a_ah, .int 0, .int 0, .int 0, .ref a_cl, .ref a_us, .ref a_mo, .ref a_to, .ref a_mb, .ref a_le, .int 0, .ref a_rs, .ref a_rm, .ref a_nu])), (a_rs, .inl (cI, 4, .inl f_7)), (a_rm, .inl (cI, 4, .inl f_8)), (a_nu, .inl (cJ, 160, .inr (.inl f_160)))] H := hP
                                                                                    have hD : va_D A [(h0, .inr (12, [.int 0, .ref a_al, .ref a_hi, .ref a_mt, .ref a_fr, .int 0, .int 0, .int 0, .int 0, .int 0, .int 0, .int 0, .int 0, .int 0, .int (-1), .ref a_rk, .int 0, .ref a_on, .ref a_aw, .ref a_ro, .int 0, .ref a_ws, .ref a_ah, .int 0, .int 0, .int 0, .ref a_cl, .ref a_us, .ref a_mo, .ref a_to, .ref a_mb, .ref a_le, .int 0, .ref a_rs, .ref a_rm, .ref a_nu])), (a_rs, .inl (cI, 4, .inl f_7)), (a_rm, .inl (cI, 4, .inl f_8)), (a_nu, .inl (cJ, 160, .inr (.inl f_160)))] := hD
                                                                                    refine lv_iinc (v := 38) (lv' := [(4, .int 38), (0, .ref h0), (1, .int i_0), (2, .int i_1), (3, .int i_2)]) hx hb dX12_numbers_83 hl (k := 0) rfl (by decide) (by decide) rfl (fun ls hl => ?_)
                                                                                    refine lv_goto (tgt := 64) hx hb dX12_numbers_86 (by decide) ?_
                                                                                    refine lv_iload hx hb dX12_numbers_64 (lv_at hl 0 rfl) ?_
                                                                                    refine lv_iload_n hx hb dX12_numbers_66 rfl (lv_at hl 4 rfl) ?_
                                                                                    refine lv_icmp_ge (tgt := 89) hx hb dX12_numbers_67 (by decide) (fun c_161 => ?_) (fun c_161 => ?_)
                                                                                    · skip
                                                                                      have tc_161 := f_le (k := 38) (by decide) c_161
                                                                                      refine lv_iconst (v := 0) hx hb dX12_numbers_89 (by decide) ?_
                                                                                      refine W.widen (k := 0) (n := 0) (Nat.le_of_ble_eq_true rfl) (Nat.le_of_ble_eq_true rfl) ?_
                                                                                      exact e_i (u := []) hx hb hr hlocks (hP.sub (ws' := []) [] rfl) (hD.sub (ws' := []) [] (by decide) rfl) hS ⟨(by unfold F_numbers; (repeat' split) <;> first | rfl | (exfalso; omega)), rfl⟩ dX12_numbers_90
                                                                                    · skip
                                                                                      have tc_161 := f_nle (k := 38) (by decide) c_161
                                                                                      refine lv_aload_n hx hb dX12_numbers_70 rfl (lv_at hl 1 rfl) ?_
                                                                                      refine va_get (D := D) (ci := 12) (v := .ref a_nu) (C := RX12) (T := TX12) (N := 36) hx hb hts uX12 hown hkb.1 hP 0 rfl rfl 35 (by decide) (hts _ kw_1258) (fun _ h9 => h9) rfl dX12_numbers_71 ?_
                                                                                      refine lv_bipush (v := 40) hx hb dX12_numbers_74 (by decide) ?_
                                                                                      refine lv_iload_n hx hb dX12_numbers_76 rfl (lv_at hl 2 rfl) ?_
                                                                                      refine lv_imul hx hb dX12_numbers_77 ?_
                                                                                      refine lv_topi (fun v_162 ev_162 => ?_)
                                                                                      refine lv_iload hx hb dX12_numbers_78 (lv_at hl 0 rfl) ?_
                                                                                      refine lv_iadd hx hb dX12_numbers_80 ?_
                                                                                      refine lv_topi (fun v_163 ev_163 => ?_)
                                                                                      refine lv_lconst (v := 0) hx hb dX12_numbers_81 (by decide) ?_
                                                                                      refine s_l 3 2 hx hb hkb.1 hP hD hS rfl rfl (in40 (by omega) (by omega) ev_162 ev_163 (by decide +kernel)) (Int32.toNatClampNeg v_163) (rfl) dX12_numbers_82 (fun H locs hP hD hS => ?_)
                                                                                      have hP : va_P D cls [(h0, .inr (12, [.int 0, .ref a_al, .ref a_hi, .ref a_mt, .ref a_fr, .int 0, .int 0, .int 0, .int 0, .int 0, .int 0, .int 0, .int 0, .int 0, .int (-1), .ref a_rk, .int 0, .ref a_on, .ref a_aw, .ref a_ro, .int 0, .ref a_ws, .ref a_ah, .int 0, .int 0, .int 0, .ref a_cl, .ref a_us, .ref a_mo, .ref a_to, .ref a_mb, .ref a_le, .int 0, .ref a_rs, .ref a_rm, .ref a_nu])), (a_rs, .inl (cI, 4, .inl f_7)), (a_rm, .inl (cI, 4, .inl f_8)), (a_nu, .inl (cJ, 160, .inr (.inl (vp_updL f_160 (Int32.toNatClampNeg v_163) 0))))] H := hP
                                                                                      have hD : va_D A [(h0, .inr (12, [.int 0, .ref a_al, .ref a_hi, .ref a_mt, .ref a_fr, .int 0, .int 0, .int 0, .int 0, .int 0, .int 0, .int 0, .int 0, .int 0, .int (-1), .ref a_rk, .int 0, .ref a_on, .ref a_aw, .ref a_ro, .int 0, .ref a_ws, .ref a_ah, .int 0, .int 0, .int 0, .ref a_cl, .ref a_us, .ref a_mo, .ref a_to, .ref a_mb, .ref a_le, .int 0, .ref a_rs, .ref a_rm, .ref a_nu])), (a_rs, .inl (cI, 4, .inl f_7)), (a_rm, .inl (cI, 4, .inl f_8)), (a_nu, .inl (cJ, 160, .inr (.inl (vp_updL f_160 (Int32.toNatClampNeg v_163) 0))))] := hD
                                                                                      generalize hq9 : vp_updL f_160 (Int32.toNatClampNeg v_163) 0 = f_164 at hP hD; clear hq9
                                                                                      have hP : va_P D cls [(h0, .inr (12, [.int 0, .ref a_al, .ref a_hi, .ref a_mt, .ref a_fr, .int 0, .int 0, .int 0, .int 0, .int 0, .int 0, .int 0, .int 0, .int 0, .int (-1), .ref a_rk, .int 0, .ref a_on, .ref a_aw, .ref a_ro, .int 0, .ref a_ws, .ref a_ah, .int 0, .int 0, .int 0, .ref a_cl, .ref a_us, .ref a_mo, .ref a_to, .ref a_mb, .ref a_le, .int 0, .ref a_rs, .ref a_rm, .ref a_nu])), (a_rs, .inl (cI, 4, .inl f_7)), (a_rm, .inl (cI, 4, .inl f_8)), (a_nu, .inl (cJ, 160, .inr (.inl f_164)))] H := hP
                                                                                      have hD : va_D A [(h0, .inr (12, [.int 0, .ref a_al, .ref a_hi, .ref a_mt, .ref a_fr, .int 0, .int 0, .int 0, .int 0, .int 0, .int 0, .int 0, .int 0, .int 0, .int (-1), .ref a_rk, .int 0, .ref a_on, .ref a_aw, .ref a_ro, .int 0, .ref a_ws, .ref a_ah, .int 0, .int 0, .int 0, .ref a_cl, .ref a_us, .ref a_mo, .ref a_to, .ref a_mb, .ref a_le, .int 0, .ref a_rs, .ref a_rm, .ref a_nu])), (a_rs, .inl (cI, 4, .inl f_7)), (a_rm, .inl (cI, 4, .inl f_8)), (a_nu, .inl (cJ, 160, .inr (.inl f_164)))] := hD
                                                                                      refine lv_iinc (v := 39) (lv' := [(4, .int 39), (0, .ref h0), (1, .int i_0), (2, .int i_1), (3, .int i_2)]) hx hb dX12_numbers_83 hl (k := 0) rfl (by decide) (by decide) rfl (fun ls hl => ?_)
                                                                                      refine lv_goto (tgt := 64) hx hb dX12_numbers_86 (by decide) ?_
                                                                                      refine lv_iload hx hb dX12_numbers_64 (lv_at hl 0 rfl) ?_
                                                                                      refine lv_iload_n hx hb dX12_numbers_66 rfl (lv_at hl 4 rfl) ?_
                                                                                      refine lv_icmp_ge (tgt := 89) hx hb dX12_numbers_67 (by decide) (fun c_165 => ?_) (fun c_165 => ?_)
                                                                                      · skip
                                                                                        have tc_165 := f_le (k := 39) (by decide) c_165
                                                                                        refine lv_iconst (v := 0) hx hb dX12_numbers_89 (by decide) ?_
                                                                                        refine W.widen (k := 0) (n := 0) (Nat.le_of_ble_eq_true rfl) (Nat.le_of_ble_eq_true rfl) ?_
                                                                                        exact e_i (u := []) hx hb hr hlocks (hP.sub (ws' := []) [] rfl) (hD.sub (ws' := []) [] (by decide) rfl) hS ⟨(by unfold F_numbers; (repeat' split) <;> first | rfl | (exfalso; omega)), rfl⟩ dX12_numbers_90
                                                                                      · skip
                                                                                        have tc_165 := f_nle (k := 39) (by decide) c_165
                                                                                        refine lv_aload_n hx hb dX12_numbers_70 rfl (lv_at hl 1 rfl) ?_
                                                                                        refine va_get (D := D) (ci := 12) (v := .ref a_nu) (C := RX12) (T := TX12) (N := 36) hx hb hts uX12 hown hkb.1 hP 0 rfl rfl 35 (by decide) (hts _ kw_1258) (fun _ h9 => h9) rfl dX12_numbers_71 ?_
                                                                                        refine lv_bipush (v := 40) hx hb dX12_numbers_74 (by decide) ?_
                                                                                        refine lv_iload_n hx hb dX12_numbers_76 rfl (lv_at hl 2 rfl) ?_
                                                                                        refine lv_imul hx hb dX12_numbers_77 ?_
                                                                                        refine lv_topi (fun v_166 ev_166 => ?_)
                                                                                        refine lv_iload hx hb dX12_numbers_78 (lv_at hl 0 rfl) ?_
                                                                                        refine lv_iadd hx hb dX12_numbers_80 ?_
                                                                                        refine lv_topi (fun v_167 ev_167 => ?_)
                                                                                        refine lv_lconst (v := 0) hx hb dX12_numbers_81 (by decide) ?_
                                                                                        refine s_l 3 2 hx hb hkb.1 hP hD hS rfl rfl (in40 (by omega) (by omega) ev_166 ev_167 (by decide +kernel)) (Int32.toNatClampNeg v_167) (rfl) dX12_numbers_82 (fun H locs hP hD hS => ?_)
                                                                                        have hP : va_P D cls [(h0, .inr (12, [.int 0, .ref a_al, .ref a_hi, .ref a_mt, .ref a_fr, .int 0, .int 0, .int 0, .int 0, .int 0, .int 0, .int 0, .int 0, .int 0, .int (-1), .ref a_rk, .int 0, .ref a_on, .ref a_aw, .ref a_ro, .int 0, .ref a_ws, .ref a_ah, .int 0, .int 0, .int 0, .ref a_cl, .ref a_us, .ref a_mo, .ref a_to, .ref a_mb, .ref a_le, .int 0, .ref a_rs, .ref a_rm, .ref a_nu])), (a_rs, .inl (cI, 4, .inl f_7)), (a_rm, .inl (cI, 4, .inl f_8)), (a_nu, .inl (cJ, 160, .inr (.inl (vp_updL f_164 (Int32.toNatClampNeg v_167) 0))))] H := hP
                                                                                        have hD : va_D A [(h0, .inr (12, [.int 0, .ref a_al, .ref a_hi, .ref a_mt, .ref a_fr, .int 0, .int 0, .int 0, .int 0, .int 0, .int 0, .int 0, .int 0, .int 0, .int (-1), .ref a_rk, .int 0, .ref a_on, .ref a_aw, .ref a_ro, .int 0, .ref a_ws, .ref a_ah, .int 0, .int 0, .int 0, .ref a_cl, .ref a_us, .ref a_mo, .ref a_to, .ref a_mb, .ref a_le, .int 0, .ref a_rs, .ref a_rm, .ref a_nu])), (a_rs, .inl (cI, 4, .inl f_7)), (a_rm, .inl (cI, 4, .inl f_8)), (a_nu, .inl (cJ, 160, .inr (.inl (vp_updL f_164 (Int32.toNatClampNeg v_167) 0))))] := hD
                                                                                        generalize hq9 : vp_updL f_164 (Int32.toNatClampNeg v_167) 0 = f_168 at hP hD; clear hq9
                                                                                        have hP : va_P D cls [(h0, .inr (12, [.int 0, .ref a_al, .ref a_hi, .ref a_mt, .ref a_fr, .int 0, .int 0, .int 0, .int 0, .int 0, .int 0, .int 0, .int 0, .int 0, .int (-1), .ref a_rk, .int 0, .ref a_on, .ref a_aw, .ref a_ro, .int 0, .ref a_ws, .ref a_ah, .int 0, .int 0, .int 0, .ref a_cl, .ref a_us, .ref a_mo, .ref a_to, .ref a_mb, .ref a_le, .int 0, .ref a_rs, .ref a_rm, .ref a_nu])), (a_rs, .inl (cI, 4, .inl f_7)), (a_rm, .inl (cI, 4, .inl f_8)), (a_nu, .inl (cJ, 160, .inr (.inl f_168)))] H := hP
                                                                                        have hD : va_D A [(h0, .inr (12, [.int 0, .ref a_al, .ref a_hi, .ref a_mt, .ref a_fr, .int 0, .int 0, .int 0, .int 0, .int 0, .int 0, .int 0, .int 0, .int 0, .int (-1), .ref a_rk, .int 0, .ref a_on, .ref a_aw, .ref a_ro, .int 0, .ref a_ws, .ref a_ah, .int 0, .int 0, .int 0, .ref a_cl, .ref a_us, .ref a_mo, .ref a_to, .ref a_mb, .ref a_le, .int 0, .ref a_rs, .ref a_rm, .ref a_nu])), (a_rs, .inl (cI, 4, .inl f_7)), (a_rm, .inl (cI, 4, .inl f_8)), (a_nu, .inl (cJ, 160, .inr (.inl f_168)))] := hD
                                                                                        refine lv_iinc (v := 40) (lv' := [(4, .int 40), (0, .ref h0), (1, .int i_0), (2, .int i_1), (3, .int i_2)]) hx hb dX12_numbers_83 hl (k := 0) rfl (by decide) (by decide) rfl (fun ls hl => ?_)
                                                                                        refine lv_goto (tgt := 64) hx hb dX12_numbers_86 (by decide) ?_
                                                                                        refine lv_iload hx hb dX12_numbers_64 (lv_at hl 0 rfl) ?_
                                                                                        refine lv_iload_n hx hb dX12_numbers_66 rfl (lv_at hl 4 rfl) ?_
                                                                                        refine lv_icmp_ge (tgt := 89) hx hb dX12_numbers_67 (by decide) (fun c_169 => ?_) (fun c_169 => ?_)
                                                                                        · skip
                                                                                          have tc_169 := f_le (k := 40) (by decide) c_169
                                                                                          refine lv_iconst (v := 0) hx hb dX12_numbers_89 (by decide) ?_
                                                                                          refine W.widen (k := 0) (n := 0) (Nat.le_of_ble_eq_true rfl) (Nat.le_of_ble_eq_true rfl) ?_
                                                                                          exact e_i (u := []) hx hb hr hlocks (hP.sub (ws' := []) [] rfl) (hD.sub (ws' := []) [] (by decide) rfl) hS ⟨(by unfold F_numbers; (repeat' split) <;> first | rfl | (exfalso; omega)), rfl⟩ dX12_numbers_90
                                                                                        · skip
                                                                                          have tc_169 := f_nle (k := 40) (by decide) c_169
                                                                                          exfalso; omega
      · skip
        have tc_6 := wi_0 (a := 0) (b := 40) (by decide) (by decide) c_6
        refine lv_bipush (v := (-3)) hx hb dX12_numbers_44 (by decide) ?_
        refine W.widen (k := 0) (n := 0) (Nat.le_of_ble_eq_true rfl) (Nat.le_of_ble_eq_true rfl) ?_
        exact e_i (u := []) hx hb hr hlocks (hP.sub (ws' := []) [] rfl) (hD.sub (ws' := []) [] (by decide) rfl) hS ⟨(by unfold F_numbers; (repeat' split) <;> first | rfl | (exfalso; omega)), rfl⟩ dX12_numbers_46
    · skip
      have tc_4 := wi_0 (a := 0) (b := 3) (by decide) (by decide) c_4
      refine lv_bipush (v := (-2)) hx hb dX12_numbers_29 (by decide) ?_
      refine W.widen (k := 0) (n := 0) (Nat.le_of_ble_eq_true rfl) (Nat.le_of_ble_eq_true rfl) ?_
      exact e_i (u := []) hx hb hr hlocks (hP.sub (ws' := []) [] rfl) (hD.sub (ws' := []) [] (by decide) rfl) hS ⟨(by unfold F_numbers; (repeat' split) <;> first | rfl | (exfalso; omega)), rfl⟩ dX12_numbers_31
