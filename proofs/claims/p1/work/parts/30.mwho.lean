set_option maxHeartbeats 4000000 in
set_option maxRecDepth 100000 in
theorem c_within (l : Launch) (D : va_G) (cB cI cJ cZ cS cW cT cR : ClassId) (j_v : Int64) (j_lo : Int64) (j_hi : Int64) : Kon l D (tyl cB cI cJ cZ cS cW cT cR) yX12_within cX12_within 6 (some (.boolean)) { frames := 0, cells := 0, slots := 0, locals := 0 } [.long j_v, .long j_lo, .long j_hi] [] (Qi D (fun r u => r = wi j_v j_lo j_hi ∧ u = [])) := by
  refine kon_of (by decide) (Nat.le_of_ble_eq_true rfl) (fun p e s m below meth c ls A hx hb hr hml hown hts hlocks hnm hkb hP hD hS hA hl => ?_)
  have hown : s.vm.findClass RX12 = some m.cls := hown
  have hl : lv_has ls 6 [(0, .long j_v), (2, .long j_lo), (4, .long j_hi)] := hl
  have hP : va_P D cls [] s.heap := hP
  refine lv_lload_n hx hb dX12_within_0 rfl (lv_at hl 0 rfl) ?_
  refine lv_lload_n hx hb dX12_within_1 rfl (lv_at hl 1 rfl) ?_
  refine W.lcmp hx hb dX12_within_2 ?_
  refine lv_if_lt (tgt := 17) hx hb dX12_within_3 (by decide) (fun c_1 => ?_) (fun c_1 => ?_)
  · skip
    have tc_1 := lt_l c_1
    refine lv_iconst (v := 0) hx hb dX12_within_17 (by decide) ?_
    refine W.widen (k := 0) (n := 0) (Nat.le_of_ble_eq_true rfl) (Nat.le_of_ble_eq_true rfl) ?_
    exact e_z (u := []) hx hb hr hlocks (by rfl) (hP.sub (ws' := []) [] rfl) (hD.sub (ws' := []) [] (by decide) rfl) hS ⟨(by unfold wi; (repeat' split) <;> first | rfl | (exfalso; omega)), rfl⟩ dX12_within_18
  · skip
    have tc_1 := nlt_l c_1
    refine lv_lload_n hx hb dX12_within_6 rfl (lv_at hl 0 rfl) ?_
    refine lv_lload hx hb dX12_within_7 (lv_at hl 2 rfl) ?_
    refine W.lcmp hx hb dX12_within_9 ?_
    refine lv_if_gt (tgt := 17) hx hb dX12_within_10 (by decide) (fun c_2 => ?_) (fun c_2 => ?_)
    · skip
      have tc_2 := gt_l c_2
      refine lv_iconst (v := 0) hx hb dX12_within_17 (by decide) ?_
      refine W.widen (k := 0) (n := 0) (Nat.le_of_ble_eq_true rfl) (Nat.le_of_ble_eq_true rfl) ?_
      exact e_z (u := []) hx hb hr hlocks (by rfl) (hP.sub (ws' := []) [] rfl) (hD.sub (ws' := []) [] (by decide) rfl) hS ⟨(by unfold wi; (repeat' split) <;> first | rfl | (exfalso; omega)), rfl⟩ dX12_within_18
    · skip
      have tc_2 := ngt_l c_2
      refine lv_iconst (v := 1) hx hb dX12_within_13 (by decide) ?_
      refine lv_goto (tgt := 18) hx hb dX12_within_14 (by decide) ?_
      refine W.widen (k := 0) (n := 0) (Nat.le_of_ble_eq_true rfl) (Nat.le_of_ble_eq_true rfl) ?_
      exact e_z (u := []) hx hb hr hlocks (by rfl) (hP.sub (ws' := []) [] rfl) (hD.sub (ws' := []) [] (by decide) rfl) hS ⟨(by unfold wi; (repeat' split) <;> first | rfl | (exfalso; omega)), rfl⟩ dX12_within_18
set_option maxHeartbeats 4000000 in
set_option maxRecDepth 100000 in
theorem c_mHold (l : Launch) (D : va_G) (cB cI cJ cZ cS cW cT cR : ClassId) (h0 : Nat) (a_al : Nat) (j_v : Int64) (a_hi : Nat) (a_mt : Nat) (a_fr : Nat) (a_rk : Nat) (a_on : Nat) (a_aw : Nat) (a_ro : Nat) (a_ws : Nat) (a_ah : Nat) (a_cl : Nat) (a_us : Nat) (a_mo : Nat) (a_to : Nat) (a_mb : Nat) (a_le : Nat) (a_rs : Nat) (a_rm : Nat) (a_nu : Nat) : Kon l D (tyl cB cI cJ cZ cS cW cT cR) yX12_isHold cX12_isHold 3 (some (.boolean)) { frames := 1, cells := 0, slots := 0, locals := 25 } [.ref h0, .long j_v] [(h0, .inr (12, [.int 0, .ref a_al, .ref a_hi, .ref a_mt, .ref a_fr, .int 0, .int 0, .int 0, .int 0, .int 0, .int 0, .int 0, .int 0, .int 0, .int (-1), .ref a_rk, .int 0, .ref a_on, .ref a_aw, .ref a_ro, .int 0, .ref a_ws, .ref a_ah, .int 0, .int 0, .int 0, .ref a_cl, .ref a_us, .ref a_mo, .ref a_to, .ref a_mb, .ref a_le, .int 0, .ref a_rs, .ref a_rm, .ref a_nu])), (a_al, .inl (cI, 3906, .inl plc))] (Qi D (fun r u => r = 0 ∧ u = [(h0, .inr (12, [.int 0, .ref a_al, .ref a_hi, .ref a_mt, .ref a_fr, .int 0, .int 0, .int 0, .int 0, .int 0, .int 0, .int 0, .int 0, .int 0, .int (-1), .ref a_rk, .int 0, .ref a_on, .ref a_aw, .ref a_ro, .int 0, .ref a_ws, .ref a_ah, .int 0, .int 0, .int 0, .ref a_cl, .ref a_us, .ref a_mo, .ref a_to, .ref a_mb, .ref a_le, .int 0, .ref a_rs, .ref a_rm, .ref a_nu])), (a_al, .inl (cI, 3906, .inl plc))])) := by
  refine kon_of (by decide) (Nat.le_of_ble_eq_true rfl) (fun p e s m below meth c ls A hx hb hr hml hown hts hlocks hnm hkb hP hD hS hA hl => ?_)
  have hown : s.vm.findClass RX12 = some m.cls := hown
  have hl : lv_has ls 3 [(0, .ref h0), (1, .long j_v)] := hl
  have hP : va_P D cls [(h0, .inr (12, [.int 0, .ref a_al, .ref a_hi, .ref a_mt, .ref a_fr, .int 0, .int 0, .int 0, .int 0, .int 0, .int 0, .int 0, .int 0, .int 0, .int (-1), .ref a_rk, .int 0, .ref a_on, .ref a_aw, .ref a_ro, .int 0, .ref a_ws, .ref a_ah, .int 0, .int 0, .int 0, .ref a_cl, .ref a_us, .ref a_mo, .ref a_to, .ref a_mb, .ref a_le, .int 0, .ref a_rs, .ref a_rm, .ref a_nu])), (a_al, .inl (cI, 3906, .inl plc))] s.heap := hP
  refine lv_lload_n hx hb dX12_isHold_0 rfl (lv_at hl 1 rfl) ?_
  refine lv_lconst (v := 0) hx hb dX12_isHold_1 (by decide) ?_
  refine lv_aload_n hx hb dX12_isHold_2 rfl (lv_at hl 0 rfl) ?_
  refine va_get (D := D) (ci := 12) (v := .ref a_al) (C := RX12) (T := TX12) (N := 36) hx hb hts uX12 hown hkb.1 hP 0 rfl rfl 1 (by decide) (hts _ kw_1224) (fun _ h9 => h9) rfl dX12_isHold_3 ?_
  refine lv_iconst (v := 1) hx hb dX12_isHold_6 (by decide) ?_
  refine va_iald hx hb hkb.1 hP 1 1 rfl rfl (in_c (by decide +kernel)) dX12_isHold_7 ?_
  refine lv_topc (y := 0) (by decide +kernel) ?_
  refine lv_iconst (v := 1) hx hb dX12_isHold_8 (by decide) ?_
  refine lv_isub hx hb dX12_isHold_9 ?_
  refine lv_topc (y := (-1)) (by decide +kernel) ?_
  refine lv_i2l (v := (-1)) hx hb dX12_isHold_10 (by decide +kernel) ?_
  have hPc := hP.sub (ws' := []) [] rfl
  have hDc := hD.sub (ws' := []) [] (by decide) rfl
  refine k_i (wc := []) (wr := [(h0, .inr (12, [.int 0, .ref a_al, .ref a_hi, .ref a_mt, .ref a_fr, .int 0, .int 0, .int 0, .int 0, .int 0, .int 0, .int 0, .int 0, .int 0, .int (-1), .ref a_rk, .int 0, .ref a_on, .ref a_aw, .ref a_ro, .int 0, .ref a_ws, .ref a_ah, .int 0, .int 0, .int 0, .ref a_cl, .ref a_us, .ref a_mo, .ref a_to, .ref a_mb, .ref a_le, .int 0, .ref a_rs, .ref a_rm, .ref a_nu])), (a_al, .inl (cI, 3906, .inl plc))]) hP hD hS hA [] [0, 1] rfl rfl rfl (by decide) (r_S (n := 3) (As := [.long j_v, .long 0, .long (-1)]) hx hb hml hown hts hkb hPc hDc (c_within l D cB cI cJ cZ cS cW cT cR j_v 0 (-1)) kw_1341 kw_1342 kw_13 kw_1343 (by decide +kernel) ⟨Nat.le_of_ble_eq_true rfl, Nat.le_of_ble_eq_true rfl⟩ rfl rfl hl.1 (Nat.le_of_ble_eq_true rfl) dX12_isHold_11 ⟨Nat.le_of_ble_eq_true rfl, Nat.le_of_ble_eq_true rfl⟩) (fun r_1 u H locs hw hP hD hS => ?_)
  obtain ⟨rfl, rfl⟩ := hw
  refine lv_topc (y := 0) (wi_c (by decide)) ?_
  have hP : va_P D cls [(h0, .inr (12, [.int 0, .ref a_al, .ref a_hi, .ref a_mt, .ref a_fr, .int 0, .int 0, .int 0, .int 0, .int 0, .int 0, .int 0, .int 0, .int 0, .int (-1), .ref a_rk, .int 0, .ref a_on, .ref a_aw, .ref a_ro, .int 0, .ref a_ws, .ref a_ah, .int 0, .int 0, .int 0, .ref a_cl, .ref a_us, .ref a_mo, .ref a_to, .ref a_mb, .ref a_le, .int 0, .ref a_rs, .ref a_rm, .ref a_nu])), (a_al, .inl (cI, 3906, .inl plc))] H := hP
  have hD : va_D A [(h0, .inr (12, [.int 0, .ref a_al, .ref a_hi, .ref a_mt, .ref a_fr, .int 0, .int 0, .int 0, .int 0, .int 0, .int 0, .int 0, .int 0, .int 0, .int (-1), .ref a_rk, .int 0, .ref a_on, .ref a_aw, .ref a_ro, .int 0, .ref a_ws, .ref a_ah, .int 0, .int 0, .int 0, .ref a_cl, .ref a_us, .ref a_mo, .ref a_to, .ref a_mb, .ref a_le, .int 0, .ref a_rs, .ref a_rm, .ref a_nu])), (a_al, .inl (cI, 3906, .inl plc))] := hD
  refine W.widen (k := 0) (n := 0) (Nat.le_of_ble_eq_true rfl) (Nat.le_of_ble_eq_true rfl) ?_
  refine W.widen (k := 0) (n := 0) (Nat.le_of_ble_eq_true rfl) (Nat.le_of_ble_eq_true rfl) ?_
  exact e_z (u := [(h0, .inr (12, [.int 0, .ref a_al, .ref a_hi, .ref a_mt, .ref a_fr, .int 0, .int 0, .int 0, .int 0, .int 0, .int 0, .int 0, .int 0, .int 0, .int (-1), .ref a_rk, .int 0, .ref a_on, .ref a_aw, .ref a_ro, .int 0, .ref a_ws, .ref a_ah, .int 0, .int 0, .int 0, .ref a_cl, .ref a_us, .ref a_mo, .ref a_to, .ref a_mb, .ref a_le, .int 0, .ref a_rs, .ref a_rm, .ref a_nu])), (a_al, .inl (cI, 3906, .inl plc))]) hx hb hr hlocks (by rfl) (hP.sub (ws' := [(h0, .inr (12, [.int 0, .ref a_al, .ref a_hi, .ref a_mt, .ref a_fr, .int 0, .int 0, .int 0, .int 0, .int 0, .int 0, .int 0, .int 0, .int 0, .int (-1), .ref a_rk, .int 0, .ref a_on, .ref a_aw, .ref a_ro, .int 0, .ref a_ws, .ref a_ah, .int 0, .int 0, .int 0, .ref a_cl, .ref a_us, .ref a_mo, .ref a_to, .ref a_mb, .ref a_le, .int 0, .ref a_rs, .ref a_rm, .ref a_nu])), (a_al, .inl (cI, 3906, .inl plc))]) [0, 1] rfl) (hD.sub (ws' := [(h0, .inr (12, [.int 0, .ref a_al, .ref a_hi, .ref a_mt, .ref a_fr, .int 0, .int 0, .int 0, .int 0, .int 0, .int 0, .int 0, .int 0, .int 0, .int (-1), .ref a_rk, .int 0, .ref a_on, .ref a_aw, .ref a_ro, .int 0, .ref a_ws, .ref a_ah, .int 0, .int 0, .int 0, .ref a_cl, .ref a_us, .ref a_mo, .ref a_to, .ref a_mb, .ref a_le, .int 0, .ref a_rs, .ref a_rm, .ref a_nu])), (a_al, .inl (cI, 3906, .inl plc))]) [0, 1] (by decide) rfl) hS ⟨rfl, rfl⟩ dX12_isHold_14
set_option maxHeartbeats 4000000 in
set_option maxRecDepth 100000 in
theorem c_mGuide (l : Launch) (D : va_G) (cB cI cJ cZ cS cW cT cR : ClassId) (h0 : Nat) (a_al : Nat) (j_v : Int64) (a_hi : Nat) (a_mt : Nat) (a_fr : Nat) (a_rk : Nat) (a_on : Nat) (a_aw : Nat) (a_ro : Nat) (a_ws : Nat) (a_ah : Nat) (a_cl : Nat) (a_us : Nat) (a_mo : Nat) (a_to : Nat) (a_mb : Nat) (a_le : Nat) (a_rs : Nat) (a_rm : Nat) (a_nu : Nat) : Kon l D (tyl cB cI cJ cZ cS cW cT cR) yX12_isGuide cX12_isGuide 3 (some (.boolean)) { frames := 1, cells := 0, slots := 0, locals := 25 } [.ref h0, .long j_v] [(h0, .inr (12, [.int 0, .ref a_al, .ref a_hi, .ref a_mt, .ref a_fr, .int 0, .int 0, .int 0, .int 0, .int 0, .int 0, .int 0, .int 0, .int 0, .int (-1), .ref a_rk, .int 0, .ref a_on, .ref a_aw, .ref a_ro, .int 0, .ref a_ws, .ref a_ah, .int 0, .int 0, .int 0, .ref a_cl, .ref a_us, .ref a_mo, .ref a_to, .ref a_mb, .ref a_le, .int 0, .ref a_rs, .ref a_rm, .ref a_nu])), (a_al, .inl (cI, 3906, .inl plc))] (Qi D (fun r u => r = 0 ∧ u = [(h0, .inr (12, [.int 0, .ref a_al, .ref a_hi, .ref a_mt, .ref a_fr, .int 0, .int 0, .int 0, .int 0, .int 0, .int 0, .int 0, .int 0, .int 0, .int (-1), .ref a_rk, .int 0, .ref a_on, .ref a_aw, .ref a_ro, .int 0, .ref a_ws, .ref a_ah, .int 0, .int 0, .int 0, .ref a_cl, .ref a_us, .ref a_mo, .ref a_to, .ref a_mb, .ref a_le, .int 0, .ref a_rs, .ref a_rm, .ref a_nu])), (a_al, .inl (cI, 3906, .inl plc))])) := by
  refine kon_of (by decide) (Nat.le_of_ble_eq_true rfl) (fun p e s m below meth c ls A hx hb hr hml hown hts hlocks hnm hkb hP hD hS hA hl => ?_)
  have hown : s.vm.findClass RX12 = some m.cls := hown
  have hl : lv_has ls 3 [(0, .ref h0), (1, .long j_v)] := hl
  have hP : va_P D cls [(h0, .inr (12, [.int 0, .ref a_al, .ref a_hi, .ref a_mt, .ref a_fr, .int 0, .int 0, .int 0, .int 0, .int 0, .int 0, .int 0, .int 0, .int 0, .int (-1), .ref a_rk, .int 0, .ref a_on, .ref a_aw, .ref a_ro, .int 0, .ref a_ws, .ref a_ah, .int 0, .int 0, .int 0, .ref a_cl, .ref a_us, .ref a_mo, .ref a_to, .ref a_mb, .ref a_le, .int 0, .ref a_rs, .ref a_rm, .ref a_nu])), (a_al, .inl (cI, 3906, .inl plc))] s.heap := hP
  refine lv_lload_n hx hb dX12_isGuide_0 rfl (lv_at hl 1 rfl) ?_
  refine lv_lconst (v := 0) hx hb dX12_isGuide_1 (by decide) ?_
  refine lv_aload_n hx hb dX12_isGuide_2 rfl (lv_at hl 0 rfl) ?_
  refine va_get (D := D) (ci := 12) (v := .ref a_al) (C := RX12) (T := TX12) (N := 36) hx hb hts uX12 hown hkb.1 hP 0 rfl rfl 1 (by decide) (hts _ kw_1224) (fun _ h9 => h9) rfl dX12_isGuide_3 ?_
  refine lv_iconst (v := 2) hx hb dX12_isGuide_6 (by decide) ?_
  refine va_iald hx hb hkb.1 hP 1 1 rfl rfl (in_c (by decide +kernel)) dX12_isGuide_7 ?_
  refine lv_topc (y := 0) (by decide +kernel) ?_
  refine lv_iconst (v := 1) hx hb dX12_isGuide_8 (by decide) ?_
  refine lv_isub hx hb dX12_isGuide_9 ?_
  refine lv_topc (y := (-1)) (by decide +kernel) ?_
  refine lv_i2l (v := (-1)) hx hb dX12_isGuide_10 (by decide +kernel) ?_
  have hPc := hP.sub (ws' := []) [] rfl
  have hDc := hD.sub (ws' := []) [] (by decide) rfl
  refine k_i (wc := []) (wr := [(h0, .inr (12, [.int 0, .ref a_al, .ref a_hi, .ref a_mt, .ref a_fr, .int 0, .int 0, .int 0, .int 0, .int 0, .int 0, .int 0, .int 0, .int 0, .int (-1), .ref a_rk, .int 0, .ref a_on, .ref a_aw, .ref a_ro, .int 0, .ref a_ws, .ref a_ah, .int 0, .int 0, .int 0, .ref a_cl, .ref a_us, .ref a_mo, .ref a_to, .ref a_mb, .ref a_le, .int 0, .ref a_rs, .ref a_rm, .ref a_nu])), (a_al, .inl (cI, 3906, .inl plc))]) hP hD hS hA [] [0, 1] rfl rfl rfl (by decide) (r_S (n := 3) (As := [.long j_v, .long 0, .long (-1)]) hx hb hml hown hts hkb hPc hDc (c_within l D cB cI cJ cZ cS cW cT cR j_v 0 (-1)) kw_1341 kw_1342 kw_13 kw_1343 (by decide +kernel) ⟨Nat.le_of_ble_eq_true rfl, Nat.le_of_ble_eq_true rfl⟩ rfl rfl hl.1 (Nat.le_of_ble_eq_true rfl) dX12_isGuide_11 ⟨Nat.le_of_ble_eq_true rfl, Nat.le_of_ble_eq_true rfl⟩) (fun r_1 u H locs hw hP hD hS => ?_)
  obtain ⟨rfl, rfl⟩ := hw
  refine lv_topc (y := 0) (wi_c (by decide)) ?_
  have hP : va_P D cls [(h0, .inr (12, [.int 0, .ref a_al, .ref a_hi, .ref a_mt, .ref a_fr, .int 0, .int 0, .int 0, .int 0, .int 0, .int 0, .int 0, .int 0, .int 0, .int (-1), .ref a_rk, .int 0, .ref a_on, .ref a_aw, .ref a_ro, .int 0, .ref a_ws, .ref a_ah, .int 0, .int 0, .int 0, .ref a_cl, .ref a_us, .ref a_mo, .ref a_to, .ref a_mb, .ref a_le, .int 0, .ref a_rs, .ref a_rm, .ref a_nu])), (a_al, .inl (cI, 3906, .inl plc))] H := hP
  have hD : va_D A [(h0, .inr (12, [.int 0, .ref a_al, .ref a_hi, .ref a_mt, .ref a_fr, .int 0, .int 0, .int 0, .int 0, .int 0, .int 0, .int 0, .int 0, .int 0, .int (-1), .ref a_rk, .int 0, .ref a_on, .ref a_aw, .ref a_ro, .int 0, .ref a_ws, .ref a_ah, .int 0, .int 0, .int 0, .ref a_cl, .ref a_us, .ref a_mo, .ref a_to, .ref a_mb, .ref a_le, .int 0, .ref a_rs, .ref a_rm, .ref a_nu])), (a_al, .inl (cI, 3906, .inl plc))] := hD
  refine W.widen (k := 0) (n := 0) (Nat.le_of_ble_eq_true rfl) (Nat.le_of_ble_eq_true rfl) ?_
  refine W.widen (k := 0) (n := 0) (Nat.le_of_ble_eq_true rfl) (Nat.le_of_ble_eq_true rfl) ?_
  exact e_z (u := [(h0, .inr (12, [.int 0, .ref a_al, .ref a_hi, .ref a_mt, .ref a_fr, .int 0, .int 0, .int 0, .int 0, .int 0, .int 0, .int 0, .int 0, .int 0, .int (-1), .ref a_rk, .int 0, .ref a_on, .ref a_aw, .ref a_ro, .int 0, .ref a_ws, .ref a_ah, .int 0, .int 0, .int 0, .ref a_cl, .ref a_us, .ref a_mo, .ref a_to, .ref a_mb, .ref a_le, .int 0, .ref a_rs, .ref a_rm, .ref a_nu])), (a_al, .inl (cI, 3906, .inl plc))]) hx hb hr hlocks (by rfl) (hP.sub (ws' := [(h0, .inr (12, [.int 0, .ref a_al, .ref a_hi, .ref a_mt, .ref a_fr, .int 0, .int 0, .int 0, .int 0, .int 0, .int 0, .int 0, .int 0, .int 0, .int (-1), .ref a_rk, .int 0, .ref a_on, .ref a_aw, .ref a_ro, .int 0, .ref a_ws, .ref a_ah, .int 0, .int 0, .int 0, .ref a_cl, .ref a_us, .ref a_mo, .ref a_to, .ref a_mb, .ref a_le, .int 0, .ref a_rs, .ref a_rm, .ref a_nu])), (a_al, .inl (cI, 3906, .inl plc))]) [0, 1] rfl) (hD.sub (ws' := [(h0, .inr (12, [.int 0, .ref a_al, .ref a_hi, .ref a_mt, .ref a_fr, .int 0, .int 0, .int 0, .int 0, .int 0, .int 0, .int 0, .int 0, .int 0, .int (-1), .ref a_rk, .int 0, .ref a_on, .ref a_aw, .ref a_ro, .int 0, .ref a_ws, .ref a_ah, .int 0, .int 0, .int 0, .ref a_cl, .ref a_us, .ref a_mo, .ref a_to, .ref a_mb, .ref a_le, .int 0, .ref a_rs, .ref a_rm, .ref a_nu])), (a_al, .inl (cI, 3906, .inl plc))]) [0, 1] (by decide) rfl) hS ⟨rfl, rfl⟩ dX12_isGuide_14
set_option maxHeartbeats 4000000 in
set_option maxRecDepth 100000 in
theorem c_openSet (l : Launch) (D : va_G) (cB cI cJ cZ cS cW cT cR : ClassId) (h0 : Nat) (a_al : Nat) (a_hi : Nat) (a_mt : Nat) (a_fr : Nat) (a_rk : Nat) (a_on : Nat) (a_aw : Nat) (a_ro : Nat) (a_ws : Nat) (a_ah : Nat) (a_cl : Nat) (a_us : Nat) (a_mo : Nat) (a_to : Nat) (a_mb : Nat) (a_le : Nat) (a_rs : Nat) (a_rm : Nat) (a_nu : Nat) : Kon l D (tyl cB cI cJ cZ cS cW cT cR) yX12_openSet cX12_openSet 3 (some (.int)) { frames := 0, cells := 0, slots := 0, locals := 0 } [.ref h0] [(h0, .inr (12, [.int 0, .ref a_al, .ref a_hi, .ref a_mt, .ref a_fr, .int 0, .int 0, .int 0, .int 0, .int 0, .int 0, .int 0, .int 0, .int 0, .int (-1), .ref a_rk, .int 0, .ref a_on, .ref a_aw, .ref a_ro, .int 0, .ref a_ws, .ref a_ah, .int 0, .int 0, .int 0, .ref a_cl, .ref a_us, .ref a_mo, .ref a_to, .ref a_mb, .ref a_le, .int 0, .ref a_rs, .ref a_rm, .ref a_nu])), (a_al, .inl (cI, 3906, .inl plc))] (Qi D (fun r u => r = 0 ∧ u = [(h0, .inr (12, [.int 0, .ref a_al, .ref a_hi, .ref a_mt, .ref a_fr, .int 0, .int 0, .int 0, .int 0, .int 0, .int 0, .int 0, .int 0, .int 0, .int (-1), .ref a_rk, .int 0, .ref a_on, .ref a_aw, .ref a_ro, .int 0, .ref a_ws, .ref a_ah, .int 0, .int 0, .int 0, .ref a_cl, .ref a_us, .ref a_mo, .ref a_to, .ref a_mb, .ref a_le, .int 0, .ref a_rs, .ref a_rm, .ref a_nu])), (a_al, .inl (cI, 3906, .inl plc))])) := by
  refine kon_of (by decide) (Nat.le_of_ble_eq_true rfl) (fun p e s m below meth c ls A hx hb hr hml hown hts hlocks hnm hkb hP hD hS hA hl => ?_)
  have hown : s.vm.findClass RX12 = some m.cls := hown
  have hl : lv_has ls 3 [(0, .ref h0)] := hl
  have hP : va_P D cls [(h0, .inr (12, [.int 0, .ref a_al, .ref a_hi, .ref a_mt, .ref a_fr, .int 0, .int 0, .int 0, .int 0, .int 0, .int 0, .int 0, .int 0, .int 0, .int (-1), .ref a_rk, .int 0, .ref a_on, .ref a_aw, .ref a_ro, .int 0, .ref a_ws, .ref a_ah, .int 0, .int 0, .int 0, .ref a_cl, .ref a_us, .ref a_mo, .ref a_to, .ref a_mb, .ref a_le, .int 0, .ref a_rs, .ref a_rm, .ref a_nu])), (a_al, .inl (cI, 3906, .inl plc))] s.heap := hP
  refine lv_iconst (v := 0) hx hb dX12_openSet_0 (by decide) ?_
  refine lv_istore_n (lv' := [(1, .int 0), (0, .ref h0)]) hx hb dX12_openSet_1 rfl hl (by decide) rfl (fun ls hl => ?_)
  refine lv_iconst (v := 0) hx hb dX12_openSet_2 (by decide) ?_
  refine lv_istore_n (lv' := [(2, .int 0), (1, .int 0), (0, .ref h0)]) hx hb dX12_openSet_3 rfl hl (by decide) rfl (fun ls hl => ?_)
  refine lv_iload_n hx hb dX12_openSet_4 rfl (lv_at hl 0 rfl) ?_
  refine lv_aload_n hx hb dX12_openSet_5 rfl (lv_at hl 2 rfl) ?_
  refine va_get (D := D) (ci := 12) (v := .ref a_al) (C := RX12) (T := TX12) (N := 36) hx hb hts uX12 hown hkb.1 hP 0 rfl rfl 1 (by decide) (hts _ kw_1224) (fun _ h9 => h9) rfl dX12_openSet_6 ?_
  refine lv_iconst (v := 1) hx hb dX12_openSet_9 (by decide) ?_
  refine va_iald hx hb hkb.1 hP 1 1 rfl rfl (in_c (by decide +kernel)) dX12_openSet_10 ?_
  refine lv_topc (y := 0) (by decide +kernel) ?_
  refine lv_icmp_ge (tgt := 38) hx hb dX12_openSet_11 (by decide) (fun _ => ?_) (fun c_1 => absurd c_1 (by decide))
  refine lv_iload_n hx hb dX12_openSet_38 rfl (lv_at hl 1 rfl) ?_
  refine W.widen (k := 0) (n := 0) (Nat.le_of_ble_eq_true rfl) (Nat.le_of_ble_eq_true rfl) ?_
  exact e_i (u := [(h0, .inr (12, [.int 0, .ref a_al, .ref a_hi, .ref a_mt, .ref a_fr, .int 0, .int 0, .int 0, .int 0, .int 0, .int 0, .int 0, .int 0, .int 0, .int (-1), .ref a_rk, .int 0, .ref a_on, .ref a_aw, .ref a_ro, .int 0, .ref a_ws, .ref a_ah, .int 0, .int 0, .int 0, .ref a_cl, .ref a_us, .ref a_mo, .ref a_to, .ref a_mb, .ref a_le, .int 0, .ref a_rs, .ref a_rm, .ref a_nu])), (a_al, .inl (cI, 3906, .inl plc))]) hx hb hr hlocks (hP.sub (ws' := [(h0, .inr (12, [.int 0, .ref a_al, .ref a_hi, .ref a_mt, .ref a_fr, .int 0, .int 0, .int 0, .int 0, .int 0, .int 0, .int 0, .int 0, .int 0, .int (-1), .ref a_rk, .int 0, .ref a_on, .ref a_aw, .ref a_ro, .int 0, .ref a_ws, .ref a_ah, .int 0, .int 0, .int 0, .ref a_cl, .ref a_us, .ref a_mo, .ref a_to, .ref a_mb, .ref a_le, .int 0, .ref a_rs, .ref a_rm, .ref a_nu])), (a_al, .inl (cI, 3906, .inl plc))]) [0, 1] rfl) (hD.sub (ws' := [(h0, .inr (12, [.int 0, .ref a_al, .ref a_hi, .ref a_mt, .ref a_fr, .int 0, .int 0, .int 0, .int 0, .int 0, .int 0, .int 0, .int 0, .int 0, .int (-1), .ref a_rk, .int 0, .ref a_on, .ref a_aw, .ref a_ro, .int 0, .ref a_ws, .ref a_ah, .int 0, .int 0, .int 0, .ref a_cl, .ref a_us, .ref a_mo, .ref a_to, .ref a_mb, .ref a_le, .int 0, .ref a_rs, .ref a_rm, .ref a_nu])), (a_al, .inl (cI, 3906, .inl plc))]) [0, 1] (by decide) rfl) hS ⟨rfl, rfl⟩ dX12_openSet_39
set_option maxHeartbeats 4000000 in
set_option maxRecDepth 100000 in
theorem c_thereSet (l : Launch) (D : va_G) (cB cI cJ cZ cS cW cT cR : ClassId) (h0 : Nat) (a_al : Nat) (a_hi : Nat) (a_mt : Nat) (a_fr : Nat) (a_rk : Nat) (a_on : Nat) (a_aw : Nat) (a_ro : Nat) (a_ws : Nat) (a_ah : Nat) (a_cl : Nat) (a_us : Nat) (a_mo : Nat) (a_to : Nat) (a_mb : Nat) (a_le : Nat) (a_rs : Nat) (a_rm : Nat) (a_nu : Nat) : Kon l D (tyl cB cI cJ cZ cS cW cT cR) yX12_thereSet cX12_thereSet 3 (some (.int)) { frames := 0, cells := 0, slots := 0, locals := 0 } [.ref h0] [(h0, .inr (12, [.int 0, .ref a_al, .ref a_hi, .ref a_mt, .ref a_fr, .int 0, .int 0, .int 0, .int 0, .int 0, .int 0, .int 0, .int 0, .int 0, .int (-1), .ref a_rk, .int 0, .ref a_on, .ref a_aw, .ref a_ro, .int 0, .ref a_ws, .ref a_ah, .int 0, .int 0, .int 0, .ref a_cl, .ref a_us, .ref a_mo, .ref a_to, .ref a_mb, .ref a_le, .int 0, .ref a_rs, .ref a_rm, .ref a_nu])), (a_al, .inl (cI, 3906, .inl plc))] (Qi D (fun r u => r = 0 ∧ u = [(h0, .inr (12, [.int 0, .ref a_al, .ref a_hi, .ref a_mt, .ref a_fr, .int 0, .int 0, .int 0, .int 0, .int 0, .int 0, .int 0, .int 0, .int 0, .int (-1), .ref a_rk, .int 0, .ref a_on, .ref a_aw, .ref a_ro, .int 0, .ref a_ws, .ref a_ah, .int 0, .int 0, .int 0, .ref a_cl, .ref a_us, .ref a_mo, .ref a_to, .ref a_mb, .ref a_le, .int 0, .ref a_rs, .ref a_rm, .ref a_nu])), (a_al, .inl (cI, 3906, .inl plc))])) := by
  refine kon_of (by decide) (Nat.le_of_ble_eq_true rfl) (fun p e s m below meth c ls A hx hb hr hml hown hts hlocks hnm hkb hP hD hS hA hl => ?_)
  have hown : s.vm.findClass RX12 = some m.cls := hown
  have hl : lv_has ls 3 [(0, .ref h0)] := hl
  have hP : va_P D cls [(h0, .inr (12, [.int 0, .ref a_al, .ref a_hi, .ref a_mt, .ref a_fr, .int 0, .int 0, .int 0, .int 0, .int 0, .int 0, .int 0, .int 0, .int 0, .int (-1), .ref a_rk, .int 0, .ref a_on, .ref a_aw, .ref a_ro, .int 0, .ref a_ws, .ref a_ah, .int 0, .int 0, .int 0, .ref a_cl, .ref a_us, .ref a_mo, .ref a_to, .ref a_mb, .ref a_le, .int 0, .ref a_rs, .ref a_rm, .ref a_nu])), (a_al, .inl (cI, 3906, .inl plc))] s.heap := hP
  refine lv_iconst (v := 0) hx hb dX12_thereSet_0 (by decide) ?_
  refine lv_istore_n (lv' := [(1, .int 0), (0, .ref h0)]) hx hb dX12_thereSet_1 rfl hl (by decide) rfl (fun ls hl => ?_)
  refine lv_iconst (v := 0) hx hb dX12_thereSet_2 (by decide) ?_
  refine lv_istore_n (lv' := [(2, .int 0), (1, .int 0), (0, .ref h0)]) hx hb dX12_thereSet_3 rfl hl (by decide) rfl (fun ls hl => ?_)
  refine lv_iload_n hx hb dX12_thereSet_4 rfl (lv_at hl 0 rfl) ?_
  refine lv_aload_n hx hb dX12_thereSet_5 rfl (lv_at hl 2 rfl) ?_
  refine va_get (D := D) (ci := 12) (v := .ref a_al) (C := RX12) (T := TX12) (N := 36) hx hb hts uX12 hown hkb.1 hP 0 rfl rfl 1 (by decide) (hts _ kw_1224) (fun _ h9 => h9) rfl dX12_thereSet_6 ?_
  refine lv_iconst (v := 1) hx hb dX12_thereSet_9 (by decide) ?_
  refine va_iald hx hb hkb.1 hP 1 1 rfl rfl (in_c (by decide +kernel)) dX12_thereSet_10 ?_
  refine lv_topc (y := 0) (by decide +kernel) ?_
  refine lv_icmp_ge (tgt := 38) hx hb dX12_thereSet_11 (by decide) (fun _ => ?_) (fun c_1 => absurd c_1 (by decide))
  refine lv_iload_n hx hb dX12_thereSet_38 rfl (lv_at hl 1 rfl) ?_
  refine W.widen (k := 0) (n := 0) (Nat.le_of_ble_eq_true rfl) (Nat.le_of_ble_eq_true rfl) ?_
  exact e_i (u := [(h0, .inr (12, [.int 0, .ref a_al, .ref a_hi, .ref a_mt, .ref a_fr, .int 0, .int 0, .int 0, .int 0, .int 0, .int 0, .int 0, .int 0, .int 0, .int (-1), .ref a_rk, .int 0, .ref a_on, .ref a_aw, .ref a_ro, .int 0, .ref a_ws, .ref a_ah, .int 0, .int 0, .int 0, .ref a_cl, .ref a_us, .ref a_mo, .ref a_to, .ref a_mb, .ref a_le, .int 0, .ref a_rs, .ref a_rm, .ref a_nu])), (a_al, .inl (cI, 3906, .inl plc))]) hx hb hr hlocks (hP.sub (ws' := [(h0, .inr (12, [.int 0, .ref a_al, .ref a_hi, .ref a_mt, .ref a_fr, .int 0, .int 0, .int 0, .int 0, .int 0, .int 0, .int 0, .int 0, .int 0, .int (-1), .ref a_rk, .int 0, .ref a_on, .ref a_aw, .ref a_ro, .int 0, .ref a_ws, .ref a_ah, .int 0, .int 0, .int 0, .ref a_cl, .ref a_us, .ref a_mo, .ref a_to, .ref a_mb, .ref a_le, .int 0, .ref a_rs, .ref a_rm, .ref a_nu])), (a_al, .inl (cI, 3906, .inl plc))]) [0, 1] rfl) (hD.sub (ws' := [(h0, .inr (12, [.int 0, .ref a_al, .ref a_hi, .ref a_mt, .ref a_fr, .int 0, .int 0, .int 0, .int 0, .int 0, .int 0, .int 0, .int 0, .int 0, .int (-1), .ref a_rk, .int 0, .ref a_on, .ref a_aw, .ref a_ro, .int 0, .ref a_ws, .ref a_ah, .int 0, .int 0, .int 0, .ref a_cl, .ref a_us, .ref a_mo, .ref a_to, .ref a_mb, .ref a_le, .int 0, .ref a_rs, .ref a_rm, .ref a_nu])), (a_al, .inl (cI, 3906, .inl plc))]) [0, 1] (by decide) rfl) hS ⟨rfl, rfl⟩ dX12_thereSet_39
set_option maxHeartbeats 4000000 in
set_option maxRecDepth 100000 in
theorem c_ends (l : Launch) (D : va_G) (cB cI cJ cZ cS cW cT cR : ClassId) (h0 : Nat) (a_al : Nat) (a_hi : Nat) (a_mt : Nat) (a_fr : Nat) (a_rk : Nat) (a_on : Nat) (a_aw : Nat) (a_ro : Nat) (a_ws : Nat) (a_ah : Nat) (a_cl : Nat) (a_us : Nat) (a_mo : Nat) (a_to : Nat) (a_mb : Nat) (a_le : Nat) (a_rs : Nat) (a_rm : Nat) (a_nu : Nat) : Kon l D (tyl cB cI cJ cZ cS cW cT cR) yX12_ends cX12_ends 1 (some (.int)) { frames := 0, cells := 0, slots := 0, locals := 0 } [.ref h0] [(h0, .inr (12, [.int 0, .ref a_al, .ref a_hi, .ref a_mt, .ref a_fr, .int 0, .int 0, .int 0, .int 0, .int 0, .int 0, .int 0, .int 0, .int 0, .int (-1), .ref a_rk, .int 0, .ref a_on, .ref a_aw, .ref a_ro, .int 0, .ref a_ws, .ref a_ah, .int 0, .int 0, .int 0, .ref a_cl, .ref a_us, .ref a_mo, .ref a_to, .ref a_mb, .ref a_le, .int 0, .ref a_rs, .ref a_rm, .ref a_nu])), (a_al, .inl (cI, 3906, .inl plc))] (Qi D (fun r u => r = 0 ∧ u = [(h0, .inr (12, [.int 0, .ref a_al, .ref a_hi, .ref a_mt, .ref a_fr, .int 0, .int 0, .int 0, .int 0, .int 0, .int 0, .int 0, .int 0, .int 0, .int (-1), .ref a_rk, .int 0, .ref a_on, .ref a_aw, .ref a_ro, .int 0, .ref a_ws, .ref a_ah, .int 0, .int 0, .int 0, .ref a_cl, .ref a_us, .ref a_mo, .ref a_to, .ref a_mb, .ref a_le, .int 0, .ref a_rs, .ref a_rm, .ref a_nu])), (a_al, .inl (cI, 3906, .inl plc))])) := by
  refine kon_of (by decide) (Nat.le_of_ble_eq_true rfl) (fun p e s m below meth c ls A hx hb hr hml hown hts hlocks hnm hkb hP hD hS hA hl => ?_)
  have hown : s.vm.findClass RX12 = some m.cls := hown
  have hl : lv_has ls 1 [(0, .ref h0)] := hl
  have hP : va_P D cls [(h0, .inr (12, [.int 0, .ref a_al, .ref a_hi, .ref a_mt, .ref a_fr, .int 0, .int 0, .int 0, .int 0, .int 0, .int 0, .int 0, .int 0, .int 0, .int (-1), .ref a_rk, .int 0, .ref a_on, .ref a_aw, .ref a_ro, .int 0, .ref a_ws, .ref a_ah, .int 0, .int 0, .int 0, .ref a_cl, .ref a_us, .ref a_mo, .ref a_to, .ref a_mb, .ref a_le, .int 0, .ref a_rs, .ref a_rm, .ref a_nu])), (a_al, .inl (cI, 3906, .inl plc))] s.heap := hP
  refine lv_aload_n hx hb dX12_ends_0 rfl (lv_at hl 0 rfl) ?_
  refine va_get (D := D) (ci := 12) (v := .ref a_al) (C := RX12) (T := TX12) (N := 36) hx hb hts uX12 hown hkb.1 hP 0 rfl rfl 1 (by decide) (hts _ kw_1224) (fun _ h9 => h9) rfl dX12_ends_1 ?_
  refine lv_iconst (v := 4) hx hb dX12_ends_4 (by decide) ?_
  refine va_iald hx hb hkb.1 hP 1 1 rfl rfl (in_c (by decide +kernel)) dX12_ends_5 ?_
  refine lv_topc (y := 0) (by decide +kernel) ?_
  refine lv_aload_n hx hb dX12_ends_6 rfl (lv_at hl 0 rfl) ?_
  refine va_get (D := D) (ci := 12) (v := .ref a_al) (C := RX12) (T := TX12) (N := 36) hx hb hts uX12 hown hkb.1 hP 0 rfl rfl 1 (by decide) (hts _ kw_1224) (fun _ h9 => h9) rfl dX12_ends_7 ?_
  refine lv_iconst (v := 5) hx hb dX12_ends_10 (by decide) ?_
  refine va_iald hx hb hkb.1 hP 1 1 rfl rfl (in_c (by decide +kernel)) dX12_ends_11 ?_
  refine lv_topc (y := 0) (by decide +kernel) ?_
  refine lv_ior hx hb dX12_ends_12 ?_
  refine lv_topc (y := 0) (by decide +kernel) ?_
  refine W.widen (k := 0) (n := 0) (Nat.le_of_ble_eq_true rfl) (Nat.le_of_ble_eq_true rfl) ?_
  exact e_i (u := [(h0, .inr (12, [.int 0, .ref a_al, .ref a_hi, .ref a_mt, .ref a_fr, .int 0, .int 0, .int 0, .int 0, .int 0, .int 0, .int 0, .int 0, .int 0, .int (-1), .ref a_rk, .int 0, .ref a_on, .ref a_aw, .ref a_ro, .int 0, .ref a_ws, .ref a_ah, .int 0, .int 0, .int 0, .ref a_cl, .ref a_us, .ref a_mo, .ref a_to, .ref a_mb, .ref a_le, .int 0, .ref a_rs, .ref a_rm, .ref a_nu])), (a_al, .inl (cI, 3906, .inl plc))]) hx hb hr hlocks (hP.sub (ws' := [(h0, .inr (12, [.int 0, .ref a_al, .ref a_hi, .ref a_mt, .ref a_fr, .int 0, .int 0, .int 0, .int 0, .int 0, .int 0, .int 0, .int 0, .int 0, .int (-1), .ref a_rk, .int 0, .ref a_on, .ref a_aw, .ref a_ro, .int 0, .ref a_ws, .ref a_ah, .int 0, .int 0, .int 0, .ref a_cl, .ref a_us, .ref a_mo, .ref a_to, .ref a_mb, .ref a_le, .int 0, .ref a_rs, .ref a_rm, .ref a_nu])), (a_al, .inl (cI, 3906, .inl plc))]) [0, 1] rfl) (hD.sub (ws' := [(h0, .inr (12, [.int 0, .ref a_al, .ref a_hi, .ref a_mt, .ref a_fr, .int 0, .int 0, .int 0, .int 0, .int 0, .int 0, .int 0, .int 0, .int 0, .int (-1), .ref a_rk, .int 0, .ref a_on, .ref a_aw, .ref a_ro, .int 0, .ref a_ws, .ref a_ah, .int 0, .int 0, .int 0, .ref a_cl, .ref a_us, .ref a_mo, .ref a_to, .ref a_mb, .ref a_le, .int 0, .ref a_rs, .ref a_rm, .ref a_nu])), (a_al, .inl (cI, 3906, .inl plc))]) [0, 1] (by decide) rfl) hS ⟨rfl, rfl⟩ dX12_ends_13
set_option maxHeartbeats 4000000 in
set_option maxRecDepth 100000 in
theorem c_usedMany (l : Launch) (D : va_G) (cB cI cJ cZ cS cW cT cR : ClassId) (h0 : Nat) (a_al : Nat) (a_hi : Nat) (a_mt : Nat) (a_fr : Nat) (a_rk : Nat) (a_on : Nat) (a_aw : Nat) (a_ro : Nat) (a_ws : Nat) (a_ah : Nat) (a_cl : Nat) (a_us : Nat) (a_mo : Nat) (a_to : Nat) (a_mb : Nat) (a_le : Nat) (a_rs : Nat) (a_rm : Nat) (a_nu : Nat) : Kon l D (tyl cB cI cJ cZ cS cW cT cR) yX12_usedMany cX12_usedMany 3 (some (.int)) { frames := 0, cells := 0, slots := 0, locals := 0 } [.ref h0] [(h0, .inr (12, [.int 0, .ref a_al, .ref a_hi, .ref a_mt, .ref a_fr, .int 0, .int 0, .int 0, .int 0, .int 0, .int 0, .int 0, .int 0, .int 0, .int (-1), .ref a_rk, .int 0, .ref a_on, .ref a_aw, .ref a_ro, .int 0, .ref a_ws, .ref a_ah, .int 0, .int 0, .int 0, .ref a_cl, .ref a_us, .ref a_mo, .ref a_to, .ref a_mb, .ref a_le, .int 0, .ref a_rs, .ref a_rm, .ref a_nu])), (a_al, .inl (cI, 3906, .inl plc))] (Qi D (fun r u => r = 0 ∧ u = [(h0, .inr (12, [.int 0, .ref a_al, .ref a_hi, .ref a_mt, .ref a_fr, .int 0, .int 0, .int 0, .int 0, .int 0, .int 0, .int 0, .int 0, .int 0, .int (-1), .ref a_rk, .int 0, .ref a_on, .ref a_aw, .ref a_ro, .int 0, .ref a_ws, .ref a_ah, .int 0, .int 0, .int 0, .ref a_cl, .ref a_us, .ref a_mo, .ref a_to, .ref a_mb, .ref a_le, .int 0, .ref a_rs, .ref a_rm, .ref a_nu])), (a_al, .inl (cI, 3906, .inl plc))])) := by
  refine kon_of (by decide) (Nat.le_of_ble_eq_true rfl) (fun p e s m below meth c ls A hx hb hr hml hown hts hlocks hnm hkb hP hD hS hA hl => ?_)
  have hown : s.vm.findClass RX12 = some m.cls := hown
  have hl : lv_has ls 3 [(0, .ref h0)] := hl
  have hP : va_P D cls [(h0, .inr (12, [.int 0, .ref a_al, .ref a_hi, .ref a_mt, .ref a_fr, .int 0, .int 0, .int 0, .int 0, .int 0, .int 0, .int 0, .int 0, .int 0, .int (-1), .ref a_rk, .int 0, .ref a_on, .ref a_aw, .ref a_ro, .int 0, .ref a_ws, .ref a_ah, .int 0, .int 0, .int 0, .ref a_cl, .ref a_us, .ref a_mo, .ref a_to, .ref a_mb, .ref a_le, .int 0, .ref a_rs, .ref a_rm, .ref a_nu])), (a_al, .inl (cI, 3906, .inl plc))] s.heap := hP
  refine lv_iconst (v := 0) hx hb dX12_usedMany_0 (by decide) ?_
  refine lv_istore_n (lv' := [(1, .int 0), (0, .ref h0)]) hx hb dX12_usedMany_1 rfl hl (by decide) rfl (fun ls hl => ?_)
  refine lv_iconst (v := 0) hx hb dX12_usedMany_2 (by decide) ?_
  refine lv_istore_n (lv' := [(2, .int 0), (1, .int 0), (0, .ref h0)]) hx hb dX12_usedMany_3 rfl hl (by decide) rfl (fun ls hl => ?_)
  refine lv_iload_n hx hb dX12_usedMany_4 rfl (lv_at hl 0 rfl) ?_
  refine lv_aload_n hx hb dX12_usedMany_5 rfl (lv_at hl 2 rfl) ?_
  refine va_get (D := D) (ci := 12) (v := .ref a_al) (C := RX12) (T := TX12) (N := 36) hx hb hts uX12 hown hkb.1 hP 0 rfl rfl 1 (by decide) (hts _ kw_1224) (fun _ h9 => h9) rfl dX12_usedMany_6 ?_
  refine lv_iconst (v := 1) hx hb dX12_usedMany_9 (by decide) ?_
  refine va_iald hx hb hkb.1 hP 1 1 rfl rfl (in_c (by decide +kernel)) dX12_usedMany_10 ?_
  refine lv_topc (y := 0) (by decide +kernel) ?_
  refine lv_icmp_ge (tgt := 41) hx hb dX12_usedMany_11 (by decide) (fun _ => ?_) (fun c_1 => absurd c_1 (by decide))
  refine lv_iload_n hx hb dX12_usedMany_41 rfl (lv_at hl 1 rfl) ?_
  refine W.widen (k := 0) (n := 0) (Nat.le_of_ble_eq_true rfl) (Nat.le_of_ble_eq_true rfl) ?_
  exact e_i (u := [(h0, .inr (12, [.int 0, .ref a_al, .ref a_hi, .ref a_mt, .ref a_fr, .int 0, .int 0, .int 0, .int 0, .int 0, .int 0, .int 0, .int 0, .int 0, .int (-1), .ref a_rk, .int 0, .ref a_on, .ref a_aw, .ref a_ro, .int 0, .ref a_ws, .ref a_ah, .int 0, .int 0, .int 0, .ref a_cl, .ref a_us, .ref a_mo, .ref a_to, .ref a_mb, .ref a_le, .int 0, .ref a_rs, .ref a_rm, .ref a_nu])), (a_al, .inl (cI, 3906, .inl plc))]) hx hb hr hlocks (hP.sub (ws' := [(h0, .inr (12, [.int 0, .ref a_al, .ref a_hi, .ref a_mt, .ref a_fr, .int 0, .int 0, .int 0, .int 0, .int 0, .int 0, .int 0, .int 0, .int 0, .int (-1), .ref a_rk, .int 0, .ref a_on, .ref a_aw, .ref a_ro, .int 0, .ref a_ws, .ref a_ah, .int 0, .int 0, .int 0, .ref a_cl, .ref a_us, .ref a_mo, .ref a_to, .ref a_mb, .ref a_le, .int 0, .ref a_rs, .ref a_rm, .ref a_nu])), (a_al, .inl (cI, 3906, .inl plc))]) [0, 1] rfl) (hD.sub (ws' := [(h0, .inr (12, [.int 0, .ref a_al, .ref a_hi, .ref a_mt, .ref a_fr, .int 0, .int 0, .int 0, .int 0, .int 0, .int 0, .int 0, .int 0, .int 0, .int (-1), .ref a_rk, .int 0, .ref a_on, .ref a_aw, .ref a_ro, .int 0, .ref a_ws, .ref a_ah, .int 0, .int 0, .int 0, .ref a_cl, .ref a_us, .ref a_mo, .ref a_to, .ref a_mb, .ref a_le, .int 0, .ref a_rs, .ref a_rm, .ref a_nu])), (a_al, .inl (cI, 3906, .inl plc))]) [0, 1] (by decide) rfl) hS ⟨rfl, rfl⟩ dX12_usedMany_42
set_option maxHeartbeats 4000000 in
set_option maxRecDepth 100000 in
theorem c_bitsOf0 (l : Launch) (D : va_G) (cB cI cJ cZ cS cW cT cR : ClassId) : Kon l D (tyl cB cI cJ cZ cS cW cT cR) yX12_bitsOf cX12_bitsOf 3 (some (.int)) { frames := 0, cells := 0, slots := 0, locals := 0 } [.int 0] [] (Qi D (fun r u => r = 0 ∧ u = [])) := by
  refine kon_of (by decide) (Nat.le_of_ble_eq_true rfl) (fun p e s m below meth c ls A hx hb hr hml hown hts hlocks hnm hkb hP hD hS hA hl => ?_)
  have hown : s.vm.findClass RX12 = some m.cls := hown
  have hl : lv_has ls 3 [(0, .int 0)] := hl
  have hP : va_P D cls [] s.heap := hP
  refine lv_iconst (v := 0) hx hb dX12_bitsOf_0 (by decide) ?_
  refine lv_istore_n (lv' := [(1, .int 0), (0, .int 0)]) hx hb dX12_bitsOf_1 rfl hl (by decide) rfl (fun ls hl => ?_)
  refine lv_iconst (v := 0) hx hb dX12_bitsOf_2 (by decide) ?_
  refine lv_istore_n (lv' := [(2, .int 0), (1, .int 0), (0, .int 0)]) hx hb dX12_bitsOf_3 rfl hl (by decide) rfl (fun ls hl => ?_)
  refine lv_iload_n hx hb dX12_bitsOf_4 rfl (lv_at hl 0 rfl) ?_
  refine lv_bipush (v := 14) hx hb dX12_bitsOf_5 (by decide) ?_
  refine lv_icmp_ge (tgt := 24) hx hb dX12_bitsOf_7 (by decide) (fun c_1 => absurd c_1 (by decide)) (fun _ => ?_)
  refine lv_iload_n hx hb dX12_bitsOf_10 rfl (lv_at hl 1 rfl) ?_
  refine lv_iload_n hx hb dX12_bitsOf_11 rfl (lv_at hl 2 rfl) ?_
  refine lv_iload_n hx hb dX12_bitsOf_12 rfl (lv_at hl 0 rfl) ?_
  refine lv_ishr hx hb dX12_bitsOf_13 ?_
  refine lv_topc (y := 0) (by decide +kernel) ?_
  refine lv_iconst (v := 1) hx hb dX12_bitsOf_14 (by decide) ?_
  refine lv_iand hx hb dX12_bitsOf_15 ?_
  refine lv_topc (y := 0) (by decide +kernel) ?_
  refine lv_iadd hx hb dX12_bitsOf_16 ?_
  refine lv_topc (y := 0) (by decide +kernel) ?_
  refine lv_istore_n (lv' := [(1, .int 0), (2, .int 0), (0, .int 0)]) hx hb dX12_bitsOf_17 rfl hl (by decide) rfl (fun ls hl => ?_)
  refine lv_iinc (v := 1) (lv' := [(2, .int 1), (1, .int 0), (0, .int 0)]) hx hb dX12_bitsOf_18 hl (k := 1) rfl (by decide) (by decide) rfl (fun ls hl => ?_)
  refine lv_goto (tgt := 4) hx hb dX12_bitsOf_21 (by decide) ?_
  refine lv_iload_n hx hb dX12_bitsOf_4 rfl (lv_at hl 0 rfl) ?_
  refine lv_bipush (v := 14) hx hb dX12_bitsOf_5 (by decide) ?_
  refine lv_icmp_ge (tgt := 24) hx hb dX12_bitsOf_7 (by decide) (fun c_2 => absurd c_2 (by decide)) (fun _ => ?_)
  refine lv_iload_n hx hb dX12_bitsOf_10 rfl (lv_at hl 1 rfl) ?_
  refine lv_iload_n hx hb dX12_bitsOf_11 rfl (lv_at hl 2 rfl) ?_
  refine lv_iload_n hx hb dX12_bitsOf_12 rfl (lv_at hl 0 rfl) ?_
  refine lv_ishr hx hb dX12_bitsOf_13 ?_
  refine lv_topc (y := 0) (by decide +kernel) ?_
  refine lv_iconst (v := 1) hx hb dX12_bitsOf_14 (by decide) ?_
  refine lv_iand hx hb dX12_bitsOf_15 ?_
  refine lv_topc (y := 0) (by decide +kernel) ?_
  refine lv_iadd hx hb dX12_bitsOf_16 ?_
  refine lv_topc (y := 0) (by decide +kernel) ?_
  refine lv_istore_n (lv' := [(1, .int 0), (2, .int 1), (0, .int 0)]) hx hb dX12_bitsOf_17 rfl hl (by decide) rfl (fun ls hl => ?_)
  refine lv_iinc (v := 2) (lv' := [(2, .int 2), (1, .int 0), (0, .int 0)]) hx hb dX12_bitsOf_18 hl (k := 1) rfl (by decide) (by decide) rfl (fun ls hl => ?_)
  refine lv_goto (tgt := 4) hx hb dX12_bitsOf_21 (by decide) ?_
  refine lv_iload_n hx hb dX12_bitsOf_4 rfl (lv_at hl 0 rfl) ?_
  refine lv_bipush (v := 14) hx hb dX12_bitsOf_5 (by decide) ?_
  refine lv_icmp_ge (tgt := 24) hx hb dX12_bitsOf_7 (by decide) (fun c_3 => absurd c_3 (by decide)) (fun _ => ?_)
  refine lv_iload_n hx hb dX12_bitsOf_10 rfl (lv_at hl 1 rfl) ?_
  refine lv_iload_n hx hb dX12_bitsOf_11 rfl (lv_at hl 2 rfl) ?_
  refine lv_iload_n hx hb dX12_bitsOf_12 rfl (lv_at hl 0 rfl) ?_
  refine lv_ishr hx hb dX12_bitsOf_13 ?_
  refine lv_topc (y := 0) (by decide +kernel) ?_
  refine lv_iconst (v := 1) hx hb dX12_bitsOf_14 (by decide) ?_
  refine lv_iand hx hb dX12_bitsOf_15 ?_
  refine lv_topc (y := 0) (by decide +kernel) ?_
  refine lv_iadd hx hb dX12_bitsOf_16 ?_
  refine lv_topc (y := 0) (by decide +kernel) ?_
  refine lv_istore_n (lv' := [(1, .int 0), (2, .int 2), (0, .int 0)]) hx hb dX12_bitsOf_17 rfl hl (by decide) rfl (fun ls hl => ?_)
  refine lv_iinc (v := 3) (lv' := [(2, .int 3), (1, .int 0), (0, .int 0)]) hx hb dX12_bitsOf_18 hl (k := 1) rfl (by decide) (by decide) rfl (fun ls hl => ?_)
  refine lv_goto (tgt := 4) hx hb dX12_bitsOf_21 (by decide) ?_
  refine lv_iload_n hx hb dX12_bitsOf_4 rfl (lv_at hl 0 rfl) ?_
  refine lv_bipush (v := 14) hx hb dX12_bitsOf_5 (by decide) ?_
  refine lv_icmp_ge (tgt := 24) hx hb dX12_bitsOf_7 (by decide) (fun c_4 => absurd c_4 (by decide)) (fun _ => ?_)
  refine lv_iload_n hx hb dX12_bitsOf_10 rfl (lv_at hl 1 rfl) ?_
  refine lv_iload_n hx hb dX12_bitsOf_11 rfl (lv_at hl 2 rfl) ?_
  refine lv_iload_n hx hb dX12_bitsOf_12 rfl (lv_at hl 0 rfl) ?_
  refine lv_ishr hx hb dX12_bitsOf_13 ?_
  refine lv_topc (y := 0) (by decide +kernel) ?_
  refine lv_iconst (v := 1) hx hb dX12_bitsOf_14 (by decide) ?_
  refine lv_iand hx hb dX12_bitsOf_15 ?_
  refine lv_topc (y := 0) (by decide +kernel) ?_
  refine lv_iadd hx hb dX12_bitsOf_16 ?_
  refine lv_topc (y := 0) (by decide +kernel) ?_
  refine lv_istore_n (lv' := [(1, .int 0), (2, .int 3), (0, .int 0)]) hx hb dX12_bitsOf_17 rfl hl (by decide) rfl (fun ls hl => ?_)
  refine lv_iinc (v := 4) (lv' := [(2, .int 4), (1, .int 0), (0, .int 0)]) hx hb dX12_bitsOf_18 hl (k := 1) rfl (by decide) (by decide) rfl (fun ls hl => ?_)
  refine lv_goto (tgt := 4) hx hb dX12_bitsOf_21 (by decide) ?_
  refine lv_iload_n hx hb dX12_bitsOf_4 rfl (lv_at hl 0 rfl) ?_
  refine lv_bipush (v := 14) hx hb dX12_bitsOf_5 (by decide) ?_
  refine lv_icmp_ge (tgt := 24) hx hb dX12_bitsOf_7 (by decide) (fun c_5 => absurd c_5 (by decide)) (fun _ => ?_)
  refine lv_iload_n hx hb dX12_bitsOf_10 rfl (lv_at hl 1 rfl) ?_
  refine lv_iload_n hx hb dX12_bitsOf_11 rfl (lv_at hl 2 rfl) ?_
  refine lv_iload_n hx hb dX12_bitsOf_12 rfl (lv_at hl 0 rfl) ?_
  refine lv_ishr hx hb dX12_bitsOf_13 ?_
  refine lv_topc (y := 0) (by decide +kernel) ?_
  refine lv_iconst (v := 1) hx hb dX12_bitsOf_14 (by decide) ?_
  refine lv_iand hx hb dX12_bitsOf_15 ?_
  refine lv_topc (y := 0) (by decide +kernel) ?_
  refine lv_iadd hx hb dX12_bitsOf_16 ?_
  refine lv_topc (y := 0) (by decide +kernel) ?_
  refine lv_istore_n (lv' := [(1, .int 0), (2, .int 4), (0, .int 0)]) hx hb dX12_bitsOf_17 rfl hl (by decide) rfl (fun ls hl => ?_)
  refine lv_iinc (v := 5) (lv' := [(2, .int 5), (1, .int 0), (0, .int 0)]) hx hb dX12_bitsOf_18 hl (k := 1) rfl (by decide) (by decide) rfl (fun ls hl => ?_)
  refine lv_goto (tgt := 4) hx hb dX12_bitsOf_21 (by decide) ?_
  refine lv_iload_n hx hb dX12_bitsOf_4 rfl (lv_at hl 0 rfl) ?_
  refine lv_bipush (v := 14) hx hb dX12_bitsOf_5 (by decide) ?_
  refine lv_icmp_ge (tgt := 24) hx hb dX12_bitsOf_7 (by decide) (fun c_6 => absurd c_6 (by decide)) (fun _ => ?_)
  refine lv_iload_n hx hb dX12_bitsOf_10 rfl (lv_at hl 1 rfl) ?_
  refine lv_iload_n hx hb dX12_bitsOf_11 rfl (lv_at hl 2 rfl) ?_
  refine lv_iload_n hx hb dX12_bitsOf_12 rfl (lv_at hl 0 rfl) ?_
  refine lv_ishr hx hb dX12_bitsOf_13 ?_
  refine lv_topc (y := 0) (by decide +kernel) ?_
  refine lv_iconst (v := 1) hx hb dX12_bitsOf_14 (by decide) ?_
  refine lv_iand hx hb dX12_bitsOf_15 ?_
  refine lv_topc (y := 0) (by decide +kernel) ?_
  refine lv_iadd hx hb dX12_bitsOf_16 ?_
  refine lv_topc (y := 0) (by decide +kernel) ?_
  refine lv_istore_n (lv' := [(1, .int 0), (2, .int 5), (0, .int 0)]) hx hb dX12_bitsOf_17 rfl hl (by decide) rfl (fun ls hl => ?_)
  refine lv_iinc (v := 6) (lv' := [(2, .int 6), (1, .int 0), (0, .int 0)]) hx hb dX12_bitsOf_18 hl (k := 1) rfl (by decide) (by decide) rfl (fun ls hl => ?_)
  refine lv_goto (tgt := 4) hx hb dX12_bitsOf_21 (by decide) ?_
  refine lv_iload_n hx hb dX12_bitsOf_4 rfl (lv_at hl 0 rfl) ?_
  refine lv_bipush (v := 14) hx hb dX12_bitsOf_5 (by decide) ?_
  refine lv_icmp_ge (tgt := 24) hx hb dX12_bitsOf_7 (by decide) (fun c_7 => absurd c_7 (by decide)) (fun _ => ?_)
  refine lv_iload_n hx hb dX12_bitsOf_10 rfl (lv_at hl 1 rfl) ?_
  refine lv_iload_n hx hb dX12_bitsOf_11 rfl (lv_at hl 2 rfl) ?_
  refine lv_iload_n hx hb dX12_bitsOf_12 rfl (lv_at hl 0 rfl) ?_
  refine lv_ishr hx hb dX12_bitsOf_13 ?_
  refine lv_topc (y := 0) (by decide +kernel) ?_
  refine lv_iconst (v := 1) hx hb dX12_bitsOf_14 (by decide) ?_
  refine lv_iand hx hb dX12_bitsOf_15 ?_
  refine lv_topc (y := 0) (by decide +kernel) ?_
  refine lv_iadd hx hb dX12_bitsOf_16 ?_
  refine lv_topc (y := 0) (by decide +kernel) ?_
  refine lv_istore_n (lv' := [(1, .int 0), (2, .int 6), (0, .int 0)]) hx hb dX12_bitsOf_17 rfl hl (by decide) rfl (fun ls hl => ?_)
  refine lv_iinc (v := 7) (lv' := [(2, .int 7), (1, .int 0), (0, .int 0)]) hx hb dX12_bitsOf_18 hl (k := 1) rfl (by decide) (by decide) rfl (fun ls hl => ?_)
  refine lv_goto (tgt := 4) hx hb dX12_bitsOf_21 (by decide) ?_
  refine lv_iload_n hx hb dX12_bitsOf_4 rfl (lv_at hl 0 rfl) ?_
  refine lv_bipush (v := 14) hx hb dX12_bitsOf_5 (by decide) ?_
  refine lv_icmp_ge (tgt := 24) hx hb dX12_bitsOf_7 (by decide) (fun c_8 => absurd c_8 (by decide)) (fun _ => ?_)
  refine lv_iload_n hx hb dX12_bitsOf_10 rfl (lv_at hl 1 rfl) ?_
  refine lv_iload_n hx hb dX12_bitsOf_11 rfl (lv_at hl 2 rfl) ?_
  refine lv_iload_n hx hb dX12_bitsOf_12 rfl (lv_at hl 0 rfl) ?_
  refine lv_ishr hx hb dX12_bitsOf_13 ?_
  refine lv_topc (y := 0) (by decide +kernel) ?_
  refine lv_iconst (v := 1) hx hb dX12_bitsOf_14 (by decide) ?_
  refine lv_iand hx hb dX12_bitsOf_15 ?_
  refine lv_topc (y := 0) (by decide +kernel) ?_
  refine lv_iadd hx hb dX12_bitsOf_16 ?_
  refine lv_topc (y := 0) (by decide +kernel) ?_
  refine lv_istore_n (lv' := [(1, .int 0), (2, .int 7), (0, .int 0)]) hx hb dX12_bitsOf_17 rfl hl (by decide) rfl (fun ls hl => ?_)
  refine lv_iinc (v := 8) (lv' := [(2, .int 8), (1, .int 0), (0, .int 0)]) hx hb dX12_bitsOf_18 hl (k := 1) rfl (by decide) (by decide) rfl (fun ls hl => ?_)
  refine lv_goto (tgt := 4) hx hb dX12_bitsOf_21 (by decide) ?_
  refine lv_iload_n hx hb dX12_bitsOf_4 rfl (lv_at hl 0 rfl) ?_
  refine lv_bipush (v := 14) hx hb dX12_bitsOf_5 (by decide) ?_
  refine lv_icmp_ge (tgt := 24) hx hb dX12_bitsOf_7 (by decide) (fun c_9 => absurd c_9 (by decide)) (fun _ => ?_)
  refine lv_iload_n hx hb dX12_bitsOf_10 rfl (lv_at hl 1 rfl) ?_
  refine lv_iload_n hx hb dX12_bitsOf_11 rfl (lv_at hl 2 rfl) ?_
  refine lv_iload_n hx hb dX12_bitsOf_12 rfl (lv_at hl 0 rfl) ?_
  refine lv_ishr hx hb dX12_bitsOf_13 ?_
  refine lv_topc (y := 0) (by decide +kernel) ?_
  refine lv_iconst (v := 1) hx hb dX12_bitsOf_14 (by decide) ?_
  refine lv_iand hx hb dX12_bitsOf_15 ?_
  refine lv_topc (y := 0) (by decide +kernel) ?_
  refine lv_iadd hx hb dX12_bitsOf_16 ?_
  refine lv_topc (y := 0) (by decide +kernel) ?_
  refine lv_istore_n (lv' := [(1, .int 0), (2, .int 8), (0, .int 0)]) hx hb dX12_bitsOf_17 rfl hl (by decide) rfl (fun ls hl => ?_)
  refine lv_iinc (v := 9) (lv' := [(2, .int 9), (1, .int 0), (0, .int 0)]) hx hb dX12_bitsOf_18 hl (k := 1) rfl (by decide) (by decide) rfl (fun ls hl => ?_)
  refine lv_goto (tgt := 4) hx hb dX12_bitsOf_21 (by decide) ?_
  refine lv_iload_n hx hb dX12_bitsOf_4 rfl (lv_at hl 0 rfl) ?_
  refine lv_bipush (v := 14) hx hb dX12_bitsOf_5 (by decide) ?_
  refine lv_icmp_ge (tgt := 24) hx hb dX12_bitsOf_7 (by decide) (fun c_10 => absurd c_10 (by decide)) (fun _ => ?_)
  refine lv_iload_n hx hb dX12_bitsOf_10 rfl (lv_at hl 1 rfl) ?_
  refine lv_iload_n hx hb dX12_bitsOf_11 rfl (lv_at hl 2 rfl) ?_
  refine lv_iload_n hx hb dX12_bitsOf_12 rfl (lv_at hl 0 rfl) ?_
  refine lv_ishr hx hb dX12_bitsOf_13 ?_
  refine lv_topc (y := 0) (by decide +kernel) ?_
  refine lv_iconst (v := 1) hx hb dX12_bitsOf_14 (by decide) ?_
  refine lv_iand hx hb dX12_bitsOf_15 ?_
  refine lv_topc (y := 0) (by decide +kernel) ?_
  refine lv_iadd hx hb dX12_bitsOf_16 ?_
  refine lv_topc (y := 0) (by decide +kernel) ?_
  refine lv_istore_n (lv' := [(1, .int 0), (2, .int 9), (0, .int 0)]) hx hb dX12_bitsOf_17 rfl hl (by decide) rfl (fun ls hl => ?_)
  refine lv_iinc (v := 10) (lv' := [(2, .int 10), (1, .int 0), (0, .int 0)]) hx hb dX12_bitsOf_18 hl (k := 1) rfl (by decide) (by decide) rfl (fun ls hl => ?_)
  refine lv_goto (tgt := 4) hx hb dX12_bitsOf_21 (by decide) ?_
  refine lv_iload_n hx hb dX12_bitsOf_4 rfl (lv_at hl 0 rfl) ?_
  refine lv_bipush (v := 14) hx hb dX12_bitsOf_5 (by decide) ?_
  refine lv_icmp_ge (tgt := 24) hx hb dX12_bitsOf_7 (by decide) (fun c_11 => absurd c_11 (by decide)) (fun _ => ?_)
  refine lv_iload_n hx hb dX12_bitsOf_10 rfl (lv_at hl 1 rfl) ?_
  refine lv_iload_n hx hb dX12_bitsOf_11 rfl (lv_at hl 2 rfl) ?_
  refine lv_iload_n hx hb dX12_bitsOf_12 rfl (lv_at hl 0 rfl) ?_
  refine lv_ishr hx hb dX12_bitsOf_13 ?_
  refine lv_topc (y := 0) (by decide +kernel) ?_
  refine lv_iconst (v := 1) hx hb dX12_bitsOf_14 (by decide) ?_
  refine lv_iand hx hb dX12_bitsOf_15 ?_
  refine lv_topc (y := 0) (by decide +kernel) ?_
  refine lv_iadd hx hb dX12_bitsOf_16 ?_
  refine lv_topc (y := 0) (by decide +kernel) ?_
  refine lv_istore_n (lv' := [(1, .int 0), (2, .int 10), (0, .int 0)]) hx hb dX12_bitsOf_17 rfl hl (by decide) rfl (fun ls hl => ?_)
  refine lv_iinc (v := 11) (lv' := [(2, .int 11), (1, .int 0), (0, .int 0)]) hx hb dX12_bitsOf_18 hl (k := 1) rfl (by decide) (by decide) rfl (fun ls hl => ?_)
  refine lv_goto (tgt := 4) hx hb dX12_bitsOf_21 (by decide) ?_
  refine lv_iload_n hx hb dX12_bitsOf_4 rfl (lv_at hl 0 rfl) ?_
  refine lv_bipush (v := 14) hx hb dX12_bitsOf_5 (by decide) ?_
  refine lv_icmp_ge (tgt := 24) hx hb dX12_bitsOf_7 (by decide) (fun c_12 => absurd c_12 (by decide)) (fun _ => ?_)
  refine lv_iload_n hx hb dX12_bitsOf_10 rfl (lv_at hl 1 rfl) ?_
  refine lv_iload_n hx hb dX12_bitsOf_11 rfl (lv_at hl 2 rfl) ?_
  refine lv_iload_n hx hb dX12_bitsOf_12 rfl (lv_at hl 0 rfl) ?_
  refine lv_ishr hx hb dX12_bitsOf_13 ?_
  refine lv_topc (y := 0) (by decide +kernel) ?_
  refine lv_iconst (v := 1) hx hb dX12_bitsOf_14 (by decide) ?_
  refine lv_iand hx hb dX12_bitsOf_15 ?_
  refine lv_topc (y := 0) (by decide +kernel) ?_
  refine lv_iadd hx hb dX12_bitsOf_16 ?_
  refine lv_topc (y := 0) (by decide +kernel) ?_
  refine lv_istore_n (lv' := [(1, .int 0), (2, .int 11), (0, .int 0)]) hx hb dX12_bitsOf_17 rfl hl (by decide) rfl (fun ls hl => ?_)
  refine lv_iinc (v := 12) (lv' := [(2, .int 12), (1, .int 0), (0, .int 0)]) hx hb dX12_bitsOf_18 hl (k := 1) rfl (by decide) (by decide) rfl (fun ls hl => ?_)
  refine lv_goto (tgt := 4) hx hb dX12_bitsOf_21 (by decide) ?_
  refine lv_iload_n hx hb dX12_bitsOf_4 rfl (lv_at hl 0 rfl) ?_
  refine lv_bipush (v := 14) hx hb dX12_bitsOf_5 (by decide) ?_
  refine lv_icmp_ge (tgt := 24) hx hb dX12_bitsOf_7 (by decide) (fun c_13 => absurd c_13 (by decide)) (fun _ => ?_)
  refine lv_iload_n hx hb dX12_bitsOf_10 rfl (lv_at hl 1 rfl) ?_
  refine lv_iload_n hx hb dX12_bitsOf_11 rfl (lv_at hl 2 rfl) ?_
  refine lv_iload_n hx hb dX12_bitsOf_12 rfl (lv_at hl 0 rfl) ?_
  refine lv_ishr hx hb dX12_bitsOf_13 ?_
  refine lv_topc (y := 0) (by decide +kernel) ?_
  refine lv_iconst (v := 1) hx hb dX12_bitsOf_14 (by decide) ?_
  refine lv_iand hx hb dX12_bitsOf_15 ?_
  refine lv_topc (y := 0) (by decide +kernel) ?_
  refine lv_iadd hx hb dX12_bitsOf_16 ?_
  refine lv_topc (y := 0) (by decide +kernel) ?_
  refine lv_istore_n (lv' := [(1, .int 0), (2, .int 12), (0, .int 0)]) hx hb dX12_bitsOf_17 rfl hl (by decide) rfl (fun ls hl => ?_)
  refine lv_iinc (v := 13) (lv' := [(2, .int 13), (1, .int 0), (0, .int 0)]) hx hb dX12_bitsOf_18 hl (k := 1) rfl (by decide) (by decide) rfl (fun ls hl => ?_)
  refine lv_goto (tgt := 4) hx hb dX12_bitsOf_21 (by decide) ?_
  refine lv_iload_n hx hb dX12_bitsOf_4 rfl (lv_at hl 0 rfl) ?_
  refine lv_bipush (v := 14) hx hb dX12_bitsOf_5 (by decide) ?_
  refine lv_icmp_ge (tgt := 24) hx hb dX12_bitsOf_7 (by decide) (fun c_14 => absurd c_14 (by decide)) (fun _ => ?_)
  refine lv_iload_n hx hb dX12_bitsOf_10 rfl (lv_at hl 1 rfl) ?_
  refine lv_iload_n hx hb dX12_bitsOf_11 rfl (lv_at hl 2 rfl) ?_
  refine lv_iload_n hx hb dX12_bitsOf_12 rfl (lv_at hl 0 rfl) ?_
  refine lv_ishr hx hb dX12_bitsOf_13 ?_
  refine lv_topc (y := 0) (by decide +kernel) ?_
  refine lv_iconst (v := 1) hx hb dX12_bitsOf_14 (by decide) ?_
  refine lv_iand hx hb dX12_bitsOf_15 ?_
  refine lv_topc (y := 0) (by decide +kernel) ?_
  refine lv_iadd hx hb dX12_bitsOf_16 ?_
  refine lv_topc (y := 0) (by decide +kernel) ?_
  refine lv_istore_n (lv' := [(1, .int 0), (2, .int 13), (0, .int 0)]) hx hb dX12_bitsOf_17 rfl hl (by decide) rfl (fun ls hl => ?_)
  refine lv_iinc (v := 14) (lv' := [(2, .int 14), (1, .int 0), (0, .int 0)]) hx hb dX12_bitsOf_18 hl (k := 1) rfl (by decide) (by decide) rfl (fun ls hl => ?_)
  refine lv_goto (tgt := 4) hx hb dX12_bitsOf_21 (by decide) ?_
  refine lv_iload_n hx hb dX12_bitsOf_4 rfl (lv_at hl 0 rfl) ?_
  refine lv_bipush (v := 14) hx hb dX12_bitsOf_5 (by decide) ?_
  refine lv_icmp_ge (tgt := 24) hx hb dX12_bitsOf_7 (by decide) (fun _ => ?_) (fun c_15 => absurd c_15 (by decide))
  refine lv_iload_n hx hb dX12_bitsOf_24 rfl (lv_at hl 1 rfl) ?_
  refine W.widen (k := 0) (n := 0) (Nat.le_of_ble_eq_true rfl) (Nat.le_of_ble_eq_true rfl) ?_
  exact e_i (u := []) hx hb hr hlocks (hP.sub (ws' := []) [] rfl) (hD.sub (ws' := []) [] (by decide) rfl) hS ⟨rfl, rfl⟩ dX12_bitsOf_25
set_option maxHeartbeats 4000000 in
set_option maxRecDepth 100000 in
theorem c_rains (l : Launch) (D : va_G) (cB cI cJ cZ cS cW cT cR : ClassId) (h0 : Nat) (a_al : Nat) (a_hi : Nat) (a_mt : Nat) (a_fr : Nat) (a_rk : Nat) (a_on : Nat) (a_aw : Nat) (a_ro : Nat) (a_ws : Nat) (a_ah : Nat) (a_cl : Nat) (a_us : Nat) (a_mo : Nat) (a_to : Nat) (a_mb : Nat) (a_le : Nat) (a_rs : Nat) (a_rm : Nat) (a_nu : Nat) : Kon l D (tyl cB cI cJ cZ cS cW cT cR) yX12_rains cX12_rains 3 (some (.boolean)) { frames := 0, cells := 0, slots := 0, locals := 0 } [.ref h0] [(h0, .inr (12, [.int 0, .ref a_al, .ref a_hi, .ref a_mt, .ref a_fr, .int 0, .int 0, .int 0, .int 0, .int 0, .int 0, .int 0, .int 0, .int 0, .int (-1), .ref a_rk, .int 0, .ref a_on, .ref a_aw, .ref a_ro, .int 0, .ref a_ws, .ref a_ah, .int 0, .int 0, .int 0, .ref a_cl, .ref a_us, .ref a_mo, .ref a_to, .ref a_mb, .ref a_le, .int 0, .ref a_rs, .ref a_rm, .ref a_nu])), (a_al, .inl (cI, 3906, .inl plc))] (Qi D (fun r u => r = 0 ∧ u = [(h0, .inr (12, [.int 0, .ref a_al, .ref a_hi, .ref a_mt, .ref a_fr, .int 0, .int 0, .int 0, .int 0, .int 0, .int 0, .int 0, .int 0, .int 0, .int (-1), .ref a_rk, .int 0, .ref a_on, .ref a_aw, .ref a_ro, .int 0, .ref a_ws, .ref a_ah, .int 0, .int 0, .int 0, .ref a_cl, .ref a_us, .ref a_mo, .ref a_to, .ref a_mb, .ref a_le, .int 0, .ref a_rs, .ref a_rm, .ref a_nu])), (a_al, .inl (cI, 3906, .inl plc))])) := by
  refine kon_of (by decide) (Nat.le_of_ble_eq_true rfl) (fun p e s m below meth c ls A hx hb hr hml hown hts hlocks hnm hkb hP hD hS hA hl => ?_)
  have hown : s.vm.findClass RX12 = some m.cls := hown
  have hl : lv_has ls 3 [(0, .ref h0)] := hl
  have hP : va_P D cls [(h0, .inr (12, [.int 0, .ref a_al, .ref a_hi, .ref a_mt, .ref a_fr, .int 0, .int 0, .int 0, .int 0, .int 0, .int 0, .int 0, .int 0, .int 0, .int (-1), .ref a_rk, .int 0, .ref a_on, .ref a_aw, .ref a_ro, .int 0, .ref a_ws, .ref a_ah, .int 0, .int 0, .int 0, .ref a_cl, .ref a_us, .ref a_mo, .ref a_to, .ref a_mb, .ref a_le, .int 0, .ref a_rs, .ref a_rm, .ref a_nu])), (a_al, .inl (cI, 3906, .inl plc))] s.heap := hP
  refine lv_iconst (v := (-1)) hx hb dX12_rains_0 (by decide) ?_
  refine lv_istore_n (lv' := [(1, .int (-1)), (0, .ref h0)]) hx hb dX12_rains_1 rfl hl (by decide) rfl (fun ls hl => ?_)
  refine lv_iconst (v := 0) hx hb dX12_rains_2 (by decide) ?_
  refine lv_istore_n (lv' := [(2, .int 0), (1, .int (-1)), (0, .ref h0)]) hx hb dX12_rains_3 rfl hl (by decide) rfl (fun ls hl => ?_)
  refine lv_iload_n hx hb dX12_rains_4 rfl (lv_at hl 0 rfl) ?_
  refine lv_aload_n hx hb dX12_rains_5 rfl (lv_at hl 2 rfl) ?_
  refine va_get (D := D) (ci := 12) (v := .ref a_al) (C := RX12) (T := TX12) (N := 36) hx hb hts uX12 hown hkb.1 hP 0 rfl rfl 1 (by decide) (hts _ kw_1224) (fun _ h9 => h9) rfl dX12_rains_6 ?_
  refine lv_iconst (v := 1) hx hb dX12_rains_9 (by decide) ?_
  refine va_iald hx hb hkb.1 hP 1 1 rfl rfl (in_c (by decide +kernel)) dX12_rains_10 ?_
  refine lv_topc (y := 0) (by decide +kernel) ?_
  refine lv_icmp_ge (tgt := 61) hx hb dX12_rains_11 (by decide) (fun _ => ?_) (fun c_1 => absurd c_1 (by decide))
  refine lv_iload_n hx hb dX12_rains_61 rfl (lv_at hl 1 rfl) ?_
  refine lv_iconst (v := (-1)) hx hb dX12_rains_62 (by decide) ?_
  refine lv_icmp_ne (tgt := 68) hx hb dX12_rains_63 (by decide) (fun c_2 => absurd c_2 (by decide)) (fun _ => ?_)
  refine lv_iconst (v := 0) hx hb dX12_rains_66 (by decide) ?_
  refine W.widen (k := 0) (n := 0) (Nat.le_of_ble_eq_true rfl) (Nat.le_of_ble_eq_true rfl) ?_
  exact e_z (u := [(h0, .inr (12, [.int 0, .ref a_al, .ref a_hi, .ref a_mt, .ref a_fr, .int 0, .int 0, .int 0, .int 0, .int 0, .int 0, .int 0, .int 0, .int 0, .int (-1), .ref a_rk, .int 0, .ref a_on, .ref a_aw, .ref a_ro, .int 0, .ref a_ws, .ref a_ah, .int 0, .int 0, .int 0, .ref a_cl, .ref a_us, .ref a_mo, .ref a_to, .ref a_mb, .ref a_le, .int 0, .ref a_rs, .ref a_rm, .ref a_nu])), (a_al, .inl (cI, 3906, .inl plc))]) hx hb hr hlocks (by rfl) (hP.sub (ws' := [(h0, .inr (12, [.int 0, .ref a_al, .ref a_hi, .ref a_mt, .ref a_fr, .int 0, .int 0, .int 0, .int 0, .int 0, .int 0, .int 0, .int 0, .int 0, .int (-1), .ref a_rk, .int 0, .ref a_on, .ref a_aw, .ref a_ro, .int 0, .ref a_ws, .ref a_ah, .int 0, .int 0, .int 0, .ref a_cl, .ref a_us, .ref a_mo, .ref a_to, .ref a_mb, .ref a_le, .int 0, .ref a_rs, .ref a_rm, .ref a_nu])), (a_al, .inl (cI, 3906, .inl plc))]) [0, 1] rfl) (hD.sub (ws' := [(h0, .inr (12, [.int 0, .ref a_al, .ref a_hi, .ref a_mt, .ref a_fr, .int 0, .int 0, .int 0, .int 0, .int 0, .int 0, .int 0, .int 0, .int 0, .int (-1), .ref a_rk, .int 0, .ref a_on, .ref a_aw, .ref a_ro, .int 0, .ref a_ws, .ref a_ah, .int 0, .int 0, .int 0, .ref a_cl, .ref a_us, .ref a_mo, .ref a_to, .ref a_mb, .ref a_le, .int 0, .ref a_rs, .ref a_rm, .ref a_nu])), (a_al, .inl (cI, 3906, .inl plc))]) [0, 1] (by decide) rfl) hS ⟨rfl, rfl⟩ dX12_rains_67
set_option maxHeartbeats 4000000 in
set_option maxRecDepth 100000 in
theorem c_isSetOf (l : Launch) (D : va_G) (cB cI cJ cZ cS cW cT cR : ClassId) (h0 : Nat) (a_al : Nat) (i_s : Int32) (a_hi : Nat) (a_mt : Nat) (a_fr : Nat) (a_rk : Nat) (a_on : Nat) (a_aw : Nat) (a_ro : Nat) (a_ws : Nat) (a_ah : Nat) (a_cl : Nat) (a_us : Nat) (a_mo : Nat) (a_to : Nat) (a_mb : Nat) (a_le : Nat) (a_rs : Nat) (a_rm : Nat) (a_nu : Nat) : Kon l D (tyl cB cI cJ cZ cS cW cT cR) yX12_isSetOf cX12_isSetOf 2 (some (.boolean)) { frames := 1, cells := 0, slots := 0, locals := 22 } [.ref h0, .int i_s] [(h0, .inr (12, [.int 0, .ref a_al, .ref a_hi, .ref a_mt, .ref a_fr, .int 0, .int 0, .int 0, .int 0, .int 0, .int 0, .int 0, .int 0, .int 0, .int (-1), .ref a_rk, .int 0, .ref a_on, .ref a_aw, .ref a_ro, .int 0, .ref a_ws, .ref a_ah, .int 0, .int 0, .int 0, .ref a_cl, .ref a_us, .ref a_mo, .ref a_to, .ref a_mb, .ref a_le, .int 0, .ref a_rs, .ref a_rm, .ref a_nu])), (a_al, .inl (cI, 3906, .inl plc))] (Qi D (fun r u => r = F_isSet i_s ∧ u = [(h0, .inr (12, [.int 0, .ref a_al, .ref a_hi, .ref a_mt, .ref a_fr, .int 0, .int 0, .int 0, .int 0, .int 0, .int 0, .int 0, .int 0, .int 0, .int (-1), .ref a_rk, .int 0, .ref a_on, .ref a_aw, .ref a_ro, .int 0, .ref a_ws, .ref a_ah, .int 0, .int 0, .int 0, .ref a_cl, .ref a_us, .ref a_mo, .ref a_to, .ref a_mb, .ref a_le, .int 0, .ref a_rs, .ref a_rm, .ref a_nu])), (a_al, .inl (cI, 3906, .inl plc))])) := by
  refine kon_of (by decide) (Nat.le_of_ble_eq_true rfl) (fun p e s m below meth c ls A hx hb hr hml hown hts hlocks hnm hkb hP hD hS hA hl => ?_)
  have hown : s.vm.findClass RX12 = some m.cls := hown
  have hl : lv_has ls 2 [(0, .ref h0), (1, .int i_s)] := hl
  have hP : va_P D cls [(h0, .inr (12, [.int 0, .ref a_al, .ref a_hi, .ref a_mt, .ref a_fr, .int 0, .int 0, .int 0, .int 0, .int 0, .int 0, .int 0, .int 0, .int 0, .int (-1), .ref a_rk, .int 0, .ref a_on, .ref a_aw, .ref a_ro, .int 0, .ref a_ws, .ref a_ah, .int 0, .int 0, .int 0, .ref a_cl, .ref a_us, .ref a_mo, .ref a_to, .ref a_mb, .ref a_le, .int 0, .ref a_rs, .ref a_rm, .ref a_nu])), (a_al, .inl (cI, 3906, .inl plc))] s.heap := hP
  refine lv_iload_n hx hb dX12_isSetOf_0 rfl (lv_at hl 1 rfl) ?_
  refine lv_aload_n hx hb dX12_isSetOf_1 rfl (lv_at hl 0 rfl) ?_
  have hPc := hP.sub (ws' := [(h0, .inr (12, [.int 0, .ref a_al, .ref a_hi, .ref a_mt, .ref a_fr, .int 0, .int 0, .int 0, .int 0, .int 0, .int 0, .int 0, .int 0, .int 0, .int (-1), .ref a_rk, .int 0, .ref a_on, .ref a_aw, .ref a_ro, .int 0, .ref a_ws, .ref a_ah, .int 0, .int 0, .int 0, .ref a_cl, .ref a_us, .ref a_mo, .ref a_to, .ref a_mb, .ref a_le, .int 0, .ref a_rs, .ref a_rm, .ref a_nu])), (a_al, .inl (cI, 3906, .inl plc))]) [0, 1] rfl
  have hDc := hD.sub (ws' := [(h0, .inr (12, [.int 0, .ref a_al, .ref a_hi, .ref a_mt, .ref a_fr, .int 0, .int 0, .int 0, .int 0, .int 0, .int 0, .int 0, .int 0, .int 0, .int (-1), .ref a_rk, .int 0, .ref a_on, .ref a_aw, .ref a_ro, .int 0, .ref a_ws, .ref a_ah, .int 0, .int 0, .int 0, .ref a_cl, .ref a_us, .ref a_mo, .ref a_to, .ref a_mb, .ref a_le, .int 0, .ref a_rs, .ref a_rm, .ref a_nu])), (a_al, .inl (cI, 3906, .inl plc))]) [0, 1] (by decide) rfl
  refine k_i (wc := [(h0, .inr (12, [.int 0, .ref a_al, .ref a_hi, .ref a_mt, .ref a_fr, .int 0, .int 0, .int 0, .int 0, .int 0, .int 0, .int 0, .int 0, .int 0, .int (-1), .ref a_rk, .int 0, .ref a_on, .ref a_aw, .ref a_ro, .int 0, .ref a_ws, .ref a_ah, .int 0, .int 0, .int 0, .ref a_cl, .ref a_us, .ref a_mo, .ref a_to, .ref a_mb, .ref a_le, .int 0, .ref a_rs, .ref a_rm, .ref a_nu])), (a_al, .inl (cI, 3906, .inl plc))]) (wr := []) hP hD hS hA [0, 1] [] rfl rfl rfl (by decide) (r_V (n := 0) (As := []) (ci := 12) (q0 := 0) hx hb hml hown hts hkb hPc hDc (c_thereSet l D cB cI cJ cZ cS cW cT cR h0 a_al a_hi a_mt a_fr a_rk a_on a_aw a_ro a_ws a_ah a_cl a_us a_mo a_to a_mb a_le a_rs a_rm a_nu) kw_1724 kw_1726 ks_99 kw_13 kw_1727 (by decide +kernel) ⟨Nat.le_of_ble_eq_true rfl, Nat.le_of_ble_eq_true rfl⟩ rfl rfl rfl rfl hl.1 (Nat.le_of_ble_eq_true rfl) dX12_isSetOf_2 ⟨Nat.le_of_ble_eq_true rfl, Nat.le_of_ble_eq_true rfl⟩) (fun r_1 u H locs hw hP hD hS => ?_)
  obtain ⟨rfl, rfl⟩ := hw
  have hP : va_P D cls [(h0, .inr (12, [.int 0, .ref a_al, .ref a_hi, .ref a_mt, .ref a_fr, .int 0, .int 0, .int 0, .int 0, .int 0, .int 0, .int 0, .int 0, .int 0, .int (-1), .ref a_rk, .int 0, .ref a_on, .ref a_aw, .ref a_ro, .int 0, .ref a_ws, .ref a_ah, .int 0, .int 0, .int 0, .ref a_cl, .ref a_us, .ref a_mo, .ref a_to, .ref a_mb, .ref a_le, .int 0, .ref a_rs, .ref a_rm, .ref a_nu])), (a_al, .inl (cI, 3906, .inl plc))] H := hP
  have hD : va_D A [(h0, .inr (12, [.int 0, .ref a_al, .ref a_hi, .ref a_mt, .ref a_fr, .int 0, .int 0, .int 0, .int 0, .int 0, .int 0, .int 0, .int 0, .int 0, .int (-1), .ref a_rk, .int 0, .ref a_on, .ref a_aw, .ref a_ro, .int 0, .ref a_ws, .ref a_ah, .int 0, .int 0, .int 0, .ref a_cl, .ref a_us, .ref a_mo, .ref a_to, .ref a_mb, .ref a_le, .int 0, .ref a_rs, .ref a_rm, .ref a_nu])), (a_al, .inl (cI, 3906, .inl plc))] := hD
  refine W.widen (k := 0) (n := 0) (Nat.le_of_ble_eq_true rfl) (Nat.le_of_ble_eq_true rfl) ?_
  refine lv_aload_n hx hb dX12_isSetOf_5 rfl (lv_at hl 0 rfl) ?_
  have hPc := hP.sub (ws' := [(h0, .inr (12, [.int 0, .ref a_al, .ref a_hi, .ref a_mt, .ref a_fr, .int 0, .int 0, .int 0, .int 0, .int 0, .int 0, .int 0, .int 0, .int 0, .int (-1), .ref a_rk, .int 0, .ref a_on, .ref a_aw, .ref a_ro, .int 0, .ref a_ws, .ref a_ah, .int 0, .int 0, .int 0, .ref a_cl, .ref a_us, .ref a_mo, .ref a_to, .ref a_mb, .ref a_le, .int 0, .ref a_rs, .ref a_rm, .ref a_nu])), (a_al, .inl (cI, 3906, .inl plc))]) [0, 1] rfl
  have hDc := hD.sub (ws' := [(h0, .inr (12, [.int 0, .ref a_al, .ref a_hi, .ref a_mt, .ref a_fr, .int 0, .int 0, .int 0, .int 0, .int 0, .int 0, .int 0, .int 0, .int 0, .int (-1), .ref a_rk, .int 0, .ref a_on, .ref a_aw, .ref a_ro, .int 0, .ref a_ws, .ref a_ah, .int 0, .int 0, .int 0, .ref a_cl, .ref a_us, .ref a_mo, .ref a_to, .ref a_mb, .ref a_le, .int 0, .ref a_rs, .ref a_rm, .ref a_nu])), (a_al, .inl (cI, 3906, .inl plc))]) [0, 1] (by decide) rfl
  refine k_i (wc := [(h0, .inr (12, [.int 0, .ref a_al, .ref a_hi, .ref a_mt, .ref a_fr, .int 0, .int 0, .int 0, .int 0, .int 0, .int 0, .int 0, .int 0, .int 0, .int (-1), .ref a_rk, .int 0, .ref a_on, .ref a_aw, .ref a_ro, .int 0, .ref a_ws, .ref a_ah, .int 0, .int 0, .int 0, .ref a_cl, .ref a_us, .ref a_mo, .ref a_to, .ref a_mb, .ref a_le, .int 0, .ref a_rs, .ref a_rm, .ref a_nu])), (a_al, .inl (cI, 3906, .inl plc))]) (wr := []) hP hD hS hA [0, 1] [] rfl rfl rfl (by decide) (r_V (n := 0) (As := []) (ci := 12) (q0 := 0) hx hb hml hown hts hkb hPc hDc (c_ends l D cB cI cJ cZ cS cW cT cR h0 a_al a_hi a_mt a_fr a_rk a_on a_aw a_ro a_ws a_ah a_cl a_us a_mo a_to a_mb a_le a_rs a_rm a_nu) kw_1536 kw_1538 ks_78 kw_13 kw_1539 (by decide +kernel) ⟨Nat.le_of_ble_eq_true rfl, Nat.le_of_ble_eq_true rfl⟩ rfl rfl rfl rfl hl.1 (Nat.le_of_ble_eq_true rfl) dX12_isSetOf_6 ⟨Nat.le_of_ble_eq_true rfl, Nat.le_of_ble_eq_true rfl⟩) (fun r_2 u H locs hw hP hD hS => ?_)
  obtain ⟨rfl, rfl⟩ := hw
  have hP : va_P D cls [(h0, .inr (12, [.int 0, .ref a_al, .ref a_hi, .ref a_mt, .ref a_fr, .int 0, .int 0, .int 0, .int 0, .int 0, .int 0, .int 0, .int 0, .int 0, .int (-1), .ref a_rk, .int 0, .ref a_on, .ref a_aw, .ref a_ro, .int 0, .ref a_ws, .ref a_ah, .int 0, .int 0, .int 0, .ref a_cl, .ref a_us, .ref a_mo, .ref a_to, .ref a_mb, .ref a_le, .int 0, .ref a_rs, .ref a_rm, .ref a_nu])), (a_al, .inl (cI, 3906, .inl plc))] H := hP
  have hD : va_D A [(h0, .inr (12, [.int 0, .ref a_al, .ref a_hi, .ref a_mt, .ref a_fr, .int 0, .int 0, .int 0, .int 0, .int 0, .int 0, .int 0, .int 0, .int 0, .int (-1), .ref a_rk, .int 0, .ref a_on, .ref a_aw, .ref a_ro, .int 0, .ref a_ws, .ref a_ah, .int 0, .int 0, .int 0, .ref a_cl, .ref a_us, .ref a_mo, .ref a_to, .ref a_mb, .ref a_le, .int 0, .ref a_rs, .ref a_rm, .ref a_nu])), (a_al, .inl (cI, 3906, .inl plc))] := hD
  refine W.widen (k := 0) (n := 0) (Nat.le_of_ble_eq_true rfl) (Nat.le_of_ble_eq_true rfl) ?_
  refine lv_iconst (v := (-1)) hx hb dX12_isSetOf_9 (by decide) ?_
  refine lv_ixor hx hb dX12_isSetOf_10 ?_
  refine lv_topc (y := (-1)) (by decide +kernel) ?_
  refine lv_iand hx hb dX12_isSetOf_11 ?_
  refine lv_topc (y := 0) (by decide +kernel) ?_
  refine lv_iconst (v := (-1)) hx hb dX12_isSetOf_12 (by decide) ?_
  refine lv_ixor hx hb dX12_isSetOf_13 ?_
  refine lv_topc (y := (-1)) (by decide +kernel) ?_
  refine lv_iand hx hb dX12_isSetOf_14 ?_
  refine lv_topc (y := i_s) (and_m1 _) ?_
  refine lv_if_ne (tgt := 22) hx hb dX12_isSetOf_15 (by decide) (fun c_3 => ?_) (fun c_3 => ?_)
  · skip
    have tc_3 := f_ne (k := 0) (by decide) c_3
    refine lv_iconst (v := 0) hx hb dX12_isSetOf_22 (by decide) ?_
    refine W.widen (k := 0) (n := 0) (Nat.le_of_ble_eq_true rfl) (Nat.le_of_ble_eq_true rfl) ?_
    exact e_z (u := [(h0, .inr (12, [.int 0, .ref a_al, .ref a_hi, .ref a_mt, .ref a_fr, .int 0, .int 0, .int 0, .int 0, .int 0, .int 0, .int 0, .int 0, .int 0, .int (-1), .ref a_rk, .int 0, .ref a_on, .ref a_aw, .ref a_ro, .int 0, .ref a_ws, .ref a_ah, .int 0, .int 0, .int 0, .ref a_cl, .ref a_us, .ref a_mo, .ref a_to, .ref a_mb, .ref a_le, .int 0, .ref a_rs, .ref a_rm, .ref a_nu])), (a_al, .inl (cI, 3906, .inl plc))]) hx hb hr hlocks (by rfl) (hP.sub (ws' := [(h0, .inr (12, [.int 0, .ref a_al, .ref a_hi, .ref a_mt, .ref a_fr, .int 0, .int 0, .int 0, .int 0, .int 0, .int 0, .int 0, .int 0, .int 0, .int (-1), .ref a_rk, .int 0, .ref a_on, .ref a_aw, .ref a_ro, .int 0, .ref a_ws, .ref a_ah, .int 0, .int 0, .int 0, .ref a_cl, .ref a_us, .ref a_mo, .ref a_to, .ref a_mb, .ref a_le, .int 0, .ref a_rs, .ref a_rm, .ref a_nu])), (a_al, .inl (cI, 3906, .inl plc))]) [0, 1] rfl) (hD.sub (ws' := [(h0, .inr (12, [.int 0, .ref a_al, .ref a_hi, .ref a_mt, .ref a_fr, .int 0, .int 0, .int 0, .int 0, .int 0, .int 0, .int 0, .int 0, .int 0, .int (-1), .ref a_rk, .int 0, .ref a_on, .ref a_aw, .ref a_ro, .int 0, .ref a_ws, .ref a_ah, .int 0, .int 0, .int 0, .ref a_cl, .ref a_us, .ref a_mo, .ref a_to, .ref a_mb, .ref a_le, .int 0, .ref a_rs, .ref a_rm, .ref a_nu])), (a_al, .inl (cI, 3906, .inl plc))]) [0, 1] (by decide) rfl) hS ⟨(by unfold F_isSet; (repeat' split) <;> first | rfl | (exfalso; omega)), rfl⟩ dX12_isSetOf_23
  · skip
    have tc_3 := f_eq (k := 0) (by decide) c_3
    refine lv_iconst (v := 1) hx hb dX12_isSetOf_18 (by decide) ?_
    refine lv_goto (tgt := 23) hx hb dX12_isSetOf_19 (by decide) ?_
    refine W.widen (k := 0) (n := 0) (Nat.le_of_ble_eq_true rfl) (Nat.le_of_ble_eq_true rfl) ?_
    exact e_z (u := [(h0, .inr (12, [.int 0, .ref a_al, .ref a_hi, .ref a_mt, .ref a_fr, .int 0, .int 0, .int 0, .int 0, .int 0, .int 0, .int 0, .int 0, .int 0, .int (-1), .ref a_rk, .int 0, .ref a_on, .ref a_aw, .ref a_ro, .int 0, .ref a_ws, .ref a_ah, .int 0, .int 0, .int 0, .ref a_cl, .ref a_us, .ref a_mo, .ref a_to, .ref a_mb, .ref a_le, .int 0, .ref a_rs, .ref a_rm, .ref a_nu])), (a_al, .inl (cI, 3906, .inl plc))]) hx hb hr hlocks (by rfl) (hP.sub (ws' := [(h0, .inr (12, [.int 0, .ref a_al, .ref a_hi, .ref a_mt, .ref a_fr, .int 0, .int 0, .int 0, .int 0, .int 0, .int 0, .int 0, .int 0, .int 0, .int (-1), .ref a_rk, .int 0, .ref a_on, .ref a_aw, .ref a_ro, .int 0, .ref a_ws, .ref a_ah, .int 0, .int 0, .int 0, .ref a_cl, .ref a_us, .ref a_mo, .ref a_to, .ref a_mb, .ref a_le, .int 0, .ref a_rs, .ref a_rm, .ref a_nu])), (a_al, .inl (cI, 3906, .inl plc))]) [0, 1] rfl) (hD.sub (ws' := [(h0, .inr (12, [.int 0, .ref a_al, .ref a_hi, .ref a_mt, .ref a_fr, .int 0, .int 0, .int 0, .int 0, .int 0, .int 0, .int 0, .int 0, .int 0, .int (-1), .ref a_rk, .int 0, .ref a_on, .ref a_aw, .ref a_ro, .int 0, .ref a_ws, .ref a_ah, .int 0, .int 0, .int 0, .ref a_cl, .ref a_us, .ref a_mo, .ref a_to, .ref a_mb, .ref a_le, .int 0, .ref a_rs, .ref a_rm, .ref a_nu])), (a_al, .inl (cI, 3906, .inl plc))]) [0, 1] (by decide) rfl) hS ⟨(by unfold F_isSet; (repeat' split) <;> first | rfl | (exfalso; omega)), rfl⟩ dX12_isSetOf_23
set_option maxHeartbeats 4000000 in
set_option maxRecDepth 100000 in
theorem c_noTray (l : Launch) (D : va_G) (cB cI cJ cZ cS cW cT cR : ClassId) (h0 : Nat) (a_rs : Nat) (i_0 : Int32) (a_al : Nat) (a_hi : Nat) (a_mt : Nat) (a_fr : Nat) (a_rk : Nat) (a_on : Nat) (a_aw : Nat) (a_ro : Nat) (a_ws : Nat) (a_ah : Nat) (a_cl : Nat) (a_us : Nat) (a_mo : Nat) (a_to : Nat) (a_mb : Nat) (a_le : Nat) (a_rm : Nat) (a_nu : Nat) : Kon l D (tyl cB cI cJ cZ cS cW cT cR) yX12_noTray cX12_noTray 2 (some (.int)) { frames := 1, cells := 0, slots := 0, locals := 25 } [.ref h0, .int i_0] [(h0, .inr (12, [.int 0, .ref a_al, .ref a_hi, .ref a_mt, .ref a_fr, .int 0, .int 0, .int 0, .int 0, .int 0, .int 0, .int 0, .int 0, .int 0, .int (-1), .ref a_rk, .int 0, .ref a_on, .ref a_aw, .ref a_ro, .int 0, .ref a_ws, .ref a_ah, .int 0, .int 0, .int 0, .ref a_cl, .ref a_us, .ref a_mo, .ref a_to, .ref a_mb, .ref a_le, .int 0, .ref a_rs, .ref a_rm, .ref a_nu])), (a_rs, .inl (cI, 4, .inl rs4))] (Qi D (fun r u => r = F_tray i_0 ∧ u = [(h0, .inr (12, [.int 0, .ref a_al, .ref a_hi, .ref a_mt, .ref a_fr, .int 0, .int 0, .int 0, .int 0, .int 0, .int 0, .int 0, .int 0, .int 0, .int (-1), .ref a_rk, .int 0, .ref a_on, .ref a_aw, .ref a_ro, .int 0, .ref a_ws, .ref a_ah, .int 0, .int 0, .int 0, .ref a_cl, .ref a_us, .ref a_mo, .ref a_to, .ref a_mb, .ref a_le, .int 0, .ref a_rs, .ref a_rm, .ref a_nu])), (a_rs, .inl (cI, 4, .inl rs4))])) := by
  refine kon_of (by decide) (Nat.le_of_ble_eq_true rfl) (fun p e s m below meth c ls A hx hb hr hml hown hts hlocks hnm hkb hP hD hS hA hl => ?_)
  have hown : s.vm.findClass RX12 = some m.cls := hown
  have hl : lv_has ls 2 [(0, .ref h0), (1, .int i_0)] := hl
  have hP : va_P D cls [(h0, .inr (12, [.int 0, .ref a_al, .ref a_hi, .ref a_mt, .ref a_fr, .int 0, .int 0, .int 0, .int 0, .int 0, .int 0, .int 0, .int 0, .int 0, .int (-1), .ref a_rk, .int 0, .ref a_on, .ref a_aw, .ref a_ro, .int 0, .ref a_ws, .ref a_ah, .int 0, .int 0, .int 0, .ref a_cl, .ref a_us, .ref a_mo, .ref a_to, .ref a_mb, .ref a_le, .int 0, .ref a_rs, .ref a_rm, .ref a_nu])), (a_rs, .inl (cI, 4, .inl rs4))] s.heap := hP
  refine lv_iload_n hx hb dX12_noTray_0 rfl (lv_at hl 1 rfl) ?_
  refine lv_i2l hx hb dX12_noTray_1 rfl ?_
  refine lv_lconst (v := 0) hx hb dX12_noTray_2 (by decide) ?_
  refine lv_ldc2 hx hb hown (hts _ kw_1527) dX12_noTray_3 ?_
  have hPc := hP.sub (ws' := []) [] rfl
  have hDc := hD.sub (ws' := []) [] (by decide) rfl
  refine k_i (wc := []) (wr := [(h0, .inr (12, [.int 0, .ref a_al, .ref a_hi, .ref a_mt, .ref a_fr, .int 0, .int 0, .int 0, .int 0, .int 0, .int 0, .int 0, .int 0, .int 0, .int (-1), .ref a_rk, .int 0, .ref a_on, .ref a_aw, .ref a_ro, .int 0, .ref a_ws, .ref a_ah, .int 0, .int 0, .int 0, .ref a_cl, .ref a_us, .ref a_mo, .ref a_to, .ref a_mb, .ref a_le, .int 0, .ref a_rs, .ref a_rm, .ref a_nu])), (a_rs, .inl (cI, 4, .inl rs4))]) hP hD hS hA [] [0, 1] rfl rfl rfl (by decide) (r_S (n := 3) (As := [.long i_0.toInt64, .long 0, .long 3]) hx hb hml hown hts hkb hPc hDc (c_within l D cB cI cJ cZ cS cW cT cR i_0.toInt64 0 3) kw_1341 kw_1342 kw_13 kw_1343 (by decide +kernel) ⟨Nat.le_of_ble_eq_true rfl, Nat.le_of_ble_eq_true rfl⟩ rfl rfl hl.1 (Nat.le_of_ble_eq_true rfl) dX12_noTray_6 ⟨Nat.le_of_ble_eq_true rfl, Nat.le_of_ble_eq_true rfl⟩) (fun r_1 u H locs hw hP hD hS => ?_)
  obtain ⟨rfl, rfl⟩ := hw
  have hP : va_P D cls [(h0, .inr (12, [.int 0, .ref a_al, .ref a_hi, .ref a_mt, .ref a_fr, .int 0, .int 0, .int 0, .int 0, .int 0, .int 0, .int 0, .int 0, .int 0, .int (-1), .ref a_rk, .int 0, .ref a_on, .ref a_aw, .ref a_ro, .int 0, .ref a_ws, .ref a_ah, .int 0, .int 0, .int 0, .ref a_cl, .ref a_us, .ref a_mo, .ref a_to, .ref a_mb, .ref a_le, .int 0, .ref a_rs, .ref a_rm, .ref a_nu])), (a_rs, .inl (cI, 4, .inl rs4))] H := hP
  have hD : va_D A [(h0, .inr (12, [.int 0, .ref a_al, .ref a_hi, .ref a_mt, .ref a_fr, .int 0, .int 0, .int 0, .int 0, .int 0, .int 0, .int 0, .int 0, .int 0, .int (-1), .ref a_rk, .int 0, .ref a_on, .ref a_aw, .ref a_ro, .int 0, .ref a_ws, .ref a_ah, .int 0, .int 0, .int 0, .ref a_cl, .ref a_us, .ref a_mo, .ref a_to, .ref a_mb, .ref a_le, .int 0, .ref a_rs, .ref a_rm, .ref a_nu])), (a_rs, .inl (cI, 4, .inl rs4))] := hD
  refine W.widen (k := 0) (n := 0) (Nat.le_of_ble_eq_true rfl) (Nat.le_of_ble_eq_true rfl) ?_
  refine lv_if_ne (tgt := 17) hx hb dX12_noTray_9 (by decide) (fun c_2 => ?_) (fun c_2 => ?_)
  · skip
    have tc_2 := wi_1 (a := 0) (b := 3) (by decide) (by decide) c_2
    refine lv_aload_n hx hb dX12_noTray_17 rfl (lv_at hl 0 rfl) ?_
    refine va_get (D := D) (ci := 12) (v := .ref a_rs) (C := RX12) (T := TX12) (N := 36) hx hb hts uX12 hown hkb.1 hP 0 rfl rfl 33 (by decide) (hts _ kw_1256) (fun _ h9 => h9) rfl dX12_noTray_18 ?_
    refine lv_iload_n hx hb dX12_noTray_21 rfl (lv_at hl 1 rfl) ?_
    refine va_iald hx hb hkb.1 hP 1 1 rfl rfl (in_t (by omega) (by omega)) dX12_noTray_22 ?_
    refine lv_topc (y := (-1)) (rs4_at (by omega) (by omega)) ?_
    refine lv_iconst (v := (-1)) hx hb dX12_noTray_23 (by decide) ?_
    refine lv_icmp_ne (tgt := 32) hx hb dX12_noTray_24 (by decide) (fun c_3 => absurd c_3 (by decide)) (fun _ => ?_)
    refine lv_bipush (v := (-6)) hx hb dX12_noTray_27 (by decide) ?_
    refine lv_goto (tgt := 33) hx hb dX12_noTray_29 (by decide) ?_
    refine W.widen (k := 0) (n := 0) (Nat.le_of_ble_eq_true rfl) (Nat.le_of_ble_eq_true rfl) ?_
    exact e_i (u := [(h0, .inr (12, [.int 0, .ref a_al, .ref a_hi, .ref a_mt, .ref a_fr, .int 0, .int 0, .int 0, .int 0, .int 0, .int 0, .int 0, .int 0, .int 0, .int (-1), .ref a_rk, .int 0, .ref a_on, .ref a_aw, .ref a_ro, .int 0, .ref a_ws, .ref a_ah, .int 0, .int 0, .int 0, .ref a_cl, .ref a_us, .ref a_mo, .ref a_to, .ref a_mb, .ref a_le, .int 0, .ref a_rs, .ref a_rm, .ref a_nu])), (a_rs, .inl (cI, 4, .inl rs4))]) hx hb hr hlocks (hP.sub (ws' := [(h0, .inr (12, [.int 0, .ref a_al, .ref a_hi, .ref a_mt, .ref a_fr, .int 0, .int 0, .int 0, .int 0, .int 0, .int 0, .int 0, .int 0, .int 0, .int (-1), .ref a_rk, .int 0, .ref a_on, .ref a_aw, .ref a_ro, .int 0, .ref a_ws, .ref a_ah, .int 0, .int 0, .int 0, .ref a_cl, .ref a_us, .ref a_mo, .ref a_to, .ref a_mb, .ref a_le, .int 0, .ref a_rs, .ref a_rm, .ref a_nu])), (a_rs, .inl (cI, 4, .inl rs4))]) [0, 1] rfl) (hD.sub (ws' := [(h0, .inr (12, [.int 0, .ref a_al, .ref a_hi, .ref a_mt, .ref a_fr, .int 0, .int 0, .int 0, .int 0, .int 0, .int 0, .int 0, .int 0, .int 0, .int (-1), .ref a_rk, .int 0, .ref a_on, .ref a_aw, .ref a_ro, .int 0, .ref a_ws, .ref a_ah, .int 0, .int 0, .int 0, .ref a_cl, .ref a_us, .ref a_mo, .ref a_to, .ref a_mb, .ref a_le, .int 0, .ref a_rs, .ref a_rm, .ref a_nu])), (a_rs, .inl (cI, 4, .inl rs4))]) [0, 1] (by decide) rfl) hS ⟨(by unfold F_tray; (repeat' split) <;> first | rfl | (exfalso; omega)), rfl⟩ dX12_noTray_33
  · skip
    have tc_2 := wi_0 (a := 0) (b := 3) (by decide) (by decide) c_2
    refine lv_bipush (v := (-2)) hx hb dX12_noTray_12 (by decide) ?_
    refine lv_goto (tgt := 33) hx hb dX12_noTray_14 (by decide) ?_
    refine W.widen (k := 0) (n := 0) (Nat.le_of_ble_eq_true rfl) (Nat.le_of_ble_eq_true rfl) ?_
    exact e_i (u := [(h0, .inr (12, [.int 0, .ref a_al, .ref a_hi, .ref a_mt, .ref a_fr, .int 0, .int 0, .int 0, .int 0, .int 0, .int 0, .int 0, .int 0, .int 0, .int (-1), .ref a_rk, .int 0, .ref a_on, .ref a_aw, .ref a_ro, .int 0, .ref a_ws, .ref a_ah, .int 0, .int 0, .int 0, .ref a_cl, .ref a_us, .ref a_mo, .ref a_to, .ref a_mb, .ref a_le, .int 0, .ref a_rs, .ref a_rm, .ref a_nu])), (a_rs, .inl (cI, 4, .inl rs4))]) hx hb hr hlocks (hP.sub (ws' := [(h0, .inr (12, [.int 0, .ref a_al, .ref a_hi, .ref a_mt, .ref a_fr, .int 0, .int 0, .int 0, .int 0, .int 0, .int 0, .int 0, .int 0, .int 0, .int (-1), .ref a_rk, .int 0, .ref a_on, .ref a_aw, .ref a_ro, .int 0, .ref a_ws, .ref a_ah, .int 0, .int 0, .int 0, .ref a_cl, .ref a_us, .ref a_mo, .ref a_to, .ref a_mb, .ref a_le, .int 0, .ref a_rs, .ref a_rm, .ref a_nu])), (a_rs, .inl (cI, 4, .inl rs4))]) [0, 1] rfl) (hD.sub (ws' := [(h0, .inr (12, [.int 0, .ref a_al, .ref a_hi, .ref a_mt, .ref a_fr, .int 0, .int 0, .int 0, .int 0, .int 0, .int 0, .int 0, .int 0, .int 0, .int (-1), .ref a_rk, .int 0, .ref a_on, .ref a_aw, .ref a_ro, .int 0, .ref a_ws, .ref a_ah, .int 0, .int 0, .int 0, .ref a_cl, .ref a_us, .ref a_mo, .ref a_to, .ref a_mb, .ref a_le, .int 0, .ref a_rs, .ref a_rm, .ref a_nu])), (a_rs, .inl (cI, 4, .inl rs4))]) [0, 1] (by decide) rfl) hS ⟨(by unfold F_tray; (repeat' split) <;> first | rfl | (exfalso; omega)), rfl⟩ dX12_noTray_33
