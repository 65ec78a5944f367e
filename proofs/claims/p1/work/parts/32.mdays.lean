set_option maxHeartbeats 4000000 in
set_option maxRecDepth 100000 in
theorem c_keeps (l : Launch) (D : va_G) (cB cI cJ cZ cS cW cT cR : ClassId) (h0 : Nat) (a_al : Nat) (a_ws : Nat) (a_hi : Nat) (a_mt : Nat) (a_fr : Nat) (a_rk : Nat) (a_on : Nat) (a_aw : Nat) (a_ro : Nat) (a_ah : Nat) (a_cl : Nat) (a_us : Nat) (a_mo : Nat) (a_to : Nat) (a_mb : Nat) (a_le : Nat) (a_rs : Nat) (a_rm : Nat) (a_nu : Nat) (f_a : Nat → Int32) (f_ws : Nat → Int32) : Kon l D (tyl cB cI cJ cZ cS cW cT cR) yX12_keeps cX12_keeps 2 none { frames := 0, cells := 0, slots := 0, locals := 0 } [.ref h0] [(h0, .inr (12, [.int 0, .ref a_al, .ref a_hi, .ref a_mt, .ref a_fr, .int 0, .int 0, .int 0, .int 0, .int 0, .int 0, .int 0, .int 0, .int 0, .int (-1), .ref a_rk, .int 0, .ref a_on, .ref a_aw, .ref a_ro, .int 0, .ref a_ws, .ref a_ah, .int 0, .int 0, .int 0, .ref a_cl, .ref a_us, .ref a_mo, .ref a_to, .ref a_mb, .ref a_le, .int 0, .ref a_rs, .ref a_rm, .ref a_nu])), (a_al, .inl (cI, 3906, .inl f_a)), (a_ws, .inl (cI, 31, .inl f_ws))] (Qv D (fun u => ∃ (f_6 : Nat → Int32), u = [(h0, .inr (12, [.int 0, .ref a_al, .ref a_hi, .ref a_mt, .ref a_fr, .int 0, .int 0, .int 0, .int 0, .int 0, .int 0, .int 0, .int 0, .int 0, .int (-1), .ref a_rk, .int 0, .ref a_on, .ref a_aw, .ref a_ro, .int 0, .ref a_ws, .ref a_ah, .int 0, .int 0, .int 0, .ref a_cl, .ref a_us, .ref a_mo, .ref a_to, .ref a_mb, .ref a_le, .int 0, .ref a_rs, .ref a_rm, .ref a_nu])), (a_al, .inl (cI, 3906, .inl f_a)), (a_ws, .inl (cI, 31, .inl f_6))])) := by
  refine kon_of (by decide) (Nat.le_of_ble_eq_true rfl) (fun p e s m below meth c ls A hx hb hr hml hown hts hlocks hnm hkb hP hD hS hA hl => ?_)
  have hown : s.vm.findClass RX12 = some m.cls := hown
  have hl : lv_has ls 2 [(0, .ref h0)] := hl
  have hP : va_P D cls [(h0, .inr (12, [.int 0, .ref a_al, .ref a_hi, .ref a_mt, .ref a_fr, .int 0, .int 0, .int 0, .int 0, .int 0, .int 0, .int 0, .int 0, .int 0, .int (-1), .ref a_rk, .int 0, .ref a_on, .ref a_aw, .ref a_ro, .int 0, .ref a_ws, .ref a_ah, .int 0, .int 0, .int 0, .ref a_cl, .ref a_us, .ref a_mo, .ref a_to, .ref a_mb, .ref a_le, .int 0, .ref a_rs, .ref a_rm, .ref a_nu])), (a_al, .inl (cI, 3906, .inl f_a)), (a_ws, .inl (cI, 31, .inl f_ws))] s.heap := hP
  refine lv_iconst (v := 0) hx hb dX12_keeps_0 (by decide) ?_
  refine lv_istore_n (lv' := [(1, .int 0), (0, .ref h0)]) hx hb dX12_keeps_1 rfl hl (by decide) rfl (fun ls hl => ?_)
  have lp_5 : ∀ (n_1 k_2 : Nat) (x_3 : Int32) (f_6 : Nat → Int32) (H : Heap) (locs : List Loc) (ls : Array Slot), k_2 + n_1 = 31 → x_3 = nI k_2 → va_P D cls [(h0, .inr (12, [.int 0, .ref a_al, .ref a_hi, .ref a_mt, .ref a_fr, .int 0, .int 0, .int 0, .int 0, .int 0, .int 0, .int 0, .int 0, .int 0, .int (-1), .ref a_rk, .int 0, .ref a_on, .ref a_aw, .ref a_ro, .int 0, .ref a_ws, .ref a_ah, .int 0, .int 0, .int 0, .ref a_cl, .ref a_us, .ref a_mo, .ref a_to, .ref a_mb, .ref a_le, .int 0, .ref a_rs, .ref a_rm, .ref a_nu])), (a_al, .inl (cI, 3906, .inl f_a)), (a_ws, .inl (cI, 31, .inl f_6))] H → va_D A [(h0, .inr (12, [.int 0, .ref a_al, .ref a_hi, .ref a_mt, .ref a_fr, .int 0, .int 0, .int 0, .int 0, .int 0, .int 0, .int 0, .int 0, .int 0, .int (-1), .ref a_rk, .int 0, .ref a_on, .ref a_aw, .ref a_ro, .int 0, .ref a_ws, .ref a_ah, .int 0, .int 0, .int 0, .ref a_cl, .ref a_us, .ref a_mo, .ref a_to, .ref a_mb, .ref a_le, .int 0, .ref a_rs, .ref a_rm, .ref a_nu])), (a_al, .inl (cI, 3906, .inl f_a)), (a_ws, .inl (cI, 31, .inl f_6))] → va_S A s.heap H locs → lv_has ls 2 [(1, .int x_3), (0, .ref h0)] → W p l e { frames := 0, cells := 0, slots := 0, locals := 0 } s m [.ref h0].toArray below meth c H locs 0 0 (MQ below (Qv D (fun u => ∃ (f_6 : Nat → Int32), u = [(h0, .inr (12, [.int 0, .ref a_al, .ref a_hi, .ref a_mt, .ref a_fr, .int 0, .int 0, .int 0, .int 0, .int 0, .int 0, .int 0, .int 0, .int 0, .int (-1), .ref a_rk, .int 0, .ref a_on, .ref a_aw, .ref a_ro, .int 0, .ref a_ws, .ref a_ah, .int 0, .int 0, .int 0, .ref a_cl, .ref a_us, .ref a_mo, .ref a_to, .ref a_mb, .ref a_le, .int 0, .ref a_rs, .ref a_rm, .ref a_nu])), (a_al, .inl (cI, 3906, .inl f_a)), (a_ws, .inl (cI, 31, .inl f_6))]) A) [.ref h0].toArray s 0 0 A) (F0 m 2 ls []) := by
    intro n_1
    induction n_1 with
    | zero =>
      intro k_2 x_3 f_6 H locs ls hk_4 hx_3  hP hD hS hl
      have hzx_3 : x_3.toInt = (k_2 : Int) := by rw [hx_3]; exact nI_toInt (by omega)
      refine lv_iload_n hx hb dX12_keeps_2 rfl (lv_at hl 0 rfl) ?_
      refine lv_bipush (v := 31) hx hb dX12_keeps_3 (by decide) ?_
      refine lv_icmp_ge (tgt := 29) hx hb dX12_keeps_5 (by decide) (fun _ => ?_) (fun c_7 => by exfalso; have tc_7 := f_nge (k := 31) (by decide) c_7; omega)
      refine W.widen (k := 0) (n := 0) (Nat.le_of_ble_eq_true rfl) (Nat.le_of_ble_eq_true rfl) ?_
      exact e_v (u := [(h0, .inr (12, [.int 0, .ref a_al, .ref a_hi, .ref a_mt, .ref a_fr, .int 0, .int 0, .int 0, .int 0, .int 0, .int 0, .int 0, .int 0, .int 0, .int (-1), .ref a_rk, .int 0, .ref a_on, .ref a_aw, .ref a_ro, .int 0, .ref a_ws, .ref a_ah, .int 0, .int 0, .int 0, .ref a_cl, .ref a_us, .ref a_mo, .ref a_to, .ref a_mb, .ref a_le, .int 0, .ref a_rs, .ref a_rm, .ref a_nu])), (a_al, .inl (cI, 3906, .inl f_a)), (a_ws, .inl (cI, 31, .inl f_6))]) hx hb hr hlocks (hP.sub (ws' := [(h0, .inr (12, [.int 0, .ref a_al, .ref a_hi, .ref a_mt, .ref a_fr, .int 0, .int 0, .int 0, .int 0, .int 0, .int 0, .int 0, .int 0, .int 0, .int (-1), .ref a_rk, .int 0, .ref a_on, .ref a_aw, .ref a_ro, .int 0, .ref a_ws, .ref a_ah, .int 0, .int 0, .int 0, .ref a_cl, .ref a_us, .ref a_mo, .ref a_to, .ref a_mb, .ref a_le, .int 0, .ref a_rs, .ref a_rm, .ref a_nu])), (a_al, .inl (cI, 3906, .inl f_a)), (a_ws, .inl (cI, 31, .inl f_6))]) [0, 1, 2] rfl) (hD.sub (ws' := [(h0, .inr (12, [.int 0, .ref a_al, .ref a_hi, .ref a_mt, .ref a_fr, .int 0, .int 0, .int 0, .int 0, .int 0, .int 0, .int 0, .int 0, .int 0, .int (-1), .ref a_rk, .int 0, .ref a_on, .ref a_aw, .ref a_ro, .int 0, .ref a_ws, .ref a_ah, .int 0, .int 0, .int 0, .ref a_cl, .ref a_us, .ref a_mo, .ref a_to, .ref a_mb, .ref a_le, .int 0, .ref a_rs, .ref a_rm, .ref a_nu])), (a_al, .inl (cI, 3906, .inl f_a)), (a_ws, .inl (cI, 31, .inl f_6))]) [0, 1, 2] (by decide) rfl) hS ⟨f_6, rfl⟩ dX12_keeps_29
    | succ n_1 ih =>
      intro k_2 x_3 f_6 H locs ls hk_4 hx_3  hP hD hS hl
      have hzx_3 : x_3.toInt = (k_2 : Int) := by rw [hx_3]; exact nI_toInt (by omega)
      refine lv_iload_n hx hb dX12_keeps_2 rfl (lv_at hl 0 rfl) ?_
      refine lv_bipush (v := 31) hx hb dX12_keeps_3 (by decide) ?_
      refine lv_icmp_ge (tgt := 29) hx hb dX12_keeps_5 (by decide) (fun c_8 => by exfalso; have tc_8 := f_ge (k := 31) (by decide) c_8; omega) (fun _ => ?_)
      refine lv_aload_n hx hb dX12_keeps_8 rfl (lv_at hl 1 rfl) ?_
      refine va_get (D := D) (ci := 12) (v := .ref a_ws) (C := RX12) (T := TX12) (N := 36) hx hb hts uX12 hown hkb.1 hP 0 rfl rfl 21 (by decide) (hts _ kw_1244) (fun _ h9 => h9) rfl dX12_keeps_9 ?_
      refine lv_iload_n hx hb dX12_keeps_12 rfl (lv_at hl 0 rfl) ?_
      refine lv_aload_n hx hb dX12_keeps_13 rfl (lv_at hl 1 rfl) ?_
      refine va_get (D := D) (ci := 12) (v := .ref a_al) (C := RX12) (T := TX12) (N := 36) hx hb hts uX12 hown hkb.1 hP 0 rfl rfl 1 (by decide) (hts _ kw_1224) (fun _ h9 => h9) rfl dX12_keeps_14 ?_
      refine lv_bipush (v := 59) hx hb dX12_keeps_17 (by decide) ?_
      refine lv_iload_n hx hb dX12_keeps_19 rfl (lv_at hl 0 rfl) ?_
      refine lv_iadd hx hb dX12_keeps_20 ?_
      refine lv_topc (y := nI (59 + k_2)) (by rw [hx_3]; exact nI_add 59 k_2) ?_
      refine va_iald hx hb hkb.1 hP 1 1 rfl rfl (in_n (by omega) (by decide)) dX12_keeps_21 ?_
      refine lv_topi (fun v_9 ev_9 => ?_)
      refine s_i 2 1 hx hb hkb.1 hP hD hS rfl rfl (in_k hx_3 (by omega) (by decide)) k_2 (by rw [hx_3]; exact nI_clamp (by omega)) dX12_keeps_22 (fun H locs hP hD hS => ?_)
      have hP : va_P D cls [(h0, .inr (12, [.int 0, .ref a_al, .ref a_hi, .ref a_mt, .ref a_fr, .int 0, .int 0, .int 0, .int 0, .int 0, .int 0, .int 0, .int 0, .int 0, .int (-1), .ref a_rk, .int 0, .ref a_on, .ref a_aw, .ref a_ro, .int 0, .ref a_ws, .ref a_ah, .int 0, .int 0, .int 0, .ref a_cl, .ref a_us, .ref a_mo, .ref a_to, .ref a_mb, .ref a_le, .int 0, .ref a_rs, .ref a_rm, .ref a_nu])), (a_al, .inl (cI, 3906, .inl f_a)), (a_ws, .inl (cI, 31, .inl (upd f_6 k_2 v_9)))] H := hP
      have hD : va_D A [(h0, .inr (12, [.int 0, .ref a_al, .ref a_hi, .ref a_mt, .ref a_fr, .int 0, .int 0, .int 0, .int 0, .int 0, .int 0, .int 0, .int 0, .int 0, .int (-1), .ref a_rk, .int 0, .ref a_on, .ref a_aw, .ref a_ro, .int 0, .ref a_ws, .ref a_ah, .int 0, .int 0, .int 0, .ref a_cl, .ref a_us, .ref a_mo, .ref a_to, .ref a_mb, .ref a_le, .int 0, .ref a_rs, .ref a_rm, .ref a_nu])), (a_al, .inl (cI, 3906, .inl f_a)), (a_ws, .inl (cI, 31, .inl (upd f_6 k_2 v_9)))] := hD
      obtain ⟨v_10, ev_10⟩ : ∃ y : Int32, y = x_3 + 1 := ⟨_, rfl⟩
      refine lv_iinc (v := v_10) (lv' := [(1, .int v_10), (0, .ref h0)]) hx hb dX12_keeps_23 hl (k := 0) rfl (by rw [ev_10]; rfl) (by decide) rfl (fun ls hl => ?_)
      refine lv_goto (tgt := 2) hx hb dX12_keeps_26 (by decide) ?_
      exact ih (k_2 + 1) v_10 (upd f_6 k_2 v_9) _ _ _ (by omega) (by rw [ev_10, hx_3]; exact nI_1 k_2)  (hP.sub (ws' := [(h0, .inr (12, [.int 0, .ref a_al, .ref a_hi, .ref a_mt, .ref a_fr, .int 0, .int 0, .int 0, .int 0, .int 0, .int 0, .int 0, .int 0, .int 0, .int (-1), .ref a_rk, .int 0, .ref a_on, .ref a_aw, .ref a_ro, .int 0, .ref a_ws, .ref a_ah, .int 0, .int 0, .int 0, .ref a_cl, .ref a_us, .ref a_mo, .ref a_to, .ref a_mb, .ref a_le, .int 0, .ref a_rs, .ref a_rm, .ref a_nu])), (a_al, .inl (cI, 3906, .inl f_a)), (a_ws, .inl (cI, 31, .inl (upd f_6 k_2 v_9)))]) [0, 1, 2] rfl) (hD.sub (ws' := [(h0, .inr (12, [.int 0, .ref a_al, .ref a_hi, .ref a_mt, .ref a_fr, .int 0, .int 0, .int 0, .int 0, .int 0, .int 0, .int 0, .int 0, .int 0, .int (-1), .ref a_rk, .int 0, .ref a_on, .ref a_aw, .ref a_ro, .int 0, .ref a_ws, .ref a_ah, .int 0, .int 0, .int 0, .ref a_cl, .ref a_us, .ref a_mo, .ref a_to, .ref a_mb, .ref a_le, .int 0, .ref a_rs, .ref a_rm, .ref a_nu])), (a_al, .inl (cI, 3906, .inl f_a)), (a_ws, .inl (cI, 31, .inl (upd f_6 k_2 v_9)))]) [0, 1, 2] (by decide) rfl) hS (lv_sub hl [0, 1] rfl)
  exact lp_5 31 0 0 f_ws _ _ _ (by rfl) nI_0.symm  (hP) (hD) hS (lv_sub hl [0, 1] rfl)
set_option maxHeartbeats 4000000 in
set_option maxRecDepth 100000 in
theorem c_notes (l : Launch) (D : va_G) (cB cI cJ cZ cS cW cT cR : ClassId) (h0 : Nat) (a_al : Nat) (a_ws : Nat) (a_hi : Nat) (a_mt : Nat) (a_fr : Nat) (a_rk : Nat) (a_on : Nat) (a_aw : Nat) (a_ro : Nat) (a_ah : Nat) (a_cl : Nat) (a_us : Nat) (a_mo : Nat) (a_to : Nat) (a_mb : Nat) (a_le : Nat) (a_rs : Nat) (a_rm : Nat) (a_nu : Nat) (f_a : Nat → Int32) (f_ws : Nat → Int32) (h90 : f_a 90 = 0) : Kon l D (tyl cB cI cJ cZ cS cW cT cR) yX12_notes cX12_notes 2 none { frames := 0, cells := 0, slots := 0, locals := 0 } [.ref h0] [(h0, .inr (12, [.int 0, .ref a_al, .ref a_hi, .ref a_mt, .ref a_fr, .int 0, .int 0, .int 0, .int 0, .int 0, .int 0, .int 0, .int 0, .int 0, .int (-1), .ref a_rk, .int 0, .ref a_on, .ref a_aw, .ref a_ro, .int 0, .ref a_ws, .ref a_ah, .int 0, .int 0, .int 0, .ref a_cl, .ref a_us, .ref a_mo, .ref a_to, .ref a_mb, .ref a_le, .int 0, .ref a_rs, .ref a_rm, .ref a_nu])), (a_al, .inl (cI, 3906, .inl f_a)), (a_ws, .inl (cI, 31, .inl f_ws))] (Qv D (fun u => ∃ (f_7 : Nat → Int32), u = [(h0, .inr (12, [.int 0, .ref a_al, .ref a_hi, .ref a_mt, .ref a_fr, .int 0, .int 0, .int 0, .int 0, .int 0, .int 0, .int 0, .int 0, .int 0, .int (-1), .ref a_rk, .int 0, .ref a_on, .ref a_aw, .ref a_ro, .int 0, .ref a_ws, .ref a_ah, .int 0, .int 0, .int 0, .ref a_cl, .ref a_us, .ref a_mo, .ref a_to, .ref a_mb, .ref a_le, .int 0, .ref a_rs, .ref a_rm, .ref a_nu])), (a_al, .inl (cI, 3906, .inl (upd f_7 90 1))), (a_ws, .inl (cI, 31, .inl f_ws))] ∧ (∀ j : Nat, j < 91 → f_7 j = f_a j))) := by
  refine kon_of (by decide) (Nat.le_of_ble_eq_true rfl) (fun p e s m below meth c ls A hx hb hr hml hown hts hlocks hnm hkb hP hD hS hA hl => ?_)
  have hown : s.vm.findClass RX12 = some m.cls := hown
  have hl : lv_has ls 2 [(0, .ref h0)] := hl
  have hP : va_P D cls [(h0, .inr (12, [.int 0, .ref a_al, .ref a_hi, .ref a_mt, .ref a_fr, .int 0, .int 0, .int 0, .int 0, .int 0, .int 0, .int 0, .int 0, .int 0, .int (-1), .ref a_rk, .int 0, .ref a_on, .ref a_aw, .ref a_ro, .int 0, .ref a_ws, .ref a_ah, .int 0, .int 0, .int 0, .ref a_cl, .ref a_us, .ref a_mo, .ref a_to, .ref a_mb, .ref a_le, .int 0, .ref a_rs, .ref a_rm, .ref a_nu])), (a_al, .inl (cI, 3906, .inl f_a)), (a_ws, .inl (cI, 31, .inl f_ws))] s.heap := hP
  refine lv_aload_n hx hb dX12_notes_0 rfl (lv_at hl 0 rfl) ?_
  refine va_get (D := D) (ci := 12) (v := .ref a_al) (C := RX12) (T := TX12) (N := 36) hx hb hts uX12 hown hkb.1 hP 0 rfl rfl 1 (by decide) (hts _ kw_1224) (fun _ h9 => h9) rfl dX12_notes_1 ?_
  refine lv_bipush (v := 90) hx hb dX12_notes_4 (by decide) ?_
  refine va_iald hx hb hkb.1 hP 1 1 rfl rfl (in_c (by decide +kernel)) dX12_notes_6 ?_
  refine lv_topc (y := 0) (h90) ?_
  refine lv_bipush (v := 10) hx hb dX12_notes_7 (by decide) ?_
  refine lv_icmp_ne (tgt := 56) hx hb dX12_notes_9 (by decide) (fun _ => ?_) (fun c_1 => absurd c_1 (by decide))
  refine lv_iconst (v := 0) hx hb dX12_notes_56 (by decide) ?_
  refine lv_istore_n (lv' := [(1, .int 0), (0, .ref h0)]) hx hb dX12_notes_57 rfl hl (by decide) rfl (fun ls hl => ?_)
  have lp_6 : ∀ (n_2 k_3 : Nat) (x_4 : Int32) (f_7 : Nat → Int32) (H : Heap) (locs : List Loc) (ls : Array Slot), k_3 + n_2 = 31 → x_4 = nI k_3 → (∀ j : Nat, j < 91 → f_7 j = f_a j) → va_P D cls [(h0, .inr (12, [.int 0, .ref a_al, .ref a_hi, .ref a_mt, .ref a_fr, .int 0, .int 0, .int 0, .int 0, .int 0, .int 0, .int 0, .int 0, .int 0, .int (-1), .ref a_rk, .int 0, .ref a_on, .ref a_aw, .ref a_ro, .int 0, .ref a_ws, .ref a_ah, .int 0, .int 0, .int 0, .ref a_cl, .ref a_us, .ref a_mo, .ref a_to, .ref a_mb, .ref a_le, .int 0, .ref a_rs, .ref a_rm, .ref a_nu])), (a_al, .inl (cI, 3906, .inl f_7)), (a_ws, .inl (cI, 31, .inl f_ws))] H → va_D A [(h0, .inr (12, [.int 0, .ref a_al, .ref a_hi, .ref a_mt, .ref a_fr, .int 0, .int 0, .int 0, .int 0, .int 0, .int 0, .int 0, .int 0, .int 0, .int (-1), .ref a_rk, .int 0, .ref a_on, .ref a_aw, .ref a_ro, .int 0, .ref a_ws, .ref a_ah, .int 0, .int 0, .int 0, .ref a_cl, .ref a_us, .ref a_mo, .ref a_to, .ref a_mb, .ref a_le, .int 0, .ref a_rs, .ref a_rm, .ref a_nu])), (a_al, .inl (cI, 3906, .inl f_7)), (a_ws, .inl (cI, 31, .inl f_ws))] → va_S A s.heap H locs → lv_has ls 2 [(1, .int x_4), (0, .ref h0)] → W p l e { frames := 0, cells := 0, slots := 0, locals := 0 } s m [.ref h0].toArray below meth c H locs 0 0 (MQ below (Qv D (fun u => ∃ (f_7 : Nat → Int32), u = [(h0, .inr (12, [.int 0, .ref a_al, .ref a_hi, .ref a_mt, .ref a_fr, .int 0, .int 0, .int 0, .int 0, .int 0, .int 0, .int 0, .int 0, .int 0, .int (-1), .ref a_rk, .int 0, .ref a_on, .ref a_aw, .ref a_ro, .int 0, .ref a_ws, .ref a_ah, .int 0, .int 0, .int 0, .ref a_cl, .ref a_us, .ref a_mo, .ref a_to, .ref a_mb, .ref a_le, .int 0, .ref a_rs, .ref a_rm, .ref a_nu])), (a_al, .inl (cI, 3906, .inl (upd f_7 90 1))), (a_ws, .inl (cI, 31, .inl f_ws))] ∧ (∀ j : Nat, j < 91 → f_7 j = f_a j)) A) [.ref h0].toArray s 0 0 A) (F0 m 58 ls []) := by
    intro n_2
    induction n_2 with
    | zero =>
      intro k_3 x_4 f_7 H locs ls hk_5 hx_4 hi_8 hP hD hS hl
      have hzx_4 : x_4.toInt = (k_3 : Int) := by rw [hx_4]; exact nI_toInt (by omega)
      refine lv_iload_n hx hb dX12_notes_58 rfl (lv_at hl 0 rfl) ?_
      refine lv_bipush (v := 31) hx hb dX12_notes_59 (by decide) ?_
      refine lv_icmp_ge (tgt := 96) hx hb dX12_notes_61 (by decide) (fun _ => ?_) (fun c_9 => by exfalso; have tc_9 := f_nge (k := 31) (by decide) c_9; omega)
      refine lv_aload_n hx hb dX12_notes_96 rfl (lv_at hl 1 rfl) ?_
      refine va_get (D := D) (ci := 12) (v := .ref a_al) (C := RX12) (T := TX12) (N := 36) hx hb hts uX12 hown hkb.1 hP 0 rfl rfl 1 (by decide) (hts _ kw_1224) (fun _ h9 => h9) rfl dX12_notes_97 ?_
      refine lv_bipush (v := 90) hx hb dX12_notes_100 (by decide) ?_
      refine lv_dup2_11 hx hb dX12_notes_102 rfl rfl ?_
      refine va_iald hx hb hkb.1 hP 1 1 rfl rfl (in_c (by decide +kernel)) dX12_notes_103 ?_
      refine lv_topc (y := 0) ((hi_8 90 (by decide)).trans h90) ?_
      refine lv_iconst (v := 1) hx hb dX12_notes_104 (by decide) ?_
      refine lv_iadd hx hb dX12_notes_105 ?_
      refine lv_topc (y := 1) (by decide +kernel) ?_
      refine s_i 1 1 hx hb hkb.1 hP hD hS rfl rfl (in_c (by decide +kernel)) 90 (by decide +kernel) dX12_notes_106 (fun H locs hP hD hS => ?_)
      have hP : va_P D cls [(h0, .inr (12, [.int 0, .ref a_al, .ref a_hi, .ref a_mt, .ref a_fr, .int 0, .int 0, .int 0, .int 0, .int 0, .int 0, .int 0, .int 0, .int 0, .int (-1), .ref a_rk, .int 0, .ref a_on, .ref a_aw, .ref a_ro, .int 0, .ref a_ws, .ref a_ah, .int 0, .int 0, .int 0, .ref a_cl, .ref a_us, .ref a_mo, .ref a_to, .ref a_mb, .ref a_le, .int 0, .ref a_rs, .ref a_rm, .ref a_nu])), (a_al, .inl (cI, 3906, .inl (upd f_7 90 1))), (a_ws, .inl (cI, 31, .inl f_ws))] H := hP
      have hD : va_D A [(h0, .inr (12, [.int 0, .ref a_al, .ref a_hi, .ref a_mt, .ref a_fr, .int 0, .int 0, .int 0, .int 0, .int 0, .int 0, .int 0, .int 0, .int 0, .int (-1), .ref a_rk, .int 0, .ref a_on, .ref a_aw, .ref a_ro, .int 0, .ref a_ws, .ref a_ah, .int 0, .int 0, .int 0, .ref a_cl, .ref a_us, .ref a_mo, .ref a_to, .ref a_mb, .ref a_le, .int 0, .ref a_rs, .ref a_rm, .ref a_nu])), (a_al, .inl (cI, 3906, .inl (upd f_7 90 1))), (a_ws, .inl (cI, 31, .inl f_ws))] := hD
      refine W.widen (k := 0) (n := 0) (Nat.le_of_ble_eq_true rfl) (Nat.le_of_ble_eq_true rfl) ?_
      exact e_v (u := [(h0, .inr (12, [.int 0, .ref a_al, .ref a_hi, .ref a_mt, .ref a_fr, .int 0, .int 0, .int 0, .int 0, .int 0, .int 0, .int 0, .int 0, .int 0, .int (-1), .ref a_rk, .int 0, .ref a_on, .ref a_aw, .ref a_ro, .int 0, .ref a_ws, .ref a_ah, .int 0, .int 0, .int 0, .ref a_cl, .ref a_us, .ref a_mo, .ref a_to, .ref a_mb, .ref a_le, .int 0, .ref a_rs, .ref a_rm, .ref a_nu])), (a_al, .inl (cI, 3906, .inl (upd f_7 90 1))), (a_ws, .inl (cI, 31, .inl f_ws))]) hx hb hr hlocks (hP.sub (ws' := [(h0, .inr (12, [.int 0, .ref a_al, .ref a_hi, .ref a_mt, .ref a_fr, .int 0, .int 0, .int 0, .int 0, .int 0, .int 0, .int 0, .int 0, .int 0, .int (-1), .ref a_rk, .int 0, .ref a_on, .ref a_aw, .ref a_ro, .int 0, .ref a_ws, .ref a_ah, .int 0, .int 0, .int 0, .ref a_cl, .ref a_us, .ref a_mo, .ref a_to, .ref a_mb, .ref a_le, .int 0, .ref a_rs, .ref a_rm, .ref a_nu])), (a_al, .inl (cI, 3906, .inl (upd f_7 90 1))), (a_ws, .inl (cI, 31, .inl f_ws))]) [0, 1, 2] rfl) (hD.sub (ws' := [(h0, .inr (12, [.int 0, .ref a_al, .ref a_hi, .ref a_mt, .ref a_fr, .int 0, .int 0, .int 0, .int 0, .int 0, .int 0, .int 0, .int 0, .int 0, .int (-1), .ref a_rk, .int 0, .ref a_on, .ref a_aw, .ref a_ro, .int 0, .ref a_ws, .ref a_ah, .int 0, .int 0, .int 0, .ref a_cl, .ref a_us, .ref a_mo, .ref a_to, .ref a_mb, .ref a_le, .int 0, .ref a_rs, .ref a_rm, .ref a_nu])), (a_al, .inl (cI, 3906, .inl (upd f_7 90 1))), (a_ws, .inl (cI, 31, .inl f_ws))]) [0, 1, 2] (by decide) rfl) hS ⟨f_7, rfl, hi_8⟩ dX12_notes_107
    | succ n_2 ih =>
      intro k_3 x_4 f_7 H locs ls hk_5 hx_4 hi_8 hP hD hS hl
      have hzx_4 : x_4.toInt = (k_3 : Int) := by rw [hx_4]; exact nI_toInt (by omega)
      refine lv_iload_n hx hb dX12_notes_58 rfl (lv_at hl 0 rfl) ?_
      refine lv_bipush (v := 31) hx hb dX12_notes_59 (by decide) ?_
      refine lv_icmp_ge (tgt := 96) hx hb dX12_notes_61 (by decide) (fun c_10 => by exfalso; have tc_10 := f_ge (k := 31) (by decide) c_10; omega) (fun _ => ?_)
      refine lv_aload_n hx hb dX12_notes_64 rfl (lv_at hl 1 rfl) ?_
      refine va_get (D := D) (ci := 12) (v := .ref a_al) (C := RX12) (T := TX12) (N := 36) hx hb hts uX12 hown hkb.1 hP 0 rfl rfl 1 (by decide) (hts _ kw_1224) (fun _ h9 => h9) rfl dX12_notes_65 ?_
      refine lv_bipush (v := 91) hx hb dX12_notes_68 (by decide) ?_
      refine lv_bipush (v := 31) hx hb dX12_notes_70 (by decide) ?_
      refine lv_aload_n hx hb dX12_notes_72 rfl (lv_at hl 1 rfl) ?_
      refine va_get (D := D) (ci := 12) (v := .ref a_al) (C := RX12) (T := TX12) (N := 36) hx hb hts uX12 hown hkb.1 hP 0 rfl rfl 1 (by decide) (hts _ kw_1224) (fun _ h9 => h9) rfl dX12_notes_73 ?_
      refine lv_bipush (v := 90) hx hb dX12_notes_76 (by decide) ?_
      refine va_iald hx hb hkb.1 hP 1 1 rfl rfl (in_c (by decide +kernel)) dX12_notes_78 ?_
      refine lv_topc (y := 0) ((hi_8 90 (by decide)).trans h90) ?_
      refine lv_imul hx hb dX12_notes_79 ?_
      refine lv_topc (y := 0) (by decide +kernel) ?_
      refine lv_iadd hx hb dX12_notes_80 ?_
      refine lv_topc (y := 91) (by decide +kernel) ?_
      refine lv_iload_n hx hb dX12_notes_81 rfl (lv_at hl 0 rfl) ?_
      refine lv_iadd hx hb dX12_notes_82 ?_
      refine lv_topc (y := nI (91 + k_3)) (by rw [hx_4]; exact nI_add 91 k_3) ?_
      refine lv_aload_n hx hb dX12_notes_83 rfl (lv_at hl 1 rfl) ?_
      refine va_get (D := D) (ci := 12) (v := .ref a_ws) (C := RX12) (T := TX12) (N := 36) hx hb hts uX12 hown hkb.1 hP 0 rfl rfl 21 (by decide) (hts _ kw_1244) (fun _ h9 => h9) rfl dX12_notes_84 ?_
      refine lv_iload_n hx hb dX12_notes_87 rfl (lv_at hl 0 rfl) ?_
      refine va_iald hx hb hkb.1 hP 2 1 rfl rfl (in_k hx_4 (by omega) (by decide)) dX12_notes_88 ?_
      refine lv_topi (fun v_11 ev_11 => ?_)
      refine s_i 1 1 hx hb hkb.1 hP hD hS rfl rfl (in_n (by omega) (by decide)) (91 + k_3) (nI_clamp (by omega)) dX12_notes_89 (fun H locs hP hD hS => ?_)
      have hP : va_P D cls [(h0, .inr (12, [.int 0, .ref a_al, .ref a_hi, .ref a_mt, .ref a_fr, .int 0, .int 0, .int 0, .int 0, .int 0, .int 0, .int 0, .int 0, .int 0, .int (-1), .ref a_rk, .int 0, .ref a_on, .ref a_aw, .ref a_ro, .int 0, .ref a_ws, .ref a_ah, .int 0, .int 0, .int 0, .ref a_cl, .ref a_us, .ref a_mo, .ref a_to, .ref a_mb, .ref a_le, .int 0, .ref a_rs, .ref a_rm, .ref a_nu])), (a_al, .inl (cI, 3906, .inl (upd f_7 (91 + k_3) v_11))), (a_ws, .inl (cI, 31, .inl f_ws))] H := hP
      have hD : va_D A [(h0, .inr (12, [.int 0, .ref a_al, .ref a_hi, .ref a_mt, .ref a_fr, .int 0, .int 0, .int 0, .int 0, .int 0, .int 0, .int 0, .int 0, .int 0, .int (-1), .ref a_rk, .int 0, .ref a_on, .ref a_aw, .ref a_ro, .int 0, .ref a_ws, .ref a_ah, .int 0, .int 0, .int 0, .ref a_cl, .ref a_us, .ref a_mo, .ref a_to, .ref a_mb, .ref a_le, .int 0, .ref a_rs, .ref a_rm, .ref a_nu])), (a_al, .inl (cI, 3906, .inl (upd f_7 (91 + k_3) v_11))), (a_ws, .inl (cI, 31, .inl f_ws))] := hD
      obtain ⟨v_12, ev_12⟩ : ∃ y : Int32, y = x_4 + 1 := ⟨_, rfl⟩
      refine lv_iinc (v := v_12) (lv' := [(1, .int v_12), (0, .ref h0)]) hx hb dX12_notes_90 hl (k := 0) rfl (by rw [ev_12]; rfl) (by decide) rfl (fun ls hl => ?_)
      refine lv_goto (tgt := 58) hx hb dX12_notes_93 (by decide) ?_
      exact ih (k_3 + 1) v_12 (upd f_7 (91 + k_3) v_11) _ _ _ (by omega) (by rw [ev_12, hx_4]; exact nI_1 k_3) (fun j hj => by unfold upd; rw [if_neg (by omega)]; exact hi_8 j hj) (hP.sub (ws' := [(h0, .inr (12, [.int 0, .ref a_al, .ref a_hi, .ref a_mt, .ref a_fr, .int 0, .int 0, .int 0, .int 0, .int 0, .int 0, .int 0, .int 0, .int 0, .int (-1), .ref a_rk, .int 0, .ref a_on, .ref a_aw, .ref a_ro, .int 0, .ref a_ws, .ref a_ah, .int 0, .int 0, .int 0, .ref a_cl, .ref a_us, .ref a_mo, .ref a_to, .ref a_mb, .ref a_le, .int 0, .ref a_rs, .ref a_rm, .ref a_nu])), (a_al, .inl (cI, 3906, .inl (upd f_7 (91 + k_3) v_11))), (a_ws, .inl (cI, 31, .inl f_ws))]) [0, 1, 2] rfl) (hD.sub (ws' := [(h0, .inr (12, [.int 0, .ref a_al, .ref a_hi, .ref a_mt, .ref a_fr, .int 0, .int 0, .int 0, .int 0, .int 0, .int 0, .int 0, .int 0, .int 0, .int (-1), .ref a_rk, .int 0, .ref a_on, .ref a_aw, .ref a_ro, .int 0, .ref a_ws, .ref a_ah, .int 0, .int 0, .int 0, .ref a_cl, .ref a_us, .ref a_mo, .ref a_to, .ref a_mb, .ref a_le, .int 0, .ref a_rs, .ref a_rm, .ref a_nu])), (a_al, .inl (cI, 3906, .inl (upd f_7 (91 + k_3) v_11))), (a_ws, .inl (cI, 31, .inl f_ws))]) [0, 1, 2] (by decide) rfl) hS (lv_sub hl [0, 1] rfl)
  exact lp_6 31 0 0 f_a _ _ _ (by rfl) nI_0.symm (fun _ _ => rfl) (hP) (hD) hS (lv_sub hl [0, 1] rfl)
set_option maxHeartbeats 4000000 in
set_option maxRecDepth 100000 in
theorem y_days (l : Launch) (D : va_G) (cB cI cJ cZ cS cW cT cR : ClassId) (h0 : Nat) (a_al : Nat) (a_ws : Nat) (i_0 : Int32) (a_hi : Nat) (a_mt : Nat) (a_fr : Nat) (a_rk : Nat) (a_on : Nat) (a_aw : Nat) (a_ro : Nat) (a_ah : Nat) (a_cl : Nat) (a_us : Nat) (a_mo : Nat) (a_to : Nat) (a_mb : Nat) (a_le : Nat) (a_rs : Nat) (a_rm : Nat) (a_nu : Nat) (f_ws : Nat → Int32) : Kon l D (tyl cB cI cJ cZ cS cW cT cR) yX12_days cX12_days 2 (some (.int)) { frames := 1, cells := 0, slots := 0, locals := 25 } [.ref h0, .int i_0] [(h0, .inr (12, [.int 0, .ref a_al, .ref a_hi, .ref a_mt, .ref a_fr, .int 0, .int 0, .int 0, .int 0, .int 0, .int 0, .int 0, .int 0, .int 0, .int (-1), .ref a_rk, .int 0, .ref a_on, .ref a_aw, .ref a_ro, .int 0, .ref a_ws, .ref a_ah, .int 0, .int 0, .int 0, .ref a_cl, .ref a_us, .ref a_mo, .ref a_to, .ref a_mb, .ref a_le, .int 0, .ref a_rs, .ref a_rm, .ref a_nu])), (a_al, .inl (cI, 3906, .inl plc)), (a_ws, .inl (cI, 31, .inl f_ws))] (Qi D (fun r u => r = F_days i_0 ∧ u = [])) := by
  refine kon_of (by decide) (Nat.le_of_ble_eq_true rfl) (fun p e s m below meth c ls A hx hb hr hml hown hts hlocks hnm hkb hP hD hS hA hl => ?_)
  have hown : s.vm.findClass RX12 = some m.cls := hown
  have hl : lv_has ls 2 [(0, .ref h0), (1, .int i_0)] := hl
  have hP : va_P D cls [(h0, .inr (12, [.int 0, .ref a_al, .ref a_hi, .ref a_mt, .ref a_fr, .int 0, .int 0, .int 0, .int 0, .int 0, .int 0, .int 0, .int 0, .int 0, .int (-1), .ref a_rk, .int 0, .ref a_on, .ref a_aw, .ref a_ro, .int 0, .ref a_ws, .ref a_ah, .int 0, .int 0, .int 0, .ref a_cl, .ref a_us, .ref a_mo, .ref a_to, .ref a_mb, .ref a_le, .int 0, .ref a_rs, .ref a_rm, .ref a_nu])), (a_al, .inl (cI, 3906, .inl plc)), (a_ws, .inl (cI, 31, .inl f_ws))] s.heap := hP
  refine lv_aload_n hx hb dX12_days_0 rfl (lv_at hl 0 rfl) ?_
  refine lv_iconst (v := 0) hx hb dX12_days_1 (by decide) ?_
  refine va_put (D := D) (ci := 12) (v := .int 0) (ty := tyX12 0) (C := RX12) (T := TX12) (N := 36) hx hb hts uX12 tyX12 tyX12_ok nmX12 hown hkb.1 hP hD hS 0 rfl rfl 0 (by decide) (hts _ kw_1223) (fun _ h9 => h9) rfl (tyX12_ok 0 (by decide)) rfl rfl (Nat.le_of_ble_eq_true rfl) dX12_days_2 (fun H locs hP hD hS => ?_)
  have hP : va_P D cls [(h0, .inr (12, [.int 0, .ref a_al, .ref a_hi, .ref a_mt, .ref a_fr, .int 0, .int 0, .int 0, .int 0, .int 0, .int 0, .int 0, .int 0, .int 0, .int (-1), .ref a_rk, .int 0, .ref a_on, .ref a_aw, .ref a_ro, .int 0, .ref a_ws, .ref a_ah, .int 0, .int 0, .int 0, .ref a_cl, .ref a_us, .ref a_mo, .ref a_to, .ref a_mb, .ref a_le, .int 0, .ref a_rs, .ref a_rm, .ref a_nu])), (a_al, .inl (cI, 3906, .inl plc)), (a_ws, .inl (cI, 31, .inl f_ws))] H := hP
  have hD : va_D A [(h0, .inr (12, [.int 0, .ref a_al, .ref a_hi, .ref a_mt, .ref a_fr, .int 0, .int 0, .int 0, .int 0, .int 0, .int 0, .int 0, .int 0, .int 0, .int (-1), .ref a_rk, .int 0, .ref a_on, .ref a_aw, .ref a_ro, .int 0, .ref a_ws, .ref a_ah, .int 0, .int 0, .int 0, .ref a_cl, .ref a_us, .ref a_mo, .ref a_to, .ref a_mb, .ref a_le, .int 0, .ref a_rs, .ref a_rm, .ref a_nu])), (a_al, .inl (cI, 3906, .inl plc)), (a_ws, .inl (cI, 31, .inl f_ws))] := hD
  refine lv_iload_n hx hb dX12_days_5 rfl (lv_at hl 1 rfl) ?_
  refine lv_i2l hx hb dX12_days_6 rfl ?_
  refine lv_lconst (v := 1) hx hb dX12_days_7 (by decide) ?_
  refine lv_ldc2 hx hb hown (hts _ kw_1576) dX12_days_8 ?_
  have hPc := hP.sub (ws' := []) [] rfl
  have hDc := hD.sub (ws' := []) [] (by decide) rfl
  refine k_i (wc := []) (wr := [(h0, .inr (12, [.int 0, .ref a_al, .ref a_hi, .ref a_mt, .ref a_fr, .int 0, .int 0, .int 0, .int 0, .int 0, .int 0, .int 0, .int 0, .int 0, .int (-1), .ref a_rk, .int 0, .ref a_on, .ref a_aw, .ref a_ro, .int 0, .ref a_ws, .ref a_ah, .int 0, .int 0, .int 0, .ref a_cl, .ref a_us, .ref a_mo, .ref a_to, .ref a_mb, .ref a_le, .int 0, .ref a_rs, .ref a_rm, .ref a_nu])), (a_al, .inl (cI, 3906, .inl plc)), (a_ws, .inl (cI, 31, .inl f_ws))]) hP hD hS hA [] [0, 1, 2] rfl rfl rfl (by decide) (r_S (n := 3) (As := [.long i_0.toInt64, .long 1, .long 99]) hx hb hml hown hts hkb hPc hDc (c_within l D cB cI cJ cZ cS cW cT cR i_0.toInt64 1 99) kw_1341 kw_1342 kw_13 kw_1343 (by decide +kernel) ⟨Nat.le_of_ble_eq_true rfl, Nat.le_of_ble_eq_true rfl⟩ rfl rfl hl.1 (Nat.le_of_ble_eq_true rfl) dX12_days_11 ⟨Nat.le_of_ble_eq_true rfl, Nat.le_of_ble_eq_true rfl⟩) (fun r_1 u H locs hw hP hD hS => ?_)
  obtain ⟨rfl, rfl⟩ := hw
  have hP : va_P D cls [(h0, .inr (12, [.int 0, .ref a_al, .ref a_hi, .ref a_mt, .ref a_fr, .int 0, .int 0, .int 0, .int 0, .int 0, .int 0, .int 0, .int 0, .int 0, .int (-1), .ref a_rk, .int 0, .ref a_on, .ref a_aw, .ref a_ro, .int 0, .ref a_ws, .ref a_ah, .int 0, .int 0, .int 0, .ref a_cl, .ref a_us, .ref a_mo, .ref a_to, .ref a_mb, .ref a_le, .int 0, .ref a_rs, .ref a_rm, .ref a_nu])), (a_al, .inl (cI, 3906, .inl plc)), (a_ws, .inl (cI, 31, .inl f_ws))] H := hP
  have hD : va_D A [(h0, .inr (12, [.int 0, .ref a_al, .ref a_hi, .ref a_mt, .ref a_fr, .int 0, .int 0, .int 0, .int 0, .int 0, .int 0, .int 0, .int 0, .int 0, .int (-1), .ref a_rk, .int 0, .ref a_on, .ref a_aw, .ref a_ro, .int 0, .ref a_ws, .ref a_ah, .int 0, .int 0, .int 0, .ref a_cl, .ref a_us, .ref a_mo, .ref a_to, .ref a_mb, .ref a_le, .int 0, .ref a_rs, .ref a_rm, .ref a_nu])), (a_al, .inl (cI, 3906, .inl plc)), (a_ws, .inl (cI, 31, .inl f_ws))] := hD
  refine W.widen (k := 0) (n := 0) (Nat.le_of_ble_eq_true rfl) (Nat.le_of_ble_eq_true rfl) ?_
  refine lv_if_ne (tgt := 20) hx hb dX12_days_14 (by decide) (fun c_2 => ?_) (fun c_2 => ?_)
  · skip
    have tc_2 := wi_1 (a := 1) (b := 99) (by decide) (by decide) c_2
    refine lv_aload_n hx hb dX12_days_20 rfl (lv_at hl 0 rfl) ?_
    have hPc := hP.sub (ws' := [(h0, .inr (12, [.int 0, .ref a_al, .ref a_hi, .ref a_mt, .ref a_fr, .int 0, .int 0, .int 0, .int 0, .int 0, .int 0, .int 0, .int 0, .int 0, .int (-1), .ref a_rk, .int 0, .ref a_on, .ref a_aw, .ref a_ro, .int 0, .ref a_ws, .ref a_ah, .int 0, .int 0, .int 0, .ref a_cl, .ref a_us, .ref a_mo, .ref a_to, .ref a_mb, .ref a_le, .int 0, .ref a_rs, .ref a_rm, .ref a_nu])), (a_al, .inl (cI, 3906, .inl plc)), (a_ws, .inl (cI, 31, .inl f_ws))]) [0, 1, 2] rfl
    have hDc := hD.sub (ws' := [(h0, .inr (12, [.int 0, .ref a_al, .ref a_hi, .ref a_mt, .ref a_fr, .int 0, .int 0, .int 0, .int 0, .int 0, .int 0, .int 0, .int 0, .int 0, .int (-1), .ref a_rk, .int 0, .ref a_on, .ref a_aw, .ref a_ro, .int 0, .ref a_ws, .ref a_ah, .int 0, .int 0, .int 0, .ref a_cl, .ref a_us, .ref a_mo, .ref a_to, .ref a_mb, .ref a_le, .int 0, .ref a_rs, .ref a_rm, .ref a_nu])), (a_al, .inl (cI, 3906, .inl plc)), (a_ws, .inl (cI, 31, .inl f_ws))]) [0, 1, 2] (by decide) rfl
    refine k_v (wc := [(h0, .inr (12, [.int 0, .ref a_al, .ref a_hi, .ref a_mt, .ref a_fr, .int 0, .int 0, .int 0, .int 0, .int 0, .int 0, .int 0, .int 0, .int 0, .int (-1), .ref a_rk, .int 0, .ref a_on, .ref a_aw, .ref a_ro, .int 0, .ref a_ws, .ref a_ah, .int 0, .int 0, .int 0, .ref a_cl, .ref a_us, .ref a_mo, .ref a_to, .ref a_mb, .ref a_le, .int 0, .ref a_rs, .ref a_rm, .ref a_nu])), (a_al, .inl (cI, 3906, .inl plc)), (a_ws, .inl (cI, 31, .inl f_ws))]) (wr := []) hP hD hS hA [0, 1, 2] [] rfl rfl rfl (by decide) (r_V (n := 0) (As := []) (ci := 12) (q0 := 0) hx hb hml hown hts hkb hPc hDc (c_keeps l D cB cI cJ cZ cS cW cT cR h0 a_al a_ws a_hi a_mt a_fr a_rk a_on a_aw a_ro a_ah a_cl a_us a_mo a_to a_mb a_le a_rs a_rm a_nu plc f_ws) kw_1544 kw_1546 ks_79 kw_13 kw_1547 (by decide +kernel) ⟨Nat.le_of_ble_eq_true rfl, Nat.le_of_ble_eq_true rfl⟩ rfl rfl rfl rfl hl.1 (Nat.le_of_ble_eq_true rfl) dX12_days_21 ⟨Nat.le_of_ble_eq_true rfl, Nat.le_of_ble_eq_true rfl⟩) (fun u H locs hw hP hD hS => ?_)
    obtain ⟨f_3, rfl⟩ := hw
    have hP : va_P D cls [(h0, .inr (12, [.int 0, .ref a_al, .ref a_hi, .ref a_mt, .ref a_fr, .int 0, .int 0, .int 0, .int 0, .int 0, .int 0, .int 0, .int 0, .int 0, .int (-1), .ref a_rk, .int 0, .ref a_on, .ref a_aw, .ref a_ro, .int 0, .ref a_ws, .ref a_ah, .int 0, .int 0, .int 0, .ref a_cl, .ref a_us, .ref a_mo, .ref a_to, .ref a_mb, .ref a_le, .int 0, .ref a_rs, .ref a_rm, .ref a_nu])), (a_al, .inl (cI, 3906, .inl plc)), (a_ws, .inl (cI, 31, .inl f_3))] H := hP
    have hD : va_D A [(h0, .inr (12, [.int 0, .ref a_al, .ref a_hi, .ref a_mt, .ref a_fr, .int 0, .int 0, .int 0, .int 0, .int 0, .int 0, .int 0, .int 0, .int 0, .int (-1), .ref a_rk, .int 0, .ref a_on, .ref a_aw, .ref a_ro, .int 0, .ref a_ws, .ref a_ah, .int 0, .int 0, .int 0, .ref a_cl, .ref a_us, .ref a_mo, .ref a_to, .ref a_mb, .ref a_le, .int 0, .ref a_rs, .ref a_rm, .ref a_nu])), (a_al, .inl (cI, 3906, .inl plc)), (a_ws, .inl (cI, 31, .inl f_3))] := hD
    refine W.widen (k := 0) (n := 0) (Nat.le_of_ble_eq_true rfl) (Nat.le_of_ble_eq_true rfl) ?_
    refine lv_aload_n hx hb dX12_days_24 rfl (lv_at hl 0 rfl) ?_
    refine va_get (D := D) (ci := 12) (v := .ref a_al) (C := RX12) (T := TX12) (N := 36) hx hb hts uX12 hown hkb.1 hP 0 rfl rfl 1 (by decide) (hts _ kw_1224) (fun _ h9 => h9) rfl dX12_days_25 ?_
    refine lv_bipush (v := 88) hx hb dX12_days_28 (by decide) ?_
    refine lv_dup2_11 hx hb dX12_days_30 rfl rfl ?_
    refine va_iald hx hb hkb.1 hP 1 1 rfl rfl (in_c (by decide +kernel)) dX12_days_31 ?_
    refine lv_topc (y := 0) (by decide +kernel) ?_
    refine lv_iload_n hx hb dX12_days_32 rfl (lv_at hl 1 rfl) ?_
    refine lv_iadd hx hb dX12_days_33 ?_
    refine lv_topc (y := i_0) (zadd _) ?_
    refine s_i 1 1 hx hb hkb.1 hP hD hS rfl rfl (in_c (by decide +kernel)) 88 (by decide +kernel) dX12_days_34 (fun H locs hP hD hS => ?_)
    have hP : va_P D cls [(h0, .inr (12, [.int 0, .ref a_al, .ref a_hi, .ref a_mt, .ref a_fr, .int 0, .int 0, .int 0, .int 0, .int 0, .int 0, .int 0, .int 0, .int 0, .int (-1), .ref a_rk, .int 0, .ref a_on, .ref a_aw, .ref a_ro, .int 0, .ref a_ws, .ref a_ah, .int 0, .int 0, .int 0, .ref a_cl, .ref a_us, .ref a_mo, .ref a_to, .ref a_mb, .ref a_le, .int 0, .ref a_rs, .ref a_rm, .ref a_nu])), (a_al, .inl (cI, 3906, .inl (upd plc 88 i_0))), (a_ws, .inl (cI, 31, .inl f_3))] H := hP
    have hD : va_D A [(h0, .inr (12, [.int 0, .ref a_al, .ref a_hi, .ref a_mt, .ref a_fr, .int 0, .int 0, .int 0, .int 0, .int 0, .int 0, .int 0, .int 0, .int 0, .int (-1), .ref a_rk, .int 0, .ref a_on, .ref a_aw, .ref a_ro, .int 0, .ref a_ws, .ref a_ah, .int 0, .int 0, .int 0, .ref a_cl, .ref a_us, .ref a_mo, .ref a_to, .ref a_mb, .ref a_le, .int 0, .ref a_rs, .ref a_rm, .ref a_nu])), (a_al, .inl (cI, 3906, .inl (upd plc 88 i_0))), (a_ws, .inl (cI, 31, .inl f_3))] := hD
    refine lv_aload_n hx hb dX12_days_35 rfl (lv_at hl 0 rfl) ?_
    have hPc := hP.sub (ws' := [(h0, .inr (12, [.int 0, .ref a_al, .ref a_hi, .ref a_mt, .ref a_fr, .int 0, .int 0, .int 0, .int 0, .int 0, .int 0, .int 0, .int 0, .int 0, .int (-1), .ref a_rk, .int 0, .ref a_on, .ref a_aw, .ref a_ro, .int 0, .ref a_ws, .ref a_ah, .int 0, .int 0, .int 0, .ref a_cl, .ref a_us, .ref a_mo, .ref a_to, .ref a_mb, .ref a_le, .int 0, .ref a_rs, .ref a_rm, .ref a_nu])), (a_al, .inl (cI, 3906, .inl (upd plc 88 i_0))), (a_ws, .inl (cI, 31, .inl f_3))]) [0, 1, 2] rfl
    have hDc := hD.sub (ws' := [(h0, .inr (12, [.int 0, .ref a_al, .ref a_hi, .ref a_mt, .ref a_fr, .int 0, .int 0, .int 0, .int 0, .int 0, .int 0, .int 0, .int 0, .int 0, .int (-1), .ref a_rk, .int 0, .ref a_on, .ref a_aw, .ref a_ro, .int 0, .ref a_ws, .ref a_ah, .int 0, .int 0, .int 0, .ref a_cl, .ref a_us, .ref a_mo, .ref a_to, .ref a_mb, .ref a_le, .int 0, .ref a_rs, .ref a_rm, .ref a_nu])), (a_al, .inl (cI, 3906, .inl (upd plc 88 i_0))), (a_ws, .inl (cI, 31, .inl f_3))]) [0, 1, 2] (by decide) rfl
    refine k_v (wc := [(h0, .inr (12, [.int 0, .ref a_al, .ref a_hi, .ref a_mt, .ref a_fr, .int 0, .int 0, .int 0, .int 0, .int 0, .int 0, .int 0, .int 0, .int 0, .int (-1), .ref a_rk, .int 0, .ref a_on, .ref a_aw, .ref a_ro, .int 0, .ref a_ws, .ref a_ah, .int 0, .int 0, .int 0, .ref a_cl, .ref a_us, .ref a_mo, .ref a_to, .ref a_mb, .ref a_le, .int 0, .ref a_rs, .ref a_rm, .ref a_nu])), (a_al, .inl (cI, 3906, .inl (upd plc 88 i_0))), (a_ws, .inl (cI, 31, .inl f_3))]) (wr := []) hP hD hS hA [0, 1, 2] [] rfl rfl rfl (by decide) (r_V (n := 0) (As := []) (ci := 12) (q0 := 0) hx hb hml hown hts hkb hPc hDc (c_notes l D cB cI cJ cZ cS cW cT cR h0 a_al a_ws a_hi a_mt a_fr a_rk a_on a_aw a_ro a_ah a_cl a_us a_mo a_to a_mb a_le a_rs a_rm a_nu (upd plc 88 i_0) f_3 (rfl)) kw_1552 kw_1554 ks_81 kw_13 kw_1555 (by decide +kernel) ⟨Nat.le_of_ble_eq_true rfl, Nat.le_of_ble_eq_true rfl⟩ rfl rfl rfl rfl hl.1 (Nat.le_of_ble_eq_true rfl) dX12_days_36 ⟨Nat.le_of_ble_eq_true rfl, Nat.le_of_ble_eq_true rfl⟩) (fun u H locs hw hP hD hS => ?_)
    obtain ⟨f_5, rfl, hq_7⟩ := hw
    have hP : va_P D cls [(h0, .inr (12, [.int 0, .ref a_al, .ref a_hi, .ref a_mt, .ref a_fr, .int 0, .int 0, .int 0, .int 0, .int 0, .int 0, .int 0, .int 0, .int 0, .int (-1), .ref a_rk, .int 0, .ref a_on, .ref a_aw, .ref a_ro, .int 0, .ref a_ws, .ref a_ah, .int 0, .int 0, .int 0, .ref a_cl, .ref a_us, .ref a_mo, .ref a_to, .ref a_mb, .ref a_le, .int 0, .ref a_rs, .ref a_rm, .ref a_nu])), (a_al, .inl (cI, 3906, .inl (upd f_5 90 1))), (a_ws, .inl (cI, 31, .inl f_3))] H := hP
    have hD : va_D A [(h0, .inr (12, [.int 0, .ref a_al, .ref a_hi, .ref a_mt, .ref a_fr, .int 0, .int 0, .int 0, .int 0, .int 0, .int 0, .int 0, .int 0, .int 0, .int (-1), .ref a_rk, .int 0, .ref a_on, .ref a_aw, .ref a_ro, .int 0, .ref a_ws, .ref a_ah, .int 0, .int 0, .int 0, .ref a_cl, .ref a_us, .ref a_mo, .ref a_to, .ref a_mb, .ref a_le, .int 0, .ref a_rs, .ref a_rm, .ref a_nu])), (a_al, .inl (cI, 3906, .inl (upd f_5 90 1))), (a_ws, .inl (cI, 31, .inl f_3))] := hD
    refine W.widen (k := 0) (n := 0) (Nat.le_of_ble_eq_true rfl) (Nat.le_of_ble_eq_true rfl) ?_
    refine lv_aload_n hx hb dX12_days_39 rfl (lv_at hl 0 rfl) ?_
    refine va_get (D := D) (ci := 12) (v := .ref a_al) (C := RX12) (T := TX12) (N := 36) hx hb hts uX12 hown hkb.1 hP 0 rfl rfl 1 (by decide) (hts _ kw_1224) (fun _ h9 => h9) rfl dX12_days_40 ?_
    refine lv_bipush (v := 88) hx hb dX12_days_43 (by decide) ?_
    refine va_iald hx hb hkb.1 hP 1 1 rfl rfl (in_c (by decide +kernel)) dX12_days_45 ?_
    refine lv_topc (y := i_0) (hq_7 88 (by decide)) ?_
    refine W.widen (k := 0) (n := 0) (Nat.le_of_ble_eq_true rfl) (Nat.le_of_ble_eq_true rfl) ?_
    exact e_i (u := []) hx hb hr hlocks (hP.sub (ws' := []) [] rfl) (hD.sub (ws' := []) [] (by decide) rfl) hS ⟨(by unfold F_days; (repeat' split) <;> first | rfl | (exfalso; omega)), rfl⟩ dX12_days_46
  · skip
    have tc_2 := wi_0 (a := 1) (b := 99) (by decide) (by decide) c_2
    refine lv_bipush (v := (-3)) hx hb dX12_days_17 (by decide) ?_
    refine W.widen (k := 0) (n := 0) (Nat.le_of_ble_eq_true rfl) (Nat.le_of_ble_eq_true rfl) ?_
    exact e_i (u := []) hx hb hr hlocks (hP.sub (ws' := []) [] rfl) (hD.sub (ws' := []) [] (by decide) rfl) hS ⟨(by unfold F_days; (repeat' split) <;> first | rfl | (exfalso; omega)), rfl⟩ dX12_days_19
set_option maxHeartbeats 4000000 in
set_option maxRecDepth 100000 in
theorem y_rain (l : Launch) (D : va_G) (cB cI cJ cZ cS cW cT cR : ClassId) (h0 : Nat) (a_al : Nat) (a_ws : Nat) (i_0 : Int32) (a_hi : Nat) (a_mt : Nat) (a_fr : Nat) (a_rk : Nat) (a_on : Nat) (a_aw : Nat) (a_ro : Nat) (a_ah : Nat) (a_cl : Nat) (a_us : Nat) (a_mo : Nat) (a_to : Nat) (a_mb : Nat) (a_le : Nat) (a_rs : Nat) (a_rm : Nat) (a_nu : Nat) (f_ws : Nat → Int32) : Kon l D (tyl cB cI cJ cZ cS cW cT cR) yX12_rain cX12_rain 4 (some (.int)) { frames := 1, cells := 0, slots := 0, locals := 25 } [.ref h0, .int i_0] [(h0, .inr (12, [.int 0, .ref a_al, .ref a_hi, .ref a_mt, .ref a_fr, .int 0, .int 0, .int 0, .int 0, .int 0, .int 0, .int 0, .int 0, .int 0, .int (-1), .ref a_rk, .int 0, .ref a_on, .ref a_aw, .ref a_ro, .int 0, .ref a_ws, .ref a_ah, .int 0, .int 0, .int 0, .ref a_cl, .ref a_us, .ref a_mo, .ref a_to, .ref a_mb, .ref a_le, .int 0, .ref a_rs, .ref a_rm, .ref a_nu])), (a_al, .inl (cI, 3906, .inl plc)), (a_ws, .inl (cI, 31, .inl f_ws))] (Qi D (fun r u => r = F_rain i_0 ∧ u = [])) := by
  refine kon_of (by decide) (Nat.le_of_ble_eq_true rfl) (fun p e s m below meth c ls A hx hb hr hml hown hts hlocks hnm hkb hP hD hS hA hl => ?_)
  have hown : s.vm.findClass RX12 = some m.cls := hown
  have hl : lv_has ls 4 [(0, .ref h0), (1, .int i_0)] := hl
  have hP : va_P D cls [(h0, .inr (12, [.int 0, .ref a_al, .ref a_hi, .ref a_mt, .ref a_fr, .int 0, .int 0, .int 0, .int 0, .int 0, .int 0, .int 0, .int 0, .int 0, .int (-1), .ref a_rk, .int 0, .ref a_on, .ref a_aw, .ref a_ro, .int 0, .ref a_ws, .ref a_ah, .int 0, .int 0, .int 0, .ref a_cl, .ref a_us, .ref a_mo, .ref a_to, .ref a_mb, .ref a_le, .int 0, .ref a_rs, .ref a_rm, .ref a_nu])), (a_al, .inl (cI, 3906, .inl plc)), (a_ws, .inl (cI, 31, .inl f_ws))] s.heap := hP
  refine lv_aload_n hx hb dX12_rain_0 rfl (lv_at hl 0 rfl) ?_
  refine lv_iconst (v := 0) hx hb dX12_rain_1 (by decide) ?_
  refine va_put (D := D) (ci := 12) (v := .int 0) (ty := tyX12 0) (C := RX12) (T := TX12) (N := 36) hx hb hts uX12 tyX12 tyX12_ok nmX12 hown hkb.1 hP hD hS 0 rfl rfl 0 (by decide) (hts _ kw_1223) (fun _ h9 => h9) rfl (tyX12_ok 0 (by decide)) rfl rfl (Nat.le_of_ble_eq_true rfl) dX12_rain_2 (fun H locs hP hD hS => ?_)
  have hP : va_P D cls [(h0, .inr (12, [.int 0, .ref a_al, .ref a_hi, .ref a_mt, .ref a_fr, .int 0, .int 0, .int 0, .int 0, .int 0, .int 0, .int 0, .int 0, .int 0, .int (-1), .ref a_rk, .int 0, .ref a_on, .ref a_aw, .ref a_ro, .int 0, .ref a_ws, .ref a_ah, .int 0, .int 0, .int 0, .ref a_cl, .ref a_us, .ref a_mo, .ref a_to, .ref a_mb, .ref a_le, .int 0, .ref a_rs, .ref a_rm, .ref a_nu])), (a_al, .inl (cI, 3906, .inl plc)), (a_ws, .inl (cI, 31, .inl f_ws))] H := hP
  have hD : va_D A [(h0, .inr (12, [.int 0, .ref a_al, .ref a_hi, .ref a_mt, .ref a_fr, .int 0, .int 0, .int 0, .int 0, .int 0, .int 0, .int 0, .int 0, .int 0, .int (-1), .ref a_rk, .int 0, .ref a_on, .ref a_aw, .ref a_ro, .int 0, .ref a_ws, .ref a_ah, .int 0, .int 0, .int 0, .ref a_cl, .ref a_us, .ref a_mo, .ref a_to, .ref a_mb, .ref a_le, .int 0, .ref a_rs, .ref a_rm, .ref a_nu])), (a_al, .inl (cI, 3906, .inl plc)), (a_ws, .inl (cI, 31, .inl f_ws))] := hD
  refine lv_iload_n hx hb dX12_rain_5 rfl (lv_at hl 1 rfl) ?_
  refine lv_i2l hx hb dX12_rain_6 rfl ?_
  refine lv_lconst (v := 1) hx hb dX12_rain_7 (by decide) ?_
  refine lv_ldc2 hx hb hown (hts _ kw_1581) dX12_rain_8 ?_
  have hPc := hP.sub (ws' := []) [] rfl
  have hDc := hD.sub (ws' := []) [] (by decide) rfl
  refine k_i (wc := []) (wr := [(h0, .inr (12, [.int 0, .ref a_al, .ref a_hi, .ref a_mt, .ref a_fr, .int 0, .int 0, .int 0, .int 0, .int 0, .int 0, .int 0, .int 0, .int 0, .int (-1), .ref a_rk, .int 0, .ref a_on, .ref a_aw, .ref a_ro, .int 0, .ref a_ws, .ref a_ah, .int 0, .int 0, .int 0, .ref a_cl, .ref a_us, .ref a_mo, .ref a_to, .ref a_mb, .ref a_le, .int 0, .ref a_rs, .ref a_rm, .ref a_nu])), (a_al, .inl (cI, 3906, .inl plc)), (a_ws, .inl (cI, 31, .inl f_ws))]) hP hD hS hA [] [0, 1, 2] rfl rfl rfl (by decide) (r_S (n := 3) (As := [.long i_0.toInt64, .long 1, .long 14]) hx hb hml hown hts hkb hPc hDc (c_within l D cB cI cJ cZ cS cW cT cR i_0.toInt64 1 14) kw_1341 kw_1342 kw_13 kw_1343 (by decide +kernel) ⟨Nat.le_of_ble_eq_true rfl, Nat.le_of_ble_eq_true rfl⟩ rfl rfl hl.1 (Nat.le_of_ble_eq_true rfl) dX12_rain_11 ⟨Nat.le_of_ble_eq_true rfl, Nat.le_of_ble_eq_true rfl⟩) (fun r_1 u H locs hw hP hD hS => ?_)
  obtain ⟨rfl, rfl⟩ := hw
  have hP : va_P D cls [(h0, .inr (12, [.int 0, .ref a_al, .ref a_hi, .ref a_mt, .ref a_fr, .int 0, .int 0, .int 0, .int 0, .int 0, .int 0, .int 0, .int 0, .int 0, .int (-1), .ref a_rk, .int 0, .ref a_on, .ref a_aw, .ref a_ro, .int 0, .ref a_ws, .ref a_ah, .int 0, .int 0, .int 0, .ref a_cl, .ref a_us, .ref a_mo, .ref a_to, .ref a_mb, .ref a_le, .int 0, .ref a_rs, .ref a_rm, .ref a_nu])), (a_al, .inl (cI, 3906, .inl plc)), (a_ws, .inl (cI, 31, .inl f_ws))] H := hP
  have hD : va_D A [(h0, .inr (12, [.int 0, .ref a_al, .ref a_hi, .ref a_mt, .ref a_fr, .int 0, .int 0, .int 0, .int 0, .int 0, .int 0, .int 0, .int 0, .int 0, .int (-1), .ref a_rk, .int 0, .ref a_on, .ref a_aw, .ref a_ro, .int 0, .ref a_ws, .ref a_ah, .int 0, .int 0, .int 0, .ref a_cl, .ref a_us, .ref a_mo, .ref a_to, .ref a_mb, .ref a_le, .int 0, .ref a_rs, .ref a_rm, .ref a_nu])), (a_al, .inl (cI, 3906, .inl plc)), (a_ws, .inl (cI, 31, .inl f_ws))] := hD
  refine W.widen (k := 0) (n := 0) (Nat.le_of_ble_eq_true rfl) (Nat.le_of_ble_eq_true rfl) ?_
  refine lv_if_ne (tgt := 20) hx hb dX12_rain_14 (by decide) (fun c_2 => ?_) (fun c_2 => ?_)
  · skip
    have tc_2 := wi_1 (a := 1) (b := 14) (by decide) (by decide) c_2
    refine lv_aload_n hx hb dX12_rain_20 rfl (lv_at hl 0 rfl) ?_
    have hPc := hP.sub (ws' := [(h0, .inr (12, [.int 0, .ref a_al, .ref a_hi, .ref a_mt, .ref a_fr, .int 0, .int 0, .int 0, .int 0, .int 0, .int 0, .int 0, .int 0, .int 0, .int (-1), .ref a_rk, .int 0, .ref a_on, .ref a_aw, .ref a_ro, .int 0, .ref a_ws, .ref a_ah, .int 0, .int 0, .int 0, .ref a_cl, .ref a_us, .ref a_mo, .ref a_to, .ref a_mb, .ref a_le, .int 0, .ref a_rs, .ref a_rm, .ref a_nu])), (a_al, .inl (cI, 3906, .inl plc)), (a_ws, .inl (cI, 31, .inl f_ws))]) [0, 1, 2] rfl
    have hDc := hD.sub (ws' := [(h0, .inr (12, [.int 0, .ref a_al, .ref a_hi, .ref a_mt, .ref a_fr, .int 0, .int 0, .int 0, .int 0, .int 0, .int 0, .int 0, .int 0, .int 0, .int (-1), .ref a_rk, .int 0, .ref a_on, .ref a_aw, .ref a_ro, .int 0, .ref a_ws, .ref a_ah, .int 0, .int 0, .int 0, .ref a_cl, .ref a_us, .ref a_mo, .ref a_to, .ref a_mb, .ref a_le, .int 0, .ref a_rs, .ref a_rm, .ref a_nu])), (a_al, .inl (cI, 3906, .inl plc)), (a_ws, .inl (cI, 31, .inl f_ws))]) [0, 1, 2] (by decide) rfl
    refine k_v (wc := [(h0, .inr (12, [.int 0, .ref a_al, .ref a_hi, .ref a_mt, .ref a_fr, .int 0, .int 0, .int 0, .int 0, .int 0, .int 0, .int 0, .int 0, .int 0, .int (-1), .ref a_rk, .int 0, .ref a_on, .ref a_aw, .ref a_ro, .int 0, .ref a_ws, .ref a_ah, .int 0, .int 0, .int 0, .ref a_cl, .ref a_us, .ref a_mo, .ref a_to, .ref a_mb, .ref a_le, .int 0, .ref a_rs, .ref a_rm, .ref a_nu])), (a_al, .inl (cI, 3906, .inl plc)), (a_ws, .inl (cI, 31, .inl f_ws))]) (wr := []) hP hD hS hA [0, 1, 2] [] rfl rfl rfl (by decide) (r_V (n := 0) (As := []) (ci := 12) (q0 := 0) hx hb hml hown hts hkb hPc hDc (c_keeps l D cB cI cJ cZ cS cW cT cR h0 a_al a_ws a_hi a_mt a_fr a_rk a_on a_aw a_ro a_ah a_cl a_us a_mo a_to a_mb a_le a_rs a_rm a_nu plc f_ws) kw_1544 kw_1546 ks_79 kw_13 kw_1547 (by decide +kernel) ⟨Nat.le_of_ble_eq_true rfl, Nat.le_of_ble_eq_true rfl⟩ rfl rfl rfl rfl hl.1 (Nat.le_of_ble_eq_true rfl) dX12_rain_21 ⟨Nat.le_of_ble_eq_true rfl, Nat.le_of_ble_eq_true rfl⟩) (fun u H locs hw hP hD hS => ?_)
    obtain ⟨f_3, rfl⟩ := hw
    have hP : va_P D cls [(h0, .inr (12, [.int 0, .ref a_al, .ref a_hi, .ref a_mt, .ref a_fr, .int 0, .int 0, .int 0, .int 0, .int 0, .int 0, .int 0, .int 0, .int 0, .int (-1), .ref a_rk, .int 0, .ref a_on, .ref a_aw, .ref a_ro, .int 0, .ref a_ws, .ref a_ah, .int 0, .int 0, .int 0, .ref a_cl, .ref a_us, .ref a_mo, .ref a_to, .ref a_mb, .ref a_le, .int 0, .ref a_rs, .ref a_rm, .ref a_nu])), (a_al, .inl (cI, 3906, .inl plc)), (a_ws, .inl (cI, 31, .inl f_3))] H := hP
    have hD : va_D A [(h0, .inr (12, [.int 0, .ref a_al, .ref a_hi, .ref a_mt, .ref a_fr, .int 0, .int 0, .int 0, .int 0, .int 0, .int 0, .int 0, .int 0, .int 0, .int (-1), .ref a_rk, .int 0, .ref a_on, .ref a_aw, .ref a_ro, .int 0, .ref a_ws, .ref a_ah, .int 0, .int 0, .int 0, .ref a_cl, .ref a_us, .ref a_mo, .ref a_to, .ref a_mb, .ref a_le, .int 0, .ref a_rs, .ref a_rm, .ref a_nu])), (a_al, .inl (cI, 3906, .inl plc)), (a_ws, .inl (cI, 31, .inl f_3))] := hD
    refine W.widen (k := 0) (n := 0) (Nat.le_of_ble_eq_true rfl) (Nat.le_of_ble_eq_true rfl) ?_
    refine lv_iconst (v := 0) hx hb dX12_rain_24 (by decide) ?_
    refine lv_istore_n (lv' := [(2, .int 0), (0, .ref h0), (1, .int i_0)]) hx hb dX12_rain_25 rfl hl (by decide) rfl (fun ls hl => ?_)
    refine lv_iconst (v := 0) hx hb dX12_rain_26 (by decide) ?_
    refine lv_istore_n (lv' := [(3, .int 0), (2, .int 0), (0, .ref h0), (1, .int i_0)]) hx hb dX12_rain_27 rfl hl (by decide) rfl (fun ls hl => ?_)
    refine lv_iload_n hx hb dX12_rain_28 rfl (lv_at hl 0 rfl) ?_
    refine lv_iload_n hx hb dX12_rain_29 rfl (lv_at hl 3 rfl) ?_
    refine lv_icmp_ge (tgt := 54) hx hb dX12_rain_30 (by decide) (fun c_5 => ?_) (fun c_5 => ?_)
    · skip
      have tc_5 := f_le (k := 0) (by decide) c_5
      exfalso; omega
    · skip
      have tc_5 := f_nle (k := 0) (by decide) c_5
      refine lv_iload_n hx hb dX12_rain_33 rfl (lv_at hl 1 rfl) ?_
      refine lv_aload_n hx hb dX12_rain_34 rfl (lv_at hl 2 rfl) ?_
      have hPc := hP.sub (ws' := [(h0, .inr (12, [.int 0, .ref a_al, .ref a_hi, .ref a_mt, .ref a_fr, .int 0, .int 0, .int 0, .int 0, .int 0, .int 0, .int 0, .int 0, .int 0, .int (-1), .ref a_rk, .int 0, .ref a_on, .ref a_aw, .ref a_ro, .int 0, .ref a_ws, .ref a_ah, .int 0, .int 0, .int 0, .ref a_cl, .ref a_us, .ref a_mo, .ref a_to, .ref a_mb, .ref a_le, .int 0, .ref a_rs, .ref a_rm, .ref a_nu])), (a_al, .inl (cI, 3906, .inl plc))]) [0, 1] rfl
      have hDc := hD.sub (ws' := [(h0, .inr (12, [.int 0, .ref a_al, .ref a_hi, .ref a_mt, .ref a_fr, .int 0, .int 0, .int 0, .int 0, .int 0, .int 0, .int 0, .int 0, .int 0, .int (-1), .ref a_rk, .int 0, .ref a_on, .ref a_aw, .ref a_ro, .int 0, .ref a_ws, .ref a_ah, .int 0, .int 0, .int 0, .ref a_cl, .ref a_us, .ref a_mo, .ref a_to, .ref a_mb, .ref a_le, .int 0, .ref a_rs, .ref a_rm, .ref a_nu])), (a_al, .inl (cI, 3906, .inl plc))]) [0, 1] (by decide) rfl
      refine k_i (wc := [(h0, .inr (12, [.int 0, .ref a_al, .ref a_hi, .ref a_mt, .ref a_fr, .int 0, .int 0, .int 0, .int 0, .int 0, .int 0, .int 0, .int 0, .int 0, .int (-1), .ref a_rk, .int 0, .ref a_on, .ref a_aw, .ref a_ro, .int 0, .ref a_ws, .ref a_ah, .int 0, .int 0, .int 0, .ref a_cl, .ref a_us, .ref a_mo, .ref a_to, .ref a_mb, .ref a_le, .int 0, .ref a_rs, .ref a_rm, .ref a_nu])), (a_al, .inl (cI, 3906, .inl plc))]) (wr := [(a_ws, .inl (cI, 31, .inl f_3))]) hP hD hS hA [0, 1] [2] rfl rfl rfl (by decide) (r_V (n := 0) (As := []) (ci := 12) (q0 := 0) hx hb hml hown hts hkb hPc hDc (c_rains l D cB cI cJ cZ cS cW cT cR h0 a_al a_hi a_mt a_fr a_rk a_on a_aw a_ro a_ws a_ah a_cl a_us a_mo a_to a_mb a_le a_rs a_rm a_nu) kw_1582 kw_1584 ks_85 kw_13 kw_1585 (by decide +kernel) ⟨Nat.le_of_ble_eq_true rfl, Nat.le_of_ble_eq_true rfl⟩ rfl rfl rfl rfl hl.1 (Nat.le_of_ble_eq_true rfl) dX12_rain_35 ⟨Nat.le_of_ble_eq_true rfl, Nat.le_of_ble_eq_true rfl⟩) (fun r_6 u H locs hw hP hD hS => ?_)
      obtain ⟨rfl, rfl⟩ := hw
      have hP : va_P D cls [(a_ws, .inl (cI, 31, .inl f_3)), (h0, .inr (12, [.int 0, .ref a_al, .ref a_hi, .ref a_mt, .ref a_fr, .int 0, .int 0, .int 0, .int 0, .int 0, .int 0, .int 0, .int 0, .int 0, .int (-1), .ref a_rk, .int 0, .ref a_on, .ref a_aw, .ref a_ro, .int 0, .ref a_ws, .ref a_ah, .int 0, .int 0, .int 0, .ref a_cl, .ref a_us, .ref a_mo, .ref a_to, .ref a_mb, .ref a_le, .int 0, .ref a_rs, .ref a_rm, .ref a_nu])), (a_al, .inl (cI, 3906, .inl plc))] H := hP
      have hD : va_D A [(a_ws, .inl (cI, 31, .inl f_3)), (h0, .inr (12, [.int 0, .ref a_al, .ref a_hi, .ref a_mt, .ref a_fr, .int 0, .int 0, .int 0, .int 0, .int 0, .int 0, .int 0, .int 0, .int 0, .int (-1), .ref a_rk, .int 0, .ref a_on, .ref a_aw, .ref a_ro, .int 0, .ref a_ws, .ref a_ah, .int 0, .int 0, .int 0, .ref a_cl, .ref a_us, .ref a_mo, .ref a_to, .ref a_mb, .ref a_le, .int 0, .ref a_rs, .ref a_rm, .ref a_nu])), (a_al, .inl (cI, 3906, .inl plc))] := hD
      refine W.widen (k := 0) (n := 0) (Nat.le_of_ble_eq_true rfl) (Nat.le_of_ble_eq_true rfl) ?_
      refine lv_if_eq (tgt := 45) hx hb dX12_rain_38 (by decide) (fun _ => ?_) (fun c_7 => absurd c_7 (by decide))
      refine lv_iconst (v := 0) hx hb dX12_rain_45 (by decide) ?_
      refine lv_iadd hx hb dX12_rain_46 ?_
      refine lv_topc (y := 0) (by decide +kernel) ?_
      refine lv_istore_n (lv' := [(2, .int 0), (3, .int 0), (0, .ref h0), (1, .int i_0)]) hx hb dX12_rain_47 rfl hl (by decide) rfl (fun ls hl => ?_)
      refine lv_iinc (v := 1) (lv' := [(3, .int 1), (2, .int 0), (0, .ref h0), (1, .int i_0)]) hx hb dX12_rain_48 hl (k := 1) rfl (by decide) (by decide) rfl (fun ls hl => ?_)
      refine lv_goto (tgt := 28) hx hb dX12_rain_51 (by decide) ?_
      refine lv_iload_n hx hb dX12_rain_28 rfl (lv_at hl 0 rfl) ?_
      refine lv_iload_n hx hb dX12_rain_29 rfl (lv_at hl 3 rfl) ?_
      refine lv_icmp_ge (tgt := 54) hx hb dX12_rain_30 (by decide) (fun c_8 => ?_) (fun c_8 => ?_)
      · skip
        have tc_8 := f_le (k := 1) (by decide) c_8
        refine lv_iload_n hx hb dX12_rain_54 rfl (lv_at hl 1 rfl) ?_
        refine lv_if_le (tgt := 62) hx hb dX12_rain_55 (by decide) (fun _ => ?_) (fun c_9 => absurd c_9 (by decide))
        refine lv_iload_n hx hb dX12_rain_62 rfl (lv_at hl 1 rfl) ?_
        refine W.widen (k := 0) (n := 0) (Nat.le_of_ble_eq_true rfl) (Nat.le_of_ble_eq_true rfl) ?_
        exact e_i (u := []) hx hb hr hlocks (hP.sub (ws' := []) [] rfl) (hD.sub (ws' := []) [] (by decide) rfl) hS ⟨(by unfold F_rain; (repeat' split) <;> first | rfl | (exfalso; omega)), rfl⟩ dX12_rain_63
      · skip
        have tc_8 := f_nle (k := 1) (by decide) c_8
        refine lv_iload_n hx hb dX12_rain_33 rfl (lv_at hl 1 rfl) ?_
        refine lv_aload_n hx hb dX12_rain_34 rfl (lv_at hl 2 rfl) ?_
        have hPc := hP.sub (ws' := [(h0, .inr (12, [.int 0, .ref a_al, .ref a_hi, .ref a_mt, .ref a_fr, .int 0, .int 0, .int 0, .int 0, .int 0, .int 0, .int 0, .int 0, .int 0, .int (-1), .ref a_rk, .int 0, .ref a_on, .ref a_aw, .ref a_ro, .int 0, .ref a_ws, .ref a_ah, .int 0, .int 0, .int 0, .ref a_cl, .ref a_us, .ref a_mo, .ref a_to, .ref a_mb, .ref a_le, .int 0, .ref a_rs, .ref a_rm, .ref a_nu])), (a_al, .inl (cI, 3906, .inl plc))]) [1, 2] rfl
        have hDc := hD.sub (ws' := [(h0, .inr (12, [.int 0, .ref a_al, .ref a_hi, .ref a_mt, .ref a_fr, .int 0, .int 0, .int 0, .int 0, .int 0, .int 0, .int 0, .int 0, .int 0, .int (-1), .ref a_rk, .int 0, .ref a_on, .ref a_aw, .ref a_ro, .int 0, .ref a_ws, .ref a_ah, .int 0, .int 0, .int 0, .ref a_cl, .ref a_us, .ref a_mo, .ref a_to, .ref a_mb, .ref a_le, .int 0, .ref a_rs, .ref a_rm, .ref a_nu])), (a_al, .inl (cI, 3906, .inl plc))]) [1, 2] (by decide) rfl
        refine k_i (wc := [(h0, .inr (12, [.int 0, .ref a_al, .ref a_hi, .ref a_mt, .ref a_fr, .int 0, .int 0, .int 0, .int 0, .int 0, .int 0, .int 0, .int 0, .int 0, .int (-1), .ref a_rk, .int 0, .ref a_on, .ref a_aw, .ref a_ro, .int 0, .ref a_ws, .ref a_ah, .int 0, .int 0, .int 0, .ref a_cl, .ref a_us, .ref a_mo, .ref a_to, .ref a_mb, .ref a_le, .int 0, .ref a_rs, .ref a_rm, .ref a_nu])), (a_al, .inl (cI, 3906, .inl plc))]) (wr := [(a_ws, .inl (cI, 31, .inl f_3))]) hP hD hS hA [1, 2] [0] rfl rfl rfl (by decide) (r_V (n := 0) (As := []) (ci := 12) (q0 := 0) hx hb hml hown hts hkb hPc hDc (c_rains l D cB cI cJ cZ cS cW cT cR h0 a_al a_hi a_mt a_fr a_rk a_on a_aw a_ro a_ws a_ah a_cl a_us a_mo a_to a_mb a_le a_rs a_rm a_nu) kw_1582 kw_1584 ks_85 kw_13 kw_1585 (by decide +kernel) ⟨Nat.le_of_ble_eq_true rfl, Nat.le_of_ble_eq_true rfl⟩ rfl rfl rfl rfl hl.1 (Nat.le_of_ble_eq_true rfl) dX12_rain_35 ⟨Nat.le_of_ble_eq_true rfl, Nat.le_of_ble_eq_true rfl⟩) (fun r_10 u H locs hw hP hD hS => ?_)
        obtain ⟨rfl, rfl⟩ := hw
        have hP : va_P D cls [(a_ws, .inl (cI, 31, .inl f_3)), (h0, .inr (12, [.int 0, .ref a_al, .ref a_hi, .ref a_mt, .ref a_fr, .int 0, .int 0, .int 0, .int 0, .int 0, .int 0, .int 0, .int 0, .int 0, .int (-1), .ref a_rk, .int 0, .ref a_on, .ref a_aw, .ref a_ro, .int 0, .ref a_ws, .ref a_ah, .int 0, .int 0, .int 0, .ref a_cl, .ref a_us, .ref a_mo, .ref a_to, .ref a_mb, .ref a_le, .int 0, .ref a_rs, .ref a_rm, .ref a_nu])), (a_al, .inl (cI, 3906, .inl plc))] H := hP
        have hD : va_D A [(a_ws, .inl (cI, 31, .inl f_3)), (h0, .inr (12, [.int 0, .ref a_al, .ref a_hi, .ref a_mt, .ref a_fr, .int 0, .int 0, .int 0, .int 0, .int 0, .int 0, .int 0, .int 0, .int 0, .int (-1), .ref a_rk, .int 0, .ref a_on, .ref a_aw, .ref a_ro, .int 0, .ref a_ws, .ref a_ah, .int 0, .int 0, .int 0, .ref a_cl, .ref a_us, .ref a_mo, .ref a_to, .ref a_mb, .ref a_le, .int 0, .ref a_rs, .ref a_rm, .ref a_nu])), (a_al, .inl (cI, 3906, .inl plc))] := hD
        refine W.widen (k := 0) (n := 0) (Nat.le_of_ble_eq_true rfl) (Nat.le_of_ble_eq_true rfl) ?_
        refine lv_if_eq (tgt := 45) hx hb dX12_rain_38 (by decide) (fun _ => ?_) (fun c_11 => absurd c_11 (by decide))
        refine lv_iconst (v := 0) hx hb dX12_rain_45 (by decide) ?_
        refine lv_iadd hx hb dX12_rain_46 ?_
        refine lv_topc (y := 0) (by decide +kernel) ?_
        refine lv_istore_n (lv' := [(2, .int 0), (3, .int 1), (0, .ref h0), (1, .int i_0)]) hx hb dX12_rain_47 rfl hl (by decide) rfl (fun ls hl => ?_)
        refine lv_iinc (v := 2) (lv' := [(3, .int 2), (2, .int 0), (0, .ref h0), (1, .int i_0)]) hx hb dX12_rain_48 hl (k := 1) rfl (by decide) (by decide) rfl (fun ls hl => ?_)
        refine lv_goto (tgt := 28) hx hb dX12_rain_51 (by decide) ?_
        refine lv_iload_n hx hb dX12_rain_28 rfl (lv_at hl 0 rfl) ?_
        refine lv_iload_n hx hb dX12_rain_29 rfl (lv_at hl 3 rfl) ?_
        refine lv_icmp_ge (tgt := 54) hx hb dX12_rain_30 (by decide) (fun c_12 => ?_) (fun c_12 => ?_)
        · skip
          have tc_12 := f_le (k := 2) (by decide) c_12
          refine lv_iload_n hx hb dX12_rain_54 rfl (lv_at hl 1 rfl) ?_
          refine lv_if_le (tgt := 62) hx hb dX12_rain_55 (by decide) (fun _ => ?_) (fun c_13 => absurd c_13 (by decide))
          refine lv_iload_n hx hb dX12_rain_62 rfl (lv_at hl 1 rfl) ?_
          refine W.widen (k := 0) (n := 0) (Nat.le_of_ble_eq_true rfl) (Nat.le_of_ble_eq_true rfl) ?_
          exact e_i (u := []) hx hb hr hlocks (hP.sub (ws' := []) [] rfl) (hD.sub (ws' := []) [] (by decide) rfl) hS ⟨(by unfold F_rain; (repeat' split) <;> first | rfl | (exfalso; omega)), rfl⟩ dX12_rain_63
        · skip
          have tc_12 := f_nle (k := 2) (by decide) c_12
          refine lv_iload_n hx hb dX12_rain_33 rfl (lv_at hl 1 rfl) ?_
          refine lv_aload_n hx hb dX12_rain_34 rfl (lv_at hl 2 rfl) ?_
          have hPc := hP.sub (ws' := [(h0, .inr (12, [.int 0, .ref a_al, .ref a_hi, .ref a_mt, .ref a_fr, .int 0, .int 0, .int 0, .int 0, .int 0, .int 0, .int 0, .int 0, .int 0, .int (-1), .ref a_rk, .int 0, .ref a_on, .ref a_aw, .ref a_ro, .int 0, .ref a_ws, .ref a_ah, .int 0, .int 0, .int 0, .ref a_cl, .ref a_us, .ref a_mo, .ref a_to, .ref a_mb, .ref a_le, .int 0, .ref a_rs, .ref a_rm, .ref a_nu])), (a_al, .inl (cI, 3906, .inl plc))]) [1, 2] rfl
          have hDc := hD.sub (ws' := [(h0, .inr (12, [.int 0, .ref a_al, .ref a_hi, .ref a_mt, .ref a_fr, .int 0, .int 0, .int 0, .int 0, .int 0, .int 0, .int 0, .int 0, .int 0, .int (-1), .ref a_rk, .int 0, .ref a_on, .ref a_aw, .ref a_ro, .int 0, .ref a_ws, .ref a_ah, .int 0, .int 0, .int 0, .ref a_cl, .ref a_us, .ref a_mo, .ref a_to, .ref a_mb, .ref a_le, .int 0, .ref a_rs, .ref a_rm, .ref a_nu])), (a_al, .inl (cI, 3906, .inl plc))]) [1, 2] (by decide) rfl
          refine k_i (wc := [(h0, .inr (12, [.int 0, .ref a_al, .ref a_hi, .ref a_mt, .ref a_fr, .int 0, .int 0, .int 0, .int 0, .int 0, .int 0, .int 0, .int 0, .int 0, .int (-1), .ref a_rk, .int 0, .ref a_on, .ref a_aw, .ref a_ro, .int 0, .ref a_ws, .ref a_ah, .int 0, .int 0, .int 0, .ref a_cl, .ref a_us, .ref a_mo, .ref a_to, .ref a_mb, .ref a_le, .int 0, .ref a_rs, .ref a_rm, .ref a_nu])), (a_al, .inl (cI, 3906, .inl plc))]) (wr := [(a_ws, .inl (cI, 31, .inl f_3))]) hP hD hS hA [1, 2] [0] rfl rfl rfl (by decide) (r_V (n := 0) (As := []) (ci := 12) (q0 := 0) hx hb hml hown hts hkb hPc hDc (c_rains l D cB cI cJ cZ cS cW cT cR h0 a_al a_hi a_mt a_fr a_rk a_on a_aw a_ro a_ws a_ah a_cl a_us a_mo a_to a_mb a_le a_rs a_rm a_nu) kw_1582 kw_1584 ks_85 kw_13 kw_1585 (by decide +kernel) ⟨Nat.le_of_ble_eq_true rfl, Nat.le_of_ble_eq_true rfl⟩ rfl rfl rfl rfl hl.1 (Nat.le_of_ble_eq_true rfl) dX12_rain_35 ⟨Nat.le_of_ble_eq_true rfl, Nat.le_of_ble_eq_true rfl⟩) (fun r_14 u H locs hw hP hD hS => ?_)
          obtain ⟨rfl, rfl⟩ := hw
          have hP : va_P D cls [(a_ws, .inl (cI, 31, .inl f_3)), (h0, .inr (12, [.int 0, .ref a_al, .ref a_hi, .ref a_mt, .ref a_fr, .int 0, .int 0, .int 0, .int 0, .int 0, .int 0, .int 0, .int 0, .int 0, .int (-1), .ref a_rk, .int 0, .ref a_on, .ref a_aw, .ref a_ro, .int 0, .ref a_ws, .ref a_ah, .int 0, .int 0, .int 0, .ref a_cl, .ref a_us, .ref a_mo, .ref a_to, .ref a_mb, .ref a_le, .int 0, .ref a_rs, .ref a_rm, .ref a_nu])), (a_al, .inl (cI, 3906, .inl plc))] H := hP
          have hD : va_D A [(a_ws, .inl (cI, 31, .inl f_3)), (h0, .inr (12, [.int 0, .ref a_al, .ref a_hi, .ref a_mt, .ref a_fr, .int 0, .int 0, .int 0, .int 0, .int 0, .int 0, .int 0, .int 0, .int 0, .int (-1), .ref a_rk, .int 0, .ref a_on, .ref a_aw, .ref a_ro, .int 0, .ref a_ws, .ref a_ah, .int 0, .int 0, .int 0, .ref a_cl, .ref a_us, .ref a_mo, .ref a_to, .ref a_mb, .ref a_le, .int 0, .ref a_rs, .ref a_rm, .ref a_nu])), (a_al, .inl (cI, 3906, .inl plc))] := hD
          refine W.widen (k := 0) (n := 0) (Nat.le_of_ble_eq_true rfl) (Nat.le_of_ble_eq_true rfl) ?_
          refine lv_if_eq (tgt := 45) hx hb dX12_rain_38 (by decide) (fun _ => ?_) (fun c_15 => absurd c_15 (by decide))
          refine lv_iconst (v := 0) hx hb dX12_rain_45 (by decide) ?_
          refine lv_iadd hx hb dX12_rain_46 ?_
          refine lv_topc (y := 0) (by decide +kernel) ?_
          refine lv_istore_n (lv' := [(2, .int 0), (3, .int 2), (0, .ref h0), (1, .int i_0)]) hx hb dX12_rain_47 rfl hl (by decide) rfl (fun ls hl => ?_)
          refine lv_iinc (v := 3) (lv' := [(3, .int 3), (2, .int 0), (0, .ref h0), (1, .int i_0)]) hx hb dX12_rain_48 hl (k := 1) rfl (by decide) (by decide) rfl (fun ls hl => ?_)
          refine lv_goto (tgt := 28) hx hb dX12_rain_51 (by decide) ?_
          refine lv_iload_n hx hb dX12_rain_28 rfl (lv_at hl 0 rfl) ?_
          refine lv_iload_n hx hb dX12_rain_29 rfl (lv_at hl 3 rfl) ?_
          refine lv_icmp_ge (tgt := 54) hx hb dX12_rain_30 (by decide) (fun c_16 => ?_) (fun c_16 => ?_)
          · skip
            have tc_16 := f_le (k := 3) (by decide) c_16
            refine lv_iload_n hx hb dX12_rain_54 rfl (lv_at hl 1 rfl) ?_
            refine lv_if_le (tgt := 62) hx hb dX12_rain_55 (by decide) (fun _ => ?_) (fun c_17 => absurd c_17 (by decide))
            refine lv_iload_n hx hb dX12_rain_62 rfl (lv_at hl 1 rfl) ?_
            refine W.widen (k := 0) (n := 0) (Nat.le_of_ble_eq_true rfl) (Nat.le_of_ble_eq_true rfl) ?_
            exact e_i (u := []) hx hb hr hlocks (hP.sub (ws' := []) [] rfl) (hD.sub (ws' := []) [] (by decide) rfl) hS ⟨(by unfold F_rain; (repeat' split) <;> first | rfl | (exfalso; omega)), rfl⟩ dX12_rain_63
          · skip
            have tc_16 := f_nle (k := 3) (by decide) c_16
            refine lv_iload_n hx hb dX12_rain_33 rfl (lv_at hl 1 rfl) ?_
            refine lv_aload_n hx hb dX12_rain_34 rfl (lv_at hl 2 rfl) ?_
            have hPc := hP.sub (ws' := [(h0, .inr (12, [.int 0, .ref a_al, .ref a_hi, .ref a_mt, .ref a_fr, .int 0, .int 0, .int 0, .int 0, .int 0, .int 0, .int 0, .int 0, .int 0, .int (-1), .ref a_rk, .int 0, .ref a_on, .ref a_aw, .ref a_ro, .int 0, .ref a_ws, .ref a_ah, .int 0, .int 0, .int 0, .ref a_cl, .ref a_us, .ref a_mo, .ref a_to, .ref a_mb, .ref a_le, .int 0, .ref a_rs, .ref a_rm, .ref a_nu])), (a_al, .inl (cI, 3906, .inl plc))]) [1, 2] rfl
            have hDc := hD.sub (ws' := [(h0, .inr (12, [.int 0, .ref a_al, .ref a_hi, .ref a_mt, .ref a_fr, .int 0, .int 0, .int 0, .int 0, .int 0, .int 0, .int 0, .int 0, .int 0, .int (-1), .ref a_rk, .int 0, .ref a_on, .ref a_aw, .ref a_ro, .int 0, .ref a_ws, .ref a_ah, .int 0, .int 0, .int 0, .ref a_cl, .ref a_us, .ref a_mo, .ref a_to, .ref a_mb, .ref a_le, .int 0, .ref a_rs, .ref a_rm, .ref a_nu])), (a_al, .inl (cI, 3906, .inl plc))]) [1, 2] (by decide) rfl
            refine k_i (wc := [(h0, .inr (12, [.int 0, .ref a_al, .ref a_hi, .ref a_mt, .ref a_fr, .int 0, .int 0, .int 0, .int 0, .int 0, .int 0, .int 0, .int 0, .int 0, .int (-1), .ref a_rk, .int 0, .ref a_on, .ref a_aw, .ref a_ro, .int 0, .ref a_ws, .ref a_ah, .int 0, .int 0, .int 0, .ref a_cl, .ref a_us, .ref a_mo, .ref a_to, .ref a_mb, .ref a_le, .int 0, .ref a_rs, .ref a_rm, .ref a_nu])), (a_al, .inl (cI, 3906, .inl plc))]) (wr := [(a_ws, .inl (cI, 31, .inl f_3))]) hP hD hS hA [1, 2] [0] rfl rfl rfl (by decide) (r_V (n := 0) (As := []) (ci := 12) (q0 := 0) hx hb hml hown hts hkb hPc hDc (c_rains l D cB cI cJ cZ cS cW cT cR h0 a_al a_hi a_mt a_fr a_rk a_on a_aw a_ro a_ws a_ah a_cl a_us a_mo a_to a_mb a_le a_rs a_rm a_nu) kw_1582 kw_1584 ks_85 kw_13 kw_1585 (by decide +kernel) ⟨Nat.le_of_ble_eq_true rfl, Nat.le_of_ble_eq_true rfl⟩ rfl rfl rfl rfl hl.1 (Nat.le_of_ble_eq_true rfl) dX12_rain_35 ⟨Nat.le_of_ble_eq_true rfl, Nat.le_of_ble_eq_true rfl⟩) (fun r_18 u H locs hw hP hD hS => ?_)
            obtain ⟨rfl, rfl⟩ := hw
            have hP : va_P D cls [(a_ws, .inl (cI, 31, .inl f_3)), (h0, .inr (12, [.int 0, .ref a_al, .ref a_hi, .ref a_mt, .ref a_fr, .int 0, .int 0, .int 0, .int 0, .int 0, .int 0, .int 0, .int 0, .int 0, .int (-1), .ref a_rk, .int 0, .ref a_on, .ref a_aw, .ref a_ro, .int 0, .ref a_ws, .ref a_ah, .int 0, .int 0, .int 0, .ref a_cl, .ref a_us, .ref a_mo, .ref a_to, .ref a_mb, .ref a_le, .int 0, .ref a_rs, .ref a_rm, .ref a_nu])), (a_al, .inl (cI, 3906, .inl plc))] H := hP
            have hD : va_D A [(a_ws, .inl (cI, 31, .inl f_3)), (h0, .inr (12, [.int 0, .ref a_al, .ref a_hi, .ref a_mt, .ref a_fr, .int 0, .int 0, .int 0, .int 0, .int 0, .int 0, .int 0, .int 0, .int 0, .int (-1), .ref a_rk, .int 0, .ref a_on, .ref a_aw, .ref a_ro, .int 0, .ref a_ws, .ref a_ah, .int 0, .int 0, .int 0, .ref a_cl, .ref a_us, .ref a_mo, .ref a_to, .ref a_mb, .ref a_le, .int 0, .ref a_rs, .ref a_rm, .ref a_nu])), (a_al, .inl (cI, 3906, .inl plc))] := hD
            refine W.widen (k := 0) (n := 0) (Nat.le_of_ble_eq_true rfl) (Nat.le_of_ble_eq_true rfl) ?_
            refine lv_if_eq (tgt := 45) hx hb dX12_rain_38 (by decide) (fun _ => ?_) (fun c_19 => absurd c_19 (by decide))
            refine lv_iconst (v := 0) hx hb dX12_rain_45 (by decide) ?_
            refine lv_iadd hx hb dX12_rain_46 ?_
            refine lv_topc (y := 0) (by decide +kernel) ?_
            refine lv_istore_n (lv' := [(2, .int 0), (3, .int 3), (0, .ref h0), (1, .int i_0)]) hx hb dX12_rain_47 rfl hl (by decide) rfl (fun ls hl => ?_)
            refine lv_iinc (v := 4) (lv' := [(3, .int 4), (2, .int 0), (0, .ref h0), (1, .int i_0)]) hx hb dX12_rain_48 hl (k := 1) rfl (by decide) (by decide) rfl (fun ls hl => ?_)
            refine lv_goto (tgt := 28) hx hb dX12_rain_51 (by decide) ?_
            refine lv_iload_n hx hb dX12_rain_28 rfl (lv_at hl 0 rfl) ?_
            refine lv_iload_n hx hb dX12_rain_29 rfl (lv_at hl 3 rfl) ?_
            refine lv_icmp_ge (tgt := 54) hx hb dX12_rain_30 (by decide) (fun c_20 => ?_) (fun c_20 => ?_)
            · skip
              have tc_20 := f_le (k := 4) (by decide) c_20
              refine lv_iload_n hx hb dX12_rain_54 rfl (lv_at hl 1 rfl) ?_
              refine lv_if_le (tgt := 62) hx hb dX12_rain_55 (by decide) (fun _ => ?_) (fun c_21 => absurd c_21 (by decide))
              refine lv_iload_n hx hb dX12_rain_62 rfl (lv_at hl 1 rfl) ?_
              refine W.widen (k := 0) (n := 0) (Nat.le_of_ble_eq_true rfl) (Nat.le_of_ble_eq_true rfl) ?_
              exact e_i (u := []) hx hb hr hlocks (hP.sub (ws' := []) [] rfl) (hD.sub (ws' := []) [] (by decide) rfl) hS ⟨(by unfold F_rain; (repeat' split) <;> first | rfl | (exfalso; omega)), rfl⟩ dX12_rain_63
            · skip
              have tc_20 := f_nle (k := 4) (by decide) c_20
              refine lv_iload_n hx hb dX12_rain_33 rfl (lv_at hl 1 rfl) ?_
              refine lv_aload_n hx hb dX12_rain_34 rfl (lv_at hl 2 rfl) ?_
              have hPc := hP.sub (ws' := [(h0, .inr (12, [.int 0, .ref a_al, .ref a_hi, .ref a_mt, .ref a_fr, .int 0, .int 0, .int 0, .int 0, .int 0, .int 0, .int 0, .int 0, .int 0, .int (-1), .ref a_rk, .int 0, .ref a_on, .ref a_aw, .ref a_ro, .int 0, .ref a_ws, .ref a_ah, .int 0, .int 0, .int 0, .ref a_cl, .ref a_us, .ref a_mo, .ref a_to, .ref a_mb, .ref a_le, .int 0, .ref a_rs, .ref a_rm, .ref a_nu])), (a_al, .inl (cI, 3906, .inl plc))]) [1, 2] rfl
              have hDc := hD.sub (ws' := [(h0, .inr (12, [.int 0, .ref a_al, .ref a_hi, .ref a_mt, .ref a_fr, .int 0, .int 0, .int 0, .int 0, .int 0, .int 0, .int 0, .int 0, .int 0, .int (-1), .ref a_rk, .int 0, .ref a_on, .ref a_aw, .ref a_ro, .int 0, .ref a_ws, .ref a_ah, .int 0, .int 0, .int 0, .ref a_cl, .ref a_us, .ref a_mo, .ref a_to, .ref a_mb, .ref a_le, .int 0, .ref a_rs, .ref a_rm, .ref a_nu])), (a_al, .inl (cI, 3906, .inl plc))]) [1, 2] (by decide) rfl
              refine k_i (wc := [(h0, .inr (12, [.int 0, .ref a_al, .ref a_hi, .ref a_mt, .ref a_fr, .int 0, .int 0, .int 0, .int 0, .int 0, .int 0, .int 0, .int 0, .int 0, .int (-1), .ref a_rk, .int 0, .ref a_on, .ref a_aw, .ref a_ro, .int 0, .ref a_ws, .ref a_ah, .int 0, .int 0, .int 0, .ref a_cl, .ref a_us, .ref a_mo, .ref a_to, .ref a_mb, .ref a_le, .int 0, .ref a_rs, .ref a_rm, .ref a_nu])), (a_al, .inl (cI, 3906, .inl plc))]) (wr := [(a_ws, .inl (cI, 31, .inl f_3))]) hP hD hS hA [1, 2] [0] rfl rfl rfl (by decide) (r_V (n := 0) (As := []) (ci := 12) (q0 := 0) hx hb hml hown hts hkb hPc hDc (c_rains l D cB cI cJ cZ cS cW cT cR h0 a_al a_hi a_mt a_fr a_rk a_on a_aw a_ro a_ws a_ah a_cl a_us a_mo a_to a_mb a_le a_rs a_rm a_nu) kw_1582 kw_1584 ks_85 kw_13 kw_1585 (by decide +kernel) ⟨Nat.le_of_ble_eq_true rfl, Nat.le_of_ble_eq_true rfl⟩ rfl rfl rfl rfl hl.1 (Nat.le_of_ble_eq_true rfl) dX12_rain_35 ⟨Nat.le_of_ble_eq_true rfl, Nat.le_of_ble_eq_true rfl⟩) (fun r_22 u H locs hw hP hD hS => ?_)
              obtain ⟨rfl, rfl⟩ := hw
              have hP : va_P D cls [(a_ws, .inl (cI, 31, .inl f_3)), (h0, .inr (12, [.int 0, .ref a_al, .ref a_hi, .ref a_mt, .ref a_fr, .int 0, .int 0, .int 0, .int 0, .int 0, .int 0, .int 0, .int 0, .int 0, .int (-1), .ref a_rk, .int 0, .ref a_on, .ref a_aw, .ref a_ro, .int 0, .ref a_ws, .ref a_ah, .int 0, .int 0, .int 0, .ref a_cl, .ref a_us, .ref a_mo, .ref a_to, .ref a_mb, .ref a_le, .int 0, .ref a_rs, .ref a_rm, .ref a_nu])), (a_al, .inl (cI, 3906, .inl plc))] H := hP
              have hD : va_D A [(a_ws, .inl (cI, 31, .inl f_3)), (h0, .inr (12, [.int 0, .ref a_al, .ref a_hi, .ref a_mt, .ref a_fr, .int 0, .int 0, .int 0, .int 0, .int 0, .int 0, .int 0, .int 0, .int 0, .int (-1), .ref a_rk, .int 0, .ref a_on, .ref a_aw, .ref a_ro, .int 0, .ref a_ws, .ref a_ah, .int 0, .int 0, .int 0, .ref a_cl, .ref a_us, .ref a_mo, .ref a_to, .ref a_mb, .ref a_le, .int 0, .ref a_rs, .ref a_rm, .ref a_nu])), (a_al, .inl (cI, 3906, .inl plc))] := hD
              refine W.widen (k := 0) (n := 0) (Nat.le_of_ble_eq_true rfl) (Nat.le_of_ble_eq_true rfl) ?_
              refine lv_if_eq (tgt := 45) hx hb dX12_rain_38 (by decide) (fun _ => ?_) (fun c_23 => absurd c_23 (by decide))
              refine lv_iconst (v := 0) hx hb dX12_rain_45 (by decide) ?_
              refine lv_iadd hx hb dX12_rain_46 ?_
              refine lv_topc (y := 0) (by decide +kernel) ?_
              refine lv_istore_n (lv' := [(2, .int 0), (3, .int 4), (0, .ref h0), (1, .int i_0)]) hx hb dX12_rain_47 rfl hl (by decide) rfl (fun ls hl => ?_)
              refine lv_iinc (v := 5) (lv' := [(3, .int 5), (2, .int 0), (0, .ref h0), (1, .int i_0)]) hx hb dX12_rain_48 hl (k := 1) rfl (by decide) (by decide) rfl (fun ls hl => ?_)
              refine lv_goto (tgt := 28) hx hb dX12_rain_51 (by decide) ?_
              refine lv_iload_n hx hb dX12_rain_28 rfl (lv_at hl 0 rfl) ?_
              refine lv_iload_n hx hb dX12_rain_29 rfl (lv_at hl 3 rfl) ?_
              refine lv_icmp_ge (tgt := 54) hx hb dX12_rain_30 (by decide) (fun c_24 => ?_) (fun c_24 => ?_)
              · skip
                have tc_24 := f_le (k := 5) (by decide) c_24
                refine lv_iload_n hx hb dX12_rain_54 rfl (lv_at hl 1 rfl) ?_
                refine lv_if_le (tgt := 62) hx hb dX12_rain_55 (by decide) (fun _ => ?_) (fun c_25 => absurd c_25 (by decide))
                refine lv_iload_n hx hb dX12_rain_62 rfl (lv_at hl 1 rfl) ?_
                refine W.widen (k := 0) (n := 0) (Nat.le_of_ble_eq_true rfl) (Nat.le_of_ble_eq_true rfl) ?_
                exact e_i (u := []) hx hb hr hlocks (hP.sub (ws' := []) [] rfl) (hD.sub (ws' := []) [] (by decide) rfl) hS ⟨(by unfold F_rain; (repeat' split) <;> first | rfl | (exfalso; omega)), rfl⟩ dX12_rain_63
              · skip
                have tc_24 := f_nle (k := 5) (by decide) c_24
                refine lv_iload_n hx hb dX12_rain_33 rfl (lv_at hl 1 rfl) ?_
                refine lv_aload_n hx hb dX12_rain_34 rfl (lv_at hl 2 rfl) ?_
                have hPc := hP.sub (ws' := [(h0, .inr (12, [.int 0, .ref a_al, .ref a_hi, .ref a_mt, .ref a_fr, .int 0, .int 0, .int 0, .int 0, .int 0, .int 0, .int 0, .int 0, .int 0, .int (-1), .ref a_rk, .int 0, .ref a_on, .ref a_aw, .ref a_ro, .int 0, .ref a_ws, .ref a_ah, .int 0, .int 0, .int 0, .ref a_cl, .ref a_us, .ref a_mo, .ref a_to, .ref a_mb, .ref a_le, .int 0, .ref a_rs, .ref a_rm, .ref a_nu])), (a_al, .inl (cI, 3906, .inl plc))]) [1, 2] rfl
                have hDc := hD.sub (ws' := [(h0, .inr (12, [.int 0, .ref a_al, .ref a_hi, .ref a_mt, .ref a_fr, .int 0, .int 0, .int 0, .int 0, .int 0, .int 0, .int 0, .int 0, .int 0, .int (-1), .ref a_rk, .int 0, .ref a_on, .ref a_aw, .ref a_ro, .int 0, .ref a_ws, .ref a_ah, .int 0, .int 0, .int 0, .ref a_cl, .ref a_us, .ref a_mo, .ref a_to, .ref a_mb, .ref a_le, .int 0, .ref a_rs, .ref a_rm, .ref a_nu])), (a_al, .inl (cI, 3906, .inl plc))]) [1, 2] (by decide) rfl
                refine k_i (wc := [(h0, .inr (12, [.int 0, .ref a_al, .ref a_hi, .ref a_mt, .ref a_fr, .int 0, .int 0, .int 0, .int 0, .int 0, .int 0, .int 0, .int 0, .int 0, .int (-1), .ref a_rk, .int 0, .ref a_on, .ref a_aw, .ref a_ro, .int 0, .ref a_ws, .ref a_ah, .int 0, .int 0, .int 0, .ref a_cl, .ref a_us, .ref a_mo, .ref a_to, .ref a_mb, .ref a_le, .int 0, .ref a_rs, .ref a_rm, .ref a_nu])), (a_al, .inl (cI, 3906, .inl plc))]) (wr := [(a_ws, .inl (cI, 31, .inl f_3))]) hP hD hS hA [1, 2] [0] rfl rfl rfl (by decide) (r_V (n := 0) (As := []) (ci := 12) (q0 := 0) hx hb hml hown hts hkb hPc hDc (c_rains l D cB cI cJ cZ cS cW cT cR h0 a_al a_hi a_mt a_fr a_rk a_on a_aw a_ro a_ws a_ah a_cl a_us a_mo a_to a_mb a_le a_rs a_rm a_nu) kw_1582 kw_1584 ks_85 kw_13 kw_1585 (by decide +kernel) ⟨Nat.le_of_ble_eq_true rfl, Nat.le_of_ble_eq_true rfl⟩ rfl rfl rfl rfl hl.1 (Nat.le_of_ble_eq_true rfl) dX12_rain_35 ⟨Nat.le_of_ble_eq_true rfl, Nat.le_of_ble_eq_true rfl⟩) (fun r_26 u H locs hw hP hD hS => ?_)
                obtain ⟨rfl, rfl⟩ := hw
                have hP : va_P D cls [(a_ws, .inl (cI, 31, .inl f_3)), (h0, .inr (12, [.int 0, .ref a_al, .ref a_hi, .ref a_mt, .ref a_fr, .int 0, .int 0, .int 0, .int 0, .int 0, .int 0, .int 0, .int 0, .int 0, .int (-1), .ref a_rk, .int 0, .ref a_on, .ref a_aw, .ref a_ro, .int 0, .ref a_ws, .ref a_ah, .int 0, .int 0, .int 0, .ref a_cl, .ref a_us, .ref a_mo, .ref a_to, .ref a_mb, .ref a_le, .int 0, .ref a_rs, .ref a_rm, .ref a_nu])), (a_al, .inl (cI, 3906, .inl plc))] H := hP
                have hD : va_D A [(a_ws, .inl (cI, 31, .inl f_3)), (h0, .inr (12, [.int 0, .ref a_al, .ref a_hi, .ref a_mt, .ref a_fr, .int 0, .int 0, .int 0, .int 0, .int 0, .int 0, .int 0, .int 0, .int 0, .int (-1), .ref a_rk, .int 0, .ref a_on, .ref a_aw, .ref a_ro, .int 0, .ref a_ws, .ref a_ah, .int 0, .int 0, .int 0, .ref a_cl, .ref a_us, .ref a_mo, .ref a_to, .ref a_mb, .ref a_le, .int 0, .ref a_rs, .ref a_rm, .ref a_nu])), (a_al, .inl (cI, 3906, .inl plc))] := hD
                refine W.widen (k := 0) (n := 0) (Nat.le_of_ble_eq_true rfl) (Nat.le_of_ble_eq_true rfl) ?_
                refine lv_if_eq (tgt := 45) hx hb dX12_rain_38 (by decide) (fun _ => ?_) (fun c_27 => absurd c_27 (by decide))
                refine lv_iconst (v := 0) hx hb dX12_rain_45 (by decide) ?_
                refine lv_iadd hx hb dX12_rain_46 ?_
                refine lv_topc (y := 0) (by decide +kernel) ?_
                refine lv_istore_n (lv' := [(2, .int 0), (3, .int 5), (0, .ref h0), (1, .int i_0)]) hx hb dX12_rain_47 rfl hl (by decide) rfl (fun ls hl => ?_)
                refine lv_iinc (v := 6) (lv' := [(3, .int 6), (2, .int 0), (0, .ref h0), (1, .int i_0)]) hx hb dX12_rain_48 hl (k := 1) rfl (by decide) (by decide) rfl (fun ls hl => ?_)
                refine lv_goto (tgt := 28) hx hb dX12_rain_51 (by decide) ?_
                refine lv_iload_n hx hb dX12_rain_28 rfl (lv_at hl 0 rfl) ?_
                refine lv_iload_n hx hb dX12_rain_29 rfl (lv_at hl 3 rfl) ?_
                refine lv_icmp_ge (tgt := 54) hx hb dX12_rain_30 (by decide) (fun c_28 => ?_) (fun c_28 => ?_)
                · skip
                  have tc_28 := f_le (k := 6) (by decide) c_28
                  refine lv_iload_n hx hb dX12_rain_54 rfl (lv_at hl 1 rfl) ?_
                  refine lv_if_le (tgt := 62) hx hb dX12_rain_55 (by decide) (fun _ => ?_) (fun c_29 => absurd c_29 (by decide))
                  refine lv_iload_n hx hb dX12_rain_62 rfl (lv_at hl 1 rfl) ?_
                  refine W.widen (k := 0) (n := 0) (Nat.le_of_ble_eq_true rfl) (Nat.le_of_ble_eq_true rfl) ?_
                  exact e_i (u := []) hx hb hr hlocks (hP.sub (ws' := []) [] rfl) (hD.sub (ws' := []) [] (by decide) rfl) hS ⟨(by unfold F_rain; (repeat' split) <;> first | rfl | (exfalso; omega)), rfl⟩ dX12_rain_63
                · skip
                  have tc_28 := f_nle (k := 6) (by decide) c_28
                  refine lv_iload_n hx hb dX12_rain_33 rfl (lv_at hl 1 rfl) ?_
                  refine lv_aload_n hx hb dX12_rain_34 rfl (lv_at hl 2 rfl) ?_
                  have hPc := hP.sub (ws' := [(h0, .inr (12, [.int 0, .ref a_al, .ref a_hi, .ref a_mt, .ref a_fr, .int 0, .int 0, .int 0, .int 0, .int 0, .int 0, .int 0, .int 0, .int 0, .int (-1), .ref a_rk, .int 0, .ref a_on, .ref a_aw, .ref a_ro, .int 0, .ref a_ws, .ref a_ah, .int 0, .int 0, .int 0, .ref a_cl, .ref a_us, .ref a_mo, .ref a_to, .ref a_mb, .ref a_le, .int 0, .ref a_rs, .ref a_rm, .ref a_nu])), (a_al, .inl (cI, 3906, .inl plc))]) [1, 2] rfl
                  have hDc := hD.sub (ws' := [(h0, .inr (12, [.int 0, .ref a_al, .ref a_hi, .ref a_mt, .ref a_fr, .int 0, .int 0, .int 0, .int 0, .int 0, .int 0, .int 0, .int 0, .int 0, .int (-1), .ref a_rk, .int 0, .ref a_on, .ref a_aw, .ref a_ro, .int 0, .ref a_ws, .ref a_ah, .int 0, .int 0, .int 0, .ref a_cl, .ref a_us, .ref a_mo, .ref a_to, .ref a_mb, .ref a_le, .int 0, .ref a_rs, .ref a_rm, .ref a_nu])), (a_al, .inl (cI, 3906, .inl plc))]) [1, 2] (by decide) rfl
                  refine k_i (wc := [(h0, .inr (12, [.int 0, .ref a_al, .ref a_hi, .ref a_mt, .ref a_fr, .int 0, .int 0, .int 0, .int 0, .int 0, .int 0, .int 0, .int 0, .int 0, .int (-1), .ref a_rk, .int 0, .ref a_on, .ref a_aw, .ref a_ro, .int 0, .ref a_ws, .ref a_ah, .int 0, .int 0, .int 0, .ref a_cl, .ref a_us, .ref a_mo, .ref a_to, .ref a_mb, .ref a_le, .int 0, .ref a_rs, .ref a_rm, .ref a_nu])), (a_al, .inl (cI, 3906, .inl plc))]) (wr := [(a_ws, .inl (cI, 31, .inl f_3))]) hP hD hS hA [1, 2] [0] rfl rfl rfl (by decide) (r_V (n := 0) (As := []) (ci := 12) (q0 := 0) hx hb hml hown hts hkb hPc hDc (c_rains l D cB cI cJ cZ cS cW cT cR h0 a_al a_hi a_mt a_fr a_rk a_on a_aw a_ro a_ws a_ah a_cl a_us a_mo a_to a_mb a_le a_rs a_rm a_nu) kw_1582 kw_1584 ks_85 kw_13 kw_1585 (by decide +kernel) ⟨Nat.le_of_ble_eq_true rfl, Nat.le_of_ble_eq_true rfl⟩ rfl rfl rfl rfl hl.1 (Nat.le_of_ble_eq_true rfl) dX12_rain_35 ⟨Nat.le_of_ble_eq_true rfl, Nat.le_of_ble_eq_true rfl⟩) (fun r_30 u H locs hw hP hD hS => ?_)
                  obtain ⟨rfl, rfl⟩ := hw
                  have hP : va_P D cls [(a_ws, .inl (cI, 31, .inl f_3)), (h0, .inr (12, [.int 0, .ref a_al, .ref a_hi, .ref a_mt, .ref a_fr, .int 0, .int 0, .int 0, .int 0, .int 0, .int 0, .int 0, .int 0, .int 0, .int (-1), .ref a_rk, .int 0, .ref a_on, .ref a_aw, .ref a_ro, .int 0, .ref a_ws, .ref a_ah, .int 0, .int 0, .int 0, .ref a_cl, .ref a_us, .ref a_mo, .ref a_to, .ref a_mb, .ref a_le, .int 0, .ref a_rs, .ref a_rm, .ref a_nu])), (a_al, .inl (cI, 3906, .inl plc))] H := hP
                  have hD : va_D A [(a_ws, .inl (cI, 31, .inl f_3)), (h0, .inr (12, [.int 0, .ref a_al, .ref a_hi, .ref a_mt, .ref a_fr, .int 0, .int 0, .int 0, .int 0, .int 0, .int 0, .int 0, .int 0, .int 0, .int (-1), .ref a_rk, .int 0, .ref a_on, .ref a_aw, .ref a_ro, .int 0, .ref a_ws, .ref a_ah, .int 0, .int 0, .int 0, .ref a_cl, .ref a_us, .ref a_mo, .ref a_to, .ref a_mb, .ref a_le, .int 0, .ref a_rs, .ref a_rm, .ref a_nu])), (a_al, .inl (cI, 3906, .inl plc))] := hD
                  refine W.widen (k := 0) (n := 0) (Nat.le_of_ble_eq_true rfl) (Nat.le_of_ble_eq_true rfl) ?_
                  refine lv_if_eq (tgt := 45) hx hb dX12_rain_38 (by decide) (fun _ => ?_) (fun c_31 => absurd c_31 (by decide))
                  refine lv_iconst (v := 0) hx hb dX12_rain_45 (by decide) ?_
                  refine lv_iadd hx hb dX12_rain_46 ?_
                  refine lv_topc (y := 0) (by decide +kernel) ?_
                  refine lv_istore_n (lv' := [(2, .int 0), (3, .int 6), (0, .ref h0), (1, .int i_0)]) hx hb dX12_rain_47 rfl hl (by decide) rfl (fun ls hl => ?_)
                  refine lv_iinc (v := 7) (lv' := [(3, .int 7), (2, .int 0), (0, .ref h0), (1, .int i_0)]) hx hb dX12_rain_48 hl (k := 1) rfl (by decide) (by decide) rfl (fun ls hl => ?_)
                  refine lv_goto (tgt := 28) hx hb dX12_rain_51 (by decide) ?_
                  refine lv_iload_n hx hb dX12_rain_28 rfl (lv_at hl 0 rfl) ?_
                  refine lv_iload_n hx hb dX12_rain_29 rfl (lv_at hl 3 rfl) ?_
                  refine lv_icmp_ge (tgt := 54) hx hb dX12_rain_30 (by decide) (fun c_32 => ?_) (fun c_32 => ?_)
                  · skip
                    have tc_32 := f_le (k := 7) (by decide) c_32
                    refine lv_iload_n hx hb dX12_rain_54 rfl (lv_at hl 1 rfl) ?_
                    refine lv_if_le (tgt := 62) hx hb dX12_rain_55 (by decide) (fun _ => ?_) (fun c_33 => absurd c_33 (by decide))
                    refine lv_iload_n hx hb dX12_rain_62 rfl (lv_at hl 1 rfl) ?_
                    refine W.widen (k := 0) (n := 0) (Nat.le_of_ble_eq_true rfl) (Nat.le_of_ble_eq_true rfl) ?_
                    exact e_i (u := []) hx hb hr hlocks (hP.sub (ws' := []) [] rfl) (hD.sub (ws' := []) [] (by decide) rfl) hS ⟨(by unfold F_rain; (repeat' split) <;> first | rfl | (exfalso; omega)), rfl⟩ dX12_rain_63
                  · skip
                    have tc_32 := f_nle (k := 7) (by decide) c_32
                    refine lv_iload_n hx hb dX12_rain_33 rfl (lv_at hl 1 rfl) ?_
                    refine lv_aload_n hx hb dX12_rain_34 rfl (lv_at hl 2 rfl) ?_
                    have hPc := hP.sub (ws' := [(h0, .inr (12, [.int 0, .ref a_al, .ref a_hi, .ref a_mt, .ref a_fr, .int 0, .int 0, .int 0, .int 0, .int 0, .int 0, .int 0, .int 0, .int 0, .int (-1), .ref a_rk, .int 0, .ref a_on, .ref a_aw, .ref a_ro, .int 0, .ref a_ws, .ref a_ah, .int 0, .int 0, .int 0, .ref a_cl, .ref a_us, .ref a_mo, .ref a_to, .ref a_mb, .ref a_le, .int 0, .ref a_rs, .ref a_rm, .ref a_nu])), (a_al, .inl (cI, 3906, .inl plc))]) [1, 2] rfl
                    have hDc := hD.sub (ws' := [(h0, .inr (12, [.int 0, .ref a_al, .ref a_hi, .ref a_mt, .ref a_fr, .int 0, .int 0, .int 0, .int 0, .int 0, .int 0, .int 0, .int 0, .int 0, .int (-1), .ref a_rk, .int 0, .ref a_on, .ref a_aw, .ref a_ro, .int 0, .ref a_ws, .ref a_ah, .int 0, .int 0, .int 0, .ref a_cl, .ref a_us, .ref a_mo, .ref a_to, .ref a_mb, .ref a_le, .int 0, .ref a_rs, .ref a_rm, .ref a_nu])), (a_al, .inl (cI, 3906, .inl plc))]) [1, 2] (by decide) rfl
                    refine k_i (wc := [(h0, .inr (12, [.int 0, .ref a_al, .ref a_hi, .ref a_mt, .ref a_fr, .int 0, .int 0, .int 0, .int 0, .int 0, .int 0, .int 0, .int 0, .int 0, .int (-1), .ref a_rk, .int 0, .ref a_on, .ref a_aw, .ref a_ro, .int 0, .ref a_ws, .ref a_ah, .int 0, .int 0, .int 0, .ref a_cl, .ref a_us, .ref a_mo, .ref a_to, .ref a_mb, .ref a_le, .int 0, .ref a_rs, .ref a_rm, .ref a_nu])), (a_al, .inl (cI, 3906, .inl plc))]) (wr := [(a_ws, .inl (cI, 31, .inl f_3))]) hP hD hS hA [1, 2] [0] rfl rfl rfl (by decide) (r_V (n := 0) (As := []) (ci := 12) (q0 := 0) hx hb hml hown hts hkb hPc hDc (c_rains l D cB cI cJ cZ cS cW cT cR h0 a_al a_hi a_mt a_fr a_rk a_on a_aw a_ro a_ws a_ah a_cl a_us a_mo a_to a_mb a_le a_rs a_rm a_nu) kw_1582 kw_1584 ks_85 kw_13 kw_1585 (by decide +kernel) ⟨Nat.le_of_ble_eq_true rfl, Nat.le_of_ble_eq_true rfl⟩ rfl rfl rfl rfl hl.1 (Nat.le_of_ble_eq_true rfl) dX12_rain_35 ⟨Nat.le_of_ble_eq_true rfl, Nat.le_of_ble_eq_true rfl⟩) (fun r_34 u H locs hw hP hD hS => ?_)
                    obtain ⟨rfl, rfl⟩ := hw
                    have hP : va_P D cls [(a_ws, .inl (cI, 31, .inl f_3)), (h0, .inr (12, [.int 0, .ref a_al, .ref a_hi, .ref a_mt, .ref a_fr, .int 0, .int 0, .int 0, .int 0, .int 0, .int 0, .int 0, .int 0, .int 0, .int (-1), .ref a_rk, .int 0, .ref a_on, .ref a_aw, .ref a_ro, .int 0, .ref a_ws, .ref a_ah, .int 0, .int 0, .int 0, .ref a_cl, .ref a_us, .ref a_mo, .ref a_to, .ref a_mb, .ref a_le, .int 0, .ref a_rs, .ref a_rm, .ref a_nu])), (a_al, .inl (cI, 3906, .inl plc))] H := hP
                    have hD : va_D A [(a_ws, .inl (cI, 31, .inl f_3)), (h0, .inr (12, [.int 0, .ref a_al, .ref a_hi, .ref a_mt, .ref a_fr, .int 0, .int 0, .int 0, .int 0, .int 0, .int 0, .int 0, .int 0, .int 0, .int (-1), .ref a_rk, .int 0, .ref a_on, .ref a_aw, .ref a_ro, .int 0, .ref a_ws, .ref a_ah, .int 0, .int 0, .int 0, .ref a_cl, .ref a_us, .ref a_mo, .ref a_to, .ref a_mb, .ref a_le, .int 0, .ref a_rs, .ref a_rm, .ref a_nu])), (a_al, .inl (cI, 3906, .inl plc))] := hD
                    refine W.widen (k := 0) (n := 0) (Nat.le_of_ble_eq_true rfl) (Nat.le_of_ble_eq_true rfl) ?_
                    refine lv_if_eq (tgt := 45) hx hb dX12_rain_38 (by decide) (fun _ => ?_) (fun c_35 => absurd c_35 (by decide))
                    refine lv_iconst (v := 0) hx hb dX12_rain_45 (by decide) ?_
                    refine lv_iadd hx hb dX12_rain_46 ?_
                    refine lv_topc (y := 0) (by decide +kernel) ?_
                    refine lv_istore_n (lv' := [(2, .int 0), (3, .int 7), (0, .ref h0), (1, .int i_0)]) hx hb dX12_rain_47 rfl hl (by decide) rfl (fun ls hl => ?_)
                    refine lv_iinc (v := 8) (lv' := [(3, .int 8), (2, .int 0), (0, .ref h0), (1, .int i_0)]) hx hb dX12_rain_48 hl (k := 1) rfl (by decide) (by decide) rfl (fun ls hl => ?_)
                    refine lv_goto (tgt := 28) hx hb dX12_rain_51 (by decide) ?_
                    refine lv_iload_n hx hb dX12_rain_28 rfl (lv_at hl 0 rfl) ?_
                    refine lv_iload_n hx hb dX12_rain_29 rfl (lv_at hl 3 rfl) ?_
                    refine lv_icmp_ge (tgt := 54) hx hb dX12_rain_30 (by decide) (fun c_36 => ?_) (fun c_36 => ?_)
                    · skip
                      have tc_36 := f_le (k := 8) (by decide) c_36
                      refine lv_iload_n hx hb dX12_rain_54 rfl (lv_at hl 1 rfl) ?_
                      refine lv_if_le (tgt := 62) hx hb dX12_rain_55 (by decide) (fun _ => ?_) (fun c_37 => absurd c_37 (by decide))
                      refine lv_iload_n hx hb dX12_rain_62 rfl (lv_at hl 1 rfl) ?_
                      refine W.widen (k := 0) (n := 0) (Nat.le_of_ble_eq_true rfl) (Nat.le_of_ble_eq_true rfl) ?_
                      exact e_i (u := []) hx hb hr hlocks (hP.sub (ws' := []) [] rfl) (hD.sub (ws' := []) [] (by decide) rfl) hS ⟨(by unfold F_rain; (repeat' split) <;> first | rfl | (exfalso; omega)), rfl⟩ dX12_rain_63
                    · skip
                      have tc_36 := f_nle (k := 8) (by decide) c_36
                      refine lv_iload_n hx hb dX12_rain_33 rfl (lv_at hl 1 rfl) ?_
                      refine lv_aload_n hx hb dX12_rain_34 rfl (lv_at hl 2 rfl) ?_
                      have hPc := hP.sub (ws' := [(h0, .inr (12, [.int 0, .ref a_al, .ref a_hi, .ref a_mt, .ref a_fr, .int 0, .int 0, .int 0, .int 0, .int 0, .int 0, .int 0, .int 0, .int 0, .int (-1), .ref a_rk, .int 0, .ref a_on, .ref a_aw, .ref a_ro, .int 0, .ref a_ws, .ref a_ah, .int 0, .int 0, .int 0, .ref a_cl, .ref a_us, .ref a_mo, .ref a_to, .ref a_mb, .ref a_le, .int 0, .ref a_rs, .ref a_rm, .ref a_nu])), (a_al, .inl (cI, 3906, .inl plc))]) [1, 2] rfl
                      have hDc := hD.sub (ws' := [(h0, .inr (12, [.int 0, .ref a_al, .ref a_hi, .ref a_mt, .ref a_fr, .int 0, .int 0, .int 0, .int 0, .int 0, .int 0, .int 0, .int 0, .int 0, .int (-1), .ref a_rk, .int 0, .ref a_on, .ref a_aw, .ref a_ro, .int 0, .ref a_ws, .ref a_ah, .int 0, .int 0, .int 0, .ref a_cl, .ref a_us, .ref a_mo, .ref a_to, .ref a_mb, .ref a_le, .int 0, .ref a_rs, .ref a_rm, .ref a_nu])), (a_al, .inl (cI, 3906, .inl plc))]) [1, 2] (by decide) rfl
                      refine k_i (wc := [(h0, .inr (12, [.int 0, .ref a_al, .ref a_hi, .ref a_mt, .ref a_fr, .int 0, .int 0, .int 0, .int 0, .int 0, .int 0, .int 0, .int 0, .int 0, .int (-1), .ref a_rk, .int 0, .ref a_on, .ref a_aw, .ref a_ro, .int 0, .ref a_ws, .ref a_ah, .int 0, .int 0, .int 0, .ref a_cl, .ref a_us, .ref a_mo, .ref a_to, .ref a_mb, .ref a_le, .int 0, .ref a_rs, .ref a_rm, .ref a_nu])), (a_al, .inl (cI, 3906, .inl plc))]) (wr := [(a_ws, .inl (cI, 31, .inl f_3))]) hP hD hS hA [1, 2] [0] rfl rfl rfl (by decide) (r_V (n := 0) (As := []) (ci := 12) (q0 := 0) hx hb hml hown hts hkb hPc hDc (c_rains l D cB cI cJ cZ cS cW cT cR h0 a_al a_hi a_mt a_fr a_rk a_on a_aw a_ro a_ws a_ah a_cl a_us a_mo a_to a_mb a_le a_rs a_rm a_nu) kw_1582 kw_1584 ks_85 kw_13 kw_1585 (by decide +kernel) ⟨Nat.le_of_ble_eq_true rfl, Nat.le_of_ble_eq_true rfl⟩ rfl rfl rfl rfl hl.1 (Nat.le_of_ble_eq_true rfl) dX12_rain_35 ⟨Nat.le_of_ble_eq_true rfl, Nat.le_of_ble_eq_true rfl⟩) (fun r_38 u H locs hw hP hD hS => ?_)
                      obtain ⟨rfl, rfl⟩ := hw
                      have hP : va_P D cls [(a_ws, .inl (cI, 31, .inl f_3)), (h0, .inr (12, [.int 0, .ref a_al, .ref a_hi, .ref a_mt, .ref a_fr, .int 0, .int 0, .int 0, .int 0, .int 0, .int 0, .int 0, .int 0, .int 0, .int (-1), .ref a_rk, .int 0, .ref a_on, .ref a_aw, .ref a_ro, .int 0, .ref a_ws, .ref a_ah, .int 0, .int 0, .int 0, .ref a_cl, .ref a_us, .ref a_mo, .ref a_to, .ref a_mb, .ref a_le, .int 0, .ref a_rs, .ref a_rm, .ref a_nu])), (a_al, .inl (cI, 3906, .inl plc))] H := hP
                      have hD : va_D A [(a_ws, .inl (cI, 31, .inl f_3)), (h0, .inr (12, [.int 0, .ref a_al, .ref a_hi, .ref a_mt, .ref a_fr, .int 0, .int 0, .int 0, .int 0, .int 0, .int 0, .int 0, .int 0, .int 0, .int (-1), .ref a_rk, .int 0, .ref a_on, .ref a_aw, .ref a_ro, .int 0, .ref a_ws, .ref a_ah, .int 0, .int 0, .int 0, .ref a_cl, .ref a_us, .ref a_mo, .ref a_to, .ref a_mb, .ref a_le, .int 0, .ref a_rs, .ref a_rm, .ref a_nu])), (a_al, .inl (cI, 3906, .inl plc))] := hD
                      refine W.widen (k := 0) (n := 0) (Nat.le_of_ble_eq_true rfl) (Nat.le_of_ble_eq_true rfl) ?_
                      refine lv_if_eq (tgt := 45) hx hb dX12_rain_38 (by decide) (fun _ => ?_) (fun c_39 => absurd c_39 (by decide))
                      refine lv_iconst (v := 0) hx hb dX12_rain_45 (by decide) ?_
                      refine lv_iadd hx hb dX12_rain_46 ?_
                      refine lv_topc (y := 0) (by decide +kernel) ?_
                      refine lv_istore_n (lv' := [(2, .int 0), (3, .int 8), (0, .ref h0), (1, .int i_0)]) hx hb dX12_rain_47 rfl hl (by decide) rfl (fun ls hl => ?_)
                      refine lv_iinc (v := 9) (lv' := [(3, .int 9), (2, .int 0), (0, .ref h0), (1, .int i_0)]) hx hb dX12_rain_48 hl (k := 1) rfl (by decide) (by decide) rfl (fun ls hl => ?_)
                      refine lv_goto (tgt := 28) hx hb dX12_rain_51 (by decide) ?_
                      refine lv_iload_n hx hb dX12_rain_28 rfl (lv_at hl 0 rfl) ?_
                      refine lv_iload_n hx hb dX12_rain_29 rfl (lv_at hl 3 rfl) ?_
                      refine lv_icmp_ge (tgt := 54) hx hb dX12_rain_30 (by decide) (fun c_40 => ?_) (fun c_40 => ?_)
                      · skip
                        have tc_40 := f_le (k := 9) (by decide) c_40
                        refine lv_iload_n hx hb dX12_rain_54 rfl (lv_at hl 1 rfl) ?_
                        refine lv_if_le (tgt := 62) hx hb dX12_rain_55 (by decide) (fun _ => ?_) (fun c_41 => absurd c_41 (by decide))
                        refine lv_iload_n hx hb dX12_rain_62 rfl (lv_at hl 1 rfl) ?_
                        refine W.widen (k := 0) (n := 0) (Nat.le_of_ble_eq_true rfl) (Nat.le_of_ble_eq_true rfl) ?_
                        exact e_i (u := []) hx hb hr hlocks (hP.sub (ws' := []) [] rfl) (hD.sub (ws' := []) [] (by decide) rfl) hS ⟨(by unfold F_rain; (repeat' split) <;> first | rfl | (exfalso; omega)), rfl⟩ dX12_rain_63
                      · skip
                        have tc_40 := f_nle (k := 9) (by decide) c_40
                        refine lv_iload_n hx hb dX12_rain_33 rfl (lv_at hl 1 rfl) ?_
                        refine lv_aload_n hx hb dX12_rain_34 rfl (lv_at hl 2 rfl) ?_
                        have hPc := hP.sub (ws' := [(h0, .inr (12, [.int 0, .ref a_al, .ref a_hi, .ref a_mt, .ref a_fr, .int 0, .int 0, .int 0, .int 0, .int 0, .int 0, .int 0, .int 0, .int 0, .int (-1), .ref a_rk, .int 0, .ref a_on, .ref a_aw, .ref a_ro, .int 0, .ref a_ws, .ref a_ah, .int 0, .int 0, .int 0, .ref a_cl, .ref a_us, .ref a_mo, .ref a_to, .ref a_mb, .ref a_le, .int 0, .ref a_rs, .ref a_rm, .ref a_nu])), (a_al, .inl (cI, 3906, .inl plc))]) [1, 2] rfl
                        have hDc := hD.sub (ws' := [(h0, .inr (12, [.int 0, .ref a_al, .ref a_hi, .ref a_mt, .ref a_fr, .int 0, .int 0, .int 0, .int 0, .int 0, .int 0, .int 0, .int 0, .int 0, .int (-1), .ref a_rk, .int 0, .ref a_on, .ref a_aw, .ref a_ro, .int 0, .ref a_ws, .ref a_ah, .int 0, .int 0, .int 0, .ref a_cl, .ref a_us, .ref a_mo, .ref a_to, .ref a_mb, .ref a_le, .int 0, .ref a_rs, .ref a_rm, .ref a_nu])), (a_al, .inl (cI, 3906, .inl plc))]) [1, 2] (by decide) rfl
                        refine k_i (wc := [(h0, .inr (12, [.int 0, .ref a_al, .ref a_hi, .ref a_mt, .ref a_fr, .int 0, .int 0, .int 0, .int 0, .int 0, .int 0, .int 0, .int 0, .int 0, .int (-1), .ref a_rk, .int 0, .ref a_on, .ref a_aw, .ref a_ro, .int 0, .ref a_ws, .ref a_ah, .int 0, .int 0, .int 0, .ref a_cl, .ref a_us, .ref a_mo, .ref a_to, .ref a_mb, .ref a_le, .int 0, .ref a_rs, .ref a_rm, .ref a_nu])), (a_al, .inl (cI, 3906, .inl plc))]) (wr := [(a_ws, .inl (cI, 31, .inl f_3))]) hP hD hS hA [1, 2] [0] rfl rfl rfl (by decide) (r_V (n := 0) (As := []) (ci := 12) (q0 := 0) hx hb hml hown hts hkb hPc hDc (c_rains l D cB cI cJ cZ cS cW cT cR h0 a_al a_hi a_mt a_fr a_rk a_on a_aw a_ro a_ws a_ah a_cl a_us a_mo a_to a_mb a_le a_rs a_rm a_nu) kw_1582 kw_1584 ks_85 kw_13 kw_1585 (by decide +kernel) ⟨Nat.le_of_ble_eq_true rfl, Nat.le_of_ble_eq_true rfl⟩ rfl rfl rfl rfl hl.1 (Nat.le_of_ble_eq_true rfl) dX12_rain_35 ⟨Nat.le_of_ble_eq_true rfl, Nat.le_of_ble_eq_true rfl⟩) (fun r_42 u H locs hw hP hD hS => ?_)
                        obtain ⟨rfl, rfl⟩ := hw
                        have hP : va_P D cls [(a_ws, .inl (cI, 31, .inl f_3)), (h0, .inr (12, [.int 0, .ref a_al, .ref a_hi, .ref a_mt, .ref a_fr, .int 0, .int 0, .int 0, .int 0, .int 0, .int 0, .int 0, .int 0, .int 0, .int (-1), .ref a_rk, .int 0, .ref a_on, .ref a_aw, .ref a_ro, .int 0, .ref a_ws, .ref a_ah, .int 0, .int 0, .int 0, .ref a_cl, .ref a_us, .ref a_mo, .ref a_to, .ref a_mb, .ref a_le, .int 0, .ref a_rs, .ref a_rm, .ref a_nu])), (a_al, .inl (cI, 3906, .inl plc))] H := hP
                        have hD : va_D A [(a_ws, .inl (cI, 31, .inl f_3)), (h0, .inr (12, [.int 0, .ref a_al, .ref a_hi, .ref a_mt, .ref a_fr, .int 0, .int 0, .int 0, .int 0, .int 0, .int 0, .int 0, .int 0, .int 0, .int (-1), .ref a_rk, .int 0, .ref a_on, .ref a_aw, .ref a_ro, .int 0, .ref a_ws, .ref a_ah, .int 0, .int 0, .int 0, .ref a_cl, .ref a_us, .ref a_mo, .ref a_to, .ref a_mb, .ref a_le, .int 0, .ref a_rs, .ref a_rm, .ref a_nu])), (a_al, .inl (cI, 3906, .inl plc))] := hD
                        refine W.widen (k := 0) (n := 0) (Nat.le_of_ble_eq_true rfl) (Nat.le_of_ble_eq_true rfl) ?_
                        refine lv_if_eq (tgt := 45) hx hb dX12_rain_38 (by decide) (fun _ => ?_) (fun c_43 => absurd c_43 (by decide))
                        refine lv_iconst (v := 0) hx hb dX12_rain_45 (by decide) ?_
                        refine lv_iadd hx hb dX12_rain_46 ?_
                        refine lv_topc (y := 0) (by decide +kernel) ?_
                        refine lv_istore_n (lv' := [(2, .int 0), (3, .int 9), (0, .ref h0), (1, .int i_0)]) hx hb dX12_rain_47 rfl hl (by decide) rfl (fun ls hl => ?_)
                        refine lv_iinc (v := 10) (lv' := [(3, .int 10), (2, .int 0), (0, .ref h0), (1, .int i_0)]) hx hb dX12_rain_48 hl (k := 1) rfl (by decide) (by decide) rfl (fun ls hl => ?_)
                        refine lv_goto (tgt := 28) hx hb dX12_rain_51 (by decide) ?_
                        refine lv_iload_n hx hb dX12_rain_28 rfl (lv_at hl 0 rfl) ?_
                        refine lv_iload_n hx hb dX12_rain_29 rfl (lv_at hl 3 rfl) ?_
                        refine lv_icmp_ge (tgt := 54) hx hb dX12_rain_30 (by decide) (fun c_44 => ?_) (fun c_44 => ?_)
                        · skip
                          have tc_44 := f_le (k := 10) (by decide) c_44
                          refine lv_iload_n hx hb dX12_rain_54 rfl (lv_at hl 1 rfl) ?_
                          refine lv_if_le (tgt := 62) hx hb dX12_rain_55 (by decide) (fun _ => ?_) (fun c_45 => absurd c_45 (by decide))
                          refine lv_iload_n hx hb dX12_rain_62 rfl (lv_at hl 1 rfl) ?_
                          refine W.widen (k := 0) (n := 0) (Nat.le_of_ble_eq_true rfl) (Nat.le_of_ble_eq_true rfl) ?_
                          exact e_i (u := []) hx hb hr hlocks (hP.sub (ws' := []) [] rfl) (hD.sub (ws' := []) [] (by decide) rfl) hS ⟨(by unfold F_rain; (repeat' split) <;> first | rfl | (exfalso; omega)), rfl⟩ dX12_rain_63
                        · skip
                          have tc_44 := f_nle (k := 10) (by decide) c_44
                          refine lv_iload_n hx hb dX12_rain_33 rfl (lv_at hl 1 rfl) ?_
                          refine lv_aload_n hx hb dX12_rain_34 rfl (lv_at hl 2 rfl) ?_
                          have hPc := hP.sub (ws' := [(h0, .inr (12, [.int 0, .ref a_al, .ref a_hi, .ref a_mt, .ref a_fr, .int 0, .int 0, .int 0, .int 0, .int 0, .int 0, .int 0, .int 0, .int 0, .int (-1), .ref a_rk, .int 0, .ref a_on, .ref a_aw, .ref a_ro, .int 0, .ref a_ws, .ref a_ah, .int 0, .int 0, .int 0, .ref a_cl, .ref a_us, .ref a_mo, .ref a_to, .ref a_mb, .ref a_le, .int 0, .ref a_rs, .ref a_rm, .ref a_nu])), (a_al, .inl (cI, 3906, .inl plc))]) [1, 2] rfl
                          have hDc := hD.sub (ws' := [(h0, .inr (12, [.int 0, .ref a_al, .ref a_hi, .ref a_mt, .ref a_fr, .int 0, .int 0, .int 0, .int 0, .int 0, .int 0, .int 0, .int 0, .int 0, .int (-1), .ref a_rk, .int 0, .ref a_on, .ref a_aw, .ref a_ro, .int 0, .ref a_ws, .ref a_ah, .int 0, .int 0, .int 0, .ref a_cl, .ref a_us, .ref a_mo, .ref a_to, .ref a_mb, .ref a_le, .int 0, .ref a_rs, .ref a_rm, .ref a_nu])), (a_al, .inl (cI, 3906, .inl plc))]) [1, 2] (by decide) rfl
                          refine k_i (wc := [(h0, .inr (12, [.int 0, .ref a_al, .ref a_hi, .ref a_mt, .ref a_fr, .int 0, .int 0, .int 0, .int 0, .int 0, .int 0, .int 0, .int 0, .int 0, .int (-1), .ref a_rk, .int 0, .ref a_on, .ref a_aw, .ref a_ro, .int 0, .ref a_ws, .ref a_ah, .int 0, .int 0, .int 0, .ref a_cl, .ref a_us, .ref a_mo, .ref a_to, .ref a_mb, .ref a_le, .int 0, .ref a_rs, .ref a_rm, .ref a_nu])), (a_al, .inl (cI, 3906, .inl plc))]) (wr := [(a_ws, .inl (cI, 31, .inl f_3))]) hP hD hS hA [1, 2] [0] rfl rfl rfl (by decide) (r_V (n := 0) (As := []) (ci := 12) (q0 := 0) hx hb hml hown hts hkb hPc hDc (c_rains l D cB cI cJ cZ cS cW cT cR h0 a_al a_hi a_mt a_fr a_rk a_on a_aw a_ro a_ws a_ah a_cl a_us a_mo a_to a_mb a_le a_rs a_rm a_nu) kw_1582 kw_1584 ks_85 kw_13 kw_1585 (by decide +kernel) ⟨Nat.le_of_ble_eq_true rfl, Nat.le_of_ble_eq_true rfl⟩ rfl rfl rfl rfl hl.1 (Nat.le_of_ble_eq_true rfl) dX12_rain_35 ⟨Nat.le_of_ble_eq_true rfl, Nat.le_of_ble_eq_true rfl⟩) (fun r_46 u H locs hw hP hD hS => ?_)
                          obtain ⟨rfl, rfl⟩ := hw
                          have hP : va_P D cls [(a_ws, .inl (cI, 31, .inl f_3)), (h0, .inr (12, [.int 0, .ref a_al, .ref a_hi, .ref a_mt, .ref a_fr, .int 0, .int 0, .int 0, .int 0, .int 0, .int 0, .int 0, .int 0, .int 0, .int (-1), .ref a_rk, .int 0, .ref a_on, .ref a_aw, .ref a_ro, .int 0, .ref a_ws, .ref a_ah, .int 0, .int 0, .int 0, .ref a_cl, .ref a_us, .ref a_mo, .ref a_to, .ref a_mb, .ref a_le, .int 0, .ref a_rs, .ref a_rm, .ref a_nu])), (a_al, .inl (cI, 3906, .inl plc))] H := hP
                          have hD : va_D A [(a_ws, .inl (cI, 31, .inl f_3)), (h0, .inr (12, [.int 0, .ref a_al, .ref a_hi, .ref a_mt, .ref a_fr, .int 0, .int 0, .int 0, .int 0, .int 0, .int 0, .int 0, .int 0, .int 0, .int (-1), .ref a_rk, .int 0, .ref a_on, .ref a_aw, .ref a_ro, .int 0, .ref a_ws, .ref a_ah, .int 0, .int 0, .int 0, .ref a_cl, .ref a_us, .ref a_mo, .ref a_to, .ref a_mb, .ref a_le, .int 0, .ref a_rs, .ref a_rm, .ref a_nu])), (a_al, .inl (cI, 3906, .inl plc))] := hD
                          refine W.widen (k := 0) (n := 0) (Nat.le_of_ble_eq_true rfl) (Nat.le_of_ble_eq_true rfl) ?_
                          refine lv_if_eq (tgt := 45) hx hb dX12_rain_38 (by decide) (fun _ => ?_) (fun c_47 => absurd c_47 (by decide))
                          refine lv_iconst (v := 0) hx hb dX12_rain_45 (by decide) ?_
                          refine lv_iadd hx hb dX12_rain_46 ?_
                          refine lv_topc (y := 0) (by decide +kernel) ?_
                          refine lv_istore_n (lv' := [(2, .int 0), (3, .int 10), (0, .ref h0), (1, .int i_0)]) hx hb dX12_rain_47 rfl hl (by decide) rfl (fun ls hl => ?_)
                          refine lv_iinc (v := 11) (lv' := [(3, .int 11), (2, .int 0), (0, .ref h0), (1, .int i_0)]) hx hb dX12_rain_48 hl (k := 1) rfl (by decide) (by decide) rfl (fun ls hl => ?_)
                          refine lv_goto (tgt := 28) hx hb dX12_rain_51 (by decide) ?_
                          refine lv_iload_n hx hb dX12_rain_28 rfl (lv_at hl 0 rfl) ?_
                          refine lv_iload_n hx hb dX12_rain_29 rfl (lv_at hl 3 rfl) ?_
                          refine lv_icmp_ge (tgt := 54) hx hb dX12_rain_30 (by decide) (fun c_48 => ?_) (fun c_48 => ?_)
                          · skip
                            have tc_48 := f_le (k := 11) (by decide) c_48
                            refine lv_iload_n hx hb dX12_rain_54 rfl (lv_at hl 1 rfl) ?_
                            refine lv_if_le (tgt := 62) hx hb dX12_rain_55 (by decide) (fun _ => ?_) (fun c_49 => absurd c_49 (by decide))
                            refine lv_iload_n hx hb dX12_rain_62 rfl (lv_at hl 1 rfl) ?_
                            refine W.widen (k := 0) (n := 0) (Nat.le_of_ble_eq_true rfl) (Nat.le_of_ble_eq_true rfl) ?_
                            exact e_i (u := []) hx hb hr hlocks (hP.sub (ws' := []) [] rfl) (hD.sub (ws' := []) [] (by decide) rfl) hS ⟨(by unfold F_rain; (repeat' split) <;> first | rfl | (exfalso; omega)), rfl⟩ dX12_rain_63
                          · skip
                            have tc_48 := f_nle (k := 11) (by decide) c_48
                            refine lv_iload_n hx hb dX12_rain_33 rfl (lv_at hl 1 rfl) ?_
                            refine lv_aload_n hx hb dX12_rain_34 rfl (lv_at hl 2 rfl) ?_
                            have hPc := hP.sub (ws' := [(h0, .inr (12, [.int 0, .ref a_al, .ref a_hi, .ref a_mt, .ref a_fr, .int 0, .int 0, .int 0, .int 0, .int 0, .int 0, .int 0, .int 0, .int 0, .int (-1), .ref a_rk, .int 0, .ref a_on, .ref a_aw, .ref a_ro, .int 0, .ref a_ws, .ref a_ah, .int 0, .int 0, .int 0, .ref a_cl, .ref a_us, .ref a_mo, .ref a_to, .ref a_mb, .ref a_le, .int 0, .ref a_rs, .ref a_rm, .ref a_nu])), (a_al, .inl (cI, 3906, .inl plc))]) [1, 2] rfl
                            have hDc := hD.sub (ws' := [(h0, .inr (12, [.int 0, .ref a_al, .ref a_hi, .ref a_mt, .ref a_fr, .int 0, .int 0, .int 0, .int 0, .int 0, .int 0, .int 0, .int 0, .int 0, .int (-1), .ref a_rk, .int 0, .ref a_on, .ref a_aw, .ref a_ro, .int 0, .ref a_ws, .ref a_ah, .int 0, .int 0, .int 0, .ref a_cl, .ref a_us, .ref a_mo, .ref a_to, .ref a_mb, .ref a_le, .int 0, .ref a_rs, .ref a_rm, .ref a_nu])), (a_al, .inl (cI, 3906, .inl plc))]) [1, 2] (by decide) rfl
                            refine k_i (wc := [(h0, .inr (12, [.int 0, .ref a_al, .ref a_hi, .ref a_mt, .ref a_fr, .int 0, .int 0, .int 0, .int 0, .int 0, .int 0, .int 0, .int 0, .int 0, .int (-1), .ref a_rk, .int 0, .ref a_on, .ref a_aw, .ref a_ro, .int 0, .ref a_ws, .ref a_ah, .int 0, .int 0, .int 0, .ref a_cl, .ref a_us, .ref a_mo, .ref a_to, .ref a_mb, .ref a_le, .int 0, .ref a_rs, .ref a_rm, .ref a_nu])), (a_al, .inl (cI, 3906, .inl plc))]) (wr := [(a_ws, .inl (cI, 31, .inl f_3))]) hP hD hS hA [1, 2] [0] rfl rfl rfl (by decide) (r_V (n := 0) (As := []) (ci := 12) (q0 := 0) hx hb hml hown hts hkb hPc hDc (c_rains l D cB cI cJ cZ cS cW cT cR h0 a_al a_hi a_mt a_fr a_rk a_on a_aw a_ro a_ws a_ah a_cl a_us a_mo a_to a_mb a_le a_rs a_rm a_nu) kw_1582 kw_1584 ks_85 kw_13 kw_1585 (by decide +kernel) ⟨Nat.le_of_ble_eq_true rfl, Nat.le_of_ble_eq_true rfl⟩ rfl rfl rfl rfl hl.1 (Nat.le_of_ble_eq_true rfl) dX12_rain_35 ⟨Nat.le_of_ble_eq_true rfl, Nat.le_of_ble_eq_true rfl⟩) (fun r_50 u H locs hw hP hD hS => ?_)
                            obtain ⟨rfl, rfl⟩ := hw
                            have hP : va_P D cls [(a_ws, .inl (cI, 31, .inl f_3)), (h0, .inr (12, [.int 0, .ref a_al, .ref a_hi, .ref a_mt, .ref a_fr, .int 0, .int 0, .int 0, .int 0, .int 0, .int 0, .int 0, .int 0, .int 0, .int (-1), .ref a_rk, .int 0, .ref a_on, .ref a_aw, .ref a_ro, .int 0, .ref a_ws, .ref a_ah, .int 0, .int 0, .int 0, .ref a_cl, .ref a_us, .ref a_mo, .ref a_to, .ref a_mb, .ref a_le, .int 0, .ref a_rs, .ref a_rm, .ref a_nu])), (a_al, .inl (cI, 3906, .inl plc))] H := hP
                            have hD : va_D A [(a_ws, .inl (cI, 31, .inl f_3)), (h0, .inr (12, [.int 0, .ref a_al, .ref a_hi, .ref a_mt, .ref a_fr, .int 0, .int 0, .int 0, .int 0, .int 0, .int 0, .int 0, .int 0, .int 0, .int (-1), .ref a_rk, .int 0, .ref a_on, .ref a_aw, .ref a_ro, .int 0, .ref a_ws, .ref a_ah, .int 0, .int 0, .int 0, .ref a_cl, .ref a_us, .ref a_mo, .ref a_to, .ref a_mb, .ref a_le, .int 0, .ref a_rs, .ref a_rm, .ref a_nu])), (a_al, .inl (cI, 3906, .inl plc))] := hD
                            refine W.widen (k := 0) (n := 0) (Nat.le_of_ble_eq_true rfl) (Nat.le_of_ble_eq_true rfl) ?_
                            refine lv_if_eq (tgt := 45) hx hb dX12_rain_38 (by decide) (fun _ => ?_) (fun c_51 => absurd c_51 (by decide))
                            refine lv_iconst (v := 0) hx hb dX12_rain_45 (by decide) ?_
                            refine lv_iadd hx hb dX12_rain_46 ?_
                            refine lv_topc (y := 0) (by decide +kernel) ?_
                            refine lv_istore_n (lv' := [(2, .int 0), (3, .int 11), (0, .ref h0), (1, .int i_0)]) hx hb dX12_rain_47 rfl hl (by decide) rfl (fun ls hl => ?_)
                            refine lv_iinc (v := 12) (lv' := [(3, .int 12), (2, .int 0), (0, .ref h0), (1, .int i_0)]) hx hb dX12_rain_48 hl (k := 1) rfl (by decide) (by decide) rfl (fun ls hl => ?_)
                            refine lv_goto (tgt := 28) hx hb dX12_rain_51 (by decide) ?_
                            refine lv_iload_n hx hb dX12_rain_28 rfl (lv_at hl 0 rfl) ?_
                            refine lv_iload_n hx hb dX12_rain_29 rfl (lv_at hl 3 rfl) ?_
                            refine lv_icmp_ge (tgt := 54) hx hb dX12_rain_30 (by decide) (fun c_52 => ?_) (fun c_52 => ?_)
                            · skip
                              have tc_52 := f_le (k := 12) (by decide) c_52
                              refine lv_iload_n hx hb dX12_rain_54 rfl (lv_at hl 1 rfl) ?_
                              refine lv_if_le (tgt := 62) hx hb dX12_rain_55 (by decide) (fun _ => ?_) (fun c_53 => absurd c_53 (by decide))
                              refine lv_iload_n hx hb dX12_rain_62 rfl (lv_at hl 1 rfl) ?_
                              refine W.widen (k := 0) (n := 0) (Nat.le_of_ble_eq_true rfl) (Nat.le_of_ble_eq_true rfl) ?_
                              exact e_i (u := []) hx hb hr hlocks (hP.sub (ws' := []) [] rfl) (hD.sub (ws' := []) [] (by decide) rfl) hS ⟨(by unfold F_rain; (repeat' split) <;> first | rfl | (exfalso; omega)), rfl⟩ dX12_rain_63
                            · skip
                              have tc_52 := f_nle (k := 12) (by decide) c_52
                              refine lv_iload_n hx hb dX12_rain_33 rfl (lv_at hl 1 rfl) ?_
                              refine lv_aload_n hx hb dX12_rain_34 rfl (lv_at hl 2 rfl) ?_
                              have hPc := hP.sub (ws' := [(h0, .inr (12, [.int 0, .ref a_al, .ref a_hi, .ref a_mt, .ref a_fr, .int 0, .int 0, .int 0, .int 0, .int 0, .int 0, .int 0, .int 0, .int 0, .int (-1), .ref a_rk, .int 0, .ref a_on, .ref a_aw, .ref a_ro, .int 0, .ref a_ws, .ref a_ah, .int 0, .int 0, .int 0, .ref a_cl, .ref a_us, .ref a_mo, .ref a_to, .ref a_mb, .ref a_le, .int 0, .ref a_rs, .ref a_rm, .ref a_nu])), (a_al, .inl (cI, 3906, .inl plc))]) [1, 2] rfl
                              have hDc := hD.sub (ws' := [(h0, .inr (12, [.int 0, .ref a_al, .ref a_hi, .ref a_mt, .ref a_fr, .int 0, .int 0, .int 0, .int 0, .int 0, .int 0, .int 0, .int 0, .int 0, .int (-1), .ref a_rk, .int 0, .ref a_on, .ref a_aw, .ref a_ro, .int 0, .ref a_ws, .ref a_ah, .int 0, .int 0, .int 0, .ref a_cl, .ref a_us, .ref a_mo, .ref a_to, .ref a_mb, .ref a_le, .int 0, .ref a_rs, .ref a_rm, .ref a_nu])), (a_al, .inl (cI, 3906, .inl plc))]) [1, 2] (by decide) rfl
                              refine k_i (wc := [(h0, .inr (12, [.int 0, .ref a_al, .ref a_hi, .ref a_mt, .ref a_fr, .int 0, .int 0, .int 0, .int 0, .int 0, .int 0, .int 0, .int 0, .int 0, .int (-1), .ref a_rk, .int 0, .ref a_on, .ref a_aw, .ref a_ro, .int 0, .ref a_ws, .ref a_ah, .int 0, .int 0, .int 0, .ref a_cl, .ref a_us, .ref a_mo, .ref a_to, .ref a_mb, .ref a_le, .int 0, .ref a_rs, .ref a_rm, .ref a_nu])), (a_al, .inl (cI, 3906, .inl plc))]) (wr := [(a_ws, .inl (cI, 31, .inl f_3))]) hP hD hS hA [1, 2] [0] rfl rfl rfl (by decide) (r_V (n := 0) (As := []) (ci := 12) (q0 := 0) hx hb hml hown hts hkb hPc hDc (c_rains l D cB cI cJ cZ cS cW cT cR h0 a_al a_hi a_mt a_fr a_rk a_on a_aw a_ro a_ws a_ah a_cl a_us a_mo a_to a_mb a_le a_rs a_rm a_nu) kw_1582 kw_1584 ks_85 kw_13 kw_1585 (by decide +kernel) ⟨Nat.le_of_ble_eq_true rfl, Nat.le_of_ble_eq_true rfl⟩ rfl rfl rfl rfl hl.1 (Nat.le_of_ble_eq_true rfl) dX12_rain_35 ⟨Nat.le_of_ble_eq_true rfl, Nat.le_of_ble_eq_true rfl⟩) (fun r_54 u H locs hw hP hD hS => ?_)
                              obtain ⟨rfl, rfl⟩ := hw
                              have hP : va_P D cls [(a_ws, .inl (cI, 31, .inl f_3)), (h0, .inr (12, [.int 0, .ref a_al, .ref a_hi, .ref a_mt, .ref a_fr, .int 0, .int 0, .int 0, .int 0, .int 0, .int 0, .int 0, .int 0, .int 0, .int (-1), .ref a_rk, .int 0, .ref a_on, .ref a_aw, .ref a_ro, .int 0, .ref a_ws, .ref a_ah, .int 0, .int 0, .int 0, .ref a_cl, .ref a_us, .ref a_mo, .ref a_to, .ref a_mb, .ref a_le, .int 0, .ref a_rs, .ref a_rm, .ref a_nu])), (a_al, .inl (cI, 3906, .inl plc))] H := hP
                              have hD : va_D A [(a_ws, .inl (cI, 31, .inl f_3)), (h0, .inr (12, [.int 0, .ref a_al, .ref a_hi, .ref a_mt, .ref a_fr, .int 0, .int 0, .int 0, .int 0, .int 0, .int 0, .int 0, .int 0, .int 0, .int (-1), .ref a_rk, .int 0, .ref a_on, .ref a_aw, .ref a_ro, .int 0, .ref a_ws, .ref a_ah, .int 0, .int 0, .int 0, .ref a_cl, .ref a_us, .ref a_mo, .ref a_to, .ref a_mb, .ref a_le, .int 0, .ref a_rs, .ref a_rm, .ref a_nu])), (a_al, .inl (cI, 3906, .inl plc))] := hD
                              refine W.widen (k := 0) (n := 0) (Nat.le_of_ble_eq_true rfl) (Nat.le_of_ble_eq_true rfl) ?_
                              refine lv_if_eq (tgt := 45) hx hb dX12_rain_38 (by decide) (fun _ => ?_) (fun c_55 => absurd c_55 (by decide))
                              refine lv_iconst (v := 0) hx hb dX12_rain_45 (by decide) ?_
                              refine lv_iadd hx hb dX12_rain_46 ?_
                              refine lv_topc (y := 0) (by decide +kernel) ?_
                              refine lv_istore_n (lv' := [(2, .int 0), (3, .int 12), (0, .ref h0), (1, .int i_0)]) hx hb dX12_rain_47 rfl hl (by decide) rfl (fun ls hl => ?_)
                              refine lv_iinc (v := 13) (lv' := [(3, .int 13), (2, .int 0), (0, .ref h0), (1, .int i_0)]) hx hb dX12_rain_48 hl (k := 1) rfl (by decide) (by decide) rfl (fun ls hl => ?_)
                              refine lv_goto (tgt := 28) hx hb dX12_rain_51 (by decide) ?_
                              refine lv_iload_n hx hb dX12_rain_28 rfl (lv_at hl 0 rfl) ?_
                              refine lv_iload_n hx hb dX12_rain_29 rfl (lv_at hl 3 rfl) ?_
                              refine lv_icmp_ge (tgt := 54) hx hb dX12_rain_30 (by decide) (fun c_56 => ?_) (fun c_56 => ?_)
                              · skip
                                have tc_56 := f_le (k := 13) (by decide) c_56
                                refine lv_iload_n hx hb dX12_rain_54 rfl (lv_at hl 1 rfl) ?_
                                refine lv_if_le (tgt := 62) hx hb dX12_rain_55 (by decide) (fun _ => ?_) (fun c_57 => absurd c_57 (by decide))
                                refine lv_iload_n hx hb dX12_rain_62 rfl (lv_at hl 1 rfl) ?_
                                refine W.widen (k := 0) (n := 0) (Nat.le_of_ble_eq_true rfl) (Nat.le_of_ble_eq_true rfl) ?_
                                exact e_i (u := []) hx hb hr hlocks (hP.sub (ws' := []) [] rfl) (hD.sub (ws' := []) [] (by decide) rfl) hS ⟨(by unfold F_rain; (repeat' split) <;> first | rfl | (exfalso; omega)), rfl⟩ dX12_rain_63
                              · skip
                                have tc_56 := f_nle (k := 13) (by decide) c_56
                                refine lv_iload_n hx hb dX12_rain_33 rfl (lv_at hl 1 rfl) ?_
                                refine lv_aload_n hx hb dX12_rain_34 rfl (lv_at hl 2 rfl) ?_
                                have hPc := hP.sub (ws' := [(h0, .inr (12, [.int 0, .ref a_al, .ref a_hi, .ref a_mt, .ref a_fr, .int 0, .int 0, .int 0, .int 0, .int 0, .int 0, .int 0, .int 0, .int 0, .int (-1), .ref a_rk, .int 0, .ref a_on, .ref a_aw, .ref a_ro, .int 0, .ref a_ws, .ref a_ah, .int 0, .int 0, .int 0, .ref a_cl, .ref a_us, .ref a_mo, .ref a_to, .ref a_mb, .ref a_le, .int 0, .ref a_rs, .ref a_rm, .ref a_nu])), (a_al, .inl (cI, 3906, .inl plc))]) [1, 2] rfl
                                have hDc := hD.sub (ws' := [(h0, .inr (12, [.int 0, .ref a_al, .ref a_hi, .ref a_mt, .ref a_fr, .int 0, .int 0, .int 0, .int 0, .int 0, .int 0, .int 0, .int 0, .int 0, .int (-1), .ref a_rk, .int 0, .ref a_on, .ref a_aw, .ref a_ro, .int 0, .ref a_ws, .ref a_ah, .int 0, .int 0, .int 0, .ref a_cl, .ref a_us, .ref a_mo, .ref a_to, .ref a_mb, .ref a_le, .int 0, .ref a_rs, .ref a_rm, .ref a_nu])), (a_al, .inl (cI, 3906, .inl plc))]) [1, 2] (by decide) rfl
                                refine k_i (wc := [(h0, .inr (12, [.int 0, .ref a_al, .ref a_hi, .ref a_mt, .ref a_fr, .int 0, .int 0, .int 0, .int 0, .int 0, .int 0, .int 0, .int 0, .int 0, .int (-1), .ref a_rk, .int 0, .ref a_on, .ref a_aw, .ref a_ro, .int 0, .ref a_ws, .ref a_ah, .int 0, .int 0, .int 0, .ref a_cl, .ref a_us, .ref a_mo, .ref a_to, .ref a_mb, .ref a_le, .int 0, .ref a_rs, .ref a_rm, .ref a_nu])), (a_al, .inl (cI, 3906, .inl plc))]) (wr := [(a_ws, .inl (cI, 31, .inl f_3))]) hP hD hS hA [1, 2] [0] rfl rfl rfl (by decide) (r_V (n := 0) (As := []) (ci := 12) (q0 := 0) hx hb hml hown hts hkb hPc hDc (c_rains l D cB cI cJ cZ cS cW cT cR h0 a_al a_hi a_mt a_fr a_rk a_on a_aw a_ro a_ws a_ah a_cl a_us a_mo a_to a_mb a_le a_rs a_rm a_nu) kw_1582 kw_1584 ks_85 kw_13 kw_1585 (by decide +kernel) ⟨Nat.le_of_ble_eq_true rfl, Nat.le_of_ble_eq_true rfl⟩ rfl rfl rfl rfl hl.1 (Nat.le_of_ble_eq_true rfl) dX12_rain_35 ⟨Nat.le_of_ble_eq_true rfl, Nat.le_of_ble_eq_true rfl⟩) (fun r_58 u H locs hw hP hD hS => ?_)
                                obtain ⟨rfl, rfl⟩ := hw
                                have hP : va_P D cls [(a_ws, .inl (cI, 31, .inl f_3)), (h0, .inr (12, [.int 0, .ref a_al, .ref a_hi, .ref a_mt, .ref a_fr, .int 0, .int 0, .int 0, .int 0, .int 0, .int 0, .int 0, .int 0, .int 0, .int (-1), .ref a_rk, .int 0, .ref a_on, .ref a_aw, .ref a_ro, .int 0, .ref a_ws, .ref a_ah, .int 0, .int 0, .int 0, .ref a_cl, .ref a_us, .ref a_mo, .ref a_to, .ref a_mb, .ref a_le, .int 0, .ref a_rs, .ref a_rm, .ref a_nu])), (a_al, .inl (cI, 3906, .inl plc))] H := hP
                                have hD : va_D A [(a_ws, .inl (cI, 31, .inl f_3)), (h0, .inr (12, [.int 0, .ref a_al, .ref a_hi, .ref a_mt, .ref a_fr, .int 0, .int 0, .int 0, .int 0, .int 0, .int 0, .int 0, .int 0, .int 0, .int (-1), .ref a_rk, .int 0, .ref a_on, .ref a_aw, .ref a_ro, .int 0, .ref a_ws, .ref a_ah, .int 0, .int 0, .int 0, .ref a_cl, .ref a_us, .ref a_mo, .ref a_to, .ref a_mb, .ref a_le, .int 0, .ref a_rs, .ref a_rm, .ref a_nu])), (a_al, .inl (cI, 3906, .inl plc))] := hD
                                refine W.widen (k := 0) (n := 0) (Nat.le_of_ble_eq_true rfl) (Nat.le_of_ble_eq_true rfl) ?_
                                refine lv_if_eq (tgt := 45) hx hb dX12_rain_38 (by decide) (fun _ => ?_) (fun c_59 => absurd c_59 (by decide))
                                refine lv_iconst (v := 0) hx hb dX12_rain_45 (by decide) ?_
                                refine lv_iadd hx hb dX12_rain_46 ?_
                                refine lv_topc (y := 0) (by decide +kernel) ?_
                                refine lv_istore_n (lv' := [(2, .int 0), (3, .int 13), (0, .ref h0), (1, .int i_0)]) hx hb dX12_rain_47 rfl hl (by decide) rfl (fun ls hl => ?_)
                                refine lv_iinc (v := 14) (lv' := [(3, .int 14), (2, .int 0), (0, .ref h0), (1, .int i_0)]) hx hb dX12_rain_48 hl (k := 1) rfl (by decide) (by decide) rfl (fun ls hl => ?_)
                                refine lv_goto (tgt := 28) hx hb dX12_rain_51 (by decide) ?_
                                refine lv_iload_n hx hb dX12_rain_28 rfl (lv_at hl 0 rfl) ?_
                                refine lv_iload_n hx hb dX12_rain_29 rfl (lv_at hl 3 rfl) ?_
                                refine lv_icmp_ge (tgt := 54) hx hb dX12_rain_30 (by decide) (fun c_60 => ?_) (fun c_60 => ?_)
                                · skip
                                  have tc_60 := f_le (k := 14) (by decide) c_60
                                  refine lv_iload_n hx hb dX12_rain_54 rfl (lv_at hl 1 rfl) ?_
                                  refine lv_if_le (tgt := 62) hx hb dX12_rain_55 (by decide) (fun _ => ?_) (fun c_61 => absurd c_61 (by decide))
                                  refine lv_iload_n hx hb dX12_rain_62 rfl (lv_at hl 1 rfl) ?_
                                  refine W.widen (k := 0) (n := 0) (Nat.le_of_ble_eq_true rfl) (Nat.le_of_ble_eq_true rfl) ?_
                                  exact e_i (u := []) hx hb hr hlocks (hP.sub (ws' := []) [] rfl) (hD.sub (ws' := []) [] (by decide) rfl) hS ⟨(by unfold F_rain; (repeat' split) <;> first | rfl | (exfalso; omega)), rfl⟩ dX12_rain_63
                                · skip
                                  have tc_60 := f_nle (k := 14) (by decide) c_60
                                  exfalso; omega
  · skip
    have tc_2 := wi_0 (a := 1) (b := 14) (by decide) (by decide) c_2
    refine lv_bipush (v := (-3)) hx hb dX12_rain_17 (by decide) ?_
    refine W.widen (k := 0) (n := 0) (Nat.le_of_ble_eq_true rfl) (Nat.le_of_ble_eq_true rfl) ?_
    exact e_i (u := []) hx hb hr hlocks (hP.sub (ws' := []) [] rfl) (hD.sub (ws' := []) [] (by decide) rfl) hS ⟨(by unfold F_rain; (repeat' split) <;> first | rfl | (exfalso; omega)), rfl⟩ dX12_rain_19
set_option maxHeartbeats 4000000 in
set_option maxRecDepth 100000 in
theorem y_newYear (l : Launch) (D : va_G) (cB cI cJ cZ cS cW cT cR : ClassId) (h0 : Nat) (a_al : Nat) (a_ws : Nat) (a_hi : Nat) (a_mt : Nat) (a_fr : Nat) (a_rk : Nat) (a_on : Nat) (a_aw : Nat) (a_ro : Nat) (a_ah : Nat) (a_cl : Nat) (a_us : Nat) (a_mo : Nat) (a_to : Nat) (a_mb : Nat) (a_le : Nat) (a_rs : Nat) (a_rm : Nat) (a_nu : Nat) (f_ws : Nat → Int32) : Kon l D (tyl cB cI cJ cZ cS cW cT cR) yX12_newYear cX12_newYear 3 (some (.int)) { frames := 1, cells := 0, slots := 0, locals := 22 } [.ref h0] [(h0, .inr (12, [.int 0, .ref a_al, .ref a_hi, .ref a_mt, .ref a_fr, .int 0, .int 0, .int 0, .int 0, .int 0, .int 0, .int 0, .int 0, .int 0, .int (-1), .ref a_rk, .int 0, .ref a_on, .ref a_aw, .ref a_ro, .int 0, .ref a_ws, .ref a_ah, .int 0, .int 0, .int 0, .ref a_cl, .ref a_us, .ref a_mo, .ref a_to, .ref a_mb, .ref a_le, .int 0, .ref a_rs, .ref a_rm, .ref a_nu])), (a_al, .inl (cI, 3906, .inl plc)), (a_ws, .inl (cI, 31, .inl f_ws))] (Qi D (fun r u => r = 0 ∧ u = [])) := by
  refine kon_of (by decide) (Nat.le_of_ble_eq_true rfl) (fun p e s m below meth c ls A hx hb hr hml hown hts hlocks hnm hkb hP hD hS hA hl => ?_)
  have hown : s.vm.findClass RX12 = some m.cls := hown
  have hl : lv_has ls 3 [(0, .ref h0)] := hl
  have hP : va_P D cls [(h0, .inr (12, [.int 0, .ref a_al, .ref a_hi, .ref a_mt, .ref a_fr, .int 0, .int 0, .int 0, .int 0, .int 0, .int 0, .int 0, .int 0, .int 0, .int (-1), .ref a_rk, .int 0, .ref a_on, .ref a_aw, .ref a_ro, .int 0, .ref a_ws, .ref a_ah, .int 0, .int 0, .int 0, .ref a_cl, .ref a_us, .ref a_mo, .ref a_to, .ref a_mb, .ref a_le, .int 0, .ref a_rs, .ref a_rm, .ref a_nu])), (a_al, .inl (cI, 3906, .inl plc)), (a_ws, .inl (cI, 31, .inl f_ws))] s.heap := hP
  refine lv_aload_n hx hb dX12_newYear_0 rfl (lv_at hl 0 rfl) ?_
  refine lv_iconst (v := 0) hx hb dX12_newYear_1 (by decide) ?_
  refine va_put (D := D) (ci := 12) (v := .int 0) (ty := tyX12 0) (C := RX12) (T := TX12) (N := 36) hx hb hts uX12 tyX12 tyX12_ok nmX12 hown hkb.1 hP hD hS 0 rfl rfl 0 (by decide) (hts _ kw_1223) (fun _ h9 => h9) rfl (tyX12_ok 0 (by decide)) rfl rfl (Nat.le_of_ble_eq_true rfl) dX12_newYear_2 (fun H locs hP hD hS => ?_)
  have hP : va_P D cls [(h0, .inr (12, [.int 0, .ref a_al, .ref a_hi, .ref a_mt, .ref a_fr, .int 0, .int 0, .int 0, .int 0, .int 0, .int 0, .int 0, .int 0, .int 0, .int (-1), .ref a_rk, .int 0, .ref a_on, .ref a_aw, .ref a_ro, .int 0, .ref a_ws, .ref a_ah, .int 0, .int 0, .int 0, .ref a_cl, .ref a_us, .ref a_mo, .ref a_to, .ref a_mb, .ref a_le, .int 0, .ref a_rs, .ref a_rm, .ref a_nu])), (a_al, .inl (cI, 3906, .inl plc)), (a_ws, .inl (cI, 31, .inl f_ws))] H := hP
  have hD : va_D A [(h0, .inr (12, [.int 0, .ref a_al, .ref a_hi, .ref a_mt, .ref a_fr, .int 0, .int 0, .int 0, .int 0, .int 0, .int 0, .int 0, .int 0, .int 0, .int (-1), .ref a_rk, .int 0, .ref a_on, .ref a_aw, .ref a_ro, .int 0, .ref a_ws, .ref a_ah, .int 0, .int 0, .int 0, .ref a_cl, .ref a_us, .ref a_mo, .ref a_to, .ref a_mb, .ref a_le, .int 0, .ref a_rs, .ref a_rm, .ref a_nu])), (a_al, .inl (cI, 3906, .inl plc)), (a_ws, .inl (cI, 31, .inl f_ws))] := hD
  refine lv_aload_n hx hb dX12_newYear_5 rfl (lv_at hl 0 rfl) ?_
  have hPc := hP.sub (ws' := [(h0, .inr (12, [.int 0, .ref a_al, .ref a_hi, .ref a_mt, .ref a_fr, .int 0, .int 0, .int 0, .int 0, .int 0, .int 0, .int 0, .int 0, .int 0, .int (-1), .ref a_rk, .int 0, .ref a_on, .ref a_aw, .ref a_ro, .int 0, .ref a_ws, .ref a_ah, .int 0, .int 0, .int 0, .ref a_cl, .ref a_us, .ref a_mo, .ref a_to, .ref a_mb, .ref a_le, .int 0, .ref a_rs, .ref a_rm, .ref a_nu])), (a_al, .inl (cI, 3906, .inl plc)), (a_ws, .inl (cI, 31, .inl f_ws))]) [0, 1, 2] rfl
  have hDc := hD.sub (ws' := [(h0, .inr (12, [.int 0, .ref a_al, .ref a_hi, .ref a_mt, .ref a_fr, .int 0, .int 0, .int 0, .int 0, .int 0, .int 0, .int 0, .int 0, .int 0, .int (-1), .ref a_rk, .int 0, .ref a_on, .ref a_aw, .ref a_ro, .int 0, .ref a_ws, .ref a_ah, .int 0, .int 0, .int 0, .ref a_cl, .ref a_us, .ref a_mo, .ref a_to, .ref a_mb, .ref a_le, .int 0, .ref a_rs, .ref a_rm, .ref a_nu])), (a_al, .inl (cI, 3906, .inl plc)), (a_ws, .inl (cI, 31, .inl f_ws))]) [0, 1, 2] (by decide) rfl
  refine k_v (wc := [(h0, .inr (12, [.int 0, .ref a_al, .ref a_hi, .ref a_mt, .ref a_fr, .int 0, .int 0, .int 0, .int 0, .int 0, .int 0, .int 0, .int 0, .int 0, .int (-1), .ref a_rk, .int 0, .ref a_on, .ref a_aw, .ref a_ro, .int 0, .ref a_ws, .ref a_ah, .int 0, .int 0, .int 0, .ref a_cl, .ref a_us, .ref a_mo, .ref a_to, .ref a_mb, .ref a_le, .int 0, .ref a_rs, .ref a_rm, .ref a_nu])), (a_al, .inl (cI, 3906, .inl plc)), (a_ws, .inl (cI, 31, .inl f_ws))]) (wr := []) hP hD hS hA [0, 1, 2] [] rfl rfl rfl (by decide) (r_V (n := 0) (As := []) (ci := 12) (q0 := 0) hx hb hml hown hts hkb hPc hDc (c_keeps l D cB cI cJ cZ cS cW cT cR h0 a_al a_ws a_hi a_mt a_fr a_rk a_on a_aw a_ro a_ah a_cl a_us a_mo a_to a_mb a_le a_rs a_rm a_nu plc f_ws) kw_1544 kw_1546 ks_79 kw_13 kw_1547 (by decide +kernel) ⟨Nat.le_of_ble_eq_true rfl, Nat.le_of_ble_eq_true rfl⟩ rfl rfl rfl rfl hl.1 (Nat.le_of_ble_eq_true rfl) dX12_newYear_6 ⟨Nat.le_of_ble_eq_true rfl, Nat.le_of_ble_eq_true rfl⟩) (fun u H locs hw hP hD hS => ?_)
  obtain ⟨f_1, rfl⟩ := hw
  have hP : va_P D cls [(h0, .inr (12, [.int 0, .ref a_al, .ref a_hi, .ref a_mt, .ref a_fr, .int 0, .int 0, .int 0, .int 0, .int 0, .int 0, .int 0, .int 0, .int 0, .int (-1), .ref a_rk, .int 0, .ref a_on, .ref a_aw, .ref a_ro, .int 0, .ref a_ws, .ref a_ah, .int 0, .int 0, .int 0, .ref a_cl, .ref a_us, .ref a_mo, .ref a_to, .ref a_mb, .ref a_le, .int 0, .ref a_rs, .ref a_rm, .ref a_nu])), (a_al, .inl (cI, 3906, .inl plc)), (a_ws, .inl (cI, 31, .inl f_1))] H := hP
  have hD : va_D A [(h0, .inr (12, [.int 0, .ref a_al, .ref a_hi, .ref a_mt, .ref a_fr, .int 0, .int 0, .int 0, .int 0, .int 0, .int 0, .int 0, .int 0, .int 0, .int (-1), .ref a_rk, .int 0, .ref a_on, .ref a_aw, .ref a_ro, .int 0, .ref a_ws, .ref a_ah, .int 0, .int 0, .int 0, .ref a_cl, .ref a_us, .ref a_mo, .ref a_to, .ref a_mb, .ref a_le, .int 0, .ref a_rs, .ref a_rm, .ref a_nu])), (a_al, .inl (cI, 3906, .inl plc)), (a_ws, .inl (cI, 31, .inl f_1))] := hD
  refine W.widen (k := 0) (n := 0) (Nat.le_of_ble_eq_true rfl) (Nat.le_of_ble_eq_true rfl) ?_
  refine lv_aload_n hx hb dX12_newYear_9 rfl (lv_at hl 0 rfl) ?_
  have hPc := hP.sub (ws' := [(h0, .inr (12, [.int 0, .ref a_al, .ref a_hi, .ref a_mt, .ref a_fr, .int 0, .int 0, .int 0, .int 0, .int 0, .int 0, .int 0, .int 0, .int 0, .int (-1), .ref a_rk, .int 0, .ref a_on, .ref a_aw, .ref a_ro, .int 0, .ref a_ws, .ref a_ah, .int 0, .int 0, .int 0, .ref a_cl, .ref a_us, .ref a_mo, .ref a_to, .ref a_mb, .ref a_le, .int 0, .ref a_rs, .ref a_rm, .ref a_nu])), (a_al, .inl (cI, 3906, .inl plc))]) [0, 1] rfl
  have hDc := hD.sub (ws' := [(h0, .inr (12, [.int 0, .ref a_al, .ref a_hi, .ref a_mt, .ref a_fr, .int 0, .int 0, .int 0, .int 0, .int 0, .int 0, .int 0, .int 0, .int 0, .int (-1), .ref a_rk, .int 0, .ref a_on, .ref a_aw, .ref a_ro, .int 0, .ref a_ws, .ref a_ah, .int 0, .int 0, .int 0, .ref a_cl, .ref a_us, .ref a_mo, .ref a_to, .ref a_mb, .ref a_le, .int 0, .ref a_rs, .ref a_rm, .ref a_nu])), (a_al, .inl (cI, 3906, .inl plc))]) [0, 1] (by decide) rfl
  refine k_i (wc := [(h0, .inr (12, [.int 0, .ref a_al, .ref a_hi, .ref a_mt, .ref a_fr, .int 0, .int 0, .int 0, .int 0, .int 0, .int 0, .int 0, .int 0, .int 0, .int (-1), .ref a_rk, .int 0, .ref a_on, .ref a_aw, .ref a_ro, .int 0, .ref a_ws, .ref a_ah, .int 0, .int 0, .int 0, .ref a_cl, .ref a_us, .ref a_mo, .ref a_to, .ref a_mb, .ref a_le, .int 0, .ref a_rs, .ref a_rm, .ref a_nu])), (a_al, .inl (cI, 3906, .inl plc))]) (wr := [(a_ws, .inl (cI, 31, .inl f_1))]) hP hD hS hA [0, 1] [2] rfl rfl rfl (by decide) (r_V (n := 0) (As := []) (ci := 12) (q0 := 0) hx hb hml hown hts hkb hPc hDc (c_usedMany l D cB cI cJ cZ cS cW cT cR h0 a_al a_hi a_mt a_fr a_rk a_on a_aw a_ro a_ws a_ah a_cl a_us a_mo a_to a_mb a_le a_rs a_rm a_nu) kw_1594 kw_1596 ks_86 kw_13 kw_1597 (by decide +kernel) ⟨Nat.le_of_ble_eq_true rfl, Nat.le_of_ble_eq_true rfl⟩ rfl rfl rfl rfl hl.1 (Nat.le_of_ble_eq_true rfl) dX12_newYear_10 ⟨Nat.le_of_ble_eq_true rfl, Nat.le_of_ble_eq_true rfl⟩) (fun r_3 u H locs hw hP hD hS => ?_)
  obtain ⟨rfl, rfl⟩ := hw
  have hP : va_P D cls [(a_ws, .inl (cI, 31, .inl f_1)), (h0, .inr (12, [.int 0, .ref a_al, .ref a_hi, .ref a_mt, .ref a_fr, .int 0, .int 0, .int 0, .int 0, .int 0, .int 0, .int 0, .int 0, .int 0, .int (-1), .ref a_rk, .int 0, .ref a_on, .ref a_aw, .ref a_ro, .int 0, .ref a_ws, .ref a_ah, .int 0, .int 0, .int 0, .ref a_cl, .ref a_us, .ref a_mo, .ref a_to, .ref a_mb, .ref a_le, .int 0, .ref a_rs, .ref a_rm, .ref a_nu])), (a_al, .inl (cI, 3906, .inl plc))] H := hP
  have hD : va_D A [(a_ws, .inl (cI, 31, .inl f_1)), (h0, .inr (12, [.int 0, .ref a_al, .ref a_hi, .ref a_mt, .ref a_fr, .int 0, .int 0, .int 0, .int 0, .int 0, .int 0, .int 0, .int 0, .int 0, .int (-1), .ref a_rk, .int 0, .ref a_on, .ref a_aw, .ref a_ro, .int 0, .ref a_ws, .ref a_ah, .int 0, .int 0, .int 0, .ref a_cl, .ref a_us, .ref a_mo, .ref a_to, .ref a_mb, .ref a_le, .int 0, .ref a_rs, .ref a_rm, .ref a_nu])), (a_al, .inl (cI, 3906, .inl plc))] := hD
  refine W.widen (k := 0) (n := 0) (Nat.le_of_ble_eq_true rfl) (Nat.le_of_ble_eq_true rfl) ?_
  refine lv_istore_n (lv' := [(1, .int 0), (0, .ref h0)]) hx hb dX12_newYear_13 rfl hl (by decide) rfl (fun ls hl => ?_)
  refine lv_iconst (v := 0) hx hb dX12_newYear_14 (by decide) ?_
  refine lv_istore_n (lv' := [(2, .int 0), (1, .int 0), (0, .ref h0)]) hx hb dX12_newYear_15 rfl hl (by decide) rfl (fun ls hl => ?_)
  have lp_8 : ∀ (n_4 k_5 : Nat) (x_6 : Int32) (H : Heap) (locs : List Loc) (ls : Array Slot), k_5 + n_4 = 14 → x_6 = nI k_5 → va_P D cls [(a_ws, .inl (cI, 31, .inl f_1)), (h0, .inr (12, [.int 0, .ref a_al, .ref a_hi, .ref a_mt, .ref a_fr, .int 0, .int 0, .int 0, .int 0, .int 0, .int 0, .int 0, .int 0, .int 0, .int (-1), .ref a_rk, .int 0, .ref a_on, .ref a_aw, .ref a_ro, .int 0, .ref a_ws, .ref a_ah, .int 0, .int 0, .int 0, .ref a_cl, .ref a_us, .ref a_mo, .ref a_to, .ref a_mb, .ref a_le, .int 0, .ref a_rs, .ref a_rm, .ref a_nu])), (a_al, .inl (cI, 3906, .inl plc))] H → va_D A [(a_ws, .inl (cI, 31, .inl f_1)), (h0, .inr (12, [.int 0, .ref a_al, .ref a_hi, .ref a_mt, .ref a_fr, .int 0, .int 0, .int 0, .int 0, .int 0, .int 0, .int 0, .int 0, .int 0, .int (-1), .ref a_rk, .int 0, .ref a_on, .ref a_aw, .ref a_ro, .int 0, .ref a_ws, .ref a_ah, .int 0, .int 0, .int 0, .ref a_cl, .ref a_us, .ref a_mo, .ref a_to, .ref a_mb, .ref a_le, .int 0, .ref a_rs, .ref a_rm, .ref a_nu])), (a_al, .inl (cI, 3906, .inl plc))] → va_S A s.heap H locs → lv_has ls 3 [(2, .int x_6), (1, .int 0), (0, .ref h0)] → W p l e { frames := 1, cells := 0, slots := 0, locals := 22 } s m [.ref h0].toArray below meth c H locs 0 0 (MQ below (Qi D (fun r u => r = 0 ∧ u = []) A) [.ref h0].toArray s 0 0 A) (F0 m 16 ls []) := by
    intro n_4
    induction n_4 with
    | zero =>
      intro k_5 x_6  H locs ls hk_7 hx_6  hP hD hS hl
      have hzx_6 : x_6.toInt = (k_5 : Int) := by rw [hx_6]; exact nI_toInt (by omega)
      refine lv_iload_n hx hb dX12_newYear_16 rfl (lv_at hl 0 rfl) ?_
      refine lv_bipush (v := 14) hx hb dX12_newYear_17 (by decide) ?_
      refine lv_icmp_ge (tgt := 48) hx hb dX12_newYear_19 (by decide) (fun _ => ?_) (fun c_9 => by exfalso; have tc_9 := f_nge (k := 14) (by decide) c_9; omega)
      refine lv_aload_n hx hb dX12_newYear_48 rfl (lv_at hl 2 rfl) ?_
      refine va_get (D := D) (ci := 12) (v := .ref a_al) (C := RX12) (T := TX12) (N := 36) hx hb hts uX12 hown hkb.1 hP 1 rfl rfl 1 (by decide) (hts _ kw_1224) (fun _ h9 => h9) rfl dX12_newYear_49 ?_
      refine lv_bipush (v := 88) hx hb dX12_newYear_52 (by decide) ?_
      refine lv_iconst (v := 0) hx hb dX12_newYear_54 (by decide) ?_
      refine s_i 2 1 hx hb hkb.1 hP hD hS rfl rfl (in_c (by decide +kernel)) 88 (by decide +kernel) dX12_newYear_55 (fun H locs hP hD hS => ?_)
      have hP : va_P D cls [(a_ws, .inl (cI, 31, .inl f_1)), (h0, .inr (12, [.int 0, .ref a_al, .ref a_hi, .ref a_mt, .ref a_fr, .int 0, .int 0, .int 0, .int 0, .int 0, .int 0, .int 0, .int 0, .int 0, .int (-1), .ref a_rk, .int 0, .ref a_on, .ref a_aw, .ref a_ro, .int 0, .ref a_ws, .ref a_ah, .int 0, .int 0, .int 0, .ref a_cl, .ref a_us, .ref a_mo, .ref a_to, .ref a_mb, .ref a_le, .int 0, .ref a_rs, .ref a_rm, .ref a_nu])), (a_al, .inl (cI, 3906, .inl (upd plc 88 0)))] H := hP
      have hD : va_D A [(a_ws, .inl (cI, 31, .inl f_1)), (h0, .inr (12, [.int 0, .ref a_al, .ref a_hi, .ref a_mt, .ref a_fr, .int 0, .int 0, .int 0, .int 0, .int 0, .int 0, .int 0, .int 0, .int 0, .int (-1), .ref a_rk, .int 0, .ref a_on, .ref a_aw, .ref a_ro, .int 0, .ref a_ws, .ref a_ah, .int 0, .int 0, .int 0, .ref a_cl, .ref a_us, .ref a_mo, .ref a_to, .ref a_mb, .ref a_le, .int 0, .ref a_rs, .ref a_rm, .ref a_nu])), (a_al, .inl (cI, 3906, .inl (upd plc 88 0)))] := hD
      refine lv_aload_n hx hb dX12_newYear_56 rfl (lv_at hl 2 rfl) ?_
      refine va_get (D := D) (ci := 12) (v := .ref a_al) (C := RX12) (T := TX12) (N := 36) hx hb hts uX12 hown hkb.1 hP 1 rfl rfl 1 (by decide) (hts _ kw_1224) (fun _ h9 => h9) rfl dX12_newYear_57 ?_
      refine lv_bipush (v := 89) hx hb dX12_newYear_60 (by decide) ?_
      refine lv_dup2_11 hx hb dX12_newYear_62 rfl rfl ?_
      refine va_iald hx hb hkb.1 hP 2 1 rfl rfl (in_c (by decide +kernel)) dX12_newYear_63 ?_
      refine lv_topc (y := 0) (by decide +kernel) ?_
      refine lv_iconst (v := 1) hx hb dX12_newYear_64 (by decide) ?_
      refine lv_iadd hx hb dX12_newYear_65 ?_
      refine lv_topc (y := 1) (by decide +kernel) ?_
      refine s_i 2 1 hx hb hkb.1 hP hD hS rfl rfl (in_c (by decide +kernel)) 89 (by decide +kernel) dX12_newYear_66 (fun H locs hP hD hS => ?_)
      have hP : va_P D cls [(a_ws, .inl (cI, 31, .inl f_1)), (h0, .inr (12, [.int 0, .ref a_al, .ref a_hi, .ref a_mt, .ref a_fr, .int 0, .int 0, .int 0, .int 0, .int 0, .int 0, .int 0, .int 0, .int 0, .int (-1), .ref a_rk, .int 0, .ref a_on, .ref a_aw, .ref a_ro, .int 0, .ref a_ws, .ref a_ah, .int 0, .int 0, .int 0, .ref a_cl, .ref a_us, .ref a_mo, .ref a_to, .ref a_mb, .ref a_le, .int 0, .ref a_rs, .ref a_rm, .ref a_nu])), (a_al, .inl (cI, 3906, .inl (upd (upd plc 88 0) 89 1)))] H := hP
      have hD : va_D A [(a_ws, .inl (cI, 31, .inl f_1)), (h0, .inr (12, [.int 0, .ref a_al, .ref a_hi, .ref a_mt, .ref a_fr, .int 0, .int 0, .int 0, .int 0, .int 0, .int 0, .int 0, .int 0, .int 0, .int (-1), .ref a_rk, .int 0, .ref a_on, .ref a_aw, .ref a_ro, .int 0, .ref a_ws, .ref a_ah, .int 0, .int 0, .int 0, .ref a_cl, .ref a_us, .ref a_mo, .ref a_to, .ref a_mb, .ref a_le, .int 0, .ref a_rs, .ref a_rm, .ref a_nu])), (a_al, .inl (cI, 3906, .inl (upd (upd plc 88 0) 89 1)))] := hD
      refine lv_aload_n hx hb dX12_newYear_67 rfl (lv_at hl 2 rfl) ?_
      have hPc := hP.sub (ws' := [(h0, .inr (12, [.int 0, .ref a_al, .ref a_hi, .ref a_mt, .ref a_fr, .int 0, .int 0, .int 0, .int 0, .int 0, .int 0, .int 0, .int 0, .int 0, .int (-1), .ref a_rk, .int 0, .ref a_on, .ref a_aw, .ref a_ro, .int 0, .ref a_ws, .ref a_ah, .int 0, .int 0, .int 0, .ref a_cl, .ref a_us, .ref a_mo, .ref a_to, .ref a_mb, .ref a_le, .int 0, .ref a_rs, .ref a_rm, .ref a_nu])), (a_al, .inl (cI, 3906, .inl (upd (upd plc 88 0) 89 1))), (a_ws, .inl (cI, 31, .inl f_1))]) [1, 2, 0] rfl
      have hDc := hD.sub (ws' := [(h0, .inr (12, [.int 0, .ref a_al, .ref a_hi, .ref a_mt, .ref a_fr, .int 0, .int 0, .int 0, .int 0, .int 0, .int 0, .int 0, .int 0, .int 0, .int (-1), .ref a_rk, .int 0, .ref a_on, .ref a_aw, .ref a_ro, .int 0, .ref a_ws, .ref a_ah, .int 0, .int 0, .int 0, .ref a_cl, .ref a_us, .ref a_mo, .ref a_to, .ref a_mb, .ref a_le, .int 0, .ref a_rs, .ref a_rm, .ref a_nu])), (a_al, .inl (cI, 3906, .inl (upd (upd plc 88 0) 89 1))), (a_ws, .inl (cI, 31, .inl f_1))]) [1, 2, 0] (by decide) rfl
      refine k_v (wc := [(h0, .inr (12, [.int 0, .ref a_al, .ref a_hi, .ref a_mt, .ref a_fr, .int 0, .int 0, .int 0, .int 0, .int 0, .int 0, .int 0, .int 0, .int 0, .int (-1), .ref a_rk, .int 0, .ref a_on, .ref a_aw, .ref a_ro, .int 0, .ref a_ws, .ref a_ah, .int 0, .int 0, .int 0, .ref a_cl, .ref a_us, .ref a_mo, .ref a_to, .ref a_mb, .ref a_le, .int 0, .ref a_rs, .ref a_rm, .ref a_nu])), (a_al, .inl (cI, 3906, .inl (upd (upd plc 88 0) 89 1))), (a_ws, .inl (cI, 31, .inl f_1))]) (wr := []) hP hD hS hA [1, 2, 0] [] rfl rfl rfl (by decide) (r_V (n := 0) (As := []) (ci := 12) (q0 := 0) hx hb hml hown hts hkb hPc hDc (c_notes l D cB cI cJ cZ cS cW cT cR h0 a_al a_ws a_hi a_mt a_fr a_rk a_on a_aw a_ro a_ah a_cl a_us a_mo a_to a_mb a_le a_rs a_rm a_nu (upd (upd plc 88 0) 89 1) f_1 (rfl)) kw_1552 kw_1554 ks_81 kw_13 kw_1555 (by decide +kernel) ⟨Nat.le_of_ble_eq_true rfl, Nat.le_of_ble_eq_true rfl⟩ rfl rfl rfl rfl hl.1 (Nat.le_of_ble_eq_true rfl) dX12_newYear_68 ⟨Nat.le_of_ble_eq_true rfl, Nat.le_of_ble_eq_true rfl⟩) (fun u H locs hw hP hD hS => ?_)
      obtain ⟨f_10, rfl, hq_12⟩ := hw
      have hP : va_P D cls [(h0, .inr (12, [.int 0, .ref a_al, .ref a_hi, .ref a_mt, .ref a_fr, .int 0, .int 0, .int 0, .int 0, .int 0, .int 0, .int 0, .int 0, .int 0, .int (-1), .ref a_rk, .int 0, .ref a_on, .ref a_aw, .ref a_ro, .int 0, .ref a_ws, .ref a_ah, .int 0, .int 0, .int 0, .ref a_cl, .ref a_us, .ref a_mo, .ref a_to, .ref a_mb, .ref a_le, .int 0, .ref a_rs, .ref a_rm, .ref a_nu])), (a_al, .inl (cI, 3906, .inl (upd f_10 90 1))), (a_ws, .inl (cI, 31, .inl f_1))] H := hP
      have hD : va_D A [(h0, .inr (12, [.int 0, .ref a_al, .ref a_hi, .ref a_mt, .ref a_fr, .int 0, .int 0, .int 0, .int 0, .int 0, .int 0, .int 0, .int 0, .int 0, .int (-1), .ref a_rk, .int 0, .ref a_on, .ref a_aw, .ref a_ro, .int 0, .ref a_ws, .ref a_ah, .int 0, .int 0, .int 0, .ref a_cl, .ref a_us, .ref a_mo, .ref a_to, .ref a_mb, .ref a_le, .int 0, .ref a_rs, .ref a_rm, .ref a_nu])), (a_al, .inl (cI, 3906, .inl (upd f_10 90 1))), (a_ws, .inl (cI, 31, .inl f_1))] := hD
      refine W.widen (k := 0) (n := 0) (Nat.le_of_ble_eq_true rfl) (Nat.le_of_ble_eq_true rfl) ?_
      refine lv_iload_n hx hb dX12_newYear_71 rfl (lv_at hl 1 rfl) ?_
      refine W.widen (k := 0) (n := 0) (Nat.le_of_ble_eq_true rfl) (Nat.le_of_ble_eq_true rfl) ?_
      exact e_i (u := []) hx hb hr hlocks (hP.sub (ws' := []) [] rfl) (hD.sub (ws' := []) [] (by decide) rfl) hS ⟨(by first | rfl | (exfalso; omega)), rfl⟩ dX12_newYear_72
    | succ n_4 ih =>
      intro k_5 x_6  H locs ls hk_7 hx_6  hP hD hS hl
      have hzx_6 : x_6.toInt = (k_5 : Int) := by rw [hx_6]; exact nI_toInt (by omega)
      refine lv_iload_n hx hb dX12_newYear_16 rfl (lv_at hl 0 rfl) ?_
      refine lv_bipush (v := 14) hx hb dX12_newYear_17 (by decide) ?_
      refine lv_icmp_ge (tgt := 48) hx hb dX12_newYear_19 (by decide) (fun c_13 => by exfalso; have tc_13 := f_ge (k := 14) (by decide) c_13; omega) (fun _ => ?_)
      refine lv_aload_n hx hb dX12_newYear_22 rfl (lv_at hl 2 rfl) ?_
      refine va_get (D := D) (ci := 12) (v := .ref a_al) (C := RX12) (T := TX12) (N := 36) hx hb hts uX12 hown hkb.1 hP 1 rfl rfl 1 (by decide) (hts _ kw_1224) (fun _ h9 => h9) rfl dX12_newYear_23 ?_
      refine lv_bipush (v := 59) hx hb dX12_newYear_26 (by decide) ?_
      refine lv_iload_n hx hb dX12_newYear_28 rfl (lv_at hl 0 rfl) ?_
      refine lv_iadd hx hb dX12_newYear_29 ?_
      refine lv_topc (y := nI (59 + k_5)) (by rw [hx_6]; exact nI_add 59 k_5) ?_
      refine lv_iconst (v := (-1)) hx hb dX12_newYear_30 (by decide) ?_
      refine s_i 2 1 hx hb hkb.1 hP hD hS rfl rfl (in_n (by omega) (by decide)) (59 + k_5) (nI_clamp (by omega)) dX12_newYear_31 (fun H locs hP hD hS => ?_)
      have hP : va_P D cls [(a_ws, .inl (cI, 31, .inl f_1)), (h0, .inr (12, [.int 0, .ref a_al, .ref a_hi, .ref a_mt, .ref a_fr, .int 0, .int 0, .int 0, .int 0, .int 0, .int 0, .int 0, .int 0, .int 0, .int (-1), .ref a_rk, .int 0, .ref a_on, .ref a_aw, .ref a_ro, .int 0, .ref a_ws, .ref a_ah, .int 0, .int 0, .int 0, .ref a_cl, .ref a_us, .ref a_mo, .ref a_to, .ref a_mb, .ref a_le, .int 0, .ref a_rs, .ref a_rm, .ref a_nu])), (a_al, .inl (cI, 3906, .inl (upd plc (59 + k_5) (-1))))] H := hP
      have hD : va_D A [(a_ws, .inl (cI, 31, .inl f_1)), (h0, .inr (12, [.int 0, .ref a_al, .ref a_hi, .ref a_mt, .ref a_fr, .int 0, .int 0, .int 0, .int 0, .int 0, .int 0, .int 0, .int 0, .int 0, .int (-1), .ref a_rk, .int 0, .ref a_on, .ref a_aw, .ref a_ro, .int 0, .ref a_ws, .ref a_ah, .int 0, .int 0, .int 0, .ref a_cl, .ref a_us, .ref a_mo, .ref a_to, .ref a_mb, .ref a_le, .int 0, .ref a_rs, .ref a_rm, .ref a_nu])), (a_al, .inl (cI, 3906, .inl (upd plc (59 + k_5) (-1))))] := hD
      refine lv_aload_n hx hb dX12_newYear_32 rfl (lv_at hl 2 rfl) ?_
      refine va_get (D := D) (ci := 12) (v := .ref a_al) (C := RX12) (T := TX12) (N := 36) hx hb hts uX12 hown hkb.1 hP 1 rfl rfl 1 (by decide) (hts _ kw_1224) (fun _ h9 => h9) rfl dX12_newYear_33 ?_
      refine lv_bipush (v := 73) hx hb dX12_newYear_36 (by decide) ?_
      refine lv_iload_n hx hb dX12_newYear_38 rfl (lv_at hl 0 rfl) ?_
      refine lv_iadd hx hb dX12_newYear_39 ?_
      refine lv_topc (y := nI (73 + k_5)) (by rw [hx_6]; exact nI_add 73 k_5) ?_
      refine lv_iconst (v := (-1)) hx hb dX12_newYear_40 (by decide) ?_
      refine s_i 2 1 hx hb hkb.1 hP hD hS rfl rfl (in_n (by omega) (by decide)) (73 + k_5) (nI_clamp (by omega)) dX12_newYear_41 (fun H locs hP hD hS => ?_)
      have hP : va_P D cls [(a_ws, .inl (cI, 31, .inl f_1)), (h0, .inr (12, [.int 0, .ref a_al, .ref a_hi, .ref a_mt, .ref a_fr, .int 0, .int 0, .int 0, .int 0, .int 0, .int 0, .int 0, .int 0, .int 0, .int (-1), .ref a_rk, .int 0, .ref a_on, .ref a_aw, .ref a_ro, .int 0, .ref a_ws, .ref a_ah, .int 0, .int 0, .int 0, .ref a_cl, .ref a_us, .ref a_mo, .ref a_to, .ref a_mb, .ref a_le, .int 0, .ref a_rs, .ref a_rm, .ref a_nu])), (a_al, .inl (cI, 3906, .inl (upd (upd plc (59 + k_5) (-1)) (73 + k_5) (-1))))] H := hP
      have hD : va_D A [(a_ws, .inl (cI, 31, .inl f_1)), (h0, .inr (12, [.int 0, .ref a_al, .ref a_hi, .ref a_mt, .ref a_fr, .int 0, .int 0, .int 0, .int 0, .int 0, .int 0, .int 0, .int 0, .int 0, .int (-1), .ref a_rk, .int 0, .ref a_on, .ref a_aw, .ref a_ro, .int 0, .ref a_ws, .ref a_ah, .int 0, .int 0, .int 0, .ref a_cl, .ref a_us, .ref a_mo, .ref a_to, .ref a_mb, .ref a_le, .int 0, .ref a_rs, .ref a_rm, .ref a_nu])), (a_al, .inl (cI, 3906, .inl (upd (upd plc (59 + k_5) (-1)) (73 + k_5) (-1))))] := hD
      obtain ⟨v_14, ev_14⟩ : ∃ y : Int32, y = x_6 + 1 := ⟨_, rfl⟩
      refine lv_iinc (v := v_14) (lv' := [(2, .int v_14), (1, .int 0), (0, .ref h0)]) hx hb dX12_newYear_42 hl (k := 0) rfl (by rw [ev_14]; rfl) (by decide) rfl (fun ls hl => ?_)
      refine lv_goto (tgt := 16) hx hb dX12_newYear_45 (by decide) ?_
      rw [plc_s k_5 (by omega)] at hP hD
      have hP : va_P D cls [(a_ws, .inl (cI, 31, .inl f_1)), (h0, .inr (12, [.int 0, .ref a_al, .ref a_hi, .ref a_mt, .ref a_fr, .int 0, .int 0, .int 0, .int 0, .int 0, .int 0, .int 0, .int 0, .int 0, .int (-1), .ref a_rk, .int 0, .ref a_on, .ref a_aw, .ref a_ro, .int 0, .ref a_ws, .ref a_ah, .int 0, .int 0, .int 0, .ref a_cl, .ref a_us, .ref a_mo, .ref a_to, .ref a_mb, .ref a_le, .int 0, .ref a_rs, .ref a_rm, .ref a_nu])), (a_al, .inl (cI, 3906, .inl plc))] H := hP
      have hD : va_D A [(a_ws, .inl (cI, 31, .inl f_1)), (h0, .inr (12, [.int 0, .ref a_al, .ref a_hi, .ref a_mt, .ref a_fr, .int 0, .int 0, .int 0, .int 0, .int 0, .int 0, .int 0, .int 0, .int 0, .int (-1), .ref a_rk, .int 0, .ref a_on, .ref a_aw, .ref a_ro, .int 0, .ref a_ws, .ref a_ah, .int 0, .int 0, .int 0, .ref a_cl, .ref a_us, .ref a_mo, .ref a_to, .ref a_mb, .ref a_le, .int 0, .ref a_rs, .ref a_rm, .ref a_nu])), (a_al, .inl (cI, 3906, .inl plc))] := hD
      exact ih (k_5 + 1) v_14  _ _ _ (by omega) (by rw [ev_14, hx_6]; exact nI_1 k_5)  (hP.sub (ws' := [(a_ws, .inl (cI, 31, .inl f_1)), (h0, .inr (12, [.int 0, .ref a_al, .ref a_hi, .ref a_mt, .ref a_fr, .int 0, .int 0, .int 0, .int 0, .int 0, .int 0, .int 0, .int 0, .int 0, .int (-1), .ref a_rk, .int 0, .ref a_on, .ref a_aw, .ref a_ro, .int 0, .ref a_ws, .ref a_ah, .int 0, .int 0, .int 0, .ref a_cl, .ref a_us, .ref a_mo, .ref a_to, .ref a_mb, .ref a_le, .int 0, .ref a_rs, .ref a_rm, .ref a_nu])), (a_al, .inl (cI, 3906, .inl plc))]) [0, 1, 2] rfl) (hD.sub (ws' := [(a_ws, .inl (cI, 31, .inl f_1)), (h0, .inr (12, [.int 0, .ref a_al, .ref a_hi, .ref a_mt, .ref a_fr, .int 0, .int 0, .int 0, .int 0, .int 0, .int 0, .int 0, .int 0, .int 0, .int (-1), .ref a_rk, .int 0, .ref a_on, .ref a_aw, .ref a_ro, .int 0, .ref a_ws, .ref a_ah, .int 0, .int 0, .int 0, .ref a_cl, .ref a_us, .ref a_mo, .ref a_to, .ref a_mb, .ref a_le, .int 0, .ref a_rs, .ref a_rm, .ref a_nu])), (a_al, .inl (cI, 3906, .inl plc))]) [0, 1, 2] (by decide) rfl) hS (lv_sub hl [0, 1, 2] rfl)
  exact lp_8 14 0 0  _ _ _ (by rfl) nI_0.symm  (hP) (hD) hS (lv_sub hl [0, 1, 2] rfl)
